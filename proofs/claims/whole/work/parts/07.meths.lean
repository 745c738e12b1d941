def zEx : List String := ["java/lang/RuntimeException", "java/lang/Exception"]
theorem zlt {x : zX} {g : zG} {nL : Nat} {cc : ByteArray} {own : String} (S : zS x g nL cc own) {p : Nat} (h : p < 21) : p < zn g := Nat.lt_of_lt_of_le h S.ok.2.2
/-- a contract's end that throws nothing; one that is known -/
def zNX : String → zM → Prop := fun _ _ => False
def zRv (u : Option Value) (ν0 : zM) : Option Value → zM → Prop := fun v ν => v = u ∧ ν = ν0
def zXv (E : String) (ν0 : zM) : String → zM → Prop := fun F ν => F = E ∧ ν = ν0
theorem at0_IAE : ∀ w ∈ (vx_atS RX3 54 "java/lang/IllegalArgumentException" zEx).filter goodWord, w ∈ lw_tbl := by decide +kernel
theorem at_IAE : ∀ w ∈ (vx_atS RX3 54 "java/lang/IllegalArgumentException" zEx).filter goodWord, w ∈ zU := fun w hw => List.mem_filter.mpr ⟨at0_IAE w hw, (List.mem_filter.mp hw).2⟩
theorem ng_IAE : ∀ w ∈ (vx_atS RX3 54 "java/lang/IllegalArgumentException" zEx).filter (fun w => !goodWord w), w ∈ zNest := by decide +kernel
theorem go_IAE : ∀ w ∈ Cond.classLink RX3 50 "java/lang/IllegalArgumentException" :: Cond.initialized "java/lang/IllegalArgumentException" :: vx_atS RX3 54 "java/lang/IllegalArgumentException" zEx, vx_ot w = true := by decide +kernel
theorem at0_ISE : ∀ w ∈ (vx_atS RX3 71 "java/lang/IllegalStateException" zEx).filter goodWord, w ∈ lw_tbl := by decide +kernel
theorem at_ISE : ∀ w ∈ (vx_atS RX3 71 "java/lang/IllegalStateException" zEx).filter goodWord, w ∈ zU := fun w hw => List.mem_filter.mpr ⟨at0_ISE w hw, (List.mem_filter.mp hw).2⟩
theorem ng_ISE : ∀ w ∈ (vx_atS RX3 71 "java/lang/IllegalStateException" zEx).filter (fun w => !goodWord w), w ∈ zNest := by decide +kernel
theorem go_ISE : ∀ w ∈ Cond.classLink RX3 67 "java/lang/IllegalStateException" :: Cond.initialized "java/lang/IllegalStateException" :: vx_atS RX3 71 "java/lang/IllegalStateException" zEx, vx_ot w = true := by decide +kernel
theorem at0_IOB : ∀ w ∈ (vx_atS RX3 169 "java/lang/IndexOutOfBoundsException" zEx).filter goodWord, w ∈ lw_tbl := by decide +kernel
theorem at_IOB : ∀ w ∈ (vx_atS RX3 169 "java/lang/IndexOutOfBoundsException" zEx).filter goodWord, w ∈ zU := fun w hw => List.mem_filter.mpr ⟨at0_IOB w hw, (List.mem_filter.mp hw).2⟩
theorem ng_IOB : ∀ w ∈ (vx_atS RX3 169 "java/lang/IndexOutOfBoundsException" zEx).filter (fun w => !goodWord w), w ∈ zNest := by decide +kernel
theorem go_IOB : ∀ w ∈ Cond.classLink RX3 165 "java/lang/IndexOutOfBoundsException" :: Cond.initialized "java/lang/IndexOutOfBoundsException" :: vx_atS RX3 169 "java/lang/IndexOutOfBoundsException" zEx, vx_ot w = true := by decide +kernel
theorem mv_X0_restart : zMV yX0_restart RX0 cX0_restart 2 none 1 := ⟨m_143, m_144, m_2, m_145, by decide +kernel⟩
theorem mv_X0_hasLimits : zMV yX0_hasLimits RX0 cX0_hasLimits 1 (some .boolean) 0 := ⟨m_522, m_523, m_2, m_524, by decide +kernel⟩
theorem mv_X0_settle : zMV yX0_settle RX0 cX0_settle 4 none 1 := ⟨m_405, m_406, m_2, m_407, by decide +kernel⟩
theorem mv_X0_sideOfCenter : zMV yX0_sideOfCenter RX0 cX0_sideOfCenter 2 (some .int) 1 := ⟨m_224, m_225, m_2, m_226, by decide +kernel⟩
theorem mv_X0_sideBeyond : zMV yX0_sideBeyond RX0 cX0_sideBeyond 3 (some .int) 2 := ⟨m_244, m_245, m_2, m_246, by decide +kernel⟩
theorem mv_X1_restart : zMV yX1_restart RX1 cX1_restart 1 none 0 := ⟨m_208, m_209, m_3, m_210, by decide +kernel⟩
theorem mv_X1_take : zMV yX1_take RX1 cX1_take 3 none 2 := ⟨m_220, m_221, m_3, m_222, by decide +kernel⟩
theorem mv_X1_takeCenterSide : zMV yX1_takeCenterSide RX1 cX1_takeCenterSide 2 none 1 := ⟨m_232, mp_3, m_3, m_233, by decide +kernel⟩
theorem mv_X1_takeDirection : zMV yX1_takeDirection RX1 cX1_takeDirection 2 none 1 := ⟨m_237, mp_4, m_3, m_238, by decide +kernel⟩
theorem mv_X1_takeSidesBeyond : zMV yX1_takeSidesBeyond RX1 cX1_takeSidesBeyond 3 none 2 := ⟨m_241, mp_5, m_3, m_242, by decide +kernel⟩
theorem mv_X1_pushed : zMS yX1_pushed cX1_pushed 3 (some .int) 3 := ⟨m_248, m_3, m_249, by decide +kernel⟩
theorem mv_X1_brokenRules : zMV yX1_brokenRules RX1 cX1_brokenRules 1 (some .int) 0 := ⟨m_251, m_252, m_3, m_253, by decide +kernel⟩
theorem mv_X1_bitOf : zMS yX1_bitOf cX1_bitOf 2 (some .int) 2 := ⟨m_255, m_3, m_256, by decide +kernel⟩
theorem mv_X1_isOften : zMS yX1_isOften cX1_isOften 4 (some .boolean) 4 := ⟨m_263, m_3, m_264, by decide +kernel⟩
theorem mv_X2_restart : zMV yX2_restart RX2 cX2_restart 1 none 0 := ⟨m_559, m_560, m_4, m_561, by decide +kernel⟩
theorem mv_X2_isFull : zMV yX2_isFull RX2 cX2_isFull 1 (some .boolean) 0 := ⟨m_563, m_564, m_4, m_565, by decide +kernel⟩
theorem mv_X2_add : zMV yX2_add RX2 cX2_add 3 none 2 := ⟨m_567, m_568, m_4, m_569, by decide +kernel⟩
theorem mv_X2_subgroupAt : zMV yX2_subgroupAt RX2 cX2_subgroupAt 2 (some .int) 1 := ⟨m_609, m_610, m_4, m_611, by decide +kernel⟩
theorem mv_X2_breaks : zMV yX2_breaks RX2 cX2_breaks 4 (some .boolean) 2 := ⟨m_572, m_573, m_4, m_574, by decide +kernel⟩
theorem mv_X2_isOnOneSide : zMV yX2_isOnOneSide RX2 cX2_isOnOneSide 5 (some .boolean) 2 := ⟨m_579, mp_15, m_4, m_580, by decide +kernel⟩
theorem mv_X2_isSteady : zMV yX2_isSteady RX2 cX2_isSteady 4 (some .boolean) 1 := ⟨m_584, mp_16, m_4, m_585, by decide +kernel⟩
theorem mv_X2_isTurning : zMV yX2_isTurning RX2 cX2_isTurning 4 (some .boolean) 1 := ⟨m_589, mp_17, m_4, m_590, by decide +kernel⟩
theorem mv_X2_isOften : zMV yX2_isOften RX2 cX2_isOften 8 (some .boolean) 4 := ⟨m_593, mp_18, m_4, m_594, by decide +kernel⟩
theorem mv_X2_beyondSome : zMV yX2_beyondSome RX2 cX2_beyondSome 5 (some .int) 2 := ⟨m_597, mp_19, m_4, m_598, by decide +kernel⟩
theorem mv_X3_begin : zMV yX3_begin RX3 cX3_begin 2 none 1 := ⟨m_276, m_277, m_1, m_278, by decide +kernel⟩
theorem mv_X3_put : zMV yX3_put RX3 cX3_put 2 (some .boolean) 1 := ⟨m_352, m_353, m_1, m_354, by decide +kernel⟩
theorem mv_X3_newPhase : zMV yX3_newPhase RX3 cX3_newPhase 1 (some .int) 0 := ⟨m_421, m_422, m_1, m_423, by decide +kernel⟩
theorem mv_X3_freeze : zMV yX3_freeze RX3 cX3_freeze 3 none 1 := ⟨m_436, m_437, m_1, m_438, by decide +kernel⟩
theorem mv_X3_thaw : zMV yX3_thaw RX3 cX3_thaw 3 none 1 := ⟨m_465, m_466, m_1, m_467, by decide +kernel⟩
theorem mv_X3_exclude : zMV yX3_exclude RX3 cX3_exclude 4 (some .int) 2 := ⟨m_473, m_474, m_1, m_475, by decide +kernel⟩
theorem mv_X3_subgroups : zMV yX3_subgroups RX3 cX3_subgroups 1 (some .int) 0 := ⟨m_196, m_197, m_1, m_198, by decide +kernel⟩
theorem mv_X3_phases : zMV yX3_phases RX3 cX3_phases 1 (some .int) 0 := ⟨m_200, m_201, m_1, m_202, by decide +kernel⟩
theorem mv_X3_mean : zMV yX3_mean RX3 cX3_mean 2 (some .int) 1 := ⟨m_486, m_487, m_1, m_488, by decide +kernel⟩
theorem mv_X3_range : zMV yX3_range RX3 cX3_range 2 (some .int) 1 := ⟨m_493, m_494, m_1, m_495, by decide +kernel⟩
theorem mv_X3_phaseOf : zMV yX3_phaseOf RX3 cX3_phaseOf 2 (some .int) 1 := ⟨m_500, m_501, m_1, m_502, by decide +kernel⟩
theorem mv_X3_points : zMV yX3_points RX3 cX3_points 2 (some .int) 1 := ⟨m_507, m_508, m_1, m_509, by decide +kernel⟩
theorem mv_X3_center : zMV yX3_center RX3 cX3_center 2 (some .int) 1 := ⟨m_514, m_515, m_1, m_516, by decide +kernel⟩
theorem mv_X3_width : zMV yX3_width RX3 cX3_width 2 (some .int) 1 := ⟨m_530, m_531, m_1, m_532, by decide +kernel⟩
theorem mv_X3_rangeLimit : zMV yX3_rangeLimit RX3 cX3_rangeLimit 2 (some .int) 1 := ⟨m_537, m_538, m_1, m_539, by decide +kernel⟩
theorem mv_X3_signals : zMV yX3_signals RX3 cX3_signals 4 (some .int) 1 := ⟨m_544, m_545, m_1, m_546, by decide +kernel⟩
theorem mv_X3_signalsByWindows : zMV yX3_signalsByWindows RX3 cX3_signalsByWindows 5 (some .int) 1 := ⟨m_551, m_552, m_1, m_553, by decide +kernel⟩
theorem mv_X3_firstOf : zMV yX3_firstOf RX3 cX3_firstOf 4 (some .int) 2 := ⟨m_603, m_604, m_1, m_605, by decide +kernel⟩
theorem mv_X3_isWide : zMV yX3_isWide RX3 cX3_isWide 2 (some .boolean) 1 := ⟨m_616, m_617, m_1, m_618, by decide +kernel⟩
theorem mv_X3_alarms : zMV yX3_alarms RX3 cX3_alarms 4 (some .int) 0 := ⟨m_204, m_205, m_1, m_206, by decide +kernel⟩
theorem mv_X3_setWeight : zMV yX3_setWeight RX3 cX3_setWeight 3 (some .int) 1 := ⟨m_623, m_624, m_1, m_625, by decide +kernel⟩
theorem mv_X3_weighted : zMV yX3_weighted RX3 cX3_weighted 5 (some .int) 1 := ⟨m_631, m_632, m_1, m_633, by decide +kernel⟩
theorem mv_X3_cumulative : zMV yX3_cumulative RX3 cX3_cumulative 8 (some .int) 2 := ⟨m_646, m_647, m_1, m_648, by decide +kernel⟩
theorem mv_X3_capability : zMV yX3_capability RX3 cX3_capability 12 (some .long) 4 := ⟨m_653, m_654, m_1, m_655, by decide +kernel⟩
theorem mv_X3_restart : zMV yX3_restart RX3 cX3_restart 2 none 1 := ⟨m_140, mp_0, m_1, m_141, by decide +kernel⟩
theorem mv_X3_takeMeasurement : zMV yX3_takeMeasurement RX3 cX3_takeMeasurement 3 none 1 := ⟨m_377, mp_7, m_1, m_378, by decide +kernel⟩
theorem mv_X3_finishSubgroup : zMV yX3_finishSubgroup RX3 cX3_finishSubgroup 2 none 0 := ⟨m_387, mp_8, m_1, m_388, by decide +kernel⟩
theorem mv_X3_countPoint : zMV yX3_countPoint RX3 cX3_countPoint 4 none 2 := ⟨m_402, mp_9, m_1, m_403, by decide +kernel⟩
theorem mv_X3_lookBack : zMV yX3_lookBack RX3 cX3_lookBack 4 none 2 := ⟨m_556, mp_14, m_1, m_557, by decide +kernel⟩
theorem mv_X3_checkSubgroup : zMV yX3_checkSubgroup RX3 cX3_checkSubgroup 2 none 1 := ⟨m_478, mp_12, m_1, m_479, by decide +kernel⟩
theorem mv_X3_checkPoint : zMV yX3_checkPoint RX3 cX3_checkPoint 2 none 1 := ⟨m_636, mp_20, m_1, m_637, by decide +kernel⟩
theorem mv_X3_isPoint : zMV yX3_isPoint RX3 cX3_isPoint 2 (some .boolean) 1 := ⟨m_213, mp_1, m_1, m_214, by decide +kernel⟩
theorem mv_X3_findPhase : zMV yX3_findPhase RX3 cX3_findPhase 2 (some (.object "ChartroomSpc$Phase")) 1 := ⟨m_441, mp_11, m_1, m_442, by decide +kernel⟩
theorem mv_X3_findLimits : zMV yX3_findLimits RX3 cX3_findLimits 3 (some (.object "ChartroomSpc$Phase")) 1 := ⟨m_519, mp_13, m_1, m_520, by decide +kernel⟩
theorem mv_X3_phaseHolding : zMV yX3_phaseHolding RX3 cX3_phaseHolding 3 (some (.object "ChartroomSpc$Phase")) 1 := ⟨m_217, mp_2, m_1, m_218, by decide +kernel⟩
theorem mv_X3_lastPhase : zMV yX3_lastPhase RX3 cX3_lastPhase 1 (some (.object "ChartroomSpc$Phase")) 0 := ⟨m_428, mp_10, m_1, m_429, by decide +kernel⟩
theorem mv_X3_isMeasurement : zMS yX3_isMeasurement cX3_isMeasurement 1 (some .boolean) 1 := ⟨m_356, m_1, m_357, by decide +kernel⟩
theorem mv_X3_bySize : zMS yX3_bySize cX3_bySize 3 (some .int) 2 := ⟨m_413, m_1, m_414, by decide +kernel⟩
theorem mv_X3_pointsOfRule : zMS yX3_pointsOfRule cX3_pointsOfRule 1 (some .int) 1 := ⟨m_258, m_1, m_259, by decide +kernel⟩
theorem mv_X3_floored : zMS yX3_floored cX3_floored 4 (some .long) 2 := ⟨m_395, m_1, m_396, by decide +kernel⟩
theorem mv_X3_rounded : zMS yX3_rounded cX3_rounded 4 (some .long) 2 := ⟨m_391, m_1, m_392, by decide +kernel⟩
theorem mv_X3_direction : zMS yX3_direction cX3_direction 2 (some .int) 2 := ⟨m_228, m_1, m_229, by decide +kernel⟩
theorem mv_X4_thrown : zMV yX4_thrown RX4 cX4_thrown 1 (some .int) 0 := ⟨m_747, m_748, m_5, m_749, by decide +kernel⟩
theorem mv_X4_isIn : zMS yX4_isIn cX4_isIn 3 (some .boolean) 3 := ⟨m_755, m_5, m_756, by decide +kernel⟩
theorem mv_X4_floored : zMS yX4_floored cX4_floored 6 (some .long) 2 := ⟨m_791, m_5, m_792, by decide +kernel⟩
theorem mv_X4_rounded : zMS yX4_rounded cX4_rounded 4 (some .int) 2 := ⟨m_787, m_5, m_788, by decide +kernel⟩
theorem mv_X4_factor : zMS yX4_factor cX4_factor 6 (some .int) 6 := ⟨m_794, m_5, m_795, by decide +kernel⟩
theorem mv_X4_begin : zMV yX4_begin RX4 cX4_begin 3 none 1 := ⟨m_751, m_752, m_5, m_753, by decide +kernel⟩
theorem mv_X4_put : zMV yX4_put RX4 cX4_put 2 (some .boolean) 1 := ⟨m_758, m_759, m_5, m_760, by decide +kernel⟩
theorem mv_X4_newPhase : zMV yX4_newPhase RX4 cX4_newPhase 1 (some .int) 0 := ⟨m_762, m_763, m_5, m_764, by decide +kernel⟩
theorem mv_X4_phase : zMV yX4_phase RX4 cX4_phase 4 (some .int) 1 := ⟨m_783, mp_24, m_5, m_784, by decide +kernel⟩
theorem mv_X4_laysPoints : zMV yX4_laysPoints RX4 cX4_laysPoints 4 none 2 := ⟨m_779, mp_23, m_5, m_780, by decide +kernel⟩
theorem mv_X4_laysLimits : zMV yX4_laysLimits RX4 cX4_laysLimits 7 none 1 := ⟨m_775, mp_22, m_5, m_776, by decide +kernel⟩
theorem mv_X4_isPhase : zMV yX4_isPhase RX4 cX4_isPhase 2 (some .boolean) 1 := ⟨m_771, mp_21, m_5, m_772, by decide +kernel⟩
theorem mv_X4_freeze : zMV yX4_freeze RX4 cX4_freeze 2 none 1 := ⟨m_766, m_767, m_5, m_768, by decide +kernel⟩
theorem mv_X4_thaw : zMV yX4_thaw RX4 cX4_thaw 2 none 1 := ⟨m_797, m_798, m_5, m_799, by decide +kernel⟩
theorem mv_X4_isDone : zMV yX4_isDone RX4 cX4_isDone 2 (some .boolean) 1 := ⟨m_806, mp_25, m_5, m_807, by decide +kernel⟩
theorem mv_X4_exclude : zMV yX4_exclude RX4 cX4_exclude 4 (some .int) 2 := ⟨m_801, m_802, m_5, m_803, by decide +kernel⟩
theorem mv_X4_subgroups : zMV yX4_subgroups RX4 cX4_subgroups 1 (some .int) 0 := ⟨m_809, m_810, m_5, m_811, by decide +kernel⟩
theorem mv_X4_phases : zMV yX4_phases RX4 cX4_phases 1 (some .int) 0 := ⟨m_813, m_814, m_5, m_815, by decide +kernel⟩
theorem mv_X4_mean : zMV yX4_mean RX4 cX4_mean 2 (some .int) 1 := ⟨m_817, m_818, m_5, m_819, by decide +kernel⟩
theorem mv_X4_range : zMV yX4_range RX4 cX4_range 2 (some .int) 1 := ⟨m_821, m_822, m_5, m_823, by decide +kernel⟩
theorem mv_X4_phaseOf : zMV yX4_phaseOf RX4 cX4_phaseOf 2 (some .int) 1 := ⟨m_825, m_826, m_5, m_827, by decide +kernel⟩
theorem mv_X4_points : zMV yX4_points RX4 cX4_points 2 (some .int) 1 := ⟨m_829, m_830, m_5, m_831, by decide +kernel⟩
theorem mv_X4_isLimited : zMV yX4_isLimited RX4 cX4_isLimited 2 (some .boolean) 1 := ⟨m_838, mp_26, m_5, m_839, by decide +kernel⟩
theorem mv_X4_center : zMV yX4_center RX4 cX4_center 2 (some .int) 1 := ⟨m_833, m_834, m_5, m_835, by decide +kernel⟩
theorem mv_X4_width : zMV yX4_width RX4 cX4_width 2 (some .int) 1 := ⟨m_841, m_842, m_5, m_843, by decide +kernel⟩
theorem mv_X4_rangeLimit : zMV yX4_rangeLimit RX4 cX4_rangeLimit 2 (some .int) 1 := ⟨m_845, m_846, m_5, m_847, by decide +kernel⟩
theorem mv_X4_back : zMV yX4_back RX4 cX4_back 2 (some .int) 1 := ⟨m_870, mp_30, m_5, m_871, by decide +kernel⟩
theorem mv_X4_isBeyond : zMV yX4_isBeyond RX4 cX4_isBeyond 4 (some .boolean) 3 := ⟨m_865, mp_29, m_5, m_866, by decide +kernel⟩
theorem mv_X4_beyond : zMV yX4_beyond RX4 cX4_beyond 6 (some .int) 3 := ⟨m_886, mp_34, m_5, m_887, by decide +kernel⟩
theorem mv_X4_steps : zMV yX4_steps RX4 cX4_steps 5 (some .int) 2 := ⟨m_878, mp_32, m_5, m_879, by decide +kernel⟩
theorem mv_X4_isTurning : zMV yX4_isTurning RX4 cX4_isTurning 3 (some .boolean) 0 := ⟨m_882, mp_33, m_5, m_883, by decide +kernel⟩
theorem mv_X4_aboveOf : zMV yX4_aboveOf RX4 cX4_aboveOf 5 (some .int) 2 := ⟨m_874, mp_31, m_5, m_875, by decide +kernel⟩
theorem mv_X4_named : zMS yX4_named cX4_named 1 (some .int) 1 := ⟨m_861, m_5, m_862, by decide +kernel⟩
theorem mv_X4_breaks : zMV yX4_breaks RX4 cX4_breaks 3 (some .boolean) 2 := ⟨m_858, mp_28, m_5, m_859, by decide +kernel⟩
theorem mv_X4_broken : zMV yX4_broken RX4 cX4_broken 4 (some .int) 1 := ⟨m_854, mp_27, m_5, m_855, by decide +kernel⟩
theorem mv_X4_signals : zMV yX4_signals RX4 cX4_signals 2 (some .int) 1 := ⟨m_849, m_850, m_5, m_851, by decide +kernel⟩
theorem mv_X4_signalsByWindows : zMV yX4_signalsByWindows RX4 cX4_signalsByWindows 2 (some .int) 1 := ⟨m_889, m_890, m_5, m_891, by decide +kernel⟩
theorem mv_X4_firstOf : zMV yX4_firstOf RX4 cX4_firstOf 3 (some .int) 2 := ⟨m_893, m_894, m_5, m_895, by decide +kernel⟩
theorem mv_X4_isWide : zMV yX4_isWide RX4 cX4_isWide 2 (some .boolean) 1 := ⟨m_897, m_898, m_5, m_899, by decide +kernel⟩
theorem mv_X4_alarms : zMV yX4_alarms RX4 cX4_alarms 3 (some .int) 0 := ⟨m_901, m_902, m_5, m_903, by decide +kernel⟩
theorem mv_X4_setWeight : zMV yX4_setWeight RX4 cX4_setWeight 3 (some .int) 1 := ⟨m_905, m_906, m_5, m_907, by decide +kernel⟩
theorem mv_X4_isPoint : zMV yX4_isPoint RX4 cX4_isPoint 2 (some .boolean) 1 := ⟨m_914, mp_35, m_5, m_915, by decide +kernel⟩
theorem mv_X4_weighted : zMV yX4_weighted RX4 cX4_weighted 5 (some .int) 1 := ⟨m_909, m_910, m_5, m_911, by decide +kernel⟩
theorem mv_X4_cumulative : zMV yX4_cumulative RX4 cX4_cumulative 7 (some .int) 2 := ⟨m_918, m_919, m_5, m_920, by decide +kernel⟩
theorem mv_X4_capability : zMV yX4_capability RX4 cX4_capability 13 (some .long) 4 := ⟨m_922, m_923, m_5, m_924, by decide +kernel⟩
theorem mv_J6_bitCount_0f7a4 : zMS yJ6_bitCount_0f7a4 cJ6_bitCount_0f7a4 1 (some .int) 1 := ⟨m_266, m_13, m_267, by decide +kernel⟩
theorem mv_J9_floorDiv_7cf53 : zMS yJ9_floorDiv_7cf53 cJ9_floorDiv_7cf53 3 (some .int) 2 := ⟨m_640, m_11, m_641, by decide +kernel⟩
theorem mv_J9_floorDiv_f86c9 : zMS yJ9_floorDiv_f86c9 cJ9_floorDiv_f86c9 6 (some .long) 2 := ⟨m_398, m_11, m_399, by decide +kernel⟩
theorem mv_J9_max_7cf53 : zMS yJ9_max_7cf53 cJ9_max_7cf53 2 (some .int) 2 := ⟨m_383, m_11, m_384, by decide +kernel⟩
theorem mv_J9_min_7cf53 : zMS yJ9_min_7cf53 cJ9_min_7cf53 2 (some .int) 2 := ⟨m_380, m_11, m_381, by decide +kernel⟩
theorem mv_J9_min_f86c9 : zMS yJ9_min_f86c9 cJ9_min_f86c9 4 (some .long) 2 := ⟨m_663, m_11, m_664, by decide +kernel⟩
