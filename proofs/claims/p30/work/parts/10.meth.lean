/-! each class's field words, each method's record (name, code, locals, answer, frames, locals' room) and words. Printed by wip/p5/mkmeth.py. -/
theorem in_4 : ∀ w ∈ u_ws RX0 TX0 9, w ∈ TW := by
  intro w hw
  obtain ⟨k, hk, rfl⟩ := List.mem_map.mp hw
  have hk := List.mem_range.mp hk
  rcases (show k = 0 ∨ k = 1 ∨ k = 2 ∨ k = 3 ∨ k = 4 ∨ k = 5 ∨ k = 6 ∨ k = 7 ∨ k = 8 by omega) with rfl | rfl | rfl | rfl | rfl | rfl | rfl | rfl | rfl
  · exact w_257
  · exact w_259
  · exact w_261
  · exact w_263
  · exact w_265
  · exact w_267
  · exact w_269
  · exact w_271
  · exact w_273
theorem in_5 : ∀ w ∈ u_ws RX1 TX1 5, w ∈ TW := by
  intro w hw
  obtain ⟨k, hk, rfl⟩ := List.mem_map.mp hw
  have hk := List.mem_range.mp hk
  rcases (show k = 0 ∨ k = 1 ∨ k = 2 ∨ k = 3 ∨ k = 4 by omega) with rfl | rfl | rfl | rfl | rfl
  · exact w_472
  · exact w_474
  · exact w_476
  · exact w_478
  · exact w_480
theorem in_6 : ∀ w ∈ u_ws RX2 TX2 5, w ∈ TW := by
  intro w hw
  obtain ⟨k, hk, rfl⟩ := List.mem_map.mp hw
  have hk := List.mem_range.mp hk
  rcases (show k = 0 ∨ k = 1 ∨ k = 2 ∨ k = 3 ∨ k = 4 by omega) with rfl | rfl | rfl | rfl | rfl
  · exact w_371
  · exact w_373
  · exact w_375
  · exact w_377
  · exact w_379
theorem in_7 : ∀ w ∈ u_ws RX3 TX3 2, w ∈ TW := by
  intro w hw
  obtain ⟨k, hk, rfl⟩ := List.mem_map.mp hw
  have hk := List.mem_range.mp hk
  rcases (show k = 0 ∨ k = 1 by omega) with rfl | rfl
  · exact w_90
  · exact w_92
theorem in_8 : ∀ w ∈ u_ws RX4 TX4 1, w ∈ TW := by
  intro w hw
  obtain ⟨k, hk, rfl⟩ := List.mem_map.mp hw
  have hk := List.mem_range.mp hk
  rcases (show k = 0 by omega) with rfl
  · exact w_239
theorem in_9 : ∀ w ∈ u_ws RX5 TX5 12, w ∈ TW := by
  intro w hw
  obtain ⟨k, hk, rfl⟩ := List.mem_map.mp hw
  have hk := List.mem_range.mp hk
  rcases (show k = 0 ∨ k = 1 ∨ k = 2 ∨ k = 3 ∨ k = 4 ∨ k = 5 ∨ k = 6 ∨ k = 7 ∨ k = 8 ∨ k = 9 ∨ k = 10 ∨ k = 11 by omega) with rfl | rfl | rfl | rfl | rfl | rfl | rfl | rfl | rfl | rfl | rfl | rfl
  · exact w_107
  · exact w_109
  · exact w_111
  · exact w_113
  · exact w_115
  · exact w_117
  · exact w_119
  · exact w_121
  · exact w_123
  · exact w_125
  · exact w_127
  · exact w_129
abbrev mX0_init : tw_M := (yX0_init, cX0_init, 6, none, 2, 40)
theorem okX0_init : tw_okI mX0_init 4 := ⟨⟨⟨by decide +kernel, by decide +kernel, by decide +kernel⟩, w_230, w_59, by decide +kernel⟩, w_229, rfl⟩
abbrev mX0_isOpenFor : tw_M := (yX0_isOpenFor, cX0_isOpenFor, 2, (some .boolean), 0, 0)
theorem okX0_isOpenFor : tw_okV mX0_isOpenFor 1 := ⟨⟨⟨by decide +kernel, by decide +kernel, by decide +kernel⟩, w_315, w_59, by decide +kernel⟩, w_314, w_3⟩
abbrev mX0_setOpenFor : tw_M := (yX0_setOpenFor, cX0_setOpenFor, 3, none, 0, 0)
theorem okX0_setOpenFor : tw_okV mX0_setOpenFor 2 := ⟨⟨⟨by decide +kernel, by decide +kernel, by decide +kernel⟩, w_319, w_59, by decide +kernel⟩, w_318, w_4⟩
abbrev mX0_openSet : tw_M := (yX0_openSet, cX0_openSet, 1, (some .int), 0, 0)
theorem okX0_openSet : tw_okV mX0_openSet 0 := ⟨⟨⟨by decide +kernel, by decide +kernel, by decide +kernel⟩, w_636, w_59, by decide +kernel⟩, w_635, w_41⟩
abbrev mX0_minted : tw_M := (yX0_minted, cX0_minted, 4, (some .int), 1, 21)
theorem okX0_minted : tw_okV mX0_minted 2 := ⟨⟨⟨by decide +kernel, by decide +kernel, by decide +kernel⟩, w_395, w_59, by decide +kernel⟩, w_394, w_9⟩
abbrev mX0_silverFor : tw_M := (yX0_silverFor, cX0_silverFor, 2, (some .int), 0, 0)
theorem okX0_silverFor : tw_okV mX0_silverFor 1 := ⟨⟨⟨by decide +kernel, by decide +kernel, by decide +kernel⟩, w_399, w_59, by decide +kernel⟩, w_398, w_10⟩
abbrev mX0_goldOf : tw_M := (yX0_goldOf, cX0_goldOf, 2, (some .int), 0, 0)
theorem okX0_goldOf : tw_okV mX0_goldOf 1 := ⟨⟨⟨by decide +kernel, by decide +kernel, by decide +kernel⟩, w_404, w_59, by decide +kernel⟩, w_403, w_11⟩
abbrev mX0_goldFor : tw_M := (yX0_goldFor, cX0_goldFor, 2, (some .int), 0, 0)
theorem okX0_goldFor : tw_okV mX0_goldFor 1 := ⟨⟨⟨by decide +kernel, by decide +kernel, by decide +kernel⟩, w_500, w_59, by decide +kernel⟩, w_499, w_20⟩
abbrev mX0_daysTo : tw_M := (yX0_daysTo, cX0_daysTo, 2, (some .int), 0, 0)
theorem okX0_daysTo : tw_okV mX0_daysTo 1 := ⟨⟨⟨by decide +kernel, by decide +kernel, by decide +kernel⟩, w_331, w_59, by decide +kernel⟩, w_330, w_5⟩
abbrev mX0_freightTo : tw_M := (yX0_freightTo, cX0_freightTo, 2, (some .int), 0, 0)
theorem okX0_freightTo : tw_okV mX0_freightTo 1 := ⟨⟨⟨by decide +kernel, by decide +kernel, by decide +kernel⟩, w_422, w_59, by decide +kernel⟩, w_421, w_12⟩
abbrev mX0_setRoadTo : tw_M := (yX0_setRoadTo, cX0_setRoadTo, 4, none, 0, 0)
theorem okX0_setRoadTo : tw_okV mX0_setRoadTo 3 := ⟨⟨⟨by decide +kernel, by decide +kernel, by decide +kernel⟩, w_335, w_59, by decide +kernel⟩, w_334, w_6⟩
abbrev mX1_init : tw_M := (yX1_init, cX1_init, 5, none, 1, 20)
theorem okX1_init : tw_okI mX1_init 4 := ⟨⟨⟨by decide +kernel, by decide +kernel, by decide +kernel⟩, w_460, w_63, by decide +kernel⟩, w_459, rfl⟩
abbrev mX1_dueOn : tw_M := (yX1_dueOn, cX1_dueOn, 3, (some .int), 0, 0)
theorem okX1_dueOn : tw_okV mX1_dueOn 1 := ⟨⟨⟨by decide +kernel, by decide +kernel, by decide +kernel⟩, w_496, w_63, by decide +kernel⟩, w_495, w_19⟩
abbrev mX2_init : tw_M := (yX2_init, cX2_init, 4, none, 1, 20)
theorem okX2_init : tw_okI mX2_init 3 := ⟨⟨⟨by decide +kernel, by decide +kernel, by decide +kernel⟩, w_359, w_62, by decide +kernel⟩, w_358, rfl⟩
abbrev mX2_leaveFor : tw_M := (yX2_leaveFor, cX2_leaveFor, 3, none, 0, 0)
theorem okX2_leaveFor : tw_okV mX2_leaveFor 2 := ⟨⟨⟨by decide +kernel, by decide +kernel, by decide +kernel⟩, w_431, w_62, by decide +kernel⟩, w_430, w_14⟩
abbrev mX2_arriveBy : tw_M := (yX2_arriveBy, cX2_arriveBy, 2, none, 0, 0)
theorem okX2_arriveBy : tw_okV mX2_arriveBy 1 := ⟨⟨⟨by decide +kernel, by decide +kernel, by decide +kernel⟩, w_444, w_62, by decide +kernel⟩, w_443, w_16⟩
abbrev mX2_isLateOn : tw_M := (yX2_isLateOn, cX2_isLateOn, 2, (some .boolean), 0, 0)
theorem okX2_isLateOn : tw_okV mX2_isLateOn 1 := ⟨⟨⟨by decide +kernel, by decide +kernel, by decide +kernel⟩, w_607, w_62, by decide +kernel⟩, w_606, w_36⟩
abbrev mX3_init : tw_M := (yX3_init, cX3_init, 3, none, 1, 20)
theorem okX3_init : tw_okI mX3_init 2 := ⟨⟨⟨by decide +kernel, by decide +kernel, by decide +kernel⟩, w_84, w_53, by decide +kernel⟩, w_83, rfl⟩
abbrev mX3_of : tw_M := (yX3_of, cX3_of, 2, (some .int), 0, 0)
theorem okX3_of : tw_okV mX3_of 1 := ⟨⟨⟨by decide +kernel, by decide +kernel, by decide +kernel⟩, w_343, w_53, by decide +kernel⟩, w_342, w_7⟩
abbrev mX3_add : tw_M := (yX3_add, cX3_add, 3, none, 0, 0)
theorem okX3_add : tw_okV mX3_add 2 := ⟨⟨⟨by decide +kernel, by decide +kernel, by decide +kernel⟩, w_279, w_53, by decide +kernel⟩, w_278, w_1⟩
abbrev mX3_worth : tw_M := (yX3_worth, cX3_worth, 2, (some .int), 1, 22)
theorem okX3_worth : tw_okV mX3_worth 1 := ⟨⟨⟨by decide +kernel, by decide +kernel, by decide +kernel⟩, w_644, w_53, by decide +kernel⟩, w_643, w_43⟩
abbrev mX3_isBelowZero : tw_M := (yX3_isBelowZero, cX3_isBelowZero, 1, (some .boolean), 0, 0)
theorem okX3_isBelowZero : tw_okV mX3_isBelowZero 0 := ⟨⟨⟨by decide +kernel, by decide +kernel, by decide +kernel⟩, w_595, w_53, by decide +kernel⟩, w_594, w_33⟩
abbrev mX4_init : tw_M := (yX4_init, cX4_init, 1, none, 1, 20)
theorem okX4_init : tw_okI mX4_init 0 := ⟨⟨⟨by decide +kernel, by decide +kernel, by decide +kernel⟩, w_236, w_60, by decide +kernel⟩, w_235, rfl⟩
abbrev mX4_manyOf : tw_M := (yX4_manyOf, cX4_manyOf, 2, (some .int), 0, 0)
theorem okX4_manyOf : tw_okV mX4_manyOf 1 := ⟨⟨⟨by decide +kernel, by decide +kernel, by decide +kernel⟩, w_513, w_60, by decide +kernel⟩, w_512, w_22⟩
abbrev mX4_pounds : tw_M := (yX4_pounds, cX4_pounds, 1, (some .int), 1, 21)
theorem okX4_pounds : tw_okV mX4_pounds 0 := ⟨⟨⟨by decide +kernel, by decide +kernel, by decide +kernel⟩, w_649, w_60, by decide +kernel⟩, w_648, w_44⟩
abbrev mX4_fewestFor : tw_M := (yX4_fewestFor, cX4_fewestFor, 12, (some .int), 1, 21)
theorem okX4_fewestFor : tw_okV mX4_fewestFor 1 := ⟨⟨⟨by decide +kernel, by decide +kernel, by decide +kernel⟩, w_509, w_60, by decide +kernel⟩, w_508, w_21⟩
abbrev mX4_isBelowZero : tw_M := (yX4_isBelowZero, cX4_isBelowZero, 5, (some .boolean), 0, 0)
theorem okX4_isBelowZero : tw_okV mX4_isBelowZero 0 := ⟨⟨⟨by decide +kernel, by decide +kernel, by decide +kernel⟩, w_599, w_60, by decide +kernel⟩, w_598, w_34⟩
abbrev mX5_init : tw_M := (yX5_init, cX5_init, 1, none, 2, 42)
theorem okX5_init : tw_okI mX5_init 0 := ⟨⟨⟨by decide +kernel, by decide +kernel, by decide +kernel⟩, w_70, w_52, by decide +kernel⟩, w_69, rfl⟩
abbrev mX5_country : tw_M := (yX5_country, cX5_country, 6, (some .int), 8, 133)
theorem okX5_country : tw_okV mX5_country 4 := ⟨⟨⟨by decide +kernel, by decide +kernel, by decide +kernel⟩, w_135, w_52, by decide +kernel⟩, w_133, w_134⟩
abbrev mX5_law : tw_M := (yX5_law, cX5_law, 6, (some .int), 8, 133)
theorem okX5_law : tw_okV mX5_law 3 := ⟨⟨⟨by decide +kernel, by decide +kernel, by decide +kernel⟩, w_283, w_52, by decide +kernel⟩, w_281, w_282⟩
abbrev mX5_gate : tw_M := (yX5_gate, cX5_gate, 6, (some .boolean), 7, 111)
theorem okX5_gate : tw_okV mX5_gate 3 := ⟨⟨⟨by decide +kernel, by decide +kernel, by decide +kernel⟩, w_307, w_52, by decide +kernel⟩, w_305, w_306⟩
abbrev mX5_road : tw_M := (yX5_road, cX5_road, 8, (some .int), 7, 112)
theorem okX5_road : tw_okV mX5_road 4 := ⟨⟨⟨by decide +kernel, by decide +kernel, by decide +kernel⟩, w_323, w_52, by decide +kernel⟩, w_321, w_322⟩
abbrev mX5_mine : tw_M := (yX5_mine, cX5_mine, 5, (some .int), 7, 112)
theorem okX5_mine : tw_okV mX5_mine 3 := ⟨⟨⟨by decide +kernel, by decide +kernel, by decide +kernel⟩, w_339, w_52, by decide +kernel⟩, w_337, w_338⟩
abbrev mX5_use : tw_M := (yX5_use, cX5_use, 5, (some .int), 7, 112)
theorem okX5_use : tw_okV mX5_use 3 := ⟨⟨⟨by decide +kernel, by decide +kernel, by decide +kernel⟩, w_349, w_52, by decide +kernel⟩, w_347, w_348⟩
abbrev mX5_house : tw_M := (yX5_house, cX5_house, 6, (some .int), 7, 112)
theorem okX5_house : tw_okV mX5_house 3 := ⟨⟨⟨by decide +kernel, by decide +kernel, by decide +kernel⟩, w_354, w_52, by decide +kernel⟩, w_352, w_353⟩
abbrev mX5_change : tw_M := (yX5_change, cX5_change, 8, (some .int), 7, 112)
theorem okX5_change : tw_okV mX5_change 3 := ⟨⟨⟨by decide +kernel, by decide +kernel, by decide +kernel⟩, w_385, w_52, by decide +kernel⟩, w_383, w_384⟩
abbrev mX5_send : tw_M := (yX5_send, cX5_send, 6, (some .int), 7, 111)
theorem okX5_send : tw_okV mX5_send 2 := ⟨⟨⟨by decide +kernel, by decide +kernel, by decide +kernel⟩, w_417, w_52, by decide +kernel⟩, w_415, w_416⟩
abbrev mX5_payFreight : tw_M := (yX5_payFreight, cX5_payFreight, 5, none, 1, 22)
theorem okX5_payFreight : tw_okV mX5_payFreight 3 := ⟨⟨⟨by decide +kernel, by decide +kernel, by decide +kernel⟩, w_426, w_52, by decide +kernel⟩, w_425, w_13⟩
abbrev mX5_pass : tw_M := (yX5_pass, cX5_pass, 3, (some .int), 7, 112)
theorem okX5_pass : tw_okV mX5_pass 1 := ⟨⟨⟨by decide +kernel, by decide +kernel, by decide +kernel⟩, w_435, w_52, by decide +kernel⟩, w_433, w_434⟩
abbrev mX5_beginDay : tw_M := (yX5_beginDay, cX5_beginDay, 5, none, 2, 47)
theorem okX5_beginDay : tw_okV mX5_beginDay 0 := ⟨⟨⟨by decide +kernel, by decide +kernel, by decide +kernel⟩, w_440, w_52, by decide +kernel⟩, w_439, w_15⟩
abbrev mX5_wearVaults : tw_M := (yX5_wearVaults, cX5_wearVaults, 6, none, 1, 22)
theorem okX5_wearVaults : tw_okV mX5_wearVaults 0 := ⟨⟨⟨by decide +kernel, by decide +kernel, by decide +kernel⟩, w_451, w_52, by decide +kernel⟩, w_450, w_17⟩
abbrev mX5_owe : tw_M := (yX5_owe, cX5_owe, 8, (some .int), 7, 112)
theorem okX5_owe : tw_okV mX5_owe 4 := ⟨⟨⟨by decide +kernel, by decide +kernel, by decide +kernel⟩, w_455, w_52, by decide +kernel⟩, w_453, w_454⟩
abbrev mX5_settle : tw_M := (yX5_settle, cX5_settle, 7, (some .int), 7, 111)
theorem okX5_settle : tw_okV mX5_settle 2 := ⟨⟨⟨by decide +kernel, by decide +kernel, by decide +kernel⟩, w_486, w_52, by decide +kernel⟩, w_484, w_485⟩
abbrev mX5_coins : tw_M := (yX5_coins, cX5_coins, 4, (some .int), 7, 112)
theorem okX5_coins : tw_okV mX5_coins 2 := ⟨⟨⟨by decide +kernel, by decide +kernel, by decide +kernel⟩, w_505, w_52, by decide +kernel⟩, w_503, w_504⟩
abbrev mX5_countryFact : tw_M := (yX5_countryFact, cX5_countryFact, 3, (some .int), 2, 43)
theorem okX5_countryFact : tw_okV mX5_countryFact 2 := ⟨⟨⟨by decide +kernel, by decide +kernel, by decide +kernel⟩, w_632, w_52, by decide +kernel⟩, w_631, w_40⟩
abbrev mX5_housesIn : tw_M := (yX5_housesIn, cX5_housesIn, 7, (some .int), 0, 0)
theorem okX5_housesIn : tw_okV mX5_housesIn 1 := ⟨⟨⟨by decide +kernel, by decide +kernel, by decide +kernel⟩, w_640, w_52, by decide +kernel⟩, w_639, w_42⟩
abbrev mX5_countriesWithRate : tw_M := (yX5_countriesWithRate, cX5_countriesWithRate, 7, (some .int), 0, 0)
theorem okX5_countriesWithRate : tw_okV mX5_countriesWithRate 1 := ⟨⟨⟨by decide +kernel, by decide +kernel, by decide +kernel⟩, w_653, w_52, by decide +kernel⟩, w_652, w_45⟩
abbrev mX5_houseFact : tw_M := (yX5_houseFact, cX5_houseFact, 3, (some .int), 2, 43)
theorem okX5_houseFact : tw_okV mX5_houseFact 2 := ⟨⟨⟨by decide +kernel, by decide +kernel, by decide +kernel⟩, w_661, w_52, by decide +kernel⟩, w_660, w_47⟩
abbrev mX5_numberOf : tw_M := (yX5_numberOf, cX5_numberOf, 1, (some .int), 0, 0)
theorem okX5_numberOf : tw_okS mX5_numberOf 1 := ⟨⟨⟨by decide +kernel, by decide +kernel, by decide +kernel⟩, w_664, w_52, by decide +kernel⟩, w_663⟩
abbrev mX5_unpaidDebtsOf : tw_M := (yX5_unpaidDebtsOf, cX5_unpaidDebtsOf, 7, (some .int), 0, 0)
theorem okX5_unpaidDebtsOf : tw_okV mX5_unpaidDebtsOf 1 := ⟨⟨⟨by decide +kernel, by decide +kernel, by decide +kernel⟩, w_668, w_52, by decide +kernel⟩, w_667, w_48⟩
abbrev mX5_unpaidDebtsTo : tw_M := (yX5_unpaidDebtsTo, cX5_unpaidDebtsTo, 7, (some .int), 0, 0)
theorem okX5_unpaidDebtsTo : tw_okV mX5_unpaidDebtsTo 1 := ⟨⟨⟨by decide +kernel, by decide +kernel, by decide +kernel⟩, w_672, w_52, by decide +kernel⟩, w_671, w_49⟩
abbrev mX5_ofDebt : tw_M := (yX5_ofDebt, cX5_ofDebt, 4, (some .int), 7, 112)
theorem okX5_ofDebt : tw_okV mX5_ofDebt 2 := ⟨⟨⟨by decide +kernel, by decide +kernel, by decide +kernel⟩, w_520, w_52, by decide +kernel⟩, w_518, w_519⟩
abbrev mX5_debtFact : tw_M := (yX5_debtFact, cX5_debtFact, 3, (some .int), 2, 45)
theorem okX5_debtFact : tw_okV mX5_debtFact 2 := ⟨⟨⟨by decide +kernel, by decide +kernel, by decide +kernel⟩, w_524, w_52, by decide +kernel⟩, w_523, w_23⟩
abbrev mX5_cheaperMetal : tw_M := (yX5_cheaperMetal, cX5_cheaperMetal, 4, (some .int), 1, 22)
theorem okX5_cheaperMetal : tw_okV mX5_cheaperMetal 1 := ⟨⟨⟨by decide +kernel, by decide +kernel, by decide +kernel⟩, w_528, w_52, by decide +kernel⟩, w_527, w_24⟩
abbrev mX5_world : tw_M := (yX5_world, cX5_world, 3, (some .int), 7, 112)
theorem okX5_world : tw_okV mX5_world 2 := ⟨⟨⟨by decide +kernel, by decide +kernel, by decide +kernel⟩, w_536, w_52, by decide +kernel⟩, w_534, w_535⟩
abbrev mX5_worldFact : tw_M := (yX5_worldFact, cX5_worldFact, 3, (some .int), 2, 47)
theorem okX5_worldFact : tw_okV mX5_worldFact 2 := ⟨⟨⟨by decide +kernel, by decide +kernel, by decide +kernel⟩, w_540, w_52, by decide +kernel⟩, w_539, w_25⟩
abbrev mX5_inVaults : tw_M := (yX5_inVaults, cX5_inVaults, 7, (some .int), 1, 21)
theorem okX5_inVaults : tw_okV mX5_inVaults 1 := ⟨⟨⟨by decide +kernel, by decide +kernel, by decide +kernel⟩, w_544, w_52, by decide +kernel⟩, w_543, w_26⟩
abbrev mX5_inPurses : tw_M := (yX5_inPurses, cX5_inPurses, 7, (some .int), 1, 21)
theorem okX5_inPurses : tw_okV mX5_inPurses 1 := ⟨⟨⟨by decide +kernel, by decide +kernel, by decide +kernel⟩, w_548, w_52, by decide +kernel⟩, w_547, w_27⟩
abbrev mX5_trip : tw_M := (yX5_trip, cX5_trip, 7, (some .int), 7, 112)
theorem okX5_trip : tw_okV mX5_trip 4 := ⟨⟨⟨by decide +kernel, by decide +kernel, by decide +kernel⟩, w_552, w_52, by decide +kernel⟩, w_550, w_551⟩
abbrev mX5_comesOfTrip : tw_M := (yX5_comesOfTrip, cX5_comesOfTrip, 8, (some .int), 2, 44)
theorem okX5_comesOfTrip : tw_okS mX5_comesOfTrip 4 := ⟨⟨⟨by decide +kernel, by decide +kernel, by decide +kernel⟩, w_555, w_52, by decide +kernel⟩, w_554⟩
abbrev mX5_bestTrip : tw_M := (yX5_bestTrip, cX5_bestTrip, 5, (some .int), 7, 112)
theorem okX5_bestTrip : tw_okV mX5_bestTrip 3 := ⟨⟨⟨by decide +kernel, by decide +kernel, by decide +kernel⟩, w_559, w_52, by decide +kernel⟩, w_557, w_558⟩
abbrev mX5_bestOver : tw_M := (yX5_bestOver, cX5_bestOver, 11, (some .int), 3, 71)
theorem okX5_bestOver : tw_okV mX5_bestOver 3 := ⟨⟨⟨by decide +kernel, by decide +kernel, by decide +kernel⟩, w_563, w_52, by decide +kernel⟩, w_562, w_28⟩
abbrev mX5_rest : tw_M := (yX5_rest, cX5_rest, 2, (some .boolean), 7, 126)
theorem okX5_rest : tw_okV mX5_rest 1 := ⟨⟨⟨by decide +kernel, by decide +kernel, by decide +kernel⟩, w_567, w_52, by decide +kernel⟩, w_565, w_566⟩
abbrev mX5_isRest : tw_M := (yX5_isRest, cX5_isRest, 6, (some .boolean), 4, 101)
theorem okX5_isRest : tw_okV mX5_isRest 1 := ⟨⟨⟨by decide +kernel, by decide +kernel, by decide +kernel⟩, w_571, w_52, by decide +kernel⟩, w_570, w_29⟩
abbrev mX5_last : tw_M := (yX5_last, cX5_last, 5, (some .int), 7, 112)
theorem okX5_last : tw_okV mX5_last 3 := ⟨⟨⟨by decide +kernel, by decide +kernel, by decide +kernel⟩, w_575, w_52, by decide +kernel⟩, w_573, w_574⟩
abbrev mX5_firstDayShort : tw_M := (yX5_firstDayShort, cX5_firstDayShort, 6, (some .int), 1, 21)
theorem okX5_firstDayShort : tw_okV mX5_firstDayShort 3 := ⟨⟨⟨by decide +kernel, by decide +kernel, by decide +kernel⟩, w_579, w_52, by decide +kernel⟩, w_578, w_30⟩
abbrev mX5_isSound : tw_M := (yX5_isSound, cX5_isSound, 1, (some .boolean), 3, 70)
theorem okX5_isSound : tw_okV mX5_isSound 0 := ⟨⟨⟨by decide +kernel, by decide +kernel, by decide +kernel⟩, w_583, w_52, by decide +kernel⟩, w_581, w_582⟩
abbrev mX5_isKept : tw_M := (yX5_isKept, cX5_isKept, 3, (some .boolean), 2, 47)
theorem okX5_isKept : tw_okV mX5_isKept 1 := ⟨⟨⟨by decide +kernel, by decide +kernel, by decide +kernel⟩, w_587, w_52, by decide +kernel⟩, w_586, w_31⟩
abbrev mX5_areCountriesSound : tw_M := (yX5_areCountriesSound, cX5_areCountriesSound, 5, (some .boolean), 1, 24)
theorem okX5_areCountriesSound : tw_okV mX5_areCountriesSound 0 := ⟨⟨⟨by decide +kernel, by decide +kernel, by decide +kernel⟩, w_591, w_52, by decide +kernel⟩, w_590, w_32⟩
abbrev mX5_areHousesSound : tw_M := (yX5_areHousesSound, cX5_areHousesSound, 5, (some .boolean), 1, 21)
theorem okX5_areHousesSound : tw_okV mX5_areHousesSound 0 := ⟨⟨⟨by decide +kernel, by decide +kernel, by decide +kernel⟩, w_603, w_52, by decide +kernel⟩, w_602, w_35⟩
abbrev mX5_areRoadsTheSame : tw_M := (yX5_areRoadsTheSame, cX5_areRoadsTheSame, 9, (some .boolean), 2, 42)
theorem okX5_areRoadsTheSame : tw_okV mX5_areRoadsTheSame 0 := ⟨⟨⟨by decide +kernel, by decide +kernel, by decide +kernel⟩, w_611, w_52, by decide +kernel⟩, w_610, w_37⟩
abbrev mX5_hasSameRoads : tw_M := (yX5_hasSameRoads, cX5_hasSameRoads, 2, (some .boolean), 1, 21)
theorem okX5_hasSameRoads : tw_okS mX5_hasSameRoads 2 := ⟨⟨⟨by decide +kernel, by decide +kernel, by decide +kernel⟩, w_614, w_52, by decide +kernel⟩, w_613⟩
abbrev mX5_digest : tw_M := (yX5_digest, cX5_digest, 7, (some .long), 5, 127)
theorem okX5_digest : tw_okV mX5_digest 0 := ⟨⟨⟨by decide +kernel, by decide +kernel, by decide +kernel⟩, w_618, w_52, by decide +kernel⟩, w_616, w_617⟩
abbrev mX5_digestWorld : tw_M := (yX5_digestWorld, cX5_digestWorld, 7, (some .long), 3, 69)
theorem okX5_digestWorld : tw_okV mX5_digestWorld 2 := ⟨⟨⟨by decide +kernel, by decide +kernel, by decide +kernel⟩, w_624, w_52, by decide +kernel⟩, w_623, w_38⟩
abbrev mX5_digestCountry : tw_M := (yX5_digestCountry, cX5_digestCountry, 7, (some .long), 4, 101)
theorem okX5_digestCountry : tw_okV mX5_digestCountry 2 := ⟨⟨⟨by decide +kernel, by decide +kernel, by decide +kernel⟩, w_628, w_52, by decide +kernel⟩, w_627, w_39⟩
abbrev mX5_digestHouse : tw_M := (yX5_digestHouse, cX5_digestHouse, 7, (some .long), 3, 65)
theorem okX5_digestHouse : tw_okV mX5_digestHouse 2 := ⟨⟨⟨by decide +kernel, by decide +kernel, by decide +kernel⟩, w_657, w_52, by decide +kernel⟩, w_656, w_46⟩
abbrev mX5_digestDebt : tw_M := (yX5_digestDebt, cX5_digestDebt, 7, (some .long), 3, 67)
theorem okX5_digestDebt : tw_okV mX5_digestDebt 2 := ⟨⟨⟨by decide +kernel, by decide +kernel, by decide +kernel⟩, w_676, w_52, by decide +kernel⟩, w_675, w_50⟩
abbrev mX5_countryAt : tw_M := (yX5_countryAt, cX5_countryAt, 2, (some (.object "Twocoin$Country")), 6, 90)
theorem okX5_countryAt : tw_okV mX5_countryAt 1 := ⟨⟨⟨by decide +kernel, by decide +kernel, by decide +kernel⟩, w_287, w_52, by decide +kernel⟩, w_286, w_2⟩
abbrev mX5_houseAt : tw_M := (yX5_houseAt, cX5_houseAt, 2, (some (.object "Twocoin$House")), 6, 90)
theorem okX5_houseAt : tw_okV mX5_houseAt 1 := ⟨⟨⟨by decide +kernel, by decide +kernel, by decide +kernel⟩, w_389, w_52, by decide +kernel⟩, w_388, w_8⟩
abbrev mX5_debtAt : tw_M := (yX5_debtAt, cX5_debtAt, 2, (some (.object "Twocoin$Debt")), 6, 90)
theorem okX5_debtAt : tw_okV mX5_debtAt 1 := ⟨⟨⟨by decide +kernel, by decide +kernel, by decide +kernel⟩, w_490, w_52, by decide +kernel⟩, w_489, w_18⟩
abbrev mX5_needRange : tw_M := (yX5_needRange, cX5_needRange, 3, none, 6, 90)
theorem okX5_needRange : tw_okS mX5_needRange 3 := ⟨⟨⟨by decide +kernel, by decide +kernel, by decide +kernel⟩, w_141, w_52, by decide +kernel⟩, w_140⟩
abbrev mX5_needMetal : tw_M := (yX5_needMetal, cX5_needMetal, 1, none, 6, 90)
theorem okX5_needMetal : tw_okS mX5_needMetal 1 := ⟨⟨⟨by decide +kernel, by decide +kernel, by decide +kernel⟩, w_310, w_52, by decide +kernel⟩, w_309⟩
abbrev mX5_needLaw : tw_M := (yX5_needLaw, cX5_needLaw, 2, none, 7, 112)
theorem okX5_needLaw : tw_okS mX5_needLaw 2 := ⟨⟨⟨by decide +kernel, by decide +kernel, by decide +kernel⟩, w_138, w_52, by decide +kernel⟩, w_137⟩
abbrev mX5_needDifferent : tw_M := (yX5_needDifferent, cX5_needDifferent, 2, none, 6, 90)
theorem okX5_needDifferent : tw_okS mX5_needDifferent 2 := ⟨⟨⟨by decide +kernel, by decide +kernel, by decide +kernel⟩, w_326, w_52, by decide +kernel⟩, w_325⟩
abbrev mX5_otherMetal : tw_M := (yX5_otherMetal, cX5_otherMetal, 1, (some .int), 0, 0)
theorem okX5_otherMetal : tw_okS mX5_otherMetal 1 := ⟨⟨⟨by decide +kernel, by decide +kernel, by decide +kernel⟩, w_412, w_52, by decide +kernel⟩, w_411⟩
abbrev mX5_isWearDay : tw_M := (yX5_isWearDay, cX5_isWearDay, 1, (some .boolean), 0, 0)
theorem okX5_isWearDay : tw_okS mX5_isWearDay 1 := ⟨⟨⟨by decide +kernel, by decide +kernel, by decide +kernel⟩, w_447, w_52, by decide +kernel⟩, w_446⟩
abbrev mX5_worthOf : tw_M := (yX5_worthOf, cX5_worthOf, 3, (some .int), 0, 0)
theorem okX5_worthOf : tw_okS mX5_worthOf 3 := ⟨⟨⟨by decide +kernel, by decide +kernel, by decide +kernel⟩, w_531, w_52, by decide +kernel⟩, w_530⟩
abbrev mX5_thousandthsRoundedUp : tw_M := (yX5_thousandthsRoundedUp, cX5_thousandthsRoundedUp, 2, (some .int), 0, 0)
theorem okX5_thousandthsRoundedUp : tw_okS mX5_thousandthsRoundedUp 2 := ⟨⟨⟨by decide +kernel, by decide +kernel, by decide +kernel⟩, w_407, w_52, by decide +kernel⟩, w_406⟩
abbrev mJ9_min_7cf53 : tw_M := (yJ9_min_7cf53, cJ9_min_7cf53, 2, (some .int), 0, 0)
abbrev mL_below : tw_M := (yL_below, cL_below, 2, (some .int), 0, 0)
theorem okL_below : tw_okS mL_below 2 := ⟨⟨⟨by decide +kernel, by decide +kernel, by decide +kernel⟩, w_680, w_51, by decide +kernel⟩, w_679⟩
abbrev mL_cell : tw_M := (yL_cell, cL_cell, 2, (some .int), 0, 0)
theorem okL_cell : tw_okS mL_cell 2 := ⟨⟨⟨by decide +kernel, by decide +kernel, by decide +kernel⟩, w_684, w_51, by decide +kernel⟩, w_683⟩
theorem at_ISE : ∀ w ∈ vx_atS RX5 64 "java/lang/IllegalStateException" ["java/lang/RuntimeException", "java/lang/Exception"], (goodWord w = true → w ∈ TW) ∧ (goodWord w = false → w ∈ tw_NG) := by decide +kernel
theorem at_IOE : ∀ w ∈ vx_atS RX5 229 "java/lang/IndexOutOfBoundsException" ["java/lang/RuntimeException", "java/lang/Exception"], (goodWord w = true → w ∈ TW) ∧ (goodWord w = false → w ∈ tw_NG) := by decide +kernel
theorem at_IAE : ∀ w ∈ vx_atS RX5 401 "java/lang/IllegalArgumentException" ["java/lang/RuntimeException", "java/lang/Exception"], (goodWord w = true → w ∈ TW) ∧ (goodWord w = false → w ∈ tw_NG) := by decide +kernel
section
variable {d : tw_D} {M : tw_M} {Q : tw_O → tw_H → Prop} {pc : Nat} {lv : List (Nat × Value)} {st : List Value} {h : tw_H} {c n : Nat}
/-- a computed number gets a name -/
theorem tw_nmi {x : Int32} (k : ∀ y : Int32, y = x → tw_W d M Q pc lv (.int y :: st) h c n) : tw_W d M Q pc lv (.int x :: st) h c n := k x rfl
theorem tw_nml {x : Int64} (k : ∀ y : Int64, y = x → tw_W d M Q pc lv (.long y :: st) h c n) : tw_W d M Q pc lv (.long x :: st) h c n := k x rfl
end
theorem tw_ne {h : tw_H} {a b : Nat} {e f : va_E} (ha : h a = some e) (hb : h b = some f) (hn : e ≠ f) : a ≠ b := fun q => hn (by subst q; exact Option.some.inj (ha.symm.trans hb))
theorem tw_neF {h : tw_H} {a b : Nat} {e : va_E} (ha : h a = some e) (hb : h b = none) : a ≠ b := fun q => by subst q; rw [ha] at hb; cases hb
