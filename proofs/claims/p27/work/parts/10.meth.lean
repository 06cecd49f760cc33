/-! each class's field words, each method's record (name, code, locals, answer, frames, locals' room) and words. Printed by wip/p5/mkmeth.py. -/
theorem in_0 : ∀ w ∈ u_ws RJ0 TJ0 4, w ∈ TW := by
  intro w hw
  obtain ⟨k, hk, rfl⟩ := List.mem_map.mp hw
  have hk := List.mem_range.mp hk
  rcases (show k = 0 ∨ k = 1 ∨ k = 2 ∨ k = 3 by omega) with rfl | rfl | rfl | rfl
  · exact w_1076
  · exact w_1078
  · exact w_1080
  · exact w_1082
theorem in_1 : ∀ w ∈ u_ws RJ4 TJ4 4, w ∈ TW := by
  intro w hw
  obtain ⟨k, hk, rfl⟩ := List.mem_map.mp hw
  have hk := List.mem_range.mp hk
  rcases (show k = 0 ∨ k = 1 ∨ k = 2 ∨ k = 3 by omega) with rfl | rfl | rfl | rfl
  · exact w_844
  · exact w_846
  · exact w_848
  · exact w_850
theorem in_2 : ∀ w ∈ u_ws RJx35411 TJx35411 4, w ∈ TW := by
  intro w hw
  obtain ⟨k, hk, rfl⟩ := List.mem_map.mp hw
  have hk := List.mem_range.mp hk
  rcases (show k = 0 ∨ k = 1 ∨ k = 2 ∨ k = 3 by omega) with rfl | rfl | rfl | rfl
  · exact w_1396
  · exact w_1398
  · exact w_1400
  · exact w_1402
theorem in_3 : ∀ w ∈ u_ws RJx4a65c TJx4a65c 3, w ∈ TW := by
  intro w hw
  obtain ⟨k, hk, rfl⟩ := List.mem_map.mp hw
  have hk := List.mem_range.mp hk
  rcases (show k = 0 ∨ k = 1 ∨ k = 2 by omega) with rfl | rfl | rfl
  · exact w_1147
  · exact w_1143
  · exact w_1145
theorem in_4 : ∀ w ∈ u_ws RX0 TX0 9, w ∈ TW := by
  intro w hw
  obtain ⟨k, hk, rfl⟩ := List.mem_map.mp hw
  have hk := List.mem_range.mp hk
  rcases (show k = 0 ∨ k = 1 ∨ k = 2 ∨ k = 3 ∨ k = 4 ∨ k = 5 ∨ k = 6 ∨ k = 7 ∨ k = 8 by omega) with rfl | rfl | rfl | rfl | rfl | rfl | rfl | rfl | rfl
  · exact w_515
  · exact w_517
  · exact w_519
  · exact w_521
  · exact w_523
  · exact w_525
  · exact w_527
  · exact w_529
  · exact w_531
theorem in_5 : ∀ w ∈ u_ws RX1 TX1 5, w ∈ TW := by
  intro w hw
  obtain ⟨k, hk, rfl⟩ := List.mem_map.mp hw
  have hk := List.mem_range.mp hk
  rcases (show k = 0 ∨ k = 1 ∨ k = 2 ∨ k = 3 ∨ k = 4 by omega) with rfl | rfl | rfl | rfl | rfl
  · exact w_729
  · exact w_731
  · exact w_733
  · exact w_735
  · exact w_737
theorem in_6 : ∀ w ∈ u_ws RX2 TX2 5, w ∈ TW := by
  intro w hw
  obtain ⟨k, hk, rfl⟩ := List.mem_map.mp hw
  have hk := List.mem_range.mp hk
  rcases (show k = 0 ∨ k = 1 ∨ k = 2 ∨ k = 3 ∨ k = 4 by omega) with rfl | rfl | rfl | rfl | rfl
  · exact w_646
  · exact w_648
  · exact w_650
  · exact w_652
  · exact w_654
theorem in_7 : ∀ w ∈ u_ws RX3 TX3 2, w ∈ TW := by
  intro w hw
  obtain ⟨k, hk, rfl⟩ := List.mem_map.mp hw
  have hk := List.mem_range.mp hk
  rcases (show k = 0 ∨ k = 1 by omega) with rfl | rfl
  · exact w_135
  · exact w_137
theorem in_8 : ∀ w ∈ u_ws RX4 TX4 1, w ∈ TW := by
  intro w hw
  obtain ⟨k, hk, rfl⟩ := List.mem_map.mp hw
  have hk := List.mem_range.mp hk
  rcases (show k = 0 by omega) with rfl
  · exact w_497
theorem in_9 : ∀ w ∈ u_ws RX5 TX5 12, w ∈ TW := by
  intro w hw
  obtain ⟨k, hk, rfl⟩ := List.mem_map.mp hw
  have hk := List.mem_range.mp hk
  rcases (show k = 0 ∨ k = 1 ∨ k = 2 ∨ k = 3 ∨ k = 4 ∨ k = 5 ∨ k = 6 ∨ k = 7 ∨ k = 8 ∨ k = 9 ∨ k = 10 ∨ k = 11 by omega) with rfl | rfl | rfl | rfl | rfl | rfl | rfl | rfl | rfl | rfl | rfl | rfl
  · exact w_152
  · exact w_154
  · exact w_156
  · exact w_158
  · exact w_160
  · exact w_162
  · exact w_164
  · exact w_166
  · exact w_168
  · exact w_170
  · exact w_172
  · exact w_174
theorem in_10 : ∀ w ∈ u_ws RX6 TX6 2, w ∈ TW := by
  intro w hw
  obtain ⟨k, hk, rfl⟩ := List.mem_map.mp hw
  have hk := List.mem_range.mp hk
  rcases (show k = 0 ∨ k = 1 by omega) with rfl | rfl
  · exact w_382
  · exact w_384
theorem in_11 : ∀ w ∈ u_ws RX7 TX7 5, w ∈ TW := by
  intro w hw
  obtain ⟨k, hk, rfl⟩ := List.mem_map.mp hw
  have hk := List.mem_range.mp hk
  rcases (show k = 0 ∨ k = 1 ∨ k = 2 ∨ k = 3 ∨ k = 4 by omega) with rfl | rfl | rfl | rfl | rfl
  · exact w_1222
  · exact w_1224
  · exact w_1226
  · exact w_1228
  · exact w_1230
theorem in_12 : ∀ w ∈ u_ws RX8 TX8 5, w ∈ TW := by
  intro w hw
  obtain ⟨k, hk, rfl⟩ := List.mem_map.mp hw
  have hk := List.mem_range.mp hk
  rcases (show k = 0 ∨ k = 1 ∨ k = 2 ∨ k = 3 ∨ k = 4 by omega) with rfl | rfl | rfl | rfl | rfl
  · exact w_1444
  · exact w_1446
  · exact w_1448
  · exact w_1450
  · exact w_1452
theorem in_13 : ∀ w ∈ u_ws RX9 TX9 4, w ∈ TW := by
  intro w hw
  obtain ⟨k, hk, rfl⟩ := List.mem_map.mp hw
  have hk := List.mem_range.mp hk
  rcases (show k = 0 ∨ k = 1 ∨ k = 2 ∨ k = 3 by omega) with rfl | rfl | rfl | rfl
  · exact w_1345
  · exact w_1347
  · exact w_1349
  · exact w_1351
theorem in_14 : ∀ w ∈ u_ws RX10 TX10 12, w ∈ TW := by
  intro w hw
  obtain ⟨k, hk, rfl⟩ := List.mem_map.mp hw
  have hk := List.mem_range.mp hk
  rcases (show k = 0 ∨ k = 1 ∨ k = 2 ∨ k = 3 ∨ k = 4 ∨ k = 5 ∨ k = 6 ∨ k = 7 ∨ k = 8 ∨ k = 9 ∨ k = 10 ∨ k = 11 by omega) with rfl | rfl | rfl | rfl | rfl | rfl | rfl | rfl | rfl | rfl | rfl | rfl
  · exact w_1163
  · exact w_1165
  · exact w_1167
  · exact w_1169
  · exact w_1171
  · exact w_1173
  · exact w_1175
  · exact w_1177
  · exact w_1179
  · exact w_1181
  · exact w_1183
  · exact w_1185
abbrev mX0_init : tw_M := (yX0_init, cX0_init, 6, none, 2, 40)
theorem okX0_init : tw_okI mX0_init 4 := ⟨⟨⟨by decide +kernel, by decide +kernel, by decide +kernel⟩, w_489, w_89, by decide +kernel⟩, w_488, rfl⟩
abbrev mX0_isOpenFor : tw_M := (yX0_isOpenFor, cX0_isOpenFor, 2, (some .boolean), 0, 0)
theorem okX0_isOpenFor : tw_okV mX0_isOpenFor 1 := ⟨⟨⟨by decide +kernel, by decide +kernel, by decide +kernel⟩, w_580, w_89, by decide +kernel⟩, w_579, w_41⟩
abbrev mX0_setOpenFor : tw_M := (yX0_setOpenFor, cX0_setOpenFor, 3, none, 0, 0)
theorem okX0_setOpenFor : tw_okV mX0_setOpenFor 2 := ⟨⟨⟨by decide +kernel, by decide +kernel, by decide +kernel⟩, w_584, w_89, by decide +kernel⟩, w_583, w_42⟩
abbrev mX0_openSet : tw_M := (yX0_openSet, cX0_openSet, 1, (some .int), 0, 0)
theorem okX0_openSet : tw_okV mX0_openSet 0 := ⟨⟨⟨by decide +kernel, by decide +kernel, by decide +kernel⟩, w_260, w_89, by decide +kernel⟩, w_259, w_16⟩
abbrev mX0_minted : tw_M := (yX0_minted, cX0_minted, 4, (some .int), 1, 21)
theorem okX0_minted : tw_okV mX0_minted 2 := ⟨⟨⟨by decide +kernel, by decide +kernel, by decide +kernel⟩, w_302, w_89, by decide +kernel⟩, w_301, w_24⟩
abbrev mX0_silverFor : tw_M := (yX0_silverFor, cX0_silverFor, 2, (some .int), 0, 0)
theorem okX0_silverFor : tw_okV mX0_silverFor 1 := ⟨⟨⟨by decide +kernel, by decide +kernel, by decide +kernel⟩, w_306, w_89, by decide +kernel⟩, w_305, w_25⟩
abbrev mX0_goldOf : tw_M := (yX0_goldOf, cX0_goldOf, 2, (some .int), 0, 0)
theorem okX0_goldOf : tw_okV mX0_goldOf 1 := ⟨⟨⟨by decide +kernel, by decide +kernel, by decide +kernel⟩, w_311, w_89, by decide +kernel⟩, w_310, w_26⟩
abbrev mX0_goldFor : tw_M := (yX0_goldFor, cX0_goldFor, 2, (some .int), 0, 0)
theorem okX0_goldFor : tw_okV mX0_goldFor 1 := ⟨⟨⟨by decide +kernel, by decide +kernel, by decide +kernel⟩, w_367, w_89, by decide +kernel⟩, w_366, w_36⟩
abbrev mX0_daysTo : tw_M := (yX0_daysTo, cX0_daysTo, 2, (some .int), 0, 0)
theorem okX0_daysTo : tw_okV mX0_daysTo 1 := ⟨⟨⟨by decide +kernel, by decide +kernel, by decide +kernel⟩, w_230, w_89, by decide +kernel⟩, w_228, w_10⟩
abbrev mX0_freightTo : tw_M := (yX0_freightTo, cX0_freightTo, 2, (some .int), 0, 0)
theorem okX0_freightTo : tw_okV mX0_freightTo 1 := ⟨⟨⟨by decide +kernel, by decide +kernel, by decide +kernel⟩, w_234, w_89, by decide +kernel⟩, w_233, w_11⟩
abbrev mX0_setRoadTo : tw_M := (yX0_setRoadTo, cX0_setRoadTo, 4, none, 0, 0)
theorem okX0_setRoadTo : tw_okV mX0_setRoadTo 3 := ⟨⟨⟨by decide +kernel, by decide +kernel, by decide +kernel⟩, w_606, w_89, by decide +kernel⟩, w_605, w_43⟩
abbrev mX1_init : tw_M := (yX1_init, cX1_init, 5, none, 1, 20)
theorem okX1_init : tw_okI mX1_init 4 := ⟨⟨⟨by decide +kernel, by decide +kernel, by decide +kernel⟩, w_717, w_102, by decide +kernel⟩, w_716, rfl⟩
abbrev mX1_dueOn : tw_M := (yX1_dueOn, cX1_dueOn, 3, (some .int), 0, 0)
theorem okX1_dueOn : tw_okV mX1_dueOn 1 := ⟨⟨⟨by decide +kernel, by decide +kernel, by decide +kernel⟩, w_359, w_102, by decide +kernel⟩, w_357, w_34⟩
abbrev mX2_init : tw_M := (yX2_init, cX2_init, 4, none, 1, 20)
theorem okX2_init : tw_okI mX2_init 3 := ⟨⟨⟨by decide +kernel, by decide +kernel, by decide +kernel⟩, w_634, w_99, by decide +kernel⟩, w_633, rfl⟩
abbrev mX2_leaveFor : tw_M := (yX2_leaveFor, cX2_leaveFor, 3, none, 0, 0)
theorem okX2_leaveFor : tw_okV mX2_leaveFor 2 := ⟨⟨⟨by decide +kernel, by decide +kernel, by decide +kernel⟩, w_686, w_99, by decide +kernel⟩, w_685, w_46⟩
abbrev mX2_arriveBy : tw_M := (yX2_arriveBy, cX2_arriveBy, 2, none, 0, 0)
theorem okX2_arriveBy : tw_okV mX2_arriveBy 1 := ⟨⟨⟨by decide +kernel, by decide +kernel, by decide +kernel⟩, w_702, w_99, by decide +kernel⟩, w_701, w_48⟩
abbrev mX2_isLateOn : tw_M := (yX2_isLateOn, cX2_isLateOn, 2, (some .boolean), 0, 0)
theorem okX2_isLateOn : tw_okV mX2_isLateOn 1 := ⟨⟨⟨by decide +kernel, by decide +kernel, by decide +kernel⟩, w_218, w_99, by decide +kernel⟩, w_216, w_8⟩
abbrev mX3_init : tw_M := (yX3_init, cX3_init, 3, none, 1, 20)
theorem okX3_init : tw_okI mX3_init 2 := ⟨⟨⟨by decide +kernel, by decide +kernel, by decide +kernel⟩, w_129, w_78, by decide +kernel⟩, w_128, rfl⟩
abbrev mX3_of : tw_M := (yX3_of, cX3_of, 2, (some .int), 0, 0)
theorem okX3_of : tw_okV mX3_of 1 := ⟨⟨⟨by decide +kernel, by decide +kernel, by decide +kernel⟩, w_192, w_78, by decide +kernel⟩, w_191, w_2⟩
abbrev mX3_add : tw_M := (yX3_add, cX3_add, 3, none, 0, 0)
theorem okX3_add : tw_okV mX3_add 2 := ⟨⟨⟨by decide +kernel, by decide +kernel, by decide +kernel⟩, w_537, w_78, by decide +kernel⟩, w_536, w_39⟩
abbrev mX3_worth : tw_M := (yX3_worth, cX3_worth, 2, (some .int), 1, 22)
theorem okX3_worth : tw_okV mX3_worth 1 := ⟨⟨⟨by decide +kernel, by decide +kernel, by decide +kernel⟩, w_268, w_78, by decide +kernel⟩, w_267, w_18⟩
abbrev mX3_isBelowZero : tw_M := (yX3_isBelowZero, cX3_isBelowZero, 1, (some .boolean), 0, 0)
theorem okX3_isBelowZero : tw_okV mX3_isBelowZero 0 := ⟨⟨⟨by decide +kernel, by decide +kernel, by decide +kernel⟩, w_204, w_78, by decide +kernel⟩, w_203, w_5⟩
abbrev mX4_init : tw_M := (yX4_init, cX4_init, 1, none, 1, 20)
theorem okX4_init : tw_okI mX4_init 0 := ⟨⟨⟨by decide +kernel, by decide +kernel, by decide +kernel⟩, w_494, w_90, by decide +kernel⟩, w_493, rfl⟩
abbrev mX4_manyOf : tw_M := (yX4_manyOf, cX4_manyOf, 2, (some .int), 0, 0)
theorem okX4_manyOf : tw_okV mX4_manyOf 1 := ⟨⟨⟨by decide +kernel, by decide +kernel, by decide +kernel⟩, w_280, w_90, by decide +kernel⟩, w_279, w_20⟩
abbrev mX4_setMany : tw_M := (yX4_setMany, cX4_setMany, 3, none, 0, 0)
theorem okX4_setMany : tw_okV mX4_setMany 2 := ⟨⟨⟨by decide +kernel, by decide +kernel, by decide +kernel⟩, w_766, w_90, by decide +kernel⟩, w_765, w_51⟩
abbrev mX4_pounds : tw_M := (yX4_pounds, cX4_pounds, 1, (some .int), 1, 21)
theorem okX4_pounds : tw_okV mX4_pounds 0 := ⟨⟨⟨by decide +kernel, by decide +kernel, by decide +kernel⟩, w_276, w_90, by decide +kernel⟩, w_275, w_19⟩
abbrev mX4_fewestFor : tw_M := (yX4_fewestFor, cX4_fewestFor, 12, (some .int), 1, 21)
theorem okX4_fewestFor : tw_okV mX4_fewestFor 1 := ⟨⟨⟨by decide +kernel, by decide +kernel, by decide +kernel⟩, w_288, w_90, by decide +kernel⟩, w_287, w_22⟩
abbrev mX4_takeOut : tw_M := (yX4_takeOut, cX4_takeOut, 6, (some .int), 1, 22)
theorem okX4_takeOut : tw_okV mX4_takeOut 1 := ⟨⟨⟨by decide +kernel, by decide +kernel, by decide +kernel⟩, w_778, w_90, by decide +kernel⟩, w_777, w_52⟩
abbrev mX4_isBelowZero : tw_M := (yX4_isBelowZero, cX4_isBelowZero, 5, (some .boolean), 0, 0)
theorem okX4_isBelowZero : tw_okV mX4_isBelowZero 0 := ⟨⟨⟨by decide +kernel, by decide +kernel, by decide +kernel⟩, w_209, w_90, by decide +kernel⟩, w_207, w_6⟩
abbrev mX5_init : tw_M := (yX5_init, cX5_init, 1, none, 2, 42)
theorem okX5_init : tw_okI mX5_init 0 := ⟨⟨⟨by decide +kernel, by decide +kernel, by decide +kernel⟩, w_115, w_77, by decide +kernel⟩, w_114, rfl⟩
abbrev mX5_country : tw_M := (yX5_country, cX5_country, 6, (some .int), 8, 133)
theorem okX5_country : tw_okV mX5_country 4 := ⟨⟨⟨by decide +kernel, by decide +kernel, by decide +kernel⟩, w_395, w_77, by decide +kernel⟩, w_393, w_394⟩
abbrev mX5_law : tw_M := (yX5_law, cX5_law, 6, (some .int), 8, 133)
theorem okX5_law : tw_okV mX5_law 3 := ⟨⟨⟨by decide +kernel, by decide +kernel, by decide +kernel⟩, w_545, w_77, by decide +kernel⟩, w_543, w_544⟩
abbrev mX5_gate : tw_M := (yX5_gate, cX5_gate, 6, (some .boolean), 7, 111)
theorem okX5_gate : tw_okV mX5_gate 3 := ⟨⟨⟨by decide +kernel, by decide +kernel, by decide +kernel⟩, w_572, w_77, by decide +kernel⟩, w_570, w_571⟩
abbrev mX5_market : tw_M := (yX5_market, cX5_market, 3, (some .int), 7, 112)
theorem okX5_market : tw_okV mX5_market 1 := ⟨⟨⟨by decide +kernel, by decide +kernel, by decide +kernel⟩, w_591, w_77, by decide +kernel⟩, w_589, w_590⟩
abbrev mX5_road : tw_M := (yX5_road, cX5_road, 8, (some .int), 7, 112)
theorem okX5_road : tw_okV mX5_road 4 := ⟨⟨⟨by decide +kernel, by decide +kernel, by decide +kernel⟩, w_598, w_77, by decide +kernel⟩, w_596, w_597⟩
abbrev mX5_mine : tw_M := (yX5_mine, cX5_mine, 5, (some .int), 7, 112)
theorem okX5_mine : tw_okV mX5_mine 3 := ⟨⟨⟨by decide +kernel, by decide +kernel, by decide +kernel⟩, w_613, w_77, by decide +kernel⟩, w_611, w_612⟩
abbrev mX5_use : tw_M := (yX5_use, cX5_use, 5, (some .int), 7, 112)
theorem okX5_use : tw_okV mX5_use 3 := ⟨⟨⟨by decide +kernel, by decide +kernel, by decide +kernel⟩, w_622, w_77, by decide +kernel⟩, w_620, w_621⟩
abbrev mX5_house : tw_M := (yX5_house, cX5_house, 6, (some .int), 7, 112)
theorem okX5_house : tw_okV mX5_house 3 := ⟨⟨⟨by decide +kernel, by decide +kernel, by decide +kernel⟩, w_630, w_77, by decide +kernel⟩, w_628, w_629⟩
abbrev mX5_change : tw_M := (yX5_change, cX5_change, 8, (some .int), 7, 112)
theorem okX5_change : tw_okV mX5_change 3 := ⟨⟨⟨by decide +kernel, by decide +kernel, by decide +kernel⟩, w_663, w_77, by decide +kernel⟩, w_661, w_662⟩
abbrev mX5_send : tw_M := (yX5_send, cX5_send, 6, (some .int), 7, 111)
theorem okX5_send : tw_okV mX5_send 2 := ⟨⟨⟨by decide +kernel, by decide +kernel, by decide +kernel⟩, w_677, w_77, by decide +kernel⟩, w_675, w_676⟩
abbrev mX5_payFreight : tw_M := (yX5_payFreight, cX5_payFreight, 5, none, 1, 22)
theorem okX5_payFreight : tw_okV mX5_payFreight 3 := ⟨⟨⟨by decide +kernel, by decide +kernel, by decide +kernel⟩, w_682, w_77, by decide +kernel⟩, w_681, w_45⟩
abbrev mX5_pass : tw_M := (yX5_pass, cX5_pass, 3, (some .int), 7, 112)
theorem okX5_pass : tw_okV mX5_pass 1 := ⟨⟨⟨by decide +kernel, by decide +kernel, by decide +kernel⟩, w_693, w_77, by decide +kernel⟩, w_691, w_692⟩
abbrev mX5_beginDay : tw_M := (yX5_beginDay, cX5_beginDay, 5, none, 2, 47)
theorem okX5_beginDay : tw_okV mX5_beginDay 0 := ⟨⟨⟨by decide +kernel, by decide +kernel, by decide +kernel⟩, w_698, w_77, by decide +kernel⟩, w_697, w_47⟩
abbrev mX5_wearVaults : tw_M := (yX5_wearVaults, cX5_wearVaults, 6, none, 1, 22)
theorem okX5_wearVaults : tw_okV mX5_wearVaults 0 := ⟨⟨⟨by decide +kernel, by decide +kernel, by decide +kernel⟩, w_706, w_77, by decide +kernel⟩, w_705, w_49⟩
abbrev mX5_owe : tw_M := (yX5_owe, cX5_owe, 8, (some .int), 7, 112)
theorem okX5_owe : tw_okV mX5_owe 4 := ⟨⟨⟨by decide +kernel, by decide +kernel, by decide +kernel⟩, w_713, w_77, by decide +kernel⟩, w_711, w_712⟩
abbrev mX5_settle : tw_M := (yX5_settle, cX5_settle, 7, (some .int), 7, 111)
theorem okX5_settle : tw_okV mX5_settle 2 := ⟨⟨⟨by decide +kernel, by decide +kernel, by decide +kernel⟩, w_746, w_77, by decide +kernel⟩, w_744, w_745⟩
abbrev mX5_till : tw_M := (yX5_till, cX5_till, 6, (some .int), 7, 112)
theorem okX5_till : tw_okV mX5_till 3 := ⟨⟨⟨by decide +kernel, by decide +kernel, by decide +kernel⟩, w_760, w_77, by decide +kernel⟩, w_758, w_759⟩
abbrev mX5_give : tw_M := (yX5_give, cX5_give, 5, (some .int), 7, 112)
theorem okX5_give : tw_okV mX5_give 2 := ⟨⟨⟨by decide +kernel, by decide +kernel, by decide +kernel⟩, w_773, w_77, by decide +kernel⟩, w_771, w_772⟩
abbrev mX5_coins : tw_M := (yX5_coins, cX5_coins, 4, (some .int), 7, 112)
theorem okX5_coins : tw_okV mX5_coins 2 := ⟨⟨⟨by decide +kernel, by decide +kernel, by decide +kernel⟩, w_786, w_77, by decide +kernel⟩, w_784, w_785⟩
abbrev mX5_ofCountry : tw_M := (yX5_ofCountry, cX5_ofCountry, 4, (some .int), 7, 112)
theorem okX5_ofCountry : tw_okV mX5_ofCountry 2 := ⟨⟨⟨by decide +kernel, by decide +kernel, by decide +kernel⟩, w_793, w_77, by decide +kernel⟩, w_791, w_792⟩
abbrev mX5_countryFact : tw_M := (yX5_countryFact, cX5_countryFact, 3, (some .int), 2, 43)
theorem okX5_countryFact : tw_okV mX5_countryFact 2 := ⟨⟨⟨by decide +kernel, by decide +kernel, by decide +kernel⟩, w_256, w_77, by decide +kernel⟩, w_255, w_15⟩
abbrev mX5_housesIn : tw_M := (yX5_housesIn, cX5_housesIn, 7, (some .int), 0, 0)
theorem okX5_housesIn : tw_okV mX5_housesIn 1 := ⟨⟨⟨by decide +kernel, by decide +kernel, by decide +kernel⟩, w_264, w_77, by decide +kernel⟩, w_263, w_17⟩
abbrev mX5_countriesWithRate : tw_M := (yX5_countriesWithRate, cX5_countriesWithRate, 7, (some .int), 0, 0)
theorem okX5_countriesWithRate : tw_okV mX5_countriesWithRate 1 := ⟨⟨⟨by decide +kernel, by decide +kernel, by decide +kernel⟩, w_284, w_77, by decide +kernel⟩, w_283, w_21⟩
abbrev mX5_ofHouse : tw_M := (yX5_ofHouse, cX5_ofHouse, 4, (some .int), 7, 112)
theorem okX5_ofHouse : tw_okV mX5_ofHouse 2 := ⟨⟨⟨by decide +kernel, by decide +kernel, by decide +kernel⟩, w_800, w_77, by decide +kernel⟩, w_798, w_799⟩
abbrev mX5_houseFact : tw_M := (yX5_houseFact, cX5_houseFact, 3, (some .int), 2, 43)
theorem okX5_houseFact : tw_okV mX5_houseFact 2 := ⟨⟨⟨by decide +kernel, by decide +kernel, by decide +kernel⟩, w_335, w_77, by decide +kernel⟩, w_334, w_29⟩
abbrev mX5_numberOf : tw_M := (yX5_numberOf, cX5_numberOf, 1, (some .int), 0, 0)
theorem okX5_numberOf : tw_okS mX5_numberOf 1 := ⟨⟨⟨by decide +kernel, by decide +kernel, by decide +kernel⟩, w_338, w_77, by decide +kernel⟩, w_337⟩
abbrev mX5_unpaidDebtsOf : tw_M := (yX5_unpaidDebtsOf, cX5_unpaidDebtsOf, 7, (some .int), 0, 0)
theorem okX5_unpaidDebtsOf : tw_okV mX5_unpaidDebtsOf 1 := ⟨⟨⟨by decide +kernel, by decide +kernel, by decide +kernel⟩, w_342, w_77, by decide +kernel⟩, w_341, w_30⟩
abbrev mX5_unpaidDebtsTo : tw_M := (yX5_unpaidDebtsTo, cX5_unpaidDebtsTo, 7, (some .int), 0, 0)
theorem okX5_unpaidDebtsTo : tw_okV mX5_unpaidDebtsTo 1 := ⟨⟨⟨by decide +kernel, by decide +kernel, by decide +kernel⟩, w_346, w_77, by decide +kernel⟩, w_345, w_31⟩
abbrev mX5_ofDebt : tw_M := (yX5_ofDebt, cX5_ofDebt, 4, (some .int), 7, 112)
theorem okX5_ofDebt : tw_okV mX5_ofDebt 2 := ⟨⟨⟨by decide +kernel, by decide +kernel, by decide +kernel⟩, w_807, w_77, by decide +kernel⟩, w_805, w_806⟩
abbrev mX5_debtFact : tw_M := (yX5_debtFact, cX5_debtFact, 3, (some .int), 2, 45)
theorem okX5_debtFact : tw_okV mX5_debtFact 2 := ⟨⟨⟨by decide +kernel, by decide +kernel, by decide +kernel⟩, w_354, w_77, by decide +kernel⟩, w_353, w_33⟩
abbrev mX5_cheaperMetal : tw_M := (yX5_cheaperMetal, cX5_cheaperMetal, 4, (some .int), 1, 22)
theorem okX5_cheaperMetal : tw_okV mX5_cheaperMetal 1 := ⟨⟨⟨by decide +kernel, by decide +kernel, by decide +kernel⟩, w_363, w_77, by decide +kernel⟩, w_362, w_35⟩
abbrev mX5_world : tw_M := (yX5_world, cX5_world, 3, (some .int), 7, 112)
theorem okX5_world : tw_okV mX5_world 2 := ⟨⟨⟨by decide +kernel, by decide +kernel, by decide +kernel⟩, w_814, w_77, by decide +kernel⟩, w_812, w_813⟩
abbrev mX5_worldFact : tw_M := (yX5_worldFact, cX5_worldFact, 3, (some .int), 2, 47)
theorem okX5_worldFact : tw_okV mX5_worldFact 2 := ⟨⟨⟨by decide +kernel, by decide +kernel, by decide +kernel⟩, w_248, w_77, by decide +kernel⟩, w_247, w_13⟩
abbrev mX5_inVaults : tw_M := (yX5_inVaults, cX5_inVaults, 7, (some .int), 1, 21)
theorem okX5_inVaults : tw_okV mX5_inVaults 1 := ⟨⟨⟨by decide +kernel, by decide +kernel, by decide +kernel⟩, w_188, w_77, by decide +kernel⟩, w_187, w_1⟩
abbrev mX5_inPurses : tw_M := (yX5_inPurses, cX5_inPurses, 7, (some .int), 1, 21)
theorem okX5_inPurses : tw_okV mX5_inPurses 1 := ⟨⟨⟨by decide +kernel, by decide +kernel, by decide +kernel⟩, w_196, w_77, by decide +kernel⟩, w_195, w_3⟩
abbrev mX5_sign : tw_M := (yX5_sign, cX5_sign, 6, (some (.object "java/lang/String")), 23, 470)
theorem okX5_sign : tw_okV mX5_sign 1 := ⟨⟨⟨by decide +kernel, by decide +kernel, by decide +kernel⟩, w_821, w_77, by decide +kernel⟩, w_819, w_820⟩
abbrev mX5_trip : tw_M := (yX5_trip, cX5_trip, 7, (some .int), 7, 112)
theorem okX5_trip : tw_okV mX5_trip 4 := ⟨⟨⟨by decide +kernel, by decide +kernel, by decide +kernel⟩, w_1091, w_77, by decide +kernel⟩, w_1089, w_1090⟩
abbrev mX5_comesOfTrip : tw_M := (yX5_comesOfTrip, cX5_comesOfTrip, 8, (some .int), 2, 44)
theorem okX5_comesOfTrip : tw_okS mX5_comesOfTrip 4 := ⟨⟨⟨by decide +kernel, by decide +kernel, by decide +kernel⟩, w_298, w_77, by decide +kernel⟩, w_297⟩
abbrev mX5_bestTrip : tw_M := (yX5_bestTrip, cX5_bestTrip, 5, (some .int), 7, 112)
theorem okX5_bestTrip : tw_okV mX5_bestTrip 3 := ⟨⟨⟨by decide +kernel, by decide +kernel, by decide +kernel⟩, w_1098, w_77, by decide +kernel⟩, w_1096, w_1097⟩
abbrev mX5_bestOver : tw_M := (yX5_bestOver, cX5_bestOver, 11, (some .int), 3, 71)
theorem okX5_bestOver : tw_okV mX5_bestOver 3 := ⟨⟨⟨by decide +kernel, by decide +kernel, by decide +kernel⟩, w_295, w_77, by decide +kernel⟩, w_294, w_23⟩
abbrev mX5_rest : tw_M := (yX5_rest, cX5_rest, 2, (some .boolean), 7, 126)
theorem okX5_rest : tw_okV mX5_rest 1 := ⟨⟨⟨by decide +kernel, by decide +kernel, by decide +kernel⟩, w_1105, w_77, by decide +kernel⟩, w_1103, w_1104⟩
abbrev mX5_isRest : tw_M := (yX5_isRest, cX5_isRest, 6, (some .boolean), 4, 101)
theorem okX5_isRest : tw_okV mX5_isRest 1 := ⟨⟨⟨by decide +kernel, by decide +kernel, by decide +kernel⟩, w_372, w_77, by decide +kernel⟩, w_371, w_37⟩
abbrev mX5_last : tw_M := (yX5_last, cX5_last, 5, (some .int), 7, 112)
theorem okX5_last : tw_okV mX5_last 3 := ⟨⟨⟨by decide +kernel, by decide +kernel, by decide +kernel⟩, w_1112, w_77, by decide +kernel⟩, w_1110, w_1111⟩
abbrev mX5_firstDayShort : tw_M := (yX5_firstDayShort, cX5_firstDayShort, 6, (some .int), 1, 21)
theorem okX5_firstDayShort : tw_okV mX5_firstDayShort 3 := ⟨⟨⟨by decide +kernel, by decide +kernel, by decide +kernel⟩, w_324, w_77, by decide +kernel⟩, w_323, w_27⟩
abbrev mX5_isSound : tw_M := (yX5_isSound, cX5_isSound, 1, (some .boolean), 3, 70)
theorem okX5_isSound : tw_okV mX5_isSound 0 := ⟨⟨⟨by decide +kernel, by decide +kernel, by decide +kernel⟩, w_180, w_77, by decide +kernel⟩, w_178, w_179⟩
abbrev mX5_isKept : tw_M := (yX5_isKept, cX5_isKept, 3, (some .boolean), 2, 47)
theorem okX5_isKept : tw_okV mX5_isKept 1 := ⟨⟨⟨by decide +kernel, by decide +kernel, by decide +kernel⟩, w_184, w_77, by decide +kernel⟩, w_183, w_0⟩
abbrev mX5_areCountriesSound : tw_M := (yX5_areCountriesSound, cX5_areCountriesSound, 5, (some .boolean), 1, 24)
theorem okX5_areCountriesSound : tw_okV mX5_areCountriesSound 0 := ⟨⟨⟨by decide +kernel, by decide +kernel, by decide +kernel⟩, w_200, w_77, by decide +kernel⟩, w_199, w_4⟩
abbrev mX5_areHousesSound : tw_M := (yX5_areHousesSound, cX5_areHousesSound, 5, (some .boolean), 1, 21)
theorem okX5_areHousesSound : tw_okV mX5_areHousesSound 0 := ⟨⟨⟨by decide +kernel, by decide +kernel, by decide +kernel⟩, w_213, w_77, by decide +kernel⟩, w_212, w_7⟩
abbrev mX5_areRoadsTheSame : tw_M := (yX5_areRoadsTheSame, cX5_areRoadsTheSame, 9, (some .boolean), 2, 42)
theorem okX5_areRoadsTheSame : tw_okV mX5_areRoadsTheSame 0 := ⟨⟨⟨by decide +kernel, by decide +kernel, by decide +kernel⟩, w_222, w_77, by decide +kernel⟩, w_221, w_9⟩
abbrev mX5_hasSameRoads : tw_M := (yX5_hasSameRoads, cX5_hasSameRoads, 2, (some .boolean), 1, 21)
theorem okX5_hasSameRoads : tw_okS mX5_hasSameRoads 2 := ⟨⟨⟨by decide +kernel, by decide +kernel, by decide +kernel⟩, w_225, w_77, by decide +kernel⟩, w_224⟩
abbrev mX5_digest : tw_M := (yX5_digest, cX5_digest, 7, (some .long), 5, 127)
theorem okX5_digest : tw_okV mX5_digest 0 := ⟨⟨⟨by decide +kernel, by decide +kernel, by decide +kernel⟩, w_238, w_77, by decide +kernel⟩, w_236, w_237⟩
abbrev mX5_digestWorld : tw_M := (yX5_digestWorld, cX5_digestWorld, 7, (some .long), 3, 69)
theorem okX5_digestWorld : tw_okV mX5_digestWorld 2 := ⟨⟨⟨by decide +kernel, by decide +kernel, by decide +kernel⟩, w_244, w_77, by decide +kernel⟩, w_243, w_12⟩
abbrev mX5_digestCountry : tw_M := (yX5_digestCountry, cX5_digestCountry, 7, (some .long), 4, 101)
theorem okX5_digestCountry : tw_okV mX5_digestCountry 2 := ⟨⟨⟨by decide +kernel, by decide +kernel, by decide +kernel⟩, w_252, w_77, by decide +kernel⟩, w_251, w_14⟩
abbrev mX5_digestHouse : tw_M := (yX5_digestHouse, cX5_digestHouse, 7, (some .long), 3, 65)
theorem okX5_digestHouse : tw_okV mX5_digestHouse 2 := ⟨⟨⟨by decide +kernel, by decide +kernel, by decide +kernel⟩, w_331, w_77, by decide +kernel⟩, w_330, w_28⟩
abbrev mX5_digestDebt : tw_M := (yX5_digestDebt, cX5_digestDebt, 7, (some .long), 3, 67)
theorem okX5_digestDebt : tw_okV mX5_digestDebt 2 := ⟨⟨⟨by decide +kernel, by decide +kernel, by decide +kernel⟩, w_350, w_77, by decide +kernel⟩, w_349, w_32⟩
abbrev mX5_countryAt : tw_M := (yX5_countryAt, cX5_countryAt, 2, (some (.object "Twocoin$Country")), 6, 90)
theorem okX5_countryAt : tw_okV mX5_countryAt 1 := ⟨⟨⟨by decide +kernel, by decide +kernel, by decide +kernel⟩, w_549, w_77, by decide +kernel⟩, w_548, w_40⟩
abbrev mX5_houseAt : tw_M := (yX5_houseAt, cX5_houseAt, 2, (some (.object "Twocoin$House")), 6, 90)
theorem okX5_houseAt : tw_okV mX5_houseAt 1 := ⟨⟨⟨by decide +kernel, by decide +kernel, by decide +kernel⟩, w_667, w_77, by decide +kernel⟩, w_666, w_44⟩
abbrev mX5_debtAt : tw_M := (yX5_debtAt, cX5_debtAt, 2, (some (.object "Twocoin$Debt")), 6, 90)
theorem okX5_debtAt : tw_okV mX5_debtAt 1 := ⟨⟨⟨by decide +kernel, by decide +kernel, by decide +kernel⟩, w_750, w_77, by decide +kernel⟩, w_749, w_50⟩
abbrev mX5_needRange : tw_M := (yX5_needRange, cX5_needRange, 3, none, 6, 90)
theorem okX5_needRange : tw_okS mX5_needRange 3 := ⟨⟨⟨by decide +kernel, by decide +kernel, by decide +kernel⟩, w_401, w_77, by decide +kernel⟩, w_400⟩
abbrev mX5_needMetal : tw_M := (yX5_needMetal, cX5_needMetal, 1, none, 6, 90)
theorem okX5_needMetal : tw_okS mX5_needMetal 1 := ⟨⟨⟨by decide +kernel, by decide +kernel, by decide +kernel⟩, w_575, w_77, by decide +kernel⟩, w_574⟩
abbrev mX5_needLaw : tw_M := (yX5_needLaw, cX5_needLaw, 2, none, 7, 112)
theorem okX5_needLaw : tw_okS mX5_needLaw 2 := ⟨⟨⟨by decide +kernel, by decide +kernel, by decide +kernel⟩, w_398, w_77, by decide +kernel⟩, w_397⟩
abbrev mX5_needDifferent : tw_M := (yX5_needDifferent, cX5_needDifferent, 2, none, 6, 90)
theorem okX5_needDifferent : tw_okS mX5_needDifferent 2 := ⟨⟨⟨by decide +kernel, by decide +kernel, by decide +kernel⟩, w_601, w_77, by decide +kernel⟩, w_600⟩
abbrev mX5_otherMetal : tw_M := (yX5_otherMetal, cX5_otherMetal, 1, (some .int), 0, 0)
theorem okX5_otherMetal : tw_okS mX5_otherMetal 1 := ⟨⟨⟨by decide +kernel, by decide +kernel, by decide +kernel⟩, w_320, w_77, by decide +kernel⟩, w_319⟩
abbrev mX5_isWearDay : tw_M := (yX5_isWearDay, cX5_isWearDay, 1, (some .boolean), 0, 0)
theorem okX5_isWearDay : tw_okS mX5_isWearDay 1 := ⟨⟨⟨by decide +kernel, by decide +kernel, by decide +kernel⟩, w_327, w_77, by decide +kernel⟩, w_326⟩
abbrev mX5_worthOf : tw_M := (yX5_worthOf, cX5_worthOf, 3, (some .int), 0, 0)
theorem okX5_worthOf : tw_okS mX5_worthOf 3 := ⟨⟨⟨by decide +kernel, by decide +kernel, by decide +kernel⟩, w_271, w_77, by decide +kernel⟩, w_270⟩
abbrev mX5_thousandthsRoundedUp : tw_M := (yX5_thousandthsRoundedUp, cX5_thousandthsRoundedUp, 2, (some .int), 0, 0)
theorem okX5_thousandthsRoundedUp : tw_okS mX5_thousandthsRoundedUp 2 := ⟨⟨⟨by decide +kernel, by decide +kernel, by decide +kernel⟩, w_314, w_77, by decide +kernel⟩, w_313⟩
abbrev mX6_init : tw_M := (yX6_init, cX6_init, 1, none, 1, 20)
theorem okX6_init : tw_okI mX6_init 0 := ⟨⟨⟨by decide +kernel, by decide +kernel, by decide +kernel⟩, w_378, w_83, by decide +kernel⟩, w_377, rfl⟩
abbrev mX7_init : tw_M := (yX7_init, cX7_init, 1, none, 1, 20)
theorem okX7_init : tw_okI mX7_init 0 := ⟨⟨⟨by decide +kernel, by decide +kernel, by decide +kernel⟩, w_1212, w_91, by decide +kernel⟩, w_1211, rfl⟩
abbrev mX8_init : tw_M := (yX8_init, cX8_init, 1, none, 1, 20)
theorem okX8_init : tw_okI mX8_init 0 := ⟨⟨⟨by decide +kernel, by decide +kernel, by decide +kernel⟩, w_1437, w_103, by decide +kernel⟩, w_1436, rfl⟩
abbrev mX9_init : tw_M := (yX9_init, cX9_init, 1, none, 1, 20)
theorem okX9_init : tw_okI mX9_init 0 := ⟨⟨⟨by decide +kernel, by decide +kernel, by decide +kernel⟩, w_1336, w_100, by decide +kernel⟩, w_1335, rfl⟩
abbrev mX10_init : tw_M := (yX10_init, cX10_init, 3, none, 4, 80)
theorem okX10_init : tw_okI mX10_init 0 := ⟨⟨⟨by decide +kernel, by decide +kernel, by decide +kernel⟩, w_1117, w_79, by decide +kernel⟩, w_1116, rfl⟩
abbrev mX10_isIn : tw_M := (yX10_isIn, cX10_isIn, 3, (some .boolean), 0, 0)
theorem okX10_isIn : tw_okS mX10_isIn 3 := ⟨⟨⟨by decide +kernel, by decide +kernel, by decide +kernel⟩, w_1194, w_79, by decide +kernel⟩, w_1193⟩
abbrev mX10_refuse : tw_M := (yX10_refuse, cX10_refuse, 3, (some .boolean), 0, 0)
theorem okX10_refuse : tw_okV mX10_refuse 2 := ⟨⟨⟨by decide +kernel, by decide +kernel, by decide +kernel⟩, w_1203, w_79, by decide +kernel⟩, w_1202, w_54⟩
abbrev mX10_start : tw_M := (yX10_start, cX10_start, 3, (some .boolean), 1, 22)
theorem okX10_start : tw_okV mX10_start 2 := ⟨⟨⟨by decide +kernel, by decide +kernel, by decide +kernel⟩, w_1199, w_79, by decide +kernel⟩, w_1198, w_53⟩
abbrev mX10_isNoCountry : tw_M := (yX10_isNoCountry, cX10_isNoCountry, 2, (some .boolean), 1, 22)
theorem okX10_isNoCountry : tw_okV mX10_isNoCountry 1 := ⟨⟨⟨by decide +kernel, by decide +kernel, by decide +kernel⟩, w_1291, w_79, by decide +kernel⟩, w_1290, w_58⟩
abbrev mX10_isNoHouse : tw_M := (yX10_isNoHouse, cX10_isNoHouse, 2, (some .boolean), 1, 22)
theorem okX10_isNoHouse : tw_okV mX10_isNoHouse 1 := ⟨⟨⟨by decide +kernel, by decide +kernel, by decide +kernel⟩, w_1361, w_79, by decide +kernel⟩, w_1360, w_59⟩
abbrev mX10_isNoMetal : tw_M := (yX10_isNoMetal, cX10_isNoMetal, 1, (some .boolean), 1, 22)
theorem okX10_isNoMetal : tw_okS mX10_isNoMetal 1 := ⟨⟨⟨by decide +kernel, by decide +kernel, by decide +kernel⟩, w_1310, w_79, by decide +kernel⟩, w_1309⟩
abbrev mX10_up : tw_M := (yX10_up, cX10_up, 4, (some .long), 0, 0)
theorem okX10_up : tw_okS mX10_up 2 := ⟨⟨⟨by decide +kernel, by decide +kernel, by decide +kernel⟩, w_1373, w_79, by decide +kernel⟩, w_1372⟩
abbrev mX10_given : tw_M := (yX10_given, cX10_given, 6, (some .long), 1, 23)
theorem okX10_given : tw_okS mX10_given 3 := ⟨⟨⟨by decide +kernel, by decide +kernel, by decide +kernel⟩, w_1368, w_79, by decide +kernel⟩, w_1367⟩
abbrev mX10_worth : tw_M := (yX10_worth, cX10_worth, 2, (some .long), 0, 0)
theorem okX10_worth : tw_okV mX10_worth 1 := ⟨⟨⟨by decide +kernel, by decide +kernel, by decide +kernel⟩, w_1508, w_79, by decide +kernel⟩, w_1507, w_66⟩
abbrev mX10_country : tw_M := (yX10_country, cX10_country, 6, (some .int), 12, 222)
theorem okX10_country : tw_okV mX10_country 4 := ⟨⟨⟨by decide +kernel, by decide +kernel, by decide +kernel⟩, w_1191, w_79, by decide +kernel⟩, w_1189, w_1190⟩
abbrev mX10_law : tw_M := (yX10_law, cX10_law, 6, (some .int), 9, 154)
theorem okX10_law : tw_okV mX10_law 3 := ⟨⟨⟨by decide +kernel, by decide +kernel, by decide +kernel⟩, w_1287, w_79, by decide +kernel⟩, w_1285, w_1286⟩
abbrev mX10_gate : tw_M := (yX10_gate, cX10_gate, 5, (some .boolean), 9, 154)
theorem okX10_gate : tw_okV mX10_gate 3 := ⟨⟨⟨by decide +kernel, by decide +kernel, by decide +kernel⟩, w_1307, w_79, by decide +kernel⟩, w_1305, w_1306⟩
abbrev mX10_market : tw_M := (yX10_market, cX10_market, 3, (some .int), 2, 44)
theorem okX10_market : tw_okV mX10_market 1 := ⟨⟨⟨by decide +kernel, by decide +kernel, by decide +kernel⟩, w_1314, w_79, by decide +kernel⟩, w_1312, w_1313⟩
abbrev mX10_road : tw_M := (yX10_road, cX10_road, 6, (some .int), 2, 44)
theorem okX10_road : tw_okV mX10_road 4 := ⟨⟨⟨by decide +kernel, by decide +kernel, by decide +kernel⟩, w_1318, w_79, by decide +kernel⟩, w_1316, w_1317⟩
abbrev mX10_mine : tw_M := (yX10_mine, cX10_mine, 4, (some .int), 9, 154)
theorem okX10_mine : tw_okV mX10_mine 3 := ⟨⟨⟨by decide +kernel, by decide +kernel, by decide +kernel⟩, w_1322, w_79, by decide +kernel⟩, w_1320, w_1321⟩
abbrev mX10_use : tw_M := (yX10_use, cX10_use, 4, (some .int), 9, 154)
theorem okX10_use : tw_okV mX10_use 3 := ⟨⟨⟨by decide +kernel, by decide +kernel, by decide +kernel⟩, w_1327, w_79, by decide +kernel⟩, w_1325, w_1326⟩
abbrev mX10_house : tw_M := (yX10_house, cX10_house, 5, (some .int), 12, 222)
theorem okX10_house : tw_okV mX10_house 3 := ⟨⟨⟨by decide +kernel, by decide +kernel, by decide +kernel⟩, w_1331, w_79, by decide +kernel⟩, w_1329, w_1330⟩
abbrev mX10_isNoChange : tw_M := (yX10_isNoChange, cX10_isNoChange, 5, (some .boolean), 9, 154)
theorem okX10_isNoChange : tw_okV mX10_isNoChange 3 := ⟨⟨⟨by decide +kernel, by decide +kernel, by decide +kernel⟩, w_1365, w_79, by decide +kernel⟩, w_1364, w_60⟩
abbrev mX10_change : tw_M := (yX10_change, cX10_change, 8, (some .int), 10, 178)
theorem okX10_change : tw_okV mX10_change 3 := ⟨⟨⟨by decide +kernel, by decide +kernel, by decide +kernel⟩, w_1357, w_79, by decide +kernel⟩, w_1355, w_1356⟩
abbrev mX10_send : tw_M := (yX10_send, cX10_send, 7, (some .int), 9, 154)
theorem okX10_send : tw_okV mX10_send 2 := ⟨⟨⟨by decide +kernel, by decide +kernel, by decide +kernel⟩, w_1377, w_79, by decide +kernel⟩, w_1375, w_1376⟩
abbrev mX10_pass : tw_M := (yX10_pass, cX10_pass, 7, (some .int), 8, 132)
theorem okX10_pass : tw_okV mX10_pass 1 := ⟨⟨⟨by decide +kernel, by decide +kernel, by decide +kernel⟩, w_1381, w_79, by decide +kernel⟩, w_1379, w_1380⟩
abbrev mX10_owe : tw_M := (yX10_owe, cX10_owe, 6, (some .int), 12, 222)
theorem okX10_owe : tw_okV mX10_owe 4 := ⟨⟨⟨by decide +kernel, by decide +kernel, by decide +kernel⟩, w_1432, w_79, by decide +kernel⟩, w_1430, w_1431⟩
abbrev mX10_due : tw_M := (yX10_due, cX10_due, 2, (some .int), 1, 21)
theorem okX10_due : tw_okV mX10_due 1 := ⟨⟨⟨by decide +kernel, by decide +kernel, by decide +kernel⟩, w_1470, w_79, by decide +kernel⟩, w_1469, w_63⟩
abbrev mX10_toPay : tw_M := (yX10_toPay, cX10_toPay, 3, (some .long), 9, 154)
theorem okX10_toPay : tw_okV mX10_toPay 2 := ⟨⟨⟨by decide +kernel, by decide +kernel, by decide +kernel⟩, w_1466, w_79, by decide +kernel⟩, w_1465, w_62⟩
abbrev mX10_isNoPay : tw_M := (yX10_isNoPay, cX10_isNoPay, 4, (some .boolean), 10, 176)
theorem okX10_isNoPay : tw_okV mX10_isNoPay 2 := ⟨⟨⟨by decide +kernel, by decide +kernel, by decide +kernel⟩, w_1462, w_79, by decide +kernel⟩, w_1461, w_61⟩
abbrev mX10_settle : tw_M := (yX10_settle, cX10_settle, 6, (some .int), 11, 199)
theorem okX10_settle : tw_okV mX10_settle 2 := ⟨⟨⟨by decide +kernel, by decide +kernel, by decide +kernel⟩, w_1458, w_79, by decide +kernel⟩, w_1456, w_1457⟩
abbrev mX10_till : tw_M := (yX10_till, cX10_till, 5, (some .int), 9, 154)
theorem okX10_till : tw_okV mX10_till 3 := ⟨⟨⟨by decide +kernel, by decide +kernel, by decide +kernel⟩, w_1475, w_79, by decide +kernel⟩, w_1473, w_1474⟩
abbrev mX10_best (k : Nat) : tw_M := (yX10_best, cX10_best, 6, (some (.array .int)), 1 + k, 25 + k * 25)
theorem okX10_best_0 : tw_okS (mX10_best 0) 3 := ⟨⟨⟨by decide +kernel, by decide +kernel, by decide +kernel⟩, w_1482, w_79, by decide +kernel⟩, w_1481⟩
theorem okX10_best (k : Nat) : tw_okS (mX10_best k) 3 := okX10_best_0
abbrev mX10_all : tw_M := (yX10_all, cX10_all, 6, (some .int), 0, 0)
theorem okX10_all : tw_okS mX10_all 1 := ⟨⟨⟨by decide +kernel, by decide +kernel, by decide +kernel⟩, w_1488, w_79, by decide +kernel⟩, w_1487⟩
abbrev mX10_give : tw_M := (yX10_give, cX10_give, 5, (some .int), 9, 200)
theorem okX10_give : tw_okV mX10_give 2 := ⟨⟨⟨by decide +kernel, by decide +kernel, by decide +kernel⟩, w_1479, w_79, by decide +kernel⟩, w_1477, w_1478⟩
abbrev mX10_coinsNow : tw_M := (yX10_coinsNow, cX10_coinsNow, 9, (some .int), 9, 200)
theorem okX10_coinsNow : tw_okV mX10_coinsNow 2 := ⟨⟨⟨by decide +kernel, by decide +kernel, by decide +kernel⟩, w_1496, w_79, by decide +kernel⟩, w_1495, w_64⟩
abbrev mX10_coins : tw_M := (yX10_coins, cX10_coins, 3, (some .int), 10, 228)
theorem okX10_coins : tw_okV mX10_coins 2 := ⟨⟨⟨by decide +kernel, by decide +kernel, by decide +kernel⟩, w_1492, w_79, by decide +kernel⟩, w_1490, w_1491⟩
abbrev mX10_ofCountryNow : tw_M := (yX10_ofCountryNow, cX10_ofCountryNow, 9, (some .int), 9, 154)
theorem okX10_ofCountryNow : tw_okV mX10_ofCountryNow 2 := ⟨⟨⟨by decide +kernel, by decide +kernel, by decide +kernel⟩, w_1504, w_79, by decide +kernel⟩, w_1503, w_65⟩
abbrev mX10_ofCountry : tw_M := (yX10_ofCountry, cX10_ofCountry, 3, (some .int), 10, 182)
theorem okX10_ofCountry : tw_okV mX10_ofCountry 2 := ⟨⟨⟨by decide +kernel, by decide +kernel, by decide +kernel⟩, w_1500, w_79, by decide +kernel⟩, w_1498, w_1499⟩
abbrev mX10_ofHouseNow : tw_M := (yX10_ofHouseNow, cX10_ofHouseNow, 8, (some .int), 9, 154)
theorem okX10_ofHouseNow : tw_okV mX10_ofHouseNow 2 := ⟨⟨⟨by decide +kernel, by decide +kernel, by decide +kernel⟩, w_1516, w_79, by decide +kernel⟩, w_1515, w_67⟩
abbrev mX10_ofHouse : tw_M := (yX10_ofHouse, cX10_ofHouse, 3, (some .int), 10, 181)
theorem okX10_ofHouse : tw_okV mX10_ofHouse 2 := ⟨⟨⟨by decide +kernel, by decide +kernel, by decide +kernel⟩, w_1512, w_79, by decide +kernel⟩, w_1510, w_1511⟩
abbrev mX10_cheaper : tw_M := (yX10_cheaper, cX10_cheaper, 2, (some .int), 10, 176)
theorem okX10_cheaper : tw_okV mX10_cheaper 1 := ⟨⟨⟨by decide +kernel, by decide +kernel, by decide +kernel⟩, w_1528, w_79, by decide +kernel⟩, w_1527, w_69⟩
abbrev mX10_ofDebtNow : tw_M := (yX10_ofDebtNow, cX10_ofDebtNow, 4, (some .int), 11, 197)
theorem okX10_ofDebtNow : tw_okV mX10_ofDebtNow 2 := ⟨⟨⟨by decide +kernel, by decide +kernel, by decide +kernel⟩, w_1524, w_79, by decide +kernel⟩, w_1523, w_68⟩
abbrev mX10_ofDebt : tw_M := (yX10_ofDebt, cX10_ofDebt, 3, (some .int), 12, 220)
theorem okX10_ofDebt : tw_okV mX10_ofDebt 2 := ⟨⟨⟨by decide +kernel, by decide +kernel, by decide +kernel⟩, w_1520, w_79, by decide +kernel⟩, w_1518, w_1519⟩
abbrev mX10_worldNow : tw_M := (yX10_worldNow, cX10_worldNow, 9, (some .int), 8, 132)
theorem okX10_worldNow : tw_okV mX10_worldNow 2 := ⟨⟨⟨by decide +kernel, by decide +kernel, by decide +kernel⟩, w_1536, w_79, by decide +kernel⟩, w_1535, w_70⟩
abbrev mX10_world : tw_M := (yX10_world, cX10_world, 3, (some .int), 9, 160)
theorem okX10_world : tw_okV mX10_world 2 := ⟨⟨⟨by decide +kernel, by decide +kernel, by decide +kernel⟩, w_1532, w_79, by decide +kernel⟩, w_1530, w_1531⟩
abbrev mX10_sign : tw_M := (yX10_sign, cX10_sign, 6, (some (.object "java/lang/String")), 23, 470)
theorem okX10_sign : tw_okV mX10_sign 1 := ⟨⟨⟨by decide +kernel, by decide +kernel, by decide +kernel⟩, w_1540, w_79, by decide +kernel⟩, w_1538, w_1539⟩
abbrev mX10_tripNow : tw_M := (yX10_tripNow, cX10_tripNow, 10, (some .long), 9, 154)
theorem okX10_tripNow : tw_okV mX10_tripNow 4 := ⟨⟨⟨by decide +kernel, by decide +kernel, by decide +kernel⟩, w_1556, w_79, by decide +kernel⟩, w_1555, w_71⟩
abbrev mX10_trip : tw_M := (yX10_trip, cX10_trip, 5, (some .int), 10, 183)
theorem okX10_trip : tw_okV mX10_trip 4 := ⟨⟨⟨by decide +kernel, by decide +kernel, by decide +kernel⟩, w_1552, w_79, by decide +kernel⟩, w_1550, w_1551⟩
abbrev mX10_bestTripNow : tw_M := (yX10_bestTripNow, cX10_bestTripNow, 6, (some .int), 10, 183)
theorem okX10_bestTripNow : tw_okV mX10_bestTripNow 3 := ⟨⟨⟨by decide +kernel, by decide +kernel, by decide +kernel⟩, w_1564, w_79, by decide +kernel⟩, w_1563, w_72⟩
abbrev mX10_bestTrip : tw_M := (yX10_bestTrip, cX10_bestTrip, 4, (some .int), 11, 208)
theorem okX10_bestTrip : tw_okV mX10_bestTrip 3 := ⟨⟨⟨by decide +kernel, by decide +kernel, by decide +kernel⟩, w_1560, w_79, by decide +kernel⟩, w_1558, w_1559⟩
abbrev mX10_restNow : tw_M := (yX10_restNow, cX10_restNow, 4, (some .boolean), 11, 208)
theorem okX10_restNow : tw_okV mX10_restNow 1 := ⟨⟨⟨by decide +kernel, by decide +kernel, by decide +kernel⟩, w_1572, w_79, by decide +kernel⟩, w_1571, w_73⟩
abbrev mX10_rest : tw_M := (yX10_rest, cX10_rest, 2, (some .boolean), 12, 231)
theorem okX10_rest : tw_okV mX10_rest 1 := ⟨⟨⟨by decide +kernel, by decide +kernel, by decide +kernel⟩, w_1568, w_79, by decide +kernel⟩, w_1566, w_1567⟩
abbrev mX10_lastNow : tw_M := (yX10_lastNow, cX10_lastNow, 7, (some .int), 9, 154)
theorem okX10_lastNow : tw_okV mX10_lastNow 3 := ⟨⟨⟨by decide +kernel, by decide +kernel, by decide +kernel⟩, w_1580, w_79, by decide +kernel⟩, w_1579, w_74⟩
abbrev mX10_last : tw_M := (yX10_last, cX10_last, 4, (some .int), 10, 180)
theorem okX10_last : tw_okV mX10_last 3 := ⟨⟨⟨by decide +kernel, by decide +kernel, by decide +kernel⟩, w_1576, w_79, by decide +kernel⟩, w_1574, w_1575⟩
abbrev mX10_isSoundNow : tw_M := (yX10_isSoundNow, cX10_isSoundNow, 7, (some .boolean), 9, 160)
theorem okX10_isSoundNow : tw_okV mX10_isSoundNow 0 := ⟨⟨⟨by decide +kernel, by decide +kernel, by decide +kernel⟩, w_1588, w_79, by decide +kernel⟩, w_1587, w_75⟩
abbrev mX10_isSound : tw_M := (yX10_isSound, cX10_isSound, 1, (some .boolean), 10, 186)
theorem okX10_isSound : tw_okV mX10_isSound 0 := ⟨⟨⟨by decide +kernel, by decide +kernel, by decide +kernel⟩, w_1584, w_79, by decide +kernel⟩, w_1582, w_1583⟩
abbrev mX10_digest : tw_M := (yX10_digest, cX10_digest, 6, (some .long), 12, 231)
theorem okX10_digest : tw_okV mX10_digest 0 := ⟨⟨⟨by decide +kernel, by decide +kernel, by decide +kernel⟩, w_1592, w_79, by decide +kernel⟩, w_1590, w_1591⟩
abbrev mJ5_init_d00df : tw_M := (yJ5_init_d00df, cJ5_init_d00df, 2, none, 8, 130)
theorem okJ5_init_d00df : tw_okI mJ5_init_d00df 1 := ⟨⟨⟨by decide +kernel, by decide +kernel, by decide +kernel⟩, w_829, w_104, by decide +kernel⟩, w_828, rfl⟩
abbrev mJ5_length_8abf5 : tw_M := (yJ5_length_8abf5, cJ5_length_8abf5, 1, (some .int), 0, 0)
abbrev mJ5_ensureCapacityInternal_d00df : tw_M := (yJ5_ensureCapacityInternal_d00df, cJ5_ensureCapacityInternal_d00df, 3, none, 9, 160)
abbrev mJ5_newCapacity_0f7a4 : tw_M := (yJ5_newCapacity_0f7a4, cJ5_newCapacity_0f7a4, 6, (some .int), 8, 135)
abbrev mJ5_inflate_da8c8 : tw_M := (yJ5_inflate_da8c8, cJ5_inflate_da8c8, 2, none, 11, 206)
abbrev mJ5_append_cf1ce : tw_M := (yJ5_append_cf1ce, cJ5_append_cf1ce, 3, (some (.object "java/lang/AbstractStringBuilder")), 14, 270)
abbrev mJ5_appendNull_278bc : tw_M := (yJ5_appendNull_278bc, cJ5_appendNull_278bc, 3, (some (.object "java/lang/AbstractStringBuilder")), 10, 183)
abbrev mJ5_append_3fe6f : tw_M := (yJ5_append_3fe6f, cJ5_append_3fe6f, 2, (some (.object "java/lang/AbstractStringBuilder")), 12, 227)
abbrev mJ5_append_c97b9 : tw_M := (yJ5_append_c97b9, cJ5_append_c97b9, 4, (some (.object "java/lang/AbstractStringBuilder")), 10, 182)
abbrev mJ5_getValue_6d5f1 : tw_M := (yJ5_getValue_6d5f1, cJ5_getValue_6d5f1, 1, (some (.array .byte)), 0, 0)
abbrev mJ5_isLatin1_aae02 : tw_M := (yJ5_isLatin1_aae02, cJ5_isLatin1_aae02, 1, (some .boolean), 0, 0)
abbrev mJ5_inflateIfNeededFor_a7421 : tw_M := (yJ5_inflateIfNeededFor_a7421, cJ5_inflateIfNeededFor_a7421, 2, none, 12, 227)
abbrev mJ5_putStringAt_47b60 : tw_M := (yJ5_putStringAt_47b60, cJ5_putStringAt_47b60, 3, none, 13, 248)
abbrev mJ6_getChars_ba4f3 : tw_M := (yJ6_getChars_ba4f3, cJ6_getChars_ba4f3, 7, (some .int), 0, 0)
theorem okJ6_getChars_ba4f3 : tw_okS mJ6_getChars_ba4f3 3 := ⟨⟨⟨by decide +kernel, by decide +kernel, by decide +kernel⟩, w_903, w_109, by decide +kernel⟩, w_902⟩
abbrev mJ6_stringSize_0f7a4 : tw_M := (yJ6_stringSize_0f7a4, cJ6_stringSize_0f7a4, 4, (some .int), 0, 0)
theorem okJ6_stringSize_0f7a4 : tw_okS mJ6_stringSize_0f7a4 1 := ⟨⟨⟨by decide +kernel, by decide +kernel, by decide +kernel⟩, w_862, w_109, by decide +kernel⟩, w_861⟩
abbrev mJ9_max_7cf53 : tw_M := (yJ9_max_7cf53, cJ9_max_7cf53, 2, (some .int), 0, 0)
abbrev mJ9_min_7cf53 : tw_M := (yJ9_min_7cf53, cJ9_min_7cf53, 2, (some .int), 0, 0)
abbrev mJ0_init_81219 : tw_M := (yJ0_init_81219, cJ0_init_81219, 2, none, 21, 429)
theorem okJ0_init_81219 : tw_okI mJ0_init_81219 1 := ⟨⟨⟨by decide +kernel, by decide +kernel, by decide +kernel⟩, w_988, w_106, by decide +kernel⟩, w_987, rfl⟩
abbrev mJ0_length_8abf5 : tw_M := (yJ0_length_8abf5, cJ0_length_8abf5, 1, (some .int), 1, 20)
theorem okJ0_length_8abf5 : tw_okV mJ0_length_8abf5 0 := ⟨⟨⟨by decide +kernel, by decide +kernel, by decide +kernel⟩, w_1038, w_106, by decide +kernel⟩, w_1036, w_1037⟩
abbrev mJ0_getBytes_840e7 : tw_M := (yJ0_getBytes_840e7, cJ0_getBytes_840e7, 4, none, 11, 206)
theorem okJ0_getBytes_840e7 : tw_okV mJ0_getBytes_840e7 3 := ⟨⟨⟨by decide +kernel, by decide +kernel, by decide +kernel⟩, w_1056, w_106, by decide +kernel⟩, w_1054, w_1055⟩
abbrev mJ0_init_db425 : tw_M := (yJ0_init_db425, cJ0_init_db425, 5, none, 20, 405)
theorem okJ0_init_db425 : tw_okI mJ0_init_db425 2 := ⟨⟨⟨by decide +kernel, by decide +kernel, by decide +kernel⟩, w_991, w_106, by decide +kernel⟩, w_990, rfl⟩
abbrev mJ0_coder_7d493 : tw_M := (yJ0_coder_7d493, cJ0_coder_7d493, 1, (some .byte), 0, 0)
theorem okJ0_coder_7d493 : tw_okV mJ0_coder_7d493 0 := ⟨⟨⟨by decide +kernel, by decide +kernel, by decide +kernel⟩, w_1042, w_106, by decide +kernel⟩, w_1040, w_1041⟩
abbrev mJ0_checkIndex_df160 : tw_M := (yJ0_checkIndex_df160, cJ0_checkIndex_df160, 2, none, 7, 112)
theorem okJ0_checkIndex_df160 : tw_okS mJ0_checkIndex_df160 2 := ⟨⟨⟨by decide +kernel, by decide +kernel, by decide +kernel⟩, w_976, w_106, by decide +kernel⟩, w_975⟩
abbrev mJ0_checkBoundsOffCount_cabcc : tw_M := (yJ0_checkBoundsOffCount_cabcc, cJ0_checkBoundsOffCount_cabcc, 3, (some .int), 7, 113)
theorem okJ0_checkBoundsOffCount_cabcc : tw_okS mJ0_checkBoundsOffCount_cabcc 3 := ⟨⟨⟨by decide +kernel, by decide +kernel, by decide +kernel⟩, w_964, w_106, by decide +kernel⟩, w_963⟩
abbrev mJ0_checkBoundsBeginEnd_23922 : tw_M := (yJ0_checkBoundsBeginEnd_23922, cJ0_checkBoundsBeginEnd_23922, 3, none, 7, 113)
theorem okJ0_checkBoundsBeginEnd_23922 : tw_okS mJ0_checkBoundsBeginEnd_23922 3 := ⟨⟨⟨by decide +kernel, by decide +kernel, by decide +kernel⟩, w_919, w_106, by decide +kernel⟩, w_918⟩
abbrev mJ4_init_da8c8 : tw_M := (yJ4_init_da8c8, cJ4_init_da8c8, 1, none, 9, 151)
theorem okJ4_init_da8c8 : tw_okI mJ4_init_da8c8 0 := ⟨⟨⟨by decide +kernel, by decide +kernel, by decide +kernel⟩, w_826, w_105, by decide +kernel⟩, w_825, rfl⟩
abbrev mJ4_append_15ec4 : tw_M := (yJ4_append_15ec4, cJ4_append_15ec4, 2, (some (.object "java/lang/StringBuilder")), 15, 292)
theorem okJ4_append_15ec4 : tw_okV mJ4_append_15ec4 1 := ⟨⟨⟨by decide +kernel, by decide +kernel, by decide +kernel⟩, w_1024, w_105, by decide +kernel⟩, w_1022, w_1023⟩
abbrev mJ4_append_cf468 : tw_M := (yJ4_append_cf468, cJ4_append_cf468, 2, (some (.object "java/lang/StringBuilder")), 13, 248)
theorem okJ4_append_cf468 : tw_okV mJ4_append_cf468 1 := ⟨⟨⟨by decide +kernel, by decide +kernel, by decide +kernel⟩, w_942, w_105, by decide +kernel⟩, w_940, w_941⟩
abbrev mJ4_append_bf812 : tw_M := (yJ4_append_bf812, cJ4_append_bf812, 2, (some (.object "java/lang/StringBuilder")), 11, 205)
theorem okJ4_append_bf812 : tw_okV mJ4_append_bf812 1 := ⟨⟨⟨by decide +kernel, by decide +kernel, by decide +kernel⟩, w_856, w_105, by decide +kernel⟩, w_854, w_855⟩
abbrev mJ4_toString_0e30d : tw_M := (yJ4_toString_0e30d, cJ4_toString_0e30d, 1, (some (.object "java/lang/String")), 22, 450)
theorem okJ4_toString_0e30d : tw_okV mJ4_toString_0e30d 0 := ⟨⟨⟨by decide +kernel, by decide +kernel, by decide +kernel⟩, w_983, w_105, by decide +kernel⟩, w_981, w_982⟩
abbrev mJ4_length_8abf5 : tw_M := (yJ4_length_8abf5, cJ4_length_8abf5, 1, (some .int), 1, 20)
abbrev mJ1_canEncode_fc78d : tw_M := (yJ1_canEncode_fc78d, cJ1_canEncode_fc78d, 1, (some .boolean), 0, 0)
theorem okJ1_canEncode_fc78d : tw_okS mJ1_canEncode_fc78d 1 := ⟨⟨⟨by decide +kernel, by decide +kernel, by decide +kernel⟩, w_948, w_110, by decide +kernel⟩, w_947⟩
abbrev mJ1_inflate_0e8fd : tw_M := (yJ1_inflate_0e8fd, cJ1_inflate_0e8fd, 5, none, 10, 182)
theorem okJ1_inflate_0e8fd : tw_okS mJ1_inflate_0e8fd 5 := ⟨⟨⟨by decide +kernel, by decide +kernel, by decide +kernel⟩, w_955, w_110, by decide +kernel⟩, w_954⟩
abbrev mJ2_newBytesFor_77867 : tw_M := (yJ2_newBytesFor_77867, cJ2_newBytesFor_77867, 1, (some (.array .byte)), 7, 110)
theorem okJ2_newBytesFor_77867 : tw_okS mJ2_newBytesFor_77867 1 := ⟨⟨⟨by decide +kernel, by decide +kernel, by decide +kernel⟩, w_835, w_107, by decide +kernel⟩, w_834⟩
abbrev mJ2_newBytesLength_0f7a4 : tw_M := (yJ2_newBytesLength_0f7a4, cJ2_newBytesLength_0f7a4, 1, (some .int), 6, 90)
theorem okJ2_newBytesLength_0f7a4 : tw_okS mJ2_newBytesLength_0f7a4 1 := ⟨⟨⟨by decide +kernel, by decide +kernel, by decide +kernel⟩, w_838, w_107, by decide +kernel⟩, w_837⟩
abbrev mJ2_putChar_b72d1 : tw_M := (yJ2_putChar_b72d1, cJ2_putChar_b72d1, 3, none, 6, 90)
theorem okJ2_putChar_b72d1 : tw_okS mJ2_putChar_b72d1 3 := ⟨⟨⟨by decide +kernel, by decide +kernel, by decide +kernel⟩, w_931, w_107, by decide +kernel⟩, w_930⟩
abbrev mJ2_getChar_3b067 : tw_M := (yJ2_getChar_3b067, cJ2_getChar_3b067, 2, (some .char), 6, 90)
theorem okJ2_getChar_3b067 : tw_okS mJ2_getChar_3b067 2 := ⟨⟨⟨by decide +kernel, by decide +kernel, by decide +kernel⟩, w_1069, w_107, by decide +kernel⟩, w_1068⟩
abbrev mJ2_length_9d52b : tw_M := (yJ2_length_9d52b, cJ2_length_9d52b, 1, (some .int), 0, 0)
theorem okJ2_length_9d52b : tw_okS mJ2_length_9d52b 1 := ⟨⟨⟨by decide +kernel, by decide +kernel, by decide +kernel⟩, w_916, w_107, by decide +kernel⟩, w_915⟩
abbrev mJ2_coderFromArrayLen_85cad : tw_M := (yJ2_coderFromArrayLen_85cad, cJ2_coderFromArrayLen_85cad, 2, (some .byte), 0, 0)
theorem okJ2_coderFromArrayLen_85cad : tw_okS mJ2_coderFromArrayLen_85cad 2 := ⟨⟨⟨by decide +kernel, by decide +kernel, by decide +kernel⟩, w_1073, w_107, by decide +kernel⟩, w_1072⟩
abbrev mJ2_compress_39247 : tw_M := (yJ2_compress_39247, cJ2_compress_39247, 6, (some (.array .byte)), 19, 380)
theorem okJ2_compress_39247 : tw_okS mJ2_compress_39247 3 := ⟨⟨⟨by decide +kernel, by decide +kernel, by decide +kernel⟩, w_1063, w_107, by decide +kernel⟩, w_1062⟩
abbrev mJ2_compress_5af95 : tw_M := (yJ2_compress_5af95, cJ2_compress_5af95, 7, (some .int), 9, 157)
theorem okJ2_compress_5af95 : tw_okS mJ2_compress_5af95 5 := ⟨⟨⟨by decide +kernel, by decide +kernel, by decide +kernel⟩, w_1066, w_107, by decide +kernel⟩, w_1065⟩
abbrev mJ2_putCharSB_b72d1 : tw_M := (yJ2_putCharSB_b72d1, cJ2_putCharSB_b72d1, 3, none, 9, 154)
theorem okJ2_putCharSB_b72d1 : tw_okS mJ2_putCharSB_b72d1 3 := ⟨⟨⟨by decide +kernel, by decide +kernel, by decide +kernel⟩, w_970, w_107, by decide +kernel⟩, w_969⟩
abbrev mJ2_getChars_46870 : tw_M := (yJ2_getChars_46870, cJ2_getChars_46870, 5, (some .int), 9, 157)
theorem okJ2_getChars_46870 : tw_okS mJ2_getChars_46870 4 := ⟨⟨⟨by decide +kernel, by decide +kernel, by decide +kernel⟩, w_910, w_107, by decide +kernel⟩, w_909⟩
abbrev mJ2_putCharsAt_cd4e5 : tw_M := (yJ2_putCharsAt_cd4e5, cJ2_putCharsAt_cd4e5, 7, (some .int), 9, 157)
theorem okJ2_putCharsAt_cd4e5 : tw_okS mJ2_putCharsAt_cd4e5 6 := ⟨⟨⟨by decide +kernel, by decide +kernel, by decide +kernel⟩, w_1034, w_107, by decide +kernel⟩, w_1033⟩
abbrev mJ2_inflate_0e8fd : tw_M := (yJ2_inflate_0e8fd, cJ2_inflate_0e8fd, 6, none, 9, 157)
theorem okJ2_inflate_0e8fd : tw_okS mJ2_inflate_0e8fd 5 := ⟨⟨⟨by decide +kernel, by decide +kernel, by decide +kernel⟩, w_958, w_107, by decide +kernel⟩, w_957⟩
abbrev mJ2_getChars_ba4f3 : tw_M := (yJ2_getChars_ba4f3, cJ2_getChars_ba4f3, 7, (some .int), 7, 112)
theorem okJ2_getChars_ba4f3 : tw_okS mJ2_getChars_ba4f3 3 := ⟨⟨⟨by decide +kernel, by decide +kernel, by decide +kernel⟩, w_927, w_107, by decide +kernel⟩, w_926⟩
abbrev mJ2_checkIndex_2214a : tw_M := (yJ2_checkIndex_2214a, cJ2_checkIndex_2214a, 2, none, 8, 133)
theorem okJ2_checkIndex_2214a : tw_okS mJ2_checkIndex_2214a 2 := ⟨⟨⟨by decide +kernel, by decide +kernel, by decide +kernel⟩, w_973, w_107, by decide +kernel⟩, w_972⟩
abbrev mJ2_checkBoundsBeginEnd_d044e : tw_M := (yJ2_checkBoundsBeginEnd_d044e, cJ2_checkBoundsBeginEnd_d044e, 3, none, 8, 135)
theorem okJ2_checkBoundsBeginEnd_d044e : tw_okS mJ2_checkBoundsBeginEnd_d044e 3 := ⟨⟨⟨by decide +kernel, by decide +kernel, by decide +kernel⟩, w_913, w_107, by decide +kernel⟩, w_912⟩
abbrev mJ2_checkBoundsOffCount_d044e : tw_M := (yJ2_checkBoundsOffCount_d044e, cJ2_checkBoundsOffCount_d044e, 3, none, 8, 135)
theorem okJ2_checkBoundsOffCount_d044e : tw_okS mJ2_checkBoundsOffCount_d044e 3 := ⟨⟨⟨by decide +kernel, by decide +kernel, by decide +kernel⟩, w_961, w_107, by decide +kernel⟩, w_960⟩
abbrev mJxa1e45_init_da8c8 : tw_M := (yJxa1e45_init_da8c8, cJxa1e45_init_da8c8, 1, none, 1, 20)
theorem okJxa1e45_init_da8c8 : tw_okI mJxa1e45_init_da8c8 0 := ⟨⟨⟨by decide +kernel, by decide +kernel, by decide +kernel⟩, w_1131, w_80, by decide +kernel⟩, w_1130, rfl⟩
abbrev mJxc12de_init_da8c8 : tw_M := (yJxc12de_init_da8c8, cJxc12de_init_da8c8, 1, none, 2, 40)
theorem okJxc12de_init_da8c8 : tw_okI mJxc12de_init_da8c8 0 := ⟨⟨⟨by decide +kernel, by decide +kernel, by decide +kernel⟩, w_1128, w_81, by decide +kernel⟩, w_1127, rfl⟩
abbrev mJx35411_init_45d68 : tw_M := (yJx35411_init_45d68, cJx35411_init_45d68, 2, none, 1, 20)
theorem okJx35411_init_45d68 : tw_okI mJx35411_init_45d68 1 := ⟨⟨⟨by decide +kernel, by decide +kernel, by decide +kernel⟩, w_1390, w_101, by decide +kernel⟩, w_1389, rfl⟩
abbrev mJx35411_hasNext_aae02 : tw_M := (yJx35411_hasNext_aae02, cJx35411_hasNext_aae02, 1, (some .boolean), 0, 0)
abbrev mJx35411_next_0502b : tw_M := (yJx35411_next_0502b, cJx35411_next_0502b, 3, (some (.object "java/lang/Object")), 7, 110)
abbrev mJx35411_checkForComodification_da8c8 : tw_M := (yJx35411_checkForComodification_da8c8, cJx35411_checkForComodification_da8c8, 1, none, 6, 90)
theorem okJx35411_checkForComodification_da8c8 : tw_okV mJx35411_checkForComodification_da8c8 0 := ⟨⟨⟨by decide +kernel, by decide +kernel, by decide +kernel⟩, w_1427, w_101, by decide +kernel⟩, w_1425, w_1426⟩
abbrev mJx4a65c_init_da8c8 : tw_M := (yJx4a65c_init_da8c8, cJx4a65c_init_da8c8, 1, none, 3, 60)
theorem okJx4a65c_init_da8c8 : tw_okI mJx4a65c_init_da8c8 0 := ⟨⟨⟨by decide +kernel, by decide +kernel, by decide +kernel⟩, w_1125, w_82, by decide +kernel⟩, w_1124, rfl⟩
abbrev mJx4a65c_grow_92f84 : tw_M := (yJx4a65c_grow_92f84, cJx4a65c_grow_92f84, 4, (some (.array ((.object "java/lang/Object")))), 8, 135)
theorem okJx4a65c_grow_92f84 : tw_okV mJx4a65c_grow_92f84 1 := ⟨⟨⟨by decide +kernel, by decide +kernel, by decide +kernel⟩, w_1249, w_82, by decide +kernel⟩, w_1248, w_57⟩
abbrev mJx4a65c_grow_d5877 : tw_M := (yJx4a65c_grow_d5877, cJx4a65c_grow_d5877, 1, (some (.array ((.object "java/lang/Object")))), 9, 158)
theorem okJx4a65c_grow_d5877 : tw_okV mJx4a65c_grow_d5877 0 := ⟨⟨⟨by decide +kernel, by decide +kernel, by decide +kernel⟩, w_1245, w_82, by decide +kernel⟩, w_1244, w_56⟩
abbrev mJx4a65c_size_8abf5 : tw_M := (yJx4a65c_size_8abf5, cJx4a65c_size_8abf5, 1, (some .int), 0, 0)
theorem okJx4a65c_size_8abf5 : tw_okV mJx4a65c_size_8abf5 0 := ⟨⟨⟨by decide +kernel, by decide +kernel, by decide +kernel⟩, w_1207, w_82, by decide +kernel⟩, w_1205, w_1206⟩
abbrev mJx4a65c_elementData_915e3 : tw_M := (yJx4a65c_elementData_915e3, cJx4a65c_elementData_915e3, 2, (some (.object "java/lang/Object")), 0, 0)
theorem okJx4a65c_elementData_915e3 : tw_okV mJx4a65c_elementData_915e3 1 := ⟨⟨⟨by decide +kernel, by decide +kernel, by decide +kernel⟩, w_1303, w_82, by decide +kernel⟩, w_1301, w_1302⟩
abbrev mJx4a65c_get_915e3 : tw_M := (yJx4a65c_get_915e3, cJx4a65c_get_915e3, 2, (some (.object "java/lang/Object")), 8, 133)
theorem okJx4a65c_get_915e3 : tw_okV mJx4a65c_get_915e3 1 := ⟨⟨⟨by decide +kernel, by decide +kernel, by decide +kernel⟩, w_1295, w_82, by decide +kernel⟩, w_1293, w_1294⟩
abbrev mJx4a65c_add_72be8 : tw_M := (yJx4a65c_add_72be8, cJx4a65c_add_72be8, 4, none, 10, 178)
theorem okJx4a65c_add_72be8 : tw_okV mJx4a65c_add_72be8 3 := ⟨⟨⟨by decide +kernel, by decide +kernel, by decide +kernel⟩, w_1241, w_82, by decide +kernel⟩, w_1240, w_55⟩
abbrev mJx4a65c_add_9ea2d : tw_M := (yJx4a65c_add_9ea2d, cJx4a65c_add_9ea2d, 2, (some .boolean), 11, 201)
theorem okJx4a65c_add_9ea2d : tw_okV mJx4a65c_add_9ea2d 1 := ⟨⟨⟨by decide +kernel, by decide +kernel, by decide +kernel⟩, w_1237, w_82, by decide +kernel⟩, w_1235, w_1236⟩
abbrev mJx4a65c_iterator_32c93 : tw_M := (yJx4a65c_iterator_32c93, cJx4a65c_iterator_32c93, 1, (some (.object "java/util/Iterator")), 2, 41)
theorem okJx4a65c_iterator_32c93 : tw_okV mJx4a65c_iterator_32c93 0 := ⟨⟨⟨by decide +kernel, by decide +kernel, by decide +kernel⟩, w_1385, w_82, by decide +kernel⟩, w_1383, w_1384⟩
abbrev mJ7_copyOf_1904c : tw_M := (yJ7_copyOf_1904c, cJ7_copyOf_1904c, 2, (some (.array ((.object "java/lang/Object")))), 2, 44)
theorem okJ7_copyOf_1904c : tw_okS mJ7_copyOf_1904c 2 := ⟨⟨⟨by decide +kernel, by decide +kernel, by decide +kernel⟩, w_1253, w_94, by decide +kernel⟩, w_1252⟩
abbrev mJ7_copyOf_6403c : tw_M := (yJ7_copyOf_6403c, cJ7_copyOf_6403c, 4, (some (.array ((.object "java/lang/Object")))), 1, 21)
theorem okJ7_copyOf_6403c : tw_okS mJ7_copyOf_6403c 3 := ⟨⟨⟨by decide +kernel, by decide +kernel, by decide +kernel⟩, w_1278, w_94, by decide +kernel⟩, w_1277⟩
abbrev mJ7_copyOf_9075b : tw_M := (yJ7_copyOf_9075b, cJ7_copyOf_9075b, 3, (some (.array .byte)), 1, 21)
theorem okJ7_copyOf_9075b : tw_okS mJ7_copyOf_9075b 2 := ⟨⟨⟨by decide +kernel, by decide +kernel, by decide +kernel⟩, w_884, w_94, by decide +kernel⟩, w_883⟩
abbrev mJ7_checkLength_df160 : tw_M := (yJ7_checkLength_df160, cJ7_checkLength_df160, 2, none, 16, 313)
theorem okJ7_checkLength_df160 : tw_okS mJ7_checkLength_df160 2 := ⟨⟨⟨by decide +kernel, by decide +kernel, by decide +kernel⟩, w_1015, w_94, by decide +kernel⟩, w_1014⟩
abbrev mJ7_copyOfRange_39247 : tw_M := (yJ7_copyOfRange_39247, cJ7_copyOfRange_39247, 3, (some (.array .byte)), 18, 358)
theorem okJ7_copyOfRange_39247 : tw_okS mJ7_copyOfRange_39247 3 := ⟨⟨⟨by decide +kernel, by decide +kernel, by decide +kernel⟩, w_1009, w_94, by decide +kernel⟩, w_1008⟩
abbrev mJ7_copyOfRangeByte_39247 : tw_M := (yJ7_copyOfRangeByte_39247, cJ7_copyOfRangeByte_39247, 5, (some (.array .byte)), 17, 334)
theorem okJ7_copyOfRangeByte_39247 : tw_okS mJ7_copyOfRangeByte_39247 3 := ⟨⟨⟨by decide +kernel, by decide +kernel, by decide +kernel⟩, w_1012, w_94, by decide +kernel⟩, w_1011⟩
abbrev mJ15_checkIndex_7cf53 : tw_M := (yJ15_checkIndex_7cf53, cJ15_checkIndex_7cf53, 2, (some .int), 7, 112)
theorem okJ15_checkIndex_7cf53 : tw_okS mJ15_checkIndex_7cf53 2 := ⟨⟨⟨by decide +kernel, by decide +kernel, by decide +kernel⟩, w_1298, w_97, by decide +kernel⟩, w_1297⟩
abbrev mJ8_newLength_cabcc : tw_M := (yJ8_newLength_cabcc, cJ8_newLength_cabcc, 4, (some .int), 7, 112)
theorem okJ8_newLength_cabcc : tw_okS mJ8_newLength_cabcc 3 := ⟨⟨⟨by decide +kernel, by decide +kernel, by decide +kernel⟩, w_873, w_92, by decide +kernel⟩, w_872⟩
abbrev mJ8_hugeLength_7cf53 : tw_M := (yJ8_hugeLength_7cf53, cJ8_hugeLength_7cf53, 3, (some .int), 6, 90)
theorem okJ8_hugeLength_7cf53 : tw_okS mJ8_hugeLength_7cf53 2 := ⟨⟨⟨by decide +kernel, by decide +kernel, by decide +kernel⟩, w_880, w_92, by decide +kernel⟩, w_879⟩
abbrev mJ3_checkIndex_8e157 : tw_M := (yJ3_checkIndex_8e157, cJ3_checkIndex_8e157, 3, (some .int), 6, 90)
theorem okJ3_checkIndex_8e157 : tw_okS mJ3_checkIndex_8e157 3 := ⟨⟨⟨by decide +kernel, by decide +kernel, by decide +kernel⟩, w_979, w_98, by decide +kernel⟩, w_978⟩
abbrev mJ3_checkFromToIndex_8c36e : tw_M := (yJ3_checkFromToIndex_8c36e, cJ3_checkFromToIndex_8c36e, 4, (some .int), 6, 90)
theorem okJ3_checkFromToIndex_8c36e : tw_okS mJ3_checkFromToIndex_8c36e 4 := ⟨⟨⟨by decide +kernel, by decide +kernel, by decide +kernel⟩, w_924, w_98, by decide +kernel⟩, w_923⟩
abbrev mJ3_checkFromIndexSize_8c36e : tw_M := (yJ3_checkFromIndexSize_8c36e, cJ3_checkFromIndexSize_8c36e, 4, (some .int), 6, 90)
theorem okJ3_checkFromIndexSize_8c36e : tw_okS mJ3_checkFromIndexSize_8c36e 4 := ⟨⟨⟨by decide +kernel, by decide +kernel, by decide +kernel⟩, w_967, w_98, by decide +kernel⟩, w_966⟩
theorem at_ISE : ∀ w ∈ vx_atS RX5 64 "java/lang/IllegalStateException" ["java/lang/RuntimeException", "java/lang/Exception"], (goodWord w = true → w ∈ TW) ∧ (goodWord w = false → w ∈ tw_NG) := by decide +kernel
theorem at_IOE : ∀ w ∈ vx_atS RX5 229 "java/lang/IndexOutOfBoundsException" ["java/lang/RuntimeException", "java/lang/Exception"], (goodWord w = true → w ∈ TW) ∧ (goodWord w = false → w ∈ tw_NG) := by decide +kernel
theorem at_IAE : ∀ w ∈ vx_atS RX5 401 "java/lang/IllegalArgumentException" ["java/lang/RuntimeException", "java/lang/Exception"], (goodWord w = true → w ∈ TW) ∧ (goodWord w = false → w ∈ tw_NG) := by decide +kernel
section
variable {d : tw_D} {M : tw_M} {Q : tw_O → tw_H → Prop} {pc : Nat} {lv : List (Nat × Value)} {st : List Value} {h : tw_H} {c n : Nat}
/-- a computed number gets a name -/
theorem tw_nmi {x : Int32} (k : ∀ y : Int32, y = x → tw_W d M Q pc lv (.int y :: st) h c n) : tw_W d M Q pc lv (.int x :: st) h c n := k x rfl
theorem tw_nml {x : Int64} (k : ∀ y : Int64, y = x → tw_W d M Q pc lv (.long y :: st) h c n) : tw_W d M Q pc lv (.long x :: st) h c n := k x rfl
end
theorem tw_ne {h : tw_H} {a b : Nat} {e f : va_E} (ha : h a = some e) (hb : h b = some f) (hn : e ≠ f) : a ≠ b := fun q => hn (by subst q; exact Option.some.inj (ha.symm.trans hb))
theorem tw_neF {h : tw_H} {a b : Nat} {e : va_E} (ha : h a = some e) (hb : h b = none) : a ≠ b := fun q => by subst q; rw [ha] at hb; cases hb
