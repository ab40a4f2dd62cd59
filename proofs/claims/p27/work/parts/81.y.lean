/-! all methods of the table are good -/
def im_gd (M : im_M) : Prop := im_okC im_ms M = true ∧ im_okM M = true ∧ (M.1.name = "<init>" → M.2.2.2.1 = none)
theorem gdX0_init : im_gd mX0_init := ⟨okX0_init, omX0_init, fun _ => rfl⟩
theorem gdX0_setHands : im_gd mX0_setHands := ⟨okX0_setHands, omX0_setHands, fun h => absurd h (by decide +kernel)⟩
theorem gdX0_weakOf : im_gd mX0_weakOf := ⟨okX0_weakOf, omX0_weakOf, fun h => absurd h (by decide +kernel)⟩
theorem gdX0_said : im_gd mX0_said := ⟨okX0_said, omX0_said, fun h => absurd h (by decide +kernel)⟩
theorem gdX0_passes : im_gd mX0_passes := ⟨okX0_passes, omX0_passes, fun h => absurd h (by decide +kernel)⟩
theorem gdX0_cellByDay : im_gd mX0_cellByDay := ⟨okX0_cellByDay, omX0_cellByDay, fun h => absurd h (by decide +kernel)⟩
theorem gdX0_livingKin : im_gd mX0_livingKin := ⟨okX0_livingKin, omX0_livingKin, fun h => absurd h (by decide +kernel)⟩
theorem gdX0_playDay : im_gd mX0_playDay := ⟨okX0_playDay, omX0_playDay, fun h => absurd h (by decide +kernel)⟩
theorem gdX0_workRow : im_gd mX0_workRow := ⟨okX0_workRow, omX0_workRow, fun h => absurd h (by decide +kernel)⟩
theorem gdX0_passOn : im_gd mX0_passOn := ⟨okX0_passOn, omX0_passOn, fun h => absurd h (by decide +kernel)⟩
theorem gdX0_bring : im_gd mX0_bring := ⟨okX0_bring, omX0_bring, fun h => absurd h (by decide +kernel)⟩
theorem gdX0_driveRail : im_gd mX0_driveRail := ⟨okX0_driveRail, omX0_driveRail, fun h => absurd h (by decide +kernel)⟩
theorem gdX0_wearOf : im_gd mX0_wearOf := ⟨okX0_wearOf, omX0_wearOf, fun h => absurd h (by decide +kernel)⟩
theorem gdX0_wearsOut : im_gd mX0_wearsOut := ⟨okX0_wearsOut, omX0_wearsOut, fun h => absurd h (by decide +kernel)⟩
theorem gdX0_fall : im_gd mX0_fall := ⟨okX0_fall, omX0_fall, fun h => absurd h (by decide +kernel)⟩
theorem gdX0_heal : im_gd mX0_heal := ⟨okX0_heal, omX0_heal, fun h => absurd h (by decide +kernel)⟩
theorem gdX0_daysUntilFall : im_gd mX0_daysUntilFall := ⟨okX0_daysUntilFall, omX0_daysUntilFall, fun h => absurd h (by decide +kernel)⟩
theorem gdX1_init : im_gd mX1_init := ⟨okX1_init, omX1_init, fun _ => rfl⟩
theorem gdX1_holds : im_gd mX1_holds := ⟨okX1_holds, omX1_holds, fun h => absurd h (by decide +kernel)⟩
theorem gdX2_init : im_gd mX2_init := ⟨okX2_init, omX2_init, fun _ => rfl⟩
theorem gdX2_ownerOf : im_gd mX2_ownerOf := ⟨okX2_ownerOf, omX2_ownerOf, fun h => absurd h (by decide +kernel)⟩
theorem gdX2_isKnown : im_gd mX2_isKnown := ⟨okX2_isKnown, omX2_isKnown, fun h => absurd h (by decide +kernel)⟩
theorem gdX3_init : im_gd mX3_init := ⟨okX3_init, omX3_init, fun _ => rfl⟩
theorem gdX3_find : im_gd mX3_find := ⟨okX3_find, omX3_find, fun h => absurd h (by decide +kernel)⟩
theorem gdX3_countLate : im_gd mX3_countLate := ⟨okX3_countLate, omX3_countLate, fun h => absurd h (by decide +kernel)⟩
theorem gdX3_keep : im_gd mX3_keep := ⟨okX3_keep, omX3_keep, fun h => absurd h (by decide +kernel)⟩
theorem gdX3_goOn : im_gd mX3_goOn := ⟨okX3_goOn, omX3_goOn, fun h => absurd h (by decide +kernel)⟩
theorem gdX3_swap : im_gd mX3_swap := ⟨okX3_swap, omX3_swap, fun h => absurd h (by decide +kernel)⟩
theorem gdX4_init : im_gd mX4_init := ⟨okX4_init, omX4_init, fun _ => rfl⟩
theorem gdX4_begin : im_gd mX4_begin := ⟨okX4_begin, omX4_begin, fun h => absurd h (by decide +kernel)⟩
theorem gdX4_isOver : im_gd mX4_isOver := ⟨okX4_isOver, omX4_isOver, fun h => absurd h (by decide +kernel)⟩
theorem gdX4_leftOver : im_gd mX4_leftOver := ⟨okX4_leftOver, omX4_leftOver, fun h => absurd h (by decide +kernel)⟩
theorem gdX4_find : im_gd mX4_find := ⟨okX4_find, omX4_find, fun h => absurd h (by decide +kernel)⟩
theorem gdX4_chance : im_gd mX4_chance := ⟨okX4_chance, omX4_chance, fun h => absurd h (by decide +kernel)⟩
theorem gdX4_likeliest : im_gd mX4_likeliest := ⟨okX4_likeliest, omX4_likeliest, fun h => absurd h (by decide +kernel)⟩
theorem gdX5_init : im_gd mX5_init := ⟨okX5_init, omX5_init, fun _ => rfl⟩
theorem gdX6_init : im_gd mX6_init := ⟨okX6_init, omX6_init, fun _ => rfl⟩
theorem gdX6_findBest : im_gd mX6_findBest := ⟨okX6_findBest, omX6_findBest, fun h => absurd h (by decide +kernel)⟩
theorem gdX6_choose : im_gd mX6_choose := ⟨okX6_choose, omX6_choose, fun h => absurd h (by decide +kernel)⟩
theorem gdX7_init : im_gd mX7_init := ⟨okX7_init, omX7_init, fun _ => rfl⟩
theorem gdX8_init : im_gd mX8_init := ⟨okX8_init, omX8_init, fun _ => rfl⟩
theorem gdX8_isMissing : im_gd mX8_isMissing := ⟨okX8_isMissing, omX8_isMissing, fun h => absurd h (by decide +kernel)⟩
theorem gdX8_put : im_gd mX8_put := ⟨okX8_put, omX8_put, fun h => absurd h (by decide +kernel)⟩
theorem gdX8_holds : im_gd mX8_holds := ⟨okX8_holds, omX8_holds, fun h => absurd h (by decide +kernel)⟩
theorem gdX8_hasAheadOf : im_gd mX8_hasAheadOf := ⟨okX8_hasAheadOf, omX8_hasAheadOf, fun h => absurd h (by decide +kernel)⟩
theorem gdX9_init : im_gd mX9_init := ⟨okX9_init, omX9_init, fun _ => rfl⟩
theorem gdX9_become : im_gd mX9_become := ⟨okX9_become, omX9_become, fun h => absurd h (by decide +kernel)⟩
theorem gdX9_allLoads : im_gd mX9_allLoads := ⟨okX9_allLoads, omX9_allLoads, fun h => absurd h (by decide +kernel)⟩
theorem gdX9_allDead : im_gd mX9_allDead := ⟨okX9_allDead, omX9_allDead, fun h => absurd h (by decide +kernel)⟩
theorem gdX9_allHurt : im_gd mX9_allHurt := ⟨okX9_allHurt, omX9_allHurt, fun h => absurd h (by decide +kernel)⟩
theorem gdX10_init : im_gd mX10_init := ⟨okX10_init, omX10_init, fun _ => rfl⟩
theorem gdX10_readInto : im_gd mX10_readInto := ⟨okX10_readInto, omX10_readInto, fun h => absurd h (by decide +kernel)⟩
theorem gdX10_readLine : im_gd mX10_readLine := ⟨okX10_readLine, omX10_readLine, fun h => absurd h (by decide +kernel)⟩
theorem gdX10_readIf : im_gd mX10_readIf := ⟨okX10_readIf, omX10_readIf, fun h => absurd h (by decide +kernel)⟩
theorem gdX10_readTests : im_gd mX10_readTests := ⟨okX10_readTests, omX10_readTests, fun h => absurd h (by decide +kernel)⟩
theorem gdX10_readTest : im_gd mX10_readTest := ⟨okX10_readTest, omX10_readTest, fun h => absurd h (by decide +kernel)⟩
theorem gdX10_readSign : im_gd mX10_readSign := ⟨okX10_readSign, omX10_readSign, fun h => absurd h (by decide +kernel)⟩
theorem gdX10_readNumber : im_gd mX10_readNumber := ⟨okX10_readNumber, omX10_readNumber, fun h => absurd h (by decide +kernel)⟩
theorem gdX10_readWord : im_gd mX10_readWord := ⟨okX10_readWord, omX10_readWord, fun h => absurd h (by decide +kernel)⟩
theorem gdX10_byteAt : im_gd mX10_byteAt := ⟨okX10_byteAt, omX10_byteAt, fun h => absurd h (by decide +kernel)⟩
theorem gdX11_init : im_gd mX11_init := ⟨okX11_init, omX11_init, fun _ => rfl⟩
theorem gdX11_ruin : im_gd mX11_ruin := ⟨okX11_ruin, omX11_ruin, fun h => absurd h (by decide +kernel)⟩
theorem gdX11_person : im_gd mX11_person := ⟨okX11_person, omX11_person, fun h => absurd h (by decide +kernel)⟩
theorem gdX11_moves : im_gd mX11_moves := ⟨okX11_moves, omX11_moves, fun h => absurd h (by decide +kernel)⟩
theorem gdX11_wall : im_gd mX11_wall := ⟨okX11_wall, omX11_wall, fun h => absurd h (by decide +kernel)⟩
theorem gdX11_weather : im_gd mX11_weather := ⟨okX11_weather, omX11_weather, fun h => absurd h (by decide +kernel)⟩
theorem gdX11_tip : im_gd mX11_tip := ⟨okX11_tip, omX11_tip, fun h => absurd h (by decide +kernel)⟩
theorem gdX11_row : im_gd mX11_row := ⟨okX11_row, omX11_row, fun h => absurd h (by decide +kernel)⟩
theorem gdX11_refusalOfHands : im_gd mX11_refusalOfHands := ⟨okX11_refusalOfHands, omX11_refusalOfHands, fun h => absurd h (by decide +kernel)⟩
theorem gdX11_rail : im_gd mX11_rail := ⟨okX11_rail, omX11_rail, fun h => absurd h (by decide +kernel)⟩
theorem gdX11_isWay : im_gd mX11_isWay := ⟨okX11_isWay, omX11_isWay, fun h => absurd h (by decide +kernel)⟩
theorem gdX11_room : im_gd mX11_room := ⟨okX11_room, omX11_room, fun h => absurd h (by decide +kernel)⟩
theorem gdX11_feed : im_gd mX11_feed := ⟨okX11_feed, omX11_feed, fun h => absurd h (by decide +kernel)⟩
theorem gdX11_order : im_gd mX11_order := ⟨okX11_order, omX11_order, fun h => absurd h (by decide +kernel)⟩
theorem gdX11_force : im_gd mX11_force := ⟨okX11_force, omX11_force, fun h => absurd h (by decide +kernel)⟩
theorem gdX11_says : im_gd mX11_says := ⟨okX11_says, omX11_says, fun h => absurd h (by decide +kernel)⟩
theorem gdX11_run : im_gd mX11_run := ⟨okX11_run, omX11_run, fun h => absurd h (by decide +kernel)⟩
theorem gdX11_cellTold : im_gd mX11_cellTold := ⟨okX11_cellTold, omX11_cellTold, fun h => absurd h (by decide +kernel)⟩
theorem gdX11_kindTold : im_gd mX11_kindTold := ⟨okX11_kindTold, omX11_kindTold, fun h => absurd h (by decide +kernel)⟩
theorem gdX11_personTold : im_gd mX11_personTold := ⟨okX11_personTold, omX11_personTold, fun h => absurd h (by decide +kernel)⟩
theorem gdX11_rowTold : im_gd mX11_rowTold := ⟨okX11_rowTold, omX11_rowTold, fun h => absurd h (by decide +kernel)⟩
theorem gdX11_railTold : im_gd mX11_railTold := ⟨okX11_railTold, omX11_railTold, fun h => absurd h (by decide +kernel)⟩
theorem gdX11_wallTold : im_gd mX11_wallTold := ⟨okX11_wallTold, omX11_wallTold, fun h => absurd h (by decide +kernel)⟩
theorem gdX11_count : im_gd mX11_count := ⟨okX11_count, omX11_count, fun h => absurd h (by decide +kernel)⟩
theorem gdX11_pull : im_gd mX11_pull := ⟨okX11_pull, omX11_pull, fun h => absurd h (by decide +kernel)⟩
theorem gdX11_pulls : im_gd mX11_pulls := ⟨okX11_pulls, omX11_pulls, fun h => absurd h (by decide +kernel)⟩
theorem gdX11_areWallsToPull : im_gd mX11_areWallsToPull := ⟨okX11_areWallsToPull, omX11_areWallsToPull, fun h => absurd h (by decide +kernel)⟩
theorem gdX11_pullTold : im_gd mX11_pullTold := ⟨okX11_pullTold, omX11_pullTold, fun h => absurd h (by decide +kernel)⟩
theorem gdX11_mends : im_gd mX11_mends := ⟨okX11_mends, omX11_mends, fun h => absurd h (by decide +kernel)⟩
theorem gdX11_mendTold : im_gd mX11_mendTold := ⟨okX11_mendTold, omX11_mendTold, fun h => absurd h (by decide +kernel)⟩
theorem gdX11_mend : im_gd mX11_mend := ⟨okX11_mend, omX11_mend, fun h => absurd h (by decide +kernel)⟩
theorem gdX11_roomTold : im_gd mX11_roomTold := ⟨okX11_roomTold, omX11_roomTold, fun h => absurd h (by decide +kernel)⟩
theorem gdX11_raid : im_gd mX11_raid := ⟨okX11_raid, omX11_raid, fun h => absurd h (by decide +kernel)⟩
theorem gdX11_probe : im_gd mX11_probe := ⟨okX11_probe, omX11_probe, fun h => absurd h (by decide +kernel)⟩
theorem gdX11_likely : im_gd mX11_likely := ⟨okX11_likely, omX11_likely, fun h => absurd h (by decide +kernel)⟩
theorem gdX11_next : im_gd mX11_next := ⟨okX11_next, omX11_next, fun h => absurd h (by decide +kernel)⟩
theorem gdX11_paper : im_gd mX11_paper := ⟨okX11_paper, omX11_paper, fun h => absurd h (by decide +kernel)⟩
theorem gdX11_burn : im_gd mX11_burn := ⟨okX11_burn, omX11_burn, fun h => absurd h (by decide +kernel)⟩
theorem gdX11_owner : im_gd mX11_owner := ⟨okX11_owner, omX11_owner, fun h => absurd h (by decide +kernel)⟩
theorem gdX11_heirs : im_gd mX11_heirs := ⟨okX11_heirs, omX11_heirs, fun h => absurd h (by decide +kernel)⟩
theorem gdX11_beside : im_gd mX11_beside := ⟨okX11_beside, omX11_beside, fun h => absurd h (by decide +kernel)⟩
theorem gdX11_clear : im_gd mX11_clear := ⟨okX11_clear, omX11_clear, fun h => absurd h (by decide +kernel)⟩
theorem gdX11_image : im_gd mX11_image := ⟨okX11_image, omX11_image, fun h => absurd h (by decide +kernel)⟩
theorem gdX11_back : im_gd mX11_back := ⟨okX11_back, omX11_back, fun h => absurd h (by decide +kernel)⟩
theorem gdX11_sheet : im_gd mX11_sheet := ⟨okX11_sheet, omX11_sheet, fun h => absurd h (by decide +kernel)⟩
theorem gdX11_cell : im_gd mX11_cell := ⟨okX11_cell, omX11_cell, fun h => absurd h (by decide +kernel)⟩
theorem gdX11_copy : im_gd mX11_copy := ⟨okX11_copy, omX11_copy, fun h => absurd h (by decide +kernel)⟩
theorem gdX11_people : im_gd mX11_people := ⟨okX11_people, omX11_people, fun h => absurd h (by decide +kernel)⟩
theorem gdX11_personFrom : im_gd mX11_personFrom := ⟨okX11_personFrom, omX11_personFrom, fun h => absurd h (by decide +kernel)⟩
theorem gdX11_taken : im_gd mX11_taken := ⟨okX11_taken, omX11_taken, fun h => absurd h (by decide +kernel)⟩
theorem gdX11_within : im_gd mX11_within := ⟨okX11_within, omX11_within, fun h => absurd h (by decide +kernel)⟩
theorem gdX11_between : im_gd mX11_between := ⟨okX11_between, omX11_between, fun h => absurd h (by decide +kernel)⟩
theorem gdX11_cellOnSide : im_gd mX11_cellOnSide := ⟨okX11_cellOnSide, omX11_cellOnSide, fun h => absurd h (by decide +kernel)⟩
theorem gdX11_areBeside : im_gd mX11_areBeside := ⟨okX11_areBeside, omX11_areBeside, fun h => absurd h (by decide +kernel)⟩
theorem gdX11_isOfKind : im_gd mX11_isOfKind := ⟨okX11_isOfKind, omX11_isOfKind, fun h => absurd h (by decide +kernel)⟩
theorem gdX11_greatestDivisor : im_gd mX11_greatestDivisor := ⟨okX11_greatestDivisor, omX11_greatestDivisor, fun h => absurd h (by decide +kernel)⟩
theorem gdX12_init : im_gd mX12_init := ⟨okX12_init, omX12_init, fun _ => rfl⟩
theorem gdX12_in : im_gd mX12_in := ⟨okX12_in, omX12_in, fun h => absurd h (by decide +kernel)⟩
theorem gdX12_isCell : im_gd mX12_isCell := ⟨okX12_isCell, omX12_isCell, fun h => absurd h (by decide +kernel)⟩
theorem gdX12_isPerson : im_gd mX12_isPerson := ⟨okX12_isPerson, omX12_isPerson, fun h => absurd h (by decide +kernel)⟩
theorem gdX12_nextTo : im_gd mX12_nextTo := ⟨okX12_nextTo, omX12_nextTo, fun h => absurd h (by decide +kernel)⟩
theorem gdX12_areBeside : im_gd mX12_areBeside := ⟨okX12_areBeside, omX12_areBeside, fun h => absurd h (by decide +kernel)⟩
theorem gdX12_weakOf : im_gd mX12_weakOf := ⟨okX12_weakOf, omX12_weakOf, fun h => absurd h (by decide +kernel)⟩
theorem gdX12_ruin : im_gd mX12_ruin := ⟨okX12_ruin, omX12_ruin, fun h => absurd h (by decide +kernel)⟩
theorem gdX12_person : im_gd mX12_person := ⟨okX12_person, omX12_person, fun h => absurd h (by decide +kernel)⟩
theorem gdX12_moves : im_gd mX12_moves := ⟨okX12_moves, omX12_moves, fun h => absurd h (by decide +kernel)⟩
theorem gdX12_wall : im_gd mX12_wall := ⟨okX12_wall, omX12_wall, fun h => absurd h (by decide +kernel)⟩
theorem gdX12_weather : im_gd mX12_weather := ⟨okX12_weather, omX12_weather, fun h => absurd h (by decide +kernel)⟩
theorem gdX12_tip : im_gd mX12_tip := ⟨okX12_tip, omX12_tip, fun h => absurd h (by decide +kernel)⟩
theorem gdX12_isInOther : im_gd mX12_isInOther := ⟨okX12_isInOther, omX12_isInOther, fun h => absurd h (by decide +kernel)⟩
theorem gdX12_barred : im_gd mX12_barred := ⟨okX12_barred, omX12_barred, fun h => absurd h (by decide +kernel)⟩
theorem gdX12_row : im_gd mX12_row := ⟨okX12_row, omX12_row, fun h => absurd h (by decide +kernel)⟩
theorem gdX12_rail : im_gd mX12_rail := ⟨okX12_rail, omX12_rail, fun h => absurd h (by decide +kernel)⟩
theorem gdX12_room : im_gd mX12_room := ⟨okX12_room, omX12_room, fun h => absurd h (by decide +kernel)⟩
theorem gdX12_feed : im_gd mX12_feed := ⟨okX12_feed, omX12_feed, fun h => absurd h (by decide +kernel)⟩
theorem gdX12_byteHere : im_gd mX12_byteHere := ⟨okX12_byteHere, omX12_byteHere, fun h => absurd h (by decide +kernel)⟩
theorem gdX12_wordOf : im_gd mX12_wordOf := ⟨okX12_wordOf, omX12_wordOf, fun h => absurd h (by decide +kernel)⟩
theorem gdX12_number : im_gd mX12_number := ⟨okX12_number, omX12_number, fun h => absurd h (by decide +kernel)⟩
theorem gdX12_test : im_gd mX12_test := ⟨okX12_test, omX12_test, fun h => absurd h (by decide +kernel)⟩
theorem gdX12_line : im_gd mX12_line := ⟨okX12_line, omX12_line, fun h => absurd h (by decide +kernel)⟩
theorem gdX12_order : im_gd mX12_order := ⟨okX12_order, omX12_order, fun h => absurd h (by decide +kernel)⟩
theorem gdX12_force : im_gd mX12_force := ⟨okX12_force, omX12_force, fun h => absurd h (by decide +kernel)⟩
theorem gdX12_fieldOf : im_gd mX12_fieldOf := ⟨okX12_fieldOf, omX12_fieldOf, fun h => absurd h (by decide +kernel)⟩
theorem gdX12_holds : im_gd mX12_holds := ⟨okX12_holds, omX12_holds, fun h => absurd h (by decide +kernel)⟩
theorem gdX12_saysOf : im_gd mX12_saysOf := ⟨okX12_saysOf, omX12_saysOf, fun h => absurd h (by decide +kernel)⟩
theorem gdX12_says : im_gd mX12_says := ⟨okX12_says, omX12_says, fun h => absurd h (by decide +kernel)⟩
theorem gdX12_worksOf : im_gd mX12_worksOf := ⟨okX12_worksOf, omX12_worksOf, fun h => absurd h (by decide +kernel)⟩
theorem gdX12_passes : im_gd mX12_passes := ⟨okX12_passes, omX12_passes, fun h => absurd h (by decide +kernel)⟩
theorem gdX12_comes : im_gd mX12_comes := ⟨okX12_comes, omX12_comes, fun h => absurd h (by decide +kernel)⟩
theorem gdX12_goesRow : im_gd mX12_goesRow := ⟨okX12_goesRow, omX12_goesRow, fun h => absurd h (by decide +kernel)⟩
theorem gdX12_goesRail : im_gd mX12_goesRail := ⟨okX12_goesRail, omX12_goesRail, fun h => absurd h (by decide +kernel)⟩
theorem gdX12_isAt : im_gd mX12_isAt := ⟨okX12_isAt, omX12_isAt, fun h => absurd h (by decide +kernel)⟩
theorem gdX12_falls : im_gd mX12_falls := ⟨okX12_falls, omX12_falls, fun h => absurd h (by decide +kernel)⟩
theorem gdX12_wears : im_gd mX12_wears := ⟨okX12_wears, omX12_wears, fun h => absurd h (by decide +kernel)⟩
theorem gdX12_goes : im_gd mX12_goes := ⟨okX12_goes, omX12_goes, fun h => absurd h (by decide +kernel)⟩
theorem gdX12_run : im_gd mX12_run := ⟨okX12_run, omX12_run, fun h => absurd h (by decide +kernel)⟩
theorem gdX12_cellTold : im_gd mX12_cellTold := ⟨okX12_cellTold, omX12_cellTold, fun h => absurd h (by decide +kernel)⟩
theorem gdX12_kindTold : im_gd mX12_kindTold := ⟨okX12_kindTold, omX12_kindTold, fun h => absurd h (by decide +kernel)⟩
theorem gdX12_personTold : im_gd mX12_personTold := ⟨okX12_personTold, omX12_personTold, fun h => absurd h (by decide +kernel)⟩
theorem gdX12_rowTold : im_gd mX12_rowTold := ⟨okX12_rowTold, omX12_rowTold, fun h => absurd h (by decide +kernel)⟩
theorem gdX12_railTold : im_gd mX12_railTold := ⟨okX12_railTold, omX12_railTold, fun h => absurd h (by decide +kernel)⟩
theorem gdX12_isWall : im_gd mX12_isWall := ⟨okX12_isWall, omX12_isWall, fun h => absurd h (by decide +kernel)⟩
theorem gdX12_wallTold : im_gd mX12_wallTold := ⟨okX12_wallTold, omX12_wallTold, fun h => absurd h (by decide +kernel)⟩
theorem gdX12_sum : im_gd mX12_sum := ⟨okX12_sum, omX12_sum, fun h => absurd h (by decide +kernel)⟩
theorem gdX12_count : im_gd mX12_count := ⟨okX12_count, omX12_count, fun h => absurd h (by decide +kernel)⟩
theorem gdX12_pull : im_gd mX12_pull := ⟨okX12_pull, omX12_pull, fun h => absurd h (by decide +kernel)⟩
theorem gdX12_late : im_gd mX12_late := ⟨okX12_late, omX12_late, fun h => absurd h (by decide +kernel)⟩
theorem gdX12_nextOrder : im_gd mX12_nextOrder := ⟨okX12_nextOrder, omX12_nextOrder, fun h => absurd h (by decide +kernel)⟩
theorem gdX12_pulls : im_gd mX12_pulls := ⟨okX12_pulls, omX12_pulls, fun h => absurd h (by decide +kernel)⟩
theorem gdX12_pullTold : im_gd mX12_pullTold := ⟨okX12_pullTold, omX12_pullTold, fun h => absurd h (by decide +kernel)⟩
theorem gdX12_mends : im_gd mX12_mends := ⟨okX12_mends, omX12_mends, fun h => absurd h (by decide +kernel)⟩
theorem gdX12_mendTold : im_gd mX12_mendTold := ⟨okX12_mendTold, omX12_mendTold, fun h => absurd h (by decide +kernel)⟩
theorem gdX12_isRoom : im_gd mX12_isRoom := ⟨okX12_isRoom, omX12_isRoom, fun h => absurd h (by decide +kernel)⟩
theorem gdX12_mend : im_gd mX12_mend := ⟨okX12_mend, omX12_mend, fun h => absurd h (by decide +kernel)⟩
theorem gdX12_roomTold : im_gd mX12_roomTold := ⟨okX12_roomTold, omX12_roomTold, fun h => absurd h (by decide +kernel)⟩
theorem gdX12_raid : im_gd mX12_raid := ⟨okX12_raid, omX12_raid, fun h => absurd h (by decide +kernel)⟩
theorem gdX12_isOver : im_gd mX12_isOver := ⟨okX12_isOver, omX12_isOver, fun h => absurd h (by decide +kernel)⟩
theorem gdX12_leftOver : im_gd mX12_leftOver := ⟨okX12_leftOver, omX12_leftOver, fun h => absurd h (by decide +kernel)⟩
theorem gdX12_probe : im_gd mX12_probe := ⟨okX12_probe, omX12_probe, fun h => absurd h (by decide +kernel)⟩
theorem gdX12_likelyIn : im_gd mX12_likelyIn := ⟨okX12_likelyIn, omX12_likelyIn, fun h => absurd h (by decide +kernel)⟩
theorem gdX12_likely : im_gd mX12_likely := ⟨okX12_likely, omX12_likely, fun h => absurd h (by decide +kernel)⟩
theorem gdX12_next : im_gd mX12_next := ⟨okX12_next, omX12_next, fun h => absurd h (by decide +kernel)⟩
theorem gdX12_paper : im_gd mX12_paper := ⟨okX12_paper, omX12_paper, fun h => absurd h (by decide +kernel)⟩
theorem gdX12_burn : im_gd mX12_burn := ⟨okX12_burn, omX12_burn, fun h => absurd h (by decide +kernel)⟩
theorem gdX12_owner : im_gd mX12_owner := ⟨okX12_owner, omX12_owner, fun h => absurd h (by decide +kernel)⟩
theorem gdX12_heirs : im_gd mX12_heirs := ⟨okX12_heirs, omX12_heirs, fun h => absurd h (by decide +kernel)⟩
theorem gdX12_lays : im_gd mX12_lays := ⟨okX12_lays, omX12_lays, fun h => absurd h (by decide +kernel)⟩
theorem gdX12_beside : im_gd mX12_beside := ⟨okX12_beside, omX12_beside, fun h => absurd h (by decide +kernel)⟩
theorem gdX12_clear : im_gd mX12_clear := ⟨okX12_clear, omX12_clear, fun h => absurd h (by decide +kernel)⟩
theorem gdX12_image : im_gd mX12_image := ⟨okX12_image, omX12_image, fun h => absurd h (by decide +kernel)⟩
theorem gdX12_back : im_gd mX12_back := ⟨okX12_back, omX12_back, fun h => absurd h (by decide +kernel)⟩
theorem gdX12_sheet : im_gd mX12_sheet := ⟨okX12_sheet, omX12_sheet, fun h => absurd h (by decide +kernel)⟩
theorem gdX12_cell : im_gd mX12_cell := ⟨okX12_cell, omX12_cell, fun h => absurd h (by decide +kernel)⟩
theorem gdX12_copy : im_gd mX12_copy := ⟨okX12_copy, omX12_copy, fun h => absurd h (by decide +kernel)⟩
theorem gdX12_people : im_gd mX12_people := ⟨okX12_people, omX12_people, fun h => absurd h (by decide +kernel)⟩
theorem gdX12_isUnder : im_gd mX12_isUnder := ⟨okX12_isUnder, omX12_isUnder, fun h => absurd h (by decide +kernel)⟩
theorem gdX12_taken : im_gd mX12_taken := ⟨okX12_taken, omX12_taken, fun h => absurd h (by decide +kernel)⟩
theorem gdJ7_fill_53178 : im_gd mJ7_fill_53178 := ⟨okJ7_fill_53178, omJ7_fill_53178, fun h => absurd h (by decide +kernel)⟩
def im_ms_0 : List im_M := [mX0_init, mX0_setHands, mX0_weakOf, mX0_said, mX0_passes, mX0_cellByDay, mX0_livingKin, mX0_playDay, mX0_workRow, mX0_passOn, mX0_bring, mX0_driveRail, mX0_wearOf, mX0_wearsOut, mX0_fall, mX0_heal, mX0_daysUntilFall, mX1_init, mX1_holds, mX2_init, mX2_ownerOf, mX2_isKnown, mX3_init, mX3_find, mX3_countLate]
theorem im_gms_0 : ∀ M ∈ im_ms_0, im_gd M := List.forall_mem_cons.mpr ⟨gdX0_init, List.forall_mem_cons.mpr ⟨gdX0_setHands, List.forall_mem_cons.mpr ⟨gdX0_weakOf, List.forall_mem_cons.mpr ⟨gdX0_said, List.forall_mem_cons.mpr ⟨gdX0_passes, List.forall_mem_cons.mpr ⟨gdX0_cellByDay, List.forall_mem_cons.mpr ⟨gdX0_livingKin, List.forall_mem_cons.mpr ⟨gdX0_playDay, List.forall_mem_cons.mpr ⟨gdX0_workRow, List.forall_mem_cons.mpr ⟨gdX0_passOn, List.forall_mem_cons.mpr ⟨gdX0_bring, List.forall_mem_cons.mpr ⟨gdX0_driveRail, List.forall_mem_cons.mpr ⟨gdX0_wearOf, List.forall_mem_cons.mpr ⟨gdX0_wearsOut, List.forall_mem_cons.mpr ⟨gdX0_fall, List.forall_mem_cons.mpr ⟨gdX0_heal, List.forall_mem_cons.mpr ⟨gdX0_daysUntilFall, List.forall_mem_cons.mpr ⟨gdX1_init, List.forall_mem_cons.mpr ⟨gdX1_holds, List.forall_mem_cons.mpr ⟨gdX2_init, List.forall_mem_cons.mpr ⟨gdX2_ownerOf, List.forall_mem_cons.mpr ⟨gdX2_isKnown, List.forall_mem_cons.mpr ⟨gdX3_init, List.forall_mem_cons.mpr ⟨gdX3_find, List.forall_mem_cons.mpr ⟨gdX3_countLate, fun _ h => absurd h List.not_mem_nil⟩⟩⟩⟩⟩⟩⟩⟩⟩⟩⟩⟩⟩⟩⟩⟩⟩⟩⟩⟩⟩⟩⟩⟩⟩
def im_ms_1 : List im_M := [mX3_keep, mX3_goOn, mX3_swap, mX4_init, mX4_begin, mX4_isOver, mX4_leftOver, mX4_find, mX4_chance, mX4_likeliest, mX5_init, mX6_init, mX6_findBest, mX6_choose, mX7_init, mX8_init, mX8_isMissing, mX8_put, mX8_holds, mX8_hasAheadOf, mX9_init, mX9_become, mX9_allLoads, mX9_allDead, mX9_allHurt]
theorem im_gms_1 : ∀ M ∈ im_ms_1, im_gd M := List.forall_mem_cons.mpr ⟨gdX3_keep, List.forall_mem_cons.mpr ⟨gdX3_goOn, List.forall_mem_cons.mpr ⟨gdX3_swap, List.forall_mem_cons.mpr ⟨gdX4_init, List.forall_mem_cons.mpr ⟨gdX4_begin, List.forall_mem_cons.mpr ⟨gdX4_isOver, List.forall_mem_cons.mpr ⟨gdX4_leftOver, List.forall_mem_cons.mpr ⟨gdX4_find, List.forall_mem_cons.mpr ⟨gdX4_chance, List.forall_mem_cons.mpr ⟨gdX4_likeliest, List.forall_mem_cons.mpr ⟨gdX5_init, List.forall_mem_cons.mpr ⟨gdX6_init, List.forall_mem_cons.mpr ⟨gdX6_findBest, List.forall_mem_cons.mpr ⟨gdX6_choose, List.forall_mem_cons.mpr ⟨gdX7_init, List.forall_mem_cons.mpr ⟨gdX8_init, List.forall_mem_cons.mpr ⟨gdX8_isMissing, List.forall_mem_cons.mpr ⟨gdX8_put, List.forall_mem_cons.mpr ⟨gdX8_holds, List.forall_mem_cons.mpr ⟨gdX8_hasAheadOf, List.forall_mem_cons.mpr ⟨gdX9_init, List.forall_mem_cons.mpr ⟨gdX9_become, List.forall_mem_cons.mpr ⟨gdX9_allLoads, List.forall_mem_cons.mpr ⟨gdX9_allDead, List.forall_mem_cons.mpr ⟨gdX9_allHurt, fun _ h => absurd h List.not_mem_nil⟩⟩⟩⟩⟩⟩⟩⟩⟩⟩⟩⟩⟩⟩⟩⟩⟩⟩⟩⟩⟩⟩⟩⟩⟩
def im_ms_2 : List im_M := [mX10_init, mX10_readInto, mX10_readLine, mX10_readIf, mX10_readTests, mX10_readTest, mX10_readSign, mX10_readNumber, mX10_readWord, mX10_byteAt, mX11_init, mX11_ruin, mX11_person, mX11_moves, mX11_wall, mX11_weather, mX11_tip, mX11_row, mX11_refusalOfHands, mX11_rail, mX11_isWay, mX11_room, mX11_feed, mX11_order, mX11_force]
theorem im_gms_2 : ∀ M ∈ im_ms_2, im_gd M := List.forall_mem_cons.mpr ⟨gdX10_init, List.forall_mem_cons.mpr ⟨gdX10_readInto, List.forall_mem_cons.mpr ⟨gdX10_readLine, List.forall_mem_cons.mpr ⟨gdX10_readIf, List.forall_mem_cons.mpr ⟨gdX10_readTests, List.forall_mem_cons.mpr ⟨gdX10_readTest, List.forall_mem_cons.mpr ⟨gdX10_readSign, List.forall_mem_cons.mpr ⟨gdX10_readNumber, List.forall_mem_cons.mpr ⟨gdX10_readWord, List.forall_mem_cons.mpr ⟨gdX10_byteAt, List.forall_mem_cons.mpr ⟨gdX11_init, List.forall_mem_cons.mpr ⟨gdX11_ruin, List.forall_mem_cons.mpr ⟨gdX11_person, List.forall_mem_cons.mpr ⟨gdX11_moves, List.forall_mem_cons.mpr ⟨gdX11_wall, List.forall_mem_cons.mpr ⟨gdX11_weather, List.forall_mem_cons.mpr ⟨gdX11_tip, List.forall_mem_cons.mpr ⟨gdX11_row, List.forall_mem_cons.mpr ⟨gdX11_refusalOfHands, List.forall_mem_cons.mpr ⟨gdX11_rail, List.forall_mem_cons.mpr ⟨gdX11_isWay, List.forall_mem_cons.mpr ⟨gdX11_room, List.forall_mem_cons.mpr ⟨gdX11_feed, List.forall_mem_cons.mpr ⟨gdX11_order, List.forall_mem_cons.mpr ⟨gdX11_force, fun _ h => absurd h List.not_mem_nil⟩⟩⟩⟩⟩⟩⟩⟩⟩⟩⟩⟩⟩⟩⟩⟩⟩⟩⟩⟩⟩⟩⟩⟩⟩
def im_ms_3 : List im_M := [mX11_says, mX11_run, mX11_cellTold, mX11_kindTold, mX11_personTold, mX11_rowTold, mX11_railTold, mX11_wallTold, mX11_count, mX11_pull, mX11_pulls, mX11_areWallsToPull, mX11_pullTold, mX11_mends, mX11_mendTold, mX11_mend, mX11_roomTold, mX11_raid, mX11_probe, mX11_likely, mX11_next, mX11_paper, mX11_burn, mX11_owner, mX11_heirs]
theorem im_gms_3 : ∀ M ∈ im_ms_3, im_gd M := List.forall_mem_cons.mpr ⟨gdX11_says, List.forall_mem_cons.mpr ⟨gdX11_run, List.forall_mem_cons.mpr ⟨gdX11_cellTold, List.forall_mem_cons.mpr ⟨gdX11_kindTold, List.forall_mem_cons.mpr ⟨gdX11_personTold, List.forall_mem_cons.mpr ⟨gdX11_rowTold, List.forall_mem_cons.mpr ⟨gdX11_railTold, List.forall_mem_cons.mpr ⟨gdX11_wallTold, List.forall_mem_cons.mpr ⟨gdX11_count, List.forall_mem_cons.mpr ⟨gdX11_pull, List.forall_mem_cons.mpr ⟨gdX11_pulls, List.forall_mem_cons.mpr ⟨gdX11_areWallsToPull, List.forall_mem_cons.mpr ⟨gdX11_pullTold, List.forall_mem_cons.mpr ⟨gdX11_mends, List.forall_mem_cons.mpr ⟨gdX11_mendTold, List.forall_mem_cons.mpr ⟨gdX11_mend, List.forall_mem_cons.mpr ⟨gdX11_roomTold, List.forall_mem_cons.mpr ⟨gdX11_raid, List.forall_mem_cons.mpr ⟨gdX11_probe, List.forall_mem_cons.mpr ⟨gdX11_likely, List.forall_mem_cons.mpr ⟨gdX11_next, List.forall_mem_cons.mpr ⟨gdX11_paper, List.forall_mem_cons.mpr ⟨gdX11_burn, List.forall_mem_cons.mpr ⟨gdX11_owner, List.forall_mem_cons.mpr ⟨gdX11_heirs, fun _ h => absurd h List.not_mem_nil⟩⟩⟩⟩⟩⟩⟩⟩⟩⟩⟩⟩⟩⟩⟩⟩⟩⟩⟩⟩⟩⟩⟩⟩⟩
def im_ms_4 : List im_M := [mX11_beside, mX11_clear, mX11_image, mX11_back, mX11_sheet, mX11_cell, mX11_copy, mX11_people, mX11_personFrom, mX11_taken, mX11_within, mX11_between, mX11_cellOnSide, mX11_areBeside, mX11_isOfKind, mX11_greatestDivisor, mX12_init, mX12_in, mX12_isCell, mX12_isPerson, mX12_nextTo, mX12_areBeside, mX12_weakOf, mX12_ruin, mX12_person]
theorem im_gms_4 : ∀ M ∈ im_ms_4, im_gd M := List.forall_mem_cons.mpr ⟨gdX11_beside, List.forall_mem_cons.mpr ⟨gdX11_clear, List.forall_mem_cons.mpr ⟨gdX11_image, List.forall_mem_cons.mpr ⟨gdX11_back, List.forall_mem_cons.mpr ⟨gdX11_sheet, List.forall_mem_cons.mpr ⟨gdX11_cell, List.forall_mem_cons.mpr ⟨gdX11_copy, List.forall_mem_cons.mpr ⟨gdX11_people, List.forall_mem_cons.mpr ⟨gdX11_personFrom, List.forall_mem_cons.mpr ⟨gdX11_taken, List.forall_mem_cons.mpr ⟨gdX11_within, List.forall_mem_cons.mpr ⟨gdX11_between, List.forall_mem_cons.mpr ⟨gdX11_cellOnSide, List.forall_mem_cons.mpr ⟨gdX11_areBeside, List.forall_mem_cons.mpr ⟨gdX11_isOfKind, List.forall_mem_cons.mpr ⟨gdX11_greatestDivisor, List.forall_mem_cons.mpr ⟨gdX12_init, List.forall_mem_cons.mpr ⟨gdX12_in, List.forall_mem_cons.mpr ⟨gdX12_isCell, List.forall_mem_cons.mpr ⟨gdX12_isPerson, List.forall_mem_cons.mpr ⟨gdX12_nextTo, List.forall_mem_cons.mpr ⟨gdX12_areBeside, List.forall_mem_cons.mpr ⟨gdX12_weakOf, List.forall_mem_cons.mpr ⟨gdX12_ruin, List.forall_mem_cons.mpr ⟨gdX12_person, fun _ h => absurd h List.not_mem_nil⟩⟩⟩⟩⟩⟩⟩⟩⟩⟩⟩⟩⟩⟩⟩⟩⟩⟩⟩⟩⟩⟩⟩⟩⟩
def im_ms_5 : List im_M := [mX12_moves, mX12_wall, mX12_weather, mX12_tip, mX12_isInOther, mX12_barred, mX12_row, mX12_rail, mX12_room, mX12_feed, mX12_byteHere, mX12_wordOf, mX12_number, mX12_test, mX12_line, mX12_order, mX12_force, mX12_fieldOf, mX12_holds, mX12_saysOf, mX12_says, mX12_worksOf, mX12_passes, mX12_comes, mX12_goesRow]
theorem im_gms_5 : ∀ M ∈ im_ms_5, im_gd M := List.forall_mem_cons.mpr ⟨gdX12_moves, List.forall_mem_cons.mpr ⟨gdX12_wall, List.forall_mem_cons.mpr ⟨gdX12_weather, List.forall_mem_cons.mpr ⟨gdX12_tip, List.forall_mem_cons.mpr ⟨gdX12_isInOther, List.forall_mem_cons.mpr ⟨gdX12_barred, List.forall_mem_cons.mpr ⟨gdX12_row, List.forall_mem_cons.mpr ⟨gdX12_rail, List.forall_mem_cons.mpr ⟨gdX12_room, List.forall_mem_cons.mpr ⟨gdX12_feed, List.forall_mem_cons.mpr ⟨gdX12_byteHere, List.forall_mem_cons.mpr ⟨gdX12_wordOf, List.forall_mem_cons.mpr ⟨gdX12_number, List.forall_mem_cons.mpr ⟨gdX12_test, List.forall_mem_cons.mpr ⟨gdX12_line, List.forall_mem_cons.mpr ⟨gdX12_order, List.forall_mem_cons.mpr ⟨gdX12_force, List.forall_mem_cons.mpr ⟨gdX12_fieldOf, List.forall_mem_cons.mpr ⟨gdX12_holds, List.forall_mem_cons.mpr ⟨gdX12_saysOf, List.forall_mem_cons.mpr ⟨gdX12_says, List.forall_mem_cons.mpr ⟨gdX12_worksOf, List.forall_mem_cons.mpr ⟨gdX12_passes, List.forall_mem_cons.mpr ⟨gdX12_comes, List.forall_mem_cons.mpr ⟨gdX12_goesRow, fun _ h => absurd h List.not_mem_nil⟩⟩⟩⟩⟩⟩⟩⟩⟩⟩⟩⟩⟩⟩⟩⟩⟩⟩⟩⟩⟩⟩⟩⟩⟩
def im_ms_6 : List im_M := [mX12_goesRail, mX12_isAt, mX12_falls, mX12_wears, mX12_goes, mX12_run, mX12_cellTold, mX12_kindTold, mX12_personTold, mX12_rowTold, mX12_railTold, mX12_isWall, mX12_wallTold, mX12_sum, mX12_count, mX12_pull, mX12_late, mX12_nextOrder, mX12_pulls, mX12_pullTold, mX12_mends, mX12_mendTold, mX12_isRoom, mX12_mend, mX12_roomTold]
theorem im_gms_6 : ∀ M ∈ im_ms_6, im_gd M := List.forall_mem_cons.mpr ⟨gdX12_goesRail, List.forall_mem_cons.mpr ⟨gdX12_isAt, List.forall_mem_cons.mpr ⟨gdX12_falls, List.forall_mem_cons.mpr ⟨gdX12_wears, List.forall_mem_cons.mpr ⟨gdX12_goes, List.forall_mem_cons.mpr ⟨gdX12_run, List.forall_mem_cons.mpr ⟨gdX12_cellTold, List.forall_mem_cons.mpr ⟨gdX12_kindTold, List.forall_mem_cons.mpr ⟨gdX12_personTold, List.forall_mem_cons.mpr ⟨gdX12_rowTold, List.forall_mem_cons.mpr ⟨gdX12_railTold, List.forall_mem_cons.mpr ⟨gdX12_isWall, List.forall_mem_cons.mpr ⟨gdX12_wallTold, List.forall_mem_cons.mpr ⟨gdX12_sum, List.forall_mem_cons.mpr ⟨gdX12_count, List.forall_mem_cons.mpr ⟨gdX12_pull, List.forall_mem_cons.mpr ⟨gdX12_late, List.forall_mem_cons.mpr ⟨gdX12_nextOrder, List.forall_mem_cons.mpr ⟨gdX12_pulls, List.forall_mem_cons.mpr ⟨gdX12_pullTold, List.forall_mem_cons.mpr ⟨gdX12_mends, List.forall_mem_cons.mpr ⟨gdX12_mendTold, List.forall_mem_cons.mpr ⟨gdX12_isRoom, List.forall_mem_cons.mpr ⟨gdX12_mend, List.forall_mem_cons.mpr ⟨gdX12_roomTold, fun _ h => absurd h List.not_mem_nil⟩⟩⟩⟩⟩⟩⟩⟩⟩⟩⟩⟩⟩⟩⟩⟩⟩⟩⟩⟩⟩⟩⟩⟩⟩
def im_ms_7 : List im_M := [mX12_raid, mX12_isOver, mX12_leftOver, mX12_probe, mX12_likelyIn, mX12_likely, mX12_next, mX12_paper, mX12_burn, mX12_owner, mX12_heirs, mX12_lays, mX12_beside, mX12_clear, mX12_image, mX12_back, mX12_sheet, mX12_cell, mX12_copy, mX12_people, mX12_isUnder, mX12_taken, mJ7_fill_53178]
theorem im_gms_7 : ∀ M ∈ im_ms_7, im_gd M := List.forall_mem_cons.mpr ⟨gdX12_raid, List.forall_mem_cons.mpr ⟨gdX12_isOver, List.forall_mem_cons.mpr ⟨gdX12_leftOver, List.forall_mem_cons.mpr ⟨gdX12_probe, List.forall_mem_cons.mpr ⟨gdX12_likelyIn, List.forall_mem_cons.mpr ⟨gdX12_likely, List.forall_mem_cons.mpr ⟨gdX12_next, List.forall_mem_cons.mpr ⟨gdX12_paper, List.forall_mem_cons.mpr ⟨gdX12_burn, List.forall_mem_cons.mpr ⟨gdX12_owner, List.forall_mem_cons.mpr ⟨gdX12_heirs, List.forall_mem_cons.mpr ⟨gdX12_lays, List.forall_mem_cons.mpr ⟨gdX12_beside, List.forall_mem_cons.mpr ⟨gdX12_clear, List.forall_mem_cons.mpr ⟨gdX12_image, List.forall_mem_cons.mpr ⟨gdX12_back, List.forall_mem_cons.mpr ⟨gdX12_sheet, List.forall_mem_cons.mpr ⟨gdX12_cell, List.forall_mem_cons.mpr ⟨gdX12_copy, List.forall_mem_cons.mpr ⟨gdX12_people, List.forall_mem_cons.mpr ⟨gdX12_isUnder, List.forall_mem_cons.mpr ⟨gdX12_taken, List.forall_mem_cons.mpr ⟨gdJ7_fill_53178, fun _ h => absurd h List.not_mem_nil⟩⟩⟩⟩⟩⟩⟩⟩⟩⟩⟩⟩⟩⟩⟩⟩⟩⟩⟩⟩⟩⟩⟩
set_option maxRecDepth 20000 in
theorem im_ms_eq : im_ms = im_ms_0 ++ (im_ms_1 ++ (im_ms_2 ++ (im_ms_3 ++ (im_ms_4 ++ (im_ms_5 ++ (im_ms_6 ++ (im_ms_7))))))) := rfl
theorem im_ms_all : ∀ M ∈ im_ms, im_gd M := by
  rw [im_ms_eq]
  exact List.forall_mem_append.mpr ⟨im_gms_0, List.forall_mem_append.mpr ⟨im_gms_1, List.forall_mem_append.mpr ⟨im_gms_2, List.forall_mem_append.mpr ⟨im_gms_3, List.forall_mem_append.mpr ⟨im_gms_4, List.forall_mem_append.mpr ⟨im_gms_5, List.forall_mem_append.mpr ⟨im_gms_6, im_gms_7⟩⟩⟩⟩⟩⟩⟩
