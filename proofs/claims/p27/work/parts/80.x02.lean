/-! the tables are what the class files say -/
theorem okX11_clear : im_okC im_ms mX11_clear = true := im_okC_wk (by decide +kernel) (by decide +kernel)
theorem omX11_clear : im_okM mX11_clear = true := im_okM_wk (by decide +kernel) rfl
theorem okX11_image : im_okC im_ms mX11_image = true := im_okC_wk (by decide +kernel) (by decide +kernel)
theorem omX11_image : im_okM mX11_image = true := im_okM_wk (by decide +kernel) rfl
theorem okX11_back : im_okC im_ms mX11_back = true := im_okC_wk (by decide +kernel) (by decide +kernel)
theorem omX11_back : im_okM mX11_back = true := im_okM_wk (by decide +kernel) rfl
theorem okX11_sheet : im_okC im_ms mX11_sheet = true := im_okC_wk (by decide +kernel) (by decide +kernel)
theorem omX11_sheet : im_okM mX11_sheet = true := im_okM_wk (by decide +kernel) rfl
theorem okX11_cell : im_okC im_ms mX11_cell = true := im_okC_wk (by decide +kernel) (by decide +kernel)
theorem omX11_cell : im_okM mX11_cell = true := im_okM_wk (by decide +kernel) rfl
theorem okX11_copy : im_okC im_ms mX11_copy = true := im_okC_wk (by decide +kernel) (by decide +kernel)
theorem omX11_copy : im_okM mX11_copy = true := im_okM_wk (by decide +kernel) rfl
theorem okX11_people : im_okC im_ms mX11_people = true := im_okC_wk (by decide +kernel) (by decide +kernel)
theorem omX11_people : im_okM mX11_people = true := im_okM_wk (by decide +kernel) rfl
theorem okX11_personFrom : im_okC im_ms mX11_personFrom = true := im_okC_wk (by decide +kernel) (by decide +kernel)
theorem omX11_personFrom : im_okM mX11_personFrom = true := im_okM_wk (by decide +kernel) rfl
theorem okX11_taken : im_okC im_ms mX11_taken = true := im_okC_wk (by decide +kernel) (by decide +kernel)
theorem omX11_taken : im_okM mX11_taken = true := im_okM_wk (by decide +kernel) rfl
theorem okX11_within : im_okC im_ms mX11_within = true := im_okC_wk (by decide +kernel) (by decide +kernel)
theorem omX11_within : im_okM mX11_within = true := im_okM_wk (by decide +kernel) rfl
theorem okX11_between : im_okC im_ms mX11_between = true := im_okC_wk (by decide +kernel) (by decide +kernel)
theorem omX11_between : im_okM mX11_between = true := im_okM_wk (by decide +kernel) rfl
theorem okX11_cellOnSide : im_okC im_ms mX11_cellOnSide = true := im_okC_wk (by decide +kernel) (by decide +kernel)
theorem omX11_cellOnSide : im_okM mX11_cellOnSide = true := im_okM_wk (by decide +kernel) rfl
theorem okX11_areBeside : im_okC im_ms mX11_areBeside = true := im_okC_wk (by decide +kernel) (by decide +kernel)
theorem omX11_areBeside : im_okM mX11_areBeside = true := im_okM_wk (by decide +kernel) rfl
theorem okX11_isOfKind : im_okC im_ms mX11_isOfKind = true := im_okC_wk (by decide +kernel) (by decide +kernel)
theorem omX11_isOfKind : im_okM mX11_isOfKind = true := im_okM_wk (by decide +kernel) rfl
theorem okX11_greatestDivisor : im_okC im_ms mX11_greatestDivisor = true := im_okC_wk (by decide +kernel) (by decide +kernel)
theorem omX11_greatestDivisor : im_okM mX11_greatestDivisor = true := im_okM_wk (by decide +kernel) rfl
theorem okX12_in : im_okC im_ms mX12_in = true := im_okC_wk (by decide +kernel) (by decide +kernel)
theorem omX12_in : im_okM mX12_in = true := im_okM_wk (by decide +kernel) rfl
theorem okX12_isCell : im_okC im_ms mX12_isCell = true := im_okC_wk (by decide +kernel) (by decide +kernel)
theorem omX12_isCell : im_okM mX12_isCell = true := im_okM_wk (by decide +kernel) rfl
theorem okX12_isPerson : im_okC im_ms mX12_isPerson = true := im_okC_wk (by decide +kernel) (by decide +kernel)
theorem omX12_isPerson : im_okM mX12_isPerson = true := im_okM_wk (by decide +kernel) rfl
theorem okX12_nextTo : im_okC im_ms mX12_nextTo = true := im_okC_wk (by decide +kernel) (by decide +kernel)
theorem omX12_nextTo : im_okM mX12_nextTo = true := im_okM_wk (by decide +kernel) rfl
theorem okX12_areBeside : im_okC im_ms mX12_areBeside = true := im_okC_wk (by decide +kernel) (by decide +kernel)
theorem omX12_areBeside : im_okM mX12_areBeside = true := im_okM_wk (by decide +kernel) rfl
theorem okX12_weakOf : im_okC im_ms mX12_weakOf = true := im_okC_wk (by decide +kernel) (by decide +kernel)
theorem omX12_weakOf : im_okM mX12_weakOf = true := im_okM_wk (by decide +kernel) rfl
theorem okX12_ruin : im_okC im_ms mX12_ruin = true := im_okC_wk (by decide +kernel) (by decide +kernel)
theorem omX12_ruin : im_okM mX12_ruin = true := im_okM_wk (by decide +kernel) rfl
theorem okX12_person : im_okC im_ms mX12_person = true := im_okC_wk (by decide +kernel) (by decide +kernel)
theorem omX12_person : im_okM mX12_person = true := im_okM_wk (by decide +kernel) rfl
theorem okX12_moves : im_okC im_ms mX12_moves = true := im_okC_wk (by decide +kernel) (by decide +kernel)
theorem omX12_moves : im_okM mX12_moves = true := im_okM_wk (by decide +kernel) rfl
theorem okX12_wall : im_okC im_ms mX12_wall = true := im_okC_wk (by decide +kernel) (by decide +kernel)
theorem omX12_wall : im_okM mX12_wall = true := im_okM_wk (by decide +kernel) rfl
theorem okX12_weather : im_okC im_ms mX12_weather = true := im_okC_wk (by decide +kernel) (by decide +kernel)
theorem omX12_weather : im_okM mX12_weather = true := im_okM_wk (by decide +kernel) rfl
theorem okX12_tip : im_okC im_ms mX12_tip = true := im_okC_wk (by decide +kernel) (by decide +kernel)
theorem omX12_tip : im_okM mX12_tip = true := im_okM_wk (by decide +kernel) rfl
theorem okX12_isInOther : im_okC im_ms mX12_isInOther = true := im_okC_wk (by decide +kernel) (by decide +kernel)
theorem omX12_isInOther : im_okM mX12_isInOther = true := im_okM_wk (by decide +kernel) rfl
theorem okX12_barred : im_okC im_ms mX12_barred = true := im_okC_wk (by decide +kernel) (by decide +kernel)
theorem omX12_barred : im_okM mX12_barred = true := im_okM_wk (by decide +kernel) rfl
theorem okX12_row : im_okC im_ms mX12_row = true := im_okC_wk (by decide +kernel) (by decide +kernel)
theorem omX12_row : im_okM mX12_row = true := im_okM_wk (by decide +kernel) rfl
theorem okX12_rail : im_okC im_ms mX12_rail = true := im_okC_wk (by decide +kernel) (by decide +kernel)
theorem omX12_rail : im_okM mX12_rail = true := im_okM_wk (by decide +kernel) rfl
theorem okX12_room : im_okC im_ms mX12_room = true := im_okC_wk (by decide +kernel) (by decide +kernel)
theorem omX12_room : im_okM mX12_room = true := im_okM_wk (by decide +kernel) rfl
theorem okX12_feed : im_okC im_ms mX12_feed = true := im_okC_wk (by decide +kernel) (by decide +kernel)
theorem omX12_feed : im_okM mX12_feed = true := im_okM_wk (by decide +kernel) rfl
theorem okX12_byteHere : im_okC im_ms mX12_byteHere = true := im_okC_wk (by decide +kernel) (by decide +kernel)
theorem omX12_byteHere : im_okM mX12_byteHere = true := im_okM_wk (by decide +kernel) rfl
theorem okX12_wordOf : im_okC im_ms mX12_wordOf = true := im_okC_wk (by decide +kernel) (by decide +kernel)
theorem omX12_wordOf : im_okM mX12_wordOf = true := im_okM_wk (by decide +kernel) rfl
theorem okX12_number : im_okC im_ms mX12_number = true := im_okC_wk (by decide +kernel) (by decide +kernel)
theorem omX12_number : im_okM mX12_number = true := im_okM_wk (by decide +kernel) rfl
theorem okX12_test : im_okC im_ms mX12_test = true := im_okC_wk (by decide +kernel) (by decide +kernel)
theorem omX12_test : im_okM mX12_test = true := im_okM_wk (by decide +kernel) rfl
theorem okX12_line : im_okC im_ms mX12_line = true := im_okC_wk (by decide +kernel) (by decide +kernel)
theorem omX12_line : im_okM mX12_line = true := im_okM_wk (by decide +kernel) rfl
theorem okX12_order : im_okC im_ms mX12_order = true := im_okC_wk (by decide +kernel) (by decide +kernel)
theorem omX12_order : im_okM mX12_order = true := im_okM_wk (by decide +kernel) rfl
theorem okX12_force : im_okC im_ms mX12_force = true := im_okC_wk (by decide +kernel) (by decide +kernel)
theorem omX12_force : im_okM mX12_force = true := im_okM_wk (by decide +kernel) rfl
theorem okX12_fieldOf : im_okC im_ms mX12_fieldOf = true := im_okC_wk (by decide +kernel) (by decide +kernel)
theorem omX12_fieldOf : im_okM mX12_fieldOf = true := im_okM_wk (by decide +kernel) rfl
theorem okX12_holds : im_okC im_ms mX12_holds = true := im_okC_wk (by decide +kernel) (by decide +kernel)
theorem omX12_holds : im_okM mX12_holds = true := im_okM_wk (by decide +kernel) rfl
theorem okX12_saysOf : im_okC im_ms mX12_saysOf = true := im_okC_wk (by decide +kernel) (by decide +kernel)
theorem omX12_saysOf : im_okM mX12_saysOf = true := im_okM_wk (by decide +kernel) rfl
theorem okX12_says : im_okC im_ms mX12_says = true := im_okC_wk (by decide +kernel) (by decide +kernel)
theorem omX12_says : im_okM mX12_says = true := im_okM_wk (by decide +kernel) rfl
theorem okX12_worksOf : im_okC im_ms mX12_worksOf = true := im_okC_wk (by decide +kernel) (by decide +kernel)
theorem omX12_worksOf : im_okM mX12_worksOf = true := im_okM_wk (by decide +kernel) rfl
theorem okX12_passes : im_okC im_ms mX12_passes = true := im_okC_wk (by decide +kernel) (by decide +kernel)
theorem omX12_passes : im_okM mX12_passes = true := im_okM_wk (by decide +kernel) rfl
theorem okX12_comes : im_okC im_ms mX12_comes = true := im_okC_wk (by decide +kernel) (by decide +kernel)
theorem omX12_comes : im_okM mX12_comes = true := im_okM_wk (by decide +kernel) rfl
theorem okX12_goesRow : im_okC im_ms mX12_goesRow = true := im_okC_wk (by decide +kernel) (by decide +kernel)
theorem omX12_goesRow : im_okM mX12_goesRow = true := im_okM_wk (by decide +kernel) rfl
theorem okX12_goesRail : im_okC im_ms mX12_goesRail = true := im_okC_wk (by decide +kernel) (by decide +kernel)
theorem omX12_goesRail : im_okM mX12_goesRail = true := im_okM_wk (by decide +kernel) rfl
theorem okX12_isAt : im_okC im_ms mX12_isAt = true := im_okC_wk (by decide +kernel) (by decide +kernel)
theorem omX12_isAt : im_okM mX12_isAt = true := im_okM_wk (by decide +kernel) rfl
theorem okX12_falls : im_okC im_ms mX12_falls = true := im_okC_wk (by decide +kernel) (by decide +kernel)
theorem omX12_falls : im_okM mX12_falls = true := im_okM_wk (by decide +kernel) rfl
theorem okX12_wears : im_okC im_ms mX12_wears = true := im_okC_wk (by decide +kernel) (by decide +kernel)
theorem omX12_wears : im_okM mX12_wears = true := im_okM_wk (by decide +kernel) rfl
theorem okX12_goes : im_okC im_ms mX12_goes = true := im_okC_wk (by decide +kernel) (by decide +kernel)
theorem omX12_goes : im_okM mX12_goes = true := im_okM_wk (by decide +kernel) rfl
theorem okX12_run : im_okC im_ms mX12_run = true := im_okC_wk (by decide +kernel) (by decide +kernel)
theorem omX12_run : im_okM mX12_run = true := im_okM_wk (by decide +kernel) rfl
theorem okX12_cellTold : im_okC im_ms mX12_cellTold = true := im_okC_wk (by decide +kernel) (by decide +kernel)
theorem omX12_cellTold : im_okM mX12_cellTold = true := im_okM_wk (by decide +kernel) rfl
theorem okX12_kindTold : im_okC im_ms mX12_kindTold = true := im_okC_wk (by decide +kernel) (by decide +kernel)
theorem omX12_kindTold : im_okM mX12_kindTold = true := im_okM_wk (by decide +kernel) rfl
theorem okX12_personTold : im_okC im_ms mX12_personTold = true := im_okC_wk (by decide +kernel) (by decide +kernel)
theorem omX12_personTold : im_okM mX12_personTold = true := im_okM_wk (by decide +kernel) rfl
theorem okX12_rowTold : im_okC im_ms mX12_rowTold = true := im_okC_wk (by decide +kernel) (by decide +kernel)
theorem omX12_rowTold : im_okM mX12_rowTold = true := im_okM_wk (by decide +kernel) rfl
theorem okX12_railTold : im_okC im_ms mX12_railTold = true := im_okC_wk (by decide +kernel) (by decide +kernel)
theorem omX12_railTold : im_okM mX12_railTold = true := im_okM_wk (by decide +kernel) rfl
theorem okX12_isWall : im_okC im_ms mX12_isWall = true := im_okC_wk (by decide +kernel) (by decide +kernel)
theorem omX12_isWall : im_okM mX12_isWall = true := im_okM_wk (by decide +kernel) rfl
theorem okX12_wallTold : im_okC im_ms mX12_wallTold = true := im_okC_wk (by decide +kernel) (by decide +kernel)
theorem omX12_wallTold : im_okM mX12_wallTold = true := im_okM_wk (by decide +kernel) rfl
theorem okX12_sum : im_okC im_ms mX12_sum = true := im_okC_wk (by decide +kernel) (by decide +kernel)
theorem omX12_sum : im_okM mX12_sum = true := im_okM_wk (by decide +kernel) rfl
theorem okX12_count : im_okC im_ms mX12_count = true := im_okC_wk (by decide +kernel) (by decide +kernel)
theorem omX12_count : im_okM mX12_count = true := im_okM_wk (by decide +kernel) rfl
theorem okX12_pull : im_okC im_ms mX12_pull = true := im_okC_wk (by decide +kernel) (by decide +kernel)
theorem omX12_pull : im_okM mX12_pull = true := im_okM_wk (by decide +kernel) rfl
theorem okX12_late : im_okC im_ms mX12_late = true := im_okC_wk (by decide +kernel) (by decide +kernel)
theorem omX12_late : im_okM mX12_late = true := im_okM_wk (by decide +kernel) rfl
theorem okX12_nextOrder : im_okC im_ms mX12_nextOrder = true := im_okC_wk (by decide +kernel) (by decide +kernel)
theorem omX12_nextOrder : im_okM mX12_nextOrder = true := im_okM_wk (by decide +kernel) rfl
theorem okX12_pulls : im_okC im_ms mX12_pulls = true := im_okC_wk (by decide +kernel) (by decide +kernel)
theorem omX12_pulls : im_okM mX12_pulls = true := im_okM_wk (by decide +kernel) rfl
theorem okX12_pullTold : im_okC im_ms mX12_pullTold = true := im_okC_wk (by decide +kernel) (by decide +kernel)
theorem omX12_pullTold : im_okM mX12_pullTold = true := im_okM_wk (by decide +kernel) rfl
theorem okX12_mends : im_okC im_ms mX12_mends = true := im_okC_wk (by decide +kernel) (by decide +kernel)
theorem omX12_mends : im_okM mX12_mends = true := im_okM_wk (by decide +kernel) rfl
theorem okX12_mendTold : im_okC im_ms mX12_mendTold = true := im_okC_wk (by decide +kernel) (by decide +kernel)
theorem omX12_mendTold : im_okM mX12_mendTold = true := im_okM_wk (by decide +kernel) rfl
theorem okX12_isRoom : im_okC im_ms mX12_isRoom = true := im_okC_wk (by decide +kernel) (by decide +kernel)
theorem omX12_isRoom : im_okM mX12_isRoom = true := im_okM_wk (by decide +kernel) rfl
theorem okX12_mend : im_okC im_ms mX12_mend = true := im_okC_wk (by decide +kernel) (by decide +kernel)
theorem omX12_mend : im_okM mX12_mend = true := im_okM_wk (by decide +kernel) rfl
theorem okX12_roomTold : im_okC im_ms mX12_roomTold = true := im_okC_wk (by decide +kernel) (by decide +kernel)
theorem omX12_roomTold : im_okM mX12_roomTold = true := im_okM_wk (by decide +kernel) rfl
theorem okX12_raid : im_okC im_ms mX12_raid = true := im_okC_wk (by decide +kernel) (by decide +kernel)
theorem omX12_raid : im_okM mX12_raid = true := im_okM_wk (by decide +kernel) rfl
theorem okX12_isOver : im_okC im_ms mX12_isOver = true := im_okC_wk (by decide +kernel) (by decide +kernel)
theorem omX12_isOver : im_okM mX12_isOver = true := im_okM_wk (by decide +kernel) rfl
theorem okX12_leftOver : im_okC im_ms mX12_leftOver = true := im_okC_wk (by decide +kernel) (by decide +kernel)
theorem omX12_leftOver : im_okM mX12_leftOver = true := im_okM_wk (by decide +kernel) rfl
theorem okX12_probe : im_okC im_ms mX12_probe = true := im_okC_wk (by decide +kernel) (by decide +kernel)
theorem omX12_probe : im_okM mX12_probe = true := im_okM_wk (by decide +kernel) rfl
theorem okX12_likelyIn : im_okC im_ms mX12_likelyIn = true := im_okC_wk (by decide +kernel) (by decide +kernel)
theorem omX12_likelyIn : im_okM mX12_likelyIn = true := im_okM_wk (by decide +kernel) rfl
theorem okX12_likely : im_okC im_ms mX12_likely = true := im_okC_wk (by decide +kernel) (by decide +kernel)
theorem omX12_likely : im_okM mX12_likely = true := im_okM_wk (by decide +kernel) rfl
theorem okX12_next : im_okC im_ms mX12_next = true := im_okC_wk (by decide +kernel) (by decide +kernel)
theorem omX12_next : im_okM mX12_next = true := im_okM_wk (by decide +kernel) rfl
theorem okX12_paper : im_okC im_ms mX12_paper = true := im_okC_wk (by decide +kernel) (by decide +kernel)
theorem omX12_paper : im_okM mX12_paper = true := im_okM_wk (by decide +kernel) rfl
theorem okX12_burn : im_okC im_ms mX12_burn = true := im_okC_wk (by decide +kernel) (by decide +kernel)
theorem omX12_burn : im_okM mX12_burn = true := im_okM_wk (by decide +kernel) rfl
theorem okX12_owner : im_okC im_ms mX12_owner = true := im_okC_wk (by decide +kernel) (by decide +kernel)
theorem omX12_owner : im_okM mX12_owner = true := im_okM_wk (by decide +kernel) rfl
theorem okX12_heirs : im_okC im_ms mX12_heirs = true := im_okC_wk (by decide +kernel) (by decide +kernel)
theorem omX12_heirs : im_okM mX12_heirs = true := im_okM_wk (by decide +kernel) rfl
