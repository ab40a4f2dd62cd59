/-! the tables are what the class files say, group 3 -/
theorem okX12_wall : im_okC im_ms mX12_wall = true := by decide +kernel
theorem omX12_wall : im_okM mX12_wall = true := by decide +kernel
theorem okX12_weather : im_okC im_ms mX12_weather = true := by decide +kernel
theorem omX12_weather : im_okM mX12_weather = true := by decide +kernel
theorem okX12_tip : im_okC im_ms mX12_tip = true := by decide +kernel
theorem omX12_tip : im_okM mX12_tip = true := by decide +kernel
theorem okX12_isInOther : im_okC im_ms mX12_isInOther = true := by decide +kernel
theorem omX12_isInOther : im_okM mX12_isInOther = true := by decide +kernel
theorem okX12_barred : im_okC im_ms mX12_barred = true := by decide +kernel
theorem omX12_barred : im_okM mX12_barred = true := by decide +kernel
theorem okX12_row : im_okC im_ms mX12_row = true := by decide +kernel
theorem omX12_row : im_okM mX12_row = true := by decide +kernel
theorem okX12_rail : im_okC im_ms mX12_rail = true := by decide +kernel
theorem omX12_rail : im_okM mX12_rail = true := by decide +kernel
theorem okX12_room : im_okC im_ms mX12_room = true := by decide +kernel
theorem omX12_room : im_okM mX12_room = true := by decide +kernel
theorem okX12_feed : im_okC im_ms mX12_feed = true := by decide +kernel
theorem omX12_feed : im_okM mX12_feed = true := by decide +kernel
theorem okX12_byteHere : im_okC im_ms mX12_byteHere = true := by decide +kernel
theorem omX12_byteHere : im_okM mX12_byteHere = true := by decide +kernel
theorem okX12_wordOf : im_okC im_ms mX12_wordOf = true := by decide +kernel
theorem omX12_wordOf : im_okM mX12_wordOf = true := by decide +kernel
theorem okX12_number : im_okC im_ms mX12_number = true := by decide +kernel
theorem omX12_number : im_okM mX12_number = true := by decide +kernel
theorem okX12_test : im_okC im_ms mX12_test = true := by decide +kernel
theorem omX12_test : im_okM mX12_test = true := by decide +kernel
theorem okX12_line : im_okC im_ms mX12_line = true := by decide +kernel
theorem omX12_line : im_okM mX12_line = true := by decide +kernel
theorem okX12_order : im_okC im_ms mX12_order = true := by decide +kernel
theorem omX12_order : im_okM mX12_order = true := by decide +kernel
theorem okX12_force : im_okC im_ms mX12_force = true := by decide +kernel
theorem omX12_force : im_okM mX12_force = true := by decide +kernel
theorem okX12_fieldOf : im_okC im_ms mX12_fieldOf = true := by decide +kernel
theorem omX12_fieldOf : im_okM mX12_fieldOf = true := by decide +kernel
theorem okX12_holds : im_okC im_ms mX12_holds = true := by decide +kernel
theorem omX12_holds : im_okM mX12_holds = true := by decide +kernel
theorem okX12_saysOf : im_okC im_ms mX12_saysOf = true := by decide +kernel
theorem omX12_saysOf : im_okM mX12_saysOf = true := by decide +kernel
theorem okX12_says : im_okC im_ms mX12_says = true := by decide +kernel
theorem omX12_says : im_okM mX12_says = true := by decide +kernel
theorem okX12_worksOf : im_okC im_ms mX12_worksOf = true := by decide +kernel
theorem omX12_worksOf : im_okM mX12_worksOf = true := by decide +kernel
theorem okX12_passes : im_okC im_ms mX12_passes = true := by decide +kernel
theorem omX12_passes : im_okM mX12_passes = true := by decide +kernel
theorem okX12_comes : im_okC im_ms mX12_comes = true := by decide +kernel
theorem omX12_comes : im_okM mX12_comes = true := by decide +kernel
theorem okX12_goesRow : im_okC im_ms mX12_goesRow = true := by decide +kernel
theorem omX12_goesRow : im_okM mX12_goesRow = true := by decide +kernel
theorem okX12_goesRail : im_okC im_ms mX12_goesRail = true := by decide +kernel
theorem omX12_goesRail : im_okM mX12_goesRail = true := by decide +kernel
theorem okX12_isAt : im_okC im_ms mX12_isAt = true := by decide +kernel
theorem omX12_isAt : im_okM mX12_isAt = true := by decide +kernel
theorem okX12_falls : im_okC im_ms mX12_falls = true := by decide +kernel
theorem omX12_falls : im_okM mX12_falls = true := by decide +kernel
theorem okX12_wears : im_okC im_ms mX12_wears = true := by decide +kernel
theorem omX12_wears : im_okM mX12_wears = true := by decide +kernel
theorem okX12_goes : im_okC im_ms mX12_goes = true := by decide +kernel
theorem omX12_goes : im_okM mX12_goes = true := by decide +kernel
theorem okX12_run : im_okC im_ms mX12_run = true := by decide +kernel
theorem omX12_run : im_okM mX12_run = true := by decide +kernel
theorem okX12_cellTold : im_okC im_ms mX12_cellTold = true := by decide +kernel
theorem omX12_cellTold : im_okM mX12_cellTold = true := by decide +kernel
theorem okX12_kindTold : im_okC im_ms mX12_kindTold = true := by decide +kernel
theorem omX12_kindTold : im_okM mX12_kindTold = true := by decide +kernel
theorem okX12_personTold : im_okC im_ms mX12_personTold = true := by decide +kernel
theorem omX12_personTold : im_okM mX12_personTold = true := by decide +kernel
theorem okX12_rowTold : im_okC im_ms mX12_rowTold = true := by decide +kernel
theorem omX12_rowTold : im_okM mX12_rowTold = true := by decide +kernel
theorem okX12_railTold : im_okC im_ms mX12_railTold = true := by decide +kernel
theorem omX12_railTold : im_okM mX12_railTold = true := by decide +kernel
theorem okX12_isWall : im_okC im_ms mX12_isWall = true := by decide +kernel
theorem omX12_isWall : im_okM mX12_isWall = true := by decide +kernel
theorem okX12_wallTold : im_okC im_ms mX12_wallTold = true := by decide +kernel
theorem omX12_wallTold : im_okM mX12_wallTold = true := by decide +kernel
theorem okX12_sum : im_okC im_ms mX12_sum = true := by decide +kernel
theorem omX12_sum : im_okM mX12_sum = true := by decide +kernel
theorem okX12_count : im_okC im_ms mX12_count = true := by decide +kernel
theorem omX12_count : im_okM mX12_count = true := by decide +kernel
theorem okX12_pull : im_okC im_ms mX12_pull = true := by decide +kernel
theorem omX12_pull : im_okM mX12_pull = true := by decide +kernel
theorem okX12_late : im_okC im_ms mX12_late = true := by decide +kernel
theorem omX12_late : im_okM mX12_late = true := by decide +kernel
theorem okX12_nextOrder : im_okC im_ms mX12_nextOrder = true := by decide +kernel
theorem omX12_nextOrder : im_okM mX12_nextOrder = true := by decide +kernel
theorem okX12_pulls : im_okC im_ms mX12_pulls = true := by decide +kernel
theorem omX12_pulls : im_okM mX12_pulls = true := by decide +kernel
theorem okX12_pullTold : im_okC im_ms mX12_pullTold = true := by decide +kernel
theorem omX12_pullTold : im_okM mX12_pullTold = true := by decide +kernel
theorem okX12_mends : im_okC im_ms mX12_mends = true := by decide +kernel
theorem omX12_mends : im_okM mX12_mends = true := by decide +kernel
