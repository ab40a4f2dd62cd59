/-! the tables are what the class files say -/
theorem okX0_init : im_okC im_ms mX0_init = true := im_okC_wk (by decide +kernel) (by decide +kernel)
theorem omX0_init : im_okM mX0_init = true := im_okM_wk (by decide +kernel) rfl
theorem okX0_setHands : im_okC im_ms mX0_setHands = true := im_okC_wk (by decide +kernel) (by decide +kernel)
theorem omX0_setHands : im_okM mX0_setHands = true := im_okM_wk (by decide +kernel) rfl
theorem okX0_weakOf : im_okC im_ms mX0_weakOf = true := im_okC_wk (by decide +kernel) (by decide +kernel)
theorem omX0_weakOf : im_okM mX0_weakOf = true := im_okM_wk (by decide +kernel) rfl
theorem okX0_said : im_okC im_ms mX0_said = true := im_okC_wk (by decide +kernel) (by decide +kernel)
theorem omX0_said : im_okM mX0_said = true := im_okM_wk (by decide +kernel) rfl
theorem okX0_passes : im_okC im_ms mX0_passes = true := im_okC_wk (by decide +kernel) (by decide +kernel)
theorem omX0_passes : im_okM mX0_passes = true := im_okM_wk (by decide +kernel) rfl
theorem okX0_cellByDay : im_okC im_ms mX0_cellByDay = true := im_okC_wk (by decide +kernel) (by decide +kernel)
theorem omX0_cellByDay : im_okM mX0_cellByDay = true := im_okM_wk (by decide +kernel) rfl
theorem okX0_livingKin : im_okC im_ms mX0_livingKin = true := im_okC_wk (by decide +kernel) (by decide +kernel)
theorem omX0_livingKin : im_okM mX0_livingKin = true := im_okM_wk (by decide +kernel) rfl
theorem okX0_playDay : im_okC im_ms mX0_playDay = true := im_okC_wk (by decide +kernel) (by decide +kernel)
theorem omX0_playDay : im_okM mX0_playDay = true := im_okM_wk (by decide +kernel) rfl
theorem okX0_workRow : im_okC im_ms mX0_workRow = true := im_okC_wk (by decide +kernel) (by decide +kernel)
theorem omX0_workRow : im_okM mX0_workRow = true := im_okM_wk (by decide +kernel) rfl
theorem okX0_passOn : im_okC im_ms mX0_passOn = true := im_okC_wk (by decide +kernel) (by decide +kernel)
theorem omX0_passOn : im_okM mX0_passOn = true := im_okM_wk (by decide +kernel) rfl
theorem okX0_bring : im_okC im_ms mX0_bring = true := im_okC_wk (by decide +kernel) (by decide +kernel)
theorem omX0_bring : im_okM mX0_bring = true := im_okM_wk (by decide +kernel) rfl
theorem okX0_driveRail : im_okC im_ms mX0_driveRail = true := im_okC_wk (by decide +kernel) (by decide +kernel)
theorem omX0_driveRail : im_okM mX0_driveRail = true := im_okM_wk (by decide +kernel) rfl
theorem okX0_wearOf : im_okC im_ms mX0_wearOf = true := im_okC_wk (by decide +kernel) (by decide +kernel)
theorem omX0_wearOf : im_okM mX0_wearOf = true := im_okM_wk (by decide +kernel) rfl
theorem okX0_wearsOut : im_okC im_ms mX0_wearsOut = true := im_okC_wk (by decide +kernel) (by decide +kernel)
theorem omX0_wearsOut : im_okM mX0_wearsOut = true := im_okM_wk (by decide +kernel) rfl
theorem okX0_fall : im_okC im_ms mX0_fall = true := im_okC_wk (by decide +kernel) (by decide +kernel)
theorem omX0_fall : im_okM mX0_fall = true := im_okM_wk (by decide +kernel) rfl
theorem okX0_heal : im_okC im_ms mX0_heal = true := im_okC_wk (by decide +kernel) (by decide +kernel)
theorem omX0_heal : im_okM mX0_heal = true := im_okM_wk (by decide +kernel) rfl
theorem okX0_daysUntilFall : im_okC im_ms mX0_daysUntilFall = true := im_okC_wk (by decide +kernel) (by decide +kernel)
theorem omX0_daysUntilFall : im_okM mX0_daysUntilFall = true := im_okM_wk (by decide +kernel) rfl
theorem okX1_init : im_okC im_ms mX1_init = true := im_okC_wk (by decide +kernel) (by decide +kernel)
theorem omX1_init : im_okM mX1_init = true := im_okM_wk (by decide +kernel) rfl
theorem okX1_holds : im_okC im_ms mX1_holds = true := im_okC_wk (by decide +kernel) (by decide +kernel)
theorem omX1_holds : im_okM mX1_holds = true := im_okM_wk (by decide +kernel) rfl
theorem okX2_init : im_okC im_ms mX2_init = true := im_okC_wk (by decide +kernel) (by decide +kernel)
theorem omX2_init : im_okM mX2_init = true := im_okM_wk (by decide +kernel) rfl
theorem okX2_ownerOf : im_okC im_ms mX2_ownerOf = true := im_okC_wk (by decide +kernel) (by decide +kernel)
theorem omX2_ownerOf : im_okM mX2_ownerOf = true := im_okM_wk (by decide +kernel) rfl
theorem okX2_isKnown : im_okC im_ms mX2_isKnown = true := im_okC_wk (by decide +kernel) (by decide +kernel)
theorem omX2_isKnown : im_okM mX2_isKnown = true := im_okM_wk (by decide +kernel) rfl
theorem okX3_init : im_okC im_ms mX3_init = true := im_okC_wk (by decide +kernel) (by decide +kernel)
theorem omX3_init : im_okM mX3_init = true := im_okM_wk (by decide +kernel) rfl
theorem okX3_find : im_okC im_ms mX3_find = true := im_okC_wk (by decide +kernel) (by decide +kernel)
theorem omX3_find : im_okM mX3_find = true := im_okM_wk (by decide +kernel) rfl
theorem okX3_countLate : im_okC im_ms mX3_countLate = true := im_okC_wk (by decide +kernel) (by decide +kernel)
theorem omX3_countLate : im_okM mX3_countLate = true := im_okM_wk (by decide +kernel) rfl
theorem okX3_keep : im_okC im_ms mX3_keep = true := im_okC_wk (by decide +kernel) (by decide +kernel)
theorem omX3_keep : im_okM mX3_keep = true := im_okM_wk (by decide +kernel) rfl
theorem okX3_goOn : im_okC im_ms mX3_goOn = true := im_okC_wk (by decide +kernel) (by decide +kernel)
theorem omX3_goOn : im_okM mX3_goOn = true := im_okM_wk (by decide +kernel) rfl
theorem okX3_swap : im_okC im_ms mX3_swap = true := im_okC_wk (by decide +kernel) (by decide +kernel)
theorem omX3_swap : im_okM mX3_swap = true := im_okM_wk (by decide +kernel) rfl
theorem okX4_init : im_okC im_ms mX4_init = true := im_okC_wk (by decide +kernel) (by decide +kernel)
theorem omX4_init : im_okM mX4_init = true := im_okM_wk (by decide +kernel) rfl
theorem okX4_begin : im_okC im_ms mX4_begin = true := im_okC_wk (by decide +kernel) (by decide +kernel)
theorem omX4_begin : im_okM mX4_begin = true := im_okM_wk (by decide +kernel) rfl
theorem okX4_isOver : im_okC im_ms mX4_isOver = true := im_okC_wk (by decide +kernel) (by decide +kernel)
theorem omX4_isOver : im_okM mX4_isOver = true := im_okM_wk (by decide +kernel) rfl
theorem okX4_leftOver : im_okC im_ms mX4_leftOver = true := im_okC_wk (by decide +kernel) (by decide +kernel)
theorem omX4_leftOver : im_okM mX4_leftOver = true := im_okM_wk (by decide +kernel) rfl
theorem okX4_find : im_okC im_ms mX4_find = true := im_okC_wk (by decide +kernel) (by decide +kernel)
theorem omX4_find : im_okM mX4_find = true := im_okM_wk (by decide +kernel) rfl
theorem okX4_chance : im_okC im_ms mX4_chance = true := im_okC_wk (by decide +kernel) (by decide +kernel)
theorem omX4_chance : im_okM mX4_chance = true := im_okM_wk (by decide +kernel) rfl
theorem okX4_likeliest : im_okC im_ms mX4_likeliest = true := im_okC_wk (by decide +kernel) (by decide +kernel)
theorem omX4_likeliest : im_okM mX4_likeliest = true := im_okM_wk (by decide +kernel) rfl
theorem okX5_init : im_okC im_ms mX5_init = true := im_okC_wk (by decide +kernel) (by decide +kernel)
theorem omX5_init : im_okM mX5_init = true := im_okM_wk (by decide +kernel) rfl
theorem okX6_init : im_okC im_ms mX6_init = true := im_okC_wk (by decide +kernel) (by decide +kernel)
theorem omX6_init : im_okM mX6_init = true := im_okM_wk (by decide +kernel) rfl
theorem okX6_findBest : im_okC im_ms mX6_findBest = true := im_okC_wk (by decide +kernel) (by decide +kernel)
theorem omX6_findBest : im_okM mX6_findBest = true := im_okM_wk (by decide +kernel) rfl
theorem okX6_choose : im_okC im_ms mX6_choose = true := im_okC_wk (by decide +kernel) (by decide +kernel)
theorem omX6_choose : im_okM mX6_choose = true := im_okM_wk (by decide +kernel) rfl
theorem okX7_init : im_okC im_ms mX7_init = true := im_okC_wk (by decide +kernel) (by decide +kernel)
theorem omX7_init : im_okM mX7_init = true := im_okM_wk (by decide +kernel) rfl
theorem okX8_init : im_okC im_ms mX8_init = true := im_okC_wk (by decide +kernel) (by decide +kernel)
theorem omX8_init : im_okM mX8_init = true := im_okM_wk (by decide +kernel) rfl
theorem okX8_isMissing : im_okC im_ms mX8_isMissing = true := im_okC_wk (by decide +kernel) (by decide +kernel)
theorem omX8_isMissing : im_okM mX8_isMissing = true := im_okM_wk (by decide +kernel) rfl
theorem okX8_put : im_okC im_ms mX8_put = true := im_okC_wk (by decide +kernel) (by decide +kernel)
theorem omX8_put : im_okM mX8_put = true := im_okM_wk (by decide +kernel) rfl
theorem okX8_holds : im_okC im_ms mX8_holds = true := im_okC_wk (by decide +kernel) (by decide +kernel)
theorem omX8_holds : im_okM mX8_holds = true := im_okM_wk (by decide +kernel) rfl
theorem okX8_hasAheadOf : im_okC im_ms mX8_hasAheadOf = true := im_okC_wk (by decide +kernel) (by decide +kernel)
theorem omX8_hasAheadOf : im_okM mX8_hasAheadOf = true := im_okM_wk (by decide +kernel) rfl
theorem okX9_init : im_okC im_ms mX9_init = true := im_okC_wk (by decide +kernel) (by decide +kernel)
theorem omX9_init : im_okM mX9_init = true := im_okM_wk (by decide +kernel) rfl
theorem okX9_become : im_okC im_ms mX9_become = true := im_okC_wk (by decide +kernel) (by decide +kernel)
theorem omX9_become : im_okM mX9_become = true := im_okM_wk (by decide +kernel) rfl
theorem okX9_allLoads : im_okC im_ms mX9_allLoads = true := im_okC_wk (by decide +kernel) (by decide +kernel)
theorem omX9_allLoads : im_okM mX9_allLoads = true := im_okM_wk (by decide +kernel) rfl
theorem okX9_allDead : im_okC im_ms mX9_allDead = true := im_okC_wk (by decide +kernel) (by decide +kernel)
theorem omX9_allDead : im_okM mX9_allDead = true := im_okM_wk (by decide +kernel) rfl
theorem okX9_allHurt : im_okC im_ms mX9_allHurt = true := im_okC_wk (by decide +kernel) (by decide +kernel)
theorem omX9_allHurt : im_okM mX9_allHurt = true := im_okM_wk (by decide +kernel) rfl
theorem okX10_init : im_okC im_ms mX10_init = true := im_okC_wk (by decide +kernel) (by decide +kernel)
theorem omX10_init : im_okM mX10_init = true := im_okM_wk (by decide +kernel) rfl
theorem okX10_readInto : im_okC im_ms mX10_readInto = true := im_okC_wk (by decide +kernel) (by decide +kernel)
theorem omX10_readInto : im_okM mX10_readInto = true := im_okM_wk (by decide +kernel) rfl
theorem okX10_readLine : im_okC im_ms mX10_readLine = true := im_okC_wk (by decide +kernel) (by decide +kernel)
theorem omX10_readLine : im_okM mX10_readLine = true := im_okM_wk (by decide +kernel) rfl
theorem okX10_readIf : im_okC im_ms mX10_readIf = true := im_okC_wk (by decide +kernel) (by decide +kernel)
theorem omX10_readIf : im_okM mX10_readIf = true := im_okM_wk (by decide +kernel) rfl
theorem okX10_readTests : im_okC im_ms mX10_readTests = true := im_okC_wk (by decide +kernel) (by decide +kernel)
theorem omX10_readTests : im_okM mX10_readTests = true := im_okM_wk (by decide +kernel) rfl
theorem okX10_readTest : im_okC im_ms mX10_readTest = true := im_okC_wk (by decide +kernel) (by decide +kernel)
theorem omX10_readTest : im_okM mX10_readTest = true := im_okM_wk (by decide +kernel) rfl
theorem okX10_readSign : im_okC im_ms mX10_readSign = true := im_okC_wk (by decide +kernel) (by decide +kernel)
theorem omX10_readSign : im_okM mX10_readSign = true := im_okM_wk (by decide +kernel) rfl
theorem okX10_readNumber : im_okC im_ms mX10_readNumber = true := im_okC_wk (by decide +kernel) (by decide +kernel)
theorem omX10_readNumber : im_okM mX10_readNumber = true := im_okM_wk (by decide +kernel) rfl
theorem okX10_readWord : im_okC im_ms mX10_readWord = true := im_okC_wk (by decide +kernel) (by decide +kernel)
theorem omX10_readWord : im_okM mX10_readWord = true := im_okM_wk (by decide +kernel) rfl
theorem okX10_byteAt : im_okC im_ms mX10_byteAt = true := im_okC_wk (by decide +kernel) (by decide +kernel)
theorem omX10_byteAt : im_okM mX10_byteAt = true := im_okM_wk (by decide +kernel) rfl
theorem okX11_init : im_okC im_ms mX11_init = true := im_okC_wk (by decide +kernel) (by decide +kernel)
theorem omX11_init : im_okM mX11_init = true := im_okM_wk (by decide +kernel) rfl
theorem okX11_ruin : im_okC im_ms mX11_ruin = true := im_okC_wk (by decide +kernel) (by decide +kernel)
theorem omX11_ruin : im_okM mX11_ruin = true := im_okM_wk (by decide +kernel) rfl
theorem okX11_person : im_okC im_ms mX11_person = true := im_okC_wk (by decide +kernel) (by decide +kernel)
theorem omX11_person : im_okM mX11_person = true := im_okM_wk (by decide +kernel) rfl
theorem okX11_moves : im_okC im_ms mX11_moves = true := im_okC_wk (by decide +kernel) (by decide +kernel)
theorem omX11_moves : im_okM mX11_moves = true := im_okM_wk (by decide +kernel) rfl
theorem okX11_wall : im_okC im_ms mX11_wall = true := im_okC_wk (by decide +kernel) (by decide +kernel)
theorem omX11_wall : im_okM mX11_wall = true := im_okM_wk (by decide +kernel) rfl
theorem okX11_weather : im_okC im_ms mX11_weather = true := im_okC_wk (by decide +kernel) (by decide +kernel)
theorem omX11_weather : im_okM mX11_weather = true := im_okM_wk (by decide +kernel) rfl
theorem okX11_tip : im_okC im_ms mX11_tip = true := im_okC_wk (by decide +kernel) (by decide +kernel)
theorem omX11_tip : im_okM mX11_tip = true := im_okM_wk (by decide +kernel) rfl
theorem okX11_row : im_okC im_ms mX11_row = true := im_okC_wk (by decide +kernel) (by decide +kernel)
theorem omX11_row : im_okM mX11_row = true := im_okM_wk (by decide +kernel) rfl
theorem okX11_refusalOfHands : im_okC im_ms mX11_refusalOfHands = true := im_okC_wk (by decide +kernel) (by decide +kernel)
theorem omX11_refusalOfHands : im_okM mX11_refusalOfHands = true := im_okM_wk (by decide +kernel) rfl
theorem okX11_rail : im_okC im_ms mX11_rail = true := im_okC_wk (by decide +kernel) (by decide +kernel)
theorem omX11_rail : im_okM mX11_rail = true := im_okM_wk (by decide +kernel) rfl
theorem okX11_isWay : im_okC im_ms mX11_isWay = true := im_okC_wk (by decide +kernel) (by decide +kernel)
theorem omX11_isWay : im_okM mX11_isWay = true := im_okM_wk (by decide +kernel) rfl
theorem okX11_room : im_okC im_ms mX11_room = true := im_okC_wk (by decide +kernel) (by decide +kernel)
theorem omX11_room : im_okM mX11_room = true := im_okM_wk (by decide +kernel) rfl
theorem okX11_feed : im_okC im_ms mX11_feed = true := im_okC_wk (by decide +kernel) (by decide +kernel)
theorem omX11_feed : im_okM mX11_feed = true := im_okM_wk (by decide +kernel) rfl
theorem okX11_order : im_okC im_ms mX11_order = true := im_okC_wk (by decide +kernel) (by decide +kernel)
theorem omX11_order : im_okM mX11_order = true := im_okM_wk (by decide +kernel) rfl
theorem okX11_force : im_okC im_ms mX11_force = true := im_okC_wk (by decide +kernel) (by decide +kernel)
theorem omX11_force : im_okM mX11_force = true := im_okM_wk (by decide +kernel) rfl
theorem okX11_says : im_okC im_ms mX11_says = true := im_okC_wk (by decide +kernel) (by decide +kernel)
theorem omX11_says : im_okM mX11_says = true := im_okM_wk (by decide +kernel) rfl
theorem okX11_run : im_okC im_ms mX11_run = true := im_okC_wk (by decide +kernel) (by decide +kernel)
theorem omX11_run : im_okM mX11_run = true := im_okM_wk (by decide +kernel) rfl
theorem okX11_cellTold : im_okC im_ms mX11_cellTold = true := im_okC_wk (by decide +kernel) (by decide +kernel)
theorem omX11_cellTold : im_okM mX11_cellTold = true := im_okM_wk (by decide +kernel) rfl
theorem okX11_kindTold : im_okC im_ms mX11_kindTold = true := im_okC_wk (by decide +kernel) (by decide +kernel)
theorem omX11_kindTold : im_okM mX11_kindTold = true := im_okM_wk (by decide +kernel) rfl
theorem okX11_personTold : im_okC im_ms mX11_personTold = true := im_okC_wk (by decide +kernel) (by decide +kernel)
theorem omX11_personTold : im_okM mX11_personTold = true := im_okM_wk (by decide +kernel) rfl
theorem okX11_rowTold : im_okC im_ms mX11_rowTold = true := im_okC_wk (by decide +kernel) (by decide +kernel)
theorem omX11_rowTold : im_okM mX11_rowTold = true := im_okM_wk (by decide +kernel) rfl
theorem okX11_railTold : im_okC im_ms mX11_railTold = true := im_okC_wk (by decide +kernel) (by decide +kernel)
theorem omX11_railTold : im_okM mX11_railTold = true := im_okM_wk (by decide +kernel) rfl
theorem okX11_wallTold : im_okC im_ms mX11_wallTold = true := im_okC_wk (by decide +kernel) (by decide +kernel)
theorem omX11_wallTold : im_okM mX11_wallTold = true := im_okM_wk (by decide +kernel) rfl
theorem okX11_count : im_okC im_ms mX11_count = true := im_okC_wk (by decide +kernel) (by decide +kernel)
theorem omX11_count : im_okM mX11_count = true := im_okM_wk (by decide +kernel) rfl
theorem okX11_pull : im_okC im_ms mX11_pull = true := im_okC_wk (by decide +kernel) (by decide +kernel)
theorem omX11_pull : im_okM mX11_pull = true := im_okM_wk (by decide +kernel) rfl
theorem okX11_pulls : im_okC im_ms mX11_pulls = true := im_okC_wk (by decide +kernel) (by decide +kernel)
theorem omX11_pulls : im_okM mX11_pulls = true := im_okM_wk (by decide +kernel) rfl
theorem okX11_areWallsToPull : im_okC im_ms mX11_areWallsToPull = true := im_okC_wk (by decide +kernel) (by decide +kernel)
theorem omX11_areWallsToPull : im_okM mX11_areWallsToPull = true := im_okM_wk (by decide +kernel) rfl
theorem okX11_pullTold : im_okC im_ms mX11_pullTold = true := im_okC_wk (by decide +kernel) (by decide +kernel)
theorem omX11_pullTold : im_okM mX11_pullTold = true := im_okM_wk (by decide +kernel) rfl
theorem okX11_mends : im_okC im_ms mX11_mends = true := im_okC_wk (by decide +kernel) (by decide +kernel)
theorem omX11_mends : im_okM mX11_mends = true := im_okM_wk (by decide +kernel) rfl
theorem okX11_mendTold : im_okC im_ms mX11_mendTold = true := im_okC_wk (by decide +kernel) (by decide +kernel)
theorem omX11_mendTold : im_okM mX11_mendTold = true := im_okM_wk (by decide +kernel) rfl
theorem okX11_mend : im_okC im_ms mX11_mend = true := im_okC_wk (by decide +kernel) (by decide +kernel)
theorem omX11_mend : im_okM mX11_mend = true := im_okM_wk (by decide +kernel) rfl
theorem okX11_roomTold : im_okC im_ms mX11_roomTold = true := im_okC_wk (by decide +kernel) (by decide +kernel)
theorem omX11_roomTold : im_okM mX11_roomTold = true := im_okM_wk (by decide +kernel) rfl
theorem okX11_raid : im_okC im_ms mX11_raid = true := im_okC_wk (by decide +kernel) (by decide +kernel)
theorem omX11_raid : im_okM mX11_raid = true := im_okM_wk (by decide +kernel) rfl
theorem okX11_probe : im_okC im_ms mX11_probe = true := im_okC_wk (by decide +kernel) (by decide +kernel)
theorem omX11_probe : im_okM mX11_probe = true := im_okM_wk (by decide +kernel) rfl
theorem okX11_likely : im_okC im_ms mX11_likely = true := im_okC_wk (by decide +kernel) (by decide +kernel)
theorem omX11_likely : im_okM mX11_likely = true := im_okM_wk (by decide +kernel) rfl
theorem okX11_next : im_okC im_ms mX11_next = true := im_okC_wk (by decide +kernel) (by decide +kernel)
theorem omX11_next : im_okM mX11_next = true := im_okM_wk (by decide +kernel) rfl
theorem okX11_paper : im_okC im_ms mX11_paper = true := im_okC_wk (by decide +kernel) (by decide +kernel)
theorem omX11_paper : im_okM mX11_paper = true := im_okM_wk (by decide +kernel) rfl
theorem okX11_burn : im_okC im_ms mX11_burn = true := im_okC_wk (by decide +kernel) (by decide +kernel)
theorem omX11_burn : im_okM mX11_burn = true := im_okM_wk (by decide +kernel) rfl
theorem okX11_owner : im_okC im_ms mX11_owner = true := im_okC_wk (by decide +kernel) (by decide +kernel)
theorem omX11_owner : im_okM mX11_owner = true := im_okM_wk (by decide +kernel) rfl
theorem okX11_heirs : im_okC im_ms mX11_heirs = true := im_okC_wk (by decide +kernel) (by decide +kernel)
theorem omX11_heirs : im_okM mX11_heirs = true := im_okM_wk (by decide +kernel) rfl
theorem okX11_beside : im_okC im_ms mX11_beside = true := im_okC_wk (by decide +kernel) (by decide +kernel)
theorem omX11_beside : im_okM mX11_beside = true := im_okM_wk (by decide +kernel) rfl
