/-! the tables are what the class files say, group 1 -/
theorem okX0_init : im_okC im_ms mX0_init = true := by decide +kernel
theorem omX0_init : im_okM mX0_init = true := by decide +kernel
theorem okX0_setHands : im_okC im_ms mX0_setHands = true := by decide +kernel
theorem omX0_setHands : im_okM mX0_setHands = true := by decide +kernel
theorem okX0_weakOf : im_okC im_ms mX0_weakOf = true := by decide +kernel
theorem omX0_weakOf : im_okM mX0_weakOf = true := by decide +kernel
theorem okX0_said : im_okC im_ms mX0_said = true := by decide +kernel
theorem omX0_said : im_okM mX0_said = true := by decide +kernel
theorem okX0_passes : im_okC im_ms mX0_passes = true := by decide +kernel
theorem omX0_passes : im_okM mX0_passes = true := by decide +kernel
theorem okX0_cellByDay : im_okC im_ms mX0_cellByDay = true := by decide +kernel
theorem omX0_cellByDay : im_okM mX0_cellByDay = true := by decide +kernel
theorem okX0_livingKin : im_okC im_ms mX0_livingKin = true := by decide +kernel
theorem omX0_livingKin : im_okM mX0_livingKin = true := by decide +kernel
theorem okX0_playDay : im_okC im_ms mX0_playDay = true := by decide +kernel
theorem omX0_playDay : im_okM mX0_playDay = true := by decide +kernel
theorem okX0_workRow : im_okC im_ms mX0_workRow = true := by decide +kernel
theorem omX0_workRow : im_okM mX0_workRow = true := by decide +kernel
theorem okX0_passOn : im_okC im_ms mX0_passOn = true := by decide +kernel
theorem omX0_passOn : im_okM mX0_passOn = true := by decide +kernel
theorem okX0_bring : im_okC im_ms mX0_bring = true := by decide +kernel
theorem omX0_bring : im_okM mX0_bring = true := by decide +kernel
theorem okX0_driveRail : im_okC im_ms mX0_driveRail = true := by decide +kernel
theorem omX0_driveRail : im_okM mX0_driveRail = true := by decide +kernel
theorem okX0_wearOf : im_okC im_ms mX0_wearOf = true := by decide +kernel
theorem omX0_wearOf : im_okM mX0_wearOf = true := by decide +kernel
theorem okX0_wearsOut : im_okC im_ms mX0_wearsOut = true := by decide +kernel
theorem omX0_wearsOut : im_okM mX0_wearsOut = true := by decide +kernel
theorem okX0_fall : im_okC im_ms mX0_fall = true := by decide +kernel
theorem omX0_fall : im_okM mX0_fall = true := by decide +kernel
theorem okX0_heal : im_okC im_ms mX0_heal = true := by decide +kernel
theorem omX0_heal : im_okM mX0_heal = true := by decide +kernel
theorem okX0_daysUntilFall : im_okC im_ms mX0_daysUntilFall = true := by decide +kernel
theorem omX0_daysUntilFall : im_okM mX0_daysUntilFall = true := by decide +kernel
theorem okX1_init : im_okC im_ms mX1_init = true := by decide +kernel
theorem omX1_init : im_okM mX1_init = true := by decide +kernel
theorem okX1_holds : im_okC im_ms mX1_holds = true := by decide +kernel
theorem omX1_holds : im_okM mX1_holds = true := by decide +kernel
theorem okX2_init : im_okC im_ms mX2_init = true := by decide +kernel
theorem omX2_init : im_okM mX2_init = true := by decide +kernel
theorem okX2_ownerOf : im_okC im_ms mX2_ownerOf = true := by decide +kernel
theorem omX2_ownerOf : im_okM mX2_ownerOf = true := by decide +kernel
theorem okX2_isKnown : im_okC im_ms mX2_isKnown = true := by decide +kernel
theorem omX2_isKnown : im_okM mX2_isKnown = true := by decide +kernel
theorem okX3_init : im_okC im_ms mX3_init = true := by decide +kernel
theorem omX3_init : im_okM mX3_init = true := by decide +kernel
theorem okX3_find : im_okC im_ms mX3_find = true := by decide +kernel
theorem omX3_find : im_okM mX3_find = true := by decide +kernel
theorem okX3_countLate : im_okC im_ms mX3_countLate = true := by decide +kernel
theorem omX3_countLate : im_okM mX3_countLate = true := by decide +kernel
theorem okX3_keep : im_okC im_ms mX3_keep = true := by decide +kernel
theorem omX3_keep : im_okM mX3_keep = true := by decide +kernel
theorem okX3_goOn : im_okC im_ms mX3_goOn = true := by decide +kernel
theorem omX3_goOn : im_okM mX3_goOn = true := by decide +kernel
theorem okX3_swap : im_okC im_ms mX3_swap = true := by decide +kernel
theorem omX3_swap : im_okM mX3_swap = true := by decide +kernel
theorem okX4_init : im_okC im_ms mX4_init = true := by decide +kernel
theorem omX4_init : im_okM mX4_init = true := by decide +kernel
theorem okX4_begin : im_okC im_ms mX4_begin = true := by decide +kernel
theorem omX4_begin : im_okM mX4_begin = true := by decide +kernel
theorem okX4_isOver : im_okC im_ms mX4_isOver = true := by decide +kernel
theorem omX4_isOver : im_okM mX4_isOver = true := by decide +kernel
theorem okX4_leftOver : im_okC im_ms mX4_leftOver = true := by decide +kernel
theorem omX4_leftOver : im_okM mX4_leftOver = true := by decide +kernel
theorem okX4_find : im_okC im_ms mX4_find = true := by decide +kernel
theorem omX4_find : im_okM mX4_find = true := by decide +kernel
theorem okX4_chance : im_okC im_ms mX4_chance = true := by decide +kernel
theorem omX4_chance : im_okM mX4_chance = true := by decide +kernel
theorem okX4_likeliest : im_okC im_ms mX4_likeliest = true := by decide +kernel
theorem omX4_likeliest : im_okM mX4_likeliest = true := by decide +kernel
theorem okX5_init : im_okC im_ms mX5_init = true := by decide +kernel
theorem omX5_init : im_okM mX5_init = true := by decide +kernel
theorem okX6_init : im_okC im_ms mX6_init = true := by decide +kernel
theorem omX6_init : im_okM mX6_init = true := by decide +kernel
theorem okX6_findBest : im_okC im_ms mX6_findBest = true := by decide +kernel
theorem omX6_findBest : im_okM mX6_findBest = true := by decide +kernel
theorem okX6_choose : im_okC im_ms mX6_choose = true := by decide +kernel
theorem omX6_choose : im_okM mX6_choose = true := by decide +kernel
theorem okX7_init : im_okC im_ms mX7_init = true := by decide +kernel
theorem omX7_init : im_okM mX7_init = true := by decide +kernel
theorem okX8_init : im_okC im_ms mX8_init = true := by decide +kernel
theorem omX8_init : im_okM mX8_init = true := by decide +kernel
theorem okX8_isMissing : im_okC im_ms mX8_isMissing = true := by decide +kernel
theorem omX8_isMissing : im_okM mX8_isMissing = true := by decide +kernel
theorem okX8_put : im_okC im_ms mX8_put = true := by decide +kernel
theorem omX8_put : im_okM mX8_put = true := by decide +kernel
theorem okX8_holds : im_okC im_ms mX8_holds = true := by decide +kernel
theorem omX8_holds : im_okM mX8_holds = true := by decide +kernel
theorem okX8_hasAheadOf : im_okC im_ms mX8_hasAheadOf = true := by decide +kernel
theorem omX8_hasAheadOf : im_okM mX8_hasAheadOf = true := by decide +kernel
theorem okX9_init : im_okC im_ms mX9_init = true := by decide +kernel
theorem omX9_init : im_okM mX9_init = true := by decide +kernel
theorem okX9_become : im_okC im_ms mX9_become = true := by decide +kernel
theorem omX9_become : im_okM mX9_become = true := by decide +kernel
theorem okX9_allLoads : im_okC im_ms mX9_allLoads = true := by decide +kernel
theorem omX9_allLoads : im_okM mX9_allLoads = true := by decide +kernel
theorem okX9_allDead : im_okC im_ms mX9_allDead = true := by decide +kernel
theorem omX9_allDead : im_okM mX9_allDead = true := by decide +kernel
theorem okX9_allHurt : im_okC im_ms mX9_allHurt = true := by decide +kernel
theorem omX9_allHurt : im_okM mX9_allHurt = true := by decide +kernel
theorem okX10_init : im_okC im_ms mX10_init = true := by decide +kernel
theorem omX10_init : im_okM mX10_init = true := by decide +kernel
theorem okX10_readInto : im_okC im_ms mX10_readInto = true := by decide +kernel
theorem omX10_readInto : im_okM mX10_readInto = true := by decide +kernel
theorem okX10_readLine : im_okC im_ms mX10_readLine = true := by decide +kernel
theorem omX10_readLine : im_okM mX10_readLine = true := by decide +kernel
theorem okX10_readIf : im_okC im_ms mX10_readIf = true := by decide +kernel
theorem omX10_readIf : im_okM mX10_readIf = true := by decide +kernel
theorem okX10_readTests : im_okC im_ms mX10_readTests = true := by decide +kernel
theorem omX10_readTests : im_okM mX10_readTests = true := by decide +kernel
theorem okX10_readTest : im_okC im_ms mX10_readTest = true := by decide +kernel
theorem omX10_readTest : im_okM mX10_readTest = true := by decide +kernel
theorem okX10_readSign : im_okC im_ms mX10_readSign = true := by decide +kernel
theorem omX10_readSign : im_okM mX10_readSign = true := by decide +kernel
theorem okX10_readNumber : im_okC im_ms mX10_readNumber = true := by decide +kernel
theorem omX10_readNumber : im_okM mX10_readNumber = true := by decide +kernel
theorem okX10_readWord : im_okC im_ms mX10_readWord = true := by decide +kernel
theorem omX10_readWord : im_okM mX10_readWord = true := by decide +kernel
theorem okX10_byteAt : im_okC im_ms mX10_byteAt = true := by decide +kernel
theorem omX10_byteAt : im_okM mX10_byteAt = true := by decide +kernel
theorem okX11_init : im_okC im_ms mX11_init = true := by decide +kernel
theorem omX11_init : im_okM mX11_init = true := by decide +kernel
theorem okX11_ruin : im_okC im_ms mX11_ruin = true := by decide +kernel
theorem omX11_ruin : im_okM mX11_ruin = true := by decide +kernel
theorem okX11_person : im_okC im_ms mX11_person = true := by decide +kernel
theorem omX11_person : im_okM mX11_person = true := by decide +kernel
theorem okX11_moves : im_okC im_ms mX11_moves = true := by decide +kernel
theorem omX11_moves : im_okM mX11_moves = true := by decide +kernel
theorem okX11_wall : im_okC im_ms mX11_wall = true := by decide +kernel
theorem omX11_wall : im_okM mX11_wall = true := by decide +kernel
