/-! the tables are what the class files say -/
theorem okX0_init : im_okC im_ms mX0_init = true := by decide +kernel
theorem omX0_init : im_okM mX0_init = true := by decide +kernel
theorem okX0_setHands : im_okC im_ms mX0_setHands = true := by decide +kernel
theorem omX0_setHands : im_okM mX0_setHands = true := by decide +kernel
theorem okX0_weakOf : im_okC im_ms mX0_weakOf = true := by decide +kernel
theorem omX0_weakOf : im_okM mX0_weakOf = true := by decide +kernel
theorem okX0_said : im_okC im_ms mX0_said = true := by decide +kernel
theorem omX0_said : im_okM mX0_said = true := by decide +kernel
theorem okX0_passes : im_okC im_ms mX0_passes = true := by decide +kernel
theorem omX0_passes : im_okM mX0_passes = true := by decide +kernel
theorem okX0_cellByDay : im_okC im_ms mX0_cellByDay = true := by decide +kernel
theorem omX0_cellByDay : im_okM mX0_cellByDay = true := by decide +kernel
theorem okX0_livingKin : im_okC im_ms mX0_livingKin = true := by decide +kernel
theorem omX0_livingKin : im_okM mX0_livingKin = true := by decide +kernel
theorem okX0_playDay : im_okC im_ms mX0_playDay = true := by decide +kernel
theorem omX0_playDay : im_okM mX0_playDay = true := by decide +kernel
theorem okX0_workRow : im_okC im_ms mX0_workRow = true := by decide +kernel
theorem omX0_workRow : im_okM mX0_workRow = true := by decide +kernel
theorem okX0_passOn : im_okC im_ms mX0_passOn = true := by decide +kernel
theorem omX0_passOn : im_okM mX0_passOn = true := by decide +kernel
theorem okX0_bring : im_okC im_ms mX0_bring = true := by decide +kernel
theorem omX0_bring : im_okM mX0_bring = true := by decide +kernel
theorem okX0_driveRail : im_okC im_ms mX0_driveRail = true := by decide +kernel
theorem omX0_driveRail : im_okM mX0_driveRail = true := by decide +kernel
theorem okX0_wearOf : im_okC im_ms mX0_wearOf = true := by decide +kernel
theorem omX0_wearOf : im_okM mX0_wearOf = true := by decide +kernel
theorem okX0_wearsOut : im_okC im_ms mX0_wearsOut = true := by decide +kernel
theorem omX0_wearsOut : im_okM mX0_wearsOut = true := by decide +kernel
theorem okX0_fall : im_okC im_ms mX0_fall = true := by decide +kernel
theorem omX0_fall : im_okM mX0_fall = true := by decide +kernel
theorem okX0_heal : im_okC im_ms mX0_heal = true := by decide +kernel
theorem omX0_heal : im_okM mX0_heal = true := by decide +kernel
theorem okX0_daysUntilFall : im_okC im_ms mX0_daysUntilFall = true := by decide +kernel
theorem omX0_daysUntilFall : im_okM mX0_daysUntilFall = true := by decide +kernel
theorem okX1_init : im_okC im_ms mX1_init = true := by decide +kernel
theorem omX1_init : im_okM mX1_init = true := by decide +kernel
theorem okX1_holds : im_okC im_ms mX1_holds = true := by decide +kernel
theorem omX1_holds : im_okM mX1_holds = true := by decide +kernel
theorem okX2_init : im_okC im_ms mX2_init = true := by decide +kernel
theorem omX2_init : im_okM mX2_init = true := by decide +kernel
theorem okX2_ownerOf : im_okC im_ms mX2_ownerOf = true := by decide +kernel
theorem omX2_ownerOf : im_okM mX2_ownerOf = true := by decide +kernel
theorem okX2_isKnown : im_okC im_ms mX2_isKnown = true := by decide +kernel
theorem omX2_isKnown : im_okM mX2_isKnown = true := by decide +kernel
theorem okX3_init : im_okC im_ms mX3_init = true := by decide +kernel
theorem omX3_init : im_okM mX3_init = true := by decide +kernel
theorem okX3_find : im_okC im_ms mX3_find = true := by decide +kernel
theorem omX3_find : im_okM mX3_find = true := by decide +kernel
theorem okX3_countLate : im_okC im_ms mX3_countLate = true := by decide +kernel
theorem omX3_countLate : im_okM mX3_countLate = true := by decide +kernel
theorem okX3_keep : im_okC im_ms mX3_keep = true := by decide +kernel
theorem omX3_keep : im_okM mX3_keep = true := by decide +kernel
theorem okX3_goOn : im_okC im_ms mX3_goOn = true := by decide +kernel
theorem omX3_goOn : im_okM mX3_goOn = true := by decide +kernel
theorem okX3_swap : im_okC im_ms mX3_swap = true := by decide +kernel
theorem omX3_swap : im_okM mX3_swap = true := by decide +kernel
theorem okX4_init : im_okC im_ms mX4_init = true := by decide +kernel
theorem omX4_init : im_okM mX4_init = true := by decide +kernel
theorem okX4_begin : im_okC im_ms mX4_begin = true := by decide +kernel
theorem omX4_begin : im_okM mX4_begin = true := by decide +kernel
