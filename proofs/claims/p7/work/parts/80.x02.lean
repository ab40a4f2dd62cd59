/-! the tables are what the class files say -/
theorem okX4_isOver : im_okC im_ms mX4_isOver = true := by decide +kernel
theorem omX4_isOver : im_okM mX4_isOver = true := by decide +kernel
theorem okX4_leftOver : im_okC im_ms mX4_leftOver = true := by decide +kernel
theorem omX4_leftOver : im_okM mX4_leftOver = true := by decide +kernel
theorem okX4_find : im_okC im_ms mX4_find = true := by decide +kernel
theorem omX4_find : im_okM mX4_find = true := by decide +kernel
theorem okX4_chance : im_okC im_ms mX4_chance = true := by decide +kernel
theorem omX4_chance : im_okM mX4_chance = true := by decide +kernel
theorem okX4_likeliest : im_okC im_ms mX4_likeliest = true := by decide +kernel
theorem omX4_likeliest : im_okM mX4_likeliest = true := by decide +kernel
theorem okX5_init : im_okC im_ms mX5_init = true := by decide +kernel
theorem omX5_init : im_okM mX5_init = true := by decide +kernel
theorem okX6_init : im_okC im_ms mX6_init = true := by decide +kernel
theorem omX6_init : im_okM mX6_init = true := by decide +kernel
theorem okX6_findBest : im_okC im_ms mX6_findBest = true := by decide +kernel
theorem omX6_findBest : im_okM mX6_findBest = true := by decide +kernel
theorem okX6_choose : im_okC im_ms mX6_choose = true := by decide +kernel
theorem omX6_choose : im_okM mX6_choose = true := by decide +kernel
theorem okX7_init : im_okC im_ms mX7_init = true := by decide +kernel
theorem omX7_init : im_okM mX7_init = true := by decide +kernel
theorem okX8_init : im_okC im_ms mX8_init = true := by decide +kernel
theorem omX8_init : im_okM mX8_init = true := by decide +kernel
theorem okX8_isMissing : im_okC im_ms mX8_isMissing = true := by decide +kernel
theorem omX8_isMissing : im_okM mX8_isMissing = true := by decide +kernel
theorem okX8_put : im_okC im_ms mX8_put = true := by decide +kernel
theorem omX8_put : im_okM mX8_put = true := by decide +kernel
theorem okX8_holds : im_okC im_ms mX8_holds = true := by decide +kernel
theorem omX8_holds : im_okM mX8_holds = true := by decide +kernel
theorem okX8_hasAheadOf : im_okC im_ms mX8_hasAheadOf = true := by decide +kernel
theorem omX8_hasAheadOf : im_okM mX8_hasAheadOf = true := by decide +kernel
theorem okX9_init : im_okC im_ms mX9_init = true := by decide +kernel
theorem omX9_init : im_okM mX9_init = true := by decide +kernel
theorem okX9_become : im_okC im_ms mX9_become = true := by decide +kernel
theorem omX9_become : im_okM mX9_become = true := by decide +kernel
theorem okX9_allLoads : im_okC im_ms mX9_allLoads = true := by decide +kernel
theorem omX9_allLoads : im_okM mX9_allLoads = true := by decide +kernel
theorem okX9_allDead : im_okC im_ms mX9_allDead = true := by decide +kernel
theorem omX9_allDead : im_okM mX9_allDead = true := by decide +kernel
theorem okX9_allHurt : im_okC im_ms mX9_allHurt = true := by decide +kernel
theorem omX9_allHurt : im_okM mX9_allHurt = true := by decide +kernel
theorem okX10_init : im_okC im_ms mX10_init = true := by decide +kernel
theorem omX10_init : im_okM mX10_init = true := by decide +kernel
theorem okX10_readInto : im_okC im_ms mX10_readInto = true := by decide +kernel
theorem omX10_readInto : im_okM mX10_readInto = true := by decide +kernel
theorem okX10_readLine : im_okC im_ms mX10_readLine = true := by decide +kernel
theorem omX10_readLine : im_okM mX10_readLine = true := by decide +kernel
theorem okX10_readIf : im_okC im_ms mX10_readIf = true := by decide +kernel
theorem omX10_readIf : im_okM mX10_readIf = true := by decide +kernel
theorem okX10_readTests : im_okC im_ms mX10_readTests = true := by decide +kernel
theorem omX10_readTests : im_okM mX10_readTests = true := by decide +kernel
theorem okX10_readTest : im_okC im_ms mX10_readTest = true := by decide +kernel
theorem omX10_readTest : im_okM mX10_readTest = true := by decide +kernel
theorem okX10_readSign : im_okC im_ms mX10_readSign = true := by decide +kernel
theorem omX10_readSign : im_okM mX10_readSign = true := by decide +kernel
theorem okX10_readNumber : im_okC im_ms mX10_readNumber = true := by decide +kernel
theorem omX10_readNumber : im_okM mX10_readNumber = true := by decide +kernel
theorem okX10_readWord : im_okC im_ms mX10_readWord = true := by decide +kernel
theorem omX10_readWord : im_okM mX10_readWord = true := by decide +kernel
theorem okX10_byteAt : im_okC im_ms mX10_byteAt = true := by decide +kernel
theorem omX10_byteAt : im_okM mX10_byteAt = true := by decide +kernel
theorem okX11_init : im_okC im_ms mX11_init = true := by decide +kernel
theorem omX11_init : im_okM mX11_init = true := by decide +kernel
theorem okX11_ruin : im_okC im_ms mX11_ruin = true := by decide +kernel
theorem omX11_ruin : im_okM mX11_ruin = true := by decide +kernel
theorem okX11_person : im_okC im_ms mX11_person = true := by decide +kernel
theorem omX11_person : im_okM mX11_person = true := by decide +kernel
theorem okX11_moves : im_okC im_ms mX11_moves = true := by decide +kernel
theorem omX11_moves : im_okM mX11_moves = true := by decide +kernel
theorem okX11_wall : im_okC im_ms mX11_wall = true := by decide +kernel
theorem omX11_wall : im_okM mX11_wall = true := by decide +kernel
