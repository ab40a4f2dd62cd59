/-! the tables are what the class files say: a long body, by ranges -/
theorem orL_law_0 : im_okR im_ms mL_law (8 * 0) 8 = true := by decide +kernel
theorem orL_law_1 : im_okR im_ms mL_law (8 * 1) 8 = true := by decide +kernel
theorem orL_law_2 : im_okR im_ms mL_law (8 * 2) 8 = true := by decide +kernel
