/-! the tables are what the class files say: a long body, by ranges -/
theorem orL_law_9 : im_okR im_ms mL_law (8 * 9) 8 = true := by decide +kernel
theorem orL_law_10 : im_okR im_ms mL_law (8 * 10) 8 = true := by decide +kernel
theorem orL_law_11 : im_okR im_ms mL_law (8 * 11) 8 = true := by decide +kernel
