/-! the tables are what the class files say: a long body, by ranges -/
theorem orL_law_3 : im_okR im_ms mL_law (8 * 3) 8 = true := by decide +kernel
theorem orL_law_4 : im_okR im_ms mL_law (8 * 4) 8 = true := by decide +kernel
theorem orL_law_5 : im_okR im_ms mL_law (8 * 5) 8 = true := by decide +kernel
