/-! the tables are what the class files say: a long body, by ranges -/
theorem orL_law_6 : im_okR im_ms mL_law (8 * 6) 8 = true := by decide +kernel
theorem orL_law_7 : im_okR im_ms mL_law (8 * 7) 8 = true := by decide +kernel
theorem orL_law_8 : im_okR im_ms mL_law (8 * 8) 8 = true := by decide +kernel
