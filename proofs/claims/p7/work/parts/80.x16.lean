/-! the tables are what the class files say: a long body, by ranges -/
theorem orL_law_12 : im_okR im_ms mL_law (8 * 12) 8 = true := by decide +kernel
theorem orL_law_13 : im_okR im_ms mL_law (8 * 13) 8 = true := by decide +kernel
