/-! the tables are what the class files say: a long body, by ranges -/
theorem orL_law_1 : im_okR im_ms mL_law (24 * 1) 24 = true := by decide +kernel
