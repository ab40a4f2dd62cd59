/-! the tables are what the class files say: a long body, by ranges -/
theorem orL_law_4 : im_okR im_ms mL_law (24 * 4) 24 = true := by decide +kernel
