/-! the tables are what the class files say: a long body, by ranges -/
theorem orL_law_0 : im_okR im_ms mL_law (24 * 0) 24 = true := by decide +kernel
