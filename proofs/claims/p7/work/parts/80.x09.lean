/-! the tables are what the class files say: a long body, by ranges -/
theorem orX12_init_1 : im_okR im_ms mX12_init (24 * 1) 24 = true := by decide +kernel
