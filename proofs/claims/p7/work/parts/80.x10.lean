/-! the tables are what the class files say: a long body, by ranges -/
theorem orX12_init_2 : im_okR im_ms mX12_init (24 * 2) 24 = true := by decide +kernel
