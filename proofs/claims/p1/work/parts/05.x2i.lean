/-! the tables are what the class files say -/
theorem okX12_people : im_okC im_ms mX12_people = true := by decide +kernel
theorem omX12_people : im_okM mX12_people = true := by decide +kernel
theorem okX12_isUnder : im_okC im_ms mX12_isUnder = true := by decide +kernel
theorem omX12_isUnder : im_okM mX12_isUnder = true := by decide +kernel
theorem okX12_taken : im_okC im_ms mX12_taken = true := by decide +kernel
theorem omX12_taken : im_okM mX12_taken = true := by decide +kernel
theorem okJ9_max_7cf53 : im_okC im_ms mJ9_max_7cf53 = true := by decide +kernel
theorem omJ9_max_7cf53 : im_okM mJ9_max_7cf53 = true := by decide +kernel
theorem okJ9_min_7cf53 : im_okC im_ms mJ9_min_7cf53 = true := by decide +kernel
theorem omJ9_min_7cf53 : im_okM mJ9_min_7cf53 = true := by decide +kernel
theorem okJ7_fill_53178 : im_okC im_ms mJ7_fill_53178 = true := by decide +kernel
theorem omJ7_fill_53178 : im_okM mJ7_fill_53178 = true := by decide +kernel
