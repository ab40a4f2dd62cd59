/-! the tables are what the class files say -/
theorem okX12_byteHere : im_okC im_ms mX12_byteHere = true := by decide +kernel
theorem omX12_byteHere : im_okM mX12_byteHere = true := by decide +kernel
theorem okX12_wordOf : im_okC im_ms mX12_wordOf = true := by decide +kernel
theorem omX12_wordOf : im_okM mX12_wordOf = true := by decide +kernel
theorem okX12_number : im_okC im_ms mX12_number = true := by decide +kernel
theorem omX12_number : im_okM mX12_number = true := by decide +kernel
theorem okX12_test : im_okC im_ms mX12_test = true := by decide +kernel
theorem omX12_test : im_okM mX12_test = true := by decide +kernel
theorem okX12_line : im_okC im_ms mX12_line = true := by decide +kernel
theorem omX12_line : im_okM mX12_line = true := by decide +kernel
theorem okX12_order : im_okC im_ms mX12_order = true := by decide +kernel
theorem omX12_order : im_okM mX12_order = true := by decide +kernel
theorem okX12_force : im_okC im_ms mX12_force = true := by decide +kernel
theorem omX12_force : im_okM mX12_force = true := by decide +kernel
theorem okX12_fieldOf : im_okC im_ms mX12_fieldOf = true := by decide +kernel
theorem omX12_fieldOf : im_okM mX12_fieldOf = true := by decide +kernel
theorem okX12_holds : im_okC im_ms mX12_holds = true := by decide +kernel
theorem omX12_holds : im_okM mX12_holds = true := by decide +kernel
theorem okX12_saysOf : im_okC im_ms mX12_saysOf = true := by decide +kernel
theorem omX12_saysOf : im_okM mX12_saysOf = true := by decide +kernel
theorem okX12_says : im_okC im_ms mX12_says = true := by decide +kernel
theorem omX12_says : im_okM mX12_says = true := by decide +kernel
theorem okX12_worksOf : im_okC im_ms mX12_worksOf = true := by decide +kernel
theorem omX12_worksOf : im_okM mX12_worksOf = true := by decide +kernel
theorem okX12_passes : im_okC im_ms mX12_passes = true := by decide +kernel
theorem omX12_passes : im_okM mX12_passes = true := by decide +kernel
theorem okX12_comes : im_okC im_ms mX12_comes = true := by decide +kernel
theorem omX12_comes : im_okM mX12_comes = true := by decide +kernel
theorem okX12_goesRow : im_okC im_ms mX12_goesRow = true := by decide +kernel
theorem omX12_goesRow : im_okM mX12_goesRow = true := by decide +kernel
theorem okX12_goesRail : im_okC im_ms mX12_goesRail = true := by decide +kernel
theorem omX12_goesRail : im_okM mX12_goesRail = true := by decide +kernel
theorem okX12_isAt : im_okC im_ms mX12_isAt = true := by decide +kernel
theorem omX12_isAt : im_okM mX12_isAt = true := by decide +kernel
theorem okX12_falls : im_okC im_ms mX12_falls = true := by decide +kernel
theorem omX12_falls : im_okM mX12_falls = true := by decide +kernel
theorem okX12_wears : im_okC im_ms mX12_wears = true := by decide +kernel
theorem omX12_wears : im_okM mX12_wears = true := by decide +kernel
theorem okX12_goes : im_okC im_ms mX12_goes = true := by decide +kernel
theorem omX12_goes : im_okM mX12_goes = true := by decide +kernel
theorem okX12_run : im_okC im_ms mX12_run = true := by decide +kernel
theorem omX12_run : im_okM mX12_run = true := by decide +kernel
theorem okX12_cellTold : im_okC im_ms mX12_cellTold = true := by decide +kernel
theorem omX12_cellTold : im_okM mX12_cellTold = true := by decide +kernel
