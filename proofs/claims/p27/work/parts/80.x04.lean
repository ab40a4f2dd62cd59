/-! the tables are what the class files say: long bodies -/
theorem okX12_init : im_okC im_ms mX12_init = true := im_okC_wk (by decide +kernel) (by decide +kernel)
theorem omX12_init : im_okM mX12_init = true := im_okM_wk (by decide +kernel) rfl
theorem okL_law : im_okC im_ms mL_law = true := im_okC_wk (by decide +kernel) (by decide +kernel)
