/-! the tables are what the class files say -/
theorem okX12_lays : im_okC im_ms mX12_lays = true := im_okC_wk (by decide +kernel) (by decide +kernel)
theorem omX12_lays : im_okM mX12_lays = true := im_okM_wk (by decide +kernel) rfl
theorem okX12_beside : im_okC im_ms mX12_beside = true := im_okC_wk (by decide +kernel) (by decide +kernel)
theorem omX12_beside : im_okM mX12_beside = true := im_okM_wk (by decide +kernel) rfl
theorem okX12_clear : im_okC im_ms mX12_clear = true := im_okC_wk (by decide +kernel) (by decide +kernel)
theorem omX12_clear : im_okM mX12_clear = true := im_okM_wk (by decide +kernel) rfl
theorem okX12_image : im_okC im_ms mX12_image = true := im_okC_wk (by decide +kernel) (by decide +kernel)
theorem omX12_image : im_okM mX12_image = true := im_okM_wk (by decide +kernel) rfl
theorem okX12_back : im_okC im_ms mX12_back = true := im_okC_wk (by decide +kernel) (by decide +kernel)
theorem omX12_back : im_okM mX12_back = true := im_okM_wk (by decide +kernel) rfl
theorem okX12_sheet : im_okC im_ms mX12_sheet = true := im_okC_wk (by decide +kernel) (by decide +kernel)
theorem omX12_sheet : im_okM mX12_sheet = true := im_okM_wk (by decide +kernel) rfl
theorem okX12_cell : im_okC im_ms mX12_cell = true := im_okC_wk (by decide +kernel) (by decide +kernel)
theorem omX12_cell : im_okM mX12_cell = true := im_okM_wk (by decide +kernel) rfl
theorem okX12_copy : im_okC im_ms mX12_copy = true := im_okC_wk (by decide +kernel) (by decide +kernel)
theorem omX12_copy : im_okM mX12_copy = true := im_okM_wk (by decide +kernel) rfl
theorem okX12_people : im_okC im_ms mX12_people = true := im_okC_wk (by decide +kernel) (by decide +kernel)
theorem omX12_people : im_okM mX12_people = true := im_okM_wk (by decide +kernel) rfl
theorem okX12_isUnder : im_okC im_ms mX12_isUnder = true := im_okC_wk (by decide +kernel) (by decide +kernel)
theorem omX12_isUnder : im_okM mX12_isUnder = true := im_okM_wk (by decide +kernel) rfl
theorem okX12_taken : im_okC im_ms mX12_taken = true := im_okC_wk (by decide +kernel) (by decide +kernel)
theorem omX12_taken : im_okM mX12_taken = true := im_okM_wk (by decide +kernel) rfl
theorem okJ7_fill_53178 : im_okC im_ms mJ7_fill_53178 = true := im_okC_wk (by decide +kernel) (by decide +kernel)
theorem omJ7_fill_53178 : im_okM mJ7_fill_53178 = true := im_okM_wk (by decide +kernel) rfl
