/-! the tables are what the class files say -/
theorem okX12_owner : im_okC im_ms mX12_owner = true := by decide +kernel
theorem omX12_owner : im_okM mX12_owner = true := by decide +kernel
theorem okX12_heirs : im_okC im_ms mX12_heirs = true := by decide +kernel
theorem omX12_heirs : im_okM mX12_heirs = true := by decide +kernel
theorem okX12_lays : im_okC im_ms mX12_lays = true := by decide +kernel
theorem omX12_lays : im_okM mX12_lays = true := by decide +kernel
theorem okX12_beside : im_okC im_ms mX12_beside = true := by decide +kernel
theorem omX12_beside : im_okM mX12_beside = true := by decide +kernel
theorem okX12_clear : im_okC im_ms mX12_clear = true := by decide +kernel
theorem omX12_clear : im_okM mX12_clear = true := by decide +kernel
theorem okX12_image : im_okC im_ms mX12_image = true := by decide +kernel
theorem omX12_image : im_okM mX12_image = true := by decide +kernel
theorem okX12_back : im_okC im_ms mX12_back = true := by decide +kernel
theorem omX12_back : im_okM mX12_back = true := by decide +kernel
theorem okX12_sheet : im_okC im_ms mX12_sheet = true := by decide +kernel
theorem omX12_sheet : im_okM mX12_sheet = true := by decide +kernel
theorem okX12_cell : im_okC im_ms mX12_cell = true := by decide +kernel
theorem omX12_cell : im_okM mX12_cell = true := by decide +kernel
theorem okX12_copy : im_okC im_ms mX12_copy = true := by decide +kernel
theorem omX12_copy : im_okM mX12_copy = true := by decide +kernel
theorem okX12_people : im_okC im_ms mX12_people = true := by decide +kernel
theorem omX12_people : im_okM mX12_people = true := by decide +kernel
theorem okX12_isUnder : im_okC im_ms mX12_isUnder = true := by decide +kernel
theorem omX12_isUnder : im_okM mX12_isUnder = true := by decide +kernel
theorem okX12_taken : im_okC im_ms mX12_taken = true := by decide +kernel
theorem omX12_taken : im_okM mX12_taken = true := by decide +kernel
theorem okJ7_fill_53178 : im_okC im_ms mJ7_fill_53178 = true := by decide +kernel
theorem omJ7_fill_53178 : im_okM mJ7_fill_53178 = true := by decide +kernel
