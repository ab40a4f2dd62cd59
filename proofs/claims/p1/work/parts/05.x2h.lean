/-! the tables are what the class files say -/
theorem okX12_likely : im_okC im_ms mX12_likely = true := by decide +kernel
theorem omX12_likely : im_okM mX12_likely = true := by decide +kernel
theorem okX12_next : im_okC im_ms mX12_next = true := by decide +kernel
theorem omX12_next : im_okM mX12_next = true := by decide +kernel
theorem okX12_paper : im_okC im_ms mX12_paper = true := by decide +kernel
theorem omX12_paper : im_okM mX12_paper = true := by decide +kernel
theorem okX12_burn : im_okC im_ms mX12_burn = true := by decide +kernel
theorem omX12_burn : im_okM mX12_burn = true := by decide +kernel
theorem okX12_owner : im_okC im_ms mX12_owner = true := by decide +kernel
theorem omX12_owner : im_okM mX12_owner = true := by decide +kernel
theorem okX12_heirs : im_okC im_ms mX12_heirs = true := by decide +kernel
theorem omX12_heirs : im_okM mX12_heirs = true := by decide +kernel
theorem okX12_lays : im_okC im_ms mX12_lays = true := by decide +kernel
theorem omX12_lays : im_okM mX12_lays = true := by decide +kernel
theorem okX12_beside : im_okC im_ms mX12_beside = true := by decide +kernel
theorem omX12_beside : im_okM mX12_beside = true := by decide +kernel
theorem okX12_clear : im_okC im_ms mX12_clear = true := by decide +kernel
theorem omX12_clear : im_okM mX12_clear = true := by decide +kernel
theorem okX12_image : im_okC im_ms mX12_image = true := by decide +kernel
theorem omX12_image : im_okM mX12_image = true := by decide +kernel
theorem okX12_back : im_okC im_ms mX12_back = true := by decide +kernel
theorem omX12_back : im_okM mX12_back = true := by decide +kernel
theorem okX12_sheet : im_okC im_ms mX12_sheet = true := by decide +kernel
theorem omX12_sheet : im_okM mX12_sheet = true := by decide +kernel
theorem okX12_cell : im_okC im_ms mX12_cell = true := by decide +kernel
theorem omX12_cell : im_okM mX12_cell = true := by decide +kernel
theorem okX12_copy : im_okC im_ms mX12_copy = true := by decide +kernel
theorem omX12_copy : im_okM mX12_copy = true := by decide +kernel
