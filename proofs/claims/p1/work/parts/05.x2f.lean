/-! the tables are what the class files say -/
theorem okX12_isAt : im_okC im_ms mX12_isAt = true := by decide +kernel
theorem omX12_isAt : im_okM mX12_isAt = true := by decide +kernel
theorem okX12_falls : im_okC im_ms mX12_falls = true := by decide +kernel
theorem omX12_falls : im_okM mX12_falls = true := by decide +kernel
theorem okX12_wears : im_okC im_ms mX12_wears = true := by decide +kernel
theorem omX12_wears : im_okM mX12_wears = true := by decide +kernel
theorem okX12_goes : im_okC im_ms mX12_goes = true := by decide +kernel
theorem omX12_goes : im_okM mX12_goes = true := by decide +kernel
theorem okX12_run : im_okC im_ms mX12_run = true := by decide +kernel
theorem omX12_run : im_okM mX12_run = true := by decide +kernel
theorem okX12_cellTold : im_okC im_ms mX12_cellTold = true := by decide +kernel
theorem omX12_cellTold : im_okM mX12_cellTold = true := by decide +kernel
theorem okX12_kindTold : im_okC im_ms mX12_kindTold = true := by decide +kernel
theorem omX12_kindTold : im_okM mX12_kindTold = true := by decide +kernel
theorem okX12_personTold : im_okC im_ms mX12_personTold = true := by decide +kernel
theorem omX12_personTold : im_okM mX12_personTold = true := by decide +kernel
theorem okX12_rowTold : im_okC im_ms mX12_rowTold = true := by decide +kernel
theorem omX12_rowTold : im_okM mX12_rowTold = true := by decide +kernel
theorem okX12_railTold : im_okC im_ms mX12_railTold = true := by decide +kernel
theorem omX12_railTold : im_okM mX12_railTold = true := by decide +kernel
theorem okX12_isWall : im_okC im_ms mX12_isWall = true := by decide +kernel
theorem omX12_isWall : im_okM mX12_isWall = true := by decide +kernel
theorem okX12_wallTold : im_okC im_ms mX12_wallTold = true := by decide +kernel
theorem omX12_wallTold : im_okM mX12_wallTold = true := by decide +kernel
theorem okX12_sum : im_okC im_ms mX12_sum = true := by decide +kernel
theorem omX12_sum : im_okM mX12_sum = true := by decide +kernel
theorem okX12_count : im_okC im_ms mX12_count = true := by decide +kernel
theorem omX12_count : im_okM mX12_count = true := by decide +kernel
theorem okX12_pull : im_okC im_ms mX12_pull = true := by decide +kernel
theorem omX12_pull : im_okM mX12_pull = true := by decide +kernel
theorem okX12_late : im_okC im_ms mX12_late = true := by decide +kernel
theorem omX12_late : im_okM mX12_late = true := by decide +kernel
