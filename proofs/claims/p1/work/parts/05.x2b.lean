/-! the tables are what the class files say -/
theorem okX11_count : im_okC im_ms mX11_count = true := by decide +kernel
theorem omX11_count : im_okM mX11_count = true := by decide +kernel
theorem okX11_pull : im_okC im_ms mX11_pull = true := by decide +kernel
theorem omX11_pull : im_okM mX11_pull = true := by decide +kernel
theorem okX11_pulls : im_okC im_ms mX11_pulls = true := by decide +kernel
theorem omX11_pulls : im_okM mX11_pulls = true := by decide +kernel
theorem okX11_areWallsToPull : im_okC im_ms mX11_areWallsToPull = true := by decide +kernel
theorem omX11_areWallsToPull : im_okM mX11_areWallsToPull = true := by decide +kernel
theorem okX11_pullTold : im_okC im_ms mX11_pullTold = true := by decide +kernel
theorem omX11_pullTold : im_okM mX11_pullTold = true := by decide +kernel
theorem okX11_mends : im_okC im_ms mX11_mends = true := by decide +kernel
theorem omX11_mends : im_okM mX11_mends = true := by decide +kernel
theorem okX11_mendTold : im_okC im_ms mX11_mendTold = true := by decide +kernel
theorem omX11_mendTold : im_okM mX11_mendTold = true := by decide +kernel
theorem okX11_mend : im_okC im_ms mX11_mend = true := by decide +kernel
theorem omX11_mend : im_okM mX11_mend = true := by decide +kernel
theorem okX11_roomTold : im_okC im_ms mX11_roomTold = true := by decide +kernel
theorem omX11_roomTold : im_okM mX11_roomTold = true := by decide +kernel
theorem okX11_raid : im_okC im_ms mX11_raid = true := by decide +kernel
theorem omX11_raid : im_okM mX11_raid = true := by decide +kernel
theorem okX11_probe : im_okC im_ms mX11_probe = true := by decide +kernel
theorem omX11_probe : im_okM mX11_probe = true := by decide +kernel
theorem okX11_likely : im_okC im_ms mX11_likely = true := by decide +kernel
theorem omX11_likely : im_okM mX11_likely = true := by decide +kernel
theorem okX11_next : im_okC im_ms mX11_next = true := by decide +kernel
theorem omX11_next : im_okM mX11_next = true := by decide +kernel
theorem okX11_paper : im_okC im_ms mX11_paper = true := by decide +kernel
theorem omX11_paper : im_okM mX11_paper = true := by decide +kernel
theorem okX11_burn : im_okC im_ms mX11_burn = true := by decide +kernel
theorem omX11_burn : im_okM mX11_burn = true := by decide +kernel
theorem okX11_owner : im_okC im_ms mX11_owner = true := by decide +kernel
theorem omX11_owner : im_okM mX11_owner = true := by decide +kernel
theorem okX11_heirs : im_okC im_ms mX11_heirs = true := by decide +kernel
theorem omX11_heirs : im_okM mX11_heirs = true := by decide +kernel
theorem okX11_beside : im_okC im_ms mX11_beside = true := by decide +kernel
theorem omX11_beside : im_okM mX11_beside = true := by decide +kernel
theorem okX11_clear : im_okC im_ms mX11_clear = true := by decide +kernel
theorem omX11_clear : im_okM mX11_clear = true := by decide +kernel
theorem okX11_image : im_okC im_ms mX11_image = true := by decide +kernel
theorem omX11_image : im_okM mX11_image = true := by decide +kernel
