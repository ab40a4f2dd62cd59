/-! the tables are what the class files say -/
theorem okX11_weather : im_okC im_ms mX11_weather = true := by decide +kernel
theorem omX11_weather : im_okM mX11_weather = true := by decide +kernel
theorem okX11_tip : im_okC im_ms mX11_tip = true := by decide +kernel
theorem omX11_tip : im_okM mX11_tip = true := by decide +kernel
theorem okX11_row : im_okC im_ms mX11_row = true := by decide +kernel
theorem omX11_row : im_okM mX11_row = true := by decide +kernel
theorem okX11_refusalOfHands : im_okC im_ms mX11_refusalOfHands = true := by decide +kernel
theorem omX11_refusalOfHands : im_okM mX11_refusalOfHands = true := by decide +kernel
theorem okX11_rail : im_okC im_ms mX11_rail = true := by decide +kernel
theorem omX11_rail : im_okM mX11_rail = true := by decide +kernel
theorem okX11_isWay : im_okC im_ms mX11_isWay = true := by decide +kernel
theorem omX11_isWay : im_okM mX11_isWay = true := by decide +kernel
theorem okX11_room : im_okC im_ms mX11_room = true := by decide +kernel
theorem omX11_room : im_okM mX11_room = true := by decide +kernel
theorem okX11_feed : im_okC im_ms mX11_feed = true := by decide +kernel
theorem omX11_feed : im_okM mX11_feed = true := by decide +kernel
theorem okX11_order : im_okC im_ms mX11_order = true := by decide +kernel
theorem omX11_order : im_okM mX11_order = true := by decide +kernel
theorem okX11_force : im_okC im_ms mX11_force = true := by decide +kernel
theorem omX11_force : im_okM mX11_force = true := by decide +kernel
theorem okX11_says : im_okC im_ms mX11_says = true := by decide +kernel
theorem omX11_says : im_okM mX11_says = true := by decide +kernel
theorem okX11_run : im_okC im_ms mX11_run = true := by decide +kernel
theorem omX11_run : im_okM mX11_run = true := by decide +kernel
theorem okX11_cellTold : im_okC im_ms mX11_cellTold = true := by decide +kernel
theorem omX11_cellTold : im_okM mX11_cellTold = true := by decide +kernel
theorem okX11_kindTold : im_okC im_ms mX11_kindTold = true := by decide +kernel
theorem omX11_kindTold : im_okM mX11_kindTold = true := by decide +kernel
theorem okX11_personTold : im_okC im_ms mX11_personTold = true := by decide +kernel
theorem omX11_personTold : im_okM mX11_personTold = true := by decide +kernel
theorem okX11_rowTold : im_okC im_ms mX11_rowTold = true := by decide +kernel
theorem omX11_rowTold : im_okM mX11_rowTold = true := by decide +kernel
theorem okX11_railTold : im_okC im_ms mX11_railTold = true := by decide +kernel
theorem omX11_railTold : im_okM mX11_railTold = true := by decide +kernel
theorem okX11_wallTold : im_okC im_ms mX11_wallTold = true := by decide +kernel
theorem omX11_wallTold : im_okM mX11_wallTold = true := by decide +kernel
theorem okX11_count : im_okC im_ms mX11_count = true := by decide +kernel
theorem omX11_count : im_okM mX11_count = true := by decide +kernel
theorem okX11_pull : im_okC im_ms mX11_pull = true := by decide +kernel
theorem omX11_pull : im_okM mX11_pull = true := by decide +kernel
theorem okX11_pulls : im_okC im_ms mX11_pulls = true := by decide +kernel
theorem omX11_pulls : im_okM mX11_pulls = true := by decide +kernel
theorem okX11_areWallsToPull : im_okC im_ms mX11_areWallsToPull = true := by decide +kernel
theorem omX11_areWallsToPull : im_okM mX11_areWallsToPull = true := by decide +kernel
theorem okX11_pullTold : im_okC im_ms mX11_pullTold = true := by decide +kernel
theorem omX11_pullTold : im_okM mX11_pullTold = true := by decide +kernel
theorem okX11_mends : im_okC im_ms mX11_mends = true := by decide +kernel
theorem omX11_mends : im_okM mX11_mends = true := by decide +kernel
theorem okX11_mendTold : im_okC im_ms mX11_mendTold = true := by decide +kernel
theorem omX11_mendTold : im_okM mX11_mendTold = true := by decide +kernel
theorem okX11_mend : im_okC im_ms mX11_mend = true := by decide +kernel
theorem omX11_mend : im_okM mX11_mend = true := by decide +kernel
theorem okX11_roomTold : im_okC im_ms mX11_roomTold = true := by decide +kernel
theorem omX11_roomTold : im_okM mX11_roomTold = true := by decide +kernel
theorem okX11_raid : im_okC im_ms mX11_raid = true := by decide +kernel
theorem omX11_raid : im_okM mX11_raid = true := by decide +kernel
theorem okX11_probe : im_okC im_ms mX11_probe = true := by decide +kernel
theorem omX11_probe : im_okM mX11_probe = true := by decide +kernel
theorem okX11_likely : im_okC im_ms mX11_likely = true := by decide +kernel
theorem omX11_likely : im_okM mX11_likely = true := by decide +kernel
theorem okX11_next : im_okC im_ms mX11_next = true := by decide +kernel
theorem omX11_next : im_okM mX11_next = true := by decide +kernel
theorem okX11_paper : im_okC im_ms mX11_paper = true := by decide +kernel
theorem omX11_paper : im_okM mX11_paper = true := by decide +kernel
theorem okX11_burn : im_okC im_ms mX11_burn = true := by decide +kernel
theorem omX11_burn : im_okM mX11_burn = true := by decide +kernel
theorem okX11_owner : im_okC im_ms mX11_owner = true := by decide +kernel
theorem omX11_owner : im_okM mX11_owner = true := by decide +kernel
theorem okX11_heirs : im_okC im_ms mX11_heirs = true := by decide +kernel
theorem omX11_heirs : im_okM mX11_heirs = true := by decide +kernel
