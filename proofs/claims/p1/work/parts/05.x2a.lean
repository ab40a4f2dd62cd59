/-! the tables are what the class files say -/
theorem okX11_weather : im_okC im_ms mX11_weather = true := by decide +kernel
theorem omX11_weather : im_okM mX11_weather = true := by decide +kernel
theorem okX11_tip : im_okC im_ms mX11_tip = true := by decide +kernel
theorem omX11_tip : im_okM mX11_tip = true := by decide +kernel
theorem okX11_row : im_okC im_ms mX11_row = true := by decide +kernel
theorem omX11_row : im_okM mX11_row = true := by decide +kernel
theorem okX11_refusalOfHands : im_okC im_ms mX11_refusalOfHands = true := by decide +kernel
theorem omX11_refusalOfHands : im_okM mX11_refusalOfHands = true := by decide +kernel
theorem okX11_rail : im_okC im_ms mX11_rail = true := by decide +kernel
theorem omX11_rail : im_okM mX11_rail = true := by decide +kernel
theorem okX11_isWay : im_okC im_ms mX11_isWay = true := by decide +kernel
theorem omX11_isWay : im_okM mX11_isWay = true := by decide +kernel
theorem okX11_room : im_okC im_ms mX11_room = true := by decide +kernel
theorem omX11_room : im_okM mX11_room = true := by decide +kernel
theorem okX11_feed : im_okC im_ms mX11_feed = true := by decide +kernel
theorem omX11_feed : im_okM mX11_feed = true := by decide +kernel
theorem okX11_order : im_okC im_ms mX11_order = true := by decide +kernel
theorem omX11_order : im_okM mX11_order = true := by decide +kernel
theorem okX11_force : im_okC im_ms mX11_force = true := by decide +kernel
theorem omX11_force : im_okM mX11_force = true := by decide +kernel
theorem okX11_says : im_okC im_ms mX11_says = true := by decide +kernel
theorem omX11_says : im_okM mX11_says = true := by decide +kernel
theorem okX11_run : im_okC im_ms mX11_run = true := by decide +kernel
theorem omX11_run : im_okM mX11_run = true := by decide +kernel
theorem okX11_cellTold : im_okC im_ms mX11_cellTold = true := by decide +kernel
theorem omX11_cellTold : im_okM mX11_cellTold = true := by decide +kernel
theorem okX11_kindTold : im_okC im_ms mX11_kindTold = true := by decide +kernel
theorem omX11_kindTold : im_okM mX11_kindTold = true := by decide +kernel
theorem okX11_personTold : im_okC im_ms mX11_personTold = true := by decide +kernel
theorem omX11_personTold : im_okM mX11_personTold = true := by decide +kernel
theorem okX11_rowTold : im_okC im_ms mX11_rowTold = true := by decide +kernel
theorem omX11_rowTold : im_okM mX11_rowTold = true := by decide +kernel
theorem okX11_railTold : im_okC im_ms mX11_railTold = true := by decide +kernel
theorem omX11_railTold : im_okM mX11_railTold = true := by decide +kernel
theorem okX11_wallTold : im_okC im_ms mX11_wallTold = true := by decide +kernel
theorem omX11_wallTold : im_okM mX11_wallTold = true := by decide +kernel
