/-! the tables are what the class files say -/
theorem okX12_weather : im_okC im_ms mX12_weather = true := by decide +kernel
theorem omX12_weather : im_okM mX12_weather = true := by decide +kernel
theorem okX12_tip : im_okC im_ms mX12_tip = true := by decide +kernel
theorem omX12_tip : im_okM mX12_tip = true := by decide +kernel
theorem okX12_isInOther : im_okC im_ms mX12_isInOther = true := by decide +kernel
theorem omX12_isInOther : im_okM mX12_isInOther = true := by decide +kernel
theorem okX12_barred : im_okC im_ms mX12_barred = true := by decide +kernel
theorem omX12_barred : im_okM mX12_barred = true := by decide +kernel
theorem okX12_row : im_okC im_ms mX12_row = true := by decide +kernel
theorem omX12_row : im_okM mX12_row = true := by decide +kernel
theorem okX12_rail : im_okC im_ms mX12_rail = true := by decide +kernel
theorem omX12_rail : im_okM mX12_rail = true := by decide +kernel
theorem okX12_room : im_okC im_ms mX12_room = true := by decide +kernel
theorem omX12_room : im_okM mX12_room = true := by decide +kernel
theorem okX12_feed : im_okC im_ms mX12_feed = true := by decide +kernel
theorem omX12_feed : im_okM mX12_feed = true := by decide +kernel
theorem okX12_byteHere : im_okC im_ms mX12_byteHere = true := by decide +kernel
theorem omX12_byteHere : im_okM mX12_byteHere = true := by decide +kernel
theorem okX12_wordOf : im_okC im_ms mX12_wordOf = true := by decide +kernel
theorem omX12_wordOf : im_okM mX12_wordOf = true := by decide +kernel
theorem okX12_number : im_okC im_ms mX12_number = true := by decide +kernel
theorem omX12_number : im_okM mX12_number = true := by decide +kernel
theorem okX12_test : im_okC im_ms mX12_test = true := by decide +kernel
theorem omX12_test : im_okM mX12_test = true := by decide +kernel
