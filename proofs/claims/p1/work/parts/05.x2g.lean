/-! the tables are what the class files say -/
theorem okX12_nextOrder : im_okC im_ms mX12_nextOrder = true := by decide +kernel
theorem omX12_nextOrder : im_okM mX12_nextOrder = true := by decide +kernel
theorem okX12_pulls : im_okC im_ms mX12_pulls = true := by decide +kernel
theorem omX12_pulls : im_okM mX12_pulls = true := by decide +kernel
theorem okX12_pullTold : im_okC im_ms mX12_pullTold = true := by decide +kernel
theorem omX12_pullTold : im_okM mX12_pullTold = true := by decide +kernel
theorem okX12_mends : im_okC im_ms mX12_mends = true := by decide +kernel
theorem omX12_mends : im_okM mX12_mends = true := by decide +kernel
theorem okX12_mendTold : im_okC im_ms mX12_mendTold = true := by decide +kernel
theorem omX12_mendTold : im_okM mX12_mendTold = true := by decide +kernel
theorem okX12_isRoom : im_okC im_ms mX12_isRoom = true := by decide +kernel
theorem omX12_isRoom : im_okM mX12_isRoom = true := by decide +kernel
theorem okX12_mend : im_okC im_ms mX12_mend = true := by decide +kernel
theorem omX12_mend : im_okM mX12_mend = true := by decide +kernel
theorem okX12_roomTold : im_okC im_ms mX12_roomTold = true := by decide +kernel
theorem omX12_roomTold : im_okM mX12_roomTold = true := by decide +kernel
theorem okX12_raid : im_okC im_ms mX12_raid = true := by decide +kernel
theorem omX12_raid : im_okM mX12_raid = true := by decide +kernel
theorem okX12_isOver : im_okC im_ms mX12_isOver = true := by decide +kernel
theorem omX12_isOver : im_okM mX12_isOver = true := by decide +kernel
theorem okX12_leftOver : im_okC im_ms mX12_leftOver = true := by decide +kernel
theorem omX12_leftOver : im_okM mX12_leftOver = true := by decide +kernel
theorem okX12_probe : im_okC im_ms mX12_probe = true := by decide +kernel
theorem omX12_probe : im_okM mX12_probe = true := by decide +kernel
theorem okX12_likelyIn : im_okC im_ms mX12_likelyIn = true := by decide +kernel
theorem omX12_likelyIn : im_okM mX12_likelyIn = true := by decide +kernel
