/-! the tables are what the class files say -/
theorem okX12_kindTold : im_okC im_ms mX12_kindTold = true := by decide +kernel
theorem omX12_kindTold : im_okM mX12_kindTold = true := by decide +kernel
theorem okX12_personTold : im_okC im_ms mX12_personTold = true := by decide +kernel
theorem omX12_personTold : im_okM mX12_personTold = true := by decide +kernel
theorem okX12_rowTold : im_okC im_ms mX12_rowTold = true := by decide +kernel
theorem omX12_rowTold : im_okM mX12_rowTold = true := by decide +kernel
theorem okX12_railTold : im_okC im_ms mX12_railTold = true := by decide +kernel
theorem omX12_railTold : im_okM mX12_railTold = true := by decide +kernel
theorem okX12_isWall : im_okC im_ms mX12_isWall = true := by decide +kernel
theorem omX12_isWall : im_okM mX12_isWall = true := by decide +kernel
theorem okX12_wallTold : im_okC im_ms mX12_wallTold = true := by decide +kernel
theorem omX12_wallTold : im_okM mX12_wallTold = true := by decide +kernel
theorem okX12_sum : im_okC im_ms mX12_sum = true := by decide +kernel
theorem omX12_sum : im_okM mX12_sum = true := by decide +kernel
theorem okX12_count : im_okC im_ms mX12_count = true := by decide +kernel
theorem omX12_count : im_okM mX12_count = true := by decide +kernel
theorem okX12_pull : im_okC im_ms mX12_pull = true := by decide +kernel
theorem omX12_pull : im_okM mX12_pull = true := by decide +kernel
theorem okX12_late : im_okC im_ms mX12_late = true := by decide +kernel
theorem omX12_late : im_okM mX12_late = true := by decide +kernel
theorem okX12_nextOrder : im_okC im_ms mX12_nextOrder = true := by decide +kernel
theorem omX12_nextOrder : im_okM mX12_nextOrder = true := by decide +kernel
theorem okX12_pulls : im_okC im_ms mX12_pulls = true := by decide +kernel
theorem omX12_pulls : im_okM mX12_pulls = true := by decide +kernel
theorem okX12_pullTold : im_okC im_ms mX12_pullTold = true := by decide +kernel
theorem omX12_pullTold : im_okM mX12_pullTold = true := by decide +kernel
theorem okX12_mends : im_okC im_ms mX12_mends = true := by decide +kernel
theorem omX12_mends : im_okM mX12_mends = true := by decide +kernel
theorem okX12_mendTold : im_okC im_ms mX12_mendTold = true := by decide +kernel
theorem omX12_mendTold : im_okM mX12_mendTold = true := by decide +kernel
theorem okX12_isRoom : im_okC im_ms mX12_isRoom = true := by decide +kernel
theorem omX12_isRoom : im_okM mX12_isRoom = true := by decide +kernel
theorem okX12_mend : im_okC im_ms mX12_mend = true := by decide +kernel
theorem omX12_mend : im_okM mX12_mend = true := by decide +kernel
theorem okX12_roomTold : im_okC im_ms mX12_roomTold = true := by decide +kernel
theorem omX12_roomTold : im_okM mX12_roomTold = true := by decide +kernel
theorem okX12_raid : im_okC im_ms mX12_raid = true := by decide +kernel
theorem omX12_raid : im_okM mX12_raid = true := by decide +kernel
theorem okX12_isOver : im_okC im_ms mX12_isOver = true := by decide +kernel
theorem omX12_isOver : im_okM mX12_isOver = true := by decide +kernel
theorem okX12_leftOver : im_okC im_ms mX12_leftOver = true := by decide +kernel
theorem omX12_leftOver : im_okM mX12_leftOver = true := by decide +kernel
theorem okX12_probe : im_okC im_ms mX12_probe = true := by decide +kernel
theorem omX12_probe : im_okM mX12_probe = true := by decide +kernel
theorem okX12_likelyIn : im_okC im_ms mX12_likelyIn = true := by decide +kernel
theorem omX12_likelyIn : im_okM mX12_likelyIn = true := by decide +kernel
theorem okX12_likely : im_okC im_ms mX12_likely = true := by decide +kernel
theorem omX12_likely : im_okM mX12_likely = true := by decide +kernel
theorem okX12_next : im_okC im_ms mX12_next = true := by decide +kernel
theorem omX12_next : im_okM mX12_next = true := by decide +kernel
theorem okX12_paper : im_okC im_ms mX12_paper = true := by decide +kernel
theorem omX12_paper : im_okM mX12_paper = true := by decide +kernel
theorem okX12_burn : im_okC im_ms mX12_burn = true := by decide +kernel
theorem omX12_burn : im_okM mX12_burn = true := by decide +kernel
