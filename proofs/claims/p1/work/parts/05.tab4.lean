/-! the tables are what the class files say, group 4 -/
theorem okX12_mendTold : im_okC im_ms mX12_mendTold = true := by decide +kernel
theorem omX12_mendTold : im_okM mX12_mendTold = true := by decide +kernel
theorem okX12_isRoom : im_okC im_ms mX12_isRoom = true := by decide +kernel
theorem omX12_isRoom : im_okM mX12_isRoom = true := by decide +kernel
theorem okX12_mend : im_okC im_ms mX12_mend = true := by decide +kernel
theorem omX12_mend : im_okM mX12_mend = true := by decide +kernel
theorem okX12_roomTold : im_okC im_ms mX12_roomTold = true := by decide +kernel
theorem omX12_roomTold : im_okM mX12_roomTold = true := by decide +kernel
theorem okX12_raid : im_okC im_ms mX12_raid = true := by decide +kernel
theorem omX12_raid : im_okM mX12_raid = true := by decide +kernel
theorem okX12_isOver : im_okC im_ms mX12_isOver = true := by decide +kernel
theorem omX12_isOver : im_okM mX12_isOver = true := by decide +kernel
theorem okX12_leftOver : im_okC im_ms mX12_leftOver = true := by decide +kernel
theorem omX12_leftOver : im_okM mX12_leftOver = true := by decide +kernel
theorem okX12_probe : im_okC im_ms mX12_probe = true := by decide +kernel
theorem omX12_probe : im_okM mX12_probe = true := by decide +kernel
theorem okX12_likelyIn : im_okC im_ms mX12_likelyIn = true := by decide +kernel
theorem omX12_likelyIn : im_okM mX12_likelyIn = true := by decide +kernel
theorem okX12_likely : im_okC im_ms mX12_likely = true := by decide +kernel
theorem omX12_likely : im_okM mX12_likely = true := by decide +kernel
theorem okX12_next : im_okC im_ms mX12_next = true := by decide +kernel
theorem omX12_next : im_okM mX12_next = true := by decide +kernel
theorem okX12_paper : im_okC im_ms mX12_paper = true := by decide +kernel
theorem omX12_paper : im_okM mX12_paper = true := by decide +kernel
theorem okX12_burn : im_okC im_ms mX12_burn = true := by decide +kernel
theorem omX12_burn : im_okM mX12_burn = true := by decide +kernel
theorem okX12_owner : im_okC im_ms mX12_owner = true := by decide +kernel
theorem omX12_owner : im_okM mX12_owner = true := by decide +kernel
theorem okX12_heirs : im_okC im_ms mX12_heirs = true := by decide +kernel
theorem omX12_heirs : im_okM mX12_heirs = true := by decide +kernel
theorem okX12_lays : im_okC im_ms mX12_lays = true := by decide +kernel
theorem omX12_lays : im_okM mX12_lays = true := by decide +kernel
theorem okX12_beside : im_okC im_ms mX12_beside = true := by decide +kernel
theorem omX12_beside : im_okM mX12_beside = true := by decide +kernel
theorem okX12_clear : im_okC im_ms mX12_clear = true := by decide +kernel
theorem omX12_clear : im_okM mX12_clear = true := by decide +kernel
theorem okX12_image : im_okC im_ms mX12_image = true := by decide +kernel
theorem omX12_image : im_okM mX12_image = true := by decide +kernel
theorem okX12_back : im_okC im_ms mX12_back = true := by decide +kernel
theorem omX12_back : im_okM mX12_back = true := by decide +kernel
theorem okX12_sheet : im_okC im_ms mX12_sheet = true := by decide +kernel
theorem omX12_sheet : im_okM mX12_sheet = true := by decide +kernel
theorem okX12_cell : im_okC im_ms mX12_cell = true := by decide +kernel
theorem omX12_cell : im_okM mX12_cell = true := by decide +kernel
theorem okX12_copy : im_okC im_ms mX12_copy = true := by decide +kernel
theorem omX12_copy : im_okM mX12_copy = true := by decide +kernel
theorem okX12_people : im_okC im_ms mX12_people = true := by decide +kernel
theorem omX12_people : im_okM mX12_people = true := by decide +kernel
theorem okX12_isUnder : im_okC im_ms mX12_isUnder = true := by decide +kernel
theorem omX12_isUnder : im_okM mX12_isUnder = true := by decide +kernel
theorem okX12_taken : im_okC im_ms mX12_taken = true := by decide +kernel
theorem omX12_taken : im_okM mX12_taken = true := by decide +kernel
theorem okJ9_max_7cf53 : im_okC im_ms mJ9_max_7cf53 = true := by decide +kernel
theorem omJ9_max_7cf53 : im_okM mJ9_max_7cf53 = true := by decide +kernel
theorem okJ9_min_7cf53 : im_okC im_ms mJ9_min_7cf53 = true := by decide +kernel
theorem omJ9_min_7cf53 : im_okM mJ9_min_7cf53 = true := by decide +kernel
theorem okJ7_fill_53178 : im_okC im_ms mJ7_fill_53178 = true := by decide +kernel
theorem omJ7_fill_53178 : im_okM mJ7_fill_53178 = true := by decide +kernel
