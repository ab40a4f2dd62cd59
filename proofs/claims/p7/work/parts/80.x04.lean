/-! the tables are what the class files say -/
theorem okX11_beside : im_okC im_ms mX11_beside = true := by decide +kernel
theorem omX11_beside : im_okM mX11_beside = true := by decide +kernel
theorem okX11_clear : im_okC im_ms mX11_clear = true := by decide +kernel
theorem omX11_clear : im_okM mX11_clear = true := by decide +kernel
theorem okX11_image : im_okC im_ms mX11_image = true := by decide +kernel
theorem omX11_image : im_okM mX11_image = true := by decide +kernel
theorem okX11_back : im_okC im_ms mX11_back = true := by decide +kernel
theorem omX11_back : im_okM mX11_back = true := by decide +kernel
theorem okX11_sheet : im_okC im_ms mX11_sheet = true := by decide +kernel
theorem omX11_sheet : im_okM mX11_sheet = true := by decide +kernel
theorem okX11_cell : im_okC im_ms mX11_cell = true := by decide +kernel
theorem omX11_cell : im_okM mX11_cell = true := by decide +kernel
theorem okX11_copy : im_okC im_ms mX11_copy = true := by decide +kernel
theorem omX11_copy : im_okM mX11_copy = true := by decide +kernel
theorem okX11_people : im_okC im_ms mX11_people = true := by decide +kernel
theorem omX11_people : im_okM mX11_people = true := by decide +kernel
theorem okX11_personFrom : im_okC im_ms mX11_personFrom = true := by decide +kernel
theorem omX11_personFrom : im_okM mX11_personFrom = true := by decide +kernel
theorem okX11_taken : im_okC im_ms mX11_taken = true := by decide +kernel
theorem omX11_taken : im_okM mX11_taken = true := by decide +kernel
theorem okX11_within : im_okC im_ms mX11_within = true := by decide +kernel
theorem omX11_within : im_okM mX11_within = true := by decide +kernel
theorem okX11_between : im_okC im_ms mX11_between = true := by decide +kernel
theorem omX11_between : im_okM mX11_between = true := by decide +kernel
theorem okX11_cellOnSide : im_okC im_ms mX11_cellOnSide = true := by decide +kernel
theorem omX11_cellOnSide : im_okM mX11_cellOnSide = true := by decide +kernel
theorem okX11_areBeside : im_okC im_ms mX11_areBeside = true := by decide +kernel
theorem omX11_areBeside : im_okM mX11_areBeside = true := by decide +kernel
theorem okX11_isOfKind : im_okC im_ms mX11_isOfKind = true := by decide +kernel
theorem omX11_isOfKind : im_okM mX11_isOfKind = true := by decide +kernel
theorem okX11_greatestDivisor : im_okC im_ms mX11_greatestDivisor = true := by decide +kernel
theorem omX11_greatestDivisor : im_okM mX11_greatestDivisor = true := by decide +kernel
theorem okX12_in : im_okC im_ms mX12_in = true := by decide +kernel
theorem omX12_in : im_okM mX12_in = true := by decide +kernel
theorem okX12_isCell : im_okC im_ms mX12_isCell = true := by decide +kernel
theorem omX12_isCell : im_okM mX12_isCell = true := by decide +kernel
theorem okX12_isPerson : im_okC im_ms mX12_isPerson = true := by decide +kernel
theorem omX12_isPerson : im_okM mX12_isPerson = true := by decide +kernel
theorem okX12_nextTo : im_okC im_ms mX12_nextTo = true := by decide +kernel
theorem omX12_nextTo : im_okM mX12_nextTo = true := by decide +kernel
theorem okX12_areBeside : im_okC im_ms mX12_areBeside = true := by decide +kernel
theorem omX12_areBeside : im_okM mX12_areBeside = true := by decide +kernel
theorem okX12_weakOf : im_okC im_ms mX12_weakOf = true := by decide +kernel
theorem omX12_weakOf : im_okM mX12_weakOf = true := by decide +kernel
theorem okX12_ruin : im_okC im_ms mX12_ruin = true := by decide +kernel
theorem omX12_ruin : im_okM mX12_ruin = true := by decide +kernel
theorem okX12_person : im_okC im_ms mX12_person = true := by decide +kernel
theorem omX12_person : im_okM mX12_person = true := by decide +kernel
theorem okX12_moves : im_okC im_ms mX12_moves = true := by decide +kernel
theorem omX12_moves : im_okM mX12_moves = true := by decide +kernel
theorem okX12_wall : im_okC im_ms mX12_wall = true := by decide +kernel
theorem omX12_wall : im_okM mX12_wall = true := by decide +kernel
theorem okX12_weather : im_okC im_ms mX12_weather = true := by decide +kernel
theorem omX12_weather : im_okM mX12_weather = true := by decide +kernel
theorem okX12_tip : im_okC im_ms mX12_tip = true := by decide +kernel
theorem omX12_tip : im_okM mX12_tip = true := by decide +kernel
theorem okX12_isInOther : im_okC im_ms mX12_isInOther = true := by decide +kernel
theorem omX12_isInOther : im_okM mX12_isInOther = true := by decide +kernel
theorem okX12_barred : im_okC im_ms mX12_barred = true := by decide +kernel
theorem omX12_barred : im_okM mX12_barred = true := by decide +kernel
theorem okX12_row : im_okC im_ms mX12_row = true := by decide +kernel
theorem omX12_row : im_okM mX12_row = true := by decide +kernel
theorem okX12_rail : im_okC im_ms mX12_rail = true := by decide +kernel
theorem omX12_rail : im_okM mX12_rail = true := by decide +kernel
theorem okX12_room : im_okC im_ms mX12_room = true := by decide +kernel
theorem omX12_room : im_okM mX12_room = true := by decide +kernel
theorem okX12_feed : im_okC im_ms mX12_feed = true := by decide +kernel
theorem omX12_feed : im_okM mX12_feed = true := by decide +kernel
