/-! a long body: all ranges -/
theorem okX12_init : im_okC im_ms mX12_init = true := im_okC_of (b := 24) 3 (by decide +kernel) (by decide) (fun i hi => by
  rcases (show i = 0 ∨ i = 1 ∨ i = 2 by omega) with rfl | rfl | rfl
  · exact orX12_init_0
  · exact orX12_init_1
  · exact orX12_init_2
  )
theorem omX12_init : im_okM mX12_init = true := by decide +kernel
