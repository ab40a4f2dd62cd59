/-! a long body: all ranges -/
theorem okL_law : im_okC im_ms mL_law = true := im_okC_of (b := 24) 5 (by decide +kernel) (by decide) (fun i hi => by
  rcases (show i = 0 ∨ i = 1 ∨ i = 2 ∨ i = 3 ∨ i = 4 by omega) with rfl | rfl | rfl | rfl | rfl
  · exact orL_law_0
  · exact orL_law_1
  · exact orL_law_2
  · exact orL_law_3
  · exact orL_law_4
  )
