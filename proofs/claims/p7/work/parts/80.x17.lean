/-! a long body: all ranges -/
theorem okL_law : im_okC im_ms mL_law = true := im_okC_of (b := 8) 14 (by decide +kernel) (by decide) (fun i hi => by
  rcases (show i = 0 ∨ i = 1 ∨ i = 2 ∨ i = 3 ∨ i = 4 ∨ i = 5 ∨ i = 6 ∨ i = 7 ∨ i = 8 ∨ i = 9 ∨ i = 10 ∨ i = 11 ∨ i = 12 ∨ i = 13 by omega) with rfl | rfl | rfl | rfl | rfl | rfl | rfl | rfl | rfl | rfl | rfl | rfl | rfl | rfl
  · exact orL_law_0
  · exact orL_law_1
  · exact orL_law_2
  · exact orL_law_3
  · exact orL_law_4
  · exact orL_law_5
  · exact orL_law_6
  · exact orL_law_7
  · exact orL_law_8
  · exact orL_law_9
  · exact orL_law_10
  · exact orL_law_11
  · exact orL_law_12
  · exact orL_law_13
  )
