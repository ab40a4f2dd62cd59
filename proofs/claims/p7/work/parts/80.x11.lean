/-! a long body: all ranges -/
theorem okX12_init : im_okC im_ms mX12_init = true := im_okC_of (b := 24) 3 (by decide +kernel) (by decide) (fun i hi => by
  rcases (show i = 0 ∨ i = 1 ∨ i = 2 by omega) with rfl | rfl | rfl
  · exact orX12_init_0
  · exact orX12_init_1
  · exact orX12_init_2
  )
theorem im_tw_of {x : Nat} {c : Cond} (h : (im_wl.getD (x / 256) [])[x % 256]? = some c) (hg : goodWord c = true) : im_tw x c = true := by
  unfold im_tw
  rw [decide_eq_true h, hg]
  rfl
theorem omX12_init_w : im_tw (mX12_init.2.2.2.2.2.2.2.1.getD 0 0) (.code mX12_init.1 mX12_init.2.1 mX12_init.2.2.1 mX12_init.2.2.2.1) = true := im_tw_of rfl rfl
theorem omX12_init : im_okM mX12_init = true := by
  unfold im_okM
  rw [omX12_init_w]
  decide +kernel
