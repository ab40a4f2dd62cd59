/-! THE CONSTRUCTORS, run -/
theorem init_X : im_call im_K0 im_ms 8 3121 60 [.ref 16] [.inr (11, (im_fty.getD 11 []).map defaultValue)] = some (none, hX) := im_eqb_eq (by decide +kernel)
theorem init_M : im_call im_K0 im_ms 8 20000 116 [.ref 164] (hX ++ [.inr (12, (im_fty.getD 12 []).map defaultValue)]) = some (none, hh) := im_eqb_eq (by decide +kernel)
