def im_dA : DecidableEq im_A := inferInstance
def im_dE : DecidableEq im_E := haveI : DecidableEq im_A := im_dA; inferInstance
def im_dH : DecidableEq im_H := haveI : DecidableEq im_E := im_dE; inferInstance
def im_dR : DecidableEq (Option (Option Value × im_H)) := haveI : DecidableEq im_H := im_dH; inferInstance
def im_eqb (a b : Option (Option Value × im_H)) : Bool := @decide (a = b) (im_dR a b)
theorem im_eqb_eq {a b : Option (Option Value × im_H)} (h : im_eqb a b = true) : a = b := @of_decide_eq_true (a = b) (im_dR a b) h
/-! THE CONSTRUCTORS, run -/
theorem init_X : im_call im_K0 im_ms 8 3121 60 [.ref 16] [.inr (11, (im_fty.getD 11 []).map defaultValue)] = some (none, hX) := im_eqb_eq (by decide +kernel)
theorem init_M : im_call im_K0 im_ms 8 20000 116 [.ref 164] (hX ++ [.inr (12, (im_fty.getD 12 []).map defaultValue)]) = some (none, hh) := im_eqb_eq (by decide +kernel)
