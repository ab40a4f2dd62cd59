
def im_K0 (xs : List Int32) : im_K := ([[20, 35, 20, 70, 10, 5], [1, 4, 1, 4, 7, 4], [0, 0, 5, 0, 5, 0], [3, 3, 2, 7, 2, 6], [-1, 0, 0, 1, 2, 1], xs], im_fty, im_lc, im_txt)
def im_cls (r : Option (Option Value × im_H)) : Option Nat := r.map (fun q => q.2.length)
theorem tt1 : im_cls (im_call (im_K0 []) im_ms 8 100000 60 [.ref 16] [.inr (11, (im_fty.getD 11 []).map defaultValue)]) = some 148 := by decide +kernel
theorem tt2 : im_cls (im_call (im_K0 []) im_ms 8 100000 116 [.ref 16] [.inr (12, (im_fty.getD 12 []).map defaultValue)]) = some 52 := by decide +kernel
def im_s1 : im_H := (im_call (im_K0 []) im_ms 8 100000 60 [.ref 16] [.inr (11, (im_fty.getD 11 []).map defaultValue)]).getD (none, []) |>.2
theorem tt3 : (im_call (im_K0 []) im_ms 8 100000 76 [.ref 16, .int 3] im_s1).map (·.1) = some (some (.int 3)) := by decide +kernel
