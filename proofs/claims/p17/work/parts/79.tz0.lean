def kT (k w : Int32) : Int32 := if 0 ≤ k.toInt ∧ k.toInt ≤ 5 then (if w.toInt = 0 then ([20, 35, 20, 70, 10, 5] : List Int32).getD k.toInt.toNat 0 else if w.toInt = 1 then ([1, 4, 1, 4, 7, 4] : List Int32).getD k.toInt.toNat 0 else if w.toInt = 2 then ([0, 0, 5, 0, 5, 0] : List Int32).getD k.toInt.toNat 0 else if w.toInt = 3 then ([3, 3, 2, 7, 2, 6] : List Int32).getD k.toInt.toNat 0 else -2) else -2
theorem kd_of {l : List Int32} {h : im_H} {c k : Nat} {y : Int32} (hk : ∀ k, rd h c k = (l[k]?).map Value.int) (e : rd h c k = some (.int y)) : l.getD k 0 = y := by
  rw [hk] at e
  rw [List.getD_eq_getElem?_getD]
  cases hq : l[k]? with
  | none => rw [hq] at e; cases e
  | some z => rw [hq] at e; cases e; rfl
set_option maxRecDepth 20000 in
set_option maxHeartbeats 4000000 in
theorem c_X11_kindTold {x1 : Int32} {x2 : Int32} {h : im_H} (hI : tI h)  : CaP 8 78 [.ref 16, .int x1, .int x2] h (mI h F_X11_kindTold (fun y => y = kT x1 x2)) := by
  refine cap_of (d := 7) (M := mX11_kindTold) rfl (Nat.le_of_ble_eq_true rfl) ?_
  show EvP im_K0 7 mX11_kindTold (0, [(0, .ref 16), (1, .int x1), (2, .int x2)], [], h) _
  have f0 : fr F_X11_kindTold h h := fr_rf
  refine te_iload_n (p2 := 1) rfl rfl rfl ?_
  refine te_bipush (p2 := 3) (x := 6) rfl rfl (by decide) ?_
  refine cS_pI (p2 := 6) rfl rfl rfl rfl (t_X11_within (n := x1) (b := 6) hI ) (by decide) (fun y1 r1 => ?_)
  rcases r1 with ⟨w1, c1⟩ | ⟨w1, c1⟩
  · subst w1
    have cc1_1 := (show Int32.toInt 6 = 6 from rfl)
    refine tz_ne (p2 := 9) rfl rfl (show Int32.toInt 1 = 1 from rfl) (fun c2 => ?_) (fun c2 => absurd c2 (by omega))
    refine te_iload_n (p2 := 13) rfl rfl rfl ?_
    by_cases c3 : x2.toInt = 0
    · refine te_tsIn (k := 0) (p2 := 44) rfl c3 (by decide) (by decide) rfl (by decide) ?_
      refine te_gst (p2 := 47) rfl rfl (by decide) ?_
      refine te_iload_n (p2 := 48) rfl rfl rfl ?_
      refine tl_s (p2 := 49) (R := 0) (l := [20, 35, 20, 70, 10, 5]) (n := 6) (lo := 5) (hi := 70) rfl rfl (by decide) rfl rfl (by decide) (by omega) (by omega) (fun y4 a4 b4 e4 => ?_)
      exact te_iret rfl rfl ⟨hI, f0, _, rfl, by (unfold kT; (repeat' split) <;> first | (exfalso; omega) | rfl | (subst_vars; rfl))⟩
    · by_cases c5 : x2.toInt = 1
      · refine te_tsIn (k := 1) (p2 := 50) rfl c5 (by decide) (by decide) rfl (by decide) ?_
        refine te_gst (p2 := 53) rfl rfl (by decide) ?_
        refine te_iload_n (p2 := 54) rfl rfl rfl ?_
        refine tl_s (p2 := 55) (R := 1) (l := [1, 4, 1, 4, 7, 4]) (n := 6) (lo := 1) (hi := 7) rfl rfl (by decide) rfl rfl (by decide) (by omega) (by omega) (fun y6 a6 b6 e6 => ?_)
        exact te_iret rfl rfl ⟨hI, f0, _, rfl, by (unfold kT; (repeat' split) <;> first | (exfalso; omega) | rfl | (subst_vars; rfl))⟩
      · by_cases c7 : x2.toInt = 2
        · refine te_tsIn (k := 2) (p2 := 56) rfl c7 (by decide) (by decide) rfl (by decide) ?_
          refine te_gst (p2 := 59) rfl rfl (by decide) ?_
          refine te_iload_n (p2 := 60) rfl rfl rfl ?_
          refine tl_s (p2 := 61) (R := 2) (l := [0, 0, 5, 0, 5, 0]) (n := 6) (lo := 0) (hi := 5) rfl rfl (by decide) rfl rfl (by decide) (by omega) (by omega) (fun y8 a8 b8 e8 => ?_)
          exact te_iret rfl rfl ⟨hI, f0, _, rfl, by (unfold kT; (repeat' split) <;> first | (exfalso; omega) | rfl | (subst_vars; rfl))⟩
        · by_cases c9 : x2.toInt = 3
          · refine te_tsIn (k := 3) (p2 := 62) rfl c9 (by decide) (by decide) rfl (by decide) ?_
            refine te_gst (p2 := 65) rfl rfl (by decide) ?_
            refine te_iload_n (p2 := 66) rfl rfl rfl ?_
            refine tl_s (p2 := 67) (R := 3) (l := [3, 3, 2, 7, 2, 6]) (n := 6) (lo := 2) (hi := 7) rfl rfl (by decide) rfl rfl (by decide) (by omega) (by omega) (fun y10 a10 b10 e10 => ?_)
            exact te_iret rfl rfl ⟨hI, f0, _, rfl, by (unfold kT; (repeat' split) <;> first | (exfalso; omega) | rfl | (subst_vars; rfl))⟩
          · refine te_tsOut (p2 := 68) rfl (by omega) (by decide) ?_
            refine te_bipush (p2 := 70) (x := (-2)) rfl rfl (by decide) ?_
            exact te_iret rfl rfl ⟨hI, f0, _, rfl, by (unfold kT; (repeat' split) <;> first | (exfalso; omega) | rfl | (subst_vars; rfl))⟩
  · subst w1
    have cc1_1 := (show Int32.toInt 6 = 6 from rfl)
    refine tz_ne (p2 := 9) rfl rfl (show Int32.toInt 0 = 0 from rfl) (fun c11 => absurd c11 (by omega)) (fun c11 => ?_)
    refine te_bipush (p2 := 11) (x := (-2)) rfl rfl (by decide) ?_
    exact te_iret rfl rfl ⟨hI, f0, _, rfl, by (unfold kT; (repeat' split) <;> first | (exfalso; omega) | rfl | (subst_vars; rfl))⟩
set_option maxRecDepth 20000 in
set_option maxHeartbeats 4000000 in
theorem c_X12_kindTold {x1 : Int32} {x2 : Int32} {h : im_H} (hI : tI h) (pr0 : ∀ k, rd h 153 k = (([20, 35, 20, 70, 10, 5] : List Int32)[k]?).map Value.int) (pr1 : ∀ k, rd h 154 k = (([1, 4, 1, 4, 7, 4] : List Int32)[k]?).map Value.int) (pr2 : ∀ k, rd h 155 k = (([0, 0, 5, 0, 5, 0] : List Int32)[k]?).map Value.int) (pr3 : ∀ k, rd h 156 k = (([3, 3, 2, 7, 2, 6] : List Int32)[k]?).map Value.int) : CaP 8 157 [.ref 164, .int x1, .int x2] h (mI h F_X12_kindTold (fun y => y = kT x1 x2)) := by
  refine cap_of (d := 7) (M := mX12_kindTold) rfl (Nat.le_of_ble_eq_true rfl) ?_
  show EvP im_K0 7 mX12_kindTold (0, [(0, .ref 164), (1, .int x1), (2, .int x2)], [], h) _
  have f0 : fr F_X12_kindTold h h := fr_rf
  refine te_iload_n (p2 := 1) rfl rfl rfl ?_
  refine te_iconst (p2 := 2) (x := 0) rfl rfl (by decide) ?_
  refine te_iconst (p2 := 3) (x := 5) rfl rfl (by decide) ?_
  refine cS_pI (p2 := 6) rfl rfl rfl rfl (t_X12_in (n := x1) (a := 0) (b := 5) hI ) (by decide) (fun y1 r1 => ?_)
  rcases r1 with ⟨w1, c1⟩ | ⟨w1, c1⟩
  · subst w1
    have cc1_1 := (show Int32.toInt 0 = 0 from rfl)
    have cc1_2 := (show Int32.toInt 5 = 5 from rfl)
    refine tz_eq (p2 := 9) rfl rfl (show Int32.toInt 1 = 1 from rfl) (fun c2 => absurd c2 (by omega)) (fun c2 => ?_)
    refine te_iload_n (p2 := 10) rfl rfl rfl ?_
    refine te_iconst (p2 := 11) (x := 0) rfl rfl (by decide) ?_
    refine te_iconst (p2 := 12) (x := 3) rfl rfl (by decide) ?_
    refine cS_pI (p2 := 15) rfl rfl rfl rfl (t_X12_in (n := x2) (a := 0) (b := 3) hI ) (by decide) (fun y3 r3 => ?_)
    rcases r3 with ⟨w3, c3⟩ | ⟨w3, c3⟩
    · subst w3
      have cc3_1 := (show Int32.toInt 0 = 0 from rfl)
      have cc3_2 := (show Int32.toInt 3 = 3 from rfl)
      refine tz_ne (p2 := 18) rfl rfl (show Int32.toInt 1 = 1 from rfl) (fun c4 => ?_) (fun c4 => absurd c4 (by omega))
      refine te_iload_n (p2 := 22) rfl rfl rfl ?_
      refine tz_ne (p2 := 25) rfl rfl rfl (fun c5 => ?_) (fun c5 => ?_)
      · refine te_iload_n (p2 := 35) rfl rfl rfl ?_
        refine te_iconst (p2 := 36) (x := 1) rfl rfl (by decide) ?_
        refine tb_ne (p2 := 39) rfl rfl rfl (show Int32.toInt 1 = 1 from rfl) (fun c6 => ?_) (fun c6 => ?_)
        · refine te_iload_n (p2 := 49) rfl rfl rfl ?_
          refine te_iconst (p2 := 50) (x := 2) rfl rfl (by decide) ?_
          refine tb_ne (p2 := 53) rfl rfl rfl (show Int32.toInt 2 = 2 from rfl) (fun c7 => ?_) (fun c7 => ?_)
          · refine te_aload_n (p2 := 63) rfl rfl rfl ?_
            refine tg_r (p2 := 66) (i := 148) (r := 172) rfl rfl hI rfl rfl rfl ?_
            refine te_iload_n (p2 := 67) rfl rfl rfl ?_
            refine tl_i (p2 := 68) (i := 156) (n := 6) rfl rfl hI rfl rfl rfl rfl (by omega) (by omega) (fun y8 a8 b8 g8 e8 => ?_)
            have kt9 := kd_of pr3 e8
            exact te_iret rfl rfl ⟨hI, f0, _, rfl, by (unfold kT; (repeat' split) <;> first | (exfalso; omega) | rfl | (subst_vars; rfl))⟩
          · refine te_aload_n (p2 := 54) rfl rfl rfl ?_
            refine tg_r (p2 := 57) (i := 148) (r := 171) rfl rfl hI rfl rfl rfl ?_
            refine te_iload_n (p2 := 58) rfl rfl rfl ?_
            refine tl_i (p2 := 59) (i := 155) (n := 6) rfl rfl hI rfl rfl rfl rfl (by omega) (by omega) (fun y10 a10 b10 g10 e10 => ?_)
            have kt11 := kd_of pr2 e10
            refine te_goto rfl ?_
            exact te_iret rfl rfl ⟨hI, f0, _, rfl, by (unfold kT; (repeat' split) <;> first | (exfalso; omega) | rfl | (subst_vars; rfl))⟩
        · refine te_aload_n (p2 := 40) rfl rfl rfl ?_
          refine tg_r (p2 := 43) (i := 148) (r := 170) rfl rfl hI rfl rfl rfl ?_
          refine te_iload_n (p2 := 44) rfl rfl rfl ?_
          refine tl_i (p2 := 45) (i := 154) (n := 6) rfl rfl hI rfl rfl rfl rfl (by omega) (by omega) (fun y12 a12 b12 g12 e12 => ?_)
          have kt13 := kd_of pr1 e12
          refine te_goto rfl ?_
          exact te_iret rfl rfl ⟨hI, f0, _, rfl, by (unfold kT; (repeat' split) <;> first | (exfalso; omega) | rfl | (subst_vars; rfl))⟩
      · refine te_aload_n (p2 := 26) rfl rfl rfl ?_
        refine tg_r (p2 := 29) (i := 148) (r := 169) rfl rfl hI rfl rfl rfl ?_
        refine te_iload_n (p2 := 30) rfl rfl rfl ?_
        refine tl_i (p2 := 31) (i := 153) (n := 6) rfl rfl hI rfl rfl rfl rfl (by omega) (by omega) (fun y14 a14 b14 g14 e14 => ?_)
        have kt15 := kd_of pr0 e14
        refine te_goto rfl ?_
        exact te_iret rfl rfl ⟨hI, f0, _, rfl, by (unfold kT; (repeat' split) <;> first | (exfalso; omega) | rfl | (subst_vars; rfl))⟩
    · subst w3
      have cc3_1 := (show Int32.toInt 0 = 0 from rfl)
      have cc3_2 := (show Int32.toInt 3 = 3 from rfl)
      refine tz_ne (p2 := 18) rfl rfl (show Int32.toInt 0 = 0 from rfl) (fun c16 => absurd c16 (by omega)) (fun c16 => ?_)
      refine te_bipush (p2 := 20) (x := (-2)) rfl rfl (by decide) ?_
      exact te_iret rfl rfl ⟨hI, f0, _, rfl, by (unfold kT; (repeat' split) <;> first | (exfalso; omega) | rfl | (subst_vars; rfl))⟩
  · subst w1
    have cc1_1 := (show Int32.toInt 0 = 0 from rfl)
    have cc1_2 := (show Int32.toInt 5 = 5 from rfl)
    refine tz_eq (p2 := 9) rfl rfl (show Int32.toInt 0 = 0 from rfl) (fun c17 => ?_) (fun c17 => absurd c17 (by omega))
    refine te_bipush (p2 := 20) (x := (-2)) rfl rfl (by decide) ?_
    exact te_iret rfl rfl ⟨hI, f0, _, rfl, by (unfold kT; (repeat' split) <;> first | (exfalso; omega) | rfl | (subst_vars; rfl))⟩
