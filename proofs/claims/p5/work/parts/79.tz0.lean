def fT (x1 x2 x3 p : Int32) : Int32 := if 0 ≤ x1.toInt ∧ x1.toInt ≤ 99 then (if 0 ≤ x2.toInt ∧ x2.toInt ≤ 3 ∧ 1 ≤ x3.toInt ∧ x3.toInt ≤ 99 then (if (nbr x1 x2).toInt = -1 then -3 else if 16 ≤ p.toInt then -4 else p) else -2) else -1
def gT (x1 x2 x3 p : Int32) : Int32 := if 0 ≤ x1.toInt ∧ x1.toInt ≤ 99 then (if 0 ≤ x2.toInt ∧ x2.toInt ≤ 3 ∧ 1 ≤ x3.toInt ∧ x3.toInt ≤ 99 then (if (nbr x1 x2).toInt = -1 then p else if 16 ≤ p.toInt then p else p + 1) else p) else p
set_option maxRecDepth 20000 in
set_option maxHeartbeats 4000000 in
theorem c_X11_wall {x1 : Int32} {x2 : Int32} {x3 : Int32} {h : im_H} (hI : tI h)  : CaP 8 64 [.ref 16, .int x1, .int x2, .int x3] h (fun v h2 => tI h2 ∧ fr F_X11_wall h h2 ∧ ∃ y : Int32, v = some (.int y) ∧ ∃ p : Int32, rd h 1 9 = some (.int p) ∧ y = fT x1 x2 x3 p ∧ rd h2 1 9 = some (.int (gT x1 x2 x3 p))) := by
  refine cap_of (d := 7) (M := mX11_wall) rfl (Nat.le_of_ble_eq_true rfl) ?_
  show EvP im_K0 7 mX11_wall (0, [(0, .ref 16), (1, .int x1), (2, .int x2), (3, .int x3)], [], h) _
  have f0 : fr F_X11_wall h h := fr_rf
  refine te_iload_n (p2 := 1) rfl rfl rfl ?_
  refine te_bipush (p2 := 3) (x := 100) rfl rfl (by decide) ?_
  refine cS_pI (p2 := 6) rfl rfl rfl rfl (t_X11_within (n := x1) (b := 100) hI ) (by decide) (fun y1 r1 => ?_)
  rcases r1 with ⟨w1, c1⟩ | ⟨w1, c1⟩
  · subst w1
    have cc1_1 := (show Int32.toInt 100 = 100 from rfl)
    refine tz_ne (p2 := 9) rfl rfl (show Int32.toInt 1 = 1 from rfl) (fun c2 => ?_) (fun c2 => absurd c2 (by omega))
    refine te_iload_n (p2 := 12) rfl rfl rfl ?_
    refine te_iconst (p2 := 13) (x := 4) rfl rfl (by decide) ?_
    refine cS_pI (p2 := 16) rfl rfl rfl rfl (t_X11_within (n := x2) (b := 4) hI ) (by decide) (fun y3 r3 => ?_)
    rcases r3 with ⟨w3, c3⟩ | ⟨w3, c3⟩
    · subst w3
      have cc3_1 := (show Int32.toInt 4 = 4 from rfl)
      refine tz_eq (p2 := 19) rfl rfl (show Int32.toInt 1 = 1 from rfl) (fun c4 => absurd c4 (by omega)) (fun c4 => ?_)
      refine te_iload_n (p2 := 20) rfl rfl rfl ?_
      refine te_iconst (p2 := 21) (x := 1) rfl rfl (by decide) ?_
      refine te_bipush (p2 := 23) (x := 99) rfl rfl (by decide) ?_
      refine cS_pI (p2 := 26) rfl rfl rfl rfl (t_X11_between (n := x3) (a := 1) (b := 99) hI ) (by decide) (fun y5 r5 => ?_)
      rcases r5 with ⟨w5, c5⟩ | ⟨w5, c5⟩
      · subst w5
        have cc5_1 := (show Int32.toInt 1 = 1 from rfl)
        have cc5_2 := (show Int32.toInt 99 = 99 from rfl)
        refine tz_ne (p2 := 29) rfl rfl (show Int32.toInt 1 = 1 from rfl) (fun c6 => ?_) (fun c6 => absurd c6 (by omega))
        refine te_iload_n (p2 := 33) rfl rfl rfl ?_
        refine te_iload_n (p2 := 34) rfl rfl rfl ?_
        refine cS_pI (p2 := 37) rfl rfl rfl rfl (t_X11_cellOnSide (c := x1) (side := x2) hI (by omega) (by omega)) (by decide) (fun y7 r7 => ?_)
        obtain ⟨a7, b7, e7⟩ := r7
        refine te_istore (p2 := 39) (lv2 := [(4, .int y7), (0, .ref 16), (1, .int x1), (2, .int x2), (3, .int x3)]) rfl rfl (by decide) rfl ?_
        refine te_iload (p2 := 41) rfl rfl rfl ?_
        refine te_iconst (p2 := 42) (x := (-1)) rfl rfl (by decide) ?_
        refine tb_ne (p2 := 45) rfl rfl rfl (show Int32.toInt (-1) = (-1) from rfl) (fun c8 => ?_) (fun c8 => ?_)
        · refine te_aload_n (p2 := 49) rfl rfl rfl ?_
          refine tg_r (p2 := 52) (i := 0) (r := 17) rfl rfl hI rfl rfl rfl ?_
          refine tg_i (p2 := 55) (i := 1) rfl rfl hI rfl rfl rfl (fun y9 a9 b9 e9 => ?_)
          refine te_bipush (p2 := 57) (x := 16) rfl rfl (by decide) ?_
          refine tb_lt (p2 := 60) rfl rfl rfl (show Int32.toInt 16 = 16 from rfl) (fun c10 => ?_) (fun c10 => ?_)
          · refine te_aload_n (p2 := 64) rfl rfl rfl ?_
            refine tg_r (p2 := 67) (i := 0) (r := 17) rfl rfl hI rfl rfl rfl ?_
            refine tg_e (p2 := 70) (i := 1) (v := .int y9) rfl rfl hI rfl rfl e9 ?_
            refine te_istore (p2 := 72) (lv2 := [(5, .int y9), (4, .int y7), (0, .ref 16), (1, .int x1), (2, .int x2), (3, .int x3)]) rfl rfl (by decide) rfl ?_
            refine te_aload_n (p2 := 73) rfl rfl rfl ?_
            refine tg_r (p2 := 76) (i := 0) (r := 17) rfl rfl hI rfl rfl rfl ?_
            refine tg_r (p2 := 79) (i := 1) (r := 25) rfl rfl hI rfl rfl rfl ?_
            refine te_iload (p2 := 81) rfl rfl rfl ?_
            refine te_iload_n (p2 := 82) rfl rfl rfl ?_
            refine ts_i (p2 := 83) (i := 9) (n := 16) rfl rfl hI rfl rfl rfl rfl (by omega) (by omega) (by omega) (by omega) (by omega) rfl (fun h11 I11 u11 => ?_)
            have f11 := fr_st (F := F_X11_wall) 4 f0 u11 rfl (by omega) (by omega)
            refine te_aload_n (p2 := 84) rfl rfl rfl ?_
            refine tg_r (p2 := 87) (i := 0) (r := 17) rfl rfl I11 rfl rfl rfl ?_
            refine tg_r (p2 := 90) (i := 1) (r := 26) rfl rfl I11 rfl rfl rfl ?_
            refine te_iload (p2 := 92) rfl rfl rfl ?_
            refine te_iload (p2 := 94) rfl rfl rfl ?_
            refine ts_i (p2 := 95) (i := 10) (n := 16) rfl rfl I11 rfl rfl rfl rfl (by omega) (by omega) (by omega) (by omega) (by omega) rfl (fun h12 I12 u12 => ?_)
            have f12 := fr_st (F := F_X11_wall) 1 f11 u12 rfl (by omega) (by omega)
            refine te_aload_n (p2 := 96) rfl rfl rfl ?_
            refine tg_r (p2 := 99) (i := 0) (r := 39) rfl rfl I12 rfl rfl rfl ?_
            refine tg_r (p2 := 102) (i := 23) (r := 47) rfl rfl I12 rfl rfl rfl ?_
            refine te_iload (p2 := 104) rfl rfl rfl ?_
            refine te_iload_n (p2 := 105) rfl rfl rfl ?_
            refine ts_i (p2 := 106) (i := 31) (n := 16) rfl rfl I12 rfl rfl rfl rfl (by omega) (by omega) (i32_lo _) (i32_hi _) (i32_ho _) rfl (fun h13 I13 u13 => ?_)
            have f13 := fr_st (F := F_X11_wall) 2 f12 u13 rfl (by omega) (by omega)
            refine te_aload_n (p2 := 107) rfl rfl rfl ?_
            refine tg_r (p2 := 110) (i := 0) (r := 39) rfl rfl I13 rfl rfl rfl ?_
            refine tg_r (p2 := 113) (i := 23) (r := 48) rfl rfl I13 rfl rfl rfl ?_
            refine te_iload (p2 := 115) rfl rfl rfl ?_
            refine te_iconst (p2 := 116) (x := 1) rfl rfl (by decide) ?_
            refine ts_b (p2 := 117) (i := 32) (n := 16) rfl rfl I13 rfl rfl rfl rfl (by omega) (by omega) (by decide) (by decide) rfl (fun h14 I14 u14 => ?_)
            have f14 := fr_st (F := F_X11_wall) 3 f13 u14 rfl (by omega) (by omega)
            refine te_aload_n (p2 := 118) rfl rfl rfl ?_
            refine tg_r (p2 := 121) (i := 0) (r := 17) rfl rfl I14 rfl rfl rfl ?_
            refine te_dup (p2 := 122) rfl rfl rfl ?_
            refine tg_e (p2 := 125) (i := 1) (v := .int y9) rfl rfl I14 rfl rfl ((u14.2 _ _ (Or.inl (by decide))).trans ((u13.2 _ _ (Or.inl (by decide))).trans ((u12.2 _ _ (Or.inl (by decide))).trans ((u11.2 _ _ (Or.inl (by decide))).trans e9)))) ?_
            refine te_iconst (p2 := 126) (x := 1) rfl rfl (by decide) ?_
            refine ar_add (p2 := 127) rfl rfl rfl (show Int32.toInt 1 = 1 from rfl) (by omega) (by omega) (fun z15 e15 f15 => ?_)
            refine tp_i (p2 := 130) (i := 1) rfl rfl I14 rfl rfl (by decide) rfl rfl rfl (by omega) (by omega) (by omega) rfl (fun h16 I16 u16 => ?_)
            have f16 := fr_st (F := F_X11_wall) 0 f14 u16 rfl (by decide) (by decide)
            refine te_iload (p2 := 132) rfl rfl rfl ?_
            exact te_iret rfl rfl ⟨I16, f16, _, rfl, y9, e9, (show y9 = fT x1 x2 x3 y9 from by (have n0 := congrArg Int32.toInt e7; unfold fT; (repeat' split) <;> first | (exfalso; omega) | rfl | assumption | (exact i32_ext (by omega)) | (subst_vars; rfl))), u16.1.trans (congrArg (fun t => some (Value.int t)) (show z15 = gT x1 x2 x3 y9 from by (have n0 := congrArg Int32.toInt e7; unfold gT; (repeat' split) <;> first | (exfalso; omega) | rfl | assumption | (exact i32_ext (by omega)) | (subst_vars; rfl))))⟩
          · refine te_bipush (p2 := 62) (x := (-4)) rfl rfl (by decide) ?_
            exact te_iret rfl rfl ⟨hI, f0, _, rfl, y9, e9, (show (-4) = fT x1 x2 x3 y9 from by (have n0 := congrArg Int32.toInt e7; have c0_ := (show Int32.toInt (-4) = (-4) from rfl); unfold fT; (repeat' split) <;> first | (exfalso; omega) | rfl | assumption | (exact i32_ext (by omega)) | (subst_vars; rfl))), e9.trans (congrArg (fun t => some (Value.int t)) (show y9 = gT x1 x2 x3 y9 from by (have n0 := congrArg Int32.toInt e7; have c0_ := (show Int32.toInt (-4) = (-4) from rfl); unfold gT; (repeat' split) <;> first | (exfalso; omega) | rfl | assumption | (exact i32_ext (by omega)) | (subst_vars; rfl))))⟩
        · refine te_bipush (p2 := 47) (x := (-3)) rfl rfl (by decide) ?_
          obtain ⟨v17, e17, y17, w17, a17, b17, _⟩ := hI.2.1 1 9 (.inl (0, 16, 9999999999)) rfl
          subst w17
          exact te_iret rfl rfl ⟨hI, f0, _, rfl, y17, e17, (show (-3) = fT x1 x2 x3 y17 from by (have n0 := congrArg Int32.toInt e7; have c0_ := (show Int32.toInt (-3) = (-3) from rfl); unfold fT; (repeat' split) <;> first | (exfalso; omega) | rfl | assumption | (exact i32_ext (by omega)) | (subst_vars; rfl))), e17.trans (congrArg (fun t => some (Value.int t)) (show y17 = gT x1 x2 x3 y17 from by (have n0 := congrArg Int32.toInt e7; have c0_ := (show Int32.toInt (-3) = (-3) from rfl); unfold gT; (repeat' split) <;> first | (exfalso; omega) | rfl | assumption | (exact i32_ext (by omega)) | (subst_vars; rfl))))⟩
      · subst w5
        have cc5_1 := (show Int32.toInt 1 = 1 from rfl)
        have cc5_2 := (show Int32.toInt 99 = 99 from rfl)
        refine tz_ne (p2 := 29) rfl rfl (show Int32.toInt 0 = 0 from rfl) (fun c18 => absurd c18 (by omega)) (fun c18 => ?_)
        refine te_bipush (p2 := 31) (x := (-2)) rfl rfl (by decide) ?_
        obtain ⟨v19, e19, y19, w19, a19, b19, _⟩ := hI.2.1 1 9 (.inl (0, 16, 9999999999)) rfl
        subst w19
        exact te_iret rfl rfl ⟨hI, f0, _, rfl, y19, e19, (show (-2) = fT x1 x2 x3 y19 from by (have c0_ := (show Int32.toInt (-2) = (-2) from rfl); unfold fT; (repeat' split) <;> first | (exfalso; omega) | rfl | assumption | (exact i32_ext (by omega)) | (subst_vars; rfl))), e19.trans (congrArg (fun t => some (Value.int t)) (show y19 = gT x1 x2 x3 y19 from by (have c0_ := (show Int32.toInt (-2) = (-2) from rfl); unfold gT; (repeat' split) <;> first | (exfalso; omega) | rfl | assumption | (exact i32_ext (by omega)) | (subst_vars; rfl))))⟩
    · subst w3
      have cc3_1 := (show Int32.toInt 4 = 4 from rfl)
      refine tz_eq (p2 := 19) rfl rfl (show Int32.toInt 0 = 0 from rfl) (fun c20 => ?_) (fun c20 => absurd c20 (by omega))
      refine te_bipush (p2 := 31) (x := (-2)) rfl rfl (by decide) ?_
      obtain ⟨v21, e21, y21, w21, a21, b21, _⟩ := hI.2.1 1 9 (.inl (0, 16, 9999999999)) rfl
      subst w21
      exact te_iret rfl rfl ⟨hI, f0, _, rfl, y21, e21, (show (-2) = fT x1 x2 x3 y21 from by (have c0_ := (show Int32.toInt (-2) = (-2) from rfl); unfold fT; (repeat' split) <;> first | (exfalso; omega) | rfl | assumption | (exact i32_ext (by omega)) | (subst_vars; rfl))), e21.trans (congrArg (fun t => some (Value.int t)) (show y21 = gT x1 x2 x3 y21 from by (have c0_ := (show Int32.toInt (-2) = (-2) from rfl); unfold gT; (repeat' split) <;> first | (exfalso; omega) | rfl | assumption | (exact i32_ext (by omega)) | (subst_vars; rfl))))⟩
  · subst w1
    have cc1_1 := (show Int32.toInt 100 = 100 from rfl)
    refine tz_ne (p2 := 9) rfl rfl (show Int32.toInt 0 = 0 from rfl) (fun c22 => absurd c22 (by omega)) (fun c22 => ?_)
    refine te_iconst (p2 := 10) (x := (-1)) rfl rfl (by decide) ?_
    obtain ⟨v23, e23, y23, w23, a23, b23, _⟩ := hI.2.1 1 9 (.inl (0, 16, 9999999999)) rfl
    subst w23
    exact te_iret rfl rfl ⟨hI, f0, _, rfl, y23, e23, (show (-1) = fT x1 x2 x3 y23 from by (have c0_ := (show Int32.toInt (-1) = (-1) from rfl); unfold fT; (repeat' split) <;> first | (exfalso; omega) | rfl | assumption | (exact i32_ext (by omega)) | (subst_vars; rfl))), e23.trans (congrArg (fun t => some (Value.int t)) (show y23 = gT x1 x2 x3 y23 from by (have c0_ := (show Int32.toInt (-1) = (-1) from rfl); unfold gT; (repeat' split) <;> first | (exfalso; omega) | rfl | assumption | (exact i32_ext (by omega)) | (subst_vars; rfl))))⟩
set_option maxRecDepth 20000 in
set_option maxHeartbeats 4000000 in
theorem c_X12_wall {x1 : Int32} {x2 : Int32} {x3 : Int32} {h : im_H} (hI : tI h)  : CaP 8 126 [.ref 164, .int x1, .int x2, .int x3] h (fun v h2 => tI h2 ∧ fr F_X12_wall h h2 ∧ ∃ y : Int32, v = some (.int y) ∧ ∃ p : Int32, rd h 148 21 = some (.int p) ∧ y = fT x1 x2 x3 p ∧ rd h2 148 21 = some (.int (gT x1 x2 x3 p))) := by
  refine cap_of (d := 7) (M := mX12_wall) rfl (Nat.le_of_ble_eq_true rfl) ?_
  show EvP im_K0 7 mX12_wall (0, [(0, .ref 164), (1, .int x1), (2, .int x2), (3, .int x3)], [], h) _
  have f0 : fr F_X12_wall h h := fr_rf
  refine te_iload_n (p2 := 1) rfl rfl rfl ?_
  refine cS_pI (p2 := 4) rfl rfl rfl rfl (t_X12_isCell (n := x1) hI ) (by decide) (fun y1 r1 => ?_)
  rcases r1 with ⟨w1, c1⟩ | ⟨w1, c1⟩
  · subst w1
    refine tz_ne (p2 := 7) rfl rfl (show Int32.toInt 1 = 1 from rfl) (fun c2 => ?_) (fun c2 => absurd c2 (by omega))
    refine te_iload_n (p2 := 10) rfl rfl rfl ?_
    refine te_iconst (p2 := 11) (x := 0) rfl rfl (by decide) ?_
    refine te_iconst (p2 := 12) (x := 3) rfl rfl (by decide) ?_
    refine cS_pI (p2 := 15) rfl rfl rfl rfl (t_X12_in (n := x2) (a := 0) (b := 3) hI ) (by decide) (fun y3 r3 => ?_)
    rcases r3 with ⟨w3, c3⟩ | ⟨w3, c3⟩
    · subst w3
      have cc3_1 := (show Int32.toInt 0 = 0 from rfl)
      have cc3_2 := (show Int32.toInt 3 = 3 from rfl)
      refine tz_eq (p2 := 18) rfl rfl (show Int32.toInt 1 = 1 from rfl) (fun c4 => absurd c4 (by omega)) (fun c4 => ?_)
      refine te_iload_n (p2 := 19) rfl rfl rfl ?_
      refine te_iconst (p2 := 20) (x := 1) rfl rfl (by decide) ?_
      refine te_bipush (p2 := 22) (x := 99) rfl rfl (by decide) ?_
      refine cS_pI (p2 := 25) rfl rfl rfl rfl (t_X12_in (n := x3) (a := 1) (b := 99) hI ) (by decide) (fun y5 r5 => ?_)
      rcases r5 with ⟨w5, c5⟩ | ⟨w5, c5⟩
      · subst w5
        have cc5_1 := (show Int32.toInt 1 = 1 from rfl)
        have cc5_2 := (show Int32.toInt 99 = 99 from rfl)
        refine tz_ne (p2 := 28) rfl rfl (show Int32.toInt 1 = 1 from rfl) (fun c6 => ?_) (fun c6 => absurd c6 (by omega))
        refine te_iload_n (p2 := 32) rfl rfl rfl ?_
        refine te_iload_n (p2 := 33) rfl rfl rfl ?_
        refine cS_pI (p2 := 36) rfl rfl rfl rfl (t_X12_nextTo (c := x1) (side := x2) hI (by omega) (by omega)) (by decide) (fun y7 r7 => ?_)
        obtain ⟨a7, b7, e7⟩ := r7
        refine te_iconst (p2 := 37) (x := (-1)) rfl rfl (by decide) ?_
        refine tb_ne (p2 := 40) rfl rfl rfl (show Int32.toInt (-1) = (-1) from rfl) (fun c8 => ?_) (fun c8 => ?_)
        · refine te_aload_n (p2 := 44) rfl rfl rfl ?_
          refine tg_i (p2 := 47) (i := 148) rfl rfl hI rfl rfl rfl (fun y9 a9 b9 e9 => ?_)
          refine te_bipush (p2 := 49) (x := 16) rfl rfl (by decide) ?_
          refine tb_ne (p2 := 52) rfl rfl rfl (show Int32.toInt 16 = 16 from rfl) (fun c10 => ?_) (fun c10 => ?_)
          · refine te_aload_n (p2 := 56) rfl rfl rfl ?_
            refine tg_r (p2 := 59) (i := 148) (r := 183) rfl rfl hI rfl rfl rfl ?_
            refine te_aload_n (p2 := 60) rfl rfl rfl ?_
            refine tg_e (p2 := 63) (i := 148) (v := .int y9) rfl rfl hI rfl rfl e9 ?_
            refine te_iload_n (p2 := 64) rfl rfl rfl ?_
            refine ts_i (p2 := 65) (i := 167) (n := 16) rfl rfl hI rfl rfl rfl rfl (by omega) (by omega) (by omega) (by omega) (by omega) rfl (fun h11 I11 u11 => ?_)
            have f11 := fr_st (F := F_X12_wall) 2 f0 u11 rfl (by omega) (by omega)
            refine te_aload_n (p2 := 66) rfl rfl rfl ?_
            refine tg_r (p2 := 69) (i := 148) (r := 184) rfl rfl I11 rfl rfl rfl ?_
            refine te_aload_n (p2 := 70) rfl rfl rfl ?_
            refine tg_e (p2 := 73) (i := 148) (v := .int y9) rfl rfl I11 rfl rfl ((u11.2 _ _ (Or.inl (by decide))).trans e9) ?_
            refine te_iload_n (p2 := 74) rfl rfl rfl ?_
            refine te_iload_n (p2 := 75) rfl rfl rfl ?_
            refine cS_pI (p2 := 78) rfl rfl rfl rfl (t_X12_nextTo (c := x1) (side := x2) I11 (by omega) (by omega)) (by decide) (fun y12 r12 => ?_)
            obtain ⟨a12, b12, e12⟩ := r12
            have w12 : y12 = y7 := e12.trans e7.symm
            subst w12
            refine ts_i (p2 := 79) (i := 168) (n := 16) rfl rfl I11 rfl rfl rfl rfl (by omega) (by omega) (by omega) (by omega) (by omega) rfl (fun h13 I13 u13 => ?_)
            have f13 := fr_st (F := F_X12_wall) 3 f11 u13 rfl (by omega) (by omega)
            refine te_aload_n (p2 := 80) rfl rfl rfl ?_
            refine tg_r (p2 := 83) (i := 148) (r := 165) rfl rfl I13 rfl rfl rfl ?_
            refine te_bipush (p2 := 85) (x := 108) rfl rfl (by decide) ?_
            refine te_aload_n (p2 := 86) rfl rfl rfl ?_
            refine tg_e (p2 := 89) (i := 148) (v := .int y9) rfl rfl I13 rfl rfl ((u13.2 _ _ (Or.inl (by decide))).trans ((u11.2 _ _ (Or.inl (by decide))).trans e9)) ?_
            refine ar_add (p2 := 90) rfl rfl (show Int32.toInt 108 = 108 from rfl) rfl (by omega) (by omega) (fun z14 e14 f14 => ?_)
            refine te_iconst (p2 := 91) (x := 1) rfl rfl (by decide) ?_
            refine ts_i (p2 := 92) (i := 149) (n := 283) rfl rfl I13 rfl rfl rfl rfl (by omega) (by omega) (i32_lo _) (i32_hi _) (i32_ho _) rfl (fun h15 I15 u15 => ?_)
            have f15 := fr_st (F := F_X12_wall) 1 f13 u15 rfl (by omega) (by omega)
            refine te_aload_n (p2 := 93) rfl rfl rfl ?_
            refine tg_r (p2 := 96) (i := 148) (r := 165) rfl rfl I15 rfl rfl rfl ?_
            refine te_bipush (p2 := 98) (x := 124) rfl rfl (by decide) ?_
            refine te_aload_n (p2 := 99) rfl rfl rfl ?_
            refine tg_e (p2 := 102) (i := 148) (v := .int y9) rfl rfl I15 rfl rfl ((u15.2 _ _ (Or.inl (by decide))).trans ((u13.2 _ _ (Or.inl (by decide))).trans ((u11.2 _ _ (Or.inl (by decide))).trans e9))) ?_
            refine ar_add (p2 := 103) rfl rfl (show Int32.toInt 124 = 124 from rfl) rfl (by omega) (by omega) (fun z16 e16 f16 => ?_)
            refine te_iload_n (p2 := 104) rfl rfl rfl ?_
            refine ts_i (p2 := 105) (i := 149) (n := 283) rfl rfl I15 rfl rfl rfl rfl (by omega) (by omega) (i32_lo _) (i32_hi _) (i32_ho _) rfl (fun h17 I17 u17 => ?_)
            have f17 := fr_st (F := F_X12_wall) 1 f15 u17 rfl (by omega) (by omega)
            refine te_aload_n (p2 := 106) rfl rfl rfl ?_
            refine te_dup (p2 := 107) rfl rfl rfl ?_
            refine tg_e (p2 := 110) (i := 148) (v := .int y9) rfl rfl I17 rfl rfl ((u17.2 _ _ (Or.inl (by decide))).trans ((u15.2 _ _ (Or.inl (by decide))).trans ((u13.2 _ _ (Or.inl (by decide))).trans ((u11.2 _ _ (Or.inl (by decide))).trans e9)))) ?_
            refine te_iconst (p2 := 111) (x := 1) rfl rfl (by decide) ?_
            refine ar_add (p2 := 112) rfl rfl rfl (show Int32.toInt 1 = 1 from rfl) (by omega) (by omega) (fun z18 e18 f18 => ?_)
            refine tp_i (p2 := 115) (i := 148) rfl rfl I17 rfl rfl (by decide) rfl rfl rfl (by omega) (by omega) (by omega) rfl (fun h19 I19 u19 => ?_)
            have f19 := fr_st (F := F_X12_wall) 0 f17 u19 rfl (by decide) (by decide)
            refine te_aload_n (p2 := 116) rfl rfl rfl ?_
            refine tg_e (p2 := 119) (i := 148) (v := .int z18) rfl rfl I19 rfl rfl u19.1 ?_
            refine te_iconst (p2 := 120) (x := 1) rfl rfl (by decide) ?_
            refine ar_sub (p2 := 121) rfl rfl rfl (show Int32.toInt 1 = 1 from rfl) (by omega) (by omega) (fun z20 e20 f20 => ?_)
            exact te_iret rfl rfl ⟨I19, f19, _, rfl, y9, e9, (show z20 = fT x1 x2 x3 y9 from by (have n0 := congrArg Int32.toInt e7; unfold fT; (repeat' split) <;> first | (exfalso; omega) | rfl | assumption | (exact i32_ext (by omega)) | (subst_vars; rfl))), u19.1.trans (congrArg (fun t => some (Value.int t)) (show z18 = gT x1 x2 x3 y9 from by (have n0 := congrArg Int32.toInt e7; unfold gT; (repeat' split) <;> first | (exfalso; omega) | rfl | assumption | (exact i32_ext (by omega)) | (subst_vars; rfl))))⟩
          · refine te_bipush (p2 := 54) (x := (-4)) rfl rfl (by decide) ?_
            exact te_iret rfl rfl ⟨hI, f0, _, rfl, y9, e9, (show (-4) = fT x1 x2 x3 y9 from by (have n0 := congrArg Int32.toInt e7; have c0_ := (show Int32.toInt (-4) = (-4) from rfl); unfold fT; (repeat' split) <;> first | (exfalso; omega) | rfl | assumption | (exact i32_ext (by omega)) | (subst_vars; rfl))), e9.trans (congrArg (fun t => some (Value.int t)) (show y9 = gT x1 x2 x3 y9 from by (have n0 := congrArg Int32.toInt e7; have c0_ := (show Int32.toInt (-4) = (-4) from rfl); unfold gT; (repeat' split) <;> first | (exfalso; omega) | rfl | assumption | (exact i32_ext (by omega)) | (subst_vars; rfl))))⟩
        · refine te_bipush (p2 := 42) (x := (-3)) rfl rfl (by decide) ?_
          obtain ⟨v21, e21, y21, w21, a21, b21, _⟩ := hI.2.1 148 21 (.inl (0, 16, 9999999999)) rfl
          subst w21
          exact te_iret rfl rfl ⟨hI, f0, _, rfl, y21, e21, (show (-3) = fT x1 x2 x3 y21 from by (have n0 := congrArg Int32.toInt e7; have c0_ := (show Int32.toInt (-3) = (-3) from rfl); unfold fT; (repeat' split) <;> first | (exfalso; omega) | rfl | assumption | (exact i32_ext (by omega)) | (subst_vars; rfl))), e21.trans (congrArg (fun t => some (Value.int t)) (show y21 = gT x1 x2 x3 y21 from by (have n0 := congrArg Int32.toInt e7; have c0_ := (show Int32.toInt (-3) = (-3) from rfl); unfold gT; (repeat' split) <;> first | (exfalso; omega) | rfl | assumption | (exact i32_ext (by omega)) | (subst_vars; rfl))))⟩
      · subst w5
        have cc5_1 := (show Int32.toInt 1 = 1 from rfl)
        have cc5_2 := (show Int32.toInt 99 = 99 from rfl)
        refine tz_ne (p2 := 28) rfl rfl (show Int32.toInt 0 = 0 from rfl) (fun c22 => absurd c22 (by omega)) (fun c22 => ?_)
        refine te_bipush (p2 := 30) (x := (-2)) rfl rfl (by decide) ?_
        obtain ⟨v23, e23, y23, w23, a23, b23, _⟩ := hI.2.1 148 21 (.inl (0, 16, 9999999999)) rfl
        subst w23
        exact te_iret rfl rfl ⟨hI, f0, _, rfl, y23, e23, (show (-2) = fT x1 x2 x3 y23 from by (have c0_ := (show Int32.toInt (-2) = (-2) from rfl); unfold fT; (repeat' split) <;> first | (exfalso; omega) | rfl | assumption | (exact i32_ext (by omega)) | (subst_vars; rfl))), e23.trans (congrArg (fun t => some (Value.int t)) (show y23 = gT x1 x2 x3 y23 from by (have c0_ := (show Int32.toInt (-2) = (-2) from rfl); unfold gT; (repeat' split) <;> first | (exfalso; omega) | rfl | assumption | (exact i32_ext (by omega)) | (subst_vars; rfl))))⟩
    · subst w3
      have cc3_1 := (show Int32.toInt 0 = 0 from rfl)
      have cc3_2 := (show Int32.toInt 3 = 3 from rfl)
      refine tz_eq (p2 := 18) rfl rfl (show Int32.toInt 0 = 0 from rfl) (fun c24 => ?_) (fun c24 => absurd c24 (by omega))
      refine te_bipush (p2 := 30) (x := (-2)) rfl rfl (by decide) ?_
      obtain ⟨v25, e25, y25, w25, a25, b25, _⟩ := hI.2.1 148 21 (.inl (0, 16, 9999999999)) rfl
      subst w25
      exact te_iret rfl rfl ⟨hI, f0, _, rfl, y25, e25, (show (-2) = fT x1 x2 x3 y25 from by (have c0_ := (show Int32.toInt (-2) = (-2) from rfl); unfold fT; (repeat' split) <;> first | (exfalso; omega) | rfl | assumption | (exact i32_ext (by omega)) | (subst_vars; rfl))), e25.trans (congrArg (fun t => some (Value.int t)) (show y25 = gT x1 x2 x3 y25 from by (have c0_ := (show Int32.toInt (-2) = (-2) from rfl); unfold gT; (repeat' split) <;> first | (exfalso; omega) | rfl | assumption | (exact i32_ext (by omega)) | (subst_vars; rfl))))⟩
  · subst w1
    refine tz_ne (p2 := 7) rfl rfl (show Int32.toInt 0 = 0 from rfl) (fun c26 => absurd c26 (by omega)) (fun c26 => ?_)
    refine te_iconst (p2 := 8) (x := (-1)) rfl rfl (by decide) ?_
    obtain ⟨v27, e27, y27, w27, a27, b27, _⟩ := hI.2.1 148 21 (.inl (0, 16, 9999999999)) rfl
    subst w27
    exact te_iret rfl rfl ⟨hI, f0, _, rfl, y27, e27, (show (-1) = fT x1 x2 x3 y27 from by (have c0_ := (show Int32.toInt (-1) = (-1) from rfl); unfold fT; (repeat' split) <;> first | (exfalso; omega) | rfl | assumption | (exact i32_ext (by omega)) | (subst_vars; rfl))), e27.trans (congrArg (fun t => some (Value.int t)) (show y27 = gT x1 x2 x3 y27 from by (have c0_ := (show Int32.toInt (-1) = (-1) from rfl); unfold gT; (repeat' split) <;> first | (exfalso; omega) | rfl | assumption | (exact i32_ext (by omega)) | (subst_vars; rfl))))⟩
def rel (h : im_H) : Prop := rd h 1 9 = rd h 148 21
theorem rel_fr {F : List (Nat × Nat × Nat)} {h h2 : im_H} (hr : rel h) (g : fr F h h2) (f1 : inF F 1 9 = false) (f2 : inF F 148 21 = false) : rel h2 := (g _ _ f1).trans (hr.trans (g _ _ f2).symm)
theorem relc {h h1 h2 : im_H} {x1 x2 x3 y1 y2 : Int32} (hr : rel h) (g1 : fr F_X11_wall h h1) (g2 : fr F_X12_wall h1 h2) (r1 : ∃ p : Int32, rd h 1 9 = some (.int p) ∧ y1 = fT x1 x2 x3 p ∧ rd h1 1 9 = some (.int (gT x1 x2 x3 p))) (r2 : ∃ p : Int32, rd h1 148 21 = some (.int p) ∧ y2 = fT x1 x2 x3 p ∧ rd h2 148 21 = some (.int (gT x1 x2 x3 p))) : y1 = y2 ∧ rel h2 := by
  obtain ⟨p, e1, f1, n1⟩ := r1
  obtain ⟨q, e2, f2, n2⟩ := r2
  have e3 : rd h1 148 21 = some (.int p) := (g1 _ _ rfl).trans (hr.symm.trans e1)
  have e4 := int_inj e3 e2
  subst e4
  exact ⟨f1.trans f2.symm, (show rd h2 1 9 = rd h2 148 21 from ((g2 _ _ rfl).trans n1).trans n2.symm)⟩
