def fT (x1 x2 x3 x4 p : Int32) : Int32 := if 0 ≤ x1.toInt ∧ x1.toInt ≤ 99 then (if 0 ≤ x2.toInt ∧ x2.toInt ≤ 9999 ∧ 0 ≤ x3.toInt ∧ x3.toInt ≤ 999 ∧ 1 ≤ x4.toInt ∧ x4.toInt ≤ 99 then (if 12 ≤ p.toInt then -4 else p) else -2) else -1
def gT (x1 x2 x3 x4 p : Int32) : Int32 := if 0 ≤ x1.toInt ∧ x1.toInt ≤ 99 then (if 0 ≤ x2.toInt ∧ x2.toInt ≤ 9999 ∧ 0 ≤ x3.toInt ∧ x3.toInt ≤ 999 ∧ 1 ≤ x4.toInt ∧ x4.toInt ≤ 99 then (if 12 ≤ p.toInt then p else p + 1) else p) else p
set_option maxRecDepth 20000 in
set_option maxHeartbeats 4000000 in
theorem c_X11_room {x1 : Int32} {x2 : Int32} {x3 : Int32} {x4 : Int32} {h : im_H} (hI : tI h)  : CaP 8 71 [.ref 16, .int x1, .int x2, .int x3, .int x4] h (fun v h2 => tI h2 ∧ fr F_X11_room h h2 ∧ ∃ y : Int32, v = some (.int y) ∧ ∃ p : Int32, rd h 72 0 = some (.int p) ∧ y = fT x1 x2 x3 x4 p ∧ rd h2 72 0 = some (.int (gT x1 x2 x3 x4 p))) := by
  refine cap_of (d := 7) (M := mX11_room) rfl (Nat.le_of_ble_eq_true rfl) ?_
  show EvP im_K0 7 mX11_room (0, [(0, .ref 16), (1, .int x1), (2, .int x2), (3, .int x3), (4, .int x4)], [], h) _
  have f0 : fr F_X11_room h h := fr_rf
  refine te_iload_n (p2 := 1) rfl rfl rfl ?_
  refine te_bipush (p2 := 3) (x := 100) rfl rfl (by decide) ?_
  refine cS_pI (p2 := 6) rfl rfl rfl rfl (t_X11_within (n := x1) (b := 100) hI ) (by decide) (fun y1 r1 => ?_)
  rcases r1 with ⟨w1, c1⟩ | ⟨w1, c1⟩
  · subst w1
    have cc1_1 := (show Int32.toInt 100 = 100 from rfl)
    refine tz_ne (p2 := 9) rfl rfl (show Int32.toInt 1 = 1 from rfl) (fun c2 => ?_) (fun c2 => absurd c2 (by omega))
    refine te_iload_n (p2 := 12) rfl rfl rfl ?_
    refine te_iconst (p2 := 13) (x := 0) rfl rfl (by decide) ?_
    refine te_sipush (p2 := 16) (x := 9999) rfl rfl (by decide) ?_
    refine cS_pI (p2 := 19) rfl rfl rfl rfl (t_X11_between (n := x2) (a := 0) (b := 9999) hI ) (by decide) (fun y3 r3 => ?_)
    rcases r3 with ⟨w3, c3⟩ | ⟨w3, c3⟩
    · subst w3
      have cc3_1 := (show Int32.toInt 0 = 0 from rfl)
      have cc3_2 := (show Int32.toInt 9999 = 9999 from rfl)
      refine tz_eq (p2 := 22) rfl rfl (show Int32.toInt 1 = 1 from rfl) (fun c4 => absurd c4 (by omega)) (fun c4 => ?_)
      refine te_iload_n (p2 := 23) rfl rfl rfl ?_
      refine te_iconst (p2 := 24) (x := 0) rfl rfl (by decide) ?_
      refine te_sipush (p2 := 27) (x := 999) rfl rfl (by decide) ?_
      refine cS_pI (p2 := 30) rfl rfl rfl rfl (t_X11_between (n := x3) (a := 0) (b := 999) hI ) (by decide) (fun y5 r5 => ?_)
      rcases r5 with ⟨w5, c5⟩ | ⟨w5, c5⟩
      · subst w5
        have cc5_1 := (show Int32.toInt 0 = 0 from rfl)
        have cc5_2 := (show Int32.toInt 999 = 999 from rfl)
        refine tz_eq (p2 := 33) rfl rfl (show Int32.toInt 1 = 1 from rfl) (fun c6 => absurd c6 (by omega)) (fun c6 => ?_)
        refine te_iload (p2 := 35) rfl rfl rfl ?_
        refine te_iconst (p2 := 36) (x := 1) rfl rfl (by decide) ?_
        refine te_bipush (p2 := 38) (x := 99) rfl rfl (by decide) ?_
        refine cS_pI (p2 := 41) rfl rfl rfl rfl (t_X11_between (n := x4) (a := 1) (b := 99) hI ) (by decide) (fun y7 r7 => ?_)
        rcases r7 with ⟨w7, c7⟩ | ⟨w7, c7⟩
        · subst w7
          have cc7_1 := (show Int32.toInt 1 = 1 from rfl)
          have cc7_2 := (show Int32.toInt 99 = 99 from rfl)
          refine tz_ne (p2 := 44) rfl rfl (show Int32.toInt 1 = 1 from rfl) (fun c8 => ?_) (fun c8 => absurd c8 (by omega))
          refine te_aload_n (p2 := 48) rfl rfl rfl ?_
          refine tg_r (p2 := 51) (i := 0) (r := 88) rfl rfl hI rfl rfl rfl ?_
          refine tg_i (p2 := 54) (i := 72) rfl rfl hI rfl rfl rfl (fun y9 a9 b9 e9 => ?_)
          refine te_bipush (p2 := 56) (x := 12) rfl rfl (by decide) ?_
          refine tb_lt (p2 := 59) rfl rfl rfl (show Int32.toInt 12 = 12 from rfl) (fun c10 => ?_) (fun c10 => ?_)
          · refine te_aload_n (p2 := 63) rfl rfl rfl ?_
            refine tg_r (p2 := 66) (i := 0) (r := 88) rfl rfl hI rfl rfl rfl ?_
            refine tg_e (p2 := 69) (i := 72) (v := .int y9) rfl rfl hI rfl rfl e9 ?_
            refine te_istore (p2 := 71) (lv2 := [(5, .int y9), (0, .ref 16), (1, .int x1), (2, .int x2), (3, .int x3), (4, .int x4)]) rfl rfl (by decide) rfl ?_
            refine te_aload_n (p2 := 72) rfl rfl rfl ?_
            refine tg_r (p2 := 75) (i := 0) (r := 88) rfl rfl hI rfl rfl rfl ?_
            refine tg_r (p2 := 78) (i := 72) (r := 89) rfl rfl hI rfl rfl rfl ?_
            refine te_iload (p2 := 80) rfl rfl rfl ?_
            refine te_iload_n (p2 := 81) rfl rfl rfl ?_
            refine ts_i (p2 := 82) (i := 73) (n := 12) rfl rfl hI rfl rfl rfl rfl (by omega) (by omega) (i32_lo _) (i32_hi _) (i32_ho _) rfl (fun h11 I11 u11 => ?_)
            have f11 := fr_st (F := F_X11_room) 1 f0 u11 rfl (by omega) (by omega)
            refine te_aload_n (p2 := 83) rfl rfl rfl ?_
            refine tg_r (p2 := 86) (i := 0) (r := 88) rfl rfl I11 rfl rfl rfl ?_
            refine tg_r (p2 := 89) (i := 72) (r := 90) rfl rfl I11 rfl rfl rfl ?_
            refine te_iload (p2 := 91) rfl rfl rfl ?_
            refine te_iload_n (p2 := 92) rfl rfl rfl ?_
            refine ts_i (p2 := 93) (i := 74) (n := 12) rfl rfl I11 rfl rfl rfl rfl (by omega) (by omega) (i32_lo _) (i32_hi _) (i32_ho _) rfl (fun h12 I12 u12 => ?_)
            have f12 := fr_st (F := F_X11_room) 2 f11 u12 rfl (by omega) (by omega)
            refine te_aload_n (p2 := 94) rfl rfl rfl ?_
            refine tg_r (p2 := 97) (i := 0) (r := 88) rfl rfl I12 rfl rfl rfl ?_
            refine tg_r (p2 := 100) (i := 72) (r := 91) rfl rfl I12 rfl rfl rfl ?_
            refine te_iload (p2 := 102) rfl rfl rfl ?_
            refine te_iload_n (p2 := 103) rfl rfl rfl ?_
            refine ts_i (p2 := 104) (i := 75) (n := 12) rfl rfl I12 rfl rfl rfl rfl (by omega) (by omega) (i32_lo _) (i32_hi _) (i32_ho _) rfl (fun h13 I13 u13 => ?_)
            have f13 := fr_st (F := F_X11_room) 3 f12 u13 rfl (by omega) (by omega)
            refine te_aload_n (p2 := 105) rfl rfl rfl ?_
            refine tg_r (p2 := 108) (i := 0) (r := 88) rfl rfl I13 rfl rfl rfl ?_
            refine tg_r (p2 := 111) (i := 72) (r := 92) rfl rfl I13 rfl rfl rfl ?_
            refine te_iload (p2 := 113) rfl rfl rfl ?_
            refine te_iload (p2 := 115) rfl rfl rfl ?_
            refine ts_i (p2 := 116) (i := 76) (n := 12) rfl rfl I13 rfl rfl rfl rfl (by omega) (by omega) (i32_lo _) (i32_hi _) (i32_ho _) rfl (fun h14 I14 u14 => ?_)
            have f14 := fr_st (F := F_X11_room) 4 f13 u14 rfl (by omega) (by omega)
            refine te_aload_n (p2 := 117) rfl rfl rfl ?_
            refine tg_r (p2 := 120) (i := 0) (r := 88) rfl rfl I14 rfl rfl rfl ?_
            refine te_dup (p2 := 121) rfl rfl rfl ?_
            refine tg_e (p2 := 124) (i := 72) (v := .int y9) rfl rfl I14 rfl rfl ((u14.2 _ _ (Or.inl (by decide))).trans ((u13.2 _ _ (Or.inl (by decide))).trans ((u12.2 _ _ (Or.inl (by decide))).trans ((u11.2 _ _ (Or.inl (by decide))).trans e9)))) ?_
            refine te_iconst (p2 := 125) (x := 1) rfl rfl (by decide) ?_
            refine ar_add (p2 := 126) rfl rfl rfl (show Int32.toInt 1 = 1 from rfl) (by omega) (by omega) (fun z15 e15 f15 => ?_)
            refine tp_i (p2 := 129) (i := 72) rfl rfl I14 rfl rfl (by decide) rfl rfl rfl (by omega) (by omega) (by omega) rfl (fun h16 I16 u16 => ?_)
            have f16 := fr_st (F := F_X11_room) 0 f14 u16 rfl (by decide) (by decide)
            refine te_iload (p2 := 131) rfl rfl rfl ?_
            exact te_iret rfl rfl ⟨I16, f16, _, rfl, y9, e9, (show y9 = fT x1 x2 x3 x4 y9 from by (unfold fT; (repeat' split) <;> first | (exfalso; omega) | rfl | assumption | (exact i32_ext (by omega)) | (subst_vars; rfl))), u16.1.trans (congrArg (fun t => some (Value.int t)) (show z15 = gT x1 x2 x3 x4 y9 from by (unfold gT; (repeat' split) <;> first | (exfalso; omega) | rfl | assumption | (exact i32_ext (by omega)) | (subst_vars; rfl))))⟩
          · refine te_bipush (p2 := 61) (x := (-4)) rfl rfl (by decide) ?_
            exact te_iret rfl rfl ⟨hI, f0, _, rfl, y9, e9, (show (-4) = fT x1 x2 x3 x4 y9 from by (have c0_ := (show Int32.toInt (-4) = (-4) from rfl); unfold fT; (repeat' split) <;> first | (exfalso; omega) | rfl | assumption | (exact i32_ext (by omega)) | (subst_vars; rfl))), e9.trans (congrArg (fun t => some (Value.int t)) (show y9 = gT x1 x2 x3 x4 y9 from by (have c0_ := (show Int32.toInt (-4) = (-4) from rfl); unfold gT; (repeat' split) <;> first | (exfalso; omega) | rfl | assumption | (exact i32_ext (by omega)) | (subst_vars; rfl))))⟩
        · subst w7
          have cc7_1 := (show Int32.toInt 1 = 1 from rfl)
          have cc7_2 := (show Int32.toInt 99 = 99 from rfl)
          refine tz_ne (p2 := 44) rfl rfl (show Int32.toInt 0 = 0 from rfl) (fun c17 => absurd c17 (by omega)) (fun c17 => ?_)
          refine te_bipush (p2 := 46) (x := (-2)) rfl rfl (by decide) ?_
          obtain ⟨v18, e18, y18, w18, a18, b18, _⟩ := hI.2.1 72 0 (.inl (0, 12, 9999999999)) rfl
          subst w18
          exact te_iret rfl rfl ⟨hI, f0, _, rfl, y18, e18, (show (-2) = fT x1 x2 x3 x4 y18 from by (have c0_ := (show Int32.toInt (-2) = (-2) from rfl); unfold fT; (repeat' split) <;> first | (exfalso; omega) | rfl | assumption | (exact i32_ext (by omega)) | (subst_vars; rfl))), e18.trans (congrArg (fun t => some (Value.int t)) (show y18 = gT x1 x2 x3 x4 y18 from by (have c0_ := (show Int32.toInt (-2) = (-2) from rfl); unfold gT; (repeat' split) <;> first | (exfalso; omega) | rfl | assumption | (exact i32_ext (by omega)) | (subst_vars; rfl))))⟩
      · subst w5
        have cc5_1 := (show Int32.toInt 0 = 0 from rfl)
        have cc5_2 := (show Int32.toInt 999 = 999 from rfl)
        refine tz_eq (p2 := 33) rfl rfl (show Int32.toInt 0 = 0 from rfl) (fun c19 => ?_) (fun c19 => absurd c19 (by omega))
        refine te_bipush (p2 := 46) (x := (-2)) rfl rfl (by decide) ?_
        obtain ⟨v20, e20, y20, w20, a20, b20, _⟩ := hI.2.1 72 0 (.inl (0, 12, 9999999999)) rfl
        subst w20
        exact te_iret rfl rfl ⟨hI, f0, _, rfl, y20, e20, (show (-2) = fT x1 x2 x3 x4 y20 from by (have c0_ := (show Int32.toInt (-2) = (-2) from rfl); unfold fT; (repeat' split) <;> first | (exfalso; omega) | rfl | assumption | (exact i32_ext (by omega)) | (subst_vars; rfl))), e20.trans (congrArg (fun t => some (Value.int t)) (show y20 = gT x1 x2 x3 x4 y20 from by (have c0_ := (show Int32.toInt (-2) = (-2) from rfl); unfold gT; (repeat' split) <;> first | (exfalso; omega) | rfl | assumption | (exact i32_ext (by omega)) | (subst_vars; rfl))))⟩
    · subst w3
      have cc3_1 := (show Int32.toInt 0 = 0 from rfl)
      have cc3_2 := (show Int32.toInt 9999 = 9999 from rfl)
      refine tz_eq (p2 := 22) rfl rfl (show Int32.toInt 0 = 0 from rfl) (fun c21 => ?_) (fun c21 => absurd c21 (by omega))
      refine te_bipush (p2 := 46) (x := (-2)) rfl rfl (by decide) ?_
      obtain ⟨v22, e22, y22, w22, a22, b22, _⟩ := hI.2.1 72 0 (.inl (0, 12, 9999999999)) rfl
      subst w22
      exact te_iret rfl rfl ⟨hI, f0, _, rfl, y22, e22, (show (-2) = fT x1 x2 x3 x4 y22 from by (have c0_ := (show Int32.toInt (-2) = (-2) from rfl); unfold fT; (repeat' split) <;> first | (exfalso; omega) | rfl | assumption | (exact i32_ext (by omega)) | (subst_vars; rfl))), e22.trans (congrArg (fun t => some (Value.int t)) (show y22 = gT x1 x2 x3 x4 y22 from by (have c0_ := (show Int32.toInt (-2) = (-2) from rfl); unfold gT; (repeat' split) <;> first | (exfalso; omega) | rfl | assumption | (exact i32_ext (by omega)) | (subst_vars; rfl))))⟩
  · subst w1
    have cc1_1 := (show Int32.toInt 100 = 100 from rfl)
    refine tz_ne (p2 := 9) rfl rfl (show Int32.toInt 0 = 0 from rfl) (fun c23 => absurd c23 (by omega)) (fun c23 => ?_)
    refine te_iconst (p2 := 10) (x := (-1)) rfl rfl (by decide) ?_
    obtain ⟨v24, e24, y24, w24, a24, b24, _⟩ := hI.2.1 72 0 (.inl (0, 12, 9999999999)) rfl
    subst w24
    exact te_iret rfl rfl ⟨hI, f0, _, rfl, y24, e24, (show (-1) = fT x1 x2 x3 x4 y24 from by (have c0_ := (show Int32.toInt (-1) = (-1) from rfl); unfold fT; (repeat' split) <;> first | (exfalso; omega) | rfl | assumption | (exact i32_ext (by omega)) | (subst_vars; rfl))), e24.trans (congrArg (fun t => some (Value.int t)) (show y24 = gT x1 x2 x3 x4 y24 from by (have c0_ := (show Int32.toInt (-1) = (-1) from rfl); unfold gT; (repeat' split) <;> first | (exfalso; omega) | rfl | assumption | (exact i32_ext (by omega)) | (subst_vars; rfl))))⟩
set_option maxRecDepth 20000 in
set_option maxHeartbeats 4000000 in
theorem c_X12_room {x1 : Int32} {x2 : Int32} {x3 : Int32} {x4 : Int32} {h : im_H} (hI : tI h)  : CaP 8 133 [.ref 164, .int x1, .int x2, .int x3, .int x4] h (fun v h2 => tI h2 ∧ fr F_X12_room h h2 ∧ ∃ y : Int32, v = some (.int y) ∧ ∃ p : Int32, rd h 148 24 = some (.int p) ∧ y = fT x1 x2 x3 x4 p ∧ rd h2 148 24 = some (.int (gT x1 x2 x3 x4 p))) := by
  refine cap_of (d := 7) (M := mX12_room) rfl (Nat.le_of_ble_eq_true rfl) ?_
  show EvP im_K0 7 mX12_room (0, [(0, .ref 164), (1, .int x1), (2, .int x2), (3, .int x3), (4, .int x4)], [], h) _
  have f0 : fr F_X12_room h h := fr_rf
  refine te_iload_n (p2 := 1) rfl rfl rfl ?_
  refine cS_pI (p2 := 4) rfl rfl rfl rfl (t_X12_isCell (n := x1) hI ) (by decide) (fun y1 r1 => ?_)
  rcases r1 with ⟨w1, c1⟩ | ⟨w1, c1⟩
  · subst w1
    refine tz_ne (p2 := 7) rfl rfl (show Int32.toInt 1 = 1 from rfl) (fun c2 => ?_) (fun c2 => absurd c2 (by omega))
    refine te_iload_n (p2 := 10) rfl rfl rfl ?_
    refine te_iconst (p2 := 11) (x := 0) rfl rfl (by decide) ?_
    refine te_sipush (p2 := 14) (x := 9999) rfl rfl (by decide) ?_
    refine cS_pI (p2 := 17) rfl rfl rfl rfl (t_X12_in (n := x2) (a := 0) (b := 9999) hI ) (by decide) (fun y3 r3 => ?_)
    rcases r3 with ⟨w3, c3⟩ | ⟨w3, c3⟩
    · subst w3
      have cc3_1 := (show Int32.toInt 0 = 0 from rfl)
      have cc3_2 := (show Int32.toInt 9999 = 9999 from rfl)
      refine tz_eq (p2 := 20) rfl rfl (show Int32.toInt 1 = 1 from rfl) (fun c4 => absurd c4 (by omega)) (fun c4 => ?_)
      refine te_iload_n (p2 := 21) rfl rfl rfl ?_
      refine te_iconst (p2 := 22) (x := 0) rfl rfl (by decide) ?_
      refine te_sipush (p2 := 25) (x := 999) rfl rfl (by decide) ?_
      refine cS_pI (p2 := 28) rfl rfl rfl rfl (t_X12_in (n := x3) (a := 0) (b := 999) hI ) (by decide) (fun y5 r5 => ?_)
      rcases r5 with ⟨w5, c5⟩ | ⟨w5, c5⟩
      · subst w5
        have cc5_1 := (show Int32.toInt 0 = 0 from rfl)
        have cc5_2 := (show Int32.toInt 999 = 999 from rfl)
        refine tz_eq (p2 := 31) rfl rfl (show Int32.toInt 1 = 1 from rfl) (fun c6 => absurd c6 (by omega)) (fun c6 => ?_)
        refine te_iload (p2 := 33) rfl rfl rfl ?_
        refine te_iconst (p2 := 34) (x := 1) rfl rfl (by decide) ?_
        refine te_bipush (p2 := 36) (x := 99) rfl rfl (by decide) ?_
        refine cS_pI (p2 := 39) rfl rfl rfl rfl (t_X12_in (n := x4) (a := 1) (b := 99) hI ) (by decide) (fun y7 r7 => ?_)
        rcases r7 with ⟨w7, c7⟩ | ⟨w7, c7⟩
        · subst w7
          have cc7_1 := (show Int32.toInt 1 = 1 from rfl)
          have cc7_2 := (show Int32.toInt 99 = 99 from rfl)
          refine tz_ne (p2 := 42) rfl rfl (show Int32.toInt 1 = 1 from rfl) (fun c8 => ?_) (fun c8 => absurd c8 (by omega))
          refine te_aload_n (p2 := 46) rfl rfl rfl ?_
          refine tg_i (p2 := 49) (i := 148) rfl rfl hI rfl rfl rfl (fun y9 a9 b9 e9 => ?_)
          refine te_bipush (p2 := 51) (x := 12) rfl rfl (by decide) ?_
          refine tb_ne (p2 := 54) rfl rfl rfl (show Int32.toInt 12 = 12 from rfl) (fun c10 => ?_) (fun c10 => ?_)
          · refine te_aload_n (p2 := 58) rfl rfl rfl ?_
            refine tg_r (p2 := 61) (i := 148) (r := 185) rfl rfl hI rfl rfl rfl ?_
            refine te_aload_n (p2 := 62) rfl rfl rfl ?_
            refine tg_e (p2 := 65) (i := 148) (v := .int y9) rfl rfl hI rfl rfl e9 ?_
            refine te_iload_n (p2 := 66) rfl rfl rfl ?_
            refine ts_i (p2 := 67) (i := 169) (n := 12) rfl rfl hI rfl rfl rfl rfl (by omega) (by omega) (i32_lo _) (i32_hi _) (i32_ho _) rfl (fun h11 I11 u11 => ?_)
            have f11 := fr_st (F := F_X12_room) 1 f0 u11 rfl (by omega) (by omega)
            refine te_aload_n (p2 := 68) rfl rfl rfl ?_
            refine tg_r (p2 := 71) (i := 148) (r := 186) rfl rfl I11 rfl rfl rfl ?_
            refine te_aload_n (p2 := 72) rfl rfl rfl ?_
            refine tg_e (p2 := 75) (i := 148) (v := .int y9) rfl rfl I11 rfl rfl ((u11.2 _ _ (Or.inl (by decide))).trans e9) ?_
            refine te_iload_n (p2 := 76) rfl rfl rfl ?_
            refine ts_i (p2 := 77) (i := 170) (n := 12) rfl rfl I11 rfl rfl rfl rfl (by omega) (by omega) (i32_lo _) (i32_hi _) (i32_ho _) rfl (fun h12 I12 u12 => ?_)
            have f12 := fr_st (F := F_X12_room) 2 f11 u12 rfl (by omega) (by omega)
            refine te_aload_n (p2 := 78) rfl rfl rfl ?_
            refine tg_r (p2 := 81) (i := 148) (r := 187) rfl rfl I12 rfl rfl rfl ?_
            refine te_aload_n (p2 := 82) rfl rfl rfl ?_
            refine tg_e (p2 := 85) (i := 148) (v := .int y9) rfl rfl I12 rfl rfl ((u12.2 _ _ (Or.inl (by decide))).trans ((u11.2 _ _ (Or.inl (by decide))).trans e9)) ?_
            refine te_iload_n (p2 := 86) rfl rfl rfl ?_
            refine ts_i (p2 := 87) (i := 171) (n := 12) rfl rfl I12 rfl rfl rfl rfl (by omega) (by omega) (i32_lo _) (i32_hi _) (i32_ho _) rfl (fun h13 I13 u13 => ?_)
            have f13 := fr_st (F := F_X12_room) 3 f12 u13 rfl (by omega) (by omega)
            refine te_aload_n (p2 := 88) rfl rfl rfl ?_
            refine tg_r (p2 := 91) (i := 148) (r := 188) rfl rfl I13 rfl rfl rfl ?_
            refine te_aload_n (p2 := 92) rfl rfl rfl ?_
            refine tg_e (p2 := 95) (i := 148) (v := .int y9) rfl rfl I13 rfl rfl ((u13.2 _ _ (Or.inl (by decide))).trans ((u12.2 _ _ (Or.inl (by decide))).trans ((u11.2 _ _ (Or.inl (by decide))).trans e9))) ?_
            refine te_iload (p2 := 97) rfl rfl rfl ?_
            refine ts_i (p2 := 98) (i := 172) (n := 12) rfl rfl I13 rfl rfl rfl rfl (by omega) (by omega) (i32_lo _) (i32_hi _) (i32_ho _) rfl (fun h14 I14 u14 => ?_)
            have f14 := fr_st (F := F_X12_room) 4 f13 u14 rfl (by omega) (by omega)
            refine te_aload_n (p2 := 99) rfl rfl rfl ?_
            refine te_dup (p2 := 100) rfl rfl rfl ?_
            refine tg_e (p2 := 103) (i := 148) (v := .int y9) rfl rfl I14 rfl rfl ((u14.2 _ _ (Or.inl (by decide))).trans ((u13.2 _ _ (Or.inl (by decide))).trans ((u12.2 _ _ (Or.inl (by decide))).trans ((u11.2 _ _ (Or.inl (by decide))).trans e9)))) ?_
            refine te_iconst (p2 := 104) (x := 1) rfl rfl (by decide) ?_
            refine ar_add (p2 := 105) rfl rfl rfl (show Int32.toInt 1 = 1 from rfl) (by omega) (by omega) (fun z15 e15 f15 => ?_)
            refine tp_i (p2 := 108) (i := 148) rfl rfl I14 rfl rfl (by decide) rfl rfl rfl (by omega) (by omega) (by omega) rfl (fun h16 I16 u16 => ?_)
            have f16 := fr_st (F := F_X12_room) 0 f14 u16 rfl (by decide) (by decide)
            refine te_aload_n (p2 := 109) rfl rfl rfl ?_
            refine tg_e (p2 := 112) (i := 148) (v := .int z15) rfl rfl I16 rfl rfl u16.1 ?_
            refine te_iconst (p2 := 113) (x := 1) rfl rfl (by decide) ?_
            refine ar_sub (p2 := 114) rfl rfl rfl (show Int32.toInt 1 = 1 from rfl) (by omega) (by omega) (fun z17 e17 f17 => ?_)
            exact te_iret rfl rfl ⟨I16, f16, _, rfl, y9, e9, (show z17 = fT x1 x2 x3 x4 y9 from by (unfold fT; (repeat' split) <;> first | (exfalso; omega) | rfl | assumption | (exact i32_ext (by omega)) | (subst_vars; rfl))), u16.1.trans (congrArg (fun t => some (Value.int t)) (show z15 = gT x1 x2 x3 x4 y9 from by (unfold gT; (repeat' split) <;> first | (exfalso; omega) | rfl | assumption | (exact i32_ext (by omega)) | (subst_vars; rfl))))⟩
          · refine te_bipush (p2 := 56) (x := (-4)) rfl rfl (by decide) ?_
            exact te_iret rfl rfl ⟨hI, f0, _, rfl, y9, e9, (show (-4) = fT x1 x2 x3 x4 y9 from by (have c0_ := (show Int32.toInt (-4) = (-4) from rfl); unfold fT; (repeat' split) <;> first | (exfalso; omega) | rfl | assumption | (exact i32_ext (by omega)) | (subst_vars; rfl))), e9.trans (congrArg (fun t => some (Value.int t)) (show y9 = gT x1 x2 x3 x4 y9 from by (have c0_ := (show Int32.toInt (-4) = (-4) from rfl); unfold gT; (repeat' split) <;> first | (exfalso; omega) | rfl | assumption | (exact i32_ext (by omega)) | (subst_vars; rfl))))⟩
        · subst w7
          have cc7_1 := (show Int32.toInt 1 = 1 from rfl)
          have cc7_2 := (show Int32.toInt 99 = 99 from rfl)
          refine tz_ne (p2 := 42) rfl rfl (show Int32.toInt 0 = 0 from rfl) (fun c18 => absurd c18 (by omega)) (fun c18 => ?_)
          refine te_bipush (p2 := 44) (x := (-2)) rfl rfl (by decide) ?_
          obtain ⟨v19, e19, y19, w19, a19, b19, _⟩ := hI.2.1 148 24 (.inl (0, 12, 9999999999)) rfl
          subst w19
          exact te_iret rfl rfl ⟨hI, f0, _, rfl, y19, e19, (show (-2) = fT x1 x2 x3 x4 y19 from by (have c0_ := (show Int32.toInt (-2) = (-2) from rfl); unfold fT; (repeat' split) <;> first | (exfalso; omega) | rfl | assumption | (exact i32_ext (by omega)) | (subst_vars; rfl))), e19.trans (congrArg (fun t => some (Value.int t)) (show y19 = gT x1 x2 x3 x4 y19 from by (have c0_ := (show Int32.toInt (-2) = (-2) from rfl); unfold gT; (repeat' split) <;> first | (exfalso; omega) | rfl | assumption | (exact i32_ext (by omega)) | (subst_vars; rfl))))⟩
      · subst w5
        have cc5_1 := (show Int32.toInt 0 = 0 from rfl)
        have cc5_2 := (show Int32.toInt 999 = 999 from rfl)
        refine tz_eq (p2 := 31) rfl rfl (show Int32.toInt 0 = 0 from rfl) (fun c20 => ?_) (fun c20 => absurd c20 (by omega))
        refine te_bipush (p2 := 44) (x := (-2)) rfl rfl (by decide) ?_
        obtain ⟨v21, e21, y21, w21, a21, b21, _⟩ := hI.2.1 148 24 (.inl (0, 12, 9999999999)) rfl
        subst w21
        exact te_iret rfl rfl ⟨hI, f0, _, rfl, y21, e21, (show (-2) = fT x1 x2 x3 x4 y21 from by (have c0_ := (show Int32.toInt (-2) = (-2) from rfl); unfold fT; (repeat' split) <;> first | (exfalso; omega) | rfl | assumption | (exact i32_ext (by omega)) | (subst_vars; rfl))), e21.trans (congrArg (fun t => some (Value.int t)) (show y21 = gT x1 x2 x3 x4 y21 from by (have c0_ := (show Int32.toInt (-2) = (-2) from rfl); unfold gT; (repeat' split) <;> first | (exfalso; omega) | rfl | assumption | (exact i32_ext (by omega)) | (subst_vars; rfl))))⟩
    · subst w3
      have cc3_1 := (show Int32.toInt 0 = 0 from rfl)
      have cc3_2 := (show Int32.toInt 9999 = 9999 from rfl)
      refine tz_eq (p2 := 20) rfl rfl (show Int32.toInt 0 = 0 from rfl) (fun c22 => ?_) (fun c22 => absurd c22 (by omega))
      refine te_bipush (p2 := 44) (x := (-2)) rfl rfl (by decide) ?_
      obtain ⟨v23, e23, y23, w23, a23, b23, _⟩ := hI.2.1 148 24 (.inl (0, 12, 9999999999)) rfl
      subst w23
      exact te_iret rfl rfl ⟨hI, f0, _, rfl, y23, e23, (show (-2) = fT x1 x2 x3 x4 y23 from by (have c0_ := (show Int32.toInt (-2) = (-2) from rfl); unfold fT; (repeat' split) <;> first | (exfalso; omega) | rfl | assumption | (exact i32_ext (by omega)) | (subst_vars; rfl))), e23.trans (congrArg (fun t => some (Value.int t)) (show y23 = gT x1 x2 x3 x4 y23 from by (have c0_ := (show Int32.toInt (-2) = (-2) from rfl); unfold gT; (repeat' split) <;> first | (exfalso; omega) | rfl | assumption | (exact i32_ext (by omega)) | (subst_vars; rfl))))⟩
  · subst w1
    refine tz_ne (p2 := 7) rfl rfl (show Int32.toInt 0 = 0 from rfl) (fun c24 => absurd c24 (by omega)) (fun c24 => ?_)
    refine te_iconst (p2 := 8) (x := (-1)) rfl rfl (by decide) ?_
    obtain ⟨v25, e25, y25, w25, a25, b25, _⟩ := hI.2.1 148 24 (.inl (0, 12, 9999999999)) rfl
    subst w25
    exact te_iret rfl rfl ⟨hI, f0, _, rfl, y25, e25, (show (-1) = fT x1 x2 x3 x4 y25 from by (have c0_ := (show Int32.toInt (-1) = (-1) from rfl); unfold fT; (repeat' split) <;> first | (exfalso; omega) | rfl | assumption | (exact i32_ext (by omega)) | (subst_vars; rfl))), e25.trans (congrArg (fun t => some (Value.int t)) (show y25 = gT x1 x2 x3 x4 y25 from by (have c0_ := (show Int32.toInt (-1) = (-1) from rfl); unfold gT; (repeat' split) <;> first | (exfalso; omega) | rfl | assumption | (exact i32_ext (by omega)) | (subst_vars; rfl))))⟩
def rel (h : im_H) : Prop := rd h 72 0 = rd h 148 24
theorem rel_fr {F : List (Nat × Nat × Nat)} {h h2 : im_H} (hr : rel h) (g : fr F h h2) (f1 : inF F 72 0 = false) (f2 : inF F 148 24 = false) : rel h2 := (g _ _ f1).trans (hr.trans (g _ _ f2).symm)
theorem relc {h h1 h2 : im_H} {x1 x2 x3 x4 y1 y2 : Int32} (hr : rel h) (g1 : fr F_X11_room h h1) (g2 : fr F_X12_room h1 h2) (r1 : ∃ p : Int32, rd h 72 0 = some (.int p) ∧ y1 = fT x1 x2 x3 x4 p ∧ rd h1 72 0 = some (.int (gT x1 x2 x3 x4 p))) (r2 : ∃ p : Int32, rd h1 148 24 = some (.int p) ∧ y2 = fT x1 x2 x3 x4 p ∧ rd h2 148 24 = some (.int (gT x1 x2 x3 x4 p))) : y1 = y2 ∧ rel h2 := by
  obtain ⟨p, e1, f1, n1⟩ := r1
  obtain ⟨q, e2, f2, n2⟩ := r2
  have e3 : rd h1 148 24 = some (.int p) := (g1 _ _ rfl).trans (hr.symm.trans e1)
  have e4 := int_inj e3 e2
  subst e4
  exact ⟨f1.trans f2.symm, (show rd h2 72 0 = rd h2 148 24 from ((g2 _ _ rfl).trans n1).trans n2.symm)⟩
