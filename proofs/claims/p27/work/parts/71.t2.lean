abbrev F_X11_ruin : List (Nat × Nat × Nat) := [(2, 0, 99), (25, 0, 99)]
set_option maxRecDepth 20000 in
set_option maxHeartbeats 4000000 in
theorem t_X11_ruin {x1 : Int32} {x2 : Int32} {x3 : Int32} {h : im_H} (hI : tI h)  : CaP 8 61 [.ref 16, .int x1, .int x2, .int x3] h (mI h F_X11_ruin (fun _ => True)) := by
  refine cap_of (d := 7) (M := mX11_ruin) rfl (Nat.le_of_ble_eq_true rfl) ?_
  show EvP im_K0 7 mX11_ruin (0, [(0, .ref 16), (1, .int x1), (2, .int x2), (3, .int x3)], [], h) _
  have f0 : fr F_X11_ruin h h := fr_rf
  refine te_iload_n (p2 := 1) rfl rfl rfl ?_
  refine te_bipush (p2 := 3) (x := 100) rfl rfl (by decide) ?_
  refine cS_pI (p2 := 6) rfl rfl rfl rfl (t_X11_within (n := x1) (b := 100) hI ) (by decide) (fun y1 r1 => ?_)
  rcases r1 with ⟨w1, c1⟩ | ⟨w1, c1⟩
  · subst w1
    have cc1_1 := (show Int32.toInt 100 = 100 from rfl)
    refine tz_ne (p2 := 9) rfl rfl (show Int32.toInt 1 = 1 from rfl) (fun c2 => ?_) (fun c2 => absurd c2 (by omega))
    refine te_iload_n (p2 := 12) rfl rfl rfl ?_
    refine te_bipush (p2 := 14) (x := 6) rfl rfl (by decide) ?_
    refine cS_pI (p2 := 17) rfl rfl rfl rfl (t_X11_within (n := x2) (b := 6) hI ) (by decide) (fun y3 r3 => ?_)
    rcases r3 with ⟨w3, c3⟩ | ⟨w3, c3⟩
    · subst w3
      have cc3_1 := (show Int32.toInt 6 = 6 from rfl)
      refine tz_eq (p2 := 20) rfl rfl (show Int32.toInt 1 = 1 from rfl) (fun c4 => absurd c4 (by omega)) (fun c4 => ?_)
      refine te_iload_n (p2 := 21) rfl rfl rfl ?_
      refine te_iconst (p2 := 22) (x := 0) rfl rfl (by decide) ?_
      refine te_sipush (p2 := 25) (x := 9999) rfl rfl (by decide) ?_
      refine cS_pI (p2 := 28) rfl rfl rfl rfl (t_X11_between (n := x3) (a := 0) (b := 9999) hI ) (by decide) (fun y5 r5 => ?_)
      rcases r5 with ⟨w5, c5⟩ | ⟨w5, c5⟩
      · subst w5
        have cc5_1 := (show Int32.toInt 0 = 0 from rfl)
        have cc5_2 := (show Int32.toInt 9999 = 9999 from rfl)
        refine tz_ne (p2 := 31) rfl rfl (show Int32.toInt 1 = 1 from rfl) (fun c6 => ?_) (fun c6 => absurd c6 (by omega))
        refine te_aload_n (p2 := 35) rfl rfl rfl ?_
        refine tg_r (p2 := 38) (i := 0) (r := 39) rfl rfl hI rfl rfl rfl ?_
        refine tg_r (p2 := 41) (i := 23) (r := 41) rfl rfl hI rfl rfl rfl ?_
        refine te_iload_n (p2 := 42) rfl rfl rfl ?_
        refine tl_i (p2 := 43) (i := 25) (n := 100) rfl rfl hI rfl rfl rfl rfl (by omega) (by omega) (fun y7 a7 b7 g7 e7 => ?_)
        refine te_istore (p2 := 45) (lv2 := [(4, .int y7), (0, .ref 16), (1, .int x1), (2, .int x2), (3, .int x3)]) rfl rfl (by decide) rfl ?_
        refine te_aload_n (p2 := 46) rfl rfl rfl ?_
        refine tg_r (p2 := 49) (i := 0) (r := 17) rfl rfl hI rfl rfl rfl ?_
        refine tg_r (p2 := 52) (i := 1) (r := 18) rfl rfl hI rfl rfl rfl ?_
        refine te_iload_n (p2 := 53) rfl rfl rfl ?_
        refine te_iload_n (p2 := 54) rfl rfl rfl ?_
        refine ts_i (p2 := 55) (i := 2) (n := 100) rfl rfl hI rfl rfl rfl rfl (by omega) (by omega) (by omega) (by omega) (by omega) rfl (fun h8 I8 u8 => ?_)
        have f8 := fr_st (F := F_X11_ruin) 0 f0 u8 rfl (by omega) (by omega)
        refine te_aload_n (p2 := 56) rfl rfl rfl ?_
        refine tg_r (p2 := 59) (i := 0) (r := 39) rfl rfl I8 rfl rfl rfl ?_
        refine tg_r (p2 := 62) (i := 23) (r := 41) rfl rfl I8 rfl rfl rfl ?_
        refine te_iload_n (p2 := 63) rfl rfl rfl ?_
        refine te_iload_n (p2 := 64) rfl rfl rfl ?_
        refine ts_i (p2 := 65) (i := 25) (n := 100) rfl rfl I8 rfl rfl rfl rfl (by omega) (by omega) (i32_lo _) (i32_hi _) (i32_ho _) rfl (fun h9 I9 u9 => ?_)
        have f9 := fr_st (F := F_X11_ruin) 1 f8 u9 rfl (by omega) (by omega)
        refine te_iload (p2 := 67) rfl rfl rfl ?_
        exact te_iret rfl rfl ⟨I9, f9, _, rfl, trivial⟩
      · subst w5
        have cc5_1 := (show Int32.toInt 0 = 0 from rfl)
        have cc5_2 := (show Int32.toInt 9999 = 9999 from rfl)
        refine tz_ne (p2 := 31) rfl rfl (show Int32.toInt 0 = 0 from rfl) (fun c10 => absurd c10 (by omega)) (fun c10 => ?_)
        refine te_bipush (p2 := 33) (x := (-2)) rfl rfl (by decide) ?_
        exact te_iret rfl rfl ⟨hI, f0, _, rfl, trivial⟩
    · subst w3
      have cc3_1 := (show Int32.toInt 6 = 6 from rfl)
      refine tz_eq (p2 := 20) rfl rfl (show Int32.toInt 0 = 0 from rfl) (fun c11 => ?_) (fun c11 => absurd c11 (by omega))
      refine te_bipush (p2 := 33) (x := (-2)) rfl rfl (by decide) ?_
      exact te_iret rfl rfl ⟨hI, f0, _, rfl, trivial⟩
  · subst w1
    have cc1_1 := (show Int32.toInt 100 = 100 from rfl)
    refine tz_ne (p2 := 9) rfl rfl (show Int32.toInt 0 = 0 from rfl) (fun c12 => absurd c12 (by omega)) (fun c12 => ?_)
    refine te_iconst (p2 := 10) (x := (-1)) rfl rfl (by decide) ?_
    exact te_iret rfl rfl ⟨hI, f0, _, rfl, trivial⟩
abbrev F_X12_ruin : List (Nat × Nat × Nat) := [(149, 0, 99), (152, 0, 99)]
set_option maxRecDepth 20000 in
set_option maxHeartbeats 4000000 in
theorem t_X12_ruin {x1 : Int32} {x2 : Int32} {x3 : Int32} {h : im_H} (hI : tI h)  : CaP 8 123 [.ref 164, .int x1, .int x2, .int x3] h (mI h F_X12_ruin (fun _ => True)) := by
  refine cap_of (d := 7) (M := mX12_ruin) rfl (Nat.le_of_ble_eq_true rfl) ?_
  show EvP im_K0 7 mX12_ruin (0, [(0, .ref 164), (1, .int x1), (2, .int x2), (3, .int x3)], [], h) _
  have f0 : fr F_X12_ruin h h := fr_rf
  refine te_iload_n (p2 := 1) rfl rfl rfl ?_
  refine cS_pI (p2 := 4) rfl rfl rfl rfl (t_X12_isCell (n := x1) hI ) (by decide) (fun y1 r1 => ?_)
  rcases r1 with ⟨w1, c1⟩ | ⟨w1, c1⟩
  · subst w1
    refine tz_ne (p2 := 7) rfl rfl (show Int32.toInt 1 = 1 from rfl) (fun c2 => ?_) (fun c2 => absurd c2 (by omega))
    refine te_iload_n (p2 := 10) rfl rfl rfl ?_
    refine te_iconst (p2 := 11) (x := 0) rfl rfl (by decide) ?_
    refine te_iconst (p2 := 12) (x := 5) rfl rfl (by decide) ?_
    refine cS_pI (p2 := 15) rfl rfl rfl rfl (t_X12_in (n := x2) (a := 0) (b := 5) hI ) (by decide) (fun y3 r3 => ?_)
    rcases r3 with ⟨w3, c3⟩ | ⟨w3, c3⟩
    · subst w3
      have cc3_1 := (show Int32.toInt 0 = 0 from rfl)
      have cc3_2 := (show Int32.toInt 5 = 5 from rfl)
      refine tz_eq (p2 := 18) rfl rfl (show Int32.toInt 1 = 1 from rfl) (fun c4 => absurd c4 (by omega)) (fun c4 => ?_)
      refine te_iload_n (p2 := 19) rfl rfl rfl ?_
      refine te_iconst (p2 := 20) (x := 0) rfl rfl (by decide) ?_
      refine te_sipush (p2 := 23) (x := 9999) rfl rfl (by decide) ?_
      refine cS_pI (p2 := 26) rfl rfl rfl rfl (t_X12_in (n := x3) (a := 0) (b := 9999) hI ) (by decide) (fun y5 r5 => ?_)
      rcases r5 with ⟨w5, c5⟩ | ⟨w5, c5⟩
      · subst w5
        have cc5_1 := (show Int32.toInt 0 = 0 from rfl)
        have cc5_2 := (show Int32.toInt 9999 = 9999 from rfl)
        refine tz_ne (p2 := 29) rfl rfl (show Int32.toInt 1 = 1 from rfl) (fun c6 => ?_) (fun c6 => absurd c6 (by omega))
        refine te_aload_n (p2 := 33) rfl rfl rfl ?_
        refine tg_r (p2 := 36) (i := 148) (r := 165) rfl rfl hI rfl rfl rfl ?_
        refine te_iload_n (p2 := 37) rfl rfl rfl ?_
        refine tl_i (p2 := 38) (i := 149) (n := 283) rfl rfl hI rfl rfl rfl rfl (by omega) (by omega) (fun y7 a7 b7 g7 e7 => ?_)
        refine te_istore (p2 := 40) (lv2 := [(4, .int y7), (0, .ref 164), (1, .int x1), (2, .int x2), (3, .int x3)]) rfl rfl (by decide) rfl ?_
        refine te_aload_n (p2 := 41) rfl rfl rfl ?_
        refine tg_r (p2 := 44) (i := 148) (r := 165) rfl rfl hI rfl rfl rfl ?_
        refine te_iload_n (p2 := 45) rfl rfl rfl ?_
        refine te_iload_n (p2 := 46) rfl rfl rfl ?_
        refine ts_i (p2 := 47) (i := 149) (n := 283) rfl rfl hI rfl rfl rfl rfl (by omega) (by omega) (i32_lo _) (i32_hi _) (i32_ho _) rfl (fun h8 I8 u8 => ?_)
        have f8 := fr_st (F := F_X12_ruin) 0 f0 u8 rfl (by omega) (by omega)
        refine te_aload_n (p2 := 48) rfl rfl rfl ?_
        refine tg_r (p2 := 51) (i := 148) (r := 168) rfl rfl I8 rfl rfl rfl ?_
        refine te_iload_n (p2 := 52) rfl rfl rfl ?_
        refine te_iload_n (p2 := 53) rfl rfl rfl ?_
        refine ts_i (p2 := 54) (i := 152) (n := 100) rfl rfl I8 rfl rfl rfl rfl (by omega) (by omega) (by omega) (by omega) (by omega) rfl (fun h9 I9 u9 => ?_)
        have f9 := fr_st (F := F_X12_ruin) 1 f8 u9 rfl (by omega) (by omega)
        refine te_iload (p2 := 56) rfl rfl rfl ?_
        exact te_iret rfl rfl ⟨I9, f9, _, rfl, trivial⟩
      · subst w5
        have cc5_1 := (show Int32.toInt 0 = 0 from rfl)
        have cc5_2 := (show Int32.toInt 9999 = 9999 from rfl)
        refine tz_ne (p2 := 29) rfl rfl (show Int32.toInt 0 = 0 from rfl) (fun c10 => absurd c10 (by omega)) (fun c10 => ?_)
        refine te_bipush (p2 := 31) (x := (-2)) rfl rfl (by decide) ?_
        exact te_iret rfl rfl ⟨hI, f0, _, rfl, trivial⟩
    · subst w3
      have cc3_1 := (show Int32.toInt 0 = 0 from rfl)
      have cc3_2 := (show Int32.toInt 5 = 5 from rfl)
      refine tz_eq (p2 := 18) rfl rfl (show Int32.toInt 0 = 0 from rfl) (fun c11 => ?_) (fun c11 => absurd c11 (by omega))
      refine te_bipush (p2 := 31) (x := (-2)) rfl rfl (by decide) ?_
      exact te_iret rfl rfl ⟨hI, f0, _, rfl, trivial⟩
  · subst w1
    refine tz_ne (p2 := 7) rfl rfl (show Int32.toInt 0 = 0 from rfl) (fun c12 => absurd c12 (by omega)) (fun c12 => ?_)
    refine te_iconst (p2 := 8) (x := (-1)) rfl rfl (by decide) ?_
    exact te_iret rfl rfl ⟨hI, f0, _, rfl, trivial⟩
abbrev F_X11_person : List (Nat × Nat × Nat) := [(1, 2, 2), (26, 0, 23), (3, 0, 23), (4, 0, 23), (5, 0, 23)]
set_option maxRecDepth 20000 in
set_option maxHeartbeats 4000000 in
theorem t_X11_person {x1 : Int32} {x2 : Int32} {x3 : Int32} {x4 : Int32} {h : im_H} (hI : tI h)  : CaP 8 62 [.ref 16, .int x1, .int x2, .int x3, .int x4] h (mI h F_X11_person (fun _ => True)) := by
  refine cap_of (d := 7) (M := mX11_person) rfl (Nat.le_of_ble_eq_true rfl) ?_
  show EvP im_K0 7 mX11_person (0, [(0, .ref 16), (1, .int x1), (2, .int x2), (3, .int x3), (4, .int x4)], [], h) _
  have f0 : fr F_X11_person h h := fr_rf
  refine te_iload_n (p2 := 1) rfl rfl rfl ?_
  refine te_bipush (p2 := 3) (x := 100) rfl rfl (by decide) ?_
  refine cS_pI (p2 := 6) rfl rfl rfl rfl (t_X11_within (n := x1) (b := 100) hI ) (by decide) (fun y1 r1 => ?_)
  rcases r1 with ⟨w1, c1⟩ | ⟨w1, c1⟩
  · subst w1
    have cc1_1 := (show Int32.toInt 100 = 100 from rfl)
    refine tz_ne (p2 := 9) rfl rfl (show Int32.toInt 1 = 1 from rfl) (fun c2 => ?_) (fun c2 => absurd c2 (by omega))
    refine te_iload_n (p2 := 12) rfl rfl rfl ?_
    refine te_iconst (p2 := 13) (x := 1) rfl rfl (by decide) ?_
    refine te_bipush (p2 := 15) (x := 9) rfl rfl (by decide) ?_
    refine cS_pI (p2 := 18) rfl rfl rfl rfl (t_X11_between (n := x2) (a := 1) (b := 9) hI ) (by decide) (fun y3 r3 => ?_)
    rcases r3 with ⟨w3, c3⟩ | ⟨w3, c3⟩
    · subst w3
      have cc3_1 := (show Int32.toInt 1 = 1 from rfl)
      have cc3_2 := (show Int32.toInt 9 = 9 from rfl)
      refine tz_eq (p2 := 21) rfl rfl (show Int32.toInt 1 = 1 from rfl) (fun c4 => absurd c4 (by omega)) (fun c4 => ?_)
      refine te_iload_n (p2 := 22) rfl rfl rfl ?_
      refine te_iconst (p2 := 23) (x := 0) rfl rfl (by decide) ?_
      refine te_bipush (p2 := 25) (x := 99) rfl rfl (by decide) ?_
      refine cS_pI (p2 := 28) rfl rfl rfl rfl (t_X11_between (n := x3) (a := 0) (b := 99) hI ) (by decide) (fun y5 r5 => ?_)
      rcases r5 with ⟨w5, c5⟩ | ⟨w5, c5⟩
      · subst w5
        have cc5_1 := (show Int32.toInt 0 = 0 from rfl)
        have cc5_2 := (show Int32.toInt 99 = 99 from rfl)
        refine tz_eq (p2 := 31) rfl rfl (show Int32.toInt 1 = 1 from rfl) (fun c6 => absurd c6 (by omega)) (fun c6 => ?_)
        refine te_iload (p2 := 33) rfl rfl rfl ?_
        refine te_iconst (p2 := 34) (x := 0) rfl rfl (by decide) ?_
        refine te_bipush (p2 := 36) (x := 9) rfl rfl (by decide) ?_
        refine cS_pI (p2 := 39) rfl rfl rfl rfl (t_X11_between (n := x4) (a := 0) (b := 9) hI ) (by decide) (fun y7 r7 => ?_)
        rcases r7 with ⟨w7, c7⟩ | ⟨w7, c7⟩
        · subst w7
          have cc7_1 := (show Int32.toInt 0 = 0 from rfl)
          have cc7_2 := (show Int32.toInt 9 = 9 from rfl)
          refine tz_ne (p2 := 42) rfl rfl (show Int32.toInt 1 = 1 from rfl) (fun c8 => ?_) (fun c8 => absurd c8 (by omega))
          refine te_aload_n (p2 := 46) rfl rfl rfl ?_
          refine tg_r (p2 := 49) (i := 0) (r := 17) rfl rfl hI rfl rfl rfl ?_
          refine tg_i (p2 := 52) (i := 1) rfl rfl hI rfl rfl rfl (fun y9 a9 b9 e9 => ?_)
          refine te_bipush (p2 := 54) (x := 24) rfl rfl (by decide) ?_
          refine tb_lt (p2 := 57) rfl rfl rfl (show Int32.toInt 24 = 24 from rfl) (fun c10 => ?_) (fun c10 => ?_)
          · refine te_aload_n (p2 := 61) rfl rfl rfl ?_
            refine tg_r (p2 := 64) (i := 0) (r := 17) rfl rfl hI rfl rfl rfl ?_
            refine tg_e (p2 := 67) (i := 1) (v := .int y9) rfl rfl hI rfl rfl e9 ?_
            refine te_istore (p2 := 69) (lv2 := [(5, .int y9), (0, .ref 16), (1, .int x1), (2, .int x2), (3, .int x3), (4, .int x4)]) rfl rfl (by decide) rfl ?_
            refine te_aload_n (p2 := 70) rfl rfl rfl ?_
            refine tg_r (p2 := 73) (i := 0) (r := 17) rfl rfl hI rfl rfl rfl ?_
            refine tg_r (p2 := 76) (i := 1) (r := 19) rfl rfl hI rfl rfl rfl ?_
            refine te_iload (p2 := 78) rfl rfl rfl ?_
            refine te_iload_n (p2 := 79) rfl rfl rfl ?_
            refine ts_i (p2 := 80) (i := 3) (n := 24) rfl rfl hI rfl rfl rfl rfl (by omega) (by omega) (i32_lo _) (i32_hi _) (i32_ho _) rfl (fun h11 I11 u11 => ?_)
            have f11 := fr_st (F := F_X11_person) 2 f0 u11 rfl (by omega) (by omega)
            refine te_aload_n (p2 := 81) rfl rfl rfl ?_
            refine tg_r (p2 := 84) (i := 0) (r := 17) rfl rfl I11 rfl rfl rfl ?_
            refine tg_r (p2 := 87) (i := 1) (r := 20) rfl rfl I11 rfl rfl rfl ?_
            refine te_iload (p2 := 89) rfl rfl rfl ?_
            refine te_iload_n (p2 := 90) rfl rfl rfl ?_
            refine ts_i (p2 := 91) (i := 4) (n := 24) rfl rfl I11 rfl rfl rfl rfl (by omega) (by omega) (i32_lo _) (i32_hi _) (i32_ho _) rfl (fun h12 I12 u12 => ?_)
            have f12 := fr_st (F := F_X11_person) 3 f11 u12 rfl (by omega) (by omega)
            refine te_aload_n (p2 := 92) rfl rfl rfl ?_
            refine tg_r (p2 := 95) (i := 0) (r := 17) rfl rfl I12 rfl rfl rfl ?_
            refine tg_r (p2 := 98) (i := 1) (r := 21) rfl rfl I12 rfl rfl rfl ?_
            refine te_iload (p2 := 100) rfl rfl rfl ?_
            refine te_iload (p2 := 102) rfl rfl rfl ?_
            refine ts_i (p2 := 103) (i := 5) (n := 24) rfl rfl I12 rfl rfl rfl rfl (by omega) (by omega) (i32_lo _) (i32_hi _) (i32_ho _) rfl (fun h13 I13 u13 => ?_)
            have f13 := fr_st (F := F_X11_person) 4 f12 u13 rfl (by omega) (by omega)
            refine te_aload_n (p2 := 104) rfl rfl rfl ?_
            refine tg_r (p2 := 107) (i := 0) (r := 39) rfl rfl I13 rfl rfl rfl ?_
            refine tg_r (p2 := 110) (i := 23) (r := 42) rfl rfl I13 rfl rfl rfl ?_
            refine te_iload (p2 := 112) rfl rfl rfl ?_
            refine te_iload_n (p2 := 113) rfl rfl rfl ?_
            refine ts_i (p2 := 114) (i := 26) (n := 24) rfl rfl I13 rfl rfl rfl rfl (by omega) (by omega) (i32_lo _) (i32_hi _) (i32_ho _) rfl (fun h14 I14 u14 => ?_)
            have f14 := fr_st (F := F_X11_person) 1 f13 u14 rfl (by omega) (by omega)
            refine te_aload_n (p2 := 115) rfl rfl rfl ?_
            refine tg_r (p2 := 118) (i := 0) (r := 17) rfl rfl I14 rfl rfl rfl ?_
            refine te_dup (p2 := 119) rfl rfl rfl ?_
            refine tg_e (p2 := 122) (i := 1) (v := .int y9) rfl rfl I14 rfl rfl ((u14.2 _ _ (Or.inl (by decide))).trans ((u13.2 _ _ (Or.inl (by decide))).trans ((u12.2 _ _ (Or.inl (by decide))).trans ((u11.2 _ _ (Or.inl (by decide))).trans e9)))) ?_
            refine te_iconst (p2 := 123) (x := 1) rfl rfl (by decide) ?_
            refine ar_add (p2 := 124) rfl rfl rfl (show Int32.toInt 1 = 1 from rfl) (by omega) (by omega) (fun z15 e15 f15 => ?_)
            refine tp_i (p2 := 127) (i := 1) rfl rfl I14 rfl rfl (by decide) rfl rfl rfl (by omega) (by omega) (by omega) rfl (fun h16 I16 u16 => ?_)
            have f16 := fr_st (F := F_X11_person) 0 f14 u16 rfl (by decide) (by decide)
            refine te_iload (p2 := 129) rfl rfl rfl ?_
            exact te_iret rfl rfl ⟨I16, f16, _, rfl, trivial⟩
          · refine te_bipush (p2 := 59) (x := (-4)) rfl rfl (by decide) ?_
            exact te_iret rfl rfl ⟨hI, f0, _, rfl, trivial⟩
        · subst w7
          have cc7_1 := (show Int32.toInt 0 = 0 from rfl)
          have cc7_2 := (show Int32.toInt 9 = 9 from rfl)
          refine tz_ne (p2 := 42) rfl rfl (show Int32.toInt 0 = 0 from rfl) (fun c17 => absurd c17 (by omega)) (fun c17 => ?_)
          refine te_bipush (p2 := 44) (x := (-2)) rfl rfl (by decide) ?_
          exact te_iret rfl rfl ⟨hI, f0, _, rfl, trivial⟩
      · subst w5
        have cc5_1 := (show Int32.toInt 0 = 0 from rfl)
        have cc5_2 := (show Int32.toInt 99 = 99 from rfl)
        refine tz_eq (p2 := 31) rfl rfl (show Int32.toInt 0 = 0 from rfl) (fun c18 => ?_) (fun c18 => absurd c18 (by omega))
        refine te_bipush (p2 := 44) (x := (-2)) rfl rfl (by decide) ?_
        exact te_iret rfl rfl ⟨hI, f0, _, rfl, trivial⟩
    · subst w3
      have cc3_1 := (show Int32.toInt 1 = 1 from rfl)
      have cc3_2 := (show Int32.toInt 9 = 9 from rfl)
      refine tz_eq (p2 := 21) rfl rfl (show Int32.toInt 0 = 0 from rfl) (fun c19 => ?_) (fun c19 => absurd c19 (by omega))
      refine te_bipush (p2 := 44) (x := (-2)) rfl rfl (by decide) ?_
      exact te_iret rfl rfl ⟨hI, f0, _, rfl, trivial⟩
  · subst w1
    have cc1_1 := (show Int32.toInt 100 = 100 from rfl)
    refine tz_ne (p2 := 9) rfl rfl (show Int32.toInt 0 = 0 from rfl) (fun c20 => absurd c20 (by omega)) (fun c20 => ?_)
    refine te_iconst (p2 := 10) (x := (-1)) rfl rfl (by decide) ?_
    exact te_iret rfl rfl ⟨hI, f0, _, rfl, trivial⟩
abbrev F_X12_person : List (Nat × Nat × Nat) := [(148, 10, 10), (149, 140, 163), (157, 0, 23), (158, 0, 23), (159, 0, 23)]
set_option maxRecDepth 20000 in
set_option maxHeartbeats 4000000 in
theorem t_X12_person {x1 : Int32} {x2 : Int32} {x3 : Int32} {x4 : Int32} {h : im_H} (hI : tI h)  : CaP 8 124 [.ref 164, .int x1, .int x2, .int x3, .int x4] h (mI h F_X12_person (fun _ => True)) := by
  refine cap_of (d := 7) (M := mX12_person) rfl (Nat.le_of_ble_eq_true rfl) ?_
  show EvP im_K0 7 mX12_person (0, [(0, .ref 164), (1, .int x1), (2, .int x2), (3, .int x3), (4, .int x4)], [], h) _
  have f0 : fr F_X12_person h h := fr_rf
  refine te_iload_n (p2 := 1) rfl rfl rfl ?_
  refine cS_pI (p2 := 4) rfl rfl rfl rfl (t_X12_isCell (n := x1) hI ) (by decide) (fun y1 r1 => ?_)
  rcases r1 with ⟨w1, c1⟩ | ⟨w1, c1⟩
  · subst w1
    refine tz_ne (p2 := 7) rfl rfl (show Int32.toInt 1 = 1 from rfl) (fun c2 => ?_) (fun c2 => absurd c2 (by omega))
    refine te_iload_n (p2 := 10) rfl rfl rfl ?_
    refine te_iconst (p2 := 11) (x := 1) rfl rfl (by decide) ?_
    refine te_bipush (p2 := 13) (x := 9) rfl rfl (by decide) ?_
    refine cS_pI (p2 := 16) rfl rfl rfl rfl (t_X12_in (n := x2) (a := 1) (b := 9) hI ) (by decide) (fun y3 r3 => ?_)
    rcases r3 with ⟨w3, c3⟩ | ⟨w3, c3⟩
    · subst w3
      have cc3_1 := (show Int32.toInt 1 = 1 from rfl)
      have cc3_2 := (show Int32.toInt 9 = 9 from rfl)
      refine tz_eq (p2 := 19) rfl rfl (show Int32.toInt 1 = 1 from rfl) (fun c4 => absurd c4 (by omega)) (fun c4 => ?_)
      refine te_iload_n (p2 := 20) rfl rfl rfl ?_
      refine te_iconst (p2 := 21) (x := 0) rfl rfl (by decide) ?_
      refine te_bipush (p2 := 23) (x := 99) rfl rfl (by decide) ?_
      refine cS_pI (p2 := 26) rfl rfl rfl rfl (t_X12_in (n := x3) (a := 0) (b := 99) hI ) (by decide) (fun y5 r5 => ?_)
      rcases r5 with ⟨w5, c5⟩ | ⟨w5, c5⟩
      · subst w5
        have cc5_1 := (show Int32.toInt 0 = 0 from rfl)
        have cc5_2 := (show Int32.toInt 99 = 99 from rfl)
        refine tz_eq (p2 := 29) rfl rfl (show Int32.toInt 1 = 1 from rfl) (fun c6 => absurd c6 (by omega)) (fun c6 => ?_)
        refine te_iload (p2 := 31) rfl rfl rfl ?_
        refine te_iconst (p2 := 32) (x := 0) rfl rfl (by decide) ?_
        refine te_bipush (p2 := 34) (x := 9) rfl rfl (by decide) ?_
        refine cS_pI (p2 := 37) rfl rfl rfl rfl (t_X12_in (n := x4) (a := 0) (b := 9) hI ) (by decide) (fun y7 r7 => ?_)
        rcases r7 with ⟨w7, c7⟩ | ⟨w7, c7⟩
        · subst w7
          have cc7_1 := (show Int32.toInt 0 = 0 from rfl)
          have cc7_2 := (show Int32.toInt 9 = 9 from rfl)
          refine tz_ne (p2 := 40) rfl rfl (show Int32.toInt 1 = 1 from rfl) (fun c8 => ?_) (fun c8 => absurd c8 (by omega))
          refine te_aload_n (p2 := 44) rfl rfl rfl ?_
          refine tg_i (p2 := 47) (i := 148) rfl rfl hI rfl rfl rfl (fun y9 a9 b9 e9 => ?_)
          refine te_bipush (p2 := 49) (x := 24) rfl rfl (by decide) ?_
          refine tb_ne (p2 := 52) rfl rfl rfl (show Int32.toInt 24 = 24 from rfl) (fun c10 => ?_) (fun c10 => ?_)
          · refine te_aload_n (p2 := 56) rfl rfl rfl ?_
            refine tg_r (p2 := 59) (i := 148) (r := 173) rfl rfl hI rfl rfl rfl ?_
            refine te_aload_n (p2 := 60) rfl rfl rfl ?_
            refine tg_e (p2 := 63) (i := 148) (v := .int y9) rfl rfl hI rfl rfl e9 ?_
            refine te_iload_n (p2 := 64) rfl rfl rfl ?_
            refine ts_i (p2 := 65) (i := 157) (n := 24) rfl rfl hI rfl rfl rfl rfl (by omega) (by omega) (i32_lo _) (i32_hi _) (i32_ho _) rfl (fun h11 I11 u11 => ?_)
            have f11 := fr_st (F := F_X12_person) 2 f0 u11 rfl (by omega) (by omega)
            refine te_aload_n (p2 := 66) rfl rfl rfl ?_
            refine tg_r (p2 := 69) (i := 148) (r := 174) rfl rfl I11 rfl rfl rfl ?_
            refine te_aload_n (p2 := 70) rfl rfl rfl ?_
            refine tg_e (p2 := 73) (i := 148) (v := .int y9) rfl rfl I11 rfl rfl ((u11.2 _ _ (Or.inl (by decide))).trans e9) ?_
            refine te_iload_n (p2 := 74) rfl rfl rfl ?_
            refine ts_i (p2 := 75) (i := 158) (n := 24) rfl rfl I11 rfl rfl rfl rfl (by omega) (by omega) (i32_lo _) (i32_hi _) (i32_ho _) rfl (fun h12 I12 u12 => ?_)
            have f12 := fr_st (F := F_X12_person) 3 f11 u12 rfl (by omega) (by omega)
            refine te_aload_n (p2 := 76) rfl rfl rfl ?_
            refine tg_r (p2 := 79) (i := 148) (r := 175) rfl rfl I12 rfl rfl rfl ?_
            refine te_aload_n (p2 := 80) rfl rfl rfl ?_
            refine tg_e (p2 := 83) (i := 148) (v := .int y9) rfl rfl I12 rfl rfl ((u12.2 _ _ (Or.inl (by decide))).trans ((u11.2 _ _ (Or.inl (by decide))).trans e9)) ?_
            refine te_iload (p2 := 85) rfl rfl rfl ?_
            refine ts_i (p2 := 86) (i := 159) (n := 24) rfl rfl I12 rfl rfl rfl rfl (by omega) (by omega) (i32_lo _) (i32_hi _) (i32_ho _) rfl (fun h13 I13 u13 => ?_)
            have f13 := fr_st (F := F_X12_person) 4 f12 u13 rfl (by omega) (by omega)
            refine te_aload_n (p2 := 87) rfl rfl rfl ?_
            refine tg_r (p2 := 90) (i := 148) (r := 165) rfl rfl I13 rfl rfl rfl ?_
            refine te_sipush (p2 := 93) (x := 140) rfl rfl (by decide) ?_
            refine te_aload_n (p2 := 94) rfl rfl rfl ?_
            refine tg_e (p2 := 97) (i := 148) (v := .int y9) rfl rfl I13 rfl rfl ((u13.2 _ _ (Or.inl (by decide))).trans ((u12.2 _ _ (Or.inl (by decide))).trans ((u11.2 _ _ (Or.inl (by decide))).trans e9))) ?_
            refine ar_add (p2 := 98) rfl rfl (show Int32.toInt 140 = 140 from rfl) rfl (by omega) (by omega) (fun z14 e14 f14 => ?_)
            refine te_iload_n (p2 := 99) rfl rfl rfl ?_
            refine ts_i (p2 := 100) (i := 149) (n := 283) rfl rfl I13 rfl rfl rfl rfl (by omega) (by omega) (i32_lo _) (i32_hi _) (i32_ho _) rfl (fun h15 I15 u15 => ?_)
            have f15 := fr_st (F := F_X12_person) 1 f13 u15 rfl (by omega) (by omega)
            refine te_aload_n (p2 := 101) rfl rfl rfl ?_
            refine te_dup (p2 := 102) rfl rfl rfl ?_
            refine tg_e (p2 := 105) (i := 148) (v := .int y9) rfl rfl I15 rfl rfl ((u15.2 _ _ (Or.inl (by decide))).trans ((u13.2 _ _ (Or.inl (by decide))).trans ((u12.2 _ _ (Or.inl (by decide))).trans ((u11.2 _ _ (Or.inl (by decide))).trans e9)))) ?_
            refine te_iconst (p2 := 106) (x := 1) rfl rfl (by decide) ?_
            refine ar_add (p2 := 107) rfl rfl rfl (show Int32.toInt 1 = 1 from rfl) (by omega) (by omega) (fun z16 e16 f16 => ?_)
            refine tp_i (p2 := 110) (i := 148) rfl rfl I15 rfl rfl (by decide) rfl rfl rfl (by omega) (by omega) (by omega) rfl (fun h17 I17 u17 => ?_)
            have f17 := fr_st (F := F_X12_person) 0 f15 u17 rfl (by decide) (by decide)
            refine te_aload_n (p2 := 111) rfl rfl rfl ?_
            refine tg_e (p2 := 114) (i := 148) (v := .int z16) rfl rfl I17 rfl rfl u17.1 ?_
            refine te_iconst (p2 := 115) (x := 1) rfl rfl (by decide) ?_
            refine ar_sub (p2 := 116) rfl rfl rfl (show Int32.toInt 1 = 1 from rfl) (by omega) (by omega) (fun z18 e18 f18 => ?_)
            exact te_iret rfl rfl ⟨I17, f17, _, rfl, trivial⟩
          · refine te_bipush (p2 := 54) (x := (-4)) rfl rfl (by decide) ?_
            exact te_iret rfl rfl ⟨hI, f0, _, rfl, trivial⟩
        · subst w7
          have cc7_1 := (show Int32.toInt 0 = 0 from rfl)
          have cc7_2 := (show Int32.toInt 9 = 9 from rfl)
          refine tz_ne (p2 := 40) rfl rfl (show Int32.toInt 0 = 0 from rfl) (fun c19 => absurd c19 (by omega)) (fun c19 => ?_)
          refine te_bipush (p2 := 42) (x := (-2)) rfl rfl (by decide) ?_
          exact te_iret rfl rfl ⟨hI, f0, _, rfl, trivial⟩
      · subst w5
        have cc5_1 := (show Int32.toInt 0 = 0 from rfl)
        have cc5_2 := (show Int32.toInt 99 = 99 from rfl)
        refine tz_eq (p2 := 29) rfl rfl (show Int32.toInt 0 = 0 from rfl) (fun c20 => ?_) (fun c20 => absurd c20 (by omega))
        refine te_bipush (p2 := 42) (x := (-2)) rfl rfl (by decide) ?_
        exact te_iret rfl rfl ⟨hI, f0, _, rfl, trivial⟩
    · subst w3
      have cc3_1 := (show Int32.toInt 1 = 1 from rfl)
      have cc3_2 := (show Int32.toInt 9 = 9 from rfl)
      refine tz_eq (p2 := 19) rfl rfl (show Int32.toInt 0 = 0 from rfl) (fun c21 => ?_) (fun c21 => absurd c21 (by omega))
      refine te_bipush (p2 := 42) (x := (-2)) rfl rfl (by decide) ?_
      exact te_iret rfl rfl ⟨hI, f0, _, rfl, trivial⟩
  · subst w1
    refine tz_ne (p2 := 7) rfl rfl (show Int32.toInt 0 = 0 from rfl) (fun c22 => absurd c22 (by omega)) (fun c22 => ?_)
    refine te_iconst (p2 := 8) (x := (-1)) rfl rfl (by decide) ?_
    exact te_iret rfl rfl ⟨hI, f0, _, rfl, trivial⟩
abbrev F_X11_moves : List (Nat × Nat × Nat) := [(26, 0, 23)]
set_option maxRecDepth 20000 in
set_option maxHeartbeats 4000000 in
theorem t_X11_moves {x1 : Int32} {x2 : Int32} {h : im_H} (hI : tI h)  : CaP 8 63 [.ref 16, .int x1, .int x2] h (mI h F_X11_moves (fun _ => True)) := by
  refine cap_of (d := 7) (M := mX11_moves) rfl (Nat.le_of_ble_eq_true rfl) ?_
  show EvP im_K0 7 mX11_moves (0, [(0, .ref 16), (1, .int x1), (2, .int x2)], [], h) _
  have f0 : fr F_X11_moves h h := fr_rf
  refine te_iload_n (p2 := 1) rfl rfl rfl ?_
  refine te_aload_n (p2 := 2) rfl rfl rfl ?_
  refine tg_r (p2 := 5) (i := 0) (r := 17) rfl rfl hI rfl rfl rfl ?_
  refine tg_i (p2 := 8) (i := 1) rfl rfl hI rfl rfl rfl (fun y1 a1 b1 e1 => ?_)
  refine cS_pI (p2 := 11) rfl rfl rfl rfl (t_X11_within (n := x1) (b := y1) hI ) (by decide) (fun y2 r2 => ?_)
  rcases r2 with ⟨w2, c2⟩ | ⟨w2, c2⟩
  · subst w2
    refine tz_eq (p2 := 14) rfl rfl (show Int32.toInt 1 = 1 from rfl) (fun c3 => absurd c3 (by omega)) (fun c3 => ?_)
    refine te_iload_n (p2 := 15) rfl rfl rfl ?_
    refine te_bipush (p2 := 17) (x := 100) rfl rfl (by decide) ?_
    refine cS_pI (p2 := 20) rfl rfl rfl rfl (t_X11_within (n := x2) (b := 100) hI ) (by decide) (fun y4 r4 => ?_)
    rcases r4 with ⟨w4, c4⟩ | ⟨w4, c4⟩
    · subst w4
      have cc4_1 := (show Int32.toInt 100 = 100 from rfl)
      refine tz_ne (p2 := 23) rfl rfl (show Int32.toInt 1 = 1 from rfl) (fun c5 => ?_) (fun c5 => absurd c5 (by omega))
      refine te_aload_n (p2 := 26) rfl rfl rfl ?_
      refine tg_r (p2 := 29) (i := 0) (r := 39) rfl rfl hI rfl rfl rfl ?_
      refine tg_r (p2 := 32) (i := 23) (r := 46) rfl rfl hI rfl rfl rfl ?_
      refine te_iload_n (p2 := 33) rfl rfl rfl ?_
      refine tl_b (p2 := 34) (i := 30) (n := 24) rfl rfl hI rfl rfl rfl rfl (by omega) (by omega) (fun y6 a6 e6 => ?_)
      refine tz_eq (p2 := 37) rfl rfl rfl (fun c7 => ?_) (fun c7 => ?_)
      · refine te_aload_n (p2 := 41) rfl rfl rfl ?_
        refine tg_r (p2 := 44) (i := 0) (r := 39) rfl rfl hI rfl rfl rfl ?_
        refine tg_r (p2 := 47) (i := 23) (r := 42) rfl rfl hI rfl rfl rfl ?_
        refine te_iload_n (p2 := 48) rfl rfl rfl ?_
        refine tl_i (p2 := 49) (i := 26) (n := 24) rfl rfl hI rfl rfl rfl rfl (by omega) (by omega) (fun y8 a8 b8 g8 e8 => ?_)
        refine te_istore_n (p2 := 50) (lv2 := [(3, .int y8), (0, .ref 16), (1, .int x1), (2, .int x2)]) rfl rfl (by decide) rfl ?_
        refine te_aload_n (p2 := 51) rfl rfl rfl ?_
        refine tg_r (p2 := 54) (i := 0) (r := 39) rfl rfl hI rfl rfl rfl ?_
        refine tg_r (p2 := 57) (i := 23) (r := 42) rfl rfl hI rfl rfl rfl ?_
        refine te_iload_n (p2 := 58) rfl rfl rfl ?_
        refine te_iload_n (p2 := 59) rfl rfl rfl ?_
        refine ts_i (p2 := 60) (i := 26) (n := 24) rfl rfl hI rfl rfl rfl rfl (by omega) (by omega) (i32_lo _) (i32_hi _) (i32_ho _) rfl (fun h9 I9 u9 => ?_)
        have f9 := fr_st (F := F_X11_moves) 0 f0 u9 rfl (by omega) (by omega)
        refine te_iload_n (p2 := 61) rfl rfl rfl ?_
        exact te_iret rfl rfl ⟨I9, f9, _, rfl, trivial⟩
      · refine te_bipush (p2 := 39) (x := (-3)) rfl rfl (by decide) ?_
        exact te_iret rfl rfl ⟨hI, f0, _, rfl, trivial⟩
    · subst w4
      have cc4_1 := (show Int32.toInt 100 = 100 from rfl)
      refine tz_ne (p2 := 23) rfl rfl (show Int32.toInt 0 = 0 from rfl) (fun c10 => absurd c10 (by omega)) (fun c10 => ?_)
      refine te_iconst (p2 := 24) (x := (-1)) rfl rfl (by decide) ?_
      exact te_iret rfl rfl ⟨hI, f0, _, rfl, trivial⟩
  · subst w2
    refine tz_eq (p2 := 14) rfl rfl (show Int32.toInt 0 = 0 from rfl) (fun c11 => ?_) (fun c11 => absurd c11 (by omega))
    refine te_iconst (p2 := 24) (x := (-1)) rfl rfl (by decide) ?_
    exact te_iret rfl rfl ⟨hI, f0, _, rfl, trivial⟩
abbrev F_X12_moves : List (Nat × Nat × Nat) := [(149, 140, 163)]
set_option maxRecDepth 20000 in
set_option maxHeartbeats 4000000 in
theorem t_X12_moves {x1 : Int32} {x2 : Int32} {h : im_H} (hI : tI h)  : CaP 8 125 [.ref 164, .int x1, .int x2] h (mI h F_X12_moves (fun _ => True)) := by
  refine cap_of (d := 7) (M := mX12_moves) rfl (Nat.le_of_ble_eq_true rfl) ?_
  show EvP im_K0 7 mX12_moves (0, [(0, .ref 164), (1, .int x1), (2, .int x2)], [], h) _
  have f0 : fr F_X12_moves h h := fr_rf
  refine te_aload_n (p2 := 1) rfl rfl rfl ?_
  refine te_iload_n (p2 := 2) rfl rfl rfl ?_
  refine cV_pI (p2 := 5) (i := 148) rfl rfl rfl rfl hI rfl rfl rfl (t_X12_isPerson (k := x1) hI) (by decide) (fun y1 r1 => ?_)
  obtain ⟨p1, e1, a1, b1, r1⟩ := r1
  rcases r1 with ⟨w1, c1⟩ | ⟨w1, c1⟩
  · subst w1
    refine tz_eq (p2 := 8) rfl rfl (show Int32.toInt 1 = 1 from rfl) (fun c2 => absurd c2 (by omega)) (fun c2 => ?_)
    refine te_iload_n (p2 := 9) rfl rfl rfl ?_
    refine cS_pI (p2 := 12) rfl rfl rfl rfl (t_X12_isCell (n := x2) hI ) (by decide) (fun y3 r3 => ?_)
    rcases r3 with ⟨w3, c3⟩ | ⟨w3, c3⟩
    · subst w3
      refine tz_ne (p2 := 15) rfl rfl (show Int32.toInt 1 = 1 from rfl) (fun c4 => ?_) (fun c4 => absurd c4 (by omega))
      refine te_aload_n (p2 := 18) rfl rfl rfl ?_
      refine tg_r (p2 := 21) (i := 148) (r := 165) rfl rfl hI rfl rfl rfl ?_
      refine te_sipush (p2 := 24) (x := 236) rfl rfl (by decide) ?_
      refine te_iload_n (p2 := 25) rfl rfl rfl ?_
      refine ar_add (p2 := 26) rfl rfl (show Int32.toInt 236 = 236 from rfl) rfl (by omega) (by omega) (fun z5 e5 f5 => ?_)
      refine tl_i (p2 := 27) (i := 149) (n := 283) rfl rfl hI rfl rfl rfl rfl (by omega) (by omega) (fun y6 a6 b6 g6 e6 => ?_)
      refine te_iconst (p2 := 28) (x := 1) rfl rfl (by decide) ?_
      refine tb_ne (p2 := 31) rfl rfl rfl (show Int32.toInt 1 = 1 from rfl) (fun c7 => ?_) (fun c7 => ?_)
      · refine te_aload_n (p2 := 35) rfl rfl rfl ?_
        refine tg_r (p2 := 38) (i := 148) (r := 165) rfl rfl hI rfl rfl rfl ?_
        refine te_sipush (p2 := 41) (x := 140) rfl rfl (by decide) ?_
        refine te_iload_n (p2 := 42) rfl rfl rfl ?_
        refine ar_add (p2 := 43) rfl rfl (show Int32.toInt 140 = 140 from rfl) rfl (by omega) (by omega) (fun z8 e8 f8 => ?_)
        refine tl_i (p2 := 44) (i := 149) (n := 283) rfl rfl hI rfl rfl rfl rfl (by omega) (by omega) (fun y9 a9 b9 g9 e9 => ?_)
        refine te_istore_n (p2 := 45) (lv2 := [(3, .int y9), (0, .ref 164), (1, .int x1), (2, .int x2)]) rfl rfl (by decide) rfl ?_
        refine te_aload_n (p2 := 46) rfl rfl rfl ?_
        refine tg_r (p2 := 49) (i := 148) (r := 165) rfl rfl hI rfl rfl rfl ?_
        refine te_sipush (p2 := 52) (x := 140) rfl rfl (by decide) ?_
        refine te_iload_n (p2 := 53) rfl rfl rfl ?_
        refine ar_add (p2 := 54) rfl rfl (show Int32.toInt 140 = 140 from rfl) rfl (by omega) (by omega) (fun z10 e10 f10 => ?_)
        refine te_iload_n (p2 := 55) rfl rfl rfl ?_
        refine ts_i (p2 := 56) (i := 149) (n := 283) rfl rfl hI rfl rfl rfl rfl (by omega) (by omega) (i32_lo _) (i32_hi _) (i32_ho _) rfl (fun h11 I11 u11 => ?_)
        have f11 := fr_st (F := F_X12_moves) 0 f0 u11 rfl (by omega) (by omega)
        refine te_iload_n (p2 := 57) rfl rfl rfl ?_
        exact te_iret rfl rfl ⟨I11, f11, _, rfl, trivial⟩
      · refine te_bipush (p2 := 33) (x := (-3)) rfl rfl (by decide) ?_
        exact te_iret rfl rfl ⟨hI, f0, _, rfl, trivial⟩
    · subst w3
      refine tz_ne (p2 := 15) rfl rfl (show Int32.toInt 0 = 0 from rfl) (fun c12 => absurd c12 (by omega)) (fun c12 => ?_)
      refine te_iconst (p2 := 16) (x := (-1)) rfl rfl (by decide) ?_
      exact te_iret rfl rfl ⟨hI, f0, _, rfl, trivial⟩
  · subst w1
    refine tz_eq (p2 := 8) rfl rfl (show Int32.toInt 0 = 0 from rfl) (fun c13 => ?_) (fun c13 => absurd c13 (by omega))
    refine te_iconst (p2 := 16) (x := (-1)) rfl rfl (by decide) ?_
    exact te_iret rfl rfl ⟨hI, f0, _, rfl, trivial⟩
abbrev F_X11_wall : List (Nat × Nat × Nat) := [(1, 9, 9), (10, 0, 15), (31, 0, 15), (32, 0, 15), (9, 0, 15)]
set_option maxRecDepth 20000 in
set_option maxHeartbeats 4000000 in
theorem t_X11_wall {x1 : Int32} {x2 : Int32} {x3 : Int32} {h : im_H} (hI : tI h)  : CaP 8 64 [.ref 16, .int x1, .int x2, .int x3] h (mI h F_X11_wall (fun _ => True)) := by
  refine cap_of (d := 7) (M := mX11_wall) rfl (Nat.le_of_ble_eq_true rfl) ?_
  show EvP im_K0 7 mX11_wall (0, [(0, .ref 16), (1, .int x1), (2, .int x2), (3, .int x3)], [], h) _
  have f0 : fr F_X11_wall h h := fr_rf
  refine te_iload_n (p2 := 1) rfl rfl rfl ?_
  refine te_bipush (p2 := 3) (x := 100) rfl rfl (by decide) ?_
  refine cS_pI (p2 := 6) rfl rfl rfl rfl (t_X11_within (n := x1) (b := 100) hI ) (by decide) (fun y1 r1 => ?_)
  rcases r1 with ⟨w1, c1⟩ | ⟨w1, c1⟩
  · subst w1
    have cc1_1 := (show Int32.toInt 100 = 100 from rfl)
    refine tz_ne (p2 := 9) rfl rfl (show Int32.toInt 1 = 1 from rfl) (fun c2 => ?_) (fun c2 => absurd c2 (by omega))
    refine te_iload_n (p2 := 12) rfl rfl rfl ?_
    refine te_iconst (p2 := 13) (x := 4) rfl rfl (by decide) ?_
    refine cS_pI (p2 := 16) rfl rfl rfl rfl (t_X11_within (n := x2) (b := 4) hI ) (by decide) (fun y3 r3 => ?_)
    rcases r3 with ⟨w3, c3⟩ | ⟨w3, c3⟩
    · subst w3
      have cc3_1 := (show Int32.toInt 4 = 4 from rfl)
      refine tz_eq (p2 := 19) rfl rfl (show Int32.toInt 1 = 1 from rfl) (fun c4 => absurd c4 (by omega)) (fun c4 => ?_)
      refine te_iload_n (p2 := 20) rfl rfl rfl ?_
      refine te_iconst (p2 := 21) (x := 1) rfl rfl (by decide) ?_
      refine te_bipush (p2 := 23) (x := 99) rfl rfl (by decide) ?_
      refine cS_pI (p2 := 26) rfl rfl rfl rfl (t_X11_between (n := x3) (a := 1) (b := 99) hI ) (by decide) (fun y5 r5 => ?_)
      rcases r5 with ⟨w5, c5⟩ | ⟨w5, c5⟩
      · subst w5
        have cc5_1 := (show Int32.toInt 1 = 1 from rfl)
        have cc5_2 := (show Int32.toInt 99 = 99 from rfl)
        refine tz_ne (p2 := 29) rfl rfl (show Int32.toInt 1 = 1 from rfl) (fun c6 => ?_) (fun c6 => absurd c6 (by omega))
        refine te_iload_n (p2 := 33) rfl rfl rfl ?_
        refine te_iload_n (p2 := 34) rfl rfl rfl ?_
        refine cS_pI (p2 := 37) rfl rfl rfl rfl (t_X11_cellOnSide (c := x1) (side := x2) hI (by omega) (by omega)) (by decide) (fun y7 r7 => ?_)
        obtain ⟨a7, b7, e7⟩ := r7
        refine te_istore (p2 := 39) (lv2 := [(4, .int y7), (0, .ref 16), (1, .int x1), (2, .int x2), (3, .int x3)]) rfl rfl (by decide) rfl ?_
        refine te_iload (p2 := 41) rfl rfl rfl ?_
        refine te_iconst (p2 := 42) (x := (-1)) rfl rfl (by decide) ?_
        refine tb_ne (p2 := 45) rfl rfl rfl (show Int32.toInt (-1) = (-1) from rfl) (fun c8 => ?_) (fun c8 => ?_)
        · refine te_aload_n (p2 := 49) rfl rfl rfl ?_
          refine tg_r (p2 := 52) (i := 0) (r := 17) rfl rfl hI rfl rfl rfl ?_
          refine tg_i (p2 := 55) (i := 1) rfl rfl hI rfl rfl rfl (fun y9 a9 b9 e9 => ?_)
          refine te_bipush (p2 := 57) (x := 16) rfl rfl (by decide) ?_
          refine tb_lt (p2 := 60) rfl rfl rfl (show Int32.toInt 16 = 16 from rfl) (fun c10 => ?_) (fun c10 => ?_)
          · refine te_aload_n (p2 := 64) rfl rfl rfl ?_
            refine tg_r (p2 := 67) (i := 0) (r := 17) rfl rfl hI rfl rfl rfl ?_
            refine tg_e (p2 := 70) (i := 1) (v := .int y9) rfl rfl hI rfl rfl e9 ?_
            refine te_istore (p2 := 72) (lv2 := [(5, .int y9), (4, .int y7), (0, .ref 16), (1, .int x1), (2, .int x2), (3, .int x3)]) rfl rfl (by decide) rfl ?_
            refine te_aload_n (p2 := 73) rfl rfl rfl ?_
            refine tg_r (p2 := 76) (i := 0) (r := 17) rfl rfl hI rfl rfl rfl ?_
            refine tg_r (p2 := 79) (i := 1) (r := 25) rfl rfl hI rfl rfl rfl ?_
            refine te_iload (p2 := 81) rfl rfl rfl ?_
            refine te_iload_n (p2 := 82) rfl rfl rfl ?_
            refine ts_i (p2 := 83) (i := 9) (n := 16) rfl rfl hI rfl rfl rfl rfl (by omega) (by omega) (by omega) (by omega) (by omega) rfl (fun h11 I11 u11 => ?_)
            have f11 := fr_st (F := F_X11_wall) 4 f0 u11 rfl (by omega) (by omega)
            refine te_aload_n (p2 := 84) rfl rfl rfl ?_
            refine tg_r (p2 := 87) (i := 0) (r := 17) rfl rfl I11 rfl rfl rfl ?_
            refine tg_r (p2 := 90) (i := 1) (r := 26) rfl rfl I11 rfl rfl rfl ?_
            refine te_iload (p2 := 92) rfl rfl rfl ?_
            refine te_iload (p2 := 94) rfl rfl rfl ?_
            refine ts_i (p2 := 95) (i := 10) (n := 16) rfl rfl I11 rfl rfl rfl rfl (by omega) (by omega) (by omega) (by omega) (by omega) rfl (fun h12 I12 u12 => ?_)
            have f12 := fr_st (F := F_X11_wall) 1 f11 u12 rfl (by omega) (by omega)
            refine te_aload_n (p2 := 96) rfl rfl rfl ?_
            refine tg_r (p2 := 99) (i := 0) (r := 39) rfl rfl I12 rfl rfl rfl ?_
            refine tg_r (p2 := 102) (i := 23) (r := 47) rfl rfl I12 rfl rfl rfl ?_
            refine te_iload (p2 := 104) rfl rfl rfl ?_
            refine te_iload_n (p2 := 105) rfl rfl rfl ?_
            refine ts_i (p2 := 106) (i := 31) (n := 16) rfl rfl I12 rfl rfl rfl rfl (by omega) (by omega) (i32_lo _) (i32_hi _) (i32_ho _) rfl (fun h13 I13 u13 => ?_)
            have f13 := fr_st (F := F_X11_wall) 2 f12 u13 rfl (by omega) (by omega)
            refine te_aload_n (p2 := 107) rfl rfl rfl ?_
            refine tg_r (p2 := 110) (i := 0) (r := 39) rfl rfl I13 rfl rfl rfl ?_
            refine tg_r (p2 := 113) (i := 23) (r := 48) rfl rfl I13 rfl rfl rfl ?_
            refine te_iload (p2 := 115) rfl rfl rfl ?_
            refine te_iconst (p2 := 116) (x := 1) rfl rfl (by decide) ?_
            refine ts_b (p2 := 117) (i := 32) (n := 16) rfl rfl I13 rfl rfl rfl rfl (by omega) (by omega) (by decide) (by decide) rfl (fun h14 I14 u14 => ?_)
            have f14 := fr_st (F := F_X11_wall) 3 f13 u14 rfl (by omega) (by omega)
            refine te_aload_n (p2 := 118) rfl rfl rfl ?_
            refine tg_r (p2 := 121) (i := 0) (r := 17) rfl rfl I14 rfl rfl rfl ?_
            refine te_dup (p2 := 122) rfl rfl rfl ?_
            refine tg_e (p2 := 125) (i := 1) (v := .int y9) rfl rfl I14 rfl rfl ((u14.2 _ _ (Or.inl (by decide))).trans ((u13.2 _ _ (Or.inl (by decide))).trans ((u12.2 _ _ (Or.inl (by decide))).trans ((u11.2 _ _ (Or.inl (by decide))).trans e9)))) ?_
            refine te_iconst (p2 := 126) (x := 1) rfl rfl (by decide) ?_
            refine ar_add (p2 := 127) rfl rfl rfl (show Int32.toInt 1 = 1 from rfl) (by omega) (by omega) (fun z15 e15 f15 => ?_)
            refine tp_i (p2 := 130) (i := 1) rfl rfl I14 rfl rfl (by decide) rfl rfl rfl (by omega) (by omega) (by omega) rfl (fun h16 I16 u16 => ?_)
            have f16 := fr_st (F := F_X11_wall) 0 f14 u16 rfl (by decide) (by decide)
            refine te_iload (p2 := 132) rfl rfl rfl ?_
            exact te_iret rfl rfl ⟨I16, f16, _, rfl, trivial⟩
          · refine te_bipush (p2 := 62) (x := (-4)) rfl rfl (by decide) ?_
            exact te_iret rfl rfl ⟨hI, f0, _, rfl, trivial⟩
        · refine te_bipush (p2 := 47) (x := (-3)) rfl rfl (by decide) ?_
          exact te_iret rfl rfl ⟨hI, f0, _, rfl, trivial⟩
      · subst w5
        have cc5_1 := (show Int32.toInt 1 = 1 from rfl)
        have cc5_2 := (show Int32.toInt 99 = 99 from rfl)
        refine tz_ne (p2 := 29) rfl rfl (show Int32.toInt 0 = 0 from rfl) (fun c17 => absurd c17 (by omega)) (fun c17 => ?_)
        refine te_bipush (p2 := 31) (x := (-2)) rfl rfl (by decide) ?_
        exact te_iret rfl rfl ⟨hI, f0, _, rfl, trivial⟩
    · subst w3
      have cc3_1 := (show Int32.toInt 4 = 4 from rfl)
      refine tz_eq (p2 := 19) rfl rfl (show Int32.toInt 0 = 0 from rfl) (fun c18 => ?_) (fun c18 => absurd c18 (by omega))
      refine te_bipush (p2 := 31) (x := (-2)) rfl rfl (by decide) ?_
      exact te_iret rfl rfl ⟨hI, f0, _, rfl, trivial⟩
  · subst w1
    have cc1_1 := (show Int32.toInt 100 = 100 from rfl)
    refine tz_ne (p2 := 9) rfl rfl (show Int32.toInt 0 = 0 from rfl) (fun c19 => absurd c19 (by omega)) (fun c19 => ?_)
    refine te_iconst (p2 := 10) (x := (-1)) rfl rfl (by decide) ?_
    exact te_iret rfl rfl ⟨hI, f0, _, rfl, trivial⟩
abbrev F_X12_wall : List (Nat × Nat × Nat) := [(148, 21, 21), (149, 108, 139), (167, 0, 15), (168, 0, 15)]
set_option maxRecDepth 20000 in
set_option maxHeartbeats 4000000 in
theorem t_X12_wall {x1 : Int32} {x2 : Int32} {x3 : Int32} {h : im_H} (hI : tI h)  : CaP 8 126 [.ref 164, .int x1, .int x2, .int x3] h (mI h F_X12_wall (fun _ => True)) := by
  refine cap_of (d := 7) (M := mX12_wall) rfl (Nat.le_of_ble_eq_true rfl) ?_
  show EvP im_K0 7 mX12_wall (0, [(0, .ref 164), (1, .int x1), (2, .int x2), (3, .int x3)], [], h) _
  have f0 : fr F_X12_wall h h := fr_rf
  refine te_iload_n (p2 := 1) rfl rfl rfl ?_
  refine cS_pI (p2 := 4) rfl rfl rfl rfl (t_X12_isCell (n := x1) hI ) (by decide) (fun y1 r1 => ?_)
  rcases r1 with ⟨w1, c1⟩ | ⟨w1, c1⟩
  · subst w1
    refine tz_ne (p2 := 7) rfl rfl (show Int32.toInt 1 = 1 from rfl) (fun c2 => ?_) (fun c2 => absurd c2 (by omega))
    refine te_iload_n (p2 := 10) rfl rfl rfl ?_
    refine te_iconst (p2 := 11) (x := 0) rfl rfl (by decide) ?_
    refine te_iconst (p2 := 12) (x := 3) rfl rfl (by decide) ?_
    refine cS_pI (p2 := 15) rfl rfl rfl rfl (t_X12_in (n := x2) (a := 0) (b := 3) hI ) (by decide) (fun y3 r3 => ?_)
    rcases r3 with ⟨w3, c3⟩ | ⟨w3, c3⟩
    · subst w3
      have cc3_1 := (show Int32.toInt 0 = 0 from rfl)
      have cc3_2 := (show Int32.toInt 3 = 3 from rfl)
      refine tz_eq (p2 := 18) rfl rfl (show Int32.toInt 1 = 1 from rfl) (fun c4 => absurd c4 (by omega)) (fun c4 => ?_)
      refine te_iload_n (p2 := 19) rfl rfl rfl ?_
      refine te_iconst (p2 := 20) (x := 1) rfl rfl (by decide) ?_
      refine te_bipush (p2 := 22) (x := 99) rfl rfl (by decide) ?_
      refine cS_pI (p2 := 25) rfl rfl rfl rfl (t_X12_in (n := x3) (a := 1) (b := 99) hI ) (by decide) (fun y5 r5 => ?_)
      rcases r5 with ⟨w5, c5⟩ | ⟨w5, c5⟩
      · subst w5
        have cc5_1 := (show Int32.toInt 1 = 1 from rfl)
        have cc5_2 := (show Int32.toInt 99 = 99 from rfl)
        refine tz_ne (p2 := 28) rfl rfl (show Int32.toInt 1 = 1 from rfl) (fun c6 => ?_) (fun c6 => absurd c6 (by omega))
        refine te_iload_n (p2 := 32) rfl rfl rfl ?_
        refine te_iload_n (p2 := 33) rfl rfl rfl ?_
        refine cS_pI (p2 := 36) rfl rfl rfl rfl (t_X12_nextTo (c := x1) (side := x2) hI (by omega) (by omega)) (by decide) (fun y7 r7 => ?_)
        obtain ⟨a7, b7, e7⟩ := r7
        refine te_iconst (p2 := 37) (x := (-1)) rfl rfl (by decide) ?_
        refine tb_ne (p2 := 40) rfl rfl rfl (show Int32.toInt (-1) = (-1) from rfl) (fun c8 => ?_) (fun c8 => ?_)
        · refine te_aload_n (p2 := 44) rfl rfl rfl ?_
          refine tg_i (p2 := 47) (i := 148) rfl rfl hI rfl rfl rfl (fun y9 a9 b9 e9 => ?_)
          refine te_bipush (p2 := 49) (x := 16) rfl rfl (by decide) ?_
          refine tb_ne (p2 := 52) rfl rfl rfl (show Int32.toInt 16 = 16 from rfl) (fun c10 => ?_) (fun c10 => ?_)
          · refine te_aload_n (p2 := 56) rfl rfl rfl ?_
            refine tg_r (p2 := 59) (i := 148) (r := 183) rfl rfl hI rfl rfl rfl ?_
            refine te_aload_n (p2 := 60) rfl rfl rfl ?_
            refine tg_e (p2 := 63) (i := 148) (v := .int y9) rfl rfl hI rfl rfl e9 ?_
            refine te_iload_n (p2 := 64) rfl rfl rfl ?_
            refine ts_i (p2 := 65) (i := 167) (n := 16) rfl rfl hI rfl rfl rfl rfl (by omega) (by omega) (by omega) (by omega) (by omega) rfl (fun h11 I11 u11 => ?_)
            have f11 := fr_st (F := F_X12_wall) 2 f0 u11 rfl (by omega) (by omega)
            refine te_aload_n (p2 := 66) rfl rfl rfl ?_
            refine tg_r (p2 := 69) (i := 148) (r := 184) rfl rfl I11 rfl rfl rfl ?_
            refine te_aload_n (p2 := 70) rfl rfl rfl ?_
            refine tg_e (p2 := 73) (i := 148) (v := .int y9) rfl rfl I11 rfl rfl ((u11.2 _ _ (Or.inl (by decide))).trans e9) ?_
            refine te_iload_n (p2 := 74) rfl rfl rfl ?_
            refine te_iload_n (p2 := 75) rfl rfl rfl ?_
            refine cS_pI (p2 := 78) rfl rfl rfl rfl (t_X12_nextTo (c := x1) (side := x2) I11 (by omega) (by omega)) (by decide) (fun y12 r12 => ?_)
            obtain ⟨a12, b12, e12⟩ := r12
            have w12 : y12 = y7 := e12.trans e7.symm
            subst w12
            refine ts_i (p2 := 79) (i := 168) (n := 16) rfl rfl I11 rfl rfl rfl rfl (by omega) (by omega) (by omega) (by omega) (by omega) rfl (fun h13 I13 u13 => ?_)
            have f13 := fr_st (F := F_X12_wall) 3 f11 u13 rfl (by omega) (by omega)
            refine te_aload_n (p2 := 80) rfl rfl rfl ?_
            refine tg_r (p2 := 83) (i := 148) (r := 165) rfl rfl I13 rfl rfl rfl ?_
            refine te_bipush (p2 := 85) (x := 108) rfl rfl (by decide) ?_
            refine te_aload_n (p2 := 86) rfl rfl rfl ?_
            refine tg_e (p2 := 89) (i := 148) (v := .int y9) rfl rfl I13 rfl rfl ((u13.2 _ _ (Or.inl (by decide))).trans ((u11.2 _ _ (Or.inl (by decide))).trans e9)) ?_
            refine ar_add (p2 := 90) rfl rfl (show Int32.toInt 108 = 108 from rfl) rfl (by omega) (by omega) (fun z14 e14 f14 => ?_)
            refine te_iconst (p2 := 91) (x := 1) rfl rfl (by decide) ?_
            refine ts_i (p2 := 92) (i := 149) (n := 283) rfl rfl I13 rfl rfl rfl rfl (by omega) (by omega) (i32_lo _) (i32_hi _) (i32_ho _) rfl (fun h15 I15 u15 => ?_)
            have f15 := fr_st (F := F_X12_wall) 1 f13 u15 rfl (by omega) (by omega)
            refine te_aload_n (p2 := 93) rfl rfl rfl ?_
            refine tg_r (p2 := 96) (i := 148) (r := 165) rfl rfl I15 rfl rfl rfl ?_
            refine te_bipush (p2 := 98) (x := 124) rfl rfl (by decide) ?_
            refine te_aload_n (p2 := 99) rfl rfl rfl ?_
            refine tg_e (p2 := 102) (i := 148) (v := .int y9) rfl rfl I15 rfl rfl ((u15.2 _ _ (Or.inl (by decide))).trans ((u13.2 _ _ (Or.inl (by decide))).trans ((u11.2 _ _ (Or.inl (by decide))).trans e9))) ?_
            refine ar_add (p2 := 103) rfl rfl (show Int32.toInt 124 = 124 from rfl) rfl (by omega) (by omega) (fun z16 e16 f16 => ?_)
            refine te_iload_n (p2 := 104) rfl rfl rfl ?_
            refine ts_i (p2 := 105) (i := 149) (n := 283) rfl rfl I15 rfl rfl rfl rfl (by omega) (by omega) (i32_lo _) (i32_hi _) (i32_ho _) rfl (fun h17 I17 u17 => ?_)
            have f17 := fr_st (F := F_X12_wall) 1 f15 u17 rfl (by omega) (by omega)
            refine te_aload_n (p2 := 106) rfl rfl rfl ?_
            refine te_dup (p2 := 107) rfl rfl rfl ?_
            refine tg_e (p2 := 110) (i := 148) (v := .int y9) rfl rfl I17 rfl rfl ((u17.2 _ _ (Or.inl (by decide))).trans ((u15.2 _ _ (Or.inl (by decide))).trans ((u13.2 _ _ (Or.inl (by decide))).trans ((u11.2 _ _ (Or.inl (by decide))).trans e9)))) ?_
            refine te_iconst (p2 := 111) (x := 1) rfl rfl (by decide) ?_
            refine ar_add (p2 := 112) rfl rfl rfl (show Int32.toInt 1 = 1 from rfl) (by omega) (by omega) (fun z18 e18 f18 => ?_)
            refine tp_i (p2 := 115) (i := 148) rfl rfl I17 rfl rfl (by decide) rfl rfl rfl (by omega) (by omega) (by omega) rfl (fun h19 I19 u19 => ?_)
            have f19 := fr_st (F := F_X12_wall) 0 f17 u19 rfl (by decide) (by decide)
            refine te_aload_n (p2 := 116) rfl rfl rfl ?_
            refine tg_e (p2 := 119) (i := 148) (v := .int z18) rfl rfl I19 rfl rfl u19.1 ?_
            refine te_iconst (p2 := 120) (x := 1) rfl rfl (by decide) ?_
            refine ar_sub (p2 := 121) rfl rfl rfl (show Int32.toInt 1 = 1 from rfl) (by omega) (by omega) (fun z20 e20 f20 => ?_)
            exact te_iret rfl rfl ⟨I19, f19, _, rfl, trivial⟩
          · refine te_bipush (p2 := 54) (x := (-4)) rfl rfl (by decide) ?_
            exact te_iret rfl rfl ⟨hI, f0, _, rfl, trivial⟩
        · refine te_bipush (p2 := 42) (x := (-3)) rfl rfl (by decide) ?_
          exact te_iret rfl rfl ⟨hI, f0, _, rfl, trivial⟩
      · subst w5
        have cc5_1 := (show Int32.toInt 1 = 1 from rfl)
        have cc5_2 := (show Int32.toInt 99 = 99 from rfl)
        refine tz_ne (p2 := 28) rfl rfl (show Int32.toInt 0 = 0 from rfl) (fun c21 => absurd c21 (by omega)) (fun c21 => ?_)
        refine te_bipush (p2 := 30) (x := (-2)) rfl rfl (by decide) ?_
        exact te_iret rfl rfl ⟨hI, f0, _, rfl, trivial⟩
    · subst w3
      have cc3_1 := (show Int32.toInt 0 = 0 from rfl)
      have cc3_2 := (show Int32.toInt 3 = 3 from rfl)
      refine tz_eq (p2 := 18) rfl rfl (show Int32.toInt 0 = 0 from rfl) (fun c22 => ?_) (fun c22 => absurd c22 (by omega))
      refine te_bipush (p2 := 30) (x := (-2)) rfl rfl (by decide) ?_
      exact te_iret rfl rfl ⟨hI, f0, _, rfl, trivial⟩
  · subst w1
    refine tz_ne (p2 := 7) rfl rfl (show Int32.toInt 0 = 0 from rfl) (fun c23 => absurd c23 (by omega)) (fun c23 => ?_)
    refine te_iconst (p2 := 8) (x := (-1)) rfl rfl (by decide) ?_
    exact te_iret rfl rfl ⟨hI, f0, _, rfl, trivial⟩
abbrev F_X11_weather : List (Nat × Nat × Nat) := [(23, 1, 2)]
set_option maxRecDepth 20000 in
set_option maxHeartbeats 4000000 in
theorem t_X11_weather {x1 : Int32} {x2 : Int32} {h : im_H} (hI : tI h)  : CaP 8 65 [.ref 16, .int x1, .int x2] h (mI h F_X11_weather (fun _ => True)) := by
  refine cap_of (d := 7) (M := mX11_weather) rfl (Nat.le_of_ble_eq_true rfl) ?_
  show EvP im_K0 7 mX11_weather (0, [(0, .ref 16), (1, .int x1), (2, .int x2)], [], h) _
  have f0 : fr F_X11_weather h h := fr_rf
  refine te_iload_n (p2 := 1) rfl rfl rfl ?_
  refine te_bipush (p2 := 3) (x := 10) rfl rfl (by decide) ?_
  refine cS_pI (p2 := 6) rfl rfl rfl rfl (t_X11_within (n := x1) (b := 10) hI ) (by decide) (fun y1 r1 => ?_)
  rcases r1 with ⟨w1, c1⟩ | ⟨w1, c1⟩
  · subst w1
    have cc1_1 := (show Int32.toInt 10 = 10 from rfl)
    refine tz_eq (p2 := 9) rfl rfl (show Int32.toInt 1 = 1 from rfl) (fun c2 => absurd c2 (by omega)) (fun c2 => ?_)
    refine te_iload_n (p2 := 10) rfl rfl rfl ?_
    refine te_bipush (p2 := 12) (x := 10) rfl rfl (by decide) ?_
    refine cS_pI (p2 := 15) rfl rfl rfl rfl (t_X11_within (n := x2) (b := 10) hI ) (by decide) (fun y3 r3 => ?_)
    rcases r3 with ⟨w3, c3⟩ | ⟨w3, c3⟩
    · subst w3
      have cc3_1 := (show Int32.toInt 10 = 10 from rfl)
      refine tz_ne (p2 := 18) rfl rfl (show Int32.toInt 1 = 1 from rfl) (fun c4 => ?_) (fun c4 => absurd c4 (by omega))
      refine te_bipush (p2 := 23) (x := 10) rfl rfl (by decide) ?_
      refine te_aload_n (p2 := 24) rfl rfl rfl ?_
      refine tg_r (p2 := 27) (i := 0) (r := 39) rfl rfl hI rfl rfl rfl ?_
      refine tg_i (p2 := 30) (i := 23) rfl rfl hI rfl rfl rfl (fun y5 a5 b5 e5 => ?_)
      refine au_mul (p2 := 31) rfl rfl (fun z6 e6 => ?_)
      refine te_aload_n (p2 := 32) rfl rfl rfl ?_
      refine tg_r (p2 := 35) (i := 0) (r := 39) rfl rfl hI rfl rfl rfl ?_
      refine tg_i (p2 := 38) (i := 23) rfl rfl hI rfl rfl rfl (fun y7 a7 b7 e7 => ?_)
      refine au_add (p2 := 39) rfl rfl (fun z8 e8 => ?_)
      refine te_istore_n (p2 := 40) (lv2 := [(3, .int z8), (0, .ref 16), (1, .int x1), (2, .int x2)]) rfl rfl (by decide) rfl ?_
      refine te_aload_n (p2 := 41) rfl rfl rfl ?_
      refine tg_r (p2 := 44) (i := 0) (r := 39) rfl rfl hI rfl rfl rfl ?_
      refine te_iload_n (p2 := 45) rfl rfl rfl ?_
      refine tp_i (p2 := 48) (i := 23) rfl rfl hI rfl rfl (by decide) rfl rfl rfl (i32_lo _) (i32_hi _) (i32_ho _) rfl (fun h9 I9 u9 => ?_)
      have f9 := fr_st (F := F_X11_weather) 0 f0 u9 rfl (by decide) (by decide)
      refine te_aload_n (p2 := 49) rfl rfl rfl ?_
      refine tg_r (p2 := 52) (i := 0) (r := 39) rfl rfl I9 rfl rfl rfl ?_
      refine te_iload_n (p2 := 53) rfl rfl rfl ?_
      refine tp_i (p2 := 56) (i := 23) rfl rfl I9 rfl rfl (by decide) rfl rfl rfl (i32_lo _) (i32_hi _) (i32_ho _) rfl (fun h10 I10 u10 => ?_)
      have f10 := fr_st (F := F_X11_weather) 0 f9 u10 rfl (by decide) (by decide)
      refine te_iload_n (p2 := 57) rfl rfl rfl ?_
      exact te_iret rfl rfl ⟨I10, f10, _, rfl, trivial⟩
    · subst w3
      have cc3_1 := (show Int32.toInt 10 = 10 from rfl)
      refine tz_ne (p2 := 18) rfl rfl (show Int32.toInt 0 = 0 from rfl) (fun c11 => absurd c11 (by omega)) (fun c11 => ?_)
      refine te_bipush (p2 := 20) (x := (-2)) rfl rfl (by decide) ?_
      exact te_iret rfl rfl ⟨hI, f0, _, rfl, trivial⟩
  · subst w1
    have cc1_1 := (show Int32.toInt 10 = 10 from rfl)
    refine tz_eq (p2 := 9) rfl rfl (show Int32.toInt 0 = 0 from rfl) (fun c12 => ?_) (fun c12 => absurd c12 (by omega))
    refine te_bipush (p2 := 20) (x := (-2)) rfl rfl (by decide) ?_
    exact te_iret rfl rfl ⟨hI, f0, _, rfl, trivial⟩
abbrev F_X12_weather : List (Nat × Nat × Nat) := [(149, 106, 107)]
set_option maxRecDepth 20000 in
set_option maxHeartbeats 4000000 in
theorem t_X12_weather {x1 : Int32} {x2 : Int32} {h : im_H} (hI : tI h)  : CaP 8 127 [.ref 164, .int x1, .int x2] h (mI h F_X12_weather (fun _ => True)) := by
  refine cap_of (d := 7) (M := mX12_weather) rfl (Nat.le_of_ble_eq_true rfl) ?_
  show EvP im_K0 7 mX12_weather (0, [(0, .ref 164), (1, .int x1), (2, .int x2)], [], h) _
  have f0 : fr F_X12_weather h h := fr_rf
  refine te_iload_n (p2 := 1) rfl rfl rfl ?_
  refine te_iconst (p2 := 2) (x := 0) rfl rfl (by decide) ?_
  refine te_bipush (p2 := 4) (x := 9) rfl rfl (by decide) ?_
  refine cS_pI (p2 := 7) rfl rfl rfl rfl (t_X12_in (n := x1) (a := 0) (b := 9) hI ) (by decide) (fun y1 r1 => ?_)
  rcases r1 with ⟨w1, c1⟩ | ⟨w1, c1⟩
  · subst w1
    have cc1_1 := (show Int32.toInt 0 = 0 from rfl)
    have cc1_2 := (show Int32.toInt 9 = 9 from rfl)
    refine tz_eq (p2 := 10) rfl rfl (show Int32.toInt 1 = 1 from rfl) (fun c2 => absurd c2 (by omega)) (fun c2 => ?_)
    refine te_iload_n (p2 := 11) rfl rfl rfl ?_
    refine te_iconst (p2 := 12) (x := 0) rfl rfl (by decide) ?_
    refine te_bipush (p2 := 14) (x := 9) rfl rfl (by decide) ?_
    refine cS_pI (p2 := 17) rfl rfl rfl rfl (t_X12_in (n := x2) (a := 0) (b := 9) hI ) (by decide) (fun y3 r3 => ?_)
    rcases r3 with ⟨w3, c3⟩ | ⟨w3, c3⟩
    · subst w3
      have cc3_1 := (show Int32.toInt 0 = 0 from rfl)
      have cc3_2 := (show Int32.toInt 9 = 9 from rfl)
      refine tz_ne (p2 := 20) rfl rfl (show Int32.toInt 1 = 1 from rfl) (fun c4 => ?_) (fun c4 => absurd c4 (by omega))
      refine te_bipush (p2 := 25) (x := 10) rfl rfl (by decide) ?_
      refine te_aload_n (p2 := 26) rfl rfl rfl ?_
      refine tg_r (p2 := 29) (i := 148) (r := 165) rfl rfl hI rfl rfl rfl ?_
      refine te_bipush (p2 := 31) (x := 106) rfl rfl (by decide) ?_
      refine tl_i (p2 := 32) (i := 149) (n := 283) rfl rfl hI rfl rfl rfl rfl (by decide) (by decide) (fun y5 a5 b5 g5 e5 => ?_)
      refine au_mul (p2 := 33) rfl rfl (fun z6 e6 => ?_)
      refine te_aload_n (p2 := 34) rfl rfl rfl ?_
      refine tg_r (p2 := 37) (i := 148) (r := 165) rfl rfl hI rfl rfl rfl ?_
      refine te_bipush (p2 := 39) (x := 107) rfl rfl (by decide) ?_
      refine tl_i (p2 := 40) (i := 149) (n := 283) rfl rfl hI rfl rfl rfl rfl (by decide) (by decide) (fun y7 a7 b7 g7 e7 => ?_)
      refine au_add (p2 := 41) rfl rfl (fun z8 e8 => ?_)
      refine te_istore_n (p2 := 42) (lv2 := [(3, .int z8), (0, .ref 164), (1, .int x1), (2, .int x2)]) rfl rfl (by decide) rfl ?_
      refine te_aload_n (p2 := 43) rfl rfl rfl ?_
      refine tg_r (p2 := 46) (i := 148) (r := 165) rfl rfl hI rfl rfl rfl ?_
      refine te_bipush (p2 := 48) (x := 106) rfl rfl (by decide) ?_
      refine te_iload_n (p2 := 49) rfl rfl rfl ?_
      refine ts_i (p2 := 50) (i := 149) (n := 283) rfl rfl hI rfl rfl rfl rfl (by decide) (by decide) (i32_lo _) (i32_hi _) (i32_ho _) rfl (fun h9 I9 u9 => ?_)
      have f9 := fr_st (F := F_X12_weather) 0 f0 u9 rfl (by decide) (by decide)
      refine te_aload_n (p2 := 51) rfl rfl rfl ?_
      refine tg_r (p2 := 54) (i := 148) (r := 165) rfl rfl I9 rfl rfl rfl ?_
      refine te_bipush (p2 := 56) (x := 107) rfl rfl (by decide) ?_
      refine te_iload_n (p2 := 57) rfl rfl rfl ?_
      refine ts_i (p2 := 58) (i := 149) (n := 283) rfl rfl I9 rfl rfl rfl rfl (by decide) (by decide) (i32_lo _) (i32_hi _) (i32_ho _) rfl (fun h10 I10 u10 => ?_)
      have f10 := fr_st (F := F_X12_weather) 0 f9 u10 rfl (by decide) (by decide)
      refine te_iload_n (p2 := 59) rfl rfl rfl ?_
      exact te_iret rfl rfl ⟨I10, f10, _, rfl, trivial⟩
    · subst w3
      have cc3_1 := (show Int32.toInt 0 = 0 from rfl)
      have cc3_2 := (show Int32.toInt 9 = 9 from rfl)
      refine tz_ne (p2 := 20) rfl rfl (show Int32.toInt 0 = 0 from rfl) (fun c11 => absurd c11 (by omega)) (fun c11 => ?_)
      refine te_bipush (p2 := 22) (x := (-2)) rfl rfl (by decide) ?_
      exact te_iret rfl rfl ⟨hI, f0, _, rfl, trivial⟩
  · subst w1
    have cc1_1 := (show Int32.toInt 0 = 0 from rfl)
    have cc1_2 := (show Int32.toInt 9 = 9 from rfl)
    refine tz_eq (p2 := 10) rfl rfl (show Int32.toInt 0 = 0 from rfl) (fun c12 => ?_) (fun c12 => absurd c12 (by omega))
    refine te_bipush (p2 := 22) (x := (-2)) rfl rfl (by decide) ?_
    exact te_iret rfl rfl ⟨hI, f0, _, rfl, trivial⟩
abbrev F_X11_tip : List (Nat × Nat × Nat) := [(1, 1, 1)]
set_option maxRecDepth 20000 in
set_option maxHeartbeats 4000000 in
theorem t_X11_tip {x1 : Int32} {h : im_H} (hI : tI h)  : CaP 8 66 [.ref 16, .int x1] h (mI h F_X11_tip (fun _ => True)) := by
  refine cap_of (d := 7) (M := mX11_tip) rfl (Nat.le_of_ble_eq_true rfl) ?_
  show EvP im_K0 7 mX11_tip (0, [(0, .ref 16), (1, .int x1)], [], h) _
  have f0 : fr F_X11_tip h h := fr_rf
  refine te_iload_n (p2 := 1) rfl rfl rfl ?_
  refine te_iconst (p2 := 2) (x := (-1)) rfl rfl (by decide) ?_
  refine tb_eq (p2 := 5) rfl rfl rfl (show Int32.toInt (-1) = (-1) from rfl) (fun c1 => ?_) (fun c1 => ?_)
  · refine te_aload_n (p2 := 18) rfl rfl rfl ?_
    refine tg_r (p2 := 21) (i := 0) (r := 17) rfl rfl hI rfl rfl rfl ?_
    refine tg_i (p2 := 24) (i := 1) rfl rfl hI rfl rfl rfl (fun y2 a2 b2 e2 => ?_)
    refine te_istore_n (p2 := 25) (lv2 := [(2, .int y2), (0, .ref 16), (1, .int x1)]) rfl rfl (by decide) rfl ?_
    refine te_aload_n (p2 := 26) rfl rfl rfl ?_
    refine tg_r (p2 := 29) (i := 0) (r := 17) rfl rfl hI rfl rfl rfl ?_
    refine te_iload_n (p2 := 30) rfl rfl rfl ?_
    refine tp_i (p2 := 33) (i := 1) rfl rfl hI rfl rfl (by decide) rfl rfl rfl (by omega) (by omega) (by omega) rfl (fun h3 I3 u3 => ?_)
    have f3 := fr_st (F := F_X11_tip) 0 f0 u3 rfl (by decide) (by decide)
    refine te_iload_n (p2 := 34) rfl rfl rfl ?_
    exact te_iret rfl rfl ⟨I3, f3, _, rfl, trivial⟩
  · refine te_iload_n (p2 := 6) rfl rfl rfl ?_
    refine te_bipush (p2 := 8) (x := 100) rfl rfl (by decide) ?_
    refine cS_pI (p2 := 11) rfl rfl rfl rfl (t_X11_within (n := x1) (b := 100) hI ) (by decide) (fun y4 r4 => ?_)
    rcases r4 with ⟨w4, c4⟩ | ⟨w4, c4⟩
    · subst w4
      have cc4_1 := (show Int32.toInt 100 = 100 from rfl)
      refine tz_ne (p2 := 14) rfl rfl (show Int32.toInt 1 = 1 from rfl) (fun c5 => ?_) (fun c5 => absurd c5 (by omega))
      refine te_aload_n (p2 := 18) rfl rfl rfl ?_
      refine tg_r (p2 := 21) (i := 0) (r := 17) rfl rfl hI rfl rfl rfl ?_
      refine tg_i (p2 := 24) (i := 1) rfl rfl hI rfl rfl rfl (fun y6 a6 b6 e6 => ?_)
      refine te_istore_n (p2 := 25) (lv2 := [(2, .int y6), (0, .ref 16), (1, .int x1)]) rfl rfl (by decide) rfl ?_
      refine te_aload_n (p2 := 26) rfl rfl rfl ?_
      refine tg_r (p2 := 29) (i := 0) (r := 17) rfl rfl hI rfl rfl rfl ?_
      refine te_iload_n (p2 := 30) rfl rfl rfl ?_
      refine tp_i (p2 := 33) (i := 1) rfl rfl hI rfl rfl (by decide) rfl rfl rfl (by omega) (by omega) (by omega) rfl (fun h7 I7 u7 => ?_)
      have f7 := fr_st (F := F_X11_tip) 0 f0 u7 rfl (by decide) (by decide)
      refine te_iload_n (p2 := 34) rfl rfl rfl ?_
      exact te_iret rfl rfl ⟨I7, f7, _, rfl, trivial⟩
    · subst w4
      have cc4_1 := (show Int32.toInt 100 = 100 from rfl)
      refine tz_ne (p2 := 14) rfl rfl (show Int32.toInt 0 = 0 from rfl) (fun c8 => absurd c8 (by omega)) (fun c8 => ?_)
      refine te_bipush (p2 := 16) (x := (-5)) rfl rfl (by decide) ?_
      exact te_iret rfl rfl ⟨hI, f0, _, rfl, trivial⟩
abbrev F_X12_tip : List (Nat × Nat × Nat) := [(148, 9, 9)]
set_option maxRecDepth 20000 in
set_option maxHeartbeats 4000000 in
theorem t_X12_tip {x1 : Int32} {h : im_H} (hI : tI h)  : CaP 8 128 [.ref 164, .int x1] h (mI h F_X12_tip (fun _ => True)) := by
  refine cap_of (d := 7) (M := mX12_tip) rfl (Nat.le_of_ble_eq_true rfl) ?_
  show EvP im_K0 7 mX12_tip (0, [(0, .ref 164), (1, .int x1)], [], h) _
  have f0 : fr F_X12_tip h h := fr_rf
  refine te_iload_n (p2 := 1) rfl rfl rfl ?_
  refine te_iconst (p2 := 2) (x := (-1)) rfl rfl (by decide) ?_
  refine te_bipush (p2 := 4) (x := 99) rfl rfl (by decide) ?_
  refine cS_pI (p2 := 7) rfl rfl rfl rfl (t_X12_in (n := x1) (a := (-1)) (b := 99) hI ) (by decide) (fun y1 r1 => ?_)
  rcases r1 with ⟨w1, c1⟩ | ⟨w1, c1⟩
  · subst w1
    have cc1_1 := (show Int32.toInt (-1) = (-1) from rfl)
    have cc1_2 := (show Int32.toInt 99 = 99 from rfl)
    refine tz_ne (p2 := 10) rfl rfl (show Int32.toInt 1 = 1 from rfl) (fun c2 => ?_) (fun c2 => absurd c2 (by omega))
    refine te_aload_n (p2 := 14) rfl rfl rfl ?_
    refine tg_i (p2 := 17) (i := 148) rfl rfl hI rfl rfl rfl (fun y3 a3 b3 e3 => ?_)
    refine te_istore_n (p2 := 18) (lv2 := [(2, .int y3), (0, .ref 164), (1, .int x1)]) rfl rfl (by decide) rfl ?_
    refine te_aload_n (p2 := 19) rfl rfl rfl ?_
    refine te_iload_n (p2 := 20) rfl rfl rfl ?_
    refine tp_i (p2 := 23) (i := 148) rfl rfl hI rfl rfl (by decide) rfl rfl rfl (by omega) (by omega) (by omega) rfl (fun h4 I4 u4 => ?_)
    have f4 := fr_st (F := F_X12_tip) 0 f0 u4 rfl (by decide) (by decide)
    refine te_iload_n (p2 := 24) rfl rfl rfl ?_
    exact te_iret rfl rfl ⟨I4, f4, _, rfl, trivial⟩
  · subst w1
    have cc1_1 := (show Int32.toInt (-1) = (-1) from rfl)
    have cc1_2 := (show Int32.toInt 99 = 99 from rfl)
    refine tz_ne (p2 := 10) rfl rfl (show Int32.toInt 0 = 0 from rfl) (fun c5 => absurd c5 (by omega)) (fun c5 => ?_)
    refine te_bipush (p2 := 12) (x := (-5)) rfl rfl (by decide) ?_
    exact te_iret rfl rfl ⟨hI, f0, _, rfl, trivial⟩
abbrev F_X11_room : List (Nat × Nat × Nat) := [(72, 0, 0), (73, 0, 11), (74, 0, 11), (75, 0, 11), (76, 0, 11)]
set_option maxRecDepth 20000 in
set_option maxHeartbeats 4000000 in
theorem t_X11_room {x1 : Int32} {x2 : Int32} {x3 : Int32} {x4 : Int32} {h : im_H} (hI : tI h)  : CaP 8 71 [.ref 16, .int x1, .int x2, .int x3, .int x4] h (mI h F_X11_room (fun _ => True)) := by
  refine cap_of (d := 7) (M := mX11_room) rfl (Nat.le_of_ble_eq_true rfl) ?_
  show EvP im_K0 7 mX11_room (0, [(0, .ref 16), (1, .int x1), (2, .int x2), (3, .int x3), (4, .int x4)], [], h) _
  have f0 : fr F_X11_room h h := fr_rf
  refine te_iload_n (p2 := 1) rfl rfl rfl ?_
  refine te_bipush (p2 := 3) (x := 100) rfl rfl (by decide) ?_
  refine cS_pI (p2 := 6) rfl rfl rfl rfl (t_X11_within (n := x1) (b := 100) hI ) (by decide) (fun y1 r1 => ?_)
  rcases r1 with ⟨w1, c1⟩ | ⟨w1, c1⟩
  · subst w1
    have cc1_1 := (show Int32.toInt 100 = 100 from rfl)
    refine tz_ne (p2 := 9) rfl rfl (show Int32.toInt 1 = 1 from rfl) (fun c2 => ?_) (fun c2 => absurd c2 (by omega))
    refine te_iload_n (p2 := 12) rfl rfl rfl ?_
    refine te_iconst (p2 := 13) (x := 0) rfl rfl (by decide) ?_
    refine te_sipush (p2 := 16) (x := 9999) rfl rfl (by decide) ?_
    refine cS_pI (p2 := 19) rfl rfl rfl rfl (t_X11_between (n := x2) (a := 0) (b := 9999) hI ) (by decide) (fun y3 r3 => ?_)
    rcases r3 with ⟨w3, c3⟩ | ⟨w3, c3⟩
    · subst w3
      have cc3_1 := (show Int32.toInt 0 = 0 from rfl)
      have cc3_2 := (show Int32.toInt 9999 = 9999 from rfl)
      refine tz_eq (p2 := 22) rfl rfl (show Int32.toInt 1 = 1 from rfl) (fun c4 => absurd c4 (by omega)) (fun c4 => ?_)
      refine te_iload_n (p2 := 23) rfl rfl rfl ?_
      refine te_iconst (p2 := 24) (x := 0) rfl rfl (by decide) ?_
      refine te_sipush (p2 := 27) (x := 999) rfl rfl (by decide) ?_
      refine cS_pI (p2 := 30) rfl rfl rfl rfl (t_X11_between (n := x3) (a := 0) (b := 999) hI ) (by decide) (fun y5 r5 => ?_)
      rcases r5 with ⟨w5, c5⟩ | ⟨w5, c5⟩
      · subst w5
        have cc5_1 := (show Int32.toInt 0 = 0 from rfl)
        have cc5_2 := (show Int32.toInt 999 = 999 from rfl)
        refine tz_eq (p2 := 33) rfl rfl (show Int32.toInt 1 = 1 from rfl) (fun c6 => absurd c6 (by omega)) (fun c6 => ?_)
        refine te_iload (p2 := 35) rfl rfl rfl ?_
        refine te_iconst (p2 := 36) (x := 1) rfl rfl (by decide) ?_
        refine te_bipush (p2 := 38) (x := 99) rfl rfl (by decide) ?_
        refine cS_pI (p2 := 41) rfl rfl rfl rfl (t_X11_between (n := x4) (a := 1) (b := 99) hI ) (by decide) (fun y7 r7 => ?_)
        rcases r7 with ⟨w7, c7⟩ | ⟨w7, c7⟩
        · subst w7
          have cc7_1 := (show Int32.toInt 1 = 1 from rfl)
          have cc7_2 := (show Int32.toInt 99 = 99 from rfl)
          refine tz_ne (p2 := 44) rfl rfl (show Int32.toInt 1 = 1 from rfl) (fun c8 => ?_) (fun c8 => absurd c8 (by omega))
          refine te_aload_n (p2 := 48) rfl rfl rfl ?_
          refine tg_r (p2 := 51) (i := 0) (r := 88) rfl rfl hI rfl rfl rfl ?_
          refine tg_i (p2 := 54) (i := 72) rfl rfl hI rfl rfl rfl (fun y9 a9 b9 e9 => ?_)
          refine te_bipush (p2 := 56) (x := 12) rfl rfl (by decide) ?_
          refine tb_lt (p2 := 59) rfl rfl rfl (show Int32.toInt 12 = 12 from rfl) (fun c10 => ?_) (fun c10 => ?_)
          · refine te_aload_n (p2 := 63) rfl rfl rfl ?_
            refine tg_r (p2 := 66) (i := 0) (r := 88) rfl rfl hI rfl rfl rfl ?_
            refine tg_e (p2 := 69) (i := 72) (v := .int y9) rfl rfl hI rfl rfl e9 ?_
            refine te_istore (p2 := 71) (lv2 := [(5, .int y9), (0, .ref 16), (1, .int x1), (2, .int x2), (3, .int x3), (4, .int x4)]) rfl rfl (by decide) rfl ?_
            refine te_aload_n (p2 := 72) rfl rfl rfl ?_
            refine tg_r (p2 := 75) (i := 0) (r := 88) rfl rfl hI rfl rfl rfl ?_
            refine tg_r (p2 := 78) (i := 72) (r := 89) rfl rfl hI rfl rfl rfl ?_
            refine te_iload (p2 := 80) rfl rfl rfl ?_
            refine te_iload_n (p2 := 81) rfl rfl rfl ?_
            refine ts_i (p2 := 82) (i := 73) (n := 12) rfl rfl hI rfl rfl rfl rfl (by omega) (by omega) (i32_lo _) (i32_hi _) (i32_ho _) rfl (fun h11 I11 u11 => ?_)
            have f11 := fr_st (F := F_X11_room) 1 f0 u11 rfl (by omega) (by omega)
            refine te_aload_n (p2 := 83) rfl rfl rfl ?_
            refine tg_r (p2 := 86) (i := 0) (r := 88) rfl rfl I11 rfl rfl rfl ?_
            refine tg_r (p2 := 89) (i := 72) (r := 90) rfl rfl I11 rfl rfl rfl ?_
            refine te_iload (p2 := 91) rfl rfl rfl ?_
            refine te_iload_n (p2 := 92) rfl rfl rfl ?_
            refine ts_i (p2 := 93) (i := 74) (n := 12) rfl rfl I11 rfl rfl rfl rfl (by omega) (by omega) (i32_lo _) (i32_hi _) (i32_ho _) rfl (fun h12 I12 u12 => ?_)
            have f12 := fr_st (F := F_X11_room) 2 f11 u12 rfl (by omega) (by omega)
            refine te_aload_n (p2 := 94) rfl rfl rfl ?_
            refine tg_r (p2 := 97) (i := 0) (r := 88) rfl rfl I12 rfl rfl rfl ?_
            refine tg_r (p2 := 100) (i := 72) (r := 91) rfl rfl I12 rfl rfl rfl ?_
            refine te_iload (p2 := 102) rfl rfl rfl ?_
            refine te_iload_n (p2 := 103) rfl rfl rfl ?_
            refine ts_i (p2 := 104) (i := 75) (n := 12) rfl rfl I12 rfl rfl rfl rfl (by omega) (by omega) (i32_lo _) (i32_hi _) (i32_ho _) rfl (fun h13 I13 u13 => ?_)
            have f13 := fr_st (F := F_X11_room) 3 f12 u13 rfl (by omega) (by omega)
            refine te_aload_n (p2 := 105) rfl rfl rfl ?_
            refine tg_r (p2 := 108) (i := 0) (r := 88) rfl rfl I13 rfl rfl rfl ?_
            refine tg_r (p2 := 111) (i := 72) (r := 92) rfl rfl I13 rfl rfl rfl ?_
            refine te_iload (p2 := 113) rfl rfl rfl ?_
            refine te_iload (p2 := 115) rfl rfl rfl ?_
            refine ts_i (p2 := 116) (i := 76) (n := 12) rfl rfl I13 rfl rfl rfl rfl (by omega) (by omega) (i32_lo _) (i32_hi _) (i32_ho _) rfl (fun h14 I14 u14 => ?_)
            have f14 := fr_st (F := F_X11_room) 4 f13 u14 rfl (by omega) (by omega)
            refine te_aload_n (p2 := 117) rfl rfl rfl ?_
            refine tg_r (p2 := 120) (i := 0) (r := 88) rfl rfl I14 rfl rfl rfl ?_
            refine te_dup (p2 := 121) rfl rfl rfl ?_
            refine tg_e (p2 := 124) (i := 72) (v := .int y9) rfl rfl I14 rfl rfl ((u14.2 _ _ (Or.inl (by decide))).trans ((u13.2 _ _ (Or.inl (by decide))).trans ((u12.2 _ _ (Or.inl (by decide))).trans ((u11.2 _ _ (Or.inl (by decide))).trans e9)))) ?_
            refine te_iconst (p2 := 125) (x := 1) rfl rfl (by decide) ?_
            refine ar_add (p2 := 126) rfl rfl rfl (show Int32.toInt 1 = 1 from rfl) (by omega) (by omega) (fun z15 e15 f15 => ?_)
            refine tp_i (p2 := 129) (i := 72) rfl rfl I14 rfl rfl (by decide) rfl rfl rfl (by omega) (by omega) (by omega) rfl (fun h16 I16 u16 => ?_)
            have f16 := fr_st (F := F_X11_room) 0 f14 u16 rfl (by decide) (by decide)
            refine te_iload (p2 := 131) rfl rfl rfl ?_
            exact te_iret rfl rfl ⟨I16, f16, _, rfl, trivial⟩
          · refine te_bipush (p2 := 61) (x := (-4)) rfl rfl (by decide) ?_
            exact te_iret rfl rfl ⟨hI, f0, _, rfl, trivial⟩
        · subst w7
          have cc7_1 := (show Int32.toInt 1 = 1 from rfl)
          have cc7_2 := (show Int32.toInt 99 = 99 from rfl)
          refine tz_ne (p2 := 44) rfl rfl (show Int32.toInt 0 = 0 from rfl) (fun c17 => absurd c17 (by omega)) (fun c17 => ?_)
          refine te_bipush (p2 := 46) (x := (-2)) rfl rfl (by decide) ?_
          exact te_iret rfl rfl ⟨hI, f0, _, rfl, trivial⟩
      · subst w5
        have cc5_1 := (show Int32.toInt 0 = 0 from rfl)
        have cc5_2 := (show Int32.toInt 999 = 999 from rfl)
        refine tz_eq (p2 := 33) rfl rfl (show Int32.toInt 0 = 0 from rfl) (fun c18 => ?_) (fun c18 => absurd c18 (by omega))
        refine te_bipush (p2 := 46) (x := (-2)) rfl rfl (by decide) ?_
        exact te_iret rfl rfl ⟨hI, f0, _, rfl, trivial⟩
    · subst w3
      have cc3_1 := (show Int32.toInt 0 = 0 from rfl)
      have cc3_2 := (show Int32.toInt 9999 = 9999 from rfl)
      refine tz_eq (p2 := 22) rfl rfl (show Int32.toInt 0 = 0 from rfl) (fun c19 => ?_) (fun c19 => absurd c19 (by omega))
      refine te_bipush (p2 := 46) (x := (-2)) rfl rfl (by decide) ?_
      exact te_iret rfl rfl ⟨hI, f0, _, rfl, trivial⟩
  · subst w1
    have cc1_1 := (show Int32.toInt 100 = 100 from rfl)
    refine tz_ne (p2 := 9) rfl rfl (show Int32.toInt 0 = 0 from rfl) (fun c20 => absurd c20 (by omega)) (fun c20 => ?_)
    refine te_iconst (p2 := 10) (x := (-1)) rfl rfl (by decide) ?_
    exact te_iret rfl rfl ⟨hI, f0, _, rfl, trivial⟩
abbrev F_X12_room : List (Nat × Nat × Nat) := [(148, 24, 24), (169, 0, 11), (170, 0, 11), (171, 0, 11), (172, 0, 11)]
set_option maxRecDepth 20000 in
set_option maxHeartbeats 4000000 in
theorem t_X12_room {x1 : Int32} {x2 : Int32} {x3 : Int32} {x4 : Int32} {h : im_H} (hI : tI h)  : CaP 8 133 [.ref 164, .int x1, .int x2, .int x3, .int x4] h (mI h F_X12_room (fun _ => True)) := by
  refine cap_of (d := 7) (M := mX12_room) rfl (Nat.le_of_ble_eq_true rfl) ?_
  show EvP im_K0 7 mX12_room (0, [(0, .ref 164), (1, .int x1), (2, .int x2), (3, .int x3), (4, .int x4)], [], h) _
  have f0 : fr F_X12_room h h := fr_rf
  refine te_iload_n (p2 := 1) rfl rfl rfl ?_
  refine cS_pI (p2 := 4) rfl rfl rfl rfl (t_X12_isCell (n := x1) hI ) (by decide) (fun y1 r1 => ?_)
  rcases r1 with ⟨w1, c1⟩ | ⟨w1, c1⟩
  · subst w1
    refine tz_ne (p2 := 7) rfl rfl (show Int32.toInt 1 = 1 from rfl) (fun c2 => ?_) (fun c2 => absurd c2 (by omega))
    refine te_iload_n (p2 := 10) rfl rfl rfl ?_
    refine te_iconst (p2 := 11) (x := 0) rfl rfl (by decide) ?_
    refine te_sipush (p2 := 14) (x := 9999) rfl rfl (by decide) ?_
    refine cS_pI (p2 := 17) rfl rfl rfl rfl (t_X12_in (n := x2) (a := 0) (b := 9999) hI ) (by decide) (fun y3 r3 => ?_)
    rcases r3 with ⟨w3, c3⟩ | ⟨w3, c3⟩
    · subst w3
      have cc3_1 := (show Int32.toInt 0 = 0 from rfl)
      have cc3_2 := (show Int32.toInt 9999 = 9999 from rfl)
      refine tz_eq (p2 := 20) rfl rfl (show Int32.toInt 1 = 1 from rfl) (fun c4 => absurd c4 (by omega)) (fun c4 => ?_)
      refine te_iload_n (p2 := 21) rfl rfl rfl ?_
      refine te_iconst (p2 := 22) (x := 0) rfl rfl (by decide) ?_
      refine te_sipush (p2 := 25) (x := 999) rfl rfl (by decide) ?_
      refine cS_pI (p2 := 28) rfl rfl rfl rfl (t_X12_in (n := x3) (a := 0) (b := 999) hI ) (by decide) (fun y5 r5 => ?_)
      rcases r5 with ⟨w5, c5⟩ | ⟨w5, c5⟩
      · subst w5
        have cc5_1 := (show Int32.toInt 0 = 0 from rfl)
        have cc5_2 := (show Int32.toInt 999 = 999 from rfl)
        refine tz_eq (p2 := 31) rfl rfl (show Int32.toInt 1 = 1 from rfl) (fun c6 => absurd c6 (by omega)) (fun c6 => ?_)
        refine te_iload (p2 := 33) rfl rfl rfl ?_
        refine te_iconst (p2 := 34) (x := 1) rfl rfl (by decide) ?_
        refine te_bipush (p2 := 36) (x := 99) rfl rfl (by decide) ?_
        refine cS_pI (p2 := 39) rfl rfl rfl rfl (t_X12_in (n := x4) (a := 1) (b := 99) hI ) (by decide) (fun y7 r7 => ?_)
        rcases r7 with ⟨w7, c7⟩ | ⟨w7, c7⟩
        · subst w7
          have cc7_1 := (show Int32.toInt 1 = 1 from rfl)
          have cc7_2 := (show Int32.toInt 99 = 99 from rfl)
          refine tz_ne (p2 := 42) rfl rfl (show Int32.toInt 1 = 1 from rfl) (fun c8 => ?_) (fun c8 => absurd c8 (by omega))
          refine te_aload_n (p2 := 46) rfl rfl rfl ?_
          refine tg_i (p2 := 49) (i := 148) rfl rfl hI rfl rfl rfl (fun y9 a9 b9 e9 => ?_)
          refine te_bipush (p2 := 51) (x := 12) rfl rfl (by decide) ?_
          refine tb_ne (p2 := 54) rfl rfl rfl (show Int32.toInt 12 = 12 from rfl) (fun c10 => ?_) (fun c10 => ?_)
          · refine te_aload_n (p2 := 58) rfl rfl rfl ?_
            refine tg_r (p2 := 61) (i := 148) (r := 185) rfl rfl hI rfl rfl rfl ?_
            refine te_aload_n (p2 := 62) rfl rfl rfl ?_
            refine tg_e (p2 := 65) (i := 148) (v := .int y9) rfl rfl hI rfl rfl e9 ?_
            refine te_iload_n (p2 := 66) rfl rfl rfl ?_
            refine ts_i (p2 := 67) (i := 169) (n := 12) rfl rfl hI rfl rfl rfl rfl (by omega) (by omega) (i32_lo _) (i32_hi _) (i32_ho _) rfl (fun h11 I11 u11 => ?_)
            have f11 := fr_st (F := F_X12_room) 1 f0 u11 rfl (by omega) (by omega)
            refine te_aload_n (p2 := 68) rfl rfl rfl ?_
            refine tg_r (p2 := 71) (i := 148) (r := 186) rfl rfl I11 rfl rfl rfl ?_
            refine te_aload_n (p2 := 72) rfl rfl rfl ?_
            refine tg_e (p2 := 75) (i := 148) (v := .int y9) rfl rfl I11 rfl rfl ((u11.2 _ _ (Or.inl (by decide))).trans e9) ?_
            refine te_iload_n (p2 := 76) rfl rfl rfl ?_
            refine ts_i (p2 := 77) (i := 170) (n := 12) rfl rfl I11 rfl rfl rfl rfl (by omega) (by omega) (i32_lo _) (i32_hi _) (i32_ho _) rfl (fun h12 I12 u12 => ?_)
            have f12 := fr_st (F := F_X12_room) 2 f11 u12 rfl (by omega) (by omega)
            refine te_aload_n (p2 := 78) rfl rfl rfl ?_
            refine tg_r (p2 := 81) (i := 148) (r := 187) rfl rfl I12 rfl rfl rfl ?_
            refine te_aload_n (p2 := 82) rfl rfl rfl ?_
            refine tg_e (p2 := 85) (i := 148) (v := .int y9) rfl rfl I12 rfl rfl ((u12.2 _ _ (Or.inl (by decide))).trans ((u11.2 _ _ (Or.inl (by decide))).trans e9)) ?_
            refine te_iload_n (p2 := 86) rfl rfl rfl ?_
            refine ts_i (p2 := 87) (i := 171) (n := 12) rfl rfl I12 rfl rfl rfl rfl (by omega) (by omega) (i32_lo _) (i32_hi _) (i32_ho _) rfl (fun h13 I13 u13 => ?_)
            have f13 := fr_st (F := F_X12_room) 3 f12 u13 rfl (by omega) (by omega)
            refine te_aload_n (p2 := 88) rfl rfl rfl ?_
            refine tg_r (p2 := 91) (i := 148) (r := 188) rfl rfl I13 rfl rfl rfl ?_
            refine te_aload_n (p2 := 92) rfl rfl rfl ?_
            refine tg_e (p2 := 95) (i := 148) (v := .int y9) rfl rfl I13 rfl rfl ((u13.2 _ _ (Or.inl (by decide))).trans ((u12.2 _ _ (Or.inl (by decide))).trans ((u11.2 _ _ (Or.inl (by decide))).trans e9))) ?_
            refine te_iload (p2 := 97) rfl rfl rfl ?_
            refine ts_i (p2 := 98) (i := 172) (n := 12) rfl rfl I13 rfl rfl rfl rfl (by omega) (by omega) (i32_lo _) (i32_hi _) (i32_ho _) rfl (fun h14 I14 u14 => ?_)
            have f14 := fr_st (F := F_X12_room) 4 f13 u14 rfl (by omega) (by omega)
            refine te_aload_n (p2 := 99) rfl rfl rfl ?_
            refine te_dup (p2 := 100) rfl rfl rfl ?_
            refine tg_e (p2 := 103) (i := 148) (v := .int y9) rfl rfl I14 rfl rfl ((u14.2 _ _ (Or.inl (by decide))).trans ((u13.2 _ _ (Or.inl (by decide))).trans ((u12.2 _ _ (Or.inl (by decide))).trans ((u11.2 _ _ (Or.inl (by decide))).trans e9)))) ?_
            refine te_iconst (p2 := 104) (x := 1) rfl rfl (by decide) ?_
            refine ar_add (p2 := 105) rfl rfl rfl (show Int32.toInt 1 = 1 from rfl) (by omega) (by omega) (fun z15 e15 f15 => ?_)
            refine tp_i (p2 := 108) (i := 148) rfl rfl I14 rfl rfl (by decide) rfl rfl rfl (by omega) (by omega) (by omega) rfl (fun h16 I16 u16 => ?_)
            have f16 := fr_st (F := F_X12_room) 0 f14 u16 rfl (by decide) (by decide)
            refine te_aload_n (p2 := 109) rfl rfl rfl ?_
            refine tg_e (p2 := 112) (i := 148) (v := .int z15) rfl rfl I16 rfl rfl u16.1 ?_
            refine te_iconst (p2 := 113) (x := 1) rfl rfl (by decide) ?_
            refine ar_sub (p2 := 114) rfl rfl rfl (show Int32.toInt 1 = 1 from rfl) (by omega) (by omega) (fun z17 e17 f17 => ?_)
            exact te_iret rfl rfl ⟨I16, f16, _, rfl, trivial⟩
          · refine te_bipush (p2 := 56) (x := (-4)) rfl rfl (by decide) ?_
            exact te_iret rfl rfl ⟨hI, f0, _, rfl, trivial⟩
        · subst w7
          have cc7_1 := (show Int32.toInt 1 = 1 from rfl)
          have cc7_2 := (show Int32.toInt 99 = 99 from rfl)
          refine tz_ne (p2 := 42) rfl rfl (show Int32.toInt 0 = 0 from rfl) (fun c18 => absurd c18 (by omega)) (fun c18 => ?_)
          refine te_bipush (p2 := 44) (x := (-2)) rfl rfl (by decide) ?_
          exact te_iret rfl rfl ⟨hI, f0, _, rfl, trivial⟩
      · subst w5
        have cc5_1 := (show Int32.toInt 0 = 0 from rfl)
        have cc5_2 := (show Int32.toInt 999 = 999 from rfl)
        refine tz_eq (p2 := 31) rfl rfl (show Int32.toInt 0 = 0 from rfl) (fun c19 => ?_) (fun c19 => absurd c19 (by omega))
        refine te_bipush (p2 := 44) (x := (-2)) rfl rfl (by decide) ?_
        exact te_iret rfl rfl ⟨hI, f0, _, rfl, trivial⟩
    · subst w3
      have cc3_1 := (show Int32.toInt 0 = 0 from rfl)
      have cc3_2 := (show Int32.toInt 9999 = 9999 from rfl)
      refine tz_eq (p2 := 20) rfl rfl (show Int32.toInt 0 = 0 from rfl) (fun c20 => ?_) (fun c20 => absurd c20 (by omega))
      refine te_bipush (p2 := 44) (x := (-2)) rfl rfl (by decide) ?_
      exact te_iret rfl rfl ⟨hI, f0, _, rfl, trivial⟩
  · subst w1
    refine tz_ne (p2 := 7) rfl rfl (show Int32.toInt 0 = 0 from rfl) (fun c21 => absurd c21 (by omega)) (fun c21 => ?_)
    refine te_iconst (p2 := 8) (x := (-1)) rfl rfl (by decide) ?_
    exact te_iret rfl rfl ⟨hI, f0, _, rfl, trivial⟩
abbrev F_X11_force : List (Nat × Nat × Nat) := [(0, 8, 8), (1, 12, 12)]
set_option maxRecDepth 20000 in
set_option maxHeartbeats 4000000 in
theorem t_X11_force {x1 : Int32} {h : im_H} (hI : tI h)  : CaP 8 74 [.ref 16, .int x1] h (mI h F_X11_force (fun _ => True)) := by
  refine cap_of (d := 7) (M := mX11_force) rfl (Nat.le_of_ble_eq_true rfl) ?_
  show EvP im_K0 7 mX11_force (0, [(0, .ref 16), (1, .int x1)], [], h) _
  have f0 : fr F_X11_force h h := fr_rf
  refine te_iload_n (p2 := 1) rfl rfl rfl ?_
  refine te_iconst (p2 := 2) (x := (-1)) rfl rfl (by decide) ?_
  refine tb_eq (p2 := 5) rfl rfl rfl (show Int32.toInt (-1) = (-1) from rfl) (fun c1 => ?_) (fun c1 => ?_)
  · refine te_aload_n (p2 := 20) rfl rfl rfl ?_
    refine tg_i (p2 := 23) (i := 0) rfl rfl hI rfl rfl rfl (fun y2 a2 b2 e2 => ?_)
    refine te_istore_n (p2 := 24) (lv2 := [(2, .int y2), (0, .ref 16), (1, .int x1)]) rfl rfl (by decide) rfl ?_
    refine te_aload_n (p2 := 25) rfl rfl rfl ?_
    refine te_iload_n (p2 := 26) rfl rfl rfl ?_
    refine tp_i (p2 := 29) (i := 0) rfl rfl hI rfl rfl (by decide) rfl rfl rfl (by omega) (by omega) (by omega) rfl (fun h3 I3 u3 => ?_)
    have f3 := fr_st (F := F_X11_force) 0 f0 u3 rfl (by decide) (by decide)
    refine te_aload_n (p2 := 30) rfl rfl rfl ?_
    refine tg_r (p2 := 33) (i := 0) (r := 17) rfl rfl I3 rfl rfl rfl ?_
    refine te_iload_n (p2 := 34) rfl rfl rfl ?_
    refine te_iconst (p2 := 35) (x := (-1)) rfl rfl (by decide) ?_
    refine tb_ne (p2 := 38) rfl rfl rfl (show Int32.toInt (-1) = (-1) from rfl) (fun c4 => absurd c4 (by omega)) (fun c4 => ?_)
    refine te_null (p2 := 39) rfl rfl ?_
    refine te_goto rfl ?_
    refine tp_0 (p2 := 51) (i := 1) rfl rfl I3 rfl rfl (by decide) rfl rfl rfl rfl (fun h5 I5 u5 => ?_)
    have f5 := fr_st (F := F_X11_force) 1 f3 u5 rfl (by decide) (by decide)
    refine te_iload_n (p2 := 52) rfl rfl rfl ?_
    exact te_iret rfl rfl ⟨I5, f5, _, rfl, trivial⟩
  · refine te_iload_n (p2 := 6) rfl rfl rfl ?_
    refine te_aload_n (p2 := 7) rfl rfl rfl ?_
    refine tg_i (p2 := 10) (i := 0) rfl rfl hI rfl rfl rfl (fun y6 a6 b6 e6 => ?_)
    refine cS_pI (p2 := 13) rfl rfl rfl rfl (t_X11_within (n := x1) (b := y6) hI ) (by decide) (fun y7 r7 => ?_)
    rcases r7 with ⟨w7, c7⟩ | ⟨w7, c7⟩
    · subst w7
      refine tz_ne (p2 := 16) rfl rfl (show Int32.toInt 1 = 1 from rfl) (fun c8 => ?_) (fun c8 => absurd c8 (by omega))
      refine te_aload_n (p2 := 20) rfl rfl rfl ?_
      refine tg_i (p2 := 23) (i := 0) rfl rfl hI rfl rfl rfl (fun y9 a9 b9 e9 => ?_)
      refine te_istore_n (p2 := 24) (lv2 := [(2, .int y9), (0, .ref 16), (1, .int x1)]) rfl rfl (by decide) rfl ?_
      refine te_aload_n (p2 := 25) rfl rfl rfl ?_
      refine te_iload_n (p2 := 26) rfl rfl rfl ?_
      refine tp_i (p2 := 29) (i := 0) rfl rfl hI rfl rfl (by decide) rfl rfl rfl (by omega) (by omega) (by omega) rfl (fun h10 I10 u10 => ?_)
      have f10 := fr_st (F := F_X11_force) 0 f0 u10 rfl (by decide) (by decide)
      refine te_aload_n (p2 := 30) rfl rfl rfl ?_
      refine tg_r (p2 := 33) (i := 0) (r := 17) rfl rfl I10 rfl rfl rfl ?_
      refine te_iload_n (p2 := 34) rfl rfl rfl ?_
      refine te_iconst (p2 := 35) (x := (-1)) rfl rfl (by decide) ?_
      refine tb_ne (p2 := 38) rfl rfl rfl (show Int32.toInt (-1) = (-1) from rfl) (fun c11 => ?_) (fun c11 => absurd c11 (by omega))
      refine te_aload_n (p2 := 43) rfl rfl rfl ?_
      refine tg_r (p2 := 46) (i := 0) (r := 83) rfl rfl I10 rfl rfl rfl ?_
      refine te_iload_n (p2 := 47) rfl rfl rfl ?_
      refine tl_f (p2 := 48) (i := 67) (n := 6) (c0 := 98) (sp := 7) rfl rfl I10 rfl rfl (by decide) rq_67 (by omega) (by omega) (fun o12 w12 => ?_)
      have q12 : o12 = 98 ∨ o12 = 105 ∨ o12 = 112 ∨ o12 = 119 ∨ o12 = 126 ∨ o12 = 133 := by omega
      refine tp_n (p2 := 51) (i := 1) rfl rfl I10 rfl rfl (by decide) rfl rfl rfl (by rcases q12 with rfl | rfl | rfl | rfl | rfl | rfl <;> decide) rfl (fun h13 I13 u13 => ?_)
      have f13 := fr_st (F := F_X11_force) 1 f10 u13 rfl (by decide) (by decide)
      refine te_iload_n (p2 := 52) rfl rfl rfl ?_
      exact te_iret rfl rfl ⟨I13, f13, _, rfl, trivial⟩
    · subst w7
      refine tz_ne (p2 := 16) rfl rfl (show Int32.toInt 0 = 0 from rfl) (fun c14 => absurd c14 (by omega)) (fun c14 => ?_)
      refine te_bipush (p2 := 18) (x := (-5)) rfl rfl (by decide) ?_
      exact te_iret rfl rfl ⟨hI, f0, _, rfl, trivial⟩
abbrev F_X12_force : List (Nat × Nat × Nat) := [(148, 47, 47)]
set_option maxRecDepth 20000 in
set_option maxHeartbeats 4000000 in
theorem t_X12_force {x1 : Int32} {h : im_H} (hI : tI h)  : CaP 8 141 [.ref 164, .int x1] h (mI h F_X12_force (fun _ => True)) := by
  refine cap_of (d := 7) (M := mX12_force) rfl (Nat.le_of_ble_eq_true rfl) ?_
  show EvP im_K0 7 mX12_force (0, [(0, .ref 164), (1, .int x1)], [], h) _
  have f0 : fr F_X12_force h h := fr_rf
  refine te_iload_n (p2 := 1) rfl rfl rfl ?_
  refine te_iconst (p2 := 2) (x := (-1)) rfl rfl (by decide) ?_
  refine te_aload_n (p2 := 3) rfl rfl rfl ?_
  refine tg_i (p2 := 6) (i := 148) rfl rfl hI rfl rfl rfl (fun y1 a1 b1 e1 => ?_)
  refine te_iconst (p2 := 7) (x := 1) rfl rfl (by decide) ?_
  refine ar_sub (p2 := 8) rfl rfl rfl (show Int32.toInt 1 = 1 from rfl) (by omega) (by omega) (fun z2 e2 f2 => ?_)
  refine cS_pI (p2 := 11) rfl rfl rfl rfl (t_X12_in (n := x1) (a := (-1)) (b := z2) hI ) (by decide) (fun y3 r3 => ?_)
  rcases r3 with ⟨w3, c3⟩ | ⟨w3, c3⟩
  · subst w3
    have cc3_1 := (show Int32.toInt (-1) = (-1) from rfl)
    refine tz_ne (p2 := 14) rfl rfl (show Int32.toInt 1 = 1 from rfl) (fun c4 => ?_) (fun c4 => absurd c4 (by omega))
    refine te_aload_n (p2 := 18) rfl rfl rfl ?_
    refine tg_i (p2 := 21) (i := 148) rfl rfl hI rfl rfl rfl (fun y5 a5 b5 e5 => ?_)
    refine te_istore_n (p2 := 22) (lv2 := [(2, .int y5), (0, .ref 164), (1, .int x1)]) rfl rfl (by decide) rfl ?_
    refine te_aload_n (p2 := 23) rfl rfl rfl ?_
    refine te_iload_n (p2 := 24) rfl rfl rfl ?_
    refine tp_i (p2 := 27) (i := 148) rfl rfl hI rfl rfl (by decide) rfl rfl rfl (by omega) (by omega) (by omega) rfl (fun h6 I6 u6 => ?_)
    have f6 := fr_st (F := F_X12_force) 0 f0 u6 rfl (by decide) (by decide)
    refine te_iload_n (p2 := 28) rfl rfl rfl ?_
    exact te_iret rfl rfl ⟨I6, f6, _, rfl, trivial⟩
  · subst w3
    have cc3_1 := (show Int32.toInt (-1) = (-1) from rfl)
    refine tz_ne (p2 := 14) rfl rfl (show Int32.toInt 0 = 0 from rfl) (fun c7 => absurd c7 (by omega)) (fun c7 => ?_)
    refine te_bipush (p2 := 16) (x := (-5)) rfl rfl (by decide) ?_
    exact te_iret rfl rfl ⟨hI, f0, _, rfl, trivial⟩
abbrev F_X11_cellTold : List (Nat × Nat × Nat) := []
set_option maxRecDepth 20000 in
set_option maxHeartbeats 4000000 in
theorem t_X11_cellTold {x1 : Int32} {x2 : Int32} {h : im_H} (hI : tI h)  : CaP 8 77 [.ref 16, .int x1, .int x2] h (mI h F_X11_cellTold (fun _ => True)) := by
  refine cap_of (d := 7) (M := mX11_cellTold) rfl (Nat.le_of_ble_eq_true rfl) ?_
  show EvP im_K0 7 mX11_cellTold (0, [(0, .ref 16), (1, .int x1), (2, .int x2)], [], h) _
  have f0 : fr F_X11_cellTold h h := fr_rf
  refine te_iload_n (p2 := 1) rfl rfl rfl ?_
  refine te_bipush (p2 := 3) (x := 100) rfl rfl (by decide) ?_
  refine cS_pI (p2 := 6) rfl rfl rfl rfl (t_X11_within (n := x1) (b := 100) hI ) (by decide) (fun y1 r1 => ?_)
  rcases r1 with ⟨w1, c1⟩ | ⟨w1, c1⟩
  · subst w1
    have cc1_1 := (show Int32.toInt 100 = 100 from rfl)
    refine tz_ne (p2 := 9) rfl rfl (show Int32.toInt 1 = 1 from rfl) (fun c2 => ?_) (fun c2 => absurd c2 (by omega))
    refine te_iload_n (p2 := 12) rfl rfl rfl ?_
    by_cases c3 : x2.toInt = 0
    · refine te_tsIn (k := 0) (p2 := 40) rfl c3 (by decide) (by decide) rfl (by decide) ?_
      refine te_aload_n (p2 := 41) rfl rfl rfl ?_
      refine tg_r (p2 := 44) (i := 0) (r := 39) rfl rfl hI rfl rfl rfl ?_
      refine tg_r (p2 := 47) (i := 23) (r := 41) rfl rfl hI rfl rfl rfl ?_
      refine te_iload_n (p2 := 48) rfl rfl rfl ?_
      refine tl_i (p2 := 49) (i := 25) (n := 100) rfl rfl hI rfl rfl rfl rfl (by omega) (by omega) (fun y4 a4 b4 g4 e4 => ?_)
      exact te_iret rfl rfl ⟨hI, f0, _, rfl, trivial⟩
    · by_cases c5 : x2.toInt = 1
      · refine te_tsIn (k := 1) (p2 := 50) rfl c5 (by decide) (by decide) rfl (by decide) ?_
        refine te_aload_n (p2 := 51) rfl rfl rfl ?_
        refine tg_r (p2 := 54) (i := 0) (r := 17) rfl rfl hI rfl rfl rfl ?_
        refine tg_r (p2 := 57) (i := 1) (r := 18) rfl rfl hI rfl rfl rfl ?_
        refine te_iload_n (p2 := 58) rfl rfl rfl ?_
        refine tl_i (p2 := 59) (i := 2) (n := 100) rfl rfl hI rfl rfl rfl rfl (by omega) (by omega) (fun y6 a6 b6 g6 e6 => ?_)
        refine te_iconst (p2 := 60) (x := (-1)) rfl rfl (by decide) ?_
        refine tb_ne (p2 := 63) rfl rfl rfl (show Int32.toInt (-1) = (-1) from rfl) (fun c7 => ?_) (fun c7 => ?_)
        · refine te_aload_n (p2 := 69) rfl rfl rfl ?_
          refine tg_r (p2 := 72) (i := 0) (r := 17) rfl rfl hI rfl rfl rfl ?_
          refine tg_r (p2 := 75) (i := 1) (r := 18) rfl rfl hI rfl rfl rfl ?_
          refine te_iload_n (p2 := 76) rfl rfl rfl ?_
          refine tl_e (p2 := 77) (i := 2) (n := 100) (t := 0) (Or.inl rfl) rfl rfl hI rfl rfl (by omega) (by omega) e6 ?_
          exact te_iret rfl rfl ⟨hI, f0, _, rfl, trivial⟩
        · refine te_bipush (p2 := 65) (x := (-5)) rfl rfl (by decide) ?_
          refine te_goto rfl ?_
          exact te_iret rfl rfl ⟨hI, f0, _, rfl, trivial⟩
      · by_cases c9 : x2.toInt = 2
        · refine te_tsIn (k := 2) (p2 := 78) rfl c9 (by decide) (by decide) rfl (by decide) ?_
          refine te_aload_n (p2 := 79) rfl rfl rfl ?_
          refine tg_r (p2 := 82) (i := 0) (r := 17) rfl rfl hI rfl rfl rfl ?_
          refine te_iload_n (p2 := 83) rfl rfl rfl ?_
          refine cV_pI (p2 := 86) (i := 1) rfl rfl rfl rfl hI rfl rfl rfl (t_X0_weakOf (c := x1) hI (by omega) (by omega)) (by decide) (fun y10 r10 => ?_)
          obtain ⟨a10, b10⟩ := r10
          exact te_iret rfl rfl ⟨hI, f0, _, rfl, trivial⟩
        · refine te_tsOut (p2 := 87) rfl (by omega) (by decide) ?_
          refine te_bipush (p2 := 89) (x := (-2)) rfl rfl (by decide) ?_
          exact te_iret rfl rfl ⟨hI, f0, _, rfl, trivial⟩
  · subst w1
    have cc1_1 := (show Int32.toInt 100 = 100 from rfl)
    refine tz_ne (p2 := 9) rfl rfl (show Int32.toInt 0 = 0 from rfl) (fun c11 => absurd c11 (by omega)) (fun c11 => ?_)
    refine te_iconst (p2 := 10) (x := (-1)) rfl rfl (by decide) ?_
    exact te_iret rfl rfl ⟨hI, f0, _, rfl, trivial⟩
abbrev F_X12_cellTold : List (Nat × Nat × Nat) := []
set_option maxRecDepth 20000 in
set_option maxHeartbeats 4000000 in
theorem t_X12_cellTold {x1 : Int32} {x2 : Int32} {h : im_H} (hI : tI h)  : CaP 8 156 [.ref 164, .int x1, .int x2] h (mI h F_X12_cellTold (fun _ => True)) := by
  refine cap_of (d := 7) (M := mX12_cellTold) rfl (Nat.le_of_ble_eq_true rfl) ?_
  show EvP im_K0 7 mX12_cellTold (0, [(0, .ref 164), (1, .int x1), (2, .int x2)], [], h) _
  have f0 : fr F_X12_cellTold h h := fr_rf
  refine te_iload_n (p2 := 1) rfl rfl rfl ?_
  refine cS_pI (p2 := 4) rfl rfl rfl rfl (t_X12_isCell (n := x1) hI ) (by decide) (fun y1 r1 => ?_)
  rcases r1 with ⟨w1, c1⟩ | ⟨w1, c1⟩
  · subst w1
    refine tz_ne (p2 := 7) rfl rfl (show Int32.toInt 1 = 1 from rfl) (fun c2 => ?_) (fun c2 => absurd c2 (by omega))
    refine te_iload_n (p2 := 10) rfl rfl rfl ?_
    refine tz_ne (p2 := 13) rfl rfl rfl (fun c3 => ?_) (fun c3 => ?_)
    · refine te_iload_n (p2 := 23) rfl rfl rfl ?_
      refine te_iconst (p2 := 24) (x := 1) rfl rfl (by decide) ?_
      refine tb_ne (p2 := 27) rfl rfl rfl (show Int32.toInt 1 = 1 from rfl) (fun c4 => ?_) (fun c4 => ?_)
      · refine te_iload_n (p2 := 52) rfl rfl rfl ?_
        refine te_iconst (p2 := 53) (x := 2) rfl rfl (by decide) ?_
        refine tb_ne (p2 := 56) rfl rfl rfl (show Int32.toInt 2 = 2 from rfl) (fun c5 => ?_) (fun c5 => ?_)
        · refine te_bipush (p2 := 66) (x := (-2)) rfl rfl (by decide) ?_
          exact te_iret rfl rfl ⟨hI, f0, _, rfl, trivial⟩
        · refine te_aload_n (p2 := 57) rfl rfl rfl ?_
          refine te_iload_n (p2 := 58) rfl rfl rfl ?_
          refine cV_pI (p2 := 61) (i := 148) rfl rfl rfl rfl hI rfl rfl rfl (t_X12_weakOf (c := x1) hI (by omega) (by omega)) (by decide) (fun y6 r6 => ?_)
          obtain ⟨a6, b6⟩ := r6
          refine te_goto rfl ?_
          exact te_iret rfl rfl ⟨hI, f0, _, rfl, trivial⟩
      · refine te_aload_n (p2 := 28) rfl rfl rfl ?_
        refine tg_r (p2 := 31) (i := 148) (r := 168) rfl rfl hI rfl rfl rfl ?_
        refine te_iload_n (p2 := 32) rfl rfl rfl ?_
        refine tl_i (p2 := 33) (i := 152) (n := 100) rfl rfl hI rfl rfl rfl rfl (by omega) (by omega) (fun y7 a7 b7 g7 e7 => ?_)
        refine te_iconst (p2 := 34) (x := (-1)) rfl rfl (by decide) ?_
        refine tb_ne (p2 := 37) rfl rfl rfl (show Int32.toInt (-1) = (-1) from rfl) (fun c8 => ?_) (fun c8 => ?_)
        · refine te_aload_n (p2 := 43) rfl rfl rfl ?_
          refine tg_r (p2 := 46) (i := 148) (r := 168) rfl rfl hI rfl rfl rfl ?_
          refine te_iload_n (p2 := 47) rfl rfl rfl ?_
          refine tl_e (p2 := 48) (i := 152) (n := 100) (t := 0) (Or.inl rfl) rfl rfl hI rfl rfl (by omega) (by omega) e7 ?_
          refine te_goto rfl ?_
          exact te_iret rfl rfl ⟨hI, f0, _, rfl, trivial⟩
        · refine te_bipush (p2 := 39) (x := (-5)) rfl rfl (by decide) ?_
          refine te_goto rfl ?_
          exact te_iret rfl rfl ⟨hI, f0, _, rfl, trivial⟩
    · refine te_aload_n (p2 := 14) rfl rfl rfl ?_
      refine tg_r (p2 := 17) (i := 148) (r := 165) rfl rfl hI rfl rfl rfl ?_
      refine te_iload_n (p2 := 18) rfl rfl rfl ?_
      refine tl_i (p2 := 19) (i := 149) (n := 283) rfl rfl hI rfl rfl rfl rfl (by omega) (by omega) (fun y10 a10 b10 g10 e10 => ?_)
      refine te_goto rfl ?_
      exact te_iret rfl rfl ⟨hI, f0, _, rfl, trivial⟩
  · subst w1
    refine tz_ne (p2 := 7) rfl rfl (show Int32.toInt 0 = 0 from rfl) (fun c11 => absurd c11 (by omega)) (fun c11 => ?_)
    refine te_iconst (p2 := 8) (x := (-1)) rfl rfl (by decide) ?_
    exact te_iret rfl rfl ⟨hI, f0, _, rfl, trivial⟩
abbrev F_X11_kindTold : List (Nat × Nat × Nat) := []
set_option maxRecDepth 20000 in
set_option maxHeartbeats 4000000 in
theorem t_X11_kindTold {x1 : Int32} {x2 : Int32} {h : im_H} (hI : tI h)  : CaP 8 78 [.ref 16, .int x1, .int x2] h (mI h F_X11_kindTold (fun _ => True)) := by
  refine cap_of (d := 7) (M := mX11_kindTold) rfl (Nat.le_of_ble_eq_true rfl) ?_
  show EvP im_K0 7 mX11_kindTold (0, [(0, .ref 16), (1, .int x1), (2, .int x2)], [], h) _
  have f0 : fr F_X11_kindTold h h := fr_rf
  refine te_iload_n (p2 := 1) rfl rfl rfl ?_
  refine te_bipush (p2 := 3) (x := 6) rfl rfl (by decide) ?_
  refine cS_pI (p2 := 6) rfl rfl rfl rfl (t_X11_within (n := x1) (b := 6) hI ) (by decide) (fun y1 r1 => ?_)
  rcases r1 with ⟨w1, c1⟩ | ⟨w1, c1⟩
  · subst w1
    have cc1_1 := (show Int32.toInt 6 = 6 from rfl)
    refine tz_ne (p2 := 9) rfl rfl (show Int32.toInt 1 = 1 from rfl) (fun c2 => ?_) (fun c2 => absurd c2 (by omega))
    refine te_iload_n (p2 := 13) rfl rfl rfl ?_
    by_cases c3 : x2.toInt = 0
    · refine te_tsIn (k := 0) (p2 := 44) rfl c3 (by decide) (by decide) rfl (by decide) ?_
      refine te_gst (p2 := 47) rfl rfl (by decide) ?_
      refine te_iload_n (p2 := 48) rfl rfl rfl ?_
      refine tl_s (p2 := 49) (R := 0) (l := [20, 35, 20, 70, 10, 5]) (n := 6) (lo := 5) (hi := 70) rfl rfl (by decide) rfl rfl (by decide) (by omega) (by omega) (fun y4 a4 b4 e4 => ?_)
      exact te_iret rfl rfl ⟨hI, f0, _, rfl, trivial⟩
    · by_cases c5 : x2.toInt = 1
      · refine te_tsIn (k := 1) (p2 := 50) rfl c5 (by decide) (by decide) rfl (by decide) ?_
        refine te_gst (p2 := 53) rfl rfl (by decide) ?_
        refine te_iload_n (p2 := 54) rfl rfl rfl ?_
        refine tl_s (p2 := 55) (R := 1) (l := [1, 4, 1, 4, 7, 4]) (n := 6) (lo := 1) (hi := 7) rfl rfl (by decide) rfl rfl (by decide) (by omega) (by omega) (fun y6 a6 b6 e6 => ?_)
        exact te_iret rfl rfl ⟨hI, f0, _, rfl, trivial⟩
      · by_cases c7 : x2.toInt = 2
        · refine te_tsIn (k := 2) (p2 := 56) rfl c7 (by decide) (by decide) rfl (by decide) ?_
          refine te_gst (p2 := 59) rfl rfl (by decide) ?_
          refine te_iload_n (p2 := 60) rfl rfl rfl ?_
          refine tl_s (p2 := 61) (R := 2) (l := [0, 0, 5, 0, 5, 0]) (n := 6) (lo := 0) (hi := 5) rfl rfl (by decide) rfl rfl (by decide) (by omega) (by omega) (fun y8 a8 b8 e8 => ?_)
          exact te_iret rfl rfl ⟨hI, f0, _, rfl, trivial⟩
        · by_cases c9 : x2.toInt = 3
          · refine te_tsIn (k := 3) (p2 := 62) rfl c9 (by decide) (by decide) rfl (by decide) ?_
            refine te_gst (p2 := 65) rfl rfl (by decide) ?_
            refine te_iload_n (p2 := 66) rfl rfl rfl ?_
            refine tl_s (p2 := 67) (R := 3) (l := [3, 3, 2, 7, 2, 6]) (n := 6) (lo := 2) (hi := 7) rfl rfl (by decide) rfl rfl (by decide) (by omega) (by omega) (fun y10 a10 b10 e10 => ?_)
            exact te_iret rfl rfl ⟨hI, f0, _, rfl, trivial⟩
          · refine te_tsOut (p2 := 68) rfl (by omega) (by decide) ?_
            refine te_bipush (p2 := 70) (x := (-2)) rfl rfl (by decide) ?_
            exact te_iret rfl rfl ⟨hI, f0, _, rfl, trivial⟩
  · subst w1
    have cc1_1 := (show Int32.toInt 6 = 6 from rfl)
    refine tz_ne (p2 := 9) rfl rfl (show Int32.toInt 0 = 0 from rfl) (fun c11 => absurd c11 (by omega)) (fun c11 => ?_)
    refine te_bipush (p2 := 11) (x := (-2)) rfl rfl (by decide) ?_
    exact te_iret rfl rfl ⟨hI, f0, _, rfl, trivial⟩
abbrev F_X12_kindTold : List (Nat × Nat × Nat) := []
set_option maxRecDepth 20000 in
set_option maxHeartbeats 4000000 in
theorem t_X12_kindTold {x1 : Int32} {x2 : Int32} {h : im_H} (hI : tI h)  : CaP 8 157 [.ref 164, .int x1, .int x2] h (mI h F_X12_kindTold (fun _ => True)) := by
  refine cap_of (d := 7) (M := mX12_kindTold) rfl (Nat.le_of_ble_eq_true rfl) ?_
  show EvP im_K0 7 mX12_kindTold (0, [(0, .ref 164), (1, .int x1), (2, .int x2)], [], h) _
  have f0 : fr F_X12_kindTold h h := fr_rf
  refine te_iload_n (p2 := 1) rfl rfl rfl ?_
  refine te_iconst (p2 := 2) (x := 0) rfl rfl (by decide) ?_
  refine te_iconst (p2 := 3) (x := 5) rfl rfl (by decide) ?_
  refine cS_pI (p2 := 6) rfl rfl rfl rfl (t_X12_in (n := x1) (a := 0) (b := 5) hI ) (by decide) (fun y1 r1 => ?_)
  rcases r1 with ⟨w1, c1⟩ | ⟨w1, c1⟩
  · subst w1
    have cc1_1 := (show Int32.toInt 0 = 0 from rfl)
    have cc1_2 := (show Int32.toInt 5 = 5 from rfl)
    refine tz_eq (p2 := 9) rfl rfl (show Int32.toInt 1 = 1 from rfl) (fun c2 => absurd c2 (by omega)) (fun c2 => ?_)
    refine te_iload_n (p2 := 10) rfl rfl rfl ?_
    refine te_iconst (p2 := 11) (x := 0) rfl rfl (by decide) ?_
    refine te_iconst (p2 := 12) (x := 3) rfl rfl (by decide) ?_
    refine cS_pI (p2 := 15) rfl rfl rfl rfl (t_X12_in (n := x2) (a := 0) (b := 3) hI ) (by decide) (fun y3 r3 => ?_)
    rcases r3 with ⟨w3, c3⟩ | ⟨w3, c3⟩
    · subst w3
      have cc3_1 := (show Int32.toInt 0 = 0 from rfl)
      have cc3_2 := (show Int32.toInt 3 = 3 from rfl)
      refine tz_ne (p2 := 18) rfl rfl (show Int32.toInt 1 = 1 from rfl) (fun c4 => ?_) (fun c4 => absurd c4 (by omega))
      refine te_iload_n (p2 := 22) rfl rfl rfl ?_
      refine tz_ne (p2 := 25) rfl rfl rfl (fun c5 => ?_) (fun c5 => ?_)
      · refine te_iload_n (p2 := 35) rfl rfl rfl ?_
        refine te_iconst (p2 := 36) (x := 1) rfl rfl (by decide) ?_
        refine tb_ne (p2 := 39) rfl rfl rfl (show Int32.toInt 1 = 1 from rfl) (fun c6 => ?_) (fun c6 => ?_)
        · refine te_iload_n (p2 := 49) rfl rfl rfl ?_
          refine te_iconst (p2 := 50) (x := 2) rfl rfl (by decide) ?_
          refine tb_ne (p2 := 53) rfl rfl rfl (show Int32.toInt 2 = 2 from rfl) (fun c7 => ?_) (fun c7 => ?_)
          · refine te_aload_n (p2 := 63) rfl rfl rfl ?_
            refine tg_r (p2 := 66) (i := 148) (r := 172) rfl rfl hI rfl rfl rfl ?_
            refine te_iload_n (p2 := 67) rfl rfl rfl ?_
            refine tl_i (p2 := 68) (i := 156) (n := 6) rfl rfl hI rfl rfl rfl rfl (by omega) (by omega) (fun y8 a8 b8 g8 e8 => ?_)
            exact te_iret rfl rfl ⟨hI, f0, _, rfl, trivial⟩
          · refine te_aload_n (p2 := 54) rfl rfl rfl ?_
            refine tg_r (p2 := 57) (i := 148) (r := 171) rfl rfl hI rfl rfl rfl ?_
            refine te_iload_n (p2 := 58) rfl rfl rfl ?_
            refine tl_i (p2 := 59) (i := 155) (n := 6) rfl rfl hI rfl rfl rfl rfl (by omega) (by omega) (fun y9 a9 b9 g9 e9 => ?_)
            refine te_goto rfl ?_
            exact te_iret rfl rfl ⟨hI, f0, _, rfl, trivial⟩
        · refine te_aload_n (p2 := 40) rfl rfl rfl ?_
          refine tg_r (p2 := 43) (i := 148) (r := 170) rfl rfl hI rfl rfl rfl ?_
          refine te_iload_n (p2 := 44) rfl rfl rfl ?_
          refine tl_i (p2 := 45) (i := 154) (n := 6) rfl rfl hI rfl rfl rfl rfl (by omega) (by omega) (fun y10 a10 b10 g10 e10 => ?_)
          refine te_goto rfl ?_
          exact te_iret rfl rfl ⟨hI, f0, _, rfl, trivial⟩
      · refine te_aload_n (p2 := 26) rfl rfl rfl ?_
        refine tg_r (p2 := 29) (i := 148) (r := 169) rfl rfl hI rfl rfl rfl ?_
        refine te_iload_n (p2 := 30) rfl rfl rfl ?_
        refine tl_i (p2 := 31) (i := 153) (n := 6) rfl rfl hI rfl rfl rfl rfl (by omega) (by omega) (fun y11 a11 b11 g11 e11 => ?_)
        refine te_goto rfl ?_
        exact te_iret rfl rfl ⟨hI, f0, _, rfl, trivial⟩
    · subst w3
      have cc3_1 := (show Int32.toInt 0 = 0 from rfl)
      have cc3_2 := (show Int32.toInt 3 = 3 from rfl)
      refine tz_ne (p2 := 18) rfl rfl (show Int32.toInt 0 = 0 from rfl) (fun c12 => absurd c12 (by omega)) (fun c12 => ?_)
      refine te_bipush (p2 := 20) (x := (-2)) rfl rfl (by decide) ?_
      exact te_iret rfl rfl ⟨hI, f0, _, rfl, trivial⟩
  · subst w1
    have cc1_1 := (show Int32.toInt 0 = 0 from rfl)
    have cc1_2 := (show Int32.toInt 5 = 5 from rfl)
    refine tz_eq (p2 := 9) rfl rfl (show Int32.toInt 0 = 0 from rfl) (fun c13 => ?_) (fun c13 => absurd c13 (by omega))
    refine te_bipush (p2 := 20) (x := (-2)) rfl rfl (by decide) ?_
    exact te_iret rfl rfl ⟨hI, f0, _, rfl, trivial⟩
abbrev F_X11_rowTold : List (Nat × Nat × Nat) := []
set_option maxRecDepth 20000 in
set_option maxHeartbeats 4000000 in
theorem t_X11_rowTold {x1 : Int32} {x2 : Int32} {h : im_H} (hI : tI h)  : CaP 8 80 [.ref 16, .int x1, .int x2] h (mI h F_X11_rowTold (fun _ => True)) := by
  refine cap_of (d := 7) (M := mX11_rowTold) rfl (Nat.le_of_ble_eq_true rfl) ?_
  show EvP im_K0 7 mX11_rowTold (0, [(0, .ref 16), (1, .int x1), (2, .int x2)], [], h) _
  have f0 : fr F_X11_rowTold h h := fr_rf
  refine te_iload_n (p2 := 1) rfl rfl rfl ?_
  refine te_iconst (p2 := 2) (x := 4) rfl rfl (by decide) ?_
  refine cS_pI (p2 := 5) rfl rfl rfl rfl (t_X11_within (n := x1) (b := 4) hI ) (by decide) (fun y1 r1 => ?_)
  rcases r1 with ⟨w1, c1⟩ | ⟨w1, c1⟩
  · subst w1
    have cc1_1 := (show Int32.toInt 4 = 4 from rfl)
    refine tz_ne (p2 := 8) rfl rfl (show Int32.toInt 1 = 1 from rfl) (fun c2 => ?_) (fun c2 => absurd c2 (by omega))
    refine te_iload_n (p2 := 12) rfl rfl rfl ?_
    by_cases c3 : x2.toInt = 0
    · refine te_tsIn (k := 0) (p2 := 40) rfl c3 (by decide) (by decide) rfl (by decide) ?_
      refine te_aload_n (p2 := 41) rfl rfl rfl ?_
      refine tg_r (p2 := 44) (i := 0) (r := 17) rfl rfl hI rfl rfl rfl ?_
      refine tg_r (p2 := 47) (i := 1) (r := 23) rfl rfl hI rfl rfl rfl ?_
      refine te_iload_n (p2 := 48) rfl rfl rfl ?_
      refine tl_f (p2 := 49) (i := 7) (n := 4) (c0 := 12) (sp := 2) rfl rfl hI rfl rfl (by decide) rq_7 (by omega) (by omega) (fun o4 w4 => ?_)
      have q4 : o4 = 12 ∨ o4 = 14 ∨ o4 = 16 ∨ o4 = 18 := by omega
      refine tg_i (p2 := 52) (i := o4) rfl rfl hI rfl (by rcases q4 with rfl | rfl | rfl | rfl <;> rfl) (by rcases q4 with rfl | rfl | rfl | rfl <;> rfl) (fun y5 a5 b5 e5 => ?_)
      exact te_iret rfl rfl ⟨hI, f0, _, rfl, trivial⟩
    · by_cases c6 : x2.toInt = 1
      · refine te_tsIn (k := 1) (p2 := 53) rfl c6 (by decide) (by decide) rfl (by decide) ?_
        refine te_aload_n (p2 := 54) rfl rfl rfl ?_
        refine tg_r (p2 := 57) (i := 0) (r := 39) rfl rfl hI rfl rfl rfl ?_
        refine tg_r (p2 := 60) (i := 23) (r := 50) rfl rfl hI rfl rfl rfl ?_
        refine te_iload_n (p2 := 61) rfl rfl rfl ?_
        refine tl_i (p2 := 62) (i := 34) (n := 4) rfl rfl hI rfl rfl rfl rfl (by omega) (by omega) (fun y7 a7 b7 g7 e7 => ?_)
        exact te_iret rfl rfl ⟨hI, f0, _, rfl, trivial⟩
      · by_cases c8 : x2.toInt = 2
        · refine te_tsIn (k := 2) (p2 := 63) rfl c8 (by decide) (by decide) rfl (by decide) ?_
          refine te_aload_n (p2 := 64) rfl rfl rfl ?_
          refine tg_r (p2 := 67) (i := 0) (r := 17) rfl rfl hI rfl rfl rfl ?_
          refine tg_r (p2 := 70) (i := 1) (r := 23) rfl rfl hI rfl rfl rfl ?_
          refine te_iload_n (p2 := 71) rfl rfl rfl ?_
          refine tl_f (p2 := 72) (i := 7) (n := 4) (c0 := 12) (sp := 2) rfl rfl hI rfl rfl (by decide) rq_7 (by omega) (by omega) (fun o9 w9 => ?_)
          have q9 : o9 = 12 ∨ o9 = 14 ∨ o9 = 16 ∨ o9 = 18 := by omega
          refine tg_i (p2 := 75) (i := o9) rfl rfl hI rfl (by rcases q9 with rfl | rfl | rfl | rfl <;> rfl) (by rcases q9 with rfl | rfl | rfl | rfl <;> rfl) (fun y10 a10 b10 e10 => ?_)
          refine tz_ne (p2 := 78) rfl rfl rfl (fun c11 => ?_) (fun c11 => ?_)
          · refine te_aload_n (p2 := 83) rfl rfl rfl ?_
            refine tg_r (p2 := 86) (i := 0) (r := 39) rfl rfl hI rfl rfl rfl ?_
            refine tg_r (p2 := 89) (i := 23) (r := 51) rfl rfl hI rfl rfl rfl ?_
            refine te_iload_n (p2 := 90) rfl rfl rfl ?_
            refine tl_i (p2 := 91) (i := 35) (n := 4) rfl rfl hI rfl rfl rfl rfl (by omega) (by omega) (fun y12 a12 b12 g12 e12 => ?_)
            exact te_iret rfl rfl ⟨hI, f0, _, rfl, trivial⟩
          · refine te_iconst (p2 := 79) (x := (-1)) rfl rfl (by decide) ?_
            refine te_goto rfl ?_
            exact te_iret rfl rfl ⟨hI, f0, _, rfl, trivial⟩
        · refine te_tsOut (p2 := 92) rfl (by omega) (by decide) ?_
          refine te_bipush (p2 := 94) (x := (-2)) rfl rfl (by decide) ?_
          exact te_iret rfl rfl ⟨hI, f0, _, rfl, trivial⟩
  · subst w1
    have cc1_1 := (show Int32.toInt 4 = 4 from rfl)
    refine tz_ne (p2 := 8) rfl rfl (show Int32.toInt 0 = 0 from rfl) (fun c13 => absurd c13 (by omega)) (fun c13 => ?_)
    refine te_bipush (p2 := 10) (x := (-5)) rfl rfl (by decide) ?_
    exact te_iret rfl rfl ⟨hI, f0, _, rfl, trivial⟩
abbrev F_X12_rowTold : List (Nat × Nat × Nat) := []
set_option maxRecDepth 20000 in
set_option maxHeartbeats 4000000 in
theorem t_X12_rowTold {x1 : Int32} {x2 : Int32} {h : im_H} (hI : tI h)  : CaP 8 159 [.ref 164, .int x1, .int x2] h (mI h F_X12_rowTold (fun _ => True)) := by
  refine cap_of (d := 7) (M := mX12_rowTold) rfl (Nat.le_of_ble_eq_true rfl) ?_
  show EvP im_K0 7 mX12_rowTold (0, [(0, .ref 164), (1, .int x1), (2, .int x2)], [], h) _
  have f0 : fr F_X12_rowTold h h := fr_rf
  refine te_iload_n (p2 := 1) rfl rfl rfl ?_
  refine te_iconst (p2 := 2) (x := 0) rfl rfl (by decide) ?_
  refine te_iconst (p2 := 3) (x := 3) rfl rfl (by decide) ?_
  refine cS_pI (p2 := 6) rfl rfl rfl rfl (t_X12_in (n := x1) (a := 0) (b := 3) hI ) (by decide) (fun y1 r1 => ?_)
  rcases r1 with ⟨w1, c1⟩ | ⟨w1, c1⟩
  · subst w1
    have cc1_1 := (show Int32.toInt 0 = 0 from rfl)
    have cc1_2 := (show Int32.toInt 3 = 3 from rfl)
    refine tz_ne (p2 := 9) rfl rfl (show Int32.toInt 1 = 1 from rfl) (fun c2 => ?_) (fun c2 => absurd c2 (by omega))
    refine te_iload_n (p2 := 13) rfl rfl rfl ?_
    refine tz_ne (p2 := 16) rfl rfl rfl (fun c3 => ?_) (fun c3 => ?_)
    · refine te_iload_n (p2 := 26) rfl rfl rfl ?_
      refine te_iconst (p2 := 27) (x := 1) rfl rfl (by decide) ?_
      refine tb_ne (p2 := 30) rfl rfl rfl (show Int32.toInt 1 = 1 from rfl) (fun c4 => ?_) (fun c4 => ?_)
      · refine te_iload_n (p2 := 44) rfl rfl rfl ?_
        refine te_iconst (p2 := 45) (x := 2) rfl rfl (by decide) ?_
        refine tb_ne (p2 := 48) rfl rfl rfl (show Int32.toInt 2 = 2 from rfl) (fun c5 => ?_) (fun c5 => ?_)
        · refine te_bipush (p2 := 76) (x := (-2)) rfl rfl (by decide) ?_
          exact te_iret rfl rfl ⟨hI, f0, _, rfl, trivial⟩
        · refine te_aload_n (p2 := 49) rfl rfl rfl ?_
          refine tg_r (p2 := 52) (i := 148) (r := 177) rfl rfl hI rfl rfl rfl ?_
          refine te_iload_n (p2 := 53) rfl rfl rfl ?_
          refine tl_i (p2 := 54) (i := 161) (n := 4) rfl rfl hI rfl rfl rfl rfl (by omega) (by omega) (fun y6 a6 b6 g6 e6 => ?_)
          refine tz_ne (p2 := 57) rfl rfl rfl (fun c7 => ?_) (fun c7 => ?_)
          · refine te_aload_n (p2 := 62) rfl rfl rfl ?_
            refine tg_r (p2 := 65) (i := 148) (r := 165) rfl rfl hI rfl rfl rfl ?_
            refine te_sipush (p2 := 68) (x := 276) rfl rfl (by decide) ?_
            refine te_iload_n (p2 := 69) rfl rfl rfl ?_
            refine ar_add (p2 := 70) rfl rfl (show Int32.toInt 276 = 276 from rfl) rfl (by omega) (by omega) (fun z8 e8 f8 => ?_)
            refine tl_i (p2 := 71) (i := 149) (n := 283) rfl rfl hI rfl rfl rfl rfl (by omega) (by omega) (fun y9 a9 b9 g9 e9 => ?_)
            refine te_goto rfl ?_
            exact te_iret rfl rfl ⟨hI, f0, _, rfl, trivial⟩
          · refine te_iconst (p2 := 58) (x := (-1)) rfl rfl (by decide) ?_
            refine te_goto rfl ?_
            exact te_iret rfl rfl ⟨hI, f0, _, rfl, trivial⟩
      · refine te_aload_n (p2 := 31) rfl rfl rfl ?_
        refine tg_r (p2 := 34) (i := 148) (r := 165) rfl rfl hI rfl rfl rfl ?_
        refine te_sipush (p2 := 37) (x := 272) rfl rfl (by decide) ?_
        refine te_iload_n (p2 := 38) rfl rfl rfl ?_
        refine ar_add (p2 := 39) rfl rfl (show Int32.toInt 272 = 272 from rfl) rfl (by omega) (by omega) (fun z10 e10 f10 => ?_)
        refine tl_i (p2 := 40) (i := 149) (n := 283) rfl rfl hI rfl rfl rfl rfl (by omega) (by omega) (fun y11 a11 b11 g11 e11 => ?_)
        refine te_goto rfl ?_
        exact te_iret rfl rfl ⟨hI, f0, _, rfl, trivial⟩
    · refine te_aload_n (p2 := 17) rfl rfl rfl ?_
      refine tg_r (p2 := 20) (i := 148) (r := 177) rfl rfl hI rfl rfl rfl ?_
      refine te_iload_n (p2 := 21) rfl rfl rfl ?_
      refine tl_i (p2 := 22) (i := 161) (n := 4) rfl rfl hI rfl rfl rfl rfl (by omega) (by omega) (fun y12 a12 b12 g12 e12 => ?_)
      refine te_goto rfl ?_
      exact te_iret rfl rfl ⟨hI, f0, _, rfl, trivial⟩
  · subst w1
    have cc1_1 := (show Int32.toInt 0 = 0 from rfl)
    have cc1_2 := (show Int32.toInt 3 = 3 from rfl)
    refine tz_ne (p2 := 9) rfl rfl (show Int32.toInt 0 = 0 from rfl) (fun c13 => absurd c13 (by omega)) (fun c13 => ?_)
    refine te_bipush (p2 := 11) (x := (-5)) rfl rfl (by decide) ?_
    exact te_iret rfl rfl ⟨hI, f0, _, rfl, trivial⟩
abbrev F_X11_railTold : List (Nat × Nat × Nat) := []
set_option maxRecDepth 20000 in
set_option maxHeartbeats 4000000 in
theorem t_X11_railTold {x1 : Int32} {x2 : Int32} {h : im_H} (hI : tI h)  : CaP 8 81 [.ref 16, .int x1, .int x2] h (mI h F_X11_railTold (fun _ => True)) := by
  refine cap_of (d := 7) (M := mX11_railTold) rfl (Nat.le_of_ble_eq_true rfl) ?_
  show EvP im_K0 7 mX11_railTold (0, [(0, .ref 16), (1, .int x1), (2, .int x2)], [], h) _
  have f0 : fr F_X11_railTold h h := fr_rf
  refine te_iload_n (p2 := 1) rfl rfl rfl ?_
  refine te_iconst (p2 := 2) (x := 3) rfl rfl (by decide) ?_
  refine cS_pI (p2 := 5) rfl rfl rfl rfl (t_X11_within (n := x1) (b := 3) hI ) (by decide) (fun y1 r1 => ?_)
  rcases r1 with ⟨w1, c1⟩ | ⟨w1, c1⟩
  · subst w1
    have cc1_1 := (show Int32.toInt 3 = 3 from rfl)
    refine tz_ne (p2 := 8) rfl rfl (show Int32.toInt 1 = 1 from rfl) (fun c2 => ?_) (fun c2 => absurd c2 (by omega))
    refine te_iload_n (p2 := 11) rfl rfl rfl ?_
    by_cases c3 : x2.toInt = 0
    · refine te_ls (p2 := 36) (off := 25) rfl (by decide) (by rw [c3]; decide) (by decide) ?_
      refine te_aload_n (p2 := 37) rfl rfl rfl ?_
      refine tg_r (p2 := 40) (i := 0) (r := 17) rfl rfl hI rfl rfl rfl ?_
      refine tg_r (p2 := 43) (i := 1) (r := 24) rfl rfl hI rfl rfl rfl ?_
      refine te_iload_n (p2 := 44) rfl rfl rfl ?_
      refine tl_f (p2 := 45) (i := 8) (n := 3) (c0 := 20) (sp := 1) rfl rfl hI rfl rfl (by decide) rq_8 (by omega) (by omega) (fun o4 w4 => ?_)
      have q4 : o4 = 20 ∨ o4 = 21 ∨ o4 = 22 := by omega
      refine tg_i (p2 := 48) (i := o4) rfl rfl hI rfl (by rcases q4 with rfl | rfl | rfl <;> rfl) (by rcases q4 with rfl | rfl | rfl <;> rfl) (fun y5 a5 b5 e5 => ?_)
      exact te_iret rfl rfl ⟨hI, f0, _, rfl, trivial⟩
    · by_cases c6 : x2.toInt = 1
      · refine te_ls (p2 := 49) (off := 38) rfl (by decide) (by rw [c6]; decide) (by decide) ?_
        refine te_aload_n (p2 := 50) rfl rfl rfl ?_
        refine tg_r (p2 := 53) (i := 0) (r := 39) rfl rfl hI rfl rfl rfl ?_
        refine tg_r (p2 := 56) (i := 23) (r := 52) rfl rfl hI rfl rfl rfl ?_
        refine te_iload_n (p2 := 57) rfl rfl rfl ?_
        refine tl_i (p2 := 58) (i := 36) (n := 3) rfl rfl hI rfl rfl rfl rfl (by omega) (by omega) (fun y7 a7 b7 g7 e7 => ?_)
        exact te_iret rfl rfl ⟨hI, f0, _, rfl, trivial⟩
      · refine te_ls (p2 := 59) (off := 48) rfl (by decide) (ls_ne (by omega) (ls_ne (by omega) (ls_nil))) (by decide) ?_
        refine te_bipush (p2 := 61) (x := (-2)) rfl rfl (by decide) ?_
        exact te_iret rfl rfl ⟨hI, f0, _, rfl, trivial⟩
  · subst w1
    have cc1_1 := (show Int32.toInt 3 = 3 from rfl)
    refine tz_ne (p2 := 8) rfl rfl (show Int32.toInt 0 = 0 from rfl) (fun c8 => absurd c8 (by omega)) (fun c8 => ?_)
    refine te_iconst (p2 := 9) (x := (-1)) rfl rfl (by decide) ?_
    exact te_iret rfl rfl ⟨hI, f0, _, rfl, trivial⟩
abbrev F_X12_railTold : List (Nat × Nat × Nat) := []
set_option maxRecDepth 20000 in
set_option maxHeartbeats 4000000 in
theorem t_X12_railTold {x1 : Int32} {x2 : Int32} {h : im_H} (hI : tI h)  : CaP 8 160 [.ref 164, .int x1, .int x2] h (mI h F_X12_railTold (fun _ => True)) := by
  refine cap_of (d := 7) (M := mX12_railTold) rfl (Nat.le_of_ble_eq_true rfl) ?_
  show EvP im_K0 7 mX12_railTold (0, [(0, .ref 164), (1, .int x1), (2, .int x2)], [], h) _
  have f0 : fr F_X12_railTold h h := fr_rf
  refine te_iload_n (p2 := 1) rfl rfl rfl ?_
  refine te_iconst (p2 := 2) (x := 0) rfl rfl (by decide) ?_
  refine te_iconst (p2 := 3) (x := 2) rfl rfl (by decide) ?_
  refine cS_pI (p2 := 6) rfl rfl rfl rfl (t_X12_in (n := x1) (a := 0) (b := 2) hI ) (by decide) (fun y1 r1 => ?_)
  rcases r1 with ⟨w1, c1⟩ | ⟨w1, c1⟩
  · subst w1
    have cc1_1 := (show Int32.toInt 0 = 0 from rfl)
    have cc1_2 := (show Int32.toInt 2 = 2 from rfl)
    refine tz_ne (p2 := 9) rfl rfl (show Int32.toInt 1 = 1 from rfl) (fun c2 => ?_) (fun c2 => absurd c2 (by omega))
    refine te_iload_n (p2 := 12) rfl rfl rfl ?_
    refine tz_ne (p2 := 15) rfl rfl rfl (fun c3 => ?_) (fun c3 => ?_)
    · refine te_iload_n (p2 := 25) rfl rfl rfl ?_
      refine te_iconst (p2 := 26) (x := 1) rfl rfl (by decide) ?_
      refine tb_ne (p2 := 29) rfl rfl rfl (show Int32.toInt 1 = 1 from rfl) (fun c4 => ?_) (fun c4 => ?_)
      · refine te_bipush (p2 := 44) (x := (-2)) rfl rfl (by decide) ?_
        exact te_iret rfl rfl ⟨hI, f0, _, rfl, trivial⟩
      · refine te_aload_n (p2 := 30) rfl rfl rfl ?_
        refine tg_r (p2 := 33) (i := 148) (r := 165) rfl rfl hI rfl rfl rfl ?_
        refine te_sipush (p2 := 36) (x := 280) rfl rfl (by decide) ?_
        refine te_iload_n (p2 := 37) rfl rfl rfl ?_
        refine ar_add (p2 := 38) rfl rfl (show Int32.toInt 280 = 280 from rfl) rfl (by omega) (by omega) (fun z5 e5 f5 => ?_)
        refine tl_i (p2 := 39) (i := 149) (n := 283) rfl rfl hI rfl rfl rfl rfl (by omega) (by omega) (fun y6 a6 b6 g6 e6 => ?_)
        refine te_goto rfl ?_
        exact te_iret rfl rfl ⟨hI, f0, _, rfl, trivial⟩
    · refine te_aload_n (p2 := 16) rfl rfl rfl ?_
      refine tg_r (p2 := 19) (i := 148) (r := 181) rfl rfl hI rfl rfl rfl ?_
      refine te_iload_n (p2 := 20) rfl rfl rfl ?_
      refine tl_i (p2 := 21) (i := 165) (n := 3) rfl rfl hI rfl rfl rfl rfl (by omega) (by omega) (fun y7 a7 b7 g7 e7 => ?_)
      refine te_goto rfl ?_
      exact te_iret rfl rfl ⟨hI, f0, _, rfl, trivial⟩
  · subst w1
    have cc1_1 := (show Int32.toInt 0 = 0 from rfl)
    have cc1_2 := (show Int32.toInt 2 = 2 from rfl)
    refine tz_ne (p2 := 9) rfl rfl (show Int32.toInt 0 = 0 from rfl) (fun c8 => absurd c8 (by omega)) (fun c8 => ?_)
    refine te_iconst (p2 := 10) (x := (-1)) rfl rfl (by decide) ?_
    exact te_iret rfl rfl ⟨hI, f0, _, rfl, trivial⟩
abbrev F_X11_wallTold : List (Nat × Nat × Nat) := []
set_option maxRecDepth 20000 in
set_option maxHeartbeats 4000000 in
theorem t_X11_wallTold {x1 : Int32} {x2 : Int32} {h : im_H} (hI : tI h)  : CaP 8 82 [.ref 16, .int x1, .int x2] h (mI h F_X11_wallTold (fun _ => True)) := by
  refine cap_of (d := 7) (M := mX11_wallTold) rfl (Nat.le_of_ble_eq_true rfl) ?_
  show EvP im_K0 7 mX11_wallTold (0, [(0, .ref 16), (1, .int x1), (2, .int x2)], [], h) _
  have f0 : fr F_X11_wallTold h h := fr_rf
  refine te_iload_n (p2 := 1) rfl rfl rfl ?_
  refine te_aload_n (p2 := 2) rfl rfl rfl ?_
  refine tg_r (p2 := 5) (i := 0) (r := 17) rfl rfl hI rfl rfl rfl ?_
  refine tg_i (p2 := 8) (i := 1) rfl rfl hI rfl rfl rfl (fun y1 a1 b1 e1 => ?_)
  refine cS_pI (p2 := 11) rfl rfl rfl rfl (t_X11_within (n := x1) (b := y1) hI ) (by decide) (fun y2 r2 => ?_)
  rcases r2 with ⟨w2, c2⟩ | ⟨w2, c2⟩
  · subst w2
    refine tz_ne (p2 := 14) rfl rfl (show Int32.toInt 1 = 1 from rfl) (fun c3 => ?_) (fun c3 => absurd c3 (by omega))
    refine te_iload_n (p2 := 17) rfl rfl rfl ?_
    by_cases c4 : x2.toInt = 0
    · refine te_tsIn (k := 0) (p2 := 44) rfl c4 (by decide) (by decide) rfl (by decide) ?_
      refine te_aload_n (p2 := 45) rfl rfl rfl ?_
      refine tg_r (p2 := 48) (i := 0) (r := 39) rfl rfl hI rfl rfl rfl ?_
      refine tg_r (p2 := 51) (i := 23) (r := 48) rfl rfl hI rfl rfl rfl ?_
      refine te_iload_n (p2 := 52) rfl rfl rfl ?_
      refine tl_b (p2 := 53) (i := 32) (n := 16) rfl rfl hI rfl rfl rfl rfl (by omega) (by omega) (fun y5 a5 e5 => ?_)
      refine tz_eq (p2 := 56) rfl rfl rfl (fun c6 => ?_) (fun c6 => ?_)
      · refine te_iconst (p2 := 61) (x := 0) rfl rfl (by decide) ?_
        exact te_iret rfl rfl ⟨hI, f0, _, rfl, trivial⟩
      · refine te_iconst (p2 := 57) (x := 1) rfl rfl (by decide) ?_
        refine te_goto rfl ?_
        exact te_iret rfl rfl ⟨hI, f0, _, rfl, trivial⟩
    · by_cases c7 : x2.toInt = 1
      · refine te_tsIn (k := 1) (p2 := 62) rfl c7 (by decide) (by decide) rfl (by decide) ?_
        refine te_aload_n (p2 := 63) rfl rfl rfl ?_
        refine tg_r (p2 := 66) (i := 0) (r := 39) rfl rfl hI rfl rfl rfl ?_
        refine tg_r (p2 := 69) (i := 23) (r := 47) rfl rfl hI rfl rfl rfl ?_
        refine te_iload_n (p2 := 70) rfl rfl rfl ?_
        refine tl_i (p2 := 71) (i := 31) (n := 16) rfl rfl hI rfl rfl rfl rfl (by omega) (by omega) (fun y8 a8 b8 g8 e8 => ?_)
        exact te_iret rfl rfl ⟨hI, f0, _, rfl, trivial⟩
      · by_cases c9 : x2.toInt = 2
        · refine te_tsIn (k := 2) (p2 := 72) rfl c9 (by decide) (by decide) rfl (by decide) ?_
          refine te_aload_n (p2 := 73) rfl rfl rfl ?_
          refine tg_r (p2 := 76) (i := 0) (r := 17) rfl rfl hI rfl rfl rfl ?_
          refine tg_r (p2 := 79) (i := 1) (r := 26) rfl rfl hI rfl rfl rfl ?_
          refine te_iload_n (p2 := 80) rfl rfl rfl ?_
          refine tl_i (p2 := 81) (i := 10) (n := 16) rfl rfl hI rfl rfl rfl rfl (by omega) (by omega) (fun y10 a10 b10 g10 e10 => ?_)
          exact te_iret rfl rfl ⟨hI, f0, _, rfl, trivial⟩
        · refine te_tsOut (p2 := 82) rfl (by omega) (by decide) ?_
          refine te_bipush (p2 := 84) (x := (-2)) rfl rfl (by decide) ?_
          exact te_iret rfl rfl ⟨hI, f0, _, rfl, trivial⟩
  · subst w2
    refine tz_ne (p2 := 14) rfl rfl (show Int32.toInt 0 = 0 from rfl) (fun c11 => absurd c11 (by omega)) (fun c11 => ?_)
    refine te_iconst (p2 := 15) (x := (-1)) rfl rfl (by decide) ?_
    exact te_iret rfl rfl ⟨hI, f0, _, rfl, trivial⟩
abbrev F_X12_wallTold : List (Nat × Nat × Nat) := []
set_option maxRecDepth 20000 in
set_option maxHeartbeats 4000000 in
theorem t_X12_wallTold {x1 : Int32} {x2 : Int32} {h : im_H} (hI : tI h)  : CaP 8 162 [.ref 164, .int x1, .int x2] h (mI h F_X12_wallTold (fun _ => True)) := by
  refine cap_of (d := 7) (M := mX12_wallTold) rfl (Nat.le_of_ble_eq_true rfl) ?_
  show EvP im_K0 7 mX12_wallTold (0, [(0, .ref 164), (1, .int x1), (2, .int x2)], [], h) _
  have f0 : fr F_X12_wallTold h h := fr_rf
  refine te_aload_n (p2 := 1) rfl rfl rfl ?_
  refine te_iload_n (p2 := 2) rfl rfl rfl ?_
  refine cV_pI (p2 := 5) (i := 148) rfl rfl rfl rfl hI rfl rfl rfl (t_X12_isWall (k := x1) hI) (by decide) (fun y1 r1 => ?_)
  obtain ⟨p1, e1, a1, b1, r1⟩ := r1
  rcases r1 with ⟨w1, c1⟩ | ⟨w1, c1⟩
  · subst w1
    refine tz_ne (p2 := 8) rfl rfl (show Int32.toInt 1 = 1 from rfl) (fun c2 => ?_) (fun c2 => absurd c2 (by omega))
    refine te_iload_n (p2 := 11) rfl rfl rfl ?_
    refine tz_ne (p2 := 14) rfl rfl rfl (fun c3 => ?_) (fun c3 => ?_)
    · refine te_iload_n (p2 := 27) rfl rfl rfl ?_
      refine te_iconst (p2 := 28) (x := 1) rfl rfl (by decide) ?_
      refine tb_ne (p2 := 31) rfl rfl rfl (show Int32.toInt 1 = 1 from rfl) (fun c4 => ?_) (fun c4 => ?_)
      · refine te_iload_n (p2 := 44) rfl rfl rfl ?_
        refine te_iconst (p2 := 45) (x := 2) rfl rfl (by decide) ?_
        refine tb_ne (p2 := 48) rfl rfl rfl (show Int32.toInt 2 = 2 from rfl) (fun c5 => ?_) (fun c5 => ?_)
        · refine te_bipush (p2 := 59) (x := (-2)) rfl rfl (by decide) ?_
          exact te_iret rfl rfl ⟨hI, f0, _, rfl, trivial⟩
        · refine te_aload_n (p2 := 49) rfl rfl rfl ?_
          refine tg_r (p2 := 52) (i := 148) (r := 184) rfl rfl hI rfl rfl rfl ?_
          refine te_iload_n (p2 := 53) rfl rfl rfl ?_
          refine tl_i (p2 := 54) (i := 168) (n := 16) rfl rfl hI rfl rfl rfl rfl (by omega) (by omega) (fun y6 a6 b6 g6 e6 => ?_)
          refine te_goto rfl ?_
          exact te_iret rfl rfl ⟨hI, f0, _, rfl, trivial⟩
      · refine te_aload_n (p2 := 32) rfl rfl rfl ?_
        refine tg_r (p2 := 35) (i := 148) (r := 165) rfl rfl hI rfl rfl rfl ?_
        refine te_bipush (p2 := 37) (x := 124) rfl rfl (by decide) ?_
        refine te_iload_n (p2 := 38) rfl rfl rfl ?_
        refine ar_add (p2 := 39) rfl rfl (show Int32.toInt 124 = 124 from rfl) rfl (by omega) (by omega) (fun z7 e7 f7 => ?_)
        refine tl_i (p2 := 40) (i := 149) (n := 283) rfl rfl hI rfl rfl rfl rfl (by omega) (by omega) (fun y8 a8 b8 g8 e8 => ?_)
        refine te_goto rfl ?_
        exact te_iret rfl rfl ⟨hI, f0, _, rfl, trivial⟩
    · refine te_aload_n (p2 := 15) rfl rfl rfl ?_
      refine tg_r (p2 := 18) (i := 148) (r := 165) rfl rfl hI rfl rfl rfl ?_
      refine te_bipush (p2 := 20) (x := 108) rfl rfl (by decide) ?_
      refine te_iload_n (p2 := 21) rfl rfl rfl ?_
      refine ar_add (p2 := 22) rfl rfl (show Int32.toInt 108 = 108 from rfl) rfl (by omega) (by omega) (fun z9 e9 f9 => ?_)
      refine tl_i (p2 := 23) (i := 149) (n := 283) rfl rfl hI rfl rfl rfl rfl (by omega) (by omega) (fun y10 a10 b10 g10 e10 => ?_)
      refine te_goto rfl ?_
      exact te_iret rfl rfl ⟨hI, f0, _, rfl, trivial⟩
  · subst w1
    refine tz_ne (p2 := 8) rfl rfl (show Int32.toInt 0 = 0 from rfl) (fun c11 => absurd c11 (by omega)) (fun c11 => ?_)
    refine te_iconst (p2 := 9) (x := (-1)) rfl rfl (by decide) ?_
    exact te_iret rfl rfl ⟨hI, f0, _, rfl, trivial⟩
abbrev F_X11_pullTold : List (Nat × Nat × Nat) := []
set_option maxRecDepth 20000 in
set_option maxHeartbeats 4000000 in
theorem t_X11_pullTold {x1 : Int32} {h : im_H} (hI : tI h)  : CaP 8 87 [.ref 16, .int x1] h (mI h F_X11_pullTold (fun _ => True)) := by
  refine cap_of (d := 7) (M := mX11_pullTold) rfl (Nat.le_of_ble_eq_true rfl) ?_
  show EvP im_K0 7 mX11_pullTold (0, [(0, .ref 16), (1, .int x1)], [], h) _
  have f0 : fr F_X11_pullTold h h := fr_rf
  refine te_iload_n (p2 := 1) rfl rfl rfl ?_
  refine te_aload_n (p2 := 2) rfl rfl rfl ?_
  refine tg_r (p2 := 5) (i := 0) (r := 84) rfl rfl hI rfl rfl rfl ?_
  refine tg_i (p2 := 8) (i := 68) rfl rfl hI rfl rfl rfl (fun y1 a1 b1 e1 => ?_)
  refine cS_pI (p2 := 11) rfl rfl rfl rfl (t_X11_within (n := x1) (b := y1) hI ) (by decide) (fun y2 r2 => ?_)
  rcases r2 with ⟨w2, c2⟩ | ⟨w2, c2⟩
  · subst w2
    refine tz_eq (p2 := 14) rfl rfl (show Int32.toInt 1 = 1 from rfl) (fun c3 => absurd c3 (by omega)) (fun c3 => ?_)
    refine te_aload_n (p2 := 15) rfl rfl rfl ?_
    refine tg_r (p2 := 18) (i := 0) (r := 84) rfl rfl hI rfl rfl rfl ?_
    refine tg_r (p2 := 21) (i := 68) (r := 85) rfl rfl hI rfl rfl rfl ?_
    refine te_iload_n (p2 := 22) rfl rfl rfl ?_
    refine tl_i (p2 := 23) (i := 69) (n := 6) rfl rfl hI rfl rfl rfl rfl (by omega) (by omega) (fun y4 a4 b4 g4 e4 => ?_)
    refine te_goto rfl ?_
    exact te_iret rfl rfl ⟨hI, f0, _, rfl, trivial⟩
  · subst w2
    refine tz_eq (p2 := 14) rfl rfl (show Int32.toInt 0 = 0 from rfl) (fun c5 => ?_) (fun c5 => absurd c5 (by omega))
    refine te_iconst (p2 := 27) (x := (-1)) rfl rfl (by decide) ?_
    exact te_iret rfl rfl ⟨hI, f0, _, rfl, trivial⟩
abbrev F_X12_pullTold : List (Nat × Nat × Nat) := []
set_option maxRecDepth 20000 in
set_option maxHeartbeats 4000000 in
theorem t_X12_pullTold {x1 : Int32} {h : im_H} (hI : tI h)  : CaP 8 169 [.ref 164, .int x1] h (mI h F_X12_pullTold (fun _ => True)) := by
  refine cap_of (d := 7) (M := mX12_pullTold) rfl (Nat.le_of_ble_eq_true rfl) ?_
  show EvP im_K0 7 mX12_pullTold (0, [(0, .ref 164), (1, .int x1)], [], h) _
  have f0 : fr F_X12_pullTold h h := fr_rf
  refine te_iload_n (p2 := 1) rfl rfl rfl ?_
  refine te_iconst (p2 := 2) (x := 0) rfl rfl (by decide) ?_
  refine te_aload_n (p2 := 3) rfl rfl rfl ?_
  refine tg_i (p2 := 6) (i := 148) rfl rfl hI rfl rfl rfl (fun y1 a1 b1 e1 => ?_)
  refine te_iconst (p2 := 7) (x := 1) rfl rfl (by decide) ?_
  refine ar_sub (p2 := 8) rfl rfl rfl (show Int32.toInt 1 = 1 from rfl) (by omega) (by omega) (fun z2 e2 f2 => ?_)
  refine cS_pI (p2 := 11) rfl rfl rfl rfl (t_X12_in (n := x1) (a := 0) (b := z2) hI ) (by decide) (fun y3 r3 => ?_)
  rcases r3 with ⟨w3, c3⟩ | ⟨w3, c3⟩
  · subst w3
    have cc3_1 := (show Int32.toInt 0 = 0 from rfl)
    refine tz_eq (p2 := 14) rfl rfl (show Int32.toInt 1 = 1 from rfl) (fun c4 => absurd c4 (by omega)) (fun c4 => ?_)
    refine te_aload_n (p2 := 15) rfl rfl rfl ?_
    refine tg_r (p2 := 18) (i := 148) (r := 199) rfl rfl hI rfl rfl rfl ?_
    refine te_iload_n (p2 := 19) rfl rfl rfl ?_
    refine tl_i (p2 := 20) (i := 183) (n := 6) rfl rfl hI rfl rfl rfl rfl (by omega) (by omega) (fun y5 a5 b5 g5 e5 => ?_)
    refine te_goto rfl ?_
    exact te_iret rfl rfl ⟨hI, f0, _, rfl, trivial⟩
  · subst w3
    have cc3_1 := (show Int32.toInt 0 = 0 from rfl)
    refine tz_eq (p2 := 14) rfl rfl (show Int32.toInt 0 = 0 from rfl) (fun c6 => ?_) (fun c6 => absurd c6 (by omega))
    refine te_iconst (p2 := 24) (x := (-1)) rfl rfl (by decide) ?_
    exact te_iret rfl rfl ⟨hI, f0, _, rfl, trivial⟩
abbrev F_X11_mendTold : List (Nat × Nat × Nat) := []
set_option maxRecDepth 20000 in
set_option maxHeartbeats 4000000 in
theorem t_X11_mendTold  {h : im_H} (hI : tI h)  : CaP 8 89 [.ref 16] h (mI h F_X11_mendTold (fun _ => True)) := by
  refine cap_of (d := 7) (M := mX11_mendTold) rfl (Nat.le_of_ble_eq_true rfl) ?_
  show EvP im_K0 7 mX11_mendTold (0, [(0, .ref 16)], [], h) _
  have f0 : fr F_X11_mendTold h h := fr_rf
  refine te_aload_n (p2 := 1) rfl rfl rfl ?_
  refine tg_r (p2 := 4) (i := 0) (r := 88) rfl rfl hI rfl rfl rfl ?_
  refine tg_i (p2 := 7) (i := 72) rfl rfl hI rfl rfl rfl (fun y1 a1 b1 e1 => ?_)
  exact te_iret rfl rfl ⟨hI, f0, _, rfl, trivial⟩
abbrev F_X12_mendTold : List (Nat × Nat × Nat) := []
set_option maxRecDepth 20000 in
set_option maxHeartbeats 4000000 in
theorem t_X12_mendTold  {h : im_H} (hI : tI h)  : CaP 8 171 [.ref 164] h (mI h F_X12_mendTold (fun _ => True)) := by
  refine cap_of (d := 7) (M := mX12_mendTold) rfl (Nat.le_of_ble_eq_true rfl) ?_
  show EvP im_K0 7 mX12_mendTold (0, [(0, .ref 164)], [], h) _
  have f0 : fr F_X12_mendTold h h := fr_rf
  refine te_aload_n (p2 := 1) rfl rfl rfl ?_
  refine tg_i (p2 := 4) (i := 148) rfl rfl hI rfl rfl rfl (fun y1 a1 b1 e1 => ?_)
  exact te_iret rfl rfl ⟨hI, f0, _, rfl, trivial⟩
abbrev F_X11_mend : List (Nat × Nat × Nat) := [(24, 0, 1), (33, 0, 11)]
set_option maxRecDepth 20000 in
set_option maxHeartbeats 4000000 in
theorem t_X11_mend {x1 : Int32} {h : im_H} (hI : tI h)  : CaP 8 90 [.ref 16, .int x1] h (mI h F_X11_mend (fun _ => True)) := by
  refine cap_of (d := 7) (M := mX11_mend) rfl (Nat.le_of_ble_eq_true rfl) ?_
  show EvP im_K0 7 mX11_mend (0, [(0, .ref 16), (1, .int x1)], [], h) _
  have f0 : fr F_X11_mend h h := fr_rf
  refine te_iload_n (p2 := 1) rfl rfl rfl ?_
  refine te_aload_n (p2 := 2) rfl rfl rfl ?_
  refine tg_r (p2 := 5) (i := 0) (r := 88) rfl rfl hI rfl rfl rfl ?_
  refine tg_i (p2 := 8) (i := 72) rfl rfl hI rfl rfl rfl (fun y1 a1 b1 e1 => ?_)
  refine cS_pI (p2 := 11) rfl rfl rfl rfl (t_X11_within (n := x1) (b := y1) hI ) (by decide) (fun y2 r2 => ?_)
  rcases r2 with ⟨w2, c2⟩ | ⟨w2, c2⟩
  · subst w2
    refine tz_ne (p2 := 14) rfl rfl (show Int32.toInt 1 = 1 from rfl) (fun c3 => ?_) (fun c3 => absurd c3 (by omega))
    refine te_aload_n (p2 := 17) rfl rfl rfl ?_
    refine tg_r (p2 := 20) (i := 0) (r := 39) rfl rfl hI rfl rfl rfl ?_
    refine tg_r (p2 := 23) (i := 23) (r := 49) rfl rfl hI rfl rfl rfl ?_
    refine te_iload_n (p2 := 24) rfl rfl rfl ?_
    refine tl_b (p2 := 25) (i := 33) (n := 12) rfl rfl hI rfl rfl rfl rfl (by omega) (by omega) (fun y4 a4 e4 => ?_)
    refine tz_eq (p2 := 28) rfl rfl rfl (fun c5 => ?_) (fun c5 => ?_)
    · refine te_aload_n (p2 := 32) rfl rfl rfl ?_
      refine tg_r (p2 := 35) (i := 0) (r := 88) rfl rfl hI rfl rfl rfl ?_
      refine tg_r (p2 := 38) (i := 72) (r := 90) rfl rfl hI rfl rfl rfl ?_
      refine te_iload_n (p2 := 39) rfl rfl rfl ?_
      refine tl_i (p2 := 40) (i := 74) (n := 12) rfl rfl hI rfl rfl rfl rfl (by omega) (by omega) (fun y6 a6 b6 g6 e6 => ?_)
      refine te_aload_n (p2 := 41) rfl rfl rfl ?_
      refine tg_r (p2 := 44) (i := 0) (r := 39) rfl rfl hI rfl rfl rfl ?_
      refine tg_r (p2 := 47) (i := 23) (r := 40) rfl rfl hI rfl rfl rfl ?_
      refine te_iconst (p2 := 48) (x := 0) rfl rfl (by decide) ?_
      refine tl_i (p2 := 49) (i := 24) (n := 3) rfl rfl hI rfl rfl rfl rfl (by decide) (by decide) (fun y7 a7 b7 g7 e7 => ?_)
      refine tb_gt (p2 := 52) rfl rfl rfl rfl (fun c8 => ?_) (fun c8 => ?_)
      · refine te_bipush (p2 := 75) (x := (-6)) rfl rfl (by decide) ?_
        exact te_iret rfl rfl ⟨hI, f0, _, rfl, trivial⟩
      · refine te_aload_n (p2 := 53) rfl rfl rfl ?_
        refine tg_r (p2 := 56) (i := 0) (r := 88) rfl rfl hI rfl rfl rfl ?_
        refine tg_r (p2 := 59) (i := 72) (r := 91) rfl rfl hI rfl rfl rfl ?_
        refine te_iload_n (p2 := 60) rfl rfl rfl ?_
        refine tl_i (p2 := 61) (i := 75) (n := 12) rfl rfl hI rfl rfl rfl rfl (by omega) (by omega) (fun y9 a9 b9 g9 e9 => ?_)
        refine te_aload_n (p2 := 62) rfl rfl rfl ?_
        refine tg_r (p2 := 65) (i := 0) (r := 39) rfl rfl hI rfl rfl rfl ?_
        refine tg_r (p2 := 68) (i := 23) (r := 40) rfl rfl hI rfl rfl rfl ?_
        refine te_iconst (p2 := 69) (x := 1) rfl rfl (by decide) ?_
        refine tl_i (p2 := 70) (i := 24) (n := 3) rfl rfl hI rfl rfl rfl rfl (by decide) (by decide) (fun y10 a10 b10 g10 e10 => ?_)
        refine tb_le (p2 := 73) rfl rfl rfl rfl (fun c11 => ?_) (fun c11 => ?_)
        · refine te_aload_n (p2 := 77) rfl rfl rfl ?_
          refine tg_r (p2 := 80) (i := 0) (r := 39) rfl rfl hI rfl rfl rfl ?_
          refine tg_r (p2 := 83) (i := 23) (r := 40) rfl rfl hI rfl rfl rfl ?_
          refine te_iconst (p2 := 84) (x := 0) rfl rfl (by decide) ?_
          refine te_dup2 (p2 := 85) rfl rfl ⟨rfl, rfl⟩ ?_
          refine tl_e (p2 := 86) (i := 24) (n := 3) (t := 0) (Or.inl rfl) rfl rfl hI rfl rfl (by decide) (by decide) e7 ?_
          refine te_aload_n (p2 := 87) rfl rfl rfl ?_
          refine tg_r (p2 := 90) (i := 0) (r := 88) rfl rfl hI rfl rfl rfl ?_
          refine tg_r (p2 := 93) (i := 72) (r := 90) rfl rfl hI rfl rfl rfl ?_
          refine te_iload_n (p2 := 94) rfl rfl rfl ?_
          refine tl_e (p2 := 95) (i := 74) (n := 12) (t := 0) (Or.inl rfl) rfl rfl hI rfl rfl (by omega) (by omega) e6 ?_
          refine au_sub (p2 := 96) rfl rfl (fun z14 e14 => ?_)
          refine ts_i (p2 := 97) (i := 24) (n := 3) rfl rfl hI rfl rfl rfl rfl (by decide) (by decide) (i32_lo _) (i32_hi _) (i32_ho _) rfl (fun h15 I15 u15 => ?_)
          have f15 := fr_st (F := F_X11_mend) 0 f0 u15 rfl (by decide) (by decide)
          refine te_aload_n (p2 := 98) rfl rfl rfl ?_
          refine tg_r (p2 := 101) (i := 0) (r := 39) rfl rfl I15 rfl rfl rfl ?_
          refine tg_r (p2 := 104) (i := 23) (r := 40) rfl rfl I15 rfl rfl rfl ?_
          refine te_iconst (p2 := 105) (x := 1) rfl rfl (by decide) ?_
          refine te_dup2 (p2 := 106) rfl rfl ⟨rfl, rfl⟩ ?_
          refine tl_e (p2 := 107) (i := 24) (n := 3) (t := 0) (Or.inl rfl) rfl rfl I15 rfl rfl (by decide) (by decide) ((u15.2 _ _ (Or.inr (by decide))).trans e10) ?_
          refine te_aload_n (p2 := 108) rfl rfl rfl ?_
          refine tg_r (p2 := 111) (i := 0) (r := 88) rfl rfl I15 rfl rfl rfl ?_
          refine tg_r (p2 := 114) (i := 72) (r := 91) rfl rfl I15 rfl rfl rfl ?_
          refine te_iload_n (p2 := 115) rfl rfl rfl ?_
          refine tl_e (p2 := 116) (i := 75) (n := 12) (t := 0) (Or.inl rfl) rfl rfl I15 rfl rfl (by omega) (by omega) ((u15.2 _ _ (Or.inl (by decide))).trans e9) ?_
          refine au_sub (p2 := 117) rfl rfl (fun z18 e18 => ?_)
          refine ts_i (p2 := 118) (i := 24) (n := 3) rfl rfl I15 rfl rfl rfl rfl (by decide) (by decide) (i32_lo _) (i32_hi _) (i32_ho _) rfl (fun h19 I19 u19 => ?_)
          have f19 := fr_st (F := F_X11_mend) 0 f15 u19 rfl (by decide) (by decide)
          refine te_aload_n (p2 := 119) rfl rfl rfl ?_
          refine tg_r (p2 := 122) (i := 0) (r := 39) rfl rfl I19 rfl rfl rfl ?_
          refine tg_r (p2 := 125) (i := 23) (r := 49) rfl rfl I19 rfl rfl rfl ?_
          refine te_iload_n (p2 := 126) rfl rfl rfl ?_
          refine te_iconst (p2 := 127) (x := 1) rfl rfl (by decide) ?_
          refine ts_b (p2 := 128) (i := 33) (n := 12) rfl rfl I19 rfl rfl rfl rfl (by omega) (by omega) (by decide) (by decide) rfl (fun h20 I20 u20 => ?_)
          have f20 := fr_st (F := F_X11_mend) 1 f19 u20 rfl (by omega) (by omega)
          refine te_aload_n (p2 := 129) rfl rfl rfl ?_
          refine tg_r (p2 := 132) (i := 0) (r := 39) rfl rfl I20 rfl rfl rfl ?_
          refine tg_r (p2 := 135) (i := 23) (r := 40) rfl rfl I20 rfl rfl rfl ?_
          refine te_iconst (p2 := 136) (x := 0) rfl rfl (by decide) ?_
          refine tl_e (p2 := 137) (i := 24) (n := 3) (t := 0) (Or.inl rfl) rfl rfl I20 rfl rfl (by decide) (by decide) ((u20.2 _ _ (Or.inl (by decide))).trans ((u19.2 _ _ (Or.inr (by decide))).trans u15.1)) ?_
          exact te_iret rfl rfl ⟨I20, f20, _, rfl, trivial⟩
        · refine te_bipush (p2 := 75) (x := (-6)) rfl rfl (by decide) ?_
          exact te_iret rfl rfl ⟨hI, f0, _, rfl, trivial⟩
    · refine te_bipush (p2 := 30) (x := (-3)) rfl rfl (by decide) ?_
      exact te_iret rfl rfl ⟨hI, f0, _, rfl, trivial⟩
  · subst w2
    refine tz_ne (p2 := 14) rfl rfl (show Int32.toInt 0 = 0 from rfl) (fun c22 => absurd c22 (by omega)) (fun c22 => ?_)
    refine te_iconst (p2 := 15) (x := (-1)) rfl rfl (by decide) ?_
    exact te_iret rfl rfl ⟨hI, f0, _, rfl, trivial⟩
abbrev F_X12_mend : List (Nat × Nat × Nat) := [(149, 100, 101), (149, 260, 271)]
set_option maxRecDepth 20000 in
set_option maxHeartbeats 4000000 in
theorem t_X12_mend {x1 : Int32} {h : im_H} (hI : tI h)  : CaP 8 173 [.ref 164, .int x1] h (mI h F_X12_mend (fun _ => True)) := by
  refine cap_of (d := 7) (M := mX12_mend) rfl (Nat.le_of_ble_eq_true rfl) ?_
  show EvP im_K0 7 mX12_mend (0, [(0, .ref 164), (1, .int x1)], [], h) _
  have f0 : fr F_X12_mend h h := fr_rf
  refine te_aload_n (p2 := 1) rfl rfl rfl ?_
  refine te_iload_n (p2 := 2) rfl rfl rfl ?_
  refine cV_pI (p2 := 5) (i := 148) rfl rfl rfl rfl hI rfl rfl rfl (t_X12_isRoom (k := x1) hI) (by decide) (fun y1 r1 => ?_)
  obtain ⟨p1, e1, a1, b1, r1⟩ := r1
  rcases r1 with ⟨w1, c1⟩ | ⟨w1, c1⟩
  · subst w1
    refine tz_ne (p2 := 8) rfl rfl (show Int32.toInt 1 = 1 from rfl) (fun c2 => ?_) (fun c2 => absurd c2 (by omega))
    refine te_aload_n (p2 := 11) rfl rfl rfl ?_
    refine tg_r (p2 := 14) (i := 148) (r := 165) rfl rfl hI rfl rfl rfl ?_
    refine te_sipush (p2 := 17) (x := 260) rfl rfl (by decide) ?_
    refine te_iload_n (p2 := 18) rfl rfl rfl ?_
    refine ar_add (p2 := 19) rfl rfl (show Int32.toInt 260 = 260 from rfl) rfl (by omega) (by omega) (fun z3 e3 f3 => ?_)
    refine tl_i (p2 := 20) (i := 149) (n := 283) rfl rfl hI rfl rfl rfl rfl (by omega) (by omega) (fun y4 a4 b4 g4 e4 => ?_)
    refine te_iconst (p2 := 21) (x := 1) rfl rfl (by decide) ?_
    refine tb_ne (p2 := 24) rfl rfl rfl (show Int32.toInt 1 = 1 from rfl) (fun c5 => ?_) (fun c5 => ?_)
    · refine te_aload_n (p2 := 28) rfl rfl rfl ?_
      refine tg_r (p2 := 31) (i := 148) (r := 186) rfl rfl hI rfl rfl rfl ?_
      refine te_iload_n (p2 := 32) rfl rfl rfl ?_
      refine tl_i (p2 := 33) (i := 170) (n := 12) rfl rfl hI rfl rfl rfl rfl (by omega) (by omega) (fun y6 a6 b6 g6 e6 => ?_)
      refine te_aload_n (p2 := 34) rfl rfl rfl ?_
      refine tg_r (p2 := 37) (i := 148) (r := 165) rfl rfl hI rfl rfl rfl ?_
      refine te_bipush (p2 := 39) (x := 100) rfl rfl (by decide) ?_
      refine tl_i (p2 := 40) (i := 149) (n := 283) rfl rfl hI rfl rfl rfl rfl (by decide) (by decide) (fun y7 a7 b7 g7 e7 => ?_)
      refine tb_gt (p2 := 43) rfl rfl rfl rfl (fun c8 => ?_) (fun c8 => ?_)
      · refine te_bipush (p2 := 61) (x := (-6)) rfl rfl (by decide) ?_
        exact te_iret rfl rfl ⟨hI, f0, _, rfl, trivial⟩
      · refine te_aload_n (p2 := 44) rfl rfl rfl ?_
        refine tg_r (p2 := 47) (i := 148) (r := 187) rfl rfl hI rfl rfl rfl ?_
        refine te_iload_n (p2 := 48) rfl rfl rfl ?_
        refine tl_i (p2 := 49) (i := 171) (n := 12) rfl rfl hI rfl rfl rfl rfl (by omega) (by omega) (fun y9 a9 b9 g9 e9 => ?_)
        refine te_aload_n (p2 := 50) rfl rfl rfl ?_
        refine tg_r (p2 := 53) (i := 148) (r := 165) rfl rfl hI rfl rfl rfl ?_
        refine te_bipush (p2 := 55) (x := 101) rfl rfl (by decide) ?_
        refine tl_i (p2 := 56) (i := 149) (n := 283) rfl rfl hI rfl rfl rfl rfl (by decide) (by decide) (fun y10 a10 b10 g10 e10 => ?_)
        refine tb_le (p2 := 59) rfl rfl rfl rfl (fun c11 => ?_) (fun c11 => ?_)
        · refine te_aload_n (p2 := 63) rfl rfl rfl ?_
          refine tg_r (p2 := 66) (i := 148) (r := 165) rfl rfl hI rfl rfl rfl ?_
          refine te_bipush (p2 := 68) (x := 100) rfl rfl (by decide) ?_
          refine te_dup2 (p2 := 69) rfl rfl ⟨rfl, rfl⟩ ?_
          refine tl_e (p2 := 70) (i := 149) (n := 283) (t := 0) (Or.inl rfl) rfl rfl hI rfl rfl (by decide) (by decide) e7 ?_
          refine te_aload_n (p2 := 71) rfl rfl rfl ?_
          refine tg_r (p2 := 74) (i := 148) (r := 186) rfl rfl hI rfl rfl rfl ?_
          refine te_iload_n (p2 := 75) rfl rfl rfl ?_
          refine tl_e (p2 := 76) (i := 170) (n := 12) (t := 0) (Or.inl rfl) rfl rfl hI rfl rfl (by omega) (by omega) e6 ?_
          refine au_sub (p2 := 77) rfl rfl (fun z14 e14 => ?_)
          refine ts_i (p2 := 78) (i := 149) (n := 283) rfl rfl hI rfl rfl rfl rfl (by decide) (by decide) (i32_lo _) (i32_hi _) (i32_ho _) rfl (fun h15 I15 u15 => ?_)
          have f15 := fr_st (F := F_X12_mend) 0 f0 u15 rfl (by decide) (by decide)
          refine te_aload_n (p2 := 79) rfl rfl rfl ?_
          refine tg_r (p2 := 82) (i := 148) (r := 165) rfl rfl I15 rfl rfl rfl ?_
          refine te_bipush (p2 := 84) (x := 101) rfl rfl (by decide) ?_
          refine te_dup2 (p2 := 85) rfl rfl ⟨rfl, rfl⟩ ?_
          refine tl_e (p2 := 86) (i := 149) (n := 283) (t := 0) (Or.inl rfl) rfl rfl I15 rfl rfl (by decide) (by decide) ((u15.2 _ _ (Or.inr (by decide))).trans e10) ?_
          refine te_aload_n (p2 := 87) rfl rfl rfl ?_
          refine tg_r (p2 := 90) (i := 148) (r := 187) rfl rfl I15 rfl rfl rfl ?_
          refine te_iload_n (p2 := 91) rfl rfl rfl ?_
          refine tl_e (p2 := 92) (i := 171) (n := 12) (t := 0) (Or.inl rfl) rfl rfl I15 rfl rfl (by omega) (by omega) ((u15.2 _ _ (Or.inl (by decide))).trans e9) ?_
          refine au_sub (p2 := 93) rfl rfl (fun z18 e18 => ?_)
          refine ts_i (p2 := 94) (i := 149) (n := 283) rfl rfl I15 rfl rfl rfl rfl (by decide) (by decide) (i32_lo _) (i32_hi _) (i32_ho _) rfl (fun h19 I19 u19 => ?_)
          have f19 := fr_st (F := F_X12_mend) 0 f15 u19 rfl (by decide) (by decide)
          refine te_aload_n (p2 := 95) rfl rfl rfl ?_
          refine tg_r (p2 := 98) (i := 148) (r := 165) rfl rfl I19 rfl rfl rfl ?_
          refine te_sipush (p2 := 101) (x := 260) rfl rfl (by decide) ?_
          refine te_iload_n (p2 := 102) rfl rfl rfl ?_
          refine ar_add (p2 := 103) rfl rfl (show Int32.toInt 260 = 260 from rfl) rfl (by omega) (by omega) (fun z20 e20 f20 => ?_)
          refine te_iconst (p2 := 104) (x := 1) rfl rfl (by decide) ?_
          refine ts_i (p2 := 105) (i := 149) (n := 283) rfl rfl I19 rfl rfl rfl rfl (by omega) (by omega) (i32_lo _) (i32_hi _) (i32_ho _) rfl (fun h21 I21 u21 => ?_)
          have f21 := fr_st (F := F_X12_mend) 1 f19 u21 rfl (by omega) (by omega)
          refine te_aload_n (p2 := 106) rfl rfl rfl ?_
          refine tg_r (p2 := 109) (i := 148) (r := 165) rfl rfl I21 rfl rfl rfl ?_
          refine te_bipush (p2 := 111) (x := 100) rfl rfl (by decide) ?_
          refine tl_i (p2 := 112) (i := 149) (n := 283) rfl rfl I21 rfl rfl rfl rfl (by decide) (by decide) (fun y22 a22 b22 g22 e22 => ?_)
          exact te_iret rfl rfl ⟨I21, f21, _, rfl, trivial⟩
        · refine te_bipush (p2 := 61) (x := (-6)) rfl rfl (by decide) ?_
          exact te_iret rfl rfl ⟨hI, f0, _, rfl, trivial⟩
    · refine te_bipush (p2 := 26) (x := (-3)) rfl rfl (by decide) ?_
      exact te_iret rfl rfl ⟨hI, f0, _, rfl, trivial⟩
  · subst w1
    refine tz_ne (p2 := 8) rfl rfl (show Int32.toInt 0 = 0 from rfl) (fun c23 => absurd c23 (by omega)) (fun c23 => ?_)
    refine te_iconst (p2 := 9) (x := (-1)) rfl rfl (by decide) ?_
    exact te_iret rfl rfl ⟨hI, f0, _, rfl, trivial⟩
abbrev F_X11_roomTold : List (Nat × Nat × Nat) := []
set_option maxRecDepth 20000 in
set_option maxHeartbeats 4000000 in
theorem t_X11_roomTold {x1 : Int32} {x2 : Int32} {h : im_H} (hI : tI h)  : CaP 8 91 [.ref 16, .int x1, .int x2] h (mI h F_X11_roomTold (fun _ => True)) := by
  refine cap_of (d := 7) (M := mX11_roomTold) rfl (Nat.le_of_ble_eq_true rfl) ?_
  show EvP im_K0 7 mX11_roomTold (0, [(0, .ref 16), (1, .int x1), (2, .int x2)], [], h) _
  have f0 : fr F_X11_roomTold h h := fr_rf
  refine te_iload_n (p2 := 1) rfl rfl rfl ?_
  refine te_aload_n (p2 := 2) rfl rfl rfl ?_
  refine tg_r (p2 := 5) (i := 0) (r := 88) rfl rfl hI rfl rfl rfl ?_
  refine tg_i (p2 := 8) (i := 72) rfl rfl hI rfl rfl rfl (fun y1 a1 b1 e1 => ?_)
  refine cS_pI (p2 := 11) rfl rfl rfl rfl (t_X11_within (n := x1) (b := y1) hI ) (by decide) (fun y2 r2 => ?_)
  rcases r2 with ⟨w2, c2⟩ | ⟨w2, c2⟩
  · subst w2
    refine tz_ne (p2 := 14) rfl rfl (show Int32.toInt 1 = 1 from rfl) (fun c3 => ?_) (fun c3 => absurd c3 (by omega))
    refine te_iload_n (p2 := 17) rfl rfl rfl ?_
    by_cases c4 : x2.toInt = 0
    · refine te_tsIn (k := 0) (p2 := 44) rfl c4 (by decide) (by decide) rfl (by decide) ?_
      refine te_aload_n (p2 := 45) rfl rfl rfl ?_
      refine tg_r (p2 := 48) (i := 0) (r := 88) rfl rfl hI rfl rfl rfl ?_
      refine tg_r (p2 := 51) (i := 72) (r := 89) rfl rfl hI rfl rfl rfl ?_
      refine te_iload_n (p2 := 52) rfl rfl rfl ?_
      refine tl_i (p2 := 53) (i := 73) (n := 12) rfl rfl hI rfl rfl rfl rfl (by omega) (by omega) (fun y5 a5 b5 g5 e5 => ?_)
      exact te_iret rfl rfl ⟨hI, f0, _, rfl, trivial⟩
    · by_cases c6 : x2.toInt = 1
      · refine te_tsIn (k := 1) (p2 := 54) rfl c6 (by decide) (by decide) rfl (by decide) ?_
        refine te_aload_n (p2 := 55) rfl rfl rfl ?_
        refine tg_r (p2 := 58) (i := 0) (r := 39) rfl rfl hI rfl rfl rfl ?_
        refine tg_r (p2 := 61) (i := 23) (r := 49) rfl rfl hI rfl rfl rfl ?_
        refine te_iload_n (p2 := 62) rfl rfl rfl ?_
        refine tl_b (p2 := 63) (i := 33) (n := 12) rfl rfl hI rfl rfl rfl rfl (by omega) (by omega) (fun y7 a7 e7 => ?_)
        refine tz_eq (p2 := 66) rfl rfl rfl (fun c8 => ?_) (fun c8 => ?_)
        · refine te_iconst (p2 := 71) (x := 0) rfl rfl (by decide) ?_
          exact te_iret rfl rfl ⟨hI, f0, _, rfl, trivial⟩
        · refine te_iconst (p2 := 67) (x := 1) rfl rfl (by decide) ?_
          refine te_goto rfl ?_
          exact te_iret rfl rfl ⟨hI, f0, _, rfl, trivial⟩
      · by_cases c9 : x2.toInt = 2
        · refine te_tsIn (k := 2) (p2 := 72) rfl c9 (by decide) (by decide) rfl (by decide) ?_
          refine te_aload_n (p2 := 73) rfl rfl rfl ?_
          refine tg_r (p2 := 76) (i := 0) (r := 88) rfl rfl hI rfl rfl rfl ?_
          refine tg_r (p2 := 79) (i := 72) (r := 92) rfl rfl hI rfl rfl rfl ?_
          refine te_iload_n (p2 := 80) rfl rfl rfl ?_
          refine tl_i (p2 := 81) (i := 76) (n := 12) rfl rfl hI rfl rfl rfl rfl (by omega) (by omega) (fun y10 a10 b10 g10 e10 => ?_)
          exact te_iret rfl rfl ⟨hI, f0, _, rfl, trivial⟩
        · refine te_tsOut (p2 := 82) rfl (by omega) (by decide) ?_
          refine te_bipush (p2 := 84) (x := (-2)) rfl rfl (by decide) ?_
          exact te_iret rfl rfl ⟨hI, f0, _, rfl, trivial⟩
  · subst w2
    refine tz_ne (p2 := 14) rfl rfl (show Int32.toInt 0 = 0 from rfl) (fun c11 => absurd c11 (by omega)) (fun c11 => ?_)
    refine te_iconst (p2 := 15) (x := (-1)) rfl rfl (by decide) ?_
    exact te_iret rfl rfl ⟨hI, f0, _, rfl, trivial⟩
abbrev F_X12_roomTold : List (Nat × Nat × Nat) := []
set_option maxRecDepth 20000 in
set_option maxHeartbeats 4000000 in
theorem t_X12_roomTold {x1 : Int32} {x2 : Int32} {h : im_H} (hI : tI h)  : CaP 8 174 [.ref 164, .int x1, .int x2] h (mI h F_X12_roomTold (fun _ => True)) := by
  refine cap_of (d := 7) (M := mX12_roomTold) rfl (Nat.le_of_ble_eq_true rfl) ?_
  show EvP im_K0 7 mX12_roomTold (0, [(0, .ref 164), (1, .int x1), (2, .int x2)], [], h) _
  have f0 : fr F_X12_roomTold h h := fr_rf
  refine te_aload_n (p2 := 1) rfl rfl rfl ?_
  refine te_iload_n (p2 := 2) rfl rfl rfl ?_
  refine cV_pI (p2 := 5) (i := 148) rfl rfl rfl rfl hI rfl rfl rfl (t_X12_isRoom (k := x1) hI) (by decide) (fun y1 r1 => ?_)
  obtain ⟨p1, e1, a1, b1, r1⟩ := r1
  rcases r1 with ⟨w1, c1⟩ | ⟨w1, c1⟩
  · subst w1
    refine tz_ne (p2 := 8) rfl rfl (show Int32.toInt 1 = 1 from rfl) (fun c2 => ?_) (fun c2 => absurd c2 (by omega))
    refine te_iload_n (p2 := 11) rfl rfl rfl ?_
    refine tz_ne (p2 := 14) rfl rfl rfl (fun c3 => ?_) (fun c3 => ?_)
    · refine te_iload_n (p2 := 24) rfl rfl rfl ?_
      refine te_iconst (p2 := 25) (x := 1) rfl rfl (by decide) ?_
      refine tb_ne (p2 := 28) rfl rfl rfl (show Int32.toInt 1 = 1 from rfl) (fun c4 => ?_) (fun c4 => ?_)
      · refine te_iload_n (p2 := 42) rfl rfl rfl ?_
        refine te_iconst (p2 := 43) (x := 2) rfl rfl (by decide) ?_
        refine tb_ne (p2 := 46) rfl rfl rfl (show Int32.toInt 2 = 2 from rfl) (fun c5 => ?_) (fun c5 => ?_)
        · refine te_bipush (p2 := 57) (x := (-2)) rfl rfl (by decide) ?_
          exact te_iret rfl rfl ⟨hI, f0, _, rfl, trivial⟩
        · refine te_aload_n (p2 := 47) rfl rfl rfl ?_
          refine tg_r (p2 := 50) (i := 148) (r := 188) rfl rfl hI rfl rfl rfl ?_
          refine te_iload_n (p2 := 51) rfl rfl rfl ?_
          refine tl_i (p2 := 52) (i := 172) (n := 12) rfl rfl hI rfl rfl rfl rfl (by omega) (by omega) (fun y6 a6 b6 g6 e6 => ?_)
          refine te_goto rfl ?_
          exact te_iret rfl rfl ⟨hI, f0, _, rfl, trivial⟩
      · refine te_aload_n (p2 := 29) rfl rfl rfl ?_
        refine tg_r (p2 := 32) (i := 148) (r := 165) rfl rfl hI rfl rfl rfl ?_
        refine te_sipush (p2 := 35) (x := 260) rfl rfl (by decide) ?_
        refine te_iload_n (p2 := 36) rfl rfl rfl ?_
        refine ar_add (p2 := 37) rfl rfl (show Int32.toInt 260 = 260 from rfl) rfl (by omega) (by omega) (fun z7 e7 f7 => ?_)
        refine tl_i (p2 := 38) (i := 149) (n := 283) rfl rfl hI rfl rfl rfl rfl (by omega) (by omega) (fun y8 a8 b8 g8 e8 => ?_)
        refine te_goto rfl ?_
        exact te_iret rfl rfl ⟨hI, f0, _, rfl, trivial⟩
    · refine te_aload_n (p2 := 15) rfl rfl rfl ?_
      refine tg_r (p2 := 18) (i := 148) (r := 185) rfl rfl hI rfl rfl rfl ?_
      refine te_iload_n (p2 := 19) rfl rfl rfl ?_
      refine tl_i (p2 := 20) (i := 169) (n := 12) rfl rfl hI rfl rfl rfl rfl (by omega) (by omega) (fun y9 a9 b9 g9 e9 => ?_)
      refine te_goto rfl ?_
      exact te_iret rfl rfl ⟨hI, f0, _, rfl, trivial⟩
  · subst w1
    refine tz_ne (p2 := 8) rfl rfl (show Int32.toInt 0 = 0 from rfl) (fun c10 => absurd c10 (by omega)) (fun c10 => ?_)
    refine te_iconst (p2 := 9) (x := (-1)) rfl rfl (by decide) ?_
    exact te_iret rfl rfl ⟨hI, f0, _, rfl, trivial⟩
abbrev F_X11_paper : List (Nat × Nat × Nat) := [(91, 0, 0), (92, 0, 23), (93, 0, 23), (94, 0, 23), (95, 0, 23)]
set_option maxRecDepth 20000 in
set_option maxHeartbeats 4000000 in
theorem t_X11_paper {x1 : Int32} {x2 : Int32} {x3 : Int32} {h : im_H} (hI : tI h)  : CaP 8 96 [.ref 16, .int x1, .int x2, .int x3] h (mI h F_X11_paper (fun _ => True)) := by
  refine cap_of (d := 7) (M := mX11_paper) rfl (Nat.le_of_ble_eq_true rfl) ?_
  show EvP im_K0 7 mX11_paper (0, [(0, .ref 16), (1, .int x1), (2, .int x2), (3, .int x3)], [], h) _
  have f0 : fr F_X11_paper h h := fr_rf
  refine te_iload_n (p2 := 1) rfl rfl rfl ?_
  refine te_bipush (p2 := 3) (x := 12) rfl rfl (by decide) ?_
  refine cS_pI (p2 := 6) rfl rfl rfl rfl (t_X11_within (n := x1) (b := 12) hI ) (by decide) (fun y1 r1 => ?_)
  rcases r1 with ⟨w1, c1⟩ | ⟨w1, c1⟩
  · subst w1
    have cc1_1 := (show Int32.toInt 12 = 12 from rfl)
    refine tz_eq (p2 := 9) rfl rfl (show Int32.toInt 1 = 1 from rfl) (fun c2 => absurd c2 (by omega)) (fun c2 => ?_)
    refine te_iload_n (p2 := 10) rfl rfl rfl ?_
    refine te_aload_n (p2 := 11) rfl rfl rfl ?_
    refine tg_r (p2 := 14) (i := 0) (r := 17) rfl rfl hI rfl rfl rfl ?_
    refine tg_i (p2 := 17) (i := 1) rfl rfl hI rfl rfl rfl (fun y3 a3 b3 e3 => ?_)
    refine cS_pI (p2 := 20) rfl rfl rfl rfl (t_X11_within (n := x2) (b := y3) hI ) (by decide) (fun y4 r4 => ?_)
    rcases r4 with ⟨w4, c4⟩ | ⟨w4, c4⟩
    · subst w4
      refine tz_ne (p2 := 23) rfl rfl (show Int32.toInt 1 = 1 from rfl) (fun c5 => ?_) (fun c5 => absurd c5 (by omega))
      refine te_iload_n (p2 := 26) rfl rfl rfl ?_
      refine te_iconst (p2 := 27) (x := 0) rfl rfl (by decide) ?_
      refine te_sipush (p2 := 30) (x := 2000) rfl rfl (by decide) ?_
      refine cS_pI (p2 := 33) rfl rfl rfl rfl (t_X11_between (n := x3) (a := 0) (b := 2000) hI ) (by decide) (fun y6 r6 => ?_)
      rcases r6 with ⟨w6, c6⟩ | ⟨w6, c6⟩
      · subst w6
        have cc6_1 := (show Int32.toInt 0 = 0 from rfl)
        have cc6_2 := (show Int32.toInt 2000 = 2000 from rfl)
        refine tz_ne (p2 := 36) rfl rfl (show Int32.toInt 1 = 1 from rfl) (fun c7 => ?_) (fun c7 => absurd c7 (by omega))
        refine te_aload_n (p2 := 40) rfl rfl rfl ?_
        refine tg_r (p2 := 43) (i := 0) (r := 107) rfl rfl hI rfl rfl rfl ?_
        refine tg_i (p2 := 46) (i := 91) rfl rfl hI rfl rfl rfl (fun y8 a8 b8 e8 => ?_)
        refine te_bipush (p2 := 48) (x := 24) rfl rfl (by decide) ?_
        refine tb_lt (p2 := 51) rfl rfl rfl (show Int32.toInt 24 = 24 from rfl) (fun c9 => ?_) (fun c9 => ?_)
        · refine te_aload_n (p2 := 55) rfl rfl rfl ?_
          refine tg_r (p2 := 58) (i := 0) (r := 107) rfl rfl hI rfl rfl rfl ?_
          refine tg_e (p2 := 61) (i := 91) (v := .int y8) rfl rfl hI rfl rfl e8 ?_
          refine te_istore (p2 := 63) (lv2 := [(4, .int y8), (0, .ref 16), (1, .int x1), (2, .int x2), (3, .int x3)]) rfl rfl (by decide) rfl ?_
          refine te_aload_n (p2 := 64) rfl rfl rfl ?_
          refine tg_r (p2 := 67) (i := 0) (r := 107) rfl rfl hI rfl rfl rfl ?_
          refine tg_r (p2 := 70) (i := 91) (r := 108) rfl rfl hI rfl rfl rfl ?_
          refine te_iload (p2 := 72) rfl rfl rfl ?_
          refine te_iload_n (p2 := 73) rfl rfl rfl ?_
          refine ts_i (p2 := 74) (i := 92) (n := 24) rfl rfl hI rfl rfl rfl rfl (by omega) (by omega) (i32_lo _) (i32_hi _) (i32_ho _) rfl (fun h10 I10 u10 => ?_)
          have f10 := fr_st (F := F_X11_paper) 1 f0 u10 rfl (by omega) (by omega)
          refine te_aload_n (p2 := 75) rfl rfl rfl ?_
          refine tg_r (p2 := 78) (i := 0) (r := 107) rfl rfl I10 rfl rfl rfl ?_
          refine tg_r (p2 := 81) (i := 91) (r := 109) rfl rfl I10 rfl rfl rfl ?_
          refine te_iload (p2 := 83) rfl rfl rfl ?_
          refine te_iload_n (p2 := 84) rfl rfl rfl ?_
          refine ts_i (p2 := 85) (i := 93) (n := 24) rfl rfl I10 rfl rfl rfl rfl (by omega) (by omega) (i32_lo _) (i32_hi _) (i32_ho _) rfl (fun h11 I11 u11 => ?_)
          have f11 := fr_st (F := F_X11_paper) 2 f10 u11 rfl (by omega) (by omega)
          refine te_aload_n (p2 := 86) rfl rfl rfl ?_
          refine tg_r (p2 := 89) (i := 0) (r := 107) rfl rfl I11 rfl rfl rfl ?_
          refine tg_r (p2 := 92) (i := 91) (r := 110) rfl rfl I11 rfl rfl rfl ?_
          refine te_iload (p2 := 94) rfl rfl rfl ?_
          refine te_iload_n (p2 := 95) rfl rfl rfl ?_
          refine ts_i (p2 := 96) (i := 94) (n := 24) rfl rfl I11 rfl rfl rfl rfl (by omega) (by omega) (i32_lo _) (i32_hi _) (i32_ho _) rfl (fun h12 I12 u12 => ?_)
          have f12 := fr_st (F := F_X11_paper) 3 f11 u12 rfl (by omega) (by omega)
          refine te_aload_n (p2 := 97) rfl rfl rfl ?_
          refine tg_r (p2 := 100) (i := 0) (r := 107) rfl rfl I12 rfl rfl rfl ?_
          refine tg_r (p2 := 103) (i := 91) (r := 111) rfl rfl I12 rfl rfl rfl ?_
          refine te_iload (p2 := 105) rfl rfl rfl ?_
          refine te_aload_n (p2 := 106) rfl rfl rfl ?_
          refine tg_r (p2 := 109) (i := 0) (r := 39) rfl rfl I12 rfl rfl rfl ?_
          refine tg_i (p2 := 112) (i := 23) rfl rfl I12 rfl rfl rfl (fun y13 a13 b13 e13 => ?_)
          refine ts_i (p2 := 113) (i := 95) (n := 24) rfl rfl I12 rfl rfl rfl rfl (by omega) (by omega) (i32_lo _) (i32_hi _) (i32_ho _) rfl (fun h14 I14 u14 => ?_)
          have f14 := fr_st (F := F_X11_paper) 4 f12 u14 rfl (by omega) (by omega)
          refine te_aload_n (p2 := 114) rfl rfl rfl ?_
          refine tg_r (p2 := 117) (i := 0) (r := 107) rfl rfl I14 rfl rfl rfl ?_
          refine te_dup (p2 := 118) rfl rfl rfl ?_
          refine tg_e (p2 := 121) (i := 91) (v := .int y8) rfl rfl I14 rfl rfl ((u14.2 _ _ (Or.inl (by decide))).trans ((u12.2 _ _ (Or.inl (by decide))).trans ((u11.2 _ _ (Or.inl (by decide))).trans ((u10.2 _ _ (Or.inl (by decide))).trans e8)))) ?_
          refine te_iconst (p2 := 122) (x := 1) rfl rfl (by decide) ?_
          refine ar_add (p2 := 123) rfl rfl rfl (show Int32.toInt 1 = 1 from rfl) (by omega) (by omega) (fun z15 e15 f15 => ?_)
          refine tp_i (p2 := 126) (i := 91) rfl rfl I14 rfl rfl (by decide) rfl rfl rfl (by omega) (by omega) (by omega) rfl (fun h16 I16 u16 => ?_)
          have f16 := fr_st (F := F_X11_paper) 0 f14 u16 rfl (by decide) (by decide)
          refine te_iload (p2 := 128) rfl rfl rfl ?_
          exact te_iret rfl rfl ⟨I16, f16, _, rfl, trivial⟩
        · refine te_bipush (p2 := 53) (x := (-4)) rfl rfl (by decide) ?_
          exact te_iret rfl rfl ⟨hI, f0, _, rfl, trivial⟩
      · subst w6
        have cc6_1 := (show Int32.toInt 0 = 0 from rfl)
        have cc6_2 := (show Int32.toInt 2000 = 2000 from rfl)
        refine tz_ne (p2 := 36) rfl rfl (show Int32.toInt 0 = 0 from rfl) (fun c17 => absurd c17 (by omega)) (fun c17 => ?_)
        refine te_bipush (p2 := 38) (x := (-2)) rfl rfl (by decide) ?_
        exact te_iret rfl rfl ⟨hI, f0, _, rfl, trivial⟩
    · subst w4
      refine tz_ne (p2 := 23) rfl rfl (show Int32.toInt 0 = 0 from rfl) (fun c18 => absurd c18 (by omega)) (fun c18 => ?_)
      refine te_iconst (p2 := 24) (x := (-1)) rfl rfl (by decide) ?_
      exact te_iret rfl rfl ⟨hI, f0, _, rfl, trivial⟩
  · subst w1
    have cc1_1 := (show Int32.toInt 12 = 12 from rfl)
    refine tz_eq (p2 := 9) rfl rfl (show Int32.toInt 0 = 0 from rfl) (fun c19 => ?_) (fun c19 => absurd c19 (by omega))
    refine te_iconst (p2 := 24) (x := (-1)) rfl rfl (by decide) ?_
    exact te_iret rfl rfl ⟨hI, f0, _, rfl, trivial⟩
abbrev F_X12_paper : List (Nat × Nat × Nat) := [(148, 35, 35), (178, 0, 23), (179, 0, 23), (180, 0, 23), (181, 0, 23)]
set_option maxRecDepth 20000 in
set_option maxHeartbeats 4000000 in
theorem t_X12_paper {x1 : Int32} {x2 : Int32} {x3 : Int32} {h : im_H} (hI : tI h)  : CaP 8 182 [.ref 164, .int x1, .int x2, .int x3] h (mI h F_X12_paper (fun _ => True)) := by
  refine cap_of (d := 7) (M := mX12_paper) rfl (Nat.le_of_ble_eq_true rfl) ?_
  show EvP im_K0 7 mX12_paper (0, [(0, .ref 164), (1, .int x1), (2, .int x2), (3, .int x3)], [], h) _
  have f0 : fr F_X12_paper h h := fr_rf
  refine te_iload_n (p2 := 1) rfl rfl rfl ?_
  refine te_iconst (p2 := 2) (x := 0) rfl rfl (by decide) ?_
  refine te_bipush (p2 := 4) (x := 11) rfl rfl (by decide) ?_
  refine cS_pI (p2 := 7) rfl rfl rfl rfl (t_X12_in (n := x1) (a := 0) (b := 11) hI ) (by decide) (fun y1 r1 => ?_)
  rcases r1 with ⟨w1, c1⟩ | ⟨w1, c1⟩
  · subst w1
    have cc1_1 := (show Int32.toInt 0 = 0 from rfl)
    have cc1_2 := (show Int32.toInt 11 = 11 from rfl)
    refine tz_eq (p2 := 10) rfl rfl (show Int32.toInt 1 = 1 from rfl) (fun c2 => absurd c2 (by omega)) (fun c2 => ?_)
    refine te_aload_n (p2 := 11) rfl rfl rfl ?_
    refine te_iload_n (p2 := 12) rfl rfl rfl ?_
    refine cV_pI (p2 := 15) (i := 148) rfl rfl rfl rfl hI rfl rfl rfl (t_X12_isPerson (k := x2) hI) (by decide) (fun y3 r3 => ?_)
    obtain ⟨p3, e3, a3, b3, r3⟩ := r3
    rcases r3 with ⟨w3, c3⟩ | ⟨w3, c3⟩
    · subst w3
      refine tz_ne (p2 := 18) rfl rfl (show Int32.toInt 1 = 1 from rfl) (fun c4 => ?_) (fun c4 => absurd c4 (by omega))
      refine te_iload_n (p2 := 21) rfl rfl rfl ?_
      refine te_iconst (p2 := 22) (x := 0) rfl rfl (by decide) ?_
      refine te_sipush (p2 := 25) (x := 2000) rfl rfl (by decide) ?_
      refine cS_pI (p2 := 28) rfl rfl rfl rfl (t_X12_in (n := x3) (a := 0) (b := 2000) hI ) (by decide) (fun y5 r5 => ?_)
      rcases r5 with ⟨w5, c5⟩ | ⟨w5, c5⟩
      · subst w5
        have cc5_1 := (show Int32.toInt 0 = 0 from rfl)
        have cc5_2 := (show Int32.toInt 2000 = 2000 from rfl)
        refine tz_ne (p2 := 31) rfl rfl (show Int32.toInt 1 = 1 from rfl) (fun c6 => ?_) (fun c6 => absurd c6 (by omega))
        refine te_aload_n (p2 := 35) rfl rfl rfl ?_
        refine tg_i (p2 := 38) (i := 148) rfl rfl hI rfl rfl rfl (fun y7 a7 b7 e7 => ?_)
        refine te_bipush (p2 := 40) (x := 24) rfl rfl (by decide) ?_
        refine tb_ne (p2 := 43) rfl rfl rfl (show Int32.toInt 24 = 24 from rfl) (fun c8 => ?_) (fun c8 => ?_)
        · refine te_aload_n (p2 := 47) rfl rfl rfl ?_
          refine tg_r (p2 := 50) (i := 148) (r := 194) rfl rfl hI rfl rfl rfl ?_
          refine te_aload_n (p2 := 51) rfl rfl rfl ?_
          refine tg_e (p2 := 54) (i := 148) (v := .int y7) rfl rfl hI rfl rfl e7 ?_
          refine te_iload_n (p2 := 55) rfl rfl rfl ?_
          refine ts_i (p2 := 56) (i := 178) (n := 24) rfl rfl hI rfl rfl rfl rfl (by omega) (by omega) (i32_lo _) (i32_hi _) (i32_ho _) rfl (fun h9 I9 u9 => ?_)
          have f9 := fr_st (F := F_X12_paper) 1 f0 u9 rfl (by omega) (by omega)
          refine te_aload_n (p2 := 57) rfl rfl rfl ?_
          refine tg_r (p2 := 60) (i := 148) (r := 195) rfl rfl I9 rfl rfl rfl ?_
          refine te_aload_n (p2 := 61) rfl rfl rfl ?_
          refine tg_e (p2 := 64) (i := 148) (v := .int y7) rfl rfl I9 rfl rfl ((u9.2 _ _ (Or.inl (by decide))).trans e7) ?_
          refine te_iload_n (p2 := 65) rfl rfl rfl ?_
          refine ts_i (p2 := 66) (i := 179) (n := 24) rfl rfl I9 rfl rfl rfl rfl (by omega) (by omega) (by omega) (by omega) (by omega) rfl (fun h10 I10 u10 => ?_)
          have f10 := fr_st (F := F_X12_paper) 2 f9 u10 rfl (by omega) (by omega)
          refine te_aload_n (p2 := 67) rfl rfl rfl ?_
          refine tg_r (p2 := 70) (i := 148) (r := 196) rfl rfl I10 rfl rfl rfl ?_
          refine te_aload_n (p2 := 71) rfl rfl rfl ?_
          refine tg_e (p2 := 74) (i := 148) (v := .int y7) rfl rfl I10 rfl rfl ((u10.2 _ _ (Or.inl (by decide))).trans ((u9.2 _ _ (Or.inl (by decide))).trans e7)) ?_
          refine te_iload_n (p2 := 75) rfl rfl rfl ?_
          refine ts_i (p2 := 76) (i := 180) (n := 24) rfl rfl I10 rfl rfl rfl rfl (by omega) (by omega) (i32_lo _) (i32_hi _) (i32_ho _) rfl (fun h11 I11 u11 => ?_)
          have f11 := fr_st (F := F_X12_paper) 3 f10 u11 rfl (by omega) (by omega)
          refine te_aload_n (p2 := 77) rfl rfl rfl ?_
          refine tg_r (p2 := 80) (i := 148) (r := 197) rfl rfl I11 rfl rfl rfl ?_
          refine te_aload_n (p2 := 81) rfl rfl rfl ?_
          refine tg_e (p2 := 84) (i := 148) (v := .int y7) rfl rfl I11 rfl rfl ((u11.2 _ _ (Or.inl (by decide))).trans ((u10.2 _ _ (Or.inl (by decide))).trans ((u9.2 _ _ (Or.inl (by decide))).trans e7))) ?_
          refine te_aload_n (p2 := 85) rfl rfl rfl ?_
          refine tg_r (p2 := 88) (i := 148) (r := 165) rfl rfl I11 rfl rfl rfl ?_
          refine te_bipush (p2 := 90) (x := 105) rfl rfl (by decide) ?_
          refine tl_i (p2 := 91) (i := 149) (n := 283) rfl rfl I11 rfl rfl rfl rfl (by decide) (by decide) (fun y12 a12 b12 g12 e12 => ?_)
          refine ts_i (p2 := 92) (i := 181) (n := 24) rfl rfl I11 rfl rfl rfl rfl (by omega) (by omega) (i32_lo _) (i32_hi _) (i32_ho _) rfl (fun h13 I13 u13 => ?_)
          have f13 := fr_st (F := F_X12_paper) 4 f11 u13 rfl (by omega) (by omega)
          refine te_aload_n (p2 := 93) rfl rfl rfl ?_
          refine te_dup (p2 := 94) rfl rfl rfl ?_
          refine tg_e (p2 := 97) (i := 148) (v := .int y7) rfl rfl I13 rfl rfl ((u13.2 _ _ (Or.inl (by decide))).trans ((u11.2 _ _ (Or.inl (by decide))).trans ((u10.2 _ _ (Or.inl (by decide))).trans ((u9.2 _ _ (Or.inl (by decide))).trans e7)))) ?_
          refine te_iconst (p2 := 98) (x := 1) rfl rfl (by decide) ?_
          refine ar_add (p2 := 99) rfl rfl rfl (show Int32.toInt 1 = 1 from rfl) (by omega) (by omega) (fun z14 e14 f14 => ?_)
          refine tp_i (p2 := 102) (i := 148) rfl rfl I13 rfl rfl (by decide) rfl rfl rfl (by omega) (by omega) (by omega) rfl (fun h15 I15 u15 => ?_)
          have f15 := fr_st (F := F_X12_paper) 0 f13 u15 rfl (by decide) (by decide)
          refine te_aload_n (p2 := 103) rfl rfl rfl ?_
          refine tg_e (p2 := 106) (i := 148) (v := .int z14) rfl rfl I15 rfl rfl u15.1 ?_
          refine te_iconst (p2 := 107) (x := 1) rfl rfl (by decide) ?_
          refine ar_sub (p2 := 108) rfl rfl rfl (show Int32.toInt 1 = 1 from rfl) (by omega) (by omega) (fun z16 e16 f16 => ?_)
          exact te_iret rfl rfl ⟨I15, f15, _, rfl, trivial⟩
        · refine te_bipush (p2 := 45) (x := (-4)) rfl rfl (by decide) ?_
          exact te_iret rfl rfl ⟨hI, f0, _, rfl, trivial⟩
      · subst w5
        have cc5_1 := (show Int32.toInt 0 = 0 from rfl)
        have cc5_2 := (show Int32.toInt 2000 = 2000 from rfl)
        refine tz_ne (p2 := 31) rfl rfl (show Int32.toInt 0 = 0 from rfl) (fun c17 => absurd c17 (by omega)) (fun c17 => ?_)
        refine te_bipush (p2 := 33) (x := (-2)) rfl rfl (by decide) ?_
        exact te_iret rfl rfl ⟨hI, f0, _, rfl, trivial⟩
    · subst w3
      refine tz_ne (p2 := 18) rfl rfl (show Int32.toInt 0 = 0 from rfl) (fun c18 => absurd c18 (by omega)) (fun c18 => ?_)
      refine te_iconst (p2 := 19) (x := (-1)) rfl rfl (by decide) ?_
      exact te_iret rfl rfl ⟨hI, f0, _, rfl, trivial⟩
  · subst w1
    have cc1_1 := (show Int32.toInt 0 = 0 from rfl)
    have cc1_2 := (show Int32.toInt 11 = 11 from rfl)
    refine tz_eq (p2 := 10) rfl rfl (show Int32.toInt 0 = 0 from rfl) (fun c19 => ?_) (fun c19 => absurd c19 (by omega))
    refine te_iconst (p2 := 19) (x := (-1)) rfl rfl (by decide) ?_
    exact te_iret rfl rfl ⟨hI, f0, _, rfl, trivial⟩
abbrev F_X11_burn : List (Nat × Nat × Nat) := [(96, 0, 23)]
set_option maxRecDepth 20000 in
set_option maxHeartbeats 4000000 in
theorem t_X11_burn {x1 : Int32} {h : im_H} (hI : tI h)  : CaP 8 97 [.ref 16, .int x1] h (mI h F_X11_burn (fun _ => True)) := by
  refine cap_of (d := 7) (M := mX11_burn) rfl (Nat.le_of_ble_eq_true rfl) ?_
  show EvP im_K0 7 mX11_burn (0, [(0, .ref 16), (1, .int x1)], [], h) _
  have f0 : fr F_X11_burn h h := fr_rf
  refine te_iload_n (p2 := 1) rfl rfl rfl ?_
  refine te_aload_n (p2 := 2) rfl rfl rfl ?_
  refine tg_r (p2 := 5) (i := 0) (r := 107) rfl rfl hI rfl rfl rfl ?_
  refine tg_i (p2 := 8) (i := 91) rfl rfl hI rfl rfl rfl (fun y1 a1 b1 e1 => ?_)
  refine cS_pI (p2 := 11) rfl rfl rfl rfl (t_X11_within (n := x1) (b := y1) hI ) (by decide) (fun y2 r2 => ?_)
  rcases r2 with ⟨w2, c2⟩ | ⟨w2, c2⟩
  · subst w2
    refine tz_ne (p2 := 14) rfl rfl (show Int32.toInt 1 = 1 from rfl) (fun c3 => ?_) (fun c3 => absurd c3 (by omega))
    refine te_aload_n (p2 := 17) rfl rfl rfl ?_
    refine tg_r (p2 := 20) (i := 0) (r := 107) rfl rfl hI rfl rfl rfl ?_
    refine tg_r (p2 := 23) (i := 91) (r := 112) rfl rfl hI rfl rfl rfl ?_
    refine te_iload_n (p2 := 24) rfl rfl rfl ?_
    refine tl_i (p2 := 25) (i := 96) (n := 24) rfl rfl hI rfl rfl rfl rfl (by omega) (by omega) (fun y4 a4 b4 g4 e4 => ?_)
    refine te_iconst (p2 := 26) (x := (-1)) rfl rfl (by decide) ?_
    refine tb_eq (p2 := 29) rfl rfl rfl (show Int32.toInt (-1) = (-1) from rfl) (fun c5 => ?_) (fun c5 => ?_)
    · refine te_aload_n (p2 := 33) rfl rfl rfl ?_
      refine tg_r (p2 := 36) (i := 0) (r := 107) rfl rfl hI rfl rfl rfl ?_
      refine tg_r (p2 := 39) (i := 91) (r := 112) rfl rfl hI rfl rfl rfl ?_
      refine te_iload_n (p2 := 40) rfl rfl rfl ?_
      refine te_aload_n (p2 := 41) rfl rfl rfl ?_
      refine tg_r (p2 := 44) (i := 0) (r := 39) rfl rfl hI rfl rfl rfl ?_
      refine tg_i (p2 := 47) (i := 23) rfl rfl hI rfl rfl rfl (fun y6 a6 b6 e6 => ?_)
      refine ts_i (p2 := 48) (i := 96) (n := 24) rfl rfl hI rfl rfl rfl rfl (by omega) (by omega) (i32_lo _) (i32_hi _) (i32_ho _) rfl (fun h7 I7 u7 => ?_)
      have f7 := fr_st (F := F_X11_burn) 0 f0 u7 rfl (by omega) (by omega)
      refine te_iconst (p2 := 49) (x := 1) rfl rfl (by decide) ?_
      exact te_iret rfl rfl ⟨I7, f7, _, rfl, trivial⟩
    · refine te_bipush (p2 := 31) (x := (-3)) rfl rfl (by decide) ?_
      exact te_iret rfl rfl ⟨hI, f0, _, rfl, trivial⟩
  · subst w2
    refine tz_ne (p2 := 14) rfl rfl (show Int32.toInt 0 = 0 from rfl) (fun c8 => absurd c8 (by omega)) (fun c8 => ?_)
    refine te_iconst (p2 := 15) (x := (-1)) rfl rfl (by decide) ?_
    exact te_iret rfl rfl ⟨hI, f0, _, rfl, trivial⟩
abbrev F_X12_burn : List (Nat × Nat × Nat) := [(182, 0, 23)]
set_option maxRecDepth 20000 in
set_option maxHeartbeats 4000000 in
theorem t_X12_burn {x1 : Int32} {h : im_H} (hI : tI h)  : CaP 8 183 [.ref 164, .int x1] h (mI h F_X12_burn (fun _ => True)) := by
  refine cap_of (d := 7) (M := mX12_burn) rfl (Nat.le_of_ble_eq_true rfl) ?_
  show EvP im_K0 7 mX12_burn (0, [(0, .ref 164), (1, .int x1)], [], h) _
  have f0 : fr F_X12_burn h h := fr_rf
  refine te_iload_n (p2 := 1) rfl rfl rfl ?_
  refine te_iconst (p2 := 2) (x := 0) rfl rfl (by decide) ?_
  refine te_aload_n (p2 := 3) rfl rfl rfl ?_
  refine tg_i (p2 := 6) (i := 148) rfl rfl hI rfl rfl rfl (fun y1 a1 b1 e1 => ?_)
  refine te_iconst (p2 := 7) (x := 1) rfl rfl (by decide) ?_
  refine ar_sub (p2 := 8) rfl rfl rfl (show Int32.toInt 1 = 1 from rfl) (by omega) (by omega) (fun z2 e2 f2 => ?_)
  refine cS_pI (p2 := 11) rfl rfl rfl rfl (t_X12_in (n := x1) (a := 0) (b := z2) hI ) (by decide) (fun y3 r3 => ?_)
  rcases r3 with ⟨w3, c3⟩ | ⟨w3, c3⟩
  · subst w3
    have cc3_1 := (show Int32.toInt 0 = 0 from rfl)
    refine tz_ne (p2 := 14) rfl rfl (show Int32.toInt 1 = 1 from rfl) (fun c4 => ?_) (fun c4 => absurd c4 (by omega))
    refine te_aload_n (p2 := 17) rfl rfl rfl ?_
    refine tg_r (p2 := 20) (i := 148) (r := 198) rfl rfl hI rfl rfl rfl ?_
    refine te_iload_n (p2 := 21) rfl rfl rfl ?_
    refine tl_i (p2 := 22) (i := 182) (n := 24) rfl rfl hI rfl rfl rfl rfl (by omega) (by omega) (fun y5 a5 b5 g5 e5 => ?_)
    refine te_iconst (p2 := 23) (x := (-1)) rfl rfl (by decide) ?_
    refine tb_eq (p2 := 26) rfl rfl rfl (show Int32.toInt (-1) = (-1) from rfl) (fun c6 => ?_) (fun c6 => ?_)
    · refine te_aload_n (p2 := 30) rfl rfl rfl ?_
      refine tg_r (p2 := 33) (i := 148) (r := 198) rfl rfl hI rfl rfl rfl ?_
      refine te_iload_n (p2 := 34) rfl rfl rfl ?_
      refine te_aload_n (p2 := 35) rfl rfl rfl ?_
      refine tg_r (p2 := 38) (i := 148) (r := 165) rfl rfl hI rfl rfl rfl ?_
      refine te_bipush (p2 := 40) (x := 105) rfl rfl (by decide) ?_
      refine tl_i (p2 := 41) (i := 149) (n := 283) rfl rfl hI rfl rfl rfl rfl (by decide) (by decide) (fun y7 a7 b7 g7 e7 => ?_)
      refine ts_i (p2 := 42) (i := 182) (n := 24) rfl rfl hI rfl rfl rfl rfl (by omega) (by omega) (i32_lo _) (i32_hi _) (i32_ho _) rfl (fun h8 I8 u8 => ?_)
      have f8 := fr_st (F := F_X12_burn) 0 f0 u8 rfl (by omega) (by omega)
      refine te_iconst (p2 := 43) (x := 1) rfl rfl (by decide) ?_
      exact te_iret rfl rfl ⟨I8, f8, _, rfl, trivial⟩
    · refine te_bipush (p2 := 28) (x := (-3)) rfl rfl (by decide) ?_
      exact te_iret rfl rfl ⟨hI, f0, _, rfl, trivial⟩
  · subst w3
    have cc3_1 := (show Int32.toInt 0 = 0 from rfl)
    refine tz_ne (p2 := 14) rfl rfl (show Int32.toInt 0 = 0 from rfl) (fun c9 => absurd c9 (by omega)) (fun c9 => ?_)
    refine te_iconst (p2 := 15) (x := (-1)) rfl rfl (by decide) ?_
    exact te_iret rfl rfl ⟨hI, f0, _, rfl, trivial⟩
