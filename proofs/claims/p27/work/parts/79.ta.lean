abbrev F_X6_choose : List (Nat × Nat × Nat) := [(72, 5, 8)]
set_option maxRecDepth 20000 in
set_option maxHeartbeats 4000000 in
theorem t_X6_choose : ∀ (m : Nat) {r most set sum : Int32} {h : im_H} (_ : tI h) (_ : -1 ≤ r.toInt) (_ : r.toInt ≤ 11) (_ : r.toInt + 1 < m), CaP m 38 [.ref 88, .ref 39, .int r, .int most, .int set, .int sum] h (mV h F_X6_choose) := by
  intro m
  induction m with
  | zero => intro r most set sum h hI p0 p1 hm; exfalso; omega
  | succ m ih =>
    intro r most set sum h hI p0 p1 hm
    refine cap_of (d := m) (M := mX6_choose) rfl (Nat.le_of_ble_eq_true rfl) ?_
    show EvP im_K0 m mX6_choose (0, [(0, .ref 88), (1, .ref 39), (2, .int r), (3, .int most), (4, .int set), (5, .int sum)], [], h) _
    have f0 : fr F_X6_choose h h := fr_rf
    refine te_iload_n (p2 := 1) rfl rfl rfl ?_
    refine tz_ge (p2 := 4) rfl rfl rfl (fun c1 => ?_) (fun c1 => ?_)
    · refine te_aload_n (p2 := 27) rfl rfl rfl ?_
      refine te_aload_n (p2 := 28) rfl rfl rfl ?_
      refine te_iload_n (p2 := 29) rfl rfl rfl ?_
      refine te_iconst (p2 := 30) (x := 1) rfl rfl (by decide) ?_
      refine ar_sub (p2 := 31) rfl rfl rfl (show Int32.toInt 1 = 1 from rfl) (by omega) (by omega) (fun z2 e2 f2 => ?_)
      refine te_iload_n (p2 := 32) rfl rfl rfl ?_
      refine te_iload (p2 := 34) rfl rfl rfl ?_
      refine te_iload (p2 := 36) rfl rfl rfl ?_
      refine cV_mV (p2 := 39) (i := 72) rfl rfl rfl rfl hI rfl rfl rfl (ih (r := z2) (most := most) (set := set) (sum := sum) hI (by omega) (by omega) (by omega)) (Nat.le_refl _) (fun h3 I3 g3 => ?_)
      have f3 := fr_tr (F1 := F_X6_choose) (F := F_X6_choose) f0 g3 (by decide)
      refine te_iload_n (p2 := 40) rfl rfl rfl ?_
      refine tz_le (p2 := 43) rfl rfl rfl (fun c4 => ?_) (fun c4 => ?_)
      · exact te_vret rfl rfl ⟨I3, f3, rfl⟩
      · refine te_aload_n (p2 := 44) rfl rfl rfl ?_
        refine tg_r (p2 := 47) (i := 23) (r := 49) rfl rfl I3 rfl rfl rfl ?_
        refine te_iload_n (p2 := 48) rfl rfl rfl ?_
        refine tl_b (p2 := 49) (i := 33) (n := 12) rfl rfl I3 rfl rfl rfl rfl (by omega) (by omega) (fun y5 a5 e5 => ?_)
        refine tz_ne (p2 := 52) rfl rfl rfl (fun c6 => ?_) (fun c6 => ?_)
        · exact te_vret rfl rfl ⟨I3, f3, rfl⟩
        · refine te_aload_n (p2 := 53) rfl rfl rfl ?_
          refine tg_r (p2 := 56) (i := 72) (r := 90) rfl rfl I3 rfl rfl rfl ?_
          refine te_iload_n (p2 := 57) rfl rfl rfl ?_
          refine tl_i (p2 := 58) (i := 74) (n := 12) rfl rfl I3 rfl rfl rfl rfl (by omega) (by omega) (fun y7 a7 b7 g7 e7 => ?_)
          refine te_aload_n (p2 := 59) rfl rfl rfl ?_
          refine tg_i (p2 := 62) (i := 72) rfl rfl I3 rfl rfl rfl (fun y8 a8 b8 e8 => ?_)
          refine tb_gt (p2 := 65) rfl rfl rfl rfl (fun c9 => ?_) (fun c9 => ?_)
          · exact te_vret rfl rfl ⟨I3, f3, rfl⟩
          · refine te_aload_n (p2 := 66) rfl rfl rfl ?_
            refine tg_r (p2 := 69) (i := 72) (r := 91) rfl rfl I3 rfl rfl rfl ?_
            refine te_iload_n (p2 := 70) rfl rfl rfl ?_
            refine tl_i (p2 := 71) (i := 75) (n := 12) rfl rfl I3 rfl rfl rfl rfl (by omega) (by omega) (fun y10 a10 b10 g10 e10 => ?_)
            refine te_aload_n (p2 := 72) rfl rfl rfl ?_
            refine tg_i (p2 := 75) (i := 72) rfl rfl I3 rfl rfl rfl (fun y11 a11 b11 e11 => ?_)
            refine tb_gt (p2 := 78) rfl rfl rfl rfl (fun c12 => ?_) (fun c12 => ?_)
            · exact te_vret rfl rfl ⟨I3, f3, rfl⟩
            · refine te_aload_n (p2 := 79) rfl rfl rfl ?_
              refine te_dup (p2 := 80) rfl rfl rfl ?_
              refine tg_e (p2 := 83) (i := 72) (v := .int y8) rfl rfl I3 rfl rfl e8 ?_
              refine te_aload_n (p2 := 84) rfl rfl rfl ?_
              refine tg_r (p2 := 87) (i := 72) (r := 90) rfl rfl I3 rfl rfl rfl ?_
              refine te_iload_n (p2 := 88) rfl rfl rfl ?_
              refine tl_e (p2 := 89) (i := 74) (n := 12) (t := 0) (Or.inl rfl) rfl rfl I3 rfl rfl (by omega) (by omega) e7 ?_
              refine au_sub (p2 := 90) rfl rfl (fun z14 e14 => ?_)
              refine tp_i (p2 := 93) (i := 72) rfl rfl I3 rfl rfl (by decide) rfl rfl rfl (i32_lo _) (i32_hi _) (i32_ho _) rfl (fun h15 I15 u15 => ?_)
              have f15 := fr_st (F := F_X6_choose) 0 f3 u15 rfl (by decide) (by decide)
              refine te_aload_n (p2 := 94) rfl rfl rfl ?_
              refine te_dup (p2 := 95) rfl rfl rfl ?_
              refine tg_e (p2 := 98) (i := 72) (v := .int y11) rfl rfl I15 rfl rfl ((u15.2 _ _ (Or.inr (by decide))).trans e11) ?_
              refine te_aload_n (p2 := 99) rfl rfl rfl ?_
              refine tg_r (p2 := 102) (i := 72) (r := 91) rfl rfl I15 rfl rfl rfl ?_
              refine te_iload_n (p2 := 103) rfl rfl rfl ?_
              refine tl_e (p2 := 104) (i := 75) (n := 12) (t := 0) (Or.inl rfl) rfl rfl I15 rfl rfl (by omega) (by omega) ((u15.2 _ _ (Or.inl (by decide))).trans e10) ?_
              refine au_sub (p2 := 105) rfl rfl (fun z17 e17 => ?_)
              refine tp_i (p2 := 108) (i := 72) rfl rfl I15 rfl rfl (by decide) rfl rfl rfl (i32_lo _) (i32_hi _) (i32_ho _) rfl (fun h18 I18 u18 => ?_)
              have f18 := fr_st (F := F_X6_choose) 0 f15 u18 rfl (by decide) (by decide)
              refine te_aload_n (p2 := 109) rfl rfl rfl ?_
              refine te_aload_n (p2 := 110) rfl rfl rfl ?_
              refine te_iload_n (p2 := 111) rfl rfl rfl ?_
              refine te_iconst (p2 := 112) (x := 1) rfl rfl (by decide) ?_
              refine ar_sub (p2 := 113) rfl rfl rfl (show Int32.toInt 1 = 1 from rfl) (by omega) (by omega) (fun z19 e19 f19 => ?_)
              refine te_iload_n (p2 := 114) rfl rfl rfl ?_
              refine te_iconst (p2 := 115) (x := 1) rfl rfl (by decide) ?_
              have n20_most := i32_lo most
              have o20_most := i32_hi most
              refine ar_sub (p2 := 116) rfl rfl rfl (show Int32.toInt 1 = 1 from rfl) (by omega) (by omega) (fun z20 e20 f20 => ?_)
              refine te_iload (p2 := 118) rfl rfl rfl ?_
              refine te_iconst (p2 := 119) (x := 1) rfl rfl (by decide) ?_
              refine te_iload_n (p2 := 120) rfl rfl rfl ?_
              refine au_shl (p2 := 121) rfl rfl (fun z21 e21 => ?_)
              refine au_or (p2 := 122) rfl rfl (fun z22 e22 => ?_)
              refine te_iload (p2 := 124) rfl rfl rfl ?_
              refine te_aload_n (p2 := 125) rfl rfl rfl ?_
              refine tg_r (p2 := 128) (i := 72) (r := 92) rfl rfl I18 rfl rfl rfl ?_
              refine te_iload_n (p2 := 129) rfl rfl rfl ?_
              refine tl_i (p2 := 130) (i := 76) (n := 12) rfl rfl I18 rfl rfl rfl rfl (by omega) (by omega) (fun y23 a23 b23 g23 e23 => ?_)
              refine au_add (p2 := 131) rfl rfl (fun z24 e24 => ?_)
              refine cV_mV (p2 := 134) (i := 72) rfl rfl rfl rfl I18 rfl rfl rfl (ih (r := z19) (most := z20) (set := z22) (sum := z24) I18 (by omega) (by omega) (by omega)) (Nat.le_refl _) (fun h25 I25 g25 => ?_)
              have f25 := fr_tr (F1 := F_X6_choose) (F := F_X6_choose) f18 g25 (by decide)
              refine te_aload_n (p2 := 135) rfl rfl rfl ?_
              refine te_dup (p2 := 136) rfl rfl rfl ?_
              refine tg_i (p2 := 139) (i := 72) rfl rfl I25 rfl rfl rfl (fun y26 a26 b26 e26 => ?_)
              refine te_aload_n (p2 := 140) rfl rfl rfl ?_
              refine tg_r (p2 := 143) (i := 72) (r := 90) rfl rfl I25 rfl rfl rfl ?_
              refine te_iload_n (p2 := 144) rfl rfl rfl ?_
              refine tl_e (p2 := 145) (i := 74) (n := 12) (t := 0) (Or.inl rfl) rfl rfl I25 rfl rfl (by omega) (by omega) ((g25 _ _ rfl).trans ((u18.2 _ _ (Or.inl (by decide))).trans ((u15.2 _ _ (Or.inl (by decide))).trans e7))) ?_
              refine au_add (p2 := 146) rfl rfl (fun z28 e28 => ?_)
              refine tp_i (p2 := 149) (i := 72) rfl rfl I25 rfl rfl (by decide) rfl rfl rfl (i32_lo _) (i32_hi _) (i32_ho _) rfl (fun h29 I29 u29 => ?_)
              have f29 := fr_st (F := F_X6_choose) 0 f25 u29 rfl (by decide) (by decide)
              refine te_aload_n (p2 := 150) rfl rfl rfl ?_
              refine te_dup (p2 := 151) rfl rfl rfl ?_
              refine tg_i (p2 := 154) (i := 72) rfl rfl I29 rfl rfl rfl (fun y30 a30 b30 e30 => ?_)
              refine te_aload_n (p2 := 155) rfl rfl rfl ?_
              refine tg_r (p2 := 158) (i := 72) (r := 91) rfl rfl I29 rfl rfl rfl ?_
              refine te_iload_n (p2 := 159) rfl rfl rfl ?_
              refine tl_e (p2 := 160) (i := 75) (n := 12) (t := 0) (Or.inl rfl) rfl rfl I29 rfl rfl (by omega) (by omega) ((u29.2 _ _ (Or.inl (by decide))).trans ((g25 _ _ rfl).trans ((u18.2 _ _ (Or.inl (by decide))).trans ((u15.2 _ _ (Or.inl (by decide))).trans e10)))) ?_
              refine au_add (p2 := 161) rfl rfl (fun z32 e32 => ?_)
              refine tp_i (p2 := 164) (i := 72) rfl rfl I29 rfl rfl (by decide) rfl rfl rfl (i32_lo _) (i32_hi _) (i32_ho _) rfl (fun h33 I33 u33 => ?_)
              have f33 := fr_st (F := F_X6_choose) 0 f29 u33 rfl (by decide) (by decide)
              exact te_vret rfl rfl ⟨I33, f33, rfl⟩
    · refine te_iload (p2 := 6) rfl rfl rfl ?_
      refine te_aload_n (p2 := 7) rfl rfl rfl ?_
      refine tg_i (p2 := 10) (i := 72) rfl rfl hI rfl rfl rfl (fun y34 a34 b34 e34 => ?_)
      refine tb_le (p2 := 13) rfl rfl rfl rfl (fun c35 => ?_) (fun c35 => ?_)
      · exact te_vret rfl rfl ⟨hI, f0, rfl⟩
      · refine te_aload_n (p2 := 14) rfl rfl rfl ?_
        refine te_iload (p2 := 16) rfl rfl rfl ?_
        refine tp_i (p2 := 19) (i := 72) rfl rfl hI rfl rfl (by decide) rfl rfl rfl (i32_lo _) (i32_hi _) (i32_ho _) rfl (fun h36 I36 u36 => ?_)
        have f36 := fr_st (F := F_X6_choose) 0 f0 u36 rfl (by decide) (by decide)
        refine te_aload_n (p2 := 20) rfl rfl rfl ?_
        refine te_iload (p2 := 22) rfl rfl rfl ?_
        refine tp_i (p2 := 25) (i := 72) rfl rfl I36 rfl rfl (by decide) rfl rfl rfl (i32_lo _) (i32_hi _) (i32_ho _) rfl (fun h37 I37 u37 => ?_)
        have f37 := fr_st (F := F_X6_choose) 0 f36 u37 rfl (by decide) (by decide)
        exact te_vret rfl rfl ⟨I37, f37, rfl⟩
abbrev F_X6_findBest : List (Nat × Nat × Nat) := [(72, 5, 8)]
set_option maxRecDepth 20000 in
set_option maxHeartbeats 4000000 in
theorem t_X6_findBest {most : Int32} {h : im_H} (hI : tI h)  : CaP 15 37 [.ref 88, .ref 39, .int most] h (mI h F_X6_findBest (fun _ => True)) := by
  refine cap_of (d := 14) (M := mX6_findBest) rfl (Nat.le_of_ble_eq_true rfl) ?_
  show EvP im_K0 14 mX6_findBest (0, [(0, .ref 88), (1, .ref 39), (2, .int most)], [], h) _
  have f0 : fr F_X6_findBest h h := fr_rf
  refine te_aload_n (p2 := 1) rfl rfl rfl ?_
  refine te_iconst (p2 := 2) (x := 0) rfl rfl (by decide) ?_
  refine tp_i (p2 := 5) (i := 72) rfl rfl hI rfl rfl (by decide) rfl rfl rfl (i32_lo _) (i32_hi _) (i32_ho _) rfl (fun h1 I1 u1 => ?_)
  have f1 := fr_st (F := F_X6_findBest) 0 f0 u1 rfl (by decide) (by decide)
  refine te_aload_n (p2 := 6) rfl rfl rfl ?_
  refine te_iconst (p2 := 7) (x := 0) rfl rfl (by decide) ?_
  refine tp_i (p2 := 10) (i := 72) rfl rfl I1 rfl rfl (by decide) rfl rfl rfl (i32_lo _) (i32_hi _) (i32_ho _) rfl (fun h2 I2 u2 => ?_)
  have f2 := fr_st (F := F_X6_findBest) 0 f1 u2 rfl (by decide) (by decide)
  refine te_aload_n (p2 := 11) rfl rfl rfl ?_
  refine te_aload_n (p2 := 12) rfl rfl rfl ?_
  refine tg_r (p2 := 15) (i := 23) (r := 40) rfl rfl I2 rfl rfl rfl ?_
  refine te_iconst (p2 := 16) (x := 0) rfl rfl (by decide) ?_
  refine tl_i (p2 := 17) (i := 24) (n := 3) rfl rfl I2 rfl rfl rfl rfl (by decide) (by decide) (fun y3 a3 b3 g3 e3 => ?_)
  refine tp_i (p2 := 20) (i := 72) rfl rfl I2 rfl rfl (by decide) rfl rfl rfl (i32_lo _) (i32_hi _) (i32_ho _) rfl (fun h4 I4 u4 => ?_)
  have f4 := fr_st (F := F_X6_findBest) 0 f2 u4 rfl (by decide) (by decide)
  refine te_aload_n (p2 := 21) rfl rfl rfl ?_
  refine te_aload_n (p2 := 22) rfl rfl rfl ?_
  refine tg_r (p2 := 25) (i := 23) (r := 40) rfl rfl I4 rfl rfl rfl ?_
  refine te_iconst (p2 := 26) (x := 1) rfl rfl (by decide) ?_
  refine tl_i (p2 := 27) (i := 24) (n := 3) rfl rfl I4 rfl rfl rfl rfl (by decide) (by decide) (fun y5 a5 b5 g5 e5 => ?_)
  refine tp_i (p2 := 30) (i := 72) rfl rfl I4 rfl rfl (by decide) rfl rfl rfl (i32_lo _) (i32_hi _) (i32_ho _) rfl (fun h6 I6 u6 => ?_)
  have f6 := fr_st (F := F_X6_findBest) 0 f4 u6 rfl (by decide) (by decide)
  refine te_aload_n (p2 := 31) rfl rfl rfl ?_
  refine te_aload_n (p2 := 32) rfl rfl rfl ?_
  refine te_aload_n (p2 := 33) rfl rfl rfl ?_
  refine tg_i (p2 := 36) (i := 72) rfl rfl I6 rfl rfl rfl (fun y7 a7 b7 e7 => ?_)
  refine te_iconst (p2 := 37) (x := 1) rfl rfl (by decide) ?_
  refine ar_sub (p2 := 38) rfl rfl rfl (show Int32.toInt 1 = 1 from rfl) (by omega) (by omega) (fun z8 e8 f8 => ?_)
  refine te_iload_n (p2 := 39) rfl rfl rfl ?_
  refine te_iconst (p2 := 40) (x := 0) rfl rfl (by decide) ?_
  refine te_iconst (p2 := 41) (x := 0) rfl rfl (by decide) ?_
  refine cV_mV (p2 := 44) (i := 72) rfl rfl rfl rfl I6 rfl rfl rfl (t_X6_choose 13 (r := z8) (most := most) (set := 0) (sum := 0) I6 (by omega) (by omega) (by omega)) (by decide) (fun h9 I9 g9 => ?_)
  have f9 := fr_tr (F1 := F_X6_choose) (F := F_X6_findBest) f6 g9 (by decide)
  refine te_aload_n (p2 := 45) rfl rfl rfl ?_
  refine tg_i (p2 := 48) (i := 72) rfl rfl I9 rfl rfl rfl (fun y10 a10 b10 e10 => ?_)
  exact te_iret rfl rfl ⟨I9, f9, _, rfl, trivial⟩
abbrev F_X11_mends : List (Nat × Nat × Nat) := [(72, 5, 8)]
set_option maxRecDepth 20000 in
set_option maxHeartbeats 4000000 in
theorem t_X11_mends {x1 : Int32} {h : im_H} (hI : tI h)  : CaP 16 88 [.ref 16, .int x1] h (mI h F_X11_mends (fun _ => True)) := by
  refine cap_of (d := 15) (M := mX11_mends) rfl (Nat.le_of_ble_eq_true rfl) ?_
  show EvP im_K0 15 mX11_mends (0, [(0, .ref 16), (1, .int x1)], [], h) _
  have f0 : fr F_X11_mends h h := fr_rf
  refine te_iload_n (p2 := 1) rfl rfl rfl ?_
  refine te_iconst (p2 := 2) (x := 0) rfl rfl (by decide) ?_
  refine te_bipush (p2 := 4) (x := 12) rfl rfl (by decide) ?_
  refine cS_pI (p2 := 7) rfl rfl rfl rfl (t_X11_between (n := x1) (a := 0) (b := 12) hI ) (by decide) (fun y1 r1 => ?_)
  rcases r1 with ⟨w1, c1⟩ | ⟨w1, c1⟩
  · subst w1
    have cc1_1 := (show Int32.toInt 0 = 0 from rfl)
    have cc1_2 := (show Int32.toInt 12 = 12 from rfl)
    refine tz_ne (p2 := 10) rfl rfl (show Int32.toInt 1 = 1 from rfl) (fun c2 => ?_) (fun c2 => absurd c2 (by omega))
    refine te_aload_n (p2 := 14) rfl rfl rfl ?_
    refine tg_r (p2 := 17) (i := 0) (r := 88) rfl rfl hI rfl rfl rfl ?_
    refine te_aload_n (p2 := 18) rfl rfl rfl ?_
    refine tg_r (p2 := 21) (i := 0) (r := 39) rfl rfl hI rfl rfl rfl ?_
    refine te_iload_n (p2 := 22) rfl rfl rfl ?_
    refine cV_mI (p2 := 25) (i := 72) rfl rfl rfl rfl hI rfl rfl rfl (t_X6_findBest (most := x1) hI ) (by decide) (fun y3 h3 I3 g3 r3 => ?_)
    have f3 := fr_tr (F1 := F_X6_findBest) (F := F_X11_mends) f0 g3 (by decide)
    exact te_iret rfl rfl ⟨I3, f3, _, rfl, trivial⟩
  · subst w1
    have cc1_1 := (show Int32.toInt 0 = 0 from rfl)
    have cc1_2 := (show Int32.toInt 12 = 12 from rfl)
    refine tz_ne (p2 := 10) rfl rfl (show Int32.toInt 0 = 0 from rfl) (fun c4 => absurd c4 (by omega)) (fun c4 => ?_)
    refine te_bipush (p2 := 12) (x := (-2)) rfl rfl (by decide) ?_
    exact te_iret rfl rfl ⟨hI, f0, _, rfl, trivial⟩
abbrev F_X12_mends : List (Nat × Nat × Nat) := [(148, 43, 43)]
set_option maxRecDepth 20000 in
set_option maxHeartbeats 4000000 in
theorem t_X12_mends {x1 : Int32} {h : im_H} (hI : tI h)  : CaP 3 170 [.ref 164, .int x1] h (mI h F_X12_mends (fun _ => True)) := by
  refine cap_of (d := 2) (M := mX12_mends) rfl (Nat.le_of_ble_eq_true rfl) ?_
  show EvP im_K0 2 mX12_mends (0, [(0, .ref 164), (1, .int x1)], [], h) _
  have f0 : fr F_X12_mends h h := fr_rf
  refine te_iload_n (p2 := 1) rfl rfl rfl ?_
  refine te_iconst (p2 := 2) (x := 0) rfl rfl (by decide) ?_
  refine te_bipush (p2 := 4) (x := 12) rfl rfl (by decide) ?_
  refine cS_pI (p2 := 7) rfl rfl rfl rfl (t_X12_in (n := x1) (a := 0) (b := 12) hI ) (by decide) (fun y1 r1 => ?_)
  rcases r1 with ⟨w1, c1⟩ | ⟨w1, c1⟩
  · subst w1
    have cc1_1 := (show Int32.toInt 0 = 0 from rfl)
    have cc1_2 := (show Int32.toInt 12 = 12 from rfl)
    refine tz_ne (p2 := 10) rfl rfl (show Int32.toInt 1 = 1 from rfl) (fun c2 => ?_) (fun c2 => absurd c2 (by omega))
    refine te_iconst (p2 := 14) (x := (-1)) rfl rfl (by decide) ?_
    refine te_istore_n (p2 := 15) (lv2 := [(2, .int (-1)), (0, .ref 164), (1, .int x1)]) rfl rfl (by decide) rfl ?_
    refine te_aload_n (p2 := 16) rfl rfl rfl ?_
    refine te_iconst (p2 := 17) (x := 0) rfl rfl (by decide) ?_
    refine tp_i (p2 := 20) (i := 148) rfl rfl hI rfl rfl (by decide) rfl rfl rfl (i32_lo _) (i32_hi _) (i32_ho _) rfl (fun h3 I3 u3 => ?_)
    have f3 := fr_st (F := F_X12_mends) 0 f0 u3 rfl (by decide) (by decide)
    refine te_iconst (p2 := 21) (x := 0) rfl rfl (by decide) ?_
    refine te_istore_n (p2 := 22) (lv2 := [(3, .int 0), (2, .int (-1)), (0, .ref 164), (1, .int x1)]) rfl rfl (by decide) rfl ?_
    have lp4 : ∀ (n4 : Nat) (v4_2 v4_3 : Int32) (h4 : im_H), tI h4 → fr F_X12_mends h h4 → 0 ≤ v4_3.toInt → v4_3.toInt ≤ 4096 → 4096 - v4_3.toInt < (n4 : Int) → EvP im_K0 2 mX12_mends (22, [(0, .ref 164), (1, .int x1), (2, .int v4_2), (3, .int v4_3)], [], h4) (mI h F_X12_mends (fun _ => True)) := by
      intro n4
      induction n4 with
      | zero => intro v4_2 v4_3 h4 I4 f4 a4_3 b4_3 m4; exfalso; omega
      | succ n4 ih4 =>
        intro v4_2 v4_3 h4 I4 f4 a4_3 b4_3 m4
        refine te_iload_n (p2 := 23) rfl rfl rfl ?_
        refine te_iconst (p2 := 24) (x := 1) rfl rfl (by decide) ?_
        refine te_aload_n (p2 := 25) rfl rfl rfl ?_
        refine tg_i (p2 := 28) (i := 148) rfl rfl I4 rfl rfl rfl (fun y5 a5 b5 e5 => ?_)
        refine au_shl (p2 := 29) rfl rfl (fun z6 e6 => ?_)
        obtain ⟨a7, b7⟩ := shl12 (r := y5) (by omega) (by omega)
        rw [e6] at a7 b7
        refine tb_ge (p2 := 32) rfl rfl rfl rfl (fun c8 => ?_) (fun c8 => ?_)
        · refine te_iload_n (p2 := 196) rfl rfl rfl ?_
          exact te_iret rfl rfl ⟨I4, f4, _, rfl, trivial⟩
        · refine te_iconst (p2 := 33) (x := 0) rfl rfl (by decide) ?_
          refine te_istore (p2 := 35) (lv2 := [(4, .int 0), (0, .ref 164), (1, .int x1), (2, .int v4_2), (3, .int v4_3)]) rfl rfl (by decide) rfl ?_
          refine te_iconst (p2 := 36) (x := 0) rfl rfl (by decide) ?_
          refine te_istore (p2 := 38) (lv2 := [(5, .int 0), (4, .int 0), (0, .ref 164), (1, .int x1), (2, .int v4_2), (3, .int v4_3)]) rfl rfl (by decide) rfl ?_
          refine te_iconst (p2 := 39) (x := 0) rfl rfl (by decide) ?_
          refine te_istore (p2 := 41) (lv2 := [(6, .int 0), (5, .int 0), (4, .int 0), (0, .ref 164), (1, .int x1), (2, .int v4_2), (3, .int v4_3)]) rfl rfl (by decide) rfl ?_
          refine te_iconst (p2 := 42) (x := 0) rfl rfl (by decide) ?_
          refine te_istore (p2 := 44) (lv2 := [(7, .int 0), (6, .int 0), (5, .int 0), (4, .int 0), (0, .ref 164), (1, .int x1), (2, .int v4_2), (3, .int v4_3)]) rfl rfl (by decide) rfl ?_
          refine te_iconst (p2 := 45) (x := 1) rfl rfl (by decide) ?_
          refine te_istore (p2 := 47) (lv2 := [(8, .int 1), (7, .int 0), (6, .int 0), (5, .int 0), (4, .int 0), (0, .ref 164), (1, .int x1), (2, .int v4_2), (3, .int v4_3)]) rfl rfl (by decide) rfl ?_
          refine te_iconst (p2 := 48) (x := 0) rfl rfl (by decide) ?_
          refine te_istore (p2 := 50) (lv2 := [(9, .int 0), (8, .int 1), (7, .int 0), (6, .int 0), (5, .int 0), (4, .int 0), (0, .ref 164), (1, .int x1), (2, .int v4_2), (3, .int v4_3)]) rfl rfl (by decide) rfl ?_
          have lp9 : ∀ (n9 : Nat) (v9_4 v9_5 v9_6 v9_7 v9_8 v9_9 : Int32) , 0 ≤ v9_8.toInt → v9_8.toInt ≤ 1 → 0 ≤ v9_9.toInt → v9_9.toInt ≤ 12 → 12 - v9_9.toInt < (n9 : Int) → EvP im_K0 2 mX12_mends (50, [(0, .ref 164), (1, .int x1), (2, .int v4_2), (3, .int v4_3), (4, .int v9_4), (5, .int v9_5), (6, .int v9_6), (7, .int v9_7), (8, .int v9_8), (9, .int v9_9)], [], h4) (mI h F_X12_mends (fun _ => True)) := by
            intro n9
            induction n9 with
            | zero => intro v9_4 v9_5 v9_6 v9_7 v9_8 v9_9 a9_8 b9_8 a9_9 b9_9 m9; exfalso; omega
            | succ n9 ih9 =>
              intro v9_4 v9_5 v9_6 v9_7 v9_8 v9_9 a9_8 b9_8 a9_9 b9_9 m9
              refine te_iload (p2 := 52) rfl rfl rfl ?_
              refine te_aload_n (p2 := 53) rfl rfl rfl ?_
              refine tg_e (p2 := 56) (i := 148) (v := .int y5) rfl rfl I4 rfl rfl e5 ?_
              refine tb_ge (p2 := 59) rfl rfl rfl rfl (fun c10 => ?_) (fun c10 => ?_)
              · refine te_iload (p2 := 142) rfl rfl rfl ?_
                refine tz_eq (p2 := 145) rfl rfl rfl (fun c11 => ?_) (fun c11 => ?_)
                · refine ar_inc (p2 := 192) (x := v4_3) rfl rfl (by decide) rfl (by decide) rfl (by omega) (by omega) (fun z12 e12 f12 => ?_)
                  show EvP _ _ _ (192, [(3, .int z12), (0, .ref 164), (1, .int x1), (2, .int v4_2), (4, .int v9_4), (5, .int v9_5), (6, .int v9_6), (7, .int v9_7), (8, .int v9_8), (9, .int v9_9)], [], h4) _
                  refine te_goto rfl ?_
                  refine te_lv [(0, .ref 164), (1, .int x1), (2, .int v4_2), (3, .int z12)] rfl rfl ⟨rfl, rfl, rfl, rfl, trivial⟩ ?_
                  exact ih4 v4_2 z12 h4 I4 f4 (by omega) (by omega) (by omega)
                · refine te_iload (p2 := 147) rfl rfl rfl ?_
                  refine te_iload_n (p2 := 148) rfl rfl rfl ?_
                  refine tb_gt (p2 := 151) rfl rfl rfl rfl (fun c13 => ?_) (fun c13 => ?_)
                  · refine ar_inc (p2 := 192) (x := v4_3) rfl rfl (by decide) rfl (by decide) rfl (by omega) (by omega) (fun z14 e14 f14 => ?_)
                    show EvP _ _ _ (192, [(3, .int z14), (0, .ref 164), (1, .int x1), (2, .int v4_2), (4, .int v9_4), (5, .int v9_5), (6, .int v9_6), (7, .int v9_7), (8, .int v9_8), (9, .int v9_9)], [], h4) _
                    refine te_goto rfl ?_
                    refine te_lv [(0, .ref 164), (1, .int x1), (2, .int v4_2), (3, .int z14)] rfl rfl ⟨rfl, rfl, rfl, rfl, trivial⟩ ?_
                    exact ih4 v4_2 z14 h4 I4 f4 (by omega) (by omega) (by omega)
                  · refine te_iload (p2 := 153) rfl rfl rfl ?_
                    refine te_aload_n (p2 := 154) rfl rfl rfl ?_
                    refine tg_r (p2 := 157) (i := 148) (r := 165) rfl rfl I4 rfl rfl rfl ?_
                    refine te_bipush (p2 := 159) (x := 100) rfl rfl (by decide) ?_
                    refine tl_i (p2 := 160) (i := 149) (n := 283) rfl rfl I4 rfl rfl rfl rfl (by decide) (by decide) (fun y15 a15 b15 g15 e15 => ?_)
                    refine tb_gt (p2 := 163) rfl rfl rfl rfl (fun c16 => ?_) (fun c16 => ?_)
                    · refine ar_inc (p2 := 192) (x := v4_3) rfl rfl (by decide) rfl (by decide) rfl (by omega) (by omega) (fun z17 e17 f17 => ?_)
                      show EvP _ _ _ (192, [(3, .int z17), (0, .ref 164), (1, .int x1), (2, .int v4_2), (4, .int v9_4), (5, .int v9_5), (6, .int v9_6), (7, .int v9_7), (8, .int v9_8), (9, .int v9_9)], [], h4) _
                      refine te_goto rfl ?_
                      refine te_lv [(0, .ref 164), (1, .int x1), (2, .int v4_2), (3, .int z17)] rfl rfl ⟨rfl, rfl, rfl, rfl, trivial⟩ ?_
                      exact ih4 v4_2 z17 h4 I4 f4 (by omega) (by omega) (by omega)
                    · refine te_iload (p2 := 165) rfl rfl rfl ?_
                      refine te_aload_n (p2 := 166) rfl rfl rfl ?_
                      refine tg_r (p2 := 169) (i := 148) (r := 165) rfl rfl I4 rfl rfl rfl ?_
                      refine te_bipush (p2 := 171) (x := 101) rfl rfl (by decide) ?_
                      refine tl_i (p2 := 172) (i := 149) (n := 283) rfl rfl I4 rfl rfl rfl rfl (by decide) (by decide) (fun y18 a18 b18 g18 e18 => ?_)
                      refine tb_gt (p2 := 175) rfl rfl rfl rfl (fun c19 => ?_) (fun c19 => ?_)
                      · refine ar_inc (p2 := 192) (x := v4_3) rfl rfl (by decide) rfl (by decide) rfl (by omega) (by omega) (fun z20 e20 f20 => ?_)
                        show EvP _ _ _ (192, [(3, .int z20), (0, .ref 164), (1, .int x1), (2, .int v4_2), (4, .int v9_4), (5, .int v9_5), (6, .int v9_6), (7, .int v9_7), (8, .int v9_8), (9, .int v9_9)], [], h4) _
                        refine te_goto rfl ?_
                        refine te_lv [(0, .ref 164), (1, .int x1), (2, .int v4_2), (3, .int z20)] rfl rfl ⟨rfl, rfl, rfl, rfl, trivial⟩ ?_
                        exact ih4 v4_2 z20 h4 I4 f4 (by omega) (by omega) (by omega)
                      · refine te_iload (p2 := 177) rfl rfl rfl ?_
                        refine te_iload_n (p2 := 178) rfl rfl rfl ?_
                        refine tb_le (p2 := 181) rfl rfl rfl rfl (fun c21 => ?_) (fun c21 => ?_)
                        · refine ar_inc (p2 := 192) (x := v4_3) rfl rfl (by decide) rfl (by decide) rfl (by omega) (by omega) (fun z22 e22 f22 => ?_)
                          show EvP _ _ _ (192, [(3, .int z22), (0, .ref 164), (1, .int x1), (2, .int v4_2), (4, .int v9_4), (5, .int v9_5), (6, .int v9_6), (7, .int v9_7), (8, .int v9_8), (9, .int v9_9)], [], h4) _
                          refine te_goto rfl ?_
                          refine te_lv [(0, .ref 164), (1, .int x1), (2, .int v4_2), (3, .int z22)] rfl rfl ⟨rfl, rfl, rfl, rfl, trivial⟩ ?_
                          exact ih4 v4_2 z22 h4 I4 f4 (by omega) (by omega) (by omega)
                        · refine te_iload (p2 := 183) rfl rfl rfl ?_
                          refine te_istore_n (p2 := 184) (lv2 := [(2, .int v9_7), (0, .ref 164), (1, .int x1), (3, .int v4_3), (4, .int v9_4), (5, .int v9_5), (6, .int v9_6), (7, .int v9_7), (8, .int v9_8), (9, .int v9_9)]) rfl rfl (by decide) rfl ?_
                          refine te_aload_n (p2 := 185) rfl rfl rfl ?_
                          refine te_iload_n (p2 := 186) rfl rfl rfl ?_
                          refine tp_i (p2 := 189) (i := 148) rfl rfl I4 rfl rfl (by decide) rfl rfl rfl (i32_lo _) (i32_hi _) (i32_ho _) rfl (fun h23 I23 u23 => ?_)
                          have f23 := fr_st (F := F_X12_mends) 0 f4 u23 rfl (by decide) (by decide)
                          refine ar_inc (p2 := 192) (x := v4_3) rfl rfl (by decide) rfl (by decide) rfl (by omega) (by omega) (fun z24 e24 f24 => ?_)
                          show EvP _ _ _ (192, [(3, .int z24), (2, .int v9_7), (0, .ref 164), (1, .int x1), (4, .int v9_4), (5, .int v9_5), (6, .int v9_6), (7, .int v9_7), (8, .int v9_8), (9, .int v9_9)], [], h23) _
                          refine te_goto rfl ?_
                          refine te_lv [(0, .ref 164), (1, .int x1), (2, .int v9_7), (3, .int z24)] rfl rfl ⟨rfl, rfl, rfl, rfl, trivial⟩ ?_
                          exact ih4 v9_7 z24 h23 I23 f23 (by omega) (by omega) (by omega)
              · refine te_iload_n (p2 := 60) rfl rfl rfl ?_
                refine te_iload (p2 := 62) rfl rfl rfl ?_
                refine au_shr (p2 := 63) rfl rfl (fun z25 e25 => ?_)
                refine te_iconst (p2 := 64) (x := 1) rfl rfl (by decide) ?_
                refine au_and (p2 := 65) rfl rfl (fun z26 e26 => ?_)
                refine te_iconst (p2 := 66) (x := 1) rfl rfl (by decide) ?_
                refine tb_ne (p2 := 69) rfl rfl rfl (show Int32.toInt 1 = 1 from rfl) (fun c27 => ?_) (fun c27 => ?_)
                · refine ar_inc (p2 := 137) (x := v9_9) rfl rfl (by decide) rfl (by decide) rfl (by omega) (by omega) (fun z28 e28 f28 => ?_)
                  show EvP _ _ _ (137, [(9, .int z28), (0, .ref 164), (1, .int x1), (2, .int v4_2), (3, .int v4_3), (4, .int v9_4), (5, .int v9_5), (6, .int v9_6), (7, .int v9_7), (8, .int v9_8)], [], h4) _
                  refine te_goto rfl ?_
                  refine te_lv [(0, .ref 164), (1, .int x1), (2, .int v4_2), (3, .int v4_3), (4, .int v9_4), (5, .int v9_5), (6, .int v9_6), (7, .int v9_7), (8, .int v9_8), (9, .int z28)] rfl rfl ⟨rfl, rfl, rfl, rfl, rfl, rfl, rfl, rfl, rfl, rfl, trivial⟩ ?_
                  exact ih9 v9_4 v9_5 v9_6 v9_7 v9_8 z28 (by omega) (by omega) (by omega) (by omega) (by omega)
                · refine au_inc (p2 := 72) (x := v9_4) rfl rfl (by decide) rfl (fun z29 e29 => ?_)
                  show EvP _ _ _ (72, [(4, .int z29), (0, .ref 164), (1, .int x1), (2, .int v4_2), (3, .int v4_3), (5, .int v9_5), (6, .int v9_6), (7, .int v9_7), (8, .int v9_8), (9, .int v9_9)], [], h4) _
                  refine te_iload (p2 := 74) rfl rfl rfl ?_
                  refine te_aload_n (p2 := 75) rfl rfl rfl ?_
                  refine tg_r (p2 := 78) (i := 148) (r := 186) rfl rfl I4 rfl rfl rfl ?_
                  refine te_iload (p2 := 80) rfl rfl rfl ?_
                  refine tl_i (p2 := 81) (i := 170) (n := 12) rfl rfl I4 rfl rfl rfl rfl (by omega) (by omega) (fun y30 a30 b30 g30 e30 => ?_)
                  refine au_add (p2 := 82) rfl rfl (fun z31 e31 => ?_)
                  refine te_istore (p2 := 84) (lv2 := [(5, .int z31), (4, .int z29), (0, .ref 164), (1, .int x1), (2, .int v4_2), (3, .int v4_3), (6, .int v9_6), (7, .int v9_7), (8, .int v9_8), (9, .int v9_9)]) rfl rfl (by decide) rfl ?_
                  refine te_iload (p2 := 86) rfl rfl rfl ?_
                  refine te_aload_n (p2 := 87) rfl rfl rfl ?_
                  refine tg_r (p2 := 90) (i := 148) (r := 187) rfl rfl I4 rfl rfl rfl ?_
                  refine te_iload (p2 := 92) rfl rfl rfl ?_
                  refine tl_i (p2 := 93) (i := 171) (n := 12) rfl rfl I4 rfl rfl rfl rfl (by omega) (by omega) (fun y32 a32 b32 g32 e32 => ?_)
                  refine au_add (p2 := 94) rfl rfl (fun z33 e33 => ?_)
                  refine te_istore (p2 := 96) (lv2 := [(6, .int z33), (5, .int z31), (4, .int z29), (0, .ref 164), (1, .int x1), (2, .int v4_2), (3, .int v4_3), (7, .int v9_7), (8, .int v9_8), (9, .int v9_9)]) rfl rfl (by decide) rfl ?_
                  refine te_iload (p2 := 98) rfl rfl rfl ?_
                  refine te_aload_n (p2 := 99) rfl rfl rfl ?_
                  refine tg_r (p2 := 102) (i := 148) (r := 188) rfl rfl I4 rfl rfl rfl ?_
                  refine te_iload (p2 := 104) rfl rfl rfl ?_
                  refine tl_i (p2 := 105) (i := 172) (n := 12) rfl rfl I4 rfl rfl rfl rfl (by omega) (by omega) (fun y34 a34 b34 g34 e34 => ?_)
                  refine au_add (p2 := 106) rfl rfl (fun z35 e35 => ?_)
                  refine te_istore (p2 := 108) (lv2 := [(7, .int z35), (6, .int z33), (5, .int z31), (4, .int z29), (0, .ref 164), (1, .int x1), (2, .int v4_2), (3, .int v4_3), (8, .int v9_8), (9, .int v9_9)]) rfl rfl (by decide) rfl ?_
                  refine te_iload (p2 := 110) rfl rfl rfl ?_
                  refine tz_eq (p2 := 113) rfl rfl rfl (fun c36 => ?_) (fun c36 => ?_)
                  · refine te_iconst (p2 := 132) (x := 0) rfl rfl (by decide) ?_
                    refine te_istore (p2 := 134) (lv2 := [(8, .int 0), (7, .int z35), (6, .int z33), (5, .int z31), (4, .int z29), (0, .ref 164), (1, .int x1), (2, .int v4_2), (3, .int v4_3), (9, .int v9_9)]) rfl rfl (by decide) rfl ?_
                    refine ar_inc (p2 := 137) (x := v9_9) rfl rfl (by decide) rfl (by decide) rfl (by omega) (by omega) (fun z37 e37 f37 => ?_)
                    show EvP _ _ _ (137, [(9, .int z37), (8, .int 0), (7, .int z35), (6, .int z33), (5, .int z31), (4, .int z29), (0, .ref 164), (1, .int x1), (2, .int v4_2), (3, .int v4_3)], [], h4) _
                    refine te_goto rfl ?_
                    refine te_lv [(0, .ref 164), (1, .int x1), (2, .int v4_2), (3, .int v4_3), (4, .int z29), (5, .int z31), (6, .int z33), (7, .int z35), (8, .int 0), (9, .int z37)] rfl rfl ⟨rfl, rfl, rfl, rfl, rfl, rfl, rfl, rfl, rfl, rfl, trivial⟩ ?_
                    exact ih9 z29 z31 z33 z35 0 z37 (by decide) (by decide) (by omega) (by omega) (by have cc0 := (show Int32.toInt 0 = 0 from rfl); omega)
                  · refine te_aload_n (p2 := 114) rfl rfl rfl ?_
                    refine tg_r (p2 := 117) (i := 148) (r := 165) rfl rfl I4 rfl rfl rfl ?_
                    refine te_sipush (p2 := 120) (x := 260) rfl rfl (by decide) ?_
                    refine te_iload (p2 := 122) rfl rfl rfl ?_
                    refine ar_add (p2 := 123) rfl rfl (show Int32.toInt 260 = 260 from rfl) rfl (by omega) (by omega) (fun z38 e38 f38 => ?_)
                    refine tl_i (p2 := 124) (i := 149) (n := 283) rfl rfl I4 rfl rfl rfl rfl (by omega) (by omega) (fun y39 a39 b39 g39 e39 => ?_)
                    refine tz_ne (p2 := 127) rfl rfl rfl (fun c40 => ?_) (fun c40 => ?_)
                    · refine te_iconst (p2 := 132) (x := 0) rfl rfl (by decide) ?_
                      refine te_istore (p2 := 134) (lv2 := [(8, .int 0), (7, .int z35), (6, .int z33), (5, .int z31), (4, .int z29), (0, .ref 164), (1, .int x1), (2, .int v4_2), (3, .int v4_3), (9, .int v9_9)]) rfl rfl (by decide) rfl ?_
                      refine ar_inc (p2 := 137) (x := v9_9) rfl rfl (by decide) rfl (by decide) rfl (by omega) (by omega) (fun z41 e41 f41 => ?_)
                      show EvP _ _ _ (137, [(9, .int z41), (8, .int 0), (7, .int z35), (6, .int z33), (5, .int z31), (4, .int z29), (0, .ref 164), (1, .int x1), (2, .int v4_2), (3, .int v4_3)], [], h4) _
                      refine te_goto rfl ?_
                      refine te_lv [(0, .ref 164), (1, .int x1), (2, .int v4_2), (3, .int v4_3), (4, .int z29), (5, .int z31), (6, .int z33), (7, .int z35), (8, .int 0), (9, .int z41)] rfl rfl ⟨rfl, rfl, rfl, rfl, rfl, rfl, rfl, rfl, rfl, rfl, trivial⟩ ?_
                      exact ih9 z29 z31 z33 z35 0 z41 (by decide) (by decide) (by omega) (by omega) (by have cc0 := (show Int32.toInt 0 = 0 from rfl); omega)
                    · refine te_iconst (p2 := 128) (x := 1) rfl rfl (by decide) ?_
                      refine te_goto rfl ?_
                      refine te_istore (p2 := 134) (lv2 := [(8, .int 1), (7, .int z35), (6, .int z33), (5, .int z31), (4, .int z29), (0, .ref 164), (1, .int x1), (2, .int v4_2), (3, .int v4_3), (9, .int v9_9)]) rfl rfl (by decide) rfl ?_
                      refine ar_inc (p2 := 137) (x := v9_9) rfl rfl (by decide) rfl (by decide) rfl (by omega) (by omega) (fun z42 e42 f42 => ?_)
                      show EvP _ _ _ (137, [(9, .int z42), (8, .int 1), (7, .int z35), (6, .int z33), (5, .int z31), (4, .int z29), (0, .ref 164), (1, .int x1), (2, .int v4_2), (3, .int v4_3)], [], h4) _
                      refine te_goto rfl ?_
                      refine te_lv [(0, .ref 164), (1, .int x1), (2, .int v4_2), (3, .int v4_3), (4, .int z29), (5, .int z31), (6, .int z33), (7, .int z35), (8, .int 1), (9, .int z42)] rfl rfl ⟨rfl, rfl, rfl, rfl, rfl, rfl, rfl, rfl, rfl, rfl, trivial⟩ ?_
                      exact ih9 z29 z31 z33 z35 1 z42 (by decide) (by decide) (by omega) (by omega) (by have cc0 := (show Int32.toInt 1 = 1 from rfl); omega)
          refine te_lv [(0, .ref 164), (1, .int x1), (2, .int v4_2), (3, .int v4_3), (4, .int 0), (5, .int 0), (6, .int 0), (7, .int 0), (8, .int 1), (9, .int 0)] rfl rfl ⟨rfl, rfl, rfl, rfl, rfl, rfl, rfl, rfl, rfl, rfl, trivial⟩ ?_
          exact lp9 13 0 0 0 0 1 0 (by decide) (by decide) (by decide) (by decide) (by have cc0 := (show Int32.toInt 0 = 0 from rfl); have cc1 := (show Int32.toInt 1 = 1 from rfl); omega)
    refine te_lv [(0, .ref 164), (1, .int x1), (2, .int (-1)), (3, .int 0)] rfl rfl ⟨rfl, rfl, rfl, rfl, trivial⟩ ?_
    exact lp4 4097 (-1) 0 h3 I3 f3 (by decide) (by decide) (by have cc0 := (show Int32.toInt (-1) = (-1) from rfl); have cc1 := (show Int32.toInt 0 = 0 from rfl); omega)
  · subst w1
    have cc1_1 := (show Int32.toInt 0 = 0 from rfl)
    have cc1_2 := (show Int32.toInt 12 = 12 from rfl)
    refine tz_ne (p2 := 10) rfl rfl (show Int32.toInt 0 = 0 from rfl) (fun c43 => absurd c43 (by omega)) (fun c43 => ?_)
    refine te_bipush (p2 := 12) (x := (-2)) rfl rfl (by decide) ?_
    exact te_iret rfl rfl ⟨hI, f0, _, rfl, trivial⟩
set_option maxRecDepth 20000 in
set_option maxHeartbeats 4000000 in
theorem t_X12_byteHere  {h : im_H} (hI : tI h)  : CaP 1 135 [.ref 164] h (pI h (fun y => ∃ a t : Int32, rd h 148 60 = some (.int a) ∧ rd h 148 45 = some (.int t) ∧ 0 ≤ a.toInt ∧ a.toInt ≤ 160 ∧ 0 ≤ t.toInt ∧ t.toInt ≤ 160 ∧ (a.toInt < t.toInt ∨ y = -1))) := by
  refine cap_of (d := 0) (M := mX12_byteHere) rfl (Nat.le_of_ble_eq_true rfl) ?_
  show EvP im_K0 0 mX12_byteHere (0, [(0, .ref 164)], [], h) _
  refine te_aload_n (p2 := 1) rfl rfl rfl ?_
  refine tg_i (p2 := 4) (i := 148) rfl rfl hI rfl rfl rfl (fun y1 a1 b1 e1 => ?_)
  refine te_aload_n (p2 := 5) rfl rfl rfl ?_
  refine tg_i (p2 := 8) (i := 148) rfl rfl hI rfl rfl rfl (fun y2 a2 b2 e2 => ?_)
  refine tb_ge (p2 := 11) rfl rfl rfl rfl (fun c3 => ?_) (fun c3 => ?_)
  · refine te_iconst (p2 := 24) (x := (-1)) rfl rfl (by decide) ?_
    exact te_iret rfl rfl ⟨rfl, _, rfl, y1, y2, e1, e2, by omega, by omega, by omega, by omega, Or.inr rfl⟩
  · refine te_aload_n (p2 := 12) rfl rfl rfl ?_
    refine tg_r (p2 := 15) (i := 148) (r := 200) rfl rfl hI rfl rfl rfl ?_
    refine te_aload_n (p2 := 16) rfl rfl rfl ?_
    refine tg_e (p2 := 19) (i := 148) (v := .int y1) rfl rfl hI rfl rfl e1 ?_
    refine tl_i (p2 := 20) (i := 184) (n := 160) rfl rfl hI rfl rfl rfl rfl (by omega) (by omega) (fun y4 a4 b4 g4 e4 => ?_)
    refine te_goto rfl ?_
    exact te_iret rfl rfl ⟨rfl, _, rfl, y1, y2, e1, e2, by omega, by omega, by omega, by omega, Or.inl (by omega)⟩
abbrev F_X12_number : List (Nat × Nat × Nat) := [(148, 60, 60)]
set_option maxRecDepth 20000 in
set_option maxHeartbeats 4000000 in
theorem t_X12_number  {h : im_H} (hI : tI h)  : CaP 2 137 [.ref 164] h (mI h F_X12_number (fun _ => True)) := by
  refine cap_of (d := 1) (M := mX12_number) rfl (Nat.le_of_ble_eq_true rfl) ?_
  show EvP im_K0 1 mX12_number (0, [(0, .ref 164)], [], h) _
  have f0 : fr F_X12_number h h := fr_rf
  refine te_iconst (p2 := 1) (x := 0) rfl rfl (by decide) ?_
  refine te_istore_n (p2 := 2) (lv2 := [(1, .int 0), (0, .ref 164)]) rfl rfl (by decide) rfl ?_
  refine te_iconst (p2 := 3) (x := 0) rfl rfl (by decide) ?_
  refine te_istore_n (p2 := 4) (lv2 := [(2, .int 0), (1, .int 0), (0, .ref 164)]) rfl rfl (by decide) rfl ?_
  have lp1 : ∀ (n1 : Nat) (v1_1 v1_2 : Int32) (h1 : im_H), tI h1 → fr F_X12_number h h1 → 0 ≤ v1_2.toInt → v1_2.toInt ≤ 3 → 3 - v1_2.toInt < (n1 : Int) → EvP im_K0 1 mX12_number (4, [(0, .ref 164), (1, .int v1_1), (2, .int v1_2)], [], h1) (mI h F_X12_number (fun _ => True)) := by
    intro n1
    induction n1 with
    | zero => intro v1_1 v1_2 h1 I1 f1 a1_2 b1_2 m1; exfalso; omega
    | succ n1 ih1 =>
      intro v1_1 v1_2 h1 I1 f1 a1_2 b1_2 m1
      refine te_iload_n (p2 := 5) rfl rfl rfl ?_
      refine te_iconst (p2 := 6) (x := 3) rfl rfl (by decide) ?_
      refine tb_ge (p2 := 9) rfl rfl rfl (show Int32.toInt 3 = 3 from rfl) (fun c2 => ?_) (fun c2 => ?_)
      · refine te_iload_n (p2 := 53) rfl rfl rfl ?_
        refine tz_ne (p2 := 56) rfl rfl rfl (fun c3 => ?_) (fun c3 => absurd c3 (by omega))
        refine te_iload_n (p2 := 61) rfl rfl rfl ?_
        exact te_iret rfl rfl ⟨I1, f1, _, rfl, trivial⟩
      · refine te_aload_n (p2 := 10) rfl rfl rfl ?_
        refine cV_pI (p2 := 13) (i := 148) rfl rfl rfl rfl I1 rfl rfl rfl (t_X12_byteHere I1) (by decide) (fun y4 r4 => ?_)
        obtain ⟨at4, tp4, ea4, et4, aa4, ab4, ta4, tb4, r4⟩ := r4
        rcases r4 with r4 | r4
        · refine te_bipush (p2 := 15) (x := 48) rfl rfl (by decide) ?_
          refine te_bipush (p2 := 17) (x := 57) rfl rfl (by decide) ?_
          refine cS_pI (p2 := 20) rfl rfl rfl rfl (t_X12_in (n := y4) (a := 48) (b := 57) I1 ) (by decide) (fun y5 r5 => ?_)
          rcases r5 with ⟨w5, c5⟩ | ⟨w5, c5⟩
          · subst w5
            have cc5_1 := (show Int32.toInt 48 = 48 from rfl)
            have cc5_2 := (show Int32.toInt 57 = 57 from rfl)
            refine tz_eq (p2 := 23) rfl rfl (show Int32.toInt 1 = 1 from rfl) (fun c6 => absurd c6 (by omega)) (fun c6 => ?_)
            refine te_bipush (p2 := 25) (x := 10) rfl rfl (by decide) ?_
            refine te_iload_n (p2 := 26) rfl rfl rfl ?_
            refine au_mul (p2 := 27) rfl rfl (fun z7 e7 => ?_)
            refine te_aload_n (p2 := 28) rfl rfl rfl ?_
            refine cV_pI (p2 := 31) (i := 148) rfl rfl rfl rfl I1 rfl rfl rfl (t_X12_byteHere I1) (by decide) (fun y8 r8 => ?_)
            obtain ⟨at8, tp8, ea8, et8, aa8, ab8, ta8, tb8, r8⟩ := r8
            have xat8 : at8 = at4 := int_inj ea8 ea4
            rw [xat8] at r8
            have xtp8 : tp8 = tp4 := int_inj et8 et4
            rw [xtp8] at r8
            rcases r8 with r8 | r8
            · refine au_add (p2 := 32) rfl rfl (fun z9 e9 => ?_)
              refine te_bipush (p2 := 34) (x := 48) rfl rfl (by decide) ?_
              refine au_sub (p2 := 35) rfl rfl (fun z10 e10 => ?_)
              refine te_istore_n (p2 := 36) (lv2 := [(1, .int z10), (0, .ref 164), (2, .int v1_2)]) rfl rfl (by decide) rfl ?_
              refine ar_inc (p2 := 39) (x := v1_2) rfl rfl (by decide) rfl (by decide) rfl (by omega) (by omega) (fun z11 e11 f11 => ?_)
              show EvP _ _ _ (39, [(2, .int z11), (1, .int z10), (0, .ref 164)], [], h1) _
              refine te_aload_n (p2 := 40) rfl rfl rfl ?_
              refine te_dup (p2 := 41) rfl rfl rfl ?_
              refine tg_e (p2 := 44) (i := 148) (v := .int at4) rfl rfl I1 rfl rfl ea4 ?_
              refine te_iconst (p2 := 45) (x := 1) rfl rfl (by decide) ?_
              refine ar_add (p2 := 46) rfl rfl rfl (show Int32.toInt 1 = 1 from rfl) (by omega) (by omega) (fun z12 e12 f12 => ?_)
              refine tp_i (p2 := 49) (i := 148) rfl rfl I1 rfl rfl (by decide) rfl rfl rfl (by omega) (by omega) (by omega) rfl (fun h13 I13 u13 => ?_)
              have f13 := fr_st (F := F_X12_number) 0 f1 u13 rfl (by decide) (by decide)
              refine te_goto rfl ?_
              refine te_lv [(0, .ref 164), (1, .int z10), (2, .int z11)] rfl rfl ⟨rfl, rfl, rfl, trivial⟩ ?_
              exact ih1 z10 z11 h13 I13 f13 (by omega) (by omega) (by omega)
            · subst r8
              refine au_add (p2 := 32) rfl rfl (fun z14 e14 => ?_)
              refine te_bipush (p2 := 34) (x := 48) rfl rfl (by decide) ?_
              refine au_sub (p2 := 35) rfl rfl (fun z15 e15 => ?_)
              refine te_istore_n (p2 := 36) (lv2 := [(1, .int z15), (0, .ref 164), (2, .int v1_2)]) rfl rfl (by decide) rfl ?_
              refine ar_inc (p2 := 39) (x := v1_2) rfl rfl (by decide) rfl (by decide) rfl (by omega) (by omega) (fun z16 e16 f16 => ?_)
              show EvP _ _ _ (39, [(2, .int z16), (1, .int z15), (0, .ref 164)], [], h1) _
              refine te_aload_n (p2 := 40) rfl rfl rfl ?_
              refine te_dup (p2 := 41) rfl rfl rfl ?_
              refine tg_e (p2 := 44) (i := 148) (v := .int at4) rfl rfl I1 rfl rfl ea4 ?_
              refine te_iconst (p2 := 45) (x := 1) rfl rfl (by decide) ?_
              refine ar_add (p2 := 46) rfl rfl rfl (show Int32.toInt 1 = 1 from rfl) (by omega) (by omega) (fun z17 e17 f17 => ?_)
              refine tp_i (p2 := 49) (i := 148) rfl rfl I1 rfl rfl (by decide) rfl rfl rfl (by omega) (by omega) (by omega) rfl (fun h18 I18 u18 => ?_)
              have f18 := fr_st (F := F_X12_number) 0 f1 u18 rfl (by decide) (by decide)
              refine te_goto rfl ?_
              refine te_lv [(0, .ref 164), (1, .int z15), (2, .int z16)] rfl rfl ⟨rfl, rfl, rfl, trivial⟩ ?_
              exact ih1 z15 z16 h18 I18 f18 (by omega) (by omega) (by omega)
          · subst w5
            have cc5_1 := (show Int32.toInt 48 = 48 from rfl)
            have cc5_2 := (show Int32.toInt 57 = 57 from rfl)
            refine tz_eq (p2 := 23) rfl rfl (show Int32.toInt 0 = 0 from rfl) (fun c19 => ?_) (fun c19 => absurd c19 (by omega))
            refine te_iload_n (p2 := 53) rfl rfl rfl ?_
            refine tz_ne (p2 := 56) rfl rfl rfl (fun c20 => ?_) (fun c20 => ?_)
            · refine te_iload_n (p2 := 61) rfl rfl rfl ?_
              exact te_iret rfl rfl ⟨I1, f1, _, rfl, trivial⟩
            · refine te_iconst (p2 := 57) (x := (-1)) rfl rfl (by decide) ?_
              refine te_goto rfl ?_
              exact te_iret rfl rfl ⟨I1, f1, _, rfl, trivial⟩
        · subst r4
          refine te_bipush (p2 := 15) (x := 48) rfl rfl (by decide) ?_
          refine te_bipush (p2 := 17) (x := 57) rfl rfl (by decide) ?_
          refine cS_pI (p2 := 20) rfl rfl rfl rfl (t_X12_in (n := (-1)) (a := 48) (b := 57) I1 ) (by decide) (fun y21 r21 => ?_)
          rcases r21 with ⟨w21, c21⟩ | ⟨w21, c21⟩
          · subst w21
            exfalso; have cq0 := (show Int32.toInt (-1) = (-1) from rfl); have cq1 := (show Int32.toInt 48 = 48 from rfl); have cq2 := (show Int32.toInt 57 = 57 from rfl); omega
          · subst w21
            have cc21_0 := (show Int32.toInt (-1) = (-1) from rfl)
            have cc21_1 := (show Int32.toInt 48 = 48 from rfl)
            have cc21_2 := (show Int32.toInt 57 = 57 from rfl)
            refine tz_eq (p2 := 23) rfl rfl (show Int32.toInt 0 = 0 from rfl) (fun c22 => ?_) (fun c22 => absurd c22 (by omega))
            refine te_iload_n (p2 := 53) rfl rfl rfl ?_
            refine tz_ne (p2 := 56) rfl rfl rfl (fun c23 => ?_) (fun c23 => ?_)
            · refine te_iload_n (p2 := 61) rfl rfl rfl ?_
              exact te_iret rfl rfl ⟨I1, f1, _, rfl, trivial⟩
            · refine te_iconst (p2 := 57) (x := (-1)) rfl rfl (by decide) ?_
              refine te_goto rfl ?_
              exact te_iret rfl rfl ⟨I1, f1, _, rfl, trivial⟩
  refine te_lv [(0, .ref 164), (1, .int 0), (2, .int 0)] rfl rfl ⟨rfl, rfl, rfl, trivial⟩ ?_
  exact lp1 4 0 0 h hI f0 (by decide) (by decide) (by have cc0 := (show Int32.toInt 0 = 0 from rfl); omega)
abbrev F_X12_wordOf : List (Nat × Nat × Nat) := [(148, 60, 60)]
set_option maxRecDepth 20000 in
set_option maxHeartbeats 4000000 in
theorem t_X12_wordOf {first : Int32} {behind : Int32} {h : im_H} (hI : tI h) (p_first0 : 0 ≤ first.toInt) (p_first1 : first.toInt ≤ 11) (p_behind0 : 1 ≤ behind.toInt) (p_behind1 : behind.toInt ≤ 12) (pr0 : first.toInt < behind.toInt) : CaP 2 136 [.ref 164, .int first, .int behind] h (mI h F_X12_wordOf (fun y => -1 ≤ y.toInt ∧ y.toInt < behind.toInt - first.toInt)) := by
  refine cap_of (d := 1) (M := mX12_wordOf) rfl (Nat.le_of_ble_eq_true rfl) ?_
  show EvP im_K0 1 mX12_wordOf (0, [(0, .ref 164), (1, .int first), (2, .int behind)], [], h) _
  have f0 : fr F_X12_wordOf h h := fr_rf
  refine te_iconst (p2 := 1) (x := 0) rfl rfl (by decide) ?_
  refine te_istore_n (p2 := 2) (lv2 := [(3, .int 0), (0, .ref 164), (1, .int first), (2, .int behind)]) rfl rfl (by decide) rfl ?_
  refine te_iload_n (p2 := 3) rfl rfl rfl ?_
  refine te_istore (p2 := 5) (lv2 := [(4, .int first), (3, .int 0), (0, .ref 164), (1, .int first), (2, .int behind)]) rfl rfl (by decide) rfl ?_
  have lp1 : ∀ (n1 : Nat) (v1_3 v1_4 : Int32) , 0 ≤ v1_4.toInt → v1_4.toInt ≤ 12 → first.toInt ≤ v1_4.toInt → v1_4.toInt ≤ behind.toInt → behind.toInt - v1_4.toInt < (n1 : Int) → EvP im_K0 1 mX12_wordOf (5, [(0, .ref 164), (1, .int first), (2, .int behind), (3, .int v1_3), (4, .int v1_4)], [], h) (mI h F_X12_wordOf (fun y => -1 ≤ y.toInt ∧ y.toInt < behind.toInt - first.toInt)) := by
    intro n1
    induction n1 with
    | zero => intro v1_3 v1_4 a1_4 b1_4 l1_0 l1_1 m1; exfalso; omega
    | succ n1 ih1 =>
      intro v1_3 v1_4 a1_4 b1_4 l1_0 l1_1 m1
      refine te_iload (p2 := 7) rfl rfl rfl ?_
      refine te_iload_n (p2 := 8) rfl rfl rfl ?_
      refine tb_ge (p2 := 11) rfl rfl rfl rfl (fun c2 => ?_) (fun c2 => ?_)
      · refine te_iconst (p2 := 25) (x := 0) rfl rfl (by decide) ?_
        refine te_istore (p2 := 27) (lv2 := [(4, .int 0), (0, .ref 164), (1, .int first), (2, .int behind), (3, .int v1_3)]) rfl rfl (by decide) rfl ?_
        obtain ⟨v4, e4, y4, w4, a4, b4, _⟩ := hI.2.1 148 60 (.inl (0, 160, 9999999999)) rfl
        subst w4
        obtain ⟨v5, e5, y5, w5, a5, b5, _⟩ := hI.2.1 148 45 (.inl (0, 160, 9999999999)) rfl
        subst w5
        have lp3 : ∀ (n3 : Nat) (v3_3 v3_4 t3_at t3_tp : Int32) (h3 : im_H), tI h3 → fr F_X12_wordOf h h3 → rd h3 148 60 = some (.int t3_at) → rd h3 148 45 = some (.int t3_tp) → 0 ≤ t3_at.toInt → t3_at.toInt ≤ 160 → 0 ≤ t3_tp.toInt → t3_tp.toInt ≤ 160 → 161 - t3_at.toInt < (n3 : Int) → EvP im_K0 1 mX12_wordOf (27, [(0, .ref 164), (1, .int first), (2, .int behind), (3, .int v3_3), (4, .int v3_4)], [], h3) (mI h F_X12_wordOf (fun y => -1 ≤ y.toInt ∧ y.toInt < behind.toInt - first.toInt)) := by
          intro n3
          induction n3 with
          | zero => intro v3_3 v3_4 t3_at t3_tp h3 I3 f3 v3_at v3_tp va3_at vb3_at va3_tp vb3_tp m3; exfalso; omega
          | succ n3 ih3 =>
            intro v3_3 v3_4 t3_at t3_tp h3 I3 f3 v3_at v3_tp va3_at vb3_at va3_tp vb3_tp m3
            refine te_iload_n (p2 := 28) rfl rfl rfl ?_
            refine tz_eq (p2 := 31) rfl rfl rfl (fun c6 => ?_) (fun c6 => ?_)
            · refine te_iconst (p2 := 149) (x := (-1)) rfl rfl (by decide) ?_
              exact te_iret rfl rfl ⟨I3, f3, _, rfl, by decide, by (have := (show Int32.toInt (-1) = (-1) from rfl); omega)⟩
            · refine te_iconst (p2 := 32) (x := 0) rfl rfl (by decide) ?_
              refine te_istore (p2 := 34) (lv2 := [(5, .int 0), (0, .ref 164), (1, .int first), (2, .int behind), (3, .int v3_3), (4, .int v3_4)]) rfl rfl (by decide) rfl ?_
              refine te_iload_n (p2 := 35) rfl rfl rfl ?_
              refine te_istore (p2 := 37) (lv2 := [(6, .int first), (5, .int 0), (0, .ref 164), (1, .int first), (2, .int behind), (3, .int v3_3), (4, .int v3_4)]) rfl rfl (by decide) rfl ?_
              have lp7 : ∀ (n7 : Nat) (v7_5 v7_6 : Int32) , 0 ≤ v7_6.toInt → v7_6.toInt ≤ 12 → first.toInt ≤ v7_6.toInt → v7_6.toInt ≤ behind.toInt → v7_5.toInt = 0 ∨ t3_at.toInt < t3_tp.toInt → behind.toInt - v7_6.toInt < (n7 : Int) → EvP im_K0 1 mX12_wordOf (37, [(0, .ref 164), (1, .int first), (2, .int behind), (3, .int v3_3), (4, .int v3_4), (5, .int v7_5), (6, .int v7_6)], [], h3) (mI h F_X12_wordOf (fun y => -1 ≤ y.toInt ∧ y.toInt < behind.toInt - first.toInt)) := by
                intro n7
                induction n7 with
                | zero => intro v7_5 v7_6 a7_6 b7_6 l7_0 l7_1 l7_2 m7; exfalso; omega
                | succ n7 ih7 =>
                  intro v7_5 v7_6 a7_6 b7_6 l7_0 l7_1 l7_2 m7
                  refine te_iload (p2 := 39) rfl rfl rfl ?_
                  refine te_iload_n (p2 := 40) rfl rfl rfl ?_
                  refine tb_ge (p2 := 43) rfl rfl rfl rfl (fun c8 => ?_) (fun c8 => ?_)
                  · refine te_iload (p2 := 127) rfl rfl rfl ?_
                    refine te_istore_n (p2 := 128) (lv2 := [(3, .int v7_5), (0, .ref 164), (1, .int first), (2, .int behind), (4, .int v3_4), (5, .int v7_5), (6, .int v7_6)]) rfl rfl (by decide) rfl ?_
                    refine te_iload_n (p2 := 129) rfl rfl rfl ?_
                    refine tz_eq (p2 := 132) rfl rfl rfl (fun c9 => ?_) (fun c9 => ?_)
                    · refine te_goto rfl ?_
                      refine te_iload_n (p2 := 28) rfl rfl rfl ?_
                      refine tz_eq (p2 := 31) rfl rfl rfl (fun c10 => ?_) (fun c10 => absurd c10 (by omega))
                      refine te_iconst (p2 := 149) (x := (-1)) rfl rfl (by decide) ?_
                      exact te_iret rfl rfl ⟨I3, f3, _, rfl, by decide, by (have := (show Int32.toInt (-1) = (-1) from rfl); omega)⟩
                    · refine te_aload_n (p2 := 133) rfl rfl rfl ?_
                      refine te_dup (p2 := 134) rfl rfl rfl ?_
                      refine tg_e (p2 := 137) (i := 148) (v := .int t3_at) rfl rfl I3 rfl rfl v3_at ?_
                      refine te_iconst (p2 := 138) (x := 1) rfl rfl (by decide) ?_
                      refine ar_add (p2 := 139) rfl rfl rfl (show Int32.toInt 1 = 1 from rfl) (by omega) (by omega) (fun z11 e11 f11 => ?_)
                      refine tp_i (p2 := 142) (i := 148) rfl rfl I3 rfl rfl (by decide) rfl rfl rfl (by omega) (by omega) (by omega) rfl (fun h12 I12 u12 => ?_)
                      have f12 := fr_st (F := F_X12_wordOf) 0 f3 u12 rfl (by decide) (by decide)
                      refine au_inc (p2 := 145) (x := v3_4) rfl rfl (by decide) rfl (fun z13 e13 => ?_)
                      show EvP _ _ _ (145, [(4, .int z13), (3, .int v7_5), (0, .ref 164), (1, .int first), (2, .int behind), (5, .int v7_5), (6, .int v7_6)], [], h12) _
                      refine te_goto rfl ?_
                      refine te_lv [(0, .ref 164), (1, .int first), (2, .int behind), (3, .int v7_5), (4, .int z13)] rfl rfl ⟨rfl, rfl, rfl, rfl, rfl, trivial⟩ ?_
                      exact ih3 v7_5 z13 z11 t3_tp h12 I12 f12 u12.1 ((u12.2 _ _ (Or.inr (by decide))).trans v3_tp) (by omega) (by omega) (by omega) (by omega) (by omega)
                  · refine te_iload_n (p2 := 44) rfl rfl rfl ?_
                    refine te_iload (p2 := 46) rfl rfl rfl ?_
                    refine au_shr (p2 := 47) rfl rfl (fun z14 e14 => ?_)
                    refine te_iconst (p2 := 48) (x := 1) rfl rfl (by decide) ?_
                    refine au_and (p2 := 49) rfl rfl (fun z15 e15 => ?_)
                    refine te_iconst (p2 := 50) (x := 1) rfl rfl (by decide) ?_
                    refine tb_ne (p2 := 53) rfl rfl rfl (show Int32.toInt 1 = 1 from rfl) (fun c16 => ?_) (fun c16 => ?_)
                    · refine ar_inc (p2 := 122) (x := v7_6) rfl rfl (by decide) rfl (by decide) rfl (by omega) (by omega) (fun z17 e17 f17 => ?_)
                      show EvP _ _ _ (122, [(6, .int z17), (0, .ref 164), (1, .int first), (2, .int behind), (3, .int v3_3), (4, .int v3_4), (5, .int v7_5)], [], h3) _
                      refine te_goto rfl ?_
                      refine te_lv [(0, .ref 164), (1, .int first), (2, .int behind), (3, .int v3_3), (4, .int v3_4), (5, .int v7_5), (6, .int z17)] rfl rfl ⟨rfl, rfl, rfl, rfl, rfl, rfl, rfl, trivial⟩ ?_
                      exact ih7 v7_5 z17 (by omega) (by omega) (by omega) (by omega) (by omega) (by omega)
                    · refine te_iload (p2 := 55) rfl rfl rfl ?_
                      refine te_aload_n (p2 := 56) rfl rfl rfl ?_
                      refine tg_r (p2 := 59) (i := 148) (r := 212) rfl rfl I3 rfl rfl rfl ?_
                      refine te_iload (p2 := 61) rfl rfl rfl ?_
                      refine tl_i (p2 := 62) (i := 196) (n := 12) rfl rfl I3 rfl rfl rfl rfl (by omega) (by omega) (fun y18 a18 b18 g18 e18 => ?_)
                      refine tb_ne (p2 := 65) rfl rfl rfl rfl (fun c19 => ?_) (fun c19 => ?_)
                      · refine te_iload (p2 := 72) rfl rfl rfl ?_
                        refine te_aload_n (p2 := 73) rfl rfl rfl ?_
                        refine tg_r (p2 := 76) (i := 148) (r := 211) rfl rfl I3 rfl rfl rfl ?_
                        refine te_iload (p2 := 78) rfl rfl rfl ?_
                        refine tl_l (p2 := 79) (i := 195) (n := 12) rfl rfl I3 rfl rfl (by omega) (by omega) (fun y20 => ?_)
                        refine te_bipush (p2 := 81) (x := 8) rfl rfl (by decide) ?_
                        refine te_aload_n (p2 := 82) rfl rfl rfl ?_
                        refine tg_r (p2 := 85) (i := 148) (r := 212) rfl rfl I3 rfl rfl rfl ?_
                        refine te_iload (p2 := 87) rfl rfl rfl ?_
                        refine tl_e (p2 := 88) (i := 196) (n := 12) (t := 0) (Or.inl rfl) rfl rfl I3 rfl rfl (by omega) (by omega) e18 ?_
                        refine te_iconst (p2 := 89) (x := 1) rfl rfl (by decide) ?_
                        refine ar_sub (p2 := 90) rfl rfl rfl (show Int32.toInt 1 = 1 from rfl) (by omega) (by omega) (fun z22 e22 f22 => ?_)
                        refine te_iload (p2 := 92) rfl rfl rfl ?_
                        refine au_sub (p2 := 93) rfl rfl (fun z23 e23 => ?_)
                        refine au_mul (p2 := 94) rfl rfl (fun z24 e24 => ?_)
                        refine te_lshr (p2 := 95) (z := (y20 >>> (Int32.toInt64 z24 &&& 63))) rfl rfl rfl ?_
                        refine te_ldc2 (p2 := 98) (x := 255) rfl rfl rfl ?_
                        refine te_land (p2 := 99) (z := ((y20 >>> (Int32.toInt64 z24 &&& 63)) &&& 255)) rfl rfl rfl ?_
                        refine te_aload_n (p2 := 100) rfl rfl rfl ?_
                        refine cV_pI (p2 := 103) (i := 148) rfl rfl rfl rfl I3 rfl rfl rfl (t_X12_byteHere I3) (by decide) (fun y25 r25 => ?_)
                        obtain ⟨at25, tp25, ea25, et25, aa25, ab25, ta25, tb25, r25⟩ := r25
                        have xat25 : at25 = t3_at := int_inj ea25 v3_at
                        rw [xat25] at r25
                        have xtp25 : tp25 = t3_tp := int_inj et25 v3_tp
                        rw [xtp25] at r25
                        rcases r25 with r25 | r25
                        · refine te_i2l (p2 := 104) (z := (Int32.toInt64 y25)) rfl rfl rfl ?_
                          obtain ⟨z26, e26⟩ : ∃ z, lg_cmp ((y20 >>> (Int32.toInt64 z24 &&& 63)) &&& 255) (Int32.toInt64 y25) = z := ⟨_, rfl⟩
                          refine te_lcmp (p2 := 105) rfl rfl e26 ?_
                          refine tz_ne (p2 := 108) rfl rfl rfl (fun c27 => ?_) (fun c27 => ?_)
                          · refine te_iconst (p2 := 116) (x := 0) rfl rfl (by decide) ?_
                            refine te_ior (p2 := 117) (z := v7_5) rfl rfl (Int32.or_zero) ?_
                            refine te_istore (p2 := 119) (lv2 := [(5, .int v7_5), (0, .ref 164), (1, .int first), (2, .int behind), (3, .int v3_3), (4, .int v3_4), (6, .int v7_6)]) rfl rfl (by decide) rfl ?_
                            refine ar_inc (p2 := 122) (x := v7_6) rfl rfl (by decide) rfl (by decide) rfl (by omega) (by omega) (fun z29 e29 f29 => ?_)
                            show EvP _ _ _ (122, [(6, .int z29), (5, .int v7_5), (0, .ref 164), (1, .int first), (2, .int behind), (3, .int v3_3), (4, .int v3_4)], [], h3) _
                            refine te_goto rfl ?_
                            refine te_lv [(0, .ref 164), (1, .int first), (2, .int behind), (3, .int v3_3), (4, .int v3_4), (5, .int v7_5), (6, .int z29)] rfl rfl ⟨rfl, rfl, rfl, rfl, rfl, rfl, rfl, trivial⟩ ?_
                            exact ih7 v7_5 z29 (by omega) (by omega) (by omega) (by omega) (by omega) (by omega)
                          · refine te_iconst (p2 := 109) (x := 1) rfl rfl (by decide) ?_
                            refine te_iload (p2 := 111) rfl rfl rfl ?_
                            refine au_shl (p2 := 112) rfl rfl (fun z30 e30 => ?_)
                            refine te_goto rfl ?_
                            refine au_or (p2 := 117) rfl rfl (fun z31 e31 => ?_)
                            refine te_istore (p2 := 119) (lv2 := [(5, .int z31), (0, .ref 164), (1, .int first), (2, .int behind), (3, .int v3_3), (4, .int v3_4), (6, .int v7_6)]) rfl rfl (by decide) rfl ?_
                            refine ar_inc (p2 := 122) (x := v7_6) rfl rfl (by decide) rfl (by decide) rfl (by omega) (by omega) (fun z32 e32 f32 => ?_)
                            show EvP _ _ _ (122, [(6, .int z32), (5, .int z31), (0, .ref 164), (1, .int first), (2, .int behind), (3, .int v3_3), (4, .int v3_4)], [], h3) _
                            refine te_goto rfl ?_
                            refine te_lv [(0, .ref 164), (1, .int first), (2, .int behind), (3, .int v3_3), (4, .int v3_4), (5, .int z31), (6, .int z32)] rfl rfl ⟨rfl, rfl, rfl, rfl, rfl, rfl, rfl, trivial⟩ ?_
                            exact ih7 z31 z32 (by omega) (by omega) (by omega) (by omega) (by omega) (by omega)
                        · subst r25
                          refine te_i2l (p2 := 104) (z := (Int32.toInt64 (-1))) rfl rfl rfl ?_
                          obtain ⟨z33, e33⟩ : ∃ z, lg_cmp ((y20 >>> (Int32.toInt64 z24 &&& 63)) &&& 255) (Int32.toInt64 (-1)) = z := ⟨_, rfl⟩
                          refine te_lcmp (p2 := 105) rfl rfl e33 ?_
                          have nz34 : z33.toInt ≠ 0 := fun hz => absurd (and255 (lg_cmp_eq0 (e33.trans (i32_ext hz)))) (by decide)
                          refine tz_ne (p2 := 108) rfl rfl rfl (fun c35 => ?_) (fun c35 => absurd c35 (by omega))
                          refine te_iconst (p2 := 116) (x := 0) rfl rfl (by decide) ?_
                          refine te_ior (p2 := 117) (z := v7_5) rfl rfl (Int32.or_zero) ?_
                          refine te_istore (p2 := 119) (lv2 := [(5, .int v7_5), (0, .ref 164), (1, .int first), (2, .int behind), (3, .int v3_3), (4, .int v3_4), (6, .int v7_6)]) rfl rfl (by decide) rfl ?_
                          refine ar_inc (p2 := 122) (x := v7_6) rfl rfl (by decide) rfl (by decide) rfl (by omega) (by omega) (fun z37 e37 f37 => ?_)
                          show EvP _ _ _ (122, [(6, .int z37), (5, .int v7_5), (0, .ref 164), (1, .int first), (2, .int behind), (3, .int v3_3), (4, .int v3_4)], [], h3) _
                          refine te_goto rfl ?_
                          refine te_lv [(0, .ref 164), (1, .int first), (2, .int behind), (3, .int v3_3), (4, .int v3_4), (5, .int v7_5), (6, .int z37)] rfl rfl ⟨rfl, rfl, rfl, rfl, rfl, rfl, rfl, trivial⟩ ?_
                          exact ih7 v7_5 z37 (by omega) (by omega) (by omega) (by omega) (by omega) (by omega)
                      · refine te_iload (p2 := 67) rfl rfl rfl ?_
                        refine te_iload_n (p2 := 68) rfl rfl rfl ?_
                        refine ar_sub (p2 := 69) rfl rfl rfl rfl (by omega) (by omega) (fun z38 e38 f38 => ?_)
                        exact te_iret rfl rfl ⟨I3, f3, _, rfl, by omega, by omega⟩
              refine te_lv [(0, .ref 164), (1, .int first), (2, .int behind), (3, .int v3_3), (4, .int v3_4), (5, .int 0), (6, .int first)] rfl rfl ⟨rfl, rfl, rfl, rfl, rfl, rfl, rfl, trivial⟩ ?_
              exact lp7 13 0 first (by omega) (by omega) (by have cc0 := (show Int32.toInt 0 = 0 from rfl); omega) (by have cc0 := (show Int32.toInt 0 = 0 from rfl); omega) (by have cc0 := (show Int32.toInt 0 = 0 from rfl); omega) (by have cc0 := (show Int32.toInt 0 = 0 from rfl); omega)
        refine te_lv [(0, .ref 164), (1, .int first), (2, .int behind), (3, .int v1_3), (4, .int 0)] rfl rfl ⟨rfl, rfl, rfl, rfl, rfl, trivial⟩ ?_
        exact lp3 162 v1_3 0 y4 y5 h hI f0 e4 e5 (by omega) (by omega) (by omega) (by omega) (by have cc0 := (show Int32.toInt 0 = 0 from rfl); omega)
      · refine te_iload_n (p2 := 12) rfl rfl rfl ?_
        refine te_iconst (p2 := 13) (x := 1) rfl rfl (by decide) ?_
        refine te_iload (p2 := 15) rfl rfl rfl ?_
        refine au_shl (p2 := 16) rfl rfl (fun z39 e39 => ?_)
        refine au_or (p2 := 17) rfl rfl (fun z40 e40 => ?_)
        refine te_istore_n (p2 := 18) (lv2 := [(3, .int z40), (0, .ref 164), (1, .int first), (2, .int behind), (4, .int v1_4)]) rfl rfl (by decide) rfl ?_
        refine ar_inc (p2 := 21) (x := v1_4) rfl rfl (by decide) rfl (by decide) rfl (by omega) (by omega) (fun z41 e41 f41 => ?_)
        show EvP _ _ _ (21, [(4, .int z41), (3, .int z40), (0, .ref 164), (1, .int first), (2, .int behind)], [], h) _
        refine te_goto rfl ?_
        refine te_lv [(0, .ref 164), (1, .int first), (2, .int behind), (3, .int z40), (4, .int z41)] rfl rfl ⟨rfl, rfl, rfl, rfl, rfl, trivial⟩ ?_
        exact ih1 z40 z41 (by omega) (by omega) (by omega) (by omega) (by omega)
  refine te_lv [(0, .ref 164), (1, .int first), (2, .int behind), (3, .int 0), (4, .int first)] rfl rfl ⟨rfl, rfl, rfl, rfl, rfl, trivial⟩ ?_
  exact lp1 13 0 first (by omega) (by omega) (by have cc0 := (show Int32.toInt 0 = 0 from rfl); omega) (by have cc0 := (show Int32.toInt 0 = 0 from rfl); omega) (by have cc0 := (show Int32.toInt 0 = 0 from rfl); omega)
abbrev F_X12_test : List (Nat × Nat × Nat) := [(148, 60, 60), (188, 0, 47), (189, 0, 143), (190, 0, 143), (191, 0, 143)]
set_option maxRecDepth 20000 in
set_option maxHeartbeats 4000000 in
theorem t_X12_test {line : Int32} {gc : Int32} {h : im_H} (hI : tI h) (p_line0 : 0 ≤ line.toInt) (p_line1 : line.toInt ≤ 47) (hg0 : rd h 188 line.toInt.toNat = some (.int gc)) (ga0 : 0 ≤ gc.toInt) (gb0 : gc.toInt ≤ 2) : CaP 3 138 [.ref 164, .int line] h (fun v h2 => tI h2 ∧ fr F_X12_test h h2 ∧ ∃ y : Int32, v = some (.int y) ∧ (y = 0 ∨ (y = 1 ∧ ∃ c : Int32, rd h2 188 line.toInt.toNat = some (.int c) ∧ c.toInt = gc.toInt + 1))) := by
  refine cap_of (d := 2) (M := mX12_test) rfl (Nat.le_of_ble_eq_true rfl) ?_
  show EvP im_K0 2 mX12_test (0, [(0, .ref 164), (1, .int line)], [], h) _
  have f0 : fr F_X12_test h h := fr_rf
  refine te_iconst (p2 := 1) (x := 3) rfl rfl (by decide) ?_
  refine te_iload_n (p2 := 2) rfl rfl rfl ?_
  refine ar_mul (p2 := 3) rfl rfl (show Int32.toInt 3 = 3 from rfl) rfl (by omega) (by omega) (fun z1 e1 f1 => ?_)
  refine te_aload_n (p2 := 4) rfl rfl rfl ?_
  refine tg_r (p2 := 7) (i := 148) (r := 204) rfl rfl hI rfl rfl rfl ?_
  refine te_iload_n (p2 := 8) rfl rfl rfl ?_
  refine tl_e (p2 := 9) (i := 188) (n := 48) (t := 0) (Or.inl rfl) rfl rfl hI rfl rfl (by omega) (by omega) hg0 ?_
  refine ar_add (p2 := 10) rfl rfl rfl rfl (by omega) (by omega) (fun z3 e3 f3 => ?_)
  refine te_istore_n (p2 := 11) (lv2 := [(2, .int z3), (0, .ref 164), (1, .int line)]) rfl rfl (by decide) rfl ?_
  refine te_aload_n (p2 := 12) rfl rfl rfl ?_
  refine tg_r (p2 := 15) (i := 148) (r := 205) rfl rfl hI rfl rfl rfl ?_
  refine te_iload_n (p2 := 16) rfl rfl rfl ?_
  refine te_aload_n (p2 := 17) rfl rfl rfl ?_
  refine te_iconst (p2 := 18) (x := 3) rfl rfl (by decide) ?_
  refine te_bipush (p2 := 20) (x := 11) rfl rfl (by decide) ?_
  refine cV_mI (p2 := 23) (i := 148) rfl rfl rfl rfl hI rfl rfl rfl (t_X12_wordOf (first := 3) (behind := 11) hI (by decide) (by decide) (by decide) (by decide) (by have cq1 := (show Int32.toInt 3 = 3 from rfl); have cq2 := (show Int32.toInt 11 = 11 from rfl); omega)) (by decide) (fun y4 h4 I4 g4 r4 => ?_)
  have f4 := fr_tr (F1 := F_X12_wordOf) (F := F_X12_test) f0 g4 (by decide)
  obtain ⟨a4, b4⟩ := r4
  rw [show Int32.toInt 11 = 11 from rfl, show Int32.toInt 3 = 3 from rfl] at b4
  refine ts_i (p2 := 24) (i := 189) (n := 144) rfl rfl I4 rfl rfl rfl rfl (by omega) (by omega) (by omega) (by omega) (by omega) rfl (fun h5 I5 u5 => ?_)
  have f5 := fr_st (F := F_X12_test) 2 f4 u5 rfl (by omega) (by omega)
  refine te_aload_n (p2 := 25) rfl rfl rfl ?_
  refine tg_r (p2 := 28) (i := 148) (r := 205) rfl rfl I5 rfl rfl rfl ?_
  refine te_iload_n (p2 := 29) rfl rfl rfl ?_
  refine tl_e (p2 := 30) (i := 189) (n := 144) (t := 0) (Or.inl rfl) rfl rfl I5 rfl rfl (by omega) (by omega) u5.1 ?_
  refine te_iconst (p2 := 31) (x := (-1)) rfl rfl (by decide) ?_
  refine tb_ne (p2 := 34) rfl rfl rfl (show Int32.toInt (-1) = (-1) from rfl) (fun c7 => ?_) (fun c7 => ?_)
  · refine te_aload_n (p2 := 37) rfl rfl rfl ?_
    refine tg_r (p2 := 40) (i := 148) (r := 206) rfl rfl I5 rfl rfl rfl ?_
    refine te_iload_n (p2 := 41) rfl rfl rfl ?_
    refine te_aload_n (p2 := 42) rfl rfl rfl ?_
    refine cV_pI (p2 := 45) (i := 148) rfl rfl rfl rfl I5 rfl rfl rfl (t_X12_byteHere I5) (by decide) (fun y8 r8 => ?_)
    obtain ⟨at8, tp8, ea8, et8, aa8, ab8, ta8, tb8, r8⟩ := r8
    rcases r8 with r8 | r8
    · refine ts_i (p2 := 46) (i := 190) (n := 144) rfl rfl I5 rfl rfl rfl rfl (by omega) (by omega) (i32_lo _) (i32_hi _) (i32_ho _) rfl (fun h9 I9 u9 => ?_)
      have f9 := fr_st (F := F_X12_test) 3 f5 u9 rfl (by omega) (by omega)
      refine te_aload_n (p2 := 47) rfl rfl rfl ?_
      refine tg_r (p2 := 50) (i := 148) (r := 206) rfl rfl I9 rfl rfl rfl ?_
      refine te_iload_n (p2 := 51) rfl rfl rfl ?_
      refine tl_e (p2 := 52) (i := 190) (n := 144) (t := 0) (Or.inl rfl) rfl rfl I9 rfl rfl (by omega) (by omega) u9.1 ?_
      refine te_bipush (p2 := 54) (x := 60) rfl rfl (by decide) ?_
      refine tb_eq (p2 := 57) rfl rfl rfl (show Int32.toInt 60 = 60 from rfl) (fun c11 => ?_) (fun c11 => ?_)
      · refine te_aload_n (p2 := 82) rfl rfl rfl ?_
        refine te_dup (p2 := 83) rfl rfl rfl ?_
        refine tg_e (p2 := 86) (i := 148) (v := .int at8) rfl rfl I9 rfl rfl ((u9.2 _ _ (Or.inl (by decide))).trans ea8) ?_
        refine te_iconst (p2 := 87) (x := 1) rfl rfl (by decide) ?_
        refine ar_add (p2 := 88) rfl rfl rfl (show Int32.toInt 1 = 1 from rfl) (by omega) (by omega) (fun z12 e12 f12 => ?_)
        refine tp_i (p2 := 91) (i := 148) rfl rfl I9 rfl rfl (by decide) rfl rfl rfl (by omega) (by omega) (by omega) rfl (fun h13 I13 u13 => ?_)
        have f13 := fr_st (F := F_X12_test) 0 f9 u13 rfl (by decide) (by decide)
        refine te_aload_n (p2 := 92) rfl rfl rfl ?_
        refine tg_r (p2 := 95) (i := 148) (r := 207) rfl rfl I13 rfl rfl rfl ?_
        refine te_iload_n (p2 := 96) rfl rfl rfl ?_
        refine te_aload_n (p2 := 97) rfl rfl rfl ?_
        refine cV_mI (p2 := 100) (i := 148) rfl rfl rfl rfl I13 rfl rfl rfl (t_X12_number  I13 ) (by decide) (fun y14 h14 I14 g14 r14 => ?_)
        have f14 := fr_tr (F1 := F_X12_number) (F := F_X12_test) f13 g14 (by decide)
        refine ts_i (p2 := 101) (i := 191) (n := 144) rfl rfl I14 rfl rfl rfl rfl (by omega) (by omega) (i32_lo _) (i32_hi _) (i32_ho _) rfl (fun h15 I15 u15 => ?_)
        have f15 := fr_st (F := F_X12_test) 4 f14 u15 rfl (by omega) (by omega)
        refine te_aload_n (p2 := 102) rfl rfl rfl ?_
        refine tg_r (p2 := 105) (i := 148) (r := 204) rfl rfl I15 rfl rfl rfl ?_
        refine te_iload_n (p2 := 106) rfl rfl rfl ?_
        refine te_dup2 (p2 := 107) rfl rfl ⟨rfl, rfl⟩ ?_
        refine tl_e (p2 := 108) (i := 188) (n := 48) (t := 0) (Or.inl rfl) rfl rfl I15 rfl rfl (by omega) (by omega) ((u15.2 _ _ (Or.inl (by decide))).trans ((g14 _ _ rfl).trans ((u13.2 _ _ (Or.inl (by decide))).trans ((u9.2 _ _ (Or.inl (by decide))).trans ((u5.2 _ _ (Or.inl (by decide))).trans ((g4 _ _ rfl).trans hg0)))))) ?_
        refine te_iconst (p2 := 109) (x := 1) rfl rfl (by decide) ?_
        refine ar_add (p2 := 110) rfl rfl rfl (show Int32.toInt 1 = 1 from rfl) (by omega) (by omega) (fun z17 e17 f17 => ?_)
        refine ts_i (p2 := 111) (i := 188) (n := 48) rfl rfl I15 rfl rfl rfl rfl (by omega) (by omega) (by omega) (by omega) (by omega) rfl (fun h18 I18 u18 => ?_)
        have f18 := fr_st (F := F_X12_test) 1 f15 u18 rfl (by omega) (by omega)
        refine te_aload_n (p2 := 112) rfl rfl rfl ?_
        refine tg_r (p2 := 115) (i := 148) (r := 207) rfl rfl I18 rfl rfl rfl ?_
        refine te_iload_n (p2 := 116) rfl rfl rfl ?_
        refine tl_e (p2 := 117) (i := 191) (n := 144) (t := 0) (Or.inl rfl) rfl rfl I18 rfl rfl (by omega) (by omega) ((u18.2 _ _ (Or.inl (by decide))).trans u15.1) ?_
        refine te_iconst (p2 := 118) (x := (-1)) rfl rfl (by decide) ?_
        refine tb_eq (p2 := 121) rfl rfl rfl (show Int32.toInt (-1) = (-1) from rfl) (fun c20 => ?_) (fun c20 => ?_)
        · refine te_iconst (p2 := 126) (x := 0) rfl rfl (by decide) ?_
          exact te_zret rfl rfl (by decide) ⟨I18, f18, _, rfl, Or.inl rfl⟩
        · refine te_iconst (p2 := 122) (x := 1) rfl rfl (by decide) ?_
          refine te_goto rfl ?_
          exact te_zret rfl rfl (by decide) ⟨I18, f18, _, rfl, Or.inr ⟨rfl, z17, u18.1, by omega⟩⟩
      · refine te_aload_n (p2 := 58) rfl rfl rfl ?_
        refine tg_r (p2 := 61) (i := 148) (r := 206) rfl rfl I9 rfl rfl rfl ?_
        refine te_iload_n (p2 := 62) rfl rfl rfl ?_
        refine tl_e (p2 := 63) (i := 190) (n := 144) (t := 0) (Or.inl rfl) rfl rfl I9 rfl rfl (by omega) (by omega) u9.1 ?_
        refine te_bipush (p2 := 65) (x := 62) rfl rfl (by decide) ?_
        refine tb_eq (p2 := 68) rfl rfl rfl (show Int32.toInt 62 = 62 from rfl) (fun c22 => ?_) (fun c22 => ?_)
        · refine te_aload_n (p2 := 82) rfl rfl rfl ?_
          refine te_dup (p2 := 83) rfl rfl rfl ?_
          refine tg_e (p2 := 86) (i := 148) (v := .int at8) rfl rfl I9 rfl rfl ((u9.2 _ _ (Or.inl (by decide))).trans ea8) ?_
          refine te_iconst (p2 := 87) (x := 1) rfl rfl (by decide) ?_
          refine ar_add (p2 := 88) rfl rfl rfl (show Int32.toInt 1 = 1 from rfl) (by omega) (by omega) (fun z23 e23 f23 => ?_)
          refine tp_i (p2 := 91) (i := 148) rfl rfl I9 rfl rfl (by decide) rfl rfl rfl (by omega) (by omega) (by omega) rfl (fun h24 I24 u24 => ?_)
          have f24 := fr_st (F := F_X12_test) 0 f9 u24 rfl (by decide) (by decide)
          refine te_aload_n (p2 := 92) rfl rfl rfl ?_
          refine tg_r (p2 := 95) (i := 148) (r := 207) rfl rfl I24 rfl rfl rfl ?_
          refine te_iload_n (p2 := 96) rfl rfl rfl ?_
          refine te_aload_n (p2 := 97) rfl rfl rfl ?_
          refine cV_mI (p2 := 100) (i := 148) rfl rfl rfl rfl I24 rfl rfl rfl (t_X12_number  I24 ) (by decide) (fun y25 h25 I25 g25 r25 => ?_)
          have f25 := fr_tr (F1 := F_X12_number) (F := F_X12_test) f24 g25 (by decide)
          refine ts_i (p2 := 101) (i := 191) (n := 144) rfl rfl I25 rfl rfl rfl rfl (by omega) (by omega) (i32_lo _) (i32_hi _) (i32_ho _) rfl (fun h26 I26 u26 => ?_)
          have f26 := fr_st (F := F_X12_test) 4 f25 u26 rfl (by omega) (by omega)
          refine te_aload_n (p2 := 102) rfl rfl rfl ?_
          refine tg_r (p2 := 105) (i := 148) (r := 204) rfl rfl I26 rfl rfl rfl ?_
          refine te_iload_n (p2 := 106) rfl rfl rfl ?_
          refine te_dup2 (p2 := 107) rfl rfl ⟨rfl, rfl⟩ ?_
          refine tl_e (p2 := 108) (i := 188) (n := 48) (t := 0) (Or.inl rfl) rfl rfl I26 rfl rfl (by omega) (by omega) ((u26.2 _ _ (Or.inl (by decide))).trans ((g25 _ _ rfl).trans ((u24.2 _ _ (Or.inl (by decide))).trans ((u9.2 _ _ (Or.inl (by decide))).trans ((u5.2 _ _ (Or.inl (by decide))).trans ((g4 _ _ rfl).trans hg0)))))) ?_
          refine te_iconst (p2 := 109) (x := 1) rfl rfl (by decide) ?_
          refine ar_add (p2 := 110) rfl rfl rfl (show Int32.toInt 1 = 1 from rfl) (by omega) (by omega) (fun z28 e28 f28 => ?_)
          refine ts_i (p2 := 111) (i := 188) (n := 48) rfl rfl I26 rfl rfl rfl rfl (by omega) (by omega) (by omega) (by omega) (by omega) rfl (fun h29 I29 u29 => ?_)
          have f29 := fr_st (F := F_X12_test) 1 f26 u29 rfl (by omega) (by omega)
          refine te_aload_n (p2 := 112) rfl rfl rfl ?_
          refine tg_r (p2 := 115) (i := 148) (r := 207) rfl rfl I29 rfl rfl rfl ?_
          refine te_iload_n (p2 := 116) rfl rfl rfl ?_
          refine tl_e (p2 := 117) (i := 191) (n := 144) (t := 0) (Or.inl rfl) rfl rfl I29 rfl rfl (by omega) (by omega) ((u29.2 _ _ (Or.inl (by decide))).trans u26.1) ?_
          refine te_iconst (p2 := 118) (x := (-1)) rfl rfl (by decide) ?_
          refine tb_eq (p2 := 121) rfl rfl rfl (show Int32.toInt (-1) = (-1) from rfl) (fun c31 => ?_) (fun c31 => ?_)
          · refine te_iconst (p2 := 126) (x := 0) rfl rfl (by decide) ?_
            exact te_zret rfl rfl (by decide) ⟨I29, f29, _, rfl, Or.inl rfl⟩
          · refine te_iconst (p2 := 122) (x := 1) rfl rfl (by decide) ?_
            refine te_goto rfl ?_
            exact te_zret rfl rfl (by decide) ⟨I29, f29, _, rfl, Or.inr ⟨rfl, z28, u29.1, by omega⟩⟩
        · refine te_aload_n (p2 := 69) rfl rfl rfl ?_
          refine tg_r (p2 := 72) (i := 148) (r := 206) rfl rfl I9 rfl rfl rfl ?_
          refine te_iload_n (p2 := 73) rfl rfl rfl ?_
          refine tl_e (p2 := 74) (i := 190) (n := 144) (t := 0) (Or.inl rfl) rfl rfl I9 rfl rfl (by omega) (by omega) u9.1 ?_
          refine te_bipush (p2 := 76) (x := 61) rfl rfl (by decide) ?_
          refine tb_eq (p2 := 79) rfl rfl rfl (show Int32.toInt 61 = 61 from rfl) (fun c33 => ?_) (fun c33 => ?_)
          · refine te_aload_n (p2 := 82) rfl rfl rfl ?_
            refine te_dup (p2 := 83) rfl rfl rfl ?_
            refine tg_e (p2 := 86) (i := 148) (v := .int at8) rfl rfl I9 rfl rfl ((u9.2 _ _ (Or.inl (by decide))).trans ea8) ?_
            refine te_iconst (p2 := 87) (x := 1) rfl rfl (by decide) ?_
            refine ar_add (p2 := 88) rfl rfl rfl (show Int32.toInt 1 = 1 from rfl) (by omega) (by omega) (fun z34 e34 f34 => ?_)
            refine tp_i (p2 := 91) (i := 148) rfl rfl I9 rfl rfl (by decide) rfl rfl rfl (by omega) (by omega) (by omega) rfl (fun h35 I35 u35 => ?_)
            have f35 := fr_st (F := F_X12_test) 0 f9 u35 rfl (by decide) (by decide)
            refine te_aload_n (p2 := 92) rfl rfl rfl ?_
            refine tg_r (p2 := 95) (i := 148) (r := 207) rfl rfl I35 rfl rfl rfl ?_
            refine te_iload_n (p2 := 96) rfl rfl rfl ?_
            refine te_aload_n (p2 := 97) rfl rfl rfl ?_
            refine cV_mI (p2 := 100) (i := 148) rfl rfl rfl rfl I35 rfl rfl rfl (t_X12_number  I35 ) (by decide) (fun y36 h36 I36 g36 r36 => ?_)
            have f36 := fr_tr (F1 := F_X12_number) (F := F_X12_test) f35 g36 (by decide)
            refine ts_i (p2 := 101) (i := 191) (n := 144) rfl rfl I36 rfl rfl rfl rfl (by omega) (by omega) (i32_lo _) (i32_hi _) (i32_ho _) rfl (fun h37 I37 u37 => ?_)
            have f37 := fr_st (F := F_X12_test) 4 f36 u37 rfl (by omega) (by omega)
            refine te_aload_n (p2 := 102) rfl rfl rfl ?_
            refine tg_r (p2 := 105) (i := 148) (r := 204) rfl rfl I37 rfl rfl rfl ?_
            refine te_iload_n (p2 := 106) rfl rfl rfl ?_
            refine te_dup2 (p2 := 107) rfl rfl ⟨rfl, rfl⟩ ?_
            refine tl_e (p2 := 108) (i := 188) (n := 48) (t := 0) (Or.inl rfl) rfl rfl I37 rfl rfl (by omega) (by omega) ((u37.2 _ _ (Or.inl (by decide))).trans ((g36 _ _ rfl).trans ((u35.2 _ _ (Or.inl (by decide))).trans ((u9.2 _ _ (Or.inl (by decide))).trans ((u5.2 _ _ (Or.inl (by decide))).trans ((g4 _ _ rfl).trans hg0)))))) ?_
            refine te_iconst (p2 := 109) (x := 1) rfl rfl (by decide) ?_
            refine ar_add (p2 := 110) rfl rfl rfl (show Int32.toInt 1 = 1 from rfl) (by omega) (by omega) (fun z39 e39 f39 => ?_)
            refine ts_i (p2 := 111) (i := 188) (n := 48) rfl rfl I37 rfl rfl rfl rfl (by omega) (by omega) (by omega) (by omega) (by omega) rfl (fun h40 I40 u40 => ?_)
            have f40 := fr_st (F := F_X12_test) 1 f37 u40 rfl (by omega) (by omega)
            refine te_aload_n (p2 := 112) rfl rfl rfl ?_
            refine tg_r (p2 := 115) (i := 148) (r := 207) rfl rfl I40 rfl rfl rfl ?_
            refine te_iload_n (p2 := 116) rfl rfl rfl ?_
            refine tl_e (p2 := 117) (i := 191) (n := 144) (t := 0) (Or.inl rfl) rfl rfl I40 rfl rfl (by omega) (by omega) ((u40.2 _ _ (Or.inl (by decide))).trans u37.1) ?_
            refine te_iconst (p2 := 118) (x := (-1)) rfl rfl (by decide) ?_
            refine tb_eq (p2 := 121) rfl rfl rfl (show Int32.toInt (-1) = (-1) from rfl) (fun c42 => ?_) (fun c42 => ?_)
            · refine te_iconst (p2 := 126) (x := 0) rfl rfl (by decide) ?_
              exact te_zret rfl rfl (by decide) ⟨I40, f40, _, rfl, Or.inl rfl⟩
            · refine te_iconst (p2 := 122) (x := 1) rfl rfl (by decide) ?_
              refine te_goto rfl ?_
              exact te_zret rfl rfl (by decide) ⟨I40, f40, _, rfl, Or.inr ⟨rfl, z39, u40.1, by omega⟩⟩
          · refine te_iconst (p2 := 80) (x := 0) rfl rfl (by decide) ?_
            exact te_zret rfl rfl (by decide) ⟨I9, f9, _, rfl, Or.inl rfl⟩
    · subst r8
      refine ts_i (p2 := 46) (i := 190) (n := 144) rfl rfl I5 rfl rfl rfl rfl (by omega) (by omega) (i32_lo _) (i32_hi _) (i32_ho _) rfl (fun h43 I43 u43 => ?_)
      have f43 := fr_st (F := F_X12_test) 3 f5 u43 rfl (by omega) (by omega)
      refine te_aload_n (p2 := 47) rfl rfl rfl ?_
      refine tg_r (p2 := 50) (i := 148) (r := 206) rfl rfl I43 rfl rfl rfl ?_
      refine te_iload_n (p2 := 51) rfl rfl rfl ?_
      refine tl_e (p2 := 52) (i := 190) (n := 144) (t := 0) (Or.inl rfl) rfl rfl I43 rfl rfl (by omega) (by omega) u43.1 ?_
      refine te_bipush (p2 := 54) (x := 60) rfl rfl (by decide) ?_
      refine tb_eq (p2 := 57) rfl rfl (show Int32.toInt (-1) = (-1) from rfl) (show Int32.toInt 60 = 60 from rfl) (fun c45 => absurd c45 (by omega)) (fun c45 => ?_)
      refine te_aload_n (p2 := 58) rfl rfl rfl ?_
      refine tg_r (p2 := 61) (i := 148) (r := 206) rfl rfl I43 rfl rfl rfl ?_
      refine te_iload_n (p2 := 62) rfl rfl rfl ?_
      refine tl_e (p2 := 63) (i := 190) (n := 144) (t := 0) (Or.inl rfl) rfl rfl I43 rfl rfl (by omega) (by omega) u43.1 ?_
      refine te_bipush (p2 := 65) (x := 62) rfl rfl (by decide) ?_
      refine tb_eq (p2 := 68) rfl rfl (show Int32.toInt (-1) = (-1) from rfl) (show Int32.toInt 62 = 62 from rfl) (fun c47 => absurd c47 (by omega)) (fun c47 => ?_)
      refine te_aload_n (p2 := 69) rfl rfl rfl ?_
      refine tg_r (p2 := 72) (i := 148) (r := 206) rfl rfl I43 rfl rfl rfl ?_
      refine te_iload_n (p2 := 73) rfl rfl rfl ?_
      refine tl_e (p2 := 74) (i := 190) (n := 144) (t := 0) (Or.inl rfl) rfl rfl I43 rfl rfl (by omega) (by omega) u43.1 ?_
      refine te_bipush (p2 := 76) (x := 61) rfl rfl (by decide) ?_
      refine tb_eq (p2 := 79) rfl rfl (show Int32.toInt (-1) = (-1) from rfl) (show Int32.toInt 61 = 61 from rfl) (fun c49 => absurd c49 (by omega)) (fun c49 => ?_)
      refine te_iconst (p2 := 80) (x := 0) rfl rfl (by decide) ?_
      exact te_zret rfl rfl (by decide) ⟨I43, f43, _, rfl, Or.inl rfl⟩
  · refine te_iconst (p2 := 35) (x := 0) rfl rfl (by decide) ?_
    exact te_zret rfl rfl (by decide) ⟨I5, f5, _, rfl, Or.inl rfl⟩
abbrev F_X12_line : List (Nat × Nat × Nat) := [(148, 60, 60), (186, 0, 47), (187, 0, 47), (188, 0, 47), (189, 0, 143), (190, 0, 143), (191, 0, 143)]
set_option maxRecDepth 20000 in
set_option maxHeartbeats 4000000 in
theorem t_X12_line {line : Int32} {h : im_H} (hI : tI h) (p_line0 : 0 ≤ line.toInt) (p_line1 : line.toInt ≤ 47) : CaP 4 139 [.ref 164, .int line] h (mI h F_X12_line (fun y => 0 ≤ y.toInt ∧ y.toInt ≤ 1)) := by
  refine cap_of (d := 3) (M := mX12_line) rfl (Nat.le_of_ble_eq_true rfl) ?_
  show EvP im_K0 3 mX12_line (0, [(0, .ref 164), (1, .int line)], [], h) _
  have f0 : fr F_X12_line h h := fr_rf
  refine te_aload_n (p2 := 1) rfl rfl rfl ?_
  refine tg_r (p2 := 4) (i := 148) (r := 204) rfl rfl hI rfl rfl rfl ?_
  refine te_iload_n (p2 := 5) rfl rfl rfl ?_
  refine te_iconst (p2 := 6) (x := 0) rfl rfl (by decide) ?_
  refine ts_i (p2 := 7) (i := 188) (n := 48) rfl rfl hI rfl rfl rfl rfl (by omega) (by omega) (by decide) (by decide) (by decide) rfl (fun h1 I1 u1 => ?_)
  have f1 := fr_st (F := F_X12_line) 3 f0 u1 rfl (by omega) (by omega)
  refine te_aload_n (p2 := 8) rfl rfl rfl ?_
  refine tg_r (p2 := 11) (i := 148) (r := 202) rfl rfl I1 rfl rfl rfl ?_
  refine te_iload_n (p2 := 12) rfl rfl rfl ?_
  refine te_aload_n (p2 := 13) rfl rfl rfl ?_
  refine te_iconst (p2 := 14) (x := 0) rfl rfl (by decide) ?_
  refine te_iconst (p2 := 15) (x := 3) rfl rfl (by decide) ?_
  refine cV_mI (p2 := 18) (i := 148) rfl rfl rfl rfl I1 rfl rfl rfl (t_X12_wordOf (first := 0) (behind := 3) I1 (by decide) (by decide) (by decide) (by decide) (by have cq1 := (show Int32.toInt 0 = 0 from rfl); have cq2 := (show Int32.toInt 3 = 3 from rfl); omega)) (by decide) (fun y2 h2 I2 g2 r2 => ?_)
  have f2 := fr_tr (F1 := F_X12_wordOf) (F := F_X12_line) f1 g2 (by decide)
  obtain ⟨a2, b2⟩ := r2
  rw [show Int32.toInt 3 = 3 from rfl, show Int32.toInt 0 = 0 from rfl] at b2
  refine ts_i (p2 := 19) (i := 186) (n := 48) rfl rfl I2 rfl rfl rfl rfl (by omega) (by omega) (i32_lo _) (i32_hi _) (i32_ho _) rfl (fun h3 I3 u3 => ?_)
  have f3 := fr_st (F := F_X12_line) 1 f2 u3 rfl (by omega) (by omega)
  refine te_aload_n (p2 := 20) rfl rfl rfl ?_
  refine tg_r (p2 := 23) (i := 148) (r := 202) rfl rfl I3 rfl rfl rfl ?_
  refine te_iload_n (p2 := 24) rfl rfl rfl ?_
  refine tl_e (p2 := 25) (i := 186) (n := 48) (t := 0) (Or.inl rfl) rfl rfl I3 rfl rfl (by omega) (by omega) u3.1 ?_
  refine te_iconst (p2 := 26) (x := (-1)) rfl rfl (by decide) ?_
  refine tb_eq (p2 := 29) rfl rfl rfl (show Int32.toInt (-1) = (-1) from rfl) (fun c5 => ?_) (fun c5 => ?_)
  · refine te_iconst (p2 := 39) (x := 0) rfl rfl (by decide) ?_
    exact te_zret rfl rfl (by decide) ⟨I3, f3, _, rfl, by decide, by decide⟩
  · refine te_aload_n (p2 := 30) rfl rfl rfl ?_
    refine cV_pI (p2 := 33) (i := 148) rfl rfl rfl rfl I3 rfl rfl rfl (t_X12_byteHere I3) (by decide) (fun y6 r6 => ?_)
    obtain ⟨at6, tp6, ea6, et6, aa6, ab6, ta6, tb6, r6⟩ := r6
    rcases r6 with r6 | r6
    · refine te_bipush (p2 := 35) (x := 32) rfl rfl (by decide) ?_
      refine tb_eq (p2 := 38) rfl rfl rfl (show Int32.toInt 32 = 32 from rfl) (fun c7 => ?_) (fun c7 => ?_)
      · refine te_aload_n (p2 := 41) rfl rfl rfl ?_
        refine te_dup (p2 := 42) rfl rfl rfl ?_
        refine tg_e (p2 := 45) (i := 148) (v := .int at6) rfl rfl I3 rfl rfl ea6 ?_
        refine te_iconst (p2 := 46) (x := 1) rfl rfl (by decide) ?_
        refine ar_add (p2 := 47) rfl rfl rfl (show Int32.toInt 1 = 1 from rfl) (by omega) (by omega) (fun z8 e8 f8 => ?_)
        refine tp_i (p2 := 50) (i := 148) rfl rfl I3 rfl rfl (by decide) rfl rfl rfl (by omega) (by omega) (by omega) rfl (fun h9 I9 u9 => ?_)
        have f9 := fr_st (F := F_X12_line) 0 f3 u9 rfl (by decide) (by decide)
        refine te_aload_n (p2 := 51) rfl rfl rfl ?_
        refine tg_r (p2 := 54) (i := 148) (r := 203) rfl rfl I9 rfl rfl rfl ?_
        refine te_iload_n (p2 := 55) rfl rfl rfl ?_
        refine te_aload_n (p2 := 56) rfl rfl rfl ?_
        refine cV_mI (p2 := 59) (i := 148) rfl rfl rfl rfl I9 rfl rfl rfl (t_X12_number  I9 ) (by decide) (fun y10 h10 I10 g10 r10 => ?_)
        have f10 := fr_tr (F1 := F_X12_number) (F := F_X12_line) f9 g10 (by decide)
        refine ts_i (p2 := 60) (i := 187) (n := 48) rfl rfl I10 rfl rfl rfl rfl (by omega) (by omega) (i32_lo _) (i32_hi _) (i32_ho _) rfl (fun h11 I11 u11 => ?_)
        have f11 := fr_st (F := F_X12_line) 2 f10 u11 rfl (by omega) (by omega)
        refine te_aload_n (p2 := 61) rfl rfl rfl ?_
        refine tg_r (p2 := 64) (i := 148) (r := 203) rfl rfl I11 rfl rfl rfl ?_
        refine te_iload_n (p2 := 65) rfl rfl rfl ?_
        refine tl_e (p2 := 66) (i := 187) (n := 48) (t := 0) (Or.inl rfl) rfl rfl I11 rfl rfl (by omega) (by omega) u11.1 ?_
        refine te_iconst (p2 := 67) (x := (-1)) rfl rfl (by decide) ?_
        refine tb_ne (p2 := 70) rfl rfl rfl (show Int32.toInt (-1) = (-1) from rfl) (fun c13 => ?_) (fun c13 => ?_)
        · refine te_aload_n (p2 := 73) rfl rfl rfl ?_
          refine cV_pI (p2 := 76) (i := 148) rfl rfl rfl rfl I11 rfl rfl rfl (t_X12_byteHere I11) (by decide) (fun y14 r14 => ?_)
          obtain ⟨at14, tp14, ea14, et14, aa14, ab14, ta14, tb14, r14⟩ := r14
          have xtp14 : tp14 = tp6 := int_inj et14 ((u11.2 _ _ (Or.inl (by decide))).trans ((g10 _ _ (by decide)).trans ((u9.2 _ _ (Or.inr (by decide))).trans et6)))
          rw [xtp14] at r14
          rcases r14 with r14 | r14
          · refine te_bipush (p2 := 78) (x := 32) rfl rfl (by decide) ?_
            refine tb_ne (p2 := 81) rfl rfl rfl (show Int32.toInt 32 = 32 from rfl) (fun c15 => ?_) (fun c15 => ?_)
            · refine te_aload_n (p2 := 143) rfl rfl rfl ?_
              refine cV_pI (p2 := 146) (i := 148) rfl rfl rfl rfl I11 rfl rfl rfl (t_X12_byteHere I11) (by decide) (fun y16 r16 => ?_)
              obtain ⟨at16, tp16, ea16, et16, aa16, ab16, ta16, tb16, r16⟩ := r16
              have xat16 : at16 = at14 := int_inj ea16 ea14
              rw [xat16] at r16
              have xtp16 : tp16 = tp6 := int_inj et16 ((u11.2 _ _ (Or.inl (by decide))).trans ((g10 _ _ (by decide)).trans ((u9.2 _ _ (Or.inr (by decide))).trans et6)))
              rw [xtp16] at r16
              rcases r16 with r16 | r16
              · refine te_bipush (p2 := 148) (x := 59) rfl rfl (by decide) ?_
                refine tb_eq (p2 := 151) rfl rfl rfl (show Int32.toInt 59 = 59 from rfl) (fun c17 => ?_) (fun c17 => ?_)
                · refine te_aload_n (p2 := 154) rfl rfl rfl ?_
                  refine te_dup (p2 := 155) rfl rfl rfl ?_
                  refine tg_e (p2 := 158) (i := 148) (v := .int at14) rfl rfl I11 rfl rfl ea14 ?_
                  refine te_iconst (p2 := 159) (x := 1) rfl rfl (by decide) ?_
                  refine ar_add (p2 := 160) rfl rfl rfl (show Int32.toInt 1 = 1 from rfl) (by omega) (by omega) (fun z18 e18 f18 => ?_)
                  refine tp_i (p2 := 163) (i := 148) rfl rfl I11 rfl rfl (by decide) rfl rfl rfl (by omega) (by omega) (by omega) rfl (fun h19 I19 u19 => ?_)
                  have f19 := fr_st (F := F_X12_line) 0 f11 u19 rfl (by decide) (by decide)
                  refine te_iconst (p2 := 164) (x := 1) rfl rfl (by decide) ?_
                  exact te_zret rfl rfl (by decide) ⟨I19, f19, _, rfl, by decide, by decide⟩
                · refine te_iconst (p2 := 152) (x := 0) rfl rfl (by decide) ?_
                  exact te_zret rfl rfl (by decide) ⟨I11, f11, _, rfl, by decide, by decide⟩
              · subst r16
                refine te_bipush (p2 := 148) (x := 59) rfl rfl (by decide) ?_
                refine tb_eq (p2 := 151) rfl rfl (show Int32.toInt (-1) = (-1) from rfl) (show Int32.toInt 59 = 59 from rfl) (fun c20 => absurd c20 (by omega)) (fun c20 => ?_)
                refine te_iconst (p2 := 152) (x := 0) rfl rfl (by decide) ?_
                exact te_zret rfl rfl (by decide) ⟨I11, f11, _, rfl, by decide, by decide⟩
            · refine te_aload_n (p2 := 82) rfl rfl rfl ?_
              refine te_bipush (p2 := 84) (x := 11) rfl rfl (by decide) ?_
              refine te_bipush (p2 := 86) (x := 12) rfl rfl (by decide) ?_
              refine cV_mI (p2 := 89) (i := 148) rfl rfl rfl rfl I11 rfl rfl rfl (t_X12_wordOf (first := 11) (behind := 12) I11 (by decide) (by decide) (by decide) (by decide) (by have cq1 := (show Int32.toInt 11 = 11 from rfl); have cq2 := (show Int32.toInt 12 = 12 from rfl); omega)) (by decide) (fun y21 h21 I21 g21 r21 => ?_)
              have f21 := fr_tr (F1 := F_X12_wordOf) (F := F_X12_line) f11 g21 (by decide)
              obtain ⟨a21, b21⟩ := r21
              rw [show Int32.toInt 12 = 12 from rfl, show Int32.toInt 11 = 11 from rfl] at b21
              refine te_iconst (p2 := 90) (x := (-1)) rfl rfl (by decide) ?_
              refine tb_eq (p2 := 93) rfl rfl rfl (show Int32.toInt (-1) = (-1) from rfl) (fun c22 => ?_) (fun c22 => ?_)
              · refine te_iconst (p2 := 102) (x := 0) rfl rfl (by decide) ?_
                exact te_zret rfl rfl (by decide) ⟨I21, f21, _, rfl, by decide, by decide⟩
              · refine te_aload_n (p2 := 94) rfl rfl rfl ?_
                refine te_iload_n (p2 := 95) rfl rfl rfl ?_
                refine tc_V (p2 := 98) (i := 148) rfl rfl rfl rfl I21 rfl rfl rfl (t_X12_test (line := line) (gc := 0) I21 (by omega) (by omega) ((g21 _ _ rfl).trans ((u11.2 _ _ (Or.inl (by decide))).trans ((g10 _ _ rfl).trans ((u9.2 _ _ (Or.inl (by decide))).trans ((u3.2 _ _ (Or.inl (by decide))).trans ((g2 _ _ rfl).trans u1.1)))))) (by decide) (by decide)) (by decide) (fun v23 h23 hq23 => ?_)
                obtain ⟨I23, g23, y23, w23, r23⟩ := hq23
                subst w23
                have f23 := fr_tr (F1 := F_X12_test) (F := F_X12_line) f21 g23 (by decide)
                have cg23 := (show Int32.toInt 0 = 0 from rfl)
                rcases r23 with r23 | ⟨r23, c23, ec23, fc23⟩
                · subst r23
                  show EvP _ _ _ (98, [(0, .ref 164), (1, .int line)], [.int 0], h23) _
                  refine tz_ne (p2 := 101) rfl rfl (show Int32.toInt 0 = 0 from rfl) (fun c24 => absurd c24 (by omega)) (fun c24 => ?_)
                  refine te_iconst (p2 := 102) (x := 0) rfl rfl (by decide) ?_
                  exact te_zret rfl rfl (by decide) ⟨I23, f23, _, rfl, by decide, by decide⟩
                · subst r23
                  show EvP _ _ _ (98, [(0, .ref 164), (1, .int line)], [.int 1], h23) _
                  refine tz_ne (p2 := 101) rfl rfl (show Int32.toInt 1 = 1 from rfl) (fun c25 => ?_) (fun c25 => absurd c25 (by omega))
                  have lp26 : ∀ (n26 : Nat) (t26_c : Int32) (h26 : im_H), tI h26 → fr F_X12_line h h26 → rd h26 188 line.toInt.toNat = some (.int t26_c) → 0 ≤ t26_c.toInt → t26_c.toInt ≤ 3 → 4 - t26_c.toInt < (n26 : Int) → EvP im_K0 3 mX12_line (103, [(0, .ref 164), (1, .int line)], [], h26) (mI h F_X12_line (fun y => 0 ≤ y.toInt ∧ y.toInt ≤ 1)) := by
                    intro n26
                    induction n26 with
                    | zero => intro t26_c h26 I26 f26 v26_c va26_c vb26_c m26; exfalso; omega
                    | succ n26 ih26 =>
                      intro t26_c h26 I26 f26 v26_c va26_c vb26_c m26
                      refine te_aload_n (p2 := 104) rfl rfl rfl ?_
                      refine cV_pI (p2 := 107) (i := 148) rfl rfl rfl rfl I26 rfl rfl rfl (t_X12_byteHere I26) (by decide) (fun y27 r27 => ?_)
                      obtain ⟨at27, tp27, ea27, et27, aa27, ab27, ta27, tb27, r27⟩ := r27
                      rcases r27 with r27 | r27
                      · refine te_bipush (p2 := 109) (x := 38) rfl rfl (by decide) ?_
                        refine tb_ne (p2 := 112) rfl rfl rfl (show Int32.toInt 38 = 38 from rfl) (fun c28 => ?_) (fun c28 => ?_)
                        · refine te_aload_n (p2 := 143) rfl rfl rfl ?_
                          refine cV_pI (p2 := 146) (i := 148) rfl rfl rfl rfl I26 rfl rfl rfl (t_X12_byteHere I26) (by decide) (fun y29 r29 => ?_)
                          obtain ⟨at29, tp29, ea29, et29, aa29, ab29, ta29, tb29, r29⟩ := r29
                          have xat29 : at29 = at27 := int_inj ea29 ea27
                          rw [xat29] at r29
                          have xtp29 : tp29 = tp27 := int_inj et29 et27
                          rw [xtp29] at r29
                          rcases r29 with r29 | r29
                          · refine te_bipush (p2 := 148) (x := 59) rfl rfl (by decide) ?_
                            refine tb_eq (p2 := 151) rfl rfl rfl (show Int32.toInt 59 = 59 from rfl) (fun c30 => ?_) (fun c30 => ?_)
                            · refine te_aload_n (p2 := 154) rfl rfl rfl ?_
                              refine te_dup (p2 := 155) rfl rfl rfl ?_
                              refine tg_e (p2 := 158) (i := 148) (v := .int at27) rfl rfl I26 rfl rfl ea27 ?_
                              refine te_iconst (p2 := 159) (x := 1) rfl rfl (by decide) ?_
                              refine ar_add (p2 := 160) rfl rfl rfl (show Int32.toInt 1 = 1 from rfl) (by omega) (by omega) (fun z31 e31 f31 => ?_)
                              refine tp_i (p2 := 163) (i := 148) rfl rfl I26 rfl rfl (by decide) rfl rfl rfl (by omega) (by omega) (by omega) rfl (fun h32 I32 u32 => ?_)
                              have f32 := fr_st (F := F_X12_line) 0 f26 u32 rfl (by decide) (by decide)
                              refine te_iconst (p2 := 164) (x := 1) rfl rfl (by decide) ?_
                              exact te_zret rfl rfl (by decide) ⟨I32, f32, _, rfl, by decide, by decide⟩
                            · refine te_iconst (p2 := 152) (x := 0) rfl rfl (by decide) ?_
                              exact te_zret rfl rfl (by decide) ⟨I26, f26, _, rfl, by decide, by decide⟩
                          · subst r29
                            refine te_bipush (p2 := 148) (x := 59) rfl rfl (by decide) ?_
                            refine tb_eq (p2 := 151) rfl rfl (show Int32.toInt (-1) = (-1) from rfl) (show Int32.toInt 59 = 59 from rfl) (fun c33 => absurd c33 (by omega)) (fun c33 => ?_)
                            refine te_iconst (p2 := 152) (x := 0) rfl rfl (by decide) ?_
                            exact te_zret rfl rfl (by decide) ⟨I26, f26, _, rfl, by decide, by decide⟩
                        · refine te_aload_n (p2 := 113) rfl rfl rfl ?_
                          refine tg_r (p2 := 116) (i := 148) (r := 204) rfl rfl I26 rfl rfl rfl ?_
                          refine te_iload_n (p2 := 117) rfl rfl rfl ?_
                          refine tl_e (p2 := 118) (i := 188) (n := 48) (t := 0) (Or.inl rfl) rfl rfl I26 rfl rfl (by omega) (by omega) v26_c ?_
                          refine te_iconst (p2 := 119) (x := 3) rfl rfl (by decide) ?_
                          refine tb_ge (p2 := 122) rfl rfl rfl (show Int32.toInt 3 = 3 from rfl) (fun c35 => ?_) (fun c35 => ?_)
                          · refine te_aload_n (p2 := 143) rfl rfl rfl ?_
                            refine cV_pI (p2 := 146) (i := 148) rfl rfl rfl rfl I26 rfl rfl rfl (t_X12_byteHere I26) (by decide) (fun y36 r36 => ?_)
                            obtain ⟨at36, tp36, ea36, et36, aa36, ab36, ta36, tb36, r36⟩ := r36
                            have xat36 : at36 = at27 := int_inj ea36 ea27
                            rw [xat36] at r36
                            have xtp36 : tp36 = tp27 := int_inj et36 et27
                            rw [xtp36] at r36
                            rcases r36 with r36 | r36
                            · refine te_bipush (p2 := 148) (x := 59) rfl rfl (by decide) ?_
                              refine tb_eq (p2 := 151) rfl rfl rfl (show Int32.toInt 59 = 59 from rfl) (fun c37 => ?_) (fun c37 => ?_)
                              · refine te_aload_n (p2 := 154) rfl rfl rfl ?_
                                refine te_dup (p2 := 155) rfl rfl rfl ?_
                                refine tg_e (p2 := 158) (i := 148) (v := .int at27) rfl rfl I26 rfl rfl ea27 ?_
                                refine te_iconst (p2 := 159) (x := 1) rfl rfl (by decide) ?_
                                refine ar_add (p2 := 160) rfl rfl rfl (show Int32.toInt 1 = 1 from rfl) (by omega) (by omega) (fun z38 e38 f38 => ?_)
                                refine tp_i (p2 := 163) (i := 148) rfl rfl I26 rfl rfl (by decide) rfl rfl rfl (by omega) (by omega) (by omega) rfl (fun h39 I39 u39 => ?_)
                                have f39 := fr_st (F := F_X12_line) 0 f26 u39 rfl (by decide) (by decide)
                                refine te_iconst (p2 := 164) (x := 1) rfl rfl (by decide) ?_
                                exact te_zret rfl rfl (by decide) ⟨I39, f39, _, rfl, by decide, by decide⟩
                              · refine te_iconst (p2 := 152) (x := 0) rfl rfl (by decide) ?_
                                exact te_zret rfl rfl (by decide) ⟨I26, f26, _, rfl, by decide, by decide⟩
                            · subst r36
                              refine te_bipush (p2 := 148) (x := 59) rfl rfl (by decide) ?_
                              refine tb_eq (p2 := 151) rfl rfl (show Int32.toInt (-1) = (-1) from rfl) (show Int32.toInt 59 = 59 from rfl) (fun c40 => absurd c40 (by omega)) (fun c40 => ?_)
                              refine te_iconst (p2 := 152) (x := 0) rfl rfl (by decide) ?_
                              exact te_zret rfl rfl (by decide) ⟨I26, f26, _, rfl, by decide, by decide⟩
                          · refine te_aload_n (p2 := 123) rfl rfl rfl ?_
                            refine te_dup (p2 := 124) rfl rfl rfl ?_
                            refine tg_e (p2 := 127) (i := 148) (v := .int at27) rfl rfl I26 rfl rfl ea27 ?_
                            refine te_iconst (p2 := 128) (x := 1) rfl rfl (by decide) ?_
                            refine ar_add (p2 := 129) rfl rfl rfl (show Int32.toInt 1 = 1 from rfl) (by omega) (by omega) (fun z41 e41 f41 => ?_)
                            refine tp_i (p2 := 132) (i := 148) rfl rfl I26 rfl rfl (by decide) rfl rfl rfl (by omega) (by omega) (by omega) rfl (fun h42 I42 u42 => ?_)
                            have f42 := fr_st (F := F_X12_line) 0 f26 u42 rfl (by decide) (by decide)
                            refine te_aload_n (p2 := 133) rfl rfl rfl ?_
                            refine te_iload_n (p2 := 134) rfl rfl rfl ?_
                            refine tc_V (p2 := 137) (i := 148) rfl rfl rfl rfl I42 rfl rfl rfl (t_X12_test (line := line) (gc := t26_c) I42 (by omega) (by omega) ((u42.2 _ _ (Or.inl (by decide))).trans v26_c) (by omega) (by omega)) (by decide) (fun v43 h43 hq43 => ?_)
                            obtain ⟨I43, g43, y43, w43, r43⟩ := hq43
                            subst w43
                            have f43 := fr_tr (F1 := F_X12_test) (F := F_X12_line) f42 g43 (by decide)
                            rcases r43 with r43 | ⟨r43, c43, ec43, fc43⟩
                            · subst r43
                              show EvP _ _ _ (137, [(0, .ref 164), (1, .int line)], [.int 0], h43) _
                              refine tz_ne (p2 := 140) rfl rfl (show Int32.toInt 0 = 0 from rfl) (fun c44 => absurd c44 (by omega)) (fun c44 => ?_)
                              refine te_iconst (p2 := 141) (x := 0) rfl rfl (by decide) ?_
                              exact te_zret rfl rfl (by decide) ⟨I43, f43, _, rfl, by decide, by decide⟩
                            · subst r43
                              show EvP _ _ _ (137, [(0, .ref 164), (1, .int line)], [.int 1], h43) _
                              refine tz_ne (p2 := 140) rfl rfl (show Int32.toInt 1 = 1 from rfl) (fun c45 => ?_) (fun c45 => absurd c45 (by omega))
                              refine te_lv [(0, .ref 164), (1, .int line)] rfl rfl ⟨rfl, rfl, trivial⟩ ?_
                              exact ih26 c43 h43 I43 f43 ec43 (by omega) (by omega) (by omega)
                      · subst r27
                        refine te_bipush (p2 := 109) (x := 38) rfl rfl (by decide) ?_
                        refine tb_ne (p2 := 112) rfl rfl (show Int32.toInt (-1) = (-1) from rfl) (show Int32.toInt 38 = 38 from rfl) (fun c46 => ?_) (fun c46 => absurd c46 (by omega))
                        refine te_aload_n (p2 := 143) rfl rfl rfl ?_
                        refine cV_pI (p2 := 146) (i := 148) rfl rfl rfl rfl I26 rfl rfl rfl (t_X12_byteHere I26) (by decide) (fun y47 r47 => ?_)
                        obtain ⟨at47, tp47, ea47, et47, aa47, ab47, ta47, tb47, r47⟩ := r47
                        have xat47 : at47 = at27 := int_inj ea47 ea27
                        rw [xat47] at r47
                        have xtp47 : tp47 = tp27 := int_inj et47 et27
                        rw [xtp47] at r47
                        rcases r47 with r47 | r47
                        · refine te_bipush (p2 := 148) (x := 59) rfl rfl (by decide) ?_
                          refine tb_eq (p2 := 151) rfl rfl rfl (show Int32.toInt 59 = 59 from rfl) (fun c48 => ?_) (fun c48 => ?_)
                          · refine te_aload_n (p2 := 154) rfl rfl rfl ?_
                            refine te_dup (p2 := 155) rfl rfl rfl ?_
                            refine tg_e (p2 := 158) (i := 148) (v := .int at27) rfl rfl I26 rfl rfl ea27 ?_
                            refine te_iconst (p2 := 159) (x := 1) rfl rfl (by decide) ?_
                            refine ar_add (p2 := 160) rfl rfl rfl (show Int32.toInt 1 = 1 from rfl) (by omega) (by omega) (fun z49 e49 f49 => ?_)
                            refine tp_i (p2 := 163) (i := 148) rfl rfl I26 rfl rfl (by decide) rfl rfl rfl (by omega) (by omega) (by omega) rfl (fun h50 I50 u50 => ?_)
                            have f50 := fr_st (F := F_X12_line) 0 f26 u50 rfl (by decide) (by decide)
                            refine te_iconst (p2 := 164) (x := 1) rfl rfl (by decide) ?_
                            exact te_zret rfl rfl (by decide) ⟨I50, f50, _, rfl, by decide, by decide⟩
                          · refine te_iconst (p2 := 152) (x := 0) rfl rfl (by decide) ?_
                            exact te_zret rfl rfl (by decide) ⟨I26, f26, _, rfl, by decide, by decide⟩
                        · subst r47
                          refine te_bipush (p2 := 148) (x := 59) rfl rfl (by decide) ?_
                          refine tb_eq (p2 := 151) rfl rfl (show Int32.toInt (-1) = (-1) from rfl) (show Int32.toInt 59 = 59 from rfl) (fun c51 => absurd c51 (by omega)) (fun c51 => ?_)
                          refine te_iconst (p2 := 152) (x := 0) rfl rfl (by decide) ?_
                          exact te_zret rfl rfl (by decide) ⟨I26, f26, _, rfl, by decide, by decide⟩
                  refine te_lv [(0, .ref 164), (1, .int line)] rfl rfl ⟨rfl, rfl, trivial⟩ ?_
                  exact lp26 5 c23 h23 I23 f23 ec23 (by omega) (by omega) (by omega)
          · subst r14
            refine te_bipush (p2 := 78) (x := 32) rfl rfl (by decide) ?_
            refine tb_ne (p2 := 81) rfl rfl (show Int32.toInt (-1) = (-1) from rfl) (show Int32.toInt 32 = 32 from rfl) (fun c52 => ?_) (fun c52 => absurd c52 (by omega))
            refine te_aload_n (p2 := 143) rfl rfl rfl ?_
            refine cV_pI (p2 := 146) (i := 148) rfl rfl rfl rfl I11 rfl rfl rfl (t_X12_byteHere I11) (by decide) (fun y53 r53 => ?_)
            obtain ⟨at53, tp53, ea53, et53, aa53, ab53, ta53, tb53, r53⟩ := r53
            have xat53 : at53 = at14 := int_inj ea53 ea14
            rw [xat53] at r53
            have xtp53 : tp53 = tp6 := int_inj et53 ((u11.2 _ _ (Or.inl (by decide))).trans ((g10 _ _ (by decide)).trans ((u9.2 _ _ (Or.inr (by decide))).trans et6)))
            rw [xtp53] at r53
            rcases r53 with r53 | r53
            · refine te_bipush (p2 := 148) (x := 59) rfl rfl (by decide) ?_
              refine tb_eq (p2 := 151) rfl rfl rfl (show Int32.toInt 59 = 59 from rfl) (fun c54 => ?_) (fun c54 => ?_)
              · refine te_aload_n (p2 := 154) rfl rfl rfl ?_
                refine te_dup (p2 := 155) rfl rfl rfl ?_
                refine tg_e (p2 := 158) (i := 148) (v := .int at14) rfl rfl I11 rfl rfl ea14 ?_
                refine te_iconst (p2 := 159) (x := 1) rfl rfl (by decide) ?_
                refine ar_add (p2 := 160) rfl rfl rfl (show Int32.toInt 1 = 1 from rfl) (by omega) (by omega) (fun z55 e55 f55 => ?_)
                refine tp_i (p2 := 163) (i := 148) rfl rfl I11 rfl rfl (by decide) rfl rfl rfl (by omega) (by omega) (by omega) rfl (fun h56 I56 u56 => ?_)
                have f56 := fr_st (F := F_X12_line) 0 f11 u56 rfl (by decide) (by decide)
                refine te_iconst (p2 := 164) (x := 1) rfl rfl (by decide) ?_
                exact te_zret rfl rfl (by decide) ⟨I56, f56, _, rfl, by decide, by decide⟩
              · refine te_iconst (p2 := 152) (x := 0) rfl rfl (by decide) ?_
                exact te_zret rfl rfl (by decide) ⟨I11, f11, _, rfl, by decide, by decide⟩
            · subst r53
              refine te_bipush (p2 := 148) (x := 59) rfl rfl (by decide) ?_
              refine tb_eq (p2 := 151) rfl rfl (show Int32.toInt (-1) = (-1) from rfl) (show Int32.toInt 59 = 59 from rfl) (fun c57 => absurd c57 (by omega)) (fun c57 => ?_)
              refine te_iconst (p2 := 152) (x := 0) rfl rfl (by decide) ?_
              exact te_zret rfl rfl (by decide) ⟨I11, f11, _, rfl, by decide, by decide⟩
        · refine te_iconst (p2 := 71) (x := 0) rfl rfl (by decide) ?_
          exact te_zret rfl rfl (by decide) ⟨I11, f11, _, rfl, by decide, by decide⟩
      · refine te_iconst (p2 := 39) (x := 0) rfl rfl (by decide) ?_
        exact te_zret rfl rfl (by decide) ⟨I3, f3, _, rfl, by decide, by decide⟩
    · subst r6
      refine te_bipush (p2 := 35) (x := 32) rfl rfl (by decide) ?_
      refine tb_eq (p2 := 38) rfl rfl (show Int32.toInt (-1) = (-1) from rfl) (show Int32.toInt 32 = 32 from rfl) (fun c58 => absurd c58 (by omega)) (fun c58 => ?_)
      refine te_iconst (p2 := 39) (x := 0) rfl rfl (by decide) ?_
      exact te_zret rfl rfl (by decide) ⟨I3, f3, _, rfl, by decide, by decide⟩
abbrev F_X12_order : List (Nat × Nat × Nat) := [(148, 45, 46), (148, 60, 60), (185, 0, 5), (186, 0, 47), (187, 0, 47), (188, 0, 47), (189, 0, 143), (190, 0, 143), (191, 0, 143)]
set_option maxRecDepth 20000 in
set_option maxHeartbeats 4000000 in
theorem t_X12_order  {h : im_H} (hI : tI h)  : CaP 5 140 [.ref 164] h (mI h F_X12_order (fun _ => True)) := by
  refine cap_of (d := 4) (M := mX12_order) rfl (Nat.le_of_ble_eq_true rfl) ?_
  show EvP im_K0 4 mX12_order (0, [(0, .ref 164)], [], h) _
  have f0 : fr F_X12_order h h := fr_rf
  refine te_aload_n (p2 := 1) rfl rfl rfl ?_
  refine tg_i (p2 := 4) (i := 148) rfl rfl hI rfl rfl rfl (fun y1 a1 b1 e1 => ?_)
  refine te_bipush (p2 := 6) (x := 6) rfl rfl (by decide) ?_
  refine tb_ne (p2 := 9) rfl rfl rfl (show Int32.toInt 6 = 6 from rfl) (fun c2 => ?_) (fun c2 => ?_)
  · refine te_aload_n (p2 := 13) rfl rfl rfl ?_
    refine te_iconst (p2 := 14) (x := 0) rfl rfl (by decide) ?_
    refine tp_i (p2 := 17) (i := 148) rfl rfl hI rfl rfl (by decide) rfl rfl rfl (by decide) (by decide) (by decide) rfl (fun h3 I3 u3 => ?_)
    have f3 := fr_st (F := F_X12_order) 1 f0 u3 rfl (by decide) (by decide)
    refine te_iconst (p2 := 18) (x := 0) rfl rfl (by decide) ?_
    refine te_istore_n (p2 := 19) (lv2 := [(1, .int 0), (0, .ref 164)]) rfl rfl (by decide) rfl ?_
    refine te_iconst (p2 := 20) (x := 1) rfl rfl (by decide) ?_
    refine te_istore_n (p2 := 21) (lv2 := [(2, .int 1), (1, .int 0), (0, .ref 164)]) rfl rfl (by decide) rfl ?_
    have lp4 : ∀ (n4 : Nat) (v4_1 v4_2 t4_o : Int32) (h4 : im_H), tI h4 → fr F_X12_order h h4 → 0 ≤ v4_1.toInt → v4_1.toInt ≤ 8 → 0 ≤ v4_2.toInt → v4_2.toInt ≤ 1 → rd h4 148 46 = some (.int t4_o) → 0 ≤ t4_o.toInt → t4_o.toInt ≤ 6 → t4_o.toInt ≤ 5 → 8 - v4_1.toInt < (n4 : Int) → EvP im_K0 4 mX12_order (21, [(0, .ref 164), (1, .int v4_1), (2, .int v4_2)], [], h4) (mI h F_X12_order (fun _ => True)) := by
      intro n4
      induction n4 with
      | zero => intro v4_1 v4_2 t4_o h4 I4 f4 a4_1 b4_1 a4_2 b4_2 v4_o va4_o vb4_o l4_0 m4; exfalso; omega
      | succ n4 ih4 =>
        intro v4_1 v4_2 t4_o h4 I4 f4 a4_1 b4_1 a4_2 b4_2 v4_o va4_o vb4_o l4_0 m4
        refine te_iload_n (p2 := 22) rfl rfl rfl ?_
        refine tz_eq (p2 := 25) rfl rfl rfl (fun c5 => ?_) (fun c5 => ?_)
        · refine te_iload_n (p2 := 67) rfl rfl rfl ?_
          refine tz_eq (p2 := 70) rfl rfl rfl (fun c6 => ?_) (fun c6 => absurd c6 (by omega))
          refine te_iconst (p2 := 86) (x := 0) rfl rfl (by decide) ?_
          refine te_istore_n (p2 := 87) (lv2 := [(2, .int 0), (0, .ref 164), (1, .int v4_1)]) rfl rfl (by decide) rfl ?_
          refine te_aload_n (p2 := 88) rfl rfl rfl ?_
          refine te_iconst (p2 := 89) (x := 0) rfl rfl (by decide) ?_
          refine tp_i (p2 := 92) (i := 148) rfl rfl I4 rfl rfl (by decide) rfl rfl rfl (by decide) (by decide) (by decide) rfl (fun h7 I7 u7 => ?_)
          have f7 := fr_st (F := F_X12_order) 0 f4 u7 rfl (by decide) (by decide)
          refine te_iload_n (p2 := 93) rfl rfl rfl ?_
          refine tz_ne (p2 := 96) rfl rfl (show Int32.toInt 0 = 0 from rfl) (fun c8 => absurd c8 (by omega)) (fun c8 => ?_)
          refine te_bipush (p2 := 98) (x := (-100)) rfl rfl (by decide) ?_
          refine te_aload_n (p2 := 99) rfl rfl rfl ?_
          refine tg_i (p2 := 102) (i := 148) rfl rfl I7 rfl rfl rfl (fun y9 a9 b9 e9 => ?_)
          refine ar_sub (p2 := 103) rfl rfl (show Int32.toInt (-100) = (-100) from rfl) rfl (by omega) (by omega) (fun z10 e10 f10 => ?_)
          exact te_iret rfl rfl ⟨I7, f7, _, rfl, trivial⟩
        · refine te_iload_n (p2 := 26) rfl rfl rfl ?_
          refine te_bipush (p2 := 28) (x := 8) rfl rfl (by decide) ?_
          refine tb_ge (p2 := 31) rfl rfl rfl (show Int32.toInt 8 = 8 from rfl) (fun c11 => ?_) (fun c11 => ?_)
          · refine te_iload_n (p2 := 67) rfl rfl rfl ?_
            refine tz_eq (p2 := 70) rfl rfl rfl (fun c12 => absurd c12 (by omega)) (fun c12 => ?_)
            refine te_aload_n (p2 := 71) rfl rfl rfl ?_
            refine tg_i (p2 := 74) (i := 148) rfl rfl I4 rfl rfl rfl (fun y13 a13 b13 e13 => ?_)
            refine te_aload_n (p2 := 75) rfl rfl rfl ?_
            refine tg_i (p2 := 78) (i := 148) rfl rfl I4 rfl rfl rfl (fun y14 a14 b14 e14 => ?_)
            refine tb_ne (p2 := 81) rfl rfl rfl rfl (fun c15 => ?_) (fun c15 => ?_)
            · refine te_iconst (p2 := 86) (x := 0) rfl rfl (by decide) ?_
              refine te_istore_n (p2 := 87) (lv2 := [(2, .int 0), (0, .ref 164), (1, .int v4_1)]) rfl rfl (by decide) rfl ?_
              refine te_aload_n (p2 := 88) rfl rfl rfl ?_
              refine te_iconst (p2 := 89) (x := 0) rfl rfl (by decide) ?_
              refine tp_i (p2 := 92) (i := 148) rfl rfl I4 rfl rfl (by decide) rfl rfl rfl (by decide) (by decide) (by decide) rfl (fun h16 I16 u16 => ?_)
              have f16 := fr_st (F := F_X12_order) 0 f4 u16 rfl (by decide) (by decide)
              refine te_iload_n (p2 := 93) rfl rfl rfl ?_
              refine tz_ne (p2 := 96) rfl rfl (show Int32.toInt 0 = 0 from rfl) (fun c17 => absurd c17 (by omega)) (fun c17 => ?_)
              refine te_bipush (p2 := 98) (x := (-100)) rfl rfl (by decide) ?_
              refine te_aload_n (p2 := 99) rfl rfl rfl ?_
              refine tg_e (p2 := 102) (i := 148) (v := .int y13) rfl rfl I16 rfl rfl ((u16.2 _ _ (Or.inr (by decide))).trans e13) ?_
              refine ar_sub (p2 := 103) rfl rfl (show Int32.toInt (-100) = (-100) from rfl) rfl (by omega) (by omega) (fun z18 e18 f18 => ?_)
              exact te_iret rfl rfl ⟨I16, f16, _, rfl, trivial⟩
            · refine te_iconst (p2 := 82) (x := 1) rfl rfl (by decide) ?_
              refine te_goto rfl ?_
              refine te_istore_n (p2 := 87) (lv2 := [(2, .int 1), (0, .ref 164), (1, .int v4_1)]) rfl rfl (by decide) rfl ?_
              refine te_aload_n (p2 := 88) rfl rfl rfl ?_
              refine te_iconst (p2 := 89) (x := 0) rfl rfl (by decide) ?_
              refine tp_i (p2 := 92) (i := 148) rfl rfl I4 rfl rfl (by decide) rfl rfl rfl (by decide) (by decide) (by decide) rfl (fun h19 I19 u19 => ?_)
              have f19 := fr_st (F := F_X12_order) 0 f4 u19 rfl (by decide) (by decide)
              refine te_iload_n (p2 := 93) rfl rfl rfl ?_
              refine tz_ne (p2 := 96) rfl rfl (show Int32.toInt 1 = 1 from rfl) (fun c20 => ?_) (fun c20 => absurd c20 (by omega))
              refine te_aload_n (p2 := 105) rfl rfl rfl ?_
              refine tg_r (p2 := 108) (i := 148) (r := 201) rfl rfl I19 rfl rfl rfl ?_
              refine te_aload_n (p2 := 109) rfl rfl rfl ?_
              refine tg_e (p2 := 112) (i := 148) (v := .int t4_o) rfl rfl I19 rfl rfl ((u19.2 _ _ (Or.inr (by decide))).trans v4_o) ?_
              refine te_iload_n (p2 := 113) rfl rfl rfl ?_
              refine ts_i (p2 := 114) (i := 185) (n := 6) rfl rfl I19 rfl rfl rfl rfl (by omega) (by omega) (by omega) (by omega) (by omega) rfl (fun h21 I21 u21 => ?_)
              have f21 := fr_st (F := F_X12_order) 2 f19 u21 rfl (by omega) (by omega)
              refine te_aload_n (p2 := 115) rfl rfl rfl ?_
              refine te_dup (p2 := 116) rfl rfl rfl ?_
              refine tg_e (p2 := 119) (i := 148) (v := .int t4_o) rfl rfl I21 rfl rfl ((u21.2 _ _ (Or.inl (by decide))).trans ((u19.2 _ _ (Or.inr (by decide))).trans v4_o)) ?_
              refine te_iconst (p2 := 120) (x := 1) rfl rfl (by decide) ?_
              refine ar_add (p2 := 121) rfl rfl rfl (show Int32.toInt 1 = 1 from rfl) (by omega) (by omega) (fun z22 e22 f22 => ?_)
              refine tp_i (p2 := 124) (i := 148) rfl rfl I21 rfl rfl (by decide) rfl rfl rfl (by omega) (by omega) (by omega) rfl (fun h23 I23 u23 => ?_)
              have f23 := fr_st (F := F_X12_order) 0 f21 u23 rfl (by decide) (by decide)
              refine te_aload_n (p2 := 125) rfl rfl rfl ?_
              refine tg_e (p2 := 128) (i := 148) (v := .int z22) rfl rfl I23 rfl rfl u23.1 ?_
              refine te_iconst (p2 := 129) (x := 1) rfl rfl (by decide) ?_
              refine ar_sub (p2 := 130) rfl rfl rfl (show Int32.toInt 1 = 1 from rfl) (by omega) (by omega) (fun z24 e24 f24 => ?_)
              exact te_iret rfl rfl ⟨I23, f23, _, rfl, trivial⟩
          · refine te_iload_n (p2 := 32) rfl rfl rfl ?_
            refine tz_eq (p2 := 35) rfl rfl rfl (fun c25 => ?_) (fun c25 => ?_)
            · refine te_aload_n (p2 := 47) rfl rfl rfl ?_
              refine te_bipush (p2 := 49) (x := 8) rfl rfl (by decide) ?_
              refine te_aload_n (p2 := 50) rfl rfl rfl ?_
              refine tg_e (p2 := 53) (i := 148) (v := .int t4_o) rfl rfl I4 rfl rfl v4_o ?_
              refine ar_mul (p2 := 54) rfl rfl (show Int32.toInt 8 = 8 from rfl) rfl (by omega) (by omega) (fun z26 e26 f26 => ?_)
              refine te_iload_n (p2 := 55) rfl rfl rfl ?_
              refine ar_add (p2 := 56) rfl rfl rfl rfl (by omega) (by omega) (fun z27 e27 f27 => ?_)
              refine cV_mI (p2 := 59) (i := 148) rfl rfl rfl rfl I4 rfl rfl rfl (t_X12_line (line := z27) I4 (by omega) (by omega)) (by decide) (fun y28 h28 I28 g28 r28 => ?_)
              have f28 := fr_tr (F1 := F_X12_line) (F := F_X12_order) f4 g28 (by decide)
              obtain ⟨a28, b28⟩ := r28
              refine te_istore_n (p2 := 60) (lv2 := [(2, .int y28), (0, .ref 164), (1, .int v4_1)]) rfl rfl (by decide) rfl ?_
              refine ar_inc (p2 := 63) (x := v4_1) rfl rfl (by decide) rfl (by decide) rfl (by omega) (by omega) (fun z29 e29 f29 => ?_)
              show EvP _ _ _ (63, [(1, .int z29), (2, .int y28), (0, .ref 164)], [], h28) _
              refine te_goto rfl ?_
              refine te_lv [(0, .ref 164), (1, .int z29), (2, .int y28)] rfl rfl ⟨rfl, rfl, rfl, trivial⟩ ?_
              exact ih4 z29 y28 t4_o h28 I28 f28 (by omega) (by omega) (by omega) (by omega) ((g28 _ _ (by decide)).trans v4_o) (by omega) (by omega) (by omega) (by omega)
            · refine te_aload_n (p2 := 36) rfl rfl rfl ?_
              refine tg_i (p2 := 39) (i := 148) rfl rfl I4 rfl rfl rfl (fun y30 a30 b30 e30 => ?_)
              refine te_aload_n (p2 := 40) rfl rfl rfl ?_
              refine tg_i (p2 := 43) (i := 148) rfl rfl I4 rfl rfl rfl (fun y31 a31 b31 e31 => ?_)
              refine tb_ge (p2 := 46) rfl rfl rfl rfl (fun c32 => ?_) (fun c32 => ?_)
              · refine te_iload_n (p2 := 67) rfl rfl rfl ?_
                refine tz_eq (p2 := 70) rfl rfl rfl (fun c33 => absurd c33 (by omega)) (fun c33 => ?_)
                refine te_aload_n (p2 := 71) rfl rfl rfl ?_
                refine tg_e (p2 := 74) (i := 148) (v := .int y30) rfl rfl I4 rfl rfl e30 ?_
                refine te_aload_n (p2 := 75) rfl rfl rfl ?_
                refine tg_e (p2 := 78) (i := 148) (v := .int y31) rfl rfl I4 rfl rfl e31 ?_
                refine tb_ne (p2 := 81) rfl rfl rfl rfl (fun c34 => ?_) (fun c34 => ?_)
                · refine te_iconst (p2 := 86) (x := 0) rfl rfl (by decide) ?_
                  refine te_istore_n (p2 := 87) (lv2 := [(2, .int 0), (0, .ref 164), (1, .int v4_1)]) rfl rfl (by decide) rfl ?_
                  refine te_aload_n (p2 := 88) rfl rfl rfl ?_
                  refine te_iconst (p2 := 89) (x := 0) rfl rfl (by decide) ?_
                  refine tp_i (p2 := 92) (i := 148) rfl rfl I4 rfl rfl (by decide) rfl rfl rfl (by decide) (by decide) (by decide) rfl (fun h35 I35 u35 => ?_)
                  have f35 := fr_st (F := F_X12_order) 0 f4 u35 rfl (by decide) (by decide)
                  refine te_iload_n (p2 := 93) rfl rfl rfl ?_
                  refine tz_ne (p2 := 96) rfl rfl (show Int32.toInt 0 = 0 from rfl) (fun c36 => absurd c36 (by omega)) (fun c36 => ?_)
                  refine te_bipush (p2 := 98) (x := (-100)) rfl rfl (by decide) ?_
                  refine te_aload_n (p2 := 99) rfl rfl rfl ?_
                  refine tg_e (p2 := 102) (i := 148) (v := .int y30) rfl rfl I35 rfl rfl ((u35.2 _ _ (Or.inr (by decide))).trans e30) ?_
                  refine ar_sub (p2 := 103) rfl rfl (show Int32.toInt (-100) = (-100) from rfl) rfl (by omega) (by omega) (fun z37 e37 f37 => ?_)
                  exact te_iret rfl rfl ⟨I35, f35, _, rfl, trivial⟩
                · refine te_iconst (p2 := 82) (x := 1) rfl rfl (by decide) ?_
                  refine te_goto rfl ?_
                  refine te_istore_n (p2 := 87) (lv2 := [(2, .int 1), (0, .ref 164), (1, .int v4_1)]) rfl rfl (by decide) rfl ?_
                  refine te_aload_n (p2 := 88) rfl rfl rfl ?_
                  refine te_iconst (p2 := 89) (x := 0) rfl rfl (by decide) ?_
                  refine tp_i (p2 := 92) (i := 148) rfl rfl I4 rfl rfl (by decide) rfl rfl rfl (by decide) (by decide) (by decide) rfl (fun h38 I38 u38 => ?_)
                  have f38 := fr_st (F := F_X12_order) 0 f4 u38 rfl (by decide) (by decide)
                  refine te_iload_n (p2 := 93) rfl rfl rfl ?_
                  refine tz_ne (p2 := 96) rfl rfl (show Int32.toInt 1 = 1 from rfl) (fun c39 => ?_) (fun c39 => absurd c39 (by omega))
                  refine te_aload_n (p2 := 105) rfl rfl rfl ?_
                  refine tg_r (p2 := 108) (i := 148) (r := 201) rfl rfl I38 rfl rfl rfl ?_
                  refine te_aload_n (p2 := 109) rfl rfl rfl ?_
                  refine tg_e (p2 := 112) (i := 148) (v := .int t4_o) rfl rfl I38 rfl rfl ((u38.2 _ _ (Or.inr (by decide))).trans v4_o) ?_
                  refine te_iload_n (p2 := 113) rfl rfl rfl ?_
                  refine ts_i (p2 := 114) (i := 185) (n := 6) rfl rfl I38 rfl rfl rfl rfl (by omega) (by omega) (by omega) (by omega) (by omega) rfl (fun h40 I40 u40 => ?_)
                  have f40 := fr_st (F := F_X12_order) 2 f38 u40 rfl (by omega) (by omega)
                  refine te_aload_n (p2 := 115) rfl rfl rfl ?_
                  refine te_dup (p2 := 116) rfl rfl rfl ?_
                  refine tg_e (p2 := 119) (i := 148) (v := .int t4_o) rfl rfl I40 rfl rfl ((u40.2 _ _ (Or.inl (by decide))).trans ((u38.2 _ _ (Or.inr (by decide))).trans v4_o)) ?_
                  refine te_iconst (p2 := 120) (x := 1) rfl rfl (by decide) ?_
                  refine ar_add (p2 := 121) rfl rfl rfl (show Int32.toInt 1 = 1 from rfl) (by omega) (by omega) (fun z41 e41 f41 => ?_)
                  refine tp_i (p2 := 124) (i := 148) rfl rfl I40 rfl rfl (by decide) rfl rfl rfl (by omega) (by omega) (by omega) rfl (fun h42 I42 u42 => ?_)
                  have f42 := fr_st (F := F_X12_order) 0 f40 u42 rfl (by decide) (by decide)
                  refine te_aload_n (p2 := 125) rfl rfl rfl ?_
                  refine tg_e (p2 := 128) (i := 148) (v := .int z41) rfl rfl I42 rfl rfl u42.1 ?_
                  refine te_iconst (p2 := 129) (x := 1) rfl rfl (by decide) ?_
                  refine ar_sub (p2 := 130) rfl rfl rfl (show Int32.toInt 1 = 1 from rfl) (by omega) (by omega) (fun z43 e43 f43 => ?_)
                  exact te_iret rfl rfl ⟨I42, f42, _, rfl, trivial⟩
              · refine te_aload_n (p2 := 47) rfl rfl rfl ?_
                refine te_bipush (p2 := 49) (x := 8) rfl rfl (by decide) ?_
                refine te_aload_n (p2 := 50) rfl rfl rfl ?_
                refine tg_e (p2 := 53) (i := 148) (v := .int t4_o) rfl rfl I4 rfl rfl v4_o ?_
                refine ar_mul (p2 := 54) rfl rfl (show Int32.toInt 8 = 8 from rfl) rfl (by omega) (by omega) (fun z44 e44 f44 => ?_)
                refine te_iload_n (p2 := 55) rfl rfl rfl ?_
                refine ar_add (p2 := 56) rfl rfl rfl rfl (by omega) (by omega) (fun z45 e45 f45 => ?_)
                refine cV_mI (p2 := 59) (i := 148) rfl rfl rfl rfl I4 rfl rfl rfl (t_X12_line (line := z45) I4 (by omega) (by omega)) (by decide) (fun y46 h46 I46 g46 r46 => ?_)
                have f46 := fr_tr (F1 := F_X12_line) (F := F_X12_order) f4 g46 (by decide)
                obtain ⟨a46, b46⟩ := r46
                refine te_istore_n (p2 := 60) (lv2 := [(2, .int y46), (0, .ref 164), (1, .int v4_1)]) rfl rfl (by decide) rfl ?_
                refine ar_inc (p2 := 63) (x := v4_1) rfl rfl (by decide) rfl (by decide) rfl (by omega) (by omega) (fun z47 e47 f47 => ?_)
                show EvP _ _ _ (63, [(1, .int z47), (2, .int y46), (0, .ref 164)], [], h46) _
                refine te_goto rfl ?_
                refine te_lv [(0, .ref 164), (1, .int z47), (2, .int y46)] rfl rfl ⟨rfl, rfl, rfl, trivial⟩ ?_
                exact ih4 z47 y46 t4_o h46 I46 f46 (by omega) (by omega) (by omega) (by omega) ((g46 _ _ (by decide)).trans v4_o) (by omega) (by omega) (by omega) (by omega)
    refine te_lv [(0, .ref 164), (1, .int 0), (2, .int 1)] rfl rfl ⟨rfl, rfl, rfl, trivial⟩ ?_
    exact lp4 9 0 1 y1 h3 I3 f3 (by decide) (by decide) (by decide) (by decide) ((u3.2 _ _ (Or.inr (by decide))).trans e1) (by omega) (by omega) (by have cc0 := (show Int32.toInt 0 = 0 from rfl); have cc1 := (show Int32.toInt 1 = 1 from rfl); omega) (by have cc0 := (show Int32.toInt 0 = 0 from rfl); have cc1 := (show Int32.toInt 1 = 1 from rfl); omega)
  · refine te_bipush (p2 := 11) (x := (-4)) rfl rfl (by decide) ?_
    exact te_iret rfl rfl ⟨hI, f0, _, rfl, trivial⟩
