def fA (x1 x2 x3 pc p : Int32) : Int32 := if 0 ≤ x1.toInt ∧ x1.toInt ≤ 11 ∧ 0 ≤ x2.toInt ∧ x2.toInt < pc.toInt then (if 0 ≤ x3.toInt ∧ x3.toInt ≤ 2000 then (if 24 ≤ p.toInt then -4 else p) else -2) else -1
def gA (x1 x2 x3 pc p : Int32) : Int32 := if 0 ≤ x1.toInt ∧ x1.toInt ≤ 11 ∧ 0 ≤ x2.toInt ∧ x2.toInt < pc.toInt then (if 0 ≤ x3.toInt ∧ x3.toInt ≤ 2000 then (if 24 ≤ p.toInt then p else p + 1) else p) else p
abbrev Q1_paper (x1 x2 x3 : Int32) (y : Int32) (h h2 : im_H) : Prop := ∃ pc p d : Int32, rd h 1 2 = some (.int pc) ∧ rd h 91 0 = some (.int p) ∧ rd h 23 0 = some (.int d) ∧ y = fA x1 x2 x3 pc p ∧ rd h2 91 0 = some (.int (gA x1 x2 x3 pc p)) ∧ (0 ≤ y.toInt → rd h2 92 p.toInt.toNat = some (.int x1) ∧ rd h2 93 p.toInt.toNat = some (.int x2) ∧ rd h2 94 p.toInt.toNat = some (.int x3) ∧ rd h2 95 p.toInt.toNat = some (.int d)) ∧ (∀ k : Nat, (k ≠ p.toInt.toNat ∨ ¬ 0 ≤ y.toInt) → rd h2 92 k = rd h 92 k ∧ rd h2 93 k = rd h 93 k ∧ rd h2 94 k = rd h 94 k ∧ rd h2 95 k = rd h 95 k)
set_option maxRecDepth 20000 in
set_option maxHeartbeats 4000000 in
theorem c_X11_paper {x1 : Int32} {x2 : Int32} {x3 : Int32} {h : im_H} (hI : tI h)  : CaP 8 96 [.ref 16, .int x1, .int x2, .int x3] h (fun v h2 => tI h2 ∧ fr F_X11_paper h h2 ∧ ∃ y : Int32, v = some (.int y) ∧ Q1_paper x1 x2 x3 y h h2) := by
  refine cap_of (d := 7) (M := mX11_paper) rfl (Nat.le_of_ble_eq_true rfl) ?_
  show EvP im_K0 7 mX11_paper (0, [(0, .ref 16), (1, .int x1), (2, .int x2), (3, .int x3)], [], h) _
  have f0 : fr F_X11_paper h h := fr_rf
  refine te_iload_n (p2 := 1) rfl rfl rfl ?_
  refine te_bipush (p2 := 3) (x := 12) rfl rfl (by decide) ?_
  refine cS_pI (p2 := 6) rfl rfl rfl rfl (t_X11_within (n := x1) (b := 12) hI ) (by decide) (fun y1 r1 => ?_)
  rcases r1 with ⟨w1, c1⟩ | ⟨w1, c1⟩
  · subst w1
    have cc1_1 := (show Int32.toInt 12 = 12 from rfl)
    refine tz_eq (p2 := 9) rfl rfl (show Int32.toInt 1 = 1 from rfl) (fun c2 => absurd c2 (by omega)) (fun c2 => ?_)
    refine te_iload_n (p2 := 10) rfl rfl rfl ?_
    refine te_aload_n (p2 := 11) rfl rfl rfl ?_
    refine tg_r (p2 := 14) (i := 0) (r := 17) rfl rfl hI rfl rfl rfl ?_
    refine tg_i (p2 := 17) (i := 1) rfl rfl hI rfl rfl rfl (fun y3 a3 b3 e3 => ?_)
    refine cS_pI (p2 := 20) rfl rfl rfl rfl (t_X11_within (n := x2) (b := y3) hI ) (by decide) (fun y4 r4 => ?_)
    rcases r4 with ⟨w4, c4⟩ | ⟨w4, c4⟩
    · subst w4
      refine tz_ne (p2 := 23) rfl rfl (show Int32.toInt 1 = 1 from rfl) (fun c5 => ?_) (fun c5 => absurd c5 (by omega))
      refine te_iload_n (p2 := 26) rfl rfl rfl ?_
      refine te_iconst (p2 := 27) (x := 0) rfl rfl (by decide) ?_
      refine te_sipush (p2 := 30) (x := 2000) rfl rfl (by decide) ?_
      refine cS_pI (p2 := 33) rfl rfl rfl rfl (t_X11_between (n := x3) (a := 0) (b := 2000) hI ) (by decide) (fun y6 r6 => ?_)
      rcases r6 with ⟨w6, c6⟩ | ⟨w6, c6⟩
      · subst w6
        have cc6_1 := (show Int32.toInt 0 = 0 from rfl)
        have cc6_2 := (show Int32.toInt 2000 = 2000 from rfl)
        refine tz_ne (p2 := 36) rfl rfl (show Int32.toInt 1 = 1 from rfl) (fun c7 => ?_) (fun c7 => absurd c7 (by omega))
        refine te_aload_n (p2 := 40) rfl rfl rfl ?_
        refine tg_r (p2 := 43) (i := 0) (r := 107) rfl rfl hI rfl rfl rfl ?_
        refine tg_i (p2 := 46) (i := 91) rfl rfl hI rfl rfl rfl (fun y8 a8 b8 e8 => ?_)
        refine te_bipush (p2 := 48) (x := 24) rfl rfl (by decide) ?_
        refine tb_lt (p2 := 51) rfl rfl rfl (show Int32.toInt 24 = 24 from rfl) (fun c9 => ?_) (fun c9 => ?_)
        · refine te_aload_n (p2 := 55) rfl rfl rfl ?_
          refine tg_r (p2 := 58) (i := 0) (r := 107) rfl rfl hI rfl rfl rfl ?_
          refine tg_e (p2 := 61) (i := 91) (v := .int y8) rfl rfl hI rfl rfl e8 ?_
          refine te_istore (p2 := 63) (lv2 := [(4, .int y8), (0, .ref 16), (1, .int x1), (2, .int x2), (3, .int x3)]) rfl rfl (by decide) rfl ?_
          refine te_aload_n (p2 := 64) rfl rfl rfl ?_
          refine tg_r (p2 := 67) (i := 0) (r := 107) rfl rfl hI rfl rfl rfl ?_
          refine tg_r (p2 := 70) (i := 91) (r := 108) rfl rfl hI rfl rfl rfl ?_
          refine te_iload (p2 := 72) rfl rfl rfl ?_
          refine te_iload_n (p2 := 73) rfl rfl rfl ?_
          refine ts_i (p2 := 74) (i := 92) (n := 24) rfl rfl hI rfl rfl rfl rfl (by omega) (by omega) (i32_lo _) (i32_hi _) (i32_ho _) rfl (fun h10 I10 u10 => ?_)
          have f10 := fr_st (F := F_X11_paper) 1 f0 u10 rfl (by omega) (by omega)
          refine te_aload_n (p2 := 75) rfl rfl rfl ?_
          refine tg_r (p2 := 78) (i := 0) (r := 107) rfl rfl I10 rfl rfl rfl ?_
          refine tg_r (p2 := 81) (i := 91) (r := 109) rfl rfl I10 rfl rfl rfl ?_
          refine te_iload (p2 := 83) rfl rfl rfl ?_
          refine te_iload_n (p2 := 84) rfl rfl rfl ?_
          refine ts_i (p2 := 85) (i := 93) (n := 24) rfl rfl I10 rfl rfl rfl rfl (by omega) (by omega) (i32_lo _) (i32_hi _) (i32_ho _) rfl (fun h11 I11 u11 => ?_)
          have f11 := fr_st (F := F_X11_paper) 2 f10 u11 rfl (by omega) (by omega)
          refine te_aload_n (p2 := 86) rfl rfl rfl ?_
          refine tg_r (p2 := 89) (i := 0) (r := 107) rfl rfl I11 rfl rfl rfl ?_
          refine tg_r (p2 := 92) (i := 91) (r := 110) rfl rfl I11 rfl rfl rfl ?_
          refine te_iload (p2 := 94) rfl rfl rfl ?_
          refine te_iload_n (p2 := 95) rfl rfl rfl ?_
          refine ts_i (p2 := 96) (i := 94) (n := 24) rfl rfl I11 rfl rfl rfl rfl (by omega) (by omega) (i32_lo _) (i32_hi _) (i32_ho _) rfl (fun h12 I12 u12 => ?_)
          have f12 := fr_st (F := F_X11_paper) 3 f11 u12 rfl (by omega) (by omega)
          refine te_aload_n (p2 := 97) rfl rfl rfl ?_
          refine tg_r (p2 := 100) (i := 0) (r := 107) rfl rfl I12 rfl rfl rfl ?_
          refine tg_r (p2 := 103) (i := 91) (r := 111) rfl rfl I12 rfl rfl rfl ?_
          refine te_iload (p2 := 105) rfl rfl rfl ?_
          refine te_aload_n (p2 := 106) rfl rfl rfl ?_
          refine tg_r (p2 := 109) (i := 0) (r := 39) rfl rfl I12 rfl rfl rfl ?_
          refine tg_i (p2 := 112) (i := 23) rfl rfl I12 rfl rfl rfl (fun y13 a13 b13 e13 => ?_)
          refine ts_i (p2 := 113) (i := 95) (n := 24) rfl rfl I12 rfl rfl rfl rfl (by omega) (by omega) (i32_lo _) (i32_hi _) (i32_ho _) rfl (fun h14 I14 u14 => ?_)
          have f14 := fr_st (F := F_X11_paper) 4 f12 u14 rfl (by omega) (by omega)
          refine te_aload_n (p2 := 114) rfl rfl rfl ?_
          refine tg_r (p2 := 117) (i := 0) (r := 107) rfl rfl I14 rfl rfl rfl ?_
          refine te_dup (p2 := 118) rfl rfl rfl ?_
          refine tg_e (p2 := 121) (i := 91) (v := .int y8) rfl rfl I14 rfl rfl ((u14.2 _ _ (Or.inl (by decide))).trans ((u12.2 _ _ (Or.inl (by decide))).trans ((u11.2 _ _ (Or.inl (by decide))).trans ((u10.2 _ _ (Or.inl (by decide))).trans e8)))) ?_
          refine te_iconst (p2 := 122) (x := 1) rfl rfl (by decide) ?_
          refine ar_add (p2 := 123) rfl rfl rfl (show Int32.toInt 1 = 1 from rfl) (by omega) (by omega) (fun z15 e15 f15 => ?_)
          refine tp_i (p2 := 126) (i := 91) rfl rfl I14 rfl rfl (by decide) rfl rfl rfl (by omega) (by omega) (by omega) rfl (fun h16 I16 u16 => ?_)
          have f16 := fr_st (F := F_X11_paper) 0 f14 u16 rfl (by decide) (by decide)
          refine te_iload (p2 := 128) rfl rfl rfl ?_
          exact te_iret rfl rfl ⟨I16, f16, _, rfl, y3, y8, y13, e3, e8, ((f16 23 0 rfl).symm.trans ((u16.2 _ _ (Or.inl (by decide))).trans ((u14.2 _ _ (Or.inl (by decide))).trans e13))), (show y8 = fA x1 x2 x3 y3 y8 from by (unfold fA; (repeat' split) <;> first | (exfalso; omega) | rfl | assumption | (exact i32_ext (by omega)) | (subst_vars; rfl))), u16.1.trans (congrArg (fun t => some (Value.int t)) (show z15 = gA x1 x2 x3 y3 y8 from by (unfold gA; (repeat' split) <;> first | (exfalso; omega) | rfl | assumption | (exact i32_ext (by omega)) | (subst_vars; rfl)))), (fun _ => ⟨(u16.2 _ _ (Or.inl (by decide))).trans ((u14.2 _ _ (Or.inl (by decide))).trans ((u12.2 _ _ (Or.inl (by decide))).trans ((u11.2 _ _ (Or.inl (by decide))).trans (u10.1)))), (u16.2 _ _ (Or.inl (by decide))).trans ((u14.2 _ _ (Or.inl (by decide))).trans ((u12.2 _ _ (Or.inl (by decide))).trans (u11.1))), (u16.2 _ _ (Or.inl (by decide))).trans ((u14.2 _ _ (Or.inl (by decide))).trans (u12.1)), (u16.2 _ _ (Or.inl (by decide))).trans (u14.1)⟩), (fun k hk => by (have hq : k ≠ y8.toInt.toNat := hk.resolve_right (fun h9 => h9 (by omega))); exact ⟨((u16.2 _ _ (Or.inl (by decide))).trans ((u14.2 _ _ (Or.inl (by decide))).trans ((u12.2 _ _ (Or.inl (by decide))).trans ((u11.2 _ _ (Or.inl (by decide))).trans (u10.2 _ _ (Or.inr hq)))))), ((u16.2 _ _ (Or.inl (by decide))).trans ((u14.2 _ _ (Or.inl (by decide))).trans ((u12.2 _ _ (Or.inl (by decide))).trans ((u11.2 _ _ (Or.inr hq)).trans (u10.2 _ _ (Or.inl (by decide))))))), ((u16.2 _ _ (Or.inl (by decide))).trans ((u14.2 _ _ (Or.inl (by decide))).trans ((u12.2 _ _ (Or.inr hq)).trans ((u11.2 _ _ (Or.inl (by decide))).trans (u10.2 _ _ (Or.inl (by decide))))))), ((u16.2 _ _ (Or.inl (by decide))).trans ((u14.2 _ _ (Or.inr hq)).trans ((u12.2 _ _ (Or.inl (by decide))).trans ((u11.2 _ _ (Or.inl (by decide))).trans (u10.2 _ _ (Or.inl (by decide)))))))⟩)⟩
        · refine te_bipush (p2 := 53) (x := (-4)) rfl rfl (by decide) ?_
          obtain ⟨v17, e17, y17, w17, a17, b17, _⟩ := hI.2.1 23 0 (.inl ((-2147483648), 2147483647, 9999999999)) rfl
          subst w17
          exact te_iret rfl rfl ⟨hI, f0, _, rfl, y3, y8, y17, e3, e8, e17, (show (-4) = fA x1 x2 x3 y3 y8 from by (have c0_ := (show Int32.toInt (-4) = (-4) from rfl); unfold fA; (repeat' split) <;> first | (exfalso; omega) | rfl | assumption | (exact i32_ext (by omega)) | (subst_vars; rfl))), e8.trans (congrArg (fun t => some (Value.int t)) (show y8 = gA x1 x2 x3 y3 y8 from by (have c0_ := (show Int32.toInt (-4) = (-4) from rfl); unfold gA; (repeat' split) <;> first | (exfalso; omega) | rfl | assumption | (exact i32_ext (by omega)) | (subst_vars; rfl)))), (fun hy => absurd hy (by rw [show Int32.toInt (-4) = (-4) from rfl]; decide)), (fun k hk => ⟨rfl, rfl, rfl, rfl⟩)⟩
      · subst w6
        have cc6_1 := (show Int32.toInt 0 = 0 from rfl)
        have cc6_2 := (show Int32.toInt 2000 = 2000 from rfl)
        refine tz_ne (p2 := 36) rfl rfl (show Int32.toInt 0 = 0 from rfl) (fun c18 => absurd c18 (by omega)) (fun c18 => ?_)
        refine te_bipush (p2 := 38) (x := (-2)) rfl rfl (by decide) ?_
        obtain ⟨v19, e19, y19, w19, a19, b19, _⟩ := hI.2.1 91 0 (.inl (0, 24, 9999999999)) rfl
        subst w19
        obtain ⟨v20, e20, y20, w20, a20, b20, _⟩ := hI.2.1 23 0 (.inl ((-2147483648), 2147483647, 9999999999)) rfl
        subst w20
        exact te_iret rfl rfl ⟨hI, f0, _, rfl, y3, y19, y20, e3, e19, e20, (show (-2) = fA x1 x2 x3 y3 y19 from by (have c0_ := (show Int32.toInt (-2) = (-2) from rfl); unfold fA; (repeat' split) <;> first | (exfalso; omega) | rfl | assumption | (exact i32_ext (by omega)) | (subst_vars; rfl))), e19.trans (congrArg (fun t => some (Value.int t)) (show y19 = gA x1 x2 x3 y3 y19 from by (have c0_ := (show Int32.toInt (-2) = (-2) from rfl); unfold gA; (repeat' split) <;> first | (exfalso; omega) | rfl | assumption | (exact i32_ext (by omega)) | (subst_vars; rfl)))), (fun hy => absurd hy (by rw [show Int32.toInt (-2) = (-2) from rfl]; decide)), (fun k hk => ⟨rfl, rfl, rfl, rfl⟩)⟩
    · subst w4
      refine tz_ne (p2 := 23) rfl rfl (show Int32.toInt 0 = 0 from rfl) (fun c21 => absurd c21 (by omega)) (fun c21 => ?_)
      refine te_iconst (p2 := 24) (x := (-1)) rfl rfl (by decide) ?_
      obtain ⟨v22, e22, y22, w22, a22, b22, _⟩ := hI.2.1 91 0 (.inl (0, 24, 9999999999)) rfl
      subst w22
      obtain ⟨v23, e23, y23, w23, a23, b23, _⟩ := hI.2.1 23 0 (.inl ((-2147483648), 2147483647, 9999999999)) rfl
      subst w23
      exact te_iret rfl rfl ⟨hI, f0, _, rfl, y3, y22, y23, e3, e22, e23, (show (-1) = fA x1 x2 x3 y3 y22 from by (have c0_ := (show Int32.toInt (-1) = (-1) from rfl); unfold fA; (repeat' split) <;> first | (exfalso; omega) | rfl | assumption | (exact i32_ext (by omega)) | (subst_vars; rfl))), e22.trans (congrArg (fun t => some (Value.int t)) (show y22 = gA x1 x2 x3 y3 y22 from by (have c0_ := (show Int32.toInt (-1) = (-1) from rfl); unfold gA; (repeat' split) <;> first | (exfalso; omega) | rfl | assumption | (exact i32_ext (by omega)) | (subst_vars; rfl)))), (fun hy => absurd hy (by rw [show Int32.toInt (-1) = (-1) from rfl]; decide)), (fun k hk => ⟨rfl, rfl, rfl, rfl⟩)⟩
  · subst w1
    have cc1_1 := (show Int32.toInt 12 = 12 from rfl)
    refine tz_eq (p2 := 9) rfl rfl (show Int32.toInt 0 = 0 from rfl) (fun c24 => ?_) (fun c24 => absurd c24 (by omega))
    refine te_iconst (p2 := 24) (x := (-1)) rfl rfl (by decide) ?_
    obtain ⟨v25, e25, y25, w25, a25, b25, _⟩ := hI.2.1 1 2 (.inl (0, 24, 9999999999)) rfl
    subst w25
    obtain ⟨v26, e26, y26, w26, a26, b26, _⟩ := hI.2.1 91 0 (.inl (0, 24, 9999999999)) rfl
    subst w26
    obtain ⟨v27, e27, y27, w27, a27, b27, _⟩ := hI.2.1 23 0 (.inl ((-2147483648), 2147483647, 9999999999)) rfl
    subst w27
    exact te_iret rfl rfl ⟨hI, f0, _, rfl, y25, y26, y27, e25, e26, e27, (show (-1) = fA x1 x2 x3 y25 y26 from by (have c0_ := (show Int32.toInt (-1) = (-1) from rfl); unfold fA; (repeat' split) <;> first | (exfalso; omega) | rfl | assumption | (exact i32_ext (by omega)) | (subst_vars; rfl))), e26.trans (congrArg (fun t => some (Value.int t)) (show y26 = gA x1 x2 x3 y25 y26 from by (have c0_ := (show Int32.toInt (-1) = (-1) from rfl); unfold gA; (repeat' split) <;> first | (exfalso; omega) | rfl | assumption | (exact i32_ext (by omega)) | (subst_vars; rfl)))), (fun hy => absurd hy (by rw [show Int32.toInt (-1) = (-1) from rfl]; decide)), (fun k hk => ⟨rfl, rfl, rfl, rfl⟩)⟩
abbrev Q1_burn (x1 : Int32) (y : Int32) (h h2 : im_H) : Prop := ∃ p d : Int32, rd h 91 0 = some (.int p) ∧ rd h 23 0 = some (.int d) ∧ ((0 ≤ x1.toInt ∧ x1.toInt < p.toInt ∧ ∃ b : Int32, rd h 96 x1.toInt.toNat = some (.int b) ∧ y = (if b.toInt = -1 then 1 else -3)) ∨ (¬ (0 ≤ x1.toInt ∧ x1.toInt < p.toInt) ∧ y = -1)) ∧ (y.toInt = 1 → rd h2 96 x1.toInt.toNat = some (.int d)) ∧ (∀ k : Nat, (k ≠ x1.toInt.toNat ∨ y.toInt ≠ 1) → rd h2 96 k = rd h 96 k)
set_option maxRecDepth 20000 in
set_option maxHeartbeats 4000000 in
theorem c_X11_burn {x1 : Int32} {h : im_H} (hI : tI h)  : CaP 8 97 [.ref 16, .int x1] h (fun v h2 => tI h2 ∧ fr F_X11_burn h h2 ∧ ∃ y : Int32, v = some (.int y) ∧ Q1_burn x1 y h h2) := by
  refine cap_of (d := 7) (M := mX11_burn) rfl (Nat.le_of_ble_eq_true rfl) ?_
  show EvP im_K0 7 mX11_burn (0, [(0, .ref 16), (1, .int x1)], [], h) _
  have f0 : fr F_X11_burn h h := fr_rf
  refine te_iload_n (p2 := 1) rfl rfl rfl ?_
  refine te_aload_n (p2 := 2) rfl rfl rfl ?_
  refine tg_r (p2 := 5) (i := 0) (r := 107) rfl rfl hI rfl rfl rfl ?_
  refine tg_i (p2 := 8) (i := 91) rfl rfl hI rfl rfl rfl (fun y1 a1 b1 e1 => ?_)
  refine cS_pI (p2 := 11) rfl rfl rfl rfl (t_X11_within (n := x1) (b := y1) hI ) (by decide) (fun y2 r2 => ?_)
  rcases r2 with ⟨w2, c2⟩ | ⟨w2, c2⟩
  · subst w2
    refine tz_ne (p2 := 14) rfl rfl (show Int32.toInt 1 = 1 from rfl) (fun c3 => ?_) (fun c3 => absurd c3 (by omega))
    refine te_aload_n (p2 := 17) rfl rfl rfl ?_
    refine tg_r (p2 := 20) (i := 0) (r := 107) rfl rfl hI rfl rfl rfl ?_
    refine tg_r (p2 := 23) (i := 91) (r := 112) rfl rfl hI rfl rfl rfl ?_
    refine te_iload_n (p2 := 24) rfl rfl rfl ?_
    refine tl_i (p2 := 25) (i := 96) (n := 24) rfl rfl hI rfl rfl rfl rfl (by omega) (by omega) (fun y4 a4 b4 g4 e4 => ?_)
    refine te_iconst (p2 := 26) (x := (-1)) rfl rfl (by decide) ?_
    refine tb_eq (p2 := 29) rfl rfl rfl (show Int32.toInt (-1) = (-1) from rfl) (fun c5 => ?_) (fun c5 => ?_)
    · refine te_aload_n (p2 := 33) rfl rfl rfl ?_
      refine tg_r (p2 := 36) (i := 0) (r := 107) rfl rfl hI rfl rfl rfl ?_
      refine tg_r (p2 := 39) (i := 91) (r := 112) rfl rfl hI rfl rfl rfl ?_
      refine te_iload_n (p2 := 40) rfl rfl rfl ?_
      refine te_aload_n (p2 := 41) rfl rfl rfl ?_
      refine tg_r (p2 := 44) (i := 0) (r := 39) rfl rfl hI rfl rfl rfl ?_
      refine tg_i (p2 := 47) (i := 23) rfl rfl hI rfl rfl rfl (fun y6 a6 b6 e6 => ?_)
      refine ts_i (p2 := 48) (i := 96) (n := 24) rfl rfl hI rfl rfl rfl rfl (by omega) (by omega) (i32_lo _) (i32_hi _) (i32_ho _) rfl (fun h7 I7 u7 => ?_)
      have f7 := fr_st (F := F_X11_burn) 0 f0 u7 rfl (by omega) (by omega)
      refine te_iconst (p2 := 49) (x := 1) rfl rfl (by decide) ?_
      exact te_iret rfl rfl ⟨I7, f7, _, rfl, y1, y6, e1, e6, Or.inl ⟨by omega, by omega, y4, e4, (by rw [if_pos (by omega)])⟩, (fun _ => u7.1), (fun k hk => u7.2 _ _ (Or.inr (hk.resolve_right (fun h9 => h9 (by decide)))))⟩
    · refine te_bipush (p2 := 31) (x := (-3)) rfl rfl (by decide) ?_
      obtain ⟨v8, e8, y8, w8, a8, b8, _⟩ := hI.2.1 23 0 (.inl ((-2147483648), 2147483647, 9999999999)) rfl
      subst w8
      exact te_iret rfl rfl ⟨hI, f0, _, rfl, y1, y8, e1, e8, Or.inl ⟨by omega, by omega, y4, e4, (by rw [if_neg (by omega)])⟩, (fun hy => absurd hy (by decide)), (fun k hk => rfl)⟩
  · subst w2
    refine tz_ne (p2 := 14) rfl rfl (show Int32.toInt 0 = 0 from rfl) (fun c9 => absurd c9 (by omega)) (fun c9 => ?_)
    refine te_iconst (p2 := 15) (x := (-1)) rfl rfl (by decide) ?_
    obtain ⟨v10, e10, y10, w10, a10, b10, _⟩ := hI.2.1 23 0 (.inl ((-2147483648), 2147483647, 9999999999)) rfl
    subst w10
    exact te_iret rfl rfl ⟨hI, f0, _, rfl, y1, y10, e1, e10, Or.inr ⟨by omega, rfl⟩, (fun hy => absurd hy (by decide)), (fun k hk => rfl)⟩
abbrev Q2_paper (x1 x2 x3 : Int32) (y : Int32) (h h2 : im_H) : Prop := ∃ pc p d : Int32, rd h 148 10 = some (.int pc) ∧ rd h 148 35 = some (.int p) ∧ rd h 149 105 = some (.int d) ∧ y = fA x1 x2 x3 pc p ∧ rd h2 148 35 = some (.int (gA x1 x2 x3 pc p)) ∧ (0 ≤ y.toInt → rd h2 178 p.toInt.toNat = some (.int x1) ∧ rd h2 179 p.toInt.toNat = some (.int x2) ∧ rd h2 180 p.toInt.toNat = some (.int x3) ∧ rd h2 181 p.toInt.toNat = some (.int d)) ∧ (∀ k : Nat, (k ≠ p.toInt.toNat ∨ ¬ 0 ≤ y.toInt) → rd h2 178 k = rd h 178 k ∧ rd h2 179 k = rd h 179 k ∧ rd h2 180 k = rd h 180 k ∧ rd h2 181 k = rd h 181 k)
set_option maxRecDepth 20000 in
set_option maxHeartbeats 4000000 in
theorem c_X12_paper {x1 : Int32} {x2 : Int32} {x3 : Int32} {h : im_H} (hI : tI h)  : CaP 8 182 [.ref 164, .int x1, .int x2, .int x3] h (fun v h2 => tI h2 ∧ fr F_X12_paper h h2 ∧ ∃ y : Int32, v = some (.int y) ∧ Q2_paper x1 x2 x3 y h h2) := by
  refine cap_of (d := 7) (M := mX12_paper) rfl (Nat.le_of_ble_eq_true rfl) ?_
  show EvP im_K0 7 mX12_paper (0, [(0, .ref 164), (1, .int x1), (2, .int x2), (3, .int x3)], [], h) _
  have f0 : fr F_X12_paper h h := fr_rf
  refine te_iload_n (p2 := 1) rfl rfl rfl ?_
  refine te_iconst (p2 := 2) (x := 0) rfl rfl (by decide) ?_
  refine te_bipush (p2 := 4) (x := 11) rfl rfl (by decide) ?_
  refine cS_pI (p2 := 7) rfl rfl rfl rfl (t_X12_in (n := x1) (a := 0) (b := 11) hI ) (by decide) (fun y1 r1 => ?_)
  rcases r1 with ⟨w1, c1⟩ | ⟨w1, c1⟩
  · subst w1
    have cc1_1 := (show Int32.toInt 0 = 0 from rfl)
    have cc1_2 := (show Int32.toInt 11 = 11 from rfl)
    refine tz_eq (p2 := 10) rfl rfl (show Int32.toInt 1 = 1 from rfl) (fun c2 => absurd c2 (by omega)) (fun c2 => ?_)
    refine te_aload_n (p2 := 11) rfl rfl rfl ?_
    refine te_iload_n (p2 := 12) rfl rfl rfl ?_
    refine cV_pI (p2 := 15) (i := 148) rfl rfl rfl rfl hI rfl rfl rfl (t_X12_isPerson (k := x2) hI) (by decide) (fun y3 r3 => ?_)
    obtain ⟨p3, e3, a3, b3, r3⟩ := r3
    rcases r3 with ⟨w3, c3⟩ | ⟨w3, c3⟩
    · subst w3
      refine tz_ne (p2 := 18) rfl rfl (show Int32.toInt 1 = 1 from rfl) (fun c4 => ?_) (fun c4 => absurd c4 (by omega))
      refine te_iload_n (p2 := 21) rfl rfl rfl ?_
      refine te_iconst (p2 := 22) (x := 0) rfl rfl (by decide) ?_
      refine te_sipush (p2 := 25) (x := 2000) rfl rfl (by decide) ?_
      refine cS_pI (p2 := 28) rfl rfl rfl rfl (t_X12_in (n := x3) (a := 0) (b := 2000) hI ) (by decide) (fun y5 r5 => ?_)
      rcases r5 with ⟨w5, c5⟩ | ⟨w5, c5⟩
      · subst w5
        have cc5_1 := (show Int32.toInt 0 = 0 from rfl)
        have cc5_2 := (show Int32.toInt 2000 = 2000 from rfl)
        refine tz_ne (p2 := 31) rfl rfl (show Int32.toInt 1 = 1 from rfl) (fun c6 => ?_) (fun c6 => absurd c6 (by omega))
        refine te_aload_n (p2 := 35) rfl rfl rfl ?_
        refine tg_i (p2 := 38) (i := 148) rfl rfl hI rfl rfl rfl (fun y7 a7 b7 e7 => ?_)
        refine te_bipush (p2 := 40) (x := 24) rfl rfl (by decide) ?_
        refine tb_ne (p2 := 43) rfl rfl rfl (show Int32.toInt 24 = 24 from rfl) (fun c8 => ?_) (fun c8 => ?_)
        · refine te_aload_n (p2 := 47) rfl rfl rfl ?_
          refine tg_r (p2 := 50) (i := 148) (r := 194) rfl rfl hI rfl rfl rfl ?_
          refine te_aload_n (p2 := 51) rfl rfl rfl ?_
          refine tg_e (p2 := 54) (i := 148) (v := .int y7) rfl rfl hI rfl rfl e7 ?_
          refine te_iload_n (p2 := 55) rfl rfl rfl ?_
          refine ts_i (p2 := 56) (i := 178) (n := 24) rfl rfl hI rfl rfl rfl rfl (by omega) (by omega) (i32_lo _) (i32_hi _) (i32_ho _) rfl (fun h9 I9 u9 => ?_)
          have f9 := fr_st (F := F_X12_paper) 1 f0 u9 rfl (by omega) (by omega)
          refine te_aload_n (p2 := 57) rfl rfl rfl ?_
          refine tg_r (p2 := 60) (i := 148) (r := 195) rfl rfl I9 rfl rfl rfl ?_
          refine te_aload_n (p2 := 61) rfl rfl rfl ?_
          refine tg_e (p2 := 64) (i := 148) (v := .int y7) rfl rfl I9 rfl rfl ((u9.2 _ _ (Or.inl (by decide))).trans e7) ?_
          refine te_iload_n (p2 := 65) rfl rfl rfl ?_
          refine ts_i (p2 := 66) (i := 179) (n := 24) rfl rfl I9 rfl rfl rfl rfl (by omega) (by omega) (by omega) (by omega) (by omega) rfl (fun h10 I10 u10 => ?_)
          have f10 := fr_st (F := F_X12_paper) 2 f9 u10 rfl (by omega) (by omega)
          refine te_aload_n (p2 := 67) rfl rfl rfl ?_
          refine tg_r (p2 := 70) (i := 148) (r := 196) rfl rfl I10 rfl rfl rfl ?_
          refine te_aload_n (p2 := 71) rfl rfl rfl ?_
          refine tg_e (p2 := 74) (i := 148) (v := .int y7) rfl rfl I10 rfl rfl ((u10.2 _ _ (Or.inl (by decide))).trans ((u9.2 _ _ (Or.inl (by decide))).trans e7)) ?_
          refine te_iload_n (p2 := 75) rfl rfl rfl ?_
          refine ts_i (p2 := 76) (i := 180) (n := 24) rfl rfl I10 rfl rfl rfl rfl (by omega) (by omega) (i32_lo _) (i32_hi _) (i32_ho _) rfl (fun h11 I11 u11 => ?_)
          have f11 := fr_st (F := F_X12_paper) 3 f10 u11 rfl (by omega) (by omega)
          refine te_aload_n (p2 := 77) rfl rfl rfl ?_
          refine tg_r (p2 := 80) (i := 148) (r := 197) rfl rfl I11 rfl rfl rfl ?_
          refine te_aload_n (p2 := 81) rfl rfl rfl ?_
          refine tg_e (p2 := 84) (i := 148) (v := .int y7) rfl rfl I11 rfl rfl ((u11.2 _ _ (Or.inl (by decide))).trans ((u10.2 _ _ (Or.inl (by decide))).trans ((u9.2 _ _ (Or.inl (by decide))).trans e7))) ?_
          refine te_aload_n (p2 := 85) rfl rfl rfl ?_
          refine tg_r (p2 := 88) (i := 148) (r := 165) rfl rfl I11 rfl rfl rfl ?_
          refine te_bipush (p2 := 90) (x := 105) rfl rfl (by decide) ?_
          refine tl_i (p2 := 91) (i := 149) (n := 283) rfl rfl I11 rfl rfl rfl rfl (by decide) (by decide) (fun y12 a12 b12 g12 e12 => ?_)
          refine ts_i (p2 := 92) (i := 181) (n := 24) rfl rfl I11 rfl rfl rfl rfl (by omega) (by omega) (i32_lo _) (i32_hi _) (i32_ho _) rfl (fun h13 I13 u13 => ?_)
          have f13 := fr_st (F := F_X12_paper) 4 f11 u13 rfl (by omega) (by omega)
          refine te_aload_n (p2 := 93) rfl rfl rfl ?_
          refine te_dup (p2 := 94) rfl rfl rfl ?_
          refine tg_e (p2 := 97) (i := 148) (v := .int y7) rfl rfl I13 rfl rfl ((u13.2 _ _ (Or.inl (by decide))).trans ((u11.2 _ _ (Or.inl (by decide))).trans ((u10.2 _ _ (Or.inl (by decide))).trans ((u9.2 _ _ (Or.inl (by decide))).trans e7)))) ?_
          refine te_iconst (p2 := 98) (x := 1) rfl rfl (by decide) ?_
          refine ar_add (p2 := 99) rfl rfl rfl (show Int32.toInt 1 = 1 from rfl) (by omega) (by omega) (fun z14 e14 f14 => ?_)
          refine tp_i (p2 := 102) (i := 148) rfl rfl I13 rfl rfl (by decide) rfl rfl rfl (by omega) (by omega) (by omega) rfl (fun h15 I15 u15 => ?_)
          have f15 := fr_st (F := F_X12_paper) 0 f13 u15 rfl (by decide) (by decide)
          refine te_aload_n (p2 := 103) rfl rfl rfl ?_
          refine tg_e (p2 := 106) (i := 148) (v := .int z14) rfl rfl I15 rfl rfl u15.1 ?_
          refine te_iconst (p2 := 107) (x := 1) rfl rfl (by decide) ?_
          refine ar_sub (p2 := 108) rfl rfl rfl (show Int32.toInt 1 = 1 from rfl) (by omega) (by omega) (fun z16 e16 f16 => ?_)
          exact te_iret rfl rfl ⟨I15, f15, _, rfl, p3, y7, y12, ((f15 148 10 rfl).symm.trans ((u15.2 _ _ (Or.inr (by decide))).trans ((u13.2 _ _ (Or.inl (by decide))).trans ((u11.2 _ _ (Or.inl (by decide))).trans ((u10.2 _ _ (Or.inl (by decide))).trans ((u9.2 _ _ (Or.inl (by decide))).trans e3)))))), e7, ((f15 149 105 rfl).symm.trans ((u15.2 _ _ (Or.inl (by decide))).trans ((u13.2 _ _ (Or.inl (by decide))).trans e12))), (show z16 = fA x1 x2 x3 p3 y7 from by (unfold fA; (repeat' split) <;> first | (exfalso; omega) | rfl | assumption | (exact i32_ext (by omega)) | (subst_vars; rfl))), u15.1.trans (congrArg (fun t => some (Value.int t)) (show z14 = gA x1 x2 x3 p3 y7 from by (unfold gA; (repeat' split) <;> first | (exfalso; omega) | rfl | assumption | (exact i32_ext (by omega)) | (subst_vars; rfl)))), (fun _ => ⟨(u15.2 _ _ (Or.inl (by decide))).trans ((u13.2 _ _ (Or.inl (by decide))).trans ((u11.2 _ _ (Or.inl (by decide))).trans ((u10.2 _ _ (Or.inl (by decide))).trans (u9.1)))), (u15.2 _ _ (Or.inl (by decide))).trans ((u13.2 _ _ (Or.inl (by decide))).trans ((u11.2 _ _ (Or.inl (by decide))).trans (u10.1))), (u15.2 _ _ (Or.inl (by decide))).trans ((u13.2 _ _ (Or.inl (by decide))).trans (u11.1)), (u15.2 _ _ (Or.inl (by decide))).trans (u13.1)⟩), (fun k hk => by (have hq : k ≠ y7.toInt.toNat := hk.resolve_right (fun h9 => h9 (by omega))); exact ⟨((u15.2 _ _ (Or.inl (by decide))).trans ((u13.2 _ _ (Or.inl (by decide))).trans ((u11.2 _ _ (Or.inl (by decide))).trans ((u10.2 _ _ (Or.inl (by decide))).trans (u9.2 _ _ (Or.inr hq)))))), ((u15.2 _ _ (Or.inl (by decide))).trans ((u13.2 _ _ (Or.inl (by decide))).trans ((u11.2 _ _ (Or.inl (by decide))).trans ((u10.2 _ _ (Or.inr hq)).trans (u9.2 _ _ (Or.inl (by decide))))))), ((u15.2 _ _ (Or.inl (by decide))).trans ((u13.2 _ _ (Or.inl (by decide))).trans ((u11.2 _ _ (Or.inr hq)).trans ((u10.2 _ _ (Or.inl (by decide))).trans (u9.2 _ _ (Or.inl (by decide))))))), ((u15.2 _ _ (Or.inl (by decide))).trans ((u13.2 _ _ (Or.inr hq)).trans ((u11.2 _ _ (Or.inl (by decide))).trans ((u10.2 _ _ (Or.inl (by decide))).trans (u9.2 _ _ (Or.inl (by decide)))))))⟩)⟩
        · refine te_bipush (p2 := 45) (x := (-4)) rfl rfl (by decide) ?_
          obtain ⟨v17, e17, y17, w17, a17, b17, _⟩ := hI.2.1 149 (Int32.toInt 105).toNat (.inl ((-2147483648), 2147483647, 9999999999)) (tq_row rfl (by decide))
          subst w17
          exact te_iret rfl rfl ⟨hI, f0, _, rfl, p3, y7, y17, e3, e7, e17, (show (-4) = fA x1 x2 x3 p3 y7 from by (have c0_ := (show Int32.toInt (-4) = (-4) from rfl); unfold fA; (repeat' split) <;> first | (exfalso; omega) | rfl | assumption | (exact i32_ext (by omega)) | (subst_vars; rfl))), e7.trans (congrArg (fun t => some (Value.int t)) (show y7 = gA x1 x2 x3 p3 y7 from by (have c0_ := (show Int32.toInt (-4) = (-4) from rfl); unfold gA; (repeat' split) <;> first | (exfalso; omega) | rfl | assumption | (exact i32_ext (by omega)) | (subst_vars; rfl)))), (fun hy => absurd hy (by rw [show Int32.toInt (-4) = (-4) from rfl]; decide)), (fun k hk => ⟨rfl, rfl, rfl, rfl⟩)⟩
      · subst w5
        have cc5_1 := (show Int32.toInt 0 = 0 from rfl)
        have cc5_2 := (show Int32.toInt 2000 = 2000 from rfl)
        refine tz_ne (p2 := 31) rfl rfl (show Int32.toInt 0 = 0 from rfl) (fun c18 => absurd c18 (by omega)) (fun c18 => ?_)
        refine te_bipush (p2 := 33) (x := (-2)) rfl rfl (by decide) ?_
        obtain ⟨v19, e19, y19, w19, a19, b19, _⟩ := hI.2.1 148 35 (.inl (0, 24, 9999999999)) rfl
        subst w19
        obtain ⟨v20, e20, y20, w20, a20, b20, _⟩ := hI.2.1 149 (Int32.toInt 105).toNat (.inl ((-2147483648), 2147483647, 9999999999)) (tq_row rfl (by decide))
        subst w20
        exact te_iret rfl rfl ⟨hI, f0, _, rfl, p3, y19, y20, e3, e19, e20, (show (-2) = fA x1 x2 x3 p3 y19 from by (have c0_ := (show Int32.toInt (-2) = (-2) from rfl); unfold fA; (repeat' split) <;> first | (exfalso; omega) | rfl | assumption | (exact i32_ext (by omega)) | (subst_vars; rfl))), e19.trans (congrArg (fun t => some (Value.int t)) (show y19 = gA x1 x2 x3 p3 y19 from by (have c0_ := (show Int32.toInt (-2) = (-2) from rfl); unfold gA; (repeat' split) <;> first | (exfalso; omega) | rfl | assumption | (exact i32_ext (by omega)) | (subst_vars; rfl)))), (fun hy => absurd hy (by rw [show Int32.toInt (-2) = (-2) from rfl]; decide)), (fun k hk => ⟨rfl, rfl, rfl, rfl⟩)⟩
    · subst w3
      refine tz_ne (p2 := 18) rfl rfl (show Int32.toInt 0 = 0 from rfl) (fun c21 => absurd c21 (by omega)) (fun c21 => ?_)
      refine te_iconst (p2 := 19) (x := (-1)) rfl rfl (by decide) ?_
      obtain ⟨v22, e22, y22, w22, a22, b22, _⟩ := hI.2.1 148 35 (.inl (0, 24, 9999999999)) rfl
      subst w22
      obtain ⟨v23, e23, y23, w23, a23, b23, _⟩ := hI.2.1 149 (Int32.toInt 105).toNat (.inl ((-2147483648), 2147483647, 9999999999)) (tq_row rfl (by decide))
      subst w23
      exact te_iret rfl rfl ⟨hI, f0, _, rfl, p3, y22, y23, e3, e22, e23, (show (-1) = fA x1 x2 x3 p3 y22 from by (have c0_ := (show Int32.toInt (-1) = (-1) from rfl); unfold fA; (repeat' split) <;> first | (exfalso; omega) | rfl | assumption | (exact i32_ext (by omega)) | (subst_vars; rfl))), e22.trans (congrArg (fun t => some (Value.int t)) (show y22 = gA x1 x2 x3 p3 y22 from by (have c0_ := (show Int32.toInt (-1) = (-1) from rfl); unfold gA; (repeat' split) <;> first | (exfalso; omega) | rfl | assumption | (exact i32_ext (by omega)) | (subst_vars; rfl)))), (fun hy => absurd hy (by rw [show Int32.toInt (-1) = (-1) from rfl]; decide)), (fun k hk => ⟨rfl, rfl, rfl, rfl⟩)⟩
  · subst w1
    have cc1_1 := (show Int32.toInt 0 = 0 from rfl)
    have cc1_2 := (show Int32.toInt 11 = 11 from rfl)
    refine tz_eq (p2 := 10) rfl rfl (show Int32.toInt 0 = 0 from rfl) (fun c24 => ?_) (fun c24 => absurd c24 (by omega))
    refine te_iconst (p2 := 19) (x := (-1)) rfl rfl (by decide) ?_
    obtain ⟨v25, e25, y25, w25, a25, b25, _⟩ := hI.2.1 148 10 (.inl (0, 24, 9999999999)) rfl
    subst w25
    obtain ⟨v26, e26, y26, w26, a26, b26, _⟩ := hI.2.1 148 35 (.inl (0, 24, 9999999999)) rfl
    subst w26
    obtain ⟨v27, e27, y27, w27, a27, b27, _⟩ := hI.2.1 149 (Int32.toInt 105).toNat (.inl ((-2147483648), 2147483647, 9999999999)) (tq_row rfl (by decide))
    subst w27
    exact te_iret rfl rfl ⟨hI, f0, _, rfl, y25, y26, y27, e25, e26, e27, (show (-1) = fA x1 x2 x3 y25 y26 from by (have c0_ := (show Int32.toInt (-1) = (-1) from rfl); unfold fA; (repeat' split) <;> first | (exfalso; omega) | rfl | assumption | (exact i32_ext (by omega)) | (subst_vars; rfl))), e26.trans (congrArg (fun t => some (Value.int t)) (show y26 = gA x1 x2 x3 y25 y26 from by (have c0_ := (show Int32.toInt (-1) = (-1) from rfl); unfold gA; (repeat' split) <;> first | (exfalso; omega) | rfl | assumption | (exact i32_ext (by omega)) | (subst_vars; rfl)))), (fun hy => absurd hy (by rw [show Int32.toInt (-1) = (-1) from rfl]; decide)), (fun k hk => ⟨rfl, rfl, rfl, rfl⟩)⟩
abbrev Q2_burn (x1 : Int32) (y : Int32) (h h2 : im_H) : Prop := ∃ p d : Int32, rd h 148 35 = some (.int p) ∧ rd h 149 105 = some (.int d) ∧ ((0 ≤ x1.toInt ∧ x1.toInt < p.toInt ∧ ∃ b : Int32, rd h 182 x1.toInt.toNat = some (.int b) ∧ y = (if b.toInt = -1 then 1 else -3)) ∨ (¬ (0 ≤ x1.toInt ∧ x1.toInt < p.toInt) ∧ y = -1)) ∧ (y.toInt = 1 → rd h2 182 x1.toInt.toNat = some (.int d)) ∧ (∀ k : Nat, (k ≠ x1.toInt.toNat ∨ y.toInt ≠ 1) → rd h2 182 k = rd h 182 k)
set_option maxRecDepth 20000 in
set_option maxHeartbeats 4000000 in
theorem c_X12_burn {x1 : Int32} {h : im_H} (hI : tI h)  : CaP 8 183 [.ref 164, .int x1] h (fun v h2 => tI h2 ∧ fr F_X12_burn h h2 ∧ ∃ y : Int32, v = some (.int y) ∧ Q2_burn x1 y h h2) := by
  refine cap_of (d := 7) (M := mX12_burn) rfl (Nat.le_of_ble_eq_true rfl) ?_
  show EvP im_K0 7 mX12_burn (0, [(0, .ref 164), (1, .int x1)], [], h) _
  have f0 : fr F_X12_burn h h := fr_rf
  refine te_iload_n (p2 := 1) rfl rfl rfl ?_
  refine te_iconst (p2 := 2) (x := 0) rfl rfl (by decide) ?_
  refine te_aload_n (p2 := 3) rfl rfl rfl ?_
  refine tg_i (p2 := 6) (i := 148) rfl rfl hI rfl rfl rfl (fun y1 a1 b1 e1 => ?_)
  refine te_iconst (p2 := 7) (x := 1) rfl rfl (by decide) ?_
  refine ar_sub (p2 := 8) rfl rfl rfl (show Int32.toInt 1 = 1 from rfl) (by omega) (by omega) (fun z2 e2 f2 => ?_)
  refine cS_pI (p2 := 11) rfl rfl rfl rfl (t_X12_in (n := x1) (a := 0) (b := z2) hI ) (by decide) (fun y3 r3 => ?_)
  rcases r3 with ⟨w3, c3⟩ | ⟨w3, c3⟩
  · subst w3
    have cc3_1 := (show Int32.toInt 0 = 0 from rfl)
    refine tz_ne (p2 := 14) rfl rfl (show Int32.toInt 1 = 1 from rfl) (fun c4 => ?_) (fun c4 => absurd c4 (by omega))
    refine te_aload_n (p2 := 17) rfl rfl rfl ?_
    refine tg_r (p2 := 20) (i := 148) (r := 198) rfl rfl hI rfl rfl rfl ?_
    refine te_iload_n (p2 := 21) rfl rfl rfl ?_
    refine tl_i (p2 := 22) (i := 182) (n := 24) rfl rfl hI rfl rfl rfl rfl (by omega) (by omega) (fun y5 a5 b5 g5 e5 => ?_)
    refine te_iconst (p2 := 23) (x := (-1)) rfl rfl (by decide) ?_
    refine tb_eq (p2 := 26) rfl rfl rfl (show Int32.toInt (-1) = (-1) from rfl) (fun c6 => ?_) (fun c6 => ?_)
    · refine te_aload_n (p2 := 30) rfl rfl rfl ?_
      refine tg_r (p2 := 33) (i := 148) (r := 198) rfl rfl hI rfl rfl rfl ?_
      refine te_iload_n (p2 := 34) rfl rfl rfl ?_
      refine te_aload_n (p2 := 35) rfl rfl rfl ?_
      refine tg_r (p2 := 38) (i := 148) (r := 165) rfl rfl hI rfl rfl rfl ?_
      refine te_bipush (p2 := 40) (x := 105) rfl rfl (by decide) ?_
      refine tl_i (p2 := 41) (i := 149) (n := 283) rfl rfl hI rfl rfl rfl rfl (by decide) (by decide) (fun y7 a7 b7 g7 e7 => ?_)
      refine ts_i (p2 := 42) (i := 182) (n := 24) rfl rfl hI rfl rfl rfl rfl (by omega) (by omega) (i32_lo _) (i32_hi _) (i32_ho _) rfl (fun h8 I8 u8 => ?_)
      have f8 := fr_st (F := F_X12_burn) 0 f0 u8 rfl (by omega) (by omega)
      refine te_iconst (p2 := 43) (x := 1) rfl rfl (by decide) ?_
      exact te_iret rfl rfl ⟨I8, f8, _, rfl, y1, y7, e1, e7, Or.inl ⟨by omega, by omega, y5, e5, (by rw [if_pos (by omega)])⟩, (fun _ => u8.1), (fun k hk => u8.2 _ _ (Or.inr (hk.resolve_right (fun h9 => h9 (by decide)))))⟩
    · refine te_bipush (p2 := 28) (x := (-3)) rfl rfl (by decide) ?_
      obtain ⟨v9, e9, y9, w9, a9, b9, _⟩ := hI.2.1 149 (Int32.toInt 105).toNat (.inl ((-2147483648), 2147483647, 9999999999)) (tq_row rfl (by decide))
      subst w9
      exact te_iret rfl rfl ⟨hI, f0, _, rfl, y1, y9, e1, e9, Or.inl ⟨by omega, by omega, y5, e5, (by rw [if_neg (by omega)])⟩, (fun hy => absurd hy (by decide)), (fun k hk => rfl)⟩
  · subst w3
    have cc3_1 := (show Int32.toInt 0 = 0 from rfl)
    refine tz_ne (p2 := 14) rfl rfl (show Int32.toInt 0 = 0 from rfl) (fun c10 => absurd c10 (by omega)) (fun c10 => ?_)
    refine te_iconst (p2 := 15) (x := (-1)) rfl rfl (by decide) ?_
    obtain ⟨v11, e11, y11, w11, a11, b11, _⟩ := hI.2.1 149 (Int32.toInt 105).toNat (.inl ((-2147483648), 2147483647, 9999999999)) (tq_row rfl (by decide))
    subst w11
    exact te_iret rfl rfl ⟨hI, f0, _, rfl, y1, y11, e1, e11, Or.inr ⟨by omega, rfl⟩, (fun hy => absurd hy (by decide)), (fun k hk => rfl)⟩
def vr (h : im_H) (c k : Nat) : Int32 := if k < 24 then (match rd h c k with | some (.int v) => v | _ => 0) else 0
theorem vr_of {h : im_H} {c k : Nat} {a : Int32} (hk : k < 24) (e : rd h c k = some (.int a)) : vr h c k = a := by
  unfold vr
  rw [if_pos hk, e]
def own (A Fm T B : Nat → Int32) (lot day known : Int32) : Nat → Int32 → Int32 → Int32
  | 0, _, best => best
  | m + 1, k, best => own A Fm T B lot day known m (k + 1) (if (A k.toInt.toNat).toInt = lot.toInt ∧ (Fm k.toInt.toNat).toInt ≤ day.toInt ∧ (T k.toInt.toNat).toInt ≤ known.toInt ∧ ((B k.toInt.toNat).toInt = -1 ∨ known.toInt < (B k.toInt.toNat).toInt) ∧ (best.toInt = -1 ∨ (Fm best.toInt.toNat).toInt ≤ (Fm k.toInt.toNat).toInt) then k else best)
theorem own_step {A Fm T B : Nat → Int32} {lot day known k k2 best best2 : Int32} {m m2 : Nat} (hm : m = m2 + 1) (hk : k + 1 = k2) (hb : best2 = if (A k.toInt.toNat).toInt = lot.toInt ∧ (Fm k.toInt.toNat).toInt ≤ day.toInt ∧ (T k.toInt.toNat).toInt ≤ known.toInt ∧ ((B k.toInt.toNat).toInt = -1 ∨ known.toInt < (B k.toInt.toNat).toInt) ∧ (best.toInt = -1 ∨ (Fm best.toInt.toNat).toInt ≤ (Fm k.toInt.toNat).toInt) then k else best) : own A Fm T B lot day known m2 k2 best2 = own A Fm T B lot day known m k best := by
  subst hm hk hb
  rfl
theorem own_end {A Fm T B : Nat → Int32} {lot day known k best : Int32} {m : Nat} (hm : m = 0) : own A Fm T B lot day known m k best = best := by
  subst hm
  rfl
def owR (O : Nat → Int32) (b : Int32) : Int32 := if b.toInt = -1 then -1 else O b.toInt.toNat
def owT (A O Fm T B : Nat → Int32) (x1 x2 x3 d c : Int32) : Int32 := if 0 ≤ x1.toInt ∧ x1.toInt ≤ 11 then (if 0 ≤ x2.toInt ∧ x2.toInt ≤ 2000 ∧ 0 ≤ x3.toInt ∧ x3.toInt ≤ d.toInt then owR O (own A Fm T B x1 x2 x3 c.toInt.toNat 0 (-1)) else -2) else -5
set_option maxRecDepth 20000 in
set_option maxHeartbeats 4000000 in
theorem c_X2_isKnown {k : Int32} {known : Int32} {h : im_H} (hI : tI h) (p_k0 : 0 ≤ k.toInt) (p_k1 : k.toInt ≤ 23) : CaP 1 21 [.ref 107, .int k, .int known] h (pI h (fun y => ∃ t b : Int32, rd h 95 k.toInt.toNat = some (.int t) ∧ rd h 96 k.toInt.toNat = some (.int b) ∧ ((y = 1 ∧ (t.toInt ≤ known.toInt ∧ (b.toInt = -1 ∨ known.toInt < b.toInt))) ∨ (y = 0 ∧ ¬ (t.toInt ≤ known.toInt ∧ (b.toInt = -1 ∨ known.toInt < b.toInt)))))) := by
  refine cap_of (d := 0) (M := mX2_isKnown) rfl (Nat.le_of_ble_eq_true rfl) ?_
  show EvP im_K0 0 mX2_isKnown (0, [(0, .ref 107), (1, .int k), (2, .int known)], [], h) _
  refine te_aload_n (p2 := 1) rfl rfl rfl ?_
  refine tg_r (p2 := 4) (i := 91) (r := 111) rfl rfl hI rfl rfl rfl ?_
  refine te_iload_n (p2 := 5) rfl rfl rfl ?_
  refine tl_i (p2 := 6) (i := 95) (n := 24) rfl rfl hI rfl rfl rfl rfl (by omega) (by omega) (fun y1 a1 b1 g1 e1 => ?_)
  refine te_iload_n (p2 := 7) rfl rfl rfl ?_
  refine tb_gt (p2 := 10) rfl rfl rfl rfl (fun c2 => ?_) (fun c2 => ?_)
  · refine te_iconst (p2 := 35) (x := 0) rfl rfl (by decide) ?_
    obtain ⟨v3, e3, y3, w3, a3, b3, _⟩ := hI.2.1 96 k.toInt.toNat (.inl ((-2147483648), 2147483647, 9999999999)) (tq_row rfl (by omega))
    subst w3
    exact te_zret rfl rfl (by decide) ⟨rfl, _, rfl, y1, y3, e1, e3, Or.inr ⟨rfl, by omega⟩⟩
  · refine te_aload_n (p2 := 11) rfl rfl rfl ?_
    refine tg_r (p2 := 14) (i := 91) (r := 112) rfl rfl hI rfl rfl rfl ?_
    refine te_iload_n (p2 := 15) rfl rfl rfl ?_
    refine tl_i (p2 := 16) (i := 96) (n := 24) rfl rfl hI rfl rfl rfl rfl (by omega) (by omega) (fun y4 a4 b4 g4 e4 => ?_)
    refine te_iconst (p2 := 17) (x := (-1)) rfl rfl (by decide) ?_
    refine tb_eq (p2 := 20) rfl rfl rfl (show Int32.toInt (-1) = (-1) from rfl) (fun c5 => ?_) (fun c5 => ?_)
    · refine te_iconst (p2 := 31) (x := 1) rfl rfl (by decide) ?_
      refine te_goto rfl ?_
      exact te_zret rfl rfl (by decide) ⟨rfl, _, rfl, y1, y4, e1, e4, Or.inl ⟨rfl, by omega⟩⟩
    · refine te_aload_n (p2 := 21) rfl rfl rfl ?_
      refine tg_r (p2 := 24) (i := 91) (r := 112) rfl rfl hI rfl rfl rfl ?_
      refine te_iload_n (p2 := 25) rfl rfl rfl ?_
      refine tl_e (p2 := 26) (i := 96) (n := 24) (t := 0) (Or.inl rfl) rfl rfl hI rfl rfl (by omega) (by omega) e4 ?_
      refine te_iload_n (p2 := 27) rfl rfl rfl ?_
      refine tb_le (p2 := 30) rfl rfl rfl rfl (fun c7 => ?_) (fun c7 => ?_)
      · refine te_iconst (p2 := 35) (x := 0) rfl rfl (by decide) ?_
        exact te_zret rfl rfl (by decide) ⟨rfl, _, rfl, y1, y4, e1, e4, Or.inr ⟨rfl, by omega⟩⟩
      · refine te_iconst (p2 := 31) (x := 1) rfl rfl (by decide) ?_
        refine te_goto rfl ?_
        exact te_zret rfl rfl (by decide) ⟨rfl, _, rfl, y1, y4, e1, e4, Or.inl ⟨rfl, by omega⟩⟩
set_option maxRecDepth 20000 in
set_option maxHeartbeats 4000000 in
theorem c_X2_ownerOf {ofLot : Int32} {day : Int32} {known : Int32} {h : im_H} (hI : tI h)  : CaP 2 20 [.ref 107, .int ofLot, .int day, .int known] h (pI h (fun y => ∃ c : Int32, rd h 91 0 = some (.int c) ∧ y = owR (vr h 93) (own (vr h 92) (vr h 94) (vr h 95) (vr h 96) ofLot day known c.toInt.toNat 0 (-1)))) := by
  refine cap_of (d := 1) (M := mX2_ownerOf) rfl (Nat.le_of_ble_eq_true rfl) ?_
  show EvP im_K0 1 mX2_ownerOf (0, [(0, .ref 107), (1, .int ofLot), (2, .int day), (3, .int known)], [], h) _
  refine te_iconst (p2 := 1) (x := (-1)) rfl rfl (by decide) ?_
  refine te_istore (p2 := 3) (lv2 := [(4, .int (-1)), (0, .ref 107), (1, .int ofLot), (2, .int day), (3, .int known)]) rfl rfl (by decide) rfl ?_
  refine te_iconst (p2 := 4) (x := 0) rfl rfl (by decide) ?_
  refine te_istore (p2 := 6) (lv2 := [(5, .int 0), (4, .int (-1)), (0, .ref 107), (1, .int ofLot), (2, .int day), (3, .int known)]) rfl rfl (by decide) rfl ?_
  obtain ⟨v1, e1, y1, w1, a1, b1, _⟩ := hI.2.1 91 0 (.inl (0, 24, 9999999999)) rfl
  subst w1
  have lp2 : ∀ (n2 : Nat) (v2_4 v2_5 : Int32) , (-1) ≤ v2_4.toInt → v2_4.toInt ≤ 23 → 0 ≤ v2_5.toInt → v2_5.toInt ≤ 24 → v2_5.toInt ≤ y1.toInt → (own (vr h 92) (vr h 94) (vr h 95) (vr h 96) ofLot day known (y1.toInt.toNat - v2_5.toInt.toNat) v2_5 v2_4 = own (vr h 92) (vr h 94) (vr h 95) (vr h 96) ofLot day known y1.toInt.toNat 0 (-1)) → 24 - v2_5.toInt < (n2 : Int) → EvP im_K0 1 mX2_ownerOf (6, [(0, .ref 107), (1, .int ofLot), (2, .int day), (3, .int known), (4, .int v2_4), (5, .int v2_5)], [], h) (pI h (fun y => ∃ c : Int32, rd h 91 0 = some (.int c) ∧ y = owR (vr h 93) (own (vr h 92) (vr h 94) (vr h 95) (vr h 96) ofLot day known c.toInt.toNat 0 (-1)))) := by
    intro n2
    induction n2 with
    | zero => intro v2_4 v2_5 a2_4 b2_4 a2_5 b2_5 l2_0 w2_0 m2; exfalso; omega
    | succ n2 ih2 =>
      intro v2_4 v2_5 a2_4 b2_4 a2_5 b2_5 l2_0 w2_0 m2
      refine te_iload (p2 := 8) rfl rfl rfl ?_
      refine te_aload_n (p2 := 9) rfl rfl rfl ?_
      refine tg_e (p2 := 12) (i := 91) (v := .int y1) rfl rfl hI rfl rfl e1 ?_
      refine tb_ge (p2 := 15) rfl rfl rfl rfl (fun c3 => ?_) (fun c3 => ?_)
      · refine te_iload (p2 := 94) rfl rfl rfl ?_
        refine te_iconst (p2 := 95) (x := (-1)) rfl rfl (by decide) ?_
        refine tb_ne (p2 := 98) rfl rfl rfl (show Int32.toInt (-1) = (-1) from rfl) (fun c4 => ?_) (fun c4 => ?_)
        · refine te_aload_n (p2 := 103) rfl rfl rfl ?_
          refine tg_r (p2 := 106) (i := 91) (r := 109) rfl rfl hI rfl rfl rfl ?_
          refine te_iload (p2 := 108) rfl rfl rfl ?_
          refine tl_i (p2 := 109) (i := 93) (n := 24) rfl rfl hI rfl rfl rfl rfl (by omega) (by omega) (fun y5 a5 b5 g5 e5 => ?_)
          have ob6 : own (vr h 92) (vr h 94) (vr h 95) (vr h 96) ofLot day known y1.toInt.toNat 0 (-1) = v2_4 := w2_0.symm.trans (own_end (by omega))
          exact te_iret rfl rfl ⟨rfl, _, rfl, y1, e1, (by rw [ob6]; exact ((if_neg (by omega)).trans (vr_of (by omega) e5)).symm)⟩
        · refine te_iconst (p2 := 99) (x := (-1)) rfl rfl (by decide) ?_
          refine te_goto rfl ?_
          have ob7 : own (vr h 92) (vr h 94) (vr h 95) (vr h 96) ofLot day known y1.toInt.toNat 0 (-1) = v2_4 := w2_0.symm.trans (own_end (by omega))
          exact te_iret rfl rfl ⟨rfl, _, rfl, y1, e1, (by rw [ob7]; exact (if_pos (by omega)).symm)⟩
      · refine te_aload_n (p2 := 16) rfl rfl rfl ?_
        refine tg_r (p2 := 19) (i := 91) (r := 108) rfl rfl hI rfl rfl rfl ?_
        refine te_iload (p2 := 21) rfl rfl rfl ?_
        refine tl_i (p2 := 22) (i := 92) (n := 24) rfl rfl hI rfl rfl rfl rfl (by omega) (by omega) (fun y8 a8 b8 g8 e8 => ?_)
        refine te_iload_n (p2 := 23) rfl rfl rfl ?_
        refine tb_ne (p2 := 26) rfl rfl rfl rfl (fun c9 => ?_) (fun c9 => ?_)
        · refine te_iconst (p2 := 52) (x := 0) rfl rfl (by decide) ?_
          refine te_istore (p2 := 54) (lv2 := [(6, .int 0), (0, .ref 107), (1, .int ofLot), (2, .int day), (3, .int known), (4, .int v2_4), (5, .int v2_5)]) rfl rfl (by decide) rfl ?_
          refine te_iload (p2 := 56) rfl rfl rfl ?_
          refine tz_eq (p2 := 59) rfl rfl (show Int32.toInt 0 = 0 from rfl) (fun c10 => ?_) (fun c10 => absurd c10 (by omega))
          refine ar_inc (p2 := 89) (x := v2_5) rfl rfl (by decide) rfl (by decide) rfl (by omega) (by omega) (fun z11 e11 f11 => ?_)
          show EvP _ _ _ (89, [(5, .int z11), (6, .int 0), (0, .ref 107), (1, .int ofLot), (2, .int day), (3, .int known), (4, .int v2_4)], [], h) _
          refine te_goto rfl ?_
          refine te_lv [(0, .ref 107), (1, .int ofLot), (2, .int day), (3, .int known), (4, .int v2_4), (5, .int z11)] rfl rfl ⟨rfl, rfl, rfl, rfl, rfl, rfl, trivial⟩ ?_
          exact ih2 v2_4 z11 (by omega) (by omega) (by omega) (by omega) (by omega) ((own_step (by omega) e11 (by (have t0_ := congrArg Int32.toInt (vr_of (c := 92) (by omega) e8)); exact (if_neg (by omega)).symm)).trans w2_0) (by omega)
        · refine te_aload_n (p2 := 27) rfl rfl rfl ?_
          refine tg_r (p2 := 30) (i := 91) (r := 110) rfl rfl hI rfl rfl rfl ?_
          refine te_iload (p2 := 32) rfl rfl rfl ?_
          refine tl_i (p2 := 33) (i := 94) (n := 24) rfl rfl hI rfl rfl rfl rfl (by omega) (by omega) (fun y12 a12 b12 g12 e12 => ?_)
          refine te_iload_n (p2 := 34) rfl rfl rfl ?_
          refine tb_gt (p2 := 37) rfl rfl rfl rfl (fun c13 => ?_) (fun c13 => ?_)
          · refine te_iconst (p2 := 52) (x := 0) rfl rfl (by decide) ?_
            refine te_istore (p2 := 54) (lv2 := [(6, .int 0), (0, .ref 107), (1, .int ofLot), (2, .int day), (3, .int known), (4, .int v2_4), (5, .int v2_5)]) rfl rfl (by decide) rfl ?_
            refine te_iload (p2 := 56) rfl rfl rfl ?_
            refine tz_eq (p2 := 59) rfl rfl (show Int32.toInt 0 = 0 from rfl) (fun c14 => ?_) (fun c14 => absurd c14 (by omega))
            refine ar_inc (p2 := 89) (x := v2_5) rfl rfl (by decide) rfl (by decide) rfl (by omega) (by omega) (fun z15 e15 f15 => ?_)
            show EvP _ _ _ (89, [(5, .int z15), (6, .int 0), (0, .ref 107), (1, .int ofLot), (2, .int day), (3, .int known), (4, .int v2_4)], [], h) _
            refine te_goto rfl ?_
            refine te_lv [(0, .ref 107), (1, .int ofLot), (2, .int day), (3, .int known), (4, .int v2_4), (5, .int z15)] rfl rfl ⟨rfl, rfl, rfl, rfl, rfl, rfl, trivial⟩ ?_
            exact ih2 v2_4 z15 (by omega) (by omega) (by omega) (by omega) (by omega) ((own_step (by omega) e15 (by (have t0_ := congrArg Int32.toInt (vr_of (c := 92) (by omega) e8)); (have t1_ := congrArg Int32.toInt (vr_of (c := 94) (by omega) e12)); exact (if_neg (by omega)).symm)).trans w2_0) (by omega)
          · refine te_aload_n (p2 := 38) rfl rfl rfl ?_
            refine te_iload (p2 := 40) rfl rfl rfl ?_
            refine te_iload_n (p2 := 41) rfl rfl rfl ?_
            refine cV_pI (p2 := 44) (i := 91) rfl rfl rfl rfl hI rfl rfl rfl (c_X2_isKnown (k := v2_5) (known := known) hI (by omega) (by omega)) (by decide) (fun y16 r16 => ?_)
            obtain ⟨kt16, kb16, et16, eb16, r16⟩ := r16
            rcases r16 with ⟨w16_, c16⟩ | ⟨w16_, c16⟩
            · subst w16_
              refine tz_eq (p2 := 47) rfl rfl (show Int32.toInt 1 = 1 from rfl) (fun c17 => absurd c17 (by omega)) (fun c17 => ?_)
              refine te_iconst (p2 := 48) (x := 1) rfl rfl (by decide) ?_
              refine te_goto rfl ?_
              refine te_istore (p2 := 54) (lv2 := [(6, .int 1), (0, .ref 107), (1, .int ofLot), (2, .int day), (3, .int known), (4, .int v2_4), (5, .int v2_5)]) rfl rfl (by decide) rfl ?_
              refine te_iload (p2 := 56) rfl rfl rfl ?_
              refine tz_eq (p2 := 59) rfl rfl (show Int32.toInt 1 = 1 from rfl) (fun c18 => absurd c18 (by omega)) (fun c18 => ?_)
              refine te_iload (p2 := 61) rfl rfl rfl ?_
              refine te_iconst (p2 := 62) (x := (-1)) rfl rfl (by decide) ?_
              refine tb_eq (p2 := 65) rfl rfl rfl (show Int32.toInt (-1) = (-1) from rfl) (fun c19 => ?_) (fun c19 => ?_)
              · refine te_iload (p2 := 84) rfl rfl rfl ?_
                refine te_istore (p2 := 86) (lv2 := [(4, .int v2_5), (6, .int 1), (0, .ref 107), (1, .int ofLot), (2, .int day), (3, .int known), (5, .int v2_5)]) rfl rfl (by decide) rfl ?_
                refine ar_inc (p2 := 89) (x := v2_5) rfl rfl (by decide) rfl (by decide) rfl (by omega) (by omega) (fun z20 e20 f20 => ?_)
                show EvP _ _ _ (89, [(5, .int z20), (4, .int v2_5), (6, .int 1), (0, .ref 107), (1, .int ofLot), (2, .int day), (3, .int known)], [], h) _
                refine te_goto rfl ?_
                refine te_lv [(0, .ref 107), (1, .int ofLot), (2, .int day), (3, .int known), (4, .int v2_5), (5, .int z20)] rfl rfl ⟨rfl, rfl, rfl, rfl, rfl, rfl, trivial⟩ ?_
                exact ih2 v2_5 z20 (by omega) (by omega) (by omega) (by omega) (by omega) ((own_step (by omega) e20 (by (have t0_ := congrArg Int32.toInt (vr_of (c := 92) (by omega) e8)); (have t1_ := congrArg Int32.toInt (vr_of (c := 94) (by omega) e12)); (have t2_ := congrArg Int32.toInt (vr_of (c := 95) (by omega) et16)); (have t3_ := congrArg Int32.toInt (vr_of (c := 96) (by omega) eb16)); exact (if_pos (by omega)).symm)).trans w2_0) (by omega)
              · refine te_aload_n (p2 := 66) rfl rfl rfl ?_
                refine tg_r (p2 := 69) (i := 91) (r := 110) rfl rfl hI rfl rfl rfl ?_
                refine te_iload (p2 := 71) rfl rfl rfl ?_
                refine tl_e (p2 := 72) (i := 94) (n := 24) (t := 0) (Or.inl rfl) rfl rfl hI rfl rfl (by omega) (by omega) e12 ?_
                refine te_aload_n (p2 := 73) rfl rfl rfl ?_
                refine tg_r (p2 := 76) (i := 91) (r := 110) rfl rfl hI rfl rfl rfl ?_
                refine te_iload (p2 := 78) rfl rfl rfl ?_
                refine tl_i (p2 := 79) (i := 94) (n := 24) rfl rfl hI rfl rfl rfl rfl (by omega) (by omega) (fun y22 a22 b22 g22 e22 => ?_)
                refine tb_lt (p2 := 82) rfl rfl rfl rfl (fun c23 => ?_) (fun c23 => ?_)
                · refine ar_inc (p2 := 89) (x := v2_5) rfl rfl (by decide) rfl (by decide) rfl (by omega) (by omega) (fun z24 e24 f24 => ?_)
                  show EvP _ _ _ (89, [(5, .int z24), (6, .int 1), (0, .ref 107), (1, .int ofLot), (2, .int day), (3, .int known), (4, .int v2_4)], [], h) _
                  refine te_goto rfl ?_
                  refine te_lv [(0, .ref 107), (1, .int ofLot), (2, .int day), (3, .int known), (4, .int v2_4), (5, .int z24)] rfl rfl ⟨rfl, rfl, rfl, rfl, rfl, rfl, trivial⟩ ?_
                  exact ih2 v2_4 z24 (by omega) (by omega) (by omega) (by omega) (by omega) ((own_step (by omega) e24 (by (have t0_ := congrArg Int32.toInt (vr_of (c := 92) (by omega) e8)); (have t1_ := congrArg Int32.toInt (vr_of (c := 94) (by omega) e12)); (have t2_ := congrArg Int32.toInt (vr_of (c := 95) (by omega) et16)); (have t3_ := congrArg Int32.toInt (vr_of (c := 96) (by omega) eb16)); (have t4_ := congrArg Int32.toInt (vr_of (c := 94) (by omega) e22)); exact (if_neg (by omega)).symm)).trans w2_0) (by omega)
                · refine te_iload (p2 := 84) rfl rfl rfl ?_
                  refine te_istore (p2 := 86) (lv2 := [(4, .int v2_5), (6, .int 1), (0, .ref 107), (1, .int ofLot), (2, .int day), (3, .int known), (5, .int v2_5)]) rfl rfl (by decide) rfl ?_
                  refine ar_inc (p2 := 89) (x := v2_5) rfl rfl (by decide) rfl (by decide) rfl (by omega) (by omega) (fun z25 e25 f25 => ?_)
                  show EvP _ _ _ (89, [(5, .int z25), (4, .int v2_5), (6, .int 1), (0, .ref 107), (1, .int ofLot), (2, .int day), (3, .int known)], [], h) _
                  refine te_goto rfl ?_
                  refine te_lv [(0, .ref 107), (1, .int ofLot), (2, .int day), (3, .int known), (4, .int v2_5), (5, .int z25)] rfl rfl ⟨rfl, rfl, rfl, rfl, rfl, rfl, trivial⟩ ?_
                  exact ih2 v2_5 z25 (by omega) (by omega) (by omega) (by omega) (by omega) ((own_step (by omega) e25 (by (have t0_ := congrArg Int32.toInt (vr_of (c := 92) (by omega) e8)); (have t1_ := congrArg Int32.toInt (vr_of (c := 94) (by omega) e12)); (have t2_ := congrArg Int32.toInt (vr_of (c := 95) (by omega) et16)); (have t3_ := congrArg Int32.toInt (vr_of (c := 96) (by omega) eb16)); (have t4_ := congrArg Int32.toInt (vr_of (c := 94) (by omega) e22)); exact (if_pos (by omega)).symm)).trans w2_0) (by omega)
            · subst w16_
              refine tz_eq (p2 := 47) rfl rfl (show Int32.toInt 0 = 0 from rfl) (fun c26 => ?_) (fun c26 => absurd c26 (by omega))
              refine te_iconst (p2 := 52) (x := 0) rfl rfl (by decide) ?_
              refine te_istore (p2 := 54) (lv2 := [(6, .int 0), (0, .ref 107), (1, .int ofLot), (2, .int day), (3, .int known), (4, .int v2_4), (5, .int v2_5)]) rfl rfl (by decide) rfl ?_
              refine te_iload (p2 := 56) rfl rfl rfl ?_
              refine tz_eq (p2 := 59) rfl rfl (show Int32.toInt 0 = 0 from rfl) (fun c27 => ?_) (fun c27 => absurd c27 (by omega))
              refine ar_inc (p2 := 89) (x := v2_5) rfl rfl (by decide) rfl (by decide) rfl (by omega) (by omega) (fun z28 e28 f28 => ?_)
              show EvP _ _ _ (89, [(5, .int z28), (6, .int 0), (0, .ref 107), (1, .int ofLot), (2, .int day), (3, .int known), (4, .int v2_4)], [], h) _
              refine te_goto rfl ?_
              refine te_lv [(0, .ref 107), (1, .int ofLot), (2, .int day), (3, .int known), (4, .int v2_4), (5, .int z28)] rfl rfl ⟨rfl, rfl, rfl, rfl, rfl, rfl, trivial⟩ ?_
              exact ih2 v2_4 z28 (by omega) (by omega) (by omega) (by omega) (by omega) ((own_step (by omega) e28 (by (have t0_ := congrArg Int32.toInt (vr_of (c := 92) (by omega) e8)); (have t1_ := congrArg Int32.toInt (vr_of (c := 94) (by omega) e12)); (have t2_ := congrArg Int32.toInt (vr_of (c := 95) (by omega) et16)); (have t3_ := congrArg Int32.toInt (vr_of (c := 96) (by omega) eb16)); exact (if_neg (by omega)).symm)).trans w2_0) (by omega)
  refine te_lv [(0, .ref 107), (1, .int ofLot), (2, .int day), (3, .int known), (4, .int (-1)), (5, .int 0)] rfl rfl ⟨rfl, rfl, rfl, rfl, rfl, rfl, trivial⟩ ?_
  exact lp2 25 (-1) 0 (by decide) (by decide) (by decide) (by decide) (by have cc0 := (show Int32.toInt (-1) = (-1) from rfl); have cc1 := (show Int32.toInt 0 = 0 from rfl); omega) rfl (by have cc0 := (show Int32.toInt (-1) = (-1) from rfl); have cc1 := (show Int32.toInt 0 = 0 from rfl); omega)
abbrev Q1_owner (x1 x2 x3 : Int32) (y : Int32) (h h2 : im_H) : Prop := ∃ d c : Int32, rd h 23 0 = some (.int d) ∧ rd h 91 0 = some (.int c) ∧ y = owT (vr h 92) (vr h 93) (vr h 94) (vr h 95) (vr h 96) x1 x2 x3 d c
set_option maxRecDepth 20000 in
set_option maxHeartbeats 4000000 in
theorem c_X11_owner {x1 : Int32} {x2 : Int32} {x3 : Int32} {h : im_H} (hI : tI h)  : CaP 3 98 [.ref 16, .int x1, .int x2, .int x3] h (fun v h2 => tI h2 ∧ fr F_X11_owner h h2 ∧ ∃ y : Int32, v = some (.int y) ∧ Q1_owner x1 x2 x3 y h h2) := by
  refine cap_of (d := 2) (M := mX11_owner) rfl (Nat.le_of_ble_eq_true rfl) ?_
  show EvP im_K0 2 mX11_owner (0, [(0, .ref 16), (1, .int x1), (2, .int x2), (3, .int x3)], [], h) _
  have f0 : fr F_X11_owner h h := fr_rf
  refine te_iload_n (p2 := 1) rfl rfl rfl ?_
  refine te_bipush (p2 := 3) (x := 12) rfl rfl (by decide) ?_
  refine cS_pI (p2 := 6) rfl rfl rfl rfl (t_X11_within (n := x1) (b := 12) hI ) (by decide) (fun y1 r1 => ?_)
  rcases r1 with ⟨w1, c1⟩ | ⟨w1, c1⟩
  · subst w1
    have cc1_1 := (show Int32.toInt 12 = 12 from rfl)
    refine tz_ne (p2 := 9) rfl rfl (show Int32.toInt 1 = 1 from rfl) (fun c2 => ?_) (fun c2 => absurd c2 (by omega))
    refine te_iload_n (p2 := 13) rfl rfl rfl ?_
    refine te_iconst (p2 := 14) (x := 0) rfl rfl (by decide) ?_
    refine te_sipush (p2 := 17) (x := 2000) rfl rfl (by decide) ?_
    refine cS_pI (p2 := 20) rfl rfl rfl rfl (t_X11_between (n := x2) (a := 0) (b := 2000) hI ) (by decide) (fun y3 r3 => ?_)
    rcases r3 with ⟨w3, c3⟩ | ⟨w3, c3⟩
    · subst w3
      have cc3_1 := (show Int32.toInt 0 = 0 from rfl)
      have cc3_2 := (show Int32.toInt 2000 = 2000 from rfl)
      refine tz_eq (p2 := 23) rfl rfl (show Int32.toInt 1 = 1 from rfl) (fun c4 => absurd c4 (by omega)) (fun c4 => ?_)
      refine te_iload_n (p2 := 24) rfl rfl rfl ?_
      refine te_iconst (p2 := 25) (x := 0) rfl rfl (by decide) ?_
      refine te_aload_n (p2 := 26) rfl rfl rfl ?_
      refine tg_r (p2 := 29) (i := 0) (r := 39) rfl rfl hI rfl rfl rfl ?_
      refine tg_i (p2 := 32) (i := 23) rfl rfl hI rfl rfl rfl (fun y5 a5 b5 e5 => ?_)
      refine cS_pI (p2 := 35) rfl rfl rfl rfl (t_X11_between (n := x3) (a := 0) (b := y5) hI ) (by decide) (fun y6 r6 => ?_)
      rcases r6 with ⟨w6, c6⟩ | ⟨w6, c6⟩
      · subst w6
        have cc6_1 := (show Int32.toInt 0 = 0 from rfl)
        refine tz_ne (p2 := 38) rfl rfl (show Int32.toInt 1 = 1 from rfl) (fun c7 => ?_) (fun c7 => absurd c7 (by omega))
        refine te_aload_n (p2 := 42) rfl rfl rfl ?_
        refine tg_r (p2 := 45) (i := 0) (r := 107) rfl rfl hI rfl rfl rfl ?_
        refine te_iload_n (p2 := 46) rfl rfl rfl ?_
        refine te_iload_n (p2 := 47) rfl rfl rfl ?_
        refine te_iload_n (p2 := 48) rfl rfl rfl ?_
        refine cV_pI (p2 := 51) (i := 91) rfl rfl rfl rfl hI rfl rfl rfl (c_X2_ownerOf (ofLot := x1) (day := x2) (known := x3) hI ) (by decide) (fun y8 r8 => ?_)
        obtain ⟨oc8, ec8, fy8⟩ := r8
        exact te_iret rfl rfl ⟨hI, f0, _, rfl, y5, oc8, e5, ec8, (by unfold owT; rw [if_pos (by omega), if_pos (by omega)]; exact fy8)⟩
      · subst w6
        have cc6_1 := (show Int32.toInt 0 = 0 from rfl)
        refine tz_ne (p2 := 38) rfl rfl (show Int32.toInt 0 = 0 from rfl) (fun c9 => absurd c9 (by omega)) (fun c9 => ?_)
        refine te_bipush (p2 := 40) (x := (-2)) rfl rfl (by decide) ?_
        obtain ⟨v10, e10, y10, w10, a10, b10, _⟩ := hI.2.1 91 0 (.inl (0, 24, 9999999999)) rfl
        subst w10
        exact te_iret rfl rfl ⟨hI, f0, _, rfl, y5, y10, e5, e10, (by unfold owT; rw [if_pos (by omega), if_neg (by omega)])⟩
    · subst w3
      have cc3_1 := (show Int32.toInt 0 = 0 from rfl)
      have cc3_2 := (show Int32.toInt 2000 = 2000 from rfl)
      refine tz_eq (p2 := 23) rfl rfl (show Int32.toInt 0 = 0 from rfl) (fun c11 => ?_) (fun c11 => absurd c11 (by omega))
      refine te_bipush (p2 := 40) (x := (-2)) rfl rfl (by decide) ?_
      obtain ⟨v12, e12, y12, w12, a12, b12, _⟩ := hI.2.1 23 0 (.inl ((-2147483648), 2147483647, 9999999999)) rfl
      subst w12
      obtain ⟨v13, e13, y13, w13, a13, b13, _⟩ := hI.2.1 91 0 (.inl (0, 24, 9999999999)) rfl
      subst w13
      exact te_iret rfl rfl ⟨hI, f0, _, rfl, y12, y13, e12, e13, (by unfold owT; rw [if_pos (by omega), if_neg (by omega)])⟩
  · subst w1
    have cc1_1 := (show Int32.toInt 12 = 12 from rfl)
    refine tz_ne (p2 := 9) rfl rfl (show Int32.toInt 0 = 0 from rfl) (fun c14 => absurd c14 (by omega)) (fun c14 => ?_)
    refine te_bipush (p2 := 11) (x := (-5)) rfl rfl (by decide) ?_
    obtain ⟨v15, e15, y15, w15, a15, b15, _⟩ := hI.2.1 23 0 (.inl ((-2147483648), 2147483647, 9999999999)) rfl
    subst w15
    obtain ⟨v16, e16, y16, w16, a16, b16, _⟩ := hI.2.1 91 0 (.inl (0, 24, 9999999999)) rfl
    subst w16
    exact te_iret rfl rfl ⟨hI, f0, _, rfl, y15, y16, e15, e16, (by unfold owT; rw [if_neg (by omega)])⟩
abbrev Q2_owner (x1 x2 x3 : Int32) (y : Int32) (h h2 : im_H) : Prop := ∃ d c : Int32, rd h 149 105 = some (.int d) ∧ rd h 148 35 = some (.int c) ∧ y = owT (vr h 178) (vr h 179) (vr h 180) (vr h 181) (vr h 182) x1 x2 x3 d c
set_option maxRecDepth 20000 in
set_option maxHeartbeats 4000000 in
theorem c_X12_owner {x1 : Int32} {x2 : Int32} {x3 : Int32} {h : im_H} (hI : tI h)  : CaP 3 184 [.ref 164, .int x1, .int x2, .int x3] h (fun v h2 => tI h2 ∧ fr F_X12_owner h h2 ∧ ∃ y : Int32, v = some (.int y) ∧ Q2_owner x1 x2 x3 y h h2) := by
  refine cap_of (d := 2) (M := mX12_owner) rfl (Nat.le_of_ble_eq_true rfl) ?_
  show EvP im_K0 2 mX12_owner (0, [(0, .ref 164), (1, .int x1), (2, .int x2), (3, .int x3)], [], h) _
  have f0 : fr F_X12_owner h h := fr_rf
  refine te_iload_n (p2 := 1) rfl rfl rfl ?_
  refine te_iconst (p2 := 2) (x := 0) rfl rfl (by decide) ?_
  refine te_bipush (p2 := 4) (x := 11) rfl rfl (by decide) ?_
  refine cS_pI (p2 := 7) rfl rfl rfl rfl (t_X12_in (n := x1) (a := 0) (b := 11) hI ) (by decide) (fun y1 r1 => ?_)
  rcases r1 with ⟨w1, c1⟩ | ⟨w1, c1⟩
  · subst w1
    have cc1_1 := (show Int32.toInt 0 = 0 from rfl)
    have cc1_2 := (show Int32.toInt 11 = 11 from rfl)
    refine tz_ne (p2 := 10) rfl rfl (show Int32.toInt 1 = 1 from rfl) (fun c2 => ?_) (fun c2 => absurd c2 (by omega))
    refine te_iload_n (p2 := 14) rfl rfl rfl ?_
    refine te_iconst (p2 := 15) (x := 0) rfl rfl (by decide) ?_
    refine te_sipush (p2 := 18) (x := 2000) rfl rfl (by decide) ?_
    refine cS_pI (p2 := 21) rfl rfl rfl rfl (t_X12_in (n := x2) (a := 0) (b := 2000) hI ) (by decide) (fun y3 r3 => ?_)
    rcases r3 with ⟨w3, c3⟩ | ⟨w3, c3⟩
    · subst w3
      have cc3_1 := (show Int32.toInt 0 = 0 from rfl)
      have cc3_2 := (show Int32.toInt 2000 = 2000 from rfl)
      refine tz_eq (p2 := 24) rfl rfl (show Int32.toInt 1 = 1 from rfl) (fun c4 => absurd c4 (by omega)) (fun c4 => ?_)
      refine te_iload_n (p2 := 25) rfl rfl rfl ?_
      refine te_iconst (p2 := 26) (x := 0) rfl rfl (by decide) ?_
      refine te_aload_n (p2 := 27) rfl rfl rfl ?_
      refine tg_r (p2 := 30) (i := 148) (r := 165) rfl rfl hI rfl rfl rfl ?_
      refine te_bipush (p2 := 32) (x := 105) rfl rfl (by decide) ?_
      refine tl_i (p2 := 33) (i := 149) (n := 283) rfl rfl hI rfl rfl rfl rfl (by decide) (by decide) (fun y5 a5 b5 g5 e5 => ?_)
      refine cS_pI (p2 := 36) rfl rfl rfl rfl (t_X12_in (n := x3) (a := 0) (b := y5) hI ) (by decide) (fun y6 r6 => ?_)
      rcases r6 with ⟨w6, c6⟩ | ⟨w6, c6⟩
      · subst w6
        have cc6_1 := (show Int32.toInt 0 = 0 from rfl)
        refine tz_ne (p2 := 39) rfl rfl (show Int32.toInt 1 = 1 from rfl) (fun c7 => ?_) (fun c7 => absurd c7 (by omega))
        refine te_iconst (p2 := 43) (x := (-1)) rfl rfl (by decide) ?_
        refine te_istore (p2 := 45) (lv2 := [(4, .int (-1)), (0, .ref 164), (1, .int x1), (2, .int x2), (3, .int x3)]) rfl rfl (by decide) rfl ?_
        refine te_iconst (p2 := 46) (x := 0) rfl rfl (by decide) ?_
        refine te_istore (p2 := 48) (lv2 := [(5, .int 0), (4, .int (-1)), (0, .ref 164), (1, .int x1), (2, .int x2), (3, .int x3)]) rfl rfl (by decide) rfl ?_
        obtain ⟨v8, e8, y8, w8, a8, b8, _⟩ := hI.2.1 148 35 (.inl (0, 24, 9999999999)) rfl
        subst w8
        have lp9 : ∀ (n9 : Nat) (v9_4 v9_5 : Int32) , (-1) ≤ v9_4.toInt → v9_4.toInt ≤ 23 → 0 ≤ v9_5.toInt → v9_5.toInt ≤ 24 → v9_5.toInt ≤ y8.toInt → (own (vr h 178) (vr h 180) (vr h 181) (vr h 182) x1 x2 x3 (y8.toInt.toNat - v9_5.toInt.toNat) v9_5 v9_4 = own (vr h 178) (vr h 180) (vr h 181) (vr h 182) x1 x2 x3 y8.toInt.toNat 0 (-1)) → 24 - v9_5.toInt < (n9 : Int) → EvP im_K0 2 mX12_owner (48, [(0, .ref 164), (1, .int x1), (2, .int x2), (3, .int x3), (4, .int v9_4), (5, .int v9_5)], [], h) (fun v h2 => tI h2 ∧ fr F_X12_owner h h2 ∧ ∃ y : Int32, v = some (.int y) ∧ Q2_owner x1 x2 x3 y h h2) := by
          intro n9
          induction n9 with
          | zero => intro v9_4 v9_5 a9_4 b9_4 a9_5 b9_5 l9_0 w9_0 m9; exfalso; omega
          | succ n9 ih9 =>
            intro v9_4 v9_5 a9_4 b9_4 a9_5 b9_5 l9_0 w9_0 m9
            refine te_iload (p2 := 50) rfl rfl rfl ?_
            refine te_aload_n (p2 := 51) rfl rfl rfl ?_
            refine tg_e (p2 := 54) (i := 148) (v := .int y8) rfl rfl hI rfl rfl e8 ?_
            refine tb_ge (p2 := 57) rfl rfl rfl rfl (fun c10 => ?_) (fun c10 => ?_)
            · refine te_iload (p2 := 164) rfl rfl rfl ?_
              refine te_iconst (p2 := 165) (x := (-1)) rfl rfl (by decide) ?_
              refine tb_ne (p2 := 168) rfl rfl rfl (show Int32.toInt (-1) = (-1) from rfl) (fun c11 => ?_) (fun c11 => ?_)
              · refine te_aload_n (p2 := 173) rfl rfl rfl ?_
                refine tg_r (p2 := 176) (i := 148) (r := 195) rfl rfl hI rfl rfl rfl ?_
                refine te_iload (p2 := 178) rfl rfl rfl ?_
                refine tl_i (p2 := 179) (i := 179) (n := 24) rfl rfl hI rfl rfl rfl rfl (by omega) (by omega) (fun y12 a12 b12 g12 e12 => ?_)
                have ob13 : own (vr h 178) (vr h 180) (vr h 181) (vr h 182) x1 x2 x3 y8.toInt.toNat 0 (-1) = v9_4 := w9_0.symm.trans (own_end (by omega))
                exact te_iret rfl rfl ⟨hI, f0, _, rfl, y5, y8, e5, e8, (by unfold owT; rw [if_pos (by omega), if_pos (by omega)]; exact (show y12 = owR (vr h 179) (own (vr h 178) (vr h 180) (vr h 181) (vr h 182) x1 x2 x3 y8.toInt.toNat 0 (-1)) from (by rw [ob13]; exact ((if_neg (by omega)).trans (vr_of (by omega) e12)).symm)))⟩
              · refine te_iconst (p2 := 169) (x := (-1)) rfl rfl (by decide) ?_
                refine te_goto rfl ?_
                have ob14 : own (vr h 178) (vr h 180) (vr h 181) (vr h 182) x1 x2 x3 y8.toInt.toNat 0 (-1) = v9_4 := w9_0.symm.trans (own_end (by omega))
                exact te_iret rfl rfl ⟨hI, f0, _, rfl, y5, y8, e5, e8, (by unfold owT; rw [if_pos (by omega), if_pos (by omega)]; exact (show (-1 : Int32) = owR (vr h 179) (own (vr h 178) (vr h 180) (vr h 181) (vr h 182) x1 x2 x3 y8.toInt.toNat 0 (-1)) from (by rw [ob14]; exact (if_pos (by omega)).symm)))⟩
            · refine te_aload_n (p2 := 58) rfl rfl rfl ?_
              refine tg_r (p2 := 61) (i := 148) (r := 194) rfl rfl hI rfl rfl rfl ?_
              refine te_iload (p2 := 63) rfl rfl rfl ?_
              refine tl_i (p2 := 64) (i := 178) (n := 24) rfl rfl hI rfl rfl rfl rfl (by omega) (by omega) (fun y15 a15 b15 g15 e15 => ?_)
              refine te_iload_n (p2 := 65) rfl rfl rfl ?_
              refine tb_ne (p2 := 68) rfl rfl rfl rfl (fun c16 => ?_) (fun c16 => ?_)
              · refine te_iconst (p2 := 117) (x := 0) rfl rfl (by decide) ?_
                refine te_istore (p2 := 119) (lv2 := [(6, .int 0), (0, .ref 164), (1, .int x1), (2, .int x2), (3, .int x3), (4, .int v9_4), (5, .int v9_5)]) rfl rfl (by decide) rfl ?_
                refine te_iload (p2 := 121) rfl rfl rfl ?_
                refine tz_eq (p2 := 124) rfl rfl (show Int32.toInt 0 = 0 from rfl) (fun c17 => ?_) (fun c17 => absurd c17 (by omega))
                refine te_iload (p2 := 154) rfl rfl rfl ?_
                refine te_istore (p2 := 156) (lv2 := [(4, .int v9_4), (6, .int 0), (0, .ref 164), (1, .int x1), (2, .int x2), (3, .int x3), (5, .int v9_5)]) rfl rfl (by decide) rfl ?_
                refine ar_inc (p2 := 159) (x := v9_5) rfl rfl (by decide) rfl (by decide) rfl (by omega) (by omega) (fun z18 e18 f18 => ?_)
                show EvP _ _ _ (159, [(5, .int z18), (4, .int v9_4), (6, .int 0), (0, .ref 164), (1, .int x1), (2, .int x2), (3, .int x3)], [], h) _
                refine te_goto rfl ?_
                refine te_lv [(0, .ref 164), (1, .int x1), (2, .int x2), (3, .int x3), (4, .int v9_4), (5, .int z18)] rfl rfl ⟨rfl, rfl, rfl, rfl, rfl, rfl, trivial⟩ ?_
                exact ih9 v9_4 z18 (by omega) (by omega) (by omega) (by omega) (by omega) ((own_step (by omega) e18 (by (have t0_ := congrArg Int32.toInt (vr_of (c := 178) (by omega) e15)); exact (if_neg (by omega)).symm)).trans w9_0) (by omega)
              · refine te_aload_n (p2 := 69) rfl rfl rfl ?_
                refine tg_r (p2 := 72) (i := 148) (r := 197) rfl rfl hI rfl rfl rfl ?_
                refine te_iload (p2 := 74) rfl rfl rfl ?_
                refine tl_i (p2 := 75) (i := 181) (n := 24) rfl rfl hI rfl rfl rfl rfl (by omega) (by omega) (fun y19 a19 b19 g19 e19 => ?_)
                refine te_iload_n (p2 := 76) rfl rfl rfl ?_
                refine tb_gt (p2 := 79) rfl rfl rfl rfl (fun c20 => ?_) (fun c20 => ?_)
                · refine te_iconst (p2 := 117) (x := 0) rfl rfl (by decide) ?_
                  refine te_istore (p2 := 119) (lv2 := [(6, .int 0), (0, .ref 164), (1, .int x1), (2, .int x2), (3, .int x3), (4, .int v9_4), (5, .int v9_5)]) rfl rfl (by decide) rfl ?_
                  refine te_iload (p2 := 121) rfl rfl rfl ?_
                  refine tz_eq (p2 := 124) rfl rfl (show Int32.toInt 0 = 0 from rfl) (fun c21 => ?_) (fun c21 => absurd c21 (by omega))
                  refine te_iload (p2 := 154) rfl rfl rfl ?_
                  refine te_istore (p2 := 156) (lv2 := [(4, .int v9_4), (6, .int 0), (0, .ref 164), (1, .int x1), (2, .int x2), (3, .int x3), (5, .int v9_5)]) rfl rfl (by decide) rfl ?_
                  refine ar_inc (p2 := 159) (x := v9_5) rfl rfl (by decide) rfl (by decide) rfl (by omega) (by omega) (fun z22 e22 f22 => ?_)
                  show EvP _ _ _ (159, [(5, .int z22), (4, .int v9_4), (6, .int 0), (0, .ref 164), (1, .int x1), (2, .int x2), (3, .int x3)], [], h) _
                  refine te_goto rfl ?_
                  refine te_lv [(0, .ref 164), (1, .int x1), (2, .int x2), (3, .int x3), (4, .int v9_4), (5, .int z22)] rfl rfl ⟨rfl, rfl, rfl, rfl, rfl, rfl, trivial⟩ ?_
                  exact ih9 v9_4 z22 (by omega) (by omega) (by omega) (by omega) (by omega) ((own_step (by omega) e22 (by (have t0_ := congrArg Int32.toInt (vr_of (c := 178) (by omega) e15)); (have t2_ := congrArg Int32.toInt (vr_of (c := 181) (by omega) e19)); exact (if_neg (by omega)).symm)).trans w9_0) (by omega)
                · refine te_aload_n (p2 := 80) rfl rfl rfl ?_
                  refine tg_r (p2 := 83) (i := 148) (r := 198) rfl rfl hI rfl rfl rfl ?_
                  refine te_iload (p2 := 85) rfl rfl rfl ?_
                  refine tl_i (p2 := 86) (i := 182) (n := 24) rfl rfl hI rfl rfl rfl rfl (by omega) (by omega) (fun y23 a23 b23 g23 e23 => ?_)
                  refine te_iconst (p2 := 87) (x := (-1)) rfl rfl (by decide) ?_
                  refine tb_eq (p2 := 90) rfl rfl rfl (show Int32.toInt (-1) = (-1) from rfl) (fun c24 => ?_) (fun c24 => ?_)
                  · refine te_aload_n (p2 := 102) rfl rfl rfl ?_
                    refine tg_r (p2 := 105) (i := 148) (r := 196) rfl rfl hI rfl rfl rfl ?_
                    refine te_iload (p2 := 107) rfl rfl rfl ?_
                    refine tl_i (p2 := 108) (i := 180) (n := 24) rfl rfl hI rfl rfl rfl rfl (by omega) (by omega) (fun y25 a25 b25 g25 e25 => ?_)
                    refine te_iload_n (p2 := 109) rfl rfl rfl ?_
                    refine tb_gt (p2 := 112) rfl rfl rfl rfl (fun c26 => ?_) (fun c26 => ?_)
                    · refine te_iconst (p2 := 117) (x := 0) rfl rfl (by decide) ?_
                      refine te_istore (p2 := 119) (lv2 := [(6, .int 0), (0, .ref 164), (1, .int x1), (2, .int x2), (3, .int x3), (4, .int v9_4), (5, .int v9_5)]) rfl rfl (by decide) rfl ?_
                      refine te_iload (p2 := 121) rfl rfl rfl ?_
                      refine tz_eq (p2 := 124) rfl rfl (show Int32.toInt 0 = 0 from rfl) (fun c27 => ?_) (fun c27 => absurd c27 (by omega))
                      refine te_iload (p2 := 154) rfl rfl rfl ?_
                      refine te_istore (p2 := 156) (lv2 := [(4, .int v9_4), (6, .int 0), (0, .ref 164), (1, .int x1), (2, .int x2), (3, .int x3), (5, .int v9_5)]) rfl rfl (by decide) rfl ?_
                      refine ar_inc (p2 := 159) (x := v9_5) rfl rfl (by decide) rfl (by decide) rfl (by omega) (by omega) (fun z28 e28 f28 => ?_)
                      show EvP _ _ _ (159, [(5, .int z28), (4, .int v9_4), (6, .int 0), (0, .ref 164), (1, .int x1), (2, .int x2), (3, .int x3)], [], h) _
                      refine te_goto rfl ?_
                      refine te_lv [(0, .ref 164), (1, .int x1), (2, .int x2), (3, .int x3), (4, .int v9_4), (5, .int z28)] rfl rfl ⟨rfl, rfl, rfl, rfl, rfl, rfl, trivial⟩ ?_
                      exact ih9 v9_4 z28 (by omega) (by omega) (by omega) (by omega) (by omega) ((own_step (by omega) e28 (by (have t0_ := congrArg Int32.toInt (vr_of (c := 178) (by omega) e15)); (have t1_ := congrArg Int32.toInt (vr_of (c := 180) (by omega) e25)); (have t2_ := congrArg Int32.toInt (vr_of (c := 181) (by omega) e19)); (have t3_ := congrArg Int32.toInt (vr_of (c := 182) (by omega) e23)); exact (if_neg (by omega)).symm)).trans w9_0) (by omega)
                    · refine te_iconst (p2 := 113) (x := 1) rfl rfl (by decide) ?_
                      refine te_goto rfl ?_
                      refine te_istore (p2 := 119) (lv2 := [(6, .int 1), (0, .ref 164), (1, .int x1), (2, .int x2), (3, .int x3), (4, .int v9_4), (5, .int v9_5)]) rfl rfl (by decide) rfl ?_
                      refine te_iload (p2 := 121) rfl rfl rfl ?_
                      refine tz_eq (p2 := 124) rfl rfl (show Int32.toInt 1 = 1 from rfl) (fun c29 => absurd c29 (by omega)) (fun c29 => ?_)
                      refine te_iload (p2 := 126) rfl rfl rfl ?_
                      refine te_iconst (p2 := 127) (x := (-1)) rfl rfl (by decide) ?_
                      refine tb_eq (p2 := 130) rfl rfl rfl (show Int32.toInt (-1) = (-1) from rfl) (fun c30 => ?_) (fun c30 => ?_)
                      · refine te_iload (p2 := 149) rfl rfl rfl ?_
                        refine te_goto rfl ?_
                        refine te_istore (p2 := 156) (lv2 := [(4, .int v9_5), (6, .int 1), (0, .ref 164), (1, .int x1), (2, .int x2), (3, .int x3), (5, .int v9_5)]) rfl rfl (by decide) rfl ?_
                        refine ar_inc (p2 := 159) (x := v9_5) rfl rfl (by decide) rfl (by decide) rfl (by omega) (by omega) (fun z31 e31 f31 => ?_)
                        show EvP _ _ _ (159, [(5, .int z31), (4, .int v9_5), (6, .int 1), (0, .ref 164), (1, .int x1), (2, .int x2), (3, .int x3)], [], h) _
                        refine te_goto rfl ?_
                        refine te_lv [(0, .ref 164), (1, .int x1), (2, .int x2), (3, .int x3), (4, .int v9_5), (5, .int z31)] rfl rfl ⟨rfl, rfl, rfl, rfl, rfl, rfl, trivial⟩ ?_
                        exact ih9 v9_5 z31 (by omega) (by omega) (by omega) (by omega) (by omega) ((own_step (by omega) e31 (by (have t0_ := congrArg Int32.toInt (vr_of (c := 178) (by omega) e15)); (have t1_ := congrArg Int32.toInt (vr_of (c := 180) (by omega) e25)); (have t2_ := congrArg Int32.toInt (vr_of (c := 181) (by omega) e19)); (have t3_ := congrArg Int32.toInt (vr_of (c := 182) (by omega) e23)); exact (if_pos (by omega)).symm)).trans w9_0) (by omega)
                      · refine te_aload_n (p2 := 131) rfl rfl rfl ?_
                        refine tg_r (p2 := 134) (i := 148) (r := 196) rfl rfl hI rfl rfl rfl ?_
                        refine te_iload (p2 := 136) rfl rfl rfl ?_
                        refine tl_e (p2 := 137) (i := 180) (n := 24) (t := 0) (Or.inl rfl) rfl rfl hI rfl rfl (by omega) (by omega) e25 ?_
                        refine te_aload_n (p2 := 138) rfl rfl rfl ?_
                        refine tg_r (p2 := 141) (i := 148) (r := 196) rfl rfl hI rfl rfl rfl ?_
                        refine te_iload (p2 := 143) rfl rfl rfl ?_
                        refine tl_i (p2 := 144) (i := 180) (n := 24) rfl rfl hI rfl rfl rfl rfl (by omega) (by omega) (fun y33 a33 b33 g33 e33 => ?_)
                        refine tb_lt (p2 := 147) rfl rfl rfl rfl (fun c34 => ?_) (fun c34 => ?_)
                        · refine te_iload (p2 := 154) rfl rfl rfl ?_
                          refine te_istore (p2 := 156) (lv2 := [(4, .int v9_4), (6, .int 1), (0, .ref 164), (1, .int x1), (2, .int x2), (3, .int x3), (5, .int v9_5)]) rfl rfl (by decide) rfl ?_
                          refine ar_inc (p2 := 159) (x := v9_5) rfl rfl (by decide) rfl (by decide) rfl (by omega) (by omega) (fun z35 e35 f35 => ?_)
                          show EvP _ _ _ (159, [(5, .int z35), (4, .int v9_4), (6, .int 1), (0, .ref 164), (1, .int x1), (2, .int x2), (3, .int x3)], [], h) _
                          refine te_goto rfl ?_
                          refine te_lv [(0, .ref 164), (1, .int x1), (2, .int x2), (3, .int x3), (4, .int v9_4), (5, .int z35)] rfl rfl ⟨rfl, rfl, rfl, rfl, rfl, rfl, trivial⟩ ?_
                          exact ih9 v9_4 z35 (by omega) (by omega) (by omega) (by omega) (by omega) ((own_step (by omega) e35 (by (have t0_ := congrArg Int32.toInt (vr_of (c := 178) (by omega) e15)); (have t1_ := congrArg Int32.toInt (vr_of (c := 180) (by omega) e25)); (have t2_ := congrArg Int32.toInt (vr_of (c := 181) (by omega) e19)); (have t3_ := congrArg Int32.toInt (vr_of (c := 182) (by omega) e23)); (have t4_ := congrArg Int32.toInt (vr_of (c := 180) (by omega) e33)); exact (if_neg (by omega)).symm)).trans w9_0) (by omega)
                        · refine te_iload (p2 := 149) rfl rfl rfl ?_
                          refine te_goto rfl ?_
                          refine te_istore (p2 := 156) (lv2 := [(4, .int v9_5), (6, .int 1), (0, .ref 164), (1, .int x1), (2, .int x2), (3, .int x3), (5, .int v9_5)]) rfl rfl (by decide) rfl ?_
                          refine ar_inc (p2 := 159) (x := v9_5) rfl rfl (by decide) rfl (by decide) rfl (by omega) (by omega) (fun z36 e36 f36 => ?_)
                          show EvP _ _ _ (159, [(5, .int z36), (4, .int v9_5), (6, .int 1), (0, .ref 164), (1, .int x1), (2, .int x2), (3, .int x3)], [], h) _
                          refine te_goto rfl ?_
                          refine te_lv [(0, .ref 164), (1, .int x1), (2, .int x2), (3, .int x3), (4, .int v9_5), (5, .int z36)] rfl rfl ⟨rfl, rfl, rfl, rfl, rfl, rfl, trivial⟩ ?_
                          exact ih9 v9_5 z36 (by omega) (by omega) (by omega) (by omega) (by omega) ((own_step (by omega) e36 (by (have t0_ := congrArg Int32.toInt (vr_of (c := 178) (by omega) e15)); (have t1_ := congrArg Int32.toInt (vr_of (c := 180) (by omega) e25)); (have t2_ := congrArg Int32.toInt (vr_of (c := 181) (by omega) e19)); (have t3_ := congrArg Int32.toInt (vr_of (c := 182) (by omega) e23)); (have t4_ := congrArg Int32.toInt (vr_of (c := 180) (by omega) e33)); exact (if_pos (by omega)).symm)).trans w9_0) (by omega)
                  · refine te_aload_n (p2 := 91) rfl rfl rfl ?_
                    refine tg_r (p2 := 94) (i := 148) (r := 198) rfl rfl hI rfl rfl rfl ?_
                    refine te_iload (p2 := 96) rfl rfl rfl ?_
                    refine tl_e (p2 := 97) (i := 182) (n := 24) (t := 0) (Or.inl rfl) rfl rfl hI rfl rfl (by omega) (by omega) e23 ?_
                    refine te_iload_n (p2 := 98) rfl rfl rfl ?_
                    refine tb_le (p2 := 101) rfl rfl rfl rfl (fun c38 => ?_) (fun c38 => ?_)
                    · refine te_iconst (p2 := 117) (x := 0) rfl rfl (by decide) ?_
                      refine te_istore (p2 := 119) (lv2 := [(6, .int 0), (0, .ref 164), (1, .int x1), (2, .int x2), (3, .int x3), (4, .int v9_4), (5, .int v9_5)]) rfl rfl (by decide) rfl ?_
                      refine te_iload (p2 := 121) rfl rfl rfl ?_
                      refine tz_eq (p2 := 124) rfl rfl (show Int32.toInt 0 = 0 from rfl) (fun c39 => ?_) (fun c39 => absurd c39 (by omega))
                      refine te_iload (p2 := 154) rfl rfl rfl ?_
                      refine te_istore (p2 := 156) (lv2 := [(4, .int v9_4), (6, .int 0), (0, .ref 164), (1, .int x1), (2, .int x2), (3, .int x3), (5, .int v9_5)]) rfl rfl (by decide) rfl ?_
                      refine ar_inc (p2 := 159) (x := v9_5) rfl rfl (by decide) rfl (by decide) rfl (by omega) (by omega) (fun z40 e40 f40 => ?_)
                      show EvP _ _ _ (159, [(5, .int z40), (4, .int v9_4), (6, .int 0), (0, .ref 164), (1, .int x1), (2, .int x2), (3, .int x3)], [], h) _
                      refine te_goto rfl ?_
                      refine te_lv [(0, .ref 164), (1, .int x1), (2, .int x2), (3, .int x3), (4, .int v9_4), (5, .int z40)] rfl rfl ⟨rfl, rfl, rfl, rfl, rfl, rfl, trivial⟩ ?_
                      exact ih9 v9_4 z40 (by omega) (by omega) (by omega) (by omega) (by omega) ((own_step (by omega) e40 (by (have t0_ := congrArg Int32.toInt (vr_of (c := 178) (by omega) e15)); (have t2_ := congrArg Int32.toInt (vr_of (c := 181) (by omega) e19)); (have t3_ := congrArg Int32.toInt (vr_of (c := 182) (by omega) e23)); exact (if_neg (by omega)).symm)).trans w9_0) (by omega)
                    · refine te_aload_n (p2 := 102) rfl rfl rfl ?_
                      refine tg_r (p2 := 105) (i := 148) (r := 196) rfl rfl hI rfl rfl rfl ?_
                      refine te_iload (p2 := 107) rfl rfl rfl ?_
                      refine tl_i (p2 := 108) (i := 180) (n := 24) rfl rfl hI rfl rfl rfl rfl (by omega) (by omega) (fun y41 a41 b41 g41 e41 => ?_)
                      refine te_iload_n (p2 := 109) rfl rfl rfl ?_
                      refine tb_gt (p2 := 112) rfl rfl rfl rfl (fun c42 => ?_) (fun c42 => ?_)
                      · refine te_iconst (p2 := 117) (x := 0) rfl rfl (by decide) ?_
                        refine te_istore (p2 := 119) (lv2 := [(6, .int 0), (0, .ref 164), (1, .int x1), (2, .int x2), (3, .int x3), (4, .int v9_4), (5, .int v9_5)]) rfl rfl (by decide) rfl ?_
                        refine te_iload (p2 := 121) rfl rfl rfl ?_
                        refine tz_eq (p2 := 124) rfl rfl (show Int32.toInt 0 = 0 from rfl) (fun c43 => ?_) (fun c43 => absurd c43 (by omega))
                        refine te_iload (p2 := 154) rfl rfl rfl ?_
                        refine te_istore (p2 := 156) (lv2 := [(4, .int v9_4), (6, .int 0), (0, .ref 164), (1, .int x1), (2, .int x2), (3, .int x3), (5, .int v9_5)]) rfl rfl (by decide) rfl ?_
                        refine ar_inc (p2 := 159) (x := v9_5) rfl rfl (by decide) rfl (by decide) rfl (by omega) (by omega) (fun z44 e44 f44 => ?_)
                        show EvP _ _ _ (159, [(5, .int z44), (4, .int v9_4), (6, .int 0), (0, .ref 164), (1, .int x1), (2, .int x2), (3, .int x3)], [], h) _
                        refine te_goto rfl ?_
                        refine te_lv [(0, .ref 164), (1, .int x1), (2, .int x2), (3, .int x3), (4, .int v9_4), (5, .int z44)] rfl rfl ⟨rfl, rfl, rfl, rfl, rfl, rfl, trivial⟩ ?_
                        exact ih9 v9_4 z44 (by omega) (by omega) (by omega) (by omega) (by omega) ((own_step (by omega) e44 (by (have t0_ := congrArg Int32.toInt (vr_of (c := 178) (by omega) e15)); (have t1_ := congrArg Int32.toInt (vr_of (c := 180) (by omega) e41)); (have t2_ := congrArg Int32.toInt (vr_of (c := 181) (by omega) e19)); (have t3_ := congrArg Int32.toInt (vr_of (c := 182) (by omega) e23)); exact (if_neg (by omega)).symm)).trans w9_0) (by omega)
                      · refine te_iconst (p2 := 113) (x := 1) rfl rfl (by decide) ?_
                        refine te_goto rfl ?_
                        refine te_istore (p2 := 119) (lv2 := [(6, .int 1), (0, .ref 164), (1, .int x1), (2, .int x2), (3, .int x3), (4, .int v9_4), (5, .int v9_5)]) rfl rfl (by decide) rfl ?_
                        refine te_iload (p2 := 121) rfl rfl rfl ?_
                        refine tz_eq (p2 := 124) rfl rfl (show Int32.toInt 1 = 1 from rfl) (fun c45 => absurd c45 (by omega)) (fun c45 => ?_)
                        refine te_iload (p2 := 126) rfl rfl rfl ?_
                        refine te_iconst (p2 := 127) (x := (-1)) rfl rfl (by decide) ?_
                        refine tb_eq (p2 := 130) rfl rfl rfl (show Int32.toInt (-1) = (-1) from rfl) (fun c46 => ?_) (fun c46 => ?_)
                        · refine te_iload (p2 := 149) rfl rfl rfl ?_
                          refine te_goto rfl ?_
                          refine te_istore (p2 := 156) (lv2 := [(4, .int v9_5), (6, .int 1), (0, .ref 164), (1, .int x1), (2, .int x2), (3, .int x3), (5, .int v9_5)]) rfl rfl (by decide) rfl ?_
                          refine ar_inc (p2 := 159) (x := v9_5) rfl rfl (by decide) rfl (by decide) rfl (by omega) (by omega) (fun z47 e47 f47 => ?_)
                          show EvP _ _ _ (159, [(5, .int z47), (4, .int v9_5), (6, .int 1), (0, .ref 164), (1, .int x1), (2, .int x2), (3, .int x3)], [], h) _
                          refine te_goto rfl ?_
                          refine te_lv [(0, .ref 164), (1, .int x1), (2, .int x2), (3, .int x3), (4, .int v9_5), (5, .int z47)] rfl rfl ⟨rfl, rfl, rfl, rfl, rfl, rfl, trivial⟩ ?_
                          exact ih9 v9_5 z47 (by omega) (by omega) (by omega) (by omega) (by omega) ((own_step (by omega) e47 (by (have t0_ := congrArg Int32.toInt (vr_of (c := 178) (by omega) e15)); (have t1_ := congrArg Int32.toInt (vr_of (c := 180) (by omega) e41)); (have t2_ := congrArg Int32.toInt (vr_of (c := 181) (by omega) e19)); (have t3_ := congrArg Int32.toInt (vr_of (c := 182) (by omega) e23)); exact (if_pos (by omega)).symm)).trans w9_0) (by omega)
                        · refine te_aload_n (p2 := 131) rfl rfl rfl ?_
                          refine tg_r (p2 := 134) (i := 148) (r := 196) rfl rfl hI rfl rfl rfl ?_
                          refine te_iload (p2 := 136) rfl rfl rfl ?_
                          refine tl_e (p2 := 137) (i := 180) (n := 24) (t := 0) (Or.inl rfl) rfl rfl hI rfl rfl (by omega) (by omega) e41 ?_
                          refine te_aload_n (p2 := 138) rfl rfl rfl ?_
                          refine tg_r (p2 := 141) (i := 148) (r := 196) rfl rfl hI rfl rfl rfl ?_
                          refine te_iload (p2 := 143) rfl rfl rfl ?_
                          refine tl_i (p2 := 144) (i := 180) (n := 24) rfl rfl hI rfl rfl rfl rfl (by omega) (by omega) (fun y49 a49 b49 g49 e49 => ?_)
                          refine tb_lt (p2 := 147) rfl rfl rfl rfl (fun c50 => ?_) (fun c50 => ?_)
                          · refine te_iload (p2 := 154) rfl rfl rfl ?_
                            refine te_istore (p2 := 156) (lv2 := [(4, .int v9_4), (6, .int 1), (0, .ref 164), (1, .int x1), (2, .int x2), (3, .int x3), (5, .int v9_5)]) rfl rfl (by decide) rfl ?_
                            refine ar_inc (p2 := 159) (x := v9_5) rfl rfl (by decide) rfl (by decide) rfl (by omega) (by omega) (fun z51 e51 f51 => ?_)
                            show EvP _ _ _ (159, [(5, .int z51), (4, .int v9_4), (6, .int 1), (0, .ref 164), (1, .int x1), (2, .int x2), (3, .int x3)], [], h) _
                            refine te_goto rfl ?_
                            refine te_lv [(0, .ref 164), (1, .int x1), (2, .int x2), (3, .int x3), (4, .int v9_4), (5, .int z51)] rfl rfl ⟨rfl, rfl, rfl, rfl, rfl, rfl, trivial⟩ ?_
                            exact ih9 v9_4 z51 (by omega) (by omega) (by omega) (by omega) (by omega) ((own_step (by omega) e51 (by (have t0_ := congrArg Int32.toInt (vr_of (c := 178) (by omega) e15)); (have t1_ := congrArg Int32.toInt (vr_of (c := 180) (by omega) e41)); (have t2_ := congrArg Int32.toInt (vr_of (c := 181) (by omega) e19)); (have t3_ := congrArg Int32.toInt (vr_of (c := 182) (by omega) e23)); (have t4_ := congrArg Int32.toInt (vr_of (c := 180) (by omega) e49)); exact (if_neg (by omega)).symm)).trans w9_0) (by omega)
                          · refine te_iload (p2 := 149) rfl rfl rfl ?_
                            refine te_goto rfl ?_
                            refine te_istore (p2 := 156) (lv2 := [(4, .int v9_5), (6, .int 1), (0, .ref 164), (1, .int x1), (2, .int x2), (3, .int x3), (5, .int v9_5)]) rfl rfl (by decide) rfl ?_
                            refine ar_inc (p2 := 159) (x := v9_5) rfl rfl (by decide) rfl (by decide) rfl (by omega) (by omega) (fun z52 e52 f52 => ?_)
                            show EvP _ _ _ (159, [(5, .int z52), (4, .int v9_5), (6, .int 1), (0, .ref 164), (1, .int x1), (2, .int x2), (3, .int x3)], [], h) _
                            refine te_goto rfl ?_
                            refine te_lv [(0, .ref 164), (1, .int x1), (2, .int x2), (3, .int x3), (4, .int v9_5), (5, .int z52)] rfl rfl ⟨rfl, rfl, rfl, rfl, rfl, rfl, trivial⟩ ?_
                            exact ih9 v9_5 z52 (by omega) (by omega) (by omega) (by omega) (by omega) ((own_step (by omega) e52 (by (have t0_ := congrArg Int32.toInt (vr_of (c := 178) (by omega) e15)); (have t1_ := congrArg Int32.toInt (vr_of (c := 180) (by omega) e41)); (have t2_ := congrArg Int32.toInt (vr_of (c := 181) (by omega) e19)); (have t3_ := congrArg Int32.toInt (vr_of (c := 182) (by omega) e23)); (have t4_ := congrArg Int32.toInt (vr_of (c := 180) (by omega) e49)); exact (if_pos (by omega)).symm)).trans w9_0) (by omega)
        refine te_lv [(0, .ref 164), (1, .int x1), (2, .int x2), (3, .int x3), (4, .int (-1)), (5, .int 0)] rfl rfl ⟨rfl, rfl, rfl, rfl, rfl, rfl, trivial⟩ ?_
        exact lp9 25 (-1) 0 (by decide) (by decide) (by decide) (by decide) (by have cc0 := (show Int32.toInt (-1) = (-1) from rfl); have cc1 := (show Int32.toInt 0 = 0 from rfl); omega) rfl (by have cc0 := (show Int32.toInt (-1) = (-1) from rfl); have cc1 := (show Int32.toInt 0 = 0 from rfl); omega)
      · subst w6
        have cc6_1 := (show Int32.toInt 0 = 0 from rfl)
        refine tz_ne (p2 := 39) rfl rfl (show Int32.toInt 0 = 0 from rfl) (fun c53 => absurd c53 (by omega)) (fun c53 => ?_)
        refine te_bipush (p2 := 41) (x := (-2)) rfl rfl (by decide) ?_
        obtain ⟨v54, e54, y54, w54, a54, b54, _⟩ := hI.2.1 148 35 (.inl (0, 24, 9999999999)) rfl
        subst w54
        exact te_iret rfl rfl ⟨hI, f0, _, rfl, y5, y54, e5, e54, (by unfold owT; rw [if_pos (by omega), if_neg (by omega)])⟩
    · subst w3
      have cc3_1 := (show Int32.toInt 0 = 0 from rfl)
      have cc3_2 := (show Int32.toInt 2000 = 2000 from rfl)
      refine tz_eq (p2 := 24) rfl rfl (show Int32.toInt 0 = 0 from rfl) (fun c55 => ?_) (fun c55 => absurd c55 (by omega))
      refine te_bipush (p2 := 41) (x := (-2)) rfl rfl (by decide) ?_
      obtain ⟨v56, e56, y56, w56, a56, b56, _⟩ := hI.2.1 149 (Int32.toInt 105).toNat (.inl ((-2147483648), 2147483647, 9999999999)) (tq_row rfl (by decide))
      subst w56
      obtain ⟨v57, e57, y57, w57, a57, b57, _⟩ := hI.2.1 148 35 (.inl (0, 24, 9999999999)) rfl
      subst w57
      exact te_iret rfl rfl ⟨hI, f0, _, rfl, y56, y57, e56, e57, (by unfold owT; rw [if_pos (by omega), if_neg (by omega)])⟩
  · subst w1
    have cc1_1 := (show Int32.toInt 0 = 0 from rfl)
    have cc1_2 := (show Int32.toInt 11 = 11 from rfl)
    refine tz_ne (p2 := 10) rfl rfl (show Int32.toInt 0 = 0 from rfl) (fun c58 => absurd c58 (by omega)) (fun c58 => ?_)
    refine te_bipush (p2 := 12) (x := (-5)) rfl rfl (by decide) ?_
    obtain ⟨v59, e59, y59, w59, a59, b59, _⟩ := hI.2.1 149 (Int32.toInt 105).toNat (.inl ((-2147483648), 2147483647, 9999999999)) (tq_row rfl (by decide))
    subst w59
    obtain ⟨v60, e60, y60, w60, a60, b60, _⟩ := hI.2.1 148 35 (.inl (0, 24, 9999999999)) rfl
    subst w60
    exact te_iret rfl rfl ⟨hI, f0, _, rfl, y59, y60, e59, e60, (by unfold owT; rw [if_neg (by omega)])⟩
theorem own_lt {A Fm T B : Nat → Int32} {lot day known : Int32} {n : Int} (hn : n ≤ 24) : ∀ (m : Nat) (k best : Int32), 0 ≤ k.toInt → k.toInt + m ≤ n → -1 ≤ best.toInt → best.toInt < n → -1 ≤ (own A Fm T B lot day known m k best).toInt ∧ (own A Fm T B lot day known m k best).toInt < n
  | 0, _, _, _, _, h1, h2 => ⟨h1, h2⟩
  | m + 1, k, best, h0, hm, h1, h2 => by
    have e : (k + 1).toInt = k.toInt + 1 := i32_addE (show Int32.toInt 1 = 1 from rfl) (by omega) (by omega)
    show -1 ≤ (own A Fm T B lot day known m (k + 1) _).toInt ∧ (own A Fm T B lot day known m (k + 1) _).toInt < n
    refine own_lt hn m (k + 1) _ (by omega) (by omega) ?_ ?_
    · split <;> omega
    · split <;> omega
theorem owT_lt {A O Fm T B : Nat → Int32} {x1 x2 x3 d c np : Int32} (h0 : 0 ≤ c.toInt) (h24 : c.toInt ≤ 24) (hO : ∀ k : Nat, (k : Int) < c.toInt → (O k).toInt < np.toInt) : (owT A O Fm T B x1 x2 x3 d c).toInt < 0 ∨ (owT A O Fm T B x1 x2 x3 d c).toInt < np.toInt := by
  unfold owT
  split
  · split
    · unfold owR
      split
      · exact Or.inl (by decide)
      · rename_i hb
        by_cases hc : c.toInt = 0
        · rw [hc] at hb
          exact absurd rfl hb
        · have q := own_lt (A := A) (Fm := Fm) (T := T) (B := B) (lot := x1) (day := x2) (known := x3) h24 c.toInt.toNat 0 (-1) (by decide) (by rw [show Int32.toInt 0 = 0 from rfl]; omega) (by decide) (by rw [show Int32.toInt (-1) = -1 from rfl]; omega)
          exact Or.inr (hO _ (by omega))
    · exact Or.inl (by decide)
  · exact Or.inl (by decide)
theorem owT_23 {A O Fm T B : Nat → Int32} {x1 x2 x3 d c : Int32} (hO : ∀ k : Nat, (O k).toInt ≤ 23) : (owT A O Fm T B x1 x2 x3 d c).toInt ≤ 23 := by
  unfold owT owR
  (repeat' split)
  · decide
  · exact hO _
  · decide
  · decide
theorem vr_23 {h : im_H} (hI : tI h) (k : Nat) : (vr h 179 k).toInt ≤ 23 := by
  unfold vr
  by_cases hk : k < 24
  · rw [if_pos hk]
    obtain ⟨_, e, y, w, a, b, _⟩ := hI.2.1 179 k (.inl (0, 23, 9999999999)) (tq_row rfl (by omega))
    subst w
    rw [e]
    exact b
  · rw [if_neg hk]
    decide
noncomputable def hrR (C : Nat → Prop) : Nat → Int32
  | 0 => 0
  | k + 1 => @ite _ (C k) (Classical.propDecidable _) (hrR C k ||| (1 <<< (Int32.ofNat k &&& 31))) (hrR C k)
theorem hrR_c {C D : Nat → Prop} (h : ∀ k, C k ↔ D k) : hrR C = hrR D := by
  rw [show C = D from funext fun k => propext (h k)]
theorem hrR_s {C : Nat → Prop} {n : Nat} {acc v b : Int32} (w : acc = hrR C v.toInt.toNat) (h0 : 0 ≤ v.toInt) (hn : n = v.toInt.toNat + 1) (hb : (C v.toInt.toNat ∧ acc ||| (1 <<< (v &&& 31)) = b) ∨ (¬ C v.toInt.toNat ∧ acc = b)) : b = hrR C n := by
  subst hn
  have e : Int32.ofNat v.toInt.toNat = v := i32_ext (by rw [Int32.toInt_ofNat_of_lt (by have := i32_hi v; omega)]; omega)
  rcases hb with ⟨c, e2⟩ | ⟨c, e2⟩
  · show b = @ite _ (C v.toInt.toNat) (Classical.propDecidable _) _ _
    rw [if_pos c, e, ← w, e2]
  · show b = @ite _ (C v.toInt.toNat) (Classical.propDecidable _) _ _
    rw [if_neg c, ← w, e2]
theorem hrR_0 {C : Nat → Prop} {n : Nat} (h : n = 0) : 0 = hrR C n := by
  subst h
  rfl
def kiX (c : Ct) (A : Dy) (p k : Nat) : Prop := k ≠ p ∧ (c.kn k).toInt = (c.kn p).toInt ∧ (A.de k).toInt = 0
def kiM (c : Ct) (A : Dy) (p k : Nat) : Prop := (c.kn k).toInt = (c.kn p).toInt ∧ (A.de k).toInt = 0
noncomputable def heX (o : Int32) (c : Ct) (A : Dy) : Int32 := if 0 ≤ o.toInt ∧ o.toInt < c.np.toInt then (if (A.de o.toInt.toNat).toInt = 0 then 1 <<< (o &&& 31) else hrR (kiX c A o.toInt.toNat) c.np.toInt.toNat) else o
noncomputable def heM (o : Int32) (c : Ct) (A : Dy) : Int32 := if o.toInt < 0 then o else if (A.de o.toInt.toNat).toInt = 0 then 1 <<< (o &&& 31) else hrR (kiM c A o.toInt.toNat) c.np.toInt.toNat
theorem he_eq {o : Int32} {c : Ct} {A : Dy} (h : o.toInt < 0 ∨ o.toInt < c.np.toInt) : heX o c A = heM o c A := by
  unfold heX heM
  by_cases h0 : o.toInt < 0
  · rw [if_pos h0, if_neg (by omega)]
  · rw [if_neg h0, if_pos (by omega)]
    by_cases hd : (A.de o.toInt.toNat).toInt = 0
    · rw [if_pos hd, if_pos hd]
    · rw [if_neg hd, if_neg hd, hrR_c (C := kiX c A o.toInt.toNat) (D := kiM c A o.toInt.toNat) (fun k => ⟨fun q => q.2, fun q => ⟨fun e => hd (by rw [← e]; exact q.2), q⟩⟩)]
theorem np_rd {h : im_H} (hI : tI h) (A0 : cX h = cM h) : rd h 1 2 = rd h 148 10 := by
  obtain ⟨_, e, y, w, _⟩ := hI.2.1 1 2 (.inl (0, 24, 9999999999)) rfl
  obtain ⟨_, e2, y2, w2, _⟩ := hI.2.1 148 10 (.inl (0, 24, 9999999999)) rfl
  subst w w2
  have q : rv h 1 2 = rv h 148 10 := congrArg Ct.np A0
  rw [rv_of e, rv_of e2] at q
  rw [e, e2, q]
theorem da_rd {h : im_H} (hI : tI h) (Y0 : absX h 23 = absM h) : rd h 23 0 = rd h 149 105 := by
  obtain ⟨_, e, y, w, _⟩ := hI.2.1 23 0 (.inl ((-2147483648), 2147483647, 9999999999)) rfl
  obtain ⟨_, e2, y2, w2, _⟩ := hI.2.1 149 105 (.inl ((-2147483648), 2147483647, 9999999999)) rfl
  subst w w2
  have q : rv h 23 0 = rv h 149 105 := congrArg Dy.da Y0
  rw [rv_of e, rv_of e2] at q
  rw [e, e2, q]
theorem person_np {x1 x2 x3 x4 : Int32} {c : Ct} {A : Dy} : c.np.toInt ≤ (person_f x1 x2 x3 x4 c A).2.1.np.toInt := by
  unfold person_f
  (repeat' split)
  · exact Int.le_refl _
  · have lo := i32_lo c.np
    have e : (c.np + 1).toInt = c.np.toInt + 1 := i32_addE (show Int32.toInt 1 = 1 from rfl) (by omega) (by omega)
    show c.np.toInt ≤ (c.np + 1).toInt
    omega
  · exact Int.le_refl _
  · exact Int.le_refl _
theorem ppF_np {F : Nat → Int32} {fr sz : Int} : ∀ (m k : Nat) (came : Int32) (c : Ct) (A : Dy), c.np.toInt ≤ (ppF F fr sz m k came c A).2.1.np.toInt
  | 0, _, _, _, _ => Int.le_refl _
  | m + 1, k, came, c, A => by
    by_cases hc : 0 ≤ fr ∧ fr + 4 * (k : Int) + 4 ≤ sz
    · have q := person_np (x1 := F (fr.toNat + 4 * k)) (x2 := F (fr.toNat + 4 * k + 1)) (x3 := F (fr.toNat + 4 * k + 2)) (x4 := F (fr.toNat + 4 * k + 3)) (c := c) (A := A)
      rw [show ppF F fr sz (m + 1) k came c A = _ from if_pos hc]
      exact Int.le_trans q (ppF_np m _ _ _ _)
    · rw [show ppF F fr sz (m + 1) k came c A = _ from if_neg hc]
      exact Int.le_refl _
theorem people_np {x1 x2 x3 x4 q z : Int32} {F : Nat → Int32} {c : Ct} {A : Dy} : c.np.toInt ≤ (people_f x1 x2 x3 x4 q z F c A).2.1.np.toInt := by
  unfold people_f
  (repeat' split)
  · exact Int.le_refl _
  · exact Int.le_refl _
  · exact ppF_np _ _ _ _ _
  · exact Int.le_refl _
set_option maxRecDepth 20000 in
set_option maxHeartbeats 4000000 in
theorem c_X0_livingKin {s : Nat} {p : Int32} {h : im_H} (hI : tI h) (q_s : s = 23 ∨ s = 37 ∨ s = 51) (p_p0 : 0 ≤ p.toInt) (p_p1 : p.toInt ≤ 23) : CaP 1 6 [.ref 17, .ref (16 + s), .int p] h (pI h (fun y => y = hrR (kiX (cX h) (absX h s) p.toInt.toNat) (cX h).np.toInt.toNat)) := by
  refine cap_of (d := 0) (M := mX0_livingKin) rfl (Nat.le_of_ble_eq_true rfl) ?_
  show EvP im_K0 0 mX0_livingKin (0, [(0, .ref 17), (1, .ref (16 + s)), (2, .int p)], [], h) _
  refine te_iconst (p2 := 1) (x := 0) rfl rfl (by decide) ?_
  refine te_istore_n (p2 := 2) (lv2 := [(3, .int 0), (0, .ref 17), (1, .ref (16 + s)), (2, .int p)]) rfl rfl (by decide) rfl ?_
  refine te_iconst (p2 := 3) (x := 0) rfl rfl (by decide) ?_
  refine te_istore (p2 := 5) (lv2 := [(4, .int 0), (3, .int 0), (0, .ref 17), (1, .ref (16 + s)), (2, .int p)]) rfl rfl (by decide) rfl ?_
  obtain ⟨v1, e1, y1, w1, a1, b1, _⟩ := hI.2.1 1 2 (.inl (0, 24, 9999999999)) rfl
  subst w1
  have lp2 : ∀ (n2 : Nat) (v2_3 v2_4 : Int32) , 0 ≤ v2_4.toInt → v2_4.toInt ≤ 24 → v2_4.toInt ≤ y1.toInt → (v2_3 = hrR (kiX (cX h) (absX h s) p.toInt.toNat) v2_4.toInt.toNat) → 24 - v2_4.toInt < (n2 : Int) → EvP im_K0 0 mX0_livingKin (5, [(0, .ref 17), (1, .ref (16 + s)), (2, .int p), (3, .int v2_3), (4, .int v2_4)], [], h) (pI h (fun y => y = hrR (kiX (cX h) (absX h s) p.toInt.toNat) (cX h).np.toInt.toNat)) := by
    intro n2
    induction n2 with
    | zero => intro v2_3 v2_4 a2_4 b2_4 l2_0 w2_0 m2; exfalso; omega
    | succ n2 ih2 =>
      intro v2_3 v2_4 a2_4 b2_4 l2_0 w2_0 m2
      refine te_iload (p2 := 7) rfl rfl rfl ?_
      refine te_aload_n (p2 := 8) rfl rfl rfl ?_
      refine tg_e (p2 := 11) (i := 1) (v := .int y1) rfl rfl hI rfl rfl e1 ?_
      refine tb_ge (p2 := 14) rfl rfl rfl rfl (fun c3 => ?_) (fun c3 => ?_)
      · refine te_iload_n (p2 := 60) rfl rfl rfl ?_
        exact te_iret rfl rfl ⟨rfl, _, rfl, (by rw [w2_0, show (cX h).np = y1 from rv_of e1, show v2_4.toInt.toNat = y1.toInt.toNat by omega])⟩
      · refine te_iload (p2 := 16) rfl rfl rfl ?_
        refine te_iload_n (p2 := 17) rfl rfl rfl ?_
        refine tb_eq (p2 := 20) rfl rfl rfl rfl (fun c4 => ?_) (fun c4 => ?_)
        · refine ar_inc (p2 := 56) (x := v2_4) rfl rfl (by decide) rfl (by decide) rfl (by omega) (by omega) (fun z5 e5 f5 => ?_)
          show EvP _ _ _ (56, [(4, .int z5), (0, .ref 17), (1, .ref (16 + s)), (2, .int p), (3, .int v2_3)], [], h) _
          refine te_goto rfl ?_
          refine te_lv [(0, .ref 17), (1, .ref (16 + s)), (2, .int p), (3, .int v2_3), (4, .int z5)] rfl rfl ⟨rfl, rfl, rfl, rfl, rfl, trivial⟩ ?_
          exact ih2 v2_3 z5 (by omega) (by omega) (by omega) (hrR_s w2_0 (by omega) (by omega) (Or.inr ⟨fun q => q.1 (by omega), rfl⟩)) (by omega)
        · refine te_aload_n (p2 := 21) rfl rfl rfl ?_
          refine tg_r (p2 := 24) (i := 1) (r := 21) rfl rfl hI rfl rfl rfl ?_
          refine te_iload (p2 := 26) rfl rfl rfl ?_
          refine tl_i (p2 := 27) (i := 5) (n := 24) rfl rfl hI rfl rfl rfl rfl (by omega) (by omega) (fun y6 a6 b6 g6 e6 => ?_)
          refine te_aload_n (p2 := 28) rfl rfl rfl ?_
          refine tg_r (p2 := 31) (i := 1) (r := 21) rfl rfl hI rfl rfl rfl ?_
          refine te_iload_n (p2 := 32) rfl rfl rfl ?_
          refine tl_i (p2 := 33) (i := 5) (n := 24) rfl rfl hI rfl rfl rfl rfl (by omega) (by omega) (fun y7 a7 b7 g7 e7 => ?_)
          refine tb_ne (p2 := 36) rfl rfl rfl rfl (fun c8 => ?_) (fun c8 => ?_)
          · refine ar_inc (p2 := 56) (x := v2_4) rfl rfl (by decide) rfl (by decide) rfl (by omega) (by omega) (fun z9 e9 f9 => ?_)
            show EvP _ _ _ (56, [(4, .int z9), (0, .ref 17), (1, .ref (16 + s)), (2, .int p), (3, .int v2_3)], [], h) _
            refine te_goto rfl ?_
            refine te_lv [(0, .ref 17), (1, .ref (16 + s)), (2, .int p), (3, .int v2_3), (4, .int z9)] rfl rfl ⟨rfl, rfl, rfl, rfl, rfl, trivial⟩ ?_
            exact ih2 v2_3 z9 (by omega) (by omega) (by omega) (hrR_s w2_0 (by omega) (by omega) (Or.inr ⟨fun q => (by (have q1 := q.2.1); rw [(show (cX h).kn v2_4.toInt.toNat = y6 from (gd_at (by omega)).trans (rv_of e6)), (show (cX h).kn p.toInt.toNat = y7 from (gd_at (by omega)).trans (rv_of e7))] at q1; omega), rfl⟩)) (by omega)
          · refine te_aload_n (p2 := 37) rfl rfl rfl ?_
            refine tg_r (p2 := 40) (i := s) (r := (16 + (s + 7))) rfl rfl hI rfl (by rcases q_s with rfl | rfl | rfl <;> rfl) (by rcases q_s with rfl | rfl | rfl <;> rfl) ?_
            refine te_iload (p2 := 42) rfl rfl rfl ?_
            refine tl_b (p2 := 43) (i := (s + 7)) (n := 24) rfl rfl hI rfl (by rcases q_s with rfl | rfl | rfl <;> rfl) (by rcases q_s with rfl | rfl | rfl <;> rfl) rfl (by omega) (by omega) (fun y10 a10 e10 => ?_)
            refine tz_ne (p2 := 46) rfl rfl rfl (fun c11 => ?_) (fun c11 => ?_)
            · refine ar_inc (p2 := 56) (x := v2_4) rfl rfl (by decide) rfl (by decide) rfl (by omega) (by omega) (fun z12 e12 f12 => ?_)
              show EvP _ _ _ (56, [(4, .int z12), (0, .ref 17), (1, .ref (16 + s)), (2, .int p), (3, .int v2_3)], [], h) _
              refine te_goto rfl ?_
              refine te_lv [(0, .ref 17), (1, .ref (16 + s)), (2, .int p), (3, .int v2_3), (4, .int z12)] rfl rfl ⟨rfl, rfl, rfl, rfl, rfl, trivial⟩ ?_
              exact ih2 v2_3 z12 (by omega) (by omega) (by omega) (hrR_s w2_0 (by omega) (by omega) (Or.inr ⟨fun q => (by (have q1 := q.2.2); rw [(show (absX h s).de v2_4.toInt.toNat = y10 from (aX_de (by omega)).trans (rv_of e10))] at q1; omega), rfl⟩)) (by omega)
            · refine te_iload_n (p2 := 47) rfl rfl rfl ?_
              refine te_iconst (p2 := 48) (x := 1) rfl rfl (by decide) ?_
              refine te_iload (p2 := 50) rfl rfl rfl ?_
              refine au_shl (p2 := 51) rfl rfl (fun z13 e13 => ?_)
              refine au_or (p2 := 52) rfl rfl (fun z14 e14 => ?_)
              refine te_istore_n (p2 := 53) (lv2 := [(3, .int z14), (0, .ref 17), (1, .ref (16 + s)), (2, .int p), (4, .int v2_4)]) rfl rfl (by decide) rfl ?_
              refine ar_inc (p2 := 56) (x := v2_4) rfl rfl (by decide) rfl (by decide) rfl (by omega) (by omega) (fun z15 e15 f15 => ?_)
              show EvP _ _ _ (56, [(4, .int z15), (3, .int z14), (0, .ref 17), (1, .ref (16 + s)), (2, .int p)], [], h) _
              refine te_goto rfl ?_
              refine te_lv [(0, .ref 17), (1, .ref (16 + s)), (2, .int p), (3, .int z14), (4, .int z15)] rfl rfl ⟨rfl, rfl, rfl, rfl, rfl, trivial⟩ ?_
              exact ih2 z14 z15 (by omega) (by omega) (by omega) (hrR_s w2_0 (by omega) (by omega) (Or.inl ⟨⟨by omega, by rw [(show (cX h).kn v2_4.toInt.toNat = y6 from (gd_at (by omega)).trans (rv_of e6)), (show (cX h).kn p.toInt.toNat = y7 from (gd_at (by omega)).trans (rv_of e7))]; omega, by rw [(show (absX h s).de v2_4.toInt.toNat = y10 from (aX_de (by omega)).trans (rv_of e10))]; omega⟩, (by rw [e13]; exact e14)⟩)) (by omega)
  refine te_lv [(0, .ref 17), (1, .ref (16 + s)), (2, .int p), (3, .int 0), (4, .int 0)] rfl rfl ⟨rfl, rfl, rfl, rfl, rfl, trivial⟩ ?_
  exact lp2 25 0 0 (by decide) (by decide) (by have cc0 := (show Int32.toInt 0 = 0 from rfl); omega) (hrR_0 rfl) (by have cc0 := (show Int32.toInt 0 = 0 from rfl); omega)
abbrev Q1_heirs (x1 x2 x3 : Int32) (y : Int32) (h h2 : im_H) : Prop := ∃ d c : Int32, rd h 23 0 = some (.int d) ∧ rd h 91 0 = some (.int c) ∧ y = heX (owT (vr h 92) (vr h 93) (vr h 94) (vr h 95) (vr h 96) x1 x2 x3 d c) (cX h) (absX h 23)
set_option maxRecDepth 20000 in
set_option maxHeartbeats 4000000 in
theorem c_X11_heirs {x1 : Int32} {x2 : Int32} {x3 : Int32} {h : im_H} (hI : tI h)  : CaP 4 99 [.ref 16, .int x1, .int x2, .int x3] h (fun v h2 => tI h2 ∧ fr F_X11_heirs h h2 ∧ ∃ y : Int32, v = some (.int y) ∧ Q1_heirs x1 x2 x3 y h h2) := by
  refine cap_of (d := 3) (M := mX11_heirs) rfl (Nat.le_of_ble_eq_true rfl) ?_
  show EvP im_K0 3 mX11_heirs (0, [(0, .ref 16), (1, .int x1), (2, .int x2), (3, .int x3)], [], h) _
  have f0 : fr F_X11_heirs h h := fr_rf
  refine te_aload_n (p2 := 1) rfl rfl rfl ?_
  refine te_iload_n (p2 := 2) rfl rfl rfl ?_
  refine te_iload_n (p2 := 3) rfl rfl rfl ?_
  refine te_iload_n (p2 := 4) rfl rfl rfl ?_
  refine tc_V (p2 := 7) (i := 0) rfl rfl rfl rfl hI rfl rfl rfl (c_X11_owner (x1 := x1) (x2 := x2) (x3 := x3) hI ) (by decide) (fun v1 h1 hq1 => ?_)
  obtain ⟨I1, g1, y1, w1, od1, oc1, ed1, ec1, fo1⟩ := hq1
  subst w1
  have f1 := fr_tr (F1 := F_X11_owner) (F := F_X11_heirs) f0 g1 (by decide)
  show EvP _ _ _ (7, [(0, .ref 16), (1, .int x1), (2, .int x2), (3, .int x3)], [.int y1], h1) _
  refine te_istore (p2 := 9) (lv2 := [(4, .int y1), (0, .ref 16), (1, .int x1), (2, .int x2), (3, .int x3)]) rfl rfl (by decide) rfl ?_
  refine te_iload (p2 := 11) rfl rfl rfl ?_
  obtain ⟨v2, e2, y2, w2, a2, b2, _⟩ := I1.2.1 1 2 (.inl (0, 24, 9999999999)) rfl
  subst w2
  refine te_aload_n (p2 := 12) rfl rfl rfl ?_
  refine tg_r (p2 := 15) (i := 0) (r := 17) rfl rfl I1 rfl rfl rfl ?_
  refine tg_e (p2 := 18) (i := 1) (v := .int y2) rfl rfl I1 rfl rfl e2 ?_
  refine cS_pI (p2 := 21) rfl rfl rfl rfl (t_X11_within (n := y1) (b := y2) I1 ) (by decide) (fun y3 r3 => ?_)
  rcases r3 with ⟨w3, c3⟩ | ⟨w3, c3⟩
  · subst w3
    refine tz_ne (p2 := 24) rfl rfl (show Int32.toInt 1 = 1 from rfl) (fun c4 => ?_) (fun c4 => absurd c4 (by omega))
    refine te_aload_n (p2 := 28) rfl rfl rfl ?_
    refine tg_r (p2 := 31) (i := 0) (r := 39) rfl rfl I1 rfl rfl rfl ?_
    refine tg_r (p2 := 34) (i := 23) (r := 46) rfl rfl I1 rfl rfl rfl ?_
    refine te_iload (p2 := 36) rfl rfl rfl ?_
    refine tl_b (p2 := 37) (i := 30) (n := 24) rfl rfl I1 rfl rfl rfl rfl (by omega) (by omega) (fun y5 a5 e5 => ?_)
    refine tz_eq (p2 := 40) rfl rfl rfl (fun c6 => ?_) (fun c6 => ?_)
    · refine te_iconst (p2 := 57) (x := 1) rfl rfl (by decide) ?_
      refine te_iload (p2 := 59) rfl rfl rfl ?_
      refine au_shl (p2 := 60) rfl rfl (fun z7 e7 => ?_)
      exact te_iret rfl rfl ⟨I1, f1, _, rfl, od1, oc1, ed1, ec1, (by show z7 = heX (owT (vr h 92) (vr h 93) (vr h 94) (vr h 95) (vr h 96) x1 x2 x3 od1 oc1) (cX h) (absX h 23); rw [← fo1, show cX h = cX h1 from (xc_fr2 f1 (by decide)).symm, show absX h 23 = absX h1 23 from (absX_fr f1 (by decide)).symm]; unfold heX; rw [if_pos (by rw [show (cX h1).np = y2 from rv_of e2]; omega), show (absX h1 23).de y1.toInt.toNat = y5 from (aX_de (by omega)).trans (rv_of e5), if_pos (by omega)]; exact e7.symm)⟩
    · refine te_aload_n (p2 := 41) rfl rfl rfl ?_
      refine tg_r (p2 := 44) (i := 0) (r := 17) rfl rfl I1 rfl rfl rfl ?_
      refine te_aload_n (p2 := 45) rfl rfl rfl ?_
      refine tg_r (p2 := 48) (i := 0) (r := 39) rfl rfl I1 rfl rfl rfl ?_
      refine te_iload (p2 := 50) rfl rfl rfl ?_
      refine cV_pI (p2 := 53) (i := 1) rfl rfl rfl rfl I1 rfl rfl rfl (c_X0_livingKin (s := 23) (p := y1) I1 (by decide) (by omega) (by omega)) (by decide) (fun y8 r8 => ?_)
      refine te_goto rfl ?_
      exact te_iret rfl rfl ⟨I1, f1, _, rfl, od1, oc1, ed1, ec1, (by show y8 = heX (owT (vr h 92) (vr h 93) (vr h 94) (vr h 95) (vr h 96) x1 x2 x3 od1 oc1) (cX h) (absX h 23); rw [← fo1, show cX h = cX h1 from (xc_fr2 f1 (by decide)).symm, show absX h 23 = absX h1 23 from (absX_fr f1 (by decide)).symm]; unfold heX; rw [if_pos (by rw [show (cX h1).np = y2 from rv_of e2]; omega), show (absX h1 23).de y1.toInt.toNat = y5 from (aX_de (by omega)).trans (rv_of e5), if_neg (by omega)]; exact r8)⟩
  · subst w3
    refine tz_ne (p2 := 24) rfl rfl (show Int32.toInt 0 = 0 from rfl) (fun c9 => absurd c9 (by omega)) (fun c9 => ?_)
    refine te_iload (p2 := 26) rfl rfl rfl ?_
    exact te_iret rfl rfl ⟨I1, f1, _, rfl, od1, oc1, ed1, ec1, (by show y1 = heX (owT (vr h 92) (vr h 93) (vr h 94) (vr h 95) (vr h 96) x1 x2 x3 od1 oc1) (cX h) (absX h 23); rw [← fo1, show cX h = cX h1 from (xc_fr2 f1 (by decide)).symm, show absX h 23 = absX h1 23 from (absX_fr f1 (by decide)).symm]; unfold heX; rw [show (cX h1).np = y2 from rv_of e2, if_neg (by omega)])⟩
abbrev Q2_heirs (x1 x2 x3 : Int32) (y : Int32) (h h2 : im_H) : Prop := ∃ d c : Int32, rd h 149 105 = some (.int d) ∧ rd h 148 35 = some (.int c) ∧ y = heM (owT (vr h 178) (vr h 179) (vr h 180) (vr h 181) (vr h 182) x1 x2 x3 d c) (cM h) (absM h)
set_option maxRecDepth 20000 in
set_option maxHeartbeats 4000000 in
theorem c_X12_heirs {x1 : Int32} {x2 : Int32} {x3 : Int32} {h : im_H} (hI : tI h)  : CaP 4 185 [.ref 164, .int x1, .int x2, .int x3] h (fun v h2 => tI h2 ∧ fr F_X12_heirs h h2 ∧ ∃ y : Int32, v = some (.int y) ∧ Q2_heirs x1 x2 x3 y h h2) := by
  refine cap_of (d := 3) (M := mX12_heirs) rfl (Nat.le_of_ble_eq_true rfl) ?_
  show EvP im_K0 3 mX12_heirs (0, [(0, .ref 164), (1, .int x1), (2, .int x2), (3, .int x3)], [], h) _
  have f0 : fr F_X12_heirs h h := fr_rf
  refine te_aload_n (p2 := 1) rfl rfl rfl ?_
  refine te_iload_n (p2 := 2) rfl rfl rfl ?_
  refine te_iload_n (p2 := 3) rfl rfl rfl ?_
  refine te_iload_n (p2 := 4) rfl rfl rfl ?_
  refine tc_V (p2 := 7) (i := 148) rfl rfl rfl rfl hI rfl rfl rfl (c_X12_owner (x1 := x1) (x2 := x2) (x3 := x3) hI ) (by decide) (fun v1 h1 hq1 => ?_)
  obtain ⟨I1, g1, y1, w1, od1, oc1, ed1, ec1, fo1⟩ := hq1
  subst w1
  have yb1 : y1.toInt ≤ 23 := by (rw [fo1]; exact owT_23 (vr_23 hI))
  have f1 := fr_tr (F1 := F_X12_owner) (F := F_X12_heirs) f0 g1 (by decide)
  show EvP _ _ _ (7, [(0, .ref 164), (1, .int x1), (2, .int x2), (3, .int x3)], [.int y1], h1) _
  refine te_istore (p2 := 9) (lv2 := [(4, .int y1), (0, .ref 164), (1, .int x1), (2, .int x2), (3, .int x3)]) rfl rfl (by decide) rfl ?_
  refine te_iload (p2 := 11) rfl rfl rfl ?_
  refine tz_ge (p2 := 14) rfl rfl rfl (fun c2 => ?_) (fun c2 => ?_)
  · refine te_iconst (p2 := 18) (x := 0) rfl rfl (by decide) ?_
    refine te_istore (p2 := 20) (lv2 := [(5, .int 0), (4, .int y1), (0, .ref 164), (1, .int x1), (2, .int x2), (3, .int x3)]) rfl rfl (by decide) rfl ?_
    refine te_iconst (p2 := 21) (x := 0) rfl rfl (by decide) ?_
    obtain ⟨v3, e3, y3, w3, a3, b3, _⟩ := I1.2.1 148 10 (.inl (0, 24, 9999999999)) rfl
    subst w3
    refine te_istore (p2 := 23) (lv2 := [(6, .int 0), (5, .int 0), (4, .int y1), (0, .ref 164), (1, .int x1), (2, .int x2), (3, .int x3)]) rfl rfl (by decide) rfl ?_
    have lp4 : ∀ (n4 : Nat) (v4_5 v4_6 : Int32) , 0 ≤ v4_6.toInt → v4_6.toInt ≤ 24 → v4_6.toInt ≤ y3.toInt → (v4_5 = hrR (kiM (cM h) (absM h) y1.toInt.toNat) v4_6.toInt.toNat) → 24 - v4_6.toInt < (n4 : Int) → EvP im_K0 3 mX12_heirs (23, [(0, .ref 164), (1, .int x1), (2, .int x2), (3, .int x3), (4, .int y1), (5, .int v4_5), (6, .int v4_6)], [], h1) (fun v h2 => tI h2 ∧ fr F_X12_heirs h h2 ∧ ∃ y : Int32, v = some (.int y) ∧ Q2_heirs x1 x2 x3 y h h2) := by
      intro n4
      induction n4 with
      | zero => intro v4_5 v4_6 a4_6 b4_6 l4_0 w4_0 m4; exfalso; omega
      | succ n4 ih4 =>
        intro v4_5 v4_6 a4_6 b4_6 l4_0 w4_0 m4
        refine te_iload (p2 := 25) rfl rfl rfl ?_
        refine te_aload_n (p2 := 26) rfl rfl rfl ?_
        refine tg_e (p2 := 29) (i := 148) (v := .int y3) rfl rfl I1 rfl rfl e3 ?_
        refine tb_ge (p2 := 32) rfl rfl rfl rfl (fun c5 => ?_) (fun c5 => ?_)
        · refine te_aload_n (p2 := 83) rfl rfl rfl ?_
          refine tg_r (p2 := 86) (i := 148) (r := 165) rfl rfl I1 rfl rfl rfl ?_
          refine te_sipush (p2 := 89) (x := 236) rfl rfl (by decide) ?_
          refine te_iload (p2 := 91) rfl rfl rfl ?_
          refine ar_add (p2 := 92) rfl rfl (show Int32.toInt 236 = 236 from rfl) rfl (by omega) (by omega) (fun z6 e6 f6 => ?_)
          refine tl_i (p2 := 93) (i := 149) (n := 283) rfl rfl I1 rfl rfl rfl rfl (by omega) (by omega) (fun y7 a7 b7 g7 e7 => ?_)
          refine tz_ne (p2 := 96) rfl rfl rfl (fun c8 => ?_) (fun c8 => ?_)
          · refine te_iload (p2 := 105) rfl rfl rfl ?_
            exact te_iret rfl rfl ⟨I1, f1, _, rfl, od1, oc1, ed1, ec1, (by show v4_5 = heM (owT (vr h 178) (vr h 179) (vr h 180) (vr h 181) (vr h 182) x1 x2 x3 od1 oc1) (cM h) (absM h); rw [← fo1]; unfold heM; rw [if_neg (by omega), (show (absM h).de y1.toInt.toNat = y7 from (aM_de (by omega)).trans ((rv_c (f1 149 _ rfl).symm).trans (by rw [show 236 + y1.toInt.toNat = z6.toInt.toNat by omega]; exact rv_of e7))), if_neg (by omega), w4_0, show (cM h).np = y3 from (rv_c (f1 148 10 rfl).symm).trans (rv_of e3), show v4_6.toInt.toNat = y3.toInt.toNat by omega])⟩
          · refine te_iconst (p2 := 97) (x := 1) rfl rfl (by decide) ?_
            refine te_iload (p2 := 99) rfl rfl rfl ?_
            refine au_shl (p2 := 100) rfl rfl (fun z9 e9 => ?_)
            refine te_goto rfl ?_
            exact te_iret rfl rfl ⟨I1, f1, _, rfl, od1, oc1, ed1, ec1, (by show z9 = heM (owT (vr h 178) (vr h 179) (vr h 180) (vr h 181) (vr h 182) x1 x2 x3 od1 oc1) (cM h) (absM h); rw [← fo1]; unfold heM; rw [if_neg (by omega), (show (absM h).de y1.toInt.toNat = y7 from (aM_de (by omega)).trans ((rv_c (f1 149 _ rfl).symm).trans (by rw [show 236 + y1.toInt.toNat = z6.toInt.toNat by omega]; exact rv_of e7))), if_pos (by omega)]; exact e9.symm)⟩
        · refine te_iload (p2 := 34) rfl rfl rfl ?_
          refine te_aload_n (p2 := 35) rfl rfl rfl ?_
          refine tg_r (p2 := 38) (i := 148) (r := 175) rfl rfl I1 rfl rfl rfl ?_
          refine te_iload (p2 := 40) rfl rfl rfl ?_
          refine tl_i (p2 := 41) (i := 159) (n := 24) rfl rfl I1 rfl rfl rfl rfl (by omega) (by omega) (fun y10 a10 b10 g10 e10 => ?_)
          refine te_aload_n (p2 := 42) rfl rfl rfl ?_
          refine tg_r (p2 := 45) (i := 148) (r := 175) rfl rfl I1 rfl rfl rfl ?_
          refine te_iload (p2 := 47) rfl rfl rfl ?_
          refine tl_i (p2 := 48) (i := 159) (n := 24) rfl rfl I1 rfl rfl rfl rfl (by omega) (by omega) (fun y11 a11 b11 g11 e11 => ?_)
          refine tb_ne (p2 := 51) rfl rfl rfl rfl (fun c12 => ?_) (fun c12 => ?_)
          · refine te_iconst (p2 := 73) (x := 0) rfl rfl (by decide) ?_
            refine te_ior (p2 := 74) (z := v4_5) rfl rfl (Int32.or_zero) ?_
            refine te_istore (p2 := 76) (lv2 := [(5, .int v4_5), (0, .ref 164), (1, .int x1), (2, .int x2), (3, .int x3), (4, .int y1), (6, .int v4_6)]) rfl rfl (by decide) rfl ?_
            refine ar_inc (p2 := 79) (x := v4_6) rfl rfl (by decide) rfl (by decide) rfl (by omega) (by omega) (fun z14 e14 f14 => ?_)
            show EvP _ _ _ (79, [(6, .int z14), (5, .int v4_5), (0, .ref 164), (1, .int x1), (2, .int x2), (3, .int x3), (4, .int y1)], [], h1) _
            refine te_goto rfl ?_
            refine te_lv [(0, .ref 164), (1, .int x1), (2, .int x2), (3, .int x3), (4, .int y1), (5, .int v4_5), (6, .int z14)] rfl rfl ⟨rfl, rfl, rfl, rfl, rfl, rfl, rfl, trivial⟩ ?_
            exact ih4 v4_5 z14 (by omega) (by omega) (by omega) (hrR_s w4_0 (by omega) (by omega) (Or.inr ⟨fun q => (by (have q1 := q.1); rw [(show (cM h).kn v4_6.toInt.toNat = y10 from (gd_at (by omega)).trans ((rv_c (f1 159 _ rfl).symm).trans (rv_of e10))), (show (cM h).kn y1.toInt.toNat = y11 from (gd_at (by omega)).trans ((rv_c (f1 159 _ rfl).symm).trans (rv_of e11)))] at q1; omega), rfl⟩)) (by omega)
          · refine te_aload_n (p2 := 52) rfl rfl rfl ?_
            refine tg_r (p2 := 55) (i := 148) (r := 165) rfl rfl I1 rfl rfl rfl ?_
            refine te_sipush (p2 := 58) (x := 236) rfl rfl (by decide) ?_
            refine te_iload (p2 := 60) rfl rfl rfl ?_
            refine ar_add (p2 := 61) rfl rfl (show Int32.toInt 236 = 236 from rfl) rfl (by omega) (by omega) (fun z15 e15 f15 => ?_)
            refine tl_i (p2 := 62) (i := 149) (n := 283) rfl rfl I1 rfl rfl rfl rfl (by omega) (by omega) (fun y16 a16 b16 g16 e16 => ?_)
            refine tz_ne (p2 := 65) rfl rfl rfl (fun c17 => ?_) (fun c17 => ?_)
            · refine te_iconst (p2 := 73) (x := 0) rfl rfl (by decide) ?_
              refine te_ior (p2 := 74) (z := v4_5) rfl rfl (Int32.or_zero) ?_
              refine te_istore (p2 := 76) (lv2 := [(5, .int v4_5), (0, .ref 164), (1, .int x1), (2, .int x2), (3, .int x3), (4, .int y1), (6, .int v4_6)]) rfl rfl (by decide) rfl ?_
              refine ar_inc (p2 := 79) (x := v4_6) rfl rfl (by decide) rfl (by decide) rfl (by omega) (by omega) (fun z19 e19 f19 => ?_)
              show EvP _ _ _ (79, [(6, .int z19), (5, .int v4_5), (0, .ref 164), (1, .int x1), (2, .int x2), (3, .int x3), (4, .int y1)], [], h1) _
              refine te_goto rfl ?_
              refine te_lv [(0, .ref 164), (1, .int x1), (2, .int x2), (3, .int x3), (4, .int y1), (5, .int v4_5), (6, .int z19)] rfl rfl ⟨rfl, rfl, rfl, rfl, rfl, rfl, rfl, trivial⟩ ?_
              exact ih4 v4_5 z19 (by omega) (by omega) (by omega) (hrR_s w4_0 (by omega) (by omega) (Or.inr ⟨fun q => (by (have q1 := q.2); rw [(show (absM h).de v4_6.toInt.toNat = y16 from (aM_de (by omega)).trans ((rv_c (f1 149 _ rfl).symm).trans (by rw [show 236 + v4_6.toInt.toNat = z15.toInt.toNat by omega]; exact rv_of e16)))] at q1; omega), rfl⟩)) (by omega)
            · refine te_iconst (p2 := 66) (x := 1) rfl rfl (by decide) ?_
              refine te_iload (p2 := 68) rfl rfl rfl ?_
              refine au_shl (p2 := 69) rfl rfl (fun z20 e20 => ?_)
              refine te_goto rfl ?_
              refine au_or (p2 := 74) rfl rfl (fun z21 e21 => ?_)
              refine te_istore (p2 := 76) (lv2 := [(5, .int z21), (0, .ref 164), (1, .int x1), (2, .int x2), (3, .int x3), (4, .int y1), (6, .int v4_6)]) rfl rfl (by decide) rfl ?_
              refine ar_inc (p2 := 79) (x := v4_6) rfl rfl (by decide) rfl (by decide) rfl (by omega) (by omega) (fun z22 e22 f22 => ?_)
              show EvP _ _ _ (79, [(6, .int z22), (5, .int z21), (0, .ref 164), (1, .int x1), (2, .int x2), (3, .int x3), (4, .int y1)], [], h1) _
              refine te_goto rfl ?_
              refine te_lv [(0, .ref 164), (1, .int x1), (2, .int x2), (3, .int x3), (4, .int y1), (5, .int z21), (6, .int z22)] rfl rfl ⟨rfl, rfl, rfl, rfl, rfl, rfl, rfl, trivial⟩ ?_
              exact ih4 z21 z22 (by omega) (by omega) (by omega) (hrR_s w4_0 (by omega) (by omega) (Or.inl ⟨⟨by rw [(show (cM h).kn v4_6.toInt.toNat = y10 from (gd_at (by omega)).trans ((rv_c (f1 159 _ rfl).symm).trans (rv_of e10))), (show (cM h).kn y1.toInt.toNat = y11 from (gd_at (by omega)).trans ((rv_c (f1 159 _ rfl).symm).trans (rv_of e11)))]; omega, by rw [(show (absM h).de v4_6.toInt.toNat = y16 from (aM_de (by omega)).trans ((rv_c (f1 149 _ rfl).symm).trans (by rw [show 236 + v4_6.toInt.toNat = z15.toInt.toNat by omega]; exact rv_of e16)))]; omega⟩, (by rw [e20]; exact e21)⟩)) (by omega)
    refine te_lv [(0, .ref 164), (1, .int x1), (2, .int x2), (3, .int x3), (4, .int y1), (5, .int 0), (6, .int 0)] rfl rfl ⟨rfl, rfl, rfl, rfl, rfl, rfl, rfl, trivial⟩ ?_
    exact lp4 25 0 0 (by decide) (by decide) (by have cc0 := (show Int32.toInt 0 = 0 from rfl); omega) (hrR_0 rfl) (by have cc0 := (show Int32.toInt 0 = 0 from rfl); omega)
  · refine te_iload (p2 := 16) rfl rfl rfl ?_
    exact te_iret rfl rfl ⟨I1, f1, _, rfl, od1, oc1, ed1, ec1, (by show y1 = heM (owT (vr h 178) (vr h 179) (vr h 180) (vr h 181) (vr h 182) x1 x2 x3 od1 oc1) (cM h) (absM h); rw [← fo1]; unfold heM; rw [if_pos (by omega)])⟩
theorem paper_join {h h1 h2 : im_H} {x1 x2 x3 y1 y2 : Int32} (P : rd h 1 2 = rd h 148 10) (A : R_N h) (D : rd h 23 0 = rd h 149 105) (W : R_V h) (g1 : fr F_X11_paper h h1) (g2 : fr F_X12_paper h1 h2) (r1 : Q1_paper x1 x2 x3 y1 h h1) (r2 : Q2_paper x1 x2 x3 y2 h1 h2) : y1 = y2 ∧ R_N h2 ∧ R_V h2 := by
  obtain ⟨pc, p, d, e1, e2, e3, f1, n1, s1, k1⟩ := r1
  obtain ⟨pc2, p2, d2, b1, b2, b3, f2, n2, s2, k2⟩ := r2
  have j1 : pc = pc2 := int_inj e1 (P.trans ((g1 148 10 rfl).symm.trans b1))
  have j2 : p = p2 := int_inj e2 (A.trans ((g1 148 35 rfl).symm.trans b2))
  have j3 : d = d2 := int_inj e3 (D.trans ((g1 149 105 rfl).symm.trans b3))
  subst j1
  subst j2
  subst j3
  have ye : y1 = y2 := f1.trans f2.symm
  refine ⟨ye, ((g2 91 0 rfl).trans n1).trans n2.symm, ?_, ?_, ?_, ?_, ?_⟩
  · intro k hk
    by_cases hn : k ≠ p.toInt.toNat ∨ ¬ 0 ≤ y1.toInt
    · exact ((g2 92 k rfl).trans ((k1 k hn).1)).trans ((W.1 k hk).trans (((k2 k (by rw [← ye]; exact hn)).1).trans (g1 178 k rfl)).symm)
    · have hy : 0 ≤ y1.toInt := Classical.byContradiction (fun h9 => hn (Or.inr h9))
      have e : k = p.toInt.toNat := Classical.byContradiction (fun h9 => hn (Or.inl h9))
      rw [e]
      exact ((g2 92 _ rfl).trans ((s1 hy).1)).trans ((s2 (ye ▸ hy)).1).symm
  · intro k hk
    by_cases hn : k ≠ p.toInt.toNat ∨ ¬ 0 ≤ y1.toInt
    · exact ((g2 93 k rfl).trans ((k1 k hn).2.1)).trans ((W.2.1 k hk).trans (((k2 k (by rw [← ye]; exact hn)).2.1).trans (g1 179 k rfl)).symm)
    · have hy : 0 ≤ y1.toInt := Classical.byContradiction (fun h9 => hn (Or.inr h9))
      have e : k = p.toInt.toNat := Classical.byContradiction (fun h9 => hn (Or.inl h9))
      rw [e]
      exact ((g2 93 _ rfl).trans ((s1 hy).2.1)).trans ((s2 (ye ▸ hy)).2.1).symm
  · intro k hk
    by_cases hn : k ≠ p.toInt.toNat ∨ ¬ 0 ≤ y1.toInt
    · exact ((g2 94 k rfl).trans ((k1 k hn).2.2.1)).trans ((W.2.2.1 k hk).trans (((k2 k (by rw [← ye]; exact hn)).2.2.1).trans (g1 180 k rfl)).symm)
    · have hy : 0 ≤ y1.toInt := Classical.byContradiction (fun h9 => hn (Or.inr h9))
      have e : k = p.toInt.toNat := Classical.byContradiction (fun h9 => hn (Or.inl h9))
      rw [e]
      exact ((g2 94 _ rfl).trans ((s1 hy).2.2.1)).trans ((s2 (ye ▸ hy)).2.2.1).symm
  · intro k hk
    by_cases hn : k ≠ p.toInt.toNat ∨ ¬ 0 ≤ y1.toInt
    · exact ((g2 95 k rfl).trans ((k1 k hn).2.2.2)).trans ((W.2.2.2.1 k hk).trans (((k2 k (by rw [← ye]; exact hn)).2.2.2).trans (g1 181 k rfl)).symm)
    · have hy : 0 ≤ y1.toInt := Classical.byContradiction (fun h9 => hn (Or.inr h9))
      have e : k = p.toInt.toNat := Classical.byContradiction (fun h9 => hn (Or.inl h9))
      rw [e]
      exact ((g2 95 _ rfl).trans ((s1 hy).2.2.2)).trans ((s2 (ye ▸ hy)).2.2.2).symm
  · exact fun k hk => ((g2 96 k rfl).trans (g1 96 k rfl)).trans ((W.2.2.2.2 k hk).trans ((g2 182 k rfl).trans (g1 182 k rfl)).symm)
theorem burn_join {h h1 h2 : im_H} {x1 y1 y2 : Int32} (A : R_N h) (D : rd h 23 0 = rd h 149 105) (W : R_V h) (hp24 : ∀ p : Int32, rd h 91 0 = some (.int p) → p.toInt ≤ 24) (g1 : fr F_X11_burn h h1) (g2 : fr F_X12_burn h1 h2) (r1 : Q1_burn x1 y1 h h1) (r2 : Q2_burn x1 y2 h1 h2) : y1 = y2 ∧ R_V h2 := by
  obtain ⟨p, d, e2, e3, f1, s1, k1⟩ := r1
  obtain ⟨p2, d2, b2, b3, f2, s2, k2⟩ := r2
  have j2 : p = p2 := int_inj e2 (A.trans ((g1 148 35 rfl).symm.trans b2))
  have j3 : d = d2 := int_inj e3 (D.trans ((g1 149 105 rfl).symm.trans b3))
  subst j2
  subst j3
  have ye : y1 = y2 := by
    rcases f1 with ⟨a1, a2, b, eb, rfl⟩ | ⟨a1, rfl⟩
    · rcases f2 with ⟨_, _, c, ec, rfl⟩ | ⟨a3, _⟩
      · by_cases hl : x1.toInt.toNat < 24
        · rw [int_inj eb ((W.2.2.2.2 _ hl).trans ((g1 182 _ rfl).symm.trans ec))]
        · exact absurd (show x1.toInt.toNat < 24 by have := hp24 p e2; omega) hl
      · exact absurd ⟨a1, a2⟩ a3
    · rcases f2 with ⟨a2, a3, _⟩ | ⟨_, rfl⟩
      · exact absurd ⟨a2, a3⟩ a1
      · rfl
  refine ⟨ye, (fun k hk => ((g2 92 k rfl).trans (g1 92 k rfl)).trans ((W.1 k hk).trans ((g2 178 k rfl).trans (g1 178 k rfl)).symm)), (fun k hk => ((g2 93 k rfl).trans (g1 93 k rfl)).trans ((W.2.1 k hk).trans ((g2 179 k rfl).trans (g1 179 k rfl)).symm)), (fun k hk => ((g2 94 k rfl).trans (g1 94 k rfl)).trans ((W.2.2.1 k hk).trans ((g2 180 k rfl).trans (g1 180 k rfl)).symm)), (fun k hk => ((g2 95 k rfl).trans (g1 95 k rfl)).trans ((W.2.2.2.1 k hk).trans ((g2 181 k rfl).trans (g1 181 k rfl)).symm)), ?_⟩
  intro k hk
  by_cases hn : k ≠ x1.toInt.toNat ∨ y1.toInt ≠ 1
  · exact ((g2 96 k rfl).trans (k1 k hn)).trans ((W.2.2.2.2 k hk).trans ((k2 k (by rw [← ye]; exact hn)).trans (g1 182 k rfl)).symm)
  · have hy : y1.toInt = 1 := Classical.byContradiction (fun h9 => hn (Or.inr h9))
    have e : k = x1.toInt.toNat := Classical.byContradiction (fun h9 => hn (Or.inl h9))
    rw [e]
    exact ((g2 96 _ rfl).trans (s1 hy)).trans (s2 (ye ▸ hy)).symm
theorem vr_eq {h h1 : im_H} {a b : Nat} (W : ∀ k : Nat, k < 24 → rd h a k = rd h b k) (g : ∀ k, rd h1 b k = rd h b k) : vr h a = vr h1 b := by
  funext k
  unfold vr
  by_cases hk : k < 24
  · rw [if_pos hk, if_pos hk, W k hk, g]
  · rw [if_neg hk, if_neg hk]
theorem paper_G {h h1 h2 : im_H} {x1 x2 x3 y1 y2 : Int32} (G : R_G h) (g1 : fr F_X11_paper h h1) (g2 : fr F_X12_paper h1 h2) (r2 : Q2_paper x1 x2 x3 y2 h1 h2) : R_G h2 := by
  obtain ⟨pc, p, d, e1, e2, e3, f, n, s, kk⟩ := r2
  have G1 : R_G h1 := R_G_fr G g1 (by decide)
  intro k hk
  rw [rv_of n] at hk
  have np : rv h2 148 10 = pc := (rv_c (g2 148 10 rfl)).trans (rv_of e1)
  rw [np]
  have old : (k : Int) < p.toInt → (rv h1 179 k).toInt < pc.toInt := fun q => by
    have h9 := G1 k (by rw [rv_of e2]; exact q)
    rw [rv_of e1] at h9
    exact h9
  unfold fA at f
  unfold gA at hk
  by_cases c1 : 0 ≤ x1.toInt ∧ x1.toInt ≤ 11 ∧ 0 ≤ x2.toInt ∧ x2.toInt < pc.toInt
  · rw [if_pos c1] at f hk
    by_cases c2 : 0 ≤ x3.toInt ∧ x3.toInt ≤ 2000
    · rw [if_pos c2] at f hk
      by_cases c3 : 24 ≤ p.toInt
      · rw [if_pos c3] at f hk
        rw [rv_c (kk k (Or.inr (by rw [f]; decide))).2.1]
        exact old hk
      · rw [if_neg c3] at f hk
        by_cases c4 : k = p.toInt.toNat ∧ 0 ≤ y2.toInt
        · rw [c4.1, rv_of (s c4.2).2.1]
          exact c1.2.2.2
        · have lo := i32_lo p
          have e : (p + 1).toInt = p.toInt + 1 := i32_addE (show Int32.toInt 1 = 1 from rfl) (by omega) (by omega)
          have cc : k ≠ p.toInt.toNat ∨ ¬ 0 ≤ y2.toInt := by
            by_cases q : k = p.toInt.toNat
            · exact Or.inr (fun q2 => c4 ⟨q, q2⟩)
            · exact Or.inl q
          rw [rv_c (kk k cc).2.1]
          refine old ?_
          rw [f] at cc
          omega
    · rw [if_neg c2] at f hk
      rw [rv_c (kk k (Or.inr (by rw [f]; decide))).2.1]
      exact old hk
  · rw [if_neg c1] at f hk
    rw [rv_c (kk k (Or.inr (by rw [f]; decide))).2.1]
    exact old hk
theorem np_G {h h2 : im_H} (G : R_G h) (a : rd h2 148 35 = rd h 148 35) (b : ∀ k, rd h2 179 k = rd h 179 k) (c : (rv h 148 10).toInt ≤ (rv h2 148 10).toInt) : R_G h2 := by
  intro k hk
  rw [rv_c a] at hk
  rw [rv_c (b k)]
  exact Int.lt_of_lt_of_le (G k hk) c
theorem N24 {h : im_H} (hI : tI h) : ∀ p : Int32, rd h 91 0 = some (.int p) → p.toInt ≤ 24 := by
  intro p e
  obtain ⟨_, e2, y, w, _, b, _⟩ := hI.2.1 91 0 (.inl (0, 24, 9999999999)) rfl
  subst w
  rw [int_inj e e2]
  exact b
