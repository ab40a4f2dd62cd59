def fT (x1 x2 x3 x4 p : Int32) : Int32 := if 0 ≤ x1.toInt ∧ x1.toInt ≤ 99 then (if 0 ≤ x2.toInt ∧ x2.toInt ≤ 3 ∧ 1 ≤ x3.toInt ∧ x3.toInt ≤ 10 ∧ 1 ≤ x4.toInt ∧ x4.toInt ≤ 9 then (if 8 ≤ p.toInt then -4 else p) else -2) else -1
def gT (x1 x2 x3 x4 p : Int32) : Int32 := if 0 ≤ x1.toInt ∧ x1.toInt ≤ 99 then (if 0 ≤ x2.toInt ∧ x2.toInt ≤ 3 ∧ 1 ≤ x3.toInt ∧ x3.toInt ≤ 10 ∧ 1 ≤ x4.toInt ∧ x4.toInt ≤ 9 then (if 8 ≤ p.toInt then p else p + 1) else p) else p
set_option maxRecDepth 20000 in
set_option maxHeartbeats 4000000 in
theorem c_X4_begin {frm : Int32} {side : Int32} {most : Int32} {shells : Int32} {h : im_H} (hI : tI h) (p_frm0 : 0 ≤ frm.toInt) (p_frm1 : frm.toInt ≤ 99) (p_side0 : 0 ≤ side.toInt) (p_side1 : side.toInt ≤ 3) (p_most0 : 1 ≤ most.toInt) (p_most1 : most.toInt ≤ 10) (p_shells0 : 1 ≤ shells.toInt) (p_shells1 : shells.toInt ≤ 9) (hp0 : ∃ p : Int32, rd h 77 0 = some (.int p) ∧ 0 ≤ p.toInt ∧ p.toInt ≤ 7) : CaP 2 29 [.ref 93, .int frm, .int side, .int most, .int shells] h (fun v h2 => tI h2 ∧ fr F_X4_begin h h2 ∧ ∃ y : Int32, v = some (.int y) ∧ rd h 77 0 = some (.int y) ∧ rd h2 77 0 = some (.int (y + 1))) := by
  refine cap_of (d := 1) (M := mX4_begin) rfl (Nat.le_of_ble_eq_true rfl) ?_
  show EvP im_K0 1 mX4_begin (0, [(0, .ref 93), (1, .int frm), (2, .int side), (3, .int most), (4, .int shells)], [], h) _
  obtain ⟨pp0, ep0, ap0, bp0⟩ := hp0
  have f0 : fr F_X4_begin h h := fr_rf
  refine te_aload_n (p2 := 1) rfl rfl rfl ?_
  refine tg_e (p2 := 4) (i := 77) (v := .int pp0) rfl rfl hI rfl rfl ep0 ?_
  refine te_istore (p2 := 6) (lv2 := [(5, .int pp0), (0, .ref 93), (1, .int frm), (2, .int side), (3, .int most), (4, .int shells)]) rfl rfl (by decide) rfl ?_
  refine te_iload_n (p2 := 7) rfl rfl rfl ?_
  refine te_istore (p2 := 9) (lv2 := [(6, .int frm), (5, .int pp0), (0, .ref 93), (1, .int frm), (2, .int side), (3, .int most), (4, .int shells)]) rfl rfl (by decide) rfl ?_
  refine te_aload_n (p2 := 10) rfl rfl rfl ?_
  refine tg_r (p2 := 13) (i := 77) (r := 103) rfl rfl hI rfl rfl rfl ?_
  refine te_iload (p2 := 15) rfl rfl rfl ?_
  refine te_iconst (p2 := 16) (x := 0) rfl rfl (by decide) ?_
  refine ts_i (p2 := 17) (i := 87) (n := 8) rfl rfl hI rfl rfl rfl rfl (by omega) (by omega) (by decide) (by decide) (by decide) rfl (fun h1 I1 u1 => ?_)
  have f1 := fr_st (F := F_X4_begin) 9 f0 u1 rfl (by omega) (by omega)
  refine te_aload_n (p2 := 18) rfl rfl rfl ?_
  refine tg_r (p2 := 21) (i := 77) (r := 105) rfl rfl I1 rfl rfl rfl ?_
  refine te_iload (p2 := 23) rfl rfl rfl ?_
  refine te_iconst (p2 := 24) (x := 0) rfl rfl (by decide) ?_
  refine ts_i (p2 := 25) (i := 89) (n := 8) rfl rfl I1 rfl rfl rfl rfl (by omega) (by omega) (i32_lo _) (i32_hi _) (i32_ho _) rfl (fun h2 I2 u2 => ?_)
  have f2 := fr_st (F := F_X4_begin) 11 f1 u2 rfl (by omega) (by omega)
  refine te_iconst (p2 := 26) (x := 0) rfl rfl (by decide) ?_
  refine te_istore (p2 := 28) (lv2 := [(7, .int 0), (6, .int frm), (5, .int pp0), (0, .ref 93), (1, .int frm), (2, .int side), (3, .int most), (4, .int shells)]) rfl rfl (by decide) rfl ?_
  have lp3 : ∀ (n3 : Nat) (v3_6 v3_7 t3_t t3_c : Int32) (h3 : im_H), tI h3 → fr F_X4_begin h h3 → (-1) ≤ v3_6.toInt → v3_6.toInt ≤ 99 → 0 ≤ v3_7.toInt → v3_7.toInt ≤ 10 → rd h3 87 pp0.toInt.toNat = some (.int t3_t) → rd h3 77 0 = some (.int t3_c) → 0 ≤ t3_t.toInt → t3_t.toInt ≤ 10 → 0 ≤ t3_c.toInt → t3_c.toInt ≤ 8 → t3_t.toInt = v3_7.toInt → v3_7.toInt ≤ most.toInt → t3_c.toInt ≤ 7 → t3_c.toInt = pp0.toInt → 10 - v3_7.toInt < (n3 : Int) → EvP im_K0 1 mX4_begin (28, [(0, .ref 93), (1, .int frm), (2, .int side), (3, .int most), (4, .int shells), (5, .int pp0), (6, .int v3_6), (7, .int v3_7)], [], h3) (fun v h2 => tI h2 ∧ fr F_X4_begin h h2 ∧ ∃ y : Int32, v = some (.int y) ∧ rd h 77 0 = some (.int y) ∧ rd h2 77 0 = some (.int (y + 1))) := by
    intro n3
    induction n3 with
    | zero => intro v3_6 v3_7 t3_t t3_c h3 I3 f3 a3_6 b3_6 a3_7 b3_7 v3_t v3_c va3_t vb3_t va3_c vb3_c l3_0 l3_1 l3_2 l3_3 m3; exfalso; omega
    | succ n3 ih3 =>
      intro v3_6 v3_7 t3_t t3_c h3 I3 f3 a3_6 b3_6 a3_7 b3_7 v3_t v3_c va3_t vb3_t va3_c vb3_c l3_0 l3_1 l3_2 l3_3 m3
      refine te_iload (p2 := 30) rfl rfl rfl ?_
      refine te_iload_n (p2 := 31) rfl rfl rfl ?_
      refine tb_ge (p2 := 34) rfl rfl rfl rfl (fun c4 => ?_) (fun c4 => ?_)
      · refine te_aload_n (p2 := 103) rfl rfl rfl ?_
        refine tg_r (p2 := 106) (i := 77) (r := 104) rfl rfl I3 rfl rfl rfl ?_
        refine te_iload (p2 := 108) rfl rfl rfl ?_
        refine te_iload (p2 := 110) rfl rfl rfl ?_
        refine ts_i (p2 := 111) (i := 88) (n := 8) rfl rfl I3 rfl rfl rfl rfl (by omega) (by omega) (by omega) (by omega) (by omega) rfl (fun h5 I5 u5 => ?_)
        have f5 := fr_st (F := F_X4_begin) 10 f3 u5 rfl (by omega) (by omega)
        refine te_aload_n (p2 := 112) rfl rfl rfl ?_
        refine te_dup (p2 := 113) rfl rfl rfl ?_
        refine tg_e (p2 := 116) (i := 77) (v := .int t3_c) rfl rfl I5 rfl rfl ((u5.2 _ _ (Or.inl (by decide))).trans v3_c) ?_
        refine te_iconst (p2 := 117) (x := 1) rfl rfl (by decide) ?_
        refine ar_add (p2 := 118) rfl rfl rfl (show Int32.toInt 1 = 1 from rfl) (by omega) (by omega) (fun z6 e6 f6 => ?_)
        refine tp_i (p2 := 121) (i := 77) rfl rfl I5 rfl rfl (by decide) rfl rfl rfl (by omega) (by omega) (by omega) rfl (fun h7 I7 u7 => ?_)
        have f7 := fr_st (F := F_X4_begin) 0 f5 u7 rfl (by decide) (by decide)
        refine te_iload (p2 := 123) rfl rfl rfl ?_
        exact te_iret rfl rfl ⟨I7, f7, _, rfl, ep0.trans (congrArg (fun t => some (Value.int t)) (show pp0 = pp0 from rfl)), u7.1.trans (congrArg (fun t => some (Value.int t)) (i32_ext (by have e1 : Int32.toInt (pp0 + 1) = Int32.toInt pp0 + 1 := i32_addE (show Int32.toInt 1 = 1 from rfl) (by omega) (by omega); omega)))⟩
      · refine te_iload (p2 := 36) rfl rfl rfl ?_
        refine te_iconst (p2 := 37) (x := (-1)) rfl rfl (by decide) ?_
        refine tb_eq (p2 := 40) rfl rfl rfl (show Int32.toInt (-1) = (-1) from rfl) (fun c8 => ?_) (fun c8 => ?_)
        · refine te_aload_n (p2 := 103) rfl rfl rfl ?_
          refine tg_r (p2 := 106) (i := 77) (r := 104) rfl rfl I3 rfl rfl rfl ?_
          refine te_iload (p2 := 108) rfl rfl rfl ?_
          refine te_iload (p2 := 110) rfl rfl rfl ?_
          refine ts_i (p2 := 111) (i := 88) (n := 8) rfl rfl I3 rfl rfl rfl rfl (by omega) (by omega) (by omega) (by omega) (by omega) rfl (fun h9 I9 u9 => ?_)
          have f9 := fr_st (F := F_X4_begin) 10 f3 u9 rfl (by omega) (by omega)
          refine te_aload_n (p2 := 112) rfl rfl rfl ?_
          refine te_dup (p2 := 113) rfl rfl rfl ?_
          refine tg_e (p2 := 116) (i := 77) (v := .int t3_c) rfl rfl I9 rfl rfl ((u9.2 _ _ (Or.inl (by decide))).trans v3_c) ?_
          refine te_iconst (p2 := 117) (x := 1) rfl rfl (by decide) ?_
          refine ar_add (p2 := 118) rfl rfl rfl (show Int32.toInt 1 = 1 from rfl) (by omega) (by omega) (fun z10 e10 f10 => ?_)
          refine tp_i (p2 := 121) (i := 77) rfl rfl I9 rfl rfl (by decide) rfl rfl rfl (by omega) (by omega) (by omega) rfl (fun h11 I11 u11 => ?_)
          have f11 := fr_st (F := F_X4_begin) 0 f9 u11 rfl (by decide) (by decide)
          refine te_iload (p2 := 123) rfl rfl rfl ?_
          exact te_iret rfl rfl ⟨I11, f11, _, rfl, ep0.trans (congrArg (fun t => some (Value.int t)) (show pp0 = pp0 from rfl)), u11.1.trans (congrArg (fun t => some (Value.int t)) (i32_ext (by have e1 : Int32.toInt (pp0 + 1) = Int32.toInt pp0 + 1 := i32_addE (show Int32.toInt 1 = 1 from rfl) (by omega) (by omega); omega)))⟩
        · refine te_aload_n (p2 := 41) rfl rfl rfl ?_
          refine tg_r (p2 := 44) (i := 77) (r := 94) rfl rfl I3 rfl rfl rfl ?_
          refine te_iload (p2 := 46) rfl rfl rfl ?_
          refine tl_f (p2 := 47) (i := 78) (n := 8) (c0 := 79) (sp := 1) rfl rfl I3 rfl rfl (by decide) rq_78 (by omega) (by omega) (fun o12 w12 => ?_)
          have q12 : o12 = 79 ∨ o12 = 80 ∨ o12 = 81 ∨ o12 = 82 ∨ o12 = 83 ∨ o12 = 84 ∨ o12 = 85 ∨ o12 = 86 := by omega
          refine te_iload (p2 := 49) rfl rfl rfl ?_
          refine te_iload (p2 := 51) rfl rfl rfl ?_
          refine ts_i (p2 := 52) (i := o12) (n := 10) rfl rfl I3 rfl (by rcases q12 with rfl | rfl | rfl | rfl | rfl | rfl | rfl | rfl <;> rfl) (by rcases q12 with rfl | rfl | rfl | rfl | rfl | rfl | rfl | rfl <;> rfl) rfl (by omega) (by omega) (by omega) (by omega) (by omega) (by rcases q12 with rfl | rfl | rfl | rfl | rfl | rfl | rfl | rfl <;> rfl) (fun h13 I13 u13 => ?_)
          have f13 := fr_up (F := F_X4_begin) (a := 0) (b := 9) f3 u13 (by rcases q12 with rfl | rfl | rfl | rfl | rfl | rfl | rfl | rfl <;> decide) (by omega) (by omega)
          refine te_aload_n (p2 := 53) rfl rfl rfl ?_
          refine tg_r (p2 := 56) (i := 77) (r := 103) rfl rfl I13 rfl rfl rfl ?_
          refine te_iload (p2 := 58) rfl rfl rfl ?_
          refine te_dup2 (p2 := 59) rfl rfl ⟨rfl, rfl⟩ ?_
          refine tl_e (p2 := 60) (i := 87) (n := 8) (t := 0) (Or.inl rfl) rfl rfl I13 rfl rfl (by omega) (by omega) ((u13.2 _ _ (Or.inl (by omega))).trans v3_t) ?_
          refine te_iconst (p2 := 61) (x := 1) rfl rfl (by decide) ?_
          refine ar_add (p2 := 62) rfl rfl rfl (show Int32.toInt 1 = 1 from rfl) (by omega) (by omega) (fun z15 e15 f15 => ?_)
          refine ts_i (p2 := 63) (i := 87) (n := 8) rfl rfl I13 rfl rfl rfl rfl (by omega) (by omega) (by omega) (by omega) (by omega) rfl (fun h16 I16 u16 => ?_)
          have f16 := fr_st (F := F_X4_begin) 9 f13 u16 rfl (by omega) (by omega)
          refine te_aload_n (p2 := 64) rfl rfl rfl ?_
          refine tg_r (p2 := 67) (i := 77) (r := 105) rfl rfl I16 rfl rfl rfl ?_
          refine te_iload (p2 := 69) rfl rfl rfl ?_
          refine te_dup2 (p2 := 70) rfl rfl ⟨rfl, rfl⟩ ?_
          refine tl_i (p2 := 71) (i := 89) (n := 8) rfl rfl I16 rfl rfl rfl rfl (by omega) (by omega) (fun y17 a17 b17 g17 e17 => ?_)
          refine te_aload_n (p2 := 72) rfl rfl rfl ?_
          refine tg_r (p2 := 75) (i := 77) (r := 106) rfl rfl I16 rfl rfl rfl ?_
          refine te_iload (p2 := 77) rfl rfl rfl ?_
          refine tl_b (p2 := 78) (i := 90) (n := 100) rfl rfl I16 rfl rfl rfl rfl (by omega) (by omega) (fun y18 a18 e18 => ?_)
          refine tz_eq (p2 := 81) rfl rfl rfl (fun c19 => ?_) (fun c19 => ?_)
          · refine te_iconst (p2 := 86) (x := 1) rfl rfl (by decide) ?_
            refine au_add (p2 := 87) rfl rfl (fun z20 e20 => ?_)
            refine ts_i (p2 := 88) (i := 89) (n := 8) rfl rfl I16 rfl rfl rfl rfl (by omega) (by omega) (i32_lo _) (i32_hi _) (i32_ho _) rfl (fun h21 I21 u21 => ?_)
            have f21 := fr_st (F := F_X4_begin) 11 f16 u21 rfl (by omega) (by omega)
            refine te_iload (p2 := 90) rfl rfl rfl ?_
            refine te_iload_n (p2 := 91) rfl rfl rfl ?_
            refine cS_pI (p2 := 94) rfl rfl rfl rfl (t_X11_cellOnSide (c := v3_6) (side := side) I21 (by omega) (by omega)) (by decide) (fun y22 r22 => ?_)
            obtain ⟨a22, b22, e22⟩ := r22
            refine te_istore (p2 := 96) (lv2 := [(6, .int y22), (0, .ref 93), (1, .int frm), (2, .int side), (3, .int most), (4, .int shells), (5, .int pp0), (7, .int v3_7)]) rfl rfl (by decide) rfl ?_
            refine ar_inc (p2 := 99) (x := v3_7) rfl rfl (by decide) rfl (by decide) rfl (by omega) (by omega) (fun z23 e23 f23 => ?_)
            show EvP _ _ _ (99, [(7, .int z23), (6, .int y22), (0, .ref 93), (1, .int frm), (2, .int side), (3, .int most), (4, .int shells), (5, .int pp0)], [], h21) _
            refine te_goto rfl ?_
            refine te_lv [(0, .ref 93), (1, .int frm), (2, .int side), (3, .int most), (4, .int shells), (5, .int pp0), (6, .int y22), (7, .int z23)] rfl rfl ⟨rfl, rfl, rfl, rfl, rfl, rfl, rfl, rfl, trivial⟩ ?_
            exact ih3 y22 z23 z15 t3_c h21 I21 f21 (by omega) (by omega) (by omega) (by omega) ((u21.2 _ _ (Or.inl (by decide))).trans u16.1) ((u21.2 _ _ (Or.inl (by decide))).trans ((u16.2 _ _ (Or.inl (by decide))).trans ((u13.2 _ _ (Or.inl (by omega))).trans v3_c))) (by omega) (by omega) (by omega) (by omega) (by omega) (by omega) (by omega) (by omega) (by omega)
          · refine te_iconst (p2 := 82) (x := 0) rfl rfl (by decide) ?_
            refine te_goto rfl ?_
            have n24_y17 := i32_lo y17
            have o24_y17 := i32_hi y17
            refine ar_add (p2 := 87) rfl rfl rfl (show Int32.toInt 0 = 0 from rfl) (by omega) (by omega) (fun z24 e24 f24 => ?_)
            refine ts_i (p2 := 88) (i := 89) (n := 8) rfl rfl I16 rfl rfl rfl rfl (by omega) (by omega) (i32_lo _) (i32_hi _) (i32_ho _) rfl (fun h25 I25 u25 => ?_)
            have f25 := fr_st (F := F_X4_begin) 11 f16 u25 rfl (by omega) (by omega)
            refine te_iload (p2 := 90) rfl rfl rfl ?_
            refine te_iload_n (p2 := 91) rfl rfl rfl ?_
            refine cS_pI (p2 := 94) rfl rfl rfl rfl (t_X11_cellOnSide (c := v3_6) (side := side) I25 (by omega) (by omega)) (by decide) (fun y26 r26 => ?_)
            obtain ⟨a26, b26, e26⟩ := r26
            refine te_istore (p2 := 96) (lv2 := [(6, .int y26), (0, .ref 93), (1, .int frm), (2, .int side), (3, .int most), (4, .int shells), (5, .int pp0), (7, .int v3_7)]) rfl rfl (by decide) rfl ?_
            refine ar_inc (p2 := 99) (x := v3_7) rfl rfl (by decide) rfl (by decide) rfl (by omega) (by omega) (fun z27 e27 f27 => ?_)
            show EvP _ _ _ (99, [(7, .int z27), (6, .int y26), (0, .ref 93), (1, .int frm), (2, .int side), (3, .int most), (4, .int shells), (5, .int pp0)], [], h25) _
            refine te_goto rfl ?_
            refine te_lv [(0, .ref 93), (1, .int frm), (2, .int side), (3, .int most), (4, .int shells), (5, .int pp0), (6, .int y26), (7, .int z27)] rfl rfl ⟨rfl, rfl, rfl, rfl, rfl, rfl, rfl, rfl, trivial⟩ ?_
            exact ih3 y26 z27 z15 t3_c h25 I25 f25 (by omega) (by omega) (by omega) (by omega) ((u25.2 _ _ (Or.inl (by decide))).trans u16.1) ((u25.2 _ _ (Or.inl (by decide))).trans ((u16.2 _ _ (Or.inl (by decide))).trans ((u13.2 _ _ (Or.inl (by omega))).trans v3_c))) (by omega) (by omega) (by omega) (by omega) (by omega) (by omega) (by omega) (by omega) (by omega)
  refine te_lv [(0, .ref 93), (1, .int frm), (2, .int side), (3, .int most), (4, .int shells), (5, .int pp0), (6, .int frm), (7, .int 0)] rfl rfl ⟨rfl, rfl, rfl, rfl, rfl, rfl, rfl, rfl, trivial⟩ ?_
  exact lp3 11 frm 0 0 pp0 h2 I2 f2 (by omega) (by omega) (by decide) (by decide) ((u2.2 _ _ (Or.inl (by decide))).trans u1.1) ((u2.2 _ _ (Or.inl (by decide))).trans ((u1.2 _ _ (Or.inl (by decide))).trans ep0)) (by decide) (by decide) (by omega) (by omega) (by have cc0 := (show Int32.toInt 0 = 0 from rfl); omega) (by have cc0 := (show Int32.toInt 0 = 0 from rfl); omega) (by have cc0 := (show Int32.toInt 0 = 0 from rfl); omega) (by have cc0 := (show Int32.toInt 0 = 0 from rfl); omega) (by have cc0 := (show Int32.toInt 0 = 0 from rfl); omega)
set_option maxRecDepth 20000 in
set_option maxHeartbeats 4000000 in
theorem c_X11_raid {x1 : Int32} {x2 : Int32} {x3 : Int32} {x4 : Int32} {h : im_H} (hI : tI h)  : CaP 3 92 [.ref 16, .int x1, .int x2, .int x3, .int x4] h (fun v h2 => tI h2 ∧ fr F_X11_raid h h2 ∧ ∃ y : Int32, v = some (.int y) ∧ ∃ p : Int32, rd h 77 0 = some (.int p) ∧ y = fT x1 x2 x3 x4 p ∧ rd h2 77 0 = some (.int (gT x1 x2 x3 x4 p))) := by
  refine cap_of (d := 2) (M := mX11_raid) rfl (Nat.le_of_ble_eq_true rfl) ?_
  show EvP im_K0 2 mX11_raid (0, [(0, .ref 16), (1, .int x1), (2, .int x2), (3, .int x3), (4, .int x4)], [], h) _
  have f0 : fr F_X11_raid h h := fr_rf
  refine te_iload_n (p2 := 1) rfl rfl rfl ?_
  refine te_bipush (p2 := 3) (x := 100) rfl rfl (by decide) ?_
  refine cS_pI (p2 := 6) rfl rfl rfl rfl (t_X11_within (n := x1) (b := 100) hI ) (by decide) (fun y1 r1 => ?_)
  rcases r1 with ⟨w1, c1⟩ | ⟨w1, c1⟩
  · subst w1
    have cc1_1 := (show Int32.toInt 100 = 100 from rfl)
    refine tz_ne (p2 := 9) rfl rfl (show Int32.toInt 1 = 1 from rfl) (fun c2 => ?_) (fun c2 => absurd c2 (by omega))
    refine te_iload_n (p2 := 12) rfl rfl rfl ?_
    refine te_iconst (p2 := 13) (x := 4) rfl rfl (by decide) ?_
    refine cS_pI (p2 := 16) rfl rfl rfl rfl (t_X11_within (n := x2) (b := 4) hI ) (by decide) (fun y3 r3 => ?_)
    rcases r3 with ⟨w3, c3⟩ | ⟨w3, c3⟩
    · subst w3
      have cc3_1 := (show Int32.toInt 4 = 4 from rfl)
      refine tz_eq (p2 := 19) rfl rfl (show Int32.toInt 1 = 1 from rfl) (fun c4 => absurd c4 (by omega)) (fun c4 => ?_)
      refine te_iload_n (p2 := 20) rfl rfl rfl ?_
      refine te_iconst (p2 := 21) (x := 1) rfl rfl (by decide) ?_
      refine te_bipush (p2 := 23) (x := 10) rfl rfl (by decide) ?_
      refine cS_pI (p2 := 26) rfl rfl rfl rfl (t_X11_between (n := x3) (a := 1) (b := 10) hI ) (by decide) (fun y5 r5 => ?_)
      rcases r5 with ⟨w5, c5⟩ | ⟨w5, c5⟩
      · subst w5
        have cc5_1 := (show Int32.toInt 1 = 1 from rfl)
        have cc5_2 := (show Int32.toInt 10 = 10 from rfl)
        refine tz_eq (p2 := 29) rfl rfl (show Int32.toInt 1 = 1 from rfl) (fun c6 => absurd c6 (by omega)) (fun c6 => ?_)
        refine te_iload (p2 := 31) rfl rfl rfl ?_
        refine te_iconst (p2 := 32) (x := 1) rfl rfl (by decide) ?_
        refine te_bipush (p2 := 34) (x := 9) rfl rfl (by decide) ?_
        refine cS_pI (p2 := 37) rfl rfl rfl rfl (t_X11_between (n := x4) (a := 1) (b := 9) hI ) (by decide) (fun y7 r7 => ?_)
        rcases r7 with ⟨w7, c7⟩ | ⟨w7, c7⟩
        · subst w7
          have cc7_1 := (show Int32.toInt 1 = 1 from rfl)
          have cc7_2 := (show Int32.toInt 9 = 9 from rfl)
          refine tz_ne (p2 := 40) rfl rfl (show Int32.toInt 1 = 1 from rfl) (fun c8 => ?_) (fun c8 => absurd c8 (by omega))
          refine te_aload_n (p2 := 44) rfl rfl rfl ?_
          refine tg_r (p2 := 47) (i := 0) (r := 93) rfl rfl hI rfl rfl rfl ?_
          refine tg_i (p2 := 50) (i := 77) rfl rfl hI rfl rfl rfl (fun y9 a9 b9 e9 => ?_)
          refine te_bipush (p2 := 52) (x := 8) rfl rfl (by decide) ?_
          refine tb_lt (p2 := 55) rfl rfl rfl (show Int32.toInt 8 = 8 from rfl) (fun c10 => ?_) (fun c10 => ?_)
          · refine te_aload_n (p2 := 59) rfl rfl rfl ?_
            refine tg_r (p2 := 62) (i := 0) (r := 93) rfl rfl hI rfl rfl rfl ?_
            refine te_iload_n (p2 := 63) rfl rfl rfl ?_
            refine te_iload_n (p2 := 64) rfl rfl rfl ?_
            refine te_iload_n (p2 := 65) rfl rfl rfl ?_
            refine te_iload (p2 := 67) rfl rfl rfl ?_
            refine tc_V (p2 := 70) (i := 77) rfl rfl rfl rfl hI rfl rfl rfl (c_X4_begin (frm := x1) (side := x2) (most := x3) (shells := x4) hI (by omega) (by omega) (by omega) (by omega) (by omega) (by omega) (by omega) (by omega) ⟨y9, e9, by omega, by omega⟩) (by decide) (fun v11 h11 hq11 => ?_)
            obtain ⟨I11, g11, y11, w11, eo11, en11⟩ := hq11
            subst w11
            have wy11 : y11 = y9 := int_inj eo11 e9
            have f11 := fr_tr (F1 := F_X4_begin) (F := F_X11_raid) f0 g11 (by decide)
            rw [wy11] at en11 ⊢
            show EvP _ _ _ (70, [(0, .ref 16), (1, .int x1), (2, .int x2), (3, .int x3), (4, .int x4)], [.int y9], h11) _
            exact te_iret rfl rfl ⟨I11, f11, _, rfl, y9, e9, (show y9 = fT x1 x2 x3 x4 y9 from by (unfold fT; (repeat' split) <;> first | (exfalso; omega) | rfl | assumption | (exact i32_ext (by omega)) | (subst_vars; rfl))), en11.trans (congrArg (fun t => some (Value.int t)) (show (y9 + 1) = gT x1 x2 x3 x4 y9 from by (unfold gT; (repeat' split) <;> first | (exfalso; omega) | rfl | assumption | (exact i32_ext (by omega)) | (subst_vars; rfl))))⟩
          · refine te_bipush (p2 := 57) (x := (-4)) rfl rfl (by decide) ?_
            exact te_iret rfl rfl ⟨hI, f0, _, rfl, y9, e9, (show (-4) = fT x1 x2 x3 x4 y9 from by (have c0_ := (show Int32.toInt (-4) = (-4) from rfl); unfold fT; (repeat' split) <;> first | (exfalso; omega) | rfl | assumption | (exact i32_ext (by omega)) | (subst_vars; rfl))), e9.trans (congrArg (fun t => some (Value.int t)) (show y9 = gT x1 x2 x3 x4 y9 from by (have c0_ := (show Int32.toInt (-4) = (-4) from rfl); unfold gT; (repeat' split) <;> first | (exfalso; omega) | rfl | assumption | (exact i32_ext (by omega)) | (subst_vars; rfl))))⟩
        · subst w7
          have cc7_1 := (show Int32.toInt 1 = 1 from rfl)
          have cc7_2 := (show Int32.toInt 9 = 9 from rfl)
          refine tz_ne (p2 := 40) rfl rfl (show Int32.toInt 0 = 0 from rfl) (fun c12 => absurd c12 (by omega)) (fun c12 => ?_)
          refine te_bipush (p2 := 42) (x := (-2)) rfl rfl (by decide) ?_
          obtain ⟨v13, e13, y13, w13, a13, b13, _⟩ := hI.2.1 77 0 (.inl (0, 8, 9999999999)) rfl
          subst w13
          exact te_iret rfl rfl ⟨hI, f0, _, rfl, y13, e13, (show (-2) = fT x1 x2 x3 x4 y13 from by (have c0_ := (show Int32.toInt (-2) = (-2) from rfl); unfold fT; (repeat' split) <;> first | (exfalso; omega) | rfl | assumption | (exact i32_ext (by omega)) | (subst_vars; rfl))), e13.trans (congrArg (fun t => some (Value.int t)) (show y13 = gT x1 x2 x3 x4 y13 from by (have c0_ := (show Int32.toInt (-2) = (-2) from rfl); unfold gT; (repeat' split) <;> first | (exfalso; omega) | rfl | assumption | (exact i32_ext (by omega)) | (subst_vars; rfl))))⟩
      · subst w5
        have cc5_1 := (show Int32.toInt 1 = 1 from rfl)
        have cc5_2 := (show Int32.toInt 10 = 10 from rfl)
        refine tz_eq (p2 := 29) rfl rfl (show Int32.toInt 0 = 0 from rfl) (fun c14 => ?_) (fun c14 => absurd c14 (by omega))
        refine te_bipush (p2 := 42) (x := (-2)) rfl rfl (by decide) ?_
        obtain ⟨v15, e15, y15, w15, a15, b15, _⟩ := hI.2.1 77 0 (.inl (0, 8, 9999999999)) rfl
        subst w15
        exact te_iret rfl rfl ⟨hI, f0, _, rfl, y15, e15, (show (-2) = fT x1 x2 x3 x4 y15 from by (have c0_ := (show Int32.toInt (-2) = (-2) from rfl); unfold fT; (repeat' split) <;> first | (exfalso; omega) | rfl | assumption | (exact i32_ext (by omega)) | (subst_vars; rfl))), e15.trans (congrArg (fun t => some (Value.int t)) (show y15 = gT x1 x2 x3 x4 y15 from by (have c0_ := (show Int32.toInt (-2) = (-2) from rfl); unfold gT; (repeat' split) <;> first | (exfalso; omega) | rfl | assumption | (exact i32_ext (by omega)) | (subst_vars; rfl))))⟩
    · subst w3
      have cc3_1 := (show Int32.toInt 4 = 4 from rfl)
      refine tz_eq (p2 := 19) rfl rfl (show Int32.toInt 0 = 0 from rfl) (fun c16 => ?_) (fun c16 => absurd c16 (by omega))
      refine te_bipush (p2 := 42) (x := (-2)) rfl rfl (by decide) ?_
      obtain ⟨v17, e17, y17, w17, a17, b17, _⟩ := hI.2.1 77 0 (.inl (0, 8, 9999999999)) rfl
      subst w17
      exact te_iret rfl rfl ⟨hI, f0, _, rfl, y17, e17, (show (-2) = fT x1 x2 x3 x4 y17 from by (have c0_ := (show Int32.toInt (-2) = (-2) from rfl); unfold fT; (repeat' split) <;> first | (exfalso; omega) | rfl | assumption | (exact i32_ext (by omega)) | (subst_vars; rfl))), e17.trans (congrArg (fun t => some (Value.int t)) (show y17 = gT x1 x2 x3 x4 y17 from by (have c0_ := (show Int32.toInt (-2) = (-2) from rfl); unfold gT; (repeat' split) <;> first | (exfalso; omega) | rfl | assumption | (exact i32_ext (by omega)) | (subst_vars; rfl))))⟩
  · subst w1
    have cc1_1 := (show Int32.toInt 100 = 100 from rfl)
    refine tz_ne (p2 := 9) rfl rfl (show Int32.toInt 0 = 0 from rfl) (fun c18 => absurd c18 (by omega)) (fun c18 => ?_)
    refine te_iconst (p2 := 10) (x := (-1)) rfl rfl (by decide) ?_
    obtain ⟨v19, e19, y19, w19, a19, b19, _⟩ := hI.2.1 77 0 (.inl (0, 8, 9999999999)) rfl
    subst w19
    exact te_iret rfl rfl ⟨hI, f0, _, rfl, y19, e19, (show (-1) = fT x1 x2 x3 x4 y19 from by (have c0_ := (show Int32.toInt (-1) = (-1) from rfl); unfold fT; (repeat' split) <;> first | (exfalso; omega) | rfl | assumption | (exact i32_ext (by omega)) | (subst_vars; rfl))), e19.trans (congrArg (fun t => some (Value.int t)) (show y19 = gT x1 x2 x3 x4 y19 from by (have c0_ := (show Int32.toInt (-1) = (-1) from rfl); unfold gT; (repeat' split) <;> first | (exfalso; omega) | rfl | assumption | (exact i32_ext (by omega)) | (subst_vars; rfl))))⟩
set_option maxRecDepth 20000 in
set_option maxHeartbeats 4000000 in
theorem c_X12_raid {x1 : Int32} {x2 : Int32} {x3 : Int32} {x4 : Int32} {h : im_H} (hI : tI h)  : CaP 3 175 [.ref 164, .int x1, .int x2, .int x3, .int x4] h (fun v h2 => tI h2 ∧ fr F_X12_raid h h2 ∧ ∃ y : Int32, v = some (.int y) ∧ ∃ p : Int32, rd h 148 29 = some (.int p) ∧ y = fT x1 x2 x3 x4 p ∧ rd h2 148 29 = some (.int (gT x1 x2 x3 x4 p))) := by
  refine cap_of (d := 2) (M := mX12_raid) rfl (Nat.le_of_ble_eq_true rfl) ?_
  show EvP im_K0 2 mX12_raid (0, [(0, .ref 164), (1, .int x1), (2, .int x2), (3, .int x3), (4, .int x4)], [], h) _
  have f0 : fr F_X12_raid h h := fr_rf
  refine te_iload_n (p2 := 1) rfl rfl rfl ?_
  refine cS_pI (p2 := 4) rfl rfl rfl rfl (t_X12_isCell (n := x1) hI ) (by decide) (fun y1 r1 => ?_)
  rcases r1 with ⟨w1, c1⟩ | ⟨w1, c1⟩
  · subst w1
    refine tz_ne (p2 := 7) rfl rfl (show Int32.toInt 1 = 1 from rfl) (fun c2 => ?_) (fun c2 => absurd c2 (by omega))
    refine te_iload_n (p2 := 10) rfl rfl rfl ?_
    refine te_iconst (p2 := 11) (x := 0) rfl rfl (by decide) ?_
    refine te_iconst (p2 := 12) (x := 3) rfl rfl (by decide) ?_
    refine cS_pI (p2 := 15) rfl rfl rfl rfl (t_X12_in (n := x2) (a := 0) (b := 3) hI ) (by decide) (fun y3 r3 => ?_)
    rcases r3 with ⟨w3, c3⟩ | ⟨w3, c3⟩
    · subst w3
      have cc3_1 := (show Int32.toInt 0 = 0 from rfl)
      have cc3_2 := (show Int32.toInt 3 = 3 from rfl)
      refine tz_eq (p2 := 18) rfl rfl (show Int32.toInt 1 = 1 from rfl) (fun c4 => absurd c4 (by omega)) (fun c4 => ?_)
      refine te_iload_n (p2 := 19) rfl rfl rfl ?_
      refine te_iconst (p2 := 20) (x := 1) rfl rfl (by decide) ?_
      refine te_bipush (p2 := 22) (x := 10) rfl rfl (by decide) ?_
      refine cS_pI (p2 := 25) rfl rfl rfl rfl (t_X12_in (n := x3) (a := 1) (b := 10) hI ) (by decide) (fun y5 r5 => ?_)
      rcases r5 with ⟨w5, c5⟩ | ⟨w5, c5⟩
      · subst w5
        have cc5_1 := (show Int32.toInt 1 = 1 from rfl)
        have cc5_2 := (show Int32.toInt 10 = 10 from rfl)
        refine tz_eq (p2 := 28) rfl rfl (show Int32.toInt 1 = 1 from rfl) (fun c6 => absurd c6 (by omega)) (fun c6 => ?_)
        refine te_iload (p2 := 30) rfl rfl rfl ?_
        refine te_iconst (p2 := 31) (x := 1) rfl rfl (by decide) ?_
        refine te_bipush (p2 := 33) (x := 9) rfl rfl (by decide) ?_
        refine cS_pI (p2 := 36) rfl rfl rfl rfl (t_X12_in (n := x4) (a := 1) (b := 9) hI ) (by decide) (fun y7 r7 => ?_)
        rcases r7 with ⟨w7, c7⟩ | ⟨w7, c7⟩
        · subst w7
          have cc7_1 := (show Int32.toInt 1 = 1 from rfl)
          have cc7_2 := (show Int32.toInt 9 = 9 from rfl)
          refine tz_ne (p2 := 39) rfl rfl (show Int32.toInt 1 = 1 from rfl) (fun c8 => ?_) (fun c8 => absurd c8 (by omega))
          refine te_aload_n (p2 := 43) rfl rfl rfl ?_
          refine tg_i (p2 := 46) (i := 148) rfl rfl hI rfl rfl rfl (fun y9 a9 b9 e9 => ?_)
          refine te_bipush (p2 := 48) (x := 8) rfl rfl (by decide) ?_
          refine tb_ne (p2 := 51) rfl rfl rfl (show Int32.toInt 8 = 8 from rfl) (fun c10 => ?_) (fun c10 => ?_)
          · refine te_aload_n (p2 := 55) rfl rfl rfl ?_
            refine tg_r (p2 := 58) (i := 148) (r := 189) rfl rfl hI rfl rfl rfl ?_
            refine te_aload_n (p2 := 59) rfl rfl rfl ?_
            refine tg_e (p2 := 62) (i := 148) (v := .int y9) rfl rfl hI rfl rfl e9 ?_
            refine te_iload_n (p2 := 63) rfl rfl rfl ?_
            refine ts_i (p2 := 64) (i := 173) (n := 8) rfl rfl hI rfl rfl rfl rfl (by omega) (by omega) (by omega) (by omega) (by omega) rfl (fun h11 I11 u11 => ?_)
            have f11 := fr_st (F := F_X12_raid) 1 f0 u11 rfl (by omega) (by omega)
            refine te_aload_n (p2 := 65) rfl rfl rfl ?_
            refine tg_r (p2 := 68) (i := 148) (r := 190) rfl rfl I11 rfl rfl rfl ?_
            refine te_aload_n (p2 := 69) rfl rfl rfl ?_
            refine tg_e (p2 := 72) (i := 148) (v := .int y9) rfl rfl I11 rfl rfl ((u11.2 _ _ (Or.inl (by decide))).trans e9) ?_
            refine te_iload_n (p2 := 73) rfl rfl rfl ?_
            refine ts_i (p2 := 74) (i := 174) (n := 8) rfl rfl I11 rfl rfl rfl rfl (by omega) (by omega) (by omega) (by omega) (by omega) rfl (fun h12 I12 u12 => ?_)
            have f12 := fr_st (F := F_X12_raid) 2 f11 u12 rfl (by omega) (by omega)
            refine te_aload_n (p2 := 75) rfl rfl rfl ?_
            refine tg_r (p2 := 78) (i := 148) (r := 191) rfl rfl I12 rfl rfl rfl ?_
            refine te_aload_n (p2 := 79) rfl rfl rfl ?_
            refine tg_e (p2 := 82) (i := 148) (v := .int y9) rfl rfl I12 rfl rfl ((u12.2 _ _ (Or.inl (by decide))).trans ((u11.2 _ _ (Or.inl (by decide))).trans e9)) ?_
            refine te_iload_n (p2 := 83) rfl rfl rfl ?_
            refine ts_i (p2 := 84) (i := 175) (n := 8) rfl rfl I12 rfl rfl rfl rfl (by omega) (by omega) (by omega) (by omega) (by omega) rfl (fun h13 I13 u13 => ?_)
            have f13 := fr_st (F := F_X12_raid) 3 f12 u13 rfl (by omega) (by omega)
            refine te_aload_n (p2 := 85) rfl rfl rfl ?_
            refine tg_r (p2 := 88) (i := 148) (r := 192) rfl rfl I13 rfl rfl rfl ?_
            refine te_aload_n (p2 := 89) rfl rfl rfl ?_
            refine tg_e (p2 := 92) (i := 148) (v := .int y9) rfl rfl I13 rfl rfl ((u13.2 _ _ (Or.inl (by decide))).trans ((u12.2 _ _ (Or.inl (by decide))).trans ((u11.2 _ _ (Or.inl (by decide))).trans e9))) ?_
            refine te_iload (p2 := 94) rfl rfl rfl ?_
            refine ts_i (p2 := 95) (i := 176) (n := 8) rfl rfl I13 rfl rfl rfl rfl (by omega) (by omega) (by omega) (by omega) (by omega) rfl (fun h14 I14 u14 => ?_)
            have f14 := fr_st (F := F_X12_raid) 4 f13 u14 rfl (by omega) (by omega)
            refine te_aload_n (p2 := 96) rfl rfl rfl ?_
            refine te_dup (p2 := 97) rfl rfl rfl ?_
            refine tg_e (p2 := 100) (i := 148) (v := .int y9) rfl rfl I14 rfl rfl ((u14.2 _ _ (Or.inl (by decide))).trans ((u13.2 _ _ (Or.inl (by decide))).trans ((u12.2 _ _ (Or.inl (by decide))).trans ((u11.2 _ _ (Or.inl (by decide))).trans e9)))) ?_
            refine te_iconst (p2 := 101) (x := 1) rfl rfl (by decide) ?_
            refine ar_add (p2 := 102) rfl rfl rfl (show Int32.toInt 1 = 1 from rfl) (by omega) (by omega) (fun z15 e15 f15 => ?_)
            refine tp_i (p2 := 105) (i := 148) rfl rfl I14 rfl rfl (by decide) rfl rfl rfl (by omega) (by omega) (by omega) rfl (fun h16 I16 u16 => ?_)
            have f16 := fr_st (F := F_X12_raid) 0 f14 u16 rfl (by decide) (by decide)
            refine te_aload_n (p2 := 106) rfl rfl rfl ?_
            refine tg_e (p2 := 109) (i := 148) (v := .int z15) rfl rfl I16 rfl rfl u16.1 ?_
            refine te_iconst (p2 := 110) (x := 1) rfl rfl (by decide) ?_
            refine ar_sub (p2 := 111) rfl rfl rfl (show Int32.toInt 1 = 1 from rfl) (by omega) (by omega) (fun z17 e17 f17 => ?_)
            exact te_iret rfl rfl ⟨I16, f16, _, rfl, y9, e9, (show z17 = fT x1 x2 x3 x4 y9 from by (unfold fT; (repeat' split) <;> first | (exfalso; omega) | rfl | assumption | (exact i32_ext (by omega)) | (subst_vars; rfl))), u16.1.trans (congrArg (fun t => some (Value.int t)) (show z15 = gT x1 x2 x3 x4 y9 from by (unfold gT; (repeat' split) <;> first | (exfalso; omega) | rfl | assumption | (exact i32_ext (by omega)) | (subst_vars; rfl))))⟩
          · refine te_bipush (p2 := 53) (x := (-4)) rfl rfl (by decide) ?_
            exact te_iret rfl rfl ⟨hI, f0, _, rfl, y9, e9, (show (-4) = fT x1 x2 x3 x4 y9 from by (have c0_ := (show Int32.toInt (-4) = (-4) from rfl); unfold fT; (repeat' split) <;> first | (exfalso; omega) | rfl | assumption | (exact i32_ext (by omega)) | (subst_vars; rfl))), e9.trans (congrArg (fun t => some (Value.int t)) (show y9 = gT x1 x2 x3 x4 y9 from by (have c0_ := (show Int32.toInt (-4) = (-4) from rfl); unfold gT; (repeat' split) <;> first | (exfalso; omega) | rfl | assumption | (exact i32_ext (by omega)) | (subst_vars; rfl))))⟩
        · subst w7
          have cc7_1 := (show Int32.toInt 1 = 1 from rfl)
          have cc7_2 := (show Int32.toInt 9 = 9 from rfl)
          refine tz_ne (p2 := 39) rfl rfl (show Int32.toInt 0 = 0 from rfl) (fun c18 => absurd c18 (by omega)) (fun c18 => ?_)
          refine te_bipush (p2 := 41) (x := (-2)) rfl rfl (by decide) ?_
          obtain ⟨v19, e19, y19, w19, a19, b19, _⟩ := hI.2.1 148 29 (.inl (0, 8, 9999999999)) rfl
          subst w19
          exact te_iret rfl rfl ⟨hI, f0, _, rfl, y19, e19, (show (-2) = fT x1 x2 x3 x4 y19 from by (have c0_ := (show Int32.toInt (-2) = (-2) from rfl); unfold fT; (repeat' split) <;> first | (exfalso; omega) | rfl | assumption | (exact i32_ext (by omega)) | (subst_vars; rfl))), e19.trans (congrArg (fun t => some (Value.int t)) (show y19 = gT x1 x2 x3 x4 y19 from by (have c0_ := (show Int32.toInt (-2) = (-2) from rfl); unfold gT; (repeat' split) <;> first | (exfalso; omega) | rfl | assumption | (exact i32_ext (by omega)) | (subst_vars; rfl))))⟩
      · subst w5
        have cc5_1 := (show Int32.toInt 1 = 1 from rfl)
        have cc5_2 := (show Int32.toInt 10 = 10 from rfl)
        refine tz_eq (p2 := 28) rfl rfl (show Int32.toInt 0 = 0 from rfl) (fun c20 => ?_) (fun c20 => absurd c20 (by omega))
        refine te_bipush (p2 := 41) (x := (-2)) rfl rfl (by decide) ?_
        obtain ⟨v21, e21, y21, w21, a21, b21, _⟩ := hI.2.1 148 29 (.inl (0, 8, 9999999999)) rfl
        subst w21
        exact te_iret rfl rfl ⟨hI, f0, _, rfl, y21, e21, (show (-2) = fT x1 x2 x3 x4 y21 from by (have c0_ := (show Int32.toInt (-2) = (-2) from rfl); unfold fT; (repeat' split) <;> first | (exfalso; omega) | rfl | assumption | (exact i32_ext (by omega)) | (subst_vars; rfl))), e21.trans (congrArg (fun t => some (Value.int t)) (show y21 = gT x1 x2 x3 x4 y21 from by (have c0_ := (show Int32.toInt (-2) = (-2) from rfl); unfold gT; (repeat' split) <;> first | (exfalso; omega) | rfl | assumption | (exact i32_ext (by omega)) | (subst_vars; rfl))))⟩
    · subst w3
      have cc3_1 := (show Int32.toInt 0 = 0 from rfl)
      have cc3_2 := (show Int32.toInt 3 = 3 from rfl)
      refine tz_eq (p2 := 18) rfl rfl (show Int32.toInt 0 = 0 from rfl) (fun c22 => ?_) (fun c22 => absurd c22 (by omega))
      refine te_bipush (p2 := 41) (x := (-2)) rfl rfl (by decide) ?_
      obtain ⟨v23, e23, y23, w23, a23, b23, _⟩ := hI.2.1 148 29 (.inl (0, 8, 9999999999)) rfl
      subst w23
      exact te_iret rfl rfl ⟨hI, f0, _, rfl, y23, e23, (show (-2) = fT x1 x2 x3 x4 y23 from by (have c0_ := (show Int32.toInt (-2) = (-2) from rfl); unfold fT; (repeat' split) <;> first | (exfalso; omega) | rfl | assumption | (exact i32_ext (by omega)) | (subst_vars; rfl))), e23.trans (congrArg (fun t => some (Value.int t)) (show y23 = gT x1 x2 x3 x4 y23 from by (have c0_ := (show Int32.toInt (-2) = (-2) from rfl); unfold gT; (repeat' split) <;> first | (exfalso; omega) | rfl | assumption | (exact i32_ext (by omega)) | (subst_vars; rfl))))⟩
  · subst w1
    refine tz_ne (p2 := 7) rfl rfl (show Int32.toInt 0 = 0 from rfl) (fun c24 => absurd c24 (by omega)) (fun c24 => ?_)
    refine te_iconst (p2 := 8) (x := (-1)) rfl rfl (by decide) ?_
    obtain ⟨v25, e25, y25, w25, a25, b25, _⟩ := hI.2.1 148 29 (.inl (0, 8, 9999999999)) rfl
    subst w25
    exact te_iret rfl rfl ⟨hI, f0, _, rfl, y25, e25, (show (-1) = fT x1 x2 x3 x4 y25 from by (have c0_ := (show Int32.toInt (-1) = (-1) from rfl); unfold fT; (repeat' split) <;> first | (exfalso; omega) | rfl | assumption | (exact i32_ext (by omega)) | (subst_vars; rfl))), e25.trans (congrArg (fun t => some (Value.int t)) (show y25 = gT x1 x2 x3 x4 y25 from by (have c0_ := (show Int32.toInt (-1) = (-1) from rfl); unfold gT; (repeat' split) <;> first | (exfalso; omega) | rfl | assumption | (exact i32_ext (by omega)) | (subst_vars; rfl))))⟩
def rel (h : im_H) : Prop := rd h 77 0 = rd h 148 29
theorem rel_fr {F : List (Nat × Nat × Nat)} {h h2 : im_H} (hr : rel h) (g : fr F h h2) (f1 : inF F 77 0 = false) (f2 : inF F 148 29 = false) : rel h2 := (g _ _ f1).trans (hr.trans (g _ _ f2).symm)
theorem relc {h h1 h2 : im_H} {x1 x2 x3 x4 y1 y2 : Int32} (hr : rel h) (g1 : fr F_X11_raid h h1) (g2 : fr F_X12_raid h1 h2) (r1 : ∃ p : Int32, rd h 77 0 = some (.int p) ∧ y1 = fT x1 x2 x3 x4 p ∧ rd h1 77 0 = some (.int (gT x1 x2 x3 x4 p))) (r2 : ∃ p : Int32, rd h1 148 29 = some (.int p) ∧ y2 = fT x1 x2 x3 x4 p ∧ rd h2 148 29 = some (.int (gT x1 x2 x3 x4 p))) : y1 = y2 ∧ rel h2 := by
  obtain ⟨p, e1, f1, n1⟩ := r1
  obtain ⟨q, e2, f2, n2⟩ := r2
  have e3 : rd h1 148 29 = some (.int p) := (g1 _ _ rfl).trans (hr.symm.trans e1)
  have e4 := int_inj e3 e2
  subst e4
  exact ⟨f1.trans f2.symm, (show rd h2 77 0 = rd h2 148 29 from ((g2 _ _ rfl).trans n1).trans n2.symm)⟩
