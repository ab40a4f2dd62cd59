set_option maxRecDepth 20000 in
set_option maxHeartbeats 4000000 in
theorem t_X10_byteAt {i : Int32} {h : im_H} (hI : tI h) (p_i0 : 0 ≤ i.toInt) : CaP 1 59 [.ref 81, .int i] h (pI h (fun y => ∃ t : Int32, rd h 65 1 = some (.int t) ∧ 0 ≤ t.toInt ∧ t.toInt ≤ 160 ∧ (i.toInt < t.toInt ∨ y = -1))) := by
  refine cap_of (d := 0) (M := mX10_byteAt) rfl (Nat.le_of_ble_eq_true rfl) ?_
  show EvP im_K0 0 mX10_byteAt (0, [(0, .ref 81), (1, .int i)], [], h) _
  refine te_iload_n (p2 := 1) rfl rfl rfl ?_
  refine te_aload_n (p2 := 2) rfl rfl rfl ?_
  refine tg_i (p2 := 5) (i := 65) rfl rfl hI rfl rfl rfl (fun y1 a1 b1 e1 => ?_)
  refine tb_ge (p2 := 8) rfl rfl rfl rfl (fun c2 => ?_) (fun c2 => ?_)
  · refine te_iconst (p2 := 18) (x := (-1)) rfl rfl (by decide) ?_
    exact te_iret rfl rfl ⟨rfl, _, rfl, y1, e1, by omega, by omega, Or.inr rfl⟩
  · refine te_aload_n (p2 := 9) rfl rfl rfl ?_
    refine tg_r (p2 := 12) (i := 65) (r := 82) rfl rfl hI rfl rfl rfl ?_
    refine te_iload_n (p2 := 13) rfl rfl rfl ?_
    refine tl_i (p2 := 14) (i := 66) (n := 160) rfl rfl hI rfl rfl rfl rfl (by omega) (by omega) (fun y3 a3 b3 g3 e3 => ?_)
    refine te_goto rfl ?_
    exact te_iret rfl rfl ⟨rfl, _, rfl, y1, e1, by omega, by omega, Or.inl (by omega)⟩
abbrev F_X10_readSign : List (Nat × Nat × Nat) := [(65, 2, 2)]
set_option maxRecDepth 20000 in
set_option maxHeartbeats 4000000 in
theorem t_X10_readSign {sign : Int32} {h : im_H} (hI : tI h) (p_sign0 : 0 ≤ sign.toInt) (p_sign1 : sign.toInt ≤ 127) : CaP 2 56 [.ref 81, .int sign] h (mI h F_X10_readSign (fun y => 0 ≤ y.toInt ∧ y.toInt ≤ 1)) := by
  refine cap_of (d := 1) (M := mX10_readSign) rfl (Nat.le_of_ble_eq_true rfl) ?_
  show EvP im_K0 1 mX10_readSign (0, [(0, .ref 81), (1, .int sign)], [], h) _
  have f0 : fr F_X10_readSign h h := fr_rf
  refine te_aload_n (p2 := 1) rfl rfl rfl ?_
  refine te_aload_n (p2 := 2) rfl rfl rfl ?_
  refine tg_i (p2 := 5) (i := 65) rfl rfl hI rfl rfl rfl (fun y1 a1 b1 e1 => ?_)
  refine cV_pI (p2 := 8) (i := 65) rfl rfl rfl rfl hI rfl rfl rfl (t_X10_byteAt (i := y1) hI (by omega)) (by decide) (fun y2 r2 => ?_)
  obtain ⟨tp2, et2, ta2, tb2, r2⟩ := r2
  rcases r2 with r2 | r2
  · refine te_iload_n (p2 := 9) rfl rfl rfl ?_
    refine tb_eq (p2 := 12) rfl rfl rfl rfl (fun c3 => ?_) (fun c3 => ?_)
    · refine te_aload_n (p2 := 15) rfl rfl rfl ?_
      refine te_dup (p2 := 16) rfl rfl rfl ?_
      refine tg_e (p2 := 19) (i := 65) (v := .int y1) rfl rfl hI rfl rfl e1 ?_
      refine te_iconst (p2 := 20) (x := 1) rfl rfl (by decide) ?_
      refine ar_add (p2 := 21) rfl rfl rfl (show Int32.toInt 1 = 1 from rfl) (by omega) (by omega) (fun z4 e4 f4 => ?_)
      refine tp_i (p2 := 24) (i := 65) rfl rfl hI rfl rfl (by decide) rfl rfl rfl (by omega) (by omega) (by omega) rfl (fun h5 I5 u5 => ?_)
      have f5 := fr_st (F := F_X10_readSign) 0 f0 u5 rfl (by decide) (by decide)
      refine te_iconst (p2 := 25) (x := 1) rfl rfl (by decide) ?_
      exact te_zret rfl rfl (by decide) ⟨I5, f5, _, rfl, by decide, by decide⟩
    · refine te_iconst (p2 := 13) (x := 0) rfl rfl (by decide) ?_
      exact te_zret rfl rfl (by decide) ⟨hI, f0, _, rfl, by decide, by decide⟩
  · subst r2
    refine te_iload_n (p2 := 9) rfl rfl rfl ?_
    refine tb_eq (p2 := 12) rfl rfl (show Int32.toInt (-1) = (-1) from rfl) rfl (fun c6 => absurd c6 (by omega)) (fun c6 => ?_)
    refine te_iconst (p2 := 13) (x := 0) rfl rfl (by decide) ?_
    exact te_zret rfl rfl (by decide) ⟨hI, f0, _, rfl, by decide, by decide⟩
abbrev F_X10_readNumber : List (Nat × Nat × Nat) := [(65, 2, 2)]
set_option maxRecDepth 20000 in
set_option maxHeartbeats 4000000 in
theorem t_X10_readNumber  {h : im_H} (hI : tI h)  : CaP 2 57 [.ref 81] h (mI h F_X10_readNumber (fun _ => True)) := by
  refine cap_of (d := 1) (M := mX10_readNumber) rfl (Nat.le_of_ble_eq_true rfl) ?_
  show EvP im_K0 1 mX10_readNumber (0, [(0, .ref 81)], [], h) _
  have f0 : fr F_X10_readNumber h h := fr_rf
  refine te_iconst (p2 := 1) (x := (-1)) rfl rfl (by decide) ?_
  refine te_istore_n (p2 := 2) (lv2 := [(1, .int (-1)), (0, .ref 81)]) rfl rfl (by decide) rfl ?_
  refine te_iconst (p2 := 3) (x := 0) rfl rfl (by decide) ?_
  refine te_istore_n (p2 := 4) (lv2 := [(2, .int 0), (1, .int (-1)), (0, .ref 81)]) rfl rfl (by decide) rfl ?_
  have lp1 : ∀ (n1 : Nat) (v1_1 v1_2 : Int32) (h1 : im_H), tI h1 → fr F_X10_readNumber h h1 → 0 ≤ v1_2.toInt → v1_2.toInt ≤ 3 → 3 - v1_2.toInt < (n1 : Int) → EvP im_K0 1 mX10_readNumber (4, [(0, .ref 81), (1, .int v1_1), (2, .int v1_2)], [], h1) (mI h F_X10_readNumber (fun _ => True)) := by
    intro n1
    induction n1 with
    | zero => intro v1_1 v1_2 h1 I1 f1 a1_2 b1_2 m1; exfalso; omega
    | succ n1 ih1 =>
      intro v1_1 v1_2 h1 I1 f1 a1_2 b1_2 m1
      refine te_iload_n (p2 := 5) rfl rfl rfl ?_
      refine te_iconst (p2 := 6) (x := 3) rfl rfl (by decide) ?_
      refine tb_ge (p2 := 9) rfl rfl rfl (show Int32.toInt 3 = 3 from rfl) (fun c2 => ?_) (fun c2 => ?_)
      · refine te_iload_n (p2 := 63) rfl rfl rfl ?_
        exact te_iret rfl rfl ⟨I1, f1, _, rfl, trivial⟩
      · refine te_aload_n (p2 := 10) rfl rfl rfl ?_
        refine te_aload_n (p2 := 11) rfl rfl rfl ?_
        refine tg_i (p2 := 14) (i := 65) rfl rfl I1 rfl rfl rfl (fun y3 a3 b3 e3 => ?_)
        refine cV_pI (p2 := 17) (i := 65) rfl rfl rfl rfl I1 rfl rfl rfl (t_X10_byteAt (i := y3) I1 (by omega)) (by decide) (fun y4 r4 => ?_)
        obtain ⟨tp4, et4, ta4, tb4, r4⟩ := r4
        rcases r4 with r4 | r4
        · refine te_istore_n (p2 := 18) (lv2 := [(3, .int y4), (0, .ref 81), (1, .int v1_1), (2, .int v1_2)]) rfl rfl (by decide) rfl ?_
          refine te_iload_n (p2 := 19) rfl rfl rfl ?_
          refine te_bipush (p2 := 21) (x := 48) rfl rfl (by decide) ?_
          refine tb_lt (p2 := 24) rfl rfl rfl (show Int32.toInt 48 = 48 from rfl) (fun c5 => ?_) (fun c5 => ?_)
          · refine te_iload_n (p2 := 31) rfl rfl rfl ?_
            exact te_iret rfl rfl ⟨I1, f1, _, rfl, trivial⟩
          · refine te_iload_n (p2 := 25) rfl rfl rfl ?_
            refine te_bipush (p2 := 27) (x := 57) rfl rfl (by decide) ?_
            refine tb_le (p2 := 30) rfl rfl rfl (show Int32.toInt 57 = 57 from rfl) (fun c6 => ?_) (fun c6 => ?_)
            · refine te_iload_n (p2 := 33) rfl rfl rfl ?_
              refine te_iconst (p2 := 34) (x := 0) rfl rfl (by decide) ?_
              refine ar_max (p2 := 37) rfl rfl rfl rfl (show Int32.toInt 0 = 0 from rfl) (fun z7 e7 f7 => ?_)
              refine te_bipush (p2 := 39) (x := 10) rfl rfl (by decide) ?_
              refine au_mul (p2 := 40) rfl rfl (fun z8 e8 => ?_)
              refine te_iload_n (p2 := 41) rfl rfl rfl ?_
              refine au_add (p2 := 42) rfl rfl (fun z9 e9 => ?_)
              refine te_bipush (p2 := 44) (x := 48) rfl rfl (by decide) ?_
              refine au_sub (p2 := 45) rfl rfl (fun z10 e10 => ?_)
              refine te_istore_n (p2 := 46) (lv2 := [(1, .int z10), (3, .int y4), (0, .ref 81), (2, .int v1_2)]) rfl rfl (by decide) rfl ?_
              refine te_aload_n (p2 := 47) rfl rfl rfl ?_
              refine te_dup (p2 := 48) rfl rfl rfl ?_
              refine tg_e (p2 := 51) (i := 65) (v := .int y3) rfl rfl I1 rfl rfl e3 ?_
              refine te_iconst (p2 := 52) (x := 1) rfl rfl (by decide) ?_
              refine ar_add (p2 := 53) rfl rfl rfl (show Int32.toInt 1 = 1 from rfl) (by omega) (by omega) (fun z11 e11 f11 => ?_)
              refine tp_i (p2 := 56) (i := 65) rfl rfl I1 rfl rfl (by decide) rfl rfl rfl (by omega) (by omega) (by omega) rfl (fun h12 I12 u12 => ?_)
              have f12 := fr_st (F := F_X10_readNumber) 0 f1 u12 rfl (by decide) (by decide)
              refine ar_inc (p2 := 59) (x := v1_2) rfl rfl (by decide) rfl (by decide) rfl (by omega) (by omega) (fun z13 e13 f13 => ?_)
              show EvP _ _ _ (59, [(2, .int z13), (1, .int z10), (3, .int y4), (0, .ref 81)], [], h12) _
              refine te_goto rfl ?_
              refine te_lv [(0, .ref 81), (1, .int z10), (2, .int z13)] rfl rfl ⟨rfl, rfl, rfl, trivial⟩ ?_
              exact ih1 z10 z13 h12 I12 f12 (by omega) (by omega) (by omega)
            · refine te_iload_n (p2 := 31) rfl rfl rfl ?_
              exact te_iret rfl rfl ⟨I1, f1, _, rfl, trivial⟩
        · subst r4
          refine te_istore_n (p2 := 18) (lv2 := [(3, .int (-1)), (0, .ref 81), (1, .int v1_1), (2, .int v1_2)]) rfl rfl (by decide) rfl ?_
          refine te_iload_n (p2 := 19) rfl rfl rfl ?_
          refine te_bipush (p2 := 21) (x := 48) rfl rfl (by decide) ?_
          refine tb_lt (p2 := 24) rfl rfl (show Int32.toInt (-1) = (-1) from rfl) (show Int32.toInt 48 = 48 from rfl) (fun c14 => ?_) (fun c14 => absurd c14 (by omega))
          refine te_iload_n (p2 := 31) rfl rfl rfl ?_
          exact te_iret rfl rfl ⟨I1, f1, _, rfl, trivial⟩
  refine te_lv [(0, .ref 81), (1, .int (-1)), (2, .int 0)] rfl rfl ⟨rfl, rfl, rfl, trivial⟩ ?_
  exact lp1 4 (-1) 0 h hI f0 (by decide) (by decide) (by have cc0 := (show Int32.toInt (-1) = (-1) from rfl); have cc1 := (show Int32.toInt 0 = 0 from rfl); omega)
abbrev F_X10_readWord_0 : List (Nat × Nat × Nat) := [(65, 2, 2)]
set_option maxRecDepth 20000 in
set_option maxHeartbeats 4000000 in
theorem t_X10_readWord_0  {h : im_H} (hI : tI h)  : CaP 2 58 [.ref 81, .ref 6] h (mI h F_X10_readWord_0 (fun y => (-1) ≤ y.toInt ∧ y.toInt ≤ 60)) := by
  refine cap_of (d := 1) (M := mX10_readWord) rfl (Nat.le_of_ble_eq_true rfl) ?_
  show EvP im_K0 1 mX10_readWord (0, [(0, .ref 81), (1, .ref 6)], [], h) _
  have f0 : fr F_X10_readWord_0 h h := fr_rf
  refine te_iconst (p2 := 1) (x := 0) rfl rfl (by decide) ?_
  refine te_istore_n (p2 := 2) (lv2 := [(2, .int 0), (0, .ref 81), (1, .ref 6)]) rfl rfl (by decide) rfl ?_
  refine te_iconst (p2 := 3) (x := 0) rfl rfl (by decide) ?_
  refine te_istore_n (p2 := 4) (lv2 := [(3, .int 0), (2, .int 0), (0, .ref 81), (1, .ref 6)]) rfl rfl (by decide) rfl ?_
  refine te_iconst (p2 := 5) (x := 0) rfl rfl (by decide) ?_
  refine te_istore (p2 := 7) (lv2 := [(4, .int 0), (3, .int 0), (2, .int 0), (0, .ref 81), (1, .ref 6)]) rfl rfl (by decide) rfl ?_
  refine te_iconst (p2 := 8) (x := 1) rfl rfl (by decide) ?_
  refine te_istore (p2 := 10) (lv2 := [(5, .int 1), (4, .int 0), (3, .int 0), (2, .int 0), (0, .ref 81), (1, .ref 6)]) rfl rfl (by decide) rfl ?_
  refine te_iconst (p2 := 11) (x := 0) rfl rfl (by decide) ?_
  refine te_istore (p2 := 13) (lv2 := [(6, .int 0), (5, .int 1), (4, .int 0), (3, .int 0), (2, .int 0), (0, .ref 81), (1, .ref 6)]) rfl rfl (by decide) rfl ?_
  obtain ⟨v2, e2, y2, w2, a2, b2, _⟩ := hI.2.1 65 2 (.inl (0, 160, 9999999999)) rfl
  subst w2
  have lp1 : ∀ (n1 : Nat) (v1_2 v1_3 v1_4 v1_5 v1_6 t1_pl : Int32) (h1 : im_H), tI h1 → fr F_X10_readWord_0 h h1 → 0 ≤ v1_2.toInt → v1_2.toInt ≤ 160 → 0 ≤ v1_3.toInt → v1_3.toInt ≤ 60 → 0 ≤ v1_4.toInt → v1_4.toInt ≤ 160 → 0 ≤ v1_5.toInt → v1_5.toInt ≤ 1 → 0 ≤ v1_6.toInt → v1_6.toInt ≤ 15 → rd h1 65 2 = some (.int t1_pl) → 0 ≤ t1_pl.toInt → t1_pl.toInt ≤ 160 → t1_pl.toInt + v1_4.toInt ≤ 160 → t1_pl.toInt + v1_2.toInt ≤ 160 → v1_3.toInt ≤ v1_6.toInt → 15 - v1_6.toInt < (n1 : Int) → EvP im_K0 1 mX10_readWord (13, [(0, .ref 81), (1, .ref 6), (2, .int v1_2), (3, .int v1_3), (4, .int v1_4), (5, .int v1_5), (6, .int v1_6)], [], h1) (mI h F_X10_readWord_0 (fun y => (-1) ≤ y.toInt ∧ y.toInt ≤ 60)) := by
    intro n1
    induction n1 with
    | zero => intro v1_2 v1_3 v1_4 v1_5 v1_6 t1_pl h1 I1 f1 a1_2 b1_2 a1_3 b1_3 a1_4 b1_4 a1_5 b1_5 a1_6 b1_6 v1_pl va1_pl vb1_pl l1_0 l1_1 l1_2 m1; exfalso; omega
    | succ n1 ih1 =>
      intro v1_2 v1_3 v1_4 v1_5 v1_6 t1_pl h1 I1 f1 a1_2 b1_2 a1_3 b1_3 a1_4 b1_4 a1_5 b1_5 a1_6 b1_6 v1_pl va1_pl vb1_pl l1_0 l1_1 l1_2 m1
      refine te_iload (p2 := 15) rfl rfl rfl ?_
      refine te_aload_n (p2 := 16) rfl rfl rfl ?_
      refine te_txl (p2 := 19) (l := im_txt.getD 0 []) (x := 15) rfl rfl (by decide) rfl rfl rfl ?_
      refine tb_ge (p2 := 22) rfl rfl rfl (show Int32.toInt 15 = 15 from rfl) (fun c3 => ?_) (fun c3 => ?_)
      · refine te_aload_n (p2 := 118) rfl rfl rfl ?_
        refine te_dup (p2 := 119) rfl rfl rfl ?_
        refine tg_e (p2 := 122) (i := 65) (v := .int t1_pl) rfl rfl I1 rfl rfl v1_pl ?_
        refine te_iload_n (p2 := 123) rfl rfl rfl ?_
        refine ar_add (p2 := 124) rfl rfl rfl rfl (by omega) (by omega) (fun z4 e4 f4 => ?_)
        refine tp_i (p2 := 127) (i := 65) rfl rfl I1 rfl rfl (by decide) rfl rfl rfl (by omega) (by omega) (by omega) rfl (fun h5 I5 u5 => ?_)
        have f5 := fr_st (F := F_X10_readWord_0) 0 f1 u5 rfl (by decide) (by decide)
        refine te_iconst (p2 := 128) (x := (-1)) rfl rfl (by decide) ?_
        exact te_iret rfl rfl ⟨I5, f5, _, rfl, by decide, by decide⟩
      · refine te_aload_n (p2 := 23) rfl rfl rfl ?_
        refine te_iload (p2 := 25) rfl rfl rfl ?_
        refine te_txc (p2 := 28) (l := im_txt.getD 0 []) (n := 15) (lo := 32) (hi := 121) rfl rfl (by decide) rfl rfl (by decide) rfl (by omega) (by omega) (fun y6 a6 b6 e6 => ?_)
        refine te_istore (p2 := 30) (lv2 := [(7, .int y6), (0, .ref 81), (1, .ref 6), (2, .int v1_2), (3, .int v1_3), (4, .int v1_4), (5, .int v1_5), (6, .int v1_6)]) rfl rfl (by decide) rfl ?_
        refine te_iload (p2 := 32) rfl rfl rfl ?_
        refine te_bipush (p2 := 34) (x := 32) rfl rfl (by decide) ?_
        refine tb_ne (p2 := 37) rfl rfl rfl (show Int32.toInt 32 = 32 from rfl) (fun c7 => ?_) (fun c7 => ?_)
        · refine te_iload (p2 := 57) rfl rfl rfl ?_
          refine te_bipush (p2 := 59) (x := 32) rfl rfl (by decide) ?_
          refine tb_ne (p2 := 62) rfl rfl rfl (show Int32.toInt 32 = 32 from rfl) (fun c8 => ?_) (fun c8 => absurd c8 (by omega))
          refine te_iload (p2 := 76) rfl rfl rfl ?_
          refine tz_eq (p2 := 79) rfl rfl rfl (fun c9 => ?_) (fun c9 => ?_)
          · refine te_iconst (p2 := 109) (x := 0) rfl rfl (by decide) ?_
            refine te_istore (p2 := 111) (lv2 := [(5, .int 0), (7, .int y6), (0, .ref 81), (1, .ref 6), (2, .int v1_2), (3, .int v1_3), (4, .int v1_4), (6, .int v1_6)]) rfl rfl (by decide) rfl ?_
            refine ar_inc (p2 := 114) (x := v1_6) rfl rfl (by decide) rfl (by decide) rfl (by omega) (by omega) (fun z10 e10 f10 => ?_)
            show EvP _ _ _ (114, [(6, .int z10), (5, .int 0), (7, .int y6), (0, .ref 81), (1, .ref 6), (2, .int v1_2), (3, .int v1_3), (4, .int v1_4)], [], h1) _
            refine te_goto rfl ?_
            refine te_lv [(0, .ref 81), (1, .ref 6), (2, .int v1_2), (3, .int v1_3), (4, .int v1_4), (5, .int 0), (6, .int z10)] rfl rfl ⟨rfl, rfl, rfl, rfl, rfl, rfl, rfl, trivial⟩ ?_
            exact ih1 v1_2 v1_3 v1_4 0 z10 t1_pl h1 I1 f1 (by omega) (by omega) (by omega) (by omega) (by omega) (by omega) (by decide) (by decide) (by omega) (by omega) v1_pl (by omega) (by omega) (by have cc0 := (show Int32.toInt 0 = 0 from rfl); omega) (by have cc0 := (show Int32.toInt 0 = 0 from rfl); omega) (by have cc0 := (show Int32.toInt 0 = 0 from rfl); omega) (by have cc0 := (show Int32.toInt 0 = 0 from rfl); omega)
          · refine te_aload_n (p2 := 80) rfl rfl rfl ?_
            refine te_aload_n (p2 := 81) rfl rfl rfl ?_
            refine tg_e (p2 := 84) (i := 65) (v := .int t1_pl) rfl rfl I1 rfl rfl v1_pl ?_
            refine te_iload (p2 := 86) rfl rfl rfl ?_
            refine ar_add (p2 := 87) rfl rfl rfl rfl (by omega) (by omega) (fun z11 e11 f11 => ?_)
            refine cV_pI (p2 := 90) (i := 65) rfl rfl rfl rfl I1 rfl rfl rfl (t_X10_byteAt (i := z11) I1 (by omega)) (by decide) (fun y12 r12 => ?_)
            obtain ⟨tp12, et12, ta12, tb12, r12⟩ := r12
            rcases r12 with r12 | r12
            · refine te_iload (p2 := 92) rfl rfl rfl ?_
              refine tb_ne (p2 := 95) rfl rfl rfl rfl (fun c13 => ?_) (fun c13 => ?_)
              · refine te_iconst (p2 := 109) (x := 0) rfl rfl (by decide) ?_
                refine te_istore (p2 := 111) (lv2 := [(5, .int 0), (7, .int y6), (0, .ref 81), (1, .ref 6), (2, .int v1_2), (3, .int v1_3), (4, .int v1_4), (6, .int v1_6)]) rfl rfl (by decide) rfl ?_
                refine ar_inc (p2 := 114) (x := v1_6) rfl rfl (by decide) rfl (by decide) rfl (by omega) (by omega) (fun z14 e14 f14 => ?_)
                show EvP _ _ _ (114, [(6, .int z14), (5, .int 0), (7, .int y6), (0, .ref 81), (1, .ref 6), (2, .int v1_2), (3, .int v1_3), (4, .int v1_4)], [], h1) _
                refine te_goto rfl ?_
                refine te_lv [(0, .ref 81), (1, .ref 6), (2, .int v1_2), (3, .int v1_3), (4, .int v1_4), (5, .int 0), (6, .int z14)] rfl rfl ⟨rfl, rfl, rfl, rfl, rfl, rfl, rfl, trivial⟩ ?_
                exact ih1 v1_2 v1_3 v1_4 0 z14 t1_pl h1 I1 f1 (by omega) (by omega) (by omega) (by omega) (by omega) (by omega) (by decide) (by decide) (by omega) (by omega) v1_pl (by omega) (by omega) (by have cc0 := (show Int32.toInt 0 = 0 from rfl); omega) (by have cc0 := (show Int32.toInt 0 = 0 from rfl); omega) (by have cc0 := (show Int32.toInt 0 = 0 from rfl); omega) (by have cc0 := (show Int32.toInt 0 = 0 from rfl); omega)
              · refine ar_inc (p2 := 98) (x := v1_4) rfl rfl (by decide) rfl (by decide) rfl (by omega) (by omega) (fun z15 e15 f15 => ?_)
                show EvP _ _ _ (98, [(4, .int z15), (7, .int y6), (0, .ref 81), (1, .ref 6), (2, .int v1_2), (3, .int v1_3), (5, .int v1_5), (6, .int v1_6)], [], h1) _
                refine te_iload_n (p2 := 99) rfl rfl rfl ?_
                refine te_iload (p2 := 101) rfl rfl rfl ?_
                refine ar_max (p2 := 104) rfl rfl rfl rfl rfl (fun z16 e16 f16 => ?_)
                refine te_istore_n (p2 := 105) (lv2 := [(2, .int z16), (4, .int z15), (7, .int y6), (0, .ref 81), (1, .ref 6), (3, .int v1_3), (5, .int v1_5), (6, .int v1_6)]) rfl rfl (by decide) rfl ?_
                refine te_goto rfl ?_
                refine ar_inc (p2 := 114) (x := v1_6) rfl rfl (by decide) rfl (by decide) rfl (by omega) (by omega) (fun z17 e17 f17 => ?_)
                show EvP _ _ _ (114, [(6, .int z17), (2, .int z16), (4, .int z15), (7, .int y6), (0, .ref 81), (1, .ref 6), (3, .int v1_3), (5, .int v1_5)], [], h1) _
                refine te_goto rfl ?_
                refine te_lv [(0, .ref 81), (1, .ref 6), (2, .int z16), (3, .int v1_3), (4, .int z15), (5, .int v1_5), (6, .int z17)] rfl rfl ⟨rfl, rfl, rfl, rfl, rfl, rfl, rfl, trivial⟩ ?_
                exact ih1 z16 v1_3 z15 v1_5 z17 t1_pl h1 I1 f1 (by omega) (by omega) (by omega) (by omega) (by omega) (by omega) (by omega) (by omega) (by omega) (by omega) v1_pl (by omega) (by omega) (by omega) (by omega) (by omega) (by omega)
            · subst r12
              refine te_iload (p2 := 92) rfl rfl rfl ?_
              refine tb_ne (p2 := 95) rfl rfl (show Int32.toInt (-1) = (-1) from rfl) rfl (fun c18 => ?_) (fun c18 => absurd c18 (by omega))
              refine te_iconst (p2 := 109) (x := 0) rfl rfl (by decide) ?_
              refine te_istore (p2 := 111) (lv2 := [(5, .int 0), (7, .int y6), (0, .ref 81), (1, .ref 6), (2, .int v1_2), (3, .int v1_3), (4, .int v1_4), (6, .int v1_6)]) rfl rfl (by decide) rfl ?_
              refine ar_inc (p2 := 114) (x := v1_6) rfl rfl (by decide) rfl (by decide) rfl (by omega) (by omega) (fun z19 e19 f19 => ?_)
              show EvP _ _ _ (114, [(6, .int z19), (5, .int 0), (7, .int y6), (0, .ref 81), (1, .ref 6), (2, .int v1_2), (3, .int v1_3), (4, .int v1_4)], [], h1) _
              refine te_goto rfl ?_
              refine te_lv [(0, .ref 81), (1, .ref 6), (2, .int v1_2), (3, .int v1_3), (4, .int v1_4), (5, .int 0), (6, .int z19)] rfl rfl ⟨rfl, rfl, rfl, rfl, rfl, rfl, rfl, trivial⟩ ?_
              exact ih1 v1_2 v1_3 v1_4 0 z19 t1_pl h1 I1 f1 (by omega) (by omega) (by omega) (by omega) (by omega) (by omega) (by decide) (by decide) (by omega) (by omega) v1_pl (by omega) (by omega) (by have cc0 := (show Int32.toInt 0 = 0 from rfl); omega) (by have cc0 := (show Int32.toInt 0 = 0 from rfl); omega) (by have cc0 := (show Int32.toInt 0 = 0 from rfl); omega) (by have cc0 := (show Int32.toInt 0 = 0 from rfl); omega)
        · refine te_iload (p2 := 39) rfl rfl rfl ?_
          refine tz_eq (p2 := 42) rfl rfl rfl (fun c20 => ?_) (fun c20 => ?_)
          · refine te_iload (p2 := 57) rfl rfl rfl ?_
            refine te_bipush (p2 := 59) (x := 32) rfl rfl (by decide) ?_
            refine tb_ne (p2 := 62) rfl rfl rfl (show Int32.toInt 32 = 32 from rfl) (fun c21 => absurd c21 (by omega)) (fun c21 => ?_)
            refine ar_inc (p2 := 65) (x := v1_3) rfl rfl (by decide) rfl (by decide) rfl (by omega) (by omega) (fun z22 e22 f22 => ?_)
            show EvP _ _ _ (65, [(3, .int z22), (7, .int y6), (0, .ref 81), (1, .ref 6), (2, .int v1_2), (4, .int v1_4), (5, .int v1_5), (6, .int v1_6)], [], h1) _
            refine te_iconst (p2 := 66) (x := 0) rfl rfl (by decide) ?_
            refine te_istore (p2 := 68) (lv2 := [(4, .int 0), (3, .int z22), (7, .int y6), (0, .ref 81), (1, .ref 6), (2, .int v1_2), (5, .int v1_5), (6, .int v1_6)]) rfl rfl (by decide) rfl ?_
            refine te_iconst (p2 := 69) (x := 1) rfl rfl (by decide) ?_
            refine te_istore (p2 := 71) (lv2 := [(5, .int 1), (4, .int 0), (3, .int z22), (7, .int y6), (0, .ref 81), (1, .ref 6), (2, .int v1_2), (6, .int v1_6)]) rfl rfl (by decide) rfl ?_
            refine te_goto rfl ?_
            refine ar_inc (p2 := 114) (x := v1_6) rfl rfl (by decide) rfl (by decide) rfl (by omega) (by omega) (fun z23 e23 f23 => ?_)
            show EvP _ _ _ (114, [(6, .int z23), (5, .int 1), (4, .int 0), (3, .int z22), (7, .int y6), (0, .ref 81), (1, .ref 6), (2, .int v1_2)], [], h1) _
            refine te_goto rfl ?_
            refine te_lv [(0, .ref 81), (1, .ref 6), (2, .int v1_2), (3, .int z22), (4, .int 0), (5, .int 1), (6, .int z23)] rfl rfl ⟨rfl, rfl, rfl, rfl, rfl, rfl, rfl, trivial⟩ ?_
            exact ih1 v1_2 z22 0 1 z23 t1_pl h1 I1 f1 (by omega) (by omega) (by omega) (by omega) (by decide) (by decide) (by decide) (by decide) (by omega) (by omega) v1_pl (by omega) (by omega) (by have cc0 := (show Int32.toInt 0 = 0 from rfl); have cc1 := (show Int32.toInt 1 = 1 from rfl); omega) (by have cc0 := (show Int32.toInt 0 = 0 from rfl); have cc1 := (show Int32.toInt 1 = 1 from rfl); omega) (by have cc0 := (show Int32.toInt 0 = 0 from rfl); have cc1 := (show Int32.toInt 1 = 1 from rfl); omega) (by have cc0 := (show Int32.toInt 0 = 0 from rfl); have cc1 := (show Int32.toInt 1 = 1 from rfl); omega)
          · refine te_aload_n (p2 := 43) rfl rfl rfl ?_
            refine te_dup (p2 := 44) rfl rfl rfl ?_
            refine tg_e (p2 := 47) (i := 65) (v := .int t1_pl) rfl rfl I1 rfl rfl v1_pl ?_
            refine te_iload (p2 := 49) rfl rfl rfl ?_
            refine ar_add (p2 := 50) rfl rfl rfl rfl (by omega) (by omega) (fun z24 e24 f24 => ?_)
            refine tp_i (p2 := 53) (i := 65) rfl rfl I1 rfl rfl (by decide) rfl rfl rfl (by omega) (by omega) (by omega) rfl (fun h25 I25 u25 => ?_)
            have f25 := fr_st (F := F_X10_readWord_0) 0 f1 u25 rfl (by decide) (by decide)
            refine te_iload_n (p2 := 54) rfl rfl rfl ?_
            exact te_iret rfl rfl ⟨I25, f25, _, rfl, by omega, by omega⟩
  refine te_lv [(0, .ref 81), (1, .ref 6), (2, .int 0), (3, .int 0), (4, .int 0), (5, .int 1), (6, .int 0)] rfl rfl ⟨rfl, rfl, rfl, rfl, rfl, rfl, rfl, trivial⟩ ?_
  exact lp1 16 0 0 0 1 0 y2 h hI f0 (by decide) (by decide) (by decide) (by decide) (by decide) (by decide) (by decide) (by decide) (by decide) (by decide) e2 (by omega) (by omega) (by have cc0 := (show Int32.toInt 0 = 0 from rfl); have cc1 := (show Int32.toInt 1 = 1 from rfl); omega) (by have cc0 := (show Int32.toInt 0 = 0 from rfl); have cc1 := (show Int32.toInt 1 = 1 from rfl); omega) (by have cc0 := (show Int32.toInt 0 = 0 from rfl); have cc1 := (show Int32.toInt 1 = 1 from rfl); omega) (by have cc0 := (show Int32.toInt 0 = 0 from rfl); have cc1 := (show Int32.toInt 1 = 1 from rfl); omega)
abbrev F_X10_readWord_2 : List (Nat × Nat × Nat) := [(65, 2, 2)]
set_option maxRecDepth 20000 in
set_option maxHeartbeats 4000000 in
theorem t_X10_readWord_2  {h : im_H} (hI : tI h)  : CaP 2 58 [.ref 81, .ref 8] h (mI h F_X10_readWord_2 (fun y => (-1) ≤ y.toInt ∧ y.toInt ≤ 7)) := by
  refine cap_of (d := 1) (M := mX10_readWord) rfl (Nat.le_of_ble_eq_true rfl) ?_
  show EvP im_K0 1 mX10_readWord (0, [(0, .ref 81), (1, .ref 8)], [], h) _
  have f0 : fr F_X10_readWord_2 h h := fr_rf
  refine te_iconst (p2 := 1) (x := 0) rfl rfl (by decide) ?_
  refine te_istore_n (p2 := 2) (lv2 := [(2, .int 0), (0, .ref 81), (1, .ref 8)]) rfl rfl (by decide) rfl ?_
  refine te_iconst (p2 := 3) (x := 0) rfl rfl (by decide) ?_
  refine te_istore_n (p2 := 4) (lv2 := [(3, .int 0), (2, .int 0), (0, .ref 81), (1, .ref 8)]) rfl rfl (by decide) rfl ?_
  refine te_iconst (p2 := 5) (x := 0) rfl rfl (by decide) ?_
  refine te_istore (p2 := 7) (lv2 := [(4, .int 0), (3, .int 0), (2, .int 0), (0, .ref 81), (1, .ref 8)]) rfl rfl (by decide) rfl ?_
  refine te_iconst (p2 := 8) (x := 1) rfl rfl (by decide) ?_
  refine te_istore (p2 := 10) (lv2 := [(5, .int 1), (4, .int 0), (3, .int 0), (2, .int 0), (0, .ref 81), (1, .ref 8)]) rfl rfl (by decide) rfl ?_
  refine te_iconst (p2 := 11) (x := 0) rfl rfl (by decide) ?_
  refine te_istore (p2 := 13) (lv2 := [(6, .int 0), (5, .int 1), (4, .int 0), (3, .int 0), (2, .int 0), (0, .ref 81), (1, .ref 8)]) rfl rfl (by decide) rfl ?_
  obtain ⟨v2, e2, y2, w2, a2, b2, _⟩ := hI.2.1 65 2 (.inl (0, 160, 9999999999)) rfl
  subst w2
  have lp1 : ∀ (n1 : Nat) (v1_2 v1_3 v1_4 v1_5 v1_6 t1_pl : Int32) (h1 : im_H), tI h1 → fr F_X10_readWord_2 h h1 → 0 ≤ v1_2.toInt → v1_2.toInt ≤ 160 → 0 ≤ v1_3.toInt → v1_3.toInt ≤ 60 → 0 ≤ v1_4.toInt → v1_4.toInt ≤ 160 → 0 ≤ v1_5.toInt → v1_5.toInt ≤ 1 → 0 ≤ v1_6.toInt → v1_6.toInt ≤ 40 → rd h1 65 2 = some (.int t1_pl) → 0 ≤ t1_pl.toInt → t1_pl.toInt ≤ 160 → t1_pl.toInt + v1_4.toInt ≤ 160 → t1_pl.toInt + v1_2.toInt ≤ 160 → v1_3.toInt ≤ v1_6.toInt → v1_3.toInt ≤ cntB v1_6.toInt.toNat → 40 - v1_6.toInt < (n1 : Int) → EvP im_K0 1 mX10_readWord (13, [(0, .ref 81), (1, .ref 8), (2, .int v1_2), (3, .int v1_3), (4, .int v1_4), (5, .int v1_5), (6, .int v1_6)], [], h1) (mI h F_X10_readWord_2 (fun y => (-1) ≤ y.toInt ∧ y.toInt ≤ 7)) := by
    intro n1
    induction n1 with
    | zero => intro v1_2 v1_3 v1_4 v1_5 v1_6 t1_pl h1 I1 f1 a1_2 b1_2 a1_3 b1_3 a1_4 b1_4 a1_5 b1_5 a1_6 b1_6 v1_pl va1_pl vb1_pl l1_0 l1_1 l1_2 w1_0 m1; exfalso; omega
    | succ n1 ih1 =>
      intro v1_2 v1_3 v1_4 v1_5 v1_6 t1_pl h1 I1 f1 a1_2 b1_2 a1_3 b1_3 a1_4 b1_4 a1_5 b1_5 a1_6 b1_6 v1_pl va1_pl vb1_pl l1_0 l1_1 l1_2 w1_0 m1
      refine te_iload (p2 := 15) rfl rfl rfl ?_
      refine te_aload_n (p2 := 16) rfl rfl rfl ?_
      refine te_txl (p2 := 19) (l := im_txt.getD 2 []) (x := 40) rfl rfl (by decide) rfl rfl rfl ?_
      refine tb_ge (p2 := 22) rfl rfl rfl (show Int32.toInt 40 = 40 from rfl) (fun c3 => ?_) (fun c3 => ?_)
      · refine te_aload_n (p2 := 118) rfl rfl rfl ?_
        refine te_dup (p2 := 119) rfl rfl rfl ?_
        refine tg_e (p2 := 122) (i := 65) (v := .int t1_pl) rfl rfl I1 rfl rfl v1_pl ?_
        refine te_iload_n (p2 := 123) rfl rfl rfl ?_
        refine ar_add (p2 := 124) rfl rfl rfl rfl (by omega) (by omega) (fun z4 e4 f4 => ?_)
        refine tp_i (p2 := 127) (i := 65) rfl rfl I1 rfl rfl (by decide) rfl rfl rfl (by omega) (by omega) (by omega) rfl (fun h5 I5 u5 => ?_)
        have f5 := fr_st (F := F_X10_readWord_2) 0 f1 u5 rfl (by decide) (by decide)
        refine te_iconst (p2 := 128) (x := (-1)) rfl rfl (by decide) ?_
        exact te_iret rfl rfl ⟨I5, f5, _, rfl, by decide, by decide⟩
      · refine te_aload_n (p2 := 23) rfl rfl rfl ?_
        refine te_iload (p2 := 25) rfl rfl rfl ?_
        refine te_txc (p2 := 28) (l := im_txt.getD 2 []) (n := 40) (lo := 32) (hi := 121) rfl rfl (by decide) rfl rfl (by decide) rfl (by omega) (by omega) (fun y6 a6 b6 e6 => ?_)
        obtain ⟨kb7, kc7⟩ := cntB_ok v1_6.toInt.toNat (by omega)
        have kd7 : y6.toInt = 32 → cntB v1_6.toInt.toNat ≤ 7 ∧ cntB (v1_6.toInt.toNat + 1) = cntB v1_6.toInt.toNat + 1 := fun e => kc7 (e6.trans (i32_ext e))
        clear kc7
        refine te_istore (p2 := 30) (lv2 := [(7, .int y6), (0, .ref 81), (1, .ref 8), (2, .int v1_2), (3, .int v1_3), (4, .int v1_4), (5, .int v1_5), (6, .int v1_6)]) rfl rfl (by decide) rfl ?_
        refine te_iload (p2 := 32) rfl rfl rfl ?_
        refine te_bipush (p2 := 34) (x := 32) rfl rfl (by decide) ?_
        refine tb_ne (p2 := 37) rfl rfl rfl (show Int32.toInt 32 = 32 from rfl) (fun c8 => ?_) (fun c8 => ?_)
        · refine te_iload (p2 := 57) rfl rfl rfl ?_
          refine te_bipush (p2 := 59) (x := 32) rfl rfl (by decide) ?_
          refine tb_ne (p2 := 62) rfl rfl rfl (show Int32.toInt 32 = 32 from rfl) (fun c9 => ?_) (fun c9 => absurd c9 (by omega))
          refine te_iload (p2 := 76) rfl rfl rfl ?_
          refine tz_eq (p2 := 79) rfl rfl rfl (fun c10 => ?_) (fun c10 => ?_)
          · refine te_iconst (p2 := 109) (x := 0) rfl rfl (by decide) ?_
            refine te_istore (p2 := 111) (lv2 := [(5, .int 0), (7, .int y6), (0, .ref 81), (1, .ref 8), (2, .int v1_2), (3, .int v1_3), (4, .int v1_4), (6, .int v1_6)]) rfl rfl (by decide) rfl ?_
            refine ar_inc (p2 := 114) (x := v1_6) rfl rfl (by decide) rfl (by decide) rfl (by omega) (by omega) (fun z11 e11 f11 => ?_)
            show EvP _ _ _ (114, [(6, .int z11), (5, .int 0), (7, .int y6), (0, .ref 81), (1, .ref 8), (2, .int v1_2), (3, .int v1_3), (4, .int v1_4)], [], h1) _
            refine te_goto rfl ?_
            refine te_lv [(0, .ref 81), (1, .ref 8), (2, .int v1_2), (3, .int v1_3), (4, .int v1_4), (5, .int 0), (6, .int z11)] rfl rfl ⟨rfl, rfl, rfl, rfl, rfl, rfl, rfl, trivial⟩ ?_
            exact ih1 v1_2 v1_3 v1_4 0 z11 t1_pl h1 I1 f1 (by omega) (by omega) (by omega) (by omega) (by omega) (by omega) (by decide) (by decide) (by omega) (by omega) v1_pl (by omega) (by omega) (by have cc0 := (show Int32.toInt 0 = 0 from rfl); omega) (by have cc0 := (show Int32.toInt 0 = 0 from rfl); omega) (by have cc0 := (show Int32.toInt 0 = 0 from rfl); omega) (by have hz : z11.toInt.toNat = v1_6.toInt.toNat + 1 := (by omega); rw [hz]; omega) (by have cc0 := (show Int32.toInt 0 = 0 from rfl); omega)
          · refine te_aload_n (p2 := 80) rfl rfl rfl ?_
            refine te_aload_n (p2 := 81) rfl rfl rfl ?_
            refine tg_e (p2 := 84) (i := 65) (v := .int t1_pl) rfl rfl I1 rfl rfl v1_pl ?_
            refine te_iload (p2 := 86) rfl rfl rfl ?_
            refine ar_add (p2 := 87) rfl rfl rfl rfl (by omega) (by omega) (fun z12 e12 f12 => ?_)
            refine cV_pI (p2 := 90) (i := 65) rfl rfl rfl rfl I1 rfl rfl rfl (t_X10_byteAt (i := z12) I1 (by omega)) (by decide) (fun y13 r13 => ?_)
            obtain ⟨tp13, et13, ta13, tb13, r13⟩ := r13
            rcases r13 with r13 | r13
            · refine te_iload (p2 := 92) rfl rfl rfl ?_
              refine tb_ne (p2 := 95) rfl rfl rfl rfl (fun c14 => ?_) (fun c14 => ?_)
              · refine te_iconst (p2 := 109) (x := 0) rfl rfl (by decide) ?_
                refine te_istore (p2 := 111) (lv2 := [(5, .int 0), (7, .int y6), (0, .ref 81), (1, .ref 8), (2, .int v1_2), (3, .int v1_3), (4, .int v1_4), (6, .int v1_6)]) rfl rfl (by decide) rfl ?_
                refine ar_inc (p2 := 114) (x := v1_6) rfl rfl (by decide) rfl (by decide) rfl (by omega) (by omega) (fun z15 e15 f15 => ?_)
                show EvP _ _ _ (114, [(6, .int z15), (5, .int 0), (7, .int y6), (0, .ref 81), (1, .ref 8), (2, .int v1_2), (3, .int v1_3), (4, .int v1_4)], [], h1) _
                refine te_goto rfl ?_
                refine te_lv [(0, .ref 81), (1, .ref 8), (2, .int v1_2), (3, .int v1_3), (4, .int v1_4), (5, .int 0), (6, .int z15)] rfl rfl ⟨rfl, rfl, rfl, rfl, rfl, rfl, rfl, trivial⟩ ?_
                exact ih1 v1_2 v1_3 v1_4 0 z15 t1_pl h1 I1 f1 (by omega) (by omega) (by omega) (by omega) (by omega) (by omega) (by decide) (by decide) (by omega) (by omega) v1_pl (by omega) (by omega) (by have cc0 := (show Int32.toInt 0 = 0 from rfl); omega) (by have cc0 := (show Int32.toInt 0 = 0 from rfl); omega) (by have cc0 := (show Int32.toInt 0 = 0 from rfl); omega) (by have hz : z15.toInt.toNat = v1_6.toInt.toNat + 1 := (by omega); rw [hz]; omega) (by have cc0 := (show Int32.toInt 0 = 0 from rfl); omega)
              · refine ar_inc (p2 := 98) (x := v1_4) rfl rfl (by decide) rfl (by decide) rfl (by omega) (by omega) (fun z16 e16 f16 => ?_)
                show EvP _ _ _ (98, [(4, .int z16), (7, .int y6), (0, .ref 81), (1, .ref 8), (2, .int v1_2), (3, .int v1_3), (5, .int v1_5), (6, .int v1_6)], [], h1) _
                refine te_iload_n (p2 := 99) rfl rfl rfl ?_
                refine te_iload (p2 := 101) rfl rfl rfl ?_
                refine ar_max (p2 := 104) rfl rfl rfl rfl rfl (fun z17 e17 f17 => ?_)
                refine te_istore_n (p2 := 105) (lv2 := [(2, .int z17), (4, .int z16), (7, .int y6), (0, .ref 81), (1, .ref 8), (3, .int v1_3), (5, .int v1_5), (6, .int v1_6)]) rfl rfl (by decide) rfl ?_
                refine te_goto rfl ?_
                refine ar_inc (p2 := 114) (x := v1_6) rfl rfl (by decide) rfl (by decide) rfl (by omega) (by omega) (fun z18 e18 f18 => ?_)
                show EvP _ _ _ (114, [(6, .int z18), (2, .int z17), (4, .int z16), (7, .int y6), (0, .ref 81), (1, .ref 8), (3, .int v1_3), (5, .int v1_5)], [], h1) _
                refine te_goto rfl ?_
                refine te_lv [(0, .ref 81), (1, .ref 8), (2, .int z17), (3, .int v1_3), (4, .int z16), (5, .int v1_5), (6, .int z18)] rfl rfl ⟨rfl, rfl, rfl, rfl, rfl, rfl, rfl, trivial⟩ ?_
                exact ih1 z17 v1_3 z16 v1_5 z18 t1_pl h1 I1 f1 (by omega) (by omega) (by omega) (by omega) (by omega) (by omega) (by omega) (by omega) (by omega) (by omega) v1_pl (by omega) (by omega) (by omega) (by omega) (by omega) (by have hz : z18.toInt.toNat = v1_6.toInt.toNat + 1 := (by omega); rw [hz]; omega) (by omega)
            · subst r13
              refine te_iload (p2 := 92) rfl rfl rfl ?_
              refine tb_ne (p2 := 95) rfl rfl (show Int32.toInt (-1) = (-1) from rfl) rfl (fun c19 => ?_) (fun c19 => absurd c19 (by omega))
              refine te_iconst (p2 := 109) (x := 0) rfl rfl (by decide) ?_
              refine te_istore (p2 := 111) (lv2 := [(5, .int 0), (7, .int y6), (0, .ref 81), (1, .ref 8), (2, .int v1_2), (3, .int v1_3), (4, .int v1_4), (6, .int v1_6)]) rfl rfl (by decide) rfl ?_
              refine ar_inc (p2 := 114) (x := v1_6) rfl rfl (by decide) rfl (by decide) rfl (by omega) (by omega) (fun z20 e20 f20 => ?_)
              show EvP _ _ _ (114, [(6, .int z20), (5, .int 0), (7, .int y6), (0, .ref 81), (1, .ref 8), (2, .int v1_2), (3, .int v1_3), (4, .int v1_4)], [], h1) _
              refine te_goto rfl ?_
              refine te_lv [(0, .ref 81), (1, .ref 8), (2, .int v1_2), (3, .int v1_3), (4, .int v1_4), (5, .int 0), (6, .int z20)] rfl rfl ⟨rfl, rfl, rfl, rfl, rfl, rfl, rfl, trivial⟩ ?_
              exact ih1 v1_2 v1_3 v1_4 0 z20 t1_pl h1 I1 f1 (by omega) (by omega) (by omega) (by omega) (by omega) (by omega) (by decide) (by decide) (by omega) (by omega) v1_pl (by omega) (by omega) (by have cc0 := (show Int32.toInt 0 = 0 from rfl); omega) (by have cc0 := (show Int32.toInt 0 = 0 from rfl); omega) (by have cc0 := (show Int32.toInt 0 = 0 from rfl); omega) (by have hz : z20.toInt.toNat = v1_6.toInt.toNat + 1 := (by omega); rw [hz]; omega) (by have cc0 := (show Int32.toInt 0 = 0 from rfl); omega)
        · refine te_iload (p2 := 39) rfl rfl rfl ?_
          refine tz_eq (p2 := 42) rfl rfl rfl (fun c21 => ?_) (fun c21 => ?_)
          · refine te_iload (p2 := 57) rfl rfl rfl ?_
            refine te_bipush (p2 := 59) (x := 32) rfl rfl (by decide) ?_
            refine tb_ne (p2 := 62) rfl rfl rfl (show Int32.toInt 32 = 32 from rfl) (fun c22 => absurd c22 (by omega)) (fun c22 => ?_)
            refine ar_inc (p2 := 65) (x := v1_3) rfl rfl (by decide) rfl (by decide) rfl (by omega) (by omega) (fun z23 e23 f23 => ?_)
            show EvP _ _ _ (65, [(3, .int z23), (7, .int y6), (0, .ref 81), (1, .ref 8), (2, .int v1_2), (4, .int v1_4), (5, .int v1_5), (6, .int v1_6)], [], h1) _
            refine te_iconst (p2 := 66) (x := 0) rfl rfl (by decide) ?_
            refine te_istore (p2 := 68) (lv2 := [(4, .int 0), (3, .int z23), (7, .int y6), (0, .ref 81), (1, .ref 8), (2, .int v1_2), (5, .int v1_5), (6, .int v1_6)]) rfl rfl (by decide) rfl ?_
            refine te_iconst (p2 := 69) (x := 1) rfl rfl (by decide) ?_
            refine te_istore (p2 := 71) (lv2 := [(5, .int 1), (4, .int 0), (3, .int z23), (7, .int y6), (0, .ref 81), (1, .ref 8), (2, .int v1_2), (6, .int v1_6)]) rfl rfl (by decide) rfl ?_
            refine te_goto rfl ?_
            refine ar_inc (p2 := 114) (x := v1_6) rfl rfl (by decide) rfl (by decide) rfl (by omega) (by omega) (fun z24 e24 f24 => ?_)
            show EvP _ _ _ (114, [(6, .int z24), (5, .int 1), (4, .int 0), (3, .int z23), (7, .int y6), (0, .ref 81), (1, .ref 8), (2, .int v1_2)], [], h1) _
            refine te_goto rfl ?_
            refine te_lv [(0, .ref 81), (1, .ref 8), (2, .int v1_2), (3, .int z23), (4, .int 0), (5, .int 1), (6, .int z24)] rfl rfl ⟨rfl, rfl, rfl, rfl, rfl, rfl, rfl, trivial⟩ ?_
            exact ih1 v1_2 z23 0 1 z24 t1_pl h1 I1 f1 (by omega) (by omega) (by omega) (by omega) (by decide) (by decide) (by decide) (by decide) (by omega) (by omega) v1_pl (by omega) (by omega) (by have cc0 := (show Int32.toInt 0 = 0 from rfl); have cc1 := (show Int32.toInt 1 = 1 from rfl); omega) (by have cc0 := (show Int32.toInt 0 = 0 from rfl); have cc1 := (show Int32.toInt 1 = 1 from rfl); omega) (by have cc0 := (show Int32.toInt 0 = 0 from rfl); have cc1 := (show Int32.toInt 1 = 1 from rfl); omega) (by have hz : z24.toInt.toNat = v1_6.toInt.toNat + 1 := (by omega); rw [hz]; omega) (by have cc0 := (show Int32.toInt 0 = 0 from rfl); have cc1 := (show Int32.toInt 1 = 1 from rfl); omega)
          · refine te_aload_n (p2 := 43) rfl rfl rfl ?_
            refine te_dup (p2 := 44) rfl rfl rfl ?_
            refine tg_e (p2 := 47) (i := 65) (v := .int t1_pl) rfl rfl I1 rfl rfl v1_pl ?_
            refine te_iload (p2 := 49) rfl rfl rfl ?_
            refine ar_add (p2 := 50) rfl rfl rfl rfl (by omega) (by omega) (fun z25 e25 f25 => ?_)
            refine tp_i (p2 := 53) (i := 65) rfl rfl I1 rfl rfl (by decide) rfl rfl rfl (by omega) (by omega) (by omega) rfl (fun h26 I26 u26 => ?_)
            have f26 := fr_st (F := F_X10_readWord_2) 0 f1 u26 rfl (by decide) (by decide)
            refine te_iload_n (p2 := 54) rfl rfl rfl ?_
            exact te_iret rfl rfl ⟨I26, f26, _, rfl, by omega, by omega⟩
  refine te_lv [(0, .ref 81), (1, .ref 8), (2, .int 0), (3, .int 0), (4, .int 0), (5, .int 1), (6, .int 0)] rfl rfl ⟨rfl, rfl, rfl, rfl, rfl, rfl, rfl, trivial⟩ ?_
  exact lp1 41 0 0 0 1 0 y2 h hI f0 (by decide) (by decide) (by decide) (by decide) (by decide) (by decide) (by decide) (by decide) (by decide) (by decide) e2 (by omega) (by omega) (by have cc0 := (show Int32.toInt 0 = 0 from rfl); have cc1 := (show Int32.toInt 1 = 1 from rfl); omega) (by have cc0 := (show Int32.toInt 0 = 0 from rfl); have cc1 := (show Int32.toInt 1 = 1 from rfl); omega) (by have cc0 := (show Int32.toInt 0 = 0 from rfl); have cc1 := (show Int32.toInt 1 = 1 from rfl); omega) (by rw [show (Int32.toInt 0).toNat = 0 from rfl, cntB_0]; decide) (by have cc0 := (show Int32.toInt 0 = 0 from rfl); have cc1 := (show Int32.toInt 1 = 1 from rfl); omega)
abbrev F_X10_readWord_3 : List (Nat × Nat × Nat) := [(65, 2, 2)]
set_option maxRecDepth 20000 in
set_option maxHeartbeats 4000000 in
theorem t_X10_readWord_3  {h : im_H} (hI : tI h)  : CaP 2 58 [.ref 81, .ref 9] h (mI h F_X10_readWord_3 (fun y => (-1) ≤ y.toInt ∧ y.toInt ≤ 60)) := by
  refine cap_of (d := 1) (M := mX10_readWord) rfl (Nat.le_of_ble_eq_true rfl) ?_
  show EvP im_K0 1 mX10_readWord (0, [(0, .ref 81), (1, .ref 9)], [], h) _
  have f0 : fr F_X10_readWord_3 h h := fr_rf
  refine te_iconst (p2 := 1) (x := 0) rfl rfl (by decide) ?_
  refine te_istore_n (p2 := 2) (lv2 := [(2, .int 0), (0, .ref 81), (1, .ref 9)]) rfl rfl (by decide) rfl ?_
  refine te_iconst (p2 := 3) (x := 0) rfl rfl (by decide) ?_
  refine te_istore_n (p2 := 4) (lv2 := [(3, .int 0), (2, .int 0), (0, .ref 81), (1, .ref 9)]) rfl rfl (by decide) rfl ?_
  refine te_iconst (p2 := 5) (x := 0) rfl rfl (by decide) ?_
  refine te_istore (p2 := 7) (lv2 := [(4, .int 0), (3, .int 0), (2, .int 0), (0, .ref 81), (1, .ref 9)]) rfl rfl (by decide) rfl ?_
  refine te_iconst (p2 := 8) (x := 1) rfl rfl (by decide) ?_
  refine te_istore (p2 := 10) (lv2 := [(5, .int 1), (4, .int 0), (3, .int 0), (2, .int 0), (0, .ref 81), (1, .ref 9)]) rfl rfl (by decide) rfl ?_
  refine te_iconst (p2 := 11) (x := 0) rfl rfl (by decide) ?_
  refine te_istore (p2 := 13) (lv2 := [(6, .int 0), (5, .int 1), (4, .int 0), (3, .int 0), (2, .int 0), (0, .ref 81), (1, .ref 9)]) rfl rfl (by decide) rfl ?_
  obtain ⟨v2, e2, y2, w2, a2, b2, _⟩ := hI.2.1 65 2 (.inl (0, 160, 9999999999)) rfl
  subst w2
  have lp1 : ∀ (n1 : Nat) (v1_2 v1_3 v1_4 v1_5 v1_6 t1_pl : Int32) (h1 : im_H), tI h1 → fr F_X10_readWord_3 h h1 → 0 ≤ v1_2.toInt → v1_2.toInt ≤ 160 → 0 ≤ v1_3.toInt → v1_3.toInt ≤ 60 → 0 ≤ v1_4.toInt → v1_4.toInt ≤ 160 → 0 ≤ v1_5.toInt → v1_5.toInt ≤ 1 → 0 ≤ v1_6.toInt → v1_6.toInt ≤ 6 → rd h1 65 2 = some (.int t1_pl) → 0 ≤ t1_pl.toInt → t1_pl.toInt ≤ 160 → t1_pl.toInt + v1_4.toInt ≤ 160 → t1_pl.toInt + v1_2.toInt ≤ 160 → v1_3.toInt ≤ v1_6.toInt → 6 - v1_6.toInt < (n1 : Int) → EvP im_K0 1 mX10_readWord (13, [(0, .ref 81), (1, .ref 9), (2, .int v1_2), (3, .int v1_3), (4, .int v1_4), (5, .int v1_5), (6, .int v1_6)], [], h1) (mI h F_X10_readWord_3 (fun y => (-1) ≤ y.toInt ∧ y.toInt ≤ 60)) := by
    intro n1
    induction n1 with
    | zero => intro v1_2 v1_3 v1_4 v1_5 v1_6 t1_pl h1 I1 f1 a1_2 b1_2 a1_3 b1_3 a1_4 b1_4 a1_5 b1_5 a1_6 b1_6 v1_pl va1_pl vb1_pl l1_0 l1_1 l1_2 m1; exfalso; omega
    | succ n1 ih1 =>
      intro v1_2 v1_3 v1_4 v1_5 v1_6 t1_pl h1 I1 f1 a1_2 b1_2 a1_3 b1_3 a1_4 b1_4 a1_5 b1_5 a1_6 b1_6 v1_pl va1_pl vb1_pl l1_0 l1_1 l1_2 m1
      refine te_iload (p2 := 15) rfl rfl rfl ?_
      refine te_aload_n (p2 := 16) rfl rfl rfl ?_
      refine te_txl (p2 := 19) (l := im_txt.getD 3 []) (x := 6) rfl rfl (by decide) rfl rfl rfl ?_
      refine tb_ge (p2 := 22) rfl rfl rfl (show Int32.toInt 6 = 6 from rfl) (fun c3 => ?_) (fun c3 => ?_)
      · refine te_aload_n (p2 := 118) rfl rfl rfl ?_
        refine te_dup (p2 := 119) rfl rfl rfl ?_
        refine tg_e (p2 := 122) (i := 65) (v := .int t1_pl) rfl rfl I1 rfl rfl v1_pl ?_
        refine te_iload_n (p2 := 123) rfl rfl rfl ?_
        refine ar_add (p2 := 124) rfl rfl rfl rfl (by omega) (by omega) (fun z4 e4 f4 => ?_)
        refine tp_i (p2 := 127) (i := 65) rfl rfl I1 rfl rfl (by decide) rfl rfl rfl (by omega) (by omega) (by omega) rfl (fun h5 I5 u5 => ?_)
        have f5 := fr_st (F := F_X10_readWord_3) 0 f1 u5 rfl (by decide) (by decide)
        refine te_iconst (p2 := 128) (x := (-1)) rfl rfl (by decide) ?_
        exact te_iret rfl rfl ⟨I5, f5, _, rfl, by decide, by decide⟩
      · refine te_aload_n (p2 := 23) rfl rfl rfl ?_
        refine te_iload (p2 := 25) rfl rfl rfl ?_
        refine te_txc (p2 := 28) (l := im_txt.getD 3 []) (n := 6) (lo := 32) (hi := 62) rfl rfl (by decide) rfl rfl (by decide) rfl (by omega) (by omega) (fun y6 a6 b6 e6 => ?_)
        refine te_istore (p2 := 30) (lv2 := [(7, .int y6), (0, .ref 81), (1, .ref 9), (2, .int v1_2), (3, .int v1_3), (4, .int v1_4), (5, .int v1_5), (6, .int v1_6)]) rfl rfl (by decide) rfl ?_
        refine te_iload (p2 := 32) rfl rfl rfl ?_
        refine te_bipush (p2 := 34) (x := 32) rfl rfl (by decide) ?_
        refine tb_ne (p2 := 37) rfl rfl rfl (show Int32.toInt 32 = 32 from rfl) (fun c7 => ?_) (fun c7 => ?_)
        · refine te_iload (p2 := 57) rfl rfl rfl ?_
          refine te_bipush (p2 := 59) (x := 32) rfl rfl (by decide) ?_
          refine tb_ne (p2 := 62) rfl rfl rfl (show Int32.toInt 32 = 32 from rfl) (fun c8 => ?_) (fun c8 => absurd c8 (by omega))
          refine te_iload (p2 := 76) rfl rfl rfl ?_
          refine tz_eq (p2 := 79) rfl rfl rfl (fun c9 => ?_) (fun c9 => ?_)
          · refine te_iconst (p2 := 109) (x := 0) rfl rfl (by decide) ?_
            refine te_istore (p2 := 111) (lv2 := [(5, .int 0), (7, .int y6), (0, .ref 81), (1, .ref 9), (2, .int v1_2), (3, .int v1_3), (4, .int v1_4), (6, .int v1_6)]) rfl rfl (by decide) rfl ?_
            refine ar_inc (p2 := 114) (x := v1_6) rfl rfl (by decide) rfl (by decide) rfl (by omega) (by omega) (fun z10 e10 f10 => ?_)
            show EvP _ _ _ (114, [(6, .int z10), (5, .int 0), (7, .int y6), (0, .ref 81), (1, .ref 9), (2, .int v1_2), (3, .int v1_3), (4, .int v1_4)], [], h1) _
            refine te_goto rfl ?_
            refine te_lv [(0, .ref 81), (1, .ref 9), (2, .int v1_2), (3, .int v1_3), (4, .int v1_4), (5, .int 0), (6, .int z10)] rfl rfl ⟨rfl, rfl, rfl, rfl, rfl, rfl, rfl, trivial⟩ ?_
            exact ih1 v1_2 v1_3 v1_4 0 z10 t1_pl h1 I1 f1 (by omega) (by omega) (by omega) (by omega) (by omega) (by omega) (by decide) (by decide) (by omega) (by omega) v1_pl (by omega) (by omega) (by have cc0 := (show Int32.toInt 0 = 0 from rfl); omega) (by have cc0 := (show Int32.toInt 0 = 0 from rfl); omega) (by have cc0 := (show Int32.toInt 0 = 0 from rfl); omega) (by have cc0 := (show Int32.toInt 0 = 0 from rfl); omega)
          · refine te_aload_n (p2 := 80) rfl rfl rfl ?_
            refine te_aload_n (p2 := 81) rfl rfl rfl ?_
            refine tg_e (p2 := 84) (i := 65) (v := .int t1_pl) rfl rfl I1 rfl rfl v1_pl ?_
            refine te_iload (p2 := 86) rfl rfl rfl ?_
            refine ar_add (p2 := 87) rfl rfl rfl rfl (by omega) (by omega) (fun z11 e11 f11 => ?_)
            refine cV_pI (p2 := 90) (i := 65) rfl rfl rfl rfl I1 rfl rfl rfl (t_X10_byteAt (i := z11) I1 (by omega)) (by decide) (fun y12 r12 => ?_)
            obtain ⟨tp12, et12, ta12, tb12, r12⟩ := r12
            rcases r12 with r12 | r12
            · refine te_iload (p2 := 92) rfl rfl rfl ?_
              refine tb_ne (p2 := 95) rfl rfl rfl rfl (fun c13 => ?_) (fun c13 => ?_)
              · refine te_iconst (p2 := 109) (x := 0) rfl rfl (by decide) ?_
                refine te_istore (p2 := 111) (lv2 := [(5, .int 0), (7, .int y6), (0, .ref 81), (1, .ref 9), (2, .int v1_2), (3, .int v1_3), (4, .int v1_4), (6, .int v1_6)]) rfl rfl (by decide) rfl ?_
                refine ar_inc (p2 := 114) (x := v1_6) rfl rfl (by decide) rfl (by decide) rfl (by omega) (by omega) (fun z14 e14 f14 => ?_)
                show EvP _ _ _ (114, [(6, .int z14), (5, .int 0), (7, .int y6), (0, .ref 81), (1, .ref 9), (2, .int v1_2), (3, .int v1_3), (4, .int v1_4)], [], h1) _
                refine te_goto rfl ?_
                refine te_lv [(0, .ref 81), (1, .ref 9), (2, .int v1_2), (3, .int v1_3), (4, .int v1_4), (5, .int 0), (6, .int z14)] rfl rfl ⟨rfl, rfl, rfl, rfl, rfl, rfl, rfl, trivial⟩ ?_
                exact ih1 v1_2 v1_3 v1_4 0 z14 t1_pl h1 I1 f1 (by omega) (by omega) (by omega) (by omega) (by omega) (by omega) (by decide) (by decide) (by omega) (by omega) v1_pl (by omega) (by omega) (by have cc0 := (show Int32.toInt 0 = 0 from rfl); omega) (by have cc0 := (show Int32.toInt 0 = 0 from rfl); omega) (by have cc0 := (show Int32.toInt 0 = 0 from rfl); omega) (by have cc0 := (show Int32.toInt 0 = 0 from rfl); omega)
              · refine ar_inc (p2 := 98) (x := v1_4) rfl rfl (by decide) rfl (by decide) rfl (by omega) (by omega) (fun z15 e15 f15 => ?_)
                show EvP _ _ _ (98, [(4, .int z15), (7, .int y6), (0, .ref 81), (1, .ref 9), (2, .int v1_2), (3, .int v1_3), (5, .int v1_5), (6, .int v1_6)], [], h1) _
                refine te_iload_n (p2 := 99) rfl rfl rfl ?_
                refine te_iload (p2 := 101) rfl rfl rfl ?_
                refine ar_max (p2 := 104) rfl rfl rfl rfl rfl (fun z16 e16 f16 => ?_)
                refine te_istore_n (p2 := 105) (lv2 := [(2, .int z16), (4, .int z15), (7, .int y6), (0, .ref 81), (1, .ref 9), (3, .int v1_3), (5, .int v1_5), (6, .int v1_6)]) rfl rfl (by decide) rfl ?_
                refine te_goto rfl ?_
                refine ar_inc (p2 := 114) (x := v1_6) rfl rfl (by decide) rfl (by decide) rfl (by omega) (by omega) (fun z17 e17 f17 => ?_)
                show EvP _ _ _ (114, [(6, .int z17), (2, .int z16), (4, .int z15), (7, .int y6), (0, .ref 81), (1, .ref 9), (3, .int v1_3), (5, .int v1_5)], [], h1) _
                refine te_goto rfl ?_
                refine te_lv [(0, .ref 81), (1, .ref 9), (2, .int z16), (3, .int v1_3), (4, .int z15), (5, .int v1_5), (6, .int z17)] rfl rfl ⟨rfl, rfl, rfl, rfl, rfl, rfl, rfl, trivial⟩ ?_
                exact ih1 z16 v1_3 z15 v1_5 z17 t1_pl h1 I1 f1 (by omega) (by omega) (by omega) (by omega) (by omega) (by omega) (by omega) (by omega) (by omega) (by omega) v1_pl (by omega) (by omega) (by omega) (by omega) (by omega) (by omega)
            · subst r12
              refine te_iload (p2 := 92) rfl rfl rfl ?_
              refine tb_ne (p2 := 95) rfl rfl (show Int32.toInt (-1) = (-1) from rfl) rfl (fun c18 => ?_) (fun c18 => absurd c18 (by omega))
              refine te_iconst (p2 := 109) (x := 0) rfl rfl (by decide) ?_
              refine te_istore (p2 := 111) (lv2 := [(5, .int 0), (7, .int y6), (0, .ref 81), (1, .ref 9), (2, .int v1_2), (3, .int v1_3), (4, .int v1_4), (6, .int v1_6)]) rfl rfl (by decide) rfl ?_
              refine ar_inc (p2 := 114) (x := v1_6) rfl rfl (by decide) rfl (by decide) rfl (by omega) (by omega) (fun z19 e19 f19 => ?_)
              show EvP _ _ _ (114, [(6, .int z19), (5, .int 0), (7, .int y6), (0, .ref 81), (1, .ref 9), (2, .int v1_2), (3, .int v1_3), (4, .int v1_4)], [], h1) _
              refine te_goto rfl ?_
              refine te_lv [(0, .ref 81), (1, .ref 9), (2, .int v1_2), (3, .int v1_3), (4, .int v1_4), (5, .int 0), (6, .int z19)] rfl rfl ⟨rfl, rfl, rfl, rfl, rfl, rfl, rfl, trivial⟩ ?_
              exact ih1 v1_2 v1_3 v1_4 0 z19 t1_pl h1 I1 f1 (by omega) (by omega) (by omega) (by omega) (by omega) (by omega) (by decide) (by decide) (by omega) (by omega) v1_pl (by omega) (by omega) (by have cc0 := (show Int32.toInt 0 = 0 from rfl); omega) (by have cc0 := (show Int32.toInt 0 = 0 from rfl); omega) (by have cc0 := (show Int32.toInt 0 = 0 from rfl); omega) (by have cc0 := (show Int32.toInt 0 = 0 from rfl); omega)
        · refine te_iload (p2 := 39) rfl rfl rfl ?_
          refine tz_eq (p2 := 42) rfl rfl rfl (fun c20 => ?_) (fun c20 => ?_)
          · refine te_iload (p2 := 57) rfl rfl rfl ?_
            refine te_bipush (p2 := 59) (x := 32) rfl rfl (by decide) ?_
            refine tb_ne (p2 := 62) rfl rfl rfl (show Int32.toInt 32 = 32 from rfl) (fun c21 => absurd c21 (by omega)) (fun c21 => ?_)
            refine ar_inc (p2 := 65) (x := v1_3) rfl rfl (by decide) rfl (by decide) rfl (by omega) (by omega) (fun z22 e22 f22 => ?_)
            show EvP _ _ _ (65, [(3, .int z22), (7, .int y6), (0, .ref 81), (1, .ref 9), (2, .int v1_2), (4, .int v1_4), (5, .int v1_5), (6, .int v1_6)], [], h1) _
            refine te_iconst (p2 := 66) (x := 0) rfl rfl (by decide) ?_
            refine te_istore (p2 := 68) (lv2 := [(4, .int 0), (3, .int z22), (7, .int y6), (0, .ref 81), (1, .ref 9), (2, .int v1_2), (5, .int v1_5), (6, .int v1_6)]) rfl rfl (by decide) rfl ?_
            refine te_iconst (p2 := 69) (x := 1) rfl rfl (by decide) ?_
            refine te_istore (p2 := 71) (lv2 := [(5, .int 1), (4, .int 0), (3, .int z22), (7, .int y6), (0, .ref 81), (1, .ref 9), (2, .int v1_2), (6, .int v1_6)]) rfl rfl (by decide) rfl ?_
            refine te_goto rfl ?_
            refine ar_inc (p2 := 114) (x := v1_6) rfl rfl (by decide) rfl (by decide) rfl (by omega) (by omega) (fun z23 e23 f23 => ?_)
            show EvP _ _ _ (114, [(6, .int z23), (5, .int 1), (4, .int 0), (3, .int z22), (7, .int y6), (0, .ref 81), (1, .ref 9), (2, .int v1_2)], [], h1) _
            refine te_goto rfl ?_
            refine te_lv [(0, .ref 81), (1, .ref 9), (2, .int v1_2), (3, .int z22), (4, .int 0), (5, .int 1), (6, .int z23)] rfl rfl ⟨rfl, rfl, rfl, rfl, rfl, rfl, rfl, trivial⟩ ?_
            exact ih1 v1_2 z22 0 1 z23 t1_pl h1 I1 f1 (by omega) (by omega) (by omega) (by omega) (by decide) (by decide) (by decide) (by decide) (by omega) (by omega) v1_pl (by omega) (by omega) (by have cc0 := (show Int32.toInt 0 = 0 from rfl); have cc1 := (show Int32.toInt 1 = 1 from rfl); omega) (by have cc0 := (show Int32.toInt 0 = 0 from rfl); have cc1 := (show Int32.toInt 1 = 1 from rfl); omega) (by have cc0 := (show Int32.toInt 0 = 0 from rfl); have cc1 := (show Int32.toInt 1 = 1 from rfl); omega) (by have cc0 := (show Int32.toInt 0 = 0 from rfl); have cc1 := (show Int32.toInt 1 = 1 from rfl); omega)
          · refine te_aload_n (p2 := 43) rfl rfl rfl ?_
            refine te_dup (p2 := 44) rfl rfl rfl ?_
            refine tg_e (p2 := 47) (i := 65) (v := .int t1_pl) rfl rfl I1 rfl rfl v1_pl ?_
            refine te_iload (p2 := 49) rfl rfl rfl ?_
            refine ar_add (p2 := 50) rfl rfl rfl rfl (by omega) (by omega) (fun z24 e24 f24 => ?_)
            refine tp_i (p2 := 53) (i := 65) rfl rfl I1 rfl rfl (by decide) rfl rfl rfl (by omega) (by omega) (by omega) rfl (fun h25 I25 u25 => ?_)
            have f25 := fr_st (F := F_X10_readWord_3) 0 f1 u25 rfl (by decide) (by decide)
            refine te_iload_n (p2 := 54) rfl rfl rfl ?_
            exact te_iret rfl rfl ⟨I25, f25, _, rfl, by omega, by omega⟩
  refine te_lv [(0, .ref 81), (1, .ref 9), (2, .int 0), (3, .int 0), (4, .int 0), (5, .int 1), (6, .int 0)] rfl rfl ⟨rfl, rfl, rfl, rfl, rfl, rfl, rfl, trivial⟩ ?_
  exact lp1 7 0 0 0 1 0 y2 h hI f0 (by decide) (by decide) (by decide) (by decide) (by decide) (by decide) (by decide) (by decide) (by decide) (by decide) e2 (by omega) (by omega) (by have cc0 := (show Int32.toInt 0 = 0 from rfl); have cc1 := (show Int32.toInt 1 = 1 from rfl); omega) (by have cc0 := (show Int32.toInt 0 = 0 from rfl); have cc1 := (show Int32.toInt 1 = 1 from rfl); omega) (by have cc0 := (show Int32.toInt 0 = 0 from rfl); have cc1 := (show Int32.toInt 1 = 1 from rfl); omega) (by have cc0 := (show Int32.toInt 0 = 0 from rfl); have cc1 := (show Int32.toInt 1 = 1 from rfl); omega)
abbrev F_X10_readIf : List (Nat × Nat × Nat) := [(65, 2, 2)]
set_option maxRecDepth 20000 in
set_option maxHeartbeats 4000000 in
theorem t_X10_readIf  {h : im_H} (hI : tI h)  : CaP 3 53 [.ref 81] h (mI h F_X10_readIf (fun y => 0 ≤ y.toInt ∧ y.toInt ≤ 1)) := by
  refine cap_of (d := 2) (M := mX10_readIf) rfl (Nat.le_of_ble_eq_true rfl) ?_
  show EvP im_K0 2 mX10_readIf (0, [(0, .ref 81)], [], h) _
  have f0 : fr F_X10_readIf h h := fr_rf
  refine te_iconst (p2 := 1) (x := 0) rfl rfl (by decide) ?_
  refine te_istore_n (p2 := 2) (lv2 := [(1, .int 0), (0, .ref 81)]) rfl rfl (by decide) rfl ?_
  have lp1 : ∀ (n1 : Nat) (v1_1 : Int32) (h1 : im_H), tI h1 → fr F_X10_readIf h h1 → 0 ≤ v1_1.toInt → v1_1.toInt ≤ 4 → 4 - v1_1.toInt < (n1 : Int) → EvP im_K0 2 mX10_readIf (2, [(0, .ref 81), (1, .int v1_1)], [], h1) (mI h F_X10_readIf (fun y => 0 ≤ y.toInt ∧ y.toInt ≤ 1)) := by
    intro n1
    induction n1 with
    | zero => intro v1_1 h1 I1 f1 a1_1 b1_1 m1; exfalso; omega
    | succ n1 ih1 =>
      intro v1_1 h1 I1 f1 a1_1 b1_1 m1
      refine te_iload_n (p2 := 3) rfl rfl rfl ?_
      refine te_ldc (p2 := 5) rfl rfl (by decide) ?_
      refine te_txl (p2 := 8) (l := im_txt.getD 1 []) (x := 4) rfl rfl (by decide) rfl rfl rfl ?_
      refine tb_ge (p2 := 11) rfl rfl rfl (show Int32.toInt 4 = 4 from rfl) (fun c2 => ?_) (fun c2 => ?_)
      · refine te_iconst (p2 := 33) (x := 1) rfl rfl (by decide) ?_
        exact te_zret rfl rfl (by decide) ⟨I1, f1, _, rfl, by decide, by decide⟩
      · refine te_aload_n (p2 := 12) rfl rfl rfl ?_
        refine te_ldc (p2 := 14) rfl rfl (by decide) ?_
        refine te_iload_n (p2 := 15) rfl rfl rfl ?_
        refine te_txc (p2 := 18) (l := im_txt.getD 1 []) (n := 4) (lo := 32) (hi := 105) rfl rfl (by decide) rfl rfl (by decide) rfl (by omega) (by omega) (fun y3 a3 b3 e3 => ?_)
        refine cV_mI (p2 := 21) (i := 65) rfl rfl rfl rfl I1 rfl rfl rfl (t_X10_readSign (sign := y3) I1 (by omega) (by omega)) (by decide) (fun y4 h4 I4 g4 r4 => ?_)
        have f4 := fr_tr (F1 := F_X10_readSign) (F := F_X10_readIf) f1 g4 (by decide)
        obtain ⟨a4, b4⟩ := r4
        refine tz_ne (p2 := 24) rfl rfl rfl (fun c5 => ?_) (fun c5 => ?_)
        · refine ar_inc (p2 := 29) (x := v1_1) rfl rfl (by decide) rfl (by decide) rfl (by omega) (by omega) (fun z6 e6 f6 => ?_)
          show EvP _ _ _ (29, [(1, .int z6), (0, .ref 81)], [], h4) _
          refine te_goto rfl ?_
          refine te_lv [(0, .ref 81), (1, .int z6)] rfl rfl ⟨rfl, rfl, trivial⟩ ?_
          exact ih1 z6 h4 I4 f4 (by omega) (by omega) (by omega)
        · refine te_iconst (p2 := 25) (x := 0) rfl rfl (by decide) ?_
          exact te_zret rfl rfl (by decide) ⟨I4, f4, _, rfl, by decide, by decide⟩
  refine te_lv [(0, .ref 81), (1, .int 0)] rfl rfl ⟨rfl, rfl, trivial⟩ ?_
  exact lp1 5 0 h hI f0 (by decide) (by decide) (by have cc0 := (show Int32.toInt 0 = 0 from rfl); omega)
abbrev F_X10_readTest (o : Nat) : List (Nat × Nat × Nat) := [((o + 4), 0, 23), ((o + 5), 0, 23), ((o + 6), 0, 23), (65, 2, 2)]
set_option maxRecDepth 20000 in
set_option maxHeartbeats 4000000 in
theorem t_X10_readTest {o : Nat} {test : Int32} {ln : Int32} {gc : Int32} {h : im_H} (hI : tI h) (q_o : o = 98 ∨ o = 105 ∨ o = 112 ∨ o = 119 ∨ o = 126 ∨ o = 133) (p_test0 : 0 ≤ test.toInt) (p_test1 : test.toInt ≤ 23) (hg0 : rd h (o + 3) ln.toInt.toNat = some (.int gc)) (ga0 : 0 ≤ gc.toInt) (gb0 : gc.toInt ≤ 2) (pr0 : 0 ≤ ln.toInt) (pr1 : ln.toInt ≤ 7) (pr2 : test.toInt = 3 * ln.toInt + gc.toInt) : CaP 3 55 [.ref 81, .ref (16 + o), .int test] h (fun v h2 => tI h2 ∧ fr (F_X10_readTest o) h h2 ∧ ∃ y : Int32, v = some (.int y) ∧ (y = 0 ∨ (y = 1 ∧ ∃ f : Int32, rd h2 (o + 4) test.toInt.toNat = some (.int f) ∧ 0 ≤ f.toInt))) := by
  refine cap_of (d := 2) (M := mX10_readTest) rfl (Nat.le_of_ble_eq_true rfl) ?_
  show EvP im_K0 2 mX10_readTest (0, [(0, .ref 81), (1, .ref (16 + o)), (2, .int test)], [], h) _
  have f0 : fr (F_X10_readTest o) h h := fr_rf
  refine te_aload_n (p2 := 1) rfl rfl rfl ?_
  refine tg_r (p2 := 4) (i := o) (r := (16 + (o + 4))) rfl rfl hI rfl (by rcases q_o with rfl | rfl | rfl | rfl | rfl | rfl <;> rfl) (by rcases q_o with rfl | rfl | rfl | rfl | rfl | rfl <;> rfl) ?_
  refine te_iload_n (p2 := 5) rfl rfl rfl ?_
  refine te_aload_n (p2 := 6) rfl rfl rfl ?_
  refine te_ldc (p2 := 8) rfl rfl (by decide) ?_
  refine cV_mI (p2 := 11) (i := 65) rfl rfl rfl rfl hI rfl rfl rfl (t_X10_readWord_2  hI ) (by decide) (fun y1 h1 I1 g1 r1 => ?_)
  have f1 := fr_tr (F1 := F_X10_readWord_2) (F := (F_X10_readTest o)) f0 g1 (by rcases q_o with rfl | rfl | rfl | rfl | rfl | rfl <;> decide)
  obtain ⟨a1, b1⟩ := r1
  refine ts_iO (p2 := 12) (i := (o + 4)) (n := 24) rfl rfl I1 rfl (by rcases q_o with rfl | rfl | rfl | rfl | rfl | rfl <;> rfl) (by rcases q_o with rfl | rfl | rfl | rfl | rfl | rfl <;> rfl) rfl (by omega) (by omega) (by omega) (by omega) (by omega) (fun h2 hu => tO_field (c := gc) (l := ln.toInt.toNat) I1.2.2 (by rcases q_o with rfl | rfl | rfl | rfl | rfl | rfl <;> decide) ((g1 _ _ (by rcases q_o with rfl | rfl | rfl | rfl | rfl | rfl <;> rfl)).trans hg0) (by omega) (by omega) (by omega) hu) (fun h2 I2 u2 => ?_)
  have f2 := fr_st (F := (F_X10_readTest o)) 0 f1 u2 rfl (by omega) (by omega)
  refine te_aload_n (p2 := 13) rfl rfl rfl ?_
  refine tg_r (p2 := 16) (i := o) (r := (16 + (o + 4))) rfl rfl I2 rfl (by rcases q_o with rfl | rfl | rfl | rfl | rfl | rfl <;> rfl) (by rcases q_o with rfl | rfl | rfl | rfl | rfl | rfl <;> rfl) ?_
  refine te_iload_n (p2 := 17) rfl rfl rfl ?_
  refine tl_e (p2 := 18) (i := (o + 4)) (n := 24) (t := 0) (Or.inl rfl) rfl rfl I2 rfl (by rcases q_o with rfl | rfl | rfl | rfl | rfl | rfl <;> rfl) (by omega) (by omega) u2.1 ?_
  refine tz_ge (p2 := 21) rfl rfl rfl (fun c4 => ?_) (fun c4 => ?_)
  · refine te_aload_n (p2 := 24) rfl rfl rfl ?_
    refine tg_r (p2 := 27) (i := o) (r := (16 + (o + 5))) rfl rfl I2 rfl (by rcases q_o with rfl | rfl | rfl | rfl | rfl | rfl <;> rfl) (by rcases q_o with rfl | rfl | rfl | rfl | rfl | rfl <;> rfl) ?_
    refine te_iload_n (p2 := 28) rfl rfl rfl ?_
    refine te_aload_n (p2 := 29) rfl rfl rfl ?_
    refine te_ldc (p2 := 31) rfl rfl (by decide) ?_
    refine cV_mI (p2 := 34) (i := 65) rfl rfl rfl rfl I2 rfl rfl rfl (t_X10_readWord_3  I2 ) (by decide) (fun y5 h5 I5 g5 r5 => ?_)
    have f5 := fr_tr (F1 := F_X10_readWord_3) (F := (F_X10_readTest o)) f2 g5 (by rcases q_o with rfl | rfl | rfl | rfl | rfl | rfl <;> decide)
    obtain ⟨a5, b5⟩ := r5
    refine ts_i (p2 := 35) (i := (o + 5)) (n := 24) rfl rfl I5 rfl (by rcases q_o with rfl | rfl | rfl | rfl | rfl | rfl <;> rfl) (by rcases q_o with rfl | rfl | rfl | rfl | rfl | rfl <;> rfl) rfl (by omega) (by omega) (i32_lo _) (i32_hi _) (i32_ho _) (by rcases q_o with rfl | rfl | rfl | rfl | rfl | rfl <;> rfl) (fun h6 I6 u6 => ?_)
    have f6 := fr_st (F := (F_X10_readTest o)) 1 f5 u6 rfl (by omega) (by omega)
    refine te_aload_n (p2 := 36) rfl rfl rfl ?_
    refine tg_r (p2 := 39) (i := o) (r := (16 + (o + 5))) rfl rfl I6 rfl (by rcases q_o with rfl | rfl | rfl | rfl | rfl | rfl <;> rfl) (by rcases q_o with rfl | rfl | rfl | rfl | rfl | rfl <;> rfl) ?_
    refine te_iload_n (p2 := 40) rfl rfl rfl ?_
    refine tl_e (p2 := 41) (i := (o + 5)) (n := 24) (t := 0) (Or.inl rfl) rfl rfl I6 rfl (by rcases q_o with rfl | rfl | rfl | rfl | rfl | rfl <;> rfl) (by omega) (by omega) u6.1 ?_
    refine tz_ge (p2 := 44) rfl rfl rfl (fun c8 => ?_) (fun c8 => ?_)
    · refine te_aload_n (p2 := 47) rfl rfl rfl ?_
      refine tg_r (p2 := 50) (i := o) (r := (16 + (o + 6))) rfl rfl I6 rfl (by rcases q_o with rfl | rfl | rfl | rfl | rfl | rfl <;> rfl) (by rcases q_o with rfl | rfl | rfl | rfl | rfl | rfl <;> rfl) ?_
      refine te_iload_n (p2 := 51) rfl rfl rfl ?_
      refine te_aload_n (p2 := 52) rfl rfl rfl ?_
      refine cV_mI (p2 := 55) (i := 65) rfl rfl rfl rfl I6 rfl rfl rfl (t_X10_readNumber  I6 ) (by decide) (fun y9 h9 I9 g9 r9 => ?_)
      have f9 := fr_tr (F1 := F_X10_readNumber) (F := (F_X10_readTest o)) f6 g9 (by rcases q_o with rfl | rfl | rfl | rfl | rfl | rfl <;> decide)
      refine ts_i (p2 := 56) (i := (o + 6)) (n := 24) rfl rfl I9 rfl (by rcases q_o with rfl | rfl | rfl | rfl | rfl | rfl <;> rfl) (by rcases q_o with rfl | rfl | rfl | rfl | rfl | rfl <;> rfl) rfl (by omega) (by omega) (i32_lo _) (i32_hi _) (i32_ho _) (by rcases q_o with rfl | rfl | rfl | rfl | rfl | rfl <;> rfl) (fun h10 I10 u10 => ?_)
      have f10 := fr_st (F := (F_X10_readTest o)) 2 f9 u10 rfl (by omega) (by omega)
      refine te_aload_n (p2 := 57) rfl rfl rfl ?_
      refine tg_r (p2 := 60) (i := o) (r := (16 + (o + 6))) rfl rfl I10 rfl (by rcases q_o with rfl | rfl | rfl | rfl | rfl | rfl <;> rfl) (by rcases q_o with rfl | rfl | rfl | rfl | rfl | rfl <;> rfl) ?_
      refine te_iload_n (p2 := 61) rfl rfl rfl ?_
      refine tl_e (p2 := 62) (i := (o + 6)) (n := 24) (t := 0) (Or.inl rfl) rfl rfl I10 rfl (by rcases q_o with rfl | rfl | rfl | rfl | rfl | rfl <;> rfl) (by omega) (by omega) u10.1 ?_
      refine tz_lt (p2 := 65) rfl rfl rfl (fun c12 => ?_) (fun c12 => ?_)
      · refine te_iconst (p2 := 70) (x := 0) rfl rfl (by decide) ?_
        exact te_zret rfl rfl (by decide) ⟨I10, f10, _, rfl, Or.inl rfl⟩
      · refine te_iconst (p2 := 66) (x := 1) rfl rfl (by decide) ?_
        refine te_goto rfl ?_
        exact te_zret rfl rfl (by decide) ⟨I10, f10, _, rfl, Or.inr ⟨rfl, y1, ((u10.2 _ _ (Or.inl (by omega))).trans ((g9 _ _ (by rcases q_o with rfl | rfl | rfl | rfl | rfl | rfl <;> rfl)).trans ((u6.2 _ _ (Or.inl (by omega))).trans ((g5 _ _ (by rcases q_o with rfl | rfl | rfl | rfl | rfl | rfl <;> rfl)).trans u2.1)))), by omega⟩⟩
    · refine te_iconst (p2 := 45) (x := 0) rfl rfl (by decide) ?_
      exact te_zret rfl rfl (by decide) ⟨I6, f6, _, rfl, Or.inl rfl⟩
  · refine te_iconst (p2 := 22) (x := 0) rfl rfl (by decide) ?_
    exact te_zret rfl rfl (by decide) ⟨I2, f2, _, rfl, Or.inl rfl⟩
abbrev F_X10_readTests (o : Nat) : List (Nat × Nat × Nat) := [((o + 3), 0, 7), ((o + 4), 0, 23), ((o + 5), 0, 23), ((o + 6), 0, 23), (65, 2, 2)]
set_option maxRecDepth 20000 in
set_option maxHeartbeats 4000000 in
theorem t_X10_readTests {o : Nat} {line : Int32} {gc : Int32} {h : im_H} (hI : tI h) (q_o : o = 98 ∨ o = 105 ∨ o = 112 ∨ o = 119 ∨ o = 126 ∨ o = 133) (p_line0 : 0 ≤ line.toInt) (p_line1 : line.toInt ≤ 7) (hg0 : rd h (o + 3) line.toInt.toNat = some (.int gc)) (ga0 : 0 ≤ gc.toInt) (gb0 : gc.toInt ≤ 0) : CaP 4 54 [.ref 81, .ref (16 + o), .int line] h (mI h (F_X10_readTests o) (fun y => 0 ≤ y.toInt ∧ y.toInt ≤ 1)) := by
  refine cap_of (d := 3) (M := mX10_readTests) rfl (Nat.le_of_ble_eq_true rfl) ?_
  show EvP im_K0 3 mX10_readTests (0, [(0, .ref 81), (1, .ref (16 + o)), (2, .int line)], [], h) _
  have f0 : fr (F_X10_readTests o) h h := fr_rf
  refine te_iconst (p2 := 1) (x := 0) rfl rfl (by decide) ?_
  refine te_istore_n (p2 := 2) (lv2 := [(3, .int 0), (0, .ref 81), (1, .ref (16 + o)), (2, .int line)]) rfl rfl (by decide) rfl ?_
  have lp1 : ∀ (n1 : Nat) (v1_3 t1_c : Int32) (h1 : im_H), tI h1 → fr (F_X10_readTests o) h h1 → 0 ≤ v1_3.toInt → v1_3.toInt ≤ 3 → rd h1 (o + 3) line.toInt.toNat = some (.int t1_c) → 0 ≤ t1_c.toInt → t1_c.toInt ≤ 3 → t1_c.toInt = v1_3.toInt → 3 - v1_3.toInt < (n1 : Int) → EvP im_K0 3 mX10_readTests (2, [(0, .ref 81), (1, .ref (16 + o)), (2, .int line), (3, .int v1_3)], [], h1) (mI h (F_X10_readTests o) (fun y => 0 ≤ y.toInt ∧ y.toInt ≤ 1)) := by
    intro n1
    induction n1 with
    | zero => intro v1_3 t1_c h1 I1 f1 a1_3 b1_3 v1_c va1_c vb1_c l1_0 m1; exfalso; omega
    | succ n1 ih1 =>
      intro v1_3 t1_c h1 I1 f1 a1_3 b1_3 v1_c va1_c vb1_c l1_0 m1
      refine te_iload_n (p2 := 3) rfl rfl rfl ?_
      refine te_iconst (p2 := 4) (x := 3) rfl rfl (by decide) ?_
      refine tb_ge (p2 := 7) rfl rfl rfl (show Int32.toInt 3 = 3 from rfl) (fun c2 => ?_) (fun c2 => ?_)
      · refine te_iconst (p2 := 66) (x := 0) rfl rfl (by decide) ?_
        exact te_zret rfl rfl (by decide) ⟨I1, f1, _, rfl, by decide, by decide⟩
      · refine te_aload_n (p2 := 8) rfl rfl rfl ?_
        refine te_aload_n (p2 := 9) rfl rfl rfl ?_
        refine te_iconst (p2 := 10) (x := 3) rfl rfl (by decide) ?_
        refine te_iload_n (p2 := 11) rfl rfl rfl ?_
        refine ar_mul (p2 := 12) rfl rfl (show Int32.toInt 3 = 3 from rfl) rfl (by omega) (by omega) (fun z3 e3 f3 => ?_)
        refine te_iload_n (p2 := 13) rfl rfl rfl ?_
        refine ar_add (p2 := 14) rfl rfl rfl rfl (by omega) (by omega) (fun z4 e4 f4 => ?_)
        refine tc_V (p2 := 17) (i := 65) rfl rfl rfl rfl I1 rfl rfl rfl (t_X10_readTest (o := o) (test := z4) (ln := line) (gc := t1_c) I1 q_o (by omega) (by omega) v1_c (by omega) (by omega) (by omega) (by omega) (by omega)) (by decide) (fun v5 h5 hq5 => ?_)
        obtain ⟨I5, g5, y5, w5, r5⟩ := hq5
        subst w5
        have f5 := fr_tr (F1 := (F_X10_readTest o)) (F := (F_X10_readTests o)) f1 g5 (by rcases q_o with rfl | rfl | rfl | rfl | rfl | rfl <;> decide)
        rcases r5 with r5 | ⟨r5, c5, ec5, fc5⟩
        · subst r5
          show EvP _ _ _ (17, [(0, .ref 81), (1, .ref (16 + o)), (2, .int line), (3, .int v1_3)], [.int 0], h5) _
          refine tz_ne (p2 := 20) rfl rfl (show Int32.toInt 0 = 0 from rfl) (fun c6 => absurd c6 (by omega)) (fun c6 => ?_)
          refine te_iconst (p2 := 21) (x := 0) rfl rfl (by decide) ?_
          exact te_zret rfl rfl (by decide) ⟨I5, f5, _, rfl, by decide, by decide⟩
        · subst r5
          show EvP _ _ _ (17, [(0, .ref 81), (1, .ref (16 + o)), (2, .int line), (3, .int v1_3)], [.int 1], h5) _
          refine tz_ne (p2 := 20) rfl rfl (show Int32.toInt 1 = 1 from rfl) (fun c7 => ?_) (fun c7 => absurd c7 (by omega))
          refine te_aload_n (p2 := 23) rfl rfl rfl ?_
          refine tg_r (p2 := 26) (i := o) (r := (16 + (o + 3))) rfl rfl I5 rfl (by rcases q_o with rfl | rfl | rfl | rfl | rfl | rfl <;> rfl) (by rcases q_o with rfl | rfl | rfl | rfl | rfl | rfl <;> rfl) ?_
          refine te_iload_n (p2 := 27) rfl rfl rfl ?_
          refine te_dup2 (p2 := 28) rfl rfl ⟨rfl, rfl⟩ ?_
          refine tl_e (p2 := 29) (i := (o + 3)) (n := 8) (t := 0) (Or.inl rfl) rfl rfl I5 rfl (by rcases q_o with rfl | rfl | rfl | rfl | rfl | rfl <;> rfl) (by omega) (by omega) ((g5 _ _ (by rcases q_o with rfl | rfl | rfl | rfl | rfl | rfl <;> rfl)).trans v1_c) ?_
          refine te_iconst (p2 := 30) (x := 1) rfl rfl (by decide) ?_
          refine ar_add (p2 := 31) rfl rfl rfl (show Int32.toInt 1 = 1 from rfl) (by omega) (by omega) (fun z9 e9 f9 => ?_)
          refine ts_iO (p2 := 32) (i := (o + 3)) (n := 8) rfl rfl I5 rfl (by rcases q_o with rfl | rfl | rfl | rfl | rfl | rfl <;> rfl) (by rcases q_o with rfl | rfl | rfl | rfl | rfl | rfl <;> rfl) rfl (by omega) (by omega) (by omega) (by omega) (by omega) (fun h2 hu => tO_inc (c := t1_c) (z := z9) (l := line.toInt.toNat) (k := z4.toInt.toNat) (f0 := c5) I5.2.2 (by rcases q_o with rfl | rfl | rfl | rfl | rfl | rfl <;> decide) ((g5 _ _ (by rcases q_o with rfl | rfl | rfl | rfl | rfl | rfl <;> rfl)).trans v1_c) (by omega) (by omega) ec5 (by omega) hu) (fun h10 I10 u10 => ?_)
          have f10 := fr_st (F := (F_X10_readTests o)) 0 f5 u10 rfl (by omega) (by omega)
          refine te_aload_n (p2 := 33) rfl rfl rfl ?_
          refine te_bipush (p2 := 35) (x := 59) rfl rfl (by decide) ?_
          refine cV_mI (p2 := 38) (i := 65) rfl rfl rfl rfl I10 rfl rfl rfl (t_X10_readSign (sign := 59) I10 (by decide) (by decide)) (by decide) (fun y11 h11 I11 g11 r11 => ?_)
          have f11 := fr_tr (F1 := F_X10_readSign) (F := (F_X10_readTests o)) f10 g11 (by rcases q_o with rfl | rfl | rfl | rfl | rfl | rfl <;> decide)
          obtain ⟨a11, b11⟩ := r11
          refine tz_eq (p2 := 41) rfl rfl rfl (fun c12 => ?_) (fun c12 => ?_)
          · refine te_iload_n (p2 := 44) rfl rfl rfl ?_
            refine te_iconst (p2 := 45) (x := 2) rfl rfl (by decide) ?_
            refine tb_eq (p2 := 48) rfl rfl rfl (show Int32.toInt 2 = 2 from rfl) (fun c13 => ?_) (fun c13 => ?_)
            · refine te_iconst (p2 := 58) (x := 0) rfl rfl (by decide) ?_
              exact te_zret rfl rfl (by decide) ⟨I11, f11, _, rfl, by decide, by decide⟩
            · refine te_aload_n (p2 := 49) rfl rfl rfl ?_
              refine te_bipush (p2 := 51) (x := 38) rfl rfl (by decide) ?_
              refine cV_mI (p2 := 54) (i := 65) rfl rfl rfl rfl I11 rfl rfl rfl (t_X10_readSign (sign := 38) I11 (by decide) (by decide)) (by decide) (fun y14 h14 I14 g14 r14 => ?_)
              have f14 := fr_tr (F1 := F_X10_readSign) (F := (F_X10_readTests o)) f11 g14 (by rcases q_o with rfl | rfl | rfl | rfl | rfl | rfl <;> decide)
              obtain ⟨a14, b14⟩ := r14
              refine tz_ne (p2 := 57) rfl rfl rfl (fun c15 => ?_) (fun c15 => ?_)
              · refine ar_inc (p2 := 62) (x := v1_3) rfl rfl (by decide) rfl (by decide) rfl (by omega) (by omega) (fun z16 e16 f16 => ?_)
                show EvP _ _ _ (62, [(3, .int z16), (0, .ref 81), (1, .ref (16 + o)), (2, .int line)], [], h14) _
                refine te_goto rfl ?_
                refine te_lv [(0, .ref 81), (1, .ref (16 + o)), (2, .int line), (3, .int z16)] rfl rfl ⟨rfl, rfl, rfl, rfl, trivial⟩ ?_
                exact ih1 z16 z9 h14 I14 f14 (by omega) (by omega) ((g14 _ _ (by rcases q_o with rfl | rfl | rfl | rfl | rfl | rfl <;> rfl)).trans ((g11 _ _ (by rcases q_o with rfl | rfl | rfl | rfl | rfl | rfl <;> rfl)).trans u10.1)) (by omega) (by omega) (by omega) (by omega)
              · refine te_iconst (p2 := 58) (x := 0) rfl rfl (by decide) ?_
                exact te_zret rfl rfl (by decide) ⟨I14, f14, _, rfl, by decide, by decide⟩
          · refine te_iconst (p2 := 42) (x := 1) rfl rfl (by decide) ?_
            exact te_zret rfl rfl (by decide) ⟨I11, f11, _, rfl, by decide, by decide⟩
  refine te_lv [(0, .ref 81), (1, .ref (16 + o)), (2, .int line), (3, .int 0)] rfl rfl ⟨rfl, rfl, rfl, rfl, trivial⟩ ?_
  exact lp1 4 0 gc h hI f0 (by decide) (by decide) hg0 (by omega) (by omega) (by have cc0 := (show Int32.toInt 0 = 0 from rfl); omega) (by have cc0 := (show Int32.toInt 0 = 0 from rfl); omega)
abbrev F_X10_readLine (o : Nat) : List (Nat × Nat × Nat) := [((o + 1), 0, 7), ((o + 2), 0, 7), ((o + 3), 0, 7), ((o + 4), 0, 23), ((o + 5), 0, 23), ((o + 6), 0, 23), (65, 2, 2)]
set_option maxRecDepth 20000 in
set_option maxHeartbeats 4000000 in
theorem t_X10_readLine {o : Nat} {line : Int32} {h : im_H} (hI : tI h) (q_o : o = 98 ∨ o = 105 ∨ o = 112 ∨ o = 119 ∨ o = 126 ∨ o = 133) (p_line0 : 0 ≤ line.toInt) (p_line1 : line.toInt ≤ 7) : CaP 5 52 [.ref 81, .ref (16 + o), .int line] h (mI h (F_X10_readLine o) (fun y => 0 ≤ y.toInt ∧ y.toInt ≤ 1)) := by
  refine cap_of (d := 4) (M := mX10_readLine) rfl (Nat.le_of_ble_eq_true rfl) ?_
  show EvP im_K0 4 mX10_readLine (0, [(0, .ref 81), (1, .ref (16 + o)), (2, .int line)], [], h) _
  have f0 : fr (F_X10_readLine o) h h := fr_rf
  refine te_aload_n (p2 := 1) rfl rfl rfl ?_
  refine tg_r (p2 := 4) (i := o) (r := (16 + (o + 1))) rfl rfl hI rfl (by rcases q_o with rfl | rfl | rfl | rfl | rfl | rfl <;> rfl) (by rcases q_o with rfl | rfl | rfl | rfl | rfl | rfl <;> rfl) ?_
  refine te_iload_n (p2 := 5) rfl rfl rfl ?_
  refine te_aload_n (p2 := 6) rfl rfl rfl ?_
  refine te_ldc (p2 := 8) rfl rfl (by decide) ?_
  refine cV_mI (p2 := 11) (i := 65) rfl rfl rfl rfl hI rfl rfl rfl (t_X10_readWord_0  hI ) (by decide) (fun y1 h1 I1 g1 r1 => ?_)
  have f1 := fr_tr (F1 := F_X10_readWord_0) (F := (F_X10_readLine o)) f0 g1 (by rcases q_o with rfl | rfl | rfl | rfl | rfl | rfl <;> decide)
  obtain ⟨a1, b1⟩ := r1
  refine ts_i (p2 := 12) (i := (o + 1)) (n := 8) rfl rfl I1 rfl (by rcases q_o with rfl | rfl | rfl | rfl | rfl | rfl <;> rfl) (by rcases q_o with rfl | rfl | rfl | rfl | rfl | rfl <;> rfl) rfl (by omega) (by omega) (i32_lo _) (i32_hi _) (i32_ho _) (by rcases q_o with rfl | rfl | rfl | rfl | rfl | rfl <;> rfl) (fun h2 I2 u2 => ?_)
  have f2 := fr_st (F := (F_X10_readLine o)) 0 f1 u2 rfl (by omega) (by omega)
  refine te_aload_n (p2 := 13) rfl rfl rfl ?_
  refine tg_r (p2 := 16) (i := o) (r := (16 + (o + 1))) rfl rfl I2 rfl (by rcases q_o with rfl | rfl | rfl | rfl | rfl | rfl <;> rfl) (by rcases q_o with rfl | rfl | rfl | rfl | rfl | rfl <;> rfl) ?_
  refine te_iload_n (p2 := 17) rfl rfl rfl ?_
  refine tl_e (p2 := 18) (i := (o + 1)) (n := 8) (t := 0) (Or.inl rfl) rfl rfl I2 rfl (by rcases q_o with rfl | rfl | rfl | rfl | rfl | rfl <;> rfl) (by omega) (by omega) u2.1 ?_
  refine tz_lt (p2 := 21) rfl rfl rfl (fun c4 => ?_) (fun c4 => ?_)
  · refine te_iconst (p2 := 31) (x := 0) rfl rfl (by decide) ?_
    exact te_zret rfl rfl (by decide) ⟨I2, f2, _, rfl, by decide, by decide⟩
  · refine te_aload_n (p2 := 22) rfl rfl rfl ?_
    refine te_bipush (p2 := 24) (x := 32) rfl rfl (by decide) ?_
    refine cV_mI (p2 := 27) (i := 65) rfl rfl rfl rfl I2 rfl rfl rfl (t_X10_readSign (sign := 32) I2 (by decide) (by decide)) (by decide) (fun y5 h5 I5 g5 r5 => ?_)
    have f5 := fr_tr (F1 := F_X10_readSign) (F := (F_X10_readLine o)) f2 g5 (by rcases q_o with rfl | rfl | rfl | rfl | rfl | rfl <;> decide)
    obtain ⟨a5, b5⟩ := r5
    refine tz_ne (p2 := 30) rfl rfl rfl (fun c6 => ?_) (fun c6 => ?_)
    · refine te_aload_n (p2 := 33) rfl rfl rfl ?_
      refine tg_r (p2 := 36) (i := o) (r := (16 + (o + 2))) rfl rfl I5 rfl (by rcases q_o with rfl | rfl | rfl | rfl | rfl | rfl <;> rfl) (by rcases q_o with rfl | rfl | rfl | rfl | rfl | rfl <;> rfl) ?_
      refine te_iload_n (p2 := 37) rfl rfl rfl ?_
      refine te_aload_n (p2 := 38) rfl rfl rfl ?_
      refine cV_mI (p2 := 41) (i := 65) rfl rfl rfl rfl I5 rfl rfl rfl (t_X10_readNumber  I5 ) (by decide) (fun y7 h7 I7 g7 r7 => ?_)
      have f7 := fr_tr (F1 := F_X10_readNumber) (F := (F_X10_readLine o)) f5 g7 (by rcases q_o with rfl | rfl | rfl | rfl | rfl | rfl <;> decide)
      refine ts_i (p2 := 42) (i := (o + 2)) (n := 8) rfl rfl I7 rfl (by rcases q_o with rfl | rfl | rfl | rfl | rfl | rfl <;> rfl) (by rcases q_o with rfl | rfl | rfl | rfl | rfl | rfl <;> rfl) rfl (by omega) (by omega) (i32_lo _) (i32_hi _) (i32_ho _) (by rcases q_o with rfl | rfl | rfl | rfl | rfl | rfl <;> rfl) (fun h8 I8 u8 => ?_)
      have f8 := fr_st (F := (F_X10_readLine o)) 1 f7 u8 rfl (by omega) (by omega)
      refine te_aload_n (p2 := 43) rfl rfl rfl ?_
      refine tg_r (p2 := 46) (i := o) (r := (16 + (o + 3))) rfl rfl I8 rfl (by rcases q_o with rfl | rfl | rfl | rfl | rfl | rfl <;> rfl) (by rcases q_o with rfl | rfl | rfl | rfl | rfl | rfl <;> rfl) ?_
      refine te_iload_n (p2 := 47) rfl rfl rfl ?_
      refine te_iconst (p2 := 48) (x := 0) rfl rfl (by decide) ?_
      refine ts_iO (p2 := 49) (i := (o + 3)) (n := 8) rfl rfl I8 rfl (by rcases q_o with rfl | rfl | rfl | rfl | rfl | rfl <;> rfl) (by rcases q_o with rfl | rfl | rfl | rfl | rfl | rfl <;> rfl) rfl (by omega) (by omega) (by decide) (by decide) (by decide) (fun h2 hu => tO_cnt0 I8.2.2 (by rcases q_o with rfl | rfl | rfl | rfl | rfl | rfl <;> decide) hu) (fun h9 I9 u9 => ?_)
      have f9 := fr_st (F := (F_X10_readLine o)) 2 f8 u9 rfl (by omega) (by omega)
      refine te_aload_n (p2 := 50) rfl rfl rfl ?_
      refine tg_r (p2 := 53) (i := o) (r := (16 + (o + 2))) rfl rfl I9 rfl (by rcases q_o with rfl | rfl | rfl | rfl | rfl | rfl <;> rfl) (by rcases q_o with rfl | rfl | rfl | rfl | rfl | rfl <;> rfl) ?_
      refine te_iload_n (p2 := 54) rfl rfl rfl ?_
      refine tl_e (p2 := 55) (i := (o + 2)) (n := 8) (t := 0) (Or.inl rfl) rfl rfl I9 rfl (by rcases q_o with rfl | rfl | rfl | rfl | rfl | rfl <;> rfl) (by omega) (by omega) ((u9.2 _ _ (Or.inl (by omega))).trans u8.1) ?_
      refine tz_ge (p2 := 58) rfl rfl rfl (fun c11 => ?_) (fun c11 => ?_)
      · refine te_aload_n (p2 := 61) rfl rfl rfl ?_
        refine te_bipush (p2 := 63) (x := 59) rfl rfl (by decide) ?_
        refine cV_mI (p2 := 66) (i := 65) rfl rfl rfl rfl I9 rfl rfl rfl (t_X10_readSign (sign := 59) I9 (by decide) (by decide)) (by decide) (fun y12 h12 I12 g12 r12 => ?_)
        have f12 := fr_tr (F1 := F_X10_readSign) (F := (F_X10_readLine o)) f9 g12 (by rcases q_o with rfl | rfl | rfl | rfl | rfl | rfl <;> decide)
        obtain ⟨a12, b12⟩ := r12
        refine tz_eq (p2 := 69) rfl rfl rfl (fun c13 => ?_) (fun c13 => ?_)
        · refine te_aload_n (p2 := 72) rfl rfl rfl ?_
          refine cV_mI (p2 := 75) (i := 65) rfl rfl rfl rfl I12 rfl rfl rfl (t_X10_readIf  I12 ) (by decide) (fun y14 h14 I14 g14 r14 => ?_)
          have f14 := fr_tr (F1 := F_X10_readIf) (F := (F_X10_readLine o)) f12 g14 (by rcases q_o with rfl | rfl | rfl | rfl | rfl | rfl <;> decide)
          obtain ⟨a14, b14⟩ := r14
          refine tz_eq (p2 := 78) rfl rfl rfl (fun c15 => ?_) (fun c15 => ?_)
          · refine te_iconst (p2 := 92) (x := 0) rfl rfl (by decide) ?_
            exact te_zret rfl rfl (by decide) ⟨I14, f14, _, rfl, by decide, by decide⟩
          · refine te_aload_n (p2 := 79) rfl rfl rfl ?_
            refine te_aload_n (p2 := 80) rfl rfl rfl ?_
            refine te_iload_n (p2 := 81) rfl rfl rfl ?_
            refine cV_mI (p2 := 84) (i := 65) rfl rfl rfl rfl I14 rfl rfl rfl (t_X10_readTests (o := o) (line := line) (gc := 0) I14 q_o (by omega) (by omega) ((g14 _ _ (by rcases q_o with rfl | rfl | rfl | rfl | rfl | rfl <;> rfl)).trans ((g12 _ _ (by rcases q_o with rfl | rfl | rfl | rfl | rfl | rfl <;> rfl)).trans u9.1)) (by decide) (by decide)) (by decide) (fun y16 h16 I16 g16 r16 => ?_)
            have f16 := fr_tr (F1 := (F_X10_readTests o)) (F := (F_X10_readLine o)) f14 g16 (by rcases q_o with rfl | rfl | rfl | rfl | rfl | rfl <;> decide)
            obtain ⟨a16, b16⟩ := r16
            refine tz_eq (p2 := 87) rfl rfl rfl (fun c17 => ?_) (fun c17 => ?_)
            · refine te_iconst (p2 := 92) (x := 0) rfl rfl (by decide) ?_
              exact te_zret rfl rfl (by decide) ⟨I16, f16, _, rfl, by decide, by decide⟩
            · refine te_iconst (p2 := 88) (x := 1) rfl rfl (by decide) ?_
              refine te_goto rfl ?_
              exact te_zret rfl rfl (by decide) ⟨I16, f16, _, rfl, by decide, by decide⟩
        · refine te_iconst (p2 := 70) (x := 1) rfl rfl (by decide) ?_
          exact te_zret rfl rfl (by decide) ⟨I12, f12, _, rfl, by decide, by decide⟩
      · refine te_iconst (p2 := 59) (x := 0) rfl rfl (by decide) ?_
        exact te_zret rfl rfl (by decide) ⟨I9, f9, _, rfl, by decide, by decide⟩
    · refine te_iconst (p2 := 31) (x := 0) rfl rfl (by decide) ?_
      exact te_zret rfl rfl (by decide) ⟨I5, f5, _, rfl, by decide, by decide⟩
abbrev F_X10_readInto (o : Nat) : List (Nat × Nat × Nat) := [((o + 1), 0, 7), ((o + 2), 0, 7), ((o + 3), 0, 7), ((o + 4), 0, 23), ((o + 5), 0, 23), ((o + 6), 0, 23), (65, 2, 2), (o, 0, 0)]
set_option maxRecDepth 20000 in
set_option maxHeartbeats 4000000 in
theorem t_X10_readInto {o : Nat} {h : im_H} (hI : tI h) (q_o : o = 98 ∨ o = 105 ∨ o = 112 ∨ o = 119 ∨ o = 126 ∨ o = 133) : CaP 6 51 [.ref 81, .ref (16 + o)] h (mI h (F_X10_readInto o) (fun y => 0 ≤ y.toInt ∧ y.toInt ≤ 1)) := by
  refine cap_of (d := 5) (M := mX10_readInto) rfl (Nat.le_of_ble_eq_true rfl) ?_
  show EvP im_K0 5 mX10_readInto (0, [(0, .ref 81), (1, .ref (16 + o))], [], h) _
  have f0 : fr (F_X10_readInto o) h h := fr_rf
  refine te_aload_n (p2 := 1) rfl rfl rfl ?_
  refine te_iconst (p2 := 2) (x := 0) rfl rfl (by decide) ?_
  refine tp_i (p2 := 5) (i := 65) rfl rfl hI rfl rfl (by decide) rfl rfl rfl (by decide) (by decide) (by decide) rfl (fun h1 I1 u1 => ?_)
  have f1 := fr_st (F := (F_X10_readInto o)) 6 f0 u1 rfl (by decide) (by decide)
  refine te_aload_n (p2 := 6) rfl rfl rfl ?_
  refine te_iconst (p2 := 7) (x := 0) rfl rfl (by decide) ?_
  refine tp_i (p2 := 10) (i := o) rfl rfl I1 rfl (by rcases q_o with rfl | rfl | rfl | rfl | rfl | rfl <;> rfl) (by decide) rfl rfl (by rcases q_o with rfl | rfl | rfl | rfl | rfl | rfl <;> rfl) (by decide) (by decide) (by decide) (by rcases q_o with rfl | rfl | rfl | rfl | rfl | rfl <;> rfl) (fun h2 I2 u2 => ?_)
  have f2 := fr_st (F := (F_X10_readInto o)) 7 f1 u2 rfl (by decide) (by decide)
  refine te_iconst (p2 := 11) (x := 0) rfl rfl (by decide) ?_
  refine te_istore_n (p2 := 12) (lv2 := [(2, .int 0), (0, .ref 81), (1, .ref (16 + o))]) rfl rfl (by decide) rfl ?_
  have lp3 : ∀ (n3 : Nat) (v3_2 t3_z : Int32) (h3 : im_H), tI h3 → fr (F_X10_readInto o) h h3 → 0 ≤ v3_2.toInt → v3_2.toInt ≤ 8 → rd h3 o 0 = some (.int t3_z) → 0 ≤ t3_z.toInt → t3_z.toInt ≤ 8 → t3_z.toInt = v3_2.toInt → 8 - v3_2.toInt < (n3 : Int) → EvP im_K0 5 mX10_readInto (12, [(0, .ref 81), (1, .ref (16 + o)), (2, .int v3_2)], [], h3) (mI h (F_X10_readInto o) (fun y => 0 ≤ y.toInt ∧ y.toInt ≤ 1)) := by
    intro n3
    induction n3 with
    | zero => intro v3_2 t3_z h3 I3 f3 a3_2 b3_2 v3_z va3_z vb3_z l3_0 m3; exfalso; omega
    | succ n3 ih3 =>
      intro v3_2 t3_z h3 I3 f3 a3_2 b3_2 v3_z va3_z vb3_z l3_0 m3
      refine te_iload_n (p2 := 13) rfl rfl rfl ?_
      refine te_bipush (p2 := 15) (x := 8) rfl rfl (by decide) ?_
      refine tb_ge (p2 := 18) rfl rfl rfl (show Int32.toInt 8 = 8 from rfl) (fun c4 => ?_) (fun c4 => ?_)
      · refine te_iconst (p2 := 59) (x := 0) rfl rfl (by decide) ?_
        exact te_zret rfl rfl (by decide) ⟨I3, f3, _, rfl, by decide, by decide⟩
      · refine te_aload_n (p2 := 19) rfl rfl rfl ?_
        refine te_aload_n (p2 := 20) rfl rfl rfl ?_
        refine te_iload_n (p2 := 21) rfl rfl rfl ?_
        refine cV_mI (p2 := 24) (i := 65) rfl rfl rfl rfl I3 rfl rfl rfl (t_X10_readLine (o := o) (line := v3_2) I3 q_o (by omega) (by omega)) (by decide) (fun y5 h5 I5 g5 r5 => ?_)
        have f5 := fr_tr (F1 := (F_X10_readLine o)) (F := (F_X10_readInto o)) f3 g5 (by rcases q_o with rfl | rfl | rfl | rfl | rfl | rfl <;> decide)
        obtain ⟨a5, b5⟩ := r5
        refine tz_ne (p2 := 27) rfl rfl rfl (fun c6 => ?_) (fun c6 => ?_)
        · refine te_aload_n (p2 := 30) rfl rfl rfl ?_
          refine te_dup (p2 := 31) rfl rfl rfl ?_
          refine tg_e (p2 := 34) (i := o) (v := .int t3_z) rfl rfl I5 rfl (by rcases q_o with rfl | rfl | rfl | rfl | rfl | rfl <;> rfl) ((g5 _ _ (by rcases q_o with rfl | rfl | rfl | rfl | rfl | rfl <;> rfl)).trans v3_z) ?_
          refine te_iconst (p2 := 35) (x := 1) rfl rfl (by decide) ?_
          refine ar_add (p2 := 36) rfl rfl rfl (show Int32.toInt 1 = 1 from rfl) (by omega) (by omega) (fun z7 e7 f7 => ?_)
          refine tp_i (p2 := 39) (i := o) rfl rfl I5 rfl (by rcases q_o with rfl | rfl | rfl | rfl | rfl | rfl <;> rfl) (by decide) rfl rfl (by rcases q_o with rfl | rfl | rfl | rfl | rfl | rfl <;> rfl) (by omega) (by omega) (by omega) (by rcases q_o with rfl | rfl | rfl | rfl | rfl | rfl <;> rfl) (fun h8 I8 u8 => ?_)
          have f8 := fr_st (F := (F_X10_readInto o)) 7 f5 u8 rfl (by decide) (by decide)
          refine te_aload_n (p2 := 40) rfl rfl rfl ?_
          refine tg_i (p2 := 43) (i := 65) rfl rfl I8 rfl rfl rfl (fun y9 a9 b9 e9 => ?_)
          refine te_aload_n (p2 := 44) rfl rfl rfl ?_
          refine tg_i (p2 := 47) (i := 65) rfl rfl I8 rfl rfl rfl (fun y10 a10 b10 e10 => ?_)
          refine tb_ne (p2 := 50) rfl rfl rfl rfl (fun c11 => ?_) (fun c11 => ?_)
          · refine ar_inc (p2 := 55) (x := v3_2) rfl rfl (by decide) rfl (by decide) rfl (by omega) (by omega) (fun z12 e12 f12 => ?_)
            show EvP _ _ _ (55, [(2, .int z12), (0, .ref 81), (1, .ref (16 + o))], [], h8) _
            refine te_goto rfl ?_
            refine te_lv [(0, .ref 81), (1, .ref (16 + o)), (2, .int z12)] rfl rfl ⟨rfl, rfl, rfl, trivial⟩ ?_
            exact ih3 z12 z7 h8 I8 f8 (by omega) (by omega) u8.1 (by omega) (by omega) (by omega) (by omega)
          · refine te_iconst (p2 := 51) (x := 1) rfl rfl (by decide) ?_
            exact te_zret rfl rfl (by decide) ⟨I8, f8, _, rfl, by decide, by decide⟩
        · refine te_iconst (p2 := 28) (x := 0) rfl rfl (by decide) ?_
          exact te_zret rfl rfl (by decide) ⟨I5, f5, _, rfl, by decide, by decide⟩
  refine te_lv [(0, .ref 81), (1, .ref (16 + o)), (2, .int 0)] rfl rfl ⟨rfl, rfl, rfl, trivial⟩ ?_
  exact lp3 9 0 0 h2 I2 f2 (by decide) (by decide) u2.1 (by decide) (by decide) (by have cc0 := (show Int32.toInt 0 = 0 from rfl); omega) (by have cc0 := (show Int32.toInt 0 = 0 from rfl); omega)
abbrev F_X11_order : List (Nat × Nat × Nat) := [(0, 7, 7), (100, 0, 7), (101, 0, 7), (102, 0, 23), (103, 0, 23), (104, 0, 23), (105, 0, 0), (106, 0, 7), (107, 0, 7), (108, 0, 7), (109, 0, 23), (110, 0, 23), (111, 0, 23), (112, 0, 0), (113, 0, 7), (114, 0, 7), (115, 0, 7), (116, 0, 23), (117, 0, 23), (118, 0, 23), (119, 0, 0), (120, 0, 7), (121, 0, 7), (122, 0, 7), (123, 0, 23), (124, 0, 23), (125, 0, 23), (126, 0, 0), (127, 0, 7), (128, 0, 7), (129, 0, 7), (130, 0, 23), (131, 0, 23), (132, 0, 23), (133, 0, 0), (134, 0, 7), (135, 0, 7), (136, 0, 7), (137, 0, 23), (138, 0, 23), (139, 0, 23), (65, 1, 2), (98, 0, 0), (99, 0, 7)]
set_option maxRecDepth 20000 in
set_option maxHeartbeats 4000000 in
theorem t_X11_order  {h : im_H} (hI : tI h)  : CaP 7 73 [.ref 16] h (mI h F_X11_order (fun _ => True)) := by
  refine cap_of (d := 6) (M := mX11_order) rfl (Nat.le_of_ble_eq_true rfl) ?_
  show EvP im_K0 6 mX11_order (0, [(0, .ref 16)], [], h) _
  have f0 : fr F_X11_order h h := fr_rf
  refine te_aload_n (p2 := 1) rfl rfl rfl ?_
  refine tg_i (p2 := 4) (i := 0) rfl rfl hI rfl rfl rfl (fun y1 a1 b1 e1 => ?_)
  refine te_bipush (p2 := 6) (x := 6) rfl rfl (by decide) ?_
  refine tb_lt (p2 := 9) rfl rfl rfl (show Int32.toInt 6 = 6 from rfl) (fun c2 => ?_) (fun c2 => ?_)
  · refine te_aload_n (p2 := 13) rfl rfl rfl ?_
    refine tg_r (p2 := 16) (i := 0) (r := 81) rfl rfl hI rfl rfl rfl ?_
    refine te_aload_n (p2 := 17) rfl rfl rfl ?_
    refine tg_r (p2 := 20) (i := 0) (r := 83) rfl rfl hI rfl rfl rfl ?_
    refine te_aload_n (p2 := 21) rfl rfl rfl ?_
    refine tg_e (p2 := 24) (i := 0) (v := .int y1) rfl rfl hI rfl rfl e1 ?_
    refine tl_f (p2 := 25) (i := 67) (n := 6) (c0 := 98) (sp := 7) rfl rfl hI rfl rfl (by decide) rq_67 (by omega) (by omega) (fun o3 w3 => ?_)
    have q3 : o3 = 98 ∨ o3 = 105 ∨ o3 = 112 ∨ o3 = 119 ∨ o3 = 126 ∨ o3 = 133 := by omega
    refine cV_mI (p2 := 28) (i := 65) rfl rfl rfl rfl hI rfl rfl rfl (t_X10_readInto (o := o3) hI q3) (by decide) (fun y4 h4 I4 g4 r4 => ?_)
    have f4 := fr_tr (F1 := (F_X10_readInto o3)) (F := F_X11_order) f0 g4 (by rcases q3 with rfl | rfl | rfl | rfl | rfl | rfl <;> decide)
    obtain ⟨a4, b4⟩ := r4
    refine te_istore_n (p2 := 29) (lv2 := [(1, .int y4), (0, .ref 16)]) rfl rfl (by decide) rfl ?_
    refine te_aload_n (p2 := 30) rfl rfl rfl ?_
    refine tg_r (p2 := 33) (i := 0) (r := 81) rfl rfl I4 rfl rfl rfl ?_
    refine te_iconst (p2 := 34) (x := 0) rfl rfl (by decide) ?_
    refine tp_i (p2 := 37) (i := 65) rfl rfl I4 rfl rfl (by decide) rfl rfl rfl (by decide) (by decide) (by decide) rfl (fun h5 I5 u5 => ?_)
    have f5 := fr_st (F := F_X11_order) 41 f4 u5 rfl (by decide) (by decide)
    refine te_iload_n (p2 := 38) rfl rfl rfl ?_
    refine tz_ne (p2 := 41) rfl rfl rfl (fun c6 => ?_) (fun c6 => ?_)
    · refine te_aload_n (p2 := 53) rfl rfl rfl ?_
      refine te_dup (p2 := 54) rfl rfl rfl ?_
      refine tg_e (p2 := 57) (i := 0) (v := .int y1) rfl rfl I5 rfl rfl ((u5.2 _ _ (Or.inl (by decide))).trans ((g4 _ _ (by rcases q3 with rfl | rfl | rfl | rfl | rfl | rfl <;> rfl)).trans e1)) ?_
      refine te_iconst (p2 := 58) (x := 1) rfl rfl (by decide) ?_
      refine ar_add (p2 := 59) rfl rfl rfl (show Int32.toInt 1 = 1 from rfl) (by omega) (by omega) (fun z7 e7 f7 => ?_)
      refine tp_i (p2 := 62) (i := 0) rfl rfl I5 rfl rfl (by decide) rfl rfl rfl (by omega) (by omega) (by omega) rfl (fun h8 I8 u8 => ?_)
      have f8 := fr_st (F := F_X11_order) 0 f5 u8 rfl (by decide) (by decide)
      refine te_aload_n (p2 := 63) rfl rfl rfl ?_
      refine tg_e (p2 := 66) (i := 0) (v := .int z7) rfl rfl I8 rfl rfl u8.1 ?_
      refine te_iconst (p2 := 67) (x := 1) rfl rfl (by decide) ?_
      refine ar_sub (p2 := 68) rfl rfl rfl (show Int32.toInt 1 = 1 from rfl) (by omega) (by omega) (fun z9 e9 f9 => ?_)
      exact te_iret rfl rfl ⟨I8, f8, _, rfl, trivial⟩
    · refine te_bipush (p2 := 43) (x := (-100)) rfl rfl (by decide) ?_
      refine te_aload_n (p2 := 44) rfl rfl rfl ?_
      refine tg_r (p2 := 47) (i := 0) (r := 81) rfl rfl I5 rfl rfl rfl ?_
      refine tg_i (p2 := 50) (i := 65) rfl rfl I5 rfl rfl rfl (fun y10 a10 b10 e10 => ?_)
      refine ar_sub (p2 := 51) rfl rfl (show Int32.toInt (-100) = (-100) from rfl) rfl (by omega) (by omega) (fun z11 e11 f11 => ?_)
      exact te_iret rfl rfl ⟨I5, f5, _, rfl, trivial⟩
  · refine te_bipush (p2 := 11) (x := (-4)) rfl rfl (by decide) ?_
    exact te_iret rfl rfl ⟨hI, f0, _, rfl, trivial⟩
