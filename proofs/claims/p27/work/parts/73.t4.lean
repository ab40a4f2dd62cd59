set_option maxRecDepth 20000 in
set_option maxHeartbeats 4000000 in
theorem t_X0_livingKin {s : Nat} {p : Int32} {h : im_H} (hI : tI h) (q_s : s = 23 ∨ s = 37 ∨ s = 51) (p_p0 : 0 ≤ p.toInt) (p_p1 : p.toInt ≤ 23) : CaP 1 6 [.ref 17, .ref (16 + s), .int p] h (pI h (fun _ => True)) := by
  refine cap_of (d := 0) (M := mX0_livingKin) rfl (Nat.le_of_ble_eq_true rfl) ?_
  show EvP im_K0 0 mX0_livingKin (0, [(0, .ref 17), (1, .ref (16 + s)), (2, .int p)], [], h) _
  refine te_iconst (p2 := 1) (x := 0) rfl rfl (by decide) ?_
  refine te_istore_n (p2 := 2) (lv2 := [(3, .int 0), (0, .ref 17), (1, .ref (16 + s)), (2, .int p)]) rfl rfl (by decide) rfl ?_
  refine te_iconst (p2 := 3) (x := 0) rfl rfl (by decide) ?_
  refine te_istore (p2 := 5) (lv2 := [(4, .int 0), (3, .int 0), (0, .ref 17), (1, .ref (16 + s)), (2, .int p)]) rfl rfl (by decide) rfl ?_
  have lp1 : ∀ (n1 : Nat) (v1_3 v1_4 : Int32) , 0 ≤ v1_4.toInt → v1_4.toInt ≤ 24 → 24 - v1_4.toInt < (n1 : Int) → EvP im_K0 0 mX0_livingKin (5, [(0, .ref 17), (1, .ref (16 + s)), (2, .int p), (3, .int v1_3), (4, .int v1_4)], [], h) (pI h (fun _ => True)) := by
    intro n1
    induction n1 with
    | zero => intro v1_3 v1_4 a1_4 b1_4 m1; exfalso; omega
    | succ n1 ih1 =>
      intro v1_3 v1_4 a1_4 b1_4 m1
      refine te_iload (p2 := 7) rfl rfl rfl ?_
      refine te_aload_n (p2 := 8) rfl rfl rfl ?_
      refine tg_i (p2 := 11) (i := 1) rfl rfl hI rfl rfl rfl (fun y2 a2 b2 e2 => ?_)
      refine tb_ge (p2 := 14) rfl rfl rfl rfl (fun c3 => ?_) (fun c3 => ?_)
      · refine te_iload_n (p2 := 60) rfl rfl rfl ?_
        exact te_iret rfl rfl ⟨rfl, _, rfl, trivial⟩
      · refine te_iload (p2 := 16) rfl rfl rfl ?_
        refine te_iload_n (p2 := 17) rfl rfl rfl ?_
        refine tb_eq (p2 := 20) rfl rfl rfl rfl (fun c4 => ?_) (fun c4 => ?_)
        · refine ar_inc (p2 := 56) (x := v1_4) rfl rfl (by decide) rfl (by decide) rfl (by omega) (by omega) (fun z5 e5 f5 => ?_)
          show EvP _ _ _ (56, [(4, .int z5), (0, .ref 17), (1, .ref (16 + s)), (2, .int p), (3, .int v1_3)], [], h) _
          refine te_goto rfl ?_
          refine te_lv [(0, .ref 17), (1, .ref (16 + s)), (2, .int p), (3, .int v1_3), (4, .int z5)] rfl rfl ⟨rfl, rfl, rfl, rfl, rfl, trivial⟩ ?_
          exact ih1 v1_3 z5 (by omega) (by omega) (by omega)
        · refine te_aload_n (p2 := 21) rfl rfl rfl ?_
          refine tg_r (p2 := 24) (i := 1) (r := 21) rfl rfl hI rfl rfl rfl ?_
          refine te_iload (p2 := 26) rfl rfl rfl ?_
          refine tl_i (p2 := 27) (i := 5) (n := 24) rfl rfl hI rfl rfl rfl rfl (by omega) (by omega) (fun y6 a6 b6 g6 e6 => ?_)
          refine te_aload_n (p2 := 28) rfl rfl rfl ?_
          refine tg_r (p2 := 31) (i := 1) (r := 21) rfl rfl hI rfl rfl rfl ?_
          refine te_iload_n (p2 := 32) rfl rfl rfl ?_
          refine tl_i (p2 := 33) (i := 5) (n := 24) rfl rfl hI rfl rfl rfl rfl (by omega) (by omega) (fun y7 a7 b7 g7 e7 => ?_)
          refine tb_ne (p2 := 36) rfl rfl rfl rfl (fun c8 => ?_) (fun c8 => ?_)
          · refine ar_inc (p2 := 56) (x := v1_4) rfl rfl (by decide) rfl (by decide) rfl (by omega) (by omega) (fun z9 e9 f9 => ?_)
            show EvP _ _ _ (56, [(4, .int z9), (0, .ref 17), (1, .ref (16 + s)), (2, .int p), (3, .int v1_3)], [], h) _
            refine te_goto rfl ?_
            refine te_lv [(0, .ref 17), (1, .ref (16 + s)), (2, .int p), (3, .int v1_3), (4, .int z9)] rfl rfl ⟨rfl, rfl, rfl, rfl, rfl, trivial⟩ ?_
            exact ih1 v1_3 z9 (by omega) (by omega) (by omega)
          · refine te_aload_n (p2 := 37) rfl rfl rfl ?_
            refine tg_r (p2 := 40) (i := s) (r := (16 + (s + 7))) rfl rfl hI rfl (by rcases q_s with rfl | rfl | rfl <;> rfl) (by rcases q_s with rfl | rfl | rfl <;> rfl) ?_
            refine te_iload (p2 := 42) rfl rfl rfl ?_
            refine tl_b (p2 := 43) (i := (s + 7)) (n := 24) rfl rfl hI rfl (by rcases q_s with rfl | rfl | rfl <;> rfl) (by rcases q_s with rfl | rfl | rfl <;> rfl) rfl (by omega) (by omega) (fun y10 a10 e10 => ?_)
            refine tz_ne (p2 := 46) rfl rfl rfl (fun c11 => ?_) (fun c11 => ?_)
            · refine ar_inc (p2 := 56) (x := v1_4) rfl rfl (by decide) rfl (by decide) rfl (by omega) (by omega) (fun z12 e12 f12 => ?_)
              show EvP _ _ _ (56, [(4, .int z12), (0, .ref 17), (1, .ref (16 + s)), (2, .int p), (3, .int v1_3)], [], h) _
              refine te_goto rfl ?_
              refine te_lv [(0, .ref 17), (1, .ref (16 + s)), (2, .int p), (3, .int v1_3), (4, .int z12)] rfl rfl ⟨rfl, rfl, rfl, rfl, rfl, trivial⟩ ?_
              exact ih1 v1_3 z12 (by omega) (by omega) (by omega)
            · refine te_iload_n (p2 := 47) rfl rfl rfl ?_
              refine te_iconst (p2 := 48) (x := 1) rfl rfl (by decide) ?_
              refine te_iload (p2 := 50) rfl rfl rfl ?_
              refine au_shl (p2 := 51) rfl rfl (fun z13 e13 => ?_)
              refine au_or (p2 := 52) rfl rfl (fun z14 e14 => ?_)
              refine te_istore_n (p2 := 53) (lv2 := [(3, .int z14), (0, .ref 17), (1, .ref (16 + s)), (2, .int p), (4, .int v1_4)]) rfl rfl (by decide) rfl ?_
              refine ar_inc (p2 := 56) (x := v1_4) rfl rfl (by decide) rfl (by decide) rfl (by omega) (by omega) (fun z15 e15 f15 => ?_)
              show EvP _ _ _ (56, [(4, .int z15), (3, .int z14), (0, .ref 17), (1, .ref (16 + s)), (2, .int p)], [], h) _
              refine te_goto rfl ?_
              refine te_lv [(0, .ref 17), (1, .ref (16 + s)), (2, .int p), (3, .int z14), (4, .int z15)] rfl rfl ⟨rfl, rfl, rfl, rfl, rfl, trivial⟩ ?_
              exact ih1 z14 z15 (by omega) (by omega) (by omega)
  refine te_lv [(0, .ref 17), (1, .ref (16 + s)), (2, .int p), (3, .int 0), (4, .int 0)] rfl rfl ⟨rfl, rfl, rfl, rfl, rfl, trivial⟩ ?_
  exact lp1 25 0 0 (by decide) (by decide) (by have cc0 := (show Int32.toInt 0 = 0 from rfl); omega)
set_option maxRecDepth 20000 in
set_option maxHeartbeats 4000000 in
theorem t_X1_holds {o : Nat} {line : Int32} {h : im_H} (hI : tI h) (q_o : o = 98 ∨ o = 105 ∨ o = 112 ∨ o = 119 ∨ o = 126 ∨ o = 133) (p_line0 : 0 ≤ line.toInt) (p_line1 : line.toInt ≤ 7) : CaP 1 18 [.ref (16 + o), .int line, .ref 27] h (pI h (fun y => 0 ≤ y.toInt ∧ y.toInt ≤ 1)) := by
  refine cap_of (d := 0) (M := mX1_holds) rfl (Nat.le_of_ble_eq_true rfl) ?_
  show EvP im_K0 0 mX1_holds (0, [(0, .ref (16 + o)), (1, .int line), (2, .ref 27)], [], h) _
  refine te_iconst (p2 := 1) (x := 0) rfl rfl (by decide) ?_
  refine te_istore_n (p2 := 2) (lv2 := [(3, .int 0), (0, .ref (16 + o)), (1, .int line), (2, .ref 27)]) rfl rfl (by decide) rfl ?_
  have lp1 : ∀ (n1 : Nat) (v1_3 : Int32) , 0 ≤ v1_3.toInt → v1_3.toInt ≤ 3 → 3 - v1_3.toInt < (n1 : Int) → EvP im_K0 0 mX1_holds (2, [(0, .ref (16 + o)), (1, .int line), (2, .ref 27), (3, .int v1_3)], [], h) (pI h (fun y => 0 ≤ y.toInt ∧ y.toInt ≤ 1)) := by
    intro n1
    induction n1 with
    | zero => intro v1_3 a1_3 b1_3 m1; exfalso; omega
    | succ n1 ih1 =>
      intro v1_3 a1_3 b1_3 m1
      refine te_iload_n (p2 := 3) rfl rfl rfl ?_
      refine te_aload_n (p2 := 4) rfl rfl rfl ?_
      refine tg_r (p2 := 7) (i := o) (r := (16 + (o + 3))) rfl rfl hI rfl (by rcases q_o with rfl | rfl | rfl | rfl | rfl | rfl <;> rfl) (by rcases q_o with rfl | rfl | rfl | rfl | rfl | rfl <;> rfl) ?_
      refine te_iload_n (p2 := 8) rfl rfl rfl ?_
      refine tl_i (p2 := 9) (i := (o + 3)) (n := 8) rfl rfl hI rfl (by rcases q_o with rfl | rfl | rfl | rfl | rfl | rfl <;> rfl) (by rcases q_o with rfl | rfl | rfl | rfl | rfl | rfl <;> rfl) rfl (by omega) (by omega) (fun y2 a2 b2 g2 e2 => ?_)
      refine tb_ge (p2 := 12) rfl rfl rfl rfl (fun c3 => ?_) (fun c3 => ?_)
      · refine te_iconst (p2 := 108) (x := 1) rfl rfl (by decide) ?_
        exact te_zret rfl rfl (by decide) ⟨rfl, _, rfl, by decide, by decide⟩
      · refine te_iconst (p2 := 13) (x := 3) rfl rfl (by decide) ?_
        refine te_iload_n (p2 := 14) rfl rfl rfl ?_
        refine ar_mul (p2 := 15) rfl rfl (show Int32.toInt 3 = 3 from rfl) rfl (by omega) (by omega) (fun z4 e4 f4 => ?_)
        refine te_iload_n (p2 := 16) rfl rfl rfl ?_
        refine ar_add (p2 := 17) rfl rfl rfl rfl (by omega) (by omega) (fun z5 e5 f5 => ?_)
        refine te_istore (p2 := 19) (lv2 := [(4, .int z5), (0, .ref (16 + o)), (1, .int line), (2, .ref 27), (3, .int v1_3)]) rfl rfl (by decide) rfl ?_
        refine te_aload_n (p2 := 20) rfl rfl rfl ?_
        refine te_aload_n (p2 := 21) rfl rfl rfl ?_
        refine tg_r (p2 := 24) (i := o) (r := (16 + (o + 4))) rfl rfl hI rfl (by rcases q_o with rfl | rfl | rfl | rfl | rfl | rfl <;> rfl) (by rcases q_o with rfl | rfl | rfl | rfl | rfl | rfl <;> rfl) ?_
        refine te_iload (p2 := 26) rfl rfl rfl ?_
        refine tl_i (p2 := 27) (i := (o + 4)) (n := 24) rfl rfl hI rfl (by rcases q_o with rfl | rfl | rfl | rfl | rfl | rfl <;> rfl) (by rcases q_o with rfl | rfl | rfl | rfl | rfl | rfl <;> rfl) rfl (by omega) (by omega) (fun y6 a6 b6 g6 e6 => ?_)
        have j7 : z5.toInt.toNat = 3 * line.toInt.toNat + v1_3.toInt.toNat := by omega
        have t7 : 0 ≤ y6.toInt := hI.2.2 o line.toInt.toNat v1_3.toInt.toNat y2 y6 (by rcases q_o with rfl | rfl | rfl | rfl | rfl | rfl <;> decide) (by omega) e2 (by omega) (by omega) (by rw [← j7]; exact e6)
        refine tl_i (p2 := 28) (i := 11) (n := 8) rfl rfl hI rfl rfl rfl rfl (by omega) (by omega) (fun y8 a8 b8 g8 e8 => ?_)
        refine te_istore (p2 := 30) (lv2 := [(5, .int y8), (4, .int z5), (0, .ref (16 + o)), (1, .int line), (2, .ref 27), (3, .int v1_3)]) rfl rfl (by decide) rfl ?_
        refine te_aload_n (p2 := 31) rfl rfl rfl ?_
        refine tg_r (p2 := 34) (i := o) (r := (16 + (o + 6))) rfl rfl hI rfl (by rcases q_o with rfl | rfl | rfl | rfl | rfl | rfl <;> rfl) (by rcases q_o with rfl | rfl | rfl | rfl | rfl | rfl <;> rfl) ?_
        refine te_iload (p2 := 36) rfl rfl rfl ?_
        refine tl_i (p2 := 37) (i := (o + 6)) (n := 24) rfl rfl hI rfl (by rcases q_o with rfl | rfl | rfl | rfl | rfl | rfl <;> rfl) (by rcases q_o with rfl | rfl | rfl | rfl | rfl | rfl <;> rfl) rfl (by omega) (by omega) (fun y9 a9 b9 g9 e9 => ?_)
        refine te_istore (p2 := 39) (lv2 := [(6, .int y9), (5, .int y8), (4, .int z5), (0, .ref (16 + o)), (1, .int line), (2, .ref 27), (3, .int v1_3)]) rfl rfl (by decide) rfl ?_
        refine te_iload (p2 := 41) rfl rfl rfl ?_
        refine te_iload (p2 := 43) rfl rfl rfl ?_
        refine tb_ne (p2 := 46) rfl rfl rfl rfl (fun c10 => ?_) (fun c10 => ?_)
        · refine te_aload_n (p2 := 66) rfl rfl rfl ?_
          refine tg_r (p2 := 69) (i := o) (r := (16 + (o + 5))) rfl rfl hI rfl (by rcases q_o with rfl | rfl | rfl | rfl | rfl | rfl <;> rfl) (by rcases q_o with rfl | rfl | rfl | rfl | rfl | rfl <;> rfl) ?_
          refine te_iload (p2 := 71) rfl rfl rfl ?_
          refine tl_i (p2 := 72) (i := (o + 5)) (n := 24) rfl rfl hI rfl (by rcases q_o with rfl | rfl | rfl | rfl | rfl | rfl <;> rfl) (by rcases q_o with rfl | rfl | rfl | rfl | rfl | rfl <;> rfl) rfl (by omega) (by omega) (fun y11 a11 b11 g11 e11 => ?_)
          refine te_iload (p2 := 74) rfl rfl rfl ?_
          refine te_iload (p2 := 76) rfl rfl rfl ?_
          refine tb_ge (p2 := 79) rfl rfl rfl rfl (fun c12 => ?_) (fun c12 => ?_)
          · refine te_iconst (p2 := 84) (x := 1) rfl rfl (by decide) ?_
            refine tb_eq (p2 := 87) rfl rfl rfl (show Int32.toInt 1 = 1 from rfl) (fun c13 => ?_) (fun c13 => ?_)
            · refine te_iconst (p2 := 92) (x := 0) rfl rfl (by decide) ?_
              refine te_istore (p2 := 94) (lv2 := [(7, .int 0), (6, .int y9), (5, .int y8), (4, .int z5), (0, .ref (16 + o)), (1, .int line), (2, .ref 27), (3, .int v1_3)]) rfl rfl (by decide) rfl ?_
              refine te_iload (p2 := 96) rfl rfl rfl ?_
              refine tz_eq (p2 := 99) rfl rfl (show Int32.toInt 0 = 0 from rfl) (fun c14 => ?_) (fun c14 => absurd c14 (by omega))
              refine ar_inc (p2 := 104) (x := v1_3) rfl rfl (by decide) rfl (by decide) rfl (by omega) (by omega) (fun z15 e15 f15 => ?_)
              show EvP _ _ _ (104, [(3, .int z15), (7, .int 0), (6, .int y9), (5, .int y8), (4, .int z5), (0, .ref (16 + o)), (1, .int line), (2, .ref 27)], [], h) _
              refine te_goto rfl ?_
              refine te_lv [(0, .ref (16 + o)), (1, .int line), (2, .ref 27), (3, .int z15)] rfl rfl ⟨rfl, rfl, rfl, rfl, trivial⟩ ?_
              exact ih1 z15 (by omega) (by omega) (by omega)
            · refine te_iconst (p2 := 88) (x := 1) rfl rfl (by decide) ?_
              refine te_goto rfl ?_
              refine te_istore (p2 := 94) (lv2 := [(7, .int 1), (6, .int y9), (5, .int y8), (4, .int z5), (0, .ref (16 + o)), (1, .int line), (2, .ref 27), (3, .int v1_3)]) rfl rfl (by decide) rfl ?_
              refine te_iload (p2 := 96) rfl rfl rfl ?_
              refine tz_eq (p2 := 99) rfl rfl (show Int32.toInt 1 = 1 from rfl) (fun c16 => absurd c16 (by omega)) (fun c16 => ?_)
              refine te_iconst (p2 := 100) (x := 0) rfl rfl (by decide) ?_
              exact te_zret rfl rfl (by decide) ⟨rfl, _, rfl, by decide, by decide⟩
          · refine te_iconst (p2 := 80) (x := 0) rfl rfl (by decide) ?_
            refine te_goto rfl ?_
            refine tb_eq (p2 := 87) rfl rfl rfl (show Int32.toInt 0 = 0 from rfl) (fun c17 => ?_) (fun c17 => ?_)
            · refine te_iconst (p2 := 92) (x := 0) rfl rfl (by decide) ?_
              refine te_istore (p2 := 94) (lv2 := [(7, .int 0), (6, .int y9), (5, .int y8), (4, .int z5), (0, .ref (16 + o)), (1, .int line), (2, .ref 27), (3, .int v1_3)]) rfl rfl (by decide) rfl ?_
              refine te_iload (p2 := 96) rfl rfl rfl ?_
              refine tz_eq (p2 := 99) rfl rfl (show Int32.toInt 0 = 0 from rfl) (fun c18 => ?_) (fun c18 => absurd c18 (by omega))
              refine ar_inc (p2 := 104) (x := v1_3) rfl rfl (by decide) rfl (by decide) rfl (by omega) (by omega) (fun z19 e19 f19 => ?_)
              show EvP _ _ _ (104, [(3, .int z19), (7, .int 0), (6, .int y9), (5, .int y8), (4, .int z5), (0, .ref (16 + o)), (1, .int line), (2, .ref 27)], [], h) _
              refine te_goto rfl ?_
              refine te_lv [(0, .ref (16 + o)), (1, .int line), (2, .ref 27), (3, .int z19)] rfl rfl ⟨rfl, rfl, rfl, rfl, trivial⟩ ?_
              exact ih1 z19 (by omega) (by omega) (by omega)
            · refine te_iconst (p2 := 88) (x := 1) rfl rfl (by decide) ?_
              refine te_goto rfl ?_
              refine te_istore (p2 := 94) (lv2 := [(7, .int 1), (6, .int y9), (5, .int y8), (4, .int z5), (0, .ref (16 + o)), (1, .int line), (2, .ref 27), (3, .int v1_3)]) rfl rfl (by decide) rfl ?_
              refine te_iload (p2 := 96) rfl rfl rfl ?_
              refine tz_eq (p2 := 99) rfl rfl (show Int32.toInt 1 = 1 from rfl) (fun c20 => absurd c20 (by omega)) (fun c20 => ?_)
              refine te_iconst (p2 := 100) (x := 0) rfl rfl (by decide) ?_
              exact te_zret rfl rfl (by decide) ⟨rfl, _, rfl, by decide, by decide⟩
        · refine te_aload_n (p2 := 47) rfl rfl rfl ?_
          refine tg_r (p2 := 50) (i := o) (r := (16 + (o + 5))) rfl rfl hI rfl (by rcases q_o with rfl | rfl | rfl | rfl | rfl | rfl <;> rfl) (by rcases q_o with rfl | rfl | rfl | rfl | rfl | rfl <;> rfl) ?_
          refine te_iload (p2 := 52) rfl rfl rfl ?_
          refine tl_i (p2 := 53) (i := (o + 5)) (n := 24) rfl rfl hI rfl (by rcases q_o with rfl | rfl | rfl | rfl | rfl | rfl <;> rfl) (by rcases q_o with rfl | rfl | rfl | rfl | rfl | rfl <;> rfl) rfl (by omega) (by omega) (fun y21 a21 b21 g21 e21 => ?_)
          refine te_iconst (p2 := 54) (x := 2) rfl rfl (by decide) ?_
          refine tb_eq (p2 := 57) rfl rfl rfl (show Int32.toInt 2 = 2 from rfl) (fun c22 => ?_) (fun c22 => ?_)
          · refine te_iconst (p2 := 62) (x := 0) rfl rfl (by decide) ?_
            refine te_goto rfl ?_
            refine te_istore (p2 := 94) (lv2 := [(7, .int 0), (6, .int y9), (5, .int y8), (4, .int z5), (0, .ref (16 + o)), (1, .int line), (2, .ref 27), (3, .int v1_3)]) rfl rfl (by decide) rfl ?_
            refine te_iload (p2 := 96) rfl rfl rfl ?_
            refine tz_eq (p2 := 99) rfl rfl (show Int32.toInt 0 = 0 from rfl) (fun c23 => ?_) (fun c23 => absurd c23 (by omega))
            refine ar_inc (p2 := 104) (x := v1_3) rfl rfl (by decide) rfl (by decide) rfl (by omega) (by omega) (fun z24 e24 f24 => ?_)
            show EvP _ _ _ (104, [(3, .int z24), (7, .int 0), (6, .int y9), (5, .int y8), (4, .int z5), (0, .ref (16 + o)), (1, .int line), (2, .ref 27)], [], h) _
            refine te_goto rfl ?_
            refine te_lv [(0, .ref (16 + o)), (1, .int line), (2, .ref 27), (3, .int z24)] rfl rfl ⟨rfl, rfl, rfl, rfl, trivial⟩ ?_
            exact ih1 z24 (by omega) (by omega) (by omega)
          · refine te_iconst (p2 := 58) (x := 1) rfl rfl (by decide) ?_
            refine te_goto rfl ?_
            refine te_istore (p2 := 94) (lv2 := [(7, .int 1), (6, .int y9), (5, .int y8), (4, .int z5), (0, .ref (16 + o)), (1, .int line), (2, .ref 27), (3, .int v1_3)]) rfl rfl (by decide) rfl ?_
            refine te_iload (p2 := 96) rfl rfl rfl ?_
            refine tz_eq (p2 := 99) rfl rfl (show Int32.toInt 1 = 1 from rfl) (fun c25 => absurd c25 (by omega)) (fun c25 => ?_)
            refine te_iconst (p2 := 100) (x := 0) rfl rfl (by decide) ?_
            exact te_zret rfl rfl (by decide) ⟨rfl, _, rfl, by decide, by decide⟩
  refine te_lv [(0, .ref (16 + o)), (1, .int line), (2, .ref 27), (3, .int 0)] rfl rfl ⟨rfl, rfl, rfl, rfl, trivial⟩ ?_
  exact lp1 4 0 (by decide) (by decide) (by have cc0 := (show Int32.toInt 0 = 0 from rfl); omega)
abbrev F_X0_said : List (Nat × Nat × Nat) := [(11, 0, 7)]
set_option maxRecDepth 20000 in
set_option maxHeartbeats 4000000 in
theorem t_X0_said {s : Nat} {p : Int32} {key : Int32} {h : im_H} (hI : tI h) (q_s : s = 23 ∨ s = 37 ∨ s = 51) (p_p0 : 0 ≤ p.toInt) (p_p1 : p.toInt ≤ 23) : CaP 2 3 [.ref 17, .ref (16 + s), .int p, .int key] h (mI h F_X0_said (fun _ => True)) := by
  refine cap_of (d := 1) (M := mX0_said) rfl (Nat.le_of_ble_eq_true rfl) ?_
  show EvP im_K0 1 mX0_said (0, [(0, .ref 17), (1, .ref (16 + s)), (2, .int p), (3, .int key)], [], h) _
  have f0 : fr F_X0_said h h := fr_rf
  refine te_aload_n (p2 := 1) rfl rfl rfl ?_
  refine tg_n (p2 := 4) (i := 1) rfl rfl hI rfl rfl rfl (fun e1 => ?_) (fun r1 m1 e1 => ?_)
  · refine tn_null (p2 := 7) rfl rfl ?_
    refine te_iload_n (p2 := 8) rfl rfl rfl ?_
    refine tz_ne (p2 := 11) rfl rfl rfl (fun c2 => ?_) (fun c2 => ?_)
    · refine te_iload_n (p2 := 17) rfl rfl rfl ?_
      refine te_iconst (p2 := 18) (x := 1) rfl rfl (by decide) ?_
      refine tb_ne (p2 := 21) rfl rfl rfl (show Int32.toInt 1 = 1 from rfl) (fun c3 => ?_) (fun c3 => ?_)
      · refine te_iconst (p2 := 26) (x := 0) rfl rfl (by decide) ?_
        exact te_iret rfl rfl ⟨hI, f0, _, rfl, trivial⟩
      · refine te_iconst (p2 := 22) (x := 1) rfl rfl (by decide) ?_
        refine te_goto rfl ?_
        exact te_iret rfl rfl ⟨hI, f0, _, rfl, trivial⟩
    · refine te_bipush (p2 := 13) (x := 8) rfl rfl (by decide) ?_
      refine te_goto rfl ?_
      exact te_iret rfl rfl ⟨hI, f0, _, rfl, trivial⟩
  · obtain ⟨o1, w1, q1⟩ : ∃ o : Nat, r1 = 16 + o ∧ (o = 98 ∨ o = 105 ∨ o = 112 ∨ o = 119 ∨ o = 126 ∨ o = 133) := by simp only [List.mem_cons, List.not_mem_nil, or_false] at m1; exact ⟨r1 - 16, by omega, by omega⟩
    subst w1
    refine tn_ref rfl ?_
    refine te_aload_n (p2 := 28) rfl rfl rfl ?_
    refine tg_r (p2 := 31) (i := 1) (r := 27) rfl rfl hI rfl rfl rfl ?_
    refine te_iconst (p2 := 32) (x := 0) rfl rfl (by decide) ?_
    refine te_aload_n (p2 := 33) rfl rfl rfl ?_
    refine tg_r (p2 := 36) (i := 1) (r := 19) rfl rfl hI rfl rfl rfl ?_
    refine te_iload_n (p2 := 37) rfl rfl rfl ?_
    refine tl_i (p2 := 38) (i := 3) (n := 24) rfl rfl hI rfl rfl rfl rfl (by omega) (by omega) (fun y4 a4 b4 g4 e4 => ?_)
    refine ts_i (p2 := 39) (i := 11) (n := 8) rfl rfl hI rfl rfl rfl rfl (by decide) (by decide) (i32_lo _) (i32_hi _) (i32_ho _) rfl (fun h5 I5 u5 => ?_)
    have f5 := fr_st (F := F_X0_said) 0 f0 u5 rfl (by decide) (by decide)
    refine te_aload_n (p2 := 40) rfl rfl rfl ?_
    refine tg_r (p2 := 43) (i := 1) (r := 27) rfl rfl I5 rfl rfl rfl ?_
    refine te_iconst (p2 := 44) (x := 1) rfl rfl (by decide) ?_
    refine te_aload_n (p2 := 45) rfl rfl rfl ?_
    refine tg_r (p2 := 48) (i := 1) (r := 20) rfl rfl I5 rfl rfl rfl ?_
    refine te_iload_n (p2 := 49) rfl rfl rfl ?_
    refine tl_i (p2 := 50) (i := 4) (n := 24) rfl rfl I5 rfl rfl rfl rfl (by omega) (by omega) (fun y6 a6 b6 g6 e6 => ?_)
    refine ts_i (p2 := 51) (i := 11) (n := 8) rfl rfl I5 rfl rfl rfl rfl (by decide) (by decide) (i32_lo _) (i32_hi _) (i32_ho _) rfl (fun h7 I7 u7 => ?_)
    have f7 := fr_st (F := F_X0_said) 0 f5 u7 rfl (by decide) (by decide)
    refine te_aload_n (p2 := 52) rfl rfl rfl ?_
    refine tg_r (p2 := 55) (i := 1) (r := 27) rfl rfl I7 rfl rfl rfl ?_
    refine te_iconst (p2 := 56) (x := 2) rfl rfl (by decide) ?_
    refine te_aload_n (p2 := 57) rfl rfl rfl ?_
    refine tg_r (p2 := 60) (i := 1) (r := 21) rfl rfl I7 rfl rfl rfl ?_
    refine te_iload_n (p2 := 61) rfl rfl rfl ?_
    refine tl_i (p2 := 62) (i := 5) (n := 24) rfl rfl I7 rfl rfl rfl rfl (by omega) (by omega) (fun y8 a8 b8 g8 e8 => ?_)
    refine ts_i (p2 := 63) (i := 11) (n := 8) rfl rfl I7 rfl rfl rfl rfl (by decide) (by decide) (i32_lo _) (i32_hi _) (i32_ho _) rfl (fun h9 I9 u9 => ?_)
    have f9 := fr_st (F := F_X0_said) 0 f7 u9 rfl (by decide) (by decide)
    refine te_aload_n (p2 := 64) rfl rfl rfl ?_
    refine tg_r (p2 := 67) (i := 1) (r := 27) rfl rfl I9 rfl rfl rfl ?_
    refine te_iconst (p2 := 68) (x := 3) rfl rfl (by decide) ?_
    refine te_aload_n (p2 := 69) rfl rfl rfl ?_
    refine tg_r (p2 := 72) (i := s) (r := (16 + (s + 4))) rfl rfl I9 rfl (by rcases q_s with rfl | rfl | rfl <;> rfl) (by rcases q_s with rfl | rfl | rfl <;> rfl) ?_
    refine te_iload_n (p2 := 73) rfl rfl rfl ?_
    refine tl_i (p2 := 74) (i := (s + 4)) (n := 24) rfl rfl I9 rfl (by rcases q_s with rfl | rfl | rfl <;> rfl) (by rcases q_s with rfl | rfl | rfl <;> rfl) rfl (by omega) (by omega) (fun y10 a10 b10 g10 e10 => ?_)
    refine ts_i (p2 := 75) (i := 11) (n := 8) rfl rfl I9 rfl rfl rfl rfl (by decide) (by decide) (i32_lo _) (i32_hi _) (i32_ho _) rfl (fun h11 I11 u11 => ?_)
    have f11 := fr_st (F := F_X0_said) 0 f9 u11 rfl (by decide) (by decide)
    refine te_aload_n (p2 := 76) rfl rfl rfl ?_
    refine tg_r (p2 := 79) (i := 1) (r := 27) rfl rfl I11 rfl rfl rfl ?_
    refine te_iconst (p2 := 80) (x := 4) rfl rfl (by decide) ?_
    refine te_aload_n (p2 := 81) rfl rfl rfl ?_
    refine tg_i (p2 := 84) (i := s) rfl rfl I11 rfl (by rcases q_s with rfl | rfl | rfl <;> rfl) (by rcases q_s with rfl | rfl | rfl <;> rfl) (fun y12 a12 b12 e12 => ?_)
    refine ts_i (p2 := 85) (i := 11) (n := 8) rfl rfl I11 rfl rfl rfl rfl (by decide) (by decide) (i32_lo _) (i32_hi _) (i32_ho _) rfl (fun h13 I13 u13 => ?_)
    have f13 := fr_st (F := F_X0_said) 0 f11 u13 rfl (by decide) (by decide)
    refine te_aload_n (p2 := 86) rfl rfl rfl ?_
    refine tg_r (p2 := 89) (i := 1) (r := 27) rfl rfl I13 rfl rfl rfl ?_
    refine te_iconst (p2 := 90) (x := 5) rfl rfl (by decide) ?_
    refine te_aload_n (p2 := 91) rfl rfl rfl ?_
    refine tg_i (p2 := 94) (i := s) rfl rfl I13 rfl (by rcases q_s with rfl | rfl | rfl <;> rfl) (by rcases q_s with rfl | rfl | rfl <;> rfl) (fun y14 a14 b14 e14 => ?_)
    refine ts_i (p2 := 95) (i := 11) (n := 8) rfl rfl I13 rfl rfl rfl rfl (by decide) (by decide) (i32_lo _) (i32_hi _) (i32_ho _) rfl (fun h15 I15 u15 => ?_)
    have f15 := fr_st (F := F_X0_said) 0 f13 u15 rfl (by decide) (by decide)
    refine te_aload_n (p2 := 96) rfl rfl rfl ?_
    refine tg_r (p2 := 99) (i := 1) (r := 27) rfl rfl I15 rfl rfl rfl ?_
    refine te_bipush (p2 := 101) (x := 6) rfl rfl (by decide) ?_
    refine te_aload_n (p2 := 102) rfl rfl rfl ?_
    refine tg_i (p2 := 105) (i := s) rfl rfl I15 rfl (by rcases q_s with rfl | rfl | rfl <;> rfl) (by rcases q_s with rfl | rfl | rfl <;> rfl) (fun y16 a16 b16 e16 => ?_)
    refine ts_i (p2 := 106) (i := 11) (n := 8) rfl rfl I15 rfl rfl rfl rfl (by decide) (by decide) (i32_lo _) (i32_hi _) (i32_ho _) rfl (fun h17 I17 u17 => ?_)
    have f17 := fr_st (F := F_X0_said) 0 f15 u17 rfl (by decide) (by decide)
    refine te_aload_n (p2 := 107) rfl rfl rfl ?_
    refine tg_r (p2 := 110) (i := 1) (r := 27) rfl rfl I17 rfl rfl rfl ?_
    refine te_bipush (p2 := 112) (x := 7) rfl rfl (by decide) ?_
    refine te_aload_n (p2 := 113) rfl rfl rfl ?_
    refine tg_r (p2 := 116) (i := s) (r := (16 + (s + 5))) rfl rfl I17 rfl (by rcases q_s with rfl | rfl | rfl <;> rfl) (by rcases q_s with rfl | rfl | rfl <;> rfl) ?_
    refine te_iload_n (p2 := 117) rfl rfl rfl ?_
    refine tl_i (p2 := 118) (i := (s + 5)) (n := 24) rfl rfl I17 rfl (by rcases q_s with rfl | rfl | rfl <;> rfl) (by rcases q_s with rfl | rfl | rfl <;> rfl) rfl (by omega) (by omega) (fun y18 a18 b18 g18 e18 => ?_)
    refine ts_i (p2 := 119) (i := 11) (n := 8) rfl rfl I17 rfl rfl rfl rfl (by decide) (by decide) (i32_lo _) (i32_hi _) (i32_ho _) rfl (fun h19 I19 u19 => ?_)
    have f19 := fr_st (F := F_X0_said) 0 f17 u19 rfl (by decide) (by decide)
    refine te_iconst (p2 := 120) (x := 0) rfl rfl (by decide) ?_
    refine te_istore (p2 := 122) (lv2 := [(4, .int 0), (0, .ref 17), (1, .ref (16 + s)), (2, .int p), (3, .int key)]) rfl rfl (by decide) rfl ?_
    have lp20 : ∀ (n20 : Nat) (v20_4 : Int32) , 0 ≤ v20_4.toInt → v20_4.toInt ≤ 8 → 8 - v20_4.toInt < (n20 : Int) → EvP im_K0 1 mX0_said (122, [(0, .ref 17), (1, .ref (16 + s)), (2, .int p), (3, .int key), (4, .int v20_4)], [], h19) (mI h F_X0_said (fun _ => True)) := by
      intro n20
      induction n20 with
      | zero => intro v20_4 a20_4 b20_4 m20; exfalso; omega
      | succ n20 ih20 =>
        intro v20_4 a20_4 b20_4 m20
        refine te_iload (p2 := 124) rfl rfl rfl ?_
        refine te_aload_n (p2 := 125) rfl rfl rfl ?_
        refine tg_e (p2 := 128) (i := 1) (v := .ref (16 + o1)) rfl rfl I19 rfl rfl ((u19.2 _ _ (Or.inl (by decide))).trans ((u17.2 _ _ (Or.inl (by decide))).trans ((u15.2 _ _ (Or.inl (by decide))).trans ((u13.2 _ _ (Or.inl (by decide))).trans ((u11.2 _ _ (Or.inl (by decide))).trans ((u9.2 _ _ (Or.inl (by decide))).trans ((u7.2 _ _ (Or.inl (by decide))).trans ((u5.2 _ _ (Or.inl (by decide))).trans e1)))))))) ?_
        refine tg_i (p2 := 131) (i := o1) rfl rfl I19 rfl (by rcases q1 with rfl | rfl | rfl | rfl | rfl | rfl <;> rfl) (by rcases q1 with rfl | rfl | rfl | rfl | rfl | rfl <;> rfl) (fun y21 a21 b21 e21 => ?_)
        refine tb_ge (p2 := 134) rfl rfl rfl rfl (fun c22 => ?_) (fun c22 => ?_)
        · refine te_iconst (p2 := 182) (x := 0) rfl rfl (by decide) ?_
          exact te_iret rfl rfl ⟨I19, f19, _, rfl, trivial⟩
        · refine te_aload_n (p2 := 135) rfl rfl rfl ?_
          refine tg_e (p2 := 138) (i := 1) (v := .ref (16 + o1)) rfl rfl I19 rfl rfl ((u19.2 _ _ (Or.inl (by decide))).trans ((u17.2 _ _ (Or.inl (by decide))).trans ((u15.2 _ _ (Or.inl (by decide))).trans ((u13.2 _ _ (Or.inl (by decide))).trans ((u11.2 _ _ (Or.inl (by decide))).trans ((u9.2 _ _ (Or.inl (by decide))).trans ((u7.2 _ _ (Or.inl (by decide))).trans ((u5.2 _ _ (Or.inl (by decide))).trans e1)))))))) ?_
          refine tg_r (p2 := 141) (i := o1) (r := (16 + (o1 + 1))) rfl rfl I19 rfl (by rcases q1 with rfl | rfl | rfl | rfl | rfl | rfl <;> rfl) (by rcases q1 with rfl | rfl | rfl | rfl | rfl | rfl <;> rfl) ?_
          refine te_iload (p2 := 143) rfl rfl rfl ?_
          refine tl_i (p2 := 144) (i := (o1 + 1)) (n := 8) rfl rfl I19 rfl (by rcases q1 with rfl | rfl | rfl | rfl | rfl | rfl <;> rfl) (by rcases q1 with rfl | rfl | rfl | rfl | rfl | rfl <;> rfl) rfl (by omega) (by omega) (fun y23 a23 b23 g23 e23 => ?_)
          refine te_iload_n (p2 := 145) rfl rfl rfl ?_
          refine tb_ne (p2 := 148) rfl rfl rfl rfl (fun c24 => ?_) (fun c24 => ?_)
          · refine ar_inc (p2 := 178) (x := v20_4) rfl rfl (by decide) rfl (by decide) rfl (by omega) (by omega) (fun z25 e25 f25 => ?_)
            show EvP _ _ _ (178, [(4, .int z25), (0, .ref 17), (1, .ref (16 + s)), (2, .int p), (3, .int key)], [], h19) _
            refine te_goto rfl ?_
            refine te_lv [(0, .ref 17), (1, .ref (16 + s)), (2, .int p), (3, .int key), (4, .int z25)] rfl rfl ⟨rfl, rfl, rfl, rfl, rfl, trivial⟩ ?_
            exact ih20 z25 (by omega) (by omega) (by omega)
          · refine te_aload_n (p2 := 149) rfl rfl rfl ?_
            refine tg_e (p2 := 152) (i := 1) (v := .ref (16 + o1)) rfl rfl I19 rfl rfl ((u19.2 _ _ (Or.inl (by decide))).trans ((u17.2 _ _ (Or.inl (by decide))).trans ((u15.2 _ _ (Or.inl (by decide))).trans ((u13.2 _ _ (Or.inl (by decide))).trans ((u11.2 _ _ (Or.inl (by decide))).trans ((u9.2 _ _ (Or.inl (by decide))).trans ((u7.2 _ _ (Or.inl (by decide))).trans ((u5.2 _ _ (Or.inl (by decide))).trans e1)))))))) ?_
            refine te_iload (p2 := 154) rfl rfl rfl ?_
            refine te_aload_n (p2 := 155) rfl rfl rfl ?_
            refine tg_r (p2 := 158) (i := 1) (r := 27) rfl rfl I19 rfl rfl rfl ?_
            refine cV_pI (p2 := 161) (i := o1) rfl rfl rfl rfl I19 rfl (by rcases q1 with rfl | rfl | rfl | rfl | rfl | rfl <;> rfl) rfl (t_X1_holds (o := o1) (line := v20_4) I19 q1 (by omega) (by omega)) (by decide) (fun y26 r26 => ?_)
            obtain ⟨a26, b26⟩ := r26
            refine tz_eq (p2 := 164) rfl rfl rfl (fun c27 => ?_) (fun c27 => ?_)
            · refine ar_inc (p2 := 178) (x := v20_4) rfl rfl (by decide) rfl (by decide) rfl (by omega) (by omega) (fun z28 e28 f28 => ?_)
              show EvP _ _ _ (178, [(4, .int z28), (0, .ref 17), (1, .ref (16 + s)), (2, .int p), (3, .int key)], [], h19) _
              refine te_goto rfl ?_
              refine te_lv [(0, .ref 17), (1, .ref (16 + s)), (2, .int p), (3, .int key), (4, .int z28)] rfl rfl ⟨rfl, rfl, rfl, rfl, rfl, trivial⟩ ?_
              exact ih20 z28 (by omega) (by omega) (by omega)
            · refine te_aload_n (p2 := 165) rfl rfl rfl ?_
              refine tg_e (p2 := 168) (i := 1) (v := .ref (16 + o1)) rfl rfl I19 rfl rfl ((u19.2 _ _ (Or.inl (by decide))).trans ((u17.2 _ _ (Or.inl (by decide))).trans ((u15.2 _ _ (Or.inl (by decide))).trans ((u13.2 _ _ (Or.inl (by decide))).trans ((u11.2 _ _ (Or.inl (by decide))).trans ((u9.2 _ _ (Or.inl (by decide))).trans ((u7.2 _ _ (Or.inl (by decide))).trans ((u5.2 _ _ (Or.inl (by decide))).trans e1)))))))) ?_
              refine tg_r (p2 := 171) (i := o1) (r := (16 + (o1 + 2))) rfl rfl I19 rfl (by rcases q1 with rfl | rfl | rfl | rfl | rfl | rfl <;> rfl) (by rcases q1 with rfl | rfl | rfl | rfl | rfl | rfl <;> rfl) ?_
              refine te_iload (p2 := 173) rfl rfl rfl ?_
              refine tl_i (p2 := 174) (i := (o1 + 2)) (n := 8) rfl rfl I19 rfl (by rcases q1 with rfl | rfl | rfl | rfl | rfl | rfl <;> rfl) (by rcases q1 with rfl | rfl | rfl | rfl | rfl | rfl <;> rfl) rfl (by omega) (by omega) (fun y29 a29 b29 g29 e29 => ?_)
              exact te_iret rfl rfl ⟨I19, f19, _, rfl, trivial⟩
    refine te_lv [(0, .ref 17), (1, .ref (16 + s)), (2, .int p), (3, .int key), (4, .int 0)] rfl rfl ⟨rfl, rfl, rfl, rfl, rfl, trivial⟩ ?_
    exact lp20 9 0 (by decide) (by decide) (by have cc0 := (show Int32.toInt 0 = 0 from rfl); omega)
abbrev F_X0_passes : List (Nat × Nat × Nat) := [(11, 0, 7)]
set_option maxRecDepth 20000 in
set_option maxHeartbeats 4000000 in
theorem t_X0_passes {s : Nat} {p : Int32} {h : im_H} (hI : tI h) (q_s : s = 23 ∨ s = 37 ∨ s = 51) (p_p0 : 0 ≤ p.toInt) (p_p1 : p.toInt ≤ 23) : CaP 3 4 [.ref 17, .ref (16 + s), .int p] h (mI h F_X0_passes (fun _ => True)) := by
  refine cap_of (d := 2) (M := mX0_passes) rfl (Nat.le_of_ble_eq_true rfl) ?_
  show EvP im_K0 2 mX0_passes (0, [(0, .ref 17), (1, .ref (16 + s)), (2, .int p)], [], h) _
  have f0 : fr F_X0_passes h h := fr_rf
  refine te_aload_n (p2 := 1) rfl rfl rfl ?_
  refine tg_r (p2 := 4) (i := s) (r := (16 + (s + 7))) rfl rfl hI rfl (by rcases q_s with rfl | rfl | rfl <;> rfl) (by rcases q_s with rfl | rfl | rfl <;> rfl) ?_
  refine te_iload_n (p2 := 5) rfl rfl rfl ?_
  refine tl_b (p2 := 6) (i := (s + 7)) (n := 24) rfl rfl hI rfl (by rcases q_s with rfl | rfl | rfl <;> rfl) (by rcases q_s with rfl | rfl | rfl <;> rfl) rfl (by omega) (by omega) (fun y1 a1 e1 => ?_)
  refine tz_ne (p2 := 9) rfl rfl rfl (fun c2 => ?_) (fun c2 => ?_)
  · refine te_iconst (p2 := 20) (x := 0) rfl rfl (by decide) ?_
    exact te_iret rfl rfl ⟨hI, f0, _, rfl, trivial⟩
  · refine te_aload_n (p2 := 10) rfl rfl rfl ?_
    refine te_aload_n (p2 := 11) rfl rfl rfl ?_
    refine te_iload_n (p2 := 12) rfl rfl rfl ?_
    refine te_iconst (p2 := 13) (x := 2) rfl rfl (by decide) ?_
    refine cV_mI (p2 := 16) (i := 1) rfl rfl rfl rfl hI rfl rfl rfl (t_X0_said (s := s) (p := p) (key := 2) hI q_s (by omega) (by omega)) (by decide) (fun y3 h3 I3 g3 r3 => ?_)
    have f3 := fr_tr (F1 := F_X0_said) (F := F_X0_passes) f0 g3 (by decide)
    refine tz_eq (p2 := 19) rfl rfl rfl (fun c4 => ?_) (fun c4 => ?_)
    · refine te_aload_n (p2 := 22) rfl rfl rfl ?_
      refine te_aload_n (p2 := 23) rfl rfl rfl ?_
      refine te_iload_n (p2 := 24) rfl rfl rfl ?_
      refine te_iconst (p2 := 25) (x := 0) rfl rfl (by decide) ?_
      refine cV_mI (p2 := 28) (i := 1) rfl rfl rfl rfl I3 rfl rfl rfl (t_X0_said (s := s) (p := p) (key := 0) I3 q_s (by omega) (by omega)) (by decide) (fun y5 h5 I5 g5 r5 => ?_)
      have f5 := fr_tr (F1 := F_X0_said) (F := F_X0_passes) f3 g5 (by decide)
      refine te_bipush (p2 := 30) (x := 14) rfl rfl (by decide) ?_
      refine ar_min (p2 := 33) rfl rfl rfl rfl (show Int32.toInt 14 = 14 from rfl) (fun z6 e6 f6 => ?_)
      refine te_istore_n (p2 := 34) (lv2 := [(3, .int z6), (0, .ref 17), (1, .ref (16 + s)), (2, .int p)]) rfl rfl (by decide) rfl ?_
      refine te_iload_n (p2 := 35) rfl rfl rfl ?_
      refine te_aload_n (p2 := 36) rfl rfl rfl ?_
      refine tg_r (p2 := 39) (i := 1) (r := 19) rfl rfl I5 rfl rfl rfl ?_
      refine te_iload_n (p2 := 40) rfl rfl rfl ?_
      refine tl_i (p2 := 41) (i := 3) (n := 24) rfl rfl I5 rfl rfl rfl rfl (by omega) (by omega) (fun y7 a7 b7 g7 e7 => ?_)
      refine te_aload_n (p2 := 42) rfl rfl rfl ?_
      refine tg_r (p2 := 45) (i := s) (r := (16 + (s + 4))) rfl rfl I5 rfl (by rcases q_s with rfl | rfl | rfl <;> rfl) (by rcases q_s with rfl | rfl | rfl <;> rfl) ?_
      refine te_iload_n (p2 := 46) rfl rfl rfl ?_
      refine tl_i (p2 := 47) (i := (s + 4)) (n := 24) rfl rfl I5 rfl (by rcases q_s with rfl | rfl | rfl <;> rfl) (by rcases q_s with rfl | rfl | rfl <;> rfl) rfl (by omega) (by omega) (fun y8 a8 b8 g8 e8 => ?_)
      refine au_sub (p2 := 48) rfl rfl (fun z9 e9 => ?_)
      refine te_iconst (p2 := 49) (x := 0) rfl rfl (by decide) ?_
      refine ar_max (p2 := 52) rfl rfl rfl rfl (show Int32.toInt 0 = 0 from rfl) (fun z10 e10 f10 => ?_)
      refine au_mul (p2 := 53) rfl rfl (fun z11 e11 => ?_)
      exact te_iret rfl rfl ⟨I5, f5, _, rfl, trivial⟩
    · refine te_iconst (p2 := 20) (x := 0) rfl rfl (by decide) ?_
      exact te_iret rfl rfl ⟨I3, f3, _, rfl, trivial⟩
abbrev F_X0_cellByDay : List (Nat × Nat × Nat) := [(11, 0, 7)]
set_option maxRecDepth 20000 in
set_option maxHeartbeats 4000000 in
theorem t_X0_cellByDay {s : Nat} {p : Int32} {h : im_H} (hI : tI h) (q_s : s = 23 ∨ s = 37 ∨ s = 51) (p_p0 : 0 ≤ p.toInt) (p_p1 : p.toInt ≤ 23) : CaP 4 5 [.ref 17, .ref (16 + s), .int p] h (mI h F_X0_cellByDay (fun _ => True)) := by
  refine cap_of (d := 3) (M := mX0_cellByDay) rfl (Nat.le_of_ble_eq_true rfl) ?_
  show EvP im_K0 3 mX0_cellByDay (0, [(0, .ref 17), (1, .ref (16 + s)), (2, .int p)], [], h) _
  have f0 : fr F_X0_cellByDay h h := fr_rf
  refine te_aload_n (p2 := 1) rfl rfl rfl ?_
  refine tg_r (p2 := 4) (i := 1) (r := 22) rfl rfl hI rfl rfl rfl ?_
  refine te_iload_n (p2 := 5) rfl rfl rfl ?_
  refine tl_i (p2 := 6) (i := 6) (n := 24) rfl rfl hI rfl rfl rfl rfl (by omega) (by omega) (fun y1 a1 b1 g1 e1 => ?_)
  refine te_istore_n (p2 := 7) (lv2 := [(3, .int y1), (0, .ref 17), (1, .ref (16 + s)), (2, .int p)]) rfl rfl (by decide) rfl ?_
  refine te_iload_n (p2 := 8) rfl rfl rfl ?_
  refine te_iconst (p2 := 9) (x := (-1)) rfl rfl (by decide) ?_
  refine tb_eq (p2 := 12) rfl rfl rfl (show Int32.toInt (-1) = (-1) from rfl) (fun c2 => ?_) (fun c2 => ?_)
  · refine te_aload_n (p2 := 34) rfl rfl rfl ?_
    refine tg_r (p2 := 37) (i := s) (r := (16 + (s + 3))) rfl rfl hI rfl (by rcases q_s with rfl | rfl | rfl <;> rfl) (by rcases q_s with rfl | rfl | rfl <;> rfl) ?_
    refine te_iload_n (p2 := 38) rfl rfl rfl ?_
    refine tl_i (p2 := 39) (i := (s + 3)) (n := 24) rfl rfl hI rfl (by rcases q_s with rfl | rfl | rfl <;> rfl) (by rcases q_s with rfl | rfl | rfl <;> rfl) rfl (by omega) (by omega) (fun y3 a3 b3 g3 e3 => ?_)
    exact te_iret rfl rfl ⟨hI, f0, _, rfl, trivial⟩
  · refine te_aload_n (p2 := 13) rfl rfl rfl ?_
    refine te_aload_n (p2 := 14) rfl rfl rfl ?_
    refine te_iload_n (p2 := 15) rfl rfl rfl ?_
    refine cV_mI (p2 := 18) (i := 1) rfl rfl rfl rfl hI rfl rfl rfl (t_X0_passes (s := s) (p := p) hI q_s (by omega) (by omega)) (by decide) (fun y4 h4 I4 g4 r4 => ?_)
    have f4 := fr_tr (F1 := F_X0_passes) (F := F_X0_cellByDay) f0 g4 (by decide)
    refine tz_le (p2 := 21) rfl rfl rfl (fun c5 => ?_) (fun c5 => ?_)
    · refine te_aload_n (p2 := 34) rfl rfl rfl ?_
      refine tg_r (p2 := 37) (i := s) (r := (16 + (s + 3))) rfl rfl I4 rfl (by rcases q_s with rfl | rfl | rfl <;> rfl) (by rcases q_s with rfl | rfl | rfl <;> rfl) ?_
      refine te_iload_n (p2 := 38) rfl rfl rfl ?_
      refine tl_i (p2 := 39) (i := (s + 3)) (n := 24) rfl rfl I4 rfl (by rcases q_s with rfl | rfl | rfl <;> rfl) (by rcases q_s with rfl | rfl | rfl <;> rfl) rfl (by omega) (by omega) (fun y6 a6 b6 g6 e6 => ?_)
      exact te_iret rfl rfl ⟨I4, f4, _, rfl, trivial⟩
    · refine te_aload_n (p2 := 22) rfl rfl rfl ?_
      refine tg_r (p2 := 25) (i := 1) (r := 23) rfl rfl I4 rfl rfl rfl ?_
      refine te_iload_n (p2 := 26) rfl rfl rfl ?_
      refine tl_f (p2 := 27) (i := 7) (n := 4) (c0 := 12) (sp := 2) rfl rfl I4 rfl rfl (by decide) rq_7 (by omega) (by omega) (fun o7 w7 => ?_)
      have q7 : o7 = 12 ∨ o7 = 14 ∨ o7 = 16 ∨ o7 = 18 := by omega
      refine tg_i (p2 := 30) (i := o7) rfl rfl I4 rfl (by rcases q7 with rfl | rfl | rfl | rfl <;> rfl) (by rcases q7 with rfl | rfl | rfl | rfl <;> rfl) (fun y8 a8 b8 e8 => ?_)
      refine te_goto rfl ?_
      exact te_iret rfl rfl ⟨I4, f4, _, rfl, trivial⟩
abbrev F_X0_bring (s : Nat) : List (Nat × Nat × Nat) := [((s + 2), 0, 99), (s, 3, 3)]
set_option maxRecDepth 20000 in
set_option maxHeartbeats 4000000 in
theorem t_X0_bring {s : Nat} {to : Int32} {loads : Int32} {h : im_H} (hI : tI h) (q_s : s = 23 ∨ s = 37 ∨ s = 51) (p_to0 : 0 ≤ to.toInt) (p_to1 : to.toInt ≤ 99) : CaP 1 10 [.ref 17, .ref (16 + s), .int to, .int loads] h (mV h (F_X0_bring s)) := by
  refine cap_of (d := 0) (M := mX0_bring) rfl (Nat.le_of_ble_eq_true rfl) ?_
  show EvP im_K0 0 mX0_bring (0, [(0, .ref 17), (1, .ref (16 + s)), (2, .int to), (3, .int loads)], [], h) _
  have f0 : fr (F_X0_bring s) h h := fr_rf
  refine te_iload_n (p2 := 1) rfl rfl rfl ?_
  refine te_aload_n (p2 := 2) rfl rfl rfl ?_
  refine tg_i (p2 := 5) (i := 1) rfl rfl hI rfl rfl rfl (fun y1 a1 b1 e1 => ?_)
  refine tb_ne (p2 := 8) rfl rfl rfl rfl (fun c2 => ?_) (fun c2 => ?_)
  · refine te_aload_n (p2 := 22) rfl rfl rfl ?_
    refine tg_r (p2 := 25) (i := s) (r := (16 + (s + 2))) rfl rfl hI rfl (by rcases q_s with rfl | rfl | rfl <;> rfl) (by rcases q_s with rfl | rfl | rfl <;> rfl) ?_
    refine te_iload_n (p2 := 26) rfl rfl rfl ?_
    refine te_dup2 (p2 := 27) rfl rfl ⟨rfl, rfl⟩ ?_
    refine tl_i (p2 := 28) (i := (s + 2)) (n := 100) rfl rfl hI rfl (by rcases q_s with rfl | rfl | rfl <;> rfl) (by rcases q_s with rfl | rfl | rfl <;> rfl) rfl (by omega) (by omega) (fun y3 a3 b3 g3 e3 => ?_)
    refine te_iload_n (p2 := 29) rfl rfl rfl ?_
    refine au_add (p2 := 30) rfl rfl (fun z4 e4 => ?_)
    refine ts_i (p2 := 31) (i := (s + 2)) (n := 100) rfl rfl hI rfl (by rcases q_s with rfl | rfl | rfl <;> rfl) (by rcases q_s with rfl | rfl | rfl <;> rfl) rfl (by omega) (by omega) (i32_lo _) (i32_hi _) (i32_ho _) (by rcases q_s with rfl | rfl | rfl <;> rfl) (fun h5 I5 u5 => ?_)
    have f5 := fr_st (F := (F_X0_bring s)) 0 f0 u5 rfl (by omega) (by omega)
    exact te_vret rfl rfl ⟨I5, f5, rfl⟩
  · refine te_aload_n (p2 := 9) rfl rfl rfl ?_
    refine te_dup (p2 := 10) rfl rfl rfl ?_
    refine tg_i (p2 := 13) (i := s) rfl rfl hI rfl (by rcases q_s with rfl | rfl | rfl <;> rfl) (by rcases q_s with rfl | rfl | rfl <;> rfl) (fun y6 a6 b6 e6 => ?_)
    refine te_iload_n (p2 := 14) rfl rfl rfl ?_
    refine au_add (p2 := 15) rfl rfl (fun z7 e7 => ?_)
    refine tp_i (p2 := 18) (i := s) rfl rfl hI rfl (by rcases q_s with rfl | rfl | rfl <;> rfl) (by decide) rfl rfl (by rcases q_s with rfl | rfl | rfl <;> rfl) (i32_lo _) (i32_hi _) (i32_ho _) (by rcases q_s with rfl | rfl | rfl <;> rfl) (fun h8 I8 u8 => ?_)
    have f8 := fr_st (F := (F_X0_bring s)) 1 f0 u8 rfl (by decide) (by decide)
    refine te_goto rfl ?_
    exact te_vret rfl rfl ⟨I8, f8, rfl⟩
abbrev F_X0_passOn (s : Nat) (r : Nat) : List (Nat × Nat × Nat) := [((s + 1), 0, 2), ((s + 2), 0, 99), ((s + 5), 0, 23), (11, 0, 7), (s, 3, 4)]
set_option maxRecDepth 20000 in
set_option maxHeartbeats 4000000 in
theorem t_X0_passOn {s : Nat} {r : Nat} {moved : Int32} {h : im_H} (hI : tI h) (q_s : s = 23 ∨ s = 37 ∨ s = 51) (q_r : r = 12 ∨ r = 14 ∨ r = 16 ∨ r = 18) : CaP 3 9 [.ref 17, .ref (16 + s), .ref (16 + r), .int moved] h (mV h (F_X0_passOn s r)) := by
  refine cap_of (d := 2) (M := mX0_passOn) rfl (Nat.le_of_ble_eq_true rfl) ?_
  show EvP im_K0 2 mX0_passOn (0, [(0, .ref 17), (1, .ref (16 + s)), (2, .ref (16 + r)), (3, .int moved)], [], h) _
  have f0 : fr (F_X0_passOn s r) h h := fr_rf
  refine te_iload_n (p2 := 1) rfl rfl rfl ?_
  refine te_bipush (p2 := 3) (x := 10) rfl rfl (by decide) ?_
  refine au_div (p2 := 4) rfl rfl (show Int32.toInt 10 = 10 from rfl) (by decide) (fun z1 e1 => ?_)
  refine te_istore (p2 := 6) (lv2 := [(4, .int z1), (0, .ref 17), (1, .ref (16 + s)), (2, .ref (16 + r)), (3, .int moved)]) rfl rfl (by decide) rfl ?_
  refine te_aload_n (p2 := 7) rfl rfl rfl ?_
  refine tg_r (p2 := 10) (i := 1) (r := 18) rfl rfl hI rfl rfl rfl ?_
  refine te_aload_n (p2 := 11) rfl rfl rfl ?_
  refine tg_i (p2 := 14) (i := r) rfl rfl hI rfl (by rcases q_r with rfl | rfl | rfl | rfl <;> rfl) (by rcases q_r with rfl | rfl | rfl | rfl <;> rfl) (fun y2 a2 b2 e2 => ?_)
  refine tl_i (p2 := 15) (i := 2) (n := 100) rfl rfl hI rfl rfl rfl rfl (by omega) (by omega) (fun y3 a3 b3 g3 e3 => ?_)
  refine te_istore (p2 := 17) (lv2 := [(5, .int y3), (4, .int z1), (0, .ref 17), (1, .ref (16 + s)), (2, .ref (16 + r)), (3, .int moved)]) rfl rfl (by decide) rfl ?_
  refine te_iload (p2 := 19) rfl rfl rfl ?_
  refine te_iconst (p2 := 20) (x := (-1)) rfl rfl (by decide) ?_
  refine tb_eq (p2 := 23) rfl rfl rfl (show Int32.toInt (-1) = (-1) from rfl) (fun c4 => ?_) (fun c4 => ?_)
  · refine te_aload_n (p2 := 78) rfl rfl rfl ?_
    refine te_dup (p2 := 79) rfl rfl rfl ?_
    refine tg_i (p2 := 82) (i := s) rfl rfl hI rfl (by rcases q_s with rfl | rfl | rfl <;> rfl) (by rcases q_s with rfl | rfl | rfl <;> rfl) (fun y5 a5 b5 e5 => ?_)
    refine te_iload (p2 := 84) rfl rfl rfl ?_
    refine te_iconst (p2 := 85) (x := 4) rfl rfl (by decide) ?_
    refine au_mul (p2 := 86) rfl rfl (fun z6 e6 => ?_)
    refine au_add (p2 := 87) rfl rfl (fun z7 e7 => ?_)
    refine tp_i (p2 := 90) (i := s) rfl rfl hI rfl (by rcases q_s with rfl | rfl | rfl <;> rfl) (by decide) rfl rfl (by rcases q_s with rfl | rfl | rfl <;> rfl) (i32_lo _) (i32_hi _) (i32_ho _) (by rcases q_s with rfl | rfl | rfl <;> rfl) (fun h8 I8 u8 => ?_)
    have f8 := fr_st (F := (F_X0_passOn s r)) 4 f0 u8 rfl (by decide) (by decide)
    refine te_aload_n (p2 := 91) rfl rfl rfl ?_
    refine tg_r (p2 := 94) (i := s) (r := (16 + (s + 2))) rfl rfl I8 rfl (by rcases q_s with rfl | rfl | rfl <;> rfl) (by rcases q_s with rfl | rfl | rfl <;> rfl) ?_
    refine te_aload_n (p2 := 95) rfl rfl rfl ?_
    refine tg_e (p2 := 98) (i := r) (v := .int y2) rfl rfl I8 rfl (by rcases q_r with rfl | rfl | rfl | rfl <;> rfl) ((u8.2 _ _ (Or.inl (by omega))).trans e2) ?_
    refine te_dup2 (p2 := 99) rfl rfl ⟨rfl, rfl⟩ ?_
    refine tl_i (p2 := 100) (i := (s + 2)) (n := 100) rfl rfl I8 rfl (by rcases q_s with rfl | rfl | rfl <;> rfl) (by rcases q_s with rfl | rfl | rfl <;> rfl) rfl (by omega) (by omega) (fun y9 a9 b9 g9 e9 => ?_)
    refine te_iload_n (p2 := 101) rfl rfl rfl ?_
    refine au_sub (p2 := 102) rfl rfl (fun z10 e10 => ?_)
    refine ts_i (p2 := 103) (i := (s + 2)) (n := 100) rfl rfl I8 rfl (by rcases q_s with rfl | rfl | rfl <;> rfl) (by rcases q_s with rfl | rfl | rfl <;> rfl) rfl (by omega) (by omega) (i32_lo _) (i32_hi _) (i32_ho _) (by rcases q_s with rfl | rfl | rfl <;> rfl) (fun h11 I11 u11 => ?_)
    have f11 := fr_st (F := (F_X0_passOn s r)) 1 f8 u11 rfl (by omega) (by omega)
    refine te_aload_n (p2 := 104) rfl rfl rfl ?_
    refine te_aload_n (p2 := 105) rfl rfl rfl ?_
    refine te_aload_n (p2 := 106) rfl rfl rfl ?_
    refine tg_i (p2 := 109) (i := r) rfl rfl I11 rfl (by rcases q_r with rfl | rfl | rfl | rfl <;> rfl) (by rcases q_r with rfl | rfl | rfl | rfl <;> rfl) (fun y12 a12 b12 e12 => ?_)
    refine te_iload_n (p2 := 110) rfl rfl rfl ?_
    refine te_iload (p2 := 112) rfl rfl rfl ?_
    refine te_iconst (p2 := 113) (x := 4) rfl rfl (by decide) ?_
    refine au_mul (p2 := 114) rfl rfl (fun z13 e13 => ?_)
    refine au_sub (p2 := 115) rfl rfl (fun z14 e14 => ?_)
    refine cV_mV (p2 := 118) (i := 1) rfl rfl rfl rfl I11 rfl rfl rfl (t_X0_bring (s := s) (to := y12) (loads := z14) I11 q_s (by omega) (by omega)) (by decide) (fun h15 I15 g15 => ?_)
    have f15 := fr_tr (F1 := (F_X0_bring s)) (F := (F_X0_passOn s r)) f11 g15 (by rcases q_s with rfl | rfl | rfl <;> rcases q_r with rfl | rfl | rfl | rfl <;> decide)
    refine te_iconst (p2 := 119) (x := 0) rfl rfl (by decide) ?_
    refine te_istore (p2 := 121) (lv2 := [(6, .int 0), (5, .int y3), (4, .int z1), (0, .ref 17), (1, .ref (16 + s)), (2, .ref (16 + r)), (3, .int moved)]) rfl rfl (by decide) rfl ?_
    have lp16 : ∀ (n16 : Nat) (v16_6 : Int32) (h16 : im_H), tI h16 → fr (F_X0_passOn s r) h h16 → 0 ≤ v16_6.toInt → v16_6.toInt ≤ 8 → 8 - v16_6.toInt < (n16 : Int) → EvP im_K0 2 mX0_passOn (121, [(0, .ref 17), (1, .ref (16 + s)), (2, .ref (16 + r)), (3, .int moved), (4, .int z1), (5, .int y3), (6, .int v16_6)], [], h16) (mV h (F_X0_passOn s r)) := by
      intro n16
      induction n16 with
      | zero => intro v16_6 h16 I16 f16 a16_6 b16_6 m16; exfalso; omega
      | succ n16 ih16 =>
        intro v16_6 h16 I16 f16 a16_6 b16_6 m16
        refine te_iload (p2 := 123) rfl rfl rfl ?_
        refine te_aload_n (p2 := 124) rfl rfl rfl ?_
        refine tg_i (p2 := 127) (i := r) rfl rfl I16 rfl (by rcases q_r with rfl | rfl | rfl | rfl <;> rfl) (by rcases q_r with rfl | rfl | rfl | rfl <;> rfl) (fun y17 a17 b17 e17 => ?_)
        refine tb_ge (p2 := 130) rfl rfl rfl rfl (fun c18 => ?_) (fun c18 => ?_)
        · exact te_vret rfl rfl ⟨I16, f16, rfl⟩
        · refine te_aload_n (p2 := 131) rfl rfl rfl ?_
          refine tg_r (p2 := 134) (i := r) (r := (16 + (r + 1))) rfl rfl I16 rfl (by rcases q_r with rfl | rfl | rfl | rfl <;> rfl) (by rcases q_r with rfl | rfl | rfl | rfl <;> rfl) ?_
          refine te_iload (p2 := 136) rfl rfl rfl ?_
          refine tl_i (p2 := 137) (i := (r + 1)) (n := 8) rfl rfl I16 rfl (by rcases q_r with rfl | rfl | rfl | rfl <;> rfl) (by rcases q_r with rfl | rfl | rfl | rfl <;> rfl) rfl (by omega) (by omega) (fun y19 a19 b19 g19 e19 => ?_)
          refine te_istore (p2 := 139) (lv2 := [(7, .int y19), (0, .ref 17), (1, .ref (16 + s)), (2, .ref (16 + r)), (3, .int moved), (4, .int z1), (5, .int y3), (6, .int v16_6)]) rfl rfl (by decide) rfl ?_
          refine te_aload_n (p2 := 140) rfl rfl rfl ?_
          refine tg_r (p2 := 143) (i := s) (r := (16 + (s + 5))) rfl rfl I16 rfl (by rcases q_s with rfl | rfl | rfl <;> rfl) (by rcases q_s with rfl | rfl | rfl <;> rfl) ?_
          refine te_iload (p2 := 145) rfl rfl rfl ?_
          refine te_dup2 (p2 := 146) rfl rfl ⟨rfl, rfl⟩ ?_
          refine tl_i (p2 := 147) (i := (s + 5)) (n := 24) rfl rfl I16 rfl (by rcases q_s with rfl | rfl | rfl <;> rfl) (by rcases q_s with rfl | rfl | rfl <;> rfl) rfl (by omega) (by omega) (fun y20 a20 b20 g20 e20 => ?_)
          refine te_aload_n (p2 := 148) rfl rfl rfl ?_
          refine te_aload_n (p2 := 149) rfl rfl rfl ?_
          refine te_iload (p2 := 151) rfl rfl rfl ?_
          refine te_iconst (p2 := 152) (x := 0) rfl rfl (by decide) ?_
          refine cV_mI (p2 := 155) (i := 1) rfl rfl rfl rfl I16 rfl rfl rfl (t_X0_said (s := s) (p := y19) (key := 0) I16 q_s (by omega) (by omega)) (by decide) (fun y21 h21 I21 g21 r21 => ?_)
          have f21 := fr_tr (F1 := F_X0_said) (F := (F_X0_passOn s r)) f16 g21 (by rcases q_s with rfl | rfl | rfl <;> rcases q_r with rfl | rfl | rfl | rfl <;> decide)
          refine te_bipush (p2 := 157) (x := 14) rfl rfl (by decide) ?_
          refine ar_min (p2 := 160) rfl rfl rfl rfl (show Int32.toInt 14 = 14 from rfl) (fun z22 e22 f22 => ?_)
          refine au_add (p2 := 161) rfl rfl (fun z23 e23 => ?_)
          refine ts_i (p2 := 162) (i := (s + 5)) (n := 24) rfl rfl I21 rfl (by rcases q_s with rfl | rfl | rfl <;> rfl) (by rcases q_s with rfl | rfl | rfl <;> rfl) rfl (by omega) (by omega) (i32_lo _) (i32_hi _) (i32_ho _) (by rcases q_s with rfl | rfl | rfl <;> rfl) (fun h24 I24 u24 => ?_)
          have f24 := fr_st (F := (F_X0_passOn s r)) 2 f21 u24 rfl (by omega) (by omega)
          refine ar_inc (p2 := 165) (x := v16_6) rfl rfl (by decide) rfl (by decide) rfl (by omega) (by omega) (fun z25 e25 f25 => ?_)
          show EvP _ _ _ (165, [(6, .int z25), (7, .int y19), (0, .ref 17), (1, .ref (16 + s)), (2, .ref (16 + r)), (3, .int moved), (4, .int z1), (5, .int y3)], [], h24) _
          refine te_goto rfl ?_
          refine te_lv [(0, .ref 17), (1, .ref (16 + s)), (2, .ref (16 + r)), (3, .int moved), (4, .int z1), (5, .int y3), (6, .int z25)] rfl rfl ⟨rfl, rfl, rfl, rfl, rfl, rfl, rfl, trivial⟩ ?_
          exact ih16 z25 h24 I24 f24 (by omega) (by omega) (by omega)
    refine te_lv [(0, .ref 17), (1, .ref (16 + s)), (2, .ref (16 + r)), (3, .int moved), (4, .int z1), (5, .int y3), (6, .int 0)] rfl rfl ⟨rfl, rfl, rfl, rfl, rfl, rfl, rfl, trivial⟩ ?_
    exact lp16 9 0 h15 I15 f15 (by decide) (by decide) (by have cc0 := (show Int32.toInt 0 = 0 from rfl); omega)
  · refine te_aload_n (p2 := 24) rfl rfl rfl ?_
    refine tg_r (p2 := 27) (i := s) (r := (16 + (s + 1))) rfl rfl hI rfl (by rcases q_s with rfl | rfl | rfl <;> rfl) (by rcases q_s with rfl | rfl | rfl <;> rfl) ?_
    refine te_iconst (p2 := 28) (x := 0) rfl rfl (by decide) ?_
    refine te_dup2 (p2 := 29) rfl rfl ⟨rfl, rfl⟩ ?_
    refine tl_i (p2 := 30) (i := (s + 1)) (n := 3) rfl rfl hI rfl (by rcases q_s with rfl | rfl | rfl <;> rfl) (by rcases q_s with rfl | rfl | rfl <;> rfl) rfl (by decide) (by decide) (fun y26 a26 b26 g26 e26 => ?_)
    refine te_iload (p2 := 32) rfl rfl rfl ?_
    refine te_gst (p2 := 35) rfl rfl (by decide) ?_
    refine te_iload (p2 := 37) rfl rfl rfl ?_
    refine tl_s (p2 := 38) (R := 0) (l := [20, 35, 20, 70, 10, 5]) (n := 6) (lo := 5) (hi := 70) rfl rfl (by decide) rfl rfl (by decide) (by omega) (by omega) (fun y27 a27 b27 e27 => ?_)
    refine au_mul (p2 := 39) rfl rfl (fun z28 e28 => ?_)
    refine au_add (p2 := 40) rfl rfl (fun z29 e29 => ?_)
    refine ts_i (p2 := 41) (i := (s + 1)) (n := 3) rfl rfl hI rfl (by rcases q_s with rfl | rfl | rfl <;> rfl) (by rcases q_s with rfl | rfl | rfl <;> rfl) rfl (by decide) (by decide) (i32_lo _) (i32_hi _) (i32_ho _) (by rcases q_s with rfl | rfl | rfl <;> rfl) (fun h30 I30 u30 => ?_)
    have f30 := fr_st (F := (F_X0_passOn s r)) 0 f0 u30 rfl (by decide) (by decide)
    refine te_aload_n (p2 := 42) rfl rfl rfl ?_
    refine tg_r (p2 := 45) (i := s) (r := (16 + (s + 1))) rfl rfl I30 rfl (by rcases q_s with rfl | rfl | rfl <;> rfl) (by rcases q_s with rfl | rfl | rfl <;> rfl) ?_
    refine te_iconst (p2 := 46) (x := 1) rfl rfl (by decide) ?_
    refine te_dup2 (p2 := 47) rfl rfl ⟨rfl, rfl⟩ ?_
    refine tl_i (p2 := 48) (i := (s + 1)) (n := 3) rfl rfl I30 rfl (by rcases q_s with rfl | rfl | rfl <;> rfl) (by rcases q_s with rfl | rfl | rfl <;> rfl) rfl (by decide) (by decide) (fun y31 a31 b31 g31 e31 => ?_)
    refine te_iload (p2 := 50) rfl rfl rfl ?_
    refine te_gst (p2 := 53) rfl rfl (by decide) ?_
    refine te_iload (p2 := 55) rfl rfl rfl ?_
    refine tl_s (p2 := 56) (R := 1) (l := [1, 4, 1, 4, 7, 4]) (n := 6) (lo := 1) (hi := 7) rfl rfl (by decide) rfl rfl (by decide) (by omega) (by omega) (fun y32 a32 b32 e32 => ?_)
    refine au_mul (p2 := 57) rfl rfl (fun z33 e33 => ?_)
    refine au_add (p2 := 58) rfl rfl (fun z34 e34 => ?_)
    refine ts_i (p2 := 59) (i := (s + 1)) (n := 3) rfl rfl I30 rfl (by rcases q_s with rfl | rfl | rfl <;> rfl) (by rcases q_s with rfl | rfl | rfl <;> rfl) rfl (by decide) (by decide) (i32_lo _) (i32_hi _) (i32_ho _) (by rcases q_s with rfl | rfl | rfl <;> rfl) (fun h35 I35 u35 => ?_)
    have f35 := fr_st (F := (F_X0_passOn s r)) 0 f30 u35 rfl (by decide) (by decide)
    refine te_aload_n (p2 := 60) rfl rfl rfl ?_
    refine tg_r (p2 := 63) (i := s) (r := (16 + (s + 1))) rfl rfl I35 rfl (by rcases q_s with rfl | rfl | rfl <;> rfl) (by rcases q_s with rfl | rfl | rfl <;> rfl) ?_
    refine te_iconst (p2 := 64) (x := 2) rfl rfl (by decide) ?_
    refine te_dup2 (p2 := 65) rfl rfl ⟨rfl, rfl⟩ ?_
    refine tl_i (p2 := 66) (i := (s + 1)) (n := 3) rfl rfl I35 rfl (by rcases q_s with rfl | rfl | rfl <;> rfl) (by rcases q_s with rfl | rfl | rfl <;> rfl) rfl (by decide) (by decide) (fun y36 a36 b36 g36 e36 => ?_)
    refine te_iload (p2 := 68) rfl rfl rfl ?_
    refine te_gst (p2 := 71) rfl rfl (by decide) ?_
    refine te_iload (p2 := 73) rfl rfl rfl ?_
    refine tl_s (p2 := 74) (R := 2) (l := [0, 0, 5, 0, 5, 0]) (n := 6) (lo := 0) (hi := 5) rfl rfl (by decide) rfl rfl (by decide) (by omega) (by omega) (fun y37 a37 b37 e37 => ?_)
    refine au_mul (p2 := 75) rfl rfl (fun z38 e38 => ?_)
    refine au_add (p2 := 76) rfl rfl (fun z39 e39 => ?_)
    refine ts_i (p2 := 77) (i := (s + 1)) (n := 3) rfl rfl I35 rfl (by rcases q_s with rfl | rfl | rfl <;> rfl) (by rcases q_s with rfl | rfl | rfl <;> rfl) rfl (by decide) (by decide) (i32_lo _) (i32_hi _) (i32_ho _) (by rcases q_s with rfl | rfl | rfl <;> rfl) (fun h40 I40 u40 => ?_)
    have f40 := fr_st (F := (F_X0_passOn s r)) 0 f35 u40 rfl (by decide) (by decide)
    refine te_aload_n (p2 := 78) rfl rfl rfl ?_
    refine te_dup (p2 := 79) rfl rfl rfl ?_
    refine tg_i (p2 := 82) (i := s) rfl rfl I40 rfl (by rcases q_s with rfl | rfl | rfl <;> rfl) (by rcases q_s with rfl | rfl | rfl <;> rfl) (fun y41 a41 b41 e41 => ?_)
    refine te_iload (p2 := 84) rfl rfl rfl ?_
    refine te_iconst (p2 := 85) (x := 4) rfl rfl (by decide) ?_
    refine au_mul (p2 := 86) rfl rfl (fun z42 e42 => ?_)
    refine au_add (p2 := 87) rfl rfl (fun z43 e43 => ?_)
    refine tp_i (p2 := 90) (i := s) rfl rfl I40 rfl (by rcases q_s with rfl | rfl | rfl <;> rfl) (by decide) rfl rfl (by rcases q_s with rfl | rfl | rfl <;> rfl) (i32_lo _) (i32_hi _) (i32_ho _) (by rcases q_s with rfl | rfl | rfl <;> rfl) (fun h44 I44 u44 => ?_)
    have f44 := fr_st (F := (F_X0_passOn s r)) 4 f40 u44 rfl (by decide) (by decide)
    refine te_aload_n (p2 := 91) rfl rfl rfl ?_
    refine tg_r (p2 := 94) (i := s) (r := (16 + (s + 2))) rfl rfl I44 rfl (by rcases q_s with rfl | rfl | rfl <;> rfl) (by rcases q_s with rfl | rfl | rfl <;> rfl) ?_
    refine te_aload_n (p2 := 95) rfl rfl rfl ?_
    refine tg_e (p2 := 98) (i := r) (v := .int y2) rfl rfl I44 rfl (by rcases q_r with rfl | rfl | rfl | rfl <;> rfl) ((u44.2 _ _ (Or.inl (by omega))).trans ((u40.2 _ _ (Or.inl (by omega))).trans ((u35.2 _ _ (Or.inl (by omega))).trans ((u30.2 _ _ (Or.inl (by omega))).trans e2)))) ?_
    refine te_dup2 (p2 := 99) rfl rfl ⟨rfl, rfl⟩ ?_
    refine tl_i (p2 := 100) (i := (s + 2)) (n := 100) rfl rfl I44 rfl (by rcases q_s with rfl | rfl | rfl <;> rfl) (by rcases q_s with rfl | rfl | rfl <;> rfl) rfl (by omega) (by omega) (fun y45 a45 b45 g45 e45 => ?_)
    refine te_iload_n (p2 := 101) rfl rfl rfl ?_
    refine au_sub (p2 := 102) rfl rfl (fun z46 e46 => ?_)
    refine ts_i (p2 := 103) (i := (s + 2)) (n := 100) rfl rfl I44 rfl (by rcases q_s with rfl | rfl | rfl <;> rfl) (by rcases q_s with rfl | rfl | rfl <;> rfl) rfl (by omega) (by omega) (i32_lo _) (i32_hi _) (i32_ho _) (by rcases q_s with rfl | rfl | rfl <;> rfl) (fun h47 I47 u47 => ?_)
    have f47 := fr_st (F := (F_X0_passOn s r)) 1 f44 u47 rfl (by omega) (by omega)
    refine te_aload_n (p2 := 104) rfl rfl rfl ?_
    refine te_aload_n (p2 := 105) rfl rfl rfl ?_
    refine te_aload_n (p2 := 106) rfl rfl rfl ?_
    refine tg_i (p2 := 109) (i := r) rfl rfl I47 rfl (by rcases q_r with rfl | rfl | rfl | rfl <;> rfl) (by rcases q_r with rfl | rfl | rfl | rfl <;> rfl) (fun y48 a48 b48 e48 => ?_)
    refine te_iload_n (p2 := 110) rfl rfl rfl ?_
    refine te_iload (p2 := 112) rfl rfl rfl ?_
    refine te_iconst (p2 := 113) (x := 4) rfl rfl (by decide) ?_
    refine au_mul (p2 := 114) rfl rfl (fun z49 e49 => ?_)
    refine au_sub (p2 := 115) rfl rfl (fun z50 e50 => ?_)
    refine cV_mV (p2 := 118) (i := 1) rfl rfl rfl rfl I47 rfl rfl rfl (t_X0_bring (s := s) (to := y48) (loads := z50) I47 q_s (by omega) (by omega)) (by decide) (fun h51 I51 g51 => ?_)
    have f51 := fr_tr (F1 := (F_X0_bring s)) (F := (F_X0_passOn s r)) f47 g51 (by rcases q_s with rfl | rfl | rfl <;> rcases q_r with rfl | rfl | rfl | rfl <;> decide)
    refine te_iconst (p2 := 119) (x := 0) rfl rfl (by decide) ?_
    refine te_istore (p2 := 121) (lv2 := [(6, .int 0), (5, .int y3), (4, .int z1), (0, .ref 17), (1, .ref (16 + s)), (2, .ref (16 + r)), (3, .int moved)]) rfl rfl (by decide) rfl ?_
    have lp52 : ∀ (n52 : Nat) (v52_6 : Int32) (h52 : im_H), tI h52 → fr (F_X0_passOn s r) h h52 → 0 ≤ v52_6.toInt → v52_6.toInt ≤ 8 → 8 - v52_6.toInt < (n52 : Int) → EvP im_K0 2 mX0_passOn (121, [(0, .ref 17), (1, .ref (16 + s)), (2, .ref (16 + r)), (3, .int moved), (4, .int z1), (5, .int y3), (6, .int v52_6)], [], h52) (mV h (F_X0_passOn s r)) := by
      intro n52
      induction n52 with
      | zero => intro v52_6 h52 I52 f52 a52_6 b52_6 m52; exfalso; omega
      | succ n52 ih52 =>
        intro v52_6 h52 I52 f52 a52_6 b52_6 m52
        refine te_iload (p2 := 123) rfl rfl rfl ?_
        refine te_aload_n (p2 := 124) rfl rfl rfl ?_
        refine tg_i (p2 := 127) (i := r) rfl rfl I52 rfl (by rcases q_r with rfl | rfl | rfl | rfl <;> rfl) (by rcases q_r with rfl | rfl | rfl | rfl <;> rfl) (fun y53 a53 b53 e53 => ?_)
        refine tb_ge (p2 := 130) rfl rfl rfl rfl (fun c54 => ?_) (fun c54 => ?_)
        · exact te_vret rfl rfl ⟨I52, f52, rfl⟩
        · refine te_aload_n (p2 := 131) rfl rfl rfl ?_
          refine tg_r (p2 := 134) (i := r) (r := (16 + (r + 1))) rfl rfl I52 rfl (by rcases q_r with rfl | rfl | rfl | rfl <;> rfl) (by rcases q_r with rfl | rfl | rfl | rfl <;> rfl) ?_
          refine te_iload (p2 := 136) rfl rfl rfl ?_
          refine tl_i (p2 := 137) (i := (r + 1)) (n := 8) rfl rfl I52 rfl (by rcases q_r with rfl | rfl | rfl | rfl <;> rfl) (by rcases q_r with rfl | rfl | rfl | rfl <;> rfl) rfl (by omega) (by omega) (fun y55 a55 b55 g55 e55 => ?_)
          refine te_istore (p2 := 139) (lv2 := [(7, .int y55), (0, .ref 17), (1, .ref (16 + s)), (2, .ref (16 + r)), (3, .int moved), (4, .int z1), (5, .int y3), (6, .int v52_6)]) rfl rfl (by decide) rfl ?_
          refine te_aload_n (p2 := 140) rfl rfl rfl ?_
          refine tg_r (p2 := 143) (i := s) (r := (16 + (s + 5))) rfl rfl I52 rfl (by rcases q_s with rfl | rfl | rfl <;> rfl) (by rcases q_s with rfl | rfl | rfl <;> rfl) ?_
          refine te_iload (p2 := 145) rfl rfl rfl ?_
          refine te_dup2 (p2 := 146) rfl rfl ⟨rfl, rfl⟩ ?_
          refine tl_i (p2 := 147) (i := (s + 5)) (n := 24) rfl rfl I52 rfl (by rcases q_s with rfl | rfl | rfl <;> rfl) (by rcases q_s with rfl | rfl | rfl <;> rfl) rfl (by omega) (by omega) (fun y56 a56 b56 g56 e56 => ?_)
          refine te_aload_n (p2 := 148) rfl rfl rfl ?_
          refine te_aload_n (p2 := 149) rfl rfl rfl ?_
          refine te_iload (p2 := 151) rfl rfl rfl ?_
          refine te_iconst (p2 := 152) (x := 0) rfl rfl (by decide) ?_
          refine cV_mI (p2 := 155) (i := 1) rfl rfl rfl rfl I52 rfl rfl rfl (t_X0_said (s := s) (p := y55) (key := 0) I52 q_s (by omega) (by omega)) (by decide) (fun y57 h57 I57 g57 r57 => ?_)
          have f57 := fr_tr (F1 := F_X0_said) (F := (F_X0_passOn s r)) f52 g57 (by rcases q_s with rfl | rfl | rfl <;> rcases q_r with rfl | rfl | rfl | rfl <;> decide)
          refine te_bipush (p2 := 157) (x := 14) rfl rfl (by decide) ?_
          refine ar_min (p2 := 160) rfl rfl rfl rfl (show Int32.toInt 14 = 14 from rfl) (fun z58 e58 f58 => ?_)
          refine au_add (p2 := 161) rfl rfl (fun z59 e59 => ?_)
          refine ts_i (p2 := 162) (i := (s + 5)) (n := 24) rfl rfl I57 rfl (by rcases q_s with rfl | rfl | rfl <;> rfl) (by rcases q_s with rfl | rfl | rfl <;> rfl) rfl (by omega) (by omega) (i32_lo _) (i32_hi _) (i32_ho _) (by rcases q_s with rfl | rfl | rfl <;> rfl) (fun h60 I60 u60 => ?_)
          have f60 := fr_st (F := (F_X0_passOn s r)) 2 f57 u60 rfl (by omega) (by omega)
          refine ar_inc (p2 := 165) (x := v52_6) rfl rfl (by decide) rfl (by decide) rfl (by omega) (by omega) (fun z61 e61 f61 => ?_)
          show EvP _ _ _ (165, [(6, .int z61), (7, .int y55), (0, .ref 17), (1, .ref (16 + s)), (2, .ref (16 + r)), (3, .int moved), (4, .int z1), (5, .int y3)], [], h60) _
          refine te_goto rfl ?_
          refine te_lv [(0, .ref 17), (1, .ref (16 + s)), (2, .ref (16 + r)), (3, .int moved), (4, .int z1), (5, .int y3), (6, .int z61)] rfl rfl ⟨rfl, rfl, rfl, rfl, rfl, rfl, rfl, trivial⟩ ?_
          exact ih52 z61 h60 I60 f60 (by omega) (by omega) (by omega)
    refine te_lv [(0, .ref 17), (1, .ref (16 + s)), (2, .ref (16 + r)), (3, .int moved), (4, .int z1), (5, .int y3), (6, .int 0)] rfl rfl ⟨rfl, rfl, rfl, rfl, rfl, rfl, rfl, trivial⟩ ?_
    exact lp52 9 0 h51 I51 f51 (by decide) (by decide) (by have cc0 := (show Int32.toInt 0 = 0 from rfl); omega)
abbrev F_X0_workRow (s : Nat) : List (Nat × Nat × Nat) := [((s + 1), 0, 2), ((s + 11), 0, 3), ((s + 12), 0, 3), ((s + 2), 0, 99), ((s + 5), 0, 23), (11, 0, 7), (s, 3, 4)]
set_option maxRecDepth 20000 in
set_option maxHeartbeats 4000000 in
theorem t_X0_workRow {s : Nat} {rr : Int32} {h : im_H} (hI : tI h) (q_s : s = 23 ∨ s = 37 ∨ s = 51) (p_rr0 : 0 ≤ rr.toInt) (p_rr1 : rr.toInt ≤ 3) : CaP 4 8 [.ref 17, .ref (16 + s), .int rr] h (mV h (F_X0_workRow s)) := by
  refine cap_of (d := 3) (M := mX0_workRow) rfl (Nat.le_of_ble_eq_true rfl) ?_
  show EvP im_K0 3 mX0_workRow (0, [(0, .ref 17), (1, .ref (16 + s)), (2, .int rr)], [], h) _
  have f0 : fr (F_X0_workRow s) h h := fr_rf
  refine te_aload_n (p2 := 1) rfl rfl rfl ?_
  refine tg_r (p2 := 4) (i := 1) (r := 23) rfl rfl hI rfl rfl rfl ?_
  refine te_iload_n (p2 := 5) rfl rfl rfl ?_
  refine tl_f (p2 := 6) (i := 7) (n := 4) (c0 := 12) (sp := 2) rfl rfl hI rfl rfl (by decide) rq_7 (by omega) (by omega) (fun o1 w1 => ?_)
  have q1 : o1 = 12 ∨ o1 = 14 ∨ o1 = 16 ∨ o1 = 18 := by omega
  refine te_astore_n (p2 := 7) (lv2 := [(3, .ref (16 + o1)), (0, .ref 17), (1, .ref (16 + s)), (2, .int rr)]) rfl rfl (by decide) rfl ?_
  refine te_aload_n (p2 := 8) rfl rfl rfl ?_
  refine tg_r (p2 := 11) (i := s) (r := (16 + (s + 11))) rfl rfl hI rfl (by rcases q_s with rfl | rfl | rfl <;> rfl) (by rcases q_s with rfl | rfl | rfl <;> rfl) ?_
  refine te_iload_n (p2 := 12) rfl rfl rfl ?_
  refine te_iconst (p2 := 13) (x := 0) rfl rfl (by decide) ?_
  refine ts_i (p2 := 14) (i := (s + 11)) (n := 4) rfl rfl hI rfl (by rcases q_s with rfl | rfl | rfl <;> rfl) (by rcases q_s with rfl | rfl | rfl <;> rfl) rfl (by omega) (by omega) (i32_lo _) (i32_hi _) (i32_ho _) (by rcases q_s with rfl | rfl | rfl <;> rfl) (fun h2 I2 u2 => ?_)
  have f2 := fr_st (F := (F_X0_workRow s)) 1 f0 u2 rfl (by omega) (by omega)
  refine te_aload_n (p2 := 15) rfl rfl rfl ?_
  refine tg_r (p2 := 18) (i := s) (r := (16 + (s + 12))) rfl rfl I2 rfl (by rcases q_s with rfl | rfl | rfl <;> rfl) (by rcases q_s with rfl | rfl | rfl <;> rfl) ?_
  refine te_iload_n (p2 := 19) rfl rfl rfl ?_
  refine te_iconst (p2 := 20) (x := (-1)) rfl rfl (by decide) ?_
  refine ts_i (p2 := 21) (i := (s + 12)) (n := 4) rfl rfl I2 rfl (by rcases q_s with rfl | rfl | rfl <;> rfl) (by rcases q_s with rfl | rfl | rfl <;> rfl) rfl (by omega) (by omega) (i32_lo _) (i32_hi _) (i32_ho _) (by rcases q_s with rfl | rfl | rfl <;> rfl) (fun h3 I3 u3 => ?_)
  have f3 := fr_st (F := (F_X0_workRow s)) 2 f2 u3 rfl (by omega) (by omega)
  refine te_iconst (p2 := 22) (x := 0) rfl rfl (by decide) ?_
  refine te_istore (p2 := 24) (lv2 := [(4, .int 0), (3, .ref (16 + o1)), (0, .ref 17), (1, .ref (16 + s)), (2, .int rr)]) rfl rfl (by decide) rfl ?_
  refine te_iconst (p2 := 25) (x := 0) rfl rfl (by decide) ?_
  refine te_istore (p2 := 27) (lv2 := [(5, .int 0), (4, .int 0), (3, .ref (16 + o1)), (0, .ref 17), (1, .ref (16 + s)), (2, .int rr)]) rfl rfl (by decide) rfl ?_
  have lp4 : ∀ (n4 : Nat) (v4_4 v4_5 : Int32) (h4 : im_H), tI h4 → fr (F_X0_workRow s) h h4 → 0 ≤ v4_5.toInt → v4_5.toInt ≤ 8 → 8 - v4_5.toInt < (n4 : Int) → EvP im_K0 3 mX0_workRow (27, [(0, .ref 17), (1, .ref (16 + s)), (2, .int rr), (3, .ref (16 + o1)), (4, .int v4_4), (5, .int v4_5)], [], h4) (mV h (F_X0_workRow s)) := by
    intro n4
    induction n4 with
    | zero => intro v4_4 v4_5 h4 I4 f4 a4_5 b4_5 m4; exfalso; omega
    | succ n4 ih4 =>
      intro v4_4 v4_5 h4 I4 f4 a4_5 b4_5 m4
      refine te_iload (p2 := 29) rfl rfl rfl ?_
      refine te_aload_n (p2 := 30) rfl rfl rfl ?_
      refine tg_i (p2 := 33) (i := o1) rfl rfl I4 rfl (by rcases q1 with rfl | rfl | rfl | rfl <;> rfl) (by rcases q1 with rfl | rfl | rfl | rfl <;> rfl) (fun y5 a5 b5 e5 => ?_)
      refine tb_ge (p2 := 36) rfl rfl rfl rfl (fun c6 => ?_) (fun c6 => ?_)
      · refine te_iload (p2 := 87) rfl rfl rfl ?_
        refine te_aload_n (p2 := 88) rfl rfl rfl ?_
        refine tg_r (p2 := 91) (i := s) (r := (16 + (s + 2))) rfl rfl I4 rfl (by rcases q_s with rfl | rfl | rfl <;> rfl) (by rcases q_s with rfl | rfl | rfl <;> rfl) ?_
        refine te_aload_n (p2 := 92) rfl rfl rfl ?_
        refine tg_i (p2 := 95) (i := o1) rfl rfl I4 rfl (by rcases q1 with rfl | rfl | rfl | rfl <;> rfl) (by rcases q1 with rfl | rfl | rfl | rfl <;> rfl) (fun y7 a7 b7 e7 => ?_)
        refine tl_i (p2 := 96) (i := (s + 2)) (n := 100) rfl rfl I4 rfl (by rcases q_s with rfl | rfl | rfl <;> rfl) (by rcases q_s with rfl | rfl | rfl <;> rfl) rfl (by omega) (by omega) (fun y8 a8 b8 g8 e8 => ?_)
        refine ar_min (p2 := 99) rfl rfl rfl rfl rfl (fun z9 e9 f9 => ?_)
        refine te_istore (p2 := 101) (lv2 := [(5, .int z9), (0, .ref 17), (1, .ref (16 + s)), (2, .int rr), (3, .ref (16 + o1)), (4, .int v4_4)]) rfl rfl (by decide) rfl ?_
        refine te_iload (p2 := 103) rfl rfl rfl ?_
        refine tz_le (p2 := 106) rfl rfl rfl (fun c10 => ?_) (fun c10 => ?_)
        · exact te_vret rfl rfl ⟨I4, f4, rfl⟩
        · refine te_aload_n (p2 := 107) rfl rfl rfl ?_
          refine te_aload_n (p2 := 108) rfl rfl rfl ?_
          refine te_aload_n (p2 := 109) rfl rfl rfl ?_
          refine te_iload (p2 := 111) rfl rfl rfl ?_
          refine cV_mV (p2 := 114) (i := 1) rfl rfl rfl rfl I4 rfl rfl rfl (t_X0_passOn (s := s) (r := o1) (moved := z9) I4 q_s q1) (by decide) (fun h11 I11 g11 => ?_)
          have f11 := fr_tr (F1 := (F_X0_passOn s o1)) (F := (F_X0_workRow s)) f4 g11 (by rcases q_s with rfl | rfl | rfl <;> rcases q1 with rfl | rfl | rfl | rfl <;> decide)
          refine te_aload_n (p2 := 115) rfl rfl rfl ?_
          refine tg_r (p2 := 118) (i := s) (r := (16 + (s + 11))) rfl rfl I11 rfl (by rcases q_s with rfl | rfl | rfl <;> rfl) (by rcases q_s with rfl | rfl | rfl <;> rfl) ?_
          refine te_iload_n (p2 := 119) rfl rfl rfl ?_
          refine te_iload (p2 := 121) rfl rfl rfl ?_
          refine ts_i (p2 := 122) (i := (s + 11)) (n := 4) rfl rfl I11 rfl (by rcases q_s with rfl | rfl | rfl <;> rfl) (by rcases q_s with rfl | rfl | rfl <;> rfl) rfl (by omega) (by omega) (i32_lo _) (i32_hi _) (i32_ho _) (by rcases q_s with rfl | rfl | rfl <;> rfl) (fun h12 I12 u12 => ?_)
          have f12 := fr_st (F := (F_X0_workRow s)) 1 f11 u12 rfl (by omega) (by omega)
          exact te_vret rfl rfl ⟨I12, f12, rfl⟩
      · refine te_aload_n (p2 := 37) rfl rfl rfl ?_
        refine te_aload_n (p2 := 38) rfl rfl rfl ?_
        refine te_aload_n (p2 := 39) rfl rfl rfl ?_
        refine tg_r (p2 := 42) (i := o1) (r := (16 + (o1 + 1))) rfl rfl I4 rfl (by rcases q1 with rfl | rfl | rfl | rfl <;> rfl) (by rcases q1 with rfl | rfl | rfl | rfl <;> rfl) ?_
        refine te_iload (p2 := 44) rfl rfl rfl ?_
        refine tl_i (p2 := 45) (i := (o1 + 1)) (n := 8) rfl rfl I4 rfl (by rcases q1 with rfl | rfl | rfl | rfl <;> rfl) (by rcases q1 with rfl | rfl | rfl | rfl <;> rfl) rfl (by omega) (by omega) (fun y13 a13 b13 g13 e13 => ?_)
        refine cV_mI (p2 := 48) (i := 1) rfl rfl rfl rfl I4 rfl rfl rfl (t_X0_passes (s := s) (p := y13) I4 q_s (by omega) (by omega)) (by decide) (fun y14 h14 I14 g14 r14 => ?_)
        have f14 := fr_tr (F1 := F_X0_passes) (F := (F_X0_workRow s)) f4 g14 (by rcases q_s with rfl | rfl | rfl <;> decide)
        refine te_istore (p2 := 50) (lv2 := [(6, .int y14), (0, .ref 17), (1, .ref (16 + s)), (2, .int rr), (3, .ref (16 + o1)), (4, .int v4_4), (5, .int v4_5)]) rfl rfl (by decide) rfl ?_
        refine te_iload (p2 := 52) rfl rfl rfl ?_
        refine tz_eq (p2 := 55) rfl rfl rfl (fun c15 => ?_) (fun c15 => ?_)
        · refine te_iload (p2 := 64) rfl rfl rfl ?_
          refine te_istore (p2 := 66) (lv2 := [(4, .int y14), (6, .int y14), (0, .ref 17), (1, .ref (16 + s)), (2, .int rr), (3, .ref (16 + o1)), (5, .int v4_5)]) rfl rfl (by decide) rfl ?_
          refine te_aload_n (p2 := 67) rfl rfl rfl ?_
          refine tg_r (p2 := 70) (i := s) (r := (16 + (s + 12))) rfl rfl I14 rfl (by rcases q_s with rfl | rfl | rfl <;> rfl) (by rcases q_s with rfl | rfl | rfl <;> rfl) ?_
          refine te_iload_n (p2 := 71) rfl rfl rfl ?_
          refine te_aload_n (p2 := 72) rfl rfl rfl ?_
          refine tg_r (p2 := 75) (i := o1) (r := (16 + (o1 + 1))) rfl rfl I14 rfl (by rcases q1 with rfl | rfl | rfl | rfl <;> rfl) (by rcases q1 with rfl | rfl | rfl | rfl <;> rfl) ?_
          refine te_iload (p2 := 77) rfl rfl rfl ?_
          refine tl_e (p2 := 78) (i := (o1 + 1)) (n := 8) (t := 0) (Or.inl rfl) rfl rfl I14 rfl (by rcases q1 with rfl | rfl | rfl | rfl <;> rfl) (by omega) (by omega) ((g14 _ _ (by rcases q1 with rfl | rfl | rfl | rfl <;> rfl)).trans e13) ?_
          refine ts_i (p2 := 79) (i := (s + 12)) (n := 4) rfl rfl I14 rfl (by rcases q_s with rfl | rfl | rfl <;> rfl) (by rcases q_s with rfl | rfl | rfl <;> rfl) rfl (by omega) (by omega) (i32_lo _) (i32_hi _) (i32_ho _) (by rcases q_s with rfl | rfl | rfl <;> rfl) (fun h17 I17 u17 => ?_)
          have f17 := fr_st (F := (F_X0_workRow s)) 2 f14 u17 rfl (by omega) (by omega)
          refine ar_inc (p2 := 82) (x := v4_5) rfl rfl (by decide) rfl (by decide) rfl (by omega) (by omega) (fun z18 e18 f18 => ?_)
          show EvP _ _ _ (82, [(5, .int z18), (4, .int y14), (6, .int y14), (0, .ref 17), (1, .ref (16 + s)), (2, .int rr), (3, .ref (16 + o1))], [], h17) _
          refine te_goto rfl ?_
          refine te_lv [(0, .ref 17), (1, .ref (16 + s)), (2, .int rr), (3, .ref (16 + o1)), (4, .int y14), (5, .int z18)] rfl rfl ⟨rfl, rfl, rfl, rfl, rfl, rfl, trivial⟩ ?_
          exact ih4 y14 z18 h17 I17 f17 (by omega) (by omega) (by omega)
        · refine te_iload (p2 := 57) rfl rfl rfl ?_
          refine te_iload (p2 := 59) rfl rfl rfl ?_
          refine tb_ge (p2 := 62) rfl rfl rfl rfl (fun c19 => ?_) (fun c19 => ?_)
          · refine ar_inc (p2 := 82) (x := v4_5) rfl rfl (by decide) rfl (by decide) rfl (by omega) (by omega) (fun z20 e20 f20 => ?_)
            show EvP _ _ _ (82, [(5, .int z20), (6, .int y14), (0, .ref 17), (1, .ref (16 + s)), (2, .int rr), (3, .ref (16 + o1)), (4, .int v4_4)], [], h14) _
            refine te_goto rfl ?_
            refine te_lv [(0, .ref 17), (1, .ref (16 + s)), (2, .int rr), (3, .ref (16 + o1)), (4, .int v4_4), (5, .int z20)] rfl rfl ⟨rfl, rfl, rfl, rfl, rfl, rfl, trivial⟩ ?_
            exact ih4 v4_4 z20 h14 I14 f14 (by omega) (by omega) (by omega)
          · refine te_iload (p2 := 64) rfl rfl rfl ?_
            refine te_istore (p2 := 66) (lv2 := [(4, .int y14), (6, .int y14), (0, .ref 17), (1, .ref (16 + s)), (2, .int rr), (3, .ref (16 + o1)), (5, .int v4_5)]) rfl rfl (by decide) rfl ?_
            refine te_aload_n (p2 := 67) rfl rfl rfl ?_
            refine tg_r (p2 := 70) (i := s) (r := (16 + (s + 12))) rfl rfl I14 rfl (by rcases q_s with rfl | rfl | rfl <;> rfl) (by rcases q_s with rfl | rfl | rfl <;> rfl) ?_
            refine te_iload_n (p2 := 71) rfl rfl rfl ?_
            refine te_aload_n (p2 := 72) rfl rfl rfl ?_
            refine tg_r (p2 := 75) (i := o1) (r := (16 + (o1 + 1))) rfl rfl I14 rfl (by rcases q1 with rfl | rfl | rfl | rfl <;> rfl) (by rcases q1 with rfl | rfl | rfl | rfl <;> rfl) ?_
            refine te_iload (p2 := 77) rfl rfl rfl ?_
            refine tl_e (p2 := 78) (i := (o1 + 1)) (n := 8) (t := 0) (Or.inl rfl) rfl rfl I14 rfl (by rcases q1 with rfl | rfl | rfl | rfl <;> rfl) (by omega) (by omega) ((g14 _ _ (by rcases q1 with rfl | rfl | rfl | rfl <;> rfl)).trans e13) ?_
            refine ts_i (p2 := 79) (i := (s + 12)) (n := 4) rfl rfl I14 rfl (by rcases q_s with rfl | rfl | rfl <;> rfl) (by rcases q_s with rfl | rfl | rfl <;> rfl) rfl (by omega) (by omega) (i32_lo _) (i32_hi _) (i32_ho _) (by rcases q_s with rfl | rfl | rfl <;> rfl) (fun h22 I22 u22 => ?_)
            have f22 := fr_st (F := (F_X0_workRow s)) 2 f14 u22 rfl (by omega) (by omega)
            refine ar_inc (p2 := 82) (x := v4_5) rfl rfl (by decide) rfl (by decide) rfl (by omega) (by omega) (fun z23 e23 f23 => ?_)
            show EvP _ _ _ (82, [(5, .int z23), (4, .int y14), (6, .int y14), (0, .ref 17), (1, .ref (16 + s)), (2, .int rr), (3, .ref (16 + o1))], [], h22) _
            refine te_goto rfl ?_
            refine te_lv [(0, .ref 17), (1, .ref (16 + s)), (2, .int rr), (3, .ref (16 + o1)), (4, .int y14), (5, .int z23)] rfl rfl ⟨rfl, rfl, rfl, rfl, rfl, rfl, trivial⟩ ?_
            exact ih4 y14 z23 h22 I22 f22 (by omega) (by omega) (by omega)
  refine te_lv [(0, .ref 17), (1, .ref (16 + s)), (2, .int rr), (3, .ref (16 + o1)), (4, .int 0), (5, .int 0)] rfl rfl ⟨rfl, rfl, rfl, rfl, rfl, rfl, trivial⟩ ?_
  exact lp4 9 0 0 h3 I3 f3 (by decide) (by decide) (by have cc0 := (show Int32.toInt 0 = 0 from rfl); omega)
abbrev F_X0_driveRail (s : Nat) : List (Nat × Nat × Nat) := [((s + 13), 0, 2), ((s + 2), 0, 99), (s, 3, 3)]
set_option maxRecDepth 20000 in
set_option maxHeartbeats 4000000 in
theorem t_X0_driveRail {s : Nat} {rr : Int32} {h : im_H} (hI : tI h) (q_s : s = 23 ∨ s = 37 ∨ s = 51) (p_rr0 : 0 ≤ rr.toInt) (p_rr1 : rr.toInt ≤ 2) : CaP 2 11 [.ref 17, .ref (16 + s), .int rr] h (mV h (F_X0_driveRail s)) := by
  refine cap_of (d := 1) (M := mX0_driveRail) rfl (Nat.le_of_ble_eq_true rfl) ?_
  show EvP im_K0 1 mX0_driveRail (0, [(0, .ref 17), (1, .ref (16 + s)), (2, .int rr)], [], h) _
  have f0 : fr (F_X0_driveRail s) h h := fr_rf
  refine te_aload_n (p2 := 1) rfl rfl rfl ?_
  refine tg_r (p2 := 4) (i := 1) (r := 24) rfl rfl hI rfl rfl rfl ?_
  refine te_iload_n (p2 := 5) rfl rfl rfl ?_
  refine tl_f (p2 := 6) (i := 8) (n := 3) (c0 := 20) (sp := 1) rfl rfl hI rfl rfl (by decide) rq_8 (by omega) (by omega) (fun o1 w1 => ?_)
  have q1 : o1 = 20 ∨ o1 = 21 ∨ o1 = 22 := by omega
  refine te_astore_n (p2 := 7) (lv2 := [(3, .ref (16 + o1)), (0, .ref 17), (1, .ref (16 + s)), (2, .int rr)]) rfl rfl (by decide) rfl ?_
  refine te_aload_n (p2 := 8) rfl rfl rfl ?_
  refine tg_r (p2 := 11) (i := s) (r := (16 + (s + 13))) rfl rfl hI rfl (by rcases q_s with rfl | rfl | rfl <;> rfl) (by rcases q_s with rfl | rfl | rfl <;> rfl) ?_
  refine te_iload_n (p2 := 12) rfl rfl rfl ?_
  refine te_iconst (p2 := 13) (x := 0) rfl rfl (by decide) ?_
  refine ts_i (p2 := 14) (i := (s + 13)) (n := 3) rfl rfl hI rfl (by rcases q_s with rfl | rfl | rfl <;> rfl) (by rcases q_s with rfl | rfl | rfl <;> rfl) rfl (by omega) (by omega) (i32_lo _) (i32_hi _) (i32_ho _) (by rcases q_s with rfl | rfl | rfl <;> rfl) (fun h2 I2 u2 => ?_)
  have f2 := fr_st (F := (F_X0_driveRail s)) 0 f0 u2 rfl (by omega) (by omega)
  refine te_aload_n (p2 := 15) rfl rfl rfl ?_
  refine tg_i (p2 := 18) (i := o1) rfl rfl I2 rfl (by rcases q1 with rfl | rfl | rfl <;> rfl) (by rcases q1 with rfl | rfl | rfl <;> rfl) (fun y3 a3 b3 e3 => ?_)
  refine te_iconst (p2 := 19) (x := 2) rfl rfl (by decide) ?_
  refine tb_ge (p2 := 22) rfl rfl rfl (show Int32.toInt 2 = 2 from rfl) (fun c4 => ?_) (fun c4 => ?_)
  · refine te_bipush (p2 := 25) (x := 60) rfl rfl (by decide) ?_
    refine te_aload_n (p2 := 26) rfl rfl rfl ?_
    refine tg_i (p2 := 29) (i := o1) rfl rfl I2 rfl (by rcases q1 with rfl | rfl | rfl <;> rfl) (by rcases q1 with rfl | rfl | rfl <;> rfl) (fun y5 a5 b5 e5 => ?_)
    refine au_mul (p2 := 30) rfl rfl (fun z6 e6 => ?_)
    refine te_aload_n (p2 := 31) rfl rfl rfl ?_
    refine tg_e (p2 := 34) (i := o1) (v := .int y3) rfl rfl I2 rfl (by rcases q1 with rfl | rfl | rfl <;> rfl) e3 ?_
    refine te_iconst (p2 := 35) (x := 1) rfl rfl (by decide) ?_
    refine ar_sub (p2 := 36) rfl rfl rfl (show Int32.toInt 1 = 1 from rfl) (by omega) (by omega) (fun z7 e7 f7 => ?_)
    refine au_div (p2 := 37) rfl rfl rfl (by omega) (fun z8 e8 => ?_)
    refine te_aload_n (p2 := 38) rfl rfl rfl ?_
    refine tg_r (p2 := 41) (i := s) (r := (16 + (s + 2))) rfl rfl I2 rfl (by rcases q_s with rfl | rfl | rfl <;> rfl) (by rcases q_s with rfl | rfl | rfl <;> rfl) ?_
    refine te_aload_n (p2 := 42) rfl rfl rfl ?_
    refine tg_i (p2 := 45) (i := o1) rfl rfl I2 rfl (by rcases q1 with rfl | rfl | rfl <;> rfl) (by rcases q1 with rfl | rfl | rfl <;> rfl) (fun y9 a9 b9 e9 => ?_)
    refine tl_i (p2 := 46) (i := (s + 2)) (n := 100) rfl rfl I2 rfl (by rcases q_s with rfl | rfl | rfl <;> rfl) (by rcases q_s with rfl | rfl | rfl <;> rfl) rfl (by omega) (by omega) (fun y10 a10 b10 g10 e10 => ?_)
    refine ar_min (p2 := 49) rfl rfl rfl rfl rfl (fun z11 e11 f11 => ?_)
    refine te_istore (p2 := 51) (lv2 := [(4, .int z11), (3, .ref (16 + o1)), (0, .ref 17), (1, .ref (16 + s)), (2, .int rr)]) rfl rfl (by decide) rfl ?_
    refine te_aload_n (p2 := 52) rfl rfl rfl ?_
    refine tg_r (p2 := 55) (i := s) (r := (16 + (s + 13))) rfl rfl I2 rfl (by rcases q_s with rfl | rfl | rfl <;> rfl) (by rcases q_s with rfl | rfl | rfl <;> rfl) ?_
    refine te_iload_n (p2 := 56) rfl rfl rfl ?_
    refine te_iload (p2 := 58) rfl rfl rfl ?_
    refine ts_i (p2 := 59) (i := (s + 13)) (n := 3) rfl rfl I2 rfl (by rcases q_s with rfl | rfl | rfl <;> rfl) (by rcases q_s with rfl | rfl | rfl <;> rfl) rfl (by omega) (by omega) (i32_lo _) (i32_hi _) (i32_ho _) (by rcases q_s with rfl | rfl | rfl <;> rfl) (fun h12 I12 u12 => ?_)
    have f12 := fr_st (F := (F_X0_driveRail s)) 0 f2 u12 rfl (by omega) (by omega)
    refine te_aload_n (p2 := 60) rfl rfl rfl ?_
    refine tg_r (p2 := 63) (i := s) (r := (16 + (s + 2))) rfl rfl I12 rfl (by rcases q_s with rfl | rfl | rfl <;> rfl) (by rcases q_s with rfl | rfl | rfl <;> rfl) ?_
    refine te_aload_n (p2 := 64) rfl rfl rfl ?_
    refine tg_e (p2 := 67) (i := o1) (v := .int y9) rfl rfl I12 rfl (by rcases q1 with rfl | rfl | rfl <;> rfl) ((u12.2 _ _ (Or.inl (by omega))).trans e9) ?_
    refine te_dup2 (p2 := 68) rfl rfl ⟨rfl, rfl⟩ ?_
    refine tl_e (p2 := 69) (i := (s + 2)) (n := 100) (t := 0) (Or.inl rfl) rfl rfl I12 rfl (by rcases q_s with rfl | rfl | rfl <;> rfl) (by omega) (by omega) ((u12.2 _ _ (Or.inl (by omega))).trans e10) ?_
    refine te_iload (p2 := 71) rfl rfl rfl ?_
    refine au_sub (p2 := 72) rfl rfl (fun z14 e14 => ?_)
    refine ts_i (p2 := 73) (i := (s + 2)) (n := 100) rfl rfl I12 rfl (by rcases q_s with rfl | rfl | rfl <;> rfl) (by rcases q_s with rfl | rfl | rfl <;> rfl) rfl (by omega) (by omega) (i32_lo _) (i32_hi _) (i32_ho _) (by rcases q_s with rfl | rfl | rfl <;> rfl) (fun h15 I15 u15 => ?_)
    have f15 := fr_st (F := (F_X0_driveRail s)) 1 f12 u15 rfl (by omega) (by omega)
    refine te_aload_n (p2 := 74) rfl rfl rfl ?_
    refine te_aload_n (p2 := 75) rfl rfl rfl ?_
    refine te_aload_n (p2 := 76) rfl rfl rfl ?_
    refine tg_i (p2 := 79) (i := o1) rfl rfl I15 rfl (by rcases q1 with rfl | rfl | rfl <;> rfl) (by rcases q1 with rfl | rfl | rfl <;> rfl) (fun y16 a16 b16 e16 => ?_)
    refine te_iload (p2 := 81) rfl rfl rfl ?_
    refine cV_mV (p2 := 84) (i := 1) rfl rfl rfl rfl I15 rfl rfl rfl (t_X0_bring (s := s) (to := y16) (loads := z11) I15 q_s (by omega) (by omega)) (by decide) (fun h17 I17 g17 => ?_)
    have f17 := fr_tr (F1 := (F_X0_bring s)) (F := (F_X0_driveRail s)) f15 g17 (by rcases q_s with rfl | rfl | rfl <;> decide)
    exact te_vret rfl rfl ⟨I17, f17, rfl⟩
  · exact te_vret rfl rfl ⟨I2, f2, rfl⟩
set_option maxRecDepth 20000 in
set_option maxHeartbeats 4000000 in
theorem t_X0_wearOf {s : Nat} {k : Int32} {h : im_H} (hI : tI h) (q_s : s = 23 ∨ s = 37 ∨ s = 51) (p_k0 : 0 ≤ k.toInt) (p_k1 : k.toInt ≤ 15) : CaP 2 12 [.ref 17, .ref (16 + s), .int k] h (pI h (fun _ => True)) := by
  refine cap_of (d := 1) (M := mX0_wearOf) rfl (Nat.le_of_ble_eq_true rfl) ?_
  show EvP im_K0 1 mX0_wearOf (0, [(0, .ref 17), (1, .ref (16 + s)), (2, .int k)], [], h) _
  refine te_aload_n (p2 := 1) rfl rfl rfl ?_
  refine tg_i (p2 := 4) (i := s) rfl rfl hI rfl (by rcases q_s with rfl | rfl | rfl <;> rfl) (by rcases q_s with rfl | rfl | rfl <;> rfl) (fun y1 a1 b1 e1 => ?_)
  refine te_aload_n (p2 := 5) rfl rfl rfl ?_
  refine te_aload_n (p2 := 6) rfl rfl rfl ?_
  refine tg_r (p2 := 9) (i := 1) (r := 25) rfl rfl hI rfl rfl rfl ?_
  refine te_iload_n (p2 := 10) rfl rfl rfl ?_
  refine tl_i (p2 := 11) (i := 9) (n := 16) rfl rfl hI rfl rfl rfl rfl (by omega) (by omega) (fun y2 a2 b2 g2 e2 => ?_)
  refine cV_pI (p2 := 14) (i := 1) rfl rfl rfl rfl hI rfl rfl rfl (t_X0_weakOf (c := y2) hI (by omega) (by omega)) (by decide) (fun y3 r3 => ?_)
  obtain ⟨a3, b3⟩ := r3
  refine au_mul (p2 := 15) rfl rfl (fun z4 e4 => ?_)
  refine te_bipush (p2 := 17) (x := 10) rfl rfl (by decide) ?_
  refine au_div (p2 := 18) rfl rfl (show Int32.toInt 10 = 10 from rfl) (by decide) (fun z5 e5 => ?_)
  exact te_iret rfl rfl ⟨rfl, _, rfl, trivial⟩
abbrev F_X0_wearsOut (s : Nat) : List (Nat × Nat × Nat) := [((s + 8), 0, 15)]
set_option maxRecDepth 20000 in
set_option maxHeartbeats 4000000 in
theorem t_X0_wearsOut {s : Nat} {k : Int32} {h : im_H} (hI : tI h) (q_s : s = 23 ∨ s = 37 ∨ s = 51) (p_k0 : 0 ≤ k.toInt) (p_k1 : k.toInt ≤ 15) : CaP 3 13 [.ref 17, .ref (16 + s), .int k] h (mI h (F_X0_wearsOut s) (fun y => 0 ≤ y.toInt ∧ y.toInt ≤ 1)) := by
  refine cap_of (d := 2) (M := mX0_wearsOut) rfl (Nat.le_of_ble_eq_true rfl) ?_
  show EvP im_K0 2 mX0_wearsOut (0, [(0, .ref 17), (1, .ref (16 + s)), (2, .int k)], [], h) _
  have f0 : fr (F_X0_wearsOut s) h h := fr_rf
  refine te_aload_n (p2 := 1) rfl rfl rfl ?_
  refine tg_r (p2 := 4) (i := s) (r := (16 + (s + 8))) rfl rfl hI rfl (by rcases q_s with rfl | rfl | rfl <;> rfl) (by rcases q_s with rfl | rfl | rfl <;> rfl) ?_
  refine te_iload_n (p2 := 5) rfl rfl rfl ?_
  refine te_dup2 (p2 := 6) rfl rfl ⟨rfl, rfl⟩ ?_
  refine tl_i (p2 := 7) (i := (s + 8)) (n := 16) rfl rfl hI rfl (by rcases q_s with rfl | rfl | rfl <;> rfl) (by rcases q_s with rfl | rfl | rfl <;> rfl) rfl (by omega) (by omega) (fun y1 a1 b1 g1 e1 => ?_)
  refine te_aload_n (p2 := 8) rfl rfl rfl ?_
  refine te_aload_n (p2 := 9) rfl rfl rfl ?_
  refine te_iload_n (p2 := 10) rfl rfl rfl ?_
  refine cV_pI (p2 := 13) (i := 1) rfl rfl rfl rfl hI rfl rfl rfl (t_X0_wearOf (s := s) (k := k) hI q_s (by omega) (by omega)) (by decide) (fun y2 r2 => ?_)
  refine au_sub (p2 := 14) rfl rfl (fun z3 e3 => ?_)
  refine ts_i (p2 := 15) (i := (s + 8)) (n := 16) rfl rfl hI rfl (by rcases q_s with rfl | rfl | rfl <;> rfl) (by rcases q_s with rfl | rfl | rfl <;> rfl) rfl (by omega) (by omega) (i32_lo _) (i32_hi _) (i32_ho _) (by rcases q_s with rfl | rfl | rfl <;> rfl) (fun h4 I4 u4 => ?_)
  have f4 := fr_st (F := (F_X0_wearsOut s)) 0 f0 u4 rfl (by omega) (by omega)
  refine te_aload_n (p2 := 16) rfl rfl rfl ?_
  refine tg_r (p2 := 19) (i := s) (r := (16 + (s + 8))) rfl rfl I4 rfl (by rcases q_s with rfl | rfl | rfl <;> rfl) (by rcases q_s with rfl | rfl | rfl <;> rfl) ?_
  refine te_iload_n (p2 := 20) rfl rfl rfl ?_
  refine tl_e (p2 := 21) (i := (s + 8)) (n := 16) (t := 0) (Or.inl rfl) rfl rfl I4 rfl (by rcases q_s with rfl | rfl | rfl <;> rfl) (by omega) (by omega) u4.1 ?_
  refine te_iconst (p2 := 22) (x := 3) rfl rfl (by decide) ?_
  refine te_aload_n (p2 := 23) rfl rfl rfl ?_
  refine tg_i (p2 := 26) (i := s) rfl rfl I4 rfl (by rcases q_s with rfl | rfl | rfl <;> rfl) (by rcases q_s with rfl | rfl | rfl <;> rfl) (fun y6 a6 b6 e6 => ?_)
  refine au_mul (p2 := 27) rfl rfl (fun z7 e7 => ?_)
  refine tb_gt (p2 := 30) rfl rfl rfl rfl (fun c8 => ?_) (fun c8 => ?_)
  · refine te_iconst (p2 := 35) (x := 0) rfl rfl (by decide) ?_
    exact te_zret rfl rfl (by decide) ⟨I4, f4, _, rfl, by decide, by decide⟩
  · refine te_iconst (p2 := 31) (x := 1) rfl rfl (by decide) ?_
    refine te_goto rfl ?_
    exact te_zret rfl rfl (by decide) ⟨I4, f4, _, rfl, by decide, by decide⟩
abbrev F_X0_fall (s : Nat) : List (Nat × Nat × Nat) := [((s + 2), 0, 99), ((s + 4), 0, 23), ((s + 7), 0, 23), ((s + 9), 0, 15), (11, 0, 7)]
set_option maxRecDepth 20000 in
set_option maxHeartbeats 4000000 in
theorem t_X0_fall {s : Nat} {k : Int32} {h : im_H} (hI : tI h) (q_s : s = 23 ∨ s = 37 ∨ s = 51) (p_k0 : 0 ≤ k.toInt) (p_k1 : k.toInt ≤ 15) : CaP 5 14 [.ref 17, .ref (16 + s), .int k] h (mI h (F_X0_fall s) (fun _ => True)) := by
  refine cap_of (d := 4) (M := mX0_fall) rfl (Nat.le_of_ble_eq_true rfl) ?_
  show EvP im_K0 4 mX0_fall (0, [(0, .ref 17), (1, .ref (16 + s)), (2, .int k)], [], h) _
  have f0 : fr (F_X0_fall s) h h := fr_rf
  refine te_aload_n (p2 := 1) rfl rfl rfl ?_
  refine tg_r (p2 := 4) (i := 1) (r := 26) rfl rfl hI rfl rfl rfl ?_
  refine te_iload_n (p2 := 5) rfl rfl rfl ?_
  refine tl_i (p2 := 6) (i := 10) (n := 16) rfl rfl hI rfl rfl rfl rfl (by omega) (by omega) (fun y1 a1 b1 g1 e1 => ?_)
  refine te_istore_n (p2 := 7) (lv2 := [(3, .int y1), (0, .ref 17), (1, .ref (16 + s)), (2, .int k)]) rfl rfl (by decide) rfl ?_
  refine te_iconst (p2 := 8) (x := 0) rfl rfl (by decide) ?_
  refine te_istore (p2 := 10) (lv2 := [(4, .int 0), (3, .int y1), (0, .ref 17), (1, .ref (16 + s)), (2, .int k)]) rfl rfl (by decide) rfl ?_
  refine te_aload_n (p2 := 11) rfl rfl rfl ?_
  refine tg_r (p2 := 14) (i := s) (r := (16 + (s + 9))) rfl rfl hI rfl (by rcases q_s with rfl | rfl | rfl <;> rfl) (by rcases q_s with rfl | rfl | rfl <;> rfl) ?_
  refine te_iload_n (p2 := 15) rfl rfl rfl ?_
  refine te_iconst (p2 := 16) (x := 0) rfl rfl (by decide) ?_
  refine ts_b (p2 := 17) (i := (s + 9)) (n := 16) rfl rfl hI rfl (by rcases q_s with rfl | rfl | rfl <;> rfl) (by rcases q_s with rfl | rfl | rfl <;> rfl) rfl (by omega) (by omega) (by decide) (by decide) (by rcases q_s with rfl | rfl | rfl <;> rfl) (fun h2 I2 u2 => ?_)
  have f2 := fr_st (F := (F_X0_fall s)) 3 f0 u2 rfl (by omega) (by omega)
  refine te_aload_n (p2 := 18) rfl rfl rfl ?_
  refine tg_r (p2 := 21) (i := s) (r := (16 + (s + 2))) rfl rfl I2 rfl (by rcases q_s with rfl | rfl | rfl <;> rfl) (by rcases q_s with rfl | rfl | rfl <;> rfl) ?_
  refine te_iload_n (p2 := 22) rfl rfl rfl ?_
  refine te_dup2 (p2 := 23) rfl rfl ⟨rfl, rfl⟩ ?_
  refine tl_i (p2 := 24) (i := (s + 2)) (n := 100) rfl rfl I2 rfl (by rcases q_s with rfl | rfl | rfl <;> rfl) (by rcases q_s with rfl | rfl | rfl <;> rfl) rfl (by omega) (by omega) (fun y3 a3 b3 g3 e3 => ?_)
  refine te_bipush (p2 := 26) (x := 20) rfl rfl (by decide) ?_
  refine au_add (p2 := 27) rfl rfl (fun z4 e4 => ?_)
  refine ts_i (p2 := 28) (i := (s + 2)) (n := 100) rfl rfl I2 rfl (by rcases q_s with rfl | rfl | rfl <;> rfl) (by rcases q_s with rfl | rfl | rfl <;> rfl) rfl (by omega) (by omega) (i32_lo _) (i32_hi _) (i32_ho _) (by rcases q_s with rfl | rfl | rfl <;> rfl) (fun h5 I5 u5 => ?_)
  have f5 := fr_st (F := (F_X0_fall s)) 0 f2 u5 rfl (by omega) (by omega)
  refine te_iconst (p2 := 29) (x := 0) rfl rfl (by decide) ?_
  refine te_istore (p2 := 31) (lv2 := [(5, .int 0), (4, .int 0), (3, .int y1), (0, .ref 17), (1, .ref (16 + s)), (2, .int k)]) rfl rfl (by decide) rfl ?_
  have lp6 : ∀ (n6 : Nat) (v6_4 v6_5 : Int32) (h6 : im_H), tI h6 → fr (F_X0_fall s) h h6 → 0 ≤ v6_5.toInt → v6_5.toInt ≤ 24 → 24 - v6_5.toInt < (n6 : Int) → EvP im_K0 4 mX0_fall (31, [(0, .ref 17), (1, .ref (16 + s)), (2, .int k), (3, .int y1), (4, .int v6_4), (5, .int v6_5)], [], h6) (mI h (F_X0_fall s) (fun _ => True)) := by
    intro n6
    induction n6 with
    | zero => intro v6_4 v6_5 h6 I6 f6 a6_5 b6_5 m6; exfalso; omega
    | succ n6 ih6 =>
      intro v6_4 v6_5 h6 I6 f6 a6_5 b6_5 m6
      refine te_iload (p2 := 33) rfl rfl rfl ?_
      refine te_aload_n (p2 := 34) rfl rfl rfl ?_
      refine tg_i (p2 := 37) (i := 1) rfl rfl I6 rfl rfl rfl (fun y7 a7 b7 e7 => ?_)
      refine tb_ge (p2 := 40) rfl rfl rfl rfl (fun c8 => ?_) (fun c8 => ?_)
      · refine te_iload (p2 := 106) rfl rfl rfl ?_
        exact te_iret rfl rfl ⟨I6, f6, _, rfl, trivial⟩
      · refine te_aload_n (p2 := 41) rfl rfl rfl ?_
        refine te_aload_n (p2 := 42) rfl rfl rfl ?_
        refine te_iload (p2 := 44) rfl rfl rfl ?_
        refine cV_mI (p2 := 47) (i := 1) rfl rfl rfl rfl I6 rfl rfl rfl (t_X0_cellByDay (s := s) (p := v6_5) I6 q_s (by omega) (by omega)) (by decide) (fun y9 h9 I9 g9 r9 => ?_)
        have f9 := fr_tr (F1 := F_X0_cellByDay) (F := (F_X0_fall s)) f6 g9 (by rcases q_s with rfl | rfl | rfl <;> decide)
        refine te_iload_n (p2 := 48) rfl rfl rfl ?_
        refine tb_ne (p2 := 51) rfl rfl rfl rfl (fun c10 => ?_) (fun c10 => ?_)
        · refine ar_inc (p2 := 101) (x := v6_5) rfl rfl (by decide) rfl (by decide) rfl (by omega) (by omega) (fun z11 e11 f11 => ?_)
          show EvP _ _ _ (101, [(5, .int z11), (0, .ref 17), (1, .ref (16 + s)), (2, .int k), (3, .int y1), (4, .int v6_4)], [], h9) _
          refine te_goto rfl ?_
          refine te_lv [(0, .ref 17), (1, .ref (16 + s)), (2, .int k), (3, .int y1), (4, .int v6_4), (5, .int z11)] rfl rfl ⟨rfl, rfl, rfl, rfl, rfl, rfl, trivial⟩ ?_
          exact ih6 v6_4 z11 h9 I9 f9 (by omega) (by omega) (by omega)
        · refine te_aload_n (p2 := 52) rfl rfl rfl ?_
          refine tg_r (p2 := 55) (i := s) (r := (16 + (s + 4))) rfl rfl I9 rfl (by rcases q_s with rfl | rfl | rfl <;> rfl) (by rcases q_s with rfl | rfl | rfl <;> rfl) ?_
          refine te_iload (p2 := 57) rfl rfl rfl ?_
          refine te_dup2 (p2 := 58) rfl rfl ⟨rfl, rfl⟩ ?_
          refine tl_i (p2 := 59) (i := (s + 4)) (n := 24) rfl rfl I9 rfl (by rcases q_s with rfl | rfl | rfl <;> rfl) (by rcases q_s with rfl | rfl | rfl <;> rfl) rfl (by omega) (by omega) (fun y12 a12 b12 g12 e12 => ?_)
          refine te_iconst (p2 := 60) (x := 3) rfl rfl (by decide) ?_
          refine au_add (p2 := 61) rfl rfl (fun z13 e13 => ?_)
          refine ts_i (p2 := 62) (i := (s + 4)) (n := 24) rfl rfl I9 rfl (by rcases q_s with rfl | rfl | rfl <;> rfl) (by rcases q_s with rfl | rfl | rfl <;> rfl) rfl (by omega) (by omega) (i32_lo _) (i32_hi _) (i32_ho _) (by rcases q_s with rfl | rfl | rfl <;> rfl) (fun h14 I14 u14 => ?_)
          have f14 := fr_st (F := (F_X0_fall s)) 1 f9 u14 rfl (by omega) (by omega)
          refine au_inc (p2 := 65) (x := v6_4) rfl rfl (by decide) rfl (fun z15 e15 => ?_)
          show EvP _ _ _ (65, [(4, .int z15), (0, .ref 17), (1, .ref (16 + s)), (2, .int k), (3, .int y1), (5, .int v6_5)], [], h14) _
          refine te_aload_n (p2 := 66) rfl rfl rfl ?_
          refine tg_r (p2 := 69) (i := s) (r := (16 + (s + 4))) rfl rfl I14 rfl (by rcases q_s with rfl | rfl | rfl <;> rfl) (by rcases q_s with rfl | rfl | rfl <;> rfl) ?_
          refine te_iload (p2 := 71) rfl rfl rfl ?_
          refine tl_e (p2 := 72) (i := (s + 4)) (n := 24) (t := 0) (Or.inl rfl) rfl rfl I14 rfl (by rcases q_s with rfl | rfl | rfl <;> rfl) (by omega) (by omega) u14.1 ?_
          refine te_bipush (p2 := 74) (x := 9) rfl rfl (by decide) ?_
          refine tb_lt (p2 := 77) rfl rfl rfl (show Int32.toInt 9 = 9 from rfl) (fun c17 => ?_) (fun c17 => ?_)
          · refine ar_inc (p2 := 101) (x := v6_5) rfl rfl (by decide) rfl (by decide) rfl (by omega) (by omega) (fun z18 e18 f18 => ?_)
            show EvP _ _ _ (101, [(5, .int z18), (4, .int z15), (0, .ref 17), (1, .ref (16 + s)), (2, .int k), (3, .int y1)], [], h14) _
            refine te_goto rfl ?_
            refine te_lv [(0, .ref 17), (1, .ref (16 + s)), (2, .int k), (3, .int y1), (4, .int z15), (5, .int z18)] rfl rfl ⟨rfl, rfl, rfl, rfl, rfl, rfl, trivial⟩ ?_
            exact ih6 z15 z18 h14 I14 f14 (by omega) (by omega) (by omega)
          · refine te_aload_n (p2 := 78) rfl rfl rfl ?_
            refine tg_r (p2 := 81) (i := s) (r := (16 + (s + 7))) rfl rfl I14 rfl (by rcases q_s with rfl | rfl | rfl <;> rfl) (by rcases q_s with rfl | rfl | rfl <;> rfl) ?_
            refine te_iload (p2 := 83) rfl rfl rfl ?_
            refine tl_b (p2 := 84) (i := (s + 7)) (n := 24) rfl rfl I14 rfl (by rcases q_s with rfl | rfl | rfl <;> rfl) (by rcases q_s with rfl | rfl | rfl <;> rfl) rfl (by omega) (by omega) (fun y19 a19 e19 => ?_)
            refine tz_ne (p2 := 87) rfl rfl rfl (fun c20 => ?_) (fun c20 => ?_)
            · refine ar_inc (p2 := 101) (x := v6_5) rfl rfl (by decide) rfl (by decide) rfl (by omega) (by omega) (fun z21 e21 f21 => ?_)
              show EvP _ _ _ (101, [(5, .int z21), (4, .int z15), (0, .ref 17), (1, .ref (16 + s)), (2, .int k), (3, .int y1)], [], h14) _
              refine te_goto rfl ?_
              refine te_lv [(0, .ref 17), (1, .ref (16 + s)), (2, .int k), (3, .int y1), (4, .int z15), (5, .int z21)] rfl rfl ⟨rfl, rfl, rfl, rfl, rfl, rfl, trivial⟩ ?_
              exact ih6 z15 z21 h14 I14 f14 (by omega) (by omega) (by omega)
            · refine te_aload_n (p2 := 88) rfl rfl rfl ?_
              refine tg_r (p2 := 91) (i := s) (r := (16 + (s + 7))) rfl rfl I14 rfl (by rcases q_s with rfl | rfl | rfl <;> rfl) (by rcases q_s with rfl | rfl | rfl <;> rfl) ?_
              refine te_iload (p2 := 93) rfl rfl rfl ?_
              refine te_iconst (p2 := 94) (x := 1) rfl rfl (by decide) ?_
              refine ts_b (p2 := 95) (i := (s + 7)) (n := 24) rfl rfl I14 rfl (by rcases q_s with rfl | rfl | rfl <;> rfl) (by rcases q_s with rfl | rfl | rfl <;> rfl) rfl (by omega) (by omega) (by decide) (by decide) (by rcases q_s with rfl | rfl | rfl <;> rfl) (fun h22 I22 u22 => ?_)
              have f22 := fr_st (F := (F_X0_fall s)) 2 f14 u22 rfl (by omega) (by omega)
              refine au_inc (p2 := 98) (x := z15) rfl rfl (by decide) rfl (fun z23 e23 => ?_)
              show EvP _ _ _ (98, [(4, .int z23), (0, .ref 17), (1, .ref (16 + s)), (2, .int k), (3, .int y1), (5, .int v6_5)], [], h22) _
              refine ar_inc (p2 := 101) (x := v6_5) rfl rfl (by decide) rfl (by decide) rfl (by omega) (by omega) (fun z24 e24 f24 => ?_)
              show EvP _ _ _ (101, [(5, .int z24), (4, .int z23), (0, .ref 17), (1, .ref (16 + s)), (2, .int k), (3, .int y1)], [], h22) _
              refine te_goto rfl ?_
              refine te_lv [(0, .ref 17), (1, .ref (16 + s)), (2, .int k), (3, .int y1), (4, .int z23), (5, .int z24)] rfl rfl ⟨rfl, rfl, rfl, rfl, rfl, rfl, trivial⟩ ?_
              exact ih6 z23 z24 h22 I22 f22 (by omega) (by omega) (by omega)
  refine te_lv [(0, .ref 17), (1, .ref (16 + s)), (2, .int k), (3, .int y1), (4, .int 0), (5, .int 0)] rfl rfl ⟨rfl, rfl, rfl, rfl, rfl, rfl, trivial⟩ ?_
  exact lp6 25 0 0 h5 I5 f5 (by decide) (by decide) (by have cc0 := (show Int32.toInt 0 = 0 from rfl); omega)
abbrev F_X0_heal (s : Nat) : List (Nat × Nat × Nat) := [((s + 4), 0, 23)]
set_option maxRecDepth 20000 in
set_option maxHeartbeats 4000000 in
theorem t_X0_heal {s : Nat} {h : im_H} (hI : tI h) (q_s : s = 23 ∨ s = 37 ∨ s = 51) : CaP 1 15 [.ref 17, .ref (16 + s)] h (mV h (F_X0_heal s)) := by
  refine cap_of (d := 0) (M := mX0_heal) rfl (Nat.le_of_ble_eq_true rfl) ?_
  show EvP im_K0 0 mX0_heal (0, [(0, .ref 17), (1, .ref (16 + s))], [], h) _
  have f0 : fr (F_X0_heal s) h h := fr_rf
  refine te_iconst (p2 := 1) (x := 0) rfl rfl (by decide) ?_
  refine te_istore_n (p2 := 2) (lv2 := [(2, .int 0), (0, .ref 17), (1, .ref (16 + s))]) rfl rfl (by decide) rfl ?_
  have lp1 : ∀ (n1 : Nat) (v1_2 : Int32) (h1 : im_H), tI h1 → fr (F_X0_heal s) h h1 → 0 ≤ v1_2.toInt → v1_2.toInt ≤ 24 → 24 - v1_2.toInt < (n1 : Int) → EvP im_K0 0 mX0_heal (2, [(0, .ref 17), (1, .ref (16 + s)), (2, .int v1_2)], [], h1) (mV h (F_X0_heal s)) := by
    intro n1
    induction n1 with
    | zero => intro v1_2 h1 I1 f1 a1_2 b1_2 m1; exfalso; omega
    | succ n1 ih1 =>
      intro v1_2 h1 I1 f1 a1_2 b1_2 m1
      refine te_iload_n (p2 := 3) rfl rfl rfl ?_
      refine te_aload_n (p2 := 4) rfl rfl rfl ?_
      refine tg_i (p2 := 7) (i := 1) rfl rfl I1 rfl rfl rfl (fun y2 a2 b2 e2 => ?_)
      refine tb_ge (p2 := 10) rfl rfl rfl rfl (fun c3 => ?_) (fun c3 => ?_)
      · exact te_vret rfl rfl ⟨I1, f1, rfl⟩
      · refine te_aload_n (p2 := 11) rfl rfl rfl ?_
        refine tg_r (p2 := 14) (i := s) (r := (16 + (s + 7))) rfl rfl I1 rfl (by rcases q_s with rfl | rfl | rfl <;> rfl) (by rcases q_s with rfl | rfl | rfl <;> rfl) ?_
        refine te_iload_n (p2 := 15) rfl rfl rfl ?_
        refine tl_b (p2 := 16) (i := (s + 7)) (n := 24) rfl rfl I1 rfl (by rcases q_s with rfl | rfl | rfl <;> rfl) (by rcases q_s with rfl | rfl | rfl <;> rfl) rfl (by omega) (by omega) (fun y4 a4 e4 => ?_)
        refine tz_ne (p2 := 19) rfl rfl rfl (fun c5 => ?_) (fun c5 => ?_)
        · refine ar_inc (p2 := 41) (x := v1_2) rfl rfl (by decide) rfl (by decide) rfl (by omega) (by omega) (fun z6 e6 f6 => ?_)
          show EvP _ _ _ (41, [(2, .int z6), (0, .ref 17), (1, .ref (16 + s))], [], h1) _
          refine te_goto rfl ?_
          refine te_lv [(0, .ref 17), (1, .ref (16 + s)), (2, .int z6)] rfl rfl ⟨rfl, rfl, rfl, trivial⟩ ?_
          exact ih1 z6 h1 I1 f1 (by omega) (by omega) (by omega)
        · refine te_aload_n (p2 := 20) rfl rfl rfl ?_
          refine tg_r (p2 := 23) (i := s) (r := (16 + (s + 4))) rfl rfl I1 rfl (by rcases q_s with rfl | rfl | rfl <;> rfl) (by rcases q_s with rfl | rfl | rfl <;> rfl) ?_
          refine te_iload_n (p2 := 24) rfl rfl rfl ?_
          refine tl_i (p2 := 25) (i := (s + 4)) (n := 24) rfl rfl I1 rfl (by rcases q_s with rfl | rfl | rfl <;> rfl) (by rcases q_s with rfl | rfl | rfl <;> rfl) rfl (by omega) (by omega) (fun y7 a7 b7 g7 e7 => ?_)
          refine tz_le (p2 := 28) rfl rfl rfl (fun c8 => ?_) (fun c8 => ?_)
          · refine ar_inc (p2 := 41) (x := v1_2) rfl rfl (by decide) rfl (by decide) rfl (by omega) (by omega) (fun z9 e9 f9 => ?_)
            show EvP _ _ _ (41, [(2, .int z9), (0, .ref 17), (1, .ref (16 + s))], [], h1) _
            refine te_goto rfl ?_
            refine te_lv [(0, .ref 17), (1, .ref (16 + s)), (2, .int z9)] rfl rfl ⟨rfl, rfl, rfl, trivial⟩ ?_
            exact ih1 z9 h1 I1 f1 (by omega) (by omega) (by omega)
          · refine te_aload_n (p2 := 29) rfl rfl rfl ?_
            refine tg_r (p2 := 32) (i := s) (r := (16 + (s + 4))) rfl rfl I1 rfl (by rcases q_s with rfl | rfl | rfl <;> rfl) (by rcases q_s with rfl | rfl | rfl <;> rfl) ?_
            refine te_iload_n (p2 := 33) rfl rfl rfl ?_
            refine te_dup2 (p2 := 34) rfl rfl ⟨rfl, rfl⟩ ?_
            refine tl_e (p2 := 35) (i := (s + 4)) (n := 24) (t := 0) (Or.inl rfl) rfl rfl I1 rfl (by rcases q_s with rfl | rfl | rfl <;> rfl) (by omega) (by omega) e7 ?_
            refine te_iconst (p2 := 36) (x := 1) rfl rfl (by decide) ?_
            have n11_y7 := i32_lo y7
            have o11_y7 := i32_hi y7
            refine ar_sub (p2 := 37) rfl rfl rfl (show Int32.toInt 1 = 1 from rfl) (by omega) (by omega) (fun z11 e11 f11 => ?_)
            refine ts_i (p2 := 38) (i := (s + 4)) (n := 24) rfl rfl I1 rfl (by rcases q_s with rfl | rfl | rfl <;> rfl) (by rcases q_s with rfl | rfl | rfl <;> rfl) rfl (by omega) (by omega) (i32_lo _) (i32_hi _) (i32_ho _) (by rcases q_s with rfl | rfl | rfl <;> rfl) (fun h12 I12 u12 => ?_)
            have f12 := fr_st (F := (F_X0_heal s)) 0 f1 u12 rfl (by omega) (by omega)
            refine ar_inc (p2 := 41) (x := v1_2) rfl rfl (by decide) rfl (by decide) rfl (by omega) (by omega) (fun z13 e13 f13 => ?_)
            show EvP _ _ _ (41, [(2, .int z13), (0, .ref 17), (1, .ref (16 + s))], [], h12) _
            refine te_goto rfl ?_
            refine te_lv [(0, .ref 17), (1, .ref (16 + s)), (2, .int z13)] rfl rfl ⟨rfl, rfl, rfl, trivial⟩ ?_
            exact ih1 z13 h12 I12 f12 (by omega) (by omega) (by omega)
  refine te_lv [(0, .ref 17), (1, .ref (16 + s)), (2, .int 0)] rfl rfl ⟨rfl, rfl, rfl, trivial⟩ ?_
  exact lp1 25 0 h hI f0 (by decide) (by decide) (by have cc0 := (show Int32.toInt 0 = 0 from rfl); omega)
set_option maxRecDepth 20000 in
set_option maxHeartbeats 4000000 in
theorem t_X0_daysUntilFall {s : Nat} {k : Int32} {h : im_H} (hI : tI h) (q_s : s = 23 ∨ s = 37 ∨ s = 51) (p_k0 : 0 ≤ k.toInt) (p_k1 : k.toInt ≤ 15) : CaP 3 16 [.ref 17, .ref (16 + s), .int k] h (pI h (fun y => 1 ≤ y.toInt ∧ y.toInt ≤ 7)) := by
  refine cap_of (d := 2) (M := mX0_daysUntilFall) rfl (Nat.le_of_ble_eq_true rfl) ?_
  show EvP im_K0 2 mX0_daysUntilFall (0, [(0, .ref 17), (1, .ref (16 + s)), (2, .int k)], [], h) _
  refine te_iconst (p2 := 1) (x := 1) rfl rfl (by decide) ?_
  refine te_istore_n (p2 := 2) (lv2 := [(3, .int 1), (0, .ref 17), (1, .ref (16 + s)), (2, .int k)]) rfl rfl (by decide) rfl ?_
  have lp1 : ∀ (n1 : Nat) (v1_3 : Int32) , 1 ≤ v1_3.toInt → v1_3.toInt ≤ 7 → 7 - v1_3.toInt < (n1 : Int) → EvP im_K0 2 mX0_daysUntilFall (2, [(0, .ref 17), (1, .ref (16 + s)), (2, .int k), (3, .int v1_3)], [], h) (pI h (fun y => 1 ≤ y.toInt ∧ y.toInt ≤ 7)) := by
    intro n1
    induction n1 with
    | zero => intro v1_3 a1_3 b1_3 m1; exfalso; omega
    | succ n1 ih1 =>
      intro v1_3 a1_3 b1_3 m1
      refine te_iload_n (p2 := 3) rfl rfl rfl ?_
      refine te_bipush (p2 := 5) (x := 6) rfl rfl (by decide) ?_
      refine tb_gt (p2 := 8) rfl rfl rfl (show Int32.toInt 6 = 6 from rfl) (fun c2 => ?_) (fun c2 => ?_)
      · refine te_bipush (p2 := 42) (x := 7) rfl rfl (by decide) ?_
        exact te_iret rfl rfl ⟨rfl, _, rfl, by decide, by decide⟩
      · refine te_aload_n (p2 := 9) rfl rfl rfl ?_
        refine tg_r (p2 := 12) (i := s) (r := (16 + (s + 8))) rfl rfl hI rfl (by rcases q_s with rfl | rfl | rfl <;> rfl) (by rcases q_s with rfl | rfl | rfl <;> rfl) ?_
        refine te_iload_n (p2 := 13) rfl rfl rfl ?_
        refine tl_i (p2 := 14) (i := (s + 8)) (n := 16) rfl rfl hI rfl (by rcases q_s with rfl | rfl | rfl <;> rfl) (by rcases q_s with rfl | rfl | rfl <;> rfl) rfl (by omega) (by omega) (fun y3 a3 b3 g3 e3 => ?_)
        refine te_iload_n (p2 := 15) rfl rfl rfl ?_
        refine te_aload_n (p2 := 16) rfl rfl rfl ?_
        refine te_aload_n (p2 := 17) rfl rfl rfl ?_
        refine te_iload_n (p2 := 18) rfl rfl rfl ?_
        refine cV_pI (p2 := 21) (i := 1) rfl rfl rfl rfl hI rfl rfl rfl (t_X0_wearOf (s := s) (k := k) hI q_s (by omega) (by omega)) (by decide) (fun y4 r4 => ?_)
        refine au_mul (p2 := 22) rfl rfl (fun z5 e5 => ?_)
        refine au_sub (p2 := 23) rfl rfl (fun z6 e6 => ?_)
        refine te_iconst (p2 := 24) (x := 3) rfl rfl (by decide) ?_
        refine te_aload_n (p2 := 25) rfl rfl rfl ?_
        refine tg_i (p2 := 28) (i := s) rfl rfl hI rfl (by rcases q_s with rfl | rfl | rfl <;> rfl) (by rcases q_s with rfl | rfl | rfl <;> rfl) (fun y7 a7 b7 e7 => ?_)
        refine au_mul (p2 := 29) rfl rfl (fun z8 e8 => ?_)
        refine tb_gt (p2 := 32) rfl rfl rfl rfl (fun c9 => ?_) (fun c9 => ?_)
        · refine ar_inc (p2 := 37) (x := v1_3) rfl rfl (by decide) rfl (by decide) rfl (by omega) (by omega) (fun z10 e10 f10 => ?_)
          show EvP _ _ _ (37, [(3, .int z10), (0, .ref 17), (1, .ref (16 + s)), (2, .int k)], [], h) _
          refine te_goto rfl ?_
          refine te_lv [(0, .ref 17), (1, .ref (16 + s)), (2, .int k), (3, .int z10)] rfl rfl ⟨rfl, rfl, rfl, rfl, trivial⟩ ?_
          exact ih1 z10 (by omega) (by omega) (by omega)
        · refine te_iload_n (p2 := 33) rfl rfl rfl ?_
          exact te_iret rfl rfl ⟨rfl, _, rfl, by omega, by omega⟩
  refine te_lv [(0, .ref 17), (1, .ref (16 + s)), (2, .int k), (3, .int 1)] rfl rfl ⟨rfl, rfl, rfl, rfl, trivial⟩ ?_
  exact lp1 8 1 (by decide) (by decide) (by have cc0 := (show Int32.toInt 1 = 1 from rfl); omega)
abbrev F_X0_playDay (s : Nat) : List (Nat × Nat × Nat) := [((s + 1), 0, 2), ((s + 11), 0, 3), ((s + 12), 0, 3), ((s + 13), 0, 2), ((s + 2), 0, 99), ((s + 4), 0, 23), ((s + 5), 0, 23), ((s + 6), 0, 23), ((s + 7), 0, 23), ((s + 8), 0, 15), ((s + 9), 0, 15), (11, 0, 7), (s, 0, 0), (s, 3, 4)]
set_option maxRecDepth 20000 in
set_option maxHeartbeats 4000000 in
theorem t_X0_playDay {s : Nat} {h : im_H} (hI : tI h) (q_s : s = 23 ∨ s = 37 ∨ s = 51) : CaP 6 7 [.ref 17, .ref (16 + s)] h (mV h (F_X0_playDay s)) := by
  refine cap_of (d := 5) (M := mX0_playDay) rfl (Nat.le_of_ble_eq_true rfl) ?_
  show EvP im_K0 5 mX0_playDay (0, [(0, .ref 17), (1, .ref (16 + s))], [], h) _
  have f0 : fr (F_X0_playDay s) h h := fr_rf
  refine te_iconst (p2 := 1) (x := 0) rfl rfl (by decide) ?_
  refine te_istore_n (p2 := 2) (lv2 := [(2, .int 0), (0, .ref 17), (1, .ref (16 + s))]) rfl rfl (by decide) rfl ?_
  have lp1 : ∀ (n1 : Nat) (v1_2 : Int32) (h1 : im_H), tI h1 → fr (F_X0_playDay s) h h1 → 0 ≤ v1_2.toInt → v1_2.toInt ≤ 4 → 4 - v1_2.toInt < (n1 : Int) → EvP im_K0 5 mX0_playDay (2, [(0, .ref 17), (1, .ref (16 + s)), (2, .int v1_2)], [], h1) (mV h (F_X0_playDay s)) := by
    intro n1
    induction n1 with
    | zero => intro v1_2 h1 I1 f1 a1_2 b1_2 m1; exfalso; omega
    | succ n1 ih1 =>
      intro v1_2 h1 I1 f1 a1_2 b1_2 m1
      refine te_iload_n (p2 := 3) rfl rfl rfl ?_
      refine te_iconst (p2 := 4) (x := 4) rfl rfl (by decide) ?_
      refine tb_ge (p2 := 7) rfl rfl rfl (show Int32.toInt 4 = 4 from rfl) (fun c2 => ?_) (fun c2 => ?_)
      · refine te_iconst (p2 := 20) (x := 0) rfl rfl (by decide) ?_
        refine te_istore_n (p2 := 21) (lv2 := [(2, .int 0), (0, .ref 17), (1, .ref (16 + s))]) rfl rfl (by decide) rfl ?_
        have lp3 : ∀ (n3 : Nat) (v3_2 : Int32) (h3 : im_H), tI h3 → fr (F_X0_playDay s) h h3 → 0 ≤ v3_2.toInt → v3_2.toInt ≤ 3 → 3 - v3_2.toInt < (n3 : Int) → EvP im_K0 5 mX0_playDay (21, [(0, .ref 17), (1, .ref (16 + s)), (2, .int v3_2)], [], h3) (mV h (F_X0_playDay s)) := by
          intro n3
          induction n3 with
          | zero => intro v3_2 h3 I3 f3 a3_2 b3_2 m3; exfalso; omega
          | succ n3 ih3 =>
            intro v3_2 h3 I3 f3 a3_2 b3_2 m3
            refine te_iload_n (p2 := 22) rfl rfl rfl ?_
            refine te_iconst (p2 := 23) (x := 3) rfl rfl (by decide) ?_
            refine tb_ge (p2 := 26) rfl rfl rfl (show Int32.toInt 3 = 3 from rfl) (fun c4 => ?_) (fun c4 => ?_)
            · refine te_iconst (p2 := 39) (x := 0) rfl rfl (by decide) ?_
              refine te_istore_n (p2 := 40) (lv2 := [(2, .int 0), (0, .ref 17), (1, .ref (16 + s))]) rfl rfl (by decide) rfl ?_
              have lp5 : ∀ (n5 : Nat) (v5_2 : Int32) (h5 : im_H), tI h5 → fr (F_X0_playDay s) h h5 → 0 ≤ v5_2.toInt → v5_2.toInt ≤ 16 → 16 - v5_2.toInt < (n5 : Int) → EvP im_K0 5 mX0_playDay (40, [(0, .ref 17), (1, .ref (16 + s)), (2, .int v5_2)], [], h5) (mV h (F_X0_playDay s)) := by
                intro n5
                induction n5 with
                | zero => intro v5_2 h5 I5 f5 a5_2 b5_2 m5; exfalso; omega
                | succ n5 ih5 =>
                  intro v5_2 h5 I5 f5 a5_2 b5_2 m5
                  refine te_iload_n (p2 := 41) rfl rfl rfl ?_
                  refine te_aload_n (p2 := 42) rfl rfl rfl ?_
                  refine tg_i (p2 := 45) (i := 1) rfl rfl I5 rfl rfl rfl (fun y6 a6 b6 e6 => ?_)
                  refine tb_ge (p2 := 48) rfl rfl rfl rfl (fun c7 => ?_) (fun c7 => ?_)
                  · refine te_iconst (p2 := 80) (x := 0) rfl rfl (by decide) ?_
                    refine te_istore_n (p2 := 81) (lv2 := [(2, .int 0), (0, .ref 17), (1, .ref (16 + s))]) rfl rfl (by decide) rfl ?_
                    have lp8 : ∀ (n8 : Nat) (v8_2 : Int32) (h8 : im_H), tI h8 → fr (F_X0_playDay s) h h8 → 0 ≤ v8_2.toInt → v8_2.toInt ≤ 24 → 24 - v8_2.toInt < (n8 : Int) → EvP im_K0 5 mX0_playDay (81, [(0, .ref 17), (1, .ref (16 + s)), (2, .int v8_2)], [], h8) (mV h (F_X0_playDay s)) := by
                      intro n8
                      induction n8 with
                      | zero => intro v8_2 h8 I8 f8 a8_2 b8_2 m8; exfalso; omega
                      | succ n8 ih8 =>
                        intro v8_2 h8 I8 f8 a8_2 b8_2 m8
                        refine te_iload_n (p2 := 82) rfl rfl rfl ?_
                        refine te_aload_n (p2 := 83) rfl rfl rfl ?_
                        refine tg_i (p2 := 86) (i := 1) rfl rfl I8 rfl rfl rfl (fun y9 a9 b9 e9 => ?_)
                        refine tb_ge (p2 := 89) rfl rfl rfl rfl (fun c10 => ?_) (fun c10 => ?_)
                        · refine te_aload_n (p2 := 126) rfl rfl rfl ?_
                          refine tg_i (p2 := 129) (i := s) rfl rfl I8 rfl (by rcases q_s with rfl | rfl | rfl <;> rfl) (by rcases q_s with rfl | rfl | rfl <;> rfl) (fun y11 a11 b11 e11 => ?_)
                          refine te_bipush (p2 := 131) (x := 7) rfl rfl (by decide) ?_
                          refine au_rem (p2 := 132) rfl rfl (show Int32.toInt 7 = 7 from rfl) (by decide) (fun z12 e12 => ?_)
                          refine te_bipush (p2 := 134) (x := 6) rfl rfl (by decide) ?_
                          refine tb_ne (p2 := 137) rfl rfl rfl (show Int32.toInt 6 = 6 from rfl) (fun c13 => ?_) (fun c13 => ?_)
                          · refine te_aload_n (p2 := 143) rfl rfl rfl ?_
                            refine te_dup (p2 := 144) rfl rfl rfl ?_
                            refine tg_e (p2 := 147) (i := s) (v := .int y11) rfl rfl I8 rfl (by rcases q_s with rfl | rfl | rfl <;> rfl) e11 ?_
                            refine te_iconst (p2 := 148) (x := 1) rfl rfl (by decide) ?_
                            refine au_add (p2 := 149) rfl rfl (fun z14 e14 => ?_)
                            refine tp_i (p2 := 152) (i := s) rfl rfl I8 rfl (by rcases q_s with rfl | rfl | rfl <;> rfl) (by decide) rfl rfl (by rcases q_s with rfl | rfl | rfl <;> rfl) (i32_lo _) (i32_hi _) (i32_ho _) (by rcases q_s with rfl | rfl | rfl <;> rfl) (fun h15 I15 u15 => ?_)
                            have f15 := fr_st (F := (F_X0_playDay s)) 12 f8 u15 rfl (by decide) (by decide)
                            exact te_vret rfl rfl ⟨I15, f15, rfl⟩
                          · refine te_aload_n (p2 := 138) rfl rfl rfl ?_
                            refine te_aload_n (p2 := 139) rfl rfl rfl ?_
                            refine cV_mV (p2 := 142) (i := 1) rfl rfl rfl rfl I8 rfl rfl rfl (t_X0_heal (s := s) I8 q_s) (by decide) (fun h16 I16 g16 => ?_)
                            have f16 := fr_tr (F1 := (F_X0_heal s)) (F := (F_X0_playDay s)) f8 g16 (by rcases q_s with rfl | rfl | rfl <;> decide)
                            refine te_aload_n (p2 := 143) rfl rfl rfl ?_
                            refine te_dup (p2 := 144) rfl rfl rfl ?_
                            refine tg_e (p2 := 147) (i := s) (v := .int y11) rfl rfl I16 rfl (by rcases q_s with rfl | rfl | rfl <;> rfl) ((g16 _ _ (by rcases q_s with rfl | rfl | rfl <;> rfl)).trans e11) ?_
                            refine te_iconst (p2 := 148) (x := 1) rfl rfl (by decide) ?_
                            refine au_add (p2 := 149) rfl rfl (fun z17 e17 => ?_)
                            refine tp_i (p2 := 152) (i := s) rfl rfl I16 rfl (by rcases q_s with rfl | rfl | rfl <;> rfl) (by decide) rfl rfl (by rcases q_s with rfl | rfl | rfl <;> rfl) (i32_lo _) (i32_hi _) (i32_ho _) (by rcases q_s with rfl | rfl | rfl <;> rfl) (fun h18 I18 u18 => ?_)
                            have f18 := fr_st (F := (F_X0_playDay s)) 12 f16 u18 rfl (by decide) (by decide)
                            exact te_vret rfl rfl ⟨I18, f18, rfl⟩
                        · refine te_aload_n (p2 := 90) rfl rfl rfl ?_
                          refine tg_r (p2 := 93) (i := s) (r := (16 + (s + 7))) rfl rfl I8 rfl (by rcases q_s with rfl | rfl | rfl <;> rfl) (by rcases q_s with rfl | rfl | rfl <;> rfl) ?_
                          refine te_iload_n (p2 := 94) rfl rfl rfl ?_
                          refine tl_b (p2 := 95) (i := (s + 7)) (n := 24) rfl rfl I8 rfl (by rcases q_s with rfl | rfl | rfl <;> rfl) (by rcases q_s with rfl | rfl | rfl <;> rfl) rfl (by omega) (by omega) (fun y19 a19 e19 => ?_)
                          refine tz_ne (p2 := 98) rfl rfl rfl (fun c20 => ?_) (fun c20 => ?_)
                          · refine ar_inc (p2 := 122) (x := v8_2) rfl rfl (by decide) rfl (by decide) rfl (by omega) (by omega) (fun z21 e21 f21 => ?_)
                            show EvP _ _ _ (122, [(2, .int z21), (0, .ref 17), (1, .ref (16 + s))], [], h8) _
                            refine te_goto rfl ?_
                            refine te_lv [(0, .ref 17), (1, .ref (16 + s)), (2, .int z21)] rfl rfl ⟨rfl, rfl, rfl, trivial⟩ ?_
                            exact ih8 z21 h8 I8 f8 (by omega) (by omega) (by omega)
                          · refine te_aload_n (p2 := 99) rfl rfl rfl ?_
                            refine tg_r (p2 := 102) (i := s) (r := (16 + (s + 6))) rfl rfl I8 rfl (by rcases q_s with rfl | rfl | rfl <;> rfl) (by rcases q_s with rfl | rfl | rfl <;> rfl) ?_
                            refine te_iload_n (p2 := 103) rfl rfl rfl ?_
                            refine te_dup2 (p2 := 104) rfl rfl ⟨rfl, rfl⟩ ?_
                            refine tl_i (p2 := 105) (i := (s + 6)) (n := 24) rfl rfl I8 rfl (by rcases q_s with rfl | rfl | rfl <;> rfl) (by rcases q_s with rfl | rfl | rfl <;> rfl) rfl (by omega) (by omega) (fun y22 a22 b22 g22 e22 => ?_)
                            refine te_aload_n (p2 := 106) rfl rfl rfl ?_
                            refine te_aload_n (p2 := 107) rfl rfl rfl ?_
                            refine te_iload_n (p2 := 108) rfl rfl rfl ?_
                            refine te_iconst (p2 := 109) (x := 1) rfl rfl (by decide) ?_
                            refine cV_mI (p2 := 112) (i := 1) rfl rfl rfl rfl I8 rfl rfl rfl (t_X0_said (s := s) (p := v8_2) (key := 1) I8 q_s (by omega) (by omega)) (by decide) (fun y23 h23 I23 g23 r23 => ?_)
                            have f23 := fr_tr (F1 := F_X0_said) (F := (F_X0_playDay s)) f8 g23 (by rcases q_s with rfl | rfl | rfl <;> decide)
                            refine te_bipush (p2 := 114) (x := 9) rfl rfl (by decide) ?_
                            refine ar_min (p2 := 117) rfl rfl rfl rfl (show Int32.toInt 9 = 9 from rfl) (fun z24 e24 f24 => ?_)
                            refine au_add (p2 := 118) rfl rfl (fun z25 e25 => ?_)
                            refine ts_i (p2 := 119) (i := (s + 6)) (n := 24) rfl rfl I23 rfl (by rcases q_s with rfl | rfl | rfl <;> rfl) (by rcases q_s with rfl | rfl | rfl <;> rfl) rfl (by omega) (by omega) (i32_lo _) (i32_hi _) (i32_ho _) (by rcases q_s with rfl | rfl | rfl <;> rfl) (fun h26 I26 u26 => ?_)
                            have f26 := fr_st (F := (F_X0_playDay s)) 7 f23 u26 rfl (by omega) (by omega)
                            refine ar_inc (p2 := 122) (x := v8_2) rfl rfl (by decide) rfl (by decide) rfl (by omega) (by omega) (fun z27 e27 f27 => ?_)
                            show EvP _ _ _ (122, [(2, .int z27), (0, .ref 17), (1, .ref (16 + s))], [], h26) _
                            refine te_goto rfl ?_
                            refine te_lv [(0, .ref 17), (1, .ref (16 + s)), (2, .int z27)] rfl rfl ⟨rfl, rfl, rfl, trivial⟩ ?_
                            exact ih8 z27 h26 I26 f26 (by omega) (by omega) (by omega)
                    refine te_lv [(0, .ref 17), (1, .ref (16 + s)), (2, .int 0)] rfl rfl ⟨rfl, rfl, rfl, trivial⟩ ?_
                    exact lp8 25 0 h5 I5 f5 (by decide) (by decide) (by have cc0 := (show Int32.toInt 0 = 0 from rfl); omega)
                  · refine te_aload_n (p2 := 49) rfl rfl rfl ?_
                    refine tg_r (p2 := 52) (i := s) (r := (16 + (s + 9))) rfl rfl I5 rfl (by rcases q_s with rfl | rfl | rfl <;> rfl) (by rcases q_s with rfl | rfl | rfl <;> rfl) ?_
                    refine te_iload_n (p2 := 53) rfl rfl rfl ?_
                    refine tl_b (p2 := 54) (i := (s + 9)) (n := 16) rfl rfl I5 rfl (by rcases q_s with rfl | rfl | rfl <;> rfl) (by rcases q_s with rfl | rfl | rfl <;> rfl) rfl (by omega) (by omega) (fun y28 a28 e28 => ?_)
                    refine tz_eq (p2 := 57) rfl rfl rfl (fun c29 => ?_) (fun c29 => ?_)
                    · refine ar_inc (p2 := 76) (x := v5_2) rfl rfl (by decide) rfl (by decide) rfl (by omega) (by omega) (fun z30 e30 f30 => ?_)
                      show EvP _ _ _ (76, [(2, .int z30), (0, .ref 17), (1, .ref (16 + s))], [], h5) _
                      refine te_goto rfl ?_
                      refine te_lv [(0, .ref 17), (1, .ref (16 + s)), (2, .int z30)] rfl rfl ⟨rfl, rfl, rfl, trivial⟩ ?_
                      exact ih5 z30 h5 I5 f5 (by omega) (by omega) (by omega)
                    · refine te_aload_n (p2 := 58) rfl rfl rfl ?_
                      refine te_aload_n (p2 := 59) rfl rfl rfl ?_
                      refine te_iload_n (p2 := 60) rfl rfl rfl ?_
                      refine cV_mI (p2 := 63) (i := 1) rfl rfl rfl rfl I5 rfl rfl rfl (t_X0_wearsOut (s := s) (k := v5_2) I5 q_s (by omega) (by omega)) (by decide) (fun y31 h31 I31 g31 r31 => ?_)
                      have f31 := fr_tr (F1 := (F_X0_wearsOut s)) (F := (F_X0_playDay s)) f5 g31 (by rcases q_s with rfl | rfl | rfl <;> decide)
                      obtain ⟨a31, b31⟩ := r31
                      refine tz_eq (p2 := 66) rfl rfl rfl (fun c32 => ?_) (fun c32 => ?_)
                      · refine ar_inc (p2 := 76) (x := v5_2) rfl rfl (by decide) rfl (by decide) rfl (by omega) (by omega) (fun z33 e33 f33 => ?_)
                        show EvP _ _ _ (76, [(2, .int z33), (0, .ref 17), (1, .ref (16 + s))], [], h31) _
                        refine te_goto rfl ?_
                        refine te_lv [(0, .ref 17), (1, .ref (16 + s)), (2, .int z33)] rfl rfl ⟨rfl, rfl, rfl, trivial⟩ ?_
                        exact ih5 z33 h31 I31 f31 (by omega) (by omega) (by omega)
                      · refine te_aload_n (p2 := 67) rfl rfl rfl ?_
                        refine te_aload_n (p2 := 68) rfl rfl rfl ?_
                        refine te_iload_n (p2 := 69) rfl rfl rfl ?_
                        refine cV_mI (p2 := 72) (i := 1) rfl rfl rfl rfl I31 rfl rfl rfl (t_X0_fall (s := s) (k := v5_2) I31 q_s (by omega) (by omega)) (by decide) (fun y34 h34 I34 g34 r34 => ?_)
                        have f34 := fr_tr (F1 := (F_X0_fall s)) (F := (F_X0_playDay s)) f31 g34 (by rcases q_s with rfl | rfl | rfl <;> decide)
                        refine te_pop (p2 := 73) rfl rfl rfl ?_
                        refine ar_inc (p2 := 76) (x := v5_2) rfl rfl (by decide) rfl (by decide) rfl (by omega) (by omega) (fun z35 e35 f35 => ?_)
                        show EvP _ _ _ (76, [(2, .int z35), (0, .ref 17), (1, .ref (16 + s))], [], h34) _
                        refine te_goto rfl ?_
                        refine te_lv [(0, .ref 17), (1, .ref (16 + s)), (2, .int z35)] rfl rfl ⟨rfl, rfl, rfl, trivial⟩ ?_
                        exact ih5 z35 h34 I34 f34 (by omega) (by omega) (by omega)
              refine te_lv [(0, .ref 17), (1, .ref (16 + s)), (2, .int 0)] rfl rfl ⟨rfl, rfl, rfl, trivial⟩ ?_
              exact lp5 17 0 h3 I3 f3 (by decide) (by decide) (by have cc0 := (show Int32.toInt 0 = 0 from rfl); omega)
            · refine te_aload_n (p2 := 27) rfl rfl rfl ?_
              refine te_aload_n (p2 := 28) rfl rfl rfl ?_
              refine te_iload_n (p2 := 29) rfl rfl rfl ?_
              refine cV_mV (p2 := 32) (i := 1) rfl rfl rfl rfl I3 rfl rfl rfl (t_X0_driveRail (s := s) (rr := v3_2) I3 q_s (by omega) (by omega)) (by decide) (fun h36 I36 g36 => ?_)
              have f36 := fr_tr (F1 := (F_X0_driveRail s)) (F := (F_X0_playDay s)) f3 g36 (by rcases q_s with rfl | rfl | rfl <;> decide)
              refine ar_inc (p2 := 35) (x := v3_2) rfl rfl (by decide) rfl (by decide) rfl (by omega) (by omega) (fun z37 e37 f37 => ?_)
              show EvP _ _ _ (35, [(2, .int z37), (0, .ref 17), (1, .ref (16 + s))], [], h36) _
              refine te_goto rfl ?_
              refine te_lv [(0, .ref 17), (1, .ref (16 + s)), (2, .int z37)] rfl rfl ⟨rfl, rfl, rfl, trivial⟩ ?_
              exact ih3 z37 h36 I36 f36 (by omega) (by omega) (by omega)
        refine te_lv [(0, .ref 17), (1, .ref (16 + s)), (2, .int 0)] rfl rfl ⟨rfl, rfl, rfl, trivial⟩ ?_
        exact lp3 4 0 h1 I1 f1 (by decide) (by decide) (by have cc0 := (show Int32.toInt 0 = 0 from rfl); omega)
      · refine te_aload_n (p2 := 8) rfl rfl rfl ?_
        refine te_aload_n (p2 := 9) rfl rfl rfl ?_
        refine te_iload_n (p2 := 10) rfl rfl rfl ?_
        refine cV_mV (p2 := 13) (i := 1) rfl rfl rfl rfl I1 rfl rfl rfl (t_X0_workRow (s := s) (rr := v1_2) I1 q_s (by omega) (by omega)) (by decide) (fun h38 I38 g38 => ?_)
        have f38 := fr_tr (F1 := (F_X0_workRow s)) (F := (F_X0_playDay s)) f1 g38 (by rcases q_s with rfl | rfl | rfl <;> decide)
        refine ar_inc (p2 := 16) (x := v1_2) rfl rfl (by decide) rfl (by decide) rfl (by omega) (by omega) (fun z39 e39 f39 => ?_)
        show EvP _ _ _ (16, [(2, .int z39), (0, .ref 17), (1, .ref (16 + s))], [], h38) _
        refine te_goto rfl ?_
        refine te_lv [(0, .ref 17), (1, .ref (16 + s)), (2, .int z39)] rfl rfl ⟨rfl, rfl, rfl, trivial⟩ ?_
        exact ih1 z39 h38 I38 f38 (by omega) (by omega) (by omega)
  refine te_lv [(0, .ref 17), (1, .ref (16 + s)), (2, .int 0)] rfl rfl ⟨rfl, rfl, rfl, trivial⟩ ?_
  exact lp1 5 0 h hI f0 (by decide) (by decide) (by have cc0 := (show Int32.toInt 0 = 0 from rfl); omega)
