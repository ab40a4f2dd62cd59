set_option maxRecDepth 20000 in
set_option maxHeartbeats 4000000 in
theorem t_X12_fieldOf {field : Int32} {k : Int32} {h : im_H} (hI : tI h) (p_k0 : 0 ≤ k.toInt) (p_k1 : k.toInt ≤ 23) : CaP 1 142 [.ref 164, .int field, .int k] h (pI h (fun _ => True)) := by
  refine cap_of (d := 0) (M := mX12_fieldOf) rfl (Nat.le_of_ble_eq_true rfl) ?_
  show EvP im_K0 0 mX12_fieldOf (0, [(0, .ref 164), (1, .int field), (2, .int k)], [], h) _
  refine te_iload_n (p2 := 1) rfl rfl rfl ?_
  by_cases c1 : field.toInt = 0
  · refine te_tsIn (k := 0) (p2 := 44) rfl c1 (by decide) (by decide) rfl (by decide) ?_
    refine te_aload_n (p2 := 45) rfl rfl rfl ?_
    refine tg_r (p2 := 48) (i := 148) (r := 173) rfl rfl hI rfl rfl rfl ?_
    refine te_iload_n (p2 := 49) rfl rfl rfl ?_
    refine tl_i (p2 := 50) (i := 157) (n := 24) rfl rfl hI rfl rfl rfl rfl (by omega) (by omega) (fun y2 a2 b2 g2 e2 => ?_)
    exact te_iret rfl rfl ⟨rfl, _, rfl, trivial⟩
  · by_cases c3 : field.toInt = 1
    · refine te_tsIn (k := 1) (p2 := 51) rfl c3 (by decide) (by decide) rfl (by decide) ?_
      refine te_aload_n (p2 := 52) rfl rfl rfl ?_
      refine tg_r (p2 := 55) (i := 148) (r := 174) rfl rfl hI rfl rfl rfl ?_
      refine te_iload_n (p2 := 56) rfl rfl rfl ?_
      refine tl_i (p2 := 57) (i := 158) (n := 24) rfl rfl hI rfl rfl rfl rfl (by omega) (by omega) (fun y4 a4 b4 g4 e4 => ?_)
      exact te_iret rfl rfl ⟨rfl, _, rfl, trivial⟩
    · by_cases c5 : field.toInt = 2
      · refine te_tsIn (k := 2) (p2 := 58) rfl c5 (by decide) (by decide) rfl (by decide) ?_
        refine te_aload_n (p2 := 59) rfl rfl rfl ?_
        refine tg_r (p2 := 62) (i := 148) (r := 175) rfl rfl hI rfl rfl rfl ?_
        refine te_iload_n (p2 := 63) rfl rfl rfl ?_
        refine tl_i (p2 := 64) (i := 159) (n := 24) rfl rfl hI rfl rfl rfl rfl (by omega) (by omega) (fun y6 a6 b6 g6 e6 => ?_)
        exact te_iret rfl rfl ⟨rfl, _, rfl, trivial⟩
      · by_cases c7 : field.toInt = 3
        · refine te_tsIn (k := 3) (p2 := 65) rfl c7 (by decide) (by decide) rfl (by decide) ?_
          refine te_aload_n (p2 := 66) rfl rfl rfl ?_
          refine tg_r (p2 := 69) (i := 148) (r := 165) rfl rfl hI rfl rfl rfl ?_
          refine te_sipush (p2 := 72) (x := 164) rfl rfl (by decide) ?_
          refine te_iload_n (p2 := 73) rfl rfl rfl ?_
          refine ar_add (p2 := 74) rfl rfl (show Int32.toInt 164 = 164 from rfl) rfl (by omega) (by omega) (fun z8 e8 f8 => ?_)
          refine tl_i (p2 := 75) (i := 149) (n := 283) rfl rfl hI rfl rfl rfl rfl (by omega) (by omega) (fun y9 a9 b9 g9 e9 => ?_)
          exact te_iret rfl rfl ⟨rfl, _, rfl, trivial⟩
        · by_cases c10 : field.toInt = 4
          · refine te_tsIn (k := 4) (p2 := 76) rfl c10 (by decide) (by decide) rfl (by decide) ?_
            refine te_aload_n (p2 := 77) rfl rfl rfl ?_
            refine tg_r (p2 := 80) (i := 148) (r := 165) rfl rfl hI rfl rfl rfl ?_
            refine te_bipush (p2 := 82) (x := 106) rfl rfl (by decide) ?_
            refine tl_i (p2 := 83) (i := 149) (n := 283) rfl rfl hI rfl rfl rfl rfl (by decide) (by decide) (fun y11 a11 b11 g11 e11 => ?_)
            exact te_iret rfl rfl ⟨rfl, _, rfl, trivial⟩
          · by_cases c12 : field.toInt = 5
            · refine te_tsIn (k := 5) (p2 := 84) rfl c12 (by decide) (by decide) rfl (by decide) ?_
              refine te_aload_n (p2 := 85) rfl rfl rfl ?_
              refine tg_r (p2 := 88) (i := 148) (r := 165) rfl rfl hI rfl rfl rfl ?_
              refine te_bipush (p2 := 90) (x := 107) rfl rfl (by decide) ?_
              refine tl_i (p2 := 91) (i := 149) (n := 283) rfl rfl hI rfl rfl rfl rfl (by decide) (by decide) (fun y13 a13 b13 g13 e13 => ?_)
              exact te_iret rfl rfl ⟨rfl, _, rfl, trivial⟩
            · by_cases c14 : field.toInt = 6
              · refine te_tsIn (k := 6) (p2 := 92) rfl c14 (by decide) (by decide) rfl (by decide) ?_
                refine te_aload_n (p2 := 93) rfl rfl rfl ?_
                refine tg_r (p2 := 96) (i := 148) (r := 165) rfl rfl hI rfl rfl rfl ?_
                refine te_bipush (p2 := 98) (x := 105) rfl rfl (by decide) ?_
                refine tl_i (p2 := 99) (i := 149) (n := 283) rfl rfl hI rfl rfl rfl rfl (by decide) (by decide) (fun y15 a15 b15 g15 e15 => ?_)
                exact te_iret rfl rfl ⟨rfl, _, rfl, trivial⟩
              · refine te_tsOut (p2 := 100) rfl (by omega) (by decide) ?_
                refine te_aload_n (p2 := 101) rfl rfl rfl ?_
                refine tg_r (p2 := 104) (i := 148) (r := 165) rfl rfl hI rfl rfl rfl ?_
                refine te_sipush (p2 := 107) (x := 188) rfl rfl (by decide) ?_
                refine te_iload_n (p2 := 108) rfl rfl rfl ?_
                refine ar_add (p2 := 109) rfl rfl (show Int32.toInt 188 = 188 from rfl) rfl (by omega) (by omega) (fun z16 e16 f16 => ?_)
                refine tl_i (p2 := 110) (i := 149) (n := 283) rfl rfl hI rfl rfl rfl rfl (by omega) (by omega) (fun y17 a17 b17 g17 e17 => ?_)
                exact te_iret rfl rfl ⟨rfl, _, rfl, trivial⟩
set_option maxRecDepth 20000 in
set_option maxHeartbeats 4000000 in
theorem t_X12_holds {line : Int32} {k : Int32} {h : im_H} (hI : tI h) (p_line0 : 0 ≤ line.toInt) (p_line1 : line.toInt ≤ 47) (p_k0 : 0 ≤ k.toInt) (p_k1 : k.toInt ≤ 23) : CaP 2 143 [.ref 164, .int line, .int k] h (pI h (fun y => 0 ≤ y.toInt ∧ y.toInt ≤ 1)) := by
  refine cap_of (d := 1) (M := mX12_holds) rfl (Nat.le_of_ble_eq_true rfl) ?_
  show EvP im_K0 1 mX12_holds (0, [(0, .ref 164), (1, .int line), (2, .int k)], [], h) _
  refine te_iconst (p2 := 1) (x := 3) rfl rfl (by decide) ?_
  refine te_iload_n (p2 := 2) rfl rfl rfl ?_
  refine ar_mul (p2 := 3) rfl rfl (show Int32.toInt 3 = 3 from rfl) rfl (by omega) (by omega) (fun z1 e1 f1 => ?_)
  refine te_istore_n (p2 := 4) (lv2 := [(3, .int z1), (0, .ref 164), (1, .int line), (2, .int k)]) rfl rfl (by decide) rfl ?_
  have lp2 : ∀ (n2 : Nat) (v2_3 : Int32) , 0 ≤ v2_3.toInt → v2_3.toInt ≤ 144 → 3 * line.toInt ≤ v2_3.toInt → v2_3.toInt ≤ 3 * line.toInt + 3 → 3 * line.toInt + 3 - v2_3.toInt < (n2 : Int) → EvP im_K0 1 mX12_holds (4, [(0, .ref 164), (1, .int line), (2, .int k), (3, .int v2_3)], [], h) (pI h (fun y => 0 ≤ y.toInt ∧ y.toInt ≤ 1)) := by
    intro n2
    induction n2 with
    | zero => intro v2_3 a2_3 b2_3 l2_0 l2_1 m2; exfalso; omega
    | succ n2 ih2 =>
      intro v2_3 a2_3 b2_3 l2_0 l2_1 m2
      refine te_iload_n (p2 := 5) rfl rfl rfl ?_
      refine te_iconst (p2 := 6) (x := 3) rfl rfl (by decide) ?_
      refine te_iload_n (p2 := 7) rfl rfl rfl ?_
      refine ar_mul (p2 := 8) rfl rfl (show Int32.toInt 3 = 3 from rfl) rfl (by omega) (by omega) (fun z3 e3 f3 => ?_)
      refine te_aload_n (p2 := 9) rfl rfl rfl ?_
      refine tg_r (p2 := 12) (i := 148) (r := 204) rfl rfl hI rfl rfl rfl ?_
      refine te_iload_n (p2 := 13) rfl rfl rfl ?_
      refine tl_i (p2 := 14) (i := 188) (n := 48) rfl rfl hI rfl rfl rfl rfl (by omega) (by omega) (fun y4 a4 b4 g4 e4 => ?_)
      refine ar_add (p2 := 15) rfl rfl rfl rfl (by omega) (by omega) (fun z5 e5 f5 => ?_)
      refine tb_ge (p2 := 18) rfl rfl rfl rfl (fun c6 => ?_) (fun c6 => ?_)
      · refine te_iconst (p2 := 101) (x := 1) rfl rfl (by decide) ?_
        exact te_zret rfl rfl (by decide) ⟨rfl, _, rfl, by decide, by decide⟩
      · refine te_aload_n (p2 := 19) rfl rfl rfl ?_
        refine te_aload_n (p2 := 20) rfl rfl rfl ?_
        refine tg_r (p2 := 23) (i := 148) (r := 205) rfl rfl hI rfl rfl rfl ?_
        refine te_iload_n (p2 := 24) rfl rfl rfl ?_
        refine tl_i (p2 := 25) (i := 189) (n := 144) rfl rfl hI rfl rfl rfl rfl (by omega) (by omega) (fun y7 a7 b7 g7 e7 => ?_)
        refine te_iload_n (p2 := 26) rfl rfl rfl ?_
        refine cV_pI (p2 := 29) (i := 148) rfl rfl rfl rfl hI rfl rfl rfl (t_X12_fieldOf (field := y7) (k := k) hI (by omega) (by omega)) (by decide) (fun y8 r8 => ?_)
        refine te_istore (p2 := 31) (lv2 := [(4, .int y8), (0, .ref 164), (1, .int line), (2, .int k), (3, .int v2_3)]) rfl rfl (by decide) rfl ?_
        refine te_aload_n (p2 := 32) rfl rfl rfl ?_
        refine tg_r (p2 := 35) (i := 148) (r := 206) rfl rfl hI rfl rfl rfl ?_
        refine te_iload_n (p2 := 36) rfl rfl rfl ?_
        refine tl_i (p2 := 37) (i := 190) (n := 144) rfl rfl hI rfl rfl rfl rfl (by omega) (by omega) (fun y9 a9 b9 g9 e9 => ?_)
        refine te_bipush (p2 := 39) (x := 60) rfl rfl (by decide) ?_
        refine tb_ne (p2 := 42) rfl rfl rfl (show Int32.toInt 60 = 60 from rfl) (fun c10 => ?_) (fun c10 => ?_)
        · refine te_aload_n (p2 := 57) rfl rfl rfl ?_
          refine tg_r (p2 := 60) (i := 148) (r := 206) rfl rfl hI rfl rfl rfl ?_
          refine te_iload_n (p2 := 61) rfl rfl rfl ?_
          refine tl_e (p2 := 62) (i := 190) (n := 144) (t := 0) (Or.inl rfl) rfl rfl hI rfl rfl (by omega) (by omega) e9 ?_
          refine te_bipush (p2 := 64) (x := 62) rfl rfl (by decide) ?_
          refine tb_ne (p2 := 67) rfl rfl rfl (show Int32.toInt 62 = 62 from rfl) (fun c12 => ?_) (fun c12 => ?_)
          · refine te_iload (p2 := 83) rfl rfl rfl ?_
            refine te_aload_n (p2 := 84) rfl rfl rfl ?_
            refine tg_r (p2 := 87) (i := 148) (r := 207) rfl rfl hI rfl rfl rfl ?_
            refine te_iload_n (p2 := 88) rfl rfl rfl ?_
            refine tl_i (p2 := 89) (i := 191) (n := 144) rfl rfl hI rfl rfl rfl rfl (by omega) (by omega) (fun y13 a13 b13 g13 e13 => ?_)
            refine tb_eq (p2 := 92) rfl rfl rfl rfl (fun c14 => ?_) (fun c14 => ?_)
            · refine ar_inc (p2 := 97) (x := v2_3) rfl rfl (by decide) rfl (by decide) rfl (by omega) (by omega) (fun z15 e15 f15 => ?_)
              show EvP _ _ _ (97, [(3, .int z15), (4, .int y8), (0, .ref 164), (1, .int line), (2, .int k)], [], h) _
              refine te_goto rfl ?_
              refine te_lv [(0, .ref 164), (1, .int line), (2, .int k), (3, .int z15)] rfl rfl ⟨rfl, rfl, rfl, rfl, trivial⟩ ?_
              exact ih2 z15 (by omega) (by omega) (by omega) (by omega) (by omega)
            · refine te_iconst (p2 := 93) (x := 0) rfl rfl (by decide) ?_
              exact te_zret rfl rfl (by decide) ⟨rfl, _, rfl, by decide, by decide⟩
          · refine te_iload (p2 := 69) rfl rfl rfl ?_
            refine te_aload_n (p2 := 70) rfl rfl rfl ?_
            refine tg_r (p2 := 73) (i := 148) (r := 207) rfl rfl hI rfl rfl rfl ?_
            refine te_iload_n (p2 := 74) rfl rfl rfl ?_
            refine tl_i (p2 := 75) (i := 191) (n := 144) rfl rfl hI rfl rfl rfl rfl (by omega) (by omega) (fun y16 a16 b16 g16 e16 => ?_)
            refine tb_gt (p2 := 78) rfl rfl rfl rfl (fun c17 => ?_) (fun c17 => ?_)
            · refine ar_inc (p2 := 97) (x := v2_3) rfl rfl (by decide) rfl (by decide) rfl (by omega) (by omega) (fun z18 e18 f18 => ?_)
              show EvP _ _ _ (97, [(3, .int z18), (4, .int y8), (0, .ref 164), (1, .int line), (2, .int k)], [], h) _
              refine te_goto rfl ?_
              refine te_lv [(0, .ref 164), (1, .int line), (2, .int k), (3, .int z18)] rfl rfl ⟨rfl, rfl, rfl, rfl, trivial⟩ ?_
              exact ih2 z18 (by omega) (by omega) (by omega) (by omega) (by omega)
            · refine te_goto rfl ?_
              refine te_iconst (p2 := 93) (x := 0) rfl rfl (by decide) ?_
              exact te_zret rfl rfl (by decide) ⟨rfl, _, rfl, by decide, by decide⟩
        · refine te_iload (p2 := 44) rfl rfl rfl ?_
          refine te_aload_n (p2 := 45) rfl rfl rfl ?_
          refine tg_r (p2 := 48) (i := 148) (r := 207) rfl rfl hI rfl rfl rfl ?_
          refine te_iload_n (p2 := 49) rfl rfl rfl ?_
          refine tl_i (p2 := 50) (i := 191) (n := 144) rfl rfl hI rfl rfl rfl rfl (by omega) (by omega) (fun y19 a19 b19 g19 e19 => ?_)
          refine tb_lt (p2 := 53) rfl rfl rfl rfl (fun c20 => ?_) (fun c20 => ?_)
          · refine ar_inc (p2 := 97) (x := v2_3) rfl rfl (by decide) rfl (by decide) rfl (by omega) (by omega) (fun z21 e21 f21 => ?_)
            show EvP _ _ _ (97, [(3, .int z21), (4, .int y8), (0, .ref 164), (1, .int line), (2, .int k)], [], h) _
            refine te_goto rfl ?_
            refine te_lv [(0, .ref 164), (1, .int line), (2, .int k), (3, .int z21)] rfl rfl ⟨rfl, rfl, rfl, rfl, trivial⟩ ?_
            exact ih2 z21 (by omega) (by omega) (by omega) (by omega) (by omega)
          · refine te_goto rfl ?_
            refine te_iconst (p2 := 93) (x := 0) rfl rfl (by decide) ?_
            exact te_zret rfl rfl (by decide) ⟨rfl, _, rfl, by decide, by decide⟩
  refine te_lv [(0, .ref 164), (1, .int line), (2, .int k), (3, .int z1)] rfl rfl ⟨rfl, rfl, rfl, rfl, trivial⟩ ?_
  exact lp2 4 z1 (by omega) (by omega) (by omega) (by omega) (by omega)
set_option maxRecDepth 20000 in
set_option maxHeartbeats 4000000 in
theorem t_X12_saysOf {k : Int32} {key : Int32} {h : im_H} (hI : tI h) (p_k0 : 0 ≤ k.toInt) (p_k1 : k.toInt ≤ 23) : CaP 3 144 [.ref 164, .int k, .int key] h (pI h (fun _ => True)) := by
  refine cap_of (d := 2) (M := mX12_saysOf) rfl (Nat.le_of_ble_eq_true rfl) ?_
  show EvP im_K0 2 mX12_saysOf (0, [(0, .ref 164), (1, .int k), (2, .int key)], [], h) _
  refine te_aload_n (p2 := 1) rfl rfl rfl ?_
  refine tg_i (p2 := 4) (i := 148) rfl rfl hI rfl rfl rfl (fun y1 a1 b1 e1 => ?_)
  refine te_iconst (p2 := 5) (x := (-1)) rfl rfl (by decide) ?_
  refine tb_ne (p2 := 8) rfl rfl rfl (show Int32.toInt (-1) = (-1) from rfl) (fun c2 => ?_) (fun c2 => ?_)
  · refine te_bipush (p2 := 30) (x := 8) rfl rfl (by decide) ?_
    refine te_aload_n (p2 := 31) rfl rfl rfl ?_
    refine tg_e (p2 := 34) (i := 148) (v := .int y1) rfl rfl hI rfl rfl e1 ?_
    refine ar_mul (p2 := 35) rfl rfl (show Int32.toInt 8 = 8 from rfl) rfl (by omega) (by omega) (fun z3 e3 f3 => ?_)
    refine te_istore_n (p2 := 36) (lv2 := [(3, .int z3), (0, .ref 164), (1, .int k), (2, .int key)]) rfl rfl (by decide) rfl ?_
    have lp4 : ∀ (n4 : Nat) (v4_3 : Int32) , 0 ≤ v4_3.toInt → v4_3.toInt ≤ 48 → 48 - v4_3.toInt < (n4 : Int) → EvP im_K0 2 mX12_saysOf (36, [(0, .ref 164), (1, .int k), (2, .int key), (3, .int v4_3)], [], h) (pI h (fun _ => True)) := by
      intro n4
      induction n4 with
      | zero => intro v4_3 a4_3 b4_3 m4; exfalso; omega
      | succ n4 ih4 =>
        intro v4_3 a4_3 b4_3 m4
        refine te_iload_n (p2 := 37) rfl rfl rfl ?_
        refine te_bipush (p2 := 39) (x := 8) rfl rfl (by decide) ?_
        refine te_aload_n (p2 := 40) rfl rfl rfl ?_
        refine tg_e (p2 := 43) (i := 148) (v := .int y1) rfl rfl hI rfl rfl e1 ?_
        refine ar_mul (p2 := 44) rfl rfl (show Int32.toInt 8 = 8 from rfl) rfl (by omega) (by omega) (fun z5 e5 f5 => ?_)
        refine te_aload_n (p2 := 45) rfl rfl rfl ?_
        refine tg_r (p2 := 48) (i := 148) (r := 201) rfl rfl hI rfl rfl rfl ?_
        refine te_aload_n (p2 := 49) rfl rfl rfl ?_
        refine tg_e (p2 := 52) (i := 148) (v := .int y1) rfl rfl hI rfl rfl e1 ?_
        refine tl_i (p2 := 53) (i := 185) (n := 6) rfl rfl hI rfl rfl rfl rfl (by omega) (by omega) (fun y6 a6 b6 g6 e6 => ?_)
        refine ar_add (p2 := 54) rfl rfl rfl rfl (by omega) (by omega) (fun z7 e7 f7 => ?_)
        refine tb_ge (p2 := 57) rfl rfl rfl rfl (fun c8 => ?_) (fun c8 => ?_)
        · refine te_iconst (p2 := 90) (x := 0) rfl rfl (by decide) ?_
          exact te_iret rfl rfl ⟨rfl, _, rfl, trivial⟩
        · refine te_aload_n (p2 := 58) rfl rfl rfl ?_
          refine tg_r (p2 := 61) (i := 148) (r := 202) rfl rfl hI rfl rfl rfl ?_
          refine te_iload_n (p2 := 62) rfl rfl rfl ?_
          refine tl_i (p2 := 63) (i := 186) (n := 48) rfl rfl hI rfl rfl rfl rfl (by omega) (by omega) (fun y9 a9 b9 g9 e9 => ?_)
          refine te_iload_n (p2 := 64) rfl rfl rfl ?_
          refine tb_ne (p2 := 67) rfl rfl rfl rfl (fun c10 => ?_) (fun c10 => ?_)
          · refine ar_inc (p2 := 86) (x := v4_3) rfl rfl (by decide) rfl (by decide) rfl (by omega) (by omega) (fun z11 e11 f11 => ?_)
            show EvP _ _ _ (86, [(3, .int z11), (0, .ref 164), (1, .int k), (2, .int key)], [], h) _
            refine te_goto rfl ?_
            refine te_lv [(0, .ref 164), (1, .int k), (2, .int key), (3, .int z11)] rfl rfl ⟨rfl, rfl, rfl, rfl, trivial⟩ ?_
            exact ih4 z11 (by omega) (by omega) (by omega)
          · refine te_aload_n (p2 := 68) rfl rfl rfl ?_
            refine te_iload_n (p2 := 69) rfl rfl rfl ?_
            refine te_iload_n (p2 := 70) rfl rfl rfl ?_
            refine cV_pI (p2 := 73) (i := 148) rfl rfl rfl rfl hI rfl rfl rfl (t_X12_holds (line := v4_3) (k := k) hI (by omega) (by omega) (by omega) (by omega)) (by decide) (fun y12 r12 => ?_)
            obtain ⟨a12, b12⟩ := r12
            refine tz_eq (p2 := 76) rfl rfl rfl (fun c13 => ?_) (fun c13 => ?_)
            · refine ar_inc (p2 := 86) (x := v4_3) rfl rfl (by decide) rfl (by decide) rfl (by omega) (by omega) (fun z14 e14 f14 => ?_)
              show EvP _ _ _ (86, [(3, .int z14), (0, .ref 164), (1, .int k), (2, .int key)], [], h) _
              refine te_goto rfl ?_
              refine te_lv [(0, .ref 164), (1, .int k), (2, .int key), (3, .int z14)] rfl rfl ⟨rfl, rfl, rfl, rfl, trivial⟩ ?_
              exact ih4 z14 (by omega) (by omega) (by omega)
            · refine te_aload_n (p2 := 77) rfl rfl rfl ?_
              refine tg_r (p2 := 80) (i := 148) (r := 203) rfl rfl hI rfl rfl rfl ?_
              refine te_iload_n (p2 := 81) rfl rfl rfl ?_
              refine tl_i (p2 := 82) (i := 187) (n := 48) rfl rfl hI rfl rfl rfl rfl (by omega) (by omega) (fun y15 a15 b15 g15 e15 => ?_)
              exact te_iret rfl rfl ⟨rfl, _, rfl, trivial⟩
    refine te_lv [(0, .ref 164), (1, .int k), (2, .int key), (3, .int z3)] rfl rfl ⟨rfl, rfl, rfl, rfl, trivial⟩ ?_
    exact lp4 49 z3 (by omega) (by omega) (by omega)
  · refine te_iload_n (p2 := 9) rfl rfl rfl ?_
    refine tz_ne (p2 := 12) rfl rfl rfl (fun c16 => ?_) (fun c16 => ?_)
    · refine te_iload_n (p2 := 18) rfl rfl rfl ?_
      refine te_iconst (p2 := 19) (x := 1) rfl rfl (by decide) ?_
      refine tb_ne (p2 := 22) rfl rfl rfl (show Int32.toInt 1 = 1 from rfl) (fun c17 => ?_) (fun c17 => ?_)
      · refine te_iconst (p2 := 27) (x := 0) rfl rfl (by decide) ?_
        exact te_iret rfl rfl ⟨rfl, _, rfl, trivial⟩
      · refine te_iconst (p2 := 23) (x := 1) rfl rfl (by decide) ?_
        refine te_goto rfl ?_
        exact te_iret rfl rfl ⟨rfl, _, rfl, trivial⟩
    · refine te_bipush (p2 := 14) (x := 8) rfl rfl (by decide) ?_
      refine te_goto rfl ?_
      exact te_iret rfl rfl ⟨rfl, _, rfl, trivial⟩
abbrev F_X12_says : List (Nat × Nat × Nat) := []
set_option maxRecDepth 20000 in
set_option maxHeartbeats 4000000 in
theorem t_X12_says {x1 : Int32} {x2 : Int32} {h : im_H} (hI : tI h)  : CaP 4 145 [.ref 164, .int x1, .int x2] h (mI h F_X12_says (fun _ => True)) := by
  refine cap_of (d := 3) (M := mX12_says) rfl (Nat.le_of_ble_eq_true rfl) ?_
  show EvP im_K0 3 mX12_says (0, [(0, .ref 164), (1, .int x1), (2, .int x2)], [], h) _
  have f0 : fr F_X12_says h h := fr_rf
  refine te_aload_n (p2 := 1) rfl rfl rfl ?_
  refine te_iload_n (p2 := 2) rfl rfl rfl ?_
  refine cV_pI (p2 := 5) (i := 148) rfl rfl rfl rfl hI rfl rfl rfl (t_X12_isPerson (k := x1) hI) (by decide) (fun y1 r1 => ?_)
  obtain ⟨p1, e1, a1, b1, r1⟩ := r1
  rcases r1 with ⟨w1, c1⟩ | ⟨w1, c1⟩
  · subst w1
    refine tz_ne (p2 := 8) rfl rfl (show Int32.toInt 1 = 1 from rfl) (fun c2 => ?_) (fun c2 => absurd c2 (by omega))
    refine te_iload_n (p2 := 13) rfl rfl rfl ?_
    refine te_iconst (p2 := 14) (x := 0) rfl rfl (by decide) ?_
    refine te_iconst (p2 := 15) (x := 2) rfl rfl (by decide) ?_
    refine cS_pI (p2 := 18) rfl rfl rfl rfl (t_X12_in (n := x2) (a := 0) (b := 2) hI ) (by decide) (fun y3 r3 => ?_)
    rcases r3 with ⟨w3, c3⟩ | ⟨w3, c3⟩
    · subst w3
      have cc3_1 := (show Int32.toInt 0 = 0 from rfl)
      have cc3_2 := (show Int32.toInt 2 = 2 from rfl)
      refine tz_eq (p2 := 21) rfl rfl (show Int32.toInt 1 = 1 from rfl) (fun c4 => absurd c4 (by omega)) (fun c4 => ?_)
      refine te_aload_n (p2 := 22) rfl rfl rfl ?_
      refine te_iload_n (p2 := 23) rfl rfl rfl ?_
      refine te_iload_n (p2 := 24) rfl rfl rfl ?_
      refine cV_pI (p2 := 27) (i := 148) rfl rfl rfl rfl hI rfl rfl rfl (t_X12_saysOf (k := x1) (key := x2) hI (by omega) (by omega)) (by decide) (fun y5 r5 => ?_)
      refine te_goto rfl ?_
      exact te_iret rfl rfl ⟨hI, f0, _, rfl, trivial⟩
    · subst w3
      have cc3_1 := (show Int32.toInt 0 = 0 from rfl)
      have cc3_2 := (show Int32.toInt 2 = 2 from rfl)
      refine tz_eq (p2 := 21) rfl rfl (show Int32.toInt 0 = 0 from rfl) (fun c6 => ?_) (fun c6 => absurd c6 (by omega))
      refine te_bipush (p2 := 32) (x := (-2)) rfl rfl (by decide) ?_
      exact te_iret rfl rfl ⟨hI, f0, _, rfl, trivial⟩
  · subst w1
    refine tz_ne (p2 := 8) rfl rfl (show Int32.toInt 0 = 0 from rfl) (fun c7 => absurd c7 (by omega)) (fun c7 => ?_)
    refine te_iconst (p2 := 9) (x := (-1)) rfl rfl (by decide) ?_
    refine te_goto rfl ?_
    exact te_iret rfl rfl ⟨hI, f0, _, rfl, trivial⟩
set_option maxRecDepth 20000 in
set_option maxHeartbeats 4000000 in
theorem t_X12_worksOf {k : Int32} {h : im_H} (hI : tI h) (p_k0 : 0 ≤ k.toInt) (p_k1 : k.toInt ≤ 23) : CaP 4 146 [.ref 164, .int k] h (pI h (fun _ => True)) := by
  refine cap_of (d := 3) (M := mX12_worksOf) rfl (Nat.le_of_ble_eq_true rfl) ?_
  show EvP im_K0 3 mX12_worksOf (0, [(0, .ref 164), (1, .int k)], [], h) _
  refine te_aload_n (p2 := 1) rfl rfl rfl ?_
  refine te_iload_n (p2 := 2) rfl rfl rfl ?_
  refine te_iconst (p2 := 3) (x := 0) rfl rfl (by decide) ?_
  refine cV_pI (p2 := 6) (i := 148) rfl rfl rfl rfl hI rfl rfl rfl (t_X12_saysOf (k := k) (key := 0) hI (by omega) (by omega)) (by decide) (fun y1 r1 => ?_)
  refine te_istore_n (p2 := 7) (lv2 := [(2, .int y1), (0, .ref 164), (1, .int k)]) rfl rfl (by decide) rfl ?_
  refine te_iload_n (p2 := 8) rfl rfl rfl ?_
  refine te_bipush (p2 := 10) (x := 14) rfl rfl (by decide) ?_
  refine tb_le (p2 := 13) rfl rfl rfl (show Int32.toInt 14 = 14 from rfl) (fun c2 => ?_) (fun c2 => ?_)
  · refine te_iload_n (p2 := 19) rfl rfl rfl ?_
    exact te_iret rfl rfl ⟨rfl, _, rfl, trivial⟩
  · refine te_bipush (p2 := 15) (x := 14) rfl rfl (by decide) ?_
    refine te_goto rfl ?_
    exact te_iret rfl rfl ⟨rfl, _, rfl, trivial⟩
set_option maxRecDepth 20000 in
set_option maxHeartbeats 4000000 in
theorem t_X12_passes {k : Int32} {h : im_H} (hI : tI h) (p_k0 : 0 ≤ k.toInt) (p_k1 : k.toInt ≤ 23) : CaP 5 147 [.ref 164, .int k] h (pI h (fun _ => True)) := by
  refine cap_of (d := 4) (M := mX12_passes) rfl (Nat.le_of_ble_eq_true rfl) ?_
  show EvP im_K0 4 mX12_passes (0, [(0, .ref 164), (1, .int k)], [], h) _
  refine te_aload_n (p2 := 1) rfl rfl rfl ?_
  refine tg_r (p2 := 4) (i := 148) (r := 165) rfl rfl hI rfl rfl rfl ?_
  refine te_sipush (p2 := 7) (x := 236) rfl rfl (by decide) ?_
  refine te_iload_n (p2 := 8) rfl rfl rfl ?_
  refine ar_add (p2 := 9) rfl rfl (show Int32.toInt 236 = 236 from rfl) rfl (by omega) (by omega) (fun z1 e1 f1 => ?_)
  refine tl_i (p2 := 10) (i := 149) (n := 283) rfl rfl hI rfl rfl rfl rfl (by omega) (by omega) (fun y2 a2 b2 g2 e2 => ?_)
  refine te_iconst (p2 := 11) (x := 1) rfl rfl (by decide) ?_
  refine tb_eq (p2 := 14) rfl rfl rfl (show Int32.toInt 1 = 1 from rfl) (fun c3 => ?_) (fun c3 => ?_)
  · refine te_iconst (p2 := 24) (x := 0) rfl rfl (by decide) ?_
    exact te_iret rfl rfl ⟨rfl, _, rfl, trivial⟩
  · refine te_aload_n (p2 := 15) rfl rfl rfl ?_
    refine te_iload_n (p2 := 16) rfl rfl rfl ?_
    refine te_iconst (p2 := 17) (x := 2) rfl rfl (by decide) ?_
    refine cV_pI (p2 := 20) (i := 148) rfl rfl rfl rfl hI rfl rfl rfl (t_X12_saysOf (k := k) (key := 2) hI (by omega) (by omega)) (by decide) (fun y4 r4 => ?_)
    refine tz_eq (p2 := 23) rfl rfl rfl (fun c5 => ?_) (fun c5 => ?_)
    · refine te_aload_n (p2 := 26) rfl rfl rfl ?_
      refine tg_r (p2 := 29) (i := 148) (r := 173) rfl rfl hI rfl rfl rfl ?_
      refine te_iload_n (p2 := 30) rfl rfl rfl ?_
      refine tl_i (p2 := 31) (i := 157) (n := 24) rfl rfl hI rfl rfl rfl rfl (by omega) (by omega) (fun y6 a6 b6 g6 e6 => ?_)
      refine te_aload_n (p2 := 32) rfl rfl rfl ?_
      refine tg_r (p2 := 35) (i := 148) (r := 165) rfl rfl hI rfl rfl rfl ?_
      refine te_sipush (p2 := 38) (x := 164) rfl rfl (by decide) ?_
      refine te_iload_n (p2 := 39) rfl rfl rfl ?_
      refine ar_add (p2 := 40) rfl rfl (show Int32.toInt 164 = 164 from rfl) rfl (by omega) (by omega) (fun z7 e7 f7 => ?_)
      refine tl_i (p2 := 41) (i := 149) (n := 283) rfl rfl hI rfl rfl rfl rfl (by omega) (by omega) (fun y8 a8 b8 g8 e8 => ?_)
      refine au_sub (p2 := 42) rfl rfl (fun z9 e9 => ?_)
      refine te_istore_n (p2 := 43) (lv2 := [(2, .int z9), (0, .ref 164), (1, .int k)]) rfl rfl (by decide) rfl ?_
      refine te_aload_n (p2 := 44) rfl rfl rfl ?_
      refine te_iload_n (p2 := 45) rfl rfl rfl ?_
      refine cV_pI (p2 := 48) (i := 148) rfl rfl rfl rfl hI rfl rfl rfl (t_X12_worksOf (k := k) hI (by omega) (by omega)) (by decide) (fun y10 r10 => ?_)
      refine te_iload_n (p2 := 49) rfl rfl rfl ?_
      refine tz_ge (p2 := 52) rfl rfl rfl (fun c11 => ?_) (fun c11 => ?_)
      · refine te_iload_n (p2 := 57) rfl rfl rfl ?_
        refine au_mul (p2 := 58) rfl rfl (fun z12 e12 => ?_)
        exact te_iret rfl rfl ⟨rfl, _, rfl, trivial⟩
      · refine te_iconst (p2 := 53) (x := 0) rfl rfl (by decide) ?_
        refine te_goto rfl ?_
        have n13_y10 := i32_lo y10
        have o13_y10 := i32_hi y10
        refine ar_mul (p2 := 58) rfl rfl rfl (show Int32.toInt 0 = 0 from rfl) (by omega) (by omega) (fun z13 e13 f13 => ?_)
        exact te_iret rfl rfl ⟨rfl, _, rfl, trivial⟩
    · refine te_iconst (p2 := 24) (x := 0) rfl rfl (by decide) ?_
      exact te_iret rfl rfl ⟨rfl, _, rfl, trivial⟩
abbrev F_X12_comes : List (Nat × Nat × Nat) := [(149, 0, 99), (149, 104, 104)]
set_option maxRecDepth 20000 in
set_option maxHeartbeats 4000000 in
theorem t_X12_comes {c : Int32} {n : Int32} {h : im_H} (hI : tI h) (p_c0 : 0 ≤ c.toInt) (p_c1 : c.toInt ≤ 99) : CaP 1 148 [.ref 164, .int c, .int n] h (mV h F_X12_comes) := by
  refine cap_of (d := 0) (M := mX12_comes) rfl (Nat.le_of_ble_eq_true rfl) ?_
  show EvP im_K0 0 mX12_comes (0, [(0, .ref 164), (1, .int c), (2, .int n)], [], h) _
  have f0 : fr F_X12_comes h h := fr_rf
  refine te_iload_n (p2 := 1) rfl rfl rfl ?_
  refine te_aload_n (p2 := 2) rfl rfl rfl ?_
  refine tg_i (p2 := 5) (i := 148) rfl rfl hI rfl rfl rfl (fun y1 a1 b1 e1 => ?_)
  refine tb_ne (p2 := 8) rfl rfl rfl rfl (fun c2 => ?_) (fun c2 => ?_)
  · refine te_aload_n (p2 := 23) rfl rfl rfl ?_
    refine tg_r (p2 := 26) (i := 148) (r := 165) rfl rfl hI rfl rfl rfl ?_
    refine te_iload_n (p2 := 27) rfl rfl rfl ?_
    refine te_dup2 (p2 := 28) rfl rfl ⟨rfl, rfl⟩ ?_
    refine tl_i (p2 := 29) (i := 149) (n := 283) rfl rfl hI rfl rfl rfl rfl (by omega) (by omega) (fun y3 a3 b3 g3 e3 => ?_)
    refine te_iload_n (p2 := 30) rfl rfl rfl ?_
    refine au_add (p2 := 31) rfl rfl (fun z4 e4 => ?_)
    refine ts_i (p2 := 32) (i := 149) (n := 283) rfl rfl hI rfl rfl rfl rfl (by omega) (by omega) (i32_lo _) (i32_hi _) (i32_ho _) rfl (fun h5 I5 u5 => ?_)
    have f5 := fr_st (F := F_X12_comes) 0 f0 u5 rfl (by omega) (by omega)
    exact te_vret rfl rfl ⟨I5, f5, rfl⟩
  · refine te_aload_n (p2 := 9) rfl rfl rfl ?_
    refine tg_r (p2 := 12) (i := 148) (r := 165) rfl rfl hI rfl rfl rfl ?_
    refine te_bipush (p2 := 14) (x := 104) rfl rfl (by decide) ?_
    refine te_dup2 (p2 := 15) rfl rfl ⟨rfl, rfl⟩ ?_
    refine tl_i (p2 := 16) (i := 149) (n := 283) rfl rfl hI rfl rfl rfl rfl (by decide) (by decide) (fun y6 a6 b6 g6 e6 => ?_)
    refine te_iload_n (p2 := 17) rfl rfl rfl ?_
    refine au_add (p2 := 18) rfl rfl (fun z7 e7 => ?_)
    refine ts_i (p2 := 19) (i := 149) (n := 283) rfl rfl hI rfl rfl rfl rfl (by decide) (by decide) (i32_lo _) (i32_hi _) (i32_ho _) rfl (fun h8 I8 u8 => ?_)
    have f8 := fr_st (F := F_X12_comes) 1 f0 u8 rfl (by decide) (by decide)
    refine te_goto rfl ?_
    exact te_vret rfl rfl ⟨I8, f8, rfl⟩
abbrev F_X12_goesRow : List (Nat × Nat × Nat) := [(149, 0, 104), (149, 188, 211), (149, 272, 279)]
set_option maxRecDepth 20000 in
set_option maxHeartbeats 4000000 in
theorem t_X12_goesRow {r : Int32} {h : im_H} (hI : tI h) (p_r0 : 0 ≤ r.toInt) (p_r1 : r.toInt ≤ 3) : CaP 6 149 [.ref 164, .int r] h (mV h F_X12_goesRow) := by
  refine cap_of (d := 5) (M := mX12_goesRow) rfl (Nat.le_of_ble_eq_true rfl) ?_
  show EvP im_K0 5 mX12_goesRow (0, [(0, .ref 164), (1, .int r)], [], h) _
  have f0 : fr F_X12_goesRow h h := fr_rf
  refine te_aload_n (p2 := 1) rfl rfl rfl ?_
  refine tg_r (p2 := 4) (i := 148) (r := 165) rfl rfl hI rfl rfl rfl ?_
  refine te_sipush (p2 := 7) (x := 272) rfl rfl (by decide) ?_
  refine te_iload_n (p2 := 8) rfl rfl rfl ?_
  refine ar_add (p2 := 9) rfl rfl (show Int32.toInt 272 = 272 from rfl) rfl (by omega) (by omega) (fun z1 e1 f1 => ?_)
  refine te_iconst (p2 := 10) (x := 0) rfl rfl (by decide) ?_
  refine ts_i (p2 := 11) (i := 149) (n := 283) rfl rfl hI rfl rfl rfl rfl (by omega) (by omega) (i32_lo _) (i32_hi _) (i32_ho _) rfl (fun h2 I2 u2 => ?_)
  have f2 := fr_st (F := F_X12_goesRow) 2 f0 u2 rfl (by omega) (by omega)
  refine te_aload_n (p2 := 12) rfl rfl rfl ?_
  refine tg_r (p2 := 15) (i := 148) (r := 165) rfl rfl I2 rfl rfl rfl ?_
  refine te_sipush (p2 := 18) (x := 276) rfl rfl (by decide) ?_
  refine te_iload_n (p2 := 19) rfl rfl rfl ?_
  refine ar_add (p2 := 20) rfl rfl (show Int32.toInt 276 = 276 from rfl) rfl (by omega) (by omega) (fun z3 e3 f3 => ?_)
  refine te_iconst (p2 := 21) (x := (-1)) rfl rfl (by decide) ?_
  refine ts_i (p2 := 22) (i := 149) (n := 283) rfl rfl I2 rfl rfl rfl rfl (by omega) (by omega) (i32_lo _) (i32_hi _) (i32_ho _) rfl (fun h4 I4 u4 => ?_)
  have f4 := fr_st (F := F_X12_goesRow) 2 f2 u4 rfl (by omega) (by omega)
  refine te_aload_n (p2 := 23) rfl rfl rfl ?_
  refine tg_r (p2 := 26) (i := 148) (r := 177) rfl rfl I4 rfl rfl rfl ?_
  refine te_iload_n (p2 := 27) rfl rfl rfl ?_
  refine tl_i (p2 := 28) (i := 161) (n := 4) rfl rfl I4 rfl rfl rfl rfl (by omega) (by omega) (fun y5 a5 b5 g5 e5 => ?_)
  refine tz_ne (p2 := 31) rfl rfl rfl (fun c6 => ?_) (fun c6 => ?_)
  · refine te_iconst (p2 := 33) (x := 0) rfl rfl (by decide) ?_
    refine te_istore_n (p2 := 34) (lv2 := [(2, .int 0), (0, .ref 164), (1, .int r)]) rfl rfl (by decide) rfl ?_
    refine te_iconst (p2 := 35) (x := 0) rfl rfl (by decide) ?_
    refine te_istore_n (p2 := 36) (lv2 := [(3, .int 0), (2, .int 0), (0, .ref 164), (1, .int r)]) rfl rfl (by decide) rfl ?_
    have lp7 : ∀ (n7 : Nat) (v7_2 v7_3 : Int32) (h7 : im_H), tI h7 → fr F_X12_goesRow h h7 → 0 ≤ v7_3.toInt → v7_3.toInt ≤ 8 → 8 - v7_3.toInt < (n7 : Int) → EvP im_K0 5 mX12_goesRow (36, [(0, .ref 164), (1, .int r), (2, .int v7_2), (3, .int v7_3)], [], h7) (mV h F_X12_goesRow) := by
      intro n7
      induction n7 with
      | zero => intro v7_2 v7_3 h7 I7 f7 a7_3 b7_3 m7; exfalso; omega
      | succ n7 ih7 =>
        intro v7_2 v7_3 h7 I7 f7 a7_3 b7_3 m7
        refine te_iload_n (p2 := 37) rfl rfl rfl ?_
        refine te_aload_n (p2 := 38) rfl rfl rfl ?_
        refine tg_r (p2 := 41) (i := 148) (r := 177) rfl rfl I7 rfl rfl rfl ?_
        refine te_iload_n (p2 := 42) rfl rfl rfl ?_
        refine tl_i (p2 := 43) (i := 161) (n := 4) rfl rfl I7 rfl rfl rfl rfl (by omega) (by omega) (fun y8 a8 b8 g8 e8 => ?_)
        refine tb_ge (p2 := 46) rfl rfl rfl rfl (fun c9 => ?_) (fun c9 => ?_)
        · refine te_aload_n (p2 := 109) rfl rfl rfl ?_
          refine tg_r (p2 := 112) (i := 148) (r := 178) rfl rfl I7 rfl rfl rfl ?_
          refine te_iload_n (p2 := 113) rfl rfl rfl ?_
          refine tl_i (p2 := 114) (i := 162) (n := 4) rfl rfl I7 rfl rfl rfl rfl (by omega) (by omega) (fun y10 a10 b10 g10 e10 => ?_)
          refine te_istore_n (p2 := 115) (lv2 := [(3, .int y10), (0, .ref 164), (1, .int r), (2, .int v7_2)]) rfl rfl (by decide) rfl ?_
          refine te_iload_n (p2 := 116) rfl rfl rfl ?_
          refine te_aload_n (p2 := 117) rfl rfl rfl ?_
          refine tg_r (p2 := 120) (i := 148) (r := 165) rfl rfl I7 rfl rfl rfl ?_
          refine te_iload_n (p2 := 121) rfl rfl rfl ?_
          refine tl_i (p2 := 122) (i := 149) (n := 283) rfl rfl I7 rfl rfl rfl rfl (by omega) (by omega) (fun y11 a11 b11 g11 e11 => ?_)
          refine tb_ge (p2 := 125) rfl rfl rfl rfl (fun c12 => ?_) (fun c12 => ?_)
          · refine te_aload_n (p2 := 130) rfl rfl rfl ?_
            refine tg_r (p2 := 133) (i := 148) (r := 165) rfl rfl I7 rfl rfl rfl ?_
            refine te_iload_n (p2 := 134) rfl rfl rfl ?_
            refine tl_e (p2 := 135) (i := 149) (n := 283) (t := 0) (Or.inl rfl) rfl rfl I7 rfl rfl (by omega) (by omega) e11 ?_
            refine te_istore (p2 := 137) (lv2 := [(4, .int y11), (3, .int y10), (0, .ref 164), (1, .int r), (2, .int v7_2)]) rfl rfl (by decide) rfl ?_
            refine te_aload_n (p2 := 138) rfl rfl rfl ?_
            refine tg_r (p2 := 141) (i := 148) (r := 165) rfl rfl I7 rfl rfl rfl ?_
            refine te_sipush (p2 := 144) (x := 272) rfl rfl (by decide) ?_
            refine te_iload_n (p2 := 145) rfl rfl rfl ?_
            refine ar_add (p2 := 146) rfl rfl (show Int32.toInt 272 = 272 from rfl) rfl (by omega) (by omega) (fun z14 e14 f14 => ?_)
            refine te_iload (p2 := 148) rfl rfl rfl ?_
            refine ts_i (p2 := 149) (i := 149) (n := 283) rfl rfl I7 rfl rfl rfl rfl (by omega) (by omega) (i32_lo _) (i32_hi _) (i32_ho _) rfl (fun h15 I15 u15 => ?_)
            have f15 := fr_st (F := F_X12_goesRow) 2 f7 u15 rfl (by omega) (by omega)
            refine te_aload_n (p2 := 150) rfl rfl rfl ?_
            refine tg_r (p2 := 153) (i := 148) (r := 165) rfl rfl I15 rfl rfl rfl ?_
            refine te_iload_n (p2 := 154) rfl rfl rfl ?_
            refine te_dup2 (p2 := 155) rfl rfl ⟨rfl, rfl⟩ ?_
            refine tl_i (p2 := 156) (i := 149) (n := 283) rfl rfl I15 rfl rfl rfl rfl (by omega) (by omega) (fun y16 a16 b16 g16 e16 => ?_)
            refine te_iload (p2 := 158) rfl rfl rfl ?_
            refine au_sub (p2 := 159) rfl rfl (fun z17 e17 => ?_)
            refine ts_i (p2 := 160) (i := 149) (n := 283) rfl rfl I15 rfl rfl rfl rfl (by omega) (by omega) (i32_lo _) (i32_hi _) (i32_ho _) rfl (fun h18 I18 u18 => ?_)
            have f18 := fr_st (F := F_X12_goesRow) 0 f15 u18 rfl (by omega) (by omega)
            refine te_iload (p2 := 162) rfl rfl rfl ?_
            refine te_bipush (p2 := 164) (x := 10) rfl rfl (by decide) ?_
            refine au_div (p2 := 165) rfl rfl (show Int32.toInt 10 = 10 from rfl) (by decide) (fun z19 e19 => ?_)
            refine te_istore (p2 := 167) (lv2 := [(5, .int z19), (4, .int y11), (3, .int y10), (0, .ref 164), (1, .int r), (2, .int v7_2)]) rfl rfl (by decide) rfl ?_
            refine te_aload_n (p2 := 168) rfl rfl rfl ?_
            refine tg_r (p2 := 171) (i := 148) (r := 168) rfl rfl I18 rfl rfl rfl ?_
            refine te_iload_n (p2 := 172) rfl rfl rfl ?_
            refine tl_i (p2 := 173) (i := 152) (n := 100) rfl rfl I18 rfl rfl rfl rfl (by omega) (by omega) (fun y20 a20 b20 g20 e20 => ?_)
            refine te_iconst (p2 := 174) (x := (-1)) rfl rfl (by decide) ?_
            refine tb_eq (p2 := 177) rfl rfl rfl (show Int32.toInt (-1) = (-1) from rfl) (fun c21 => ?_) (fun c21 => ?_)
            · refine te_aload_n (p2 := 250) rfl rfl rfl ?_
              refine tg_r (p2 := 253) (i := 148) (r := 165) rfl rfl I18 rfl rfl rfl ?_
              refine te_bipush (p2 := 255) (x := 103) rfl rfl (by decide) ?_
              refine te_dup2 (p2 := 256) rfl rfl ⟨rfl, rfl⟩ ?_
              refine tl_i (p2 := 257) (i := 149) (n := 283) rfl rfl I18 rfl rfl rfl rfl (by decide) (by decide) (fun y22 a22 b22 g22 e22 => ?_)
              refine te_iconst (p2 := 258) (x := 4) rfl rfl (by decide) ?_
              refine te_iload (p2 := 260) rfl rfl rfl ?_
              refine au_mul (p2 := 261) rfl rfl (fun z23 e23 => ?_)
              refine au_add (p2 := 262) rfl rfl (fun z24 e24 => ?_)
              refine ts_i (p2 := 263) (i := 149) (n := 283) rfl rfl I18 rfl rfl rfl rfl (by decide) (by decide) (i32_lo _) (i32_hi _) (i32_ho _) rfl (fun h25 I25 u25 => ?_)
              have f25 := fr_st (F := F_X12_goesRow) 0 f18 u25 rfl (by decide) (by decide)
              refine te_aload_n (p2 := 264) rfl rfl rfl ?_
              refine te_aload_n (p2 := 265) rfl rfl rfl ?_
              refine tg_r (p2 := 268) (i := 148) (r := 179) rfl rfl I25 rfl rfl rfl ?_
              refine te_iload_n (p2 := 269) rfl rfl rfl ?_
              refine tl_i (p2 := 270) (i := 163) (n := 4) rfl rfl I25 rfl rfl rfl rfl (by omega) (by omega) (fun y26 a26 b26 g26 e26 => ?_)
              refine te_iload (p2 := 272) rfl rfl rfl ?_
              refine te_iconst (p2 := 273) (x := 4) rfl rfl (by decide) ?_
              refine te_iload (p2 := 275) rfl rfl rfl ?_
              refine au_mul (p2 := 276) rfl rfl (fun z27 e27 => ?_)
              refine au_sub (p2 := 277) rfl rfl (fun z28 e28 => ?_)
              refine cV_mV (p2 := 280) (i := 148) rfl rfl rfl rfl I25 rfl rfl rfl (t_X12_comes (c := y26) (n := z28) I25 (by omega) (by omega)) (by decide) (fun h29 I29 g29 => ?_)
              have f29 := fr_tr (F1 := F_X12_comes) (F := F_X12_goesRow) f25 g29 (by decide)
              refine te_iconst (p2 := 281) (x := 0) rfl rfl (by decide) ?_
              refine te_istore (p2 := 283) (lv2 := [(6, .int 0), (5, .int z19), (4, .int y11), (3, .int y10), (0, .ref 164), (1, .int r), (2, .int v7_2)]) rfl rfl (by decide) rfl ?_
              have lp30 : ∀ (n30 : Nat) (v30_6 : Int32) (h30 : im_H), tI h30 → fr F_X12_goesRow h h30 → 0 ≤ v30_6.toInt → v30_6.toInt ≤ 8 → 8 - v30_6.toInt < (n30 : Int) → EvP im_K0 5 mX12_goesRow (283, [(0, .ref 164), (1, .int r), (2, .int v7_2), (3, .int y10), (4, .int y11), (5, .int z19), (6, .int v30_6)], [], h30) (mV h F_X12_goesRow) := by
                intro n30
                induction n30 with
                | zero => intro v30_6 h30 I30 f30 a30_6 b30_6 m30; exfalso; omega
                | succ n30 ih30 =>
                  intro v30_6 h30 I30 f30 a30_6 b30_6 m30
                  refine te_iload (p2 := 285) rfl rfl rfl ?_
                  refine te_aload_n (p2 := 286) rfl rfl rfl ?_
                  refine tg_r (p2 := 289) (i := 148) (r := 177) rfl rfl I30 rfl rfl rfl ?_
                  refine te_iload_n (p2 := 290) rfl rfl rfl ?_
                  refine tl_i (p2 := 291) (i := 161) (n := 4) rfl rfl I30 rfl rfl rfl rfl (by omega) (by omega) (fun y31 a31 b31 g31 e31 => ?_)
                  refine tb_ge (p2 := 294) rfl rfl rfl rfl (fun c32 => ?_) (fun c32 => ?_)
                  · exact te_vret rfl rfl ⟨I30, f30, rfl⟩
                  · refine te_iload (p2 := 296) rfl rfl rfl ?_
                    refine tz_le (p2 := 299) rfl rfl rfl (fun c33 => ?_) (fun c33 => ?_)
                    · exact te_vret rfl rfl ⟨I30, f30, rfl⟩
                    · refine te_aload_n (p2 := 300) rfl rfl rfl ?_
                      refine tg_r (p2 := 303) (i := 148) (r := 165) rfl rfl I30 rfl rfl rfl ?_
                      refine te_sipush (p2 := 306) (x := 188) rfl rfl (by decide) ?_
                      refine te_aload_n (p2 := 307) rfl rfl rfl ?_
                      refine tg_r (p2 := 310) (i := 148) (r := 176) rfl rfl I30 rfl rfl rfl ?_
                      refine te_bipush (p2 := 312) (x := 8) rfl rfl (by decide) ?_
                      refine te_iload_n (p2 := 313) rfl rfl rfl ?_
                      refine ar_mul (p2 := 314) rfl rfl (show Int32.toInt 8 = 8 from rfl) rfl (by omega) (by omega) (fun z34 e34 f34 => ?_)
                      refine te_iload (p2 := 316) rfl rfl rfl ?_
                      refine ar_add (p2 := 317) rfl rfl rfl rfl (by omega) (by omega) (fun z35 e35 f35 => ?_)
                      refine tl_i (p2 := 318) (i := 160) (n := 32) rfl rfl I30 rfl rfl rfl rfl (by omega) (by omega) (fun y36 a36 b36 g36 e36 => ?_)
                      refine ar_add (p2 := 319) rfl rfl (show Int32.toInt 188 = 188 from rfl) rfl (by omega) (by omega) (fun z37 e37 f37 => ?_)
                      refine te_dup2 (p2 := 320) rfl rfl ⟨rfl, rfl⟩ ?_
                      refine tl_i (p2 := 321) (i := 149) (n := 283) rfl rfl I30 rfl rfl rfl rfl (by omega) (by omega) (fun y38 a38 b38 g38 e38 => ?_)
                      refine te_aload_n (p2 := 322) rfl rfl rfl ?_
                      refine te_aload_n (p2 := 323) rfl rfl rfl ?_
                      refine tg_r (p2 := 326) (i := 148) (r := 176) rfl rfl I30 rfl rfl rfl ?_
                      refine te_bipush (p2 := 328) (x := 8) rfl rfl (by decide) ?_
                      refine te_iload_n (p2 := 329) rfl rfl rfl ?_
                      refine ar_mul (p2 := 330) rfl rfl (show Int32.toInt 8 = 8 from rfl) rfl (by omega) (by omega) (fun z39 e39 f39 => ?_)
                      refine te_iload (p2 := 332) rfl rfl rfl ?_
                      refine ar_add (p2 := 333) rfl rfl rfl rfl (by omega) (by omega) (fun z40 e40 f40 => ?_)
                      refine tl_i (p2 := 334) (i := 160) (n := 32) rfl rfl I30 rfl rfl rfl rfl (by omega) (by omega) (fun y41 a41 b41 g41 e41 => ?_)
                      refine cV_pI (p2 := 337) (i := 148) rfl rfl rfl rfl I30 rfl rfl rfl (t_X12_worksOf (k := y41) I30 (by omega) (by omega)) (by decide) (fun y42 r42 => ?_)
                      refine au_add (p2 := 338) rfl rfl (fun z43 e43 => ?_)
                      refine ts_i (p2 := 339) (i := 149) (n := 283) rfl rfl I30 rfl rfl rfl rfl (by omega) (by omega) (i32_lo _) (i32_hi _) (i32_ho _) rfl (fun h44 I44 u44 => ?_)
                      have f44 := fr_st (F := F_X12_goesRow) 1 f30 u44 rfl (by omega) (by omega)
                      refine ar_inc (p2 := 342) (x := v30_6) rfl rfl (by decide) rfl (by decide) rfl (by omega) (by omega) (fun z45 e45 f45 => ?_)
                      show EvP _ _ _ (342, [(6, .int z45), (0, .ref 164), (1, .int r), (2, .int v7_2), (3, .int y10), (4, .int y11), (5, .int z19)], [], h44) _
                      refine te_goto rfl ?_
                      refine te_lv [(0, .ref 164), (1, .int r), (2, .int v7_2), (3, .int y10), (4, .int y11), (5, .int z19), (6, .int z45)] rfl rfl ⟨rfl, rfl, rfl, rfl, rfl, rfl, rfl, trivial⟩ ?_
                      exact ih30 z45 h44 I44 f44 (by omega) (by omega) (by omega)
              refine te_lv [(0, .ref 164), (1, .int r), (2, .int v7_2), (3, .int y10), (4, .int y11), (5, .int z19), (6, .int 0)] rfl rfl ⟨rfl, rfl, rfl, rfl, rfl, rfl, rfl, trivial⟩ ?_
              exact lp30 9 0 h29 I29 f29 (by decide) (by decide) (by have cc0 := (show Int32.toInt 0 = 0 from rfl); omega)
            · refine te_aload_n (p2 := 178) rfl rfl rfl ?_
              refine tg_r (p2 := 181) (i := 148) (r := 165) rfl rfl I18 rfl rfl rfl ?_
              refine te_bipush (p2 := 183) (x := 100) rfl rfl (by decide) ?_
              refine te_dup2 (p2 := 184) rfl rfl ⟨rfl, rfl⟩ ?_
              refine tl_i (p2 := 185) (i := 149) (n := 283) rfl rfl I18 rfl rfl rfl rfl (by decide) (by decide) (fun y46 a46 b46 g46 e46 => ?_)
              refine te_iload (p2 := 187) rfl rfl rfl ?_
              refine te_aload_n (p2 := 188) rfl rfl rfl ?_
              refine tg_r (p2 := 191) (i := 148) (r := 169) rfl rfl I18 rfl rfl rfl ?_
              refine te_aload_n (p2 := 192) rfl rfl rfl ?_
              refine tg_r (p2 := 195) (i := 148) (r := 168) rfl rfl I18 rfl rfl rfl ?_
              refine te_iload_n (p2 := 196) rfl rfl rfl ?_
              refine tl_e (p2 := 197) (i := 152) (n := 100) (t := 0) (Or.inl rfl) rfl rfl I18 rfl rfl (by omega) (by omega) e20 ?_
              refine tl_i (p2 := 198) (i := 153) (n := 6) rfl rfl I18 rfl rfl rfl rfl (by omega) (by omega) (fun y48 a48 b48 g48 e48 => ?_)
              refine au_mul (p2 := 199) rfl rfl (fun z49 e49 => ?_)
              refine au_add (p2 := 200) rfl rfl (fun z50 e50 => ?_)
              refine ts_i (p2 := 201) (i := 149) (n := 283) rfl rfl I18 rfl rfl rfl rfl (by decide) (by decide) (i32_lo _) (i32_hi _) (i32_ho _) rfl (fun h51 I51 u51 => ?_)
              have f51 := fr_st (F := F_X12_goesRow) 0 f18 u51 rfl (by decide) (by decide)
              refine te_aload_n (p2 := 202) rfl rfl rfl ?_
              refine tg_r (p2 := 205) (i := 148) (r := 165) rfl rfl I51 rfl rfl rfl ?_
              refine te_bipush (p2 := 207) (x := 101) rfl rfl (by decide) ?_
              refine te_dup2 (p2 := 208) rfl rfl ⟨rfl, rfl⟩ ?_
              refine tl_i (p2 := 209) (i := 149) (n := 283) rfl rfl I51 rfl rfl rfl rfl (by decide) (by decide) (fun y52 a52 b52 g52 e52 => ?_)
              refine te_iload (p2 := 211) rfl rfl rfl ?_
              refine te_aload_n (p2 := 212) rfl rfl rfl ?_
              refine tg_r (p2 := 215) (i := 148) (r := 170) rfl rfl I51 rfl rfl rfl ?_
              refine te_aload_n (p2 := 216) rfl rfl rfl ?_
              refine tg_r (p2 := 219) (i := 148) (r := 168) rfl rfl I51 rfl rfl rfl ?_
              refine te_iload_n (p2 := 220) rfl rfl rfl ?_
              refine tl_e (p2 := 221) (i := 152) (n := 100) (t := 0) (Or.inl rfl) rfl rfl I51 rfl rfl (by omega) (by omega) ((u51.2 _ _ (Or.inl (by decide))).trans e20) ?_
              refine tl_i (p2 := 222) (i := 154) (n := 6) rfl rfl I51 rfl rfl rfl rfl (by omega) (by omega) (fun y54 a54 b54 g54 e54 => ?_)
              refine au_mul (p2 := 223) rfl rfl (fun z55 e55 => ?_)
              refine au_add (p2 := 224) rfl rfl (fun z56 e56 => ?_)
              refine ts_i (p2 := 225) (i := 149) (n := 283) rfl rfl I51 rfl rfl rfl rfl (by decide) (by decide) (i32_lo _) (i32_hi _) (i32_ho _) rfl (fun h57 I57 u57 => ?_)
              have f57 := fr_st (F := F_X12_goesRow) 0 f51 u57 rfl (by decide) (by decide)
              refine te_aload_n (p2 := 226) rfl rfl rfl ?_
              refine tg_r (p2 := 229) (i := 148) (r := 165) rfl rfl I57 rfl rfl rfl ?_
              refine te_bipush (p2 := 231) (x := 102) rfl rfl (by decide) ?_
              refine te_dup2 (p2 := 232) rfl rfl ⟨rfl, rfl⟩ ?_
              refine tl_i (p2 := 233) (i := 149) (n := 283) rfl rfl I57 rfl rfl rfl rfl (by decide) (by decide) (fun y58 a58 b58 g58 e58 => ?_)
              refine te_iload (p2 := 235) rfl rfl rfl ?_
              refine te_aload_n (p2 := 236) rfl rfl rfl ?_
              refine tg_r (p2 := 239) (i := 148) (r := 171) rfl rfl I57 rfl rfl rfl ?_
              refine te_aload_n (p2 := 240) rfl rfl rfl ?_
              refine tg_r (p2 := 243) (i := 148) (r := 168) rfl rfl I57 rfl rfl rfl ?_
              refine te_iload_n (p2 := 244) rfl rfl rfl ?_
              refine tl_e (p2 := 245) (i := 152) (n := 100) (t := 0) (Or.inl rfl) rfl rfl I57 rfl rfl (by omega) (by omega) ((u57.2 _ _ (Or.inl (by decide))).trans ((u51.2 _ _ (Or.inl (by decide))).trans e20)) ?_
              refine tl_i (p2 := 246) (i := 155) (n := 6) rfl rfl I57 rfl rfl rfl rfl (by omega) (by omega) (fun y60 a60 b60 g60 e60 => ?_)
              refine au_mul (p2 := 247) rfl rfl (fun z61 e61 => ?_)
              refine au_add (p2 := 248) rfl rfl (fun z62 e62 => ?_)
              refine ts_i (p2 := 249) (i := 149) (n := 283) rfl rfl I57 rfl rfl rfl rfl (by decide) (by decide) (i32_lo _) (i32_hi _) (i32_ho _) rfl (fun h63 I63 u63 => ?_)
              have f63 := fr_st (F := F_X12_goesRow) 0 f57 u63 rfl (by decide) (by decide)
              refine te_aload_n (p2 := 250) rfl rfl rfl ?_
              refine tg_r (p2 := 253) (i := 148) (r := 165) rfl rfl I63 rfl rfl rfl ?_
              refine te_bipush (p2 := 255) (x := 103) rfl rfl (by decide) ?_
              refine te_dup2 (p2 := 256) rfl rfl ⟨rfl, rfl⟩ ?_
              refine tl_i (p2 := 257) (i := 149) (n := 283) rfl rfl I63 rfl rfl rfl rfl (by decide) (by decide) (fun y64 a64 b64 g64 e64 => ?_)
              refine te_iconst (p2 := 258) (x := 4) rfl rfl (by decide) ?_
              refine te_iload (p2 := 260) rfl rfl rfl ?_
              refine au_mul (p2 := 261) rfl rfl (fun z65 e65 => ?_)
              refine au_add (p2 := 262) rfl rfl (fun z66 e66 => ?_)
              refine ts_i (p2 := 263) (i := 149) (n := 283) rfl rfl I63 rfl rfl rfl rfl (by decide) (by decide) (i32_lo _) (i32_hi _) (i32_ho _) rfl (fun h67 I67 u67 => ?_)
              have f67 := fr_st (F := F_X12_goesRow) 0 f63 u67 rfl (by decide) (by decide)
              refine te_aload_n (p2 := 264) rfl rfl rfl ?_
              refine te_aload_n (p2 := 265) rfl rfl rfl ?_
              refine tg_r (p2 := 268) (i := 148) (r := 179) rfl rfl I67 rfl rfl rfl ?_
              refine te_iload_n (p2 := 269) rfl rfl rfl ?_
              refine tl_i (p2 := 270) (i := 163) (n := 4) rfl rfl I67 rfl rfl rfl rfl (by omega) (by omega) (fun y68 a68 b68 g68 e68 => ?_)
              refine te_iload (p2 := 272) rfl rfl rfl ?_
              refine te_iconst (p2 := 273) (x := 4) rfl rfl (by decide) ?_
              refine te_iload (p2 := 275) rfl rfl rfl ?_
              refine au_mul (p2 := 276) rfl rfl (fun z69 e69 => ?_)
              refine au_sub (p2 := 277) rfl rfl (fun z70 e70 => ?_)
              refine cV_mV (p2 := 280) (i := 148) rfl rfl rfl rfl I67 rfl rfl rfl (t_X12_comes (c := y68) (n := z70) I67 (by omega) (by omega)) (by decide) (fun h71 I71 g71 => ?_)
              have f71 := fr_tr (F1 := F_X12_comes) (F := F_X12_goesRow) f67 g71 (by decide)
              refine te_iconst (p2 := 281) (x := 0) rfl rfl (by decide) ?_
              refine te_istore (p2 := 283) (lv2 := [(6, .int 0), (5, .int z19), (4, .int y11), (3, .int y10), (0, .ref 164), (1, .int r), (2, .int v7_2)]) rfl rfl (by decide) rfl ?_
              have lp72 : ∀ (n72 : Nat) (v72_6 : Int32) (h72 : im_H), tI h72 → fr F_X12_goesRow h h72 → 0 ≤ v72_6.toInt → v72_6.toInt ≤ 8 → 8 - v72_6.toInt < (n72 : Int) → EvP im_K0 5 mX12_goesRow (283, [(0, .ref 164), (1, .int r), (2, .int v7_2), (3, .int y10), (4, .int y11), (5, .int z19), (6, .int v72_6)], [], h72) (mV h F_X12_goesRow) := by
                intro n72
                induction n72 with
                | zero => intro v72_6 h72 I72 f72 a72_6 b72_6 m72; exfalso; omega
                | succ n72 ih72 =>
                  intro v72_6 h72 I72 f72 a72_6 b72_6 m72
                  refine te_iload (p2 := 285) rfl rfl rfl ?_
                  refine te_aload_n (p2 := 286) rfl rfl rfl ?_
                  refine tg_r (p2 := 289) (i := 148) (r := 177) rfl rfl I72 rfl rfl rfl ?_
                  refine te_iload_n (p2 := 290) rfl rfl rfl ?_
                  refine tl_i (p2 := 291) (i := 161) (n := 4) rfl rfl I72 rfl rfl rfl rfl (by omega) (by omega) (fun y73 a73 b73 g73 e73 => ?_)
                  refine tb_ge (p2 := 294) rfl rfl rfl rfl (fun c74 => ?_) (fun c74 => ?_)
                  · exact te_vret rfl rfl ⟨I72, f72, rfl⟩
                  · refine te_iload (p2 := 296) rfl rfl rfl ?_
                    refine tz_le (p2 := 299) rfl rfl rfl (fun c75 => ?_) (fun c75 => ?_)
                    · exact te_vret rfl rfl ⟨I72, f72, rfl⟩
                    · refine te_aload_n (p2 := 300) rfl rfl rfl ?_
                      refine tg_r (p2 := 303) (i := 148) (r := 165) rfl rfl I72 rfl rfl rfl ?_
                      refine te_sipush (p2 := 306) (x := 188) rfl rfl (by decide) ?_
                      refine te_aload_n (p2 := 307) rfl rfl rfl ?_
                      refine tg_r (p2 := 310) (i := 148) (r := 176) rfl rfl I72 rfl rfl rfl ?_
                      refine te_bipush (p2 := 312) (x := 8) rfl rfl (by decide) ?_
                      refine te_iload_n (p2 := 313) rfl rfl rfl ?_
                      refine ar_mul (p2 := 314) rfl rfl (show Int32.toInt 8 = 8 from rfl) rfl (by omega) (by omega) (fun z76 e76 f76 => ?_)
                      refine te_iload (p2 := 316) rfl rfl rfl ?_
                      refine ar_add (p2 := 317) rfl rfl rfl rfl (by omega) (by omega) (fun z77 e77 f77 => ?_)
                      refine tl_i (p2 := 318) (i := 160) (n := 32) rfl rfl I72 rfl rfl rfl rfl (by omega) (by omega) (fun y78 a78 b78 g78 e78 => ?_)
                      refine ar_add (p2 := 319) rfl rfl (show Int32.toInt 188 = 188 from rfl) rfl (by omega) (by omega) (fun z79 e79 f79 => ?_)
                      refine te_dup2 (p2 := 320) rfl rfl ⟨rfl, rfl⟩ ?_
                      refine tl_i (p2 := 321) (i := 149) (n := 283) rfl rfl I72 rfl rfl rfl rfl (by omega) (by omega) (fun y80 a80 b80 g80 e80 => ?_)
                      refine te_aload_n (p2 := 322) rfl rfl rfl ?_
                      refine te_aload_n (p2 := 323) rfl rfl rfl ?_
                      refine tg_r (p2 := 326) (i := 148) (r := 176) rfl rfl I72 rfl rfl rfl ?_
                      refine te_bipush (p2 := 328) (x := 8) rfl rfl (by decide) ?_
                      refine te_iload_n (p2 := 329) rfl rfl rfl ?_
                      refine ar_mul (p2 := 330) rfl rfl (show Int32.toInt 8 = 8 from rfl) rfl (by omega) (by omega) (fun z81 e81 f81 => ?_)
                      refine te_iload (p2 := 332) rfl rfl rfl ?_
                      refine ar_add (p2 := 333) rfl rfl rfl rfl (by omega) (by omega) (fun z82 e82 f82 => ?_)
                      refine tl_i (p2 := 334) (i := 160) (n := 32) rfl rfl I72 rfl rfl rfl rfl (by omega) (by omega) (fun y83 a83 b83 g83 e83 => ?_)
                      refine cV_pI (p2 := 337) (i := 148) rfl rfl rfl rfl I72 rfl rfl rfl (t_X12_worksOf (k := y83) I72 (by omega) (by omega)) (by decide) (fun y84 r84 => ?_)
                      refine au_add (p2 := 338) rfl rfl (fun z85 e85 => ?_)
                      refine ts_i (p2 := 339) (i := 149) (n := 283) rfl rfl I72 rfl rfl rfl rfl (by omega) (by omega) (i32_lo _) (i32_hi _) (i32_ho _) rfl (fun h86 I86 u86 => ?_)
                      have f86 := fr_st (F := F_X12_goesRow) 1 f72 u86 rfl (by omega) (by omega)
                      refine ar_inc (p2 := 342) (x := v72_6) rfl rfl (by decide) rfl (by decide) rfl (by omega) (by omega) (fun z87 e87 f87 => ?_)
                      show EvP _ _ _ (342, [(6, .int z87), (0, .ref 164), (1, .int r), (2, .int v7_2), (3, .int y10), (4, .int y11), (5, .int z19)], [], h86) _
                      refine te_goto rfl ?_
                      refine te_lv [(0, .ref 164), (1, .int r), (2, .int v7_2), (3, .int y10), (4, .int y11), (5, .int z19), (6, .int z87)] rfl rfl ⟨rfl, rfl, rfl, rfl, rfl, rfl, rfl, trivial⟩ ?_
                      exact ih72 z87 h86 I86 f86 (by omega) (by omega) (by omega)
              refine te_lv [(0, .ref 164), (1, .int r), (2, .int v7_2), (3, .int y10), (4, .int y11), (5, .int z19), (6, .int 0)] rfl rfl ⟨rfl, rfl, rfl, rfl, rfl, rfl, rfl, trivial⟩ ?_
              exact lp72 9 0 h71 I71 f71 (by decide) (by decide) (by have cc0 := (show Int32.toInt 0 = 0 from rfl); omega)
          · refine te_iload_n (p2 := 126) rfl rfl rfl ?_
            refine te_goto rfl ?_
            refine te_istore (p2 := 137) (lv2 := [(4, .int v7_2), (3, .int y10), (0, .ref 164), (1, .int r), (2, .int v7_2)]) rfl rfl (by decide) rfl ?_
            refine te_aload_n (p2 := 138) rfl rfl rfl ?_
            refine tg_r (p2 := 141) (i := 148) (r := 165) rfl rfl I7 rfl rfl rfl ?_
            refine te_sipush (p2 := 144) (x := 272) rfl rfl (by decide) ?_
            refine te_iload_n (p2 := 145) rfl rfl rfl ?_
            refine ar_add (p2 := 146) rfl rfl (show Int32.toInt 272 = 272 from rfl) rfl (by omega) (by omega) (fun z88 e88 f88 => ?_)
            refine te_iload (p2 := 148) rfl rfl rfl ?_
            refine ts_i (p2 := 149) (i := 149) (n := 283) rfl rfl I7 rfl rfl rfl rfl (by omega) (by omega) (i32_lo _) (i32_hi _) (i32_ho _) rfl (fun h89 I89 u89 => ?_)
            have f89 := fr_st (F := F_X12_goesRow) 2 f7 u89 rfl (by omega) (by omega)
            refine te_aload_n (p2 := 150) rfl rfl rfl ?_
            refine tg_r (p2 := 153) (i := 148) (r := 165) rfl rfl I89 rfl rfl rfl ?_
            refine te_iload_n (p2 := 154) rfl rfl rfl ?_
            refine te_dup2 (p2 := 155) rfl rfl ⟨rfl, rfl⟩ ?_
            refine tl_i (p2 := 156) (i := 149) (n := 283) rfl rfl I89 rfl rfl rfl rfl (by omega) (by omega) (fun y90 a90 b90 g90 e90 => ?_)
            refine te_iload (p2 := 158) rfl rfl rfl ?_
            refine au_sub (p2 := 159) rfl rfl (fun z91 e91 => ?_)
            refine ts_i (p2 := 160) (i := 149) (n := 283) rfl rfl I89 rfl rfl rfl rfl (by omega) (by omega) (i32_lo _) (i32_hi _) (i32_ho _) rfl (fun h92 I92 u92 => ?_)
            have f92 := fr_st (F := F_X12_goesRow) 0 f89 u92 rfl (by omega) (by omega)
            refine te_iload (p2 := 162) rfl rfl rfl ?_
            refine te_bipush (p2 := 164) (x := 10) rfl rfl (by decide) ?_
            refine au_div (p2 := 165) rfl rfl (show Int32.toInt 10 = 10 from rfl) (by decide) (fun z93 e93 => ?_)
            refine te_istore (p2 := 167) (lv2 := [(5, .int z93), (4, .int v7_2), (3, .int y10), (0, .ref 164), (1, .int r), (2, .int v7_2)]) rfl rfl (by decide) rfl ?_
            refine te_aload_n (p2 := 168) rfl rfl rfl ?_
            refine tg_r (p2 := 171) (i := 148) (r := 168) rfl rfl I92 rfl rfl rfl ?_
            refine te_iload_n (p2 := 172) rfl rfl rfl ?_
            refine tl_i (p2 := 173) (i := 152) (n := 100) rfl rfl I92 rfl rfl rfl rfl (by omega) (by omega) (fun y94 a94 b94 g94 e94 => ?_)
            refine te_iconst (p2 := 174) (x := (-1)) rfl rfl (by decide) ?_
            refine tb_eq (p2 := 177) rfl rfl rfl (show Int32.toInt (-1) = (-1) from rfl) (fun c95 => ?_) (fun c95 => ?_)
            · refine te_aload_n (p2 := 250) rfl rfl rfl ?_
              refine tg_r (p2 := 253) (i := 148) (r := 165) rfl rfl I92 rfl rfl rfl ?_
              refine te_bipush (p2 := 255) (x := 103) rfl rfl (by decide) ?_
              refine te_dup2 (p2 := 256) rfl rfl ⟨rfl, rfl⟩ ?_
              refine tl_i (p2 := 257) (i := 149) (n := 283) rfl rfl I92 rfl rfl rfl rfl (by decide) (by decide) (fun y96 a96 b96 g96 e96 => ?_)
              refine te_iconst (p2 := 258) (x := 4) rfl rfl (by decide) ?_
              refine te_iload (p2 := 260) rfl rfl rfl ?_
              refine au_mul (p2 := 261) rfl rfl (fun z97 e97 => ?_)
              refine au_add (p2 := 262) rfl rfl (fun z98 e98 => ?_)
              refine ts_i (p2 := 263) (i := 149) (n := 283) rfl rfl I92 rfl rfl rfl rfl (by decide) (by decide) (i32_lo _) (i32_hi _) (i32_ho _) rfl (fun h99 I99 u99 => ?_)
              have f99 := fr_st (F := F_X12_goesRow) 0 f92 u99 rfl (by decide) (by decide)
              refine te_aload_n (p2 := 264) rfl rfl rfl ?_
              refine te_aload_n (p2 := 265) rfl rfl rfl ?_
              refine tg_r (p2 := 268) (i := 148) (r := 179) rfl rfl I99 rfl rfl rfl ?_
              refine te_iload_n (p2 := 269) rfl rfl rfl ?_
              refine tl_i (p2 := 270) (i := 163) (n := 4) rfl rfl I99 rfl rfl rfl rfl (by omega) (by omega) (fun y100 a100 b100 g100 e100 => ?_)
              refine te_iload (p2 := 272) rfl rfl rfl ?_
              refine te_iconst (p2 := 273) (x := 4) rfl rfl (by decide) ?_
              refine te_iload (p2 := 275) rfl rfl rfl ?_
              refine au_mul (p2 := 276) rfl rfl (fun z101 e101 => ?_)
              refine au_sub (p2 := 277) rfl rfl (fun z102 e102 => ?_)
              refine cV_mV (p2 := 280) (i := 148) rfl rfl rfl rfl I99 rfl rfl rfl (t_X12_comes (c := y100) (n := z102) I99 (by omega) (by omega)) (by decide) (fun h103 I103 g103 => ?_)
              have f103 := fr_tr (F1 := F_X12_comes) (F := F_X12_goesRow) f99 g103 (by decide)
              refine te_iconst (p2 := 281) (x := 0) rfl rfl (by decide) ?_
              refine te_istore (p2 := 283) (lv2 := [(6, .int 0), (5, .int z93), (4, .int v7_2), (3, .int y10), (0, .ref 164), (1, .int r), (2, .int v7_2)]) rfl rfl (by decide) rfl ?_
              have lp104 : ∀ (n104 : Nat) (v104_6 : Int32) (h104 : im_H), tI h104 → fr F_X12_goesRow h h104 → 0 ≤ v104_6.toInt → v104_6.toInt ≤ 8 → 8 - v104_6.toInt < (n104 : Int) → EvP im_K0 5 mX12_goesRow (283, [(0, .ref 164), (1, .int r), (2, .int v7_2), (3, .int y10), (4, .int v7_2), (5, .int z93), (6, .int v104_6)], [], h104) (mV h F_X12_goesRow) := by
                intro n104
                induction n104 with
                | zero => intro v104_6 h104 I104 f104 a104_6 b104_6 m104; exfalso; omega
                | succ n104 ih104 =>
                  intro v104_6 h104 I104 f104 a104_6 b104_6 m104
                  refine te_iload (p2 := 285) rfl rfl rfl ?_
                  refine te_aload_n (p2 := 286) rfl rfl rfl ?_
                  refine tg_r (p2 := 289) (i := 148) (r := 177) rfl rfl I104 rfl rfl rfl ?_
                  refine te_iload_n (p2 := 290) rfl rfl rfl ?_
                  refine tl_i (p2 := 291) (i := 161) (n := 4) rfl rfl I104 rfl rfl rfl rfl (by omega) (by omega) (fun y105 a105 b105 g105 e105 => ?_)
                  refine tb_ge (p2 := 294) rfl rfl rfl rfl (fun c106 => ?_) (fun c106 => ?_)
                  · exact te_vret rfl rfl ⟨I104, f104, rfl⟩
                  · refine te_iload (p2 := 296) rfl rfl rfl ?_
                    refine tz_le (p2 := 299) rfl rfl rfl (fun c107 => ?_) (fun c107 => ?_)
                    · exact te_vret rfl rfl ⟨I104, f104, rfl⟩
                    · refine te_aload_n (p2 := 300) rfl rfl rfl ?_
                      refine tg_r (p2 := 303) (i := 148) (r := 165) rfl rfl I104 rfl rfl rfl ?_
                      refine te_sipush (p2 := 306) (x := 188) rfl rfl (by decide) ?_
                      refine te_aload_n (p2 := 307) rfl rfl rfl ?_
                      refine tg_r (p2 := 310) (i := 148) (r := 176) rfl rfl I104 rfl rfl rfl ?_
                      refine te_bipush (p2 := 312) (x := 8) rfl rfl (by decide) ?_
                      refine te_iload_n (p2 := 313) rfl rfl rfl ?_
                      refine ar_mul (p2 := 314) rfl rfl (show Int32.toInt 8 = 8 from rfl) rfl (by omega) (by omega) (fun z108 e108 f108 => ?_)
                      refine te_iload (p2 := 316) rfl rfl rfl ?_
                      refine ar_add (p2 := 317) rfl rfl rfl rfl (by omega) (by omega) (fun z109 e109 f109 => ?_)
                      refine tl_i (p2 := 318) (i := 160) (n := 32) rfl rfl I104 rfl rfl rfl rfl (by omega) (by omega) (fun y110 a110 b110 g110 e110 => ?_)
                      refine ar_add (p2 := 319) rfl rfl (show Int32.toInt 188 = 188 from rfl) rfl (by omega) (by omega) (fun z111 e111 f111 => ?_)
                      refine te_dup2 (p2 := 320) rfl rfl ⟨rfl, rfl⟩ ?_
                      refine tl_i (p2 := 321) (i := 149) (n := 283) rfl rfl I104 rfl rfl rfl rfl (by omega) (by omega) (fun y112 a112 b112 g112 e112 => ?_)
                      refine te_aload_n (p2 := 322) rfl rfl rfl ?_
                      refine te_aload_n (p2 := 323) rfl rfl rfl ?_
                      refine tg_r (p2 := 326) (i := 148) (r := 176) rfl rfl I104 rfl rfl rfl ?_
                      refine te_bipush (p2 := 328) (x := 8) rfl rfl (by decide) ?_
                      refine te_iload_n (p2 := 329) rfl rfl rfl ?_
                      refine ar_mul (p2 := 330) rfl rfl (show Int32.toInt 8 = 8 from rfl) rfl (by omega) (by omega) (fun z113 e113 f113 => ?_)
                      refine te_iload (p2 := 332) rfl rfl rfl ?_
                      refine ar_add (p2 := 333) rfl rfl rfl rfl (by omega) (by omega) (fun z114 e114 f114 => ?_)
                      refine tl_i (p2 := 334) (i := 160) (n := 32) rfl rfl I104 rfl rfl rfl rfl (by omega) (by omega) (fun y115 a115 b115 g115 e115 => ?_)
                      refine cV_pI (p2 := 337) (i := 148) rfl rfl rfl rfl I104 rfl rfl rfl (t_X12_worksOf (k := y115) I104 (by omega) (by omega)) (by decide) (fun y116 r116 => ?_)
                      refine au_add (p2 := 338) rfl rfl (fun z117 e117 => ?_)
                      refine ts_i (p2 := 339) (i := 149) (n := 283) rfl rfl I104 rfl rfl rfl rfl (by omega) (by omega) (i32_lo _) (i32_hi _) (i32_ho _) rfl (fun h118 I118 u118 => ?_)
                      have f118 := fr_st (F := F_X12_goesRow) 1 f104 u118 rfl (by omega) (by omega)
                      refine ar_inc (p2 := 342) (x := v104_6) rfl rfl (by decide) rfl (by decide) rfl (by omega) (by omega) (fun z119 e119 f119 => ?_)
                      show EvP _ _ _ (342, [(6, .int z119), (0, .ref 164), (1, .int r), (2, .int v7_2), (3, .int y10), (4, .int v7_2), (5, .int z93)], [], h118) _
                      refine te_goto rfl ?_
                      refine te_lv [(0, .ref 164), (1, .int r), (2, .int v7_2), (3, .int y10), (4, .int v7_2), (5, .int z93), (6, .int z119)] rfl rfl ⟨rfl, rfl, rfl, rfl, rfl, rfl, rfl, trivial⟩ ?_
                      exact ih104 z119 h118 I118 f118 (by omega) (by omega) (by omega)
              refine te_lv [(0, .ref 164), (1, .int r), (2, .int v7_2), (3, .int y10), (4, .int v7_2), (5, .int z93), (6, .int 0)] rfl rfl ⟨rfl, rfl, rfl, rfl, rfl, rfl, rfl, trivial⟩ ?_
              exact lp104 9 0 h103 I103 f103 (by decide) (by decide) (by have cc0 := (show Int32.toInt 0 = 0 from rfl); omega)
            · refine te_aload_n (p2 := 178) rfl rfl rfl ?_
              refine tg_r (p2 := 181) (i := 148) (r := 165) rfl rfl I92 rfl rfl rfl ?_
              refine te_bipush (p2 := 183) (x := 100) rfl rfl (by decide) ?_
              refine te_dup2 (p2 := 184) rfl rfl ⟨rfl, rfl⟩ ?_
              refine tl_i (p2 := 185) (i := 149) (n := 283) rfl rfl I92 rfl rfl rfl rfl (by decide) (by decide) (fun y120 a120 b120 g120 e120 => ?_)
              refine te_iload (p2 := 187) rfl rfl rfl ?_
              refine te_aload_n (p2 := 188) rfl rfl rfl ?_
              refine tg_r (p2 := 191) (i := 148) (r := 169) rfl rfl I92 rfl rfl rfl ?_
              refine te_aload_n (p2 := 192) rfl rfl rfl ?_
              refine tg_r (p2 := 195) (i := 148) (r := 168) rfl rfl I92 rfl rfl rfl ?_
              refine te_iload_n (p2 := 196) rfl rfl rfl ?_
              refine tl_e (p2 := 197) (i := 152) (n := 100) (t := 0) (Or.inl rfl) rfl rfl I92 rfl rfl (by omega) (by omega) e94 ?_
              refine tl_i (p2 := 198) (i := 153) (n := 6) rfl rfl I92 rfl rfl rfl rfl (by omega) (by omega) (fun y122 a122 b122 g122 e122 => ?_)
              refine au_mul (p2 := 199) rfl rfl (fun z123 e123 => ?_)
              refine au_add (p2 := 200) rfl rfl (fun z124 e124 => ?_)
              refine ts_i (p2 := 201) (i := 149) (n := 283) rfl rfl I92 rfl rfl rfl rfl (by decide) (by decide) (i32_lo _) (i32_hi _) (i32_ho _) rfl (fun h125 I125 u125 => ?_)
              have f125 := fr_st (F := F_X12_goesRow) 0 f92 u125 rfl (by decide) (by decide)
              refine te_aload_n (p2 := 202) rfl rfl rfl ?_
              refine tg_r (p2 := 205) (i := 148) (r := 165) rfl rfl I125 rfl rfl rfl ?_
              refine te_bipush (p2 := 207) (x := 101) rfl rfl (by decide) ?_
              refine te_dup2 (p2 := 208) rfl rfl ⟨rfl, rfl⟩ ?_
              refine tl_i (p2 := 209) (i := 149) (n := 283) rfl rfl I125 rfl rfl rfl rfl (by decide) (by decide) (fun y126 a126 b126 g126 e126 => ?_)
              refine te_iload (p2 := 211) rfl rfl rfl ?_
              refine te_aload_n (p2 := 212) rfl rfl rfl ?_
              refine tg_r (p2 := 215) (i := 148) (r := 170) rfl rfl I125 rfl rfl rfl ?_
              refine te_aload_n (p2 := 216) rfl rfl rfl ?_
              refine tg_r (p2 := 219) (i := 148) (r := 168) rfl rfl I125 rfl rfl rfl ?_
              refine te_iload_n (p2 := 220) rfl rfl rfl ?_
              refine tl_e (p2 := 221) (i := 152) (n := 100) (t := 0) (Or.inl rfl) rfl rfl I125 rfl rfl (by omega) (by omega) ((u125.2 _ _ (Or.inl (by decide))).trans e94) ?_
              refine tl_i (p2 := 222) (i := 154) (n := 6) rfl rfl I125 rfl rfl rfl rfl (by omega) (by omega) (fun y128 a128 b128 g128 e128 => ?_)
              refine au_mul (p2 := 223) rfl rfl (fun z129 e129 => ?_)
              refine au_add (p2 := 224) rfl rfl (fun z130 e130 => ?_)
              refine ts_i (p2 := 225) (i := 149) (n := 283) rfl rfl I125 rfl rfl rfl rfl (by decide) (by decide) (i32_lo _) (i32_hi _) (i32_ho _) rfl (fun h131 I131 u131 => ?_)
              have f131 := fr_st (F := F_X12_goesRow) 0 f125 u131 rfl (by decide) (by decide)
              refine te_aload_n (p2 := 226) rfl rfl rfl ?_
              refine tg_r (p2 := 229) (i := 148) (r := 165) rfl rfl I131 rfl rfl rfl ?_
              refine te_bipush (p2 := 231) (x := 102) rfl rfl (by decide) ?_
              refine te_dup2 (p2 := 232) rfl rfl ⟨rfl, rfl⟩ ?_
              refine tl_i (p2 := 233) (i := 149) (n := 283) rfl rfl I131 rfl rfl rfl rfl (by decide) (by decide) (fun y132 a132 b132 g132 e132 => ?_)
              refine te_iload (p2 := 235) rfl rfl rfl ?_
              refine te_aload_n (p2 := 236) rfl rfl rfl ?_
              refine tg_r (p2 := 239) (i := 148) (r := 171) rfl rfl I131 rfl rfl rfl ?_
              refine te_aload_n (p2 := 240) rfl rfl rfl ?_
              refine tg_r (p2 := 243) (i := 148) (r := 168) rfl rfl I131 rfl rfl rfl ?_
              refine te_iload_n (p2 := 244) rfl rfl rfl ?_
              refine tl_e (p2 := 245) (i := 152) (n := 100) (t := 0) (Or.inl rfl) rfl rfl I131 rfl rfl (by omega) (by omega) ((u131.2 _ _ (Or.inl (by decide))).trans ((u125.2 _ _ (Or.inl (by decide))).trans e94)) ?_
              refine tl_i (p2 := 246) (i := 155) (n := 6) rfl rfl I131 rfl rfl rfl rfl (by omega) (by omega) (fun y134 a134 b134 g134 e134 => ?_)
              refine au_mul (p2 := 247) rfl rfl (fun z135 e135 => ?_)
              refine au_add (p2 := 248) rfl rfl (fun z136 e136 => ?_)
              refine ts_i (p2 := 249) (i := 149) (n := 283) rfl rfl I131 rfl rfl rfl rfl (by decide) (by decide) (i32_lo _) (i32_hi _) (i32_ho _) rfl (fun h137 I137 u137 => ?_)
              have f137 := fr_st (F := F_X12_goesRow) 0 f131 u137 rfl (by decide) (by decide)
              refine te_aload_n (p2 := 250) rfl rfl rfl ?_
              refine tg_r (p2 := 253) (i := 148) (r := 165) rfl rfl I137 rfl rfl rfl ?_
              refine te_bipush (p2 := 255) (x := 103) rfl rfl (by decide) ?_
              refine te_dup2 (p2 := 256) rfl rfl ⟨rfl, rfl⟩ ?_
              refine tl_i (p2 := 257) (i := 149) (n := 283) rfl rfl I137 rfl rfl rfl rfl (by decide) (by decide) (fun y138 a138 b138 g138 e138 => ?_)
              refine te_iconst (p2 := 258) (x := 4) rfl rfl (by decide) ?_
              refine te_iload (p2 := 260) rfl rfl rfl ?_
              refine au_mul (p2 := 261) rfl rfl (fun z139 e139 => ?_)
              refine au_add (p2 := 262) rfl rfl (fun z140 e140 => ?_)
              refine ts_i (p2 := 263) (i := 149) (n := 283) rfl rfl I137 rfl rfl rfl rfl (by decide) (by decide) (i32_lo _) (i32_hi _) (i32_ho _) rfl (fun h141 I141 u141 => ?_)
              have f141 := fr_st (F := F_X12_goesRow) 0 f137 u141 rfl (by decide) (by decide)
              refine te_aload_n (p2 := 264) rfl rfl rfl ?_
              refine te_aload_n (p2 := 265) rfl rfl rfl ?_
              refine tg_r (p2 := 268) (i := 148) (r := 179) rfl rfl I141 rfl rfl rfl ?_
              refine te_iload_n (p2 := 269) rfl rfl rfl ?_
              refine tl_i (p2 := 270) (i := 163) (n := 4) rfl rfl I141 rfl rfl rfl rfl (by omega) (by omega) (fun y142 a142 b142 g142 e142 => ?_)
              refine te_iload (p2 := 272) rfl rfl rfl ?_
              refine te_iconst (p2 := 273) (x := 4) rfl rfl (by decide) ?_
              refine te_iload (p2 := 275) rfl rfl rfl ?_
              refine au_mul (p2 := 276) rfl rfl (fun z143 e143 => ?_)
              refine au_sub (p2 := 277) rfl rfl (fun z144 e144 => ?_)
              refine cV_mV (p2 := 280) (i := 148) rfl rfl rfl rfl I141 rfl rfl rfl (t_X12_comes (c := y142) (n := z144) I141 (by omega) (by omega)) (by decide) (fun h145 I145 g145 => ?_)
              have f145 := fr_tr (F1 := F_X12_comes) (F := F_X12_goesRow) f141 g145 (by decide)
              refine te_iconst (p2 := 281) (x := 0) rfl rfl (by decide) ?_
              refine te_istore (p2 := 283) (lv2 := [(6, .int 0), (5, .int z93), (4, .int v7_2), (3, .int y10), (0, .ref 164), (1, .int r), (2, .int v7_2)]) rfl rfl (by decide) rfl ?_
              have lp146 : ∀ (n146 : Nat) (v146_6 : Int32) (h146 : im_H), tI h146 → fr F_X12_goesRow h h146 → 0 ≤ v146_6.toInt → v146_6.toInt ≤ 8 → 8 - v146_6.toInt < (n146 : Int) → EvP im_K0 5 mX12_goesRow (283, [(0, .ref 164), (1, .int r), (2, .int v7_2), (3, .int y10), (4, .int v7_2), (5, .int z93), (6, .int v146_6)], [], h146) (mV h F_X12_goesRow) := by
                intro n146
                induction n146 with
                | zero => intro v146_6 h146 I146 f146 a146_6 b146_6 m146; exfalso; omega
                | succ n146 ih146 =>
                  intro v146_6 h146 I146 f146 a146_6 b146_6 m146
                  refine te_iload (p2 := 285) rfl rfl rfl ?_
                  refine te_aload_n (p2 := 286) rfl rfl rfl ?_
                  refine tg_r (p2 := 289) (i := 148) (r := 177) rfl rfl I146 rfl rfl rfl ?_
                  refine te_iload_n (p2 := 290) rfl rfl rfl ?_
                  refine tl_i (p2 := 291) (i := 161) (n := 4) rfl rfl I146 rfl rfl rfl rfl (by omega) (by omega) (fun y147 a147 b147 g147 e147 => ?_)
                  refine tb_ge (p2 := 294) rfl rfl rfl rfl (fun c148 => ?_) (fun c148 => ?_)
                  · exact te_vret rfl rfl ⟨I146, f146, rfl⟩
                  · refine te_iload (p2 := 296) rfl rfl rfl ?_
                    refine tz_le (p2 := 299) rfl rfl rfl (fun c149 => ?_) (fun c149 => ?_)
                    · exact te_vret rfl rfl ⟨I146, f146, rfl⟩
                    · refine te_aload_n (p2 := 300) rfl rfl rfl ?_
                      refine tg_r (p2 := 303) (i := 148) (r := 165) rfl rfl I146 rfl rfl rfl ?_
                      refine te_sipush (p2 := 306) (x := 188) rfl rfl (by decide) ?_
                      refine te_aload_n (p2 := 307) rfl rfl rfl ?_
                      refine tg_r (p2 := 310) (i := 148) (r := 176) rfl rfl I146 rfl rfl rfl ?_
                      refine te_bipush (p2 := 312) (x := 8) rfl rfl (by decide) ?_
                      refine te_iload_n (p2 := 313) rfl rfl rfl ?_
                      refine ar_mul (p2 := 314) rfl rfl (show Int32.toInt 8 = 8 from rfl) rfl (by omega) (by omega) (fun z150 e150 f150 => ?_)
                      refine te_iload (p2 := 316) rfl rfl rfl ?_
                      refine ar_add (p2 := 317) rfl rfl rfl rfl (by omega) (by omega) (fun z151 e151 f151 => ?_)
                      refine tl_i (p2 := 318) (i := 160) (n := 32) rfl rfl I146 rfl rfl rfl rfl (by omega) (by omega) (fun y152 a152 b152 g152 e152 => ?_)
                      refine ar_add (p2 := 319) rfl rfl (show Int32.toInt 188 = 188 from rfl) rfl (by omega) (by omega) (fun z153 e153 f153 => ?_)
                      refine te_dup2 (p2 := 320) rfl rfl ⟨rfl, rfl⟩ ?_
                      refine tl_i (p2 := 321) (i := 149) (n := 283) rfl rfl I146 rfl rfl rfl rfl (by omega) (by omega) (fun y154 a154 b154 g154 e154 => ?_)
                      refine te_aload_n (p2 := 322) rfl rfl rfl ?_
                      refine te_aload_n (p2 := 323) rfl rfl rfl ?_
                      refine tg_r (p2 := 326) (i := 148) (r := 176) rfl rfl I146 rfl rfl rfl ?_
                      refine te_bipush (p2 := 328) (x := 8) rfl rfl (by decide) ?_
                      refine te_iload_n (p2 := 329) rfl rfl rfl ?_
                      refine ar_mul (p2 := 330) rfl rfl (show Int32.toInt 8 = 8 from rfl) rfl (by omega) (by omega) (fun z155 e155 f155 => ?_)
                      refine te_iload (p2 := 332) rfl rfl rfl ?_
                      refine ar_add (p2 := 333) rfl rfl rfl rfl (by omega) (by omega) (fun z156 e156 f156 => ?_)
                      refine tl_i (p2 := 334) (i := 160) (n := 32) rfl rfl I146 rfl rfl rfl rfl (by omega) (by omega) (fun y157 a157 b157 g157 e157 => ?_)
                      refine cV_pI (p2 := 337) (i := 148) rfl rfl rfl rfl I146 rfl rfl rfl (t_X12_worksOf (k := y157) I146 (by omega) (by omega)) (by decide) (fun y158 r158 => ?_)
                      refine au_add (p2 := 338) rfl rfl (fun z159 e159 => ?_)
                      refine ts_i (p2 := 339) (i := 149) (n := 283) rfl rfl I146 rfl rfl rfl rfl (by omega) (by omega) (i32_lo _) (i32_hi _) (i32_ho _) rfl (fun h160 I160 u160 => ?_)
                      have f160 := fr_st (F := F_X12_goesRow) 1 f146 u160 rfl (by omega) (by omega)
                      refine ar_inc (p2 := 342) (x := v146_6) rfl rfl (by decide) rfl (by decide) rfl (by omega) (by omega) (fun z161 e161 f161 => ?_)
                      show EvP _ _ _ (342, [(6, .int z161), (0, .ref 164), (1, .int r), (2, .int v7_2), (3, .int y10), (4, .int v7_2), (5, .int z93)], [], h160) _
                      refine te_goto rfl ?_
                      refine te_lv [(0, .ref 164), (1, .int r), (2, .int v7_2), (3, .int y10), (4, .int v7_2), (5, .int z93), (6, .int z161)] rfl rfl ⟨rfl, rfl, rfl, rfl, rfl, rfl, rfl, trivial⟩ ?_
                      exact ih146 z161 h160 I160 f160 (by omega) (by omega) (by omega)
              refine te_lv [(0, .ref 164), (1, .int r), (2, .int v7_2), (3, .int y10), (4, .int v7_2), (5, .int z93), (6, .int 0)] rfl rfl ⟨rfl, rfl, rfl, rfl, rfl, rfl, rfl, trivial⟩ ?_
              exact lp146 9 0 h145 I145 f145 (by decide) (by decide) (by have cc0 := (show Int32.toInt 0 = 0 from rfl); omega)
        · refine te_aload_n (p2 := 47) rfl rfl rfl ?_
          refine tg_r (p2 := 50) (i := 148) (r := 176) rfl rfl I7 rfl rfl rfl ?_
          refine te_bipush (p2 := 52) (x := 8) rfl rfl (by decide) ?_
          refine te_iload_n (p2 := 53) rfl rfl rfl ?_
          refine ar_mul (p2 := 54) rfl rfl (show Int32.toInt 8 = 8 from rfl) rfl (by omega) (by omega) (fun z162 e162 f162 => ?_)
          refine te_iload_n (p2 := 55) rfl rfl rfl ?_
          refine ar_add (p2 := 56) rfl rfl rfl rfl (by omega) (by omega) (fun z163 e163 f163 => ?_)
          refine tl_i (p2 := 57) (i := 160) (n := 32) rfl rfl I7 rfl rfl rfl rfl (by omega) (by omega) (fun y164 a164 b164 g164 e164 => ?_)
          refine te_istore (p2 := 59) (lv2 := [(4, .int y164), (0, .ref 164), (1, .int r), (2, .int v7_2), (3, .int v7_3)]) rfl rfl (by decide) rfl ?_
          refine te_aload_n (p2 := 60) rfl rfl rfl ?_
          refine te_iload (p2 := 62) rfl rfl rfl ?_
          refine cV_pI (p2 := 65) (i := 148) rfl rfl rfl rfl I7 rfl rfl rfl (t_X12_passes (k := y164) I7 (by omega) (by omega)) (by decide) (fun y165 r165 => ?_)
          refine te_istore (p2 := 67) (lv2 := [(5, .int y165), (4, .int y164), (0, .ref 164), (1, .int r), (2, .int v7_2), (3, .int v7_3)]) rfl rfl (by decide) rfl ?_
          refine te_aload_n (p2 := 68) rfl rfl rfl ?_
          refine tg_r (p2 := 71) (i := 148) (r := 165) rfl rfl I7 rfl rfl rfl ?_
          refine te_sipush (p2 := 74) (x := 276) rfl rfl (by decide) ?_
          refine te_iload_n (p2 := 75) rfl rfl rfl ?_
          refine ar_add (p2 := 76) rfl rfl (show Int32.toInt 276 = 276 from rfl) rfl (by omega) (by omega) (fun z166 e166 f166 => ?_)
          refine tl_i (p2 := 77) (i := 149) (n := 283) rfl rfl I7 rfl rfl rfl rfl (by omega) (by omega) (fun y167 a167 b167 g167 e167 => ?_)
          refine te_iconst (p2 := 78) (x := (-1)) rfl rfl (by decide) ?_
          refine tb_eq (p2 := 81) rfl rfl rfl (show Int32.toInt (-1) = (-1) from rfl) (fun c168 => ?_) (fun c168 => ?_)
          · refine te_aload_n (p2 := 88) rfl rfl rfl ?_
            refine tg_r (p2 := 91) (i := 148) (r := 165) rfl rfl I7 rfl rfl rfl ?_
            refine te_sipush (p2 := 94) (x := 276) rfl rfl (by decide) ?_
            refine te_iload_n (p2 := 95) rfl rfl rfl ?_
            refine ar_add (p2 := 96) rfl rfl (show Int32.toInt 276 = 276 from rfl) rfl (by omega) (by omega) (fun z169 e169 f169 => ?_)
            refine te_iload (p2 := 98) rfl rfl rfl ?_
            refine ts_i (p2 := 99) (i := 149) (n := 283) rfl rfl I7 rfl rfl rfl rfl (by omega) (by omega) (i32_lo _) (i32_hi _) (i32_ho _) rfl (fun h170 I170 u170 => ?_)
            have f170 := fr_st (F := F_X12_goesRow) 2 f7 u170 rfl (by omega) (by omega)
            refine te_iload (p2 := 101) rfl rfl rfl ?_
            refine te_istore_n (p2 := 102) (lv2 := [(2, .int y165), (5, .int y165), (4, .int y164), (0, .ref 164), (1, .int r), (3, .int v7_3)]) rfl rfl (by decide) rfl ?_
            refine ar_inc (p2 := 105) (x := v7_3) rfl rfl (by decide) rfl (by decide) rfl (by omega) (by omega) (fun z171 e171 f171 => ?_)
            show EvP _ _ _ (105, [(3, .int z171), (2, .int y165), (5, .int y165), (4, .int y164), (0, .ref 164), (1, .int r)], [], h170) _
            refine te_goto rfl ?_
            refine te_lv [(0, .ref 164), (1, .int r), (2, .int y165), (3, .int z171)] rfl rfl ⟨rfl, rfl, rfl, rfl, trivial⟩ ?_
            exact ih7 y165 z171 h170 I170 f170 (by omega) (by omega) (by omega)
          · refine te_iload (p2 := 83) rfl rfl rfl ?_
            refine te_iload_n (p2 := 84) rfl rfl rfl ?_
            refine tb_ge (p2 := 87) rfl rfl rfl rfl (fun c172 => ?_) (fun c172 => ?_)
            · refine ar_inc (p2 := 105) (x := v7_3) rfl rfl (by decide) rfl (by decide) rfl (by omega) (by omega) (fun z173 e173 f173 => ?_)
              show EvP _ _ _ (105, [(3, .int z173), (5, .int y165), (4, .int y164), (0, .ref 164), (1, .int r), (2, .int v7_2)], [], h7) _
              refine te_goto rfl ?_
              refine te_lv [(0, .ref 164), (1, .int r), (2, .int v7_2), (3, .int z173)] rfl rfl ⟨rfl, rfl, rfl, rfl, trivial⟩ ?_
              exact ih7 v7_2 z173 h7 I7 f7 (by omega) (by omega) (by omega)
            · refine te_aload_n (p2 := 88) rfl rfl rfl ?_
              refine tg_r (p2 := 91) (i := 148) (r := 165) rfl rfl I7 rfl rfl rfl ?_
              refine te_sipush (p2 := 94) (x := 276) rfl rfl (by decide) ?_
              refine te_iload_n (p2 := 95) rfl rfl rfl ?_
              refine ar_add (p2 := 96) rfl rfl (show Int32.toInt 276 = 276 from rfl) rfl (by omega) (by omega) (fun z174 e174 f174 => ?_)
              refine te_iload (p2 := 98) rfl rfl rfl ?_
              refine ts_i (p2 := 99) (i := 149) (n := 283) rfl rfl I7 rfl rfl rfl rfl (by omega) (by omega) (i32_lo _) (i32_hi _) (i32_ho _) rfl (fun h175 I175 u175 => ?_)
              have f175 := fr_st (F := F_X12_goesRow) 2 f7 u175 rfl (by omega) (by omega)
              refine te_iload (p2 := 101) rfl rfl rfl ?_
              refine te_istore_n (p2 := 102) (lv2 := [(2, .int y165), (5, .int y165), (4, .int y164), (0, .ref 164), (1, .int r), (3, .int v7_3)]) rfl rfl (by decide) rfl ?_
              refine ar_inc (p2 := 105) (x := v7_3) rfl rfl (by decide) rfl (by decide) rfl (by omega) (by omega) (fun z176 e176 f176 => ?_)
              show EvP _ _ _ (105, [(3, .int z176), (2, .int y165), (5, .int y165), (4, .int y164), (0, .ref 164), (1, .int r)], [], h175) _
              refine te_goto rfl ?_
              refine te_lv [(0, .ref 164), (1, .int r), (2, .int y165), (3, .int z176)] rfl rfl ⟨rfl, rfl, rfl, rfl, trivial⟩ ?_
              exact ih7 y165 z176 h175 I175 f175 (by omega) (by omega) (by omega)
    refine te_lv [(0, .ref 164), (1, .int r), (2, .int 0), (3, .int 0)] rfl rfl ⟨rfl, rfl, rfl, rfl, trivial⟩ ?_
    exact lp7 9 0 0 h4 I4 f4 (by decide) (by decide) (by have cc0 := (show Int32.toInt 0 = 0 from rfl); omega)
  · exact te_vret rfl rfl ⟨I4, f4, rfl⟩
abbrev F_X12_goesRail : List (Nat × Nat × Nat) := [(149, 0, 99), (149, 104, 104), (149, 280, 282)]
set_option maxRecDepth 20000 in
set_option maxHeartbeats 4000000 in
theorem t_X12_goesRail {r : Int32} {h : im_H} (hI : tI h) (p_r0 : 0 ≤ r.toInt) (p_r1 : r.toInt ≤ 2) : CaP 2 150 [.ref 164, .int r] h (mV h F_X12_goesRail) := by
  refine cap_of (d := 1) (M := mX12_goesRail) rfl (Nat.le_of_ble_eq_true rfl) ?_
  show EvP im_K0 1 mX12_goesRail (0, [(0, .ref 164), (1, .int r)], [], h) _
  have f0 : fr F_X12_goesRail h h := fr_rf
  refine te_aload_n (p2 := 1) rfl rfl rfl ?_
  refine tg_r (p2 := 4) (i := 148) (r := 165) rfl rfl hI rfl rfl rfl ?_
  refine te_sipush (p2 := 7) (x := 280) rfl rfl (by decide) ?_
  refine te_iload_n (p2 := 8) rfl rfl rfl ?_
  refine ar_add (p2 := 9) rfl rfl (show Int32.toInt 280 = 280 from rfl) rfl (by omega) (by omega) (fun z1 e1 f1 => ?_)
  refine te_iconst (p2 := 10) (x := 0) rfl rfl (by decide) ?_
  refine ts_i (p2 := 11) (i := 149) (n := 283) rfl rfl hI rfl rfl rfl rfl (by omega) (by omega) (i32_lo _) (i32_hi _) (i32_ho _) rfl (fun h2 I2 u2 => ?_)
  have f2 := fr_st (F := F_X12_goesRail) 2 f0 u2 rfl (by omega) (by omega)
  refine te_aload_n (p2 := 12) rfl rfl rfl ?_
  refine tg_r (p2 := 15) (i := 148) (r := 181) rfl rfl I2 rfl rfl rfl ?_
  refine te_iload_n (p2 := 16) rfl rfl rfl ?_
  refine tl_i (p2 := 17) (i := 165) (n := 3) rfl rfl I2 rfl rfl rfl rfl (by omega) (by omega) (fun y3 a3 b3 g3 e3 => ?_)
  refine tz_ne (p2 := 20) rfl rfl rfl (fun c4 => ?_) (fun c4 => ?_)
  · refine te_aload_n (p2 := 22) rfl rfl rfl ?_
    refine tg_r (p2 := 25) (i := 148) (r := 180) rfl rfl I2 rfl rfl rfl ?_
    refine te_bipush (p2 := 27) (x := 12) rfl rfl (by decide) ?_
    refine te_iload_n (p2 := 28) rfl rfl rfl ?_
    refine ar_mul (p2 := 29) rfl rfl (show Int32.toInt 12 = 12 from rfl) rfl (by omega) (by omega) (fun z5 e5 f5 => ?_)
    refine tl_i (p2 := 30) (i := 164) (n := 36) rfl rfl I2 rfl rfl rfl rfl (by omega) (by omega) (fun y6 a6 b6 g6 e6 => ?_)
    refine te_istore_n (p2 := 31) (lv2 := [(2, .int y6), (0, .ref 164), (1, .int r)]) rfl rfl (by decide) rfl ?_
    refine te_bipush (p2 := 33) (x := 60) rfl rfl (by decide) ?_
    refine te_aload_n (p2 := 34) rfl rfl rfl ?_
    refine tg_r (p2 := 37) (i := 148) (r := 182) rfl rfl I2 rfl rfl rfl ?_
    refine te_iload_n (p2 := 38) rfl rfl rfl ?_
    refine tl_i (p2 := 39) (i := 166) (n := 3) rfl rfl I2 rfl rfl rfl rfl (by omega) (by omega) (fun y7 a7 b7 g7 e7 => ?_)
    refine au_mul (p2 := 40) rfl rfl (fun z8 e8 => ?_)
    refine te_aload_n (p2 := 41) rfl rfl rfl ?_
    refine tg_r (p2 := 44) (i := 148) (r := 181) rfl rfl I2 rfl rfl rfl ?_
    refine te_iload_n (p2 := 45) rfl rfl rfl ?_
    refine tl_e (p2 := 46) (i := 165) (n := 3) (t := 0) (Or.inl rfl) rfl rfl I2 rfl rfl (by omega) (by omega) e3 ?_
    refine te_iconst (p2 := 47) (x := 1) rfl rfl (by decide) ?_
    refine ar_sub (p2 := 48) rfl rfl rfl (show Int32.toInt 1 = 1 from rfl) (by omega) (by omega) (fun z10 e10 f10 => ?_)
    refine au_div (p2 := 49) rfl rfl rfl (by omega) (fun z11 e11 => ?_)
    refine te_istore_n (p2 := 50) (lv2 := [(3, .int z11), (2, .int y6), (0, .ref 164), (1, .int r)]) rfl rfl (by decide) rfl ?_
    refine te_iload_n (p2 := 51) rfl rfl rfl ?_
    refine te_aload_n (p2 := 52) rfl rfl rfl ?_
    refine tg_r (p2 := 55) (i := 148) (r := 165) rfl rfl I2 rfl rfl rfl ?_
    refine te_iload_n (p2 := 56) rfl rfl rfl ?_
    refine tl_i (p2 := 57) (i := 149) (n := 283) rfl rfl I2 rfl rfl rfl rfl (by omega) (by omega) (fun y12 a12 b12 g12 e12 => ?_)
    refine tb_ge (p2 := 60) rfl rfl rfl rfl (fun c13 => ?_) (fun c13 => ?_)
    · refine te_aload_n (p2 := 65) rfl rfl rfl ?_
      refine tg_r (p2 := 68) (i := 148) (r := 165) rfl rfl I2 rfl rfl rfl ?_
      refine te_iload_n (p2 := 69) rfl rfl rfl ?_
      refine tl_e (p2 := 70) (i := 149) (n := 283) (t := 0) (Or.inl rfl) rfl rfl I2 rfl rfl (by omega) (by omega) e12 ?_
      refine te_istore (p2 := 72) (lv2 := [(4, .int y12), (3, .int z11), (2, .int y6), (0, .ref 164), (1, .int r)]) rfl rfl (by decide) rfl ?_
      refine te_aload_n (p2 := 73) rfl rfl rfl ?_
      refine tg_r (p2 := 76) (i := 148) (r := 165) rfl rfl I2 rfl rfl rfl ?_
      refine te_sipush (p2 := 79) (x := 280) rfl rfl (by decide) ?_
      refine te_iload_n (p2 := 80) rfl rfl rfl ?_
      refine ar_add (p2 := 81) rfl rfl (show Int32.toInt 280 = 280 from rfl) rfl (by omega) (by omega) (fun z15 e15 f15 => ?_)
      refine te_iload (p2 := 83) rfl rfl rfl ?_
      refine ts_i (p2 := 84) (i := 149) (n := 283) rfl rfl I2 rfl rfl rfl rfl (by omega) (by omega) (i32_lo _) (i32_hi _) (i32_ho _) rfl (fun h16 I16 u16 => ?_)
      have f16 := fr_st (F := F_X12_goesRail) 2 f2 u16 rfl (by omega) (by omega)
      refine te_aload_n (p2 := 85) rfl rfl rfl ?_
      refine tg_r (p2 := 88) (i := 148) (r := 165) rfl rfl I16 rfl rfl rfl ?_
      refine te_iload_n (p2 := 89) rfl rfl rfl ?_
      refine te_dup2 (p2 := 90) rfl rfl ⟨rfl, rfl⟩ ?_
      refine tl_i (p2 := 91) (i := 149) (n := 283) rfl rfl I16 rfl rfl rfl rfl (by omega) (by omega) (fun y17 a17 b17 g17 e17 => ?_)
      refine te_iload (p2 := 93) rfl rfl rfl ?_
      refine au_sub (p2 := 94) rfl rfl (fun z18 e18 => ?_)
      refine ts_i (p2 := 95) (i := 149) (n := 283) rfl rfl I16 rfl rfl rfl rfl (by omega) (by omega) (i32_lo _) (i32_hi _) (i32_ho _) rfl (fun h19 I19 u19 => ?_)
      have f19 := fr_st (F := F_X12_goesRail) 0 f16 u19 rfl (by omega) (by omega)
      refine te_aload_n (p2 := 96) rfl rfl rfl ?_
      refine te_aload_n (p2 := 97) rfl rfl rfl ?_
      refine tg_r (p2 := 100) (i := 148) (r := 180) rfl rfl I19 rfl rfl rfl ?_
      refine te_bipush (p2 := 102) (x := 12) rfl rfl (by decide) ?_
      refine te_iload_n (p2 := 103) rfl rfl rfl ?_
      refine ar_mul (p2 := 104) rfl rfl (show Int32.toInt 12 = 12 from rfl) rfl (by omega) (by omega) (fun z20 e20 f20 => ?_)
      refine te_aload_n (p2 := 105) rfl rfl rfl ?_
      refine tg_r (p2 := 108) (i := 148) (r := 181) rfl rfl I19 rfl rfl rfl ?_
      refine te_iload_n (p2 := 109) rfl rfl rfl ?_
      refine tl_e (p2 := 110) (i := 165) (n := 3) (t := 0) (Or.inl rfl) rfl rfl I19 rfl rfl (by omega) (by omega) ((u19.2 _ _ (Or.inl (by decide))).trans ((u16.2 _ _ (Or.inl (by decide))).trans e3)) ?_
      refine ar_add (p2 := 111) rfl rfl rfl rfl (by omega) (by omega) (fun z22 e22 f22 => ?_)
      refine te_iconst (p2 := 112) (x := 1) rfl rfl (by decide) ?_
      refine ar_sub (p2 := 113) rfl rfl rfl (show Int32.toInt 1 = 1 from rfl) (by omega) (by omega) (fun z23 e23 f23 => ?_)
      refine tl_i (p2 := 114) (i := 164) (n := 36) rfl rfl I19 rfl rfl rfl rfl (by omega) (by omega) (fun y24 a24 b24 g24 e24 => ?_)
      refine te_iload (p2 := 116) rfl rfl rfl ?_
      refine cV_mV (p2 := 119) (i := 148) rfl rfl rfl rfl I19 rfl rfl rfl (t_X12_comes (c := y24) (n := y12) I19 (by omega) (by omega)) (by decide) (fun h25 I25 g25 => ?_)
      have f25 := fr_tr (F1 := F_X12_comes) (F := F_X12_goesRail) f19 g25 (by decide)
      exact te_vret rfl rfl ⟨I25, f25, rfl⟩
    · refine te_iload_n (p2 := 61) rfl rfl rfl ?_
      refine te_goto rfl ?_
      refine te_istore (p2 := 72) (lv2 := [(4, .int z11), (3, .int z11), (2, .int y6), (0, .ref 164), (1, .int r)]) rfl rfl (by decide) rfl ?_
      refine te_aload_n (p2 := 73) rfl rfl rfl ?_
      refine tg_r (p2 := 76) (i := 148) (r := 165) rfl rfl I2 rfl rfl rfl ?_
      refine te_sipush (p2 := 79) (x := 280) rfl rfl (by decide) ?_
      refine te_iload_n (p2 := 80) rfl rfl rfl ?_
      refine ar_add (p2 := 81) rfl rfl (show Int32.toInt 280 = 280 from rfl) rfl (by omega) (by omega) (fun z26 e26 f26 => ?_)
      refine te_iload (p2 := 83) rfl rfl rfl ?_
      refine ts_i (p2 := 84) (i := 149) (n := 283) rfl rfl I2 rfl rfl rfl rfl (by omega) (by omega) (i32_lo _) (i32_hi _) (i32_ho _) rfl (fun h27 I27 u27 => ?_)
      have f27 := fr_st (F := F_X12_goesRail) 2 f2 u27 rfl (by omega) (by omega)
      refine te_aload_n (p2 := 85) rfl rfl rfl ?_
      refine tg_r (p2 := 88) (i := 148) (r := 165) rfl rfl I27 rfl rfl rfl ?_
      refine te_iload_n (p2 := 89) rfl rfl rfl ?_
      refine te_dup2 (p2 := 90) rfl rfl ⟨rfl, rfl⟩ ?_
      refine tl_i (p2 := 91) (i := 149) (n := 283) rfl rfl I27 rfl rfl rfl rfl (by omega) (by omega) (fun y28 a28 b28 g28 e28 => ?_)
      refine te_iload (p2 := 93) rfl rfl rfl ?_
      refine au_sub (p2 := 94) rfl rfl (fun z29 e29 => ?_)
      refine ts_i (p2 := 95) (i := 149) (n := 283) rfl rfl I27 rfl rfl rfl rfl (by omega) (by omega) (i32_lo _) (i32_hi _) (i32_ho _) rfl (fun h30 I30 u30 => ?_)
      have f30 := fr_st (F := F_X12_goesRail) 0 f27 u30 rfl (by omega) (by omega)
      refine te_aload_n (p2 := 96) rfl rfl rfl ?_
      refine te_aload_n (p2 := 97) rfl rfl rfl ?_
      refine tg_r (p2 := 100) (i := 148) (r := 180) rfl rfl I30 rfl rfl rfl ?_
      refine te_bipush (p2 := 102) (x := 12) rfl rfl (by decide) ?_
      refine te_iload_n (p2 := 103) rfl rfl rfl ?_
      refine ar_mul (p2 := 104) rfl rfl (show Int32.toInt 12 = 12 from rfl) rfl (by omega) (by omega) (fun z31 e31 f31 => ?_)
      refine te_aload_n (p2 := 105) rfl rfl rfl ?_
      refine tg_r (p2 := 108) (i := 148) (r := 181) rfl rfl I30 rfl rfl rfl ?_
      refine te_iload_n (p2 := 109) rfl rfl rfl ?_
      refine tl_e (p2 := 110) (i := 165) (n := 3) (t := 0) (Or.inl rfl) rfl rfl I30 rfl rfl (by omega) (by omega) ((u30.2 _ _ (Or.inl (by decide))).trans ((u27.2 _ _ (Or.inl (by decide))).trans e3)) ?_
      refine ar_add (p2 := 111) rfl rfl rfl rfl (by omega) (by omega) (fun z33 e33 f33 => ?_)
      refine te_iconst (p2 := 112) (x := 1) rfl rfl (by decide) ?_
      refine ar_sub (p2 := 113) rfl rfl rfl (show Int32.toInt 1 = 1 from rfl) (by omega) (by omega) (fun z34 e34 f34 => ?_)
      refine tl_i (p2 := 114) (i := 164) (n := 36) rfl rfl I30 rfl rfl rfl rfl (by omega) (by omega) (fun y35 a35 b35 g35 e35 => ?_)
      refine te_iload (p2 := 116) rfl rfl rfl ?_
      refine cV_mV (p2 := 119) (i := 148) rfl rfl rfl rfl I30 rfl rfl rfl (t_X12_comes (c := y35) (n := z11) I30 (by omega) (by omega)) (by decide) (fun h36 I36 g36 => ?_)
      have f36 := fr_tr (F1 := F_X12_comes) (F := F_X12_goesRail) f30 g36 (by decide)
      exact te_vret rfl rfl ⟨I36, f36, rfl⟩
  · exact te_vret rfl rfl ⟨I2, f2, rfl⟩
set_option maxRecDepth 20000 in
set_option maxHeartbeats 4000000 in
theorem t_X12_isAt {k : Int32} {h : im_H} (hI : tI h) (p_k0 : 0 ≤ k.toInt) (p_k1 : k.toInt ≤ 23) : CaP 6 151 [.ref 164, .int k] h (pI h (fun _ => True)) := by
  refine cap_of (d := 5) (M := mX12_isAt) rfl (Nat.le_of_ble_eq_true rfl) ?_
  show EvP im_K0 5 mX12_isAt (0, [(0, .ref 164), (1, .int k)], [], h) _
  refine te_iconst (p2 := 1) (x := 0) rfl rfl (by decide) ?_
  refine te_istore_n (p2 := 2) (lv2 := [(2, .int 0), (0, .ref 164), (1, .int k)]) rfl rfl (by decide) rfl ?_
  have lp1 : ∀ (n1 : Nat) (v1_2 : Int32) , 0 ≤ v1_2.toInt → v1_2.toInt ≤ 4 → 4 - v1_2.toInt < (n1 : Int) → EvP im_K0 5 mX12_isAt (2, [(0, .ref 164), (1, .int k), (2, .int v1_2)], [], h) (pI h (fun _ => True)) := by
    intro n1
    induction n1 with
    | zero => intro v1_2 a1_2 b1_2 m1; exfalso; omega
    | succ n1 ih1 =>
      intro v1_2 a1_2 b1_2 m1
      refine te_iload_n (p2 := 3) rfl rfl rfl ?_
      refine te_iconst (p2 := 4) (x := 4) rfl rfl (by decide) ?_
      refine tb_ge (p2 := 7) rfl rfl rfl (show Int32.toInt 4 = 4 from rfl) (fun c2 => ?_) (fun c2 => ?_)
      · refine te_aload_n (p2 := 62) rfl rfl rfl ?_
        refine tg_r (p2 := 65) (i := 148) (r := 165) rfl rfl hI rfl rfl rfl ?_
        refine te_sipush (p2 := 68) (x := 140) rfl rfl (by decide) ?_
        refine te_iload_n (p2 := 69) rfl rfl rfl ?_
        refine ar_add (p2 := 70) rfl rfl (show Int32.toInt 140 = 140 from rfl) rfl (by omega) (by omega) (fun z3 e3 f3 => ?_)
        refine tl_i (p2 := 71) (i := 149) (n := 283) rfl rfl hI rfl rfl rfl rfl (by omega) (by omega) (fun y4 a4 b4 g4 e4 => ?_)
        exact te_iret rfl rfl ⟨rfl, _, rfl, trivial⟩
      · refine te_iconst (p2 := 8) (x := 0) rfl rfl (by decide) ?_
        refine te_istore_n (p2 := 9) (lv2 := [(3, .int 0), (0, .ref 164), (1, .int k), (2, .int v1_2)]) rfl rfl (by decide) rfl ?_
        have lp5 : ∀ (n5 : Nat) (v5_3 : Int32) , 0 ≤ v5_3.toInt → v5_3.toInt ≤ 8 → 8 - v5_3.toInt < (n5 : Int) → EvP im_K0 5 mX12_isAt (9, [(0, .ref 164), (1, .int k), (2, .int v1_2), (3, .int v5_3)], [], h) (pI h (fun _ => True)) := by
          intro n5
          induction n5 with
          | zero => intro v5_3 a5_3 b5_3 m5; exfalso; omega
          | succ n5 ih5 =>
            intro v5_3 a5_3 b5_3 m5
            refine te_iload_n (p2 := 10) rfl rfl rfl ?_
            refine te_aload_n (p2 := 11) rfl rfl rfl ?_
            refine tg_r (p2 := 14) (i := 148) (r := 177) rfl rfl hI rfl rfl rfl ?_
            refine te_iload_n (p2 := 15) rfl rfl rfl ?_
            refine tl_i (p2 := 16) (i := 161) (n := 4) rfl rfl hI rfl rfl rfl rfl (by omega) (by omega) (fun y6 a6 b6 g6 e6 => ?_)
            refine tb_ge (p2 := 19) rfl rfl rfl rfl (fun c7 => ?_) (fun c7 => ?_)
            · refine ar_inc (p2 := 58) (x := v1_2) rfl rfl (by decide) rfl (by decide) rfl (by omega) (by omega) (fun z8 e8 f8 => ?_)
              show EvP _ _ _ (58, [(2, .int z8), (0, .ref 164), (1, .int k), (3, .int v5_3)], [], h) _
              refine te_goto rfl ?_
              refine te_lv [(0, .ref 164), (1, .int k), (2, .int z8)] rfl rfl ⟨rfl, rfl, rfl, trivial⟩ ?_
              exact ih1 z8 (by omega) (by omega) (by omega)
            · refine te_aload_n (p2 := 20) rfl rfl rfl ?_
              refine tg_r (p2 := 23) (i := 148) (r := 176) rfl rfl hI rfl rfl rfl ?_
              refine te_bipush (p2 := 25) (x := 8) rfl rfl (by decide) ?_
              refine te_iload_n (p2 := 26) rfl rfl rfl ?_
              refine ar_mul (p2 := 27) rfl rfl (show Int32.toInt 8 = 8 from rfl) rfl (by omega) (by omega) (fun z9 e9 f9 => ?_)
              refine te_iload_n (p2 := 28) rfl rfl rfl ?_
              refine ar_add (p2 := 29) rfl rfl rfl rfl (by omega) (by omega) (fun z10 e10 f10 => ?_)
              refine tl_i (p2 := 30) (i := 160) (n := 32) rfl rfl hI rfl rfl rfl rfl (by omega) (by omega) (fun y11 a11 b11 g11 e11 => ?_)
              refine te_iload_n (p2 := 31) rfl rfl rfl ?_
              refine tb_ne (p2 := 34) rfl rfl rfl rfl (fun c12 => ?_) (fun c12 => ?_)
              · refine ar_inc (p2 := 52) (x := v5_3) rfl rfl (by decide) rfl (by decide) rfl (by omega) (by omega) (fun z13 e13 f13 => ?_)
                show EvP _ _ _ (52, [(3, .int z13), (0, .ref 164), (1, .int k), (2, .int v1_2)], [], h) _
                refine te_goto rfl ?_
                refine te_lv [(0, .ref 164), (1, .int k), (2, .int v1_2), (3, .int z13)] rfl rfl ⟨rfl, rfl, rfl, rfl, trivial⟩ ?_
                exact ih5 z13 (by omega) (by omega) (by omega)
              · refine te_aload_n (p2 := 35) rfl rfl rfl ?_
                refine te_iload_n (p2 := 36) rfl rfl rfl ?_
                refine cV_pI (p2 := 39) (i := 148) rfl rfl rfl rfl hI rfl rfl rfl (t_X12_passes (k := k) hI (by omega) (by omega)) (by decide) (fun y14 r14 => ?_)
                refine tz_le (p2 := 42) rfl rfl rfl (fun c15 => ?_) (fun c15 => ?_)
                · refine ar_inc (p2 := 52) (x := v5_3) rfl rfl (by decide) rfl (by decide) rfl (by omega) (by omega) (fun z16 e16 f16 => ?_)
                  show EvP _ _ _ (52, [(3, .int z16), (0, .ref 164), (1, .int k), (2, .int v1_2)], [], h) _
                  refine te_goto rfl ?_
                  refine te_lv [(0, .ref 164), (1, .int k), (2, .int v1_2), (3, .int z16)] rfl rfl ⟨rfl, rfl, rfl, rfl, trivial⟩ ?_
                  exact ih5 z16 (by omega) (by omega) (by omega)
                · refine te_aload_n (p2 := 43) rfl rfl rfl ?_
                  refine tg_r (p2 := 46) (i := 148) (r := 178) rfl rfl hI rfl rfl rfl ?_
                  refine te_iload_n (p2 := 47) rfl rfl rfl ?_
                  refine tl_i (p2 := 48) (i := 162) (n := 4) rfl rfl hI rfl rfl rfl rfl (by omega) (by omega) (fun y17 a17 b17 g17 e17 => ?_)
                  exact te_iret rfl rfl ⟨rfl, _, rfl, trivial⟩
        refine te_lv [(0, .ref 164), (1, .int k), (2, .int v1_2), (3, .int 0)] rfl rfl ⟨rfl, rfl, rfl, rfl, trivial⟩ ?_
        exact lp5 9 0 (by decide) (by decide) (by have cc0 := (show Int32.toInt 0 = 0 from rfl); omega)
  refine te_lv [(0, .ref 164), (1, .int k), (2, .int 0)] rfl rfl ⟨rfl, rfl, rfl, trivial⟩ ?_
  exact lp1 5 0 (by decide) (by decide) (by have cc0 := (show Int32.toInt 0 = 0 from rfl); omega)
abbrev F_X12_falls : List (Nat × Nat × Nat) := [(148, 61, 62), (149, 0, 99), (149, 108, 123), (149, 164, 187), (149, 236, 259)]
set_option maxRecDepth 20000 in
set_option maxHeartbeats 4000000 in
theorem t_X12_falls {w : Int32} {h : im_H} (hI : tI h) (p_w0 : 0 ≤ w.toInt) (p_w1 : w.toInt ≤ 15) : CaP 7 152 [.ref 164, .int w] h (mV h F_X12_falls) := by
  refine cap_of (d := 6) (M := mX12_falls) rfl (Nat.le_of_ble_eq_true rfl) ?_
  show EvP im_K0 6 mX12_falls (0, [(0, .ref 164), (1, .int w)], [], h) _
  have f0 : fr F_X12_falls h h := fr_rf
  refine te_aload_n (p2 := 1) rfl rfl rfl ?_
  refine tg_r (p2 := 4) (i := 148) (r := 184) rfl rfl hI rfl rfl rfl ?_
  refine te_iload_n (p2 := 5) rfl rfl rfl ?_
  refine tl_i (p2 := 6) (i := 168) (n := 16) rfl rfl hI rfl rfl rfl rfl (by omega) (by omega) (fun y1 a1 b1 g1 e1 => ?_)
  refine te_istore_n (p2 := 7) (lv2 := [(2, .int y1), (0, .ref 164), (1, .int w)]) rfl rfl (by decide) rfl ?_
  refine te_aload_n (p2 := 8) rfl rfl rfl ?_
  refine tg_r (p2 := 11) (i := 148) (r := 165) rfl rfl hI rfl rfl rfl ?_
  refine te_bipush (p2 := 13) (x := 108) rfl rfl (by decide) ?_
  refine te_iload_n (p2 := 14) rfl rfl rfl ?_
  refine ar_add (p2 := 15) rfl rfl (show Int32.toInt 108 = 108 from rfl) rfl (by omega) (by omega) (fun z2 e2 f2 => ?_)
  refine te_iconst (p2 := 16) (x := 0) rfl rfl (by decide) ?_
  refine ts_i (p2 := 17) (i := 149) (n := 283) rfl rfl hI rfl rfl rfl rfl (by omega) (by omega) (i32_lo _) (i32_hi _) (i32_ho _) rfl (fun h3 I3 u3 => ?_)
  have f3 := fr_st (F := F_X12_falls) 2 f0 u3 rfl (by omega) (by omega)
  refine te_aload_n (p2 := 18) rfl rfl rfl ?_
  refine tg_r (p2 := 21) (i := 148) (r := 165) rfl rfl I3 rfl rfl rfl ?_
  refine te_iload_n (p2 := 22) rfl rfl rfl ?_
  refine te_dup2 (p2 := 23) rfl rfl ⟨rfl, rfl⟩ ?_
  refine tl_i (p2 := 24) (i := 149) (n := 283) rfl rfl I3 rfl rfl rfl rfl (by omega) (by omega) (fun y4 a4 b4 g4 e4 => ?_)
  refine te_bipush (p2 := 26) (x := 20) rfl rfl (by decide) ?_
  refine au_add (p2 := 27) rfl rfl (fun z5 e5 => ?_)
  refine ts_i (p2 := 28) (i := 149) (n := 283) rfl rfl I3 rfl rfl rfl rfl (by omega) (by omega) (i32_lo _) (i32_hi _) (i32_ho _) rfl (fun h6 I6 u6 => ?_)
  have f6 := fr_st (F := F_X12_falls) 1 f3 u6 rfl (by omega) (by omega)
  refine te_aload_n (p2 := 29) rfl rfl rfl ?_
  refine te_iconst (p2 := 30) (x := 0) rfl rfl (by decide) ?_
  refine tp_i (p2 := 33) (i := 148) rfl rfl I6 rfl rfl (by decide) rfl rfl rfl (i32_lo _) (i32_hi _) (i32_ho _) rfl (fun h7 I7 u7 => ?_)
  have f7 := fr_st (F := F_X12_falls) 0 f6 u7 rfl (by decide) (by decide)
  refine te_aload_n (p2 := 34) rfl rfl rfl ?_
  refine te_iconst (p2 := 35) (x := 0) rfl rfl (by decide) ?_
  refine tp_i (p2 := 38) (i := 148) rfl rfl I7 rfl rfl (by decide) rfl rfl rfl (i32_lo _) (i32_hi _) (i32_ho _) rfl (fun h8 I8 u8 => ?_)
  have f8 := fr_st (F := F_X12_falls) 0 f7 u8 rfl (by decide) (by decide)
  refine te_iconst (p2 := 39) (x := 0) rfl rfl (by decide) ?_
  refine te_istore_n (p2 := 40) (lv2 := [(3, .int 0), (2, .int y1), (0, .ref 164), (1, .int w)]) rfl rfl (by decide) rfl ?_
  have lp9 : ∀ (n9 : Nat) (v9_3 : Int32) (h9 : im_H), tI h9 → fr F_X12_falls h h9 → 0 ≤ v9_3.toInt → v9_3.toInt ≤ 24 → 24 - v9_3.toInt < (n9 : Int) → EvP im_K0 6 mX12_falls (40, [(0, .ref 164), (1, .int w), (2, .int y1), (3, .int v9_3)], [], h9) (mV h F_X12_falls) := by
    intro n9
    induction n9 with
    | zero => intro v9_3 h9 I9 f9 a9_3 b9_3 m9; exfalso; omega
    | succ n9 ih9 =>
      intro v9_3 h9 I9 f9 a9_3 b9_3 m9
      refine te_iload_n (p2 := 41) rfl rfl rfl ?_
      refine te_aload_n (p2 := 42) rfl rfl rfl ?_
      refine tg_i (p2 := 45) (i := 148) rfl rfl I9 rfl rfl rfl (fun y10 a10 b10 e10 => ?_)
      refine tb_ge (p2 := 48) rfl rfl rfl rfl (fun c11 => ?_) (fun c11 => ?_)
      · exact te_vret rfl rfl ⟨I9, f9, rfl⟩
      · refine te_aload_n (p2 := 49) rfl rfl rfl ?_
        refine tg_r (p2 := 52) (i := 148) (r := 165) rfl rfl I9 rfl rfl rfl ?_
        refine te_sipush (p2 := 55) (x := 236) rfl rfl (by decide) ?_
        refine te_iload_n (p2 := 56) rfl rfl rfl ?_
        refine ar_add (p2 := 57) rfl rfl (show Int32.toInt 236 = 236 from rfl) rfl (by omega) (by omega) (fun z12 e12 f12 => ?_)
        refine tl_i (p2 := 58) (i := 149) (n := 283) rfl rfl I9 rfl rfl rfl rfl (by omega) (by omega) (fun y13 a13 b13 g13 e13 => ?_)
        refine tz_ne (p2 := 61) rfl rfl rfl (fun c14 => ?_) (fun c14 => ?_)
        · refine ar_inc (p2 := 133) (x := v9_3) rfl rfl (by decide) rfl (by decide) rfl (by omega) (by omega) (fun z15 e15 f15 => ?_)
          show EvP _ _ _ (133, [(3, .int z15), (0, .ref 164), (1, .int w), (2, .int y1)], [], h9) _
          refine te_goto rfl ?_
          refine te_lv [(0, .ref 164), (1, .int w), (2, .int y1), (3, .int z15)] rfl rfl ⟨rfl, rfl, rfl, rfl, trivial⟩ ?_
          exact ih9 z15 h9 I9 f9 (by omega) (by omega) (by omega)
        · refine te_aload_n (p2 := 62) rfl rfl rfl ?_
          refine te_iload_n (p2 := 63) rfl rfl rfl ?_
          refine cV_pI (p2 := 66) (i := 148) rfl rfl rfl rfl I9 rfl rfl rfl (t_X12_isAt (k := v9_3) I9 (by omega) (by omega)) (by decide) (fun y16 r16 => ?_)
          refine te_iload_n (p2 := 67) rfl rfl rfl ?_
          refine tb_ne (p2 := 70) rfl rfl rfl rfl (fun c17 => ?_) (fun c17 => ?_)
          · refine ar_inc (p2 := 133) (x := v9_3) rfl rfl (by decide) rfl (by decide) rfl (by omega) (by omega) (fun z18 e18 f18 => ?_)
            show EvP _ _ _ (133, [(3, .int z18), (0, .ref 164), (1, .int w), (2, .int y1)], [], h9) _
            refine te_goto rfl ?_
            refine te_lv [(0, .ref 164), (1, .int w), (2, .int y1), (3, .int z18)] rfl rfl ⟨rfl, rfl, rfl, rfl, trivial⟩ ?_
            exact ih9 z18 h9 I9 f9 (by omega) (by omega) (by omega)
          · refine te_aload_n (p2 := 71) rfl rfl rfl ?_
            refine tg_r (p2 := 74) (i := 148) (r := 165) rfl rfl I9 rfl rfl rfl ?_
            refine te_sipush (p2 := 77) (x := 164) rfl rfl (by decide) ?_
            refine te_iload_n (p2 := 78) rfl rfl rfl ?_
            refine ar_add (p2 := 79) rfl rfl (show Int32.toInt 164 = 164 from rfl) rfl (by omega) (by omega) (fun z19 e19 f19 => ?_)
            refine te_dup2 (p2 := 80) rfl rfl ⟨rfl, rfl⟩ ?_
            refine tl_i (p2 := 81) (i := 149) (n := 283) rfl rfl I9 rfl rfl rfl rfl (by omega) (by omega) (fun y20 a20 b20 g20 e20 => ?_)
            refine te_iconst (p2 := 82) (x := 3) rfl rfl (by decide) ?_
            refine au_add (p2 := 83) rfl rfl (fun z21 e21 => ?_)
            refine ts_i (p2 := 84) (i := 149) (n := 283) rfl rfl I9 rfl rfl rfl rfl (by omega) (by omega) (i32_lo _) (i32_hi _) (i32_ho _) rfl (fun h22 I22 u22 => ?_)
            have f22 := fr_st (F := F_X12_falls) 3 f9 u22 rfl (by omega) (by omega)
            refine te_aload_n (p2 := 85) rfl rfl rfl ?_
            refine te_dup (p2 := 86) rfl rfl rfl ?_
            refine tg_i (p2 := 89) (i := 148) rfl rfl I22 rfl rfl rfl (fun y23 a23 b23 e23 => ?_)
            refine te_iconst (p2 := 90) (x := 3) rfl rfl (by decide) ?_
            refine au_add (p2 := 91) rfl rfl (fun z24 e24 => ?_)
            refine tp_i (p2 := 94) (i := 148) rfl rfl I22 rfl rfl (by decide) rfl rfl rfl (i32_lo _) (i32_hi _) (i32_ho _) rfl (fun h25 I25 u25 => ?_)
            have f25 := fr_st (F := F_X12_falls) 0 f22 u25 rfl (by decide) (by decide)
            refine te_aload_n (p2 := 95) rfl rfl rfl ?_
            refine tg_r (p2 := 98) (i := 148) (r := 165) rfl rfl I25 rfl rfl rfl ?_
            refine te_sipush (p2 := 101) (x := 164) rfl rfl (by decide) ?_
            refine te_iload_n (p2 := 102) rfl rfl rfl ?_
            refine ar_add (p2 := 103) rfl rfl (show Int32.toInt 164 = 164 from rfl) rfl (by omega) (by omega) (fun z26 e26 f26 => ?_)
            refine tl_i (p2 := 104) (i := 149) (n := 283) rfl rfl I25 rfl rfl rfl rfl (by omega) (by omega) (fun y27 a27 b27 g27 e27 => ?_)
            refine te_bipush (p2 := 106) (x := 9) rfl rfl (by decide) ?_
            refine tb_lt (p2 := 109) rfl rfl rfl (show Int32.toInt 9 = 9 from rfl) (fun c28 => ?_) (fun c28 => ?_)
            · refine ar_inc (p2 := 133) (x := v9_3) rfl rfl (by decide) rfl (by decide) rfl (by omega) (by omega) (fun z29 e29 f29 => ?_)
              show EvP _ _ _ (133, [(3, .int z29), (0, .ref 164), (1, .int w), (2, .int y1)], [], h25) _
              refine te_goto rfl ?_
              refine te_lv [(0, .ref 164), (1, .int w), (2, .int y1), (3, .int z29)] rfl rfl ⟨rfl, rfl, rfl, rfl, trivial⟩ ?_
              exact ih9 z29 h25 I25 f25 (by omega) (by omega) (by omega)
            · refine te_aload_n (p2 := 110) rfl rfl rfl ?_
              refine tg_r (p2 := 113) (i := 148) (r := 165) rfl rfl I25 rfl rfl rfl ?_
              refine te_sipush (p2 := 116) (x := 236) rfl rfl (by decide) ?_
              refine te_iload_n (p2 := 117) rfl rfl rfl ?_
              refine ar_add (p2 := 118) rfl rfl (show Int32.toInt 236 = 236 from rfl) rfl (by omega) (by omega) (fun z30 e30 f30 => ?_)
              refine te_iconst (p2 := 119) (x := 1) rfl rfl (by decide) ?_
              refine ts_i (p2 := 120) (i := 149) (n := 283) rfl rfl I25 rfl rfl rfl rfl (by omega) (by omega) (i32_lo _) (i32_hi _) (i32_ho _) rfl (fun h31 I31 u31 => ?_)
              have f31 := fr_st (F := F_X12_falls) 4 f25 u31 rfl (by omega) (by omega)
              refine te_aload_n (p2 := 121) rfl rfl rfl ?_
              refine te_dup (p2 := 122) rfl rfl rfl ?_
              refine tg_i (p2 := 125) (i := 148) rfl rfl I31 rfl rfl rfl (fun y32 a32 b32 e32 => ?_)
              refine te_iconst (p2 := 126) (x := 1) rfl rfl (by decide) ?_
              refine au_add (p2 := 127) rfl rfl (fun z33 e33 => ?_)
              refine tp_i (p2 := 130) (i := 148) rfl rfl I31 rfl rfl (by decide) rfl rfl rfl (i32_lo _) (i32_hi _) (i32_ho _) rfl (fun h34 I34 u34 => ?_)
              have f34 := fr_st (F := F_X12_falls) 0 f31 u34 rfl (by decide) (by decide)
              refine ar_inc (p2 := 133) (x := v9_3) rfl rfl (by decide) rfl (by decide) rfl (by omega) (by omega) (fun z35 e35 f35 => ?_)
              show EvP _ _ _ (133, [(3, .int z35), (0, .ref 164), (1, .int w), (2, .int y1)], [], h34) _
              refine te_goto rfl ?_
              refine te_lv [(0, .ref 164), (1, .int w), (2, .int y1), (3, .int z35)] rfl rfl ⟨rfl, rfl, rfl, rfl, trivial⟩ ?_
              exact ih9 z35 h34 I34 f34 (by omega) (by omega) (by omega)
  refine te_lv [(0, .ref 164), (1, .int w), (2, .int y1), (3, .int 0)] rfl rfl ⟨rfl, rfl, rfl, rfl, trivial⟩ ?_
  exact lp9 25 0 h8 I8 f8 (by decide) (by decide) (by have cc0 := (show Int32.toInt 0 = 0 from rfl); omega)
abbrev F_X12_wears : List (Nat × Nat × Nat) := [(149, 124, 139)]
set_option maxRecDepth 20000 in
set_option maxHeartbeats 4000000 in
theorem t_X12_wears {w : Int32} {h : im_H} (hI : tI h) (p_w0 : 0 ≤ w.toInt) (p_w1 : w.toInt ≤ 15) : CaP 2 153 [.ref 164, .int w] h (mI h F_X12_wears (fun y => 0 ≤ y.toInt ∧ y.toInt ≤ 1)) := by
  refine cap_of (d := 1) (M := mX12_wears) rfl (Nat.le_of_ble_eq_true rfl) ?_
  show EvP im_K0 1 mX12_wears (0, [(0, .ref 164), (1, .int w)], [], h) _
  have f0 : fr F_X12_wears h h := fr_rf
  refine te_aload_n (p2 := 1) rfl rfl rfl ?_
  refine tg_r (p2 := 4) (i := 148) (r := 165) rfl rfl hI rfl rfl rfl ?_
  refine te_bipush (p2 := 6) (x := 124) rfl rfl (by decide) ?_
  refine te_iload_n (p2 := 7) rfl rfl rfl ?_
  refine ar_add (p2 := 8) rfl rfl (show Int32.toInt 124 = 124 from rfl) rfl (by omega) (by omega) (fun z1 e1 f1 => ?_)
  refine te_dup2 (p2 := 9) rfl rfl ⟨rfl, rfl⟩ ?_
  refine tl_i (p2 := 10) (i := 149) (n := 283) rfl rfl hI rfl rfl rfl rfl (by omega) (by omega) (fun y2 a2 b2 g2 e2 => ?_)
  refine te_aload_n (p2 := 11) rfl rfl rfl ?_
  refine tg_r (p2 := 14) (i := 148) (r := 165) rfl rfl hI rfl rfl rfl ?_
  refine te_bipush (p2 := 16) (x := 106) rfl rfl (by decide) ?_
  refine tl_i (p2 := 17) (i := 149) (n := 283) rfl rfl hI rfl rfl rfl rfl (by decide) (by decide) (fun y3 a3 b3 g3 e3 => ?_)
  refine te_aload_n (p2 := 18) rfl rfl rfl ?_
  refine te_aload_n (p2 := 19) rfl rfl rfl ?_
  refine tg_r (p2 := 22) (i := 148) (r := 183) rfl rfl hI rfl rfl rfl ?_
  refine te_iload_n (p2 := 23) rfl rfl rfl ?_
  refine tl_i (p2 := 24) (i := 167) (n := 16) rfl rfl hI rfl rfl rfl rfl (by omega) (by omega) (fun y4 a4 b4 g4 e4 => ?_)
  refine cV_pI (p2 := 27) (i := 148) rfl rfl rfl rfl hI rfl rfl rfl (t_X12_weakOf (c := y4) hI (by omega) (by omega)) (by decide) (fun y5 r5 => ?_)
  obtain ⟨a5, b5⟩ := r5
  refine au_mul (p2 := 28) rfl rfl (fun z6 e6 => ?_)
  refine te_bipush (p2 := 30) (x := 10) rfl rfl (by decide) ?_
  refine au_div (p2 := 31) rfl rfl (show Int32.toInt 10 = 10 from rfl) (by decide) (fun z7 e7 => ?_)
  refine au_sub (p2 := 32) rfl rfl (fun z8 e8 => ?_)
  refine ts_i (p2 := 33) (i := 149) (n := 283) rfl rfl hI rfl rfl rfl rfl (by omega) (by omega) (i32_lo _) (i32_hi _) (i32_ho _) rfl (fun h9 I9 u9 => ?_)
  have f9 := fr_st (F := F_X12_wears) 0 f0 u9 rfl (by omega) (by omega)
  refine te_aload_n (p2 := 34) rfl rfl rfl ?_
  refine tg_r (p2 := 37) (i := 148) (r := 165) rfl rfl I9 rfl rfl rfl ?_
  refine te_bipush (p2 := 39) (x := 124) rfl rfl (by decide) ?_
  refine te_iload_n (p2 := 40) rfl rfl rfl ?_
  refine ar_add (p2 := 41) rfl rfl (show Int32.toInt 124 = 124 from rfl) rfl (by omega) (by omega) (fun z10 e10 f10 => ?_)
  refine tl_i (p2 := 42) (i := 149) (n := 283) rfl rfl I9 rfl rfl rfl rfl (by omega) (by omega) (fun y11 a11 b11 g11 e11 => ?_)
  refine te_iconst (p2 := 43) (x := 3) rfl rfl (by decide) ?_
  refine te_aload_n (p2 := 44) rfl rfl rfl ?_
  refine tg_r (p2 := 47) (i := 148) (r := 165) rfl rfl I9 rfl rfl rfl ?_
  refine te_bipush (p2 := 49) (x := 107) rfl rfl (by decide) ?_
  refine tl_i (p2 := 50) (i := 149) (n := 283) rfl rfl I9 rfl rfl rfl rfl (by decide) (by decide) (fun y12 a12 b12 g12 e12 => ?_)
  refine au_mul (p2 := 51) rfl rfl (fun z13 e13 => ?_)
  refine tb_gt (p2 := 54) rfl rfl rfl rfl (fun c14 => ?_) (fun c14 => ?_)
  · refine te_iconst (p2 := 59) (x := 0) rfl rfl (by decide) ?_
    exact te_zret rfl rfl (by decide) ⟨I9, f9, _, rfl, by decide, by decide⟩
  · refine te_iconst (p2 := 55) (x := 1) rfl rfl (by decide) ?_
    refine te_goto rfl ?_
    exact te_zret rfl rfl (by decide) ⟨I9, f9, _, rfl, by decide, by decide⟩
abbrev F_X12_goes : List (Nat × Nat × Nat) := [(148, 61, 62), (149, 0, 105), (149, 108, 139), (149, 164, 259), (149, 272, 282)]
set_option maxRecDepth 20000 in
set_option maxHeartbeats 4000000 in
theorem t_X12_goes  {h : im_H} (hI : tI h)  : CaP 8 154 [.ref 164] h (mV h F_X12_goes) := by
  refine cap_of (d := 7) (M := mX12_goes) rfl (Nat.le_of_ble_eq_true rfl) ?_
  show EvP im_K0 7 mX12_goes (0, [(0, .ref 164)], [], h) _
  have f0 : fr F_X12_goes h h := fr_rf
  refine te_iconst (p2 := 1) (x := 0) rfl rfl (by decide) ?_
  refine te_istore_n (p2 := 2) (lv2 := [(1, .int 0), (0, .ref 164)]) rfl rfl (by decide) rfl ?_
  have lp1 : ∀ (n1 : Nat) (v1_1 : Int32) (h1 : im_H), tI h1 → fr F_X12_goes h h1 → 0 ≤ v1_1.toInt → v1_1.toInt ≤ 4 → 4 - v1_1.toInt < (n1 : Int) → EvP im_K0 7 mX12_goes (2, [(0, .ref 164), (1, .int v1_1)], [], h1) (mV h F_X12_goes) := by
    intro n1
    induction n1 with
    | zero => intro v1_1 h1 I1 f1 a1_1 b1_1 m1; exfalso; omega
    | succ n1 ih1 =>
      intro v1_1 h1 I1 f1 a1_1 b1_1 m1
      refine te_iload_n (p2 := 3) rfl rfl rfl ?_
      refine te_iconst (p2 := 4) (x := 4) rfl rfl (by decide) ?_
      refine tb_ge (p2 := 7) rfl rfl rfl (show Int32.toInt 4 = 4 from rfl) (fun c2 => ?_) (fun c2 => ?_)
      · refine te_iconst (p2 := 19) (x := 0) rfl rfl (by decide) ?_
        refine te_istore_n (p2 := 20) (lv2 := [(1, .int 0), (0, .ref 164)]) rfl rfl (by decide) rfl ?_
        have lp3 : ∀ (n3 : Nat) (v3_1 : Int32) (h3 : im_H), tI h3 → fr F_X12_goes h h3 → 0 ≤ v3_1.toInt → v3_1.toInt ≤ 3 → 3 - v3_1.toInt < (n3 : Int) → EvP im_K0 7 mX12_goes (20, [(0, .ref 164), (1, .int v3_1)], [], h3) (mV h F_X12_goes) := by
          intro n3
          induction n3 with
          | zero => intro v3_1 h3 I3 f3 a3_1 b3_1 m3; exfalso; omega
          | succ n3 ih3 =>
            intro v3_1 h3 I3 f3 a3_1 b3_1 m3
            refine te_iload_n (p2 := 21) rfl rfl rfl ?_
            refine te_iconst (p2 := 22) (x := 3) rfl rfl (by decide) ?_
            refine tb_ge (p2 := 25) rfl rfl rfl (show Int32.toInt 3 = 3 from rfl) (fun c4 => ?_) (fun c4 => ?_)
            · refine te_iconst (p2 := 37) (x := 0) rfl rfl (by decide) ?_
              refine te_istore_n (p2 := 38) (lv2 := [(1, .int 0), (0, .ref 164)]) rfl rfl (by decide) rfl ?_
              have lp5 : ∀ (n5 : Nat) (v5_1 : Int32) (h5 : im_H), tI h5 → fr F_X12_goes h h5 → 0 ≤ v5_1.toInt → v5_1.toInt ≤ 16 → 16 - v5_1.toInt < (n5 : Int) → EvP im_K0 7 mX12_goes (38, [(0, .ref 164), (1, .int v5_1)], [], h5) (mV h F_X12_goes) := by
                intro n5
                induction n5 with
                | zero => intro v5_1 h5 I5 f5 a5_1 b5_1 m5; exfalso; omega
                | succ n5 ih5 =>
                  intro v5_1 h5 I5 f5 a5_1 b5_1 m5
                  refine te_iload_n (p2 := 39) rfl rfl rfl ?_
                  refine te_aload_n (p2 := 40) rfl rfl rfl ?_
                  refine tg_i (p2 := 43) (i := 148) rfl rfl I5 rfl rfl rfl (fun y6 a6 b6 e6 => ?_)
                  refine tb_ge (p2 := 46) rfl rfl rfl rfl (fun c7 => ?_) (fun c7 => ?_)
                  · refine te_iconst (p2 := 79) (x := 0) rfl rfl (by decide) ?_
                    refine te_istore_n (p2 := 80) (lv2 := [(1, .int 0), (0, .ref 164)]) rfl rfl (by decide) rfl ?_
                    have lp8 : ∀ (n8 : Nat) (v8_1 : Int32) (h8 : im_H), tI h8 → fr F_X12_goes h h8 → 0 ≤ v8_1.toInt → v8_1.toInt ≤ 24 → 24 - v8_1.toInt < (n8 : Int) → EvP im_K0 7 mX12_goes (80, [(0, .ref 164), (1, .int v8_1)], [], h8) (mV h F_X12_goes) := by
                      intro n8
                      induction n8 with
                      | zero => intro v8_1 h8 I8 f8 a8_1 b8_1 m8; exfalso; omega
                      | succ n8 ih8 =>
                        intro v8_1 h8 I8 f8 a8_1 b8_1 m8
                        refine te_iload_n (p2 := 81) rfl rfl rfl ?_
                        refine te_aload_n (p2 := 82) rfl rfl rfl ?_
                        refine tg_i (p2 := 85) (i := 148) rfl rfl I8 rfl rfl rfl (fun y9 a9 b9 e9 => ?_)
                        refine tb_ge (p2 := 88) rfl rfl rfl rfl (fun c10 => ?_) (fun c10 => ?_)
                        · refine te_iconst (p2 := 140) (x := 0) rfl rfl (by decide) ?_
                          refine te_istore_n (p2 := 141) (lv2 := [(1, .int 0), (0, .ref 164)]) rfl rfl (by decide) rfl ?_
                          have lp11 : ∀ (n11 : Nat) (v11_1 : Int32) (h11 : im_H), tI h11 → fr F_X12_goes h h11 → 0 ≤ v11_1.toInt → v11_1.toInt ≤ 24 → 24 - v11_1.toInt < (n11 : Int) → EvP im_K0 7 mX12_goes (141, [(0, .ref 164), (1, .int v11_1)], [], h11) (mV h F_X12_goes) := by
                            intro n11
                            induction n11 with
                            | zero => intro v11_1 h11 I11 f11 a11_1 b11_1 m11; exfalso; omega
                            | succ n11 ih11 =>
                              intro v11_1 h11 I11 f11 a11_1 b11_1 m11
                              refine te_iload_n (p2 := 142) rfl rfl rfl ?_
                              refine te_aload_n (p2 := 143) rfl rfl rfl ?_
                              refine tg_i (p2 := 146) (i := 148) rfl rfl I11 rfl rfl rfl (fun y12 a12 b12 e12 => ?_)
                              refine tb_ge (p2 := 149) rfl rfl rfl rfl (fun c13 => ?_) (fun c13 => ?_)
                              · refine te_aload_n (p2 := 215) rfl rfl rfl ?_
                                refine tg_r (p2 := 218) (i := 148) (r := 165) rfl rfl I11 rfl rfl rfl ?_
                                refine te_bipush (p2 := 220) (x := 105) rfl rfl (by decide) ?_
                                refine te_dup2 (p2 := 221) rfl rfl ⟨rfl, rfl⟩ ?_
                                refine tl_i (p2 := 222) (i := 149) (n := 283) rfl rfl I11 rfl rfl rfl rfl (by decide) (by decide) (fun y14 a14 b14 g14 e14 => ?_)
                                refine te_iconst (p2 := 223) (x := 1) rfl rfl (by decide) ?_
                                refine au_add (p2 := 224) rfl rfl (fun z15 e15 => ?_)
                                refine ts_i (p2 := 225) (i := 149) (n := 283) rfl rfl I11 rfl rfl rfl rfl (by decide) (by decide) (i32_lo _) (i32_hi _) (i32_ho _) rfl (fun h16 I16 u16 => ?_)
                                have f16 := fr_st (F := F_X12_goes) 1 f11 u16 rfl (by decide) (by decide)
                                exact te_vret rfl rfl ⟨I16, f16, rfl⟩
                              · refine te_aload_n (p2 := 150) rfl rfl rfl ?_
                                refine tg_r (p2 := 153) (i := 148) (r := 165) rfl rfl I11 rfl rfl rfl ?_
                                refine te_bipush (p2 := 155) (x := 105) rfl rfl (by decide) ?_
                                refine tl_i (p2 := 156) (i := 149) (n := 283) rfl rfl I11 rfl rfl rfl rfl (by decide) (by decide) (fun y17 a17 b17 g17 e17 => ?_)
                                refine te_bipush (p2 := 158) (x := 7) rfl rfl (by decide) ?_
                                refine au_rem (p2 := 159) rfl rfl (show Int32.toInt 7 = 7 from rfl) (by decide) (fun z18 e18 => ?_)
                                refine te_bipush (p2 := 161) (x := 6) rfl rfl (by decide) ?_
                                refine tb_ne (p2 := 164) rfl rfl rfl (show Int32.toInt 6 = 6 from rfl) (fun c19 => ?_) (fun c19 => ?_)
                                · refine te_aload_n (p2 := 215) rfl rfl rfl ?_
                                  refine tg_r (p2 := 218) (i := 148) (r := 165) rfl rfl I11 rfl rfl rfl ?_
                                  refine te_bipush (p2 := 220) (x := 105) rfl rfl (by decide) ?_
                                  refine te_dup2 (p2 := 221) rfl rfl ⟨rfl, rfl⟩ ?_
                                  refine tl_e (p2 := 222) (i := 149) (n := 283) (t := 0) (Or.inl rfl) rfl rfl I11 rfl rfl (by decide) (by decide) e17 ?_
                                  refine te_iconst (p2 := 223) (x := 1) rfl rfl (by decide) ?_
                                  refine au_add (p2 := 224) rfl rfl (fun z21 e21 => ?_)
                                  refine ts_i (p2 := 225) (i := 149) (n := 283) rfl rfl I11 rfl rfl rfl rfl (by decide) (by decide) (i32_lo _) (i32_hi _) (i32_ho _) rfl (fun h22 I22 u22 => ?_)
                                  have f22 := fr_st (F := F_X12_goes) 1 f11 u22 rfl (by decide) (by decide)
                                  exact te_vret rfl rfl ⟨I22, f22, rfl⟩
                                · refine te_aload_n (p2 := 165) rfl rfl rfl ?_
                                  refine tg_r (p2 := 168) (i := 148) (r := 165) rfl rfl I11 rfl rfl rfl ?_
                                  refine te_sipush (p2 := 171) (x := 164) rfl rfl (by decide) ?_
                                  refine te_iload_n (p2 := 172) rfl rfl rfl ?_
                                  refine ar_add (p2 := 173) rfl rfl (show Int32.toInt 164 = 164 from rfl) rfl (by omega) (by omega) (fun z23 e23 f23 => ?_)
                                  refine te_dup2 (p2 := 174) rfl rfl ⟨rfl, rfl⟩ ?_
                                  refine tl_i (p2 := 175) (i := 149) (n := 283) rfl rfl I11 rfl rfl rfl rfl (by omega) (by omega) (fun y24 a24 b24 g24 e24 => ?_)
                                  refine te_aload_n (p2 := 176) rfl rfl rfl ?_
                                  refine tg_r (p2 := 179) (i := 148) (r := 165) rfl rfl I11 rfl rfl rfl ?_
                                  refine te_sipush (p2 := 182) (x := 236) rfl rfl (by decide) ?_
                                  refine te_iload_n (p2 := 183) rfl rfl rfl ?_
                                  refine ar_add (p2 := 184) rfl rfl (show Int32.toInt 236 = 236 from rfl) rfl (by omega) (by omega) (fun z25 e25 f25 => ?_)
                                  refine tl_i (p2 := 185) (i := 149) (n := 283) rfl rfl I11 rfl rfl rfl rfl (by omega) (by omega) (fun y26 a26 b26 g26 e26 => ?_)
                                  refine tz_ne (p2 := 188) rfl rfl rfl (fun c27 => ?_) (fun c27 => ?_)
                                  · refine te_iconst (p2 := 206) (x := 0) rfl rfl (by decide) ?_
                                    have n28_y24 := i32_lo y24
                                    have o28_y24 := i32_hi y24
                                    refine ar_sub (p2 := 207) rfl rfl rfl (show Int32.toInt 0 = 0 from rfl) (by omega) (by omega) (fun z28 e28 f28 => ?_)
                                    refine ts_i (p2 := 208) (i := 149) (n := 283) rfl rfl I11 rfl rfl rfl rfl (by omega) (by omega) (i32_lo _) (i32_hi _) (i32_ho _) rfl (fun h29 I29 u29 => ?_)
                                    have f29 := fr_st (F := F_X12_goes) 3 f11 u29 rfl (by omega) (by omega)
                                    refine ar_inc (p2 := 211) (x := v11_1) rfl rfl (by decide) rfl (by decide) rfl (by omega) (by omega) (fun z30 e30 f30 => ?_)
                                    show EvP _ _ _ (211, [(1, .int z30), (0, .ref 164)], [], h29) _
                                    refine te_goto rfl ?_
                                    refine te_lv [(0, .ref 164), (1, .int z30)] rfl rfl ⟨rfl, rfl, trivial⟩ ?_
                                    exact ih11 z30 h29 I29 f29 (by omega) (by omega) (by omega)
                                  · refine te_aload_n (p2 := 189) rfl rfl rfl ?_
                                    refine tg_r (p2 := 192) (i := 148) (r := 165) rfl rfl I11 rfl rfl rfl ?_
                                    refine te_sipush (p2 := 195) (x := 164) rfl rfl (by decide) ?_
                                    refine te_iload_n (p2 := 196) rfl rfl rfl ?_
                                    refine ar_add (p2 := 197) rfl rfl (show Int32.toInt 164 = 164 from rfl) rfl (by omega) (by omega) (fun z31 e31 f31 => ?_)
                                    refine tl_i (p2 := 198) (i := 149) (n := 283) rfl rfl I11 rfl rfl rfl rfl (by omega) (by omega) (fun y32 a32 b32 g32 e32 => ?_)
                                    refine tz_le (p2 := 201) rfl rfl rfl (fun c33 => ?_) (fun c33 => ?_)
                                    · refine te_iconst (p2 := 206) (x := 0) rfl rfl (by decide) ?_
                                      have n34_y24 := i32_lo y24
                                      have o34_y24 := i32_hi y24
                                      refine ar_sub (p2 := 207) rfl rfl rfl (show Int32.toInt 0 = 0 from rfl) (by omega) (by omega) (fun z34 e34 f34 => ?_)
                                      refine ts_i (p2 := 208) (i := 149) (n := 283) rfl rfl I11 rfl rfl rfl rfl (by omega) (by omega) (i32_lo _) (i32_hi _) (i32_ho _) rfl (fun h35 I35 u35 => ?_)
                                      have f35 := fr_st (F := F_X12_goes) 3 f11 u35 rfl (by omega) (by omega)
                                      refine ar_inc (p2 := 211) (x := v11_1) rfl rfl (by decide) rfl (by decide) rfl (by omega) (by omega) (fun z36 e36 f36 => ?_)
                                      show EvP _ _ _ (211, [(1, .int z36), (0, .ref 164)], [], h35) _
                                      refine te_goto rfl ?_
                                      refine te_lv [(0, .ref 164), (1, .int z36)] rfl rfl ⟨rfl, rfl, trivial⟩ ?_
                                      exact ih11 z36 h35 I35 f35 (by omega) (by omega) (by omega)
                                    · refine te_iconst (p2 := 202) (x := 1) rfl rfl (by decide) ?_
                                      refine te_goto rfl ?_
                                      refine au_sub (p2 := 207) rfl rfl (fun z37 e37 => ?_)
                                      refine ts_i (p2 := 208) (i := 149) (n := 283) rfl rfl I11 rfl rfl rfl rfl (by omega) (by omega) (i32_lo _) (i32_hi _) (i32_ho _) rfl (fun h38 I38 u38 => ?_)
                                      have f38 := fr_st (F := F_X12_goes) 3 f11 u38 rfl (by omega) (by omega)
                                      refine ar_inc (p2 := 211) (x := v11_1) rfl rfl (by decide) rfl (by decide) rfl (by omega) (by omega) (fun z39 e39 f39 => ?_)
                                      show EvP _ _ _ (211, [(1, .int z39), (0, .ref 164)], [], h38) _
                                      refine te_goto rfl ?_
                                      refine te_lv [(0, .ref 164), (1, .int z39)] rfl rfl ⟨rfl, rfl, trivial⟩ ?_
                                      exact ih11 z39 h38 I38 f38 (by omega) (by omega) (by omega)
                          refine te_lv [(0, .ref 164), (1, .int 0)] rfl rfl ⟨rfl, rfl, trivial⟩ ?_
                          exact lp11 25 0 h8 I8 f8 (by decide) (by decide) (by have cc0 := (show Int32.toInt 0 = 0 from rfl); omega)
                        · refine te_aload_n (p2 := 89) rfl rfl rfl ?_
                          refine tg_r (p2 := 92) (i := 148) (r := 165) rfl rfl I8 rfl rfl rfl ?_
                          refine te_sipush (p2 := 95) (x := 236) rfl rfl (by decide) ?_
                          refine te_iload_n (p2 := 96) rfl rfl rfl ?_
                          refine ar_add (p2 := 97) rfl rfl (show Int32.toInt 236 = 236 from rfl) rfl (by omega) (by omega) (fun z40 e40 f40 => ?_)
                          refine tl_i (p2 := 98) (i := 149) (n := 283) rfl rfl I8 rfl rfl rfl rfl (by omega) (by omega) (fun y41 a41 b41 g41 e41 => ?_)
                          refine tz_ne (p2 := 101) rfl rfl rfl (fun c42 => ?_) (fun c42 => ?_)
                          · refine ar_inc (p2 := 136) (x := v8_1) rfl rfl (by decide) rfl (by decide) rfl (by omega) (by omega) (fun z43 e43 f43 => ?_)
                            show EvP _ _ _ (136, [(1, .int z43), (0, .ref 164)], [], h8) _
                            refine te_goto rfl ?_
                            refine te_lv [(0, .ref 164), (1, .int z43)] rfl rfl ⟨rfl, rfl, trivial⟩ ?_
                            exact ih8 z43 h8 I8 f8 (by omega) (by omega) (by omega)
                          · refine te_aload_n (p2 := 102) rfl rfl rfl ?_
                            refine te_iload_n (p2 := 103) rfl rfl rfl ?_
                            refine te_iconst (p2 := 104) (x := 1) rfl rfl (by decide) ?_
                            refine cV_pI (p2 := 107) (i := 148) rfl rfl rfl rfl I8 rfl rfl rfl (t_X12_saysOf (k := v8_1) (key := 1) I8 (by omega) (by omega)) (by decide) (fun y44 r44 => ?_)
                            refine te_istore_n (p2 := 108) (lv2 := [(2, .int y44), (0, .ref 164), (1, .int v8_1)]) rfl rfl (by decide) rfl ?_
                            refine te_aload_n (p2 := 109) rfl rfl rfl ?_
                            refine tg_r (p2 := 112) (i := 148) (r := 165) rfl rfl I8 rfl rfl rfl ?_
                            refine te_sipush (p2 := 115) (x := 212) rfl rfl (by decide) ?_
                            refine te_iload_n (p2 := 116) rfl rfl rfl ?_
                            refine ar_add (p2 := 117) rfl rfl (show Int32.toInt 212 = 212 from rfl) rfl (by omega) (by omega) (fun z45 e45 f45 => ?_)
                            refine te_dup2 (p2 := 118) rfl rfl ⟨rfl, rfl⟩ ?_
                            refine tl_i (p2 := 119) (i := 149) (n := 283) rfl rfl I8 rfl rfl rfl rfl (by omega) (by omega) (fun y46 a46 b46 g46 e46 => ?_)
                            refine te_iload_n (p2 := 120) rfl rfl rfl ?_
                            refine te_bipush (p2 := 122) (x := 9) rfl rfl (by decide) ?_
                            refine tb_le (p2 := 125) rfl rfl rfl (show Int32.toInt 9 = 9 from rfl) (fun c47 => ?_) (fun c47 => ?_)
                            · refine te_iload_n (p2 := 131) rfl rfl rfl ?_
                              refine au_add (p2 := 132) rfl rfl (fun z48 e48 => ?_)
                              refine ts_i (p2 := 133) (i := 149) (n := 283) rfl rfl I8 rfl rfl rfl rfl (by omega) (by omega) (i32_lo _) (i32_hi _) (i32_ho _) rfl (fun h49 I49 u49 => ?_)
                              have f49 := fr_st (F := F_X12_goes) 3 f8 u49 rfl (by omega) (by omega)
                              refine ar_inc (p2 := 136) (x := v8_1) rfl rfl (by decide) rfl (by decide) rfl (by omega) (by omega) (fun z50 e50 f50 => ?_)
                              show EvP _ _ _ (136, [(1, .int z50), (2, .int y44), (0, .ref 164)], [], h49) _
                              refine te_goto rfl ?_
                              refine te_lv [(0, .ref 164), (1, .int z50)] rfl rfl ⟨rfl, rfl, trivial⟩ ?_
                              exact ih8 z50 h49 I49 f49 (by omega) (by omega) (by omega)
                            · refine te_bipush (p2 := 127) (x := 9) rfl rfl (by decide) ?_
                              refine te_goto rfl ?_
                              refine au_add (p2 := 132) rfl rfl (fun z51 e51 => ?_)
                              refine ts_i (p2 := 133) (i := 149) (n := 283) rfl rfl I8 rfl rfl rfl rfl (by omega) (by omega) (i32_lo _) (i32_hi _) (i32_ho _) rfl (fun h52 I52 u52 => ?_)
                              have f52 := fr_st (F := F_X12_goes) 3 f8 u52 rfl (by omega) (by omega)
                              refine ar_inc (p2 := 136) (x := v8_1) rfl rfl (by decide) rfl (by decide) rfl (by omega) (by omega) (fun z53 e53 f53 => ?_)
                              show EvP _ _ _ (136, [(1, .int z53), (2, .int y44), (0, .ref 164)], [], h52) _
                              refine te_goto rfl ?_
                              refine te_lv [(0, .ref 164), (1, .int z53)] rfl rfl ⟨rfl, rfl, trivial⟩ ?_
                              exact ih8 z53 h52 I52 f52 (by omega) (by omega) (by omega)
                    refine te_lv [(0, .ref 164), (1, .int 0)] rfl rfl ⟨rfl, rfl, trivial⟩ ?_
                    exact lp8 25 0 h5 I5 f5 (by decide) (by decide) (by have cc0 := (show Int32.toInt 0 = 0 from rfl); omega)
                  · refine te_aload_n (p2 := 47) rfl rfl rfl ?_
                    refine tg_r (p2 := 50) (i := 148) (r := 165) rfl rfl I5 rfl rfl rfl ?_
                    refine te_bipush (p2 := 52) (x := 108) rfl rfl (by decide) ?_
                    refine te_iload_n (p2 := 53) rfl rfl rfl ?_
                    refine ar_add (p2 := 54) rfl rfl (show Int32.toInt 108 = 108 from rfl) rfl (by omega) (by omega) (fun z54 e54 f54 => ?_)
                    refine tl_i (p2 := 55) (i := 149) (n := 283) rfl rfl I5 rfl rfl rfl rfl (by omega) (by omega) (fun y55 a55 b55 g55 e55 => ?_)
                    refine te_iconst (p2 := 56) (x := 1) rfl rfl (by decide) ?_
                    refine tb_ne (p2 := 59) rfl rfl rfl (show Int32.toInt 1 = 1 from rfl) (fun c56 => ?_) (fun c56 => ?_)
                    · refine ar_inc (p2 := 75) (x := v5_1) rfl rfl (by decide) rfl (by decide) rfl (by omega) (by omega) (fun z57 e57 f57 => ?_)
                      show EvP _ _ _ (75, [(1, .int z57), (0, .ref 164)], [], h5) _
                      refine te_goto rfl ?_
                      refine te_lv [(0, .ref 164), (1, .int z57)] rfl rfl ⟨rfl, rfl, trivial⟩ ?_
                      exact ih5 z57 h5 I5 f5 (by omega) (by omega) (by omega)
                    · refine te_aload_n (p2 := 60) rfl rfl rfl ?_
                      refine te_iload_n (p2 := 61) rfl rfl rfl ?_
                      refine cV_mI (p2 := 64) (i := 148) rfl rfl rfl rfl I5 rfl rfl rfl (t_X12_wears (w := v5_1) I5 (by omega) (by omega)) (by decide) (fun y58 h58 I58 g58 r58 => ?_)
                      have f58 := fr_tr (F1 := F_X12_wears) (F := F_X12_goes) f5 g58 (by decide)
                      obtain ⟨a58, b58⟩ := r58
                      refine tz_eq (p2 := 67) rfl rfl rfl (fun c59 => ?_) (fun c59 => ?_)
                      · refine ar_inc (p2 := 75) (x := v5_1) rfl rfl (by decide) rfl (by decide) rfl (by omega) (by omega) (fun z60 e60 f60 => ?_)
                        show EvP _ _ _ (75, [(1, .int z60), (0, .ref 164)], [], h58) _
                        refine te_goto rfl ?_
                        refine te_lv [(0, .ref 164), (1, .int z60)] rfl rfl ⟨rfl, rfl, trivial⟩ ?_
                        exact ih5 z60 h58 I58 f58 (by omega) (by omega) (by omega)
                      · refine te_aload_n (p2 := 68) rfl rfl rfl ?_
                        refine te_iload_n (p2 := 69) rfl rfl rfl ?_
                        refine cV_mV (p2 := 72) (i := 148) rfl rfl rfl rfl I58 rfl rfl rfl (t_X12_falls (w := v5_1) I58 (by omega) (by omega)) (by decide) (fun h61 I61 g61 => ?_)
                        have f61 := fr_tr (F1 := F_X12_falls) (F := F_X12_goes) f58 g61 (by decide)
                        refine ar_inc (p2 := 75) (x := v5_1) rfl rfl (by decide) rfl (by decide) rfl (by omega) (by omega) (fun z62 e62 f62 => ?_)
                        show EvP _ _ _ (75, [(1, .int z62), (0, .ref 164)], [], h61) _
                        refine te_goto rfl ?_
                        refine te_lv [(0, .ref 164), (1, .int z62)] rfl rfl ⟨rfl, rfl, trivial⟩ ?_
                        exact ih5 z62 h61 I61 f61 (by omega) (by omega) (by omega)
              refine te_lv [(0, .ref 164), (1, .int 0)] rfl rfl ⟨rfl, rfl, trivial⟩ ?_
              exact lp5 17 0 h3 I3 f3 (by decide) (by decide) (by have cc0 := (show Int32.toInt 0 = 0 from rfl); omega)
            · refine te_aload_n (p2 := 26) rfl rfl rfl ?_
              refine te_iload_n (p2 := 27) rfl rfl rfl ?_
              refine cV_mV (p2 := 30) (i := 148) rfl rfl rfl rfl I3 rfl rfl rfl (t_X12_goesRail (r := v3_1) I3 (by omega) (by omega)) (by decide) (fun h63 I63 g63 => ?_)
              have f63 := fr_tr (F1 := F_X12_goesRail) (F := F_X12_goes) f3 g63 (by decide)
              refine ar_inc (p2 := 33) (x := v3_1) rfl rfl (by decide) rfl (by decide) rfl (by omega) (by omega) (fun z64 e64 f64 => ?_)
              show EvP _ _ _ (33, [(1, .int z64), (0, .ref 164)], [], h63) _
              refine te_goto rfl ?_
              refine te_lv [(0, .ref 164), (1, .int z64)] rfl rfl ⟨rfl, rfl, trivial⟩ ?_
              exact ih3 z64 h63 I63 f63 (by omega) (by omega) (by omega)
        refine te_lv [(0, .ref 164), (1, .int 0)] rfl rfl ⟨rfl, rfl, trivial⟩ ?_
        exact lp3 4 0 h1 I1 f1 (by decide) (by decide) (by have cc0 := (show Int32.toInt 0 = 0 from rfl); omega)
      · refine te_aload_n (p2 := 8) rfl rfl rfl ?_
        refine te_iload_n (p2 := 9) rfl rfl rfl ?_
        refine cV_mV (p2 := 12) (i := 148) rfl rfl rfl rfl I1 rfl rfl rfl (t_X12_goesRow (r := v1_1) I1 (by omega) (by omega)) (by decide) (fun h65 I65 g65 => ?_)
        have f65 := fr_tr (F1 := F_X12_goesRow) (F := F_X12_goes) f1 g65 (by decide)
        refine ar_inc (p2 := 15) (x := v1_1) rfl rfl (by decide) rfl (by decide) rfl (by omega) (by omega) (fun z66 e66 f66 => ?_)
        show EvP _ _ _ (15, [(1, .int z66), (0, .ref 164)], [], h65) _
        refine te_goto rfl ?_
        refine te_lv [(0, .ref 164), (1, .int z66)] rfl rfl ⟨rfl, rfl, trivial⟩ ?_
        exact ih1 z66 h65 I65 f65 (by omega) (by omega) (by omega)
  refine te_lv [(0, .ref 164), (1, .int 0)] rfl rfl ⟨rfl, rfl, trivial⟩ ?_
  exact lp1 5 0 h hI f0 (by decide) (by decide) (by have cc0 := (show Int32.toInt 0 = 0 from rfl); omega)
abbrev F_X12_run : List (Nat × Nat × Nat) := [(148, 61, 62), (149, 0, 105), (149, 108, 139), (149, 164, 259), (149, 272, 282)]
set_option maxRecDepth 20000 in
set_option maxHeartbeats 4000000 in
theorem t_X12_run {x1 : Int32} {h : im_H} (hI : tI h)  : CaP 9 155 [.ref 164, .int x1] h (mI h F_X12_run (fun _ => True)) := by
  refine cap_of (d := 8) (M := mX12_run) rfl (Nat.le_of_ble_eq_true rfl) ?_
  show EvP im_K0 8 mX12_run (0, [(0, .ref 164), (1, .int x1)], [], h) _
  have f0 : fr F_X12_run h h := fr_rf
  refine te_iload_n (p2 := 1) rfl rfl rfl ?_
  refine te_iconst (p2 := 2) (x := 1) rfl rfl (by decide) ?_
  refine te_bipush (p2 := 4) (x := 60) rfl rfl (by decide) ?_
  refine cS_pI (p2 := 7) rfl rfl rfl rfl (t_X12_in (n := x1) (a := 1) (b := 60) hI ) (by decide) (fun y1 r1 => ?_)
  rcases r1 with ⟨w1, c1⟩ | ⟨w1, c1⟩
  · subst w1
    have cc1_1 := (show Int32.toInt 1 = 1 from rfl)
    have cc1_2 := (show Int32.toInt 60 = 60 from rfl)
    refine tz_ne (p2 := 10) rfl rfl (show Int32.toInt 1 = 1 from rfl) (fun c2 => ?_) (fun c2 => absurd c2 (by omega))
    refine te_aload_n (p2 := 14) rfl rfl rfl ?_
    refine tg_r (p2 := 17) (i := 148) (r := 165) rfl rfl hI rfl rfl rfl ?_
    refine te_bipush (p2 := 19) (x := 105) rfl rfl (by decide) ?_
    refine tl_i (p2 := 20) (i := 149) (n := 283) rfl rfl hI rfl rfl rfl rfl (by decide) (by decide) (fun y3 a3 b3 g3 e3 => ?_)
    refine te_iload_n (p2 := 21) rfl rfl rfl ?_
    refine au_add (p2 := 22) rfl rfl (fun z4 e4 => ?_)
    refine te_sipush (p2 := 25) (x := 2000) rfl rfl (by decide) ?_
    refine tb_le (p2 := 28) rfl rfl rfl (show Int32.toInt 2000 = 2000 from rfl) (fun c5 => ?_) (fun c5 => ?_)
    · refine te_iconst (p2 := 32) (x := 0) rfl rfl (by decide) ?_
      refine te_istore_n (p2 := 33) (lv2 := [(2, .int 0), (0, .ref 164), (1, .int x1)]) rfl rfl (by decide) rfl ?_
      have lp6 : ∀ (n6 : Nat) (v6_2 : Int32) (h6 : im_H), tI h6 → fr F_X12_run h h6 → 0 ≤ v6_2.toInt → v6_2.toInt ≤ 60 → v6_2.toInt ≤ x1.toInt → x1.toInt - v6_2.toInt < (n6 : Int) → EvP im_K0 8 mX12_run (33, [(0, .ref 164), (1, .int x1), (2, .int v6_2)], [], h6) (mI h F_X12_run (fun _ => True)) := by
        intro n6
        induction n6 with
        | zero => intro v6_2 h6 I6 f6 a6_2 b6_2 l6_0 m6; exfalso; omega
        | succ n6 ih6 =>
          intro v6_2 h6 I6 f6 a6_2 b6_2 l6_0 m6
          refine te_iload_n (p2 := 34) rfl rfl rfl ?_
          refine te_iload_n (p2 := 35) rfl rfl rfl ?_
          refine tb_ge (p2 := 38) rfl rfl rfl rfl (fun c7 => ?_) (fun c7 => ?_)
          · refine te_aload_n (p2 := 49) rfl rfl rfl ?_
            refine tg_r (p2 := 52) (i := 148) (r := 165) rfl rfl I6 rfl rfl rfl ?_
            refine te_bipush (p2 := 54) (x := 105) rfl rfl (by decide) ?_
            refine tl_i (p2 := 55) (i := 149) (n := 283) rfl rfl I6 rfl rfl rfl rfl (by decide) (by decide) (fun y8 a8 b8 g8 e8 => ?_)
            exact te_iret rfl rfl ⟨I6, f6, _, rfl, trivial⟩
          · refine te_aload_n (p2 := 39) rfl rfl rfl ?_
            refine cV_mV (p2 := 42) (i := 148) rfl rfl rfl rfl I6 rfl rfl rfl (t_X12_goes  I6 ) (by decide) (fun h9 I9 g9 => ?_)
            have f9 := fr_tr (F1 := F_X12_goes) (F := F_X12_run) f6 g9 (by decide)
            refine ar_inc (p2 := 45) (x := v6_2) rfl rfl (by decide) rfl (by decide) rfl (by omega) (by omega) (fun z10 e10 f10 => ?_)
            show EvP _ _ _ (45, [(2, .int z10), (0, .ref 164), (1, .int x1)], [], h9) _
            refine te_goto rfl ?_
            refine te_lv [(0, .ref 164), (1, .int x1), (2, .int z10)] rfl rfl ⟨rfl, rfl, rfl, trivial⟩ ?_
            exact ih6 z10 h9 I9 f9 (by omega) (by omega) (by omega) (by omega)
      refine te_lv [(0, .ref 164), (1, .int x1), (2, .int 0)] rfl rfl ⟨rfl, rfl, rfl, trivial⟩ ?_
      exact lp6 61 0 h hI f0 (by decide) (by decide) (by have cc0 := (show Int32.toInt 0 = 0 from rfl); omega) (by have cc0 := (show Int32.toInt 0 = 0 from rfl); omega)
    · refine te_bipush (p2 := 30) (x := (-4)) rfl rfl (by decide) ?_
      exact te_iret rfl rfl ⟨hI, f0, _, rfl, trivial⟩
  · subst w1
    have cc1_1 := (show Int32.toInt 1 = 1 from rfl)
    have cc1_2 := (show Int32.toInt 60 = 60 from rfl)
    refine tz_ne (p2 := 10) rfl rfl (show Int32.toInt 0 = 0 from rfl) (fun c11 => absurd c11 (by omega)) (fun c11 => ?_)
    refine te_bipush (p2 := 12) (x := (-2)) rfl rfl (by decide) ?_
    exact te_iret rfl rfl ⟨hI, f0, _, rfl, trivial⟩
abbrev F_X12_personTold : List (Nat × Nat × Nat) := []
set_option maxRecDepth 20000 in
set_option maxHeartbeats 4000000 in
theorem t_X12_personTold {x1 : Int32} {x2 : Int32} {h : im_H} (hI : tI h)  : CaP 8 158 [.ref 164, .int x1, .int x2] h (mI h F_X12_personTold (fun _ => True)) := by
  refine cap_of (d := 7) (M := mX12_personTold) rfl (Nat.le_of_ble_eq_true rfl) ?_
  show EvP im_K0 7 mX12_personTold (0, [(0, .ref 164), (1, .int x1), (2, .int x2)], [], h) _
  have f0 : fr F_X12_personTold h h := fr_rf
  refine te_aload_n (p2 := 1) rfl rfl rfl ?_
  refine te_iload_n (p2 := 2) rfl rfl rfl ?_
  refine cV_pI (p2 := 5) (i := 148) rfl rfl rfl rfl hI rfl rfl rfl (t_X12_isPerson (k := x1) hI) (by decide) (fun y1 r1 => ?_)
  obtain ⟨p1, e1, a1, b1, r1⟩ := r1
  rcases r1 with ⟨w1, c1⟩ | ⟨w1, c1⟩
  · subst w1
    refine tz_ne (p2 := 8) rfl rfl (show Int32.toInt 1 = 1 from rfl) (fun c2 => ?_) (fun c2 => absurd c2 (by omega))
    refine te_iload_n (p2 := 11) rfl rfl rfl ?_
    by_cases c3 : x2.toInt = 0
    · refine te_tsIn (k := 0) (p2 := 52) rfl c3 (by decide) (by decide) rfl (by decide) ?_
      refine te_aload_n (p2 := 53) rfl rfl rfl ?_
      refine tg_r (p2 := 56) (i := 148) (r := 165) rfl rfl hI rfl rfl rfl ?_
      refine te_sipush (p2 := 59) (x := 140) rfl rfl (by decide) ?_
      refine te_iload_n (p2 := 60) rfl rfl rfl ?_
      refine ar_add (p2 := 61) rfl rfl (show Int32.toInt 140 = 140 from rfl) rfl (by omega) (by omega) (fun z4 e4 f4 => ?_)
      refine tl_i (p2 := 62) (i := 149) (n := 283) rfl rfl hI rfl rfl rfl rfl (by omega) (by omega) (fun y5 a5 b5 g5 e5 => ?_)
      exact te_iret rfl rfl ⟨hI, f0, _, rfl, trivial⟩
    · by_cases c6 : x2.toInt = 1
      · refine te_tsIn (k := 1) (p2 := 63) rfl c6 (by decide) (by decide) rfl (by decide) ?_
        refine te_aload_n (p2 := 64) rfl rfl rfl ?_
        refine tg_r (p2 := 67) (i := 148) (r := 165) rfl rfl hI rfl rfl rfl ?_
        refine te_sipush (p2 := 70) (x := 164) rfl rfl (by decide) ?_
        refine te_iload_n (p2 := 71) rfl rfl rfl ?_
        refine ar_add (p2 := 72) rfl rfl (show Int32.toInt 164 = 164 from rfl) rfl (by omega) (by omega) (fun z7 e7 f7 => ?_)
        refine tl_i (p2 := 73) (i := 149) (n := 283) rfl rfl hI rfl rfl rfl rfl (by omega) (by omega) (fun y8 a8 b8 g8 e8 => ?_)
        exact te_iret rfl rfl ⟨hI, f0, _, rfl, trivial⟩
      · by_cases c9 : x2.toInt = 2
        · refine te_tsIn (k := 2) (p2 := 74) rfl c9 (by decide) (by decide) rfl (by decide) ?_
          refine te_aload_n (p2 := 75) rfl rfl rfl ?_
          refine tg_r (p2 := 78) (i := 148) (r := 165) rfl rfl hI rfl rfl rfl ?_
          refine te_sipush (p2 := 81) (x := 188) rfl rfl (by decide) ?_
          refine te_iload_n (p2 := 82) rfl rfl rfl ?_
          refine ar_add (p2 := 83) rfl rfl (show Int32.toInt 188 = 188 from rfl) rfl (by omega) (by omega) (fun z10 e10 f10 => ?_)
          refine tl_i (p2 := 84) (i := 149) (n := 283) rfl rfl hI rfl rfl rfl rfl (by omega) (by omega) (fun y11 a11 b11 g11 e11 => ?_)
          exact te_iret rfl rfl ⟨hI, f0, _, rfl, trivial⟩
        · by_cases c12 : x2.toInt = 3
          · refine te_tsIn (k := 3) (p2 := 85) rfl c12 (by decide) (by decide) rfl (by decide) ?_
            refine te_aload_n (p2 := 86) rfl rfl rfl ?_
            refine tg_r (p2 := 89) (i := 148) (r := 165) rfl rfl hI rfl rfl rfl ?_
            refine te_sipush (p2 := 92) (x := 212) rfl rfl (by decide) ?_
            refine te_iload_n (p2 := 93) rfl rfl rfl ?_
            refine ar_add (p2 := 94) rfl rfl (show Int32.toInt 212 = 212 from rfl) rfl (by omega) (by omega) (fun z13 e13 f13 => ?_)
            refine tl_i (p2 := 95) (i := 149) (n := 283) rfl rfl hI rfl rfl rfl rfl (by omega) (by omega) (fun y14 a14 b14 g14 e14 => ?_)
            exact te_iret rfl rfl ⟨hI, f0, _, rfl, trivial⟩
          · by_cases c15 : x2.toInt = 4
            · refine te_tsIn (k := 4) (p2 := 96) rfl c15 (by decide) (by decide) rfl (by decide) ?_
              refine te_aload_n (p2 := 97) rfl rfl rfl ?_
              refine tg_r (p2 := 100) (i := 148) (r := 165) rfl rfl hI rfl rfl rfl ?_
              refine te_sipush (p2 := 103) (x := 236) rfl rfl (by decide) ?_
              refine te_iload_n (p2 := 104) rfl rfl rfl ?_
              refine ar_add (p2 := 105) rfl rfl (show Int32.toInt 236 = 236 from rfl) rfl (by omega) (by omega) (fun z16 e16 f16 => ?_)
              refine tl_i (p2 := 106) (i := 149) (n := 283) rfl rfl hI rfl rfl rfl rfl (by omega) (by omega) (fun y17 a17 b17 g17 e17 => ?_)
              exact te_iret rfl rfl ⟨hI, f0, _, rfl, trivial⟩
            · by_cases c18 : x2.toInt = 5
              · refine te_tsIn (k := 5) (p2 := 107) rfl c18 (by decide) (by decide) rfl (by decide) ?_
                refine te_aload_n (p2 := 108) rfl rfl rfl ?_
                refine te_iload_n (p2 := 109) rfl rfl rfl ?_
                refine cV_pI (p2 := 112) (i := 148) rfl rfl rfl rfl hI rfl rfl rfl (t_X12_passes (k := x1) hI (by omega) (by omega)) (by decide) (fun y19 r19 => ?_)
                exact te_iret rfl rfl ⟨hI, f0, _, rfl, trivial⟩
              · by_cases c20 : x2.toInt = 6
                · refine te_tsIn (k := 6) (p2 := 113) rfl c20 (by decide) (by decide) rfl (by decide) ?_
                  refine te_aload_n (p2 := 114) rfl rfl rfl ?_
                  refine te_iload_n (p2 := 115) rfl rfl rfl ?_
                  refine cV_pI (p2 := 118) (i := 148) rfl rfl rfl rfl hI rfl rfl rfl (t_X12_isAt (k := x1) hI (by omega) (by omega)) (by decide) (fun y21 r21 => ?_)
                  exact te_iret rfl rfl ⟨hI, f0, _, rfl, trivial⟩
                · refine te_tsOut (p2 := 119) rfl (by omega) (by decide) ?_
                  refine te_bipush (p2 := 121) (x := (-2)) rfl rfl (by decide) ?_
                  exact te_iret rfl rfl ⟨hI, f0, _, rfl, trivial⟩
  · subst w1
    refine tz_ne (p2 := 8) rfl rfl (show Int32.toInt 0 = 0 from rfl) (fun c22 => absurd c22 (by omega)) (fun c22 => ?_)
    refine te_iconst (p2 := 9) (x := (-1)) rfl rfl (by decide) ?_
    exact te_iret rfl rfl ⟨hI, f0, _, rfl, trivial⟩
abbrev F_X12_pull : List (Nat × Nat × Nat) := [(148, 61, 62), (149, 0, 99), (149, 108, 123), (149, 164, 187), (149, 236, 259)]
set_option maxRecDepth 20000 in
set_option maxHeartbeats 4000000 in
theorem t_X12_pull {x1 : Int32} {h : im_H} (hI : tI h)  : CaP 8 165 [.ref 164, .int x1] h (mI h F_X12_pull (fun _ => True)) := by
  refine cap_of (d := 7) (M := mX12_pull) rfl (Nat.le_of_ble_eq_true rfl) ?_
  show EvP im_K0 7 mX12_pull (0, [(0, .ref 164), (1, .int x1)], [], h) _
  have f0 : fr F_X12_pull h h := fr_rf
  refine te_aload_n (p2 := 1) rfl rfl rfl ?_
  refine te_iload_n (p2 := 2) rfl rfl rfl ?_
  refine cV_pI (p2 := 5) (i := 148) rfl rfl rfl rfl hI rfl rfl rfl (t_X12_isWall (k := x1) hI) (by decide) (fun y1 r1 => ?_)
  obtain ⟨p1, e1, a1, b1, r1⟩ := r1
  rcases r1 with ⟨w1, c1⟩ | ⟨w1, c1⟩
  · subst w1
    refine tz_ne (p2 := 8) rfl rfl (show Int32.toInt 1 = 1 from rfl) (fun c2 => ?_) (fun c2 => absurd c2 (by omega))
    refine te_aload_n (p2 := 11) rfl rfl rfl ?_
    refine tg_r (p2 := 14) (i := 148) (r := 165) rfl rfl hI rfl rfl rfl ?_
    refine te_bipush (p2 := 16) (x := 108) rfl rfl (by decide) ?_
    refine te_iload_n (p2 := 17) rfl rfl rfl ?_
    refine ar_add (p2 := 18) rfl rfl (show Int32.toInt 108 = 108 from rfl) rfl (by omega) (by omega) (fun z3 e3 f3 => ?_)
    refine tl_i (p2 := 19) (i := 149) (n := 283) rfl rfl hI rfl rfl rfl rfl (by omega) (by omega) (fun y4 a4 b4 g4 e4 => ?_)
    refine tz_ne (p2 := 22) rfl rfl rfl (fun c5 => ?_) (fun c5 => ?_)
    · refine te_aload_n (p2 := 26) rfl rfl rfl ?_
      refine te_iload_n (p2 := 27) rfl rfl rfl ?_
      refine cV_mV (p2 := 30) (i := 148) rfl rfl rfl rfl hI rfl rfl rfl (t_X12_falls (w := x1) hI (by omega) (by omega)) (by decide) (fun h6 I6 g6 => ?_)
      have f6 := fr_tr (F1 := F_X12_falls) (F := F_X12_pull) f0 g6 (by decide)
      refine te_bipush (p2 := 32) (x := 100) rfl rfl (by decide) ?_
      refine te_aload_n (p2 := 33) rfl rfl rfl ?_
      refine tg_i (p2 := 36) (i := 148) rfl rfl I6 rfl rfl rfl (fun y7 a7 b7 e7 => ?_)
      refine au_mul (p2 := 37) rfl rfl (fun z8 e8 => ?_)
      refine te_aload_n (p2 := 38) rfl rfl rfl ?_
      refine tg_i (p2 := 41) (i := 148) rfl rfl I6 rfl rfl rfl (fun y9 a9 b9 e9 => ?_)
      refine au_add (p2 := 42) rfl rfl (fun z10 e10 => ?_)
      exact te_iret rfl rfl ⟨I6, f6, _, rfl, trivial⟩
    · refine te_bipush (p2 := 24) (x := (-3)) rfl rfl (by decide) ?_
      exact te_iret rfl rfl ⟨hI, f0, _, rfl, trivial⟩
  · subst w1
    refine tz_ne (p2 := 8) rfl rfl (show Int32.toInt 0 = 0 from rfl) (fun c11 => absurd c11 (by omega)) (fun c11 => ?_)
    refine te_iconst (p2 := 9) (x := (-1)) rfl rfl (by decide) ?_
    exact te_iret rfl rfl ⟨hI, f0, _, rfl, trivial⟩
abbrev F_X12_count : List (Nat × Nat × Nat) := []
set_option maxRecDepth 20000 in
set_option maxHeartbeats 4000000 in
theorem t_X12_count {x1 : Int32} {h : im_H} (hI : tI h)  : CaP 3 164 [.ref 164, .int x1] h (mI h F_X12_count (fun _ => True)) := by
  refine cap_of (d := 2) (M := mX12_count) rfl (Nat.le_of_ble_eq_true rfl) ?_
  show EvP im_K0 2 mX12_count (0, [(0, .ref 164), (1, .int x1)], [], h) _
  have f0 : fr F_X12_count h h := fr_rf
  refine te_iload_n (p2 := 1) rfl rfl rfl ?_
  by_cases c1 : x1.toInt = 0
  · refine te_tsIn (k := 0) (p2 := 72) rfl c1 (by decide) (by decide) rfl (by decide) ?_
    refine te_aload_n (p2 := 73) rfl rfl rfl ?_
    refine tg_r (p2 := 76) (i := 148) (r := 165) rfl rfl hI rfl rfl rfl ?_
    refine te_bipush (p2 := 78) (x := 105) rfl rfl (by decide) ?_
    refine tl_i (p2 := 79) (i := 149) (n := 283) rfl rfl hI rfl rfl rfl rfl (by decide) (by decide) (fun y2 a2 b2 g2 e2 => ?_)
    exact te_iret rfl rfl ⟨hI, f0, _, rfl, trivial⟩
  · by_cases c3 : x1.toInt = 1
    · refine te_tsIn (k := 1) (p2 := 80) rfl c3 (by decide) (by decide) rfl (by decide) ?_
      refine te_aload_n (p2 := 81) rfl rfl rfl ?_
      refine te_iconst (p2 := 82) (x := 0) rfl rfl (by decide) ?_
      refine te_bipush (p2 := 84) (x := 100) rfl rfl (by decide) ?_
      refine cV_pI (p2 := 87) (i := 148) rfl rfl rfl rfl hI rfl rfl rfl (t_X12_sum (frm := 0) (many := 100) hI (by decide) (by decide) (by decide) (by decide) (by have cq1 := (show Int32.toInt 0 = 0 from rfl); have cq2 := (show Int32.toInt 100 = 100 from rfl); omega)) (by decide) (fun y4 r4 => ?_)
      exact te_iret rfl rfl ⟨hI, f0, _, rfl, trivial⟩
    · by_cases c5 : x1.toInt = 2
      · refine te_tsIn (k := 2) (p2 := 88) rfl c5 (by decide) (by decide) rfl (by decide) ?_
        refine te_aload_n (p2 := 89) rfl rfl rfl ?_
        refine tg_r (p2 := 92) (i := 148) (r := 165) rfl rfl hI rfl rfl rfl ?_
        refine te_bipush (p2 := 94) (x := 104) rfl rfl (by decide) ?_
        refine tl_i (p2 := 95) (i := 149) (n := 283) rfl rfl hI rfl rfl rfl rfl (by decide) (by decide) (fun y6 a6 b6 g6 e6 => ?_)
        exact te_iret rfl rfl ⟨hI, f0, _, rfl, trivial⟩
      · by_cases c7 : x1.toInt = 3
        · refine te_tsIn (k := 3) (p2 := 96) rfl c7 (by decide) (by decide) rfl (by decide) ?_
          refine te_aload_n (p2 := 97) rfl rfl rfl ?_
          refine tg_r (p2 := 100) (i := 148) (r := 165) rfl rfl hI rfl rfl rfl ?_
          refine te_bipush (p2 := 102) (x := 103) rfl rfl (by decide) ?_
          refine tl_i (p2 := 103) (i := 149) (n := 283) rfl rfl hI rfl rfl rfl rfl (by decide) (by decide) (fun y8 a8 b8 g8 e8 => ?_)
          exact te_iret rfl rfl ⟨hI, f0, _, rfl, trivial⟩
        · by_cases c9 : x1.toInt = 4
          · refine te_tsIn (k := 4) (p2 := 104) rfl c9 (by decide) (by decide) rfl (by decide) ?_
            refine te_aload_n (p2 := 105) rfl rfl rfl ?_
            refine tg_r (p2 := 108) (i := 148) (r := 165) rfl rfl hI rfl rfl rfl ?_
            refine te_bipush (p2 := 110) (x := 100) rfl rfl (by decide) ?_
            refine te_iload_n (p2 := 111) rfl rfl rfl ?_
            refine ar_add (p2 := 112) rfl rfl (show Int32.toInt 100 = 100 from rfl) rfl (by omega) (by omega) (fun z10 e10 f10 => ?_)
            refine te_iconst (p2 := 113) (x := 4) rfl rfl (by decide) ?_
            refine ar_sub (p2 := 114) rfl rfl rfl (show Int32.toInt 4 = 4 from rfl) (by omega) (by omega) (fun z11 e11 f11 => ?_)
            refine tl_i (p2 := 115) (i := 149) (n := 283) rfl rfl hI rfl rfl rfl rfl (by omega) (by omega) (fun y12 a12 b12 g12 e12 => ?_)
            exact te_iret rfl rfl ⟨hI, f0, _, rfl, trivial⟩
          · by_cases c13 : x1.toInt = 5
            · refine te_tsIn (k := 5) (p2 := 104) rfl c13 (by decide) (by decide) rfl (by decide) ?_
              refine te_aload_n (p2 := 105) rfl rfl rfl ?_
              refine tg_r (p2 := 108) (i := 148) (r := 165) rfl rfl hI rfl rfl rfl ?_
              refine te_bipush (p2 := 110) (x := 100) rfl rfl (by decide) ?_
              refine te_iload_n (p2 := 111) rfl rfl rfl ?_
              refine ar_add (p2 := 112) rfl rfl (show Int32.toInt 100 = 100 from rfl) rfl (by omega) (by omega) (fun z14 e14 f14 => ?_)
              refine te_iconst (p2 := 113) (x := 4) rfl rfl (by decide) ?_
              refine ar_sub (p2 := 114) rfl rfl rfl (show Int32.toInt 4 = 4 from rfl) (by omega) (by omega) (fun z15 e15 f15 => ?_)
              refine tl_i (p2 := 115) (i := 149) (n := 283) rfl rfl hI rfl rfl rfl rfl (by omega) (by omega) (fun y16 a16 b16 g16 e16 => ?_)
              exact te_iret rfl rfl ⟨hI, f0, _, rfl, trivial⟩
            · by_cases c17 : x1.toInt = 6
              · refine te_tsIn (k := 6) (p2 := 104) rfl c17 (by decide) (by decide) rfl (by decide) ?_
                refine te_aload_n (p2 := 105) rfl rfl rfl ?_
                refine tg_r (p2 := 108) (i := 148) (r := 165) rfl rfl hI rfl rfl rfl ?_
                refine te_bipush (p2 := 110) (x := 100) rfl rfl (by decide) ?_
                refine te_iload_n (p2 := 111) rfl rfl rfl ?_
                refine ar_add (p2 := 112) rfl rfl (show Int32.toInt 100 = 100 from rfl) rfl (by omega) (by omega) (fun z18 e18 f18 => ?_)
                refine te_iconst (p2 := 113) (x := 4) rfl rfl (by decide) ?_
                refine ar_sub (p2 := 114) rfl rfl rfl (show Int32.toInt 4 = 4 from rfl) (by omega) (by omega) (fun z19 e19 f19 => ?_)
                refine tl_i (p2 := 115) (i := 149) (n := 283) rfl rfl hI rfl rfl rfl rfl (by omega) (by omega) (fun y20 a20 b20 g20 e20 => ?_)
                exact te_iret rfl rfl ⟨hI, f0, _, rfl, trivial⟩
              · by_cases c21 : x1.toInt = 7
                · refine te_tsIn (k := 7) (p2 := 116) rfl c21 (by decide) (by decide) rfl (by decide) ?_
                  refine te_aload_n (p2 := 117) rfl rfl rfl ?_
                  refine tg_i (p2 := 120) (i := 148) rfl rfl hI rfl rfl rfl (fun y22 a22 b22 e22 => ?_)
                  exact te_iret rfl rfl ⟨hI, f0, _, rfl, trivial⟩
                · by_cases c23 : x1.toInt = 8
                  · refine te_tsIn (k := 8) (p2 := 121) rfl c23 (by decide) (by decide) rfl (by decide) ?_
                    refine te_aload_n (p2 := 122) rfl rfl rfl ?_
                    refine te_sipush (p2 := 125) (x := 236) rfl rfl (by decide) ?_
                    refine te_aload_n (p2 := 126) rfl rfl rfl ?_
                    refine tg_i (p2 := 129) (i := 148) rfl rfl hI rfl rfl rfl (fun y24 a24 b24 e24 => ?_)
                    refine cV_pI (p2 := 132) (i := 148) rfl rfl rfl rfl hI rfl rfl rfl (t_X12_sum (frm := 236) (many := y24) hI (by decide) (by decide) (by omega) (by omega) (by have cq1 := (show Int32.toInt 236 = 236 from rfl); omega)) (by decide) (fun y25 r25 => ?_)
                    exact te_iret rfl rfl ⟨hI, f0, _, rfl, trivial⟩
                  · by_cases c26 : x1.toInt = 9
                    · refine te_tsIn (k := 9) (p2 := 133) rfl c26 (by decide) (by decide) rfl (by decide) ?_
                      refine te_aload_n (p2 := 134) rfl rfl rfl ?_
                      refine tg_i (p2 := 137) (i := 148) rfl rfl hI rfl rfl rfl (fun y27 a27 b27 e27 => ?_)
                      exact te_iret rfl rfl ⟨hI, f0, _, rfl, trivial⟩
                    · by_cases c28 : x1.toInt = 10
                      · refine te_tsIn (k := 10) (p2 := 138) rfl c28 (by decide) (by decide) rfl (by decide) ?_
                        refine te_aload_n (p2 := 139) rfl rfl rfl ?_
                        refine tg_i (p2 := 142) (i := 148) rfl rfl hI rfl rfl rfl (fun y29 a29 b29 e29 => ?_)
                        exact te_iret rfl rfl ⟨hI, f0, _, rfl, trivial⟩
                      · by_cases c30 : x1.toInt = 11
                        · refine te_tsIn (k := 11) (p2 := 143) rfl c30 (by decide) (by decide) rfl (by decide) ?_
                          refine te_aload_n (p2 := 144) rfl rfl rfl ?_
                          refine tg_i (p2 := 147) (i := 148) rfl rfl hI rfl rfl rfl (fun y31 a31 b31 e31 => ?_)
                          exact te_iret rfl rfl ⟨hI, f0, _, rfl, trivial⟩
                        · by_cases c32 : x1.toInt = 12
                          · refine te_tsIn (k := 12) (p2 := 148) rfl c32 (by decide) (by decide) rfl (by decide) ?_
                            refine te_aload_n (p2 := 149) rfl rfl rfl ?_
                            refine tg_i (p2 := 152) (i := 148) rfl rfl hI rfl rfl rfl (fun y33 a33 b33 e33 => ?_)
                            exact te_iret rfl rfl ⟨hI, f0, _, rfl, trivial⟩
                          · by_cases c34 : x1.toInt = 13
                            · refine te_tsIn (k := 13) (p2 := 153) rfl c34 (by decide) (by decide) rfl (by decide) ?_
                              refine te_aload_n (p2 := 154) rfl rfl rfl ?_
                              refine tg_i (p2 := 157) (i := 148) rfl rfl hI rfl rfl rfl (fun y35 a35 b35 e35 => ?_)
                              exact te_iret rfl rfl ⟨hI, f0, _, rfl, trivial⟩
                            · refine te_tsOut (p2 := 158) rfl (by omega) (by decide) ?_
                              refine te_bipush (p2 := 160) (x := (-2)) rfl rfl (by decide) ?_
                              exact te_iret rfl rfl ⟨hI, f0, _, rfl, trivial⟩
abbrev F_X12_cell : List (Nat × Nat × Nat) := [(194, 0, 159)]
set_option maxRecDepth 20000 in
set_option maxHeartbeats 4000000 in
theorem t_X12_cell {x1 : Int32} {x2 : Int32} {x3 : Int32} {h : im_H} (hI : tI h)  : CaP 3 192 [.ref 164, .int x1, .int x2, .int x3] h (mI h F_X12_cell (fun _ => True)) := by
  refine cap_of (d := 2) (M := mX12_cell) rfl (Nat.le_of_ble_eq_true rfl) ?_
  show EvP im_K0 2 mX12_cell (0, [(0, .ref 164), (1, .int x1), (2, .int x2), (3, .int x3)], [], h) _
  have f0 : fr F_X12_cell h h := fr_rf
  refine te_iload_n (p2 := 1) rfl rfl rfl ?_
  refine te_iconst (p2 := 2) (x := 0) rfl rfl (by decide) ?_
  refine te_iconst (p2 := 3) (x := 3) rfl rfl (by decide) ?_
  refine cS_pI (p2 := 6) rfl rfl rfl rfl (t_X12_in (n := x1) (a := 0) (b := 3) hI ) (by decide) (fun y1 r1 => ?_)
  rcases r1 with ⟨w1, c1⟩ | ⟨w1, c1⟩
  · subst w1
    have cc1_1 := (show Int32.toInt 0 = 0 from rfl)
    have cc1_2 := (show Int32.toInt 3 = 3 from rfl)
    refine tz_ne (p2 := 9) rfl rfl (show Int32.toInt 1 = 1 from rfl) (fun c2 => ?_) (fun c2 => absurd c2 (by omega))
    refine te_aload_n (p2 := 13) rfl rfl rfl ?_
    refine tg_r (p2 := 16) (i := 148) (r := 208) rfl rfl hI rfl rfl rfl ?_
    refine te_iload_n (p2 := 17) rfl rfl rfl ?_
    refine tl_i (p2 := 18) (i := 192) (n := 4) rfl rfl hI rfl rfl rfl rfl (by omega) (by omega) (fun y3 a3 b3 g3 e3 => ?_)
    refine te_iconst (p2 := 19) (x := (-1)) rfl rfl (by decide) ?_
    refine tb_ne (p2 := 22) rfl rfl rfl (show Int32.toInt (-1) = (-1) from rfl) (fun c4 => ?_) (fun c4 => ?_)
    · refine te_iload_n (p2 := 26) rfl rfl rfl ?_
      refine te_iconst (p2 := 27) (x := 0) rfl rfl (by decide) ?_
      refine te_aload_n (p2 := 28) rfl rfl rfl ?_
      refine tg_r (p2 := 31) (i := 148) (r := 209) rfl rfl hI rfl rfl rfl ?_
      refine te_iload_n (p2 := 32) rfl rfl rfl ?_
      refine tl_i (p2 := 33) (i := 193) (n := 4) rfl rfl hI rfl rfl rfl rfl (by omega) (by omega) (fun y5 a5 b5 g5 e5 => ?_)
      refine te_iconst (p2 := 34) (x := 1) rfl rfl (by decide) ?_
      refine ar_sub (p2 := 35) rfl rfl rfl (show Int32.toInt 1 = 1 from rfl) (by omega) (by omega) (fun z6 e6 f6 => ?_)
      refine cS_pI (p2 := 38) rfl rfl rfl rfl (t_X12_in (n := x2) (a := 0) (b := z6) hI ) (by decide) (fun y7 r7 => ?_)
      rcases r7 with ⟨w7, c7⟩ | ⟨w7, c7⟩
      · subst w7
        have cc7_1 := (show Int32.toInt 0 = 0 from rfl)
        refine tz_ne (p2 := 41) rfl rfl (show Int32.toInt 1 = 1 from rfl) (fun c8 => ?_) (fun c8 => absurd c8 (by omega))
        refine te_aload_n (p2 := 45) rfl rfl rfl ?_
        refine tg_r (p2 := 48) (i := 148) (r := 210) rfl rfl hI rfl rfl rfl ?_
        refine te_bipush (p2 := 50) (x := 40) rfl rfl (by decide) ?_
        refine te_iload_n (p2 := 51) rfl rfl rfl ?_
        refine ar_mul (p2 := 52) rfl rfl (show Int32.toInt 40 = 40 from rfl) rfl (by omega) (by omega) (fun z9 e9 f9 => ?_)
        refine te_iload_n (p2 := 53) rfl rfl rfl ?_
        refine ar_add (p2 := 54) rfl rfl rfl rfl (by omega) (by omega) (fun z10 e10 f10 => ?_)
        refine te_aload_n (p2 := 55) rfl rfl rfl ?_
        refine tg_r (p2 := 58) (i := 148) (r := 208) rfl rfl hI rfl rfl rfl ?_
        refine te_iload_n (p2 := 59) rfl rfl rfl ?_
        refine tl_e (p2 := 60) (i := 192) (n := 4) (t := 0) (Or.inl rfl) rfl rfl hI rfl rfl (by omega) (by omega) e3 ?_
        refine tz_ne (p2 := 63) rfl rfl rfl (fun c12 => ?_) (fun c12 => ?_)
        · refine te_aload_n (p2 := 69) rfl rfl rfl ?_
          refine tg_r (p2 := 72) (i := 148) (r := 208) rfl rfl hI rfl rfl rfl ?_
          refine te_iload_n (p2 := 73) rfl rfl rfl ?_
          refine tl_e (p2 := 74) (i := 192) (n := 4) (t := 0) (Or.inl rfl) rfl rfl hI rfl rfl (by omega) (by omega) e3 ?_
          refine te_iconst (p2 := 75) (x := 1) rfl rfl (by decide) ?_
          refine tb_ne (p2 := 78) rfl rfl rfl (show Int32.toInt 1 = 1 from rfl) (fun c14 => ?_) (fun c14 => ?_)
          · refine te_iload_n (p2 := 84) rfl rfl rfl ?_
            refine ts_i (p2 := 85) (i := 194) (n := 160) rfl rfl hI rfl rfl rfl rfl (by omega) (by omega) (i32_lo _) (i32_hi _) (i32_ho _) rfl (fun h15 I15 u15 => ?_)
            have f15 := fr_st (F := F_X12_cell) 0 f0 u15 rfl (by omega) (by omega)
            refine te_iconst (p2 := 86) (x := 1) rfl rfl (by decide) ?_
            exact te_iret rfl rfl ⟨I15, f15, _, rfl, trivial⟩
          · refine te_iload_n (p2 := 79) rfl rfl rfl ?_
            obtain ⟨z16, e16⟩ : ∃ z, (Int16.toInt32 (Int32.toInt16 x3)) = z := ⟨_, rfl⟩
            refine te_i2s (p2 := 80) rfl rfl e16 ?_
            refine te_goto rfl ?_
            refine ts_i (p2 := 85) (i := 194) (n := 160) rfl rfl hI rfl rfl rfl rfl (by omega) (by omega) (i32_lo _) (i32_hi _) (i32_ho _) rfl (fun h17 I17 u17 => ?_)
            have f17 := fr_st (F := F_X12_cell) 0 f0 u17 rfl (by omega) (by omega)
            refine te_iconst (p2 := 86) (x := 1) rfl rfl (by decide) ?_
            exact te_iret rfl rfl ⟨I17, f17, _, rfl, trivial⟩
        · refine te_iload_n (p2 := 64) rfl rfl rfl ?_
          obtain ⟨z18, e18⟩ : ∃ z, (Int8.toInt32 (Int32.toInt8 x3)) = z := ⟨_, rfl⟩
          refine te_i2b (p2 := 65) rfl rfl e18 ?_
          refine te_goto rfl ?_
          refine ts_i (p2 := 85) (i := 194) (n := 160) rfl rfl hI rfl rfl rfl rfl (by omega) (by omega) (i32_lo _) (i32_hi _) (i32_ho _) rfl (fun h19 I19 u19 => ?_)
          have f19 := fr_st (F := F_X12_cell) 0 f0 u19 rfl (by omega) (by omega)
          refine te_iconst (p2 := 86) (x := 1) rfl rfl (by decide) ?_
          exact te_iret rfl rfl ⟨I19, f19, _, rfl, trivial⟩
      · subst w7
        have cc7_1 := (show Int32.toInt 0 = 0 from rfl)
        refine tz_ne (p2 := 41) rfl rfl (show Int32.toInt 0 = 0 from rfl) (fun c20 => absurd c20 (by omega)) (fun c20 => ?_)
        refine te_bipush (p2 := 43) (x := (-12)) rfl rfl (by decide) ?_
        exact te_iret rfl rfl ⟨hI, f0, _, rfl, trivial⟩
    · refine te_bipush (p2 := 24) (x := (-11)) rfl rfl (by decide) ?_
      exact te_iret rfl rfl ⟨hI, f0, _, rfl, trivial⟩
  · subst w1
    have cc1_1 := (show Int32.toInt 0 = 0 from rfl)
    have cc1_2 := (show Int32.toInt 3 = 3 from rfl)
    refine tz_ne (p2 := 9) rfl rfl (show Int32.toInt 0 = 0 from rfl) (fun c21 => absurd c21 (by omega)) (fun c21 => ?_)
    refine te_bipush (p2 := 11) (x := (-2)) rfl rfl (by decide) ?_
    exact te_iret rfl rfl ⟨hI, f0, _, rfl, trivial⟩
abbrev F_X12_taken : List (Nat × Nat × Nat) := []
set_option maxRecDepth 20000 in
set_option maxHeartbeats 4000000 in
theorem t_X12_taken {x1 : Int32} {x2 : Int32} {h : im_H} (hI : tI h)  : CaP 3 196 [.ref 164, .int x1, .int x2] h (mI h F_X12_taken (fun _ => True)) := by
  refine cap_of (d := 2) (M := mX12_taken) rfl (Nat.le_of_ble_eq_true rfl) ?_
  show EvP im_K0 2 mX12_taken (0, [(0, .ref 164), (1, .int x1), (2, .int x2)], [], h) _
  have f0 : fr F_X12_taken h h := fr_rf
  refine te_iload_n (p2 := 1) rfl rfl rfl ?_
  refine te_iconst (p2 := 2) (x := 0) rfl rfl (by decide) ?_
  refine te_iconst (p2 := 3) (x := 5) rfl rfl (by decide) ?_
  refine cS_pI (p2 := 6) rfl rfl rfl rfl (t_X12_in (n := x2) (a := 0) (b := 5) hI ) (by decide) (fun y1 r1 => ?_)
  rcases r1 with ⟨w1, c1⟩ | ⟨w1, c1⟩
  · subst w1
    have cc1_1 := (show Int32.toInt 0 = 0 from rfl)
    have cc1_2 := (show Int32.toInt 5 = 5 from rfl)
    refine tz_ne (p2 := 9) rfl rfl (show Int32.toInt 1 = 1 from rfl) (fun c2 => ?_) (fun c2 => absurd c2 (by omega))
    refine te_iload_n (p2 := 13) rfl rfl rfl ?_
    refine cS_pI (p2 := 16) rfl rfl rfl rfl (t_X12_isCell (n := x1) hI ) (by decide) (fun y3 r3 => ?_)
    rcases r3 with ⟨w3, c3⟩ | ⟨w3, c3⟩
    · subst w3
      refine tz_ne (p2 := 19) rfl rfl (show Int32.toInt 1 = 1 from rfl) (fun c4 => ?_) (fun c4 => absurd c4 (by omega))
      refine te_aload_n (p2 := 23) rfl rfl rfl ?_
      refine tg_r (p2 := 26) (i := 148) (r := 168) rfl rfl hI rfl rfl rfl ?_
      refine te_iload_n (p2 := 27) rfl rfl rfl ?_
      refine tl_i (p2 := 28) (i := 152) (n := 100) rfl rfl hI rfl rfl rfl rfl (by omega) (by omega) (fun y5 a5 b5 g5 e5 => ?_)
      refine te_iconst (p2 := 29) (x := (-1)) rfl rfl (by decide) ?_
      refine tb_ne (p2 := 32) rfl rfl rfl (show Int32.toInt (-1) = (-1) from rfl) (fun c6 => ?_) (fun c6 => ?_)
      · refine te_aload_n (p2 := 49) rfl rfl rfl ?_
        refine tg_r (p2 := 52) (i := 148) (r := 168) rfl rfl hI rfl rfl rfl ?_
        refine te_iload_n (p2 := 53) rfl rfl rfl ?_
        refine tl_e (p2 := 54) (i := 152) (n := 100) (t := 0) (Or.inl rfl) rfl rfl hI rfl rfl (by omega) (by omega) e5 ?_
        refine te_iload_n (p2 := 55) rfl rfl rfl ?_
        refine cS_pI (p2 := 58) rfl rfl rfl rfl (t_X12_isUnder (k := y5) (of := x2) hI ) (by decide) (fun y8 r8 => ?_)
        obtain ⟨a8, b8⟩ := r8
        refine tz_eq (p2 := 61) rfl rfl rfl (fun c9 => ?_) (fun c9 => ?_)
        · refine te_bipush (p2 := 77) (x := (-13)) rfl rfl (by decide) ?_
          exact te_iret rfl rfl ⟨hI, f0, _, rfl, trivial⟩
        · refine te_aload_n (p2 := 62) rfl rfl rfl ?_
          refine tg_r (p2 := 65) (i := 148) (r := 169) rfl rfl hI rfl rfl rfl ?_
          refine te_aload_n (p2 := 66) rfl rfl rfl ?_
          refine tg_r (p2 := 69) (i := 148) (r := 168) rfl rfl hI rfl rfl rfl ?_
          refine te_iload_n (p2 := 70) rfl rfl rfl ?_
          refine tl_e (p2 := 71) (i := 152) (n := 100) (t := 0) (Or.inl rfl) rfl rfl hI rfl rfl (by omega) (by omega) e5 ?_
          refine tl_i (p2 := 72) (i := 153) (n := 6) rfl rfl hI rfl rfl rfl rfl (by omega) (by omega) (fun y11 a11 b11 g11 e11 => ?_)
          refine te_goto rfl ?_
          exact te_iret rfl rfl ⟨hI, f0, _, rfl, trivial⟩
      · refine te_iload_n (p2 := 33) rfl rfl rfl ?_
        refine te_aload_n (p2 := 34) rfl rfl rfl ?_
        refine tg_i (p2 := 37) (i := 148) rfl rfl hI rfl rfl rfl (fun y12 a12 b12 e12 => ?_)
        refine tb_ne (p2 := 40) rfl rfl rfl rfl (fun c13 => ?_) (fun c13 => ?_)
        · refine te_bipush (p2 := 47) (x := (-11)) rfl rfl (by decide) ?_
          exact te_iret rfl rfl ⟨hI, f0, _, rfl, trivial⟩
        · refine te_bipush (p2 := 42) (x := (-13)) rfl rfl (by decide) ?_
          refine te_goto rfl ?_
          exact te_iret rfl rfl ⟨hI, f0, _, rfl, trivial⟩
    · subst w3
      refine tz_ne (p2 := 19) rfl rfl (show Int32.toInt 0 = 0 from rfl) (fun c14 => absurd c14 (by omega)) (fun c14 => ?_)
      refine te_bipush (p2 := 21) (x := (-12)) rfl rfl (by decide) ?_
      exact te_iret rfl rfl ⟨hI, f0, _, rfl, trivial⟩
  · subst w1
    have cc1_1 := (show Int32.toInt 0 = 0 from rfl)
    have cc1_2 := (show Int32.toInt 5 = 5 from rfl)
    refine tz_ne (p2 := 9) rfl rfl (show Int32.toInt 0 = 0 from rfl) (fun c15 => absurd c15 (by omega)) (fun c15 => ?_)
    refine te_bipush (p2 := 11) (x := (-2)) rfl rfl (by decide) ?_
    exact te_iret rfl rfl ⟨hI, f0, _, rfl, trivial⟩
abbrev F_X12_owner : List (Nat × Nat × Nat) := []
set_option maxRecDepth 20000 in
set_option maxHeartbeats 4000000 in
theorem t_X12_owner {x1 : Int32} {x2 : Int32} {x3 : Int32} {h : im_H} (hI : tI h)  : CaP 3 184 [.ref 164, .int x1, .int x2, .int x3] h (mI h F_X12_owner (fun y => (-5) ≤ y.toInt ∧ y.toInt ≤ 23)) := by
  refine cap_of (d := 2) (M := mX12_owner) rfl (Nat.le_of_ble_eq_true rfl) ?_
  show EvP im_K0 2 mX12_owner (0, [(0, .ref 164), (1, .int x1), (2, .int x2), (3, .int x3)], [], h) _
  have f0 : fr F_X12_owner h h := fr_rf
  refine te_iload_n (p2 := 1) rfl rfl rfl ?_
  refine te_iconst (p2 := 2) (x := 0) rfl rfl (by decide) ?_
  refine te_bipush (p2 := 4) (x := 11) rfl rfl (by decide) ?_
  refine cS_pI (p2 := 7) rfl rfl rfl rfl (t_X12_in (n := x1) (a := 0) (b := 11) hI ) (by decide) (fun y1 r1 => ?_)
  rcases r1 with ⟨w1, c1⟩ | ⟨w1, c1⟩
  · subst w1
    have cc1_1 := (show Int32.toInt 0 = 0 from rfl)
    have cc1_2 := (show Int32.toInt 11 = 11 from rfl)
    refine tz_ne (p2 := 10) rfl rfl (show Int32.toInt 1 = 1 from rfl) (fun c2 => ?_) (fun c2 => absurd c2 (by omega))
    refine te_iload_n (p2 := 14) rfl rfl rfl ?_
    refine te_iconst (p2 := 15) (x := 0) rfl rfl (by decide) ?_
    refine te_sipush (p2 := 18) (x := 2000) rfl rfl (by decide) ?_
    refine cS_pI (p2 := 21) rfl rfl rfl rfl (t_X12_in (n := x2) (a := 0) (b := 2000) hI ) (by decide) (fun y3 r3 => ?_)
    rcases r3 with ⟨w3, c3⟩ | ⟨w3, c3⟩
    · subst w3
      have cc3_1 := (show Int32.toInt 0 = 0 from rfl)
      have cc3_2 := (show Int32.toInt 2000 = 2000 from rfl)
      refine tz_eq (p2 := 24) rfl rfl (show Int32.toInt 1 = 1 from rfl) (fun c4 => absurd c4 (by omega)) (fun c4 => ?_)
      refine te_iload_n (p2 := 25) rfl rfl rfl ?_
      refine te_iconst (p2 := 26) (x := 0) rfl rfl (by decide) ?_
      refine te_aload_n (p2 := 27) rfl rfl rfl ?_
      refine tg_r (p2 := 30) (i := 148) (r := 165) rfl rfl hI rfl rfl rfl ?_
      refine te_bipush (p2 := 32) (x := 105) rfl rfl (by decide) ?_
      refine tl_i (p2 := 33) (i := 149) (n := 283) rfl rfl hI rfl rfl rfl rfl (by decide) (by decide) (fun y5 a5 b5 g5 e5 => ?_)
      refine cS_pI (p2 := 36) rfl rfl rfl rfl (t_X12_in (n := x3) (a := 0) (b := y5) hI ) (by decide) (fun y6 r6 => ?_)
      rcases r6 with ⟨w6, c6⟩ | ⟨w6, c6⟩
      · subst w6
        have cc6_1 := (show Int32.toInt 0 = 0 from rfl)
        refine tz_ne (p2 := 39) rfl rfl (show Int32.toInt 1 = 1 from rfl) (fun c7 => ?_) (fun c7 => absurd c7 (by omega))
        refine te_iconst (p2 := 43) (x := (-1)) rfl rfl (by decide) ?_
        refine te_istore (p2 := 45) (lv2 := [(4, .int (-1)), (0, .ref 164), (1, .int x1), (2, .int x2), (3, .int x3)]) rfl rfl (by decide) rfl ?_
        refine te_iconst (p2 := 46) (x := 0) rfl rfl (by decide) ?_
        refine te_istore (p2 := 48) (lv2 := [(5, .int 0), (4, .int (-1)), (0, .ref 164), (1, .int x1), (2, .int x2), (3, .int x3)]) rfl rfl (by decide) rfl ?_
        have lp8 : ∀ (n8 : Nat) (v8_4 v8_5 : Int32) , (-1) ≤ v8_4.toInt → v8_4.toInt ≤ 23 → 0 ≤ v8_5.toInt → v8_5.toInt ≤ 24 → 24 - v8_5.toInt < (n8 : Int) → EvP im_K0 2 mX12_owner (48, [(0, .ref 164), (1, .int x1), (2, .int x2), (3, .int x3), (4, .int v8_4), (5, .int v8_5)], [], h) (mI h F_X12_owner (fun y => (-5) ≤ y.toInt ∧ y.toInt ≤ 23)) := by
          intro n8
          induction n8 with
          | zero => intro v8_4 v8_5 a8_4 b8_4 a8_5 b8_5 m8; exfalso; omega
          | succ n8 ih8 =>
            intro v8_4 v8_5 a8_4 b8_4 a8_5 b8_5 m8
            refine te_iload (p2 := 50) rfl rfl rfl ?_
            refine te_aload_n (p2 := 51) rfl rfl rfl ?_
            refine tg_i (p2 := 54) (i := 148) rfl rfl hI rfl rfl rfl (fun y9 a9 b9 e9 => ?_)
            refine tb_ge (p2 := 57) rfl rfl rfl rfl (fun c10 => ?_) (fun c10 => ?_)
            · refine te_iload (p2 := 164) rfl rfl rfl ?_
              refine te_iconst (p2 := 165) (x := (-1)) rfl rfl (by decide) ?_
              refine tb_ne (p2 := 168) rfl rfl rfl (show Int32.toInt (-1) = (-1) from rfl) (fun c11 => ?_) (fun c11 => ?_)
              · refine te_aload_n (p2 := 173) rfl rfl rfl ?_
                refine tg_r (p2 := 176) (i := 148) (r := 195) rfl rfl hI rfl rfl rfl ?_
                refine te_iload (p2 := 178) rfl rfl rfl ?_
                refine tl_i (p2 := 179) (i := 179) (n := 24) rfl rfl hI rfl rfl rfl rfl (by omega) (by omega) (fun y12 a12 b12 g12 e12 => ?_)
                exact te_iret rfl rfl ⟨hI, f0, _, rfl, by omega, by omega⟩
              · refine te_iconst (p2 := 169) (x := (-1)) rfl rfl (by decide) ?_
                refine te_goto rfl ?_
                exact te_iret rfl rfl ⟨hI, f0, _, rfl, by decide, by decide⟩
            · refine te_aload_n (p2 := 58) rfl rfl rfl ?_
              refine tg_r (p2 := 61) (i := 148) (r := 194) rfl rfl hI rfl rfl rfl ?_
              refine te_iload (p2 := 63) rfl rfl rfl ?_
              refine tl_i (p2 := 64) (i := 178) (n := 24) rfl rfl hI rfl rfl rfl rfl (by omega) (by omega) (fun y13 a13 b13 g13 e13 => ?_)
              refine te_iload_n (p2 := 65) rfl rfl rfl ?_
              refine tb_ne (p2 := 68) rfl rfl rfl rfl (fun c14 => ?_) (fun c14 => ?_)
              · refine te_iconst (p2 := 117) (x := 0) rfl rfl (by decide) ?_
                refine te_istore (p2 := 119) (lv2 := [(6, .int 0), (0, .ref 164), (1, .int x1), (2, .int x2), (3, .int x3), (4, .int v8_4), (5, .int v8_5)]) rfl rfl (by decide) rfl ?_
                refine te_iload (p2 := 121) rfl rfl rfl ?_
                refine tz_eq (p2 := 124) rfl rfl (show Int32.toInt 0 = 0 from rfl) (fun c15 => ?_) (fun c15 => absurd c15 (by omega))
                refine te_iload (p2 := 154) rfl rfl rfl ?_
                refine te_istore (p2 := 156) (lv2 := [(4, .int v8_4), (6, .int 0), (0, .ref 164), (1, .int x1), (2, .int x2), (3, .int x3), (5, .int v8_5)]) rfl rfl (by decide) rfl ?_
                refine ar_inc (p2 := 159) (x := v8_5) rfl rfl (by decide) rfl (by decide) rfl (by omega) (by omega) (fun z16 e16 f16 => ?_)
                show EvP _ _ _ (159, [(5, .int z16), (4, .int v8_4), (6, .int 0), (0, .ref 164), (1, .int x1), (2, .int x2), (3, .int x3)], [], h) _
                refine te_goto rfl ?_
                refine te_lv [(0, .ref 164), (1, .int x1), (2, .int x2), (3, .int x3), (4, .int v8_4), (5, .int z16)] rfl rfl ⟨rfl, rfl, rfl, rfl, rfl, rfl, trivial⟩ ?_
                exact ih8 v8_4 z16 (by omega) (by omega) (by omega) (by omega) (by omega)
              · refine te_aload_n (p2 := 69) rfl rfl rfl ?_
                refine tg_r (p2 := 72) (i := 148) (r := 197) rfl rfl hI rfl rfl rfl ?_
                refine te_iload (p2 := 74) rfl rfl rfl ?_
                refine tl_i (p2 := 75) (i := 181) (n := 24) rfl rfl hI rfl rfl rfl rfl (by omega) (by omega) (fun y17 a17 b17 g17 e17 => ?_)
                refine te_iload_n (p2 := 76) rfl rfl rfl ?_
                refine tb_gt (p2 := 79) rfl rfl rfl rfl (fun c18 => ?_) (fun c18 => ?_)
                · refine te_iconst (p2 := 117) (x := 0) rfl rfl (by decide) ?_
                  refine te_istore (p2 := 119) (lv2 := [(6, .int 0), (0, .ref 164), (1, .int x1), (2, .int x2), (3, .int x3), (4, .int v8_4), (5, .int v8_5)]) rfl rfl (by decide) rfl ?_
                  refine te_iload (p2 := 121) rfl rfl rfl ?_
                  refine tz_eq (p2 := 124) rfl rfl (show Int32.toInt 0 = 0 from rfl) (fun c19 => ?_) (fun c19 => absurd c19 (by omega))
                  refine te_iload (p2 := 154) rfl rfl rfl ?_
                  refine te_istore (p2 := 156) (lv2 := [(4, .int v8_4), (6, .int 0), (0, .ref 164), (1, .int x1), (2, .int x2), (3, .int x3), (5, .int v8_5)]) rfl rfl (by decide) rfl ?_
                  refine ar_inc (p2 := 159) (x := v8_5) rfl rfl (by decide) rfl (by decide) rfl (by omega) (by omega) (fun z20 e20 f20 => ?_)
                  show EvP _ _ _ (159, [(5, .int z20), (4, .int v8_4), (6, .int 0), (0, .ref 164), (1, .int x1), (2, .int x2), (3, .int x3)], [], h) _
                  refine te_goto rfl ?_
                  refine te_lv [(0, .ref 164), (1, .int x1), (2, .int x2), (3, .int x3), (4, .int v8_4), (5, .int z20)] rfl rfl ⟨rfl, rfl, rfl, rfl, rfl, rfl, trivial⟩ ?_
                  exact ih8 v8_4 z20 (by omega) (by omega) (by omega) (by omega) (by omega)
                · refine te_aload_n (p2 := 80) rfl rfl rfl ?_
                  refine tg_r (p2 := 83) (i := 148) (r := 198) rfl rfl hI rfl rfl rfl ?_
                  refine te_iload (p2 := 85) rfl rfl rfl ?_
                  refine tl_i (p2 := 86) (i := 182) (n := 24) rfl rfl hI rfl rfl rfl rfl (by omega) (by omega) (fun y21 a21 b21 g21 e21 => ?_)
                  refine te_iconst (p2 := 87) (x := (-1)) rfl rfl (by decide) ?_
                  refine tb_eq (p2 := 90) rfl rfl rfl (show Int32.toInt (-1) = (-1) from rfl) (fun c22 => ?_) (fun c22 => ?_)
                  · refine te_aload_n (p2 := 102) rfl rfl rfl ?_
                    refine tg_r (p2 := 105) (i := 148) (r := 196) rfl rfl hI rfl rfl rfl ?_
                    refine te_iload (p2 := 107) rfl rfl rfl ?_
                    refine tl_i (p2 := 108) (i := 180) (n := 24) rfl rfl hI rfl rfl rfl rfl (by omega) (by omega) (fun y23 a23 b23 g23 e23 => ?_)
                    refine te_iload_n (p2 := 109) rfl rfl rfl ?_
                    refine tb_gt (p2 := 112) rfl rfl rfl rfl (fun c24 => ?_) (fun c24 => ?_)
                    · refine te_iconst (p2 := 117) (x := 0) rfl rfl (by decide) ?_
                      refine te_istore (p2 := 119) (lv2 := [(6, .int 0), (0, .ref 164), (1, .int x1), (2, .int x2), (3, .int x3), (4, .int v8_4), (5, .int v8_5)]) rfl rfl (by decide) rfl ?_
                      refine te_iload (p2 := 121) rfl rfl rfl ?_
                      refine tz_eq (p2 := 124) rfl rfl (show Int32.toInt 0 = 0 from rfl) (fun c25 => ?_) (fun c25 => absurd c25 (by omega))
                      refine te_iload (p2 := 154) rfl rfl rfl ?_
                      refine te_istore (p2 := 156) (lv2 := [(4, .int v8_4), (6, .int 0), (0, .ref 164), (1, .int x1), (2, .int x2), (3, .int x3), (5, .int v8_5)]) rfl rfl (by decide) rfl ?_
                      refine ar_inc (p2 := 159) (x := v8_5) rfl rfl (by decide) rfl (by decide) rfl (by omega) (by omega) (fun z26 e26 f26 => ?_)
                      show EvP _ _ _ (159, [(5, .int z26), (4, .int v8_4), (6, .int 0), (0, .ref 164), (1, .int x1), (2, .int x2), (3, .int x3)], [], h) _
                      refine te_goto rfl ?_
                      refine te_lv [(0, .ref 164), (1, .int x1), (2, .int x2), (3, .int x3), (4, .int v8_4), (5, .int z26)] rfl rfl ⟨rfl, rfl, rfl, rfl, rfl, rfl, trivial⟩ ?_
                      exact ih8 v8_4 z26 (by omega) (by omega) (by omega) (by omega) (by omega)
                    · refine te_iconst (p2 := 113) (x := 1) rfl rfl (by decide) ?_
                      refine te_goto rfl ?_
                      refine te_istore (p2 := 119) (lv2 := [(6, .int 1), (0, .ref 164), (1, .int x1), (2, .int x2), (3, .int x3), (4, .int v8_4), (5, .int v8_5)]) rfl rfl (by decide) rfl ?_
                      refine te_iload (p2 := 121) rfl rfl rfl ?_
                      refine tz_eq (p2 := 124) rfl rfl (show Int32.toInt 1 = 1 from rfl) (fun c27 => absurd c27 (by omega)) (fun c27 => ?_)
                      refine te_iload (p2 := 126) rfl rfl rfl ?_
                      refine te_iconst (p2 := 127) (x := (-1)) rfl rfl (by decide) ?_
                      refine tb_eq (p2 := 130) rfl rfl rfl (show Int32.toInt (-1) = (-1) from rfl) (fun c28 => ?_) (fun c28 => ?_)
                      · refine te_iload (p2 := 149) rfl rfl rfl ?_
                        refine te_goto rfl ?_
                        refine te_istore (p2 := 156) (lv2 := [(4, .int v8_5), (6, .int 1), (0, .ref 164), (1, .int x1), (2, .int x2), (3, .int x3), (5, .int v8_5)]) rfl rfl (by decide) rfl ?_
                        refine ar_inc (p2 := 159) (x := v8_5) rfl rfl (by decide) rfl (by decide) rfl (by omega) (by omega) (fun z29 e29 f29 => ?_)
                        show EvP _ _ _ (159, [(5, .int z29), (4, .int v8_5), (6, .int 1), (0, .ref 164), (1, .int x1), (2, .int x2), (3, .int x3)], [], h) _
                        refine te_goto rfl ?_
                        refine te_lv [(0, .ref 164), (1, .int x1), (2, .int x2), (3, .int x3), (4, .int v8_5), (5, .int z29)] rfl rfl ⟨rfl, rfl, rfl, rfl, rfl, rfl, trivial⟩ ?_
                        exact ih8 v8_5 z29 (by omega) (by omega) (by omega) (by omega) (by omega)
                      · refine te_aload_n (p2 := 131) rfl rfl rfl ?_
                        refine tg_r (p2 := 134) (i := 148) (r := 196) rfl rfl hI rfl rfl rfl ?_
                        refine te_iload (p2 := 136) rfl rfl rfl ?_
                        refine tl_e (p2 := 137) (i := 180) (n := 24) (t := 0) (Or.inl rfl) rfl rfl hI rfl rfl (by omega) (by omega) e23 ?_
                        refine te_aload_n (p2 := 138) rfl rfl rfl ?_
                        refine tg_r (p2 := 141) (i := 148) (r := 196) rfl rfl hI rfl rfl rfl ?_
                        refine te_iload (p2 := 143) rfl rfl rfl ?_
                        refine tl_i (p2 := 144) (i := 180) (n := 24) rfl rfl hI rfl rfl rfl rfl (by omega) (by omega) (fun y31 a31 b31 g31 e31 => ?_)
                        refine tb_lt (p2 := 147) rfl rfl rfl rfl (fun c32 => ?_) (fun c32 => ?_)
                        · refine te_iload (p2 := 154) rfl rfl rfl ?_
                          refine te_istore (p2 := 156) (lv2 := [(4, .int v8_4), (6, .int 1), (0, .ref 164), (1, .int x1), (2, .int x2), (3, .int x3), (5, .int v8_5)]) rfl rfl (by decide) rfl ?_
                          refine ar_inc (p2 := 159) (x := v8_5) rfl rfl (by decide) rfl (by decide) rfl (by omega) (by omega) (fun z33 e33 f33 => ?_)
                          show EvP _ _ _ (159, [(5, .int z33), (4, .int v8_4), (6, .int 1), (0, .ref 164), (1, .int x1), (2, .int x2), (3, .int x3)], [], h) _
                          refine te_goto rfl ?_
                          refine te_lv [(0, .ref 164), (1, .int x1), (2, .int x2), (3, .int x3), (4, .int v8_4), (5, .int z33)] rfl rfl ⟨rfl, rfl, rfl, rfl, rfl, rfl, trivial⟩ ?_
                          exact ih8 v8_4 z33 (by omega) (by omega) (by omega) (by omega) (by omega)
                        · refine te_iload (p2 := 149) rfl rfl rfl ?_
                          refine te_goto rfl ?_
                          refine te_istore (p2 := 156) (lv2 := [(4, .int v8_5), (6, .int 1), (0, .ref 164), (1, .int x1), (2, .int x2), (3, .int x3), (5, .int v8_5)]) rfl rfl (by decide) rfl ?_
                          refine ar_inc (p2 := 159) (x := v8_5) rfl rfl (by decide) rfl (by decide) rfl (by omega) (by omega) (fun z34 e34 f34 => ?_)
                          show EvP _ _ _ (159, [(5, .int z34), (4, .int v8_5), (6, .int 1), (0, .ref 164), (1, .int x1), (2, .int x2), (3, .int x3)], [], h) _
                          refine te_goto rfl ?_
                          refine te_lv [(0, .ref 164), (1, .int x1), (2, .int x2), (3, .int x3), (4, .int v8_5), (5, .int z34)] rfl rfl ⟨rfl, rfl, rfl, rfl, rfl, rfl, trivial⟩ ?_
                          exact ih8 v8_5 z34 (by omega) (by omega) (by omega) (by omega) (by omega)
                  · refine te_aload_n (p2 := 91) rfl rfl rfl ?_
                    refine tg_r (p2 := 94) (i := 148) (r := 198) rfl rfl hI rfl rfl rfl ?_
                    refine te_iload (p2 := 96) rfl rfl rfl ?_
                    refine tl_e (p2 := 97) (i := 182) (n := 24) (t := 0) (Or.inl rfl) rfl rfl hI rfl rfl (by omega) (by omega) e21 ?_
                    refine te_iload_n (p2 := 98) rfl rfl rfl ?_
                    refine tb_le (p2 := 101) rfl rfl rfl rfl (fun c36 => ?_) (fun c36 => ?_)
                    · refine te_iconst (p2 := 117) (x := 0) rfl rfl (by decide) ?_
                      refine te_istore (p2 := 119) (lv2 := [(6, .int 0), (0, .ref 164), (1, .int x1), (2, .int x2), (3, .int x3), (4, .int v8_4), (5, .int v8_5)]) rfl rfl (by decide) rfl ?_
                      refine te_iload (p2 := 121) rfl rfl rfl ?_
                      refine tz_eq (p2 := 124) rfl rfl (show Int32.toInt 0 = 0 from rfl) (fun c37 => ?_) (fun c37 => absurd c37 (by omega))
                      refine te_iload (p2 := 154) rfl rfl rfl ?_
                      refine te_istore (p2 := 156) (lv2 := [(4, .int v8_4), (6, .int 0), (0, .ref 164), (1, .int x1), (2, .int x2), (3, .int x3), (5, .int v8_5)]) rfl rfl (by decide) rfl ?_
                      refine ar_inc (p2 := 159) (x := v8_5) rfl rfl (by decide) rfl (by decide) rfl (by omega) (by omega) (fun z38 e38 f38 => ?_)
                      show EvP _ _ _ (159, [(5, .int z38), (4, .int v8_4), (6, .int 0), (0, .ref 164), (1, .int x1), (2, .int x2), (3, .int x3)], [], h) _
                      refine te_goto rfl ?_
                      refine te_lv [(0, .ref 164), (1, .int x1), (2, .int x2), (3, .int x3), (4, .int v8_4), (5, .int z38)] rfl rfl ⟨rfl, rfl, rfl, rfl, rfl, rfl, trivial⟩ ?_
                      exact ih8 v8_4 z38 (by omega) (by omega) (by omega) (by omega) (by omega)
                    · refine te_aload_n (p2 := 102) rfl rfl rfl ?_
                      refine tg_r (p2 := 105) (i := 148) (r := 196) rfl rfl hI rfl rfl rfl ?_
                      refine te_iload (p2 := 107) rfl rfl rfl ?_
                      refine tl_i (p2 := 108) (i := 180) (n := 24) rfl rfl hI rfl rfl rfl rfl (by omega) (by omega) (fun y39 a39 b39 g39 e39 => ?_)
                      refine te_iload_n (p2 := 109) rfl rfl rfl ?_
                      refine tb_gt (p2 := 112) rfl rfl rfl rfl (fun c40 => ?_) (fun c40 => ?_)
                      · refine te_iconst (p2 := 117) (x := 0) rfl rfl (by decide) ?_
                        refine te_istore (p2 := 119) (lv2 := [(6, .int 0), (0, .ref 164), (1, .int x1), (2, .int x2), (3, .int x3), (4, .int v8_4), (5, .int v8_5)]) rfl rfl (by decide) rfl ?_
                        refine te_iload (p2 := 121) rfl rfl rfl ?_
                        refine tz_eq (p2 := 124) rfl rfl (show Int32.toInt 0 = 0 from rfl) (fun c41 => ?_) (fun c41 => absurd c41 (by omega))
                        refine te_iload (p2 := 154) rfl rfl rfl ?_
                        refine te_istore (p2 := 156) (lv2 := [(4, .int v8_4), (6, .int 0), (0, .ref 164), (1, .int x1), (2, .int x2), (3, .int x3), (5, .int v8_5)]) rfl rfl (by decide) rfl ?_
                        refine ar_inc (p2 := 159) (x := v8_5) rfl rfl (by decide) rfl (by decide) rfl (by omega) (by omega) (fun z42 e42 f42 => ?_)
                        show EvP _ _ _ (159, [(5, .int z42), (4, .int v8_4), (6, .int 0), (0, .ref 164), (1, .int x1), (2, .int x2), (3, .int x3)], [], h) _
                        refine te_goto rfl ?_
                        refine te_lv [(0, .ref 164), (1, .int x1), (2, .int x2), (3, .int x3), (4, .int v8_4), (5, .int z42)] rfl rfl ⟨rfl, rfl, rfl, rfl, rfl, rfl, trivial⟩ ?_
                        exact ih8 v8_4 z42 (by omega) (by omega) (by omega) (by omega) (by omega)
                      · refine te_iconst (p2 := 113) (x := 1) rfl rfl (by decide) ?_
                        refine te_goto rfl ?_
                        refine te_istore (p2 := 119) (lv2 := [(6, .int 1), (0, .ref 164), (1, .int x1), (2, .int x2), (3, .int x3), (4, .int v8_4), (5, .int v8_5)]) rfl rfl (by decide) rfl ?_
                        refine te_iload (p2 := 121) rfl rfl rfl ?_
                        refine tz_eq (p2 := 124) rfl rfl (show Int32.toInt 1 = 1 from rfl) (fun c43 => absurd c43 (by omega)) (fun c43 => ?_)
                        refine te_iload (p2 := 126) rfl rfl rfl ?_
                        refine te_iconst (p2 := 127) (x := (-1)) rfl rfl (by decide) ?_
                        refine tb_eq (p2 := 130) rfl rfl rfl (show Int32.toInt (-1) = (-1) from rfl) (fun c44 => ?_) (fun c44 => ?_)
                        · refine te_iload (p2 := 149) rfl rfl rfl ?_
                          refine te_goto rfl ?_
                          refine te_istore (p2 := 156) (lv2 := [(4, .int v8_5), (6, .int 1), (0, .ref 164), (1, .int x1), (2, .int x2), (3, .int x3), (5, .int v8_5)]) rfl rfl (by decide) rfl ?_
                          refine ar_inc (p2 := 159) (x := v8_5) rfl rfl (by decide) rfl (by decide) rfl (by omega) (by omega) (fun z45 e45 f45 => ?_)
                          show EvP _ _ _ (159, [(5, .int z45), (4, .int v8_5), (6, .int 1), (0, .ref 164), (1, .int x1), (2, .int x2), (3, .int x3)], [], h) _
                          refine te_goto rfl ?_
                          refine te_lv [(0, .ref 164), (1, .int x1), (2, .int x2), (3, .int x3), (4, .int v8_5), (5, .int z45)] rfl rfl ⟨rfl, rfl, rfl, rfl, rfl, rfl, trivial⟩ ?_
                          exact ih8 v8_5 z45 (by omega) (by omega) (by omega) (by omega) (by omega)
                        · refine te_aload_n (p2 := 131) rfl rfl rfl ?_
                          refine tg_r (p2 := 134) (i := 148) (r := 196) rfl rfl hI rfl rfl rfl ?_
                          refine te_iload (p2 := 136) rfl rfl rfl ?_
                          refine tl_e (p2 := 137) (i := 180) (n := 24) (t := 0) (Or.inl rfl) rfl rfl hI rfl rfl (by omega) (by omega) e39 ?_
                          refine te_aload_n (p2 := 138) rfl rfl rfl ?_
                          refine tg_r (p2 := 141) (i := 148) (r := 196) rfl rfl hI rfl rfl rfl ?_
                          refine te_iload (p2 := 143) rfl rfl rfl ?_
                          refine tl_i (p2 := 144) (i := 180) (n := 24) rfl rfl hI rfl rfl rfl rfl (by omega) (by omega) (fun y47 a47 b47 g47 e47 => ?_)
                          refine tb_lt (p2 := 147) rfl rfl rfl rfl (fun c48 => ?_) (fun c48 => ?_)
                          · refine te_iload (p2 := 154) rfl rfl rfl ?_
                            refine te_istore (p2 := 156) (lv2 := [(4, .int v8_4), (6, .int 1), (0, .ref 164), (1, .int x1), (2, .int x2), (3, .int x3), (5, .int v8_5)]) rfl rfl (by decide) rfl ?_
                            refine ar_inc (p2 := 159) (x := v8_5) rfl rfl (by decide) rfl (by decide) rfl (by omega) (by omega) (fun z49 e49 f49 => ?_)
                            show EvP _ _ _ (159, [(5, .int z49), (4, .int v8_4), (6, .int 1), (0, .ref 164), (1, .int x1), (2, .int x2), (3, .int x3)], [], h) _
                            refine te_goto rfl ?_
                            refine te_lv [(0, .ref 164), (1, .int x1), (2, .int x2), (3, .int x3), (4, .int v8_4), (5, .int z49)] rfl rfl ⟨rfl, rfl, rfl, rfl, rfl, rfl, trivial⟩ ?_
                            exact ih8 v8_4 z49 (by omega) (by omega) (by omega) (by omega) (by omega)
                          · refine te_iload (p2 := 149) rfl rfl rfl ?_
                            refine te_goto rfl ?_
                            refine te_istore (p2 := 156) (lv2 := [(4, .int v8_5), (6, .int 1), (0, .ref 164), (1, .int x1), (2, .int x2), (3, .int x3), (5, .int v8_5)]) rfl rfl (by decide) rfl ?_
                            refine ar_inc (p2 := 159) (x := v8_5) rfl rfl (by decide) rfl (by decide) rfl (by omega) (by omega) (fun z50 e50 f50 => ?_)
                            show EvP _ _ _ (159, [(5, .int z50), (4, .int v8_5), (6, .int 1), (0, .ref 164), (1, .int x1), (2, .int x2), (3, .int x3)], [], h) _
                            refine te_goto rfl ?_
                            refine te_lv [(0, .ref 164), (1, .int x1), (2, .int x2), (3, .int x3), (4, .int v8_5), (5, .int z50)] rfl rfl ⟨rfl, rfl, rfl, rfl, rfl, rfl, trivial⟩ ?_
                            exact ih8 v8_5 z50 (by omega) (by omega) (by omega) (by omega) (by omega)
        refine te_lv [(0, .ref 164), (1, .int x1), (2, .int x2), (3, .int x3), (4, .int (-1)), (5, .int 0)] rfl rfl ⟨rfl, rfl, rfl, rfl, rfl, rfl, trivial⟩ ?_
        exact lp8 25 (-1) 0 (by decide) (by decide) (by decide) (by decide) (by have cc0 := (show Int32.toInt (-1) = (-1) from rfl); have cc1 := (show Int32.toInt 0 = 0 from rfl); omega)
      · subst w6
        have cc6_1 := (show Int32.toInt 0 = 0 from rfl)
        refine tz_ne (p2 := 39) rfl rfl (show Int32.toInt 0 = 0 from rfl) (fun c51 => absurd c51 (by omega)) (fun c51 => ?_)
        refine te_bipush (p2 := 41) (x := (-2)) rfl rfl (by decide) ?_
        exact te_iret rfl rfl ⟨hI, f0, _, rfl, by decide, by decide⟩
    · subst w3
      have cc3_1 := (show Int32.toInt 0 = 0 from rfl)
      have cc3_2 := (show Int32.toInt 2000 = 2000 from rfl)
      refine tz_eq (p2 := 24) rfl rfl (show Int32.toInt 0 = 0 from rfl) (fun c52 => ?_) (fun c52 => absurd c52 (by omega))
      refine te_bipush (p2 := 41) (x := (-2)) rfl rfl (by decide) ?_
      exact te_iret rfl rfl ⟨hI, f0, _, rfl, by decide, by decide⟩
  · subst w1
    have cc1_1 := (show Int32.toInt 0 = 0 from rfl)
    have cc1_2 := (show Int32.toInt 11 = 11 from rfl)
    refine tz_ne (p2 := 10) rfl rfl (show Int32.toInt 0 = 0 from rfl) (fun c53 => absurd c53 (by omega)) (fun c53 => ?_)
    refine te_bipush (p2 := 12) (x := (-5)) rfl rfl (by decide) ?_
    exact te_iret rfl rfl ⟨hI, f0, _, rfl, by decide, by decide⟩
abbrev F_X12_lays : List (Nat × Nat × Nat) := [(149, 0, 282), (150, 0, 282)]
set_option maxRecDepth 20000 in
set_option maxHeartbeats 4000000 in
theorem t_X12_lays {back : Int32} {h : im_H} (hI : tI h) (p_back0 : 0 ≤ back.toInt) (p_back1 : back.toInt ≤ 1) : CaP 1 186 [.ref 164, .int back] h (mV h F_X12_lays) := by
  refine cap_of (d := 0) (M := mX12_lays) rfl (Nat.le_of_ble_eq_true rfl) ?_
  show EvP im_K0 0 mX12_lays (0, [(0, .ref 164), (1, .int back)], [], h) _
  have f0 : fr F_X12_lays h h := fr_rf
  refine te_iconst (p2 := 1) (x := 0) rfl rfl (by decide) ?_
  refine te_istore_n (p2 := 2) (lv2 := [(2, .int 0), (0, .ref 164), (1, .int back)]) rfl rfl (by decide) rfl ?_
  have lp1 : ∀ (n1 : Nat) (v1_2 : Int32) (h1 : im_H), tI h1 → fr F_X12_lays h h1 → 0 ≤ v1_2.toInt → v1_2.toInt ≤ 283 → 283 - v1_2.toInt < (n1 : Int) → EvP im_K0 0 mX12_lays (2, [(0, .ref 164), (1, .int back), (2, .int v1_2)], [], h1) (mV h F_X12_lays) := by
    intro n1
    induction n1 with
    | zero => intro v1_2 h1 I1 f1 a1_2 b1_2 m1; exfalso; omega
    | succ n1 ih1 =>
      intro v1_2 h1 I1 f1 a1_2 b1_2 m1
      refine te_iload_n (p2 := 3) rfl rfl rfl ?_
      refine te_sipush (p2 := 6) (x := 283) rfl rfl (by decide) ?_
      refine tb_ge (p2 := 9) rfl rfl rfl (show Int32.toInt 283 = 283 from rfl) (fun c2 => ?_) (fun c2 => ?_)
      · exact te_vret rfl rfl ⟨I1, f1, rfl⟩
      · refine te_iload_n (p2 := 10) rfl rfl rfl ?_
        refine tz_eq (p2 := 13) rfl rfl rfl (fun c3 => ?_) (fun c3 => ?_)
        · refine te_aload_n (p2 := 29) rfl rfl rfl ?_
          refine tg_r (p2 := 32) (i := 148) (r := 166) rfl rfl I1 rfl rfl rfl ?_
          refine te_iload_n (p2 := 33) rfl rfl rfl ?_
          refine te_aload_n (p2 := 34) rfl rfl rfl ?_
          refine tg_r (p2 := 37) (i := 148) (r := 165) rfl rfl I1 rfl rfl rfl ?_
          refine te_iload_n (p2 := 38) rfl rfl rfl ?_
          refine tl_i (p2 := 39) (i := 149) (n := 283) rfl rfl I1 rfl rfl rfl rfl (by omega) (by omega) (fun y4 a4 b4 g4 e4 => ?_)
          refine ts_i (p2 := 40) (i := 150) (n := 283) rfl rfl I1 rfl rfl rfl rfl (by omega) (by omega) (i32_lo _) (i32_hi _) (i32_ho _) rfl (fun h5 I5 u5 => ?_)
          have f5 := fr_st (F := F_X12_lays) 1 f1 u5 rfl (by omega) (by omega)
          refine ar_inc (p2 := 43) (x := v1_2) rfl rfl (by decide) rfl (by decide) rfl (by omega) (by omega) (fun z6 e6 f6 => ?_)
          show EvP _ _ _ (43, [(2, .int z6), (0, .ref 164), (1, .int back)], [], h5) _
          refine te_goto rfl ?_
          refine te_lv [(0, .ref 164), (1, .int back), (2, .int z6)] rfl rfl ⟨rfl, rfl, rfl, trivial⟩ ?_
          exact ih1 z6 h5 I5 f5 (by omega) (by omega) (by omega)
        · refine te_aload_n (p2 := 14) rfl rfl rfl ?_
          refine tg_r (p2 := 17) (i := 148) (r := 165) rfl rfl I1 rfl rfl rfl ?_
          refine te_iload_n (p2 := 18) rfl rfl rfl ?_
          refine te_aload_n (p2 := 19) rfl rfl rfl ?_
          refine tg_r (p2 := 22) (i := 148) (r := 166) rfl rfl I1 rfl rfl rfl ?_
          refine te_iload_n (p2 := 23) rfl rfl rfl ?_
          refine tl_i (p2 := 24) (i := 150) (n := 283) rfl rfl I1 rfl rfl rfl rfl (by omega) (by omega) (fun y7 a7 b7 g7 e7 => ?_)
          refine ts_i (p2 := 25) (i := 149) (n := 283) rfl rfl I1 rfl rfl rfl rfl (by omega) (by omega) (i32_lo _) (i32_hi _) (i32_ho _) rfl (fun h8 I8 u8 => ?_)
          have f8 := fr_st (F := F_X12_lays) 0 f1 u8 rfl (by omega) (by omega)
          refine te_goto rfl ?_
          refine ar_inc (p2 := 43) (x := v1_2) rfl rfl (by decide) rfl (by decide) rfl (by omega) (by omega) (fun z9 e9 f9 => ?_)
          show EvP _ _ _ (43, [(2, .int z9), (0, .ref 164), (1, .int back)], [], h8) _
          refine te_goto rfl ?_
          refine te_lv [(0, .ref 164), (1, .int back), (2, .int z9)] rfl rfl ⟨rfl, rfl, rfl, trivial⟩ ?_
          exact ih1 z9 h8 I8 f8 (by omega) (by omega) (by omega)
  refine te_lv [(0, .ref 164), (1, .int back), (2, .int 0)] rfl rfl ⟨rfl, rfl, rfl, trivial⟩ ?_
  exact lp1 284 0 h hI f0 (by decide) (by decide) (by have cc0 := (show Int32.toInt 0 = 0 from rfl); omega)
abbrev F_X12_beside : List (Nat × Nat × Nat) := [(148, 61, 62), (149, 0, 282), (150, 0, 282)]
set_option maxRecDepth 20000 in
set_option maxHeartbeats 4000000 in
theorem t_X12_beside {x1 : Int32} {x2 : Int32} {h : im_H} (hI : tI h)  : CaP 9 187 [.ref 164, .int x1, .int x2] h (mL h F_X12_beside) := by
  refine cap_of (d := 8) (M := mX12_beside) rfl (Nat.le_of_ble_eq_true rfl) ?_
  show EvP im_K0 8 mX12_beside (0, [(0, .ref 164), (1, .int x1), (2, .int x2)], [], h) _
  have f0 : fr F_X12_beside h h := fr_rf
  refine te_iload_n (p2 := 1) rfl rfl rfl ?_
  refine te_iconst (p2 := 2) (x := 1) rfl rfl (by decide) ?_
  refine te_bipush (p2 := 4) (x := 60) rfl rfl (by decide) ?_
  refine cS_pI (p2 := 7) rfl rfl rfl rfl (t_X12_in (n := x1) (a := 1) (b := 60) hI ) (by decide) (fun y1 r1 => ?_)
  rcases r1 with ⟨w1, c1⟩ | ⟨w1, c1⟩
  · subst w1
    have cc1_1 := (show Int32.toInt 1 = 1 from rfl)
    have cc1_2 := (show Int32.toInt 60 = 60 from rfl)
    refine tz_eq (p2 := 10) rfl rfl (show Int32.toInt 1 = 1 from rfl) (fun c2 => absurd c2 (by omega)) (fun c2 => ?_)
    refine te_iload_n (p2 := 11) rfl rfl rfl ?_
    refine te_iconst (p2 := 12) (x := 0) rfl rfl (by decide) ?_
    refine te_iconst (p2 := 13) (x := 3) rfl rfl (by decide) ?_
    refine cS_pI (p2 := 16) rfl rfl rfl rfl (t_X12_in (n := x2) (a := 0) (b := 3) hI ) (by decide) (fun y3 r3 => ?_)
    rcases r3 with ⟨w3, c3⟩ | ⟨w3, c3⟩
    · subst w3
      have cc3_1 := (show Int32.toInt 0 = 0 from rfl)
      have cc3_2 := (show Int32.toInt 3 = 3 from rfl)
      refine tz_eq (p2 := 19) rfl rfl (show Int32.toInt 1 = 1 from rfl) (fun c4 => absurd c4 (by omega)) (fun c4 => ?_)
      refine te_aload_n (p2 := 20) rfl rfl rfl ?_
      refine tg_r (p2 := 23) (i := 148) (r := 165) rfl rfl hI rfl rfl rfl ?_
      refine te_bipush (p2 := 25) (x := 105) rfl rfl (by decide) ?_
      refine tl_i (p2 := 26) (i := 149) (n := 283) rfl rfl hI rfl rfl rfl rfl (by decide) (by decide) (fun y5 a5 b5 g5 e5 => ?_)
      refine te_iload_n (p2 := 27) rfl rfl rfl ?_
      refine au_add (p2 := 28) rfl rfl (fun z6 e6 => ?_)
      refine te_sipush (p2 := 31) (x := 2000) rfl rfl (by decide) ?_
      refine tb_le (p2 := 34) rfl rfl rfl (show Int32.toInt 2000 = 2000 from rfl) (fun c7 => ?_) (fun c7 => ?_)
      · refine te_aload_n (p2 := 39) rfl rfl rfl ?_
        refine te_iconst (p2 := 40) (x := 0) rfl rfl (by decide) ?_
        refine cV_mV (p2 := 43) (i := 148) rfl rfl rfl rfl hI rfl rfl rfl (t_X12_lays (back := 0) hI (by decide) (by decide)) (by decide) (fun h8 I8 g8 => ?_)
        have f8 := fr_tr (F1 := F_X12_lays) (F := F_X12_beside) f0 g8 (by decide)
        refine te_iload_n (p2 := 44) rfl rfl rfl ?_
        refine te_iconst (p2 := 45) (x := 1) rfl rfl (by decide) ?_
        refine tb_ne (p2 := 48) rfl rfl rfl (show Int32.toInt 1 = 1 from rfl) (fun c9 => ?_) (fun c9 => ?_)
        · refine te_iload_n (p2 := 59) rfl rfl rfl ?_
          refine te_iconst (p2 := 60) (x := 2) rfl rfl (by decide) ?_
          refine tb_ne (p2 := 63) rfl rfl rfl (show Int32.toInt 2 = 2 from rfl) (fun c10 => ?_) (fun c10 => ?_)
          · refine te_iconst (p2 := 78) (x := 0) rfl rfl (by decide) ?_
            refine te_istore_n (p2 := 79) (lv2 := [(3, .int 0), (0, .ref 164), (1, .int x1), (2, .int x2)]) rfl rfl (by decide) rfl ?_
            refine te_iconst (p2 := 80) (x := 0) rfl rfl (by decide) ?_
            refine te_istore (p2 := 82) (lv2 := [(4, .int 0), (3, .int 0), (0, .ref 164), (1, .int x1), (2, .int x2)]) rfl rfl (by decide) rfl ?_
            have lp11 : ∀ (n11 : Nat) (v11_4 : Int32) (h11 : im_H), tI h11 → fr F_X12_beside h h11 → 0 ≤ v11_4.toInt → v11_4.toInt ≤ 60 → v11_4.toInt ≤ x1.toInt → x1.toInt - v11_4.toInt < (n11 : Int) → EvP im_K0 8 mX12_beside (82, [(0, .ref 164), (1, .int x1), (2, .int x2), (3, .int 0), (4, .int v11_4)], [], h11) (mL h F_X12_beside) := by
              intro n11
              induction n11 with
              | zero => intro v11_4 h11 I11 f11 a11_4 b11_4 l11_0 m11; exfalso; omega
              | succ n11 ih11 =>
                intro v11_4 h11 I11 f11 a11_4 b11_4 l11_0 m11
                refine te_iload (p2 := 84) rfl rfl rfl ?_
                refine te_iload_n (p2 := 85) rfl rfl rfl ?_
                refine tb_ge (p2 := 88) rfl rfl rfl rfl (fun c12 => ?_) (fun c12 => ?_)
                · refine te_iload_n (p2 := 99) rfl rfl rfl ?_
                  refine tz_ne (p2 := 102) rfl rfl rfl (fun c13 => ?_) (fun c13 => ?_)
                  · refine te_iload_n (p2 := 113) rfl rfl rfl ?_
                    refine te_iconst (p2 := 114) (x := 1) rfl rfl (by decide) ?_
                    refine tb_ne (p2 := 117) rfl rfl rfl (show Int32.toInt 1 = 1 from rfl) (fun c14 => ?_) (fun c14 => ?_)
                    · refine te_iload_n (p2 := 130) rfl rfl rfl ?_
                      refine te_iconst (p2 := 131) (x := 2) rfl rfl (by decide) ?_
                      refine tb_ne (p2 := 134) rfl rfl rfl (show Int32.toInt 2 = 2 from rfl) (fun c15 => ?_) (fun c15 => ?_)
                      · refine te_aload_n (p2 := 151) rfl rfl rfl ?_
                        refine te_sipush (p2 := 154) (x := 164) rfl rfl (by decide) ?_
                        refine te_aload_n (p2 := 155) rfl rfl rfl ?_
                        refine tg_i (p2 := 158) (i := 148) rfl rfl I11 rfl rfl rfl (fun y16 a16 b16 e16 => ?_)
                        refine cV_pI (p2 := 161) (i := 148) rfl rfl rfl rfl I11 rfl rfl rfl (t_X12_sum (frm := 164) (many := y16) I11 (by decide) (by decide) (by omega) (by omega) (by have cq1 := (show Int32.toInt 164 = 164 from rfl); omega)) (by decide) (fun y17 r17 => ?_)
                        refine te_istore (p2 := 163) (lv2 := [(4, .int y17), (0, .ref 164), (1, .int x1), (2, .int x2), (3, .int 0)]) rfl rfl (by decide) rfl ?_
                        refine te_aload_n (p2 := 164) rfl rfl rfl ?_
                        refine te_iconst (p2 := 165) (x := 1) rfl rfl (by decide) ?_
                        refine cV_mV (p2 := 168) (i := 148) rfl rfl rfl rfl I11 rfl rfl rfl (t_X12_lays (back := 1) I11 (by decide) (by decide)) (by decide) (fun h18 I18 g18 => ?_)
                        have f18 := fr_tr (F1 := F_X12_lays) (F := F_X12_beside) f11 g18 (by decide)
                        refine te_iload (p2 := 170) rfl rfl rfl ?_
                        refine te_i2l (p2 := 171) (z := (Int32.toInt64 y17)) rfl rfl rfl ?_
                        exact te_lret rfl rfl ⟨I18, f18, _, rfl⟩
                      · refine te_aload_n (p2 := 135) rfl rfl rfl ?_
                        refine te_sipush (p2 := 138) (x := 236) rfl rfl (by decide) ?_
                        refine te_aload_n (p2 := 139) rfl rfl rfl ?_
                        refine tg_i (p2 := 142) (i := 148) rfl rfl I11 rfl rfl rfl (fun y19 a19 b19 e19 => ?_)
                        refine cV_pI (p2 := 145) (i := 148) rfl rfl rfl rfl I11 rfl rfl rfl (t_X12_sum (frm := 236) (many := y19) I11 (by decide) (by decide) (by omega) (by omega) (by have cq1 := (show Int32.toInt 236 = 236 from rfl); omega)) (by decide) (fun y20 r20 => ?_)
                        refine te_iload_n (p2 := 146) rfl rfl rfl ?_
                        have n21_y20 := i32_lo y20
                        have o21_y20 := i32_hi y20
                        refine ar_sub (p2 := 147) rfl rfl rfl (show Int32.toInt 0 = 0 from rfl) (by omega) (by omega) (fun z21 e21 f21 => ?_)
                        refine te_goto rfl ?_
                        refine te_istore (p2 := 163) (lv2 := [(4, .int z21), (0, .ref 164), (1, .int x1), (2, .int x2), (3, .int 0)]) rfl rfl (by decide) rfl ?_
                        refine te_aload_n (p2 := 164) rfl rfl rfl ?_
                        refine te_iconst (p2 := 165) (x := 1) rfl rfl (by decide) ?_
                        refine cV_mV (p2 := 168) (i := 148) rfl rfl rfl rfl I11 rfl rfl rfl (t_X12_lays (back := 1) I11 (by decide) (by decide)) (by decide) (fun h22 I22 g22 => ?_)
                        have f22 := fr_tr (F1 := F_X12_lays) (F := F_X12_beside) f11 g22 (by decide)
                        refine te_iload (p2 := 170) rfl rfl rfl ?_
                        refine te_i2l (p2 := 171) (z := (Int32.toInt64 z21)) rfl rfl rfl ?_
                        exact te_lret rfl rfl ⟨I22, f22, _, rfl⟩
                    · refine te_aload_n (p2 := 118) rfl rfl rfl ?_
                      refine tg_r (p2 := 121) (i := 148) (r := 165) rfl rfl I11 rfl rfl rfl ?_
                      refine te_bipush (p2 := 123) (x := 100) rfl rfl (by decide) ?_
                      refine tl_i (p2 := 124) (i := 149) (n := 283) rfl rfl I11 rfl rfl rfl rfl (by decide) (by decide) (fun y23 a23 b23 g23 e23 => ?_)
                      refine te_iload_n (p2 := 125) rfl rfl rfl ?_
                      have n24_y23 := i32_lo y23
                      have o24_y23 := i32_hi y23
                      refine ar_sub (p2 := 126) rfl rfl rfl (show Int32.toInt 0 = 0 from rfl) (by omega) (by omega) (fun z24 e24 f24 => ?_)
                      refine te_goto rfl ?_
                      refine te_istore (p2 := 163) (lv2 := [(4, .int z24), (0, .ref 164), (1, .int x1), (2, .int x2), (3, .int 0)]) rfl rfl (by decide) rfl ?_
                      refine te_aload_n (p2 := 164) rfl rfl rfl ?_
                      refine te_iconst (p2 := 165) (x := 1) rfl rfl (by decide) ?_
                      refine cV_mV (p2 := 168) (i := 148) rfl rfl rfl rfl I11 rfl rfl rfl (t_X12_lays (back := 1) I11 (by decide) (by decide)) (by decide) (fun h25 I25 g25 => ?_)
                      have f25 := fr_tr (F1 := F_X12_lays) (F := F_X12_beside) f11 g25 (by decide)
                      refine te_iload (p2 := 170) rfl rfl rfl ?_
                      refine te_i2l (p2 := 171) (z := (Int32.toInt64 z24)) rfl rfl rfl ?_
                      exact te_lret rfl rfl ⟨I25, f25, _, rfl⟩
                  · refine te_aload_n (p2 := 103) rfl rfl rfl ?_
                    refine te_iconst (p2 := 104) (x := 0) rfl rfl (by decide) ?_
                    refine te_bipush (p2 := 106) (x := 100) rfl rfl (by decide) ?_
                    refine cV_pI (p2 := 109) (i := 148) rfl rfl rfl rfl I11 rfl rfl rfl (t_X12_sum (frm := 0) (many := 100) I11 (by decide) (by decide) (by decide) (by decide) (by have cq1 := (show Int32.toInt 0 = 0 from rfl); have cq2 := (show Int32.toInt 100 = 100 from rfl); omega)) (by decide) (fun y26 r26 => ?_)
                    refine te_goto rfl ?_
                    refine te_istore (p2 := 163) (lv2 := [(4, .int y26), (0, .ref 164), (1, .int x1), (2, .int x2), (3, .int 0)]) rfl rfl (by decide) rfl ?_
                    refine te_aload_n (p2 := 164) rfl rfl rfl ?_
                    refine te_iconst (p2 := 165) (x := 1) rfl rfl (by decide) ?_
                    refine cV_mV (p2 := 168) (i := 148) rfl rfl rfl rfl I11 rfl rfl rfl (t_X12_lays (back := 1) I11 (by decide) (by decide)) (by decide) (fun h27 I27 g27 => ?_)
                    have f27 := fr_tr (F1 := F_X12_lays) (F := F_X12_beside) f11 g27 (by decide)
                    refine te_iload (p2 := 170) rfl rfl rfl ?_
                    refine te_i2l (p2 := 171) (z := (Int32.toInt64 y26)) rfl rfl rfl ?_
                    exact te_lret rfl rfl ⟨I27, f27, _, rfl⟩
                · refine te_aload_n (p2 := 89) rfl rfl rfl ?_
                  refine cV_mV (p2 := 92) (i := 148) rfl rfl rfl rfl I11 rfl rfl rfl (t_X12_goes  I11 ) (by decide) (fun h28 I28 g28 => ?_)
                  have f28 := fr_tr (F1 := F_X12_goes) (F := F_X12_beside) f11 g28 (by decide)
                  refine ar_inc (p2 := 95) (x := v11_4) rfl rfl (by decide) rfl (by decide) rfl (by omega) (by omega) (fun z29 e29 f29 => ?_)
                  show EvP _ _ _ (95, [(4, .int z29), (0, .ref 164), (1, .int x1), (2, .int x2), (3, .int 0)], [], h28) _
                  refine te_goto rfl ?_
                  refine te_lv [(0, .ref 164), (1, .int x1), (2, .int x2), (3, .int 0), (4, .int z29)] rfl rfl ⟨rfl, rfl, rfl, rfl, rfl, trivial⟩ ?_
                  exact ih11 z29 h28 I28 f28 (by omega) (by omega) (by have cc0 := (show Int32.toInt 0 = 0 from rfl); omega) (by have cc0 := (show Int32.toInt 0 = 0 from rfl); omega)
            refine te_lv [(0, .ref 164), (1, .int x1), (2, .int x2), (3, .int 0), (4, .int 0)] rfl rfl ⟨rfl, rfl, rfl, rfl, rfl, trivial⟩ ?_
            exact lp11 61 0 h8 I8 f8 (by decide) (by decide) (by have cc0 := (show Int32.toInt 0 = 0 from rfl); omega) (by have cc0 := (show Int32.toInt 0 = 0 from rfl); omega)
          · refine te_aload_n (p2 := 64) rfl rfl rfl ?_
            refine te_sipush (p2 := 67) (x := 236) rfl rfl (by decide) ?_
            refine te_aload_n (p2 := 68) rfl rfl rfl ?_
            refine tg_i (p2 := 71) (i := 148) rfl rfl I8 rfl rfl rfl (fun y30 a30 b30 e30 => ?_)
            refine cV_pI (p2 := 74) (i := 148) rfl rfl rfl rfl I8 rfl rfl rfl (t_X12_sum (frm := 236) (many := y30) I8 (by decide) (by decide) (by omega) (by omega) (by have cq1 := (show Int32.toInt 236 = 236 from rfl); omega)) (by decide) (fun y31 r31 => ?_)
            refine te_goto rfl ?_
            refine te_istore_n (p2 := 79) (lv2 := [(3, .int y31), (0, .ref 164), (1, .int x1), (2, .int x2)]) rfl rfl (by decide) rfl ?_
            refine te_iconst (p2 := 80) (x := 0) rfl rfl (by decide) ?_
            refine te_istore (p2 := 82) (lv2 := [(4, .int 0), (3, .int y31), (0, .ref 164), (1, .int x1), (2, .int x2)]) rfl rfl (by decide) rfl ?_
            have lp32 : ∀ (n32 : Nat) (v32_4 : Int32) (h32 : im_H), tI h32 → fr F_X12_beside h h32 → 0 ≤ v32_4.toInt → v32_4.toInt ≤ 60 → v32_4.toInt ≤ x1.toInt → x1.toInt - v32_4.toInt < (n32 : Int) → EvP im_K0 8 mX12_beside (82, [(0, .ref 164), (1, .int x1), (2, .int x2), (3, .int y31), (4, .int v32_4)], [], h32) (mL h F_X12_beside) := by
              intro n32
              induction n32 with
              | zero => intro v32_4 h32 I32 f32 a32_4 b32_4 l32_0 m32; exfalso; omega
              | succ n32 ih32 =>
                intro v32_4 h32 I32 f32 a32_4 b32_4 l32_0 m32
                refine te_iload (p2 := 84) rfl rfl rfl ?_
                refine te_iload_n (p2 := 85) rfl rfl rfl ?_
                refine tb_ge (p2 := 88) rfl rfl rfl rfl (fun c33 => ?_) (fun c33 => ?_)
                · refine te_iload_n (p2 := 99) rfl rfl rfl ?_
                  refine tz_ne (p2 := 102) rfl rfl rfl (fun c34 => ?_) (fun c34 => absurd c34 (by omega))
                  refine te_iload_n (p2 := 113) rfl rfl rfl ?_
                  refine te_iconst (p2 := 114) (x := 1) rfl rfl (by decide) ?_
                  refine tb_ne (p2 := 117) rfl rfl rfl (show Int32.toInt 1 = 1 from rfl) (fun c35 => ?_) (fun c35 => absurd c35 (by omega))
                  refine te_iload_n (p2 := 130) rfl rfl rfl ?_
                  refine te_iconst (p2 := 131) (x := 2) rfl rfl (by decide) ?_
                  refine tb_ne (p2 := 134) rfl rfl rfl (show Int32.toInt 2 = 2 from rfl) (fun c36 => absurd c36 (by omega)) (fun c36 => ?_)
                  refine te_aload_n (p2 := 135) rfl rfl rfl ?_
                  refine te_sipush (p2 := 138) (x := 236) rfl rfl (by decide) ?_
                  refine te_aload_n (p2 := 139) rfl rfl rfl ?_
                  refine tg_i (p2 := 142) (i := 148) rfl rfl I32 rfl rfl rfl (fun y37 a37 b37 e37 => ?_)
                  refine cV_pI (p2 := 145) (i := 148) rfl rfl rfl rfl I32 rfl rfl rfl (t_X12_sum (frm := 236) (many := y37) I32 (by decide) (by decide) (by omega) (by omega) (by have cq1 := (show Int32.toInt 236 = 236 from rfl); omega)) (by decide) (fun y38 r38 => ?_)
                  refine te_iload_n (p2 := 146) rfl rfl rfl ?_
                  refine au_sub (p2 := 147) rfl rfl (fun z39 e39 => ?_)
                  refine te_goto rfl ?_
                  refine te_istore (p2 := 163) (lv2 := [(4, .int z39), (0, .ref 164), (1, .int x1), (2, .int x2), (3, .int y31)]) rfl rfl (by decide) rfl ?_
                  refine te_aload_n (p2 := 164) rfl rfl rfl ?_
                  refine te_iconst (p2 := 165) (x := 1) rfl rfl (by decide) ?_
                  refine cV_mV (p2 := 168) (i := 148) rfl rfl rfl rfl I32 rfl rfl rfl (t_X12_lays (back := 1) I32 (by decide) (by decide)) (by decide) (fun h40 I40 g40 => ?_)
                  have f40 := fr_tr (F1 := F_X12_lays) (F := F_X12_beside) f32 g40 (by decide)
                  refine te_iload (p2 := 170) rfl rfl rfl ?_
                  refine te_i2l (p2 := 171) (z := (Int32.toInt64 z39)) rfl rfl rfl ?_
                  exact te_lret rfl rfl ⟨I40, f40, _, rfl⟩
                · refine te_aload_n (p2 := 89) rfl rfl rfl ?_
                  refine cV_mV (p2 := 92) (i := 148) rfl rfl rfl rfl I32 rfl rfl rfl (t_X12_goes  I32 ) (by decide) (fun h41 I41 g41 => ?_)
                  have f41 := fr_tr (F1 := F_X12_goes) (F := F_X12_beside) f32 g41 (by decide)
                  refine ar_inc (p2 := 95) (x := v32_4) rfl rfl (by decide) rfl (by decide) rfl (by omega) (by omega) (fun z42 e42 f42 => ?_)
                  show EvP _ _ _ (95, [(4, .int z42), (0, .ref 164), (1, .int x1), (2, .int x2), (3, .int y31)], [], h41) _
                  refine te_goto rfl ?_
                  refine te_lv [(0, .ref 164), (1, .int x1), (2, .int x2), (3, .int y31), (4, .int z42)] rfl rfl ⟨rfl, rfl, rfl, rfl, rfl, trivial⟩ ?_
                  exact ih32 z42 h41 I41 f41 (by omega) (by omega) (by omega) (by omega)
            refine te_lv [(0, .ref 164), (1, .int x1), (2, .int x2), (3, .int y31), (4, .int 0)] rfl rfl ⟨rfl, rfl, rfl, rfl, rfl, trivial⟩ ?_
            exact lp32 61 0 h8 I8 f8 (by decide) (by decide) (by have cc0 := (show Int32.toInt 0 = 0 from rfl); omega) (by have cc0 := (show Int32.toInt 0 = 0 from rfl); omega)
        · refine te_aload_n (p2 := 49) rfl rfl rfl ?_
          refine tg_r (p2 := 52) (i := 148) (r := 165) rfl rfl I8 rfl rfl rfl ?_
          refine te_bipush (p2 := 54) (x := 100) rfl rfl (by decide) ?_
          refine tl_i (p2 := 55) (i := 149) (n := 283) rfl rfl I8 rfl rfl rfl rfl (by decide) (by decide) (fun y43 a43 b43 g43 e43 => ?_)
          refine te_goto rfl ?_
          refine te_istore_n (p2 := 79) (lv2 := [(3, .int y43), (0, .ref 164), (1, .int x1), (2, .int x2)]) rfl rfl (by decide) rfl ?_
          refine te_iconst (p2 := 80) (x := 0) rfl rfl (by decide) ?_
          refine te_istore (p2 := 82) (lv2 := [(4, .int 0), (3, .int y43), (0, .ref 164), (1, .int x1), (2, .int x2)]) rfl rfl (by decide) rfl ?_
          have lp44 : ∀ (n44 : Nat) (v44_4 : Int32) (h44 : im_H), tI h44 → fr F_X12_beside h h44 → 0 ≤ v44_4.toInt → v44_4.toInt ≤ 60 → v44_4.toInt ≤ x1.toInt → x1.toInt - v44_4.toInt < (n44 : Int) → EvP im_K0 8 mX12_beside (82, [(0, .ref 164), (1, .int x1), (2, .int x2), (3, .int y43), (4, .int v44_4)], [], h44) (mL h F_X12_beside) := by
            intro n44
            induction n44 with
            | zero => intro v44_4 h44 I44 f44 a44_4 b44_4 l44_0 m44; exfalso; omega
            | succ n44 ih44 =>
              intro v44_4 h44 I44 f44 a44_4 b44_4 l44_0 m44
              refine te_iload (p2 := 84) rfl rfl rfl ?_
              refine te_iload_n (p2 := 85) rfl rfl rfl ?_
              refine tb_ge (p2 := 88) rfl rfl rfl rfl (fun c45 => ?_) (fun c45 => ?_)
              · refine te_iload_n (p2 := 99) rfl rfl rfl ?_
                refine tz_ne (p2 := 102) rfl rfl rfl (fun c46 => ?_) (fun c46 => absurd c46 (by omega))
                refine te_iload_n (p2 := 113) rfl rfl rfl ?_
                refine te_iconst (p2 := 114) (x := 1) rfl rfl (by decide) ?_
                refine tb_ne (p2 := 117) rfl rfl rfl (show Int32.toInt 1 = 1 from rfl) (fun c47 => absurd c47 (by omega)) (fun c47 => ?_)
                refine te_aload_n (p2 := 118) rfl rfl rfl ?_
                refine tg_r (p2 := 121) (i := 148) (r := 165) rfl rfl I44 rfl rfl rfl ?_
                refine te_bipush (p2 := 123) (x := 100) rfl rfl (by decide) ?_
                refine tl_i (p2 := 124) (i := 149) (n := 283) rfl rfl I44 rfl rfl rfl rfl (by decide) (by decide) (fun y48 a48 b48 g48 e48 => ?_)
                refine te_iload_n (p2 := 125) rfl rfl rfl ?_
                refine au_sub (p2 := 126) rfl rfl (fun z49 e49 => ?_)
                refine te_goto rfl ?_
                refine te_istore (p2 := 163) (lv2 := [(4, .int z49), (0, .ref 164), (1, .int x1), (2, .int x2), (3, .int y43)]) rfl rfl (by decide) rfl ?_
                refine te_aload_n (p2 := 164) rfl rfl rfl ?_
                refine te_iconst (p2 := 165) (x := 1) rfl rfl (by decide) ?_
                refine cV_mV (p2 := 168) (i := 148) rfl rfl rfl rfl I44 rfl rfl rfl (t_X12_lays (back := 1) I44 (by decide) (by decide)) (by decide) (fun h50 I50 g50 => ?_)
                have f50 := fr_tr (F1 := F_X12_lays) (F := F_X12_beside) f44 g50 (by decide)
                refine te_iload (p2 := 170) rfl rfl rfl ?_
                refine te_i2l (p2 := 171) (z := (Int32.toInt64 z49)) rfl rfl rfl ?_
                exact te_lret rfl rfl ⟨I50, f50, _, rfl⟩
              · refine te_aload_n (p2 := 89) rfl rfl rfl ?_
                refine cV_mV (p2 := 92) (i := 148) rfl rfl rfl rfl I44 rfl rfl rfl (t_X12_goes  I44 ) (by decide) (fun h51 I51 g51 => ?_)
                have f51 := fr_tr (F1 := F_X12_goes) (F := F_X12_beside) f44 g51 (by decide)
                refine ar_inc (p2 := 95) (x := v44_4) rfl rfl (by decide) rfl (by decide) rfl (by omega) (by omega) (fun z52 e52 f52 => ?_)
                show EvP _ _ _ (95, [(4, .int z52), (0, .ref 164), (1, .int x1), (2, .int x2), (3, .int y43)], [], h51) _
                refine te_goto rfl ?_
                refine te_lv [(0, .ref 164), (1, .int x1), (2, .int x2), (3, .int y43), (4, .int z52)] rfl rfl ⟨rfl, rfl, rfl, rfl, rfl, trivial⟩ ?_
                exact ih44 z52 h51 I51 f51 (by omega) (by omega) (by omega) (by omega)
          refine te_lv [(0, .ref 164), (1, .int x1), (2, .int x2), (3, .int y43), (4, .int 0)] rfl rfl ⟨rfl, rfl, rfl, rfl, rfl, trivial⟩ ?_
          exact lp44 61 0 h8 I8 f8 (by decide) (by decide) (by have cc0 := (show Int32.toInt 0 = 0 from rfl); omega) (by have cc0 := (show Int32.toInt 0 = 0 from rfl); omega)
      · refine te_ldc2 (p2 := 37) (x := (-4611686018427387904)) rfl rfl rfl ?_
        exact te_lret rfl rfl ⟨hI, f0, _, rfl⟩
    · subst w3
      have cc3_1 := (show Int32.toInt 0 = 0 from rfl)
      have cc3_2 := (show Int32.toInt 3 = 3 from rfl)
      refine tz_eq (p2 := 19) rfl rfl (show Int32.toInt 0 = 0 from rfl) (fun c53 => ?_) (fun c53 => absurd c53 (by omega))
      refine te_ldc2 (p2 := 37) (x := (-4611686018427387904)) rfl rfl rfl ?_
      exact te_lret rfl rfl ⟨hI, f0, _, rfl⟩
  · subst w1
    have cc1_1 := (show Int32.toInt 1 = 1 from rfl)
    have cc1_2 := (show Int32.toInt 60 = 60 from rfl)
    refine tz_eq (p2 := 10) rfl rfl (show Int32.toInt 0 = 0 from rfl) (fun c54 => ?_) (fun c54 => absurd c54 (by omega))
    refine te_ldc2 (p2 := 37) (x := (-4611686018427387904)) rfl rfl rfl ?_
    exact te_lret rfl rfl ⟨hI, f0, _, rfl⟩
abbrev F_X12_clear : List (Nat × Nat × Nat) := [(148, 61, 62), (149, 0, 282), (150, 0, 282)]
set_option maxRecDepth 20000 in
set_option maxHeartbeats 4000000 in
theorem t_X12_clear {x1 : Int32} {x2 : Int32} {h : im_H} (hI : tI h)  : CaP 9 188 [.ref 164, .int x1, .int x2] h (mI h F_X12_clear (fun _ => True)) := by
  refine cap_of (d := 8) (M := mX12_clear) rfl (Nat.le_of_ble_eq_true rfl) ?_
  show EvP im_K0 8 mX12_clear (0, [(0, .ref 164), (1, .int x1), (2, .int x2)], [], h) _
  have f0 : fr F_X12_clear h h := fr_rf
  refine te_iload_n (p2 := 1) rfl rfl rfl ?_
  refine cS_pI (p2 := 4) rfl rfl rfl rfl (t_X12_isCell (n := x1) hI ) (by decide) (fun y1 r1 => ?_)
  rcases r1 with ⟨w1, c1⟩ | ⟨w1, c1⟩
  · subst w1
    refine tz_ne (p2 := 7) rfl rfl (show Int32.toInt 1 = 1 from rfl) (fun c2 => ?_) (fun c2 => absurd c2 (by omega))
    refine te_iload_n (p2 := 10) rfl rfl rfl ?_
    refine te_iconst (p2 := 11) (x := 1) rfl rfl (by decide) ?_
    refine te_bipush (p2 := 13) (x := 60) rfl rfl (by decide) ?_
    refine cS_pI (p2 := 16) rfl rfl rfl rfl (t_X12_in (n := x2) (a := 1) (b := 60) hI ) (by decide) (fun y3 r3 => ?_)
    rcases r3 with ⟨w3, c3⟩ | ⟨w3, c3⟩
    · subst w3
      have cc3_1 := (show Int32.toInt 1 = 1 from rfl)
      have cc3_2 := (show Int32.toInt 60 = 60 from rfl)
      refine tz_ne (p2 := 19) rfl rfl (show Int32.toInt 1 = 1 from rfl) (fun c4 => ?_) (fun c4 => absurd c4 (by omega))
      refine te_aload_n (p2 := 23) rfl rfl rfl ?_
      refine te_iconst (p2 := 24) (x := 0) rfl rfl (by decide) ?_
      refine cV_mV (p2 := 27) (i := 148) rfl rfl rfl rfl hI rfl rfl rfl (t_X12_lays (back := 0) hI (by decide) (by decide)) (by decide) (fun h5 I5 g5 => ?_)
      have f5 := fr_tr (F1 := F_X12_lays) (F := F_X12_clear) f0 g5 (by decide)
      refine te_iconst (p2 := 28) (x := 0) rfl rfl (by decide) ?_
      refine te_istore_n (p2 := 29) (lv2 := [(3, .int 0), (0, .ref 164), (1, .int x1), (2, .int x2)]) rfl rfl (by decide) rfl ?_
      have lp6 : ∀ (n6 : Nat) (v6_3 : Int32) (h6 : im_H), tI h6 → fr F_X12_clear h h6 → 0 ≤ v6_3.toInt → v6_3.toInt ≤ 61 → 61 - v6_3.toInt < (n6 : Int) → EvP im_K0 8 mX12_clear (29, [(0, .ref 164), (1, .int x1), (2, .int x2), (3, .int v6_3)], [], h6) (mI h F_X12_clear (fun _ => True)) := by
        intro n6
        induction n6 with
        | zero => intro v6_3 h6 I6 f6 a6_3 b6_3 m6; exfalso; omega
        | succ n6 ih6 =>
          intro v6_3 h6 I6 f6 a6_3 b6_3 m6
          refine te_iload_n (p2 := 30) rfl rfl rfl ?_
          refine te_iload_n (p2 := 31) rfl rfl rfl ?_
          refine tb_gt (p2 := 34) rfl rfl rfl rfl (fun c7 => ?_) (fun c7 => ?_)
          · refine te_aload_n (p2 := 54) rfl rfl rfl ?_
            refine te_iconst (p2 := 55) (x := 1) rfl rfl (by decide) ?_
            refine cV_mV (p2 := 58) (i := 148) rfl rfl rfl rfl I6 rfl rfl rfl (t_X12_lays (back := 1) I6 (by decide) (by decide)) (by decide) (fun h8 I8 g8 => ?_)
            have f8 := fr_tr (F1 := F_X12_lays) (F := F_X12_clear) f6 g8 (by decide)
            refine te_iload_n (p2 := 59) rfl rfl rfl ?_
            refine te_iload_n (p2 := 60) rfl rfl rfl ?_
            refine tb_le (p2 := 63) rfl rfl rfl rfl (fun c9 => ?_) (fun c9 => ?_)
            · refine te_iload_n (p2 := 69) rfl rfl rfl ?_
              exact te_iret rfl rfl ⟨I8, f8, _, rfl, trivial⟩
            · refine te_bipush (p2 := 65) (x := (-3)) rfl rfl (by decide) ?_
              refine te_goto rfl ?_
              exact te_iret rfl rfl ⟨I8, f8, _, rfl, trivial⟩
          · refine te_aload_n (p2 := 35) rfl rfl rfl ?_
            refine tg_r (p2 := 38) (i := 148) (r := 165) rfl rfl I6 rfl rfl rfl ?_
            refine te_iload_n (p2 := 39) rfl rfl rfl ?_
            refine tl_i (p2 := 40) (i := 149) (n := 283) rfl rfl I6 rfl rfl rfl rfl (by omega) (by omega) (fun y10 a10 b10 g10 e10 => ?_)
            refine tz_le (p2 := 43) rfl rfl rfl (fun c11 => ?_) (fun c11 => ?_)
            · refine te_aload_n (p2 := 54) rfl rfl rfl ?_
              refine te_iconst (p2 := 55) (x := 1) rfl rfl (by decide) ?_
              refine cV_mV (p2 := 58) (i := 148) rfl rfl rfl rfl I6 rfl rfl rfl (t_X12_lays (back := 1) I6 (by decide) (by decide)) (by decide) (fun h12 I12 g12 => ?_)
              have f12 := fr_tr (F1 := F_X12_lays) (F := F_X12_clear) f6 g12 (by decide)
              refine te_iload_n (p2 := 59) rfl rfl rfl ?_
              refine te_iload_n (p2 := 60) rfl rfl rfl ?_
              refine tb_le (p2 := 63) rfl rfl rfl rfl (fun c13 => ?_) (fun c13 => ?_)
              · refine te_iload_n (p2 := 69) rfl rfl rfl ?_
                exact te_iret rfl rfl ⟨I12, f12, _, rfl, trivial⟩
              · refine te_bipush (p2 := 65) (x := (-3)) rfl rfl (by decide) ?_
                refine te_goto rfl ?_
                exact te_iret rfl rfl ⟨I12, f12, _, rfl, trivial⟩
            · refine te_aload_n (p2 := 44) rfl rfl rfl ?_
              refine cV_mV (p2 := 47) (i := 148) rfl rfl rfl rfl I6 rfl rfl rfl (t_X12_goes  I6 ) (by decide) (fun h14 I14 g14 => ?_)
              have f14 := fr_tr (F1 := F_X12_goes) (F := F_X12_clear) f6 g14 (by decide)
              refine ar_inc (p2 := 50) (x := v6_3) rfl rfl (by decide) rfl (by decide) rfl (by omega) (by omega) (fun z15 e15 f15 => ?_)
              show EvP _ _ _ (50, [(3, .int z15), (0, .ref 164), (1, .int x1), (2, .int x2)], [], h14) _
              refine te_goto rfl ?_
              refine te_lv [(0, .ref 164), (1, .int x1), (2, .int x2), (3, .int z15)] rfl rfl ⟨rfl, rfl, rfl, rfl, trivial⟩ ?_
              exact ih6 z15 h14 I14 f14 (by omega) (by omega) (by omega)
      refine te_lv [(0, .ref 164), (1, .int x1), (2, .int x2), (3, .int 0)] rfl rfl ⟨rfl, rfl, rfl, rfl, trivial⟩ ?_
      exact lp6 62 0 h5 I5 f5 (by decide) (by decide) (by have cc0 := (show Int32.toInt 0 = 0 from rfl); omega)
    · subst w3
      have cc3_1 := (show Int32.toInt 1 = 1 from rfl)
      have cc3_2 := (show Int32.toInt 60 = 60 from rfl)
      refine tz_ne (p2 := 19) rfl rfl (show Int32.toInt 0 = 0 from rfl) (fun c16 => absurd c16 (by omega)) (fun c16 => ?_)
      refine te_bipush (p2 := 21) (x := (-2)) rfl rfl (by decide) ?_
      exact te_iret rfl rfl ⟨hI, f0, _, rfl, trivial⟩
  · subst w1
    refine tz_ne (p2 := 7) rfl rfl (show Int32.toInt 0 = 0 from rfl) (fun c17 => absurd c17 (by omega)) (fun c17 => ?_)
    refine te_iconst (p2 := 8) (x := (-1)) rfl rfl (by decide) ?_
    exact te_iret rfl rfl ⟨hI, f0, _, rfl, trivial⟩
abbrev F_X12_image : List (Nat × Nat × Nat) := [(148, 3, 3), (151, 0, 282)]
set_option maxRecDepth 20000 in
set_option maxHeartbeats 4000000 in
theorem t_X12_image  {h : im_H} (hI : tI h)  : CaP 1 189 [.ref 164] h (mI h F_X12_image (fun _ => True)) := by
  refine cap_of (d := 0) (M := mX12_image) rfl (Nat.le_of_ble_eq_true rfl) ?_
  show EvP im_K0 0 mX12_image (0, [(0, .ref 164)], [], h) _
  have f0 : fr F_X12_image h h := fr_rf
  refine te_iconst (p2 := 1) (x := 0) rfl rfl (by decide) ?_
  refine te_istore_n (p2 := 2) (lv2 := [(1, .int 0), (0, .ref 164)]) rfl rfl (by decide) rfl ?_
  have lp1 : ∀ (n1 : Nat) (v1_1 : Int32) (h1 : im_H), tI h1 → fr F_X12_image h h1 → 0 ≤ v1_1.toInt → v1_1.toInt ≤ 283 → 283 - v1_1.toInt < (n1 : Int) → EvP im_K0 0 mX12_image (2, [(0, .ref 164), (1, .int v1_1)], [], h1) (mI h F_X12_image (fun _ => True)) := by
    intro n1
    induction n1 with
    | zero => intro v1_1 h1 I1 f1 a1_1 b1_1 m1; exfalso; omega
    | succ n1 ih1 =>
      intro v1_1 h1 I1 f1 a1_1 b1_1 m1
      refine te_iload_n (p2 := 3) rfl rfl rfl ?_
      refine te_sipush (p2 := 6) (x := 283) rfl rfl (by decide) ?_
      refine tb_ge (p2 := 9) rfl rfl rfl (show Int32.toInt 283 = 283 from rfl) (fun c2 => ?_) (fun c2 => ?_)
      · refine te_aload_n (p2 := 28) rfl rfl rfl ?_
        refine te_iconst (p2 := 29) (x := 1) rfl rfl (by decide) ?_
        refine tp_i (p2 := 32) (i := 148) rfl rfl I1 rfl rfl (by decide) rfl rfl rfl (by decide) (by decide) (by decide) rfl (fun h3 I3 u3 => ?_)
        have f3 := fr_st (F := F_X12_image) 0 f1 u3 rfl (by decide) (by decide)
        refine te_aload_n (p2 := 33) rfl rfl rfl ?_
        refine tg_r (p2 := 36) (i := 148) (r := 165) rfl rfl I3 rfl rfl rfl ?_
        refine te_bipush (p2 := 38) (x := 105) rfl rfl (by decide) ?_
        refine tl_i (p2 := 39) (i := 149) (n := 283) rfl rfl I3 rfl rfl rfl rfl (by decide) (by decide) (fun y4 a4 b4 g4 e4 => ?_)
        exact te_iret rfl rfl ⟨I3, f3, _, rfl, trivial⟩
      · refine te_aload_n (p2 := 10) rfl rfl rfl ?_
        refine tg_r (p2 := 13) (i := 148) (r := 167) rfl rfl I1 rfl rfl rfl ?_
        refine te_iload_n (p2 := 14) rfl rfl rfl ?_
        refine te_aload_n (p2 := 15) rfl rfl rfl ?_
        refine tg_r (p2 := 18) (i := 148) (r := 165) rfl rfl I1 rfl rfl rfl ?_
        refine te_iload_n (p2 := 19) rfl rfl rfl ?_
        refine tl_i (p2 := 20) (i := 149) (n := 283) rfl rfl I1 rfl rfl rfl rfl (by omega) (by omega) (fun y5 a5 b5 g5 e5 => ?_)
        refine ts_i (p2 := 21) (i := 151) (n := 283) rfl rfl I1 rfl rfl rfl rfl (by omega) (by omega) (i32_lo _) (i32_hi _) (i32_ho _) rfl (fun h6 I6 u6 => ?_)
        have f6 := fr_st (F := F_X12_image) 1 f1 u6 rfl (by omega) (by omega)
        refine ar_inc (p2 := 24) (x := v1_1) rfl rfl (by decide) rfl (by decide) rfl (by omega) (by omega) (fun z7 e7 f7 => ?_)
        show EvP _ _ _ (24, [(1, .int z7), (0, .ref 164)], [], h6) _
        refine te_goto rfl ?_
        refine te_lv [(0, .ref 164), (1, .int z7)] rfl rfl ⟨rfl, rfl, trivial⟩ ?_
        exact ih1 z7 h6 I6 f6 (by omega) (by omega) (by omega)
  refine te_lv [(0, .ref 164), (1, .int 0)] rfl rfl ⟨rfl, rfl, trivial⟩ ?_
  exact lp1 284 0 h hI f0 (by decide) (by decide) (by have cc0 := (show Int32.toInt 0 = 0 from rfl); omega)
abbrev F_X12_back : List (Nat × Nat × Nat) := [(149, 0, 282)]
set_option maxRecDepth 20000 in
set_option maxHeartbeats 4000000 in
theorem t_X12_back  {h : im_H} (hI : tI h)  : CaP 1 190 [.ref 164] h (mI h F_X12_back (fun _ => True)) := by
  refine cap_of (d := 0) (M := mX12_back) rfl (Nat.le_of_ble_eq_true rfl) ?_
  show EvP im_K0 0 mX12_back (0, [(0, .ref 164)], [], h) _
  have f0 : fr F_X12_back h h := fr_rf
  refine te_aload_n (p2 := 1) rfl rfl rfl ?_
  refine tg_i (p2 := 4) (i := 148) rfl rfl hI rfl rfl rfl (fun y1 a1 b1 e1 => ?_)
  refine tz_ne (p2 := 7) rfl rfl rfl (fun c2 => ?_) (fun c2 => ?_)
  · refine te_iconst (p2 := 11) (x := 0) rfl rfl (by decide) ?_
    refine te_istore_n (p2 := 12) (lv2 := [(1, .int 0), (0, .ref 164)]) rfl rfl (by decide) rfl ?_
    have lp3 : ∀ (n3 : Nat) (v3_1 : Int32) (h3 : im_H), tI h3 → fr F_X12_back h h3 → 0 ≤ v3_1.toInt → v3_1.toInt ≤ 283 → 283 - v3_1.toInt < (n3 : Int) → EvP im_K0 0 mX12_back (12, [(0, .ref 164), (1, .int v3_1)], [], h3) (mI h F_X12_back (fun _ => True)) := by
      intro n3
      induction n3 with
      | zero => intro v3_1 h3 I3 f3 a3_1 b3_1 m3; exfalso; omega
      | succ n3 ih3 =>
        intro v3_1 h3 I3 f3 a3_1 b3_1 m3
        refine te_iload_n (p2 := 13) rfl rfl rfl ?_
        refine te_sipush (p2 := 16) (x := 283) rfl rfl (by decide) ?_
        refine tb_ge (p2 := 19) rfl rfl rfl (show Int32.toInt 283 = 283 from rfl) (fun c4 => ?_) (fun c4 => ?_)
        · refine te_aload_n (p2 := 38) rfl rfl rfl ?_
          refine tg_r (p2 := 41) (i := 148) (r := 165) rfl rfl I3 rfl rfl rfl ?_
          refine te_bipush (p2 := 43) (x := 105) rfl rfl (by decide) ?_
          refine tl_i (p2 := 44) (i := 149) (n := 283) rfl rfl I3 rfl rfl rfl rfl (by decide) (by decide) (fun y5 a5 b5 g5 e5 => ?_)
          exact te_iret rfl rfl ⟨I3, f3, _, rfl, trivial⟩
        · refine te_aload_n (p2 := 20) rfl rfl rfl ?_
          refine tg_r (p2 := 23) (i := 148) (r := 165) rfl rfl I3 rfl rfl rfl ?_
          refine te_iload_n (p2 := 24) rfl rfl rfl ?_
          refine te_aload_n (p2 := 25) rfl rfl rfl ?_
          refine tg_r (p2 := 28) (i := 148) (r := 167) rfl rfl I3 rfl rfl rfl ?_
          refine te_iload_n (p2 := 29) rfl rfl rfl ?_
          refine tl_i (p2 := 30) (i := 151) (n := 283) rfl rfl I3 rfl rfl rfl rfl (by omega) (by omega) (fun y6 a6 b6 g6 e6 => ?_)
          refine ts_i (p2 := 31) (i := 149) (n := 283) rfl rfl I3 rfl rfl rfl rfl (by omega) (by omega) (i32_lo _) (i32_hi _) (i32_ho _) rfl (fun h7 I7 u7 => ?_)
          have f7 := fr_st (F := F_X12_back) 0 f3 u7 rfl (by omega) (by omega)
          refine ar_inc (p2 := 34) (x := v3_1) rfl rfl (by decide) rfl (by decide) rfl (by omega) (by omega) (fun z8 e8 f8 => ?_)
          show EvP _ _ _ (34, [(1, .int z8), (0, .ref 164)], [], h7) _
          refine te_goto rfl ?_
          refine te_lv [(0, .ref 164), (1, .int z8)] rfl rfl ⟨rfl, rfl, trivial⟩ ?_
          exact ih3 z8 h7 I7 f7 (by omega) (by omega) (by omega)
    refine te_lv [(0, .ref 164), (1, .int 0)] rfl rfl ⟨rfl, rfl, trivial⟩ ?_
    exact lp3 284 0 h hI f0 (by decide) (by decide) (by have cc0 := (show Int32.toInt 0 = 0 from rfl); omega)
  · refine te_bipush (p2 := 9) (x := (-3)) rfl rfl (by decide) ?_
    exact te_iret rfl rfl ⟨hI, f0, _, rfl, trivial⟩
abbrev F_X12_sheet : List (Nat × Nat × Nat) := [(192, 0, 3), (193, 0, 3), (194, 0, 159)]
set_option maxRecDepth 20000 in
set_option maxHeartbeats 4000000 in
theorem t_X12_sheet {x1 : Int32} {x2 : Int32} {x3 : Int32} {h : im_H} (hI : tI h)  : CaP 2 191 [.ref 164, .int x1, .int x2, .int x3] h (mI h F_X12_sheet (fun _ => True)) := by
  refine cap_of (d := 1) (M := mX12_sheet) rfl (Nat.le_of_ble_eq_true rfl) ?_
  show EvP im_K0 1 mX12_sheet (0, [(0, .ref 164), (1, .int x1), (2, .int x2), (3, .int x3)], [], h) _
  have f0 : fr F_X12_sheet h h := fr_rf
  refine te_iload_n (p2 := 1) rfl rfl rfl ?_
  refine te_iconst (p2 := 2) (x := 0) rfl rfl (by decide) ?_
  refine te_iconst (p2 := 3) (x := 3) rfl rfl (by decide) ?_
  refine cS_pI (p2 := 6) rfl rfl rfl rfl (t_X12_in (n := x1) (a := 0) (b := 3) hI ) (by decide) (fun y1 r1 => ?_)
  rcases r1 with ⟨w1, c1⟩ | ⟨w1, c1⟩
  · subst w1
    have cc1_1 := (show Int32.toInt 0 = 0 from rfl)
    have cc1_2 := (show Int32.toInt 3 = 3 from rfl)
    refine tz_eq (p2 := 9) rfl rfl (show Int32.toInt 1 = 1 from rfl) (fun c2 => absurd c2 (by omega)) (fun c2 => ?_)
    refine te_iload_n (p2 := 10) rfl rfl rfl ?_
    refine te_iconst (p2 := 11) (x := (-1)) rfl rfl (by decide) ?_
    refine te_iconst (p2 := 12) (x := 2) rfl rfl (by decide) ?_
    refine cS_pI (p2 := 15) rfl rfl rfl rfl (t_X12_in (n := x2) (a := (-1)) (b := 2) hI ) (by decide) (fun y3 r3 => ?_)
    rcases r3 with ⟨w3, c3⟩ | ⟨w3, c3⟩
    · subst w3
      have cc3_1 := (show Int32.toInt (-1) = (-1) from rfl)
      have cc3_2 := (show Int32.toInt 2 = 2 from rfl)
      refine tz_eq (p2 := 18) rfl rfl (show Int32.toInt 1 = 1 from rfl) (fun c4 => absurd c4 (by omega)) (fun c4 => ?_)
      refine te_iload_n (p2 := 19) rfl rfl rfl ?_
      refine te_iconst (p2 := 20) (x := (-1)) rfl rfl (by decide) ?_
      refine tb_eq (p2 := 23) rfl rfl rfl (show Int32.toInt (-1) = (-1) from rfl) (fun c5 => ?_) (fun c5 => ?_)
      · refine te_iload_n (p2 := 33) rfl rfl rfl ?_
        refine te_iconst (p2 := 34) (x := (-1)) rfl rfl (by decide) ?_
        refine tb_eq (p2 := 37) rfl rfl rfl (show Int32.toInt (-1) = (-1) from rfl) (fun c6 => ?_) (fun c6 => absurd c6 (by omega))
        refine te_aload_n (p2 := 45) rfl rfl rfl ?_
        refine tg_r (p2 := 48) (i := 148) (r := 208) rfl rfl hI rfl rfl rfl ?_
        refine te_iload_n (p2 := 49) rfl rfl rfl ?_
        refine te_iload_n (p2 := 50) rfl rfl rfl ?_
        refine ts_i (p2 := 51) (i := 192) (n := 4) rfl rfl hI rfl rfl rfl rfl (by omega) (by omega) (by omega) (by omega) (by omega) rfl (fun h7 I7 u7 => ?_)
        have f7 := fr_st (F := F_X12_sheet) 0 f0 u7 rfl (by omega) (by omega)
        refine te_aload_n (p2 := 52) rfl rfl rfl ?_
        refine tg_r (p2 := 55) (i := 148) (r := 209) rfl rfl I7 rfl rfl rfl ?_
        refine te_iload_n (p2 := 56) rfl rfl rfl ?_
        refine te_iload_n (p2 := 57) rfl rfl rfl ?_
        refine te_iconst (p2 := 58) (x := (-1)) rfl rfl (by decide) ?_
        refine tb_ne (p2 := 61) rfl rfl rfl (show Int32.toInt (-1) = (-1) from rfl) (fun c8 => absurd c8 (by omega)) (fun c8 => ?_)
        refine te_iconst (p2 := 62) (x := 0) rfl rfl (by decide) ?_
        refine te_goto rfl ?_
        refine ts_i (p2 := 67) (i := 193) (n := 4) rfl rfl I7 rfl rfl rfl rfl (by omega) (by omega) (by decide) (by decide) (by decide) rfl (fun h9 I9 u9 => ?_)
        have f9 := fr_st (F := F_X12_sheet) 1 f7 u9 rfl (by omega) (by omega)
        refine te_iconst (p2 := 68) (x := 0) rfl rfl (by decide) ?_
        refine te_istore (p2 := 70) (lv2 := [(4, .int 0), (0, .ref 164), (1, .int x1), (2, .int x2), (3, .int x3)]) rfl rfl (by decide) rfl ?_
        have lp10 : ∀ (n10 : Nat) (v10_4 : Int32) (h10 : im_H), tI h10 → fr F_X12_sheet h h10 → 0 ≤ v10_4.toInt → v10_4.toInt ≤ 40 → 40 - v10_4.toInt < (n10 : Int) → EvP im_K0 1 mX12_sheet (70, [(0, .ref 164), (1, .int x1), (2, .int x2), (3, .int x3), (4, .int v10_4)], [], h10) (mI h F_X12_sheet (fun _ => True)) := by
          intro n10
          induction n10 with
          | zero => intro v10_4 h10 I10 f10 a10_4 b10_4 m10; exfalso; omega
          | succ n10 ih10 =>
            intro v10_4 h10 I10 f10 a10_4 b10_4 m10
            refine te_iload (p2 := 72) rfl rfl rfl ?_
            refine te_bipush (p2 := 74) (x := 40) rfl rfl (by decide) ?_
            refine tb_ge (p2 := 77) rfl rfl rfl (show Int32.toInt 40 = 40 from rfl) (fun c11 => ?_) (fun c11 => ?_)
            · refine te_iconst (p2 := 97) (x := 1) rfl rfl (by decide) ?_
              exact te_iret rfl rfl ⟨I10, f10, _, rfl, trivial⟩
            · refine te_aload_n (p2 := 78) rfl rfl rfl ?_
              refine tg_r (p2 := 81) (i := 148) (r := 210) rfl rfl I10 rfl rfl rfl ?_
              refine te_bipush (p2 := 83) (x := 40) rfl rfl (by decide) ?_
              refine te_iload_n (p2 := 84) rfl rfl rfl ?_
              refine ar_mul (p2 := 85) rfl rfl (show Int32.toInt 40 = 40 from rfl) rfl (by omega) (by omega) (fun z12 e12 f12 => ?_)
              refine te_iload (p2 := 87) rfl rfl rfl ?_
              refine ar_add (p2 := 88) rfl rfl rfl rfl (by omega) (by omega) (fun z13 e13 f13 => ?_)
              refine te_iconst (p2 := 89) (x := 0) rfl rfl (by decide) ?_
              refine ts_i (p2 := 90) (i := 194) (n := 160) rfl rfl I10 rfl rfl rfl rfl (by omega) (by omega) (i32_lo _) (i32_hi _) (i32_ho _) rfl (fun h14 I14 u14 => ?_)
              have f14 := fr_st (F := F_X12_sheet) 2 f10 u14 rfl (by omega) (by omega)
              refine ar_inc (p2 := 93) (x := v10_4) rfl rfl (by decide) rfl (by decide) rfl (by omega) (by omega) (fun z15 e15 f15 => ?_)
              show EvP _ _ _ (93, [(4, .int z15), (0, .ref 164), (1, .int x1), (2, .int x2), (3, .int x3)], [], h14) _
              refine te_goto rfl ?_
              refine te_lv [(0, .ref 164), (1, .int x1), (2, .int x2), (3, .int x3), (4, .int z15)] rfl rfl ⟨rfl, rfl, rfl, rfl, rfl, trivial⟩ ?_
              exact ih10 z15 h14 I14 f14 (by omega) (by omega) (by omega)
        refine te_lv [(0, .ref 164), (1, .int x1), (2, .int x2), (3, .int x3), (4, .int 0)] rfl rfl ⟨rfl, rfl, rfl, rfl, rfl, trivial⟩ ?_
        exact lp10 41 0 h9 I9 f9 (by decide) (by decide) (by have cc0 := (show Int32.toInt 0 = 0 from rfl); omega)
      · refine te_iload_n (p2 := 24) rfl rfl rfl ?_
        refine te_bipush (p2 := 26) (x := 40) rfl rfl (by decide) ?_
        refine tb_le (p2 := 29) rfl rfl rfl (show Int32.toInt 40 = 40 from rfl) (fun c16 => ?_) (fun c16 => ?_)
        · refine te_iload_n (p2 := 33) rfl rfl rfl ?_
          refine te_iconst (p2 := 34) (x := (-1)) rfl rfl (by decide) ?_
          refine tb_eq (p2 := 37) rfl rfl rfl (show Int32.toInt (-1) = (-1) from rfl) (fun c17 => absurd c17 (by omega)) (fun c17 => ?_)
          refine te_iload_n (p2 := 38) rfl rfl rfl ?_
          refine tz_ge (p2 := 41) rfl rfl rfl (fun c18 => ?_) (fun c18 => ?_)
          · refine te_aload_n (p2 := 45) rfl rfl rfl ?_
            refine tg_r (p2 := 48) (i := 148) (r := 208) rfl rfl hI rfl rfl rfl ?_
            refine te_iload_n (p2 := 49) rfl rfl rfl ?_
            refine te_iload_n (p2 := 50) rfl rfl rfl ?_
            refine ts_i (p2 := 51) (i := 192) (n := 4) rfl rfl hI rfl rfl rfl rfl (by omega) (by omega) (by omega) (by omega) (by omega) rfl (fun h19 I19 u19 => ?_)
            have f19 := fr_st (F := F_X12_sheet) 0 f0 u19 rfl (by omega) (by omega)
            refine te_aload_n (p2 := 52) rfl rfl rfl ?_
            refine tg_r (p2 := 55) (i := 148) (r := 209) rfl rfl I19 rfl rfl rfl ?_
            refine te_iload_n (p2 := 56) rfl rfl rfl ?_
            refine te_iload_n (p2 := 57) rfl rfl rfl ?_
            refine te_iconst (p2 := 58) (x := (-1)) rfl rfl (by decide) ?_
            refine tb_ne (p2 := 61) rfl rfl rfl (show Int32.toInt (-1) = (-1) from rfl) (fun c20 => ?_) (fun c20 => absurd c20 (by omega))
            refine te_iload_n (p2 := 66) rfl rfl rfl ?_
            refine ts_i (p2 := 67) (i := 193) (n := 4) rfl rfl I19 rfl rfl rfl rfl (by omega) (by omega) (by omega) (by omega) (by omega) rfl (fun h21 I21 u21 => ?_)
            have f21 := fr_st (F := F_X12_sheet) 1 f19 u21 rfl (by omega) (by omega)
            refine te_iconst (p2 := 68) (x := 0) rfl rfl (by decide) ?_
            refine te_istore (p2 := 70) (lv2 := [(4, .int 0), (0, .ref 164), (1, .int x1), (2, .int x2), (3, .int x3)]) rfl rfl (by decide) rfl ?_
            have lp22 : ∀ (n22 : Nat) (v22_4 : Int32) (h22 : im_H), tI h22 → fr F_X12_sheet h h22 → 0 ≤ v22_4.toInt → v22_4.toInt ≤ 40 → 40 - v22_4.toInt < (n22 : Int) → EvP im_K0 1 mX12_sheet (70, [(0, .ref 164), (1, .int x1), (2, .int x2), (3, .int x3), (4, .int v22_4)], [], h22) (mI h F_X12_sheet (fun _ => True)) := by
              intro n22
              induction n22 with
              | zero => intro v22_4 h22 I22 f22 a22_4 b22_4 m22; exfalso; omega
              | succ n22 ih22 =>
                intro v22_4 h22 I22 f22 a22_4 b22_4 m22
                refine te_iload (p2 := 72) rfl rfl rfl ?_
                refine te_bipush (p2 := 74) (x := 40) rfl rfl (by decide) ?_
                refine tb_ge (p2 := 77) rfl rfl rfl (show Int32.toInt 40 = 40 from rfl) (fun c23 => ?_) (fun c23 => ?_)
                · refine te_iconst (p2 := 97) (x := 1) rfl rfl (by decide) ?_
                  exact te_iret rfl rfl ⟨I22, f22, _, rfl, trivial⟩
                · refine te_aload_n (p2 := 78) rfl rfl rfl ?_
                  refine tg_r (p2 := 81) (i := 148) (r := 210) rfl rfl I22 rfl rfl rfl ?_
                  refine te_bipush (p2 := 83) (x := 40) rfl rfl (by decide) ?_
                  refine te_iload_n (p2 := 84) rfl rfl rfl ?_
                  refine ar_mul (p2 := 85) rfl rfl (show Int32.toInt 40 = 40 from rfl) rfl (by omega) (by omega) (fun z24 e24 f24 => ?_)
                  refine te_iload (p2 := 87) rfl rfl rfl ?_
                  refine ar_add (p2 := 88) rfl rfl rfl rfl (by omega) (by omega) (fun z25 e25 f25 => ?_)
                  refine te_iconst (p2 := 89) (x := 0) rfl rfl (by decide) ?_
                  refine ts_i (p2 := 90) (i := 194) (n := 160) rfl rfl I22 rfl rfl rfl rfl (by omega) (by omega) (i32_lo _) (i32_hi _) (i32_ho _) rfl (fun h26 I26 u26 => ?_)
                  have f26 := fr_st (F := F_X12_sheet) 2 f22 u26 rfl (by omega) (by omega)
                  refine ar_inc (p2 := 93) (x := v22_4) rfl rfl (by decide) rfl (by decide) rfl (by omega) (by omega) (fun z27 e27 f27 => ?_)
                  show EvP _ _ _ (93, [(4, .int z27), (0, .ref 164), (1, .int x1), (2, .int x2), (3, .int x3)], [], h26) _
                  refine te_goto rfl ?_
                  refine te_lv [(0, .ref 164), (1, .int x1), (2, .int x2), (3, .int x3), (4, .int z27)] rfl rfl ⟨rfl, rfl, rfl, rfl, rfl, trivial⟩ ?_
                  exact ih22 z27 h26 I26 f26 (by omega) (by omega) (by omega)
            refine te_lv [(0, .ref 164), (1, .int x1), (2, .int x2), (3, .int x3), (4, .int 0)] rfl rfl ⟨rfl, rfl, rfl, rfl, rfl, trivial⟩ ?_
            exact lp22 41 0 h21 I21 f21 (by decide) (by decide) (by have cc0 := (show Int32.toInt 0 = 0 from rfl); omega)
          · refine te_bipush (p2 := 43) (x := (-14)) rfl rfl (by decide) ?_
            exact te_iret rfl rfl ⟨hI, f0, _, rfl, trivial⟩
        · refine te_bipush (p2 := 31) (x := (-2)) rfl rfl (by decide) ?_
          exact te_iret rfl rfl ⟨hI, f0, _, rfl, trivial⟩
    · subst w3
      have cc3_1 := (show Int32.toInt (-1) = (-1) from rfl)
      have cc3_2 := (show Int32.toInt 2 = 2 from rfl)
      refine tz_eq (p2 := 18) rfl rfl (show Int32.toInt 0 = 0 from rfl) (fun c28 => ?_) (fun c28 => absurd c28 (by omega))
      refine te_bipush (p2 := 31) (x := (-2)) rfl rfl (by decide) ?_
      exact te_iret rfl rfl ⟨hI, f0, _, rfl, trivial⟩
  · subst w1
    have cc1_1 := (show Int32.toInt 0 = 0 from rfl)
    have cc1_2 := (show Int32.toInt 3 = 3 from rfl)
    refine tz_eq (p2 := 9) rfl rfl (show Int32.toInt 0 = 0 from rfl) (fun c29 => ?_) (fun c29 => absurd c29 (by omega))
    refine te_bipush (p2 := 31) (x := (-2)) rfl rfl (by decide) ?_
    exact te_iret rfl rfl ⟨hI, f0, _, rfl, trivial⟩
abbrev F_X12_raid : List (Nat × Nat × Nat) := [(148, 29, 29), (173, 0, 7), (174, 0, 7), (175, 0, 7), (176, 0, 7)]
set_option maxRecDepth 20000 in
set_option maxHeartbeats 4000000 in
theorem t_X12_raid {x1 : Int32} {x2 : Int32} {x3 : Int32} {x4 : Int32} {h : im_H} (hI : tI h)  : CaP 3 175 [.ref 164, .int x1, .int x2, .int x3, .int x4] h (mI h F_X12_raid (fun _ => True)) := by
  refine cap_of (d := 2) (M := mX12_raid) rfl (Nat.le_of_ble_eq_true rfl) ?_
  show EvP im_K0 2 mX12_raid (0, [(0, .ref 164), (1, .int x1), (2, .int x2), (3, .int x3), (4, .int x4)], [], h) _
  have f0 : fr F_X12_raid h h := fr_rf
  refine te_iload_n (p2 := 1) rfl rfl rfl ?_
  refine cS_pI (p2 := 4) rfl rfl rfl rfl (t_X12_isCell (n := x1) hI ) (by decide) (fun y1 r1 => ?_)
  rcases r1 with ⟨w1, c1⟩ | ⟨w1, c1⟩
  · subst w1
    refine tz_ne (p2 := 7) rfl rfl (show Int32.toInt 1 = 1 from rfl) (fun c2 => ?_) (fun c2 => absurd c2 (by omega))
    refine te_iload_n (p2 := 10) rfl rfl rfl ?_
    refine te_iconst (p2 := 11) (x := 0) rfl rfl (by decide) ?_
    refine te_iconst (p2 := 12) (x := 3) rfl rfl (by decide) ?_
    refine cS_pI (p2 := 15) rfl rfl rfl rfl (t_X12_in (n := x2) (a := 0) (b := 3) hI ) (by decide) (fun y3 r3 => ?_)
    rcases r3 with ⟨w3, c3⟩ | ⟨w3, c3⟩
    · subst w3
      have cc3_1 := (show Int32.toInt 0 = 0 from rfl)
      have cc3_2 := (show Int32.toInt 3 = 3 from rfl)
      refine tz_eq (p2 := 18) rfl rfl (show Int32.toInt 1 = 1 from rfl) (fun c4 => absurd c4 (by omega)) (fun c4 => ?_)
      refine te_iload_n (p2 := 19) rfl rfl rfl ?_
      refine te_iconst (p2 := 20) (x := 1) rfl rfl (by decide) ?_
      refine te_bipush (p2 := 22) (x := 10) rfl rfl (by decide) ?_
      refine cS_pI (p2 := 25) rfl rfl rfl rfl (t_X12_in (n := x3) (a := 1) (b := 10) hI ) (by decide) (fun y5 r5 => ?_)
      rcases r5 with ⟨w5, c5⟩ | ⟨w5, c5⟩
      · subst w5
        have cc5_1 := (show Int32.toInt 1 = 1 from rfl)
        have cc5_2 := (show Int32.toInt 10 = 10 from rfl)
        refine tz_eq (p2 := 28) rfl rfl (show Int32.toInt 1 = 1 from rfl) (fun c6 => absurd c6 (by omega)) (fun c6 => ?_)
        refine te_iload (p2 := 30) rfl rfl rfl ?_
        refine te_iconst (p2 := 31) (x := 1) rfl rfl (by decide) ?_
        refine te_bipush (p2 := 33) (x := 9) rfl rfl (by decide) ?_
        refine cS_pI (p2 := 36) rfl rfl rfl rfl (t_X12_in (n := x4) (a := 1) (b := 9) hI ) (by decide) (fun y7 r7 => ?_)
        rcases r7 with ⟨w7, c7⟩ | ⟨w7, c7⟩
        · subst w7
          have cc7_1 := (show Int32.toInt 1 = 1 from rfl)
          have cc7_2 := (show Int32.toInt 9 = 9 from rfl)
          refine tz_ne (p2 := 39) rfl rfl (show Int32.toInt 1 = 1 from rfl) (fun c8 => ?_) (fun c8 => absurd c8 (by omega))
          refine te_aload_n (p2 := 43) rfl rfl rfl ?_
          refine tg_i (p2 := 46) (i := 148) rfl rfl hI rfl rfl rfl (fun y9 a9 b9 e9 => ?_)
          refine te_bipush (p2 := 48) (x := 8) rfl rfl (by decide) ?_
          refine tb_ne (p2 := 51) rfl rfl rfl (show Int32.toInt 8 = 8 from rfl) (fun c10 => ?_) (fun c10 => ?_)
          · refine te_aload_n (p2 := 55) rfl rfl rfl ?_
            refine tg_r (p2 := 58) (i := 148) (r := 189) rfl rfl hI rfl rfl rfl ?_
            refine te_aload_n (p2 := 59) rfl rfl rfl ?_
            refine tg_e (p2 := 62) (i := 148) (v := .int y9) rfl rfl hI rfl rfl e9 ?_
            refine te_iload_n (p2 := 63) rfl rfl rfl ?_
            refine ts_i (p2 := 64) (i := 173) (n := 8) rfl rfl hI rfl rfl rfl rfl (by omega) (by omega) (by omega) (by omega) (by omega) rfl (fun h11 I11 u11 => ?_)
            have f11 := fr_st (F := F_X12_raid) 1 f0 u11 rfl (by omega) (by omega)
            refine te_aload_n (p2 := 65) rfl rfl rfl ?_
            refine tg_r (p2 := 68) (i := 148) (r := 190) rfl rfl I11 rfl rfl rfl ?_
            refine te_aload_n (p2 := 69) rfl rfl rfl ?_
            refine tg_e (p2 := 72) (i := 148) (v := .int y9) rfl rfl I11 rfl rfl ((u11.2 _ _ (Or.inl (by decide))).trans e9) ?_
            refine te_iload_n (p2 := 73) rfl rfl rfl ?_
            refine ts_i (p2 := 74) (i := 174) (n := 8) rfl rfl I11 rfl rfl rfl rfl (by omega) (by omega) (by omega) (by omega) (by omega) rfl (fun h12 I12 u12 => ?_)
            have f12 := fr_st (F := F_X12_raid) 2 f11 u12 rfl (by omega) (by omega)
            refine te_aload_n (p2 := 75) rfl rfl rfl ?_
            refine tg_r (p2 := 78) (i := 148) (r := 191) rfl rfl I12 rfl rfl rfl ?_
            refine te_aload_n (p2 := 79) rfl rfl rfl ?_
            refine tg_e (p2 := 82) (i := 148) (v := .int y9) rfl rfl I12 rfl rfl ((u12.2 _ _ (Or.inl (by decide))).trans ((u11.2 _ _ (Or.inl (by decide))).trans e9)) ?_
            refine te_iload_n (p2 := 83) rfl rfl rfl ?_
            refine ts_i (p2 := 84) (i := 175) (n := 8) rfl rfl I12 rfl rfl rfl rfl (by omega) (by omega) (by omega) (by omega) (by omega) rfl (fun h13 I13 u13 => ?_)
            have f13 := fr_st (F := F_X12_raid) 3 f12 u13 rfl (by omega) (by omega)
            refine te_aload_n (p2 := 85) rfl rfl rfl ?_
            refine tg_r (p2 := 88) (i := 148) (r := 192) rfl rfl I13 rfl rfl rfl ?_
            refine te_aload_n (p2 := 89) rfl rfl rfl ?_
            refine tg_e (p2 := 92) (i := 148) (v := .int y9) rfl rfl I13 rfl rfl ((u13.2 _ _ (Or.inl (by decide))).trans ((u12.2 _ _ (Or.inl (by decide))).trans ((u11.2 _ _ (Or.inl (by decide))).trans e9))) ?_
            refine te_iload (p2 := 94) rfl rfl rfl ?_
            refine ts_i (p2 := 95) (i := 176) (n := 8) rfl rfl I13 rfl rfl rfl rfl (by omega) (by omega) (by omega) (by omega) (by omega) rfl (fun h14 I14 u14 => ?_)
            have f14 := fr_st (F := F_X12_raid) 4 f13 u14 rfl (by omega) (by omega)
            refine te_aload_n (p2 := 96) rfl rfl rfl ?_
            refine te_dup (p2 := 97) rfl rfl rfl ?_
            refine tg_e (p2 := 100) (i := 148) (v := .int y9) rfl rfl I14 rfl rfl ((u14.2 _ _ (Or.inl (by decide))).trans ((u13.2 _ _ (Or.inl (by decide))).trans ((u12.2 _ _ (Or.inl (by decide))).trans ((u11.2 _ _ (Or.inl (by decide))).trans e9)))) ?_
            refine te_iconst (p2 := 101) (x := 1) rfl rfl (by decide) ?_
            refine ar_add (p2 := 102) rfl rfl rfl (show Int32.toInt 1 = 1 from rfl) (by omega) (by omega) (fun z15 e15 f15 => ?_)
            refine tp_i (p2 := 105) (i := 148) rfl rfl I14 rfl rfl (by decide) rfl rfl rfl (by omega) (by omega) (by omega) rfl (fun h16 I16 u16 => ?_)
            have f16 := fr_st (F := F_X12_raid) 0 f14 u16 rfl (by decide) (by decide)
            refine te_aload_n (p2 := 106) rfl rfl rfl ?_
            refine tg_e (p2 := 109) (i := 148) (v := .int z15) rfl rfl I16 rfl rfl u16.1 ?_
            refine te_iconst (p2 := 110) (x := 1) rfl rfl (by decide) ?_
            refine ar_sub (p2 := 111) rfl rfl rfl (show Int32.toInt 1 = 1 from rfl) (by omega) (by omega) (fun z17 e17 f17 => ?_)
            exact te_iret rfl rfl ⟨I16, f16, _, rfl, trivial⟩
          · refine te_bipush (p2 := 53) (x := (-4)) rfl rfl (by decide) ?_
            exact te_iret rfl rfl ⟨hI, f0, _, rfl, trivial⟩
        · subst w7
          have cc7_1 := (show Int32.toInt 1 = 1 from rfl)
          have cc7_2 := (show Int32.toInt 9 = 9 from rfl)
          refine tz_ne (p2 := 39) rfl rfl (show Int32.toInt 0 = 0 from rfl) (fun c18 => absurd c18 (by omega)) (fun c18 => ?_)
          refine te_bipush (p2 := 41) (x := (-2)) rfl rfl (by decide) ?_
          exact te_iret rfl rfl ⟨hI, f0, _, rfl, trivial⟩
      · subst w5
        have cc5_1 := (show Int32.toInt 1 = 1 from rfl)
        have cc5_2 := (show Int32.toInt 10 = 10 from rfl)
        refine tz_eq (p2 := 28) rfl rfl (show Int32.toInt 0 = 0 from rfl) (fun c19 => ?_) (fun c19 => absurd c19 (by omega))
        refine te_bipush (p2 := 41) (x := (-2)) rfl rfl (by decide) ?_
        exact te_iret rfl rfl ⟨hI, f0, _, rfl, trivial⟩
    · subst w3
      have cc3_1 := (show Int32.toInt 0 = 0 from rfl)
      have cc3_2 := (show Int32.toInt 3 = 3 from rfl)
      refine tz_eq (p2 := 18) rfl rfl (show Int32.toInt 0 = 0 from rfl) (fun c20 => ?_) (fun c20 => absurd c20 (by omega))
      refine te_bipush (p2 := 41) (x := (-2)) rfl rfl (by decide) ?_
      exact te_iret rfl rfl ⟨hI, f0, _, rfl, trivial⟩
  · subst w1
    refine tz_ne (p2 := 7) rfl rfl (show Int32.toInt 0 = 0 from rfl) (fun c21 => absurd c21 (by omega)) (fun c21 => ?_)
    refine te_iconst (p2 := 8) (x := (-1)) rfl rfl (by decide) ?_
    exact te_iret rfl rfl ⟨hI, f0, _, rfl, trivial⟩
abbrev F_X12_heirs : List (Nat × Nat × Nat) := []
set_option maxRecDepth 20000 in
set_option maxHeartbeats 4000000 in
theorem t_X12_heirs {x1 : Int32} {x2 : Int32} {x3 : Int32} {h : im_H} (hI : tI h)  : CaP 4 185 [.ref 164, .int x1, .int x2, .int x3] h (mI h F_X12_heirs (fun _ => True)) := by
  refine cap_of (d := 3) (M := mX12_heirs) rfl (Nat.le_of_ble_eq_true rfl) ?_
  show EvP im_K0 3 mX12_heirs (0, [(0, .ref 164), (1, .int x1), (2, .int x2), (3, .int x3)], [], h) _
  have f0 : fr F_X12_heirs h h := fr_rf
  refine te_aload_n (p2 := 1) rfl rfl rfl ?_
  refine te_iload_n (p2 := 2) rfl rfl rfl ?_
  refine te_iload_n (p2 := 3) rfl rfl rfl ?_
  refine te_iload_n (p2 := 4) rfl rfl rfl ?_
  refine cV_mI (p2 := 7) (i := 148) rfl rfl rfl rfl hI rfl rfl rfl (t_X12_owner (x1 := x1) (x2 := x2) (x3 := x3) hI ) (by decide) (fun y1 h1 I1 g1 r1 => ?_)
  have f1 := fr_tr (F1 := F_X12_owner) (F := F_X12_heirs) f0 g1 (by decide)
  obtain ⟨a1, b1⟩ := r1
  refine te_istore (p2 := 9) (lv2 := [(4, .int y1), (0, .ref 164), (1, .int x1), (2, .int x2), (3, .int x3)]) rfl rfl (by decide) rfl ?_
  refine te_iload (p2 := 11) rfl rfl rfl ?_
  refine tz_ge (p2 := 14) rfl rfl rfl (fun c2 => ?_) (fun c2 => ?_)
  · refine te_iconst (p2 := 18) (x := 0) rfl rfl (by decide) ?_
    refine te_istore (p2 := 20) (lv2 := [(5, .int 0), (4, .int y1), (0, .ref 164), (1, .int x1), (2, .int x2), (3, .int x3)]) rfl rfl (by decide) rfl ?_
    refine te_iconst (p2 := 21) (x := 0) rfl rfl (by decide) ?_
    refine te_istore (p2 := 23) (lv2 := [(6, .int 0), (5, .int 0), (4, .int y1), (0, .ref 164), (1, .int x1), (2, .int x2), (3, .int x3)]) rfl rfl (by decide) rfl ?_
    have lp3 : ∀ (n3 : Nat) (v3_5 v3_6 : Int32) , 0 ≤ v3_6.toInt → v3_6.toInt ≤ 24 → 24 - v3_6.toInt < (n3 : Int) → EvP im_K0 3 mX12_heirs (23, [(0, .ref 164), (1, .int x1), (2, .int x2), (3, .int x3), (4, .int y1), (5, .int v3_5), (6, .int v3_6)], [], h1) (mI h F_X12_heirs (fun _ => True)) := by
      intro n3
      induction n3 with
      | zero => intro v3_5 v3_6 a3_6 b3_6 m3; exfalso; omega
      | succ n3 ih3 =>
        intro v3_5 v3_6 a3_6 b3_6 m3
        refine te_iload (p2 := 25) rfl rfl rfl ?_
        refine te_aload_n (p2 := 26) rfl rfl rfl ?_
        refine tg_i (p2 := 29) (i := 148) rfl rfl I1 rfl rfl rfl (fun y4 a4 b4 e4 => ?_)
        refine tb_ge (p2 := 32) rfl rfl rfl rfl (fun c5 => ?_) (fun c5 => ?_)
        · refine te_aload_n (p2 := 83) rfl rfl rfl ?_
          refine tg_r (p2 := 86) (i := 148) (r := 165) rfl rfl I1 rfl rfl rfl ?_
          refine te_sipush (p2 := 89) (x := 236) rfl rfl (by decide) ?_
          refine te_iload (p2 := 91) rfl rfl rfl ?_
          refine ar_add (p2 := 92) rfl rfl (show Int32.toInt 236 = 236 from rfl) rfl (by omega) (by omega) (fun z6 e6 f6 => ?_)
          refine tl_i (p2 := 93) (i := 149) (n := 283) rfl rfl I1 rfl rfl rfl rfl (by omega) (by omega) (fun y7 a7 b7 g7 e7 => ?_)
          refine tz_ne (p2 := 96) rfl rfl rfl (fun c8 => ?_) (fun c8 => ?_)
          · refine te_iload (p2 := 105) rfl rfl rfl ?_
            exact te_iret rfl rfl ⟨I1, f1, _, rfl, trivial⟩
          · refine te_iconst (p2 := 97) (x := 1) rfl rfl (by decide) ?_
            refine te_iload (p2 := 99) rfl rfl rfl ?_
            refine au_shl (p2 := 100) rfl rfl (fun z9 e9 => ?_)
            refine te_goto rfl ?_
            exact te_iret rfl rfl ⟨I1, f1, _, rfl, trivial⟩
        · refine te_iload (p2 := 34) rfl rfl rfl ?_
          refine te_aload_n (p2 := 35) rfl rfl rfl ?_
          refine tg_r (p2 := 38) (i := 148) (r := 175) rfl rfl I1 rfl rfl rfl ?_
          refine te_iload (p2 := 40) rfl rfl rfl ?_
          refine tl_i (p2 := 41) (i := 159) (n := 24) rfl rfl I1 rfl rfl rfl rfl (by omega) (by omega) (fun y10 a10 b10 g10 e10 => ?_)
          refine te_aload_n (p2 := 42) rfl rfl rfl ?_
          refine tg_r (p2 := 45) (i := 148) (r := 175) rfl rfl I1 rfl rfl rfl ?_
          refine te_iload (p2 := 47) rfl rfl rfl ?_
          refine tl_i (p2 := 48) (i := 159) (n := 24) rfl rfl I1 rfl rfl rfl rfl (by omega) (by omega) (fun y11 a11 b11 g11 e11 => ?_)
          refine tb_ne (p2 := 51) rfl rfl rfl rfl (fun c12 => ?_) (fun c12 => ?_)
          · refine te_iconst (p2 := 73) (x := 0) rfl rfl (by decide) ?_
            refine te_ior (p2 := 74) (z := v3_5) rfl rfl (Int32.or_zero) ?_
            refine te_istore (p2 := 76) (lv2 := [(5, .int v3_5), (0, .ref 164), (1, .int x1), (2, .int x2), (3, .int x3), (4, .int y1), (6, .int v3_6)]) rfl rfl (by decide) rfl ?_
            refine ar_inc (p2 := 79) (x := v3_6) rfl rfl (by decide) rfl (by decide) rfl (by omega) (by omega) (fun z14 e14 f14 => ?_)
            show EvP _ _ _ (79, [(6, .int z14), (5, .int v3_5), (0, .ref 164), (1, .int x1), (2, .int x2), (3, .int x3), (4, .int y1)], [], h1) _
            refine te_goto rfl ?_
            refine te_lv [(0, .ref 164), (1, .int x1), (2, .int x2), (3, .int x3), (4, .int y1), (5, .int v3_5), (6, .int z14)] rfl rfl ⟨rfl, rfl, rfl, rfl, rfl, rfl, rfl, trivial⟩ ?_
            exact ih3 v3_5 z14 (by omega) (by omega) (by omega)
          · refine te_aload_n (p2 := 52) rfl rfl rfl ?_
            refine tg_r (p2 := 55) (i := 148) (r := 165) rfl rfl I1 rfl rfl rfl ?_
            refine te_sipush (p2 := 58) (x := 236) rfl rfl (by decide) ?_
            refine te_iload (p2 := 60) rfl rfl rfl ?_
            refine ar_add (p2 := 61) rfl rfl (show Int32.toInt 236 = 236 from rfl) rfl (by omega) (by omega) (fun z15 e15 f15 => ?_)
            refine tl_i (p2 := 62) (i := 149) (n := 283) rfl rfl I1 rfl rfl rfl rfl (by omega) (by omega) (fun y16 a16 b16 g16 e16 => ?_)
            refine tz_ne (p2 := 65) rfl rfl rfl (fun c17 => ?_) (fun c17 => ?_)
            · refine te_iconst (p2 := 73) (x := 0) rfl rfl (by decide) ?_
              refine te_ior (p2 := 74) (z := v3_5) rfl rfl (Int32.or_zero) ?_
              refine te_istore (p2 := 76) (lv2 := [(5, .int v3_5), (0, .ref 164), (1, .int x1), (2, .int x2), (3, .int x3), (4, .int y1), (6, .int v3_6)]) rfl rfl (by decide) rfl ?_
              refine ar_inc (p2 := 79) (x := v3_6) rfl rfl (by decide) rfl (by decide) rfl (by omega) (by omega) (fun z19 e19 f19 => ?_)
              show EvP _ _ _ (79, [(6, .int z19), (5, .int v3_5), (0, .ref 164), (1, .int x1), (2, .int x2), (3, .int x3), (4, .int y1)], [], h1) _
              refine te_goto rfl ?_
              refine te_lv [(0, .ref 164), (1, .int x1), (2, .int x2), (3, .int x3), (4, .int y1), (5, .int v3_5), (6, .int z19)] rfl rfl ⟨rfl, rfl, rfl, rfl, rfl, rfl, rfl, trivial⟩ ?_
              exact ih3 v3_5 z19 (by omega) (by omega) (by omega)
            · refine te_iconst (p2 := 66) (x := 1) rfl rfl (by decide) ?_
              refine te_iload (p2 := 68) rfl rfl rfl ?_
              refine au_shl (p2 := 69) rfl rfl (fun z20 e20 => ?_)
              refine te_goto rfl ?_
              refine au_or (p2 := 74) rfl rfl (fun z21 e21 => ?_)
              refine te_istore (p2 := 76) (lv2 := [(5, .int z21), (0, .ref 164), (1, .int x1), (2, .int x2), (3, .int x3), (4, .int y1), (6, .int v3_6)]) rfl rfl (by decide) rfl ?_
              refine ar_inc (p2 := 79) (x := v3_6) rfl rfl (by decide) rfl (by decide) rfl (by omega) (by omega) (fun z22 e22 f22 => ?_)
              show EvP _ _ _ (79, [(6, .int z22), (5, .int z21), (0, .ref 164), (1, .int x1), (2, .int x2), (3, .int x3), (4, .int y1)], [], h1) _
              refine te_goto rfl ?_
              refine te_lv [(0, .ref 164), (1, .int x1), (2, .int x2), (3, .int x3), (4, .int y1), (5, .int z21), (6, .int z22)] rfl rfl ⟨rfl, rfl, rfl, rfl, rfl, rfl, rfl, trivial⟩ ?_
              exact ih3 z21 z22 (by omega) (by omega) (by omega)
    refine te_lv [(0, .ref 164), (1, .int x1), (2, .int x2), (3, .int x3), (4, .int y1), (5, .int 0), (6, .int 0)] rfl rfl ⟨rfl, rfl, rfl, rfl, rfl, rfl, rfl, trivial⟩ ?_
    exact lp3 25 0 0 (by decide) (by decide) (by have cc0 := (show Int32.toInt 0 = 0 from rfl); omega)
  · refine te_iload (p2 := 16) rfl rfl rfl ?_
    exact te_iret rfl rfl ⟨I1, f1, _, rfl, trivial⟩
