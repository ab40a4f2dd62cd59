abbrev F_X12_late : List (Nat × Nat × Nat) := [(149, 108, 139), (197, 0, 15), (198, 0, 15)]
set_option maxRecDepth 20000 in
set_option maxHeartbeats 4000000 in
theorem t_X12_late {s : Int32} {n : Int32} {h : im_H} (hI : tI h) (p_s0 : 0 ≤ s.toInt) (p_s1 : s.toInt ≤ 3) (p_n0 : 1 ≤ n.toInt) (p_n1 : n.toInt ≤ 6) (pr0 : allB h 194 (40 * s.toInt.toNat) n.toInt 15) (pr1 : allB h 199 0 n.toInt (n.toInt - 1)) : CaP 4 166 [.ref 164, .int s, .int n] h (mI h F_X12_late (fun _ => True)) := by
  refine cap_of (d := 3) (M := mX12_late) rfl (Nat.le_of_ble_eq_true rfl) ?_
  show EvP im_K0 3 mX12_late (0, [(0, .ref 164), (1, .int s), (2, .int n)], [], h) _
  have f0 : fr F_X12_late h h := fr_rf
  refine te_iconst (p2 := 1) (x := 0) rfl rfl (by decide) ?_
  refine te_istore_n (p2 := 2) (lv2 := [(3, .int 0), (0, .ref 164), (1, .int s), (2, .int n)]) rfl rfl (by decide) rfl ?_
  refine te_iconst (p2 := 3) (x := 0) rfl rfl (by decide) ?_
  refine te_istore (p2 := 5) (lv2 := [(4, .int 0), (3, .int 0), (0, .ref 164), (1, .int s), (2, .int n)]) rfl rfl (by decide) rfl ?_
  have lp1 : ∀ (n1 : Nat) (v1_4 : Int32) (h1 : im_H), tI h1 → fr F_X12_late h h1 → 0 ≤ v1_4.toInt → v1_4.toInt ≤ 16 → 16 - v1_4.toInt < (n1 : Int) → EvP im_K0 3 mX12_late (5, [(0, .ref 164), (1, .int s), (2, .int n), (3, .int 0), (4, .int v1_4)], [], h1) (mI h F_X12_late (fun _ => True)) := by
    intro n1
    induction n1 with
    | zero => intro v1_4 h1 I1 f1 a1_4 b1_4 m1; exfalso; omega
    | succ n1 ih1 =>
      intro v1_4 h1 I1 f1 a1_4 b1_4 m1
      refine te_iload (p2 := 7) rfl rfl rfl ?_
      refine te_aload_n (p2 := 8) rfl rfl rfl ?_
      refine tg_i (p2 := 11) (i := 148) rfl rfl I1 rfl rfl rfl (fun y2 a2 b2 e2 => ?_)
      refine tb_ge (p2 := 14) rfl rfl rfl rfl (fun c3 => ?_) (fun c3 => ?_)
      · refine te_iconst (p2 := 55) (x := 0) rfl rfl (by decide) ?_
        refine te_istore (p2 := 57) (lv2 := [(4, .int 0), (0, .ref 164), (1, .int s), (2, .int n), (3, .int 0)]) rfl rfl (by decide) rfl ?_
        have lp4 : ∀ (n4 : Nat) (v4_3 v4_4 : Int32) (h4 : im_H), tI h4 → fr F_X12_late h h4 → 0 ≤ v4_4.toInt → v4_4.toInt ≤ 6 → 6 - v4_4.toInt < (n4 : Int) → EvP im_K0 3 mX12_late (57, [(0, .ref 164), (1, .int s), (2, .int n), (3, .int v4_3), (4, .int v4_4)], [], h4) (mI h F_X12_late (fun _ => True)) := by
          intro n4
          induction n4 with
          | zero => intro v4_3 v4_4 h4 I4 f4 a4_4 b4_4 m4; exfalso; omega
          | succ n4 ih4 =>
            intro v4_3 v4_4 h4 I4 f4 a4_4 b4_4 m4
            refine te_iload (p2 := 59) rfl rfl rfl ?_
            refine te_iload_n (p2 := 60) rfl rfl rfl ?_
            refine tb_ge (p2 := 63) rfl rfl rfl rfl (fun c5 => ?_) (fun c5 => ?_)
            · refine te_iconst (p2 := 177) (x := 0) rfl rfl (by decide) ?_
              refine te_istore (p2 := 179) (lv2 := [(4, .int 0), (0, .ref 164), (1, .int s), (2, .int n), (3, .int v4_3)]) rfl rfl (by decide) rfl ?_
              have lp6 : ∀ (n6 : Nat) (v6_4 : Int32) (h6 : im_H), tI h6 → fr F_X12_late h h6 → 0 ≤ v6_4.toInt → v6_4.toInt ≤ 16 → 16 - v6_4.toInt < (n6 : Int) → EvP im_K0 3 mX12_late (179, [(0, .ref 164), (1, .int s), (2, .int n), (3, .int v4_3), (4, .int v6_4)], [], h6) (mI h F_X12_late (fun _ => True)) := by
                intro n6
                induction n6 with
                | zero => intro v6_4 h6 I6 f6 a6_4 b6_4 m6; exfalso; omega
                | succ n6 ih6 =>
                  intro v6_4 h6 I6 f6 a6_4 b6_4 m6
                  refine te_iload (p2 := 181) rfl rfl rfl ?_
                  refine te_aload_n (p2 := 182) rfl rfl rfl ?_
                  refine tg_i (p2 := 185) (i := 148) rfl rfl I6 rfl rfl rfl (fun y7 a7 b7 e7 => ?_)
                  refine tb_ge (p2 := 188) rfl rfl rfl rfl (fun c8 => ?_) (fun c8 => ?_)
                  · refine te_iload_n (p2 := 229) rfl rfl rfl ?_
                    exact te_iret rfl rfl ⟨I6, f6, _, rfl, trivial⟩
                  · refine te_aload_n (p2 := 189) rfl rfl rfl ?_
                    refine tg_r (p2 := 192) (i := 148) (r := 165) rfl rfl I6 rfl rfl rfl ?_
                    refine te_bipush (p2 := 194) (x := 108) rfl rfl (by decide) ?_
                    refine te_iload (p2 := 196) rfl rfl rfl ?_
                    refine ar_add (p2 := 197) rfl rfl (show Int32.toInt 108 = 108 from rfl) rfl (by omega) (by omega) (fun z9 e9 f9 => ?_)
                    refine te_aload_n (p2 := 198) rfl rfl rfl ?_
                    refine tg_r (p2 := 201) (i := 148) (r := 213) rfl rfl I6 rfl rfl rfl ?_
                    refine te_iload (p2 := 203) rfl rfl rfl ?_
                    refine tl_i (p2 := 204) (i := 197) (n := 16) rfl rfl I6 rfl rfl rfl rfl (by omega) (by omega) (fun y10 a10 b10 g10 e10 => ?_)
                    refine ts_i (p2 := 205) (i := 149) (n := 283) rfl rfl I6 rfl rfl rfl rfl (by omega) (by omega) (i32_lo _) (i32_hi _) (i32_ho _) rfl (fun h11 I11 u11 => ?_)
                    have f11 := fr_st (F := F_X12_late) 0 f6 u11 rfl (by omega) (by omega)
                    refine te_aload_n (p2 := 206) rfl rfl rfl ?_
                    refine tg_r (p2 := 209) (i := 148) (r := 165) rfl rfl I11 rfl rfl rfl ?_
                    refine te_bipush (p2 := 211) (x := 124) rfl rfl (by decide) ?_
                    refine te_iload (p2 := 213) rfl rfl rfl ?_
                    refine ar_add (p2 := 214) rfl rfl (show Int32.toInt 124 = 124 from rfl) rfl (by omega) (by omega) (fun z12 e12 f12 => ?_)
                    refine te_aload_n (p2 := 215) rfl rfl rfl ?_
                    refine tg_r (p2 := 218) (i := 148) (r := 214) rfl rfl I11 rfl rfl rfl ?_
                    refine te_iload (p2 := 220) rfl rfl rfl ?_
                    refine tl_i (p2 := 221) (i := 198) (n := 16) rfl rfl I11 rfl rfl rfl rfl (by omega) (by omega) (fun y13 a13 b13 g13 e13 => ?_)
                    refine ts_i (p2 := 222) (i := 149) (n := 283) rfl rfl I11 rfl rfl rfl rfl (by omega) (by omega) (i32_lo _) (i32_hi _) (i32_ho _) rfl (fun h14 I14 u14 => ?_)
                    have f14 := fr_st (F := F_X12_late) 0 f11 u14 rfl (by omega) (by omega)
                    refine ar_inc (p2 := 225) (x := v6_4) rfl rfl (by decide) rfl (by decide) rfl (by omega) (by omega) (fun z15 e15 f15 => ?_)
                    show EvP _ _ _ (225, [(4, .int z15), (0, .ref 164), (1, .int s), (2, .int n), (3, .int v4_3)], [], h14) _
                    refine te_goto rfl ?_
                    refine te_lv [(0, .ref 164), (1, .int s), (2, .int n), (3, .int v4_3), (4, .int z15)] rfl rfl ⟨rfl, rfl, rfl, rfl, rfl, trivial⟩ ?_
                    exact ih6 z15 h14 I14 f14 (by omega) (by omega) (by omega)
              refine te_lv [(0, .ref 164), (1, .int s), (2, .int n), (3, .int v4_3), (4, .int 0)] rfl rfl ⟨rfl, rfl, rfl, rfl, rfl, trivial⟩ ?_
              exact lp6 17 0 h4 I4 f4 (by decide) (by decide) (by have cc0 := (show Int32.toInt 0 = 0 from rfl); omega)
            · refine te_aload_n (p2 := 64) rfl rfl rfl ?_
              refine tg_r (p2 := 67) (i := 148) (r := 210) rfl rfl I4 rfl rfl rfl ?_
              refine te_bipush (p2 := 69) (x := 40) rfl rfl (by decide) ?_
              refine te_iload_n (p2 := 70) rfl rfl rfl ?_
              refine ar_mul (p2 := 71) rfl rfl (show Int32.toInt 40 = 40 from rfl) rfl (by omega) (by omega) (fun z16 e16 f16 => ?_)
              refine te_aload_n (p2 := 72) rfl rfl rfl ?_
              refine tg_r (p2 := 75) (i := 148) (r := 215) rfl rfl I4 rfl rfl rfl ?_
              refine te_iload (p2 := 77) rfl rfl rfl ?_
              refine tl_i (p2 := 78) (i := 199) (n := 6) rfl rfl I4 rfl rfl rfl rfl (by omega) (by omega) (fun y17 a17 b17 g17 e17 => ?_)
              obtain ⟨a18, b18⟩ := allB_at (allB_fr pr1 (fun q => f4 _ _ rfl)) v4_4.toInt.toNat (by omega) (by rw [Nat.zero_add]) e17
              refine ar_add (p2 := 79) rfl rfl rfl rfl (by omega) (by omega) (fun z19 e19 f19 => ?_)
              refine tl_i (p2 := 80) (i := 194) (n := 160) rfl rfl I4 rfl rfl rfl rfl (by omega) (by omega) (fun y20 a20 b20 g20 e20 => ?_)
              obtain ⟨a21, b21⟩ := allB_at (allB_fr pr0 (fun q => f4 _ _ rfl)) y17.toInt.toNat (by omega) (by omega) e20
              refine te_istore (p2 := 82) (lv2 := [(5, .int y20), (0, .ref 164), (1, .int s), (2, .int n), (3, .int v4_3), (4, .int v4_4)]) rfl rfl (by decide) rfl ?_
              refine te_iload_n (p2 := 83) rfl rfl rfl ?_
              refine te_aload_n (p2 := 84) rfl rfl rfl ?_
              refine tg_r (p2 := 87) (i := 148) (r := 165) rfl rfl I4 rfl rfl rfl ?_
              refine te_bipush (p2 := 89) (x := 108) rfl rfl (by decide) ?_
              refine te_iload (p2 := 91) rfl rfl rfl ?_
              refine ar_add (p2 := 92) rfl rfl (show Int32.toInt 108 = 108 from rfl) rfl (by omega) (by omega) (fun z22 e22 f22 => ?_)
              refine tl_i (p2 := 93) (i := 149) (n := 283) rfl rfl I4 rfl rfl rfl rfl (by omega) (by omega) (fun y23 a23 b23 g23 e23 => ?_)
              refine tz_ne (p2 := 96) rfl rfl rfl (fun c24 => ?_) (fun c24 => ?_)
              · refine te_iconst (p2 := 101) (x := 0) rfl rfl (by decide) ?_
                have n25_v4_3 := i32_lo v4_3
                have o25_v4_3 := i32_hi v4_3
                refine ar_add (p2 := 102) rfl rfl rfl (show Int32.toInt 0 = 0 from rfl) (by omega) (by omega) (fun z25 e25 f25 => ?_)
                refine te_istore_n (p2 := 103) (lv2 := [(3, .int z25), (5, .int y20), (0, .ref 164), (1, .int s), (2, .int n), (4, .int v4_4)]) rfl rfl (by decide) rfl ?_
                refine te_aload_n (p2 := 104) rfl rfl rfl ?_
                refine tg_r (p2 := 107) (i := 148) (r := 165) rfl rfl I4 rfl rfl rfl ?_
                refine te_bipush (p2 := 109) (x := 108) rfl rfl (by decide) ?_
                refine te_iload (p2 := 111) rfl rfl rfl ?_
                refine ar_add (p2 := 112) rfl rfl (show Int32.toInt 108 = 108 from rfl) rfl (by omega) (by omega) (fun z26 e26 f26 => ?_)
                refine te_iconst (p2 := 113) (x := 0) rfl rfl (by decide) ?_
                refine ts_i (p2 := 114) (i := 149) (n := 283) rfl rfl I4 rfl rfl rfl rfl (by omega) (by omega) (i32_lo _) (i32_hi _) (i32_ho _) rfl (fun h27 I27 u27 => ?_)
                have f27 := fr_st (F := F_X12_late) 0 f4 u27 rfl (by omega) (by omega)
                refine te_iconst (p2 := 115) (x := 0) rfl rfl (by decide) ?_
                refine te_istore (p2 := 117) (lv2 := [(6, .int 0), (3, .int z25), (5, .int y20), (0, .ref 164), (1, .int s), (2, .int n), (4, .int v4_4)]) rfl rfl (by decide) rfl ?_
                have lp28 : ∀ (n28 : Nat) (v28_6 : Int32) (h28 : im_H), tI h28 → fr F_X12_late h h28 → 0 ≤ v28_6.toInt → v28_6.toInt ≤ 16 → 16 - v28_6.toInt < (n28 : Int) → EvP im_K0 3 mX12_late (117, [(0, .ref 164), (1, .int s), (2, .int n), (3, .int z25), (4, .int v4_4), (5, .int y20), (6, .int v28_6)], [], h28) (mI h F_X12_late (fun _ => True)) := by
                  intro n28
                  induction n28 with
                  | zero => intro v28_6 h28 I28 f28 a28_6 b28_6 m28; exfalso; omega
                  | succ n28 ih28 =>
                    intro v28_6 h28 I28 f28 a28_6 b28_6 m28
                    refine te_iload (p2 := 119) rfl rfl rfl ?_
                    refine te_aload_n (p2 := 120) rfl rfl rfl ?_
                    refine tg_i (p2 := 123) (i := 148) rfl rfl I28 rfl rfl rfl (fun y29 a29 b29 e29 => ?_)
                    refine tb_ge (p2 := 126) rfl rfl rfl rfl (fun c30 => ?_) (fun c30 => ?_)
                    · refine ar_inc (p2 := 173) (x := v4_4) rfl rfl (by decide) rfl (by decide) rfl (by omega) (by omega) (fun z31 e31 f31 => ?_)
                      show EvP _ _ _ (173, [(4, .int z31), (0, .ref 164), (1, .int s), (2, .int n), (3, .int z25), (5, .int y20), (6, .int v28_6)], [], h28) _
                      refine te_goto rfl ?_
                      refine te_lv [(0, .ref 164), (1, .int s), (2, .int n), (3, .int z25), (4, .int z31)] rfl rfl ⟨rfl, rfl, rfl, rfl, rfl, trivial⟩ ?_
                      exact ih4 z25 z31 h28 I28 f28 (by omega) (by omega) (by omega)
                    · refine te_aload_n (p2 := 127) rfl rfl rfl ?_
                      refine tg_r (p2 := 130) (i := 148) (r := 165) rfl rfl I28 rfl rfl rfl ?_
                      refine te_bipush (p2 := 132) (x := 108) rfl rfl (by decide) ?_
                      refine te_iload (p2 := 134) rfl rfl rfl ?_
                      refine ar_add (p2 := 135) rfl rfl (show Int32.toInt 108 = 108 from rfl) rfl (by omega) (by omega) (fun z32 e32 f32 => ?_)
                      refine te_aload_n (p2 := 136) rfl rfl rfl ?_
                      refine tg_r (p2 := 139) (i := 148) (r := 165) rfl rfl I28 rfl rfl rfl ?_
                      refine te_bipush (p2 := 141) (x := 108) rfl rfl (by decide) ?_
                      refine te_iload (p2 := 143) rfl rfl rfl ?_
                      refine ar_add (p2 := 144) rfl rfl (show Int32.toInt 108 = 108 from rfl) rfl (by omega) (by omega) (fun z33 e33 f33 => ?_)
                      refine tl_i (p2 := 145) (i := 149) (n := 283) rfl rfl I28 rfl rfl rfl rfl (by omega) (by omega) (fun y34 a34 b34 g34 e34 => ?_)
                      refine te_iconst (p2 := 146) (x := 1) rfl rfl (by decide) ?_
                      refine tb_ne (p2 := 149) rfl rfl rfl (show Int32.toInt 1 = 1 from rfl) (fun c35 => ?_) (fun c35 => ?_)
                      · refine te_iconst (p2 := 163) (x := 0) rfl rfl (by decide) ?_
                        refine ts_i (p2 := 164) (i := 149) (n := 283) rfl rfl I28 rfl rfl rfl rfl (by omega) (by omega) (i32_lo _) (i32_hi _) (i32_ho _) rfl (fun h36 I36 u36 => ?_)
                        have f36 := fr_st (F := F_X12_late) 0 f28 u36 rfl (by omega) (by omega)
                        refine ar_inc (p2 := 167) (x := v28_6) rfl rfl (by decide) rfl (by decide) rfl (by omega) (by omega) (fun z37 e37 f37 => ?_)
                        show EvP _ _ _ (167, [(6, .int z37), (0, .ref 164), (1, .int s), (2, .int n), (3, .int z25), (4, .int v4_4), (5, .int y20)], [], h36) _
                        refine te_goto rfl ?_
                        refine te_lv [(0, .ref 164), (1, .int s), (2, .int n), (3, .int z25), (4, .int v4_4), (5, .int y20), (6, .int z37)] rfl rfl ⟨rfl, rfl, rfl, rfl, rfl, rfl, rfl, trivial⟩ ?_
                        exact ih28 z37 h36 I36 f36 (by omega) (by omega) (by omega)
                      · refine te_aload_n (p2 := 150) rfl rfl rfl ?_
                        refine te_iload (p2 := 152) rfl rfl rfl ?_
                        refine cV_mI (p2 := 155) (i := 148) rfl rfl rfl rfl I28 rfl rfl rfl (t_X12_wears (w := v28_6) I28 (by omega) (by omega)) (by decide) (fun y38 h38 I38 g38 r38 => ?_)
                        have f38 := fr_tr (F1 := F_X12_wears) (F := F_X12_late) f28 g38 (by decide)
                        obtain ⟨a38, b38⟩ := r38
                        refine tz_ne (p2 := 158) rfl rfl rfl (fun c39 => ?_) (fun c39 => ?_)
                        · refine te_iconst (p2 := 163) (x := 0) rfl rfl (by decide) ?_
                          refine ts_i (p2 := 164) (i := 149) (n := 283) rfl rfl I38 rfl rfl rfl rfl (by omega) (by omega) (i32_lo _) (i32_hi _) (i32_ho _) rfl (fun h40 I40 u40 => ?_)
                          have f40 := fr_st (F := F_X12_late) 0 f38 u40 rfl (by omega) (by omega)
                          refine ar_inc (p2 := 167) (x := v28_6) rfl rfl (by decide) rfl (by decide) rfl (by omega) (by omega) (fun z41 e41 f41 => ?_)
                          show EvP _ _ _ (167, [(6, .int z41), (0, .ref 164), (1, .int s), (2, .int n), (3, .int z25), (4, .int v4_4), (5, .int y20)], [], h40) _
                          refine te_goto rfl ?_
                          refine te_lv [(0, .ref 164), (1, .int s), (2, .int n), (3, .int z25), (4, .int v4_4), (5, .int y20), (6, .int z41)] rfl rfl ⟨rfl, rfl, rfl, rfl, rfl, rfl, rfl, trivial⟩ ?_
                          exact ih28 z41 h40 I40 f40 (by omega) (by omega) (by omega)
                        · refine te_iconst (p2 := 159) (x := 1) rfl rfl (by decide) ?_
                          refine te_goto rfl ?_
                          refine ts_i (p2 := 164) (i := 149) (n := 283) rfl rfl I38 rfl rfl rfl rfl (by omega) (by omega) (i32_lo _) (i32_hi _) (i32_ho _) rfl (fun h42 I42 u42 => ?_)
                          have f42 := fr_st (F := F_X12_late) 0 f38 u42 rfl (by omega) (by omega)
                          refine ar_inc (p2 := 167) (x := v28_6) rfl rfl (by decide) rfl (by decide) rfl (by omega) (by omega) (fun z43 e43 f43 => ?_)
                          show EvP _ _ _ (167, [(6, .int z43), (0, .ref 164), (1, .int s), (2, .int n), (3, .int z25), (4, .int v4_4), (5, .int y20)], [], h42) _
                          refine te_goto rfl ?_
                          refine te_lv [(0, .ref 164), (1, .int s), (2, .int n), (3, .int z25), (4, .int v4_4), (5, .int y20), (6, .int z43)] rfl rfl ⟨rfl, rfl, rfl, rfl, rfl, rfl, rfl, trivial⟩ ?_
                          exact ih28 z43 h42 I42 f42 (by omega) (by omega) (by omega)
                refine te_lv [(0, .ref 164), (1, .int s), (2, .int n), (3, .int z25), (4, .int v4_4), (5, .int y20), (6, .int 0)] rfl rfl ⟨rfl, rfl, rfl, rfl, rfl, rfl, rfl, trivial⟩ ?_
                exact lp28 17 0 h27 I27 f27 (by decide) (by decide) (by have cc0 := (show Int32.toInt 0 = 0 from rfl); omega)
              · refine te_iconst (p2 := 97) (x := 1) rfl rfl (by decide) ?_
                refine te_goto rfl ?_
                refine au_add (p2 := 102) rfl rfl (fun z44 e44 => ?_)
                refine te_istore_n (p2 := 103) (lv2 := [(3, .int z44), (5, .int y20), (0, .ref 164), (1, .int s), (2, .int n), (4, .int v4_4)]) rfl rfl (by decide) rfl ?_
                refine te_aload_n (p2 := 104) rfl rfl rfl ?_
                refine tg_r (p2 := 107) (i := 148) (r := 165) rfl rfl I4 rfl rfl rfl ?_
                refine te_bipush (p2 := 109) (x := 108) rfl rfl (by decide) ?_
                refine te_iload (p2 := 111) rfl rfl rfl ?_
                refine ar_add (p2 := 112) rfl rfl (show Int32.toInt 108 = 108 from rfl) rfl (by omega) (by omega) (fun z45 e45 f45 => ?_)
                refine te_iconst (p2 := 113) (x := 0) rfl rfl (by decide) ?_
                refine ts_i (p2 := 114) (i := 149) (n := 283) rfl rfl I4 rfl rfl rfl rfl (by omega) (by omega) (i32_lo _) (i32_hi _) (i32_ho _) rfl (fun h46 I46 u46 => ?_)
                have f46 := fr_st (F := F_X12_late) 0 f4 u46 rfl (by omega) (by omega)
                refine te_iconst (p2 := 115) (x := 0) rfl rfl (by decide) ?_
                refine te_istore (p2 := 117) (lv2 := [(6, .int 0), (3, .int z44), (5, .int y20), (0, .ref 164), (1, .int s), (2, .int n), (4, .int v4_4)]) rfl rfl (by decide) rfl ?_
                have lp47 : ∀ (n47 : Nat) (v47_6 : Int32) (h47 : im_H), tI h47 → fr F_X12_late h h47 → 0 ≤ v47_6.toInt → v47_6.toInt ≤ 16 → 16 - v47_6.toInt < (n47 : Int) → EvP im_K0 3 mX12_late (117, [(0, .ref 164), (1, .int s), (2, .int n), (3, .int z44), (4, .int v4_4), (5, .int y20), (6, .int v47_6)], [], h47) (mI h F_X12_late (fun _ => True)) := by
                  intro n47
                  induction n47 with
                  | zero => intro v47_6 h47 I47 f47 a47_6 b47_6 m47; exfalso; omega
                  | succ n47 ih47 =>
                    intro v47_6 h47 I47 f47 a47_6 b47_6 m47
                    refine te_iload (p2 := 119) rfl rfl rfl ?_
                    refine te_aload_n (p2 := 120) rfl rfl rfl ?_
                    refine tg_i (p2 := 123) (i := 148) rfl rfl I47 rfl rfl rfl (fun y48 a48 b48 e48 => ?_)
                    refine tb_ge (p2 := 126) rfl rfl rfl rfl (fun c49 => ?_) (fun c49 => ?_)
                    · refine ar_inc (p2 := 173) (x := v4_4) rfl rfl (by decide) rfl (by decide) rfl (by omega) (by omega) (fun z50 e50 f50 => ?_)
                      show EvP _ _ _ (173, [(4, .int z50), (0, .ref 164), (1, .int s), (2, .int n), (3, .int z44), (5, .int y20), (6, .int v47_6)], [], h47) _
                      refine te_goto rfl ?_
                      refine te_lv [(0, .ref 164), (1, .int s), (2, .int n), (3, .int z44), (4, .int z50)] rfl rfl ⟨rfl, rfl, rfl, rfl, rfl, trivial⟩ ?_
                      exact ih4 z44 z50 h47 I47 f47 (by omega) (by omega) (by omega)
                    · refine te_aload_n (p2 := 127) rfl rfl rfl ?_
                      refine tg_r (p2 := 130) (i := 148) (r := 165) rfl rfl I47 rfl rfl rfl ?_
                      refine te_bipush (p2 := 132) (x := 108) rfl rfl (by decide) ?_
                      refine te_iload (p2 := 134) rfl rfl rfl ?_
                      refine ar_add (p2 := 135) rfl rfl (show Int32.toInt 108 = 108 from rfl) rfl (by omega) (by omega) (fun z51 e51 f51 => ?_)
                      refine te_aload_n (p2 := 136) rfl rfl rfl ?_
                      refine tg_r (p2 := 139) (i := 148) (r := 165) rfl rfl I47 rfl rfl rfl ?_
                      refine te_bipush (p2 := 141) (x := 108) rfl rfl (by decide) ?_
                      refine te_iload (p2 := 143) rfl rfl rfl ?_
                      refine ar_add (p2 := 144) rfl rfl (show Int32.toInt 108 = 108 from rfl) rfl (by omega) (by omega) (fun z52 e52 f52 => ?_)
                      refine tl_i (p2 := 145) (i := 149) (n := 283) rfl rfl I47 rfl rfl rfl rfl (by omega) (by omega) (fun y53 a53 b53 g53 e53 => ?_)
                      refine te_iconst (p2 := 146) (x := 1) rfl rfl (by decide) ?_
                      refine tb_ne (p2 := 149) rfl rfl rfl (show Int32.toInt 1 = 1 from rfl) (fun c54 => ?_) (fun c54 => ?_)
                      · refine te_iconst (p2 := 163) (x := 0) rfl rfl (by decide) ?_
                        refine ts_i (p2 := 164) (i := 149) (n := 283) rfl rfl I47 rfl rfl rfl rfl (by omega) (by omega) (i32_lo _) (i32_hi _) (i32_ho _) rfl (fun h55 I55 u55 => ?_)
                        have f55 := fr_st (F := F_X12_late) 0 f47 u55 rfl (by omega) (by omega)
                        refine ar_inc (p2 := 167) (x := v47_6) rfl rfl (by decide) rfl (by decide) rfl (by omega) (by omega) (fun z56 e56 f56 => ?_)
                        show EvP _ _ _ (167, [(6, .int z56), (0, .ref 164), (1, .int s), (2, .int n), (3, .int z44), (4, .int v4_4), (5, .int y20)], [], h55) _
                        refine te_goto rfl ?_
                        refine te_lv [(0, .ref 164), (1, .int s), (2, .int n), (3, .int z44), (4, .int v4_4), (5, .int y20), (6, .int z56)] rfl rfl ⟨rfl, rfl, rfl, rfl, rfl, rfl, rfl, trivial⟩ ?_
                        exact ih47 z56 h55 I55 f55 (by omega) (by omega) (by omega)
                      · refine te_aload_n (p2 := 150) rfl rfl rfl ?_
                        refine te_iload (p2 := 152) rfl rfl rfl ?_
                        refine cV_mI (p2 := 155) (i := 148) rfl rfl rfl rfl I47 rfl rfl rfl (t_X12_wears (w := v47_6) I47 (by omega) (by omega)) (by decide) (fun y57 h57 I57 g57 r57 => ?_)
                        have f57 := fr_tr (F1 := F_X12_wears) (F := F_X12_late) f47 g57 (by decide)
                        obtain ⟨a57, b57⟩ := r57
                        refine tz_ne (p2 := 158) rfl rfl rfl (fun c58 => ?_) (fun c58 => ?_)
                        · refine te_iconst (p2 := 163) (x := 0) rfl rfl (by decide) ?_
                          refine ts_i (p2 := 164) (i := 149) (n := 283) rfl rfl I57 rfl rfl rfl rfl (by omega) (by omega) (i32_lo _) (i32_hi _) (i32_ho _) rfl (fun h59 I59 u59 => ?_)
                          have f59 := fr_st (F := F_X12_late) 0 f57 u59 rfl (by omega) (by omega)
                          refine ar_inc (p2 := 167) (x := v47_6) rfl rfl (by decide) rfl (by decide) rfl (by omega) (by omega) (fun z60 e60 f60 => ?_)
                          show EvP _ _ _ (167, [(6, .int z60), (0, .ref 164), (1, .int s), (2, .int n), (3, .int z44), (4, .int v4_4), (5, .int y20)], [], h59) _
                          refine te_goto rfl ?_
                          refine te_lv [(0, .ref 164), (1, .int s), (2, .int n), (3, .int z44), (4, .int v4_4), (5, .int y20), (6, .int z60)] rfl rfl ⟨rfl, rfl, rfl, rfl, rfl, rfl, rfl, trivial⟩ ?_
                          exact ih47 z60 h59 I59 f59 (by omega) (by omega) (by omega)
                        · refine te_iconst (p2 := 159) (x := 1) rfl rfl (by decide) ?_
                          refine te_goto rfl ?_
                          refine ts_i (p2 := 164) (i := 149) (n := 283) rfl rfl I57 rfl rfl rfl rfl (by omega) (by omega) (i32_lo _) (i32_hi _) (i32_ho _) rfl (fun h61 I61 u61 => ?_)
                          have f61 := fr_st (F := F_X12_late) 0 f57 u61 rfl (by omega) (by omega)
                          refine ar_inc (p2 := 167) (x := v47_6) rfl rfl (by decide) rfl (by decide) rfl (by omega) (by omega) (fun z62 e62 f62 => ?_)
                          show EvP _ _ _ (167, [(6, .int z62), (0, .ref 164), (1, .int s), (2, .int n), (3, .int z44), (4, .int v4_4), (5, .int y20)], [], h61) _
                          refine te_goto rfl ?_
                          refine te_lv [(0, .ref 164), (1, .int s), (2, .int n), (3, .int z44), (4, .int v4_4), (5, .int y20), (6, .int z62)] rfl rfl ⟨rfl, rfl, rfl, rfl, rfl, rfl, rfl, trivial⟩ ?_
                          exact ih47 z62 h61 I61 f61 (by omega) (by omega) (by omega)
                refine te_lv [(0, .ref 164), (1, .int s), (2, .int n), (3, .int z44), (4, .int v4_4), (5, .int y20), (6, .int 0)] rfl rfl ⟨rfl, rfl, rfl, rfl, rfl, rfl, rfl, trivial⟩ ?_
                exact lp47 17 0 h46 I46 f46 (by decide) (by decide) (by have cc0 := (show Int32.toInt 0 = 0 from rfl); omega)
        refine te_lv [(0, .ref 164), (1, .int s), (2, .int n), (3, .int 0), (4, .int 0)] rfl rfl ⟨rfl, rfl, rfl, rfl, rfl, trivial⟩ ?_
        exact lp4 7 0 0 h1 I1 f1 (by decide) (by decide) (by have cc0 := (show Int32.toInt 0 = 0 from rfl); omega)
      · refine te_aload_n (p2 := 15) rfl rfl rfl ?_
        refine tg_r (p2 := 18) (i := 148) (r := 213) rfl rfl I1 rfl rfl rfl ?_
        refine te_iload (p2 := 20) rfl rfl rfl ?_
        refine te_aload_n (p2 := 21) rfl rfl rfl ?_
        refine tg_r (p2 := 24) (i := 148) (r := 165) rfl rfl I1 rfl rfl rfl ?_
        refine te_bipush (p2 := 26) (x := 108) rfl rfl (by decide) ?_
        refine te_iload (p2 := 28) rfl rfl rfl ?_
        refine ar_add (p2 := 29) rfl rfl (show Int32.toInt 108 = 108 from rfl) rfl (by omega) (by omega) (fun z63 e63 f63 => ?_)
        refine tl_i (p2 := 30) (i := 149) (n := 283) rfl rfl I1 rfl rfl rfl rfl (by omega) (by omega) (fun y64 a64 b64 g64 e64 => ?_)
        refine ts_i (p2 := 31) (i := 197) (n := 16) rfl rfl I1 rfl rfl rfl rfl (by omega) (by omega) (i32_lo _) (i32_hi _) (i32_ho _) rfl (fun h65 I65 u65 => ?_)
        have f65 := fr_st (F := F_X12_late) 1 f1 u65 rfl (by omega) (by omega)
        refine te_aload_n (p2 := 32) rfl rfl rfl ?_
        refine tg_r (p2 := 35) (i := 148) (r := 214) rfl rfl I65 rfl rfl rfl ?_
        refine te_iload (p2 := 37) rfl rfl rfl ?_
        refine te_aload_n (p2 := 38) rfl rfl rfl ?_
        refine tg_r (p2 := 41) (i := 148) (r := 165) rfl rfl I65 rfl rfl rfl ?_
        refine te_bipush (p2 := 43) (x := 124) rfl rfl (by decide) ?_
        refine te_iload (p2 := 45) rfl rfl rfl ?_
        refine ar_add (p2 := 46) rfl rfl (show Int32.toInt 124 = 124 from rfl) rfl (by omega) (by omega) (fun z66 e66 f66 => ?_)
        refine tl_i (p2 := 47) (i := 149) (n := 283) rfl rfl I65 rfl rfl rfl rfl (by omega) (by omega) (fun y67 a67 b67 g67 e67 => ?_)
        refine ts_i (p2 := 48) (i := 198) (n := 16) rfl rfl I65 rfl rfl rfl rfl (by omega) (by omega) (i32_lo _) (i32_hi _) (i32_ho _) rfl (fun h68 I68 u68 => ?_)
        have f68 := fr_st (F := F_X12_late) 2 f65 u68 rfl (by omega) (by omega)
        refine ar_inc (p2 := 51) (x := v1_4) rfl rfl (by decide) rfl (by decide) rfl (by omega) (by omega) (fun z69 e69 f69 => ?_)
        show EvP _ _ _ (51, [(4, .int z69), (0, .ref 164), (1, .int s), (2, .int n), (3, .int 0)], [], h68) _
        refine te_goto rfl ?_
        refine te_lv [(0, .ref 164), (1, .int s), (2, .int n), (3, .int 0), (4, .int z69)] rfl rfl ⟨rfl, rfl, rfl, rfl, rfl, trivial⟩ ?_
        exact ih1 z69 h68 I68 f68 (by omega) (by omega) (by have cc0 := (show Int32.toInt 0 = 0 from rfl); omega)
  refine te_lv [(0, .ref 164), (1, .int s), (2, .int n), (3, .int 0), (4, .int 0)] rfl rfl ⟨rfl, rfl, rfl, rfl, rfl, trivial⟩ ?_
  exact lp1 17 0 h hI f0 (by decide) (by decide) (by have cc0 := (show Int32.toInt 0 = 0 from rfl); omega)
abbrev F_X12_nextOrder_1 : List (Nat × Nat × Nat) := [(199, 0, 5)]
set_option maxRecDepth 20000 in
set_option maxHeartbeats 4000000 in
theorem t_X12_nextOrder_1 {g0 : Int32} {g1 : Int32} {g2 : Int32} {g3 : Int32} {g4 : Int32} {g5 : Int32} {h : im_H} (hI : tI h) (hg0 : rd h 199 (Int32.toInt 0).toNat = some (.int g0)) (ga0 : 0 ≤ g0.toInt) (gb0 : g0.toInt ≤ 5) (hg1 : rd h 199 (Int32.toInt 1).toNat = some (.int g1)) (ga1 : 0 ≤ g1.toInt) (gb1 : g1.toInt ≤ 5) (hg2 : rd h 199 (Int32.toInt 2).toNat = some (.int g2)) (ga2 : 0 ≤ g2.toInt) (gb2 : g2.toInt ≤ 5) (hg3 : rd h 199 (Int32.toInt 3).toNat = some (.int g3)) (ga3 : 0 ≤ g3.toInt) (gb3 : g3.toInt ≤ 5) (hg4 : rd h 199 (Int32.toInt 4).toNat = some (.int g4)) (ga4 : 0 ≤ g4.toInt) (gb4 : g4.toInt ≤ 5) (hg5 : rd h 199 (Int32.toInt 5).toNat = some (.int g5)) (ga5 : 0 ≤ g5.toInt) (gb5 : g5.toInt ≤ 5) (pr0 : prm 1 g0.toInt g1.toInt g2.toInt g3.toInt g4.toInt g5.toInt) : CaP 1 167 [.ref 164, .int 1] h (fun v h2 => tI h2 ∧ fr F_X12_nextOrder_1 h h2 ∧ ∃ y : Int32, v = some (.int y) ∧ (y = 0 ∨ (y = 1 ∧ ∃ k0 k1 k2 k3 k4 k5 : Int32, rd h2 199 (Int32.toInt 0).toNat = some (.int k0) ∧ rd h2 199 (Int32.toInt 1).toNat = some (.int k1) ∧ rd h2 199 (Int32.toInt 2).toNat = some (.int k2) ∧ rd h2 199 (Int32.toInt 3).toNat = some (.int k3) ∧ rd h2 199 (Int32.toInt 4).toNat = some (.int k4) ∧ rd h2 199 (Int32.toInt 5).toNat = some (.int k5) ∧ prm 1 k0.toInt k1.toInt k2.toInt k3.toInt k4.toInt k5.toInt ∧ lexV g0.toInt g1.toInt g2.toInt g3.toInt g4.toInt g5.toInt < lexV k0.toInt k1.toInt k2.toInt k3.toInt k4.toInt k5.toInt))) := by
  refine cap_of (d := 0) (M := mX12_nextOrder) rfl (Nat.le_of_ble_eq_true rfl) ?_
  show EvP im_K0 0 mX12_nextOrder (0, [(0, .ref 164), (1, .int 1)], [], h) _
  obtain ⟨q0, q1, q2, q3, q4, q5⟩ := pr0
  have q0 := q0 (by decide)
  clear q1 q2 q3 q4 q5
  have f0 : fr F_X12_nextOrder_1 h h := fr_rf
  refine te_iload_n (p2 := 1) rfl rfl rfl ?_
  refine te_iconst (p2 := 2) (x := 2) rfl rfl (by decide) ?_
  refine te_isub (p2 := 3) (z := (-1)) rfl rfl (by decide) ?_
  refine te_istore_n (p2 := 4) (lv2 := [(2, .int (-1)), (0, .ref 164), (1, .int 1)]) rfl rfl (by decide) rfl ?_
  refine te_iload_n (p2 := 5) rfl rfl rfl ?_
  refine tz_lt (p2 := 8) rfl rfl (show Int32.toInt (-1) = (-1) from rfl) (fun c2 => ?_) (fun c2 => absurd c2 (by omega))
  refine te_iload_n (p2 := 32) rfl rfl rfl ?_
  refine tz_ge (p2 := 35) rfl rfl (show Int32.toInt (-1) = (-1) from rfl) (fun c3 => absurd c3 (by omega)) (fun c3 => ?_)
  refine te_iconst (p2 := 36) (x := 0) rfl rfl (by decide) ?_
  exact te_zret rfl rfl (by decide) ⟨hI, f0, _, rfl, Or.inl rfl⟩
abbrev F_X12_nextOrder_2 : List (Nat × Nat × Nat) := [(199, 0, 5)]
set_option maxRecDepth 20000 in
set_option maxHeartbeats 4000000 in
theorem t_X12_nextOrder_2 {g0 : Int32} {g1 : Int32} {g2 : Int32} {g3 : Int32} {g4 : Int32} {g5 : Int32} {h : im_H} (hI : tI h) (hg0 : rd h 199 (Int32.toInt 0).toNat = some (.int g0)) (ga0 : 0 ≤ g0.toInt) (gb0 : g0.toInt ≤ 5) (hg1 : rd h 199 (Int32.toInt 1).toNat = some (.int g1)) (ga1 : 0 ≤ g1.toInt) (gb1 : g1.toInt ≤ 5) (hg2 : rd h 199 (Int32.toInt 2).toNat = some (.int g2)) (ga2 : 0 ≤ g2.toInt) (gb2 : g2.toInt ≤ 5) (hg3 : rd h 199 (Int32.toInt 3).toNat = some (.int g3)) (ga3 : 0 ≤ g3.toInt) (gb3 : g3.toInt ≤ 5) (hg4 : rd h 199 (Int32.toInt 4).toNat = some (.int g4)) (ga4 : 0 ≤ g4.toInt) (gb4 : g4.toInt ≤ 5) (hg5 : rd h 199 (Int32.toInt 5).toNat = some (.int g5)) (ga5 : 0 ≤ g5.toInt) (gb5 : g5.toInt ≤ 5) (pr0 : prm 2 g0.toInt g1.toInt g2.toInt g3.toInt g4.toInt g5.toInt) : CaP 1 167 [.ref 164, .int 2] h (fun v h2 => tI h2 ∧ fr F_X12_nextOrder_2 h h2 ∧ ∃ y : Int32, v = some (.int y) ∧ (y = 0 ∨ (y = 1 ∧ ∃ k0 k1 k2 k3 k4 k5 : Int32, rd h2 199 (Int32.toInt 0).toNat = some (.int k0) ∧ rd h2 199 (Int32.toInt 1).toNat = some (.int k1) ∧ rd h2 199 (Int32.toInt 2).toNat = some (.int k2) ∧ rd h2 199 (Int32.toInt 3).toNat = some (.int k3) ∧ rd h2 199 (Int32.toInt 4).toNat = some (.int k4) ∧ rd h2 199 (Int32.toInt 5).toNat = some (.int k5) ∧ prm 2 k0.toInt k1.toInt k2.toInt k3.toInt k4.toInt k5.toInt ∧ lexV g0.toInt g1.toInt g2.toInt g3.toInt g4.toInt g5.toInt < lexV k0.toInt k1.toInt k2.toInt k3.toInt k4.toInt k5.toInt))) := by
  refine cap_of (d := 0) (M := mX12_nextOrder) rfl (Nat.le_of_ble_eq_true rfl) ?_
  show EvP im_K0 0 mX12_nextOrder (0, [(0, .ref 164), (1, .int 2)], [], h) _
  obtain ⟨q0, q1, q2, q3, q4, q5⟩ := pr0
  have q0 := q0 (by decide)
  have q1 := q1 (by decide)
  clear q2 q3 q4 q5
  have f0 : fr F_X12_nextOrder_2 h h := fr_rf
  refine te_iload_n (p2 := 1) rfl rfl rfl ?_
  refine te_iconst (p2 := 2) (x := 2) rfl rfl (by decide) ?_
  refine te_isub (p2 := 3) (z := 0) rfl rfl (by decide) ?_
  refine te_istore_n (p2 := 4) (lv2 := [(2, .int 0), (0, .ref 164), (1, .int 2)]) rfl rfl (by decide) rfl ?_
  refine te_iload_n (p2 := 5) rfl rfl rfl ?_
  refine tz_lt (p2 := 8) rfl rfl (show Int32.toInt 0 = 0 from rfl) (fun c2 => absurd c2 (by omega)) (fun c2 => ?_)
  refine te_aload_n (p2 := 9) rfl rfl rfl ?_
  refine tg_r (p2 := 12) (i := 148) (r := 215) rfl rfl hI rfl rfl rfl ?_
  refine te_iload_n (p2 := 13) rfl rfl rfl ?_
  refine tl_e (p2 := 14) (i := 199) (n := 6) (t := 0) (Or.inl rfl) rfl rfl hI rfl rfl (by decide) (by decide) hg0 ?_
  refine te_aload_n (p2 := 15) rfl rfl rfl ?_
  refine tg_r (p2 := 18) (i := 148) (r := 215) rfl rfl hI rfl rfl rfl ?_
  refine te_iload_n (p2 := 19) rfl rfl rfl ?_
  refine te_iconst (p2 := 20) (x := 1) rfl rfl (by decide) ?_
  refine te_iadd (p2 := 21) (z := 1) rfl rfl (by decide) ?_
  refine tl_e (p2 := 22) (i := 199) (n := 6) (t := 0) (Or.inl rfl) rfl rfl hI rfl rfl (by decide) (by decide) hg1 ?_
  refine tb_le (p2 := 25) rfl rfl rfl rfl (fun c6 => ?_) (fun c6 => ?_)
  · refine te_iload_n (p2 := 32) rfl rfl rfl ?_
    refine tz_ge (p2 := 35) rfl rfl (show Int32.toInt 0 = 0 from rfl) (fun c7 => ?_) (fun c7 => absurd c7 (by omega))
    refine te_iload_n (p2 := 38) rfl rfl rfl ?_
    refine te_iconst (p2 := 39) (x := 1) rfl rfl (by decide) ?_
    refine te_isub (p2 := 40) (z := 1) rfl rfl (by decide) ?_
    refine te_istore_n (p2 := 41) (lv2 := [(3, .int 1), (2, .int 0), (0, .ref 164), (1, .int 2)]) rfl rfl (by decide) rfl ?_
    refine te_aload_n (p2 := 42) rfl rfl rfl ?_
    refine tg_r (p2 := 45) (i := 148) (r := 215) rfl rfl hI rfl rfl rfl ?_
    refine te_iload_n (p2 := 46) rfl rfl rfl ?_
    refine tl_e (p2 := 47) (i := 199) (n := 6) (t := 0) (Or.inl rfl) rfl rfl hI rfl rfl (by decide) (by decide) hg1 ?_
    refine te_aload_n (p2 := 48) rfl rfl rfl ?_
    refine tg_r (p2 := 51) (i := 148) (r := 215) rfl rfl hI rfl rfl rfl ?_
    refine te_iload_n (p2 := 52) rfl rfl rfl ?_
    refine tl_e (p2 := 53) (i := 199) (n := 6) (t := 0) (Or.inl rfl) rfl rfl hI rfl rfl (by decide) (by decide) hg0 ?_
    refine tb_ge (p2 := 56) rfl rfl rfl rfl (fun c11 => ?_) (fun c11 => ?_)
    · refine te_aload_n (p2 := 63) rfl rfl rfl ?_
      refine tg_r (p2 := 66) (i := 148) (r := 215) rfl rfl hI rfl rfl rfl ?_
      refine te_iload_n (p2 := 67) rfl rfl rfl ?_
      refine tl_e (p2 := 68) (i := 199) (n := 6) (t := 0) (Or.inl rfl) rfl rfl hI rfl rfl (by decide) (by decide) hg0 ?_
      refine te_istore (p2 := 70) (lv2 := [(4, .int g0), (3, .int 1), (2, .int 0), (0, .ref 164), (1, .int 2)]) rfl rfl (by decide) rfl ?_
      refine te_aload_n (p2 := 71) rfl rfl rfl ?_
      refine tg_r (p2 := 74) (i := 148) (r := 215) rfl rfl hI rfl rfl rfl ?_
      refine te_iload_n (p2 := 75) rfl rfl rfl ?_
      refine te_aload_n (p2 := 76) rfl rfl rfl ?_
      refine tg_r (p2 := 79) (i := 148) (r := 215) rfl rfl hI rfl rfl rfl ?_
      refine te_iload_n (p2 := 80) rfl rfl rfl ?_
      refine tl_e (p2 := 81) (i := 199) (n := 6) (t := 0) (Or.inl rfl) rfl rfl hI rfl rfl (by decide) (by decide) hg1 ?_
      refine ts_i (p2 := 82) (i := 199) (n := 6) rfl rfl hI rfl rfl rfl rfl (by decide) (by decide) (by omega) (by omega) (by omega) rfl (fun h14 I14 u14 => ?_)
      have f14 := fr_st (F := F_X12_nextOrder_2) 0 f0 u14 rfl (by decide) (by decide)
      refine te_aload_n (p2 := 83) rfl rfl rfl ?_
      refine tg_r (p2 := 86) (i := 148) (r := 215) rfl rfl I14 rfl rfl rfl ?_
      refine te_iload_n (p2 := 87) rfl rfl rfl ?_
      refine te_iload (p2 := 89) rfl rfl rfl ?_
      refine ts_i (p2 := 90) (i := 199) (n := 6) rfl rfl I14 rfl rfl rfl rfl (by decide) (by decide) (by omega) (by omega) (by omega) rfl (fun h15 I15 u15 => ?_)
      have f15 := fr_st (F := F_X12_nextOrder_2) 0 f14 u15 rfl (by decide) (by decide)
      refine te_iload_n (p2 := 91) rfl rfl rfl ?_
      refine te_iconst (p2 := 92) (x := 1) rfl rfl (by decide) ?_
      refine te_iadd (p2 := 93) (z := 1) rfl rfl (by decide) ?_
      refine te_istore (p2 := 95) (lv2 := [(5, .int 1), (4, .int g0), (3, .int 1), (2, .int 0), (0, .ref 164), (1, .int 2)]) rfl rfl (by decide) rfl ?_
      refine te_iload_n (p2 := 96) rfl rfl rfl ?_
      refine te_iconst (p2 := 97) (x := 1) rfl rfl (by decide) ?_
      refine te_isub (p2 := 98) (z := 1) rfl rfl (by decide) ?_
      refine te_istore (p2 := 100) (lv2 := [(6, .int 1), (5, .int 1), (4, .int g0), (3, .int 1), (2, .int 0), (0, .ref 164), (1, .int 2)]) rfl rfl (by decide) rfl ?_
      refine te_iload (p2 := 102) rfl rfl rfl ?_
      refine te_iload (p2 := 104) rfl rfl rfl ?_
      refine tb_ge (p2 := 107) rfl rfl (show Int32.toInt 1 = 1 from rfl) (show Int32.toInt 1 = 1 from rfl) (fun c18 => ?_) (fun c18 => absurd c18 (by omega))
      refine te_iconst (p2 := 149) (x := 1) rfl rfl (by decide) ?_
      exact te_zret rfl rfl (by decide) ⟨I15, f15, _, rfl, Or.inr ⟨rfl, g1, g0, g2, g3, g4, g5, ((u15.2 _ _ (Or.inr (by decide))).trans u14.1), u15.1, ((u15.2 _ _ (Or.inr (by decide))).trans ((u14.2 _ _ (Or.inr (by decide))).trans hg2)), ((u15.2 _ _ (Or.inr (by decide))).trans ((u14.2 _ _ (Or.inr (by decide))).trans hg3)), ((u15.2 _ _ (Or.inr (by decide))).trans ((u14.2 _ _ (Or.inr (by decide))).trans hg4)), ((u15.2 _ _ (Or.inr (by decide))).trans ((u14.2 _ _ (Or.inr (by decide))).trans hg5)), (by unfold prm; omega), (by unfold lexV; omega)⟩⟩
    · refine te_iinc (p2 := 59) (x := 1) (y := 0) (lv2 := [(3, .int 0), (2, .int 0), (0, .ref 164), (1, .int 2)]) rfl rfl (by decide) rfl (by decide) rfl ?_
      refine te_goto rfl ?_
      refine te_aload_n (p2 := 42) rfl rfl rfl ?_
      refine tg_r (p2 := 45) (i := 148) (r := 215) rfl rfl hI rfl rfl rfl ?_
      refine te_iload_n (p2 := 46) rfl rfl rfl ?_
      refine tl_e (p2 := 47) (i := 199) (n := 6) (t := 0) (Or.inl rfl) rfl rfl hI rfl rfl (by decide) (by decide) hg0 ?_
      refine te_aload_n (p2 := 48) rfl rfl rfl ?_
      refine tg_r (p2 := 51) (i := 148) (r := 215) rfl rfl hI rfl rfl rfl ?_
      refine te_iload_n (p2 := 52) rfl rfl rfl ?_
      refine tl_e (p2 := 53) (i := 199) (n := 6) (t := 0) (Or.inl rfl) rfl rfl hI rfl rfl (by decide) (by decide) hg0 ?_
      refine tb_ge (p2 := 56) rfl rfl rfl rfl (fun c22 => ?_) (fun c22 => absurd c22 (by omega))
      refine te_aload_n (p2 := 63) rfl rfl rfl ?_
      refine tg_r (p2 := 66) (i := 148) (r := 215) rfl rfl hI rfl rfl rfl ?_
      refine te_iload_n (p2 := 67) rfl rfl rfl ?_
      refine tl_e (p2 := 68) (i := 199) (n := 6) (t := 0) (Or.inl rfl) rfl rfl hI rfl rfl (by decide) (by decide) hg0 ?_
      refine te_istore (p2 := 70) (lv2 := [(4, .int g0), (3, .int 0), (2, .int 0), (0, .ref 164), (1, .int 2)]) rfl rfl (by decide) rfl ?_
      refine te_aload_n (p2 := 71) rfl rfl rfl ?_
      refine tg_r (p2 := 74) (i := 148) (r := 215) rfl rfl hI rfl rfl rfl ?_
      refine te_iload_n (p2 := 75) rfl rfl rfl ?_
      refine te_aload_n (p2 := 76) rfl rfl rfl ?_
      refine tg_r (p2 := 79) (i := 148) (r := 215) rfl rfl hI rfl rfl rfl ?_
      refine te_iload_n (p2 := 80) rfl rfl rfl ?_
      refine tl_e (p2 := 81) (i := 199) (n := 6) (t := 0) (Or.inl rfl) rfl rfl hI rfl rfl (by decide) (by decide) hg0 ?_
      refine ts_i (p2 := 82) (i := 199) (n := 6) rfl rfl hI rfl rfl rfl rfl (by decide) (by decide) (by omega) (by omega) (by omega) rfl (fun h25 I25 u25 => ?_)
      have f25 := fr_st (F := F_X12_nextOrder_2) 0 f0 u25 rfl (by decide) (by decide)
      refine te_aload_n (p2 := 83) rfl rfl rfl ?_
      refine tg_r (p2 := 86) (i := 148) (r := 215) rfl rfl I25 rfl rfl rfl ?_
      refine te_iload_n (p2 := 87) rfl rfl rfl ?_
      refine te_iload (p2 := 89) rfl rfl rfl ?_
      refine ts_i (p2 := 90) (i := 199) (n := 6) rfl rfl I25 rfl rfl rfl rfl (by decide) (by decide) (by omega) (by omega) (by omega) rfl (fun h26 I26 u26 => ?_)
      have f26 := fr_st (F := F_X12_nextOrder_2) 0 f25 u26 rfl (by decide) (by decide)
      refine te_iload_n (p2 := 91) rfl rfl rfl ?_
      refine te_iconst (p2 := 92) (x := 1) rfl rfl (by decide) ?_
      refine te_iadd (p2 := 93) (z := 1) rfl rfl (by decide) ?_
      refine te_istore (p2 := 95) (lv2 := [(5, .int 1), (4, .int g0), (3, .int 0), (2, .int 0), (0, .ref 164), (1, .int 2)]) rfl rfl (by decide) rfl ?_
      refine te_iload_n (p2 := 96) rfl rfl rfl ?_
      refine te_iconst (p2 := 97) (x := 1) rfl rfl (by decide) ?_
      refine te_isub (p2 := 98) (z := 1) rfl rfl (by decide) ?_
      refine te_istore (p2 := 100) (lv2 := [(6, .int 1), (5, .int 1), (4, .int g0), (3, .int 0), (2, .int 0), (0, .ref 164), (1, .int 2)]) rfl rfl (by decide) rfl ?_
      refine te_iload (p2 := 102) rfl rfl rfl ?_
      refine te_iload (p2 := 104) rfl rfl rfl ?_
      refine tb_ge (p2 := 107) rfl rfl (show Int32.toInt 1 = 1 from rfl) (show Int32.toInt 1 = 1 from rfl) (fun c29 => ?_) (fun c29 => absurd c29 (by omega))
      refine te_iconst (p2 := 149) (x := 1) rfl rfl (by decide) ?_
      exact te_zret rfl rfl (by decide) ⟨I26, f26, _, rfl, Or.inr ⟨rfl, g0, g1, g2, g3, g4, g5, u26.1, ((u26.2 _ _ (Or.inr (by decide))).trans ((u25.2 _ _ (Or.inr (by decide))).trans hg1)), ((u26.2 _ _ (Or.inr (by decide))).trans ((u25.2 _ _ (Or.inr (by decide))).trans hg2)), ((u26.2 _ _ (Or.inr (by decide))).trans ((u25.2 _ _ (Or.inr (by decide))).trans hg3)), ((u26.2 _ _ (Or.inr (by decide))).trans ((u25.2 _ _ (Or.inr (by decide))).trans hg4)), ((u26.2 _ _ (Or.inr (by decide))).trans ((u25.2 _ _ (Or.inr (by decide))).trans hg5)), (by unfold prm; omega), (by unfold lexV; omega)⟩⟩
  · refine te_iinc (p2 := 28) (x := 0) (y := (-1)) (lv2 := [(2, .int (-1)), (0, .ref 164), (1, .int 2)]) rfl rfl (by decide) rfl (by decide) rfl ?_
    refine te_goto rfl ?_
    refine te_iload_n (p2 := 5) rfl rfl rfl ?_
    refine tz_lt (p2 := 8) rfl rfl (show Int32.toInt (-1) = (-1) from rfl) (fun c31 => ?_) (fun c31 => absurd c31 (by omega))
    refine te_iload_n (p2 := 32) rfl rfl rfl ?_
    refine tz_ge (p2 := 35) rfl rfl (show Int32.toInt (-1) = (-1) from rfl) (fun c32 => absurd c32 (by omega)) (fun c32 => ?_)
    refine te_iconst (p2 := 36) (x := 0) rfl rfl (by decide) ?_
    exact te_zret rfl rfl (by decide) ⟨hI, f0, _, rfl, Or.inl rfl⟩
abbrev F_X12_nextOrder_3 : List (Nat × Nat × Nat) := [(199, 0, 5)]
set_option maxRecDepth 20000 in
set_option maxHeartbeats 4000000 in
theorem t_X12_nextOrder_3 {g0 : Int32} {g1 : Int32} {g2 : Int32} {g3 : Int32} {g4 : Int32} {g5 : Int32} {h : im_H} (hI : tI h) (hg0 : rd h 199 (Int32.toInt 0).toNat = some (.int g0)) (ga0 : 0 ≤ g0.toInt) (gb0 : g0.toInt ≤ 5) (hg1 : rd h 199 (Int32.toInt 1).toNat = some (.int g1)) (ga1 : 0 ≤ g1.toInt) (gb1 : g1.toInt ≤ 5) (hg2 : rd h 199 (Int32.toInt 2).toNat = some (.int g2)) (ga2 : 0 ≤ g2.toInt) (gb2 : g2.toInt ≤ 5) (hg3 : rd h 199 (Int32.toInt 3).toNat = some (.int g3)) (ga3 : 0 ≤ g3.toInt) (gb3 : g3.toInt ≤ 5) (hg4 : rd h 199 (Int32.toInt 4).toNat = some (.int g4)) (ga4 : 0 ≤ g4.toInt) (gb4 : g4.toInt ≤ 5) (hg5 : rd h 199 (Int32.toInt 5).toNat = some (.int g5)) (ga5 : 0 ≤ g5.toInt) (gb5 : g5.toInt ≤ 5) (pr0 : prm 3 g0.toInt g1.toInt g2.toInt g3.toInt g4.toInt g5.toInt) : CaP 1 167 [.ref 164, .int 3] h (fun v h2 => tI h2 ∧ fr F_X12_nextOrder_3 h h2 ∧ ∃ y : Int32, v = some (.int y) ∧ (y = 0 ∨ (y = 1 ∧ ∃ k0 k1 k2 k3 k4 k5 : Int32, rd h2 199 (Int32.toInt 0).toNat = some (.int k0) ∧ rd h2 199 (Int32.toInt 1).toNat = some (.int k1) ∧ rd h2 199 (Int32.toInt 2).toNat = some (.int k2) ∧ rd h2 199 (Int32.toInt 3).toNat = some (.int k3) ∧ rd h2 199 (Int32.toInt 4).toNat = some (.int k4) ∧ rd h2 199 (Int32.toInt 5).toNat = some (.int k5) ∧ prm 3 k0.toInt k1.toInt k2.toInt k3.toInt k4.toInt k5.toInt ∧ lexV g0.toInt g1.toInt g2.toInt g3.toInt g4.toInt g5.toInt < lexV k0.toInt k1.toInt k2.toInt k3.toInt k4.toInt k5.toInt))) := by
  refine cap_of (d := 0) (M := mX12_nextOrder) rfl (Nat.le_of_ble_eq_true rfl) ?_
  show EvP im_K0 0 mX12_nextOrder (0, [(0, .ref 164), (1, .int 3)], [], h) _
  obtain ⟨q0, q1, q2, q3, q4, q5⟩ := pr0
  have q0 := q0 (by decide)
  have q1 := q1 (by decide)
  have q2 := q2 (by decide)
  clear q3 q4 q5
  have f0 : fr F_X12_nextOrder_3 h h := fr_rf
  refine te_iload_n (p2 := 1) rfl rfl rfl ?_
  refine te_iconst (p2 := 2) (x := 2) rfl rfl (by decide) ?_
  refine te_isub (p2 := 3) (z := 1) rfl rfl (by decide) ?_
  refine te_istore_n (p2 := 4) (lv2 := [(2, .int 1), (0, .ref 164), (1, .int 3)]) rfl rfl (by decide) rfl ?_
  refine te_iload_n (p2 := 5) rfl rfl rfl ?_
  refine tz_lt (p2 := 8) rfl rfl (show Int32.toInt 1 = 1 from rfl) (fun c2 => absurd c2 (by omega)) (fun c2 => ?_)
  refine te_aload_n (p2 := 9) rfl rfl rfl ?_
  refine tg_r (p2 := 12) (i := 148) (r := 215) rfl rfl hI rfl rfl rfl ?_
  refine te_iload_n (p2 := 13) rfl rfl rfl ?_
  refine tl_e (p2 := 14) (i := 199) (n := 6) (t := 0) (Or.inl rfl) rfl rfl hI rfl rfl (by decide) (by decide) hg1 ?_
  refine te_aload_n (p2 := 15) rfl rfl rfl ?_
  refine tg_r (p2 := 18) (i := 148) (r := 215) rfl rfl hI rfl rfl rfl ?_
  refine te_iload_n (p2 := 19) rfl rfl rfl ?_
  refine te_iconst (p2 := 20) (x := 1) rfl rfl (by decide) ?_
  refine te_iadd (p2 := 21) (z := 2) rfl rfl (by decide) ?_
  refine tl_e (p2 := 22) (i := 199) (n := 6) (t := 0) (Or.inl rfl) rfl rfl hI rfl rfl (by decide) (by decide) hg2 ?_
  refine tb_le (p2 := 25) rfl rfl rfl rfl (fun c6 => ?_) (fun c6 => ?_)
  · refine te_iload_n (p2 := 32) rfl rfl rfl ?_
    refine tz_ge (p2 := 35) rfl rfl (show Int32.toInt 1 = 1 from rfl) (fun c7 => ?_) (fun c7 => absurd c7 (by omega))
    refine te_iload_n (p2 := 38) rfl rfl rfl ?_
    refine te_iconst (p2 := 39) (x := 1) rfl rfl (by decide) ?_
    refine te_isub (p2 := 40) (z := 2) rfl rfl (by decide) ?_
    refine te_istore_n (p2 := 41) (lv2 := [(3, .int 2), (2, .int 1), (0, .ref 164), (1, .int 3)]) rfl rfl (by decide) rfl ?_
    refine te_aload_n (p2 := 42) rfl rfl rfl ?_
    refine tg_r (p2 := 45) (i := 148) (r := 215) rfl rfl hI rfl rfl rfl ?_
    refine te_iload_n (p2 := 46) rfl rfl rfl ?_
    refine tl_e (p2 := 47) (i := 199) (n := 6) (t := 0) (Or.inl rfl) rfl rfl hI rfl rfl (by decide) (by decide) hg2 ?_
    refine te_aload_n (p2 := 48) rfl rfl rfl ?_
    refine tg_r (p2 := 51) (i := 148) (r := 215) rfl rfl hI rfl rfl rfl ?_
    refine te_iload_n (p2 := 52) rfl rfl rfl ?_
    refine tl_e (p2 := 53) (i := 199) (n := 6) (t := 0) (Or.inl rfl) rfl rfl hI rfl rfl (by decide) (by decide) hg1 ?_
    refine tb_ge (p2 := 56) rfl rfl rfl rfl (fun c11 => ?_) (fun c11 => ?_)
    · refine te_aload_n (p2 := 63) rfl rfl rfl ?_
      refine tg_r (p2 := 66) (i := 148) (r := 215) rfl rfl hI rfl rfl rfl ?_
      refine te_iload_n (p2 := 67) rfl rfl rfl ?_
      refine tl_e (p2 := 68) (i := 199) (n := 6) (t := 0) (Or.inl rfl) rfl rfl hI rfl rfl (by decide) (by decide) hg1 ?_
      refine te_istore (p2 := 70) (lv2 := [(4, .int g1), (3, .int 2), (2, .int 1), (0, .ref 164), (1, .int 3)]) rfl rfl (by decide) rfl ?_
      refine te_aload_n (p2 := 71) rfl rfl rfl ?_
      refine tg_r (p2 := 74) (i := 148) (r := 215) rfl rfl hI rfl rfl rfl ?_
      refine te_iload_n (p2 := 75) rfl rfl rfl ?_
      refine te_aload_n (p2 := 76) rfl rfl rfl ?_
      refine tg_r (p2 := 79) (i := 148) (r := 215) rfl rfl hI rfl rfl rfl ?_
      refine te_iload_n (p2 := 80) rfl rfl rfl ?_
      refine tl_e (p2 := 81) (i := 199) (n := 6) (t := 0) (Or.inl rfl) rfl rfl hI rfl rfl (by decide) (by decide) hg2 ?_
      refine ts_i (p2 := 82) (i := 199) (n := 6) rfl rfl hI rfl rfl rfl rfl (by decide) (by decide) (by omega) (by omega) (by omega) rfl (fun h14 I14 u14 => ?_)
      have f14 := fr_st (F := F_X12_nextOrder_3) 0 f0 u14 rfl (by decide) (by decide)
      refine te_aload_n (p2 := 83) rfl rfl rfl ?_
      refine tg_r (p2 := 86) (i := 148) (r := 215) rfl rfl I14 rfl rfl rfl ?_
      refine te_iload_n (p2 := 87) rfl rfl rfl ?_
      refine te_iload (p2 := 89) rfl rfl rfl ?_
      refine ts_i (p2 := 90) (i := 199) (n := 6) rfl rfl I14 rfl rfl rfl rfl (by decide) (by decide) (by omega) (by omega) (by omega) rfl (fun h15 I15 u15 => ?_)
      have f15 := fr_st (F := F_X12_nextOrder_3) 0 f14 u15 rfl (by decide) (by decide)
      refine te_iload_n (p2 := 91) rfl rfl rfl ?_
      refine te_iconst (p2 := 92) (x := 1) rfl rfl (by decide) ?_
      refine te_iadd (p2 := 93) (z := 2) rfl rfl (by decide) ?_
      refine te_istore (p2 := 95) (lv2 := [(5, .int 2), (4, .int g1), (3, .int 2), (2, .int 1), (0, .ref 164), (1, .int 3)]) rfl rfl (by decide) rfl ?_
      refine te_iload_n (p2 := 96) rfl rfl rfl ?_
      refine te_iconst (p2 := 97) (x := 1) rfl rfl (by decide) ?_
      refine te_isub (p2 := 98) (z := 2) rfl rfl (by decide) ?_
      refine te_istore (p2 := 100) (lv2 := [(6, .int 2), (5, .int 2), (4, .int g1), (3, .int 2), (2, .int 1), (0, .ref 164), (1, .int 3)]) rfl rfl (by decide) rfl ?_
      refine te_iload (p2 := 102) rfl rfl rfl ?_
      refine te_iload (p2 := 104) rfl rfl rfl ?_
      refine tb_ge (p2 := 107) rfl rfl (show Int32.toInt 2 = 2 from rfl) (show Int32.toInt 2 = 2 from rfl) (fun c18 => ?_) (fun c18 => absurd c18 (by omega))
      refine te_iconst (p2 := 149) (x := 1) rfl rfl (by decide) ?_
      exact te_zret rfl rfl (by decide) ⟨I15, f15, _, rfl, Or.inr ⟨rfl, g0, g2, g1, g3, g4, g5, ((u15.2 _ _ (Or.inr (by decide))).trans ((u14.2 _ _ (Or.inr (by decide))).trans hg0)), ((u15.2 _ _ (Or.inr (by decide))).trans u14.1), u15.1, ((u15.2 _ _ (Or.inr (by decide))).trans ((u14.2 _ _ (Or.inr (by decide))).trans hg3)), ((u15.2 _ _ (Or.inr (by decide))).trans ((u14.2 _ _ (Or.inr (by decide))).trans hg4)), ((u15.2 _ _ (Or.inr (by decide))).trans ((u14.2 _ _ (Or.inr (by decide))).trans hg5)), (by unfold prm; omega), (by unfold lexV; omega)⟩⟩
    · refine te_iinc (p2 := 59) (x := 2) (y := 1) (lv2 := [(3, .int 1), (2, .int 1), (0, .ref 164), (1, .int 3)]) rfl rfl (by decide) rfl (by decide) rfl ?_
      refine te_goto rfl ?_
      refine te_aload_n (p2 := 42) rfl rfl rfl ?_
      refine tg_r (p2 := 45) (i := 148) (r := 215) rfl rfl hI rfl rfl rfl ?_
      refine te_iload_n (p2 := 46) rfl rfl rfl ?_
      refine tl_e (p2 := 47) (i := 199) (n := 6) (t := 0) (Or.inl rfl) rfl rfl hI rfl rfl (by decide) (by decide) hg1 ?_
      refine te_aload_n (p2 := 48) rfl rfl rfl ?_
      refine tg_r (p2 := 51) (i := 148) (r := 215) rfl rfl hI rfl rfl rfl ?_
      refine te_iload_n (p2 := 52) rfl rfl rfl ?_
      refine tl_e (p2 := 53) (i := 199) (n := 6) (t := 0) (Or.inl rfl) rfl rfl hI rfl rfl (by decide) (by decide) hg1 ?_
      refine tb_ge (p2 := 56) rfl rfl rfl rfl (fun c22 => ?_) (fun c22 => absurd c22 (by omega))
      refine te_aload_n (p2 := 63) rfl rfl rfl ?_
      refine tg_r (p2 := 66) (i := 148) (r := 215) rfl rfl hI rfl rfl rfl ?_
      refine te_iload_n (p2 := 67) rfl rfl rfl ?_
      refine tl_e (p2 := 68) (i := 199) (n := 6) (t := 0) (Or.inl rfl) rfl rfl hI rfl rfl (by decide) (by decide) hg1 ?_
      refine te_istore (p2 := 70) (lv2 := [(4, .int g1), (3, .int 1), (2, .int 1), (0, .ref 164), (1, .int 3)]) rfl rfl (by decide) rfl ?_
      refine te_aload_n (p2 := 71) rfl rfl rfl ?_
      refine tg_r (p2 := 74) (i := 148) (r := 215) rfl rfl hI rfl rfl rfl ?_
      refine te_iload_n (p2 := 75) rfl rfl rfl ?_
      refine te_aload_n (p2 := 76) rfl rfl rfl ?_
      refine tg_r (p2 := 79) (i := 148) (r := 215) rfl rfl hI rfl rfl rfl ?_
      refine te_iload_n (p2 := 80) rfl rfl rfl ?_
      refine tl_e (p2 := 81) (i := 199) (n := 6) (t := 0) (Or.inl rfl) rfl rfl hI rfl rfl (by decide) (by decide) hg1 ?_
      refine ts_i (p2 := 82) (i := 199) (n := 6) rfl rfl hI rfl rfl rfl rfl (by decide) (by decide) (by omega) (by omega) (by omega) rfl (fun h25 I25 u25 => ?_)
      have f25 := fr_st (F := F_X12_nextOrder_3) 0 f0 u25 rfl (by decide) (by decide)
      refine te_aload_n (p2 := 83) rfl rfl rfl ?_
      refine tg_r (p2 := 86) (i := 148) (r := 215) rfl rfl I25 rfl rfl rfl ?_
      refine te_iload_n (p2 := 87) rfl rfl rfl ?_
      refine te_iload (p2 := 89) rfl rfl rfl ?_
      refine ts_i (p2 := 90) (i := 199) (n := 6) rfl rfl I25 rfl rfl rfl rfl (by decide) (by decide) (by omega) (by omega) (by omega) rfl (fun h26 I26 u26 => ?_)
      have f26 := fr_st (F := F_X12_nextOrder_3) 0 f25 u26 rfl (by decide) (by decide)
      refine te_iload_n (p2 := 91) rfl rfl rfl ?_
      refine te_iconst (p2 := 92) (x := 1) rfl rfl (by decide) ?_
      refine te_iadd (p2 := 93) (z := 2) rfl rfl (by decide) ?_
      refine te_istore (p2 := 95) (lv2 := [(5, .int 2), (4, .int g1), (3, .int 1), (2, .int 1), (0, .ref 164), (1, .int 3)]) rfl rfl (by decide) rfl ?_
      refine te_iload_n (p2 := 96) rfl rfl rfl ?_
      refine te_iconst (p2 := 97) (x := 1) rfl rfl (by decide) ?_
      refine te_isub (p2 := 98) (z := 2) rfl rfl (by decide) ?_
      refine te_istore (p2 := 100) (lv2 := [(6, .int 2), (5, .int 2), (4, .int g1), (3, .int 1), (2, .int 1), (0, .ref 164), (1, .int 3)]) rfl rfl (by decide) rfl ?_
      refine te_iload (p2 := 102) rfl rfl rfl ?_
      refine te_iload (p2 := 104) rfl rfl rfl ?_
      refine tb_ge (p2 := 107) rfl rfl (show Int32.toInt 2 = 2 from rfl) (show Int32.toInt 2 = 2 from rfl) (fun c29 => ?_) (fun c29 => absurd c29 (by omega))
      refine te_iconst (p2 := 149) (x := 1) rfl rfl (by decide) ?_
      exact te_zret rfl rfl (by decide) ⟨I26, f26, _, rfl, Or.inr ⟨rfl, g0, g1, g2, g3, g4, g5, ((u26.2 _ _ (Or.inr (by decide))).trans ((u25.2 _ _ (Or.inr (by decide))).trans hg0)), u26.1, ((u26.2 _ _ (Or.inr (by decide))).trans ((u25.2 _ _ (Or.inr (by decide))).trans hg2)), ((u26.2 _ _ (Or.inr (by decide))).trans ((u25.2 _ _ (Or.inr (by decide))).trans hg3)), ((u26.2 _ _ (Or.inr (by decide))).trans ((u25.2 _ _ (Or.inr (by decide))).trans hg4)), ((u26.2 _ _ (Or.inr (by decide))).trans ((u25.2 _ _ (Or.inr (by decide))).trans hg5)), (by unfold prm; omega), (by unfold lexV; omega)⟩⟩
  · refine te_iinc (p2 := 28) (x := 1) (y := 0) (lv2 := [(2, .int 0), (0, .ref 164), (1, .int 3)]) rfl rfl (by decide) rfl (by decide) rfl ?_
    refine te_goto rfl ?_
    refine te_iload_n (p2 := 5) rfl rfl rfl ?_
    refine tz_lt (p2 := 8) rfl rfl (show Int32.toInt 0 = 0 from rfl) (fun c31 => absurd c31 (by omega)) (fun c31 => ?_)
    refine te_aload_n (p2 := 9) rfl rfl rfl ?_
    refine tg_r (p2 := 12) (i := 148) (r := 215) rfl rfl hI rfl rfl rfl ?_
    refine te_iload_n (p2 := 13) rfl rfl rfl ?_
    refine tl_e (p2 := 14) (i := 199) (n := 6) (t := 0) (Or.inl rfl) rfl rfl hI rfl rfl (by decide) (by decide) hg0 ?_
    refine te_aload_n (p2 := 15) rfl rfl rfl ?_
    refine tg_r (p2 := 18) (i := 148) (r := 215) rfl rfl hI rfl rfl rfl ?_
    refine te_iload_n (p2 := 19) rfl rfl rfl ?_
    refine te_iconst (p2 := 20) (x := 1) rfl rfl (by decide) ?_
    refine te_iadd (p2 := 21) (z := 1) rfl rfl (by decide) ?_
    refine tl_e (p2 := 22) (i := 199) (n := 6) (t := 0) (Or.inl rfl) rfl rfl hI rfl rfl (by decide) (by decide) hg1 ?_
    refine tb_le (p2 := 25) rfl rfl rfl rfl (fun c35 => ?_) (fun c35 => ?_)
    · refine te_iload_n (p2 := 32) rfl rfl rfl ?_
      refine tz_ge (p2 := 35) rfl rfl (show Int32.toInt 0 = 0 from rfl) (fun c36 => ?_) (fun c36 => absurd c36 (by omega))
      refine te_iload_n (p2 := 38) rfl rfl rfl ?_
      refine te_iconst (p2 := 39) (x := 1) rfl rfl (by decide) ?_
      refine te_isub (p2 := 40) (z := 2) rfl rfl (by decide) ?_
      refine te_istore_n (p2 := 41) (lv2 := [(3, .int 2), (2, .int 0), (0, .ref 164), (1, .int 3)]) rfl rfl (by decide) rfl ?_
      refine te_aload_n (p2 := 42) rfl rfl rfl ?_
      refine tg_r (p2 := 45) (i := 148) (r := 215) rfl rfl hI rfl rfl rfl ?_
      refine te_iload_n (p2 := 46) rfl rfl rfl ?_
      refine tl_e (p2 := 47) (i := 199) (n := 6) (t := 0) (Or.inl rfl) rfl rfl hI rfl rfl (by decide) (by decide) hg2 ?_
      refine te_aload_n (p2 := 48) rfl rfl rfl ?_
      refine tg_r (p2 := 51) (i := 148) (r := 215) rfl rfl hI rfl rfl rfl ?_
      refine te_iload_n (p2 := 52) rfl rfl rfl ?_
      refine tl_e (p2 := 53) (i := 199) (n := 6) (t := 0) (Or.inl rfl) rfl rfl hI rfl rfl (by decide) (by decide) hg0 ?_
      refine tb_ge (p2 := 56) rfl rfl rfl rfl (fun c40 => ?_) (fun c40 => ?_)
      · refine te_aload_n (p2 := 63) rfl rfl rfl ?_
        refine tg_r (p2 := 66) (i := 148) (r := 215) rfl rfl hI rfl rfl rfl ?_
        refine te_iload_n (p2 := 67) rfl rfl rfl ?_
        refine tl_e (p2 := 68) (i := 199) (n := 6) (t := 0) (Or.inl rfl) rfl rfl hI rfl rfl (by decide) (by decide) hg0 ?_
        refine te_istore (p2 := 70) (lv2 := [(4, .int g0), (3, .int 2), (2, .int 0), (0, .ref 164), (1, .int 3)]) rfl rfl (by decide) rfl ?_
        refine te_aload_n (p2 := 71) rfl rfl rfl ?_
        refine tg_r (p2 := 74) (i := 148) (r := 215) rfl rfl hI rfl rfl rfl ?_
        refine te_iload_n (p2 := 75) rfl rfl rfl ?_
        refine te_aload_n (p2 := 76) rfl rfl rfl ?_
        refine tg_r (p2 := 79) (i := 148) (r := 215) rfl rfl hI rfl rfl rfl ?_
        refine te_iload_n (p2 := 80) rfl rfl rfl ?_
        refine tl_e (p2 := 81) (i := 199) (n := 6) (t := 0) (Or.inl rfl) rfl rfl hI rfl rfl (by decide) (by decide) hg2 ?_
        refine ts_i (p2 := 82) (i := 199) (n := 6) rfl rfl hI rfl rfl rfl rfl (by decide) (by decide) (by omega) (by omega) (by omega) rfl (fun h43 I43 u43 => ?_)
        have f43 := fr_st (F := F_X12_nextOrder_3) 0 f0 u43 rfl (by decide) (by decide)
        refine te_aload_n (p2 := 83) rfl rfl rfl ?_
        refine tg_r (p2 := 86) (i := 148) (r := 215) rfl rfl I43 rfl rfl rfl ?_
        refine te_iload_n (p2 := 87) rfl rfl rfl ?_
        refine te_iload (p2 := 89) rfl rfl rfl ?_
        refine ts_i (p2 := 90) (i := 199) (n := 6) rfl rfl I43 rfl rfl rfl rfl (by decide) (by decide) (by omega) (by omega) (by omega) rfl (fun h44 I44 u44 => ?_)
        have f44 := fr_st (F := F_X12_nextOrder_3) 0 f43 u44 rfl (by decide) (by decide)
        refine te_iload_n (p2 := 91) rfl rfl rfl ?_
        refine te_iconst (p2 := 92) (x := 1) rfl rfl (by decide) ?_
        refine te_iadd (p2 := 93) (z := 1) rfl rfl (by decide) ?_
        refine te_istore (p2 := 95) (lv2 := [(5, .int 1), (4, .int g0), (3, .int 2), (2, .int 0), (0, .ref 164), (1, .int 3)]) rfl rfl (by decide) rfl ?_
        refine te_iload_n (p2 := 96) rfl rfl rfl ?_
        refine te_iconst (p2 := 97) (x := 1) rfl rfl (by decide) ?_
        refine te_isub (p2 := 98) (z := 2) rfl rfl (by decide) ?_
        refine te_istore (p2 := 100) (lv2 := [(6, .int 2), (5, .int 1), (4, .int g0), (3, .int 2), (2, .int 0), (0, .ref 164), (1, .int 3)]) rfl rfl (by decide) rfl ?_
        refine te_iload (p2 := 102) rfl rfl rfl ?_
        refine te_iload (p2 := 104) rfl rfl rfl ?_
        refine tb_ge (p2 := 107) rfl rfl (show Int32.toInt 1 = 1 from rfl) (show Int32.toInt 2 = 2 from rfl) (fun c47 => absurd c47 (by omega)) (fun c47 => ?_)
        refine te_aload_n (p2 := 108) rfl rfl rfl ?_
        refine tg_r (p2 := 111) (i := 148) (r := 215) rfl rfl I44 rfl rfl rfl ?_
        refine te_iload (p2 := 113) rfl rfl rfl ?_
        refine tl_e (p2 := 114) (i := 199) (n := 6) (t := 0) (Or.inl rfl) rfl rfl I44 rfl rfl (by decide) (by decide) ((u44.2 _ _ (Or.inr (by decide))).trans ((u43.2 _ _ (Or.inr (by decide))).trans hg1)) ?_
        refine te_istore (p2 := 116) (lv2 := [(7, .int g1), (6, .int 2), (5, .int 1), (4, .int g0), (3, .int 2), (2, .int 0), (0, .ref 164), (1, .int 3)]) rfl rfl (by decide) rfl ?_
        refine te_aload_n (p2 := 117) rfl rfl rfl ?_
        refine tg_r (p2 := 120) (i := 148) (r := 215) rfl rfl I44 rfl rfl rfl ?_
        refine te_iload (p2 := 122) rfl rfl rfl ?_
        refine te_aload_n (p2 := 123) rfl rfl rfl ?_
        refine tg_r (p2 := 126) (i := 148) (r := 215) rfl rfl I44 rfl rfl rfl ?_
        refine te_iload (p2 := 128) rfl rfl rfl ?_
        refine tl_e (p2 := 129) (i := 199) (n := 6) (t := 0) (Or.inl rfl) rfl rfl I44 rfl rfl (by decide) (by decide) u44.1 ?_
        refine ts_i (p2 := 130) (i := 199) (n := 6) rfl rfl I44 rfl rfl rfl rfl (by decide) (by decide) (by omega) (by omega) (by omega) rfl (fun h50 I50 u50 => ?_)
        have f50 := fr_st (F := F_X12_nextOrder_3) 0 f44 u50 rfl (by decide) (by decide)
        refine te_aload_n (p2 := 131) rfl rfl rfl ?_
        refine tg_r (p2 := 134) (i := 148) (r := 215) rfl rfl I50 rfl rfl rfl ?_
        refine te_iload (p2 := 136) rfl rfl rfl ?_
        refine te_iload (p2 := 138) rfl rfl rfl ?_
        refine ts_i (p2 := 139) (i := 199) (n := 6) rfl rfl I50 rfl rfl rfl rfl (by decide) (by decide) (by omega) (by omega) (by omega) rfl (fun h51 I51 u51 => ?_)
        have f51 := fr_st (F := F_X12_nextOrder_3) 0 f50 u51 rfl (by decide) (by decide)
        refine te_iinc (p2 := 142) (x := 2) (y := 1) (lv2 := [(6, .int 1), (7, .int g1), (5, .int 1), (4, .int g0), (3, .int 2), (2, .int 0), (0, .ref 164), (1, .int 3)]) rfl rfl (by decide) rfl (by decide) rfl ?_
        refine te_iinc (p2 := 145) (x := 1) (y := 2) (lv2 := [(5, .int 2), (6, .int 1), (7, .int g1), (4, .int g0), (3, .int 2), (2, .int 0), (0, .ref 164), (1, .int 3)]) rfl rfl (by decide) rfl (by decide) rfl ?_
        refine te_goto rfl ?_
        refine te_iload (p2 := 102) rfl rfl rfl ?_
        refine te_iload (p2 := 104) rfl rfl rfl ?_
        refine tb_ge (p2 := 107) rfl rfl (show Int32.toInt 2 = 2 from rfl) (show Int32.toInt 1 = 1 from rfl) (fun c54 => ?_) (fun c54 => absurd c54 (by omega))
        refine te_iconst (p2 := 149) (x := 1) rfl rfl (by decide) ?_
        exact te_zret rfl rfl (by decide) ⟨I51, f51, _, rfl, Or.inr ⟨rfl, g2, g0, g1, g3, g4, g5, ((u51.2 _ _ (Or.inr (by decide))).trans ((u50.2 _ _ (Or.inr (by decide))).trans ((u44.2 _ _ (Or.inr (by decide))).trans u43.1))), ((u51.2 _ _ (Or.inr (by decide))).trans u50.1), u51.1, ((u51.2 _ _ (Or.inr (by decide))).trans ((u50.2 _ _ (Or.inr (by decide))).trans ((u44.2 _ _ (Or.inr (by decide))).trans ((u43.2 _ _ (Or.inr (by decide))).trans hg3)))), ((u51.2 _ _ (Or.inr (by decide))).trans ((u50.2 _ _ (Or.inr (by decide))).trans ((u44.2 _ _ (Or.inr (by decide))).trans ((u43.2 _ _ (Or.inr (by decide))).trans hg4)))), ((u51.2 _ _ (Or.inr (by decide))).trans ((u50.2 _ _ (Or.inr (by decide))).trans ((u44.2 _ _ (Or.inr (by decide))).trans ((u43.2 _ _ (Or.inr (by decide))).trans hg5)))), (by unfold prm; omega), (by unfold lexV; omega)⟩⟩
      · refine te_iinc (p2 := 59) (x := 2) (y := 1) (lv2 := [(3, .int 1), (2, .int 0), (0, .ref 164), (1, .int 3)]) rfl rfl (by decide) rfl (by decide) rfl ?_
        refine te_goto rfl ?_
        refine te_aload_n (p2 := 42) rfl rfl rfl ?_
        refine tg_r (p2 := 45) (i := 148) (r := 215) rfl rfl hI rfl rfl rfl ?_
        refine te_iload_n (p2 := 46) rfl rfl rfl ?_
        refine tl_e (p2 := 47) (i := 199) (n := 6) (t := 0) (Or.inl rfl) rfl rfl hI rfl rfl (by decide) (by decide) hg1 ?_
        refine te_aload_n (p2 := 48) rfl rfl rfl ?_
        refine tg_r (p2 := 51) (i := 148) (r := 215) rfl rfl hI rfl rfl rfl ?_
        refine te_iload_n (p2 := 52) rfl rfl rfl ?_
        refine tl_e (p2 := 53) (i := 199) (n := 6) (t := 0) (Or.inl rfl) rfl rfl hI rfl rfl (by decide) (by decide) hg0 ?_
        refine tb_ge (p2 := 56) rfl rfl rfl rfl (fun c58 => ?_) (fun c58 => ?_)
        · refine te_aload_n (p2 := 63) rfl rfl rfl ?_
          refine tg_r (p2 := 66) (i := 148) (r := 215) rfl rfl hI rfl rfl rfl ?_
          refine te_iload_n (p2 := 67) rfl rfl rfl ?_
          refine tl_e (p2 := 68) (i := 199) (n := 6) (t := 0) (Or.inl rfl) rfl rfl hI rfl rfl (by decide) (by decide) hg0 ?_
          refine te_istore (p2 := 70) (lv2 := [(4, .int g0), (3, .int 1), (2, .int 0), (0, .ref 164), (1, .int 3)]) rfl rfl (by decide) rfl ?_
          refine te_aload_n (p2 := 71) rfl rfl rfl ?_
          refine tg_r (p2 := 74) (i := 148) (r := 215) rfl rfl hI rfl rfl rfl ?_
          refine te_iload_n (p2 := 75) rfl rfl rfl ?_
          refine te_aload_n (p2 := 76) rfl rfl rfl ?_
          refine tg_r (p2 := 79) (i := 148) (r := 215) rfl rfl hI rfl rfl rfl ?_
          refine te_iload_n (p2 := 80) rfl rfl rfl ?_
          refine tl_e (p2 := 81) (i := 199) (n := 6) (t := 0) (Or.inl rfl) rfl rfl hI rfl rfl (by decide) (by decide) hg1 ?_
          refine ts_i (p2 := 82) (i := 199) (n := 6) rfl rfl hI rfl rfl rfl rfl (by decide) (by decide) (by omega) (by omega) (by omega) rfl (fun h61 I61 u61 => ?_)
          have f61 := fr_st (F := F_X12_nextOrder_3) 0 f0 u61 rfl (by decide) (by decide)
          refine te_aload_n (p2 := 83) rfl rfl rfl ?_
          refine tg_r (p2 := 86) (i := 148) (r := 215) rfl rfl I61 rfl rfl rfl ?_
          refine te_iload_n (p2 := 87) rfl rfl rfl ?_
          refine te_iload (p2 := 89) rfl rfl rfl ?_
          refine ts_i (p2 := 90) (i := 199) (n := 6) rfl rfl I61 rfl rfl rfl rfl (by decide) (by decide) (by omega) (by omega) (by omega) rfl (fun h62 I62 u62 => ?_)
          have f62 := fr_st (F := F_X12_nextOrder_3) 0 f61 u62 rfl (by decide) (by decide)
          refine te_iload_n (p2 := 91) rfl rfl rfl ?_
          refine te_iconst (p2 := 92) (x := 1) rfl rfl (by decide) ?_
          refine te_iadd (p2 := 93) (z := 1) rfl rfl (by decide) ?_
          refine te_istore (p2 := 95) (lv2 := [(5, .int 1), (4, .int g0), (3, .int 1), (2, .int 0), (0, .ref 164), (1, .int 3)]) rfl rfl (by decide) rfl ?_
          refine te_iload_n (p2 := 96) rfl rfl rfl ?_
          refine te_iconst (p2 := 97) (x := 1) rfl rfl (by decide) ?_
          refine te_isub (p2 := 98) (z := 2) rfl rfl (by decide) ?_
          refine te_istore (p2 := 100) (lv2 := [(6, .int 2), (5, .int 1), (4, .int g0), (3, .int 1), (2, .int 0), (0, .ref 164), (1, .int 3)]) rfl rfl (by decide) rfl ?_
          refine te_iload (p2 := 102) rfl rfl rfl ?_
          refine te_iload (p2 := 104) rfl rfl rfl ?_
          refine tb_ge (p2 := 107) rfl rfl (show Int32.toInt 1 = 1 from rfl) (show Int32.toInt 2 = 2 from rfl) (fun c65 => absurd c65 (by omega)) (fun c65 => ?_)
          refine te_aload_n (p2 := 108) rfl rfl rfl ?_
          refine tg_r (p2 := 111) (i := 148) (r := 215) rfl rfl I62 rfl rfl rfl ?_
          refine te_iload (p2 := 113) rfl rfl rfl ?_
          refine tl_e (p2 := 114) (i := 199) (n := 6) (t := 0) (Or.inl rfl) rfl rfl I62 rfl rfl (by decide) (by decide) u62.1 ?_
          refine te_istore (p2 := 116) (lv2 := [(7, .int g0), (6, .int 2), (5, .int 1), (4, .int g0), (3, .int 1), (2, .int 0), (0, .ref 164), (1, .int 3)]) rfl rfl (by decide) rfl ?_
          refine te_aload_n (p2 := 117) rfl rfl rfl ?_
          refine tg_r (p2 := 120) (i := 148) (r := 215) rfl rfl I62 rfl rfl rfl ?_
          refine te_iload (p2 := 122) rfl rfl rfl ?_
          refine te_aload_n (p2 := 123) rfl rfl rfl ?_
          refine tg_r (p2 := 126) (i := 148) (r := 215) rfl rfl I62 rfl rfl rfl ?_
          refine te_iload (p2 := 128) rfl rfl rfl ?_
          refine tl_e (p2 := 129) (i := 199) (n := 6) (t := 0) (Or.inl rfl) rfl rfl I62 rfl rfl (by decide) (by decide) ((u62.2 _ _ (Or.inr (by decide))).trans ((u61.2 _ _ (Or.inr (by decide))).trans hg2)) ?_
          refine ts_i (p2 := 130) (i := 199) (n := 6) rfl rfl I62 rfl rfl rfl rfl (by decide) (by decide) (by omega) (by omega) (by omega) rfl (fun h68 I68 u68 => ?_)
          have f68 := fr_st (F := F_X12_nextOrder_3) 0 f62 u68 rfl (by decide) (by decide)
          refine te_aload_n (p2 := 131) rfl rfl rfl ?_
          refine tg_r (p2 := 134) (i := 148) (r := 215) rfl rfl I68 rfl rfl rfl ?_
          refine te_iload (p2 := 136) rfl rfl rfl ?_
          refine te_iload (p2 := 138) rfl rfl rfl ?_
          refine ts_i (p2 := 139) (i := 199) (n := 6) rfl rfl I68 rfl rfl rfl rfl (by decide) (by decide) (by omega) (by omega) (by omega) rfl (fun h69 I69 u69 => ?_)
          have f69 := fr_st (F := F_X12_nextOrder_3) 0 f68 u69 rfl (by decide) (by decide)
          refine te_iinc (p2 := 142) (x := 2) (y := 1) (lv2 := [(6, .int 1), (7, .int g0), (5, .int 1), (4, .int g0), (3, .int 1), (2, .int 0), (0, .ref 164), (1, .int 3)]) rfl rfl (by decide) rfl (by decide) rfl ?_
          refine te_iinc (p2 := 145) (x := 1) (y := 2) (lv2 := [(5, .int 2), (6, .int 1), (7, .int g0), (4, .int g0), (3, .int 1), (2, .int 0), (0, .ref 164), (1, .int 3)]) rfl rfl (by decide) rfl (by decide) rfl ?_
          refine te_goto rfl ?_
          refine te_iload (p2 := 102) rfl rfl rfl ?_
          refine te_iload (p2 := 104) rfl rfl rfl ?_
          refine tb_ge (p2 := 107) rfl rfl (show Int32.toInt 2 = 2 from rfl) (show Int32.toInt 1 = 1 from rfl) (fun c72 => ?_) (fun c72 => absurd c72 (by omega))
          refine te_iconst (p2 := 149) (x := 1) rfl rfl (by decide) ?_
          exact te_zret rfl rfl (by decide) ⟨I69, f69, _, rfl, Or.inr ⟨rfl, g1, g2, g0, g3, g4, g5, ((u69.2 _ _ (Or.inr (by decide))).trans ((u68.2 _ _ (Or.inr (by decide))).trans ((u62.2 _ _ (Or.inr (by decide))).trans u61.1))), ((u69.2 _ _ (Or.inr (by decide))).trans u68.1), u69.1, ((u69.2 _ _ (Or.inr (by decide))).trans ((u68.2 _ _ (Or.inr (by decide))).trans ((u62.2 _ _ (Or.inr (by decide))).trans ((u61.2 _ _ (Or.inr (by decide))).trans hg3)))), ((u69.2 _ _ (Or.inr (by decide))).trans ((u68.2 _ _ (Or.inr (by decide))).trans ((u62.2 _ _ (Or.inr (by decide))).trans ((u61.2 _ _ (Or.inr (by decide))).trans hg4)))), ((u69.2 _ _ (Or.inr (by decide))).trans ((u68.2 _ _ (Or.inr (by decide))).trans ((u62.2 _ _ (Or.inr (by decide))).trans ((u61.2 _ _ (Or.inr (by decide))).trans hg5)))), (by unfold prm; omega), (by unfold lexV; omega)⟩⟩
        · refine te_iinc (p2 := 59) (x := 1) (y := 0) (lv2 := [(3, .int 0), (2, .int 0), (0, .ref 164), (1, .int 3)]) rfl rfl (by decide) rfl (by decide) rfl ?_
          refine te_goto rfl ?_
          refine te_aload_n (p2 := 42) rfl rfl rfl ?_
          refine tg_r (p2 := 45) (i := 148) (r := 215) rfl rfl hI rfl rfl rfl ?_
          refine te_iload_n (p2 := 46) rfl rfl rfl ?_
          refine tl_e (p2 := 47) (i := 199) (n := 6) (t := 0) (Or.inl rfl) rfl rfl hI rfl rfl (by decide) (by decide) hg0 ?_
          refine te_aload_n (p2 := 48) rfl rfl rfl ?_
          refine tg_r (p2 := 51) (i := 148) (r := 215) rfl rfl hI rfl rfl rfl ?_
          refine te_iload_n (p2 := 52) rfl rfl rfl ?_
          refine tl_e (p2 := 53) (i := 199) (n := 6) (t := 0) (Or.inl rfl) rfl rfl hI rfl rfl (by decide) (by decide) hg0 ?_
          refine tb_ge (p2 := 56) rfl rfl rfl rfl (fun c76 => ?_) (fun c76 => absurd c76 (by omega))
          refine te_aload_n (p2 := 63) rfl rfl rfl ?_
          refine tg_r (p2 := 66) (i := 148) (r := 215) rfl rfl hI rfl rfl rfl ?_
          refine te_iload_n (p2 := 67) rfl rfl rfl ?_
          refine tl_e (p2 := 68) (i := 199) (n := 6) (t := 0) (Or.inl rfl) rfl rfl hI rfl rfl (by decide) (by decide) hg0 ?_
          refine te_istore (p2 := 70) (lv2 := [(4, .int g0), (3, .int 0), (2, .int 0), (0, .ref 164), (1, .int 3)]) rfl rfl (by decide) rfl ?_
          refine te_aload_n (p2 := 71) rfl rfl rfl ?_
          refine tg_r (p2 := 74) (i := 148) (r := 215) rfl rfl hI rfl rfl rfl ?_
          refine te_iload_n (p2 := 75) rfl rfl rfl ?_
          refine te_aload_n (p2 := 76) rfl rfl rfl ?_
          refine tg_r (p2 := 79) (i := 148) (r := 215) rfl rfl hI rfl rfl rfl ?_
          refine te_iload_n (p2 := 80) rfl rfl rfl ?_
          refine tl_e (p2 := 81) (i := 199) (n := 6) (t := 0) (Or.inl rfl) rfl rfl hI rfl rfl (by decide) (by decide) hg0 ?_
          refine ts_i (p2 := 82) (i := 199) (n := 6) rfl rfl hI rfl rfl rfl rfl (by decide) (by decide) (by omega) (by omega) (by omega) rfl (fun h79 I79 u79 => ?_)
          have f79 := fr_st (F := F_X12_nextOrder_3) 0 f0 u79 rfl (by decide) (by decide)
          refine te_aload_n (p2 := 83) rfl rfl rfl ?_
          refine tg_r (p2 := 86) (i := 148) (r := 215) rfl rfl I79 rfl rfl rfl ?_
          refine te_iload_n (p2 := 87) rfl rfl rfl ?_
          refine te_iload (p2 := 89) rfl rfl rfl ?_
          refine ts_i (p2 := 90) (i := 199) (n := 6) rfl rfl I79 rfl rfl rfl rfl (by decide) (by decide) (by omega) (by omega) (by omega) rfl (fun h80 I80 u80 => ?_)
          have f80 := fr_st (F := F_X12_nextOrder_3) 0 f79 u80 rfl (by decide) (by decide)
          refine te_iload_n (p2 := 91) rfl rfl rfl ?_
          refine te_iconst (p2 := 92) (x := 1) rfl rfl (by decide) ?_
          refine te_iadd (p2 := 93) (z := 1) rfl rfl (by decide) ?_
          refine te_istore (p2 := 95) (lv2 := [(5, .int 1), (4, .int g0), (3, .int 0), (2, .int 0), (0, .ref 164), (1, .int 3)]) rfl rfl (by decide) rfl ?_
          refine te_iload_n (p2 := 96) rfl rfl rfl ?_
          refine te_iconst (p2 := 97) (x := 1) rfl rfl (by decide) ?_
          refine te_isub (p2 := 98) (z := 2) rfl rfl (by decide) ?_
          refine te_istore (p2 := 100) (lv2 := [(6, .int 2), (5, .int 1), (4, .int g0), (3, .int 0), (2, .int 0), (0, .ref 164), (1, .int 3)]) rfl rfl (by decide) rfl ?_
          refine te_iload (p2 := 102) rfl rfl rfl ?_
          refine te_iload (p2 := 104) rfl rfl rfl ?_
          refine tb_ge (p2 := 107) rfl rfl (show Int32.toInt 1 = 1 from rfl) (show Int32.toInt 2 = 2 from rfl) (fun c83 => absurd c83 (by omega)) (fun c83 => ?_)
          refine te_aload_n (p2 := 108) rfl rfl rfl ?_
          refine tg_r (p2 := 111) (i := 148) (r := 215) rfl rfl I80 rfl rfl rfl ?_
          refine te_iload (p2 := 113) rfl rfl rfl ?_
          refine tl_e (p2 := 114) (i := 199) (n := 6) (t := 0) (Or.inl rfl) rfl rfl I80 rfl rfl (by decide) (by decide) ((u80.2 _ _ (Or.inr (by decide))).trans ((u79.2 _ _ (Or.inr (by decide))).trans hg1)) ?_
          refine te_istore (p2 := 116) (lv2 := [(7, .int g1), (6, .int 2), (5, .int 1), (4, .int g0), (3, .int 0), (2, .int 0), (0, .ref 164), (1, .int 3)]) rfl rfl (by decide) rfl ?_
          refine te_aload_n (p2 := 117) rfl rfl rfl ?_
          refine tg_r (p2 := 120) (i := 148) (r := 215) rfl rfl I80 rfl rfl rfl ?_
          refine te_iload (p2 := 122) rfl rfl rfl ?_
          refine te_aload_n (p2 := 123) rfl rfl rfl ?_
          refine tg_r (p2 := 126) (i := 148) (r := 215) rfl rfl I80 rfl rfl rfl ?_
          refine te_iload (p2 := 128) rfl rfl rfl ?_
          refine tl_e (p2 := 129) (i := 199) (n := 6) (t := 0) (Or.inl rfl) rfl rfl I80 rfl rfl (by decide) (by decide) ((u80.2 _ _ (Or.inr (by decide))).trans ((u79.2 _ _ (Or.inr (by decide))).trans hg2)) ?_
          refine ts_i (p2 := 130) (i := 199) (n := 6) rfl rfl I80 rfl rfl rfl rfl (by decide) (by decide) (by omega) (by omega) (by omega) rfl (fun h86 I86 u86 => ?_)
          have f86 := fr_st (F := F_X12_nextOrder_3) 0 f80 u86 rfl (by decide) (by decide)
          refine te_aload_n (p2 := 131) rfl rfl rfl ?_
          refine tg_r (p2 := 134) (i := 148) (r := 215) rfl rfl I86 rfl rfl rfl ?_
          refine te_iload (p2 := 136) rfl rfl rfl ?_
          refine te_iload (p2 := 138) rfl rfl rfl ?_
          refine ts_i (p2 := 139) (i := 199) (n := 6) rfl rfl I86 rfl rfl rfl rfl (by decide) (by decide) (by omega) (by omega) (by omega) rfl (fun h87 I87 u87 => ?_)
          have f87 := fr_st (F := F_X12_nextOrder_3) 0 f86 u87 rfl (by decide) (by decide)
          refine te_iinc (p2 := 142) (x := 2) (y := 1) (lv2 := [(6, .int 1), (7, .int g1), (5, .int 1), (4, .int g0), (3, .int 0), (2, .int 0), (0, .ref 164), (1, .int 3)]) rfl rfl (by decide) rfl (by decide) rfl ?_
          refine te_iinc (p2 := 145) (x := 1) (y := 2) (lv2 := [(5, .int 2), (6, .int 1), (7, .int g1), (4, .int g0), (3, .int 0), (2, .int 0), (0, .ref 164), (1, .int 3)]) rfl rfl (by decide) rfl (by decide) rfl ?_
          refine te_goto rfl ?_
          refine te_iload (p2 := 102) rfl rfl rfl ?_
          refine te_iload (p2 := 104) rfl rfl rfl ?_
          refine tb_ge (p2 := 107) rfl rfl (show Int32.toInt 2 = 2 from rfl) (show Int32.toInt 1 = 1 from rfl) (fun c90 => ?_) (fun c90 => absurd c90 (by omega))
          refine te_iconst (p2 := 149) (x := 1) rfl rfl (by decide) ?_
          exact te_zret rfl rfl (by decide) ⟨I87, f87, _, rfl, Or.inr ⟨rfl, g0, g2, g1, g3, g4, g5, ((u87.2 _ _ (Or.inr (by decide))).trans ((u86.2 _ _ (Or.inr (by decide))).trans u80.1)), ((u87.2 _ _ (Or.inr (by decide))).trans u86.1), u87.1, ((u87.2 _ _ (Or.inr (by decide))).trans ((u86.2 _ _ (Or.inr (by decide))).trans ((u80.2 _ _ (Or.inr (by decide))).trans ((u79.2 _ _ (Or.inr (by decide))).trans hg3)))), ((u87.2 _ _ (Or.inr (by decide))).trans ((u86.2 _ _ (Or.inr (by decide))).trans ((u80.2 _ _ (Or.inr (by decide))).trans ((u79.2 _ _ (Or.inr (by decide))).trans hg4)))), ((u87.2 _ _ (Or.inr (by decide))).trans ((u86.2 _ _ (Or.inr (by decide))).trans ((u80.2 _ _ (Or.inr (by decide))).trans ((u79.2 _ _ (Or.inr (by decide))).trans hg5)))), (by unfold prm; omega), (by unfold lexV; omega)⟩⟩
    · refine te_iinc (p2 := 28) (x := 0) (y := (-1)) (lv2 := [(2, .int (-1)), (0, .ref 164), (1, .int 3)]) rfl rfl (by decide) rfl (by decide) rfl ?_
      refine te_goto rfl ?_
      refine te_iload_n (p2 := 5) rfl rfl rfl ?_
      refine tz_lt (p2 := 8) rfl rfl (show Int32.toInt (-1) = (-1) from rfl) (fun c92 => ?_) (fun c92 => absurd c92 (by omega))
      refine te_iload_n (p2 := 32) rfl rfl rfl ?_
      refine tz_ge (p2 := 35) rfl rfl (show Int32.toInt (-1) = (-1) from rfl) (fun c93 => absurd c93 (by omega)) (fun c93 => ?_)
      refine te_iconst (p2 := 36) (x := 0) rfl rfl (by decide) ?_
      exact te_zret rfl rfl (by decide) ⟨hI, f0, _, rfl, Or.inl rfl⟩
abbrev F_X12_nextOrder_4 : List (Nat × Nat × Nat) := [(199, 0, 5)]
set_option maxRecDepth 20000 in
set_option maxHeartbeats 4000000 in
theorem t_X12_nextOrder_4 {g0 : Int32} {g1 : Int32} {g2 : Int32} {g3 : Int32} {g4 : Int32} {g5 : Int32} {h : im_H} (hI : tI h) (hg0 : rd h 199 (Int32.toInt 0).toNat = some (.int g0)) (ga0 : 0 ≤ g0.toInt) (gb0 : g0.toInt ≤ 5) (hg1 : rd h 199 (Int32.toInt 1).toNat = some (.int g1)) (ga1 : 0 ≤ g1.toInt) (gb1 : g1.toInt ≤ 5) (hg2 : rd h 199 (Int32.toInt 2).toNat = some (.int g2)) (ga2 : 0 ≤ g2.toInt) (gb2 : g2.toInt ≤ 5) (hg3 : rd h 199 (Int32.toInt 3).toNat = some (.int g3)) (ga3 : 0 ≤ g3.toInt) (gb3 : g3.toInt ≤ 5) (hg4 : rd h 199 (Int32.toInt 4).toNat = some (.int g4)) (ga4 : 0 ≤ g4.toInt) (gb4 : g4.toInt ≤ 5) (hg5 : rd h 199 (Int32.toInt 5).toNat = some (.int g5)) (ga5 : 0 ≤ g5.toInt) (gb5 : g5.toInt ≤ 5) (pr0 : prm 4 g0.toInt g1.toInt g2.toInt g3.toInt g4.toInt g5.toInt) : CaP 1 167 [.ref 164, .int 4] h (fun v h2 => tI h2 ∧ fr F_X12_nextOrder_4 h h2 ∧ ∃ y : Int32, v = some (.int y) ∧ (y = 0 ∨ (y = 1 ∧ ∃ k0 k1 k2 k3 k4 k5 : Int32, rd h2 199 (Int32.toInt 0).toNat = some (.int k0) ∧ rd h2 199 (Int32.toInt 1).toNat = some (.int k1) ∧ rd h2 199 (Int32.toInt 2).toNat = some (.int k2) ∧ rd h2 199 (Int32.toInt 3).toNat = some (.int k3) ∧ rd h2 199 (Int32.toInt 4).toNat = some (.int k4) ∧ rd h2 199 (Int32.toInt 5).toNat = some (.int k5) ∧ prm 4 k0.toInt k1.toInt k2.toInt k3.toInt k4.toInt k5.toInt ∧ lexV g0.toInt g1.toInt g2.toInt g3.toInt g4.toInt g5.toInt < lexV k0.toInt k1.toInt k2.toInt k3.toInt k4.toInt k5.toInt))) := by
  refine cap_of (d := 0) (M := mX12_nextOrder) rfl (Nat.le_of_ble_eq_true rfl) ?_
  show EvP im_K0 0 mX12_nextOrder (0, [(0, .ref 164), (1, .int 4)], [], h) _
  obtain ⟨q0, q1, q2, q3, q4, q5⟩ := pr0
  have q0 := q0 (by decide)
  have q1 := q1 (by decide)
  have q2 := q2 (by decide)
  have q3 := q3 (by decide)
  clear q4 q5
  have f0 : fr F_X12_nextOrder_4 h h := fr_rf
  refine te_iload_n (p2 := 1) rfl rfl rfl ?_
  refine te_iconst (p2 := 2) (x := 2) rfl rfl (by decide) ?_
  refine te_isub (p2 := 3) (z := 2) rfl rfl (by decide) ?_
  refine te_istore_n (p2 := 4) (lv2 := [(2, .int 2), (0, .ref 164), (1, .int 4)]) rfl rfl (by decide) rfl ?_
  refine te_iload_n (p2 := 5) rfl rfl rfl ?_
  refine tz_lt (p2 := 8) rfl rfl (show Int32.toInt 2 = 2 from rfl) (fun c2 => absurd c2 (by omega)) (fun c2 => ?_)
  refine te_aload_n (p2 := 9) rfl rfl rfl ?_
  refine tg_r (p2 := 12) (i := 148) (r := 215) rfl rfl hI rfl rfl rfl ?_
  refine te_iload_n (p2 := 13) rfl rfl rfl ?_
  refine tl_e (p2 := 14) (i := 199) (n := 6) (t := 0) (Or.inl rfl) rfl rfl hI rfl rfl (by decide) (by decide) hg2 ?_
  refine te_aload_n (p2 := 15) rfl rfl rfl ?_
  refine tg_r (p2 := 18) (i := 148) (r := 215) rfl rfl hI rfl rfl rfl ?_
  refine te_iload_n (p2 := 19) rfl rfl rfl ?_
  refine te_iconst (p2 := 20) (x := 1) rfl rfl (by decide) ?_
  refine te_iadd (p2 := 21) (z := 3) rfl rfl (by decide) ?_
  refine tl_e (p2 := 22) (i := 199) (n := 6) (t := 0) (Or.inl rfl) rfl rfl hI rfl rfl (by decide) (by decide) hg3 ?_
  refine tb_le (p2 := 25) rfl rfl rfl rfl (fun c6 => ?_) (fun c6 => ?_)
  · refine te_iload_n (p2 := 32) rfl rfl rfl ?_
    refine tz_ge (p2 := 35) rfl rfl (show Int32.toInt 2 = 2 from rfl) (fun c7 => ?_) (fun c7 => absurd c7 (by omega))
    refine te_iload_n (p2 := 38) rfl rfl rfl ?_
    refine te_iconst (p2 := 39) (x := 1) rfl rfl (by decide) ?_
    refine te_isub (p2 := 40) (z := 3) rfl rfl (by decide) ?_
    refine te_istore_n (p2 := 41) (lv2 := [(3, .int 3), (2, .int 2), (0, .ref 164), (1, .int 4)]) rfl rfl (by decide) rfl ?_
    refine te_aload_n (p2 := 42) rfl rfl rfl ?_
    refine tg_r (p2 := 45) (i := 148) (r := 215) rfl rfl hI rfl rfl rfl ?_
    refine te_iload_n (p2 := 46) rfl rfl rfl ?_
    refine tl_e (p2 := 47) (i := 199) (n := 6) (t := 0) (Or.inl rfl) rfl rfl hI rfl rfl (by decide) (by decide) hg3 ?_
    refine te_aload_n (p2 := 48) rfl rfl rfl ?_
    refine tg_r (p2 := 51) (i := 148) (r := 215) rfl rfl hI rfl rfl rfl ?_
    refine te_iload_n (p2 := 52) rfl rfl rfl ?_
    refine tl_e (p2 := 53) (i := 199) (n := 6) (t := 0) (Or.inl rfl) rfl rfl hI rfl rfl (by decide) (by decide) hg2 ?_
    refine tb_ge (p2 := 56) rfl rfl rfl rfl (fun c11 => ?_) (fun c11 => ?_)
    · refine te_aload_n (p2 := 63) rfl rfl rfl ?_
      refine tg_r (p2 := 66) (i := 148) (r := 215) rfl rfl hI rfl rfl rfl ?_
      refine te_iload_n (p2 := 67) rfl rfl rfl ?_
      refine tl_e (p2 := 68) (i := 199) (n := 6) (t := 0) (Or.inl rfl) rfl rfl hI rfl rfl (by decide) (by decide) hg2 ?_
      refine te_istore (p2 := 70) (lv2 := [(4, .int g2), (3, .int 3), (2, .int 2), (0, .ref 164), (1, .int 4)]) rfl rfl (by decide) rfl ?_
      refine te_aload_n (p2 := 71) rfl rfl rfl ?_
      refine tg_r (p2 := 74) (i := 148) (r := 215) rfl rfl hI rfl rfl rfl ?_
      refine te_iload_n (p2 := 75) rfl rfl rfl ?_
      refine te_aload_n (p2 := 76) rfl rfl rfl ?_
      refine tg_r (p2 := 79) (i := 148) (r := 215) rfl rfl hI rfl rfl rfl ?_
      refine te_iload_n (p2 := 80) rfl rfl rfl ?_
      refine tl_e (p2 := 81) (i := 199) (n := 6) (t := 0) (Or.inl rfl) rfl rfl hI rfl rfl (by decide) (by decide) hg3 ?_
      refine ts_i (p2 := 82) (i := 199) (n := 6) rfl rfl hI rfl rfl rfl rfl (by decide) (by decide) (by omega) (by omega) (by omega) rfl (fun h14 I14 u14 => ?_)
      have f14 := fr_st (F := F_X12_nextOrder_4) 0 f0 u14 rfl (by decide) (by decide)
      refine te_aload_n (p2 := 83) rfl rfl rfl ?_
      refine tg_r (p2 := 86) (i := 148) (r := 215) rfl rfl I14 rfl rfl rfl ?_
      refine te_iload_n (p2 := 87) rfl rfl rfl ?_
      refine te_iload (p2 := 89) rfl rfl rfl ?_
      refine ts_i (p2 := 90) (i := 199) (n := 6) rfl rfl I14 rfl rfl rfl rfl (by decide) (by decide) (by omega) (by omega) (by omega) rfl (fun h15 I15 u15 => ?_)
      have f15 := fr_st (F := F_X12_nextOrder_4) 0 f14 u15 rfl (by decide) (by decide)
      refine te_iload_n (p2 := 91) rfl rfl rfl ?_
      refine te_iconst (p2 := 92) (x := 1) rfl rfl (by decide) ?_
      refine te_iadd (p2 := 93) (z := 3) rfl rfl (by decide) ?_
      refine te_istore (p2 := 95) (lv2 := [(5, .int 3), (4, .int g2), (3, .int 3), (2, .int 2), (0, .ref 164), (1, .int 4)]) rfl rfl (by decide) rfl ?_
      refine te_iload_n (p2 := 96) rfl rfl rfl ?_
      refine te_iconst (p2 := 97) (x := 1) rfl rfl (by decide) ?_
      refine te_isub (p2 := 98) (z := 3) rfl rfl (by decide) ?_
      refine te_istore (p2 := 100) (lv2 := [(6, .int 3), (5, .int 3), (4, .int g2), (3, .int 3), (2, .int 2), (0, .ref 164), (1, .int 4)]) rfl rfl (by decide) rfl ?_
      refine te_iload (p2 := 102) rfl rfl rfl ?_
      refine te_iload (p2 := 104) rfl rfl rfl ?_
      refine tb_ge (p2 := 107) rfl rfl (show Int32.toInt 3 = 3 from rfl) (show Int32.toInt 3 = 3 from rfl) (fun c18 => ?_) (fun c18 => absurd c18 (by omega))
      refine te_iconst (p2 := 149) (x := 1) rfl rfl (by decide) ?_
      exact te_zret rfl rfl (by decide) ⟨I15, f15, _, rfl, Or.inr ⟨rfl, g0, g1, g3, g2, g4, g5, ((u15.2 _ _ (Or.inr (by decide))).trans ((u14.2 _ _ (Or.inr (by decide))).trans hg0)), ((u15.2 _ _ (Or.inr (by decide))).trans ((u14.2 _ _ (Or.inr (by decide))).trans hg1)), ((u15.2 _ _ (Or.inr (by decide))).trans u14.1), u15.1, ((u15.2 _ _ (Or.inr (by decide))).trans ((u14.2 _ _ (Or.inr (by decide))).trans hg4)), ((u15.2 _ _ (Or.inr (by decide))).trans ((u14.2 _ _ (Or.inr (by decide))).trans hg5)), (by unfold prm; omega), (by unfold lexV; omega)⟩⟩
    · refine te_iinc (p2 := 59) (x := 3) (y := 2) (lv2 := [(3, .int 2), (2, .int 2), (0, .ref 164), (1, .int 4)]) rfl rfl (by decide) rfl (by decide) rfl ?_
      refine te_goto rfl ?_
      refine te_aload_n (p2 := 42) rfl rfl rfl ?_
      refine tg_r (p2 := 45) (i := 148) (r := 215) rfl rfl hI rfl rfl rfl ?_
      refine te_iload_n (p2 := 46) rfl rfl rfl ?_
      refine tl_e (p2 := 47) (i := 199) (n := 6) (t := 0) (Or.inl rfl) rfl rfl hI rfl rfl (by decide) (by decide) hg2 ?_
      refine te_aload_n (p2 := 48) rfl rfl rfl ?_
      refine tg_r (p2 := 51) (i := 148) (r := 215) rfl rfl hI rfl rfl rfl ?_
      refine te_iload_n (p2 := 52) rfl rfl rfl ?_
      refine tl_e (p2 := 53) (i := 199) (n := 6) (t := 0) (Or.inl rfl) rfl rfl hI rfl rfl (by decide) (by decide) hg2 ?_
      refine tb_ge (p2 := 56) rfl rfl rfl rfl (fun c22 => ?_) (fun c22 => absurd c22 (by omega))
      refine te_aload_n (p2 := 63) rfl rfl rfl ?_
      refine tg_r (p2 := 66) (i := 148) (r := 215) rfl rfl hI rfl rfl rfl ?_
      refine te_iload_n (p2 := 67) rfl rfl rfl ?_
      refine tl_e (p2 := 68) (i := 199) (n := 6) (t := 0) (Or.inl rfl) rfl rfl hI rfl rfl (by decide) (by decide) hg2 ?_
      refine te_istore (p2 := 70) (lv2 := [(4, .int g2), (3, .int 2), (2, .int 2), (0, .ref 164), (1, .int 4)]) rfl rfl (by decide) rfl ?_
      refine te_aload_n (p2 := 71) rfl rfl rfl ?_
      refine tg_r (p2 := 74) (i := 148) (r := 215) rfl rfl hI rfl rfl rfl ?_
      refine te_iload_n (p2 := 75) rfl rfl rfl ?_
      refine te_aload_n (p2 := 76) rfl rfl rfl ?_
      refine tg_r (p2 := 79) (i := 148) (r := 215) rfl rfl hI rfl rfl rfl ?_
      refine te_iload_n (p2 := 80) rfl rfl rfl ?_
      refine tl_e (p2 := 81) (i := 199) (n := 6) (t := 0) (Or.inl rfl) rfl rfl hI rfl rfl (by decide) (by decide) hg2 ?_
      refine ts_i (p2 := 82) (i := 199) (n := 6) rfl rfl hI rfl rfl rfl rfl (by decide) (by decide) (by omega) (by omega) (by omega) rfl (fun h25 I25 u25 => ?_)
      have f25 := fr_st (F := F_X12_nextOrder_4) 0 f0 u25 rfl (by decide) (by decide)
      refine te_aload_n (p2 := 83) rfl rfl rfl ?_
      refine tg_r (p2 := 86) (i := 148) (r := 215) rfl rfl I25 rfl rfl rfl ?_
      refine te_iload_n (p2 := 87) rfl rfl rfl ?_
      refine te_iload (p2 := 89) rfl rfl rfl ?_
      refine ts_i (p2 := 90) (i := 199) (n := 6) rfl rfl I25 rfl rfl rfl rfl (by decide) (by decide) (by omega) (by omega) (by omega) rfl (fun h26 I26 u26 => ?_)
      have f26 := fr_st (F := F_X12_nextOrder_4) 0 f25 u26 rfl (by decide) (by decide)
      refine te_iload_n (p2 := 91) rfl rfl rfl ?_
      refine te_iconst (p2 := 92) (x := 1) rfl rfl (by decide) ?_
      refine te_iadd (p2 := 93) (z := 3) rfl rfl (by decide) ?_
      refine te_istore (p2 := 95) (lv2 := [(5, .int 3), (4, .int g2), (3, .int 2), (2, .int 2), (0, .ref 164), (1, .int 4)]) rfl rfl (by decide) rfl ?_
      refine te_iload_n (p2 := 96) rfl rfl rfl ?_
      refine te_iconst (p2 := 97) (x := 1) rfl rfl (by decide) ?_
      refine te_isub (p2 := 98) (z := 3) rfl rfl (by decide) ?_
      refine te_istore (p2 := 100) (lv2 := [(6, .int 3), (5, .int 3), (4, .int g2), (3, .int 2), (2, .int 2), (0, .ref 164), (1, .int 4)]) rfl rfl (by decide) rfl ?_
      refine te_iload (p2 := 102) rfl rfl rfl ?_
      refine te_iload (p2 := 104) rfl rfl rfl ?_
      refine tb_ge (p2 := 107) rfl rfl (show Int32.toInt 3 = 3 from rfl) (show Int32.toInt 3 = 3 from rfl) (fun c29 => ?_) (fun c29 => absurd c29 (by omega))
      refine te_iconst (p2 := 149) (x := 1) rfl rfl (by decide) ?_
      exact te_zret rfl rfl (by decide) ⟨I26, f26, _, rfl, Or.inr ⟨rfl, g0, g1, g2, g3, g4, g5, ((u26.2 _ _ (Or.inr (by decide))).trans ((u25.2 _ _ (Or.inr (by decide))).trans hg0)), ((u26.2 _ _ (Or.inr (by decide))).trans ((u25.2 _ _ (Or.inr (by decide))).trans hg1)), u26.1, ((u26.2 _ _ (Or.inr (by decide))).trans ((u25.2 _ _ (Or.inr (by decide))).trans hg3)), ((u26.2 _ _ (Or.inr (by decide))).trans ((u25.2 _ _ (Or.inr (by decide))).trans hg4)), ((u26.2 _ _ (Or.inr (by decide))).trans ((u25.2 _ _ (Or.inr (by decide))).trans hg5)), (by unfold prm; omega), (by unfold lexV; omega)⟩⟩
  · refine te_iinc (p2 := 28) (x := 2) (y := 1) (lv2 := [(2, .int 1), (0, .ref 164), (1, .int 4)]) rfl rfl (by decide) rfl (by decide) rfl ?_
    refine te_goto rfl ?_
    refine te_iload_n (p2 := 5) rfl rfl rfl ?_
    refine tz_lt (p2 := 8) rfl rfl (show Int32.toInt 1 = 1 from rfl) (fun c31 => absurd c31 (by omega)) (fun c31 => ?_)
    refine te_aload_n (p2 := 9) rfl rfl rfl ?_
    refine tg_r (p2 := 12) (i := 148) (r := 215) rfl rfl hI rfl rfl rfl ?_
    refine te_iload_n (p2 := 13) rfl rfl rfl ?_
    refine tl_e (p2 := 14) (i := 199) (n := 6) (t := 0) (Or.inl rfl) rfl rfl hI rfl rfl (by decide) (by decide) hg1 ?_
    refine te_aload_n (p2 := 15) rfl rfl rfl ?_
    refine tg_r (p2 := 18) (i := 148) (r := 215) rfl rfl hI rfl rfl rfl ?_
    refine te_iload_n (p2 := 19) rfl rfl rfl ?_
    refine te_iconst (p2 := 20) (x := 1) rfl rfl (by decide) ?_
    refine te_iadd (p2 := 21) (z := 2) rfl rfl (by decide) ?_
    refine tl_e (p2 := 22) (i := 199) (n := 6) (t := 0) (Or.inl rfl) rfl rfl hI rfl rfl (by decide) (by decide) hg2 ?_
    refine tb_le (p2 := 25) rfl rfl rfl rfl (fun c35 => ?_) (fun c35 => ?_)
    · refine te_iload_n (p2 := 32) rfl rfl rfl ?_
      refine tz_ge (p2 := 35) rfl rfl (show Int32.toInt 1 = 1 from rfl) (fun c36 => ?_) (fun c36 => absurd c36 (by omega))
      refine te_iload_n (p2 := 38) rfl rfl rfl ?_
      refine te_iconst (p2 := 39) (x := 1) rfl rfl (by decide) ?_
      refine te_isub (p2 := 40) (z := 3) rfl rfl (by decide) ?_
      refine te_istore_n (p2 := 41) (lv2 := [(3, .int 3), (2, .int 1), (0, .ref 164), (1, .int 4)]) rfl rfl (by decide) rfl ?_
      refine te_aload_n (p2 := 42) rfl rfl rfl ?_
      refine tg_r (p2 := 45) (i := 148) (r := 215) rfl rfl hI rfl rfl rfl ?_
      refine te_iload_n (p2 := 46) rfl rfl rfl ?_
      refine tl_e (p2 := 47) (i := 199) (n := 6) (t := 0) (Or.inl rfl) rfl rfl hI rfl rfl (by decide) (by decide) hg3 ?_
      refine te_aload_n (p2 := 48) rfl rfl rfl ?_
      refine tg_r (p2 := 51) (i := 148) (r := 215) rfl rfl hI rfl rfl rfl ?_
      refine te_iload_n (p2 := 52) rfl rfl rfl ?_
      refine tl_e (p2 := 53) (i := 199) (n := 6) (t := 0) (Or.inl rfl) rfl rfl hI rfl rfl (by decide) (by decide) hg1 ?_
      refine tb_ge (p2 := 56) rfl rfl rfl rfl (fun c40 => ?_) (fun c40 => ?_)
      · refine te_aload_n (p2 := 63) rfl rfl rfl ?_
        refine tg_r (p2 := 66) (i := 148) (r := 215) rfl rfl hI rfl rfl rfl ?_
        refine te_iload_n (p2 := 67) rfl rfl rfl ?_
        refine tl_e (p2 := 68) (i := 199) (n := 6) (t := 0) (Or.inl rfl) rfl rfl hI rfl rfl (by decide) (by decide) hg1 ?_
        refine te_istore (p2 := 70) (lv2 := [(4, .int g1), (3, .int 3), (2, .int 1), (0, .ref 164), (1, .int 4)]) rfl rfl (by decide) rfl ?_
        refine te_aload_n (p2 := 71) rfl rfl rfl ?_
        refine tg_r (p2 := 74) (i := 148) (r := 215) rfl rfl hI rfl rfl rfl ?_
        refine te_iload_n (p2 := 75) rfl rfl rfl ?_
        refine te_aload_n (p2 := 76) rfl rfl rfl ?_
        refine tg_r (p2 := 79) (i := 148) (r := 215) rfl rfl hI rfl rfl rfl ?_
        refine te_iload_n (p2 := 80) rfl rfl rfl ?_
        refine tl_e (p2 := 81) (i := 199) (n := 6) (t := 0) (Or.inl rfl) rfl rfl hI rfl rfl (by decide) (by decide) hg3 ?_
        refine ts_i (p2 := 82) (i := 199) (n := 6) rfl rfl hI rfl rfl rfl rfl (by decide) (by decide) (by omega) (by omega) (by omega) rfl (fun h43 I43 u43 => ?_)
        have f43 := fr_st (F := F_X12_nextOrder_4) 0 f0 u43 rfl (by decide) (by decide)
        refine te_aload_n (p2 := 83) rfl rfl rfl ?_
        refine tg_r (p2 := 86) (i := 148) (r := 215) rfl rfl I43 rfl rfl rfl ?_
        refine te_iload_n (p2 := 87) rfl rfl rfl ?_
        refine te_iload (p2 := 89) rfl rfl rfl ?_
        refine ts_i (p2 := 90) (i := 199) (n := 6) rfl rfl I43 rfl rfl rfl rfl (by decide) (by decide) (by omega) (by omega) (by omega) rfl (fun h44 I44 u44 => ?_)
        have f44 := fr_st (F := F_X12_nextOrder_4) 0 f43 u44 rfl (by decide) (by decide)
        refine te_iload_n (p2 := 91) rfl rfl rfl ?_
        refine te_iconst (p2 := 92) (x := 1) rfl rfl (by decide) ?_
        refine te_iadd (p2 := 93) (z := 2) rfl rfl (by decide) ?_
        refine te_istore (p2 := 95) (lv2 := [(5, .int 2), (4, .int g1), (3, .int 3), (2, .int 1), (0, .ref 164), (1, .int 4)]) rfl rfl (by decide) rfl ?_
        refine te_iload_n (p2 := 96) rfl rfl rfl ?_
        refine te_iconst (p2 := 97) (x := 1) rfl rfl (by decide) ?_
        refine te_isub (p2 := 98) (z := 3) rfl rfl (by decide) ?_
        refine te_istore (p2 := 100) (lv2 := [(6, .int 3), (5, .int 2), (4, .int g1), (3, .int 3), (2, .int 1), (0, .ref 164), (1, .int 4)]) rfl rfl (by decide) rfl ?_
        refine te_iload (p2 := 102) rfl rfl rfl ?_
        refine te_iload (p2 := 104) rfl rfl rfl ?_
        refine tb_ge (p2 := 107) rfl rfl (show Int32.toInt 2 = 2 from rfl) (show Int32.toInt 3 = 3 from rfl) (fun c47 => absurd c47 (by omega)) (fun c47 => ?_)
        refine te_aload_n (p2 := 108) rfl rfl rfl ?_
        refine tg_r (p2 := 111) (i := 148) (r := 215) rfl rfl I44 rfl rfl rfl ?_
        refine te_iload (p2 := 113) rfl rfl rfl ?_
        refine tl_e (p2 := 114) (i := 199) (n := 6) (t := 0) (Or.inl rfl) rfl rfl I44 rfl rfl (by decide) (by decide) ((u44.2 _ _ (Or.inr (by decide))).trans ((u43.2 _ _ (Or.inr (by decide))).trans hg2)) ?_
        refine te_istore (p2 := 116) (lv2 := [(7, .int g2), (6, .int 3), (5, .int 2), (4, .int g1), (3, .int 3), (2, .int 1), (0, .ref 164), (1, .int 4)]) rfl rfl (by decide) rfl ?_
        refine te_aload_n (p2 := 117) rfl rfl rfl ?_
        refine tg_r (p2 := 120) (i := 148) (r := 215) rfl rfl I44 rfl rfl rfl ?_
        refine te_iload (p2 := 122) rfl rfl rfl ?_
        refine te_aload_n (p2 := 123) rfl rfl rfl ?_
        refine tg_r (p2 := 126) (i := 148) (r := 215) rfl rfl I44 rfl rfl rfl ?_
        refine te_iload (p2 := 128) rfl rfl rfl ?_
        refine tl_e (p2 := 129) (i := 199) (n := 6) (t := 0) (Or.inl rfl) rfl rfl I44 rfl rfl (by decide) (by decide) u44.1 ?_
        refine ts_i (p2 := 130) (i := 199) (n := 6) rfl rfl I44 rfl rfl rfl rfl (by decide) (by decide) (by omega) (by omega) (by omega) rfl (fun h50 I50 u50 => ?_)
        have f50 := fr_st (F := F_X12_nextOrder_4) 0 f44 u50 rfl (by decide) (by decide)
        refine te_aload_n (p2 := 131) rfl rfl rfl ?_
        refine tg_r (p2 := 134) (i := 148) (r := 215) rfl rfl I50 rfl rfl rfl ?_
        refine te_iload (p2 := 136) rfl rfl rfl ?_
        refine te_iload (p2 := 138) rfl rfl rfl ?_
        refine ts_i (p2 := 139) (i := 199) (n := 6) rfl rfl I50 rfl rfl rfl rfl (by decide) (by decide) (by omega) (by omega) (by omega) rfl (fun h51 I51 u51 => ?_)
        have f51 := fr_st (F := F_X12_nextOrder_4) 0 f50 u51 rfl (by decide) (by decide)
        refine te_iinc (p2 := 142) (x := 3) (y := 2) (lv2 := [(6, .int 2), (7, .int g2), (5, .int 2), (4, .int g1), (3, .int 3), (2, .int 1), (0, .ref 164), (1, .int 4)]) rfl rfl (by decide) rfl (by decide) rfl ?_
        refine te_iinc (p2 := 145) (x := 2) (y := 3) (lv2 := [(5, .int 3), (6, .int 2), (7, .int g2), (4, .int g1), (3, .int 3), (2, .int 1), (0, .ref 164), (1, .int 4)]) rfl rfl (by decide) rfl (by decide) rfl ?_
        refine te_goto rfl ?_
        refine te_iload (p2 := 102) rfl rfl rfl ?_
        refine te_iload (p2 := 104) rfl rfl rfl ?_
        refine tb_ge (p2 := 107) rfl rfl (show Int32.toInt 3 = 3 from rfl) (show Int32.toInt 2 = 2 from rfl) (fun c54 => ?_) (fun c54 => absurd c54 (by omega))
        refine te_iconst (p2 := 149) (x := 1) rfl rfl (by decide) ?_
        exact te_zret rfl rfl (by decide) ⟨I51, f51, _, rfl, Or.inr ⟨rfl, g0, g3, g1, g2, g4, g5, ((u51.2 _ _ (Or.inr (by decide))).trans ((u50.2 _ _ (Or.inr (by decide))).trans ((u44.2 _ _ (Or.inr (by decide))).trans ((u43.2 _ _ (Or.inr (by decide))).trans hg0)))), ((u51.2 _ _ (Or.inr (by decide))).trans ((u50.2 _ _ (Or.inr (by decide))).trans ((u44.2 _ _ (Or.inr (by decide))).trans u43.1))), ((u51.2 _ _ (Or.inr (by decide))).trans u50.1), u51.1, ((u51.2 _ _ (Or.inr (by decide))).trans ((u50.2 _ _ (Or.inr (by decide))).trans ((u44.2 _ _ (Or.inr (by decide))).trans ((u43.2 _ _ (Or.inr (by decide))).trans hg4)))), ((u51.2 _ _ (Or.inr (by decide))).trans ((u50.2 _ _ (Or.inr (by decide))).trans ((u44.2 _ _ (Or.inr (by decide))).trans ((u43.2 _ _ (Or.inr (by decide))).trans hg5)))), (by unfold prm; omega), (by unfold lexV; omega)⟩⟩
      · refine te_iinc (p2 := 59) (x := 3) (y := 2) (lv2 := [(3, .int 2), (2, .int 1), (0, .ref 164), (1, .int 4)]) rfl rfl (by decide) rfl (by decide) rfl ?_
        refine te_goto rfl ?_
        refine te_aload_n (p2 := 42) rfl rfl rfl ?_
        refine tg_r (p2 := 45) (i := 148) (r := 215) rfl rfl hI rfl rfl rfl ?_
        refine te_iload_n (p2 := 46) rfl rfl rfl ?_
        refine tl_e (p2 := 47) (i := 199) (n := 6) (t := 0) (Or.inl rfl) rfl rfl hI rfl rfl (by decide) (by decide) hg2 ?_
        refine te_aload_n (p2 := 48) rfl rfl rfl ?_
        refine tg_r (p2 := 51) (i := 148) (r := 215) rfl rfl hI rfl rfl rfl ?_
        refine te_iload_n (p2 := 52) rfl rfl rfl ?_
        refine tl_e (p2 := 53) (i := 199) (n := 6) (t := 0) (Or.inl rfl) rfl rfl hI rfl rfl (by decide) (by decide) hg1 ?_
        refine tb_ge (p2 := 56) rfl rfl rfl rfl (fun c58 => ?_) (fun c58 => ?_)
        · refine te_aload_n (p2 := 63) rfl rfl rfl ?_
          refine tg_r (p2 := 66) (i := 148) (r := 215) rfl rfl hI rfl rfl rfl ?_
          refine te_iload_n (p2 := 67) rfl rfl rfl ?_
          refine tl_e (p2 := 68) (i := 199) (n := 6) (t := 0) (Or.inl rfl) rfl rfl hI rfl rfl (by decide) (by decide) hg1 ?_
          refine te_istore (p2 := 70) (lv2 := [(4, .int g1), (3, .int 2), (2, .int 1), (0, .ref 164), (1, .int 4)]) rfl rfl (by decide) rfl ?_
          refine te_aload_n (p2 := 71) rfl rfl rfl ?_
          refine tg_r (p2 := 74) (i := 148) (r := 215) rfl rfl hI rfl rfl rfl ?_
          refine te_iload_n (p2 := 75) rfl rfl rfl ?_
          refine te_aload_n (p2 := 76) rfl rfl rfl ?_
          refine tg_r (p2 := 79) (i := 148) (r := 215) rfl rfl hI rfl rfl rfl ?_
          refine te_iload_n (p2 := 80) rfl rfl rfl ?_
          refine tl_e (p2 := 81) (i := 199) (n := 6) (t := 0) (Or.inl rfl) rfl rfl hI rfl rfl (by decide) (by decide) hg2 ?_
          refine ts_i (p2 := 82) (i := 199) (n := 6) rfl rfl hI rfl rfl rfl rfl (by decide) (by decide) (by omega) (by omega) (by omega) rfl (fun h61 I61 u61 => ?_)
          have f61 := fr_st (F := F_X12_nextOrder_4) 0 f0 u61 rfl (by decide) (by decide)
          refine te_aload_n (p2 := 83) rfl rfl rfl ?_
          refine tg_r (p2 := 86) (i := 148) (r := 215) rfl rfl I61 rfl rfl rfl ?_
          refine te_iload_n (p2 := 87) rfl rfl rfl ?_
          refine te_iload (p2 := 89) rfl rfl rfl ?_
          refine ts_i (p2 := 90) (i := 199) (n := 6) rfl rfl I61 rfl rfl rfl rfl (by decide) (by decide) (by omega) (by omega) (by omega) rfl (fun h62 I62 u62 => ?_)
          have f62 := fr_st (F := F_X12_nextOrder_4) 0 f61 u62 rfl (by decide) (by decide)
          refine te_iload_n (p2 := 91) rfl rfl rfl ?_
          refine te_iconst (p2 := 92) (x := 1) rfl rfl (by decide) ?_
          refine te_iadd (p2 := 93) (z := 2) rfl rfl (by decide) ?_
          refine te_istore (p2 := 95) (lv2 := [(5, .int 2), (4, .int g1), (3, .int 2), (2, .int 1), (0, .ref 164), (1, .int 4)]) rfl rfl (by decide) rfl ?_
          refine te_iload_n (p2 := 96) rfl rfl rfl ?_
          refine te_iconst (p2 := 97) (x := 1) rfl rfl (by decide) ?_
          refine te_isub (p2 := 98) (z := 3) rfl rfl (by decide) ?_
          refine te_istore (p2 := 100) (lv2 := [(6, .int 3), (5, .int 2), (4, .int g1), (3, .int 2), (2, .int 1), (0, .ref 164), (1, .int 4)]) rfl rfl (by decide) rfl ?_
          refine te_iload (p2 := 102) rfl rfl rfl ?_
          refine te_iload (p2 := 104) rfl rfl rfl ?_
          refine tb_ge (p2 := 107) rfl rfl (show Int32.toInt 2 = 2 from rfl) (show Int32.toInt 3 = 3 from rfl) (fun c65 => absurd c65 (by omega)) (fun c65 => ?_)
          refine te_aload_n (p2 := 108) rfl rfl rfl ?_
          refine tg_r (p2 := 111) (i := 148) (r := 215) rfl rfl I62 rfl rfl rfl ?_
          refine te_iload (p2 := 113) rfl rfl rfl ?_
          refine tl_e (p2 := 114) (i := 199) (n := 6) (t := 0) (Or.inl rfl) rfl rfl I62 rfl rfl (by decide) (by decide) u62.1 ?_
          refine te_istore (p2 := 116) (lv2 := [(7, .int g1), (6, .int 3), (5, .int 2), (4, .int g1), (3, .int 2), (2, .int 1), (0, .ref 164), (1, .int 4)]) rfl rfl (by decide) rfl ?_
          refine te_aload_n (p2 := 117) rfl rfl rfl ?_
          refine tg_r (p2 := 120) (i := 148) (r := 215) rfl rfl I62 rfl rfl rfl ?_
          refine te_iload (p2 := 122) rfl rfl rfl ?_
          refine te_aload_n (p2 := 123) rfl rfl rfl ?_
          refine tg_r (p2 := 126) (i := 148) (r := 215) rfl rfl I62 rfl rfl rfl ?_
          refine te_iload (p2 := 128) rfl rfl rfl ?_
          refine tl_e (p2 := 129) (i := 199) (n := 6) (t := 0) (Or.inl rfl) rfl rfl I62 rfl rfl (by decide) (by decide) ((u62.2 _ _ (Or.inr (by decide))).trans ((u61.2 _ _ (Or.inr (by decide))).trans hg3)) ?_
          refine ts_i (p2 := 130) (i := 199) (n := 6) rfl rfl I62 rfl rfl rfl rfl (by decide) (by decide) (by omega) (by omega) (by omega) rfl (fun h68 I68 u68 => ?_)
          have f68 := fr_st (F := F_X12_nextOrder_4) 0 f62 u68 rfl (by decide) (by decide)
          refine te_aload_n (p2 := 131) rfl rfl rfl ?_
          refine tg_r (p2 := 134) (i := 148) (r := 215) rfl rfl I68 rfl rfl rfl ?_
          refine te_iload (p2 := 136) rfl rfl rfl ?_
          refine te_iload (p2 := 138) rfl rfl rfl ?_
          refine ts_i (p2 := 139) (i := 199) (n := 6) rfl rfl I68 rfl rfl rfl rfl (by decide) (by decide) (by omega) (by omega) (by omega) rfl (fun h69 I69 u69 => ?_)
          have f69 := fr_st (F := F_X12_nextOrder_4) 0 f68 u69 rfl (by decide) (by decide)
          refine te_iinc (p2 := 142) (x := 3) (y := 2) (lv2 := [(6, .int 2), (7, .int g1), (5, .int 2), (4, .int g1), (3, .int 2), (2, .int 1), (0, .ref 164), (1, .int 4)]) rfl rfl (by decide) rfl (by decide) rfl ?_
          refine te_iinc (p2 := 145) (x := 2) (y := 3) (lv2 := [(5, .int 3), (6, .int 2), (7, .int g1), (4, .int g1), (3, .int 2), (2, .int 1), (0, .ref 164), (1, .int 4)]) rfl rfl (by decide) rfl (by decide) rfl ?_
          refine te_goto rfl ?_
          refine te_iload (p2 := 102) rfl rfl rfl ?_
          refine te_iload (p2 := 104) rfl rfl rfl ?_
          refine tb_ge (p2 := 107) rfl rfl (show Int32.toInt 3 = 3 from rfl) (show Int32.toInt 2 = 2 from rfl) (fun c72 => ?_) (fun c72 => absurd c72 (by omega))
          refine te_iconst (p2 := 149) (x := 1) rfl rfl (by decide) ?_
          exact te_zret rfl rfl (by decide) ⟨I69, f69, _, rfl, Or.inr ⟨rfl, g0, g2, g3, g1, g4, g5, ((u69.2 _ _ (Or.inr (by decide))).trans ((u68.2 _ _ (Or.inr (by decide))).trans ((u62.2 _ _ (Or.inr (by decide))).trans ((u61.2 _ _ (Or.inr (by decide))).trans hg0)))), ((u69.2 _ _ (Or.inr (by decide))).trans ((u68.2 _ _ (Or.inr (by decide))).trans ((u62.2 _ _ (Or.inr (by decide))).trans u61.1))), ((u69.2 _ _ (Or.inr (by decide))).trans u68.1), u69.1, ((u69.2 _ _ (Or.inr (by decide))).trans ((u68.2 _ _ (Or.inr (by decide))).trans ((u62.2 _ _ (Or.inr (by decide))).trans ((u61.2 _ _ (Or.inr (by decide))).trans hg4)))), ((u69.2 _ _ (Or.inr (by decide))).trans ((u68.2 _ _ (Or.inr (by decide))).trans ((u62.2 _ _ (Or.inr (by decide))).trans ((u61.2 _ _ (Or.inr (by decide))).trans hg5)))), (by unfold prm; omega), (by unfold lexV; omega)⟩⟩
        · refine te_iinc (p2 := 59) (x := 2) (y := 1) (lv2 := [(3, .int 1), (2, .int 1), (0, .ref 164), (1, .int 4)]) rfl rfl (by decide) rfl (by decide) rfl ?_
          refine te_goto rfl ?_
          refine te_aload_n (p2 := 42) rfl rfl rfl ?_
          refine tg_r (p2 := 45) (i := 148) (r := 215) rfl rfl hI rfl rfl rfl ?_
          refine te_iload_n (p2 := 46) rfl rfl rfl ?_
          refine tl_e (p2 := 47) (i := 199) (n := 6) (t := 0) (Or.inl rfl) rfl rfl hI rfl rfl (by decide) (by decide) hg1 ?_
          refine te_aload_n (p2 := 48) rfl rfl rfl ?_
          refine tg_r (p2 := 51) (i := 148) (r := 215) rfl rfl hI rfl rfl rfl ?_
          refine te_iload_n (p2 := 52) rfl rfl rfl ?_
          refine tl_e (p2 := 53) (i := 199) (n := 6) (t := 0) (Or.inl rfl) rfl rfl hI rfl rfl (by decide) (by decide) hg1 ?_
          refine tb_ge (p2 := 56) rfl rfl rfl rfl (fun c76 => ?_) (fun c76 => absurd c76 (by omega))
          refine te_aload_n (p2 := 63) rfl rfl rfl ?_
          refine tg_r (p2 := 66) (i := 148) (r := 215) rfl rfl hI rfl rfl rfl ?_
          refine te_iload_n (p2 := 67) rfl rfl rfl ?_
          refine tl_e (p2 := 68) (i := 199) (n := 6) (t := 0) (Or.inl rfl) rfl rfl hI rfl rfl (by decide) (by decide) hg1 ?_
          refine te_istore (p2 := 70) (lv2 := [(4, .int g1), (3, .int 1), (2, .int 1), (0, .ref 164), (1, .int 4)]) rfl rfl (by decide) rfl ?_
          refine te_aload_n (p2 := 71) rfl rfl rfl ?_
          refine tg_r (p2 := 74) (i := 148) (r := 215) rfl rfl hI rfl rfl rfl ?_
          refine te_iload_n (p2 := 75) rfl rfl rfl ?_
          refine te_aload_n (p2 := 76) rfl rfl rfl ?_
          refine tg_r (p2 := 79) (i := 148) (r := 215) rfl rfl hI rfl rfl rfl ?_
          refine te_iload_n (p2 := 80) rfl rfl rfl ?_
          refine tl_e (p2 := 81) (i := 199) (n := 6) (t := 0) (Or.inl rfl) rfl rfl hI rfl rfl (by decide) (by decide) hg1 ?_
          refine ts_i (p2 := 82) (i := 199) (n := 6) rfl rfl hI rfl rfl rfl rfl (by decide) (by decide) (by omega) (by omega) (by omega) rfl (fun h79 I79 u79 => ?_)
          have f79 := fr_st (F := F_X12_nextOrder_4) 0 f0 u79 rfl (by decide) (by decide)
          refine te_aload_n (p2 := 83) rfl rfl rfl ?_
          refine tg_r (p2 := 86) (i := 148) (r := 215) rfl rfl I79 rfl rfl rfl ?_
          refine te_iload_n (p2 := 87) rfl rfl rfl ?_
          refine te_iload (p2 := 89) rfl rfl rfl ?_
          refine ts_i (p2 := 90) (i := 199) (n := 6) rfl rfl I79 rfl rfl rfl rfl (by decide) (by decide) (by omega) (by omega) (by omega) rfl (fun h80 I80 u80 => ?_)
          have f80 := fr_st (F := F_X12_nextOrder_4) 0 f79 u80 rfl (by decide) (by decide)
          refine te_iload_n (p2 := 91) rfl rfl rfl ?_
          refine te_iconst (p2 := 92) (x := 1) rfl rfl (by decide) ?_
          refine te_iadd (p2 := 93) (z := 2) rfl rfl (by decide) ?_
          refine te_istore (p2 := 95) (lv2 := [(5, .int 2), (4, .int g1), (3, .int 1), (2, .int 1), (0, .ref 164), (1, .int 4)]) rfl rfl (by decide) rfl ?_
          refine te_iload_n (p2 := 96) rfl rfl rfl ?_
          refine te_iconst (p2 := 97) (x := 1) rfl rfl (by decide) ?_
          refine te_isub (p2 := 98) (z := 3) rfl rfl (by decide) ?_
          refine te_istore (p2 := 100) (lv2 := [(6, .int 3), (5, .int 2), (4, .int g1), (3, .int 1), (2, .int 1), (0, .ref 164), (1, .int 4)]) rfl rfl (by decide) rfl ?_
          refine te_iload (p2 := 102) rfl rfl rfl ?_
          refine te_iload (p2 := 104) rfl rfl rfl ?_
          refine tb_ge (p2 := 107) rfl rfl (show Int32.toInt 2 = 2 from rfl) (show Int32.toInt 3 = 3 from rfl) (fun c83 => absurd c83 (by omega)) (fun c83 => ?_)
          refine te_aload_n (p2 := 108) rfl rfl rfl ?_
          refine tg_r (p2 := 111) (i := 148) (r := 215) rfl rfl I80 rfl rfl rfl ?_
          refine te_iload (p2 := 113) rfl rfl rfl ?_
          refine tl_e (p2 := 114) (i := 199) (n := 6) (t := 0) (Or.inl rfl) rfl rfl I80 rfl rfl (by decide) (by decide) ((u80.2 _ _ (Or.inr (by decide))).trans ((u79.2 _ _ (Or.inr (by decide))).trans hg2)) ?_
          refine te_istore (p2 := 116) (lv2 := [(7, .int g2), (6, .int 3), (5, .int 2), (4, .int g1), (3, .int 1), (2, .int 1), (0, .ref 164), (1, .int 4)]) rfl rfl (by decide) rfl ?_
          refine te_aload_n (p2 := 117) rfl rfl rfl ?_
          refine tg_r (p2 := 120) (i := 148) (r := 215) rfl rfl I80 rfl rfl rfl ?_
          refine te_iload (p2 := 122) rfl rfl rfl ?_
          refine te_aload_n (p2 := 123) rfl rfl rfl ?_
          refine tg_r (p2 := 126) (i := 148) (r := 215) rfl rfl I80 rfl rfl rfl ?_
          refine te_iload (p2 := 128) rfl rfl rfl ?_
          refine tl_e (p2 := 129) (i := 199) (n := 6) (t := 0) (Or.inl rfl) rfl rfl I80 rfl rfl (by decide) (by decide) ((u80.2 _ _ (Or.inr (by decide))).trans ((u79.2 _ _ (Or.inr (by decide))).trans hg3)) ?_
          refine ts_i (p2 := 130) (i := 199) (n := 6) rfl rfl I80 rfl rfl rfl rfl (by decide) (by decide) (by omega) (by omega) (by omega) rfl (fun h86 I86 u86 => ?_)
          have f86 := fr_st (F := F_X12_nextOrder_4) 0 f80 u86 rfl (by decide) (by decide)
          refine te_aload_n (p2 := 131) rfl rfl rfl ?_
          refine tg_r (p2 := 134) (i := 148) (r := 215) rfl rfl I86 rfl rfl rfl ?_
          refine te_iload (p2 := 136) rfl rfl rfl ?_
          refine te_iload (p2 := 138) rfl rfl rfl ?_
          refine ts_i (p2 := 139) (i := 199) (n := 6) rfl rfl I86 rfl rfl rfl rfl (by decide) (by decide) (by omega) (by omega) (by omega) rfl (fun h87 I87 u87 => ?_)
          have f87 := fr_st (F := F_X12_nextOrder_4) 0 f86 u87 rfl (by decide) (by decide)
          refine te_iinc (p2 := 142) (x := 3) (y := 2) (lv2 := [(6, .int 2), (7, .int g2), (5, .int 2), (4, .int g1), (3, .int 1), (2, .int 1), (0, .ref 164), (1, .int 4)]) rfl rfl (by decide) rfl (by decide) rfl ?_
          refine te_iinc (p2 := 145) (x := 2) (y := 3) (lv2 := [(5, .int 3), (6, .int 2), (7, .int g2), (4, .int g1), (3, .int 1), (2, .int 1), (0, .ref 164), (1, .int 4)]) rfl rfl (by decide) rfl (by decide) rfl ?_
          refine te_goto rfl ?_
          refine te_iload (p2 := 102) rfl rfl rfl ?_
          refine te_iload (p2 := 104) rfl rfl rfl ?_
          refine tb_ge (p2 := 107) rfl rfl (show Int32.toInt 3 = 3 from rfl) (show Int32.toInt 2 = 2 from rfl) (fun c90 => ?_) (fun c90 => absurd c90 (by omega))
          refine te_iconst (p2 := 149) (x := 1) rfl rfl (by decide) ?_
          exact te_zret rfl rfl (by decide) ⟨I87, f87, _, rfl, Or.inr ⟨rfl, g0, g1, g3, g2, g4, g5, ((u87.2 _ _ (Or.inr (by decide))).trans ((u86.2 _ _ (Or.inr (by decide))).trans ((u80.2 _ _ (Or.inr (by decide))).trans ((u79.2 _ _ (Or.inr (by decide))).trans hg0)))), ((u87.2 _ _ (Or.inr (by decide))).trans ((u86.2 _ _ (Or.inr (by decide))).trans u80.1)), ((u87.2 _ _ (Or.inr (by decide))).trans u86.1), u87.1, ((u87.2 _ _ (Or.inr (by decide))).trans ((u86.2 _ _ (Or.inr (by decide))).trans ((u80.2 _ _ (Or.inr (by decide))).trans ((u79.2 _ _ (Or.inr (by decide))).trans hg4)))), ((u87.2 _ _ (Or.inr (by decide))).trans ((u86.2 _ _ (Or.inr (by decide))).trans ((u80.2 _ _ (Or.inr (by decide))).trans ((u79.2 _ _ (Or.inr (by decide))).trans hg5)))), (by unfold prm; omega), (by unfold lexV; omega)⟩⟩
    · refine te_iinc (p2 := 28) (x := 1) (y := 0) (lv2 := [(2, .int 0), (0, .ref 164), (1, .int 4)]) rfl rfl (by decide) rfl (by decide) rfl ?_
      refine te_goto rfl ?_
      refine te_iload_n (p2 := 5) rfl rfl rfl ?_
      refine tz_lt (p2 := 8) rfl rfl (show Int32.toInt 0 = 0 from rfl) (fun c92 => absurd c92 (by omega)) (fun c92 => ?_)
      refine te_aload_n (p2 := 9) rfl rfl rfl ?_
      refine tg_r (p2 := 12) (i := 148) (r := 215) rfl rfl hI rfl rfl rfl ?_
      refine te_iload_n (p2 := 13) rfl rfl rfl ?_
      refine tl_e (p2 := 14) (i := 199) (n := 6) (t := 0) (Or.inl rfl) rfl rfl hI rfl rfl (by decide) (by decide) hg0 ?_
      refine te_aload_n (p2 := 15) rfl rfl rfl ?_
      refine tg_r (p2 := 18) (i := 148) (r := 215) rfl rfl hI rfl rfl rfl ?_
      refine te_iload_n (p2 := 19) rfl rfl rfl ?_
      refine te_iconst (p2 := 20) (x := 1) rfl rfl (by decide) ?_
      refine te_iadd (p2 := 21) (z := 1) rfl rfl (by decide) ?_
      refine tl_e (p2 := 22) (i := 199) (n := 6) (t := 0) (Or.inl rfl) rfl rfl hI rfl rfl (by decide) (by decide) hg1 ?_
      refine tb_le (p2 := 25) rfl rfl rfl rfl (fun c96 => ?_) (fun c96 => ?_)
      · refine te_iload_n (p2 := 32) rfl rfl rfl ?_
        refine tz_ge (p2 := 35) rfl rfl (show Int32.toInt 0 = 0 from rfl) (fun c97 => ?_) (fun c97 => absurd c97 (by omega))
        refine te_iload_n (p2 := 38) rfl rfl rfl ?_
        refine te_iconst (p2 := 39) (x := 1) rfl rfl (by decide) ?_
        refine te_isub (p2 := 40) (z := 3) rfl rfl (by decide) ?_
        refine te_istore_n (p2 := 41) (lv2 := [(3, .int 3), (2, .int 0), (0, .ref 164), (1, .int 4)]) rfl rfl (by decide) rfl ?_
        refine te_aload_n (p2 := 42) rfl rfl rfl ?_
        refine tg_r (p2 := 45) (i := 148) (r := 215) rfl rfl hI rfl rfl rfl ?_
        refine te_iload_n (p2 := 46) rfl rfl rfl ?_
        refine tl_e (p2 := 47) (i := 199) (n := 6) (t := 0) (Or.inl rfl) rfl rfl hI rfl rfl (by decide) (by decide) hg3 ?_
        refine te_aload_n (p2 := 48) rfl rfl rfl ?_
        refine tg_r (p2 := 51) (i := 148) (r := 215) rfl rfl hI rfl rfl rfl ?_
        refine te_iload_n (p2 := 52) rfl rfl rfl ?_
        refine tl_e (p2 := 53) (i := 199) (n := 6) (t := 0) (Or.inl rfl) rfl rfl hI rfl rfl (by decide) (by decide) hg0 ?_
        refine tb_ge (p2 := 56) rfl rfl rfl rfl (fun c101 => ?_) (fun c101 => ?_)
        · refine te_aload_n (p2 := 63) rfl rfl rfl ?_
          refine tg_r (p2 := 66) (i := 148) (r := 215) rfl rfl hI rfl rfl rfl ?_
          refine te_iload_n (p2 := 67) rfl rfl rfl ?_
          refine tl_e (p2 := 68) (i := 199) (n := 6) (t := 0) (Or.inl rfl) rfl rfl hI rfl rfl (by decide) (by decide) hg0 ?_
          refine te_istore (p2 := 70) (lv2 := [(4, .int g0), (3, .int 3), (2, .int 0), (0, .ref 164), (1, .int 4)]) rfl rfl (by decide) rfl ?_
          refine te_aload_n (p2 := 71) rfl rfl rfl ?_
          refine tg_r (p2 := 74) (i := 148) (r := 215) rfl rfl hI rfl rfl rfl ?_
          refine te_iload_n (p2 := 75) rfl rfl rfl ?_
          refine te_aload_n (p2 := 76) rfl rfl rfl ?_
          refine tg_r (p2 := 79) (i := 148) (r := 215) rfl rfl hI rfl rfl rfl ?_
          refine te_iload_n (p2 := 80) rfl rfl rfl ?_
          refine tl_e (p2 := 81) (i := 199) (n := 6) (t := 0) (Or.inl rfl) rfl rfl hI rfl rfl (by decide) (by decide) hg3 ?_
          refine ts_i (p2 := 82) (i := 199) (n := 6) rfl rfl hI rfl rfl rfl rfl (by decide) (by decide) (by omega) (by omega) (by omega) rfl (fun h104 I104 u104 => ?_)
          have f104 := fr_st (F := F_X12_nextOrder_4) 0 f0 u104 rfl (by decide) (by decide)
          refine te_aload_n (p2 := 83) rfl rfl rfl ?_
          refine tg_r (p2 := 86) (i := 148) (r := 215) rfl rfl I104 rfl rfl rfl ?_
          refine te_iload_n (p2 := 87) rfl rfl rfl ?_
          refine te_iload (p2 := 89) rfl rfl rfl ?_
          refine ts_i (p2 := 90) (i := 199) (n := 6) rfl rfl I104 rfl rfl rfl rfl (by decide) (by decide) (by omega) (by omega) (by omega) rfl (fun h105 I105 u105 => ?_)
          have f105 := fr_st (F := F_X12_nextOrder_4) 0 f104 u105 rfl (by decide) (by decide)
          refine te_iload_n (p2 := 91) rfl rfl rfl ?_
          refine te_iconst (p2 := 92) (x := 1) rfl rfl (by decide) ?_
          refine te_iadd (p2 := 93) (z := 1) rfl rfl (by decide) ?_
          refine te_istore (p2 := 95) (lv2 := [(5, .int 1), (4, .int g0), (3, .int 3), (2, .int 0), (0, .ref 164), (1, .int 4)]) rfl rfl (by decide) rfl ?_
          refine te_iload_n (p2 := 96) rfl rfl rfl ?_
          refine te_iconst (p2 := 97) (x := 1) rfl rfl (by decide) ?_
          refine te_isub (p2 := 98) (z := 3) rfl rfl (by decide) ?_
          refine te_istore (p2 := 100) (lv2 := [(6, .int 3), (5, .int 1), (4, .int g0), (3, .int 3), (2, .int 0), (0, .ref 164), (1, .int 4)]) rfl rfl (by decide) rfl ?_
          refine te_iload (p2 := 102) rfl rfl rfl ?_
          refine te_iload (p2 := 104) rfl rfl rfl ?_
          refine tb_ge (p2 := 107) rfl rfl (show Int32.toInt 1 = 1 from rfl) (show Int32.toInt 3 = 3 from rfl) (fun c108 => absurd c108 (by omega)) (fun c108 => ?_)
          refine te_aload_n (p2 := 108) rfl rfl rfl ?_
          refine tg_r (p2 := 111) (i := 148) (r := 215) rfl rfl I105 rfl rfl rfl ?_
          refine te_iload (p2 := 113) rfl rfl rfl ?_
          refine tl_e (p2 := 114) (i := 199) (n := 6) (t := 0) (Or.inl rfl) rfl rfl I105 rfl rfl (by decide) (by decide) ((u105.2 _ _ (Or.inr (by decide))).trans ((u104.2 _ _ (Or.inr (by decide))).trans hg1)) ?_
          refine te_istore (p2 := 116) (lv2 := [(7, .int g1), (6, .int 3), (5, .int 1), (4, .int g0), (3, .int 3), (2, .int 0), (0, .ref 164), (1, .int 4)]) rfl rfl (by decide) rfl ?_
          refine te_aload_n (p2 := 117) rfl rfl rfl ?_
          refine tg_r (p2 := 120) (i := 148) (r := 215) rfl rfl I105 rfl rfl rfl ?_
          refine te_iload (p2 := 122) rfl rfl rfl ?_
          refine te_aload_n (p2 := 123) rfl rfl rfl ?_
          refine tg_r (p2 := 126) (i := 148) (r := 215) rfl rfl I105 rfl rfl rfl ?_
          refine te_iload (p2 := 128) rfl rfl rfl ?_
          refine tl_e (p2 := 129) (i := 199) (n := 6) (t := 0) (Or.inl rfl) rfl rfl I105 rfl rfl (by decide) (by decide) u105.1 ?_
          refine ts_i (p2 := 130) (i := 199) (n := 6) rfl rfl I105 rfl rfl rfl rfl (by decide) (by decide) (by omega) (by omega) (by omega) rfl (fun h111 I111 u111 => ?_)
          have f111 := fr_st (F := F_X12_nextOrder_4) 0 f105 u111 rfl (by decide) (by decide)
          refine te_aload_n (p2 := 131) rfl rfl rfl ?_
          refine tg_r (p2 := 134) (i := 148) (r := 215) rfl rfl I111 rfl rfl rfl ?_
          refine te_iload (p2 := 136) rfl rfl rfl ?_
          refine te_iload (p2 := 138) rfl rfl rfl ?_
          refine ts_i (p2 := 139) (i := 199) (n := 6) rfl rfl I111 rfl rfl rfl rfl (by decide) (by decide) (by omega) (by omega) (by omega) rfl (fun h112 I112 u112 => ?_)
          have f112 := fr_st (F := F_X12_nextOrder_4) 0 f111 u112 rfl (by decide) (by decide)
          refine te_iinc (p2 := 142) (x := 3) (y := 2) (lv2 := [(6, .int 2), (7, .int g1), (5, .int 1), (4, .int g0), (3, .int 3), (2, .int 0), (0, .ref 164), (1, .int 4)]) rfl rfl (by decide) rfl (by decide) rfl ?_
          refine te_iinc (p2 := 145) (x := 1) (y := 2) (lv2 := [(5, .int 2), (6, .int 2), (7, .int g1), (4, .int g0), (3, .int 3), (2, .int 0), (0, .ref 164), (1, .int 4)]) rfl rfl (by decide) rfl (by decide) rfl ?_
          refine te_goto rfl ?_
          refine te_iload (p2 := 102) rfl rfl rfl ?_
          refine te_iload (p2 := 104) rfl rfl rfl ?_
          refine tb_ge (p2 := 107) rfl rfl (show Int32.toInt 2 = 2 from rfl) (show Int32.toInt 2 = 2 from rfl) (fun c115 => ?_) (fun c115 => absurd c115 (by omega))
          refine te_iconst (p2 := 149) (x := 1) rfl rfl (by decide) ?_
          exact te_zret rfl rfl (by decide) ⟨I112, f112, _, rfl, Or.inr ⟨rfl, g3, g0, g2, g1, g4, g5, ((u112.2 _ _ (Or.inr (by decide))).trans ((u111.2 _ _ (Or.inr (by decide))).trans ((u105.2 _ _ (Or.inr (by decide))).trans u104.1))), ((u112.2 _ _ (Or.inr (by decide))).trans u111.1), ((u112.2 _ _ (Or.inr (by decide))).trans ((u111.2 _ _ (Or.inr (by decide))).trans ((u105.2 _ _ (Or.inr (by decide))).trans ((u104.2 _ _ (Or.inr (by decide))).trans hg2)))), u112.1, ((u112.2 _ _ (Or.inr (by decide))).trans ((u111.2 _ _ (Or.inr (by decide))).trans ((u105.2 _ _ (Or.inr (by decide))).trans ((u104.2 _ _ (Or.inr (by decide))).trans hg4)))), ((u112.2 _ _ (Or.inr (by decide))).trans ((u111.2 _ _ (Or.inr (by decide))).trans ((u105.2 _ _ (Or.inr (by decide))).trans ((u104.2 _ _ (Or.inr (by decide))).trans hg5)))), (by unfold prm; omega), (by unfold lexV; omega)⟩⟩
        · refine te_iinc (p2 := 59) (x := 3) (y := 2) (lv2 := [(3, .int 2), (2, .int 0), (0, .ref 164), (1, .int 4)]) rfl rfl (by decide) rfl (by decide) rfl ?_
          refine te_goto rfl ?_
          refine te_aload_n (p2 := 42) rfl rfl rfl ?_
          refine tg_r (p2 := 45) (i := 148) (r := 215) rfl rfl hI rfl rfl rfl ?_
          refine te_iload_n (p2 := 46) rfl rfl rfl ?_
          refine tl_e (p2 := 47) (i := 199) (n := 6) (t := 0) (Or.inl rfl) rfl rfl hI rfl rfl (by decide) (by decide) hg2 ?_
          refine te_aload_n (p2 := 48) rfl rfl rfl ?_
          refine tg_r (p2 := 51) (i := 148) (r := 215) rfl rfl hI rfl rfl rfl ?_
          refine te_iload_n (p2 := 52) rfl rfl rfl ?_
          refine tl_e (p2 := 53) (i := 199) (n := 6) (t := 0) (Or.inl rfl) rfl rfl hI rfl rfl (by decide) (by decide) hg0 ?_
          refine tb_ge (p2 := 56) rfl rfl rfl rfl (fun c119 => ?_) (fun c119 => ?_)
          · refine te_aload_n (p2 := 63) rfl rfl rfl ?_
            refine tg_r (p2 := 66) (i := 148) (r := 215) rfl rfl hI rfl rfl rfl ?_
            refine te_iload_n (p2 := 67) rfl rfl rfl ?_
            refine tl_e (p2 := 68) (i := 199) (n := 6) (t := 0) (Or.inl rfl) rfl rfl hI rfl rfl (by decide) (by decide) hg0 ?_
            refine te_istore (p2 := 70) (lv2 := [(4, .int g0), (3, .int 2), (2, .int 0), (0, .ref 164), (1, .int 4)]) rfl rfl (by decide) rfl ?_
            refine te_aload_n (p2 := 71) rfl rfl rfl ?_
            refine tg_r (p2 := 74) (i := 148) (r := 215) rfl rfl hI rfl rfl rfl ?_
            refine te_iload_n (p2 := 75) rfl rfl rfl ?_
            refine te_aload_n (p2 := 76) rfl rfl rfl ?_
            refine tg_r (p2 := 79) (i := 148) (r := 215) rfl rfl hI rfl rfl rfl ?_
            refine te_iload_n (p2 := 80) rfl rfl rfl ?_
            refine tl_e (p2 := 81) (i := 199) (n := 6) (t := 0) (Or.inl rfl) rfl rfl hI rfl rfl (by decide) (by decide) hg2 ?_
            refine ts_i (p2 := 82) (i := 199) (n := 6) rfl rfl hI rfl rfl rfl rfl (by decide) (by decide) (by omega) (by omega) (by omega) rfl (fun h122 I122 u122 => ?_)
            have f122 := fr_st (F := F_X12_nextOrder_4) 0 f0 u122 rfl (by decide) (by decide)
            refine te_aload_n (p2 := 83) rfl rfl rfl ?_
            refine tg_r (p2 := 86) (i := 148) (r := 215) rfl rfl I122 rfl rfl rfl ?_
            refine te_iload_n (p2 := 87) rfl rfl rfl ?_
            refine te_iload (p2 := 89) rfl rfl rfl ?_
            refine ts_i (p2 := 90) (i := 199) (n := 6) rfl rfl I122 rfl rfl rfl rfl (by decide) (by decide) (by omega) (by omega) (by omega) rfl (fun h123 I123 u123 => ?_)
            have f123 := fr_st (F := F_X12_nextOrder_4) 0 f122 u123 rfl (by decide) (by decide)
            refine te_iload_n (p2 := 91) rfl rfl rfl ?_
            refine te_iconst (p2 := 92) (x := 1) rfl rfl (by decide) ?_
            refine te_iadd (p2 := 93) (z := 1) rfl rfl (by decide) ?_
            refine te_istore (p2 := 95) (lv2 := [(5, .int 1), (4, .int g0), (3, .int 2), (2, .int 0), (0, .ref 164), (1, .int 4)]) rfl rfl (by decide) rfl ?_
            refine te_iload_n (p2 := 96) rfl rfl rfl ?_
            refine te_iconst (p2 := 97) (x := 1) rfl rfl (by decide) ?_
            refine te_isub (p2 := 98) (z := 3) rfl rfl (by decide) ?_
            refine te_istore (p2 := 100) (lv2 := [(6, .int 3), (5, .int 1), (4, .int g0), (3, .int 2), (2, .int 0), (0, .ref 164), (1, .int 4)]) rfl rfl (by decide) rfl ?_
            refine te_iload (p2 := 102) rfl rfl rfl ?_
            refine te_iload (p2 := 104) rfl rfl rfl ?_
            refine tb_ge (p2 := 107) rfl rfl (show Int32.toInt 1 = 1 from rfl) (show Int32.toInt 3 = 3 from rfl) (fun c126 => absurd c126 (by omega)) (fun c126 => ?_)
            refine te_aload_n (p2 := 108) rfl rfl rfl ?_
            refine tg_r (p2 := 111) (i := 148) (r := 215) rfl rfl I123 rfl rfl rfl ?_
            refine te_iload (p2 := 113) rfl rfl rfl ?_
            refine tl_e (p2 := 114) (i := 199) (n := 6) (t := 0) (Or.inl rfl) rfl rfl I123 rfl rfl (by decide) (by decide) ((u123.2 _ _ (Or.inr (by decide))).trans ((u122.2 _ _ (Or.inr (by decide))).trans hg1)) ?_
            refine te_istore (p2 := 116) (lv2 := [(7, .int g1), (6, .int 3), (5, .int 1), (4, .int g0), (3, .int 2), (2, .int 0), (0, .ref 164), (1, .int 4)]) rfl rfl (by decide) rfl ?_
            refine te_aload_n (p2 := 117) rfl rfl rfl ?_
            refine tg_r (p2 := 120) (i := 148) (r := 215) rfl rfl I123 rfl rfl rfl ?_
            refine te_iload (p2 := 122) rfl rfl rfl ?_
            refine te_aload_n (p2 := 123) rfl rfl rfl ?_
            refine tg_r (p2 := 126) (i := 148) (r := 215) rfl rfl I123 rfl rfl rfl ?_
            refine te_iload (p2 := 128) rfl rfl rfl ?_
            refine tl_e (p2 := 129) (i := 199) (n := 6) (t := 0) (Or.inl rfl) rfl rfl I123 rfl rfl (by decide) (by decide) ((u123.2 _ _ (Or.inr (by decide))).trans ((u122.2 _ _ (Or.inr (by decide))).trans hg3)) ?_
            refine ts_i (p2 := 130) (i := 199) (n := 6) rfl rfl I123 rfl rfl rfl rfl (by decide) (by decide) (by omega) (by omega) (by omega) rfl (fun h129 I129 u129 => ?_)
            have f129 := fr_st (F := F_X12_nextOrder_4) 0 f123 u129 rfl (by decide) (by decide)
            refine te_aload_n (p2 := 131) rfl rfl rfl ?_
            refine tg_r (p2 := 134) (i := 148) (r := 215) rfl rfl I129 rfl rfl rfl ?_
            refine te_iload (p2 := 136) rfl rfl rfl ?_
            refine te_iload (p2 := 138) rfl rfl rfl ?_
            refine ts_i (p2 := 139) (i := 199) (n := 6) rfl rfl I129 rfl rfl rfl rfl (by decide) (by decide) (by omega) (by omega) (by omega) rfl (fun h130 I130 u130 => ?_)
            have f130 := fr_st (F := F_X12_nextOrder_4) 0 f129 u130 rfl (by decide) (by decide)
            refine te_iinc (p2 := 142) (x := 3) (y := 2) (lv2 := [(6, .int 2), (7, .int g1), (5, .int 1), (4, .int g0), (3, .int 2), (2, .int 0), (0, .ref 164), (1, .int 4)]) rfl rfl (by decide) rfl (by decide) rfl ?_
            refine te_iinc (p2 := 145) (x := 1) (y := 2) (lv2 := [(5, .int 2), (6, .int 2), (7, .int g1), (4, .int g0), (3, .int 2), (2, .int 0), (0, .ref 164), (1, .int 4)]) rfl rfl (by decide) rfl (by decide) rfl ?_
            refine te_goto rfl ?_
            refine te_iload (p2 := 102) rfl rfl rfl ?_
            refine te_iload (p2 := 104) rfl rfl rfl ?_
            refine tb_ge (p2 := 107) rfl rfl (show Int32.toInt 2 = 2 from rfl) (show Int32.toInt 2 = 2 from rfl) (fun c133 => ?_) (fun c133 => absurd c133 (by omega))
            refine te_iconst (p2 := 149) (x := 1) rfl rfl (by decide) ?_
            exact te_zret rfl rfl (by decide) ⟨I130, f130, _, rfl, Or.inr ⟨rfl, g2, g3, g0, g1, g4, g5, ((u130.2 _ _ (Or.inr (by decide))).trans ((u129.2 _ _ (Or.inr (by decide))).trans ((u123.2 _ _ (Or.inr (by decide))).trans u122.1))), ((u130.2 _ _ (Or.inr (by decide))).trans u129.1), ((u130.2 _ _ (Or.inr (by decide))).trans ((u129.2 _ _ (Or.inr (by decide))).trans u123.1)), u130.1, ((u130.2 _ _ (Or.inr (by decide))).trans ((u129.2 _ _ (Or.inr (by decide))).trans ((u123.2 _ _ (Or.inr (by decide))).trans ((u122.2 _ _ (Or.inr (by decide))).trans hg4)))), ((u130.2 _ _ (Or.inr (by decide))).trans ((u129.2 _ _ (Or.inr (by decide))).trans ((u123.2 _ _ (Or.inr (by decide))).trans ((u122.2 _ _ (Or.inr (by decide))).trans hg5)))), (by unfold prm; omega), (by unfold lexV; omega)⟩⟩
          · refine te_iinc (p2 := 59) (x := 2) (y := 1) (lv2 := [(3, .int 1), (2, .int 0), (0, .ref 164), (1, .int 4)]) rfl rfl (by decide) rfl (by decide) rfl ?_
            refine te_goto rfl ?_
            refine te_aload_n (p2 := 42) rfl rfl rfl ?_
            refine tg_r (p2 := 45) (i := 148) (r := 215) rfl rfl hI rfl rfl rfl ?_
            refine te_iload_n (p2 := 46) rfl rfl rfl ?_
            refine tl_e (p2 := 47) (i := 199) (n := 6) (t := 0) (Or.inl rfl) rfl rfl hI rfl rfl (by decide) (by decide) hg1 ?_
            refine te_aload_n (p2 := 48) rfl rfl rfl ?_
            refine tg_r (p2 := 51) (i := 148) (r := 215) rfl rfl hI rfl rfl rfl ?_
            refine te_iload_n (p2 := 52) rfl rfl rfl ?_
            refine tl_e (p2 := 53) (i := 199) (n := 6) (t := 0) (Or.inl rfl) rfl rfl hI rfl rfl (by decide) (by decide) hg0 ?_
            refine tb_ge (p2 := 56) rfl rfl rfl rfl (fun c137 => ?_) (fun c137 => ?_)
            · refine te_aload_n (p2 := 63) rfl rfl rfl ?_
              refine tg_r (p2 := 66) (i := 148) (r := 215) rfl rfl hI rfl rfl rfl ?_
              refine te_iload_n (p2 := 67) rfl rfl rfl ?_
              refine tl_e (p2 := 68) (i := 199) (n := 6) (t := 0) (Or.inl rfl) rfl rfl hI rfl rfl (by decide) (by decide) hg0 ?_
              refine te_istore (p2 := 70) (lv2 := [(4, .int g0), (3, .int 1), (2, .int 0), (0, .ref 164), (1, .int 4)]) rfl rfl (by decide) rfl ?_
              refine te_aload_n (p2 := 71) rfl rfl rfl ?_
              refine tg_r (p2 := 74) (i := 148) (r := 215) rfl rfl hI rfl rfl rfl ?_
              refine te_iload_n (p2 := 75) rfl rfl rfl ?_
              refine te_aload_n (p2 := 76) rfl rfl rfl ?_
              refine tg_r (p2 := 79) (i := 148) (r := 215) rfl rfl hI rfl rfl rfl ?_
              refine te_iload_n (p2 := 80) rfl rfl rfl ?_
              refine tl_e (p2 := 81) (i := 199) (n := 6) (t := 0) (Or.inl rfl) rfl rfl hI rfl rfl (by decide) (by decide) hg1 ?_
              refine ts_i (p2 := 82) (i := 199) (n := 6) rfl rfl hI rfl rfl rfl rfl (by decide) (by decide) (by omega) (by omega) (by omega) rfl (fun h140 I140 u140 => ?_)
              have f140 := fr_st (F := F_X12_nextOrder_4) 0 f0 u140 rfl (by decide) (by decide)
              refine te_aload_n (p2 := 83) rfl rfl rfl ?_
              refine tg_r (p2 := 86) (i := 148) (r := 215) rfl rfl I140 rfl rfl rfl ?_
              refine te_iload_n (p2 := 87) rfl rfl rfl ?_
              refine te_iload (p2 := 89) rfl rfl rfl ?_
              refine ts_i (p2 := 90) (i := 199) (n := 6) rfl rfl I140 rfl rfl rfl rfl (by decide) (by decide) (by omega) (by omega) (by omega) rfl (fun h141 I141 u141 => ?_)
              have f141 := fr_st (F := F_X12_nextOrder_4) 0 f140 u141 rfl (by decide) (by decide)
              refine te_iload_n (p2 := 91) rfl rfl rfl ?_
              refine te_iconst (p2 := 92) (x := 1) rfl rfl (by decide) ?_
              refine te_iadd (p2 := 93) (z := 1) rfl rfl (by decide) ?_
              refine te_istore (p2 := 95) (lv2 := [(5, .int 1), (4, .int g0), (3, .int 1), (2, .int 0), (0, .ref 164), (1, .int 4)]) rfl rfl (by decide) rfl ?_
              refine te_iload_n (p2 := 96) rfl rfl rfl ?_
              refine te_iconst (p2 := 97) (x := 1) rfl rfl (by decide) ?_
              refine te_isub (p2 := 98) (z := 3) rfl rfl (by decide) ?_
              refine te_istore (p2 := 100) (lv2 := [(6, .int 3), (5, .int 1), (4, .int g0), (3, .int 1), (2, .int 0), (0, .ref 164), (1, .int 4)]) rfl rfl (by decide) rfl ?_
              refine te_iload (p2 := 102) rfl rfl rfl ?_
              refine te_iload (p2 := 104) rfl rfl rfl ?_
              refine tb_ge (p2 := 107) rfl rfl (show Int32.toInt 1 = 1 from rfl) (show Int32.toInt 3 = 3 from rfl) (fun c144 => absurd c144 (by omega)) (fun c144 => ?_)
              refine te_aload_n (p2 := 108) rfl rfl rfl ?_
              refine tg_r (p2 := 111) (i := 148) (r := 215) rfl rfl I141 rfl rfl rfl ?_
              refine te_iload (p2 := 113) rfl rfl rfl ?_
              refine tl_e (p2 := 114) (i := 199) (n := 6) (t := 0) (Or.inl rfl) rfl rfl I141 rfl rfl (by decide) (by decide) u141.1 ?_
              refine te_istore (p2 := 116) (lv2 := [(7, .int g0), (6, .int 3), (5, .int 1), (4, .int g0), (3, .int 1), (2, .int 0), (0, .ref 164), (1, .int 4)]) rfl rfl (by decide) rfl ?_
              refine te_aload_n (p2 := 117) rfl rfl rfl ?_
              refine tg_r (p2 := 120) (i := 148) (r := 215) rfl rfl I141 rfl rfl rfl ?_
              refine te_iload (p2 := 122) rfl rfl rfl ?_
              refine te_aload_n (p2 := 123) rfl rfl rfl ?_
              refine tg_r (p2 := 126) (i := 148) (r := 215) rfl rfl I141 rfl rfl rfl ?_
              refine te_iload (p2 := 128) rfl rfl rfl ?_
              refine tl_e (p2 := 129) (i := 199) (n := 6) (t := 0) (Or.inl rfl) rfl rfl I141 rfl rfl (by decide) (by decide) ((u141.2 _ _ (Or.inr (by decide))).trans ((u140.2 _ _ (Or.inr (by decide))).trans hg3)) ?_
              refine ts_i (p2 := 130) (i := 199) (n := 6) rfl rfl I141 rfl rfl rfl rfl (by decide) (by decide) (by omega) (by omega) (by omega) rfl (fun h147 I147 u147 => ?_)
              have f147 := fr_st (F := F_X12_nextOrder_4) 0 f141 u147 rfl (by decide) (by decide)
              refine te_aload_n (p2 := 131) rfl rfl rfl ?_
              refine tg_r (p2 := 134) (i := 148) (r := 215) rfl rfl I147 rfl rfl rfl ?_
              refine te_iload (p2 := 136) rfl rfl rfl ?_
              refine te_iload (p2 := 138) rfl rfl rfl ?_
              refine ts_i (p2 := 139) (i := 199) (n := 6) rfl rfl I147 rfl rfl rfl rfl (by decide) (by decide) (by omega) (by omega) (by omega) rfl (fun h148 I148 u148 => ?_)
              have f148 := fr_st (F := F_X12_nextOrder_4) 0 f147 u148 rfl (by decide) (by decide)
              refine te_iinc (p2 := 142) (x := 3) (y := 2) (lv2 := [(6, .int 2), (7, .int g0), (5, .int 1), (4, .int g0), (3, .int 1), (2, .int 0), (0, .ref 164), (1, .int 4)]) rfl rfl (by decide) rfl (by decide) rfl ?_
              refine te_iinc (p2 := 145) (x := 1) (y := 2) (lv2 := [(5, .int 2), (6, .int 2), (7, .int g0), (4, .int g0), (3, .int 1), (2, .int 0), (0, .ref 164), (1, .int 4)]) rfl rfl (by decide) rfl (by decide) rfl ?_
              refine te_goto rfl ?_
              refine te_iload (p2 := 102) rfl rfl rfl ?_
              refine te_iload (p2 := 104) rfl rfl rfl ?_
              refine tb_ge (p2 := 107) rfl rfl (show Int32.toInt 2 = 2 from rfl) (show Int32.toInt 2 = 2 from rfl) (fun c151 => ?_) (fun c151 => absurd c151 (by omega))
              refine te_iconst (p2 := 149) (x := 1) rfl rfl (by decide) ?_
              exact te_zret rfl rfl (by decide) ⟨I148, f148, _, rfl, Or.inr ⟨rfl, g1, g3, g2, g0, g4, g5, ((u148.2 _ _ (Or.inr (by decide))).trans ((u147.2 _ _ (Or.inr (by decide))).trans ((u141.2 _ _ (Or.inr (by decide))).trans u140.1))), ((u148.2 _ _ (Or.inr (by decide))).trans u147.1), ((u148.2 _ _ (Or.inr (by decide))).trans ((u147.2 _ _ (Or.inr (by decide))).trans ((u141.2 _ _ (Or.inr (by decide))).trans ((u140.2 _ _ (Or.inr (by decide))).trans hg2)))), u148.1, ((u148.2 _ _ (Or.inr (by decide))).trans ((u147.2 _ _ (Or.inr (by decide))).trans ((u141.2 _ _ (Or.inr (by decide))).trans ((u140.2 _ _ (Or.inr (by decide))).trans hg4)))), ((u148.2 _ _ (Or.inr (by decide))).trans ((u147.2 _ _ (Or.inr (by decide))).trans ((u141.2 _ _ (Or.inr (by decide))).trans ((u140.2 _ _ (Or.inr (by decide))).trans hg5)))), (by unfold prm; omega), (by unfold lexV; omega)⟩⟩
            · refine te_iinc (p2 := 59) (x := 1) (y := 0) (lv2 := [(3, .int 0), (2, .int 0), (0, .ref 164), (1, .int 4)]) rfl rfl (by decide) rfl (by decide) rfl ?_
              refine te_goto rfl ?_
              refine te_aload_n (p2 := 42) rfl rfl rfl ?_
              refine tg_r (p2 := 45) (i := 148) (r := 215) rfl rfl hI rfl rfl rfl ?_
              refine te_iload_n (p2 := 46) rfl rfl rfl ?_
              refine tl_e (p2 := 47) (i := 199) (n := 6) (t := 0) (Or.inl rfl) rfl rfl hI rfl rfl (by decide) (by decide) hg0 ?_
              refine te_aload_n (p2 := 48) rfl rfl rfl ?_
              refine tg_r (p2 := 51) (i := 148) (r := 215) rfl rfl hI rfl rfl rfl ?_
              refine te_iload_n (p2 := 52) rfl rfl rfl ?_
              refine tl_e (p2 := 53) (i := 199) (n := 6) (t := 0) (Or.inl rfl) rfl rfl hI rfl rfl (by decide) (by decide) hg0 ?_
              refine tb_ge (p2 := 56) rfl rfl rfl rfl (fun c155 => ?_) (fun c155 => absurd c155 (by omega))
              refine te_aload_n (p2 := 63) rfl rfl rfl ?_
              refine tg_r (p2 := 66) (i := 148) (r := 215) rfl rfl hI rfl rfl rfl ?_
              refine te_iload_n (p2 := 67) rfl rfl rfl ?_
              refine tl_e (p2 := 68) (i := 199) (n := 6) (t := 0) (Or.inl rfl) rfl rfl hI rfl rfl (by decide) (by decide) hg0 ?_
              refine te_istore (p2 := 70) (lv2 := [(4, .int g0), (3, .int 0), (2, .int 0), (0, .ref 164), (1, .int 4)]) rfl rfl (by decide) rfl ?_
              refine te_aload_n (p2 := 71) rfl rfl rfl ?_
              refine tg_r (p2 := 74) (i := 148) (r := 215) rfl rfl hI rfl rfl rfl ?_
              refine te_iload_n (p2 := 75) rfl rfl rfl ?_
              refine te_aload_n (p2 := 76) rfl rfl rfl ?_
              refine tg_r (p2 := 79) (i := 148) (r := 215) rfl rfl hI rfl rfl rfl ?_
              refine te_iload_n (p2 := 80) rfl rfl rfl ?_
              refine tl_e (p2 := 81) (i := 199) (n := 6) (t := 0) (Or.inl rfl) rfl rfl hI rfl rfl (by decide) (by decide) hg0 ?_
              refine ts_i (p2 := 82) (i := 199) (n := 6) rfl rfl hI rfl rfl rfl rfl (by decide) (by decide) (by omega) (by omega) (by omega) rfl (fun h158 I158 u158 => ?_)
              have f158 := fr_st (F := F_X12_nextOrder_4) 0 f0 u158 rfl (by decide) (by decide)
              refine te_aload_n (p2 := 83) rfl rfl rfl ?_
              refine tg_r (p2 := 86) (i := 148) (r := 215) rfl rfl I158 rfl rfl rfl ?_
              refine te_iload_n (p2 := 87) rfl rfl rfl ?_
              refine te_iload (p2 := 89) rfl rfl rfl ?_
              refine ts_i (p2 := 90) (i := 199) (n := 6) rfl rfl I158 rfl rfl rfl rfl (by decide) (by decide) (by omega) (by omega) (by omega) rfl (fun h159 I159 u159 => ?_)
              have f159 := fr_st (F := F_X12_nextOrder_4) 0 f158 u159 rfl (by decide) (by decide)
              refine te_iload_n (p2 := 91) rfl rfl rfl ?_
              refine te_iconst (p2 := 92) (x := 1) rfl rfl (by decide) ?_
              refine te_iadd (p2 := 93) (z := 1) rfl rfl (by decide) ?_
              refine te_istore (p2 := 95) (lv2 := [(5, .int 1), (4, .int g0), (3, .int 0), (2, .int 0), (0, .ref 164), (1, .int 4)]) rfl rfl (by decide) rfl ?_
              refine te_iload_n (p2 := 96) rfl rfl rfl ?_
              refine te_iconst (p2 := 97) (x := 1) rfl rfl (by decide) ?_
              refine te_isub (p2 := 98) (z := 3) rfl rfl (by decide) ?_
              refine te_istore (p2 := 100) (lv2 := [(6, .int 3), (5, .int 1), (4, .int g0), (3, .int 0), (2, .int 0), (0, .ref 164), (1, .int 4)]) rfl rfl (by decide) rfl ?_
              refine te_iload (p2 := 102) rfl rfl rfl ?_
              refine te_iload (p2 := 104) rfl rfl rfl ?_
              refine tb_ge (p2 := 107) rfl rfl (show Int32.toInt 1 = 1 from rfl) (show Int32.toInt 3 = 3 from rfl) (fun c162 => absurd c162 (by omega)) (fun c162 => ?_)
              refine te_aload_n (p2 := 108) rfl rfl rfl ?_
              refine tg_r (p2 := 111) (i := 148) (r := 215) rfl rfl I159 rfl rfl rfl ?_
              refine te_iload (p2 := 113) rfl rfl rfl ?_
              refine tl_e (p2 := 114) (i := 199) (n := 6) (t := 0) (Or.inl rfl) rfl rfl I159 rfl rfl (by decide) (by decide) ((u159.2 _ _ (Or.inr (by decide))).trans ((u158.2 _ _ (Or.inr (by decide))).trans hg1)) ?_
              refine te_istore (p2 := 116) (lv2 := [(7, .int g1), (6, .int 3), (5, .int 1), (4, .int g0), (3, .int 0), (2, .int 0), (0, .ref 164), (1, .int 4)]) rfl rfl (by decide) rfl ?_
              refine te_aload_n (p2 := 117) rfl rfl rfl ?_
              refine tg_r (p2 := 120) (i := 148) (r := 215) rfl rfl I159 rfl rfl rfl ?_
              refine te_iload (p2 := 122) rfl rfl rfl ?_
              refine te_aload_n (p2 := 123) rfl rfl rfl ?_
              refine tg_r (p2 := 126) (i := 148) (r := 215) rfl rfl I159 rfl rfl rfl ?_
              refine te_iload (p2 := 128) rfl rfl rfl ?_
              refine tl_e (p2 := 129) (i := 199) (n := 6) (t := 0) (Or.inl rfl) rfl rfl I159 rfl rfl (by decide) (by decide) ((u159.2 _ _ (Or.inr (by decide))).trans ((u158.2 _ _ (Or.inr (by decide))).trans hg3)) ?_
              refine ts_i (p2 := 130) (i := 199) (n := 6) rfl rfl I159 rfl rfl rfl rfl (by decide) (by decide) (by omega) (by omega) (by omega) rfl (fun h165 I165 u165 => ?_)
              have f165 := fr_st (F := F_X12_nextOrder_4) 0 f159 u165 rfl (by decide) (by decide)
              refine te_aload_n (p2 := 131) rfl rfl rfl ?_
              refine tg_r (p2 := 134) (i := 148) (r := 215) rfl rfl I165 rfl rfl rfl ?_
              refine te_iload (p2 := 136) rfl rfl rfl ?_
              refine te_iload (p2 := 138) rfl rfl rfl ?_
              refine ts_i (p2 := 139) (i := 199) (n := 6) rfl rfl I165 rfl rfl rfl rfl (by decide) (by decide) (by omega) (by omega) (by omega) rfl (fun h166 I166 u166 => ?_)
              have f166 := fr_st (F := F_X12_nextOrder_4) 0 f165 u166 rfl (by decide) (by decide)
              refine te_iinc (p2 := 142) (x := 3) (y := 2) (lv2 := [(6, .int 2), (7, .int g1), (5, .int 1), (4, .int g0), (3, .int 0), (2, .int 0), (0, .ref 164), (1, .int 4)]) rfl rfl (by decide) rfl (by decide) rfl ?_
              refine te_iinc (p2 := 145) (x := 1) (y := 2) (lv2 := [(5, .int 2), (6, .int 2), (7, .int g1), (4, .int g0), (3, .int 0), (2, .int 0), (0, .ref 164), (1, .int 4)]) rfl rfl (by decide) rfl (by decide) rfl ?_
              refine te_goto rfl ?_
              refine te_iload (p2 := 102) rfl rfl rfl ?_
              refine te_iload (p2 := 104) rfl rfl rfl ?_
              refine tb_ge (p2 := 107) rfl rfl (show Int32.toInt 2 = 2 from rfl) (show Int32.toInt 2 = 2 from rfl) (fun c169 => ?_) (fun c169 => absurd c169 (by omega))
              refine te_iconst (p2 := 149) (x := 1) rfl rfl (by decide) ?_
              exact te_zret rfl rfl (by decide) ⟨I166, f166, _, rfl, Or.inr ⟨rfl, g0, g3, g2, g1, g4, g5, ((u166.2 _ _ (Or.inr (by decide))).trans ((u165.2 _ _ (Or.inr (by decide))).trans u159.1)), ((u166.2 _ _ (Or.inr (by decide))).trans u165.1), ((u166.2 _ _ (Or.inr (by decide))).trans ((u165.2 _ _ (Or.inr (by decide))).trans ((u159.2 _ _ (Or.inr (by decide))).trans ((u158.2 _ _ (Or.inr (by decide))).trans hg2)))), u166.1, ((u166.2 _ _ (Or.inr (by decide))).trans ((u165.2 _ _ (Or.inr (by decide))).trans ((u159.2 _ _ (Or.inr (by decide))).trans ((u158.2 _ _ (Or.inr (by decide))).trans hg4)))), ((u166.2 _ _ (Or.inr (by decide))).trans ((u165.2 _ _ (Or.inr (by decide))).trans ((u159.2 _ _ (Or.inr (by decide))).trans ((u158.2 _ _ (Or.inr (by decide))).trans hg5)))), (by unfold prm; omega), (by unfold lexV; omega)⟩⟩
      · refine te_iinc (p2 := 28) (x := 0) (y := (-1)) (lv2 := [(2, .int (-1)), (0, .ref 164), (1, .int 4)]) rfl rfl (by decide) rfl (by decide) rfl ?_
        refine te_goto rfl ?_
        refine te_iload_n (p2 := 5) rfl rfl rfl ?_
        refine tz_lt (p2 := 8) rfl rfl (show Int32.toInt (-1) = (-1) from rfl) (fun c171 => ?_) (fun c171 => absurd c171 (by omega))
        refine te_iload_n (p2 := 32) rfl rfl rfl ?_
        refine tz_ge (p2 := 35) rfl rfl (show Int32.toInt (-1) = (-1) from rfl) (fun c172 => absurd c172 (by omega)) (fun c172 => ?_)
        refine te_iconst (p2 := 36) (x := 0) rfl rfl (by decide) ?_
        exact te_zret rfl rfl (by decide) ⟨hI, f0, _, rfl, Or.inl rfl⟩
abbrev F_X12_nextOrder_5 : List (Nat × Nat × Nat) := [(199, 0, 5)]
set_option maxRecDepth 20000 in
set_option maxHeartbeats 4000000 in
theorem t_X12_nextOrder_5 {g0 : Int32} {g1 : Int32} {g2 : Int32} {g3 : Int32} {g4 : Int32} {g5 : Int32} {h : im_H} (hI : tI h) (hg0 : rd h 199 (Int32.toInt 0).toNat = some (.int g0)) (ga0 : 0 ≤ g0.toInt) (gb0 : g0.toInt ≤ 5) (hg1 : rd h 199 (Int32.toInt 1).toNat = some (.int g1)) (ga1 : 0 ≤ g1.toInt) (gb1 : g1.toInt ≤ 5) (hg2 : rd h 199 (Int32.toInt 2).toNat = some (.int g2)) (ga2 : 0 ≤ g2.toInt) (gb2 : g2.toInt ≤ 5) (hg3 : rd h 199 (Int32.toInt 3).toNat = some (.int g3)) (ga3 : 0 ≤ g3.toInt) (gb3 : g3.toInt ≤ 5) (hg4 : rd h 199 (Int32.toInt 4).toNat = some (.int g4)) (ga4 : 0 ≤ g4.toInt) (gb4 : g4.toInt ≤ 5) (hg5 : rd h 199 (Int32.toInt 5).toNat = some (.int g5)) (ga5 : 0 ≤ g5.toInt) (gb5 : g5.toInt ≤ 5) (pr0 : prm 5 g0.toInt g1.toInt g2.toInt g3.toInt g4.toInt g5.toInt) : CaP 1 167 [.ref 164, .int 5] h (fun v h2 => tI h2 ∧ fr F_X12_nextOrder_5 h h2 ∧ ∃ y : Int32, v = some (.int y) ∧ (y = 0 ∨ (y = 1 ∧ ∃ k0 k1 k2 k3 k4 k5 : Int32, rd h2 199 (Int32.toInt 0).toNat = some (.int k0) ∧ rd h2 199 (Int32.toInt 1).toNat = some (.int k1) ∧ rd h2 199 (Int32.toInt 2).toNat = some (.int k2) ∧ rd h2 199 (Int32.toInt 3).toNat = some (.int k3) ∧ rd h2 199 (Int32.toInt 4).toNat = some (.int k4) ∧ rd h2 199 (Int32.toInt 5).toNat = some (.int k5) ∧ prm 5 k0.toInt k1.toInt k2.toInt k3.toInt k4.toInt k5.toInt ∧ lexV g0.toInt g1.toInt g2.toInt g3.toInt g4.toInt g5.toInt < lexV k0.toInt k1.toInt k2.toInt k3.toInt k4.toInt k5.toInt))) := by
  refine cap_of (d := 0) (M := mX12_nextOrder) rfl (Nat.le_of_ble_eq_true rfl) ?_
  show EvP im_K0 0 mX12_nextOrder (0, [(0, .ref 164), (1, .int 5)], [], h) _
  obtain ⟨q0, q1, q2, q3, q4, q5⟩ := pr0
  have q0 := q0 (by decide)
  have q1 := q1 (by decide)
  have q2 := q2 (by decide)
  have q3 := q3 (by decide)
  have q4 := q4 (by decide)
  clear q5
  have f0 : fr F_X12_nextOrder_5 h h := fr_rf
  refine te_iload_n (p2 := 1) rfl rfl rfl ?_
  refine te_iconst (p2 := 2) (x := 2) rfl rfl (by decide) ?_
  refine te_isub (p2 := 3) (z := 3) rfl rfl (by decide) ?_
  refine te_istore_n (p2 := 4) (lv2 := [(2, .int 3), (0, .ref 164), (1, .int 5)]) rfl rfl (by decide) rfl ?_
  refine te_iload_n (p2 := 5) rfl rfl rfl ?_
  refine tz_lt (p2 := 8) rfl rfl (show Int32.toInt 3 = 3 from rfl) (fun c2 => absurd c2 (by omega)) (fun c2 => ?_)
  refine te_aload_n (p2 := 9) rfl rfl rfl ?_
  refine tg_r (p2 := 12) (i := 148) (r := 215) rfl rfl hI rfl rfl rfl ?_
  refine te_iload_n (p2 := 13) rfl rfl rfl ?_
  refine tl_e (p2 := 14) (i := 199) (n := 6) (t := 0) (Or.inl rfl) rfl rfl hI rfl rfl (by decide) (by decide) hg3 ?_
  refine te_aload_n (p2 := 15) rfl rfl rfl ?_
  refine tg_r (p2 := 18) (i := 148) (r := 215) rfl rfl hI rfl rfl rfl ?_
  refine te_iload_n (p2 := 19) rfl rfl rfl ?_
  refine te_iconst (p2 := 20) (x := 1) rfl rfl (by decide) ?_
  refine te_iadd (p2 := 21) (z := 4) rfl rfl (by decide) ?_
  refine tl_e (p2 := 22) (i := 199) (n := 6) (t := 0) (Or.inl rfl) rfl rfl hI rfl rfl (by decide) (by decide) hg4 ?_
  refine tb_le (p2 := 25) rfl rfl rfl rfl (fun c6 => ?_) (fun c6 => ?_)
  · refine te_iload_n (p2 := 32) rfl rfl rfl ?_
    refine tz_ge (p2 := 35) rfl rfl (show Int32.toInt 3 = 3 from rfl) (fun c7 => ?_) (fun c7 => absurd c7 (by omega))
    refine te_iload_n (p2 := 38) rfl rfl rfl ?_
    refine te_iconst (p2 := 39) (x := 1) rfl rfl (by decide) ?_
    refine te_isub (p2 := 40) (z := 4) rfl rfl (by decide) ?_
    refine te_istore_n (p2 := 41) (lv2 := [(3, .int 4), (2, .int 3), (0, .ref 164), (1, .int 5)]) rfl rfl (by decide) rfl ?_
    refine te_aload_n (p2 := 42) rfl rfl rfl ?_
    refine tg_r (p2 := 45) (i := 148) (r := 215) rfl rfl hI rfl rfl rfl ?_
    refine te_iload_n (p2 := 46) rfl rfl rfl ?_
    refine tl_e (p2 := 47) (i := 199) (n := 6) (t := 0) (Or.inl rfl) rfl rfl hI rfl rfl (by decide) (by decide) hg4 ?_
    refine te_aload_n (p2 := 48) rfl rfl rfl ?_
    refine tg_r (p2 := 51) (i := 148) (r := 215) rfl rfl hI rfl rfl rfl ?_
    refine te_iload_n (p2 := 52) rfl rfl rfl ?_
    refine tl_e (p2 := 53) (i := 199) (n := 6) (t := 0) (Or.inl rfl) rfl rfl hI rfl rfl (by decide) (by decide) hg3 ?_
    refine tb_ge (p2 := 56) rfl rfl rfl rfl (fun c11 => ?_) (fun c11 => ?_)
    · refine te_aload_n (p2 := 63) rfl rfl rfl ?_
      refine tg_r (p2 := 66) (i := 148) (r := 215) rfl rfl hI rfl rfl rfl ?_
      refine te_iload_n (p2 := 67) rfl rfl rfl ?_
      refine tl_e (p2 := 68) (i := 199) (n := 6) (t := 0) (Or.inl rfl) rfl rfl hI rfl rfl (by decide) (by decide) hg3 ?_
      refine te_istore (p2 := 70) (lv2 := [(4, .int g3), (3, .int 4), (2, .int 3), (0, .ref 164), (1, .int 5)]) rfl rfl (by decide) rfl ?_
      refine te_aload_n (p2 := 71) rfl rfl rfl ?_
      refine tg_r (p2 := 74) (i := 148) (r := 215) rfl rfl hI rfl rfl rfl ?_
      refine te_iload_n (p2 := 75) rfl rfl rfl ?_
      refine te_aload_n (p2 := 76) rfl rfl rfl ?_
      refine tg_r (p2 := 79) (i := 148) (r := 215) rfl rfl hI rfl rfl rfl ?_
      refine te_iload_n (p2 := 80) rfl rfl rfl ?_
      refine tl_e (p2 := 81) (i := 199) (n := 6) (t := 0) (Or.inl rfl) rfl rfl hI rfl rfl (by decide) (by decide) hg4 ?_
      refine ts_i (p2 := 82) (i := 199) (n := 6) rfl rfl hI rfl rfl rfl rfl (by decide) (by decide) (by omega) (by omega) (by omega) rfl (fun h14 I14 u14 => ?_)
      have f14 := fr_st (F := F_X12_nextOrder_5) 0 f0 u14 rfl (by decide) (by decide)
      refine te_aload_n (p2 := 83) rfl rfl rfl ?_
      refine tg_r (p2 := 86) (i := 148) (r := 215) rfl rfl I14 rfl rfl rfl ?_
      refine te_iload_n (p2 := 87) rfl rfl rfl ?_
      refine te_iload (p2 := 89) rfl rfl rfl ?_
      refine ts_i (p2 := 90) (i := 199) (n := 6) rfl rfl I14 rfl rfl rfl rfl (by decide) (by decide) (by omega) (by omega) (by omega) rfl (fun h15 I15 u15 => ?_)
      have f15 := fr_st (F := F_X12_nextOrder_5) 0 f14 u15 rfl (by decide) (by decide)
      refine te_iload_n (p2 := 91) rfl rfl rfl ?_
      refine te_iconst (p2 := 92) (x := 1) rfl rfl (by decide) ?_
      refine te_iadd (p2 := 93) (z := 4) rfl rfl (by decide) ?_
      refine te_istore (p2 := 95) (lv2 := [(5, .int 4), (4, .int g3), (3, .int 4), (2, .int 3), (0, .ref 164), (1, .int 5)]) rfl rfl (by decide) rfl ?_
      refine te_iload_n (p2 := 96) rfl rfl rfl ?_
      refine te_iconst (p2 := 97) (x := 1) rfl rfl (by decide) ?_
      refine te_isub (p2 := 98) (z := 4) rfl rfl (by decide) ?_
      refine te_istore (p2 := 100) (lv2 := [(6, .int 4), (5, .int 4), (4, .int g3), (3, .int 4), (2, .int 3), (0, .ref 164), (1, .int 5)]) rfl rfl (by decide) rfl ?_
      refine te_iload (p2 := 102) rfl rfl rfl ?_
      refine te_iload (p2 := 104) rfl rfl rfl ?_
      refine tb_ge (p2 := 107) rfl rfl (show Int32.toInt 4 = 4 from rfl) (show Int32.toInt 4 = 4 from rfl) (fun c18 => ?_) (fun c18 => absurd c18 (by omega))
      refine te_iconst (p2 := 149) (x := 1) rfl rfl (by decide) ?_
      exact te_zret rfl rfl (by decide) ⟨I15, f15, _, rfl, Or.inr ⟨rfl, g0, g1, g2, g4, g3, g5, ((u15.2 _ _ (Or.inr (by decide))).trans ((u14.2 _ _ (Or.inr (by decide))).trans hg0)), ((u15.2 _ _ (Or.inr (by decide))).trans ((u14.2 _ _ (Or.inr (by decide))).trans hg1)), ((u15.2 _ _ (Or.inr (by decide))).trans ((u14.2 _ _ (Or.inr (by decide))).trans hg2)), ((u15.2 _ _ (Or.inr (by decide))).trans u14.1), u15.1, ((u15.2 _ _ (Or.inr (by decide))).trans ((u14.2 _ _ (Or.inr (by decide))).trans hg5)), (by unfold prm; omega), (by unfold lexV; omega)⟩⟩
    · refine te_iinc (p2 := 59) (x := 4) (y := 3) (lv2 := [(3, .int 3), (2, .int 3), (0, .ref 164), (1, .int 5)]) rfl rfl (by decide) rfl (by decide) rfl ?_
      refine te_goto rfl ?_
      refine te_aload_n (p2 := 42) rfl rfl rfl ?_
      refine tg_r (p2 := 45) (i := 148) (r := 215) rfl rfl hI rfl rfl rfl ?_
      refine te_iload_n (p2 := 46) rfl rfl rfl ?_
      refine tl_e (p2 := 47) (i := 199) (n := 6) (t := 0) (Or.inl rfl) rfl rfl hI rfl rfl (by decide) (by decide) hg3 ?_
      refine te_aload_n (p2 := 48) rfl rfl rfl ?_
      refine tg_r (p2 := 51) (i := 148) (r := 215) rfl rfl hI rfl rfl rfl ?_
      refine te_iload_n (p2 := 52) rfl rfl rfl ?_
      refine tl_e (p2 := 53) (i := 199) (n := 6) (t := 0) (Or.inl rfl) rfl rfl hI rfl rfl (by decide) (by decide) hg3 ?_
      refine tb_ge (p2 := 56) rfl rfl rfl rfl (fun c22 => ?_) (fun c22 => absurd c22 (by omega))
      refine te_aload_n (p2 := 63) rfl rfl rfl ?_
      refine tg_r (p2 := 66) (i := 148) (r := 215) rfl rfl hI rfl rfl rfl ?_
      refine te_iload_n (p2 := 67) rfl rfl rfl ?_
      refine tl_e (p2 := 68) (i := 199) (n := 6) (t := 0) (Or.inl rfl) rfl rfl hI rfl rfl (by decide) (by decide) hg3 ?_
      refine te_istore (p2 := 70) (lv2 := [(4, .int g3), (3, .int 3), (2, .int 3), (0, .ref 164), (1, .int 5)]) rfl rfl (by decide) rfl ?_
      refine te_aload_n (p2 := 71) rfl rfl rfl ?_
      refine tg_r (p2 := 74) (i := 148) (r := 215) rfl rfl hI rfl rfl rfl ?_
      refine te_iload_n (p2 := 75) rfl rfl rfl ?_
      refine te_aload_n (p2 := 76) rfl rfl rfl ?_
      refine tg_r (p2 := 79) (i := 148) (r := 215) rfl rfl hI rfl rfl rfl ?_
      refine te_iload_n (p2 := 80) rfl rfl rfl ?_
      refine tl_e (p2 := 81) (i := 199) (n := 6) (t := 0) (Or.inl rfl) rfl rfl hI rfl rfl (by decide) (by decide) hg3 ?_
      refine ts_i (p2 := 82) (i := 199) (n := 6) rfl rfl hI rfl rfl rfl rfl (by decide) (by decide) (by omega) (by omega) (by omega) rfl (fun h25 I25 u25 => ?_)
      have f25 := fr_st (F := F_X12_nextOrder_5) 0 f0 u25 rfl (by decide) (by decide)
      refine te_aload_n (p2 := 83) rfl rfl rfl ?_
      refine tg_r (p2 := 86) (i := 148) (r := 215) rfl rfl I25 rfl rfl rfl ?_
      refine te_iload_n (p2 := 87) rfl rfl rfl ?_
      refine te_iload (p2 := 89) rfl rfl rfl ?_
      refine ts_i (p2 := 90) (i := 199) (n := 6) rfl rfl I25 rfl rfl rfl rfl (by decide) (by decide) (by omega) (by omega) (by omega) rfl (fun h26 I26 u26 => ?_)
      have f26 := fr_st (F := F_X12_nextOrder_5) 0 f25 u26 rfl (by decide) (by decide)
      refine te_iload_n (p2 := 91) rfl rfl rfl ?_
      refine te_iconst (p2 := 92) (x := 1) rfl rfl (by decide) ?_
      refine te_iadd (p2 := 93) (z := 4) rfl rfl (by decide) ?_
      refine te_istore (p2 := 95) (lv2 := [(5, .int 4), (4, .int g3), (3, .int 3), (2, .int 3), (0, .ref 164), (1, .int 5)]) rfl rfl (by decide) rfl ?_
      refine te_iload_n (p2 := 96) rfl rfl rfl ?_
      refine te_iconst (p2 := 97) (x := 1) rfl rfl (by decide) ?_
      refine te_isub (p2 := 98) (z := 4) rfl rfl (by decide) ?_
      refine te_istore (p2 := 100) (lv2 := [(6, .int 4), (5, .int 4), (4, .int g3), (3, .int 3), (2, .int 3), (0, .ref 164), (1, .int 5)]) rfl rfl (by decide) rfl ?_
      refine te_iload (p2 := 102) rfl rfl rfl ?_
      refine te_iload (p2 := 104) rfl rfl rfl ?_
      refine tb_ge (p2 := 107) rfl rfl (show Int32.toInt 4 = 4 from rfl) (show Int32.toInt 4 = 4 from rfl) (fun c29 => ?_) (fun c29 => absurd c29 (by omega))
      refine te_iconst (p2 := 149) (x := 1) rfl rfl (by decide) ?_
      exact te_zret rfl rfl (by decide) ⟨I26, f26, _, rfl, Or.inr ⟨rfl, g0, g1, g2, g3, g4, g5, ((u26.2 _ _ (Or.inr (by decide))).trans ((u25.2 _ _ (Or.inr (by decide))).trans hg0)), ((u26.2 _ _ (Or.inr (by decide))).trans ((u25.2 _ _ (Or.inr (by decide))).trans hg1)), ((u26.2 _ _ (Or.inr (by decide))).trans ((u25.2 _ _ (Or.inr (by decide))).trans hg2)), u26.1, ((u26.2 _ _ (Or.inr (by decide))).trans ((u25.2 _ _ (Or.inr (by decide))).trans hg4)), ((u26.2 _ _ (Or.inr (by decide))).trans ((u25.2 _ _ (Or.inr (by decide))).trans hg5)), (by unfold prm; omega), (by unfold lexV; omega)⟩⟩
  · refine te_iinc (p2 := 28) (x := 3) (y := 2) (lv2 := [(2, .int 2), (0, .ref 164), (1, .int 5)]) rfl rfl (by decide) rfl (by decide) rfl ?_
    refine te_goto rfl ?_
    refine te_iload_n (p2 := 5) rfl rfl rfl ?_
    refine tz_lt (p2 := 8) rfl rfl (show Int32.toInt 2 = 2 from rfl) (fun c31 => absurd c31 (by omega)) (fun c31 => ?_)
    refine te_aload_n (p2 := 9) rfl rfl rfl ?_
    refine tg_r (p2 := 12) (i := 148) (r := 215) rfl rfl hI rfl rfl rfl ?_
    refine te_iload_n (p2 := 13) rfl rfl rfl ?_
    refine tl_e (p2 := 14) (i := 199) (n := 6) (t := 0) (Or.inl rfl) rfl rfl hI rfl rfl (by decide) (by decide) hg2 ?_
    refine te_aload_n (p2 := 15) rfl rfl rfl ?_
    refine tg_r (p2 := 18) (i := 148) (r := 215) rfl rfl hI rfl rfl rfl ?_
    refine te_iload_n (p2 := 19) rfl rfl rfl ?_
    refine te_iconst (p2 := 20) (x := 1) rfl rfl (by decide) ?_
    refine te_iadd (p2 := 21) (z := 3) rfl rfl (by decide) ?_
    refine tl_e (p2 := 22) (i := 199) (n := 6) (t := 0) (Or.inl rfl) rfl rfl hI rfl rfl (by decide) (by decide) hg3 ?_
    refine tb_le (p2 := 25) rfl rfl rfl rfl (fun c35 => ?_) (fun c35 => ?_)
    · refine te_iload_n (p2 := 32) rfl rfl rfl ?_
      refine tz_ge (p2 := 35) rfl rfl (show Int32.toInt 2 = 2 from rfl) (fun c36 => ?_) (fun c36 => absurd c36 (by omega))
      refine te_iload_n (p2 := 38) rfl rfl rfl ?_
      refine te_iconst (p2 := 39) (x := 1) rfl rfl (by decide) ?_
      refine te_isub (p2 := 40) (z := 4) rfl rfl (by decide) ?_
      refine te_istore_n (p2 := 41) (lv2 := [(3, .int 4), (2, .int 2), (0, .ref 164), (1, .int 5)]) rfl rfl (by decide) rfl ?_
      refine te_aload_n (p2 := 42) rfl rfl rfl ?_
      refine tg_r (p2 := 45) (i := 148) (r := 215) rfl rfl hI rfl rfl rfl ?_
      refine te_iload_n (p2 := 46) rfl rfl rfl ?_
      refine tl_e (p2 := 47) (i := 199) (n := 6) (t := 0) (Or.inl rfl) rfl rfl hI rfl rfl (by decide) (by decide) hg4 ?_
      refine te_aload_n (p2 := 48) rfl rfl rfl ?_
      refine tg_r (p2 := 51) (i := 148) (r := 215) rfl rfl hI rfl rfl rfl ?_
      refine te_iload_n (p2 := 52) rfl rfl rfl ?_
      refine tl_e (p2 := 53) (i := 199) (n := 6) (t := 0) (Or.inl rfl) rfl rfl hI rfl rfl (by decide) (by decide) hg2 ?_
      refine tb_ge (p2 := 56) rfl rfl rfl rfl (fun c40 => ?_) (fun c40 => ?_)
      · refine te_aload_n (p2 := 63) rfl rfl rfl ?_
        refine tg_r (p2 := 66) (i := 148) (r := 215) rfl rfl hI rfl rfl rfl ?_
        refine te_iload_n (p2 := 67) rfl rfl rfl ?_
        refine tl_e (p2 := 68) (i := 199) (n := 6) (t := 0) (Or.inl rfl) rfl rfl hI rfl rfl (by decide) (by decide) hg2 ?_
        refine te_istore (p2 := 70) (lv2 := [(4, .int g2), (3, .int 4), (2, .int 2), (0, .ref 164), (1, .int 5)]) rfl rfl (by decide) rfl ?_
        refine te_aload_n (p2 := 71) rfl rfl rfl ?_
        refine tg_r (p2 := 74) (i := 148) (r := 215) rfl rfl hI rfl rfl rfl ?_
        refine te_iload_n (p2 := 75) rfl rfl rfl ?_
        refine te_aload_n (p2 := 76) rfl rfl rfl ?_
        refine tg_r (p2 := 79) (i := 148) (r := 215) rfl rfl hI rfl rfl rfl ?_
        refine te_iload_n (p2 := 80) rfl rfl rfl ?_
        refine tl_e (p2 := 81) (i := 199) (n := 6) (t := 0) (Or.inl rfl) rfl rfl hI rfl rfl (by decide) (by decide) hg4 ?_
        refine ts_i (p2 := 82) (i := 199) (n := 6) rfl rfl hI rfl rfl rfl rfl (by decide) (by decide) (by omega) (by omega) (by omega) rfl (fun h43 I43 u43 => ?_)
        have f43 := fr_st (F := F_X12_nextOrder_5) 0 f0 u43 rfl (by decide) (by decide)
        refine te_aload_n (p2 := 83) rfl rfl rfl ?_
        refine tg_r (p2 := 86) (i := 148) (r := 215) rfl rfl I43 rfl rfl rfl ?_
        refine te_iload_n (p2 := 87) rfl rfl rfl ?_
        refine te_iload (p2 := 89) rfl rfl rfl ?_
        refine ts_i (p2 := 90) (i := 199) (n := 6) rfl rfl I43 rfl rfl rfl rfl (by decide) (by decide) (by omega) (by omega) (by omega) rfl (fun h44 I44 u44 => ?_)
        have f44 := fr_st (F := F_X12_nextOrder_5) 0 f43 u44 rfl (by decide) (by decide)
        refine te_iload_n (p2 := 91) rfl rfl rfl ?_
        refine te_iconst (p2 := 92) (x := 1) rfl rfl (by decide) ?_
        refine te_iadd (p2 := 93) (z := 3) rfl rfl (by decide) ?_
        refine te_istore (p2 := 95) (lv2 := [(5, .int 3), (4, .int g2), (3, .int 4), (2, .int 2), (0, .ref 164), (1, .int 5)]) rfl rfl (by decide) rfl ?_
        refine te_iload_n (p2 := 96) rfl rfl rfl ?_
        refine te_iconst (p2 := 97) (x := 1) rfl rfl (by decide) ?_
        refine te_isub (p2 := 98) (z := 4) rfl rfl (by decide) ?_
        refine te_istore (p2 := 100) (lv2 := [(6, .int 4), (5, .int 3), (4, .int g2), (3, .int 4), (2, .int 2), (0, .ref 164), (1, .int 5)]) rfl rfl (by decide) rfl ?_
        refine te_iload (p2 := 102) rfl rfl rfl ?_
        refine te_iload (p2 := 104) rfl rfl rfl ?_
        refine tb_ge (p2 := 107) rfl rfl (show Int32.toInt 3 = 3 from rfl) (show Int32.toInt 4 = 4 from rfl) (fun c47 => absurd c47 (by omega)) (fun c47 => ?_)
        refine te_aload_n (p2 := 108) rfl rfl rfl ?_
        refine tg_r (p2 := 111) (i := 148) (r := 215) rfl rfl I44 rfl rfl rfl ?_
        refine te_iload (p2 := 113) rfl rfl rfl ?_
        refine tl_e (p2 := 114) (i := 199) (n := 6) (t := 0) (Or.inl rfl) rfl rfl I44 rfl rfl (by decide) (by decide) ((u44.2 _ _ (Or.inr (by decide))).trans ((u43.2 _ _ (Or.inr (by decide))).trans hg3)) ?_
        refine te_istore (p2 := 116) (lv2 := [(7, .int g3), (6, .int 4), (5, .int 3), (4, .int g2), (3, .int 4), (2, .int 2), (0, .ref 164), (1, .int 5)]) rfl rfl (by decide) rfl ?_
        refine te_aload_n (p2 := 117) rfl rfl rfl ?_
        refine tg_r (p2 := 120) (i := 148) (r := 215) rfl rfl I44 rfl rfl rfl ?_
        refine te_iload (p2 := 122) rfl rfl rfl ?_
        refine te_aload_n (p2 := 123) rfl rfl rfl ?_
        refine tg_r (p2 := 126) (i := 148) (r := 215) rfl rfl I44 rfl rfl rfl ?_
        refine te_iload (p2 := 128) rfl rfl rfl ?_
        refine tl_e (p2 := 129) (i := 199) (n := 6) (t := 0) (Or.inl rfl) rfl rfl I44 rfl rfl (by decide) (by decide) u44.1 ?_
        refine ts_i (p2 := 130) (i := 199) (n := 6) rfl rfl I44 rfl rfl rfl rfl (by decide) (by decide) (by omega) (by omega) (by omega) rfl (fun h50 I50 u50 => ?_)
        have f50 := fr_st (F := F_X12_nextOrder_5) 0 f44 u50 rfl (by decide) (by decide)
        refine te_aload_n (p2 := 131) rfl rfl rfl ?_
        refine tg_r (p2 := 134) (i := 148) (r := 215) rfl rfl I50 rfl rfl rfl ?_
        refine te_iload (p2 := 136) rfl rfl rfl ?_
        refine te_iload (p2 := 138) rfl rfl rfl ?_
        refine ts_i (p2 := 139) (i := 199) (n := 6) rfl rfl I50 rfl rfl rfl rfl (by decide) (by decide) (by omega) (by omega) (by omega) rfl (fun h51 I51 u51 => ?_)
        have f51 := fr_st (F := F_X12_nextOrder_5) 0 f50 u51 rfl (by decide) (by decide)
        refine te_iinc (p2 := 142) (x := 4) (y := 3) (lv2 := [(6, .int 3), (7, .int g3), (5, .int 3), (4, .int g2), (3, .int 4), (2, .int 2), (0, .ref 164), (1, .int 5)]) rfl rfl (by decide) rfl (by decide) rfl ?_
        refine te_iinc (p2 := 145) (x := 3) (y := 4) (lv2 := [(5, .int 4), (6, .int 3), (7, .int g3), (4, .int g2), (3, .int 4), (2, .int 2), (0, .ref 164), (1, .int 5)]) rfl rfl (by decide) rfl (by decide) rfl ?_
        refine te_goto rfl ?_
        refine te_iload (p2 := 102) rfl rfl rfl ?_
        refine te_iload (p2 := 104) rfl rfl rfl ?_
        refine tb_ge (p2 := 107) rfl rfl (show Int32.toInt 4 = 4 from rfl) (show Int32.toInt 3 = 3 from rfl) (fun c54 => ?_) (fun c54 => absurd c54 (by omega))
        refine te_iconst (p2 := 149) (x := 1) rfl rfl (by decide) ?_
        exact te_zret rfl rfl (by decide) ⟨I51, f51, _, rfl, Or.inr ⟨rfl, g0, g1, g4, g2, g3, g5, ((u51.2 _ _ (Or.inr (by decide))).trans ((u50.2 _ _ (Or.inr (by decide))).trans ((u44.2 _ _ (Or.inr (by decide))).trans ((u43.2 _ _ (Or.inr (by decide))).trans hg0)))), ((u51.2 _ _ (Or.inr (by decide))).trans ((u50.2 _ _ (Or.inr (by decide))).trans ((u44.2 _ _ (Or.inr (by decide))).trans ((u43.2 _ _ (Or.inr (by decide))).trans hg1)))), ((u51.2 _ _ (Or.inr (by decide))).trans ((u50.2 _ _ (Or.inr (by decide))).trans ((u44.2 _ _ (Or.inr (by decide))).trans u43.1))), ((u51.2 _ _ (Or.inr (by decide))).trans u50.1), u51.1, ((u51.2 _ _ (Or.inr (by decide))).trans ((u50.2 _ _ (Or.inr (by decide))).trans ((u44.2 _ _ (Or.inr (by decide))).trans ((u43.2 _ _ (Or.inr (by decide))).trans hg5)))), (by unfold prm; omega), (by unfold lexV; omega)⟩⟩
      · refine te_iinc (p2 := 59) (x := 4) (y := 3) (lv2 := [(3, .int 3), (2, .int 2), (0, .ref 164), (1, .int 5)]) rfl rfl (by decide) rfl (by decide) rfl ?_
        refine te_goto rfl ?_
        refine te_aload_n (p2 := 42) rfl rfl rfl ?_
        refine tg_r (p2 := 45) (i := 148) (r := 215) rfl rfl hI rfl rfl rfl ?_
        refine te_iload_n (p2 := 46) rfl rfl rfl ?_
        refine tl_e (p2 := 47) (i := 199) (n := 6) (t := 0) (Or.inl rfl) rfl rfl hI rfl rfl (by decide) (by decide) hg3 ?_
        refine te_aload_n (p2 := 48) rfl rfl rfl ?_
        refine tg_r (p2 := 51) (i := 148) (r := 215) rfl rfl hI rfl rfl rfl ?_
        refine te_iload_n (p2 := 52) rfl rfl rfl ?_
        refine tl_e (p2 := 53) (i := 199) (n := 6) (t := 0) (Or.inl rfl) rfl rfl hI rfl rfl (by decide) (by decide) hg2 ?_
        refine tb_ge (p2 := 56) rfl rfl rfl rfl (fun c58 => ?_) (fun c58 => ?_)
        · refine te_aload_n (p2 := 63) rfl rfl rfl ?_
          refine tg_r (p2 := 66) (i := 148) (r := 215) rfl rfl hI rfl rfl rfl ?_
          refine te_iload_n (p2 := 67) rfl rfl rfl ?_
          refine tl_e (p2 := 68) (i := 199) (n := 6) (t := 0) (Or.inl rfl) rfl rfl hI rfl rfl (by decide) (by decide) hg2 ?_
          refine te_istore (p2 := 70) (lv2 := [(4, .int g2), (3, .int 3), (2, .int 2), (0, .ref 164), (1, .int 5)]) rfl rfl (by decide) rfl ?_
          refine te_aload_n (p2 := 71) rfl rfl rfl ?_
          refine tg_r (p2 := 74) (i := 148) (r := 215) rfl rfl hI rfl rfl rfl ?_
          refine te_iload_n (p2 := 75) rfl rfl rfl ?_
          refine te_aload_n (p2 := 76) rfl rfl rfl ?_
          refine tg_r (p2 := 79) (i := 148) (r := 215) rfl rfl hI rfl rfl rfl ?_
          refine te_iload_n (p2 := 80) rfl rfl rfl ?_
          refine tl_e (p2 := 81) (i := 199) (n := 6) (t := 0) (Or.inl rfl) rfl rfl hI rfl rfl (by decide) (by decide) hg3 ?_
          refine ts_i (p2 := 82) (i := 199) (n := 6) rfl rfl hI rfl rfl rfl rfl (by decide) (by decide) (by omega) (by omega) (by omega) rfl (fun h61 I61 u61 => ?_)
          have f61 := fr_st (F := F_X12_nextOrder_5) 0 f0 u61 rfl (by decide) (by decide)
          refine te_aload_n (p2 := 83) rfl rfl rfl ?_
          refine tg_r (p2 := 86) (i := 148) (r := 215) rfl rfl I61 rfl rfl rfl ?_
          refine te_iload_n (p2 := 87) rfl rfl rfl ?_
          refine te_iload (p2 := 89) rfl rfl rfl ?_
          refine ts_i (p2 := 90) (i := 199) (n := 6) rfl rfl I61 rfl rfl rfl rfl (by decide) (by decide) (by omega) (by omega) (by omega) rfl (fun h62 I62 u62 => ?_)
          have f62 := fr_st (F := F_X12_nextOrder_5) 0 f61 u62 rfl (by decide) (by decide)
          refine te_iload_n (p2 := 91) rfl rfl rfl ?_
          refine te_iconst (p2 := 92) (x := 1) rfl rfl (by decide) ?_
          refine te_iadd (p2 := 93) (z := 3) rfl rfl (by decide) ?_
          refine te_istore (p2 := 95) (lv2 := [(5, .int 3), (4, .int g2), (3, .int 3), (2, .int 2), (0, .ref 164), (1, .int 5)]) rfl rfl (by decide) rfl ?_
          refine te_iload_n (p2 := 96) rfl rfl rfl ?_
          refine te_iconst (p2 := 97) (x := 1) rfl rfl (by decide) ?_
          refine te_isub (p2 := 98) (z := 4) rfl rfl (by decide) ?_
          refine te_istore (p2 := 100) (lv2 := [(6, .int 4), (5, .int 3), (4, .int g2), (3, .int 3), (2, .int 2), (0, .ref 164), (1, .int 5)]) rfl rfl (by decide) rfl ?_
          refine te_iload (p2 := 102) rfl rfl rfl ?_
          refine te_iload (p2 := 104) rfl rfl rfl ?_
          refine tb_ge (p2 := 107) rfl rfl (show Int32.toInt 3 = 3 from rfl) (show Int32.toInt 4 = 4 from rfl) (fun c65 => absurd c65 (by omega)) (fun c65 => ?_)
          refine te_aload_n (p2 := 108) rfl rfl rfl ?_
          refine tg_r (p2 := 111) (i := 148) (r := 215) rfl rfl I62 rfl rfl rfl ?_
          refine te_iload (p2 := 113) rfl rfl rfl ?_
          refine tl_e (p2 := 114) (i := 199) (n := 6) (t := 0) (Or.inl rfl) rfl rfl I62 rfl rfl (by decide) (by decide) u62.1 ?_
          refine te_istore (p2 := 116) (lv2 := [(7, .int g2), (6, .int 4), (5, .int 3), (4, .int g2), (3, .int 3), (2, .int 2), (0, .ref 164), (1, .int 5)]) rfl rfl (by decide) rfl ?_
          refine te_aload_n (p2 := 117) rfl rfl rfl ?_
          refine tg_r (p2 := 120) (i := 148) (r := 215) rfl rfl I62 rfl rfl rfl ?_
          refine te_iload (p2 := 122) rfl rfl rfl ?_
          refine te_aload_n (p2 := 123) rfl rfl rfl ?_
          refine tg_r (p2 := 126) (i := 148) (r := 215) rfl rfl I62 rfl rfl rfl ?_
          refine te_iload (p2 := 128) rfl rfl rfl ?_
          refine tl_e (p2 := 129) (i := 199) (n := 6) (t := 0) (Or.inl rfl) rfl rfl I62 rfl rfl (by decide) (by decide) ((u62.2 _ _ (Or.inr (by decide))).trans ((u61.2 _ _ (Or.inr (by decide))).trans hg4)) ?_
          refine ts_i (p2 := 130) (i := 199) (n := 6) rfl rfl I62 rfl rfl rfl rfl (by decide) (by decide) (by omega) (by omega) (by omega) rfl (fun h68 I68 u68 => ?_)
          have f68 := fr_st (F := F_X12_nextOrder_5) 0 f62 u68 rfl (by decide) (by decide)
          refine te_aload_n (p2 := 131) rfl rfl rfl ?_
          refine tg_r (p2 := 134) (i := 148) (r := 215) rfl rfl I68 rfl rfl rfl ?_
          refine te_iload (p2 := 136) rfl rfl rfl ?_
          refine te_iload (p2 := 138) rfl rfl rfl ?_
          refine ts_i (p2 := 139) (i := 199) (n := 6) rfl rfl I68 rfl rfl rfl rfl (by decide) (by decide) (by omega) (by omega) (by omega) rfl (fun h69 I69 u69 => ?_)
          have f69 := fr_st (F := F_X12_nextOrder_5) 0 f68 u69 rfl (by decide) (by decide)
          refine te_iinc (p2 := 142) (x := 4) (y := 3) (lv2 := [(6, .int 3), (7, .int g2), (5, .int 3), (4, .int g2), (3, .int 3), (2, .int 2), (0, .ref 164), (1, .int 5)]) rfl rfl (by decide) rfl (by decide) rfl ?_
          refine te_iinc (p2 := 145) (x := 3) (y := 4) (lv2 := [(5, .int 4), (6, .int 3), (7, .int g2), (4, .int g2), (3, .int 3), (2, .int 2), (0, .ref 164), (1, .int 5)]) rfl rfl (by decide) rfl (by decide) rfl ?_
          refine te_goto rfl ?_
          refine te_iload (p2 := 102) rfl rfl rfl ?_
          refine te_iload (p2 := 104) rfl rfl rfl ?_
          refine tb_ge (p2 := 107) rfl rfl (show Int32.toInt 4 = 4 from rfl) (show Int32.toInt 3 = 3 from rfl) (fun c72 => ?_) (fun c72 => absurd c72 (by omega))
          refine te_iconst (p2 := 149) (x := 1) rfl rfl (by decide) ?_
          exact te_zret rfl rfl (by decide) ⟨I69, f69, _, rfl, Or.inr ⟨rfl, g0, g1, g3, g4, g2, g5, ((u69.2 _ _ (Or.inr (by decide))).trans ((u68.2 _ _ (Or.inr (by decide))).trans ((u62.2 _ _ (Or.inr (by decide))).trans ((u61.2 _ _ (Or.inr (by decide))).trans hg0)))), ((u69.2 _ _ (Or.inr (by decide))).trans ((u68.2 _ _ (Or.inr (by decide))).trans ((u62.2 _ _ (Or.inr (by decide))).trans ((u61.2 _ _ (Or.inr (by decide))).trans hg1)))), ((u69.2 _ _ (Or.inr (by decide))).trans ((u68.2 _ _ (Or.inr (by decide))).trans ((u62.2 _ _ (Or.inr (by decide))).trans u61.1))), ((u69.2 _ _ (Or.inr (by decide))).trans u68.1), u69.1, ((u69.2 _ _ (Or.inr (by decide))).trans ((u68.2 _ _ (Or.inr (by decide))).trans ((u62.2 _ _ (Or.inr (by decide))).trans ((u61.2 _ _ (Or.inr (by decide))).trans hg5)))), (by unfold prm; omega), (by unfold lexV; omega)⟩⟩
        · refine te_iinc (p2 := 59) (x := 3) (y := 2) (lv2 := [(3, .int 2), (2, .int 2), (0, .ref 164), (1, .int 5)]) rfl rfl (by decide) rfl (by decide) rfl ?_
          refine te_goto rfl ?_
          refine te_aload_n (p2 := 42) rfl rfl rfl ?_
          refine tg_r (p2 := 45) (i := 148) (r := 215) rfl rfl hI rfl rfl rfl ?_
          refine te_iload_n (p2 := 46) rfl rfl rfl ?_
          refine tl_e (p2 := 47) (i := 199) (n := 6) (t := 0) (Or.inl rfl) rfl rfl hI rfl rfl (by decide) (by decide) hg2 ?_
          refine te_aload_n (p2 := 48) rfl rfl rfl ?_
          refine tg_r (p2 := 51) (i := 148) (r := 215) rfl rfl hI rfl rfl rfl ?_
          refine te_iload_n (p2 := 52) rfl rfl rfl ?_
          refine tl_e (p2 := 53) (i := 199) (n := 6) (t := 0) (Or.inl rfl) rfl rfl hI rfl rfl (by decide) (by decide) hg2 ?_
          refine tb_ge (p2 := 56) rfl rfl rfl rfl (fun c76 => ?_) (fun c76 => absurd c76 (by omega))
          refine te_aload_n (p2 := 63) rfl rfl rfl ?_
          refine tg_r (p2 := 66) (i := 148) (r := 215) rfl rfl hI rfl rfl rfl ?_
          refine te_iload_n (p2 := 67) rfl rfl rfl ?_
          refine tl_e (p2 := 68) (i := 199) (n := 6) (t := 0) (Or.inl rfl) rfl rfl hI rfl rfl (by decide) (by decide) hg2 ?_
          refine te_istore (p2 := 70) (lv2 := [(4, .int g2), (3, .int 2), (2, .int 2), (0, .ref 164), (1, .int 5)]) rfl rfl (by decide) rfl ?_
          refine te_aload_n (p2 := 71) rfl rfl rfl ?_
          refine tg_r (p2 := 74) (i := 148) (r := 215) rfl rfl hI rfl rfl rfl ?_
          refine te_iload_n (p2 := 75) rfl rfl rfl ?_
          refine te_aload_n (p2 := 76) rfl rfl rfl ?_
          refine tg_r (p2 := 79) (i := 148) (r := 215) rfl rfl hI rfl rfl rfl ?_
          refine te_iload_n (p2 := 80) rfl rfl rfl ?_
          refine tl_e (p2 := 81) (i := 199) (n := 6) (t := 0) (Or.inl rfl) rfl rfl hI rfl rfl (by decide) (by decide) hg2 ?_
          refine ts_i (p2 := 82) (i := 199) (n := 6) rfl rfl hI rfl rfl rfl rfl (by decide) (by decide) (by omega) (by omega) (by omega) rfl (fun h79 I79 u79 => ?_)
          have f79 := fr_st (F := F_X12_nextOrder_5) 0 f0 u79 rfl (by decide) (by decide)
          refine te_aload_n (p2 := 83) rfl rfl rfl ?_
          refine tg_r (p2 := 86) (i := 148) (r := 215) rfl rfl I79 rfl rfl rfl ?_
          refine te_iload_n (p2 := 87) rfl rfl rfl ?_
          refine te_iload (p2 := 89) rfl rfl rfl ?_
          refine ts_i (p2 := 90) (i := 199) (n := 6) rfl rfl I79 rfl rfl rfl rfl (by decide) (by decide) (by omega) (by omega) (by omega) rfl (fun h80 I80 u80 => ?_)
          have f80 := fr_st (F := F_X12_nextOrder_5) 0 f79 u80 rfl (by decide) (by decide)
          refine te_iload_n (p2 := 91) rfl rfl rfl ?_
          refine te_iconst (p2 := 92) (x := 1) rfl rfl (by decide) ?_
          refine te_iadd (p2 := 93) (z := 3) rfl rfl (by decide) ?_
          refine te_istore (p2 := 95) (lv2 := [(5, .int 3), (4, .int g2), (3, .int 2), (2, .int 2), (0, .ref 164), (1, .int 5)]) rfl rfl (by decide) rfl ?_
          refine te_iload_n (p2 := 96) rfl rfl rfl ?_
          refine te_iconst (p2 := 97) (x := 1) rfl rfl (by decide) ?_
          refine te_isub (p2 := 98) (z := 4) rfl rfl (by decide) ?_
          refine te_istore (p2 := 100) (lv2 := [(6, .int 4), (5, .int 3), (4, .int g2), (3, .int 2), (2, .int 2), (0, .ref 164), (1, .int 5)]) rfl rfl (by decide) rfl ?_
          refine te_iload (p2 := 102) rfl rfl rfl ?_
          refine te_iload (p2 := 104) rfl rfl rfl ?_
          refine tb_ge (p2 := 107) rfl rfl (show Int32.toInt 3 = 3 from rfl) (show Int32.toInt 4 = 4 from rfl) (fun c83 => absurd c83 (by omega)) (fun c83 => ?_)
          refine te_aload_n (p2 := 108) rfl rfl rfl ?_
          refine tg_r (p2 := 111) (i := 148) (r := 215) rfl rfl I80 rfl rfl rfl ?_
          refine te_iload (p2 := 113) rfl rfl rfl ?_
          refine tl_e (p2 := 114) (i := 199) (n := 6) (t := 0) (Or.inl rfl) rfl rfl I80 rfl rfl (by decide) (by decide) ((u80.2 _ _ (Or.inr (by decide))).trans ((u79.2 _ _ (Or.inr (by decide))).trans hg3)) ?_
          refine te_istore (p2 := 116) (lv2 := [(7, .int g3), (6, .int 4), (5, .int 3), (4, .int g2), (3, .int 2), (2, .int 2), (0, .ref 164), (1, .int 5)]) rfl rfl (by decide) rfl ?_
          refine te_aload_n (p2 := 117) rfl rfl rfl ?_
          refine tg_r (p2 := 120) (i := 148) (r := 215) rfl rfl I80 rfl rfl rfl ?_
          refine te_iload (p2 := 122) rfl rfl rfl ?_
          refine te_aload_n (p2 := 123) rfl rfl rfl ?_
          refine tg_r (p2 := 126) (i := 148) (r := 215) rfl rfl I80 rfl rfl rfl ?_
          refine te_iload (p2 := 128) rfl rfl rfl ?_
          refine tl_e (p2 := 129) (i := 199) (n := 6) (t := 0) (Or.inl rfl) rfl rfl I80 rfl rfl (by decide) (by decide) ((u80.2 _ _ (Or.inr (by decide))).trans ((u79.2 _ _ (Or.inr (by decide))).trans hg4)) ?_
          refine ts_i (p2 := 130) (i := 199) (n := 6) rfl rfl I80 rfl rfl rfl rfl (by decide) (by decide) (by omega) (by omega) (by omega) rfl (fun h86 I86 u86 => ?_)
          have f86 := fr_st (F := F_X12_nextOrder_5) 0 f80 u86 rfl (by decide) (by decide)
          refine te_aload_n (p2 := 131) rfl rfl rfl ?_
          refine tg_r (p2 := 134) (i := 148) (r := 215) rfl rfl I86 rfl rfl rfl ?_
          refine te_iload (p2 := 136) rfl rfl rfl ?_
          refine te_iload (p2 := 138) rfl rfl rfl ?_
          refine ts_i (p2 := 139) (i := 199) (n := 6) rfl rfl I86 rfl rfl rfl rfl (by decide) (by decide) (by omega) (by omega) (by omega) rfl (fun h87 I87 u87 => ?_)
          have f87 := fr_st (F := F_X12_nextOrder_5) 0 f86 u87 rfl (by decide) (by decide)
          refine te_iinc (p2 := 142) (x := 4) (y := 3) (lv2 := [(6, .int 3), (7, .int g3), (5, .int 3), (4, .int g2), (3, .int 2), (2, .int 2), (0, .ref 164), (1, .int 5)]) rfl rfl (by decide) rfl (by decide) rfl ?_
          refine te_iinc (p2 := 145) (x := 3) (y := 4) (lv2 := [(5, .int 4), (6, .int 3), (7, .int g3), (4, .int g2), (3, .int 2), (2, .int 2), (0, .ref 164), (1, .int 5)]) rfl rfl (by decide) rfl (by decide) rfl ?_
          refine te_goto rfl ?_
          refine te_iload (p2 := 102) rfl rfl rfl ?_
          refine te_iload (p2 := 104) rfl rfl rfl ?_
          refine tb_ge (p2 := 107) rfl rfl (show Int32.toInt 4 = 4 from rfl) (show Int32.toInt 3 = 3 from rfl) (fun c90 => ?_) (fun c90 => absurd c90 (by omega))
          refine te_iconst (p2 := 149) (x := 1) rfl rfl (by decide) ?_
          exact te_zret rfl rfl (by decide) ⟨I87, f87, _, rfl, Or.inr ⟨rfl, g0, g1, g2, g4, g3, g5, ((u87.2 _ _ (Or.inr (by decide))).trans ((u86.2 _ _ (Or.inr (by decide))).trans ((u80.2 _ _ (Or.inr (by decide))).trans ((u79.2 _ _ (Or.inr (by decide))).trans hg0)))), ((u87.2 _ _ (Or.inr (by decide))).trans ((u86.2 _ _ (Or.inr (by decide))).trans ((u80.2 _ _ (Or.inr (by decide))).trans ((u79.2 _ _ (Or.inr (by decide))).trans hg1)))), ((u87.2 _ _ (Or.inr (by decide))).trans ((u86.2 _ _ (Or.inr (by decide))).trans u80.1)), ((u87.2 _ _ (Or.inr (by decide))).trans u86.1), u87.1, ((u87.2 _ _ (Or.inr (by decide))).trans ((u86.2 _ _ (Or.inr (by decide))).trans ((u80.2 _ _ (Or.inr (by decide))).trans ((u79.2 _ _ (Or.inr (by decide))).trans hg5)))), (by unfold prm; omega), (by unfold lexV; omega)⟩⟩
    · refine te_iinc (p2 := 28) (x := 2) (y := 1) (lv2 := [(2, .int 1), (0, .ref 164), (1, .int 5)]) rfl rfl (by decide) rfl (by decide) rfl ?_
      refine te_goto rfl ?_
      refine te_iload_n (p2 := 5) rfl rfl rfl ?_
      refine tz_lt (p2 := 8) rfl rfl (show Int32.toInt 1 = 1 from rfl) (fun c92 => absurd c92 (by omega)) (fun c92 => ?_)
      refine te_aload_n (p2 := 9) rfl rfl rfl ?_
      refine tg_r (p2 := 12) (i := 148) (r := 215) rfl rfl hI rfl rfl rfl ?_
      refine te_iload_n (p2 := 13) rfl rfl rfl ?_
      refine tl_e (p2 := 14) (i := 199) (n := 6) (t := 0) (Or.inl rfl) rfl rfl hI rfl rfl (by decide) (by decide) hg1 ?_
      refine te_aload_n (p2 := 15) rfl rfl rfl ?_
      refine tg_r (p2 := 18) (i := 148) (r := 215) rfl rfl hI rfl rfl rfl ?_
      refine te_iload_n (p2 := 19) rfl rfl rfl ?_
      refine te_iconst (p2 := 20) (x := 1) rfl rfl (by decide) ?_
      refine te_iadd (p2 := 21) (z := 2) rfl rfl (by decide) ?_
      refine tl_e (p2 := 22) (i := 199) (n := 6) (t := 0) (Or.inl rfl) rfl rfl hI rfl rfl (by decide) (by decide) hg2 ?_
      refine tb_le (p2 := 25) rfl rfl rfl rfl (fun c96 => ?_) (fun c96 => ?_)
      · refine te_iload_n (p2 := 32) rfl rfl rfl ?_
        refine tz_ge (p2 := 35) rfl rfl (show Int32.toInt 1 = 1 from rfl) (fun c97 => ?_) (fun c97 => absurd c97 (by omega))
        refine te_iload_n (p2 := 38) rfl rfl rfl ?_
        refine te_iconst (p2 := 39) (x := 1) rfl rfl (by decide) ?_
        refine te_isub (p2 := 40) (z := 4) rfl rfl (by decide) ?_
        refine te_istore_n (p2 := 41) (lv2 := [(3, .int 4), (2, .int 1), (0, .ref 164), (1, .int 5)]) rfl rfl (by decide) rfl ?_
        refine te_aload_n (p2 := 42) rfl rfl rfl ?_
        refine tg_r (p2 := 45) (i := 148) (r := 215) rfl rfl hI rfl rfl rfl ?_
        refine te_iload_n (p2 := 46) rfl rfl rfl ?_
        refine tl_e (p2 := 47) (i := 199) (n := 6) (t := 0) (Or.inl rfl) rfl rfl hI rfl rfl (by decide) (by decide) hg4 ?_
        refine te_aload_n (p2 := 48) rfl rfl rfl ?_
        refine tg_r (p2 := 51) (i := 148) (r := 215) rfl rfl hI rfl rfl rfl ?_
        refine te_iload_n (p2 := 52) rfl rfl rfl ?_
        refine tl_e (p2 := 53) (i := 199) (n := 6) (t := 0) (Or.inl rfl) rfl rfl hI rfl rfl (by decide) (by decide) hg1 ?_
        refine tb_ge (p2 := 56) rfl rfl rfl rfl (fun c101 => ?_) (fun c101 => ?_)
        · refine te_aload_n (p2 := 63) rfl rfl rfl ?_
          refine tg_r (p2 := 66) (i := 148) (r := 215) rfl rfl hI rfl rfl rfl ?_
          refine te_iload_n (p2 := 67) rfl rfl rfl ?_
          refine tl_e (p2 := 68) (i := 199) (n := 6) (t := 0) (Or.inl rfl) rfl rfl hI rfl rfl (by decide) (by decide) hg1 ?_
          refine te_istore (p2 := 70) (lv2 := [(4, .int g1), (3, .int 4), (2, .int 1), (0, .ref 164), (1, .int 5)]) rfl rfl (by decide) rfl ?_
          refine te_aload_n (p2 := 71) rfl rfl rfl ?_
          refine tg_r (p2 := 74) (i := 148) (r := 215) rfl rfl hI rfl rfl rfl ?_
          refine te_iload_n (p2 := 75) rfl rfl rfl ?_
          refine te_aload_n (p2 := 76) rfl rfl rfl ?_
          refine tg_r (p2 := 79) (i := 148) (r := 215) rfl rfl hI rfl rfl rfl ?_
          refine te_iload_n (p2 := 80) rfl rfl rfl ?_
          refine tl_e (p2 := 81) (i := 199) (n := 6) (t := 0) (Or.inl rfl) rfl rfl hI rfl rfl (by decide) (by decide) hg4 ?_
          refine ts_i (p2 := 82) (i := 199) (n := 6) rfl rfl hI rfl rfl rfl rfl (by decide) (by decide) (by omega) (by omega) (by omega) rfl (fun h104 I104 u104 => ?_)
          have f104 := fr_st (F := F_X12_nextOrder_5) 0 f0 u104 rfl (by decide) (by decide)
          refine te_aload_n (p2 := 83) rfl rfl rfl ?_
          refine tg_r (p2 := 86) (i := 148) (r := 215) rfl rfl I104 rfl rfl rfl ?_
          refine te_iload_n (p2 := 87) rfl rfl rfl ?_
          refine te_iload (p2 := 89) rfl rfl rfl ?_
          refine ts_i (p2 := 90) (i := 199) (n := 6) rfl rfl I104 rfl rfl rfl rfl (by decide) (by decide) (by omega) (by omega) (by omega) rfl (fun h105 I105 u105 => ?_)
          have f105 := fr_st (F := F_X12_nextOrder_5) 0 f104 u105 rfl (by decide) (by decide)
          refine te_iload_n (p2 := 91) rfl rfl rfl ?_
          refine te_iconst (p2 := 92) (x := 1) rfl rfl (by decide) ?_
          refine te_iadd (p2 := 93) (z := 2) rfl rfl (by decide) ?_
          refine te_istore (p2 := 95) (lv2 := [(5, .int 2), (4, .int g1), (3, .int 4), (2, .int 1), (0, .ref 164), (1, .int 5)]) rfl rfl (by decide) rfl ?_
          refine te_iload_n (p2 := 96) rfl rfl rfl ?_
          refine te_iconst (p2 := 97) (x := 1) rfl rfl (by decide) ?_
          refine te_isub (p2 := 98) (z := 4) rfl rfl (by decide) ?_
          refine te_istore (p2 := 100) (lv2 := [(6, .int 4), (5, .int 2), (4, .int g1), (3, .int 4), (2, .int 1), (0, .ref 164), (1, .int 5)]) rfl rfl (by decide) rfl ?_
          refine te_iload (p2 := 102) rfl rfl rfl ?_
          refine te_iload (p2 := 104) rfl rfl rfl ?_
          refine tb_ge (p2 := 107) rfl rfl (show Int32.toInt 2 = 2 from rfl) (show Int32.toInt 4 = 4 from rfl) (fun c108 => absurd c108 (by omega)) (fun c108 => ?_)
          refine te_aload_n (p2 := 108) rfl rfl rfl ?_
          refine tg_r (p2 := 111) (i := 148) (r := 215) rfl rfl I105 rfl rfl rfl ?_
          refine te_iload (p2 := 113) rfl rfl rfl ?_
          refine tl_e (p2 := 114) (i := 199) (n := 6) (t := 0) (Or.inl rfl) rfl rfl I105 rfl rfl (by decide) (by decide) ((u105.2 _ _ (Or.inr (by decide))).trans ((u104.2 _ _ (Or.inr (by decide))).trans hg2)) ?_
          refine te_istore (p2 := 116) (lv2 := [(7, .int g2), (6, .int 4), (5, .int 2), (4, .int g1), (3, .int 4), (2, .int 1), (0, .ref 164), (1, .int 5)]) rfl rfl (by decide) rfl ?_
          refine te_aload_n (p2 := 117) rfl rfl rfl ?_
          refine tg_r (p2 := 120) (i := 148) (r := 215) rfl rfl I105 rfl rfl rfl ?_
          refine te_iload (p2 := 122) rfl rfl rfl ?_
          refine te_aload_n (p2 := 123) rfl rfl rfl ?_
          refine tg_r (p2 := 126) (i := 148) (r := 215) rfl rfl I105 rfl rfl rfl ?_
          refine te_iload (p2 := 128) rfl rfl rfl ?_
          refine tl_e (p2 := 129) (i := 199) (n := 6) (t := 0) (Or.inl rfl) rfl rfl I105 rfl rfl (by decide) (by decide) u105.1 ?_
          refine ts_i (p2 := 130) (i := 199) (n := 6) rfl rfl I105 rfl rfl rfl rfl (by decide) (by decide) (by omega) (by omega) (by omega) rfl (fun h111 I111 u111 => ?_)
          have f111 := fr_st (F := F_X12_nextOrder_5) 0 f105 u111 rfl (by decide) (by decide)
          refine te_aload_n (p2 := 131) rfl rfl rfl ?_
          refine tg_r (p2 := 134) (i := 148) (r := 215) rfl rfl I111 rfl rfl rfl ?_
          refine te_iload (p2 := 136) rfl rfl rfl ?_
          refine te_iload (p2 := 138) rfl rfl rfl ?_
          refine ts_i (p2 := 139) (i := 199) (n := 6) rfl rfl I111 rfl rfl rfl rfl (by decide) (by decide) (by omega) (by omega) (by omega) rfl (fun h112 I112 u112 => ?_)
          have f112 := fr_st (F := F_X12_nextOrder_5) 0 f111 u112 rfl (by decide) (by decide)
          refine te_iinc (p2 := 142) (x := 4) (y := 3) (lv2 := [(6, .int 3), (7, .int g2), (5, .int 2), (4, .int g1), (3, .int 4), (2, .int 1), (0, .ref 164), (1, .int 5)]) rfl rfl (by decide) rfl (by decide) rfl ?_
          refine te_iinc (p2 := 145) (x := 2) (y := 3) (lv2 := [(5, .int 3), (6, .int 3), (7, .int g2), (4, .int g1), (3, .int 4), (2, .int 1), (0, .ref 164), (1, .int 5)]) rfl rfl (by decide) rfl (by decide) rfl ?_
          refine te_goto rfl ?_
          refine te_iload (p2 := 102) rfl rfl rfl ?_
          refine te_iload (p2 := 104) rfl rfl rfl ?_
          refine tb_ge (p2 := 107) rfl rfl (show Int32.toInt 3 = 3 from rfl) (show Int32.toInt 3 = 3 from rfl) (fun c115 => ?_) (fun c115 => absurd c115 (by omega))
          refine te_iconst (p2 := 149) (x := 1) rfl rfl (by decide) ?_
          exact te_zret rfl rfl (by decide) ⟨I112, f112, _, rfl, Or.inr ⟨rfl, g0, g4, g1, g3, g2, g5, ((u112.2 _ _ (Or.inr (by decide))).trans ((u111.2 _ _ (Or.inr (by decide))).trans ((u105.2 _ _ (Or.inr (by decide))).trans ((u104.2 _ _ (Or.inr (by decide))).trans hg0)))), ((u112.2 _ _ (Or.inr (by decide))).trans ((u111.2 _ _ (Or.inr (by decide))).trans ((u105.2 _ _ (Or.inr (by decide))).trans u104.1))), ((u112.2 _ _ (Or.inr (by decide))).trans u111.1), ((u112.2 _ _ (Or.inr (by decide))).trans ((u111.2 _ _ (Or.inr (by decide))).trans ((u105.2 _ _ (Or.inr (by decide))).trans ((u104.2 _ _ (Or.inr (by decide))).trans hg3)))), u112.1, ((u112.2 _ _ (Or.inr (by decide))).trans ((u111.2 _ _ (Or.inr (by decide))).trans ((u105.2 _ _ (Or.inr (by decide))).trans ((u104.2 _ _ (Or.inr (by decide))).trans hg5)))), (by unfold prm; omega), (by unfold lexV; omega)⟩⟩
        · refine te_iinc (p2 := 59) (x := 4) (y := 3) (lv2 := [(3, .int 3), (2, .int 1), (0, .ref 164), (1, .int 5)]) rfl rfl (by decide) rfl (by decide) rfl ?_
          refine te_goto rfl ?_
          refine te_aload_n (p2 := 42) rfl rfl rfl ?_
          refine tg_r (p2 := 45) (i := 148) (r := 215) rfl rfl hI rfl rfl rfl ?_
          refine te_iload_n (p2 := 46) rfl rfl rfl ?_
          refine tl_e (p2 := 47) (i := 199) (n := 6) (t := 0) (Or.inl rfl) rfl rfl hI rfl rfl (by decide) (by decide) hg3 ?_
          refine te_aload_n (p2 := 48) rfl rfl rfl ?_
          refine tg_r (p2 := 51) (i := 148) (r := 215) rfl rfl hI rfl rfl rfl ?_
          refine te_iload_n (p2 := 52) rfl rfl rfl ?_
          refine tl_e (p2 := 53) (i := 199) (n := 6) (t := 0) (Or.inl rfl) rfl rfl hI rfl rfl (by decide) (by decide) hg1 ?_
          refine tb_ge (p2 := 56) rfl rfl rfl rfl (fun c119 => ?_) (fun c119 => ?_)
          · refine te_aload_n (p2 := 63) rfl rfl rfl ?_
            refine tg_r (p2 := 66) (i := 148) (r := 215) rfl rfl hI rfl rfl rfl ?_
            refine te_iload_n (p2 := 67) rfl rfl rfl ?_
            refine tl_e (p2 := 68) (i := 199) (n := 6) (t := 0) (Or.inl rfl) rfl rfl hI rfl rfl (by decide) (by decide) hg1 ?_
            refine te_istore (p2 := 70) (lv2 := [(4, .int g1), (3, .int 3), (2, .int 1), (0, .ref 164), (1, .int 5)]) rfl rfl (by decide) rfl ?_
            refine te_aload_n (p2 := 71) rfl rfl rfl ?_
            refine tg_r (p2 := 74) (i := 148) (r := 215) rfl rfl hI rfl rfl rfl ?_
            refine te_iload_n (p2 := 75) rfl rfl rfl ?_
            refine te_aload_n (p2 := 76) rfl rfl rfl ?_
            refine tg_r (p2 := 79) (i := 148) (r := 215) rfl rfl hI rfl rfl rfl ?_
            refine te_iload_n (p2 := 80) rfl rfl rfl ?_
            refine tl_e (p2 := 81) (i := 199) (n := 6) (t := 0) (Or.inl rfl) rfl rfl hI rfl rfl (by decide) (by decide) hg3 ?_
            refine ts_i (p2 := 82) (i := 199) (n := 6) rfl rfl hI rfl rfl rfl rfl (by decide) (by decide) (by omega) (by omega) (by omega) rfl (fun h122 I122 u122 => ?_)
            have f122 := fr_st (F := F_X12_nextOrder_5) 0 f0 u122 rfl (by decide) (by decide)
            refine te_aload_n (p2 := 83) rfl rfl rfl ?_
            refine tg_r (p2 := 86) (i := 148) (r := 215) rfl rfl I122 rfl rfl rfl ?_
            refine te_iload_n (p2 := 87) rfl rfl rfl ?_
            refine te_iload (p2 := 89) rfl rfl rfl ?_
            refine ts_i (p2 := 90) (i := 199) (n := 6) rfl rfl I122 rfl rfl rfl rfl (by decide) (by decide) (by omega) (by omega) (by omega) rfl (fun h123 I123 u123 => ?_)
            have f123 := fr_st (F := F_X12_nextOrder_5) 0 f122 u123 rfl (by decide) (by decide)
            refine te_iload_n (p2 := 91) rfl rfl rfl ?_
            refine te_iconst (p2 := 92) (x := 1) rfl rfl (by decide) ?_
            refine te_iadd (p2 := 93) (z := 2) rfl rfl (by decide) ?_
            refine te_istore (p2 := 95) (lv2 := [(5, .int 2), (4, .int g1), (3, .int 3), (2, .int 1), (0, .ref 164), (1, .int 5)]) rfl rfl (by decide) rfl ?_
            refine te_iload_n (p2 := 96) rfl rfl rfl ?_
            refine te_iconst (p2 := 97) (x := 1) rfl rfl (by decide) ?_
            refine te_isub (p2 := 98) (z := 4) rfl rfl (by decide) ?_
            refine te_istore (p2 := 100) (lv2 := [(6, .int 4), (5, .int 2), (4, .int g1), (3, .int 3), (2, .int 1), (0, .ref 164), (1, .int 5)]) rfl rfl (by decide) rfl ?_
            refine te_iload (p2 := 102) rfl rfl rfl ?_
            refine te_iload (p2 := 104) rfl rfl rfl ?_
            refine tb_ge (p2 := 107) rfl rfl (show Int32.toInt 2 = 2 from rfl) (show Int32.toInt 4 = 4 from rfl) (fun c126 => absurd c126 (by omega)) (fun c126 => ?_)
            refine te_aload_n (p2 := 108) rfl rfl rfl ?_
            refine tg_r (p2 := 111) (i := 148) (r := 215) rfl rfl I123 rfl rfl rfl ?_
            refine te_iload (p2 := 113) rfl rfl rfl ?_
            refine tl_e (p2 := 114) (i := 199) (n := 6) (t := 0) (Or.inl rfl) rfl rfl I123 rfl rfl (by decide) (by decide) ((u123.2 _ _ (Or.inr (by decide))).trans ((u122.2 _ _ (Or.inr (by decide))).trans hg2)) ?_
            refine te_istore (p2 := 116) (lv2 := [(7, .int g2), (6, .int 4), (5, .int 2), (4, .int g1), (3, .int 3), (2, .int 1), (0, .ref 164), (1, .int 5)]) rfl rfl (by decide) rfl ?_
            refine te_aload_n (p2 := 117) rfl rfl rfl ?_
            refine tg_r (p2 := 120) (i := 148) (r := 215) rfl rfl I123 rfl rfl rfl ?_
            refine te_iload (p2 := 122) rfl rfl rfl ?_
            refine te_aload_n (p2 := 123) rfl rfl rfl ?_
            refine tg_r (p2 := 126) (i := 148) (r := 215) rfl rfl I123 rfl rfl rfl ?_
            refine te_iload (p2 := 128) rfl rfl rfl ?_
            refine tl_e (p2 := 129) (i := 199) (n := 6) (t := 0) (Or.inl rfl) rfl rfl I123 rfl rfl (by decide) (by decide) ((u123.2 _ _ (Or.inr (by decide))).trans ((u122.2 _ _ (Or.inr (by decide))).trans hg4)) ?_
            refine ts_i (p2 := 130) (i := 199) (n := 6) rfl rfl I123 rfl rfl rfl rfl (by decide) (by decide) (by omega) (by omega) (by omega) rfl (fun h129 I129 u129 => ?_)
            have f129 := fr_st (F := F_X12_nextOrder_5) 0 f123 u129 rfl (by decide) (by decide)
            refine te_aload_n (p2 := 131) rfl rfl rfl ?_
            refine tg_r (p2 := 134) (i := 148) (r := 215) rfl rfl I129 rfl rfl rfl ?_
            refine te_iload (p2 := 136) rfl rfl rfl ?_
            refine te_iload (p2 := 138) rfl rfl rfl ?_
            refine ts_i (p2 := 139) (i := 199) (n := 6) rfl rfl I129 rfl rfl rfl rfl (by decide) (by decide) (by omega) (by omega) (by omega) rfl (fun h130 I130 u130 => ?_)
            have f130 := fr_st (F := F_X12_nextOrder_5) 0 f129 u130 rfl (by decide) (by decide)
            refine te_iinc (p2 := 142) (x := 4) (y := 3) (lv2 := [(6, .int 3), (7, .int g2), (5, .int 2), (4, .int g1), (3, .int 3), (2, .int 1), (0, .ref 164), (1, .int 5)]) rfl rfl (by decide) rfl (by decide) rfl ?_
            refine te_iinc (p2 := 145) (x := 2) (y := 3) (lv2 := [(5, .int 3), (6, .int 3), (7, .int g2), (4, .int g1), (3, .int 3), (2, .int 1), (0, .ref 164), (1, .int 5)]) rfl rfl (by decide) rfl (by decide) rfl ?_
            refine te_goto rfl ?_
            refine te_iload (p2 := 102) rfl rfl rfl ?_
            refine te_iload (p2 := 104) rfl rfl rfl ?_
            refine tb_ge (p2 := 107) rfl rfl (show Int32.toInt 3 = 3 from rfl) (show Int32.toInt 3 = 3 from rfl) (fun c133 => ?_) (fun c133 => absurd c133 (by omega))
            refine te_iconst (p2 := 149) (x := 1) rfl rfl (by decide) ?_
            exact te_zret rfl rfl (by decide) ⟨I130, f130, _, rfl, Or.inr ⟨rfl, g0, g3, g4, g1, g2, g5, ((u130.2 _ _ (Or.inr (by decide))).trans ((u129.2 _ _ (Or.inr (by decide))).trans ((u123.2 _ _ (Or.inr (by decide))).trans ((u122.2 _ _ (Or.inr (by decide))).trans hg0)))), ((u130.2 _ _ (Or.inr (by decide))).trans ((u129.2 _ _ (Or.inr (by decide))).trans ((u123.2 _ _ (Or.inr (by decide))).trans u122.1))), ((u130.2 _ _ (Or.inr (by decide))).trans u129.1), ((u130.2 _ _ (Or.inr (by decide))).trans ((u129.2 _ _ (Or.inr (by decide))).trans u123.1)), u130.1, ((u130.2 _ _ (Or.inr (by decide))).trans ((u129.2 _ _ (Or.inr (by decide))).trans ((u123.2 _ _ (Or.inr (by decide))).trans ((u122.2 _ _ (Or.inr (by decide))).trans hg5)))), (by unfold prm; omega), (by unfold lexV; omega)⟩⟩
          · refine te_iinc (p2 := 59) (x := 3) (y := 2) (lv2 := [(3, .int 2), (2, .int 1), (0, .ref 164), (1, .int 5)]) rfl rfl (by decide) rfl (by decide) rfl ?_
            refine te_goto rfl ?_
            refine te_aload_n (p2 := 42) rfl rfl rfl ?_
            refine tg_r (p2 := 45) (i := 148) (r := 215) rfl rfl hI rfl rfl rfl ?_
            refine te_iload_n (p2 := 46) rfl rfl rfl ?_
            refine tl_e (p2 := 47) (i := 199) (n := 6) (t := 0) (Or.inl rfl) rfl rfl hI rfl rfl (by decide) (by decide) hg2 ?_
            refine te_aload_n (p2 := 48) rfl rfl rfl ?_
            refine tg_r (p2 := 51) (i := 148) (r := 215) rfl rfl hI rfl rfl rfl ?_
            refine te_iload_n (p2 := 52) rfl rfl rfl ?_
            refine tl_e (p2 := 53) (i := 199) (n := 6) (t := 0) (Or.inl rfl) rfl rfl hI rfl rfl (by decide) (by decide) hg1 ?_
            refine tb_ge (p2 := 56) rfl rfl rfl rfl (fun c137 => ?_) (fun c137 => ?_)
            · refine te_aload_n (p2 := 63) rfl rfl rfl ?_
              refine tg_r (p2 := 66) (i := 148) (r := 215) rfl rfl hI rfl rfl rfl ?_
              refine te_iload_n (p2 := 67) rfl rfl rfl ?_
              refine tl_e (p2 := 68) (i := 199) (n := 6) (t := 0) (Or.inl rfl) rfl rfl hI rfl rfl (by decide) (by decide) hg1 ?_
              refine te_istore (p2 := 70) (lv2 := [(4, .int g1), (3, .int 2), (2, .int 1), (0, .ref 164), (1, .int 5)]) rfl rfl (by decide) rfl ?_
              refine te_aload_n (p2 := 71) rfl rfl rfl ?_
              refine tg_r (p2 := 74) (i := 148) (r := 215) rfl rfl hI rfl rfl rfl ?_
              refine te_iload_n (p2 := 75) rfl rfl rfl ?_
              refine te_aload_n (p2 := 76) rfl rfl rfl ?_
              refine tg_r (p2 := 79) (i := 148) (r := 215) rfl rfl hI rfl rfl rfl ?_
              refine te_iload_n (p2 := 80) rfl rfl rfl ?_
              refine tl_e (p2 := 81) (i := 199) (n := 6) (t := 0) (Or.inl rfl) rfl rfl hI rfl rfl (by decide) (by decide) hg2 ?_
              refine ts_i (p2 := 82) (i := 199) (n := 6) rfl rfl hI rfl rfl rfl rfl (by decide) (by decide) (by omega) (by omega) (by omega) rfl (fun h140 I140 u140 => ?_)
              have f140 := fr_st (F := F_X12_nextOrder_5) 0 f0 u140 rfl (by decide) (by decide)
              refine te_aload_n (p2 := 83) rfl rfl rfl ?_
              refine tg_r (p2 := 86) (i := 148) (r := 215) rfl rfl I140 rfl rfl rfl ?_
              refine te_iload_n (p2 := 87) rfl rfl rfl ?_
              refine te_iload (p2 := 89) rfl rfl rfl ?_
              refine ts_i (p2 := 90) (i := 199) (n := 6) rfl rfl I140 rfl rfl rfl rfl (by decide) (by decide) (by omega) (by omega) (by omega) rfl (fun h141 I141 u141 => ?_)
              have f141 := fr_st (F := F_X12_nextOrder_5) 0 f140 u141 rfl (by decide) (by decide)
              refine te_iload_n (p2 := 91) rfl rfl rfl ?_
              refine te_iconst (p2 := 92) (x := 1) rfl rfl (by decide) ?_
              refine te_iadd (p2 := 93) (z := 2) rfl rfl (by decide) ?_
              refine te_istore (p2 := 95) (lv2 := [(5, .int 2), (4, .int g1), (3, .int 2), (2, .int 1), (0, .ref 164), (1, .int 5)]) rfl rfl (by decide) rfl ?_
              refine te_iload_n (p2 := 96) rfl rfl rfl ?_
              refine te_iconst (p2 := 97) (x := 1) rfl rfl (by decide) ?_
              refine te_isub (p2 := 98) (z := 4) rfl rfl (by decide) ?_
              refine te_istore (p2 := 100) (lv2 := [(6, .int 4), (5, .int 2), (4, .int g1), (3, .int 2), (2, .int 1), (0, .ref 164), (1, .int 5)]) rfl rfl (by decide) rfl ?_
              refine te_iload (p2 := 102) rfl rfl rfl ?_
              refine te_iload (p2 := 104) rfl rfl rfl ?_
              refine tb_ge (p2 := 107) rfl rfl (show Int32.toInt 2 = 2 from rfl) (show Int32.toInt 4 = 4 from rfl) (fun c144 => absurd c144 (by omega)) (fun c144 => ?_)
              refine te_aload_n (p2 := 108) rfl rfl rfl ?_
              refine tg_r (p2 := 111) (i := 148) (r := 215) rfl rfl I141 rfl rfl rfl ?_
              refine te_iload (p2 := 113) rfl rfl rfl ?_
              refine tl_e (p2 := 114) (i := 199) (n := 6) (t := 0) (Or.inl rfl) rfl rfl I141 rfl rfl (by decide) (by decide) u141.1 ?_
              refine te_istore (p2 := 116) (lv2 := [(7, .int g1), (6, .int 4), (5, .int 2), (4, .int g1), (3, .int 2), (2, .int 1), (0, .ref 164), (1, .int 5)]) rfl rfl (by decide) rfl ?_
              refine te_aload_n (p2 := 117) rfl rfl rfl ?_
              refine tg_r (p2 := 120) (i := 148) (r := 215) rfl rfl I141 rfl rfl rfl ?_
              refine te_iload (p2 := 122) rfl rfl rfl ?_
              refine te_aload_n (p2 := 123) rfl rfl rfl ?_
              refine tg_r (p2 := 126) (i := 148) (r := 215) rfl rfl I141 rfl rfl rfl ?_
              refine te_iload (p2 := 128) rfl rfl rfl ?_
              refine tl_e (p2 := 129) (i := 199) (n := 6) (t := 0) (Or.inl rfl) rfl rfl I141 rfl rfl (by decide) (by decide) ((u141.2 _ _ (Or.inr (by decide))).trans ((u140.2 _ _ (Or.inr (by decide))).trans hg4)) ?_
              refine ts_i (p2 := 130) (i := 199) (n := 6) rfl rfl I141 rfl rfl rfl rfl (by decide) (by decide) (by omega) (by omega) (by omega) rfl (fun h147 I147 u147 => ?_)
              have f147 := fr_st (F := F_X12_nextOrder_5) 0 f141 u147 rfl (by decide) (by decide)
              refine te_aload_n (p2 := 131) rfl rfl rfl ?_
              refine tg_r (p2 := 134) (i := 148) (r := 215) rfl rfl I147 rfl rfl rfl ?_
              refine te_iload (p2 := 136) rfl rfl rfl ?_
              refine te_iload (p2 := 138) rfl rfl rfl ?_
              refine ts_i (p2 := 139) (i := 199) (n := 6) rfl rfl I147 rfl rfl rfl rfl (by decide) (by decide) (by omega) (by omega) (by omega) rfl (fun h148 I148 u148 => ?_)
              have f148 := fr_st (F := F_X12_nextOrder_5) 0 f147 u148 rfl (by decide) (by decide)
              refine te_iinc (p2 := 142) (x := 4) (y := 3) (lv2 := [(6, .int 3), (7, .int g1), (5, .int 2), (4, .int g1), (3, .int 2), (2, .int 1), (0, .ref 164), (1, .int 5)]) rfl rfl (by decide) rfl (by decide) rfl ?_
              refine te_iinc (p2 := 145) (x := 2) (y := 3) (lv2 := [(5, .int 3), (6, .int 3), (7, .int g1), (4, .int g1), (3, .int 2), (2, .int 1), (0, .ref 164), (1, .int 5)]) rfl rfl (by decide) rfl (by decide) rfl ?_
              refine te_goto rfl ?_
              refine te_iload (p2 := 102) rfl rfl rfl ?_
              refine te_iload (p2 := 104) rfl rfl rfl ?_
              refine tb_ge (p2 := 107) rfl rfl (show Int32.toInt 3 = 3 from rfl) (show Int32.toInt 3 = 3 from rfl) (fun c151 => ?_) (fun c151 => absurd c151 (by omega))
              refine te_iconst (p2 := 149) (x := 1) rfl rfl (by decide) ?_
              exact te_zret rfl rfl (by decide) ⟨I148, f148, _, rfl, Or.inr ⟨rfl, g0, g2, g4, g3, g1, g5, ((u148.2 _ _ (Or.inr (by decide))).trans ((u147.2 _ _ (Or.inr (by decide))).trans ((u141.2 _ _ (Or.inr (by decide))).trans ((u140.2 _ _ (Or.inr (by decide))).trans hg0)))), ((u148.2 _ _ (Or.inr (by decide))).trans ((u147.2 _ _ (Or.inr (by decide))).trans ((u141.2 _ _ (Or.inr (by decide))).trans u140.1))), ((u148.2 _ _ (Or.inr (by decide))).trans u147.1), ((u148.2 _ _ (Or.inr (by decide))).trans ((u147.2 _ _ (Or.inr (by decide))).trans ((u141.2 _ _ (Or.inr (by decide))).trans ((u140.2 _ _ (Or.inr (by decide))).trans hg3)))), u148.1, ((u148.2 _ _ (Or.inr (by decide))).trans ((u147.2 _ _ (Or.inr (by decide))).trans ((u141.2 _ _ (Or.inr (by decide))).trans ((u140.2 _ _ (Or.inr (by decide))).trans hg5)))), (by unfold prm; omega), (by unfold lexV; omega)⟩⟩
            · refine te_iinc (p2 := 59) (x := 2) (y := 1) (lv2 := [(3, .int 1), (2, .int 1), (0, .ref 164), (1, .int 5)]) rfl rfl (by decide) rfl (by decide) rfl ?_
              refine te_goto rfl ?_
              refine te_aload_n (p2 := 42) rfl rfl rfl ?_
              refine tg_r (p2 := 45) (i := 148) (r := 215) rfl rfl hI rfl rfl rfl ?_
              refine te_iload_n (p2 := 46) rfl rfl rfl ?_
              refine tl_e (p2 := 47) (i := 199) (n := 6) (t := 0) (Or.inl rfl) rfl rfl hI rfl rfl (by decide) (by decide) hg1 ?_
              refine te_aload_n (p2 := 48) rfl rfl rfl ?_
              refine tg_r (p2 := 51) (i := 148) (r := 215) rfl rfl hI rfl rfl rfl ?_
              refine te_iload_n (p2 := 52) rfl rfl rfl ?_
              refine tl_e (p2 := 53) (i := 199) (n := 6) (t := 0) (Or.inl rfl) rfl rfl hI rfl rfl (by decide) (by decide) hg1 ?_
              refine tb_ge (p2 := 56) rfl rfl rfl rfl (fun c155 => ?_) (fun c155 => absurd c155 (by omega))
              refine te_aload_n (p2 := 63) rfl rfl rfl ?_
              refine tg_r (p2 := 66) (i := 148) (r := 215) rfl rfl hI rfl rfl rfl ?_
              refine te_iload_n (p2 := 67) rfl rfl rfl ?_
              refine tl_e (p2 := 68) (i := 199) (n := 6) (t := 0) (Or.inl rfl) rfl rfl hI rfl rfl (by decide) (by decide) hg1 ?_
              refine te_istore (p2 := 70) (lv2 := [(4, .int g1), (3, .int 1), (2, .int 1), (0, .ref 164), (1, .int 5)]) rfl rfl (by decide) rfl ?_
              refine te_aload_n (p2 := 71) rfl rfl rfl ?_
              refine tg_r (p2 := 74) (i := 148) (r := 215) rfl rfl hI rfl rfl rfl ?_
              refine te_iload_n (p2 := 75) rfl rfl rfl ?_
              refine te_aload_n (p2 := 76) rfl rfl rfl ?_
              refine tg_r (p2 := 79) (i := 148) (r := 215) rfl rfl hI rfl rfl rfl ?_
              refine te_iload_n (p2 := 80) rfl rfl rfl ?_
              refine tl_e (p2 := 81) (i := 199) (n := 6) (t := 0) (Or.inl rfl) rfl rfl hI rfl rfl (by decide) (by decide) hg1 ?_
              refine ts_i (p2 := 82) (i := 199) (n := 6) rfl rfl hI rfl rfl rfl rfl (by decide) (by decide) (by omega) (by omega) (by omega) rfl (fun h158 I158 u158 => ?_)
              have f158 := fr_st (F := F_X12_nextOrder_5) 0 f0 u158 rfl (by decide) (by decide)
              refine te_aload_n (p2 := 83) rfl rfl rfl ?_
              refine tg_r (p2 := 86) (i := 148) (r := 215) rfl rfl I158 rfl rfl rfl ?_
              refine te_iload_n (p2 := 87) rfl rfl rfl ?_
              refine te_iload (p2 := 89) rfl rfl rfl ?_
              refine ts_i (p2 := 90) (i := 199) (n := 6) rfl rfl I158 rfl rfl rfl rfl (by decide) (by decide) (by omega) (by omega) (by omega) rfl (fun h159 I159 u159 => ?_)
              have f159 := fr_st (F := F_X12_nextOrder_5) 0 f158 u159 rfl (by decide) (by decide)
              refine te_iload_n (p2 := 91) rfl rfl rfl ?_
              refine te_iconst (p2 := 92) (x := 1) rfl rfl (by decide) ?_
              refine te_iadd (p2 := 93) (z := 2) rfl rfl (by decide) ?_
              refine te_istore (p2 := 95) (lv2 := [(5, .int 2), (4, .int g1), (3, .int 1), (2, .int 1), (0, .ref 164), (1, .int 5)]) rfl rfl (by decide) rfl ?_
              refine te_iload_n (p2 := 96) rfl rfl rfl ?_
              refine te_iconst (p2 := 97) (x := 1) rfl rfl (by decide) ?_
              refine te_isub (p2 := 98) (z := 4) rfl rfl (by decide) ?_
              refine te_istore (p2 := 100) (lv2 := [(6, .int 4), (5, .int 2), (4, .int g1), (3, .int 1), (2, .int 1), (0, .ref 164), (1, .int 5)]) rfl rfl (by decide) rfl ?_
              refine te_iload (p2 := 102) rfl rfl rfl ?_
              refine te_iload (p2 := 104) rfl rfl rfl ?_
              refine tb_ge (p2 := 107) rfl rfl (show Int32.toInt 2 = 2 from rfl) (show Int32.toInt 4 = 4 from rfl) (fun c162 => absurd c162 (by omega)) (fun c162 => ?_)
              refine te_aload_n (p2 := 108) rfl rfl rfl ?_
              refine tg_r (p2 := 111) (i := 148) (r := 215) rfl rfl I159 rfl rfl rfl ?_
              refine te_iload (p2 := 113) rfl rfl rfl ?_
              refine tl_e (p2 := 114) (i := 199) (n := 6) (t := 0) (Or.inl rfl) rfl rfl I159 rfl rfl (by decide) (by decide) ((u159.2 _ _ (Or.inr (by decide))).trans ((u158.2 _ _ (Or.inr (by decide))).trans hg2)) ?_
              refine te_istore (p2 := 116) (lv2 := [(7, .int g2), (6, .int 4), (5, .int 2), (4, .int g1), (3, .int 1), (2, .int 1), (0, .ref 164), (1, .int 5)]) rfl rfl (by decide) rfl ?_
              refine te_aload_n (p2 := 117) rfl rfl rfl ?_
              refine tg_r (p2 := 120) (i := 148) (r := 215) rfl rfl I159 rfl rfl rfl ?_
              refine te_iload (p2 := 122) rfl rfl rfl ?_
              refine te_aload_n (p2 := 123) rfl rfl rfl ?_
              refine tg_r (p2 := 126) (i := 148) (r := 215) rfl rfl I159 rfl rfl rfl ?_
              refine te_iload (p2 := 128) rfl rfl rfl ?_
              refine tl_e (p2 := 129) (i := 199) (n := 6) (t := 0) (Or.inl rfl) rfl rfl I159 rfl rfl (by decide) (by decide) ((u159.2 _ _ (Or.inr (by decide))).trans ((u158.2 _ _ (Or.inr (by decide))).trans hg4)) ?_
              refine ts_i (p2 := 130) (i := 199) (n := 6) rfl rfl I159 rfl rfl rfl rfl (by decide) (by decide) (by omega) (by omega) (by omega) rfl (fun h165 I165 u165 => ?_)
              have f165 := fr_st (F := F_X12_nextOrder_5) 0 f159 u165 rfl (by decide) (by decide)
              refine te_aload_n (p2 := 131) rfl rfl rfl ?_
              refine tg_r (p2 := 134) (i := 148) (r := 215) rfl rfl I165 rfl rfl rfl ?_
              refine te_iload (p2 := 136) rfl rfl rfl ?_
              refine te_iload (p2 := 138) rfl rfl rfl ?_
              refine ts_i (p2 := 139) (i := 199) (n := 6) rfl rfl I165 rfl rfl rfl rfl (by decide) (by decide) (by omega) (by omega) (by omega) rfl (fun h166 I166 u166 => ?_)
              have f166 := fr_st (F := F_X12_nextOrder_5) 0 f165 u166 rfl (by decide) (by decide)
              refine te_iinc (p2 := 142) (x := 4) (y := 3) (lv2 := [(6, .int 3), (7, .int g2), (5, .int 2), (4, .int g1), (3, .int 1), (2, .int 1), (0, .ref 164), (1, .int 5)]) rfl rfl (by decide) rfl (by decide) rfl ?_
              refine te_iinc (p2 := 145) (x := 2) (y := 3) (lv2 := [(5, .int 3), (6, .int 3), (7, .int g2), (4, .int g1), (3, .int 1), (2, .int 1), (0, .ref 164), (1, .int 5)]) rfl rfl (by decide) rfl (by decide) rfl ?_
              refine te_goto rfl ?_
              refine te_iload (p2 := 102) rfl rfl rfl ?_
              refine te_iload (p2 := 104) rfl rfl rfl ?_
              refine tb_ge (p2 := 107) rfl rfl (show Int32.toInt 3 = 3 from rfl) (show Int32.toInt 3 = 3 from rfl) (fun c169 => ?_) (fun c169 => absurd c169 (by omega))
              refine te_iconst (p2 := 149) (x := 1) rfl rfl (by decide) ?_
              exact te_zret rfl rfl (by decide) ⟨I166, f166, _, rfl, Or.inr ⟨rfl, g0, g1, g4, g3, g2, g5, ((u166.2 _ _ (Or.inr (by decide))).trans ((u165.2 _ _ (Or.inr (by decide))).trans ((u159.2 _ _ (Or.inr (by decide))).trans ((u158.2 _ _ (Or.inr (by decide))).trans hg0)))), ((u166.2 _ _ (Or.inr (by decide))).trans ((u165.2 _ _ (Or.inr (by decide))).trans u159.1)), ((u166.2 _ _ (Or.inr (by decide))).trans u165.1), ((u166.2 _ _ (Or.inr (by decide))).trans ((u165.2 _ _ (Or.inr (by decide))).trans ((u159.2 _ _ (Or.inr (by decide))).trans ((u158.2 _ _ (Or.inr (by decide))).trans hg3)))), u166.1, ((u166.2 _ _ (Or.inr (by decide))).trans ((u165.2 _ _ (Or.inr (by decide))).trans ((u159.2 _ _ (Or.inr (by decide))).trans ((u158.2 _ _ (Or.inr (by decide))).trans hg5)))), (by unfold prm; omega), (by unfold lexV; omega)⟩⟩
      · refine te_iinc (p2 := 28) (x := 1) (y := 0) (lv2 := [(2, .int 0), (0, .ref 164), (1, .int 5)]) rfl rfl (by decide) rfl (by decide) rfl ?_
        refine te_goto rfl ?_
        refine te_iload_n (p2 := 5) rfl rfl rfl ?_
        refine tz_lt (p2 := 8) rfl rfl (show Int32.toInt 0 = 0 from rfl) (fun c171 => absurd c171 (by omega)) (fun c171 => ?_)
        refine te_aload_n (p2 := 9) rfl rfl rfl ?_
        refine tg_r (p2 := 12) (i := 148) (r := 215) rfl rfl hI rfl rfl rfl ?_
        refine te_iload_n (p2 := 13) rfl rfl rfl ?_
        refine tl_e (p2 := 14) (i := 199) (n := 6) (t := 0) (Or.inl rfl) rfl rfl hI rfl rfl (by decide) (by decide) hg0 ?_
        refine te_aload_n (p2 := 15) rfl rfl rfl ?_
        refine tg_r (p2 := 18) (i := 148) (r := 215) rfl rfl hI rfl rfl rfl ?_
        refine te_iload_n (p2 := 19) rfl rfl rfl ?_
        refine te_iconst (p2 := 20) (x := 1) rfl rfl (by decide) ?_
        refine te_iadd (p2 := 21) (z := 1) rfl rfl (by decide) ?_
        refine tl_e (p2 := 22) (i := 199) (n := 6) (t := 0) (Or.inl rfl) rfl rfl hI rfl rfl (by decide) (by decide) hg1 ?_
        refine tb_le (p2 := 25) rfl rfl rfl rfl (fun c175 => ?_) (fun c175 => ?_)
        · refine te_iload_n (p2 := 32) rfl rfl rfl ?_
          refine tz_ge (p2 := 35) rfl rfl (show Int32.toInt 0 = 0 from rfl) (fun c176 => ?_) (fun c176 => absurd c176 (by omega))
          refine te_iload_n (p2 := 38) rfl rfl rfl ?_
          refine te_iconst (p2 := 39) (x := 1) rfl rfl (by decide) ?_
          refine te_isub (p2 := 40) (z := 4) rfl rfl (by decide) ?_
          refine te_istore_n (p2 := 41) (lv2 := [(3, .int 4), (2, .int 0), (0, .ref 164), (1, .int 5)]) rfl rfl (by decide) rfl ?_
          refine te_aload_n (p2 := 42) rfl rfl rfl ?_
          refine tg_r (p2 := 45) (i := 148) (r := 215) rfl rfl hI rfl rfl rfl ?_
          refine te_iload_n (p2 := 46) rfl rfl rfl ?_
          refine tl_e (p2 := 47) (i := 199) (n := 6) (t := 0) (Or.inl rfl) rfl rfl hI rfl rfl (by decide) (by decide) hg4 ?_
          refine te_aload_n (p2 := 48) rfl rfl rfl ?_
          refine tg_r (p2 := 51) (i := 148) (r := 215) rfl rfl hI rfl rfl rfl ?_
          refine te_iload_n (p2 := 52) rfl rfl rfl ?_
          refine tl_e (p2 := 53) (i := 199) (n := 6) (t := 0) (Or.inl rfl) rfl rfl hI rfl rfl (by decide) (by decide) hg0 ?_
          refine tb_ge (p2 := 56) rfl rfl rfl rfl (fun c180 => ?_) (fun c180 => ?_)
          · refine te_aload_n (p2 := 63) rfl rfl rfl ?_
            refine tg_r (p2 := 66) (i := 148) (r := 215) rfl rfl hI rfl rfl rfl ?_
            refine te_iload_n (p2 := 67) rfl rfl rfl ?_
            refine tl_e (p2 := 68) (i := 199) (n := 6) (t := 0) (Or.inl rfl) rfl rfl hI rfl rfl (by decide) (by decide) hg0 ?_
            refine te_istore (p2 := 70) (lv2 := [(4, .int g0), (3, .int 4), (2, .int 0), (0, .ref 164), (1, .int 5)]) rfl rfl (by decide) rfl ?_
            refine te_aload_n (p2 := 71) rfl rfl rfl ?_
            refine tg_r (p2 := 74) (i := 148) (r := 215) rfl rfl hI rfl rfl rfl ?_
            refine te_iload_n (p2 := 75) rfl rfl rfl ?_
            refine te_aload_n (p2 := 76) rfl rfl rfl ?_
            refine tg_r (p2 := 79) (i := 148) (r := 215) rfl rfl hI rfl rfl rfl ?_
            refine te_iload_n (p2 := 80) rfl rfl rfl ?_
            refine tl_e (p2 := 81) (i := 199) (n := 6) (t := 0) (Or.inl rfl) rfl rfl hI rfl rfl (by decide) (by decide) hg4 ?_
            refine ts_i (p2 := 82) (i := 199) (n := 6) rfl rfl hI rfl rfl rfl rfl (by decide) (by decide) (by omega) (by omega) (by omega) rfl (fun h183 I183 u183 => ?_)
            have f183 := fr_st (F := F_X12_nextOrder_5) 0 f0 u183 rfl (by decide) (by decide)
            refine te_aload_n (p2 := 83) rfl rfl rfl ?_
            refine tg_r (p2 := 86) (i := 148) (r := 215) rfl rfl I183 rfl rfl rfl ?_
            refine te_iload_n (p2 := 87) rfl rfl rfl ?_
            refine te_iload (p2 := 89) rfl rfl rfl ?_
            refine ts_i (p2 := 90) (i := 199) (n := 6) rfl rfl I183 rfl rfl rfl rfl (by decide) (by decide) (by omega) (by omega) (by omega) rfl (fun h184 I184 u184 => ?_)
            have f184 := fr_st (F := F_X12_nextOrder_5) 0 f183 u184 rfl (by decide) (by decide)
            refine te_iload_n (p2 := 91) rfl rfl rfl ?_
            refine te_iconst (p2 := 92) (x := 1) rfl rfl (by decide) ?_
            refine te_iadd (p2 := 93) (z := 1) rfl rfl (by decide) ?_
            refine te_istore (p2 := 95) (lv2 := [(5, .int 1), (4, .int g0), (3, .int 4), (2, .int 0), (0, .ref 164), (1, .int 5)]) rfl rfl (by decide) rfl ?_
            refine te_iload_n (p2 := 96) rfl rfl rfl ?_
            refine te_iconst (p2 := 97) (x := 1) rfl rfl (by decide) ?_
            refine te_isub (p2 := 98) (z := 4) rfl rfl (by decide) ?_
            refine te_istore (p2 := 100) (lv2 := [(6, .int 4), (5, .int 1), (4, .int g0), (3, .int 4), (2, .int 0), (0, .ref 164), (1, .int 5)]) rfl rfl (by decide) rfl ?_
            refine te_iload (p2 := 102) rfl rfl rfl ?_
            refine te_iload (p2 := 104) rfl rfl rfl ?_
            refine tb_ge (p2 := 107) rfl rfl (show Int32.toInt 1 = 1 from rfl) (show Int32.toInt 4 = 4 from rfl) (fun c187 => absurd c187 (by omega)) (fun c187 => ?_)
            refine te_aload_n (p2 := 108) rfl rfl rfl ?_
            refine tg_r (p2 := 111) (i := 148) (r := 215) rfl rfl I184 rfl rfl rfl ?_
            refine te_iload (p2 := 113) rfl rfl rfl ?_
            refine tl_e (p2 := 114) (i := 199) (n := 6) (t := 0) (Or.inl rfl) rfl rfl I184 rfl rfl (by decide) (by decide) ((u184.2 _ _ (Or.inr (by decide))).trans ((u183.2 _ _ (Or.inr (by decide))).trans hg1)) ?_
            refine te_istore (p2 := 116) (lv2 := [(7, .int g1), (6, .int 4), (5, .int 1), (4, .int g0), (3, .int 4), (2, .int 0), (0, .ref 164), (1, .int 5)]) rfl rfl (by decide) rfl ?_
            refine te_aload_n (p2 := 117) rfl rfl rfl ?_
            refine tg_r (p2 := 120) (i := 148) (r := 215) rfl rfl I184 rfl rfl rfl ?_
            refine te_iload (p2 := 122) rfl rfl rfl ?_
            refine te_aload_n (p2 := 123) rfl rfl rfl ?_
            refine tg_r (p2 := 126) (i := 148) (r := 215) rfl rfl I184 rfl rfl rfl ?_
            refine te_iload (p2 := 128) rfl rfl rfl ?_
            refine tl_e (p2 := 129) (i := 199) (n := 6) (t := 0) (Or.inl rfl) rfl rfl I184 rfl rfl (by decide) (by decide) u184.1 ?_
            refine ts_i (p2 := 130) (i := 199) (n := 6) rfl rfl I184 rfl rfl rfl rfl (by decide) (by decide) (by omega) (by omega) (by omega) rfl (fun h190 I190 u190 => ?_)
            have f190 := fr_st (F := F_X12_nextOrder_5) 0 f184 u190 rfl (by decide) (by decide)
            refine te_aload_n (p2 := 131) rfl rfl rfl ?_
            refine tg_r (p2 := 134) (i := 148) (r := 215) rfl rfl I190 rfl rfl rfl ?_
            refine te_iload (p2 := 136) rfl rfl rfl ?_
            refine te_iload (p2 := 138) rfl rfl rfl ?_
            refine ts_i (p2 := 139) (i := 199) (n := 6) rfl rfl I190 rfl rfl rfl rfl (by decide) (by decide) (by omega) (by omega) (by omega) rfl (fun h191 I191 u191 => ?_)
            have f191 := fr_st (F := F_X12_nextOrder_5) 0 f190 u191 rfl (by decide) (by decide)
            refine te_iinc (p2 := 142) (x := 4) (y := 3) (lv2 := [(6, .int 3), (7, .int g1), (5, .int 1), (4, .int g0), (3, .int 4), (2, .int 0), (0, .ref 164), (1, .int 5)]) rfl rfl (by decide) rfl (by decide) rfl ?_
            refine te_iinc (p2 := 145) (x := 1) (y := 2) (lv2 := [(5, .int 2), (6, .int 3), (7, .int g1), (4, .int g0), (3, .int 4), (2, .int 0), (0, .ref 164), (1, .int 5)]) rfl rfl (by decide) rfl (by decide) rfl ?_
            refine te_goto rfl ?_
            refine te_iload (p2 := 102) rfl rfl rfl ?_
            refine te_iload (p2 := 104) rfl rfl rfl ?_
            refine tb_ge (p2 := 107) rfl rfl (show Int32.toInt 2 = 2 from rfl) (show Int32.toInt 3 = 3 from rfl) (fun c194 => absurd c194 (by omega)) (fun c194 => ?_)
            refine te_aload_n (p2 := 108) rfl rfl rfl ?_
            refine tg_r (p2 := 111) (i := 148) (r := 215) rfl rfl I191 rfl rfl rfl ?_
            refine te_iload (p2 := 113) rfl rfl rfl ?_
            refine tl_e (p2 := 114) (i := 199) (n := 6) (t := 0) (Or.inl rfl) rfl rfl I191 rfl rfl (by decide) (by decide) ((u191.2 _ _ (Or.inr (by decide))).trans ((u190.2 _ _ (Or.inr (by decide))).trans ((u184.2 _ _ (Or.inr (by decide))).trans ((u183.2 _ _ (Or.inr (by decide))).trans hg2)))) ?_
            refine te_istore (p2 := 116) (lv2 := [(7, .int g2), (5, .int 2), (6, .int 3), (4, .int g0), (3, .int 4), (2, .int 0), (0, .ref 164), (1, .int 5)]) rfl rfl (by decide) rfl ?_
            refine te_aload_n (p2 := 117) rfl rfl rfl ?_
            refine tg_r (p2 := 120) (i := 148) (r := 215) rfl rfl I191 rfl rfl rfl ?_
            refine te_iload (p2 := 122) rfl rfl rfl ?_
            refine te_aload_n (p2 := 123) rfl rfl rfl ?_
            refine tg_r (p2 := 126) (i := 148) (r := 215) rfl rfl I191 rfl rfl rfl ?_
            refine te_iload (p2 := 128) rfl rfl rfl ?_
            refine tl_e (p2 := 129) (i := 199) (n := 6) (t := 0) (Or.inl rfl) rfl rfl I191 rfl rfl (by decide) (by decide) ((u191.2 _ _ (Or.inr (by decide))).trans ((u190.2 _ _ (Or.inr (by decide))).trans ((u184.2 _ _ (Or.inr (by decide))).trans ((u183.2 _ _ (Or.inr (by decide))).trans hg3)))) ?_
            refine ts_i (p2 := 130) (i := 199) (n := 6) rfl rfl I191 rfl rfl rfl rfl (by decide) (by decide) (by omega) (by omega) (by omega) rfl (fun h197 I197 u197 => ?_)
            have f197 := fr_st (F := F_X12_nextOrder_5) 0 f191 u197 rfl (by decide) (by decide)
            refine te_aload_n (p2 := 131) rfl rfl rfl ?_
            refine tg_r (p2 := 134) (i := 148) (r := 215) rfl rfl I197 rfl rfl rfl ?_
            refine te_iload (p2 := 136) rfl rfl rfl ?_
            refine te_iload (p2 := 138) rfl rfl rfl ?_
            refine ts_i (p2 := 139) (i := 199) (n := 6) rfl rfl I197 rfl rfl rfl rfl (by decide) (by decide) (by omega) (by omega) (by omega) rfl (fun h198 I198 u198 => ?_)
            have f198 := fr_st (F := F_X12_nextOrder_5) 0 f197 u198 rfl (by decide) (by decide)
            refine te_iinc (p2 := 142) (x := 3) (y := 2) (lv2 := [(6, .int 2), (7, .int g2), (5, .int 2), (4, .int g0), (3, .int 4), (2, .int 0), (0, .ref 164), (1, .int 5)]) rfl rfl (by decide) rfl (by decide) rfl ?_
            refine te_iinc (p2 := 145) (x := 2) (y := 3) (lv2 := [(5, .int 3), (6, .int 2), (7, .int g2), (4, .int g0), (3, .int 4), (2, .int 0), (0, .ref 164), (1, .int 5)]) rfl rfl (by decide) rfl (by decide) rfl ?_
            refine te_goto rfl ?_
            refine te_iload (p2 := 102) rfl rfl rfl ?_
            refine te_iload (p2 := 104) rfl rfl rfl ?_
            refine tb_ge (p2 := 107) rfl rfl (show Int32.toInt 3 = 3 from rfl) (show Int32.toInt 2 = 2 from rfl) (fun c201 => ?_) (fun c201 => absurd c201 (by omega))
            refine te_iconst (p2 := 149) (x := 1) rfl rfl (by decide) ?_
            exact te_zret rfl rfl (by decide) ⟨I198, f198, _, rfl, Or.inr ⟨rfl, g4, g0, g3, g2, g1, g5, ((u198.2 _ _ (Or.inr (by decide))).trans ((u197.2 _ _ (Or.inr (by decide))).trans ((u191.2 _ _ (Or.inr (by decide))).trans ((u190.2 _ _ (Or.inr (by decide))).trans ((u184.2 _ _ (Or.inr (by decide))).trans u183.1))))), ((u198.2 _ _ (Or.inr (by decide))).trans ((u197.2 _ _ (Or.inr (by decide))).trans ((u191.2 _ _ (Or.inr (by decide))).trans u190.1))), ((u198.2 _ _ (Or.inr (by decide))).trans u197.1), u198.1, ((u198.2 _ _ (Or.inr (by decide))).trans ((u197.2 _ _ (Or.inr (by decide))).trans u191.1)), ((u198.2 _ _ (Or.inr (by decide))).trans ((u197.2 _ _ (Or.inr (by decide))).trans ((u191.2 _ _ (Or.inr (by decide))).trans ((u190.2 _ _ (Or.inr (by decide))).trans ((u184.2 _ _ (Or.inr (by decide))).trans ((u183.2 _ _ (Or.inr (by decide))).trans hg5)))))), (by unfold prm; omega), (by unfold lexV; omega)⟩⟩
          · refine te_iinc (p2 := 59) (x := 4) (y := 3) (lv2 := [(3, .int 3), (2, .int 0), (0, .ref 164), (1, .int 5)]) rfl rfl (by decide) rfl (by decide) rfl ?_
            refine te_goto rfl ?_
            refine te_aload_n (p2 := 42) rfl rfl rfl ?_
            refine tg_r (p2 := 45) (i := 148) (r := 215) rfl rfl hI rfl rfl rfl ?_
            refine te_iload_n (p2 := 46) rfl rfl rfl ?_
            refine tl_e (p2 := 47) (i := 199) (n := 6) (t := 0) (Or.inl rfl) rfl rfl hI rfl rfl (by decide) (by decide) hg3 ?_
            refine te_aload_n (p2 := 48) rfl rfl rfl ?_
            refine tg_r (p2 := 51) (i := 148) (r := 215) rfl rfl hI rfl rfl rfl ?_
            refine te_iload_n (p2 := 52) rfl rfl rfl ?_
            refine tl_e (p2 := 53) (i := 199) (n := 6) (t := 0) (Or.inl rfl) rfl rfl hI rfl rfl (by decide) (by decide) hg0 ?_
            refine tb_ge (p2 := 56) rfl rfl rfl rfl (fun c205 => ?_) (fun c205 => ?_)
            · refine te_aload_n (p2 := 63) rfl rfl rfl ?_
              refine tg_r (p2 := 66) (i := 148) (r := 215) rfl rfl hI rfl rfl rfl ?_
              refine te_iload_n (p2 := 67) rfl rfl rfl ?_
              refine tl_e (p2 := 68) (i := 199) (n := 6) (t := 0) (Or.inl rfl) rfl rfl hI rfl rfl (by decide) (by decide) hg0 ?_
              refine te_istore (p2 := 70) (lv2 := [(4, .int g0), (3, .int 3), (2, .int 0), (0, .ref 164), (1, .int 5)]) rfl rfl (by decide) rfl ?_
              refine te_aload_n (p2 := 71) rfl rfl rfl ?_
              refine tg_r (p2 := 74) (i := 148) (r := 215) rfl rfl hI rfl rfl rfl ?_
              refine te_iload_n (p2 := 75) rfl rfl rfl ?_
              refine te_aload_n (p2 := 76) rfl rfl rfl ?_
              refine tg_r (p2 := 79) (i := 148) (r := 215) rfl rfl hI rfl rfl rfl ?_
              refine te_iload_n (p2 := 80) rfl rfl rfl ?_
              refine tl_e (p2 := 81) (i := 199) (n := 6) (t := 0) (Or.inl rfl) rfl rfl hI rfl rfl (by decide) (by decide) hg3 ?_
              refine ts_i (p2 := 82) (i := 199) (n := 6) rfl rfl hI rfl rfl rfl rfl (by decide) (by decide) (by omega) (by omega) (by omega) rfl (fun h208 I208 u208 => ?_)
              have f208 := fr_st (F := F_X12_nextOrder_5) 0 f0 u208 rfl (by decide) (by decide)
              refine te_aload_n (p2 := 83) rfl rfl rfl ?_
              refine tg_r (p2 := 86) (i := 148) (r := 215) rfl rfl I208 rfl rfl rfl ?_
              refine te_iload_n (p2 := 87) rfl rfl rfl ?_
              refine te_iload (p2 := 89) rfl rfl rfl ?_
              refine ts_i (p2 := 90) (i := 199) (n := 6) rfl rfl I208 rfl rfl rfl rfl (by decide) (by decide) (by omega) (by omega) (by omega) rfl (fun h209 I209 u209 => ?_)
              have f209 := fr_st (F := F_X12_nextOrder_5) 0 f208 u209 rfl (by decide) (by decide)
              refine te_iload_n (p2 := 91) rfl rfl rfl ?_
              refine te_iconst (p2 := 92) (x := 1) rfl rfl (by decide) ?_
              refine te_iadd (p2 := 93) (z := 1) rfl rfl (by decide) ?_
              refine te_istore (p2 := 95) (lv2 := [(5, .int 1), (4, .int g0), (3, .int 3), (2, .int 0), (0, .ref 164), (1, .int 5)]) rfl rfl (by decide) rfl ?_
              refine te_iload_n (p2 := 96) rfl rfl rfl ?_
              refine te_iconst (p2 := 97) (x := 1) rfl rfl (by decide) ?_
              refine te_isub (p2 := 98) (z := 4) rfl rfl (by decide) ?_
              refine te_istore (p2 := 100) (lv2 := [(6, .int 4), (5, .int 1), (4, .int g0), (3, .int 3), (2, .int 0), (0, .ref 164), (1, .int 5)]) rfl rfl (by decide) rfl ?_
              refine te_iload (p2 := 102) rfl rfl rfl ?_
              refine te_iload (p2 := 104) rfl rfl rfl ?_
              refine tb_ge (p2 := 107) rfl rfl (show Int32.toInt 1 = 1 from rfl) (show Int32.toInt 4 = 4 from rfl) (fun c212 => absurd c212 (by omega)) (fun c212 => ?_)
              refine te_aload_n (p2 := 108) rfl rfl rfl ?_
              refine tg_r (p2 := 111) (i := 148) (r := 215) rfl rfl I209 rfl rfl rfl ?_
              refine te_iload (p2 := 113) rfl rfl rfl ?_
              refine tl_e (p2 := 114) (i := 199) (n := 6) (t := 0) (Or.inl rfl) rfl rfl I209 rfl rfl (by decide) (by decide) ((u209.2 _ _ (Or.inr (by decide))).trans ((u208.2 _ _ (Or.inr (by decide))).trans hg1)) ?_
              refine te_istore (p2 := 116) (lv2 := [(7, .int g1), (6, .int 4), (5, .int 1), (4, .int g0), (3, .int 3), (2, .int 0), (0, .ref 164), (1, .int 5)]) rfl rfl (by decide) rfl ?_
              refine te_aload_n (p2 := 117) rfl rfl rfl ?_
              refine tg_r (p2 := 120) (i := 148) (r := 215) rfl rfl I209 rfl rfl rfl ?_
              refine te_iload (p2 := 122) rfl rfl rfl ?_
              refine te_aload_n (p2 := 123) rfl rfl rfl ?_
              refine tg_r (p2 := 126) (i := 148) (r := 215) rfl rfl I209 rfl rfl rfl ?_
              refine te_iload (p2 := 128) rfl rfl rfl ?_
              refine tl_e (p2 := 129) (i := 199) (n := 6) (t := 0) (Or.inl rfl) rfl rfl I209 rfl rfl (by decide) (by decide) ((u209.2 _ _ (Or.inr (by decide))).trans ((u208.2 _ _ (Or.inr (by decide))).trans hg4)) ?_
              refine ts_i (p2 := 130) (i := 199) (n := 6) rfl rfl I209 rfl rfl rfl rfl (by decide) (by decide) (by omega) (by omega) (by omega) rfl (fun h215 I215 u215 => ?_)
              have f215 := fr_st (F := F_X12_nextOrder_5) 0 f209 u215 rfl (by decide) (by decide)
              refine te_aload_n (p2 := 131) rfl rfl rfl ?_
              refine tg_r (p2 := 134) (i := 148) (r := 215) rfl rfl I215 rfl rfl rfl ?_
              refine te_iload (p2 := 136) rfl rfl rfl ?_
              refine te_iload (p2 := 138) rfl rfl rfl ?_
              refine ts_i (p2 := 139) (i := 199) (n := 6) rfl rfl I215 rfl rfl rfl rfl (by decide) (by decide) (by omega) (by omega) (by omega) rfl (fun h216 I216 u216 => ?_)
              have f216 := fr_st (F := F_X12_nextOrder_5) 0 f215 u216 rfl (by decide) (by decide)
              refine te_iinc (p2 := 142) (x := 4) (y := 3) (lv2 := [(6, .int 3), (7, .int g1), (5, .int 1), (4, .int g0), (3, .int 3), (2, .int 0), (0, .ref 164), (1, .int 5)]) rfl rfl (by decide) rfl (by decide) rfl ?_
              refine te_iinc (p2 := 145) (x := 1) (y := 2) (lv2 := [(5, .int 2), (6, .int 3), (7, .int g1), (4, .int g0), (3, .int 3), (2, .int 0), (0, .ref 164), (1, .int 5)]) rfl rfl (by decide) rfl (by decide) rfl ?_
              refine te_goto rfl ?_
              refine te_iload (p2 := 102) rfl rfl rfl ?_
              refine te_iload (p2 := 104) rfl rfl rfl ?_
              refine tb_ge (p2 := 107) rfl rfl (show Int32.toInt 2 = 2 from rfl) (show Int32.toInt 3 = 3 from rfl) (fun c219 => absurd c219 (by omega)) (fun c219 => ?_)
              refine te_aload_n (p2 := 108) rfl rfl rfl ?_
              refine tg_r (p2 := 111) (i := 148) (r := 215) rfl rfl I216 rfl rfl rfl ?_
              refine te_iload (p2 := 113) rfl rfl rfl ?_
              refine tl_e (p2 := 114) (i := 199) (n := 6) (t := 0) (Or.inl rfl) rfl rfl I216 rfl rfl (by decide) (by decide) ((u216.2 _ _ (Or.inr (by decide))).trans ((u215.2 _ _ (Or.inr (by decide))).trans ((u209.2 _ _ (Or.inr (by decide))).trans ((u208.2 _ _ (Or.inr (by decide))).trans hg2)))) ?_
              refine te_istore (p2 := 116) (lv2 := [(7, .int g2), (5, .int 2), (6, .int 3), (4, .int g0), (3, .int 3), (2, .int 0), (0, .ref 164), (1, .int 5)]) rfl rfl (by decide) rfl ?_
              refine te_aload_n (p2 := 117) rfl rfl rfl ?_
              refine tg_r (p2 := 120) (i := 148) (r := 215) rfl rfl I216 rfl rfl rfl ?_
              refine te_iload (p2 := 122) rfl rfl rfl ?_
              refine te_aload_n (p2 := 123) rfl rfl rfl ?_
              refine tg_r (p2 := 126) (i := 148) (r := 215) rfl rfl I216 rfl rfl rfl ?_
              refine te_iload (p2 := 128) rfl rfl rfl ?_
              refine tl_e (p2 := 129) (i := 199) (n := 6) (t := 0) (Or.inl rfl) rfl rfl I216 rfl rfl (by decide) (by decide) ((u216.2 _ _ (Or.inr (by decide))).trans ((u215.2 _ _ (Or.inr (by decide))).trans u209.1)) ?_
              refine ts_i (p2 := 130) (i := 199) (n := 6) rfl rfl I216 rfl rfl rfl rfl (by decide) (by decide) (by omega) (by omega) (by omega) rfl (fun h222 I222 u222 => ?_)
              have f222 := fr_st (F := F_X12_nextOrder_5) 0 f216 u222 rfl (by decide) (by decide)
              refine te_aload_n (p2 := 131) rfl rfl rfl ?_
              refine tg_r (p2 := 134) (i := 148) (r := 215) rfl rfl I222 rfl rfl rfl ?_
              refine te_iload (p2 := 136) rfl rfl rfl ?_
              refine te_iload (p2 := 138) rfl rfl rfl ?_
              refine ts_i (p2 := 139) (i := 199) (n := 6) rfl rfl I222 rfl rfl rfl rfl (by decide) (by decide) (by omega) (by omega) (by omega) rfl (fun h223 I223 u223 => ?_)
              have f223 := fr_st (F := F_X12_nextOrder_5) 0 f222 u223 rfl (by decide) (by decide)
              refine te_iinc (p2 := 142) (x := 3) (y := 2) (lv2 := [(6, .int 2), (7, .int g2), (5, .int 2), (4, .int g0), (3, .int 3), (2, .int 0), (0, .ref 164), (1, .int 5)]) rfl rfl (by decide) rfl (by decide) rfl ?_
              refine te_iinc (p2 := 145) (x := 2) (y := 3) (lv2 := [(5, .int 3), (6, .int 2), (7, .int g2), (4, .int g0), (3, .int 3), (2, .int 0), (0, .ref 164), (1, .int 5)]) rfl rfl (by decide) rfl (by decide) rfl ?_
              refine te_goto rfl ?_
              refine te_iload (p2 := 102) rfl rfl rfl ?_
              refine te_iload (p2 := 104) rfl rfl rfl ?_
              refine tb_ge (p2 := 107) rfl rfl (show Int32.toInt 3 = 3 from rfl) (show Int32.toInt 2 = 2 from rfl) (fun c226 => ?_) (fun c226 => absurd c226 (by omega))
              refine te_iconst (p2 := 149) (x := 1) rfl rfl (by decide) ?_
              exact te_zret rfl rfl (by decide) ⟨I223, f223, _, rfl, Or.inr ⟨rfl, g3, g4, g0, g2, g1, g5, ((u223.2 _ _ (Or.inr (by decide))).trans ((u222.2 _ _ (Or.inr (by decide))).trans ((u216.2 _ _ (Or.inr (by decide))).trans ((u215.2 _ _ (Or.inr (by decide))).trans ((u209.2 _ _ (Or.inr (by decide))).trans u208.1))))), ((u223.2 _ _ (Or.inr (by decide))).trans ((u222.2 _ _ (Or.inr (by decide))).trans ((u216.2 _ _ (Or.inr (by decide))).trans u215.1))), ((u223.2 _ _ (Or.inr (by decide))).trans u222.1), u223.1, ((u223.2 _ _ (Or.inr (by decide))).trans ((u222.2 _ _ (Or.inr (by decide))).trans u216.1)), ((u223.2 _ _ (Or.inr (by decide))).trans ((u222.2 _ _ (Or.inr (by decide))).trans ((u216.2 _ _ (Or.inr (by decide))).trans ((u215.2 _ _ (Or.inr (by decide))).trans ((u209.2 _ _ (Or.inr (by decide))).trans ((u208.2 _ _ (Or.inr (by decide))).trans hg5)))))), (by unfold prm; omega), (by unfold lexV; omega)⟩⟩
            · refine te_iinc (p2 := 59) (x := 3) (y := 2) (lv2 := [(3, .int 2), (2, .int 0), (0, .ref 164), (1, .int 5)]) rfl rfl (by decide) rfl (by decide) rfl ?_
              refine te_goto rfl ?_
              refine te_aload_n (p2 := 42) rfl rfl rfl ?_
              refine tg_r (p2 := 45) (i := 148) (r := 215) rfl rfl hI rfl rfl rfl ?_
              refine te_iload_n (p2 := 46) rfl rfl rfl ?_
              refine tl_e (p2 := 47) (i := 199) (n := 6) (t := 0) (Or.inl rfl) rfl rfl hI rfl rfl (by decide) (by decide) hg2 ?_
              refine te_aload_n (p2 := 48) rfl rfl rfl ?_
              refine tg_r (p2 := 51) (i := 148) (r := 215) rfl rfl hI rfl rfl rfl ?_
              refine te_iload_n (p2 := 52) rfl rfl rfl ?_
              refine tl_e (p2 := 53) (i := 199) (n := 6) (t := 0) (Or.inl rfl) rfl rfl hI rfl rfl (by decide) (by decide) hg0 ?_
              refine tb_ge (p2 := 56) rfl rfl rfl rfl (fun c230 => ?_) (fun c230 => ?_)
              · refine te_aload_n (p2 := 63) rfl rfl rfl ?_
                refine tg_r (p2 := 66) (i := 148) (r := 215) rfl rfl hI rfl rfl rfl ?_
                refine te_iload_n (p2 := 67) rfl rfl rfl ?_
                refine tl_e (p2 := 68) (i := 199) (n := 6) (t := 0) (Or.inl rfl) rfl rfl hI rfl rfl (by decide) (by decide) hg0 ?_
                refine te_istore (p2 := 70) (lv2 := [(4, .int g0), (3, .int 2), (2, .int 0), (0, .ref 164), (1, .int 5)]) rfl rfl (by decide) rfl ?_
                refine te_aload_n (p2 := 71) rfl rfl rfl ?_
                refine tg_r (p2 := 74) (i := 148) (r := 215) rfl rfl hI rfl rfl rfl ?_
                refine te_iload_n (p2 := 75) rfl rfl rfl ?_
                refine te_aload_n (p2 := 76) rfl rfl rfl ?_
                refine tg_r (p2 := 79) (i := 148) (r := 215) rfl rfl hI rfl rfl rfl ?_
                refine te_iload_n (p2 := 80) rfl rfl rfl ?_
                refine tl_e (p2 := 81) (i := 199) (n := 6) (t := 0) (Or.inl rfl) rfl rfl hI rfl rfl (by decide) (by decide) hg2 ?_
                refine ts_i (p2 := 82) (i := 199) (n := 6) rfl rfl hI rfl rfl rfl rfl (by decide) (by decide) (by omega) (by omega) (by omega) rfl (fun h233 I233 u233 => ?_)
                have f233 := fr_st (F := F_X12_nextOrder_5) 0 f0 u233 rfl (by decide) (by decide)
                refine te_aload_n (p2 := 83) rfl rfl rfl ?_
                refine tg_r (p2 := 86) (i := 148) (r := 215) rfl rfl I233 rfl rfl rfl ?_
                refine te_iload_n (p2 := 87) rfl rfl rfl ?_
                refine te_iload (p2 := 89) rfl rfl rfl ?_
                refine ts_i (p2 := 90) (i := 199) (n := 6) rfl rfl I233 rfl rfl rfl rfl (by decide) (by decide) (by omega) (by omega) (by omega) rfl (fun h234 I234 u234 => ?_)
                have f234 := fr_st (F := F_X12_nextOrder_5) 0 f233 u234 rfl (by decide) (by decide)
                refine te_iload_n (p2 := 91) rfl rfl rfl ?_
                refine te_iconst (p2 := 92) (x := 1) rfl rfl (by decide) ?_
                refine te_iadd (p2 := 93) (z := 1) rfl rfl (by decide) ?_
                refine te_istore (p2 := 95) (lv2 := [(5, .int 1), (4, .int g0), (3, .int 2), (2, .int 0), (0, .ref 164), (1, .int 5)]) rfl rfl (by decide) rfl ?_
                refine te_iload_n (p2 := 96) rfl rfl rfl ?_
                refine te_iconst (p2 := 97) (x := 1) rfl rfl (by decide) ?_
                refine te_isub (p2 := 98) (z := 4) rfl rfl (by decide) ?_
                refine te_istore (p2 := 100) (lv2 := [(6, .int 4), (5, .int 1), (4, .int g0), (3, .int 2), (2, .int 0), (0, .ref 164), (1, .int 5)]) rfl rfl (by decide) rfl ?_
                refine te_iload (p2 := 102) rfl rfl rfl ?_
                refine te_iload (p2 := 104) rfl rfl rfl ?_
                refine tb_ge (p2 := 107) rfl rfl (show Int32.toInt 1 = 1 from rfl) (show Int32.toInt 4 = 4 from rfl) (fun c237 => absurd c237 (by omega)) (fun c237 => ?_)
                refine te_aload_n (p2 := 108) rfl rfl rfl ?_
                refine tg_r (p2 := 111) (i := 148) (r := 215) rfl rfl I234 rfl rfl rfl ?_
                refine te_iload (p2 := 113) rfl rfl rfl ?_
                refine tl_e (p2 := 114) (i := 199) (n := 6) (t := 0) (Or.inl rfl) rfl rfl I234 rfl rfl (by decide) (by decide) ((u234.2 _ _ (Or.inr (by decide))).trans ((u233.2 _ _ (Or.inr (by decide))).trans hg1)) ?_
                refine te_istore (p2 := 116) (lv2 := [(7, .int g1), (6, .int 4), (5, .int 1), (4, .int g0), (3, .int 2), (2, .int 0), (0, .ref 164), (1, .int 5)]) rfl rfl (by decide) rfl ?_
                refine te_aload_n (p2 := 117) rfl rfl rfl ?_
                refine tg_r (p2 := 120) (i := 148) (r := 215) rfl rfl I234 rfl rfl rfl ?_
                refine te_iload (p2 := 122) rfl rfl rfl ?_
                refine te_aload_n (p2 := 123) rfl rfl rfl ?_
                refine tg_r (p2 := 126) (i := 148) (r := 215) rfl rfl I234 rfl rfl rfl ?_
                refine te_iload (p2 := 128) rfl rfl rfl ?_
                refine tl_e (p2 := 129) (i := 199) (n := 6) (t := 0) (Or.inl rfl) rfl rfl I234 rfl rfl (by decide) (by decide) ((u234.2 _ _ (Or.inr (by decide))).trans ((u233.2 _ _ (Or.inr (by decide))).trans hg4)) ?_
                refine ts_i (p2 := 130) (i := 199) (n := 6) rfl rfl I234 rfl rfl rfl rfl (by decide) (by decide) (by omega) (by omega) (by omega) rfl (fun h240 I240 u240 => ?_)
                have f240 := fr_st (F := F_X12_nextOrder_5) 0 f234 u240 rfl (by decide) (by decide)
                refine te_aload_n (p2 := 131) rfl rfl rfl ?_
                refine tg_r (p2 := 134) (i := 148) (r := 215) rfl rfl I240 rfl rfl rfl ?_
                refine te_iload (p2 := 136) rfl rfl rfl ?_
                refine te_iload (p2 := 138) rfl rfl rfl ?_
                refine ts_i (p2 := 139) (i := 199) (n := 6) rfl rfl I240 rfl rfl rfl rfl (by decide) (by decide) (by omega) (by omega) (by omega) rfl (fun h241 I241 u241 => ?_)
                have f241 := fr_st (F := F_X12_nextOrder_5) 0 f240 u241 rfl (by decide) (by decide)
                refine te_iinc (p2 := 142) (x := 4) (y := 3) (lv2 := [(6, .int 3), (7, .int g1), (5, .int 1), (4, .int g0), (3, .int 2), (2, .int 0), (0, .ref 164), (1, .int 5)]) rfl rfl (by decide) rfl (by decide) rfl ?_
                refine te_iinc (p2 := 145) (x := 1) (y := 2) (lv2 := [(5, .int 2), (6, .int 3), (7, .int g1), (4, .int g0), (3, .int 2), (2, .int 0), (0, .ref 164), (1, .int 5)]) rfl rfl (by decide) rfl (by decide) rfl ?_
                refine te_goto rfl ?_
                refine te_iload (p2 := 102) rfl rfl rfl ?_
                refine te_iload (p2 := 104) rfl rfl rfl ?_
                refine tb_ge (p2 := 107) rfl rfl (show Int32.toInt 2 = 2 from rfl) (show Int32.toInt 3 = 3 from rfl) (fun c244 => absurd c244 (by omega)) (fun c244 => ?_)
                refine te_aload_n (p2 := 108) rfl rfl rfl ?_
                refine tg_r (p2 := 111) (i := 148) (r := 215) rfl rfl I241 rfl rfl rfl ?_
                refine te_iload (p2 := 113) rfl rfl rfl ?_
                refine tl_e (p2 := 114) (i := 199) (n := 6) (t := 0) (Or.inl rfl) rfl rfl I241 rfl rfl (by decide) (by decide) ((u241.2 _ _ (Or.inr (by decide))).trans ((u240.2 _ _ (Or.inr (by decide))).trans u234.1)) ?_
                refine te_istore (p2 := 116) (lv2 := [(7, .int g0), (5, .int 2), (6, .int 3), (4, .int g0), (3, .int 2), (2, .int 0), (0, .ref 164), (1, .int 5)]) rfl rfl (by decide) rfl ?_
                refine te_aload_n (p2 := 117) rfl rfl rfl ?_
                refine tg_r (p2 := 120) (i := 148) (r := 215) rfl rfl I241 rfl rfl rfl ?_
                refine te_iload (p2 := 122) rfl rfl rfl ?_
                refine te_aload_n (p2 := 123) rfl rfl rfl ?_
                refine tg_r (p2 := 126) (i := 148) (r := 215) rfl rfl I241 rfl rfl rfl ?_
                refine te_iload (p2 := 128) rfl rfl rfl ?_
                refine tl_e (p2 := 129) (i := 199) (n := 6) (t := 0) (Or.inl rfl) rfl rfl I241 rfl rfl (by decide) (by decide) ((u241.2 _ _ (Or.inr (by decide))).trans ((u240.2 _ _ (Or.inr (by decide))).trans ((u234.2 _ _ (Or.inr (by decide))).trans ((u233.2 _ _ (Or.inr (by decide))).trans hg3)))) ?_
                refine ts_i (p2 := 130) (i := 199) (n := 6) rfl rfl I241 rfl rfl rfl rfl (by decide) (by decide) (by omega) (by omega) (by omega) rfl (fun h247 I247 u247 => ?_)
                have f247 := fr_st (F := F_X12_nextOrder_5) 0 f241 u247 rfl (by decide) (by decide)
                refine te_aload_n (p2 := 131) rfl rfl rfl ?_
                refine tg_r (p2 := 134) (i := 148) (r := 215) rfl rfl I247 rfl rfl rfl ?_
                refine te_iload (p2 := 136) rfl rfl rfl ?_
                refine te_iload (p2 := 138) rfl rfl rfl ?_
                refine ts_i (p2 := 139) (i := 199) (n := 6) rfl rfl I247 rfl rfl rfl rfl (by decide) (by decide) (by omega) (by omega) (by omega) rfl (fun h248 I248 u248 => ?_)
                have f248 := fr_st (F := F_X12_nextOrder_5) 0 f247 u248 rfl (by decide) (by decide)
                refine te_iinc (p2 := 142) (x := 3) (y := 2) (lv2 := [(6, .int 2), (7, .int g0), (5, .int 2), (4, .int g0), (3, .int 2), (2, .int 0), (0, .ref 164), (1, .int 5)]) rfl rfl (by decide) rfl (by decide) rfl ?_
                refine te_iinc (p2 := 145) (x := 2) (y := 3) (lv2 := [(5, .int 3), (6, .int 2), (7, .int g0), (4, .int g0), (3, .int 2), (2, .int 0), (0, .ref 164), (1, .int 5)]) rfl rfl (by decide) rfl (by decide) rfl ?_
                refine te_goto rfl ?_
                refine te_iload (p2 := 102) rfl rfl rfl ?_
                refine te_iload (p2 := 104) rfl rfl rfl ?_
                refine tb_ge (p2 := 107) rfl rfl (show Int32.toInt 3 = 3 from rfl) (show Int32.toInt 2 = 2 from rfl) (fun c251 => ?_) (fun c251 => absurd c251 (by omega))
                refine te_iconst (p2 := 149) (x := 1) rfl rfl (by decide) ?_
                exact te_zret rfl rfl (by decide) ⟨I248, f248, _, rfl, Or.inr ⟨rfl, g2, g4, g3, g0, g1, g5, ((u248.2 _ _ (Or.inr (by decide))).trans ((u247.2 _ _ (Or.inr (by decide))).trans ((u241.2 _ _ (Or.inr (by decide))).trans ((u240.2 _ _ (Or.inr (by decide))).trans ((u234.2 _ _ (Or.inr (by decide))).trans u233.1))))), ((u248.2 _ _ (Or.inr (by decide))).trans ((u247.2 _ _ (Or.inr (by decide))).trans ((u241.2 _ _ (Or.inr (by decide))).trans u240.1))), ((u248.2 _ _ (Or.inr (by decide))).trans u247.1), u248.1, ((u248.2 _ _ (Or.inr (by decide))).trans ((u247.2 _ _ (Or.inr (by decide))).trans u241.1)), ((u248.2 _ _ (Or.inr (by decide))).trans ((u247.2 _ _ (Or.inr (by decide))).trans ((u241.2 _ _ (Or.inr (by decide))).trans ((u240.2 _ _ (Or.inr (by decide))).trans ((u234.2 _ _ (Or.inr (by decide))).trans ((u233.2 _ _ (Or.inr (by decide))).trans hg5)))))), (by unfold prm; omega), (by unfold lexV; omega)⟩⟩
              · refine te_iinc (p2 := 59) (x := 2) (y := 1) (lv2 := [(3, .int 1), (2, .int 0), (0, .ref 164), (1, .int 5)]) rfl rfl (by decide) rfl (by decide) rfl ?_
                refine te_goto rfl ?_
                refine te_aload_n (p2 := 42) rfl rfl rfl ?_
                refine tg_r (p2 := 45) (i := 148) (r := 215) rfl rfl hI rfl rfl rfl ?_
                refine te_iload_n (p2 := 46) rfl rfl rfl ?_
                refine tl_e (p2 := 47) (i := 199) (n := 6) (t := 0) (Or.inl rfl) rfl rfl hI rfl rfl (by decide) (by decide) hg1 ?_
                refine te_aload_n (p2 := 48) rfl rfl rfl ?_
                refine tg_r (p2 := 51) (i := 148) (r := 215) rfl rfl hI rfl rfl rfl ?_
                refine te_iload_n (p2 := 52) rfl rfl rfl ?_
                refine tl_e (p2 := 53) (i := 199) (n := 6) (t := 0) (Or.inl rfl) rfl rfl hI rfl rfl (by decide) (by decide) hg0 ?_
                refine tb_ge (p2 := 56) rfl rfl rfl rfl (fun c255 => ?_) (fun c255 => ?_)
                · refine te_aload_n (p2 := 63) rfl rfl rfl ?_
                  refine tg_r (p2 := 66) (i := 148) (r := 215) rfl rfl hI rfl rfl rfl ?_
                  refine te_iload_n (p2 := 67) rfl rfl rfl ?_
                  refine tl_e (p2 := 68) (i := 199) (n := 6) (t := 0) (Or.inl rfl) rfl rfl hI rfl rfl (by decide) (by decide) hg0 ?_
                  refine te_istore (p2 := 70) (lv2 := [(4, .int g0), (3, .int 1), (2, .int 0), (0, .ref 164), (1, .int 5)]) rfl rfl (by decide) rfl ?_
                  refine te_aload_n (p2 := 71) rfl rfl rfl ?_
                  refine tg_r (p2 := 74) (i := 148) (r := 215) rfl rfl hI rfl rfl rfl ?_
                  refine te_iload_n (p2 := 75) rfl rfl rfl ?_
                  refine te_aload_n (p2 := 76) rfl rfl rfl ?_
                  refine tg_r (p2 := 79) (i := 148) (r := 215) rfl rfl hI rfl rfl rfl ?_
                  refine te_iload_n (p2 := 80) rfl rfl rfl ?_
                  refine tl_e (p2 := 81) (i := 199) (n := 6) (t := 0) (Or.inl rfl) rfl rfl hI rfl rfl (by decide) (by decide) hg1 ?_
                  refine ts_i (p2 := 82) (i := 199) (n := 6) rfl rfl hI rfl rfl rfl rfl (by decide) (by decide) (by omega) (by omega) (by omega) rfl (fun h258 I258 u258 => ?_)
                  have f258 := fr_st (F := F_X12_nextOrder_5) 0 f0 u258 rfl (by decide) (by decide)
                  refine te_aload_n (p2 := 83) rfl rfl rfl ?_
                  refine tg_r (p2 := 86) (i := 148) (r := 215) rfl rfl I258 rfl rfl rfl ?_
                  refine te_iload_n (p2 := 87) rfl rfl rfl ?_
                  refine te_iload (p2 := 89) rfl rfl rfl ?_
                  refine ts_i (p2 := 90) (i := 199) (n := 6) rfl rfl I258 rfl rfl rfl rfl (by decide) (by decide) (by omega) (by omega) (by omega) rfl (fun h259 I259 u259 => ?_)
                  have f259 := fr_st (F := F_X12_nextOrder_5) 0 f258 u259 rfl (by decide) (by decide)
                  refine te_iload_n (p2 := 91) rfl rfl rfl ?_
                  refine te_iconst (p2 := 92) (x := 1) rfl rfl (by decide) ?_
                  refine te_iadd (p2 := 93) (z := 1) rfl rfl (by decide) ?_
                  refine te_istore (p2 := 95) (lv2 := [(5, .int 1), (4, .int g0), (3, .int 1), (2, .int 0), (0, .ref 164), (1, .int 5)]) rfl rfl (by decide) rfl ?_
                  refine te_iload_n (p2 := 96) rfl rfl rfl ?_
                  refine te_iconst (p2 := 97) (x := 1) rfl rfl (by decide) ?_
                  refine te_isub (p2 := 98) (z := 4) rfl rfl (by decide) ?_
                  refine te_istore (p2 := 100) (lv2 := [(6, .int 4), (5, .int 1), (4, .int g0), (3, .int 1), (2, .int 0), (0, .ref 164), (1, .int 5)]) rfl rfl (by decide) rfl ?_
                  refine te_iload (p2 := 102) rfl rfl rfl ?_
                  refine te_iload (p2 := 104) rfl rfl rfl ?_
                  refine tb_ge (p2 := 107) rfl rfl (show Int32.toInt 1 = 1 from rfl) (show Int32.toInt 4 = 4 from rfl) (fun c262 => absurd c262 (by omega)) (fun c262 => ?_)
                  refine te_aload_n (p2 := 108) rfl rfl rfl ?_
                  refine tg_r (p2 := 111) (i := 148) (r := 215) rfl rfl I259 rfl rfl rfl ?_
                  refine te_iload (p2 := 113) rfl rfl rfl ?_
                  refine tl_e (p2 := 114) (i := 199) (n := 6) (t := 0) (Or.inl rfl) rfl rfl I259 rfl rfl (by decide) (by decide) u259.1 ?_
                  refine te_istore (p2 := 116) (lv2 := [(7, .int g0), (6, .int 4), (5, .int 1), (4, .int g0), (3, .int 1), (2, .int 0), (0, .ref 164), (1, .int 5)]) rfl rfl (by decide) rfl ?_
                  refine te_aload_n (p2 := 117) rfl rfl rfl ?_
                  refine tg_r (p2 := 120) (i := 148) (r := 215) rfl rfl I259 rfl rfl rfl ?_
                  refine te_iload (p2 := 122) rfl rfl rfl ?_
                  refine te_aload_n (p2 := 123) rfl rfl rfl ?_
                  refine tg_r (p2 := 126) (i := 148) (r := 215) rfl rfl I259 rfl rfl rfl ?_
                  refine te_iload (p2 := 128) rfl rfl rfl ?_
                  refine tl_e (p2 := 129) (i := 199) (n := 6) (t := 0) (Or.inl rfl) rfl rfl I259 rfl rfl (by decide) (by decide) ((u259.2 _ _ (Or.inr (by decide))).trans ((u258.2 _ _ (Or.inr (by decide))).trans hg4)) ?_
                  refine ts_i (p2 := 130) (i := 199) (n := 6) rfl rfl I259 rfl rfl rfl rfl (by decide) (by decide) (by omega) (by omega) (by omega) rfl (fun h265 I265 u265 => ?_)
                  have f265 := fr_st (F := F_X12_nextOrder_5) 0 f259 u265 rfl (by decide) (by decide)
                  refine te_aload_n (p2 := 131) rfl rfl rfl ?_
                  refine tg_r (p2 := 134) (i := 148) (r := 215) rfl rfl I265 rfl rfl rfl ?_
                  refine te_iload (p2 := 136) rfl rfl rfl ?_
                  refine te_iload (p2 := 138) rfl rfl rfl ?_
                  refine ts_i (p2 := 139) (i := 199) (n := 6) rfl rfl I265 rfl rfl rfl rfl (by decide) (by decide) (by omega) (by omega) (by omega) rfl (fun h266 I266 u266 => ?_)
                  have f266 := fr_st (F := F_X12_nextOrder_5) 0 f265 u266 rfl (by decide) (by decide)
                  refine te_iinc (p2 := 142) (x := 4) (y := 3) (lv2 := [(6, .int 3), (7, .int g0), (5, .int 1), (4, .int g0), (3, .int 1), (2, .int 0), (0, .ref 164), (1, .int 5)]) rfl rfl (by decide) rfl (by decide) rfl ?_
                  refine te_iinc (p2 := 145) (x := 1) (y := 2) (lv2 := [(5, .int 2), (6, .int 3), (7, .int g0), (4, .int g0), (3, .int 1), (2, .int 0), (0, .ref 164), (1, .int 5)]) rfl rfl (by decide) rfl (by decide) rfl ?_
                  refine te_goto rfl ?_
                  refine te_iload (p2 := 102) rfl rfl rfl ?_
                  refine te_iload (p2 := 104) rfl rfl rfl ?_
                  refine tb_ge (p2 := 107) rfl rfl (show Int32.toInt 2 = 2 from rfl) (show Int32.toInt 3 = 3 from rfl) (fun c269 => absurd c269 (by omega)) (fun c269 => ?_)
                  refine te_aload_n (p2 := 108) rfl rfl rfl ?_
                  refine tg_r (p2 := 111) (i := 148) (r := 215) rfl rfl I266 rfl rfl rfl ?_
                  refine te_iload (p2 := 113) rfl rfl rfl ?_
                  refine tl_e (p2 := 114) (i := 199) (n := 6) (t := 0) (Or.inl rfl) rfl rfl I266 rfl rfl (by decide) (by decide) ((u266.2 _ _ (Or.inr (by decide))).trans ((u265.2 _ _ (Or.inr (by decide))).trans ((u259.2 _ _ (Or.inr (by decide))).trans ((u258.2 _ _ (Or.inr (by decide))).trans hg2)))) ?_
                  refine te_istore (p2 := 116) (lv2 := [(7, .int g2), (5, .int 2), (6, .int 3), (4, .int g0), (3, .int 1), (2, .int 0), (0, .ref 164), (1, .int 5)]) rfl rfl (by decide) rfl ?_
                  refine te_aload_n (p2 := 117) rfl rfl rfl ?_
                  refine tg_r (p2 := 120) (i := 148) (r := 215) rfl rfl I266 rfl rfl rfl ?_
                  refine te_iload (p2 := 122) rfl rfl rfl ?_
                  refine te_aload_n (p2 := 123) rfl rfl rfl ?_
                  refine tg_r (p2 := 126) (i := 148) (r := 215) rfl rfl I266 rfl rfl rfl ?_
                  refine te_iload (p2 := 128) rfl rfl rfl ?_
                  refine tl_e (p2 := 129) (i := 199) (n := 6) (t := 0) (Or.inl rfl) rfl rfl I266 rfl rfl (by decide) (by decide) ((u266.2 _ _ (Or.inr (by decide))).trans ((u265.2 _ _ (Or.inr (by decide))).trans ((u259.2 _ _ (Or.inr (by decide))).trans ((u258.2 _ _ (Or.inr (by decide))).trans hg3)))) ?_
                  refine ts_i (p2 := 130) (i := 199) (n := 6) rfl rfl I266 rfl rfl rfl rfl (by decide) (by decide) (by omega) (by omega) (by omega) rfl (fun h272 I272 u272 => ?_)
                  have f272 := fr_st (F := F_X12_nextOrder_5) 0 f266 u272 rfl (by decide) (by decide)
                  refine te_aload_n (p2 := 131) rfl rfl rfl ?_
                  refine tg_r (p2 := 134) (i := 148) (r := 215) rfl rfl I272 rfl rfl rfl ?_
                  refine te_iload (p2 := 136) rfl rfl rfl ?_
                  refine te_iload (p2 := 138) rfl rfl rfl ?_
                  refine ts_i (p2 := 139) (i := 199) (n := 6) rfl rfl I272 rfl rfl rfl rfl (by decide) (by decide) (by omega) (by omega) (by omega) rfl (fun h273 I273 u273 => ?_)
                  have f273 := fr_st (F := F_X12_nextOrder_5) 0 f272 u273 rfl (by decide) (by decide)
                  refine te_iinc (p2 := 142) (x := 3) (y := 2) (lv2 := [(6, .int 2), (7, .int g2), (5, .int 2), (4, .int g0), (3, .int 1), (2, .int 0), (0, .ref 164), (1, .int 5)]) rfl rfl (by decide) rfl (by decide) rfl ?_
                  refine te_iinc (p2 := 145) (x := 2) (y := 3) (lv2 := [(5, .int 3), (6, .int 2), (7, .int g2), (4, .int g0), (3, .int 1), (2, .int 0), (0, .ref 164), (1, .int 5)]) rfl rfl (by decide) rfl (by decide) rfl ?_
                  refine te_goto rfl ?_
                  refine te_iload (p2 := 102) rfl rfl rfl ?_
                  refine te_iload (p2 := 104) rfl rfl rfl ?_
                  refine tb_ge (p2 := 107) rfl rfl (show Int32.toInt 3 = 3 from rfl) (show Int32.toInt 2 = 2 from rfl) (fun c276 => ?_) (fun c276 => absurd c276 (by omega))
                  refine te_iconst (p2 := 149) (x := 1) rfl rfl (by decide) ?_
                  exact te_zret rfl rfl (by decide) ⟨I273, f273, _, rfl, Or.inr ⟨rfl, g1, g4, g3, g2, g0, g5, ((u273.2 _ _ (Or.inr (by decide))).trans ((u272.2 _ _ (Or.inr (by decide))).trans ((u266.2 _ _ (Or.inr (by decide))).trans ((u265.2 _ _ (Or.inr (by decide))).trans ((u259.2 _ _ (Or.inr (by decide))).trans u258.1))))), ((u273.2 _ _ (Or.inr (by decide))).trans ((u272.2 _ _ (Or.inr (by decide))).trans ((u266.2 _ _ (Or.inr (by decide))).trans u265.1))), ((u273.2 _ _ (Or.inr (by decide))).trans u272.1), u273.1, ((u273.2 _ _ (Or.inr (by decide))).trans ((u272.2 _ _ (Or.inr (by decide))).trans u266.1)), ((u273.2 _ _ (Or.inr (by decide))).trans ((u272.2 _ _ (Or.inr (by decide))).trans ((u266.2 _ _ (Or.inr (by decide))).trans ((u265.2 _ _ (Or.inr (by decide))).trans ((u259.2 _ _ (Or.inr (by decide))).trans ((u258.2 _ _ (Or.inr (by decide))).trans hg5)))))), (by unfold prm; omega), (by unfold lexV; omega)⟩⟩
                · refine te_iinc (p2 := 59) (x := 1) (y := 0) (lv2 := [(3, .int 0), (2, .int 0), (0, .ref 164), (1, .int 5)]) rfl rfl (by decide) rfl (by decide) rfl ?_
                  refine te_goto rfl ?_
                  refine te_aload_n (p2 := 42) rfl rfl rfl ?_
                  refine tg_r (p2 := 45) (i := 148) (r := 215) rfl rfl hI rfl rfl rfl ?_
                  refine te_iload_n (p2 := 46) rfl rfl rfl ?_
                  refine tl_e (p2 := 47) (i := 199) (n := 6) (t := 0) (Or.inl rfl) rfl rfl hI rfl rfl (by decide) (by decide) hg0 ?_
                  refine te_aload_n (p2 := 48) rfl rfl rfl ?_
                  refine tg_r (p2 := 51) (i := 148) (r := 215) rfl rfl hI rfl rfl rfl ?_
                  refine te_iload_n (p2 := 52) rfl rfl rfl ?_
                  refine tl_e (p2 := 53) (i := 199) (n := 6) (t := 0) (Or.inl rfl) rfl rfl hI rfl rfl (by decide) (by decide) hg0 ?_
                  refine tb_ge (p2 := 56) rfl rfl rfl rfl (fun c280 => ?_) (fun c280 => absurd c280 (by omega))
                  refine te_aload_n (p2 := 63) rfl rfl rfl ?_
                  refine tg_r (p2 := 66) (i := 148) (r := 215) rfl rfl hI rfl rfl rfl ?_
                  refine te_iload_n (p2 := 67) rfl rfl rfl ?_
                  refine tl_e (p2 := 68) (i := 199) (n := 6) (t := 0) (Or.inl rfl) rfl rfl hI rfl rfl (by decide) (by decide) hg0 ?_
                  refine te_istore (p2 := 70) (lv2 := [(4, .int g0), (3, .int 0), (2, .int 0), (0, .ref 164), (1, .int 5)]) rfl rfl (by decide) rfl ?_
                  refine te_aload_n (p2 := 71) rfl rfl rfl ?_
                  refine tg_r (p2 := 74) (i := 148) (r := 215) rfl rfl hI rfl rfl rfl ?_
                  refine te_iload_n (p2 := 75) rfl rfl rfl ?_
                  refine te_aload_n (p2 := 76) rfl rfl rfl ?_
                  refine tg_r (p2 := 79) (i := 148) (r := 215) rfl rfl hI rfl rfl rfl ?_
                  refine te_iload_n (p2 := 80) rfl rfl rfl ?_
                  refine tl_e (p2 := 81) (i := 199) (n := 6) (t := 0) (Or.inl rfl) rfl rfl hI rfl rfl (by decide) (by decide) hg0 ?_
                  refine ts_i (p2 := 82) (i := 199) (n := 6) rfl rfl hI rfl rfl rfl rfl (by decide) (by decide) (by omega) (by omega) (by omega) rfl (fun h283 I283 u283 => ?_)
                  have f283 := fr_st (F := F_X12_nextOrder_5) 0 f0 u283 rfl (by decide) (by decide)
                  refine te_aload_n (p2 := 83) rfl rfl rfl ?_
                  refine tg_r (p2 := 86) (i := 148) (r := 215) rfl rfl I283 rfl rfl rfl ?_
                  refine te_iload_n (p2 := 87) rfl rfl rfl ?_
                  refine te_iload (p2 := 89) rfl rfl rfl ?_
                  refine ts_i (p2 := 90) (i := 199) (n := 6) rfl rfl I283 rfl rfl rfl rfl (by decide) (by decide) (by omega) (by omega) (by omega) rfl (fun h284 I284 u284 => ?_)
                  have f284 := fr_st (F := F_X12_nextOrder_5) 0 f283 u284 rfl (by decide) (by decide)
                  refine te_iload_n (p2 := 91) rfl rfl rfl ?_
                  refine te_iconst (p2 := 92) (x := 1) rfl rfl (by decide) ?_
                  refine te_iadd (p2 := 93) (z := 1) rfl rfl (by decide) ?_
                  refine te_istore (p2 := 95) (lv2 := [(5, .int 1), (4, .int g0), (3, .int 0), (2, .int 0), (0, .ref 164), (1, .int 5)]) rfl rfl (by decide) rfl ?_
                  refine te_iload_n (p2 := 96) rfl rfl rfl ?_
                  refine te_iconst (p2 := 97) (x := 1) rfl rfl (by decide) ?_
                  refine te_isub (p2 := 98) (z := 4) rfl rfl (by decide) ?_
                  refine te_istore (p2 := 100) (lv2 := [(6, .int 4), (5, .int 1), (4, .int g0), (3, .int 0), (2, .int 0), (0, .ref 164), (1, .int 5)]) rfl rfl (by decide) rfl ?_
                  refine te_iload (p2 := 102) rfl rfl rfl ?_
                  refine te_iload (p2 := 104) rfl rfl rfl ?_
                  refine tb_ge (p2 := 107) rfl rfl (show Int32.toInt 1 = 1 from rfl) (show Int32.toInt 4 = 4 from rfl) (fun c287 => absurd c287 (by omega)) (fun c287 => ?_)
                  refine te_aload_n (p2 := 108) rfl rfl rfl ?_
                  refine tg_r (p2 := 111) (i := 148) (r := 215) rfl rfl I284 rfl rfl rfl ?_
                  refine te_iload (p2 := 113) rfl rfl rfl ?_
                  refine tl_e (p2 := 114) (i := 199) (n := 6) (t := 0) (Or.inl rfl) rfl rfl I284 rfl rfl (by decide) (by decide) ((u284.2 _ _ (Or.inr (by decide))).trans ((u283.2 _ _ (Or.inr (by decide))).trans hg1)) ?_
                  refine te_istore (p2 := 116) (lv2 := [(7, .int g1), (6, .int 4), (5, .int 1), (4, .int g0), (3, .int 0), (2, .int 0), (0, .ref 164), (1, .int 5)]) rfl rfl (by decide) rfl ?_
                  refine te_aload_n (p2 := 117) rfl rfl rfl ?_
                  refine tg_r (p2 := 120) (i := 148) (r := 215) rfl rfl I284 rfl rfl rfl ?_
                  refine te_iload (p2 := 122) rfl rfl rfl ?_
                  refine te_aload_n (p2 := 123) rfl rfl rfl ?_
                  refine tg_r (p2 := 126) (i := 148) (r := 215) rfl rfl I284 rfl rfl rfl ?_
                  refine te_iload (p2 := 128) rfl rfl rfl ?_
                  refine tl_e (p2 := 129) (i := 199) (n := 6) (t := 0) (Or.inl rfl) rfl rfl I284 rfl rfl (by decide) (by decide) ((u284.2 _ _ (Or.inr (by decide))).trans ((u283.2 _ _ (Or.inr (by decide))).trans hg4)) ?_
                  refine ts_i (p2 := 130) (i := 199) (n := 6) rfl rfl I284 rfl rfl rfl rfl (by decide) (by decide) (by omega) (by omega) (by omega) rfl (fun h290 I290 u290 => ?_)
                  have f290 := fr_st (F := F_X12_nextOrder_5) 0 f284 u290 rfl (by decide) (by decide)
                  refine te_aload_n (p2 := 131) rfl rfl rfl ?_
                  refine tg_r (p2 := 134) (i := 148) (r := 215) rfl rfl I290 rfl rfl rfl ?_
                  refine te_iload (p2 := 136) rfl rfl rfl ?_
                  refine te_iload (p2 := 138) rfl rfl rfl ?_
                  refine ts_i (p2 := 139) (i := 199) (n := 6) rfl rfl I290 rfl rfl rfl rfl (by decide) (by decide) (by omega) (by omega) (by omega) rfl (fun h291 I291 u291 => ?_)
                  have f291 := fr_st (F := F_X12_nextOrder_5) 0 f290 u291 rfl (by decide) (by decide)
                  refine te_iinc (p2 := 142) (x := 4) (y := 3) (lv2 := [(6, .int 3), (7, .int g1), (5, .int 1), (4, .int g0), (3, .int 0), (2, .int 0), (0, .ref 164), (1, .int 5)]) rfl rfl (by decide) rfl (by decide) rfl ?_
                  refine te_iinc (p2 := 145) (x := 1) (y := 2) (lv2 := [(5, .int 2), (6, .int 3), (7, .int g1), (4, .int g0), (3, .int 0), (2, .int 0), (0, .ref 164), (1, .int 5)]) rfl rfl (by decide) rfl (by decide) rfl ?_
                  refine te_goto rfl ?_
                  refine te_iload (p2 := 102) rfl rfl rfl ?_
                  refine te_iload (p2 := 104) rfl rfl rfl ?_
                  refine tb_ge (p2 := 107) rfl rfl (show Int32.toInt 2 = 2 from rfl) (show Int32.toInt 3 = 3 from rfl) (fun c294 => absurd c294 (by omega)) (fun c294 => ?_)
                  refine te_aload_n (p2 := 108) rfl rfl rfl ?_
                  refine tg_r (p2 := 111) (i := 148) (r := 215) rfl rfl I291 rfl rfl rfl ?_
                  refine te_iload (p2 := 113) rfl rfl rfl ?_
                  refine tl_e (p2 := 114) (i := 199) (n := 6) (t := 0) (Or.inl rfl) rfl rfl I291 rfl rfl (by decide) (by decide) ((u291.2 _ _ (Or.inr (by decide))).trans ((u290.2 _ _ (Or.inr (by decide))).trans ((u284.2 _ _ (Or.inr (by decide))).trans ((u283.2 _ _ (Or.inr (by decide))).trans hg2)))) ?_
                  refine te_istore (p2 := 116) (lv2 := [(7, .int g2), (5, .int 2), (6, .int 3), (4, .int g0), (3, .int 0), (2, .int 0), (0, .ref 164), (1, .int 5)]) rfl rfl (by decide) rfl ?_
                  refine te_aload_n (p2 := 117) rfl rfl rfl ?_
                  refine tg_r (p2 := 120) (i := 148) (r := 215) rfl rfl I291 rfl rfl rfl ?_
                  refine te_iload (p2 := 122) rfl rfl rfl ?_
                  refine te_aload_n (p2 := 123) rfl rfl rfl ?_
                  refine tg_r (p2 := 126) (i := 148) (r := 215) rfl rfl I291 rfl rfl rfl ?_
                  refine te_iload (p2 := 128) rfl rfl rfl ?_
                  refine tl_e (p2 := 129) (i := 199) (n := 6) (t := 0) (Or.inl rfl) rfl rfl I291 rfl rfl (by decide) (by decide) ((u291.2 _ _ (Or.inr (by decide))).trans ((u290.2 _ _ (Or.inr (by decide))).trans ((u284.2 _ _ (Or.inr (by decide))).trans ((u283.2 _ _ (Or.inr (by decide))).trans hg3)))) ?_
                  refine ts_i (p2 := 130) (i := 199) (n := 6) rfl rfl I291 rfl rfl rfl rfl (by decide) (by decide) (by omega) (by omega) (by omega) rfl (fun h297 I297 u297 => ?_)
                  have f297 := fr_st (F := F_X12_nextOrder_5) 0 f291 u297 rfl (by decide) (by decide)
                  refine te_aload_n (p2 := 131) rfl rfl rfl ?_
                  refine tg_r (p2 := 134) (i := 148) (r := 215) rfl rfl I297 rfl rfl rfl ?_
                  refine te_iload (p2 := 136) rfl rfl rfl ?_
                  refine te_iload (p2 := 138) rfl rfl rfl ?_
                  refine ts_i (p2 := 139) (i := 199) (n := 6) rfl rfl I297 rfl rfl rfl rfl (by decide) (by decide) (by omega) (by omega) (by omega) rfl (fun h298 I298 u298 => ?_)
                  have f298 := fr_st (F := F_X12_nextOrder_5) 0 f297 u298 rfl (by decide) (by decide)
                  refine te_iinc (p2 := 142) (x := 3) (y := 2) (lv2 := [(6, .int 2), (7, .int g2), (5, .int 2), (4, .int g0), (3, .int 0), (2, .int 0), (0, .ref 164), (1, .int 5)]) rfl rfl (by decide) rfl (by decide) rfl ?_
                  refine te_iinc (p2 := 145) (x := 2) (y := 3) (lv2 := [(5, .int 3), (6, .int 2), (7, .int g2), (4, .int g0), (3, .int 0), (2, .int 0), (0, .ref 164), (1, .int 5)]) rfl rfl (by decide) rfl (by decide) rfl ?_
                  refine te_goto rfl ?_
                  refine te_iload (p2 := 102) rfl rfl rfl ?_
                  refine te_iload (p2 := 104) rfl rfl rfl ?_
                  refine tb_ge (p2 := 107) rfl rfl (show Int32.toInt 3 = 3 from rfl) (show Int32.toInt 2 = 2 from rfl) (fun c301 => ?_) (fun c301 => absurd c301 (by omega))
                  refine te_iconst (p2 := 149) (x := 1) rfl rfl (by decide) ?_
                  exact te_zret rfl rfl (by decide) ⟨I298, f298, _, rfl, Or.inr ⟨rfl, g0, g4, g3, g2, g1, g5, ((u298.2 _ _ (Or.inr (by decide))).trans ((u297.2 _ _ (Or.inr (by decide))).trans ((u291.2 _ _ (Or.inr (by decide))).trans ((u290.2 _ _ (Or.inr (by decide))).trans u284.1)))), ((u298.2 _ _ (Or.inr (by decide))).trans ((u297.2 _ _ (Or.inr (by decide))).trans ((u291.2 _ _ (Or.inr (by decide))).trans u290.1))), ((u298.2 _ _ (Or.inr (by decide))).trans u297.1), u298.1, ((u298.2 _ _ (Or.inr (by decide))).trans ((u297.2 _ _ (Or.inr (by decide))).trans u291.1)), ((u298.2 _ _ (Or.inr (by decide))).trans ((u297.2 _ _ (Or.inr (by decide))).trans ((u291.2 _ _ (Or.inr (by decide))).trans ((u290.2 _ _ (Or.inr (by decide))).trans ((u284.2 _ _ (Or.inr (by decide))).trans ((u283.2 _ _ (Or.inr (by decide))).trans hg5)))))), (by unfold prm; omega), (by unfold lexV; omega)⟩⟩
        · refine te_iinc (p2 := 28) (x := 0) (y := (-1)) (lv2 := [(2, .int (-1)), (0, .ref 164), (1, .int 5)]) rfl rfl (by decide) rfl (by decide) rfl ?_
          refine te_goto rfl ?_
          refine te_iload_n (p2 := 5) rfl rfl rfl ?_
          refine tz_lt (p2 := 8) rfl rfl (show Int32.toInt (-1) = (-1) from rfl) (fun c303 => ?_) (fun c303 => absurd c303 (by omega))
          refine te_iload_n (p2 := 32) rfl rfl rfl ?_
          refine tz_ge (p2 := 35) rfl rfl (show Int32.toInt (-1) = (-1) from rfl) (fun c304 => absurd c304 (by omega)) (fun c304 => ?_)
          refine te_iconst (p2 := 36) (x := 0) rfl rfl (by decide) ?_
          exact te_zret rfl rfl (by decide) ⟨hI, f0, _, rfl, Or.inl rfl⟩
abbrev F_X12_nextOrder_6 : List (Nat × Nat × Nat) := [(199, 0, 5)]
set_option maxRecDepth 20000 in
set_option maxHeartbeats 4000000 in
theorem t_X12_nextOrder_6 {g0 : Int32} {g1 : Int32} {g2 : Int32} {g3 : Int32} {g4 : Int32} {g5 : Int32} {h : im_H} (hI : tI h) (hg0 : rd h 199 (Int32.toInt 0).toNat = some (.int g0)) (ga0 : 0 ≤ g0.toInt) (gb0 : g0.toInt ≤ 5) (hg1 : rd h 199 (Int32.toInt 1).toNat = some (.int g1)) (ga1 : 0 ≤ g1.toInt) (gb1 : g1.toInt ≤ 5) (hg2 : rd h 199 (Int32.toInt 2).toNat = some (.int g2)) (ga2 : 0 ≤ g2.toInt) (gb2 : g2.toInt ≤ 5) (hg3 : rd h 199 (Int32.toInt 3).toNat = some (.int g3)) (ga3 : 0 ≤ g3.toInt) (gb3 : g3.toInt ≤ 5) (hg4 : rd h 199 (Int32.toInt 4).toNat = some (.int g4)) (ga4 : 0 ≤ g4.toInt) (gb4 : g4.toInt ≤ 5) (hg5 : rd h 199 (Int32.toInt 5).toNat = some (.int g5)) (ga5 : 0 ≤ g5.toInt) (gb5 : g5.toInt ≤ 5) (pr0 : prm 6 g0.toInt g1.toInt g2.toInt g3.toInt g4.toInt g5.toInt) : CaP 1 167 [.ref 164, .int 6] h (fun v h2 => tI h2 ∧ fr F_X12_nextOrder_6 h h2 ∧ ∃ y : Int32, v = some (.int y) ∧ (y = 0 ∨ (y = 1 ∧ ∃ k0 k1 k2 k3 k4 k5 : Int32, rd h2 199 (Int32.toInt 0).toNat = some (.int k0) ∧ rd h2 199 (Int32.toInt 1).toNat = some (.int k1) ∧ rd h2 199 (Int32.toInt 2).toNat = some (.int k2) ∧ rd h2 199 (Int32.toInt 3).toNat = some (.int k3) ∧ rd h2 199 (Int32.toInt 4).toNat = some (.int k4) ∧ rd h2 199 (Int32.toInt 5).toNat = some (.int k5) ∧ prm 6 k0.toInt k1.toInt k2.toInt k3.toInt k4.toInt k5.toInt ∧ lexV g0.toInt g1.toInt g2.toInt g3.toInt g4.toInt g5.toInt < lexV k0.toInt k1.toInt k2.toInt k3.toInt k4.toInt k5.toInt))) := by
  refine cap_of (d := 0) (M := mX12_nextOrder) rfl (Nat.le_of_ble_eq_true rfl) ?_
  show EvP im_K0 0 mX12_nextOrder (0, [(0, .ref 164), (1, .int 6)], [], h) _
  obtain ⟨q0, q1, q2, q3, q4, q5⟩ := pr0
  have q0 := q0 (by decide)
  have q1 := q1 (by decide)
  have q2 := q2 (by decide)
  have q3 := q3 (by decide)
  have q4 := q4 (by decide)
  have q5 := q5 (by decide)
  have f0 : fr F_X12_nextOrder_6 h h := fr_rf
  refine te_iload_n (p2 := 1) rfl rfl rfl ?_
  refine te_iconst (p2 := 2) (x := 2) rfl rfl (by decide) ?_
  refine te_isub (p2 := 3) (z := 4) rfl rfl (by decide) ?_
  refine te_istore_n (p2 := 4) (lv2 := [(2, .int 4), (0, .ref 164), (1, .int 6)]) rfl rfl (by decide) rfl ?_
  refine te_iload_n (p2 := 5) rfl rfl rfl ?_
  refine tz_lt (p2 := 8) rfl rfl (show Int32.toInt 4 = 4 from rfl) (fun c2 => absurd c2 (by omega)) (fun c2 => ?_)
  refine te_aload_n (p2 := 9) rfl rfl rfl ?_
  refine tg_r (p2 := 12) (i := 148) (r := 215) rfl rfl hI rfl rfl rfl ?_
  refine te_iload_n (p2 := 13) rfl rfl rfl ?_
  refine tl_e (p2 := 14) (i := 199) (n := 6) (t := 0) (Or.inl rfl) rfl rfl hI rfl rfl (by decide) (by decide) hg4 ?_
  refine te_aload_n (p2 := 15) rfl rfl rfl ?_
  refine tg_r (p2 := 18) (i := 148) (r := 215) rfl rfl hI rfl rfl rfl ?_
  refine te_iload_n (p2 := 19) rfl rfl rfl ?_
  refine te_iconst (p2 := 20) (x := 1) rfl rfl (by decide) ?_
  refine te_iadd (p2 := 21) (z := 5) rfl rfl (by decide) ?_
  refine tl_e (p2 := 22) (i := 199) (n := 6) (t := 0) (Or.inl rfl) rfl rfl hI rfl rfl (by decide) (by decide) hg5 ?_
  refine tb_le (p2 := 25) rfl rfl rfl rfl (fun c6 => ?_) (fun c6 => ?_)
  · refine te_iload_n (p2 := 32) rfl rfl rfl ?_
    refine tz_ge (p2 := 35) rfl rfl (show Int32.toInt 4 = 4 from rfl) (fun c7 => ?_) (fun c7 => absurd c7 (by omega))
    refine te_iload_n (p2 := 38) rfl rfl rfl ?_
    refine te_iconst (p2 := 39) (x := 1) rfl rfl (by decide) ?_
    refine te_isub (p2 := 40) (z := 5) rfl rfl (by decide) ?_
    refine te_istore_n (p2 := 41) (lv2 := [(3, .int 5), (2, .int 4), (0, .ref 164), (1, .int 6)]) rfl rfl (by decide) rfl ?_
    refine te_aload_n (p2 := 42) rfl rfl rfl ?_
    refine tg_r (p2 := 45) (i := 148) (r := 215) rfl rfl hI rfl rfl rfl ?_
    refine te_iload_n (p2 := 46) rfl rfl rfl ?_
    refine tl_e (p2 := 47) (i := 199) (n := 6) (t := 0) (Or.inl rfl) rfl rfl hI rfl rfl (by decide) (by decide) hg5 ?_
    refine te_aload_n (p2 := 48) rfl rfl rfl ?_
    refine tg_r (p2 := 51) (i := 148) (r := 215) rfl rfl hI rfl rfl rfl ?_
    refine te_iload_n (p2 := 52) rfl rfl rfl ?_
    refine tl_e (p2 := 53) (i := 199) (n := 6) (t := 0) (Or.inl rfl) rfl rfl hI rfl rfl (by decide) (by decide) hg4 ?_
    refine tb_ge (p2 := 56) rfl rfl rfl rfl (fun c11 => ?_) (fun c11 => ?_)
    · refine te_aload_n (p2 := 63) rfl rfl rfl ?_
      refine tg_r (p2 := 66) (i := 148) (r := 215) rfl rfl hI rfl rfl rfl ?_
      refine te_iload_n (p2 := 67) rfl rfl rfl ?_
      refine tl_e (p2 := 68) (i := 199) (n := 6) (t := 0) (Or.inl rfl) rfl rfl hI rfl rfl (by decide) (by decide) hg4 ?_
      refine te_istore (p2 := 70) (lv2 := [(4, .int g4), (3, .int 5), (2, .int 4), (0, .ref 164), (1, .int 6)]) rfl rfl (by decide) rfl ?_
      refine te_aload_n (p2 := 71) rfl rfl rfl ?_
      refine tg_r (p2 := 74) (i := 148) (r := 215) rfl rfl hI rfl rfl rfl ?_
      refine te_iload_n (p2 := 75) rfl rfl rfl ?_
      refine te_aload_n (p2 := 76) rfl rfl rfl ?_
      refine tg_r (p2 := 79) (i := 148) (r := 215) rfl rfl hI rfl rfl rfl ?_
      refine te_iload_n (p2 := 80) rfl rfl rfl ?_
      refine tl_e (p2 := 81) (i := 199) (n := 6) (t := 0) (Or.inl rfl) rfl rfl hI rfl rfl (by decide) (by decide) hg5 ?_
      refine ts_i (p2 := 82) (i := 199) (n := 6) rfl rfl hI rfl rfl rfl rfl (by decide) (by decide) (by omega) (by omega) (by omega) rfl (fun h14 I14 u14 => ?_)
      have f14 := fr_st (F := F_X12_nextOrder_6) 0 f0 u14 rfl (by decide) (by decide)
      refine te_aload_n (p2 := 83) rfl rfl rfl ?_
      refine tg_r (p2 := 86) (i := 148) (r := 215) rfl rfl I14 rfl rfl rfl ?_
      refine te_iload_n (p2 := 87) rfl rfl rfl ?_
      refine te_iload (p2 := 89) rfl rfl rfl ?_
      refine ts_i (p2 := 90) (i := 199) (n := 6) rfl rfl I14 rfl rfl rfl rfl (by decide) (by decide) (by omega) (by omega) (by omega) rfl (fun h15 I15 u15 => ?_)
      have f15 := fr_st (F := F_X12_nextOrder_6) 0 f14 u15 rfl (by decide) (by decide)
      refine te_iload_n (p2 := 91) rfl rfl rfl ?_
      refine te_iconst (p2 := 92) (x := 1) rfl rfl (by decide) ?_
      refine te_iadd (p2 := 93) (z := 5) rfl rfl (by decide) ?_
      refine te_istore (p2 := 95) (lv2 := [(5, .int 5), (4, .int g4), (3, .int 5), (2, .int 4), (0, .ref 164), (1, .int 6)]) rfl rfl (by decide) rfl ?_
      refine te_iload_n (p2 := 96) rfl rfl rfl ?_
      refine te_iconst (p2 := 97) (x := 1) rfl rfl (by decide) ?_
      refine te_isub (p2 := 98) (z := 5) rfl rfl (by decide) ?_
      refine te_istore (p2 := 100) (lv2 := [(6, .int 5), (5, .int 5), (4, .int g4), (3, .int 5), (2, .int 4), (0, .ref 164), (1, .int 6)]) rfl rfl (by decide) rfl ?_
      refine te_iload (p2 := 102) rfl rfl rfl ?_
      refine te_iload (p2 := 104) rfl rfl rfl ?_
      refine tb_ge (p2 := 107) rfl rfl (show Int32.toInt 5 = 5 from rfl) (show Int32.toInt 5 = 5 from rfl) (fun c18 => ?_) (fun c18 => absurd c18 (by omega))
      refine te_iconst (p2 := 149) (x := 1) rfl rfl (by decide) ?_
      exact te_zret rfl rfl (by decide) ⟨I15, f15, _, rfl, Or.inr ⟨rfl, g0, g1, g2, g3, g5, g4, ((u15.2 _ _ (Or.inr (by decide))).trans ((u14.2 _ _ (Or.inr (by decide))).trans hg0)), ((u15.2 _ _ (Or.inr (by decide))).trans ((u14.2 _ _ (Or.inr (by decide))).trans hg1)), ((u15.2 _ _ (Or.inr (by decide))).trans ((u14.2 _ _ (Or.inr (by decide))).trans hg2)), ((u15.2 _ _ (Or.inr (by decide))).trans ((u14.2 _ _ (Or.inr (by decide))).trans hg3)), ((u15.2 _ _ (Or.inr (by decide))).trans u14.1), u15.1, (by unfold prm; omega), (by unfold lexV; omega)⟩⟩
    · refine te_iinc (p2 := 59) (x := 5) (y := 4) (lv2 := [(3, .int 4), (2, .int 4), (0, .ref 164), (1, .int 6)]) rfl rfl (by decide) rfl (by decide) rfl ?_
      refine te_goto rfl ?_
      refine te_aload_n (p2 := 42) rfl rfl rfl ?_
      refine tg_r (p2 := 45) (i := 148) (r := 215) rfl rfl hI rfl rfl rfl ?_
      refine te_iload_n (p2 := 46) rfl rfl rfl ?_
      refine tl_e (p2 := 47) (i := 199) (n := 6) (t := 0) (Or.inl rfl) rfl rfl hI rfl rfl (by decide) (by decide) hg4 ?_
      refine te_aload_n (p2 := 48) rfl rfl rfl ?_
      refine tg_r (p2 := 51) (i := 148) (r := 215) rfl rfl hI rfl rfl rfl ?_
      refine te_iload_n (p2 := 52) rfl rfl rfl ?_
      refine tl_e (p2 := 53) (i := 199) (n := 6) (t := 0) (Or.inl rfl) rfl rfl hI rfl rfl (by decide) (by decide) hg4 ?_
      refine tb_ge (p2 := 56) rfl rfl rfl rfl (fun c22 => ?_) (fun c22 => absurd c22 (by omega))
      refine te_aload_n (p2 := 63) rfl rfl rfl ?_
      refine tg_r (p2 := 66) (i := 148) (r := 215) rfl rfl hI rfl rfl rfl ?_
      refine te_iload_n (p2 := 67) rfl rfl rfl ?_
      refine tl_e (p2 := 68) (i := 199) (n := 6) (t := 0) (Or.inl rfl) rfl rfl hI rfl rfl (by decide) (by decide) hg4 ?_
      refine te_istore (p2 := 70) (lv2 := [(4, .int g4), (3, .int 4), (2, .int 4), (0, .ref 164), (1, .int 6)]) rfl rfl (by decide) rfl ?_
      refine te_aload_n (p2 := 71) rfl rfl rfl ?_
      refine tg_r (p2 := 74) (i := 148) (r := 215) rfl rfl hI rfl rfl rfl ?_
      refine te_iload_n (p2 := 75) rfl rfl rfl ?_
      refine te_aload_n (p2 := 76) rfl rfl rfl ?_
      refine tg_r (p2 := 79) (i := 148) (r := 215) rfl rfl hI rfl rfl rfl ?_
      refine te_iload_n (p2 := 80) rfl rfl rfl ?_
      refine tl_e (p2 := 81) (i := 199) (n := 6) (t := 0) (Or.inl rfl) rfl rfl hI rfl rfl (by decide) (by decide) hg4 ?_
      refine ts_i (p2 := 82) (i := 199) (n := 6) rfl rfl hI rfl rfl rfl rfl (by decide) (by decide) (by omega) (by omega) (by omega) rfl (fun h25 I25 u25 => ?_)
      have f25 := fr_st (F := F_X12_nextOrder_6) 0 f0 u25 rfl (by decide) (by decide)
      refine te_aload_n (p2 := 83) rfl rfl rfl ?_
      refine tg_r (p2 := 86) (i := 148) (r := 215) rfl rfl I25 rfl rfl rfl ?_
      refine te_iload_n (p2 := 87) rfl rfl rfl ?_
      refine te_iload (p2 := 89) rfl rfl rfl ?_
      refine ts_i (p2 := 90) (i := 199) (n := 6) rfl rfl I25 rfl rfl rfl rfl (by decide) (by decide) (by omega) (by omega) (by omega) rfl (fun h26 I26 u26 => ?_)
      have f26 := fr_st (F := F_X12_nextOrder_6) 0 f25 u26 rfl (by decide) (by decide)
      refine te_iload_n (p2 := 91) rfl rfl rfl ?_
      refine te_iconst (p2 := 92) (x := 1) rfl rfl (by decide) ?_
      refine te_iadd (p2 := 93) (z := 5) rfl rfl (by decide) ?_
      refine te_istore (p2 := 95) (lv2 := [(5, .int 5), (4, .int g4), (3, .int 4), (2, .int 4), (0, .ref 164), (1, .int 6)]) rfl rfl (by decide) rfl ?_
      refine te_iload_n (p2 := 96) rfl rfl rfl ?_
      refine te_iconst (p2 := 97) (x := 1) rfl rfl (by decide) ?_
      refine te_isub (p2 := 98) (z := 5) rfl rfl (by decide) ?_
      refine te_istore (p2 := 100) (lv2 := [(6, .int 5), (5, .int 5), (4, .int g4), (3, .int 4), (2, .int 4), (0, .ref 164), (1, .int 6)]) rfl rfl (by decide) rfl ?_
      refine te_iload (p2 := 102) rfl rfl rfl ?_
      refine te_iload (p2 := 104) rfl rfl rfl ?_
      refine tb_ge (p2 := 107) rfl rfl (show Int32.toInt 5 = 5 from rfl) (show Int32.toInt 5 = 5 from rfl) (fun c29 => ?_) (fun c29 => absurd c29 (by omega))
      refine te_iconst (p2 := 149) (x := 1) rfl rfl (by decide) ?_
      exact te_zret rfl rfl (by decide) ⟨I26, f26, _, rfl, Or.inr ⟨rfl, g0, g1, g2, g3, g4, g5, ((u26.2 _ _ (Or.inr (by decide))).trans ((u25.2 _ _ (Or.inr (by decide))).trans hg0)), ((u26.2 _ _ (Or.inr (by decide))).trans ((u25.2 _ _ (Or.inr (by decide))).trans hg1)), ((u26.2 _ _ (Or.inr (by decide))).trans ((u25.2 _ _ (Or.inr (by decide))).trans hg2)), ((u26.2 _ _ (Or.inr (by decide))).trans ((u25.2 _ _ (Or.inr (by decide))).trans hg3)), u26.1, ((u26.2 _ _ (Or.inr (by decide))).trans ((u25.2 _ _ (Or.inr (by decide))).trans hg5)), (by unfold prm; omega), (by unfold lexV; omega)⟩⟩
  · refine te_iinc (p2 := 28) (x := 4) (y := 3) (lv2 := [(2, .int 3), (0, .ref 164), (1, .int 6)]) rfl rfl (by decide) rfl (by decide) rfl ?_
    refine te_goto rfl ?_
    refine te_iload_n (p2 := 5) rfl rfl rfl ?_
    refine tz_lt (p2 := 8) rfl rfl (show Int32.toInt 3 = 3 from rfl) (fun c31 => absurd c31 (by omega)) (fun c31 => ?_)
    refine te_aload_n (p2 := 9) rfl rfl rfl ?_
    refine tg_r (p2 := 12) (i := 148) (r := 215) rfl rfl hI rfl rfl rfl ?_
    refine te_iload_n (p2 := 13) rfl rfl rfl ?_
    refine tl_e (p2 := 14) (i := 199) (n := 6) (t := 0) (Or.inl rfl) rfl rfl hI rfl rfl (by decide) (by decide) hg3 ?_
    refine te_aload_n (p2 := 15) rfl rfl rfl ?_
    refine tg_r (p2 := 18) (i := 148) (r := 215) rfl rfl hI rfl rfl rfl ?_
    refine te_iload_n (p2 := 19) rfl rfl rfl ?_
    refine te_iconst (p2 := 20) (x := 1) rfl rfl (by decide) ?_
    refine te_iadd (p2 := 21) (z := 4) rfl rfl (by decide) ?_
    refine tl_e (p2 := 22) (i := 199) (n := 6) (t := 0) (Or.inl rfl) rfl rfl hI rfl rfl (by decide) (by decide) hg4 ?_
    refine tb_le (p2 := 25) rfl rfl rfl rfl (fun c35 => ?_) (fun c35 => ?_)
    · refine te_iload_n (p2 := 32) rfl rfl rfl ?_
      refine tz_ge (p2 := 35) rfl rfl (show Int32.toInt 3 = 3 from rfl) (fun c36 => ?_) (fun c36 => absurd c36 (by omega))
      refine te_iload_n (p2 := 38) rfl rfl rfl ?_
      refine te_iconst (p2 := 39) (x := 1) rfl rfl (by decide) ?_
      refine te_isub (p2 := 40) (z := 5) rfl rfl (by decide) ?_
      refine te_istore_n (p2 := 41) (lv2 := [(3, .int 5), (2, .int 3), (0, .ref 164), (1, .int 6)]) rfl rfl (by decide) rfl ?_
      refine te_aload_n (p2 := 42) rfl rfl rfl ?_
      refine tg_r (p2 := 45) (i := 148) (r := 215) rfl rfl hI rfl rfl rfl ?_
      refine te_iload_n (p2 := 46) rfl rfl rfl ?_
      refine tl_e (p2 := 47) (i := 199) (n := 6) (t := 0) (Or.inl rfl) rfl rfl hI rfl rfl (by decide) (by decide) hg5 ?_
      refine te_aload_n (p2 := 48) rfl rfl rfl ?_
      refine tg_r (p2 := 51) (i := 148) (r := 215) rfl rfl hI rfl rfl rfl ?_
      refine te_iload_n (p2 := 52) rfl rfl rfl ?_
      refine tl_e (p2 := 53) (i := 199) (n := 6) (t := 0) (Or.inl rfl) rfl rfl hI rfl rfl (by decide) (by decide) hg3 ?_
      refine tb_ge (p2 := 56) rfl rfl rfl rfl (fun c40 => ?_) (fun c40 => ?_)
      · refine te_aload_n (p2 := 63) rfl rfl rfl ?_
        refine tg_r (p2 := 66) (i := 148) (r := 215) rfl rfl hI rfl rfl rfl ?_
        refine te_iload_n (p2 := 67) rfl rfl rfl ?_
        refine tl_e (p2 := 68) (i := 199) (n := 6) (t := 0) (Or.inl rfl) rfl rfl hI rfl rfl (by decide) (by decide) hg3 ?_
        refine te_istore (p2 := 70) (lv2 := [(4, .int g3), (3, .int 5), (2, .int 3), (0, .ref 164), (1, .int 6)]) rfl rfl (by decide) rfl ?_
        refine te_aload_n (p2 := 71) rfl rfl rfl ?_
        refine tg_r (p2 := 74) (i := 148) (r := 215) rfl rfl hI rfl rfl rfl ?_
        refine te_iload_n (p2 := 75) rfl rfl rfl ?_
        refine te_aload_n (p2 := 76) rfl rfl rfl ?_
        refine tg_r (p2 := 79) (i := 148) (r := 215) rfl rfl hI rfl rfl rfl ?_
        refine te_iload_n (p2 := 80) rfl rfl rfl ?_
        refine tl_e (p2 := 81) (i := 199) (n := 6) (t := 0) (Or.inl rfl) rfl rfl hI rfl rfl (by decide) (by decide) hg5 ?_
        refine ts_i (p2 := 82) (i := 199) (n := 6) rfl rfl hI rfl rfl rfl rfl (by decide) (by decide) (by omega) (by omega) (by omega) rfl (fun h43 I43 u43 => ?_)
        have f43 := fr_st (F := F_X12_nextOrder_6) 0 f0 u43 rfl (by decide) (by decide)
        refine te_aload_n (p2 := 83) rfl rfl rfl ?_
        refine tg_r (p2 := 86) (i := 148) (r := 215) rfl rfl I43 rfl rfl rfl ?_
        refine te_iload_n (p2 := 87) rfl rfl rfl ?_
        refine te_iload (p2 := 89) rfl rfl rfl ?_
        refine ts_i (p2 := 90) (i := 199) (n := 6) rfl rfl I43 rfl rfl rfl rfl (by decide) (by decide) (by omega) (by omega) (by omega) rfl (fun h44 I44 u44 => ?_)
        have f44 := fr_st (F := F_X12_nextOrder_6) 0 f43 u44 rfl (by decide) (by decide)
        refine te_iload_n (p2 := 91) rfl rfl rfl ?_
        refine te_iconst (p2 := 92) (x := 1) rfl rfl (by decide) ?_
        refine te_iadd (p2 := 93) (z := 4) rfl rfl (by decide) ?_
        refine te_istore (p2 := 95) (lv2 := [(5, .int 4), (4, .int g3), (3, .int 5), (2, .int 3), (0, .ref 164), (1, .int 6)]) rfl rfl (by decide) rfl ?_
        refine te_iload_n (p2 := 96) rfl rfl rfl ?_
        refine te_iconst (p2 := 97) (x := 1) rfl rfl (by decide) ?_
        refine te_isub (p2 := 98) (z := 5) rfl rfl (by decide) ?_
        refine te_istore (p2 := 100) (lv2 := [(6, .int 5), (5, .int 4), (4, .int g3), (3, .int 5), (2, .int 3), (0, .ref 164), (1, .int 6)]) rfl rfl (by decide) rfl ?_
        refine te_iload (p2 := 102) rfl rfl rfl ?_
        refine te_iload (p2 := 104) rfl rfl rfl ?_
        refine tb_ge (p2 := 107) rfl rfl (show Int32.toInt 4 = 4 from rfl) (show Int32.toInt 5 = 5 from rfl) (fun c47 => absurd c47 (by omega)) (fun c47 => ?_)
        refine te_aload_n (p2 := 108) rfl rfl rfl ?_
        refine tg_r (p2 := 111) (i := 148) (r := 215) rfl rfl I44 rfl rfl rfl ?_
        refine te_iload (p2 := 113) rfl rfl rfl ?_
        refine tl_e (p2 := 114) (i := 199) (n := 6) (t := 0) (Or.inl rfl) rfl rfl I44 rfl rfl (by decide) (by decide) ((u44.2 _ _ (Or.inr (by decide))).trans ((u43.2 _ _ (Or.inr (by decide))).trans hg4)) ?_
        refine te_istore (p2 := 116) (lv2 := [(7, .int g4), (6, .int 5), (5, .int 4), (4, .int g3), (3, .int 5), (2, .int 3), (0, .ref 164), (1, .int 6)]) rfl rfl (by decide) rfl ?_
        refine te_aload_n (p2 := 117) rfl rfl rfl ?_
        refine tg_r (p2 := 120) (i := 148) (r := 215) rfl rfl I44 rfl rfl rfl ?_
        refine te_iload (p2 := 122) rfl rfl rfl ?_
        refine te_aload_n (p2 := 123) rfl rfl rfl ?_
        refine tg_r (p2 := 126) (i := 148) (r := 215) rfl rfl I44 rfl rfl rfl ?_
        refine te_iload (p2 := 128) rfl rfl rfl ?_
        refine tl_e (p2 := 129) (i := 199) (n := 6) (t := 0) (Or.inl rfl) rfl rfl I44 rfl rfl (by decide) (by decide) u44.1 ?_
        refine ts_i (p2 := 130) (i := 199) (n := 6) rfl rfl I44 rfl rfl rfl rfl (by decide) (by decide) (by omega) (by omega) (by omega) rfl (fun h50 I50 u50 => ?_)
        have f50 := fr_st (F := F_X12_nextOrder_6) 0 f44 u50 rfl (by decide) (by decide)
        refine te_aload_n (p2 := 131) rfl rfl rfl ?_
        refine tg_r (p2 := 134) (i := 148) (r := 215) rfl rfl I50 rfl rfl rfl ?_
        refine te_iload (p2 := 136) rfl rfl rfl ?_
        refine te_iload (p2 := 138) rfl rfl rfl ?_
        refine ts_i (p2 := 139) (i := 199) (n := 6) rfl rfl I50 rfl rfl rfl rfl (by decide) (by decide) (by omega) (by omega) (by omega) rfl (fun h51 I51 u51 => ?_)
        have f51 := fr_st (F := F_X12_nextOrder_6) 0 f50 u51 rfl (by decide) (by decide)
        refine te_iinc (p2 := 142) (x := 5) (y := 4) (lv2 := [(6, .int 4), (7, .int g4), (5, .int 4), (4, .int g3), (3, .int 5), (2, .int 3), (0, .ref 164), (1, .int 6)]) rfl rfl (by decide) rfl (by decide) rfl ?_
        refine te_iinc (p2 := 145) (x := 4) (y := 5) (lv2 := [(5, .int 5), (6, .int 4), (7, .int g4), (4, .int g3), (3, .int 5), (2, .int 3), (0, .ref 164), (1, .int 6)]) rfl rfl (by decide) rfl (by decide) rfl ?_
        refine te_goto rfl ?_
        refine te_iload (p2 := 102) rfl rfl rfl ?_
        refine te_iload (p2 := 104) rfl rfl rfl ?_
        refine tb_ge (p2 := 107) rfl rfl (show Int32.toInt 5 = 5 from rfl) (show Int32.toInt 4 = 4 from rfl) (fun c54 => ?_) (fun c54 => absurd c54 (by omega))
        refine te_iconst (p2 := 149) (x := 1) rfl rfl (by decide) ?_
        exact te_zret rfl rfl (by decide) ⟨I51, f51, _, rfl, Or.inr ⟨rfl, g0, g1, g2, g5, g3, g4, ((u51.2 _ _ (Or.inr (by decide))).trans ((u50.2 _ _ (Or.inr (by decide))).trans ((u44.2 _ _ (Or.inr (by decide))).trans ((u43.2 _ _ (Or.inr (by decide))).trans hg0)))), ((u51.2 _ _ (Or.inr (by decide))).trans ((u50.2 _ _ (Or.inr (by decide))).trans ((u44.2 _ _ (Or.inr (by decide))).trans ((u43.2 _ _ (Or.inr (by decide))).trans hg1)))), ((u51.2 _ _ (Or.inr (by decide))).trans ((u50.2 _ _ (Or.inr (by decide))).trans ((u44.2 _ _ (Or.inr (by decide))).trans ((u43.2 _ _ (Or.inr (by decide))).trans hg2)))), ((u51.2 _ _ (Or.inr (by decide))).trans ((u50.2 _ _ (Or.inr (by decide))).trans ((u44.2 _ _ (Or.inr (by decide))).trans u43.1))), ((u51.2 _ _ (Or.inr (by decide))).trans u50.1), u51.1, (by unfold prm; omega), (by unfold lexV; omega)⟩⟩
      · refine te_iinc (p2 := 59) (x := 5) (y := 4) (lv2 := [(3, .int 4), (2, .int 3), (0, .ref 164), (1, .int 6)]) rfl rfl (by decide) rfl (by decide) rfl ?_
        refine te_goto rfl ?_
        refine te_aload_n (p2 := 42) rfl rfl rfl ?_
        refine tg_r (p2 := 45) (i := 148) (r := 215) rfl rfl hI rfl rfl rfl ?_
        refine te_iload_n (p2 := 46) rfl rfl rfl ?_
        refine tl_e (p2 := 47) (i := 199) (n := 6) (t := 0) (Or.inl rfl) rfl rfl hI rfl rfl (by decide) (by decide) hg4 ?_
        refine te_aload_n (p2 := 48) rfl rfl rfl ?_
        refine tg_r (p2 := 51) (i := 148) (r := 215) rfl rfl hI rfl rfl rfl ?_
        refine te_iload_n (p2 := 52) rfl rfl rfl ?_
        refine tl_e (p2 := 53) (i := 199) (n := 6) (t := 0) (Or.inl rfl) rfl rfl hI rfl rfl (by decide) (by decide) hg3 ?_
        refine tb_ge (p2 := 56) rfl rfl rfl rfl (fun c58 => ?_) (fun c58 => ?_)
        · refine te_aload_n (p2 := 63) rfl rfl rfl ?_
          refine tg_r (p2 := 66) (i := 148) (r := 215) rfl rfl hI rfl rfl rfl ?_
          refine te_iload_n (p2 := 67) rfl rfl rfl ?_
          refine tl_e (p2 := 68) (i := 199) (n := 6) (t := 0) (Or.inl rfl) rfl rfl hI rfl rfl (by decide) (by decide) hg3 ?_
          refine te_istore (p2 := 70) (lv2 := [(4, .int g3), (3, .int 4), (2, .int 3), (0, .ref 164), (1, .int 6)]) rfl rfl (by decide) rfl ?_
          refine te_aload_n (p2 := 71) rfl rfl rfl ?_
          refine tg_r (p2 := 74) (i := 148) (r := 215) rfl rfl hI rfl rfl rfl ?_
          refine te_iload_n (p2 := 75) rfl rfl rfl ?_
          refine te_aload_n (p2 := 76) rfl rfl rfl ?_
          refine tg_r (p2 := 79) (i := 148) (r := 215) rfl rfl hI rfl rfl rfl ?_
          refine te_iload_n (p2 := 80) rfl rfl rfl ?_
          refine tl_e (p2 := 81) (i := 199) (n := 6) (t := 0) (Or.inl rfl) rfl rfl hI rfl rfl (by decide) (by decide) hg4 ?_
          refine ts_i (p2 := 82) (i := 199) (n := 6) rfl rfl hI rfl rfl rfl rfl (by decide) (by decide) (by omega) (by omega) (by omega) rfl (fun h61 I61 u61 => ?_)
          have f61 := fr_st (F := F_X12_nextOrder_6) 0 f0 u61 rfl (by decide) (by decide)
          refine te_aload_n (p2 := 83) rfl rfl rfl ?_
          refine tg_r (p2 := 86) (i := 148) (r := 215) rfl rfl I61 rfl rfl rfl ?_
          refine te_iload_n (p2 := 87) rfl rfl rfl ?_
          refine te_iload (p2 := 89) rfl rfl rfl ?_
          refine ts_i (p2 := 90) (i := 199) (n := 6) rfl rfl I61 rfl rfl rfl rfl (by decide) (by decide) (by omega) (by omega) (by omega) rfl (fun h62 I62 u62 => ?_)
          have f62 := fr_st (F := F_X12_nextOrder_6) 0 f61 u62 rfl (by decide) (by decide)
          refine te_iload_n (p2 := 91) rfl rfl rfl ?_
          refine te_iconst (p2 := 92) (x := 1) rfl rfl (by decide) ?_
          refine te_iadd (p2 := 93) (z := 4) rfl rfl (by decide) ?_
          refine te_istore (p2 := 95) (lv2 := [(5, .int 4), (4, .int g3), (3, .int 4), (2, .int 3), (0, .ref 164), (1, .int 6)]) rfl rfl (by decide) rfl ?_
          refine te_iload_n (p2 := 96) rfl rfl rfl ?_
          refine te_iconst (p2 := 97) (x := 1) rfl rfl (by decide) ?_
          refine te_isub (p2 := 98) (z := 5) rfl rfl (by decide) ?_
          refine te_istore (p2 := 100) (lv2 := [(6, .int 5), (5, .int 4), (4, .int g3), (3, .int 4), (2, .int 3), (0, .ref 164), (1, .int 6)]) rfl rfl (by decide) rfl ?_
          refine te_iload (p2 := 102) rfl rfl rfl ?_
          refine te_iload (p2 := 104) rfl rfl rfl ?_
          refine tb_ge (p2 := 107) rfl rfl (show Int32.toInt 4 = 4 from rfl) (show Int32.toInt 5 = 5 from rfl) (fun c65 => absurd c65 (by omega)) (fun c65 => ?_)
          refine te_aload_n (p2 := 108) rfl rfl rfl ?_
          refine tg_r (p2 := 111) (i := 148) (r := 215) rfl rfl I62 rfl rfl rfl ?_
          refine te_iload (p2 := 113) rfl rfl rfl ?_
          refine tl_e (p2 := 114) (i := 199) (n := 6) (t := 0) (Or.inl rfl) rfl rfl I62 rfl rfl (by decide) (by decide) u62.1 ?_
          refine te_istore (p2 := 116) (lv2 := [(7, .int g3), (6, .int 5), (5, .int 4), (4, .int g3), (3, .int 4), (2, .int 3), (0, .ref 164), (1, .int 6)]) rfl rfl (by decide) rfl ?_
          refine te_aload_n (p2 := 117) rfl rfl rfl ?_
          refine tg_r (p2 := 120) (i := 148) (r := 215) rfl rfl I62 rfl rfl rfl ?_
          refine te_iload (p2 := 122) rfl rfl rfl ?_
          refine te_aload_n (p2 := 123) rfl rfl rfl ?_
          refine tg_r (p2 := 126) (i := 148) (r := 215) rfl rfl I62 rfl rfl rfl ?_
          refine te_iload (p2 := 128) rfl rfl rfl ?_
          refine tl_e (p2 := 129) (i := 199) (n := 6) (t := 0) (Or.inl rfl) rfl rfl I62 rfl rfl (by decide) (by decide) ((u62.2 _ _ (Or.inr (by decide))).trans ((u61.2 _ _ (Or.inr (by decide))).trans hg5)) ?_
          refine ts_i (p2 := 130) (i := 199) (n := 6) rfl rfl I62 rfl rfl rfl rfl (by decide) (by decide) (by omega) (by omega) (by omega) rfl (fun h68 I68 u68 => ?_)
          have f68 := fr_st (F := F_X12_nextOrder_6) 0 f62 u68 rfl (by decide) (by decide)
          refine te_aload_n (p2 := 131) rfl rfl rfl ?_
          refine tg_r (p2 := 134) (i := 148) (r := 215) rfl rfl I68 rfl rfl rfl ?_
          refine te_iload (p2 := 136) rfl rfl rfl ?_
          refine te_iload (p2 := 138) rfl rfl rfl ?_
          refine ts_i (p2 := 139) (i := 199) (n := 6) rfl rfl I68 rfl rfl rfl rfl (by decide) (by decide) (by omega) (by omega) (by omega) rfl (fun h69 I69 u69 => ?_)
          have f69 := fr_st (F := F_X12_nextOrder_6) 0 f68 u69 rfl (by decide) (by decide)
          refine te_iinc (p2 := 142) (x := 5) (y := 4) (lv2 := [(6, .int 4), (7, .int g3), (5, .int 4), (4, .int g3), (3, .int 4), (2, .int 3), (0, .ref 164), (1, .int 6)]) rfl rfl (by decide) rfl (by decide) rfl ?_
          refine te_iinc (p2 := 145) (x := 4) (y := 5) (lv2 := [(5, .int 5), (6, .int 4), (7, .int g3), (4, .int g3), (3, .int 4), (2, .int 3), (0, .ref 164), (1, .int 6)]) rfl rfl (by decide) rfl (by decide) rfl ?_
          refine te_goto rfl ?_
          refine te_iload (p2 := 102) rfl rfl rfl ?_
          refine te_iload (p2 := 104) rfl rfl rfl ?_
          refine tb_ge (p2 := 107) rfl rfl (show Int32.toInt 5 = 5 from rfl) (show Int32.toInt 4 = 4 from rfl) (fun c72 => ?_) (fun c72 => absurd c72 (by omega))
          refine te_iconst (p2 := 149) (x := 1) rfl rfl (by decide) ?_
          exact te_zret rfl rfl (by decide) ⟨I69, f69, _, rfl, Or.inr ⟨rfl, g0, g1, g2, g4, g5, g3, ((u69.2 _ _ (Or.inr (by decide))).trans ((u68.2 _ _ (Or.inr (by decide))).trans ((u62.2 _ _ (Or.inr (by decide))).trans ((u61.2 _ _ (Or.inr (by decide))).trans hg0)))), ((u69.2 _ _ (Or.inr (by decide))).trans ((u68.2 _ _ (Or.inr (by decide))).trans ((u62.2 _ _ (Or.inr (by decide))).trans ((u61.2 _ _ (Or.inr (by decide))).trans hg1)))), ((u69.2 _ _ (Or.inr (by decide))).trans ((u68.2 _ _ (Or.inr (by decide))).trans ((u62.2 _ _ (Or.inr (by decide))).trans ((u61.2 _ _ (Or.inr (by decide))).trans hg2)))), ((u69.2 _ _ (Or.inr (by decide))).trans ((u68.2 _ _ (Or.inr (by decide))).trans ((u62.2 _ _ (Or.inr (by decide))).trans u61.1))), ((u69.2 _ _ (Or.inr (by decide))).trans u68.1), u69.1, (by unfold prm; omega), (by unfold lexV; omega)⟩⟩
        · refine te_iinc (p2 := 59) (x := 4) (y := 3) (lv2 := [(3, .int 3), (2, .int 3), (0, .ref 164), (1, .int 6)]) rfl rfl (by decide) rfl (by decide) rfl ?_
          refine te_goto rfl ?_
          refine te_aload_n (p2 := 42) rfl rfl rfl ?_
          refine tg_r (p2 := 45) (i := 148) (r := 215) rfl rfl hI rfl rfl rfl ?_
          refine te_iload_n (p2 := 46) rfl rfl rfl ?_
          refine tl_e (p2 := 47) (i := 199) (n := 6) (t := 0) (Or.inl rfl) rfl rfl hI rfl rfl (by decide) (by decide) hg3 ?_
          refine te_aload_n (p2 := 48) rfl rfl rfl ?_
          refine tg_r (p2 := 51) (i := 148) (r := 215) rfl rfl hI rfl rfl rfl ?_
          refine te_iload_n (p2 := 52) rfl rfl rfl ?_
          refine tl_e (p2 := 53) (i := 199) (n := 6) (t := 0) (Or.inl rfl) rfl rfl hI rfl rfl (by decide) (by decide) hg3 ?_
          refine tb_ge (p2 := 56) rfl rfl rfl rfl (fun c76 => ?_) (fun c76 => absurd c76 (by omega))
          refine te_aload_n (p2 := 63) rfl rfl rfl ?_
          refine tg_r (p2 := 66) (i := 148) (r := 215) rfl rfl hI rfl rfl rfl ?_
          refine te_iload_n (p2 := 67) rfl rfl rfl ?_
          refine tl_e (p2 := 68) (i := 199) (n := 6) (t := 0) (Or.inl rfl) rfl rfl hI rfl rfl (by decide) (by decide) hg3 ?_
          refine te_istore (p2 := 70) (lv2 := [(4, .int g3), (3, .int 3), (2, .int 3), (0, .ref 164), (1, .int 6)]) rfl rfl (by decide) rfl ?_
          refine te_aload_n (p2 := 71) rfl rfl rfl ?_
          refine tg_r (p2 := 74) (i := 148) (r := 215) rfl rfl hI rfl rfl rfl ?_
          refine te_iload_n (p2 := 75) rfl rfl rfl ?_
          refine te_aload_n (p2 := 76) rfl rfl rfl ?_
          refine tg_r (p2 := 79) (i := 148) (r := 215) rfl rfl hI rfl rfl rfl ?_
          refine te_iload_n (p2 := 80) rfl rfl rfl ?_
          refine tl_e (p2 := 81) (i := 199) (n := 6) (t := 0) (Or.inl rfl) rfl rfl hI rfl rfl (by decide) (by decide) hg3 ?_
          refine ts_i (p2 := 82) (i := 199) (n := 6) rfl rfl hI rfl rfl rfl rfl (by decide) (by decide) (by omega) (by omega) (by omega) rfl (fun h79 I79 u79 => ?_)
          have f79 := fr_st (F := F_X12_nextOrder_6) 0 f0 u79 rfl (by decide) (by decide)
          refine te_aload_n (p2 := 83) rfl rfl rfl ?_
          refine tg_r (p2 := 86) (i := 148) (r := 215) rfl rfl I79 rfl rfl rfl ?_
          refine te_iload_n (p2 := 87) rfl rfl rfl ?_
          refine te_iload (p2 := 89) rfl rfl rfl ?_
          refine ts_i (p2 := 90) (i := 199) (n := 6) rfl rfl I79 rfl rfl rfl rfl (by decide) (by decide) (by omega) (by omega) (by omega) rfl (fun h80 I80 u80 => ?_)
          have f80 := fr_st (F := F_X12_nextOrder_6) 0 f79 u80 rfl (by decide) (by decide)
          refine te_iload_n (p2 := 91) rfl rfl rfl ?_
          refine te_iconst (p2 := 92) (x := 1) rfl rfl (by decide) ?_
          refine te_iadd (p2 := 93) (z := 4) rfl rfl (by decide) ?_
          refine te_istore (p2 := 95) (lv2 := [(5, .int 4), (4, .int g3), (3, .int 3), (2, .int 3), (0, .ref 164), (1, .int 6)]) rfl rfl (by decide) rfl ?_
          refine te_iload_n (p2 := 96) rfl rfl rfl ?_
          refine te_iconst (p2 := 97) (x := 1) rfl rfl (by decide) ?_
          refine te_isub (p2 := 98) (z := 5) rfl rfl (by decide) ?_
          refine te_istore (p2 := 100) (lv2 := [(6, .int 5), (5, .int 4), (4, .int g3), (3, .int 3), (2, .int 3), (0, .ref 164), (1, .int 6)]) rfl rfl (by decide) rfl ?_
          refine te_iload (p2 := 102) rfl rfl rfl ?_
          refine te_iload (p2 := 104) rfl rfl rfl ?_
          refine tb_ge (p2 := 107) rfl rfl (show Int32.toInt 4 = 4 from rfl) (show Int32.toInt 5 = 5 from rfl) (fun c83 => absurd c83 (by omega)) (fun c83 => ?_)
          refine te_aload_n (p2 := 108) rfl rfl rfl ?_
          refine tg_r (p2 := 111) (i := 148) (r := 215) rfl rfl I80 rfl rfl rfl ?_
          refine te_iload (p2 := 113) rfl rfl rfl ?_
          refine tl_e (p2 := 114) (i := 199) (n := 6) (t := 0) (Or.inl rfl) rfl rfl I80 rfl rfl (by decide) (by decide) ((u80.2 _ _ (Or.inr (by decide))).trans ((u79.2 _ _ (Or.inr (by decide))).trans hg4)) ?_
          refine te_istore (p2 := 116) (lv2 := [(7, .int g4), (6, .int 5), (5, .int 4), (4, .int g3), (3, .int 3), (2, .int 3), (0, .ref 164), (1, .int 6)]) rfl rfl (by decide) rfl ?_
          refine te_aload_n (p2 := 117) rfl rfl rfl ?_
          refine tg_r (p2 := 120) (i := 148) (r := 215) rfl rfl I80 rfl rfl rfl ?_
          refine te_iload (p2 := 122) rfl rfl rfl ?_
          refine te_aload_n (p2 := 123) rfl rfl rfl ?_
          refine tg_r (p2 := 126) (i := 148) (r := 215) rfl rfl I80 rfl rfl rfl ?_
          refine te_iload (p2 := 128) rfl rfl rfl ?_
          refine tl_e (p2 := 129) (i := 199) (n := 6) (t := 0) (Or.inl rfl) rfl rfl I80 rfl rfl (by decide) (by decide) ((u80.2 _ _ (Or.inr (by decide))).trans ((u79.2 _ _ (Or.inr (by decide))).trans hg5)) ?_
          refine ts_i (p2 := 130) (i := 199) (n := 6) rfl rfl I80 rfl rfl rfl rfl (by decide) (by decide) (by omega) (by omega) (by omega) rfl (fun h86 I86 u86 => ?_)
          have f86 := fr_st (F := F_X12_nextOrder_6) 0 f80 u86 rfl (by decide) (by decide)
          refine te_aload_n (p2 := 131) rfl rfl rfl ?_
          refine tg_r (p2 := 134) (i := 148) (r := 215) rfl rfl I86 rfl rfl rfl ?_
          refine te_iload (p2 := 136) rfl rfl rfl ?_
          refine te_iload (p2 := 138) rfl rfl rfl ?_
          refine ts_i (p2 := 139) (i := 199) (n := 6) rfl rfl I86 rfl rfl rfl rfl (by decide) (by decide) (by omega) (by omega) (by omega) rfl (fun h87 I87 u87 => ?_)
          have f87 := fr_st (F := F_X12_nextOrder_6) 0 f86 u87 rfl (by decide) (by decide)
          refine te_iinc (p2 := 142) (x := 5) (y := 4) (lv2 := [(6, .int 4), (7, .int g4), (5, .int 4), (4, .int g3), (3, .int 3), (2, .int 3), (0, .ref 164), (1, .int 6)]) rfl rfl (by decide) rfl (by decide) rfl ?_
          refine te_iinc (p2 := 145) (x := 4) (y := 5) (lv2 := [(5, .int 5), (6, .int 4), (7, .int g4), (4, .int g3), (3, .int 3), (2, .int 3), (0, .ref 164), (1, .int 6)]) rfl rfl (by decide) rfl (by decide) rfl ?_
          refine te_goto rfl ?_
          refine te_iload (p2 := 102) rfl rfl rfl ?_
          refine te_iload (p2 := 104) rfl rfl rfl ?_
          refine tb_ge (p2 := 107) rfl rfl (show Int32.toInt 5 = 5 from rfl) (show Int32.toInt 4 = 4 from rfl) (fun c90 => ?_) (fun c90 => absurd c90 (by omega))
          refine te_iconst (p2 := 149) (x := 1) rfl rfl (by decide) ?_
          exact te_zret rfl rfl (by decide) ⟨I87, f87, _, rfl, Or.inr ⟨rfl, g0, g1, g2, g3, g5, g4, ((u87.2 _ _ (Or.inr (by decide))).trans ((u86.2 _ _ (Or.inr (by decide))).trans ((u80.2 _ _ (Or.inr (by decide))).trans ((u79.2 _ _ (Or.inr (by decide))).trans hg0)))), ((u87.2 _ _ (Or.inr (by decide))).trans ((u86.2 _ _ (Or.inr (by decide))).trans ((u80.2 _ _ (Or.inr (by decide))).trans ((u79.2 _ _ (Or.inr (by decide))).trans hg1)))), ((u87.2 _ _ (Or.inr (by decide))).trans ((u86.2 _ _ (Or.inr (by decide))).trans ((u80.2 _ _ (Or.inr (by decide))).trans ((u79.2 _ _ (Or.inr (by decide))).trans hg2)))), ((u87.2 _ _ (Or.inr (by decide))).trans ((u86.2 _ _ (Or.inr (by decide))).trans u80.1)), ((u87.2 _ _ (Or.inr (by decide))).trans u86.1), u87.1, (by unfold prm; omega), (by unfold lexV; omega)⟩⟩
    · refine te_iinc (p2 := 28) (x := 3) (y := 2) (lv2 := [(2, .int 2), (0, .ref 164), (1, .int 6)]) rfl rfl (by decide) rfl (by decide) rfl ?_
      refine te_goto rfl ?_
      refine te_iload_n (p2 := 5) rfl rfl rfl ?_
      refine tz_lt (p2 := 8) rfl rfl (show Int32.toInt 2 = 2 from rfl) (fun c92 => absurd c92 (by omega)) (fun c92 => ?_)
      refine te_aload_n (p2 := 9) rfl rfl rfl ?_
      refine tg_r (p2 := 12) (i := 148) (r := 215) rfl rfl hI rfl rfl rfl ?_
      refine te_iload_n (p2 := 13) rfl rfl rfl ?_
      refine tl_e (p2 := 14) (i := 199) (n := 6) (t := 0) (Or.inl rfl) rfl rfl hI rfl rfl (by decide) (by decide) hg2 ?_
      refine te_aload_n (p2 := 15) rfl rfl rfl ?_
      refine tg_r (p2 := 18) (i := 148) (r := 215) rfl rfl hI rfl rfl rfl ?_
      refine te_iload_n (p2 := 19) rfl rfl rfl ?_
      refine te_iconst (p2 := 20) (x := 1) rfl rfl (by decide) ?_
      refine te_iadd (p2 := 21) (z := 3) rfl rfl (by decide) ?_
      refine tl_e (p2 := 22) (i := 199) (n := 6) (t := 0) (Or.inl rfl) rfl rfl hI rfl rfl (by decide) (by decide) hg3 ?_
      refine tb_le (p2 := 25) rfl rfl rfl rfl (fun c96 => ?_) (fun c96 => ?_)
      · refine te_iload_n (p2 := 32) rfl rfl rfl ?_
        refine tz_ge (p2 := 35) rfl rfl (show Int32.toInt 2 = 2 from rfl) (fun c97 => ?_) (fun c97 => absurd c97 (by omega))
        refine te_iload_n (p2 := 38) rfl rfl rfl ?_
        refine te_iconst (p2 := 39) (x := 1) rfl rfl (by decide) ?_
        refine te_isub (p2 := 40) (z := 5) rfl rfl (by decide) ?_
        refine te_istore_n (p2 := 41) (lv2 := [(3, .int 5), (2, .int 2), (0, .ref 164), (1, .int 6)]) rfl rfl (by decide) rfl ?_
        refine te_aload_n (p2 := 42) rfl rfl rfl ?_
        refine tg_r (p2 := 45) (i := 148) (r := 215) rfl rfl hI rfl rfl rfl ?_
        refine te_iload_n (p2 := 46) rfl rfl rfl ?_
        refine tl_e (p2 := 47) (i := 199) (n := 6) (t := 0) (Or.inl rfl) rfl rfl hI rfl rfl (by decide) (by decide) hg5 ?_
        refine te_aload_n (p2 := 48) rfl rfl rfl ?_
        refine tg_r (p2 := 51) (i := 148) (r := 215) rfl rfl hI rfl rfl rfl ?_
        refine te_iload_n (p2 := 52) rfl rfl rfl ?_
        refine tl_e (p2 := 53) (i := 199) (n := 6) (t := 0) (Or.inl rfl) rfl rfl hI rfl rfl (by decide) (by decide) hg2 ?_
        refine tb_ge (p2 := 56) rfl rfl rfl rfl (fun c101 => ?_) (fun c101 => ?_)
        · refine te_aload_n (p2 := 63) rfl rfl rfl ?_
          refine tg_r (p2 := 66) (i := 148) (r := 215) rfl rfl hI rfl rfl rfl ?_
          refine te_iload_n (p2 := 67) rfl rfl rfl ?_
          refine tl_e (p2 := 68) (i := 199) (n := 6) (t := 0) (Or.inl rfl) rfl rfl hI rfl rfl (by decide) (by decide) hg2 ?_
          refine te_istore (p2 := 70) (lv2 := [(4, .int g2), (3, .int 5), (2, .int 2), (0, .ref 164), (1, .int 6)]) rfl rfl (by decide) rfl ?_
          refine te_aload_n (p2 := 71) rfl rfl rfl ?_
          refine tg_r (p2 := 74) (i := 148) (r := 215) rfl rfl hI rfl rfl rfl ?_
          refine te_iload_n (p2 := 75) rfl rfl rfl ?_
          refine te_aload_n (p2 := 76) rfl rfl rfl ?_
          refine tg_r (p2 := 79) (i := 148) (r := 215) rfl rfl hI rfl rfl rfl ?_
          refine te_iload_n (p2 := 80) rfl rfl rfl ?_
          refine tl_e (p2 := 81) (i := 199) (n := 6) (t := 0) (Or.inl rfl) rfl rfl hI rfl rfl (by decide) (by decide) hg5 ?_
          refine ts_i (p2 := 82) (i := 199) (n := 6) rfl rfl hI rfl rfl rfl rfl (by decide) (by decide) (by omega) (by omega) (by omega) rfl (fun h104 I104 u104 => ?_)
          have f104 := fr_st (F := F_X12_nextOrder_6) 0 f0 u104 rfl (by decide) (by decide)
          refine te_aload_n (p2 := 83) rfl rfl rfl ?_
          refine tg_r (p2 := 86) (i := 148) (r := 215) rfl rfl I104 rfl rfl rfl ?_
          refine te_iload_n (p2 := 87) rfl rfl rfl ?_
          refine te_iload (p2 := 89) rfl rfl rfl ?_
          refine ts_i (p2 := 90) (i := 199) (n := 6) rfl rfl I104 rfl rfl rfl rfl (by decide) (by decide) (by omega) (by omega) (by omega) rfl (fun h105 I105 u105 => ?_)
          have f105 := fr_st (F := F_X12_nextOrder_6) 0 f104 u105 rfl (by decide) (by decide)
          refine te_iload_n (p2 := 91) rfl rfl rfl ?_
          refine te_iconst (p2 := 92) (x := 1) rfl rfl (by decide) ?_
          refine te_iadd (p2 := 93) (z := 3) rfl rfl (by decide) ?_
          refine te_istore (p2 := 95) (lv2 := [(5, .int 3), (4, .int g2), (3, .int 5), (2, .int 2), (0, .ref 164), (1, .int 6)]) rfl rfl (by decide) rfl ?_
          refine te_iload_n (p2 := 96) rfl rfl rfl ?_
          refine te_iconst (p2 := 97) (x := 1) rfl rfl (by decide) ?_
          refine te_isub (p2 := 98) (z := 5) rfl rfl (by decide) ?_
          refine te_istore (p2 := 100) (lv2 := [(6, .int 5), (5, .int 3), (4, .int g2), (3, .int 5), (2, .int 2), (0, .ref 164), (1, .int 6)]) rfl rfl (by decide) rfl ?_
          refine te_iload (p2 := 102) rfl rfl rfl ?_
          refine te_iload (p2 := 104) rfl rfl rfl ?_
          refine tb_ge (p2 := 107) rfl rfl (show Int32.toInt 3 = 3 from rfl) (show Int32.toInt 5 = 5 from rfl) (fun c108 => absurd c108 (by omega)) (fun c108 => ?_)
          refine te_aload_n (p2 := 108) rfl rfl rfl ?_
          refine tg_r (p2 := 111) (i := 148) (r := 215) rfl rfl I105 rfl rfl rfl ?_
          refine te_iload (p2 := 113) rfl rfl rfl ?_
          refine tl_e (p2 := 114) (i := 199) (n := 6) (t := 0) (Or.inl rfl) rfl rfl I105 rfl rfl (by decide) (by decide) ((u105.2 _ _ (Or.inr (by decide))).trans ((u104.2 _ _ (Or.inr (by decide))).trans hg3)) ?_
          refine te_istore (p2 := 116) (lv2 := [(7, .int g3), (6, .int 5), (5, .int 3), (4, .int g2), (3, .int 5), (2, .int 2), (0, .ref 164), (1, .int 6)]) rfl rfl (by decide) rfl ?_
          refine te_aload_n (p2 := 117) rfl rfl rfl ?_
          refine tg_r (p2 := 120) (i := 148) (r := 215) rfl rfl I105 rfl rfl rfl ?_
          refine te_iload (p2 := 122) rfl rfl rfl ?_
          refine te_aload_n (p2 := 123) rfl rfl rfl ?_
          refine tg_r (p2 := 126) (i := 148) (r := 215) rfl rfl I105 rfl rfl rfl ?_
          refine te_iload (p2 := 128) rfl rfl rfl ?_
          refine tl_e (p2 := 129) (i := 199) (n := 6) (t := 0) (Or.inl rfl) rfl rfl I105 rfl rfl (by decide) (by decide) u105.1 ?_
          refine ts_i (p2 := 130) (i := 199) (n := 6) rfl rfl I105 rfl rfl rfl rfl (by decide) (by decide) (by omega) (by omega) (by omega) rfl (fun h111 I111 u111 => ?_)
          have f111 := fr_st (F := F_X12_nextOrder_6) 0 f105 u111 rfl (by decide) (by decide)
          refine te_aload_n (p2 := 131) rfl rfl rfl ?_
          refine tg_r (p2 := 134) (i := 148) (r := 215) rfl rfl I111 rfl rfl rfl ?_
          refine te_iload (p2 := 136) rfl rfl rfl ?_
          refine te_iload (p2 := 138) rfl rfl rfl ?_
          refine ts_i (p2 := 139) (i := 199) (n := 6) rfl rfl I111 rfl rfl rfl rfl (by decide) (by decide) (by omega) (by omega) (by omega) rfl (fun h112 I112 u112 => ?_)
          have f112 := fr_st (F := F_X12_nextOrder_6) 0 f111 u112 rfl (by decide) (by decide)
          refine te_iinc (p2 := 142) (x := 5) (y := 4) (lv2 := [(6, .int 4), (7, .int g3), (5, .int 3), (4, .int g2), (3, .int 5), (2, .int 2), (0, .ref 164), (1, .int 6)]) rfl rfl (by decide) rfl (by decide) rfl ?_
          refine te_iinc (p2 := 145) (x := 3) (y := 4) (lv2 := [(5, .int 4), (6, .int 4), (7, .int g3), (4, .int g2), (3, .int 5), (2, .int 2), (0, .ref 164), (1, .int 6)]) rfl rfl (by decide) rfl (by decide) rfl ?_
          refine te_goto rfl ?_
          refine te_iload (p2 := 102) rfl rfl rfl ?_
          refine te_iload (p2 := 104) rfl rfl rfl ?_
          refine tb_ge (p2 := 107) rfl rfl (show Int32.toInt 4 = 4 from rfl) (show Int32.toInt 4 = 4 from rfl) (fun c115 => ?_) (fun c115 => absurd c115 (by omega))
          refine te_iconst (p2 := 149) (x := 1) rfl rfl (by decide) ?_
          exact te_zret rfl rfl (by decide) ⟨I112, f112, _, rfl, Or.inr ⟨rfl, g0, g1, g5, g2, g4, g3, ((u112.2 _ _ (Or.inr (by decide))).trans ((u111.2 _ _ (Or.inr (by decide))).trans ((u105.2 _ _ (Or.inr (by decide))).trans ((u104.2 _ _ (Or.inr (by decide))).trans hg0)))), ((u112.2 _ _ (Or.inr (by decide))).trans ((u111.2 _ _ (Or.inr (by decide))).trans ((u105.2 _ _ (Or.inr (by decide))).trans ((u104.2 _ _ (Or.inr (by decide))).trans hg1)))), ((u112.2 _ _ (Or.inr (by decide))).trans ((u111.2 _ _ (Or.inr (by decide))).trans ((u105.2 _ _ (Or.inr (by decide))).trans u104.1))), ((u112.2 _ _ (Or.inr (by decide))).trans u111.1), ((u112.2 _ _ (Or.inr (by decide))).trans ((u111.2 _ _ (Or.inr (by decide))).trans ((u105.2 _ _ (Or.inr (by decide))).trans ((u104.2 _ _ (Or.inr (by decide))).trans hg4)))), u112.1, (by unfold prm; omega), (by unfold lexV; omega)⟩⟩
        · refine te_iinc (p2 := 59) (x := 5) (y := 4) (lv2 := [(3, .int 4), (2, .int 2), (0, .ref 164), (1, .int 6)]) rfl rfl (by decide) rfl (by decide) rfl ?_
          refine te_goto rfl ?_
          refine te_aload_n (p2 := 42) rfl rfl rfl ?_
          refine tg_r (p2 := 45) (i := 148) (r := 215) rfl rfl hI rfl rfl rfl ?_
          refine te_iload_n (p2 := 46) rfl rfl rfl ?_
          refine tl_e (p2 := 47) (i := 199) (n := 6) (t := 0) (Or.inl rfl) rfl rfl hI rfl rfl (by decide) (by decide) hg4 ?_
          refine te_aload_n (p2 := 48) rfl rfl rfl ?_
          refine tg_r (p2 := 51) (i := 148) (r := 215) rfl rfl hI rfl rfl rfl ?_
          refine te_iload_n (p2 := 52) rfl rfl rfl ?_
          refine tl_e (p2 := 53) (i := 199) (n := 6) (t := 0) (Or.inl rfl) rfl rfl hI rfl rfl (by decide) (by decide) hg2 ?_
          refine tb_ge (p2 := 56) rfl rfl rfl rfl (fun c119 => ?_) (fun c119 => ?_)
          · refine te_aload_n (p2 := 63) rfl rfl rfl ?_
            refine tg_r (p2 := 66) (i := 148) (r := 215) rfl rfl hI rfl rfl rfl ?_
            refine te_iload_n (p2 := 67) rfl rfl rfl ?_
            refine tl_e (p2 := 68) (i := 199) (n := 6) (t := 0) (Or.inl rfl) rfl rfl hI rfl rfl (by decide) (by decide) hg2 ?_
            refine te_istore (p2 := 70) (lv2 := [(4, .int g2), (3, .int 4), (2, .int 2), (0, .ref 164), (1, .int 6)]) rfl rfl (by decide) rfl ?_
            refine te_aload_n (p2 := 71) rfl rfl rfl ?_
            refine tg_r (p2 := 74) (i := 148) (r := 215) rfl rfl hI rfl rfl rfl ?_
            refine te_iload_n (p2 := 75) rfl rfl rfl ?_
            refine te_aload_n (p2 := 76) rfl rfl rfl ?_
            refine tg_r (p2 := 79) (i := 148) (r := 215) rfl rfl hI rfl rfl rfl ?_
            refine te_iload_n (p2 := 80) rfl rfl rfl ?_
            refine tl_e (p2 := 81) (i := 199) (n := 6) (t := 0) (Or.inl rfl) rfl rfl hI rfl rfl (by decide) (by decide) hg4 ?_
            refine ts_i (p2 := 82) (i := 199) (n := 6) rfl rfl hI rfl rfl rfl rfl (by decide) (by decide) (by omega) (by omega) (by omega) rfl (fun h122 I122 u122 => ?_)
            have f122 := fr_st (F := F_X12_nextOrder_6) 0 f0 u122 rfl (by decide) (by decide)
            refine te_aload_n (p2 := 83) rfl rfl rfl ?_
            refine tg_r (p2 := 86) (i := 148) (r := 215) rfl rfl I122 rfl rfl rfl ?_
            refine te_iload_n (p2 := 87) rfl rfl rfl ?_
            refine te_iload (p2 := 89) rfl rfl rfl ?_
            refine ts_i (p2 := 90) (i := 199) (n := 6) rfl rfl I122 rfl rfl rfl rfl (by decide) (by decide) (by omega) (by omega) (by omega) rfl (fun h123 I123 u123 => ?_)
            have f123 := fr_st (F := F_X12_nextOrder_6) 0 f122 u123 rfl (by decide) (by decide)
            refine te_iload_n (p2 := 91) rfl rfl rfl ?_
            refine te_iconst (p2 := 92) (x := 1) rfl rfl (by decide) ?_
            refine te_iadd (p2 := 93) (z := 3) rfl rfl (by decide) ?_
            refine te_istore (p2 := 95) (lv2 := [(5, .int 3), (4, .int g2), (3, .int 4), (2, .int 2), (0, .ref 164), (1, .int 6)]) rfl rfl (by decide) rfl ?_
            refine te_iload_n (p2 := 96) rfl rfl rfl ?_
            refine te_iconst (p2 := 97) (x := 1) rfl rfl (by decide) ?_
            refine te_isub (p2 := 98) (z := 5) rfl rfl (by decide) ?_
            refine te_istore (p2 := 100) (lv2 := [(6, .int 5), (5, .int 3), (4, .int g2), (3, .int 4), (2, .int 2), (0, .ref 164), (1, .int 6)]) rfl rfl (by decide) rfl ?_
            refine te_iload (p2 := 102) rfl rfl rfl ?_
            refine te_iload (p2 := 104) rfl rfl rfl ?_
            refine tb_ge (p2 := 107) rfl rfl (show Int32.toInt 3 = 3 from rfl) (show Int32.toInt 5 = 5 from rfl) (fun c126 => absurd c126 (by omega)) (fun c126 => ?_)
            refine te_aload_n (p2 := 108) rfl rfl rfl ?_
            refine tg_r (p2 := 111) (i := 148) (r := 215) rfl rfl I123 rfl rfl rfl ?_
            refine te_iload (p2 := 113) rfl rfl rfl ?_
            refine tl_e (p2 := 114) (i := 199) (n := 6) (t := 0) (Or.inl rfl) rfl rfl I123 rfl rfl (by decide) (by decide) ((u123.2 _ _ (Or.inr (by decide))).trans ((u122.2 _ _ (Or.inr (by decide))).trans hg3)) ?_
            refine te_istore (p2 := 116) (lv2 := [(7, .int g3), (6, .int 5), (5, .int 3), (4, .int g2), (3, .int 4), (2, .int 2), (0, .ref 164), (1, .int 6)]) rfl rfl (by decide) rfl ?_
            refine te_aload_n (p2 := 117) rfl rfl rfl ?_
            refine tg_r (p2 := 120) (i := 148) (r := 215) rfl rfl I123 rfl rfl rfl ?_
            refine te_iload (p2 := 122) rfl rfl rfl ?_
            refine te_aload_n (p2 := 123) rfl rfl rfl ?_
            refine tg_r (p2 := 126) (i := 148) (r := 215) rfl rfl I123 rfl rfl rfl ?_
            refine te_iload (p2 := 128) rfl rfl rfl ?_
            refine tl_e (p2 := 129) (i := 199) (n := 6) (t := 0) (Or.inl rfl) rfl rfl I123 rfl rfl (by decide) (by decide) ((u123.2 _ _ (Or.inr (by decide))).trans ((u122.2 _ _ (Or.inr (by decide))).trans hg5)) ?_
            refine ts_i (p2 := 130) (i := 199) (n := 6) rfl rfl I123 rfl rfl rfl rfl (by decide) (by decide) (by omega) (by omega) (by omega) rfl (fun h129 I129 u129 => ?_)
            have f129 := fr_st (F := F_X12_nextOrder_6) 0 f123 u129 rfl (by decide) (by decide)
            refine te_aload_n (p2 := 131) rfl rfl rfl ?_
            refine tg_r (p2 := 134) (i := 148) (r := 215) rfl rfl I129 rfl rfl rfl ?_
            refine te_iload (p2 := 136) rfl rfl rfl ?_
            refine te_iload (p2 := 138) rfl rfl rfl ?_
            refine ts_i (p2 := 139) (i := 199) (n := 6) rfl rfl I129 rfl rfl rfl rfl (by decide) (by decide) (by omega) (by omega) (by omega) rfl (fun h130 I130 u130 => ?_)
            have f130 := fr_st (F := F_X12_nextOrder_6) 0 f129 u130 rfl (by decide) (by decide)
            refine te_iinc (p2 := 142) (x := 5) (y := 4) (lv2 := [(6, .int 4), (7, .int g3), (5, .int 3), (4, .int g2), (3, .int 4), (2, .int 2), (0, .ref 164), (1, .int 6)]) rfl rfl (by decide) rfl (by decide) rfl ?_
            refine te_iinc (p2 := 145) (x := 3) (y := 4) (lv2 := [(5, .int 4), (6, .int 4), (7, .int g3), (4, .int g2), (3, .int 4), (2, .int 2), (0, .ref 164), (1, .int 6)]) rfl rfl (by decide) rfl (by decide) rfl ?_
            refine te_goto rfl ?_
            refine te_iload (p2 := 102) rfl rfl rfl ?_
            refine te_iload (p2 := 104) rfl rfl rfl ?_
            refine tb_ge (p2 := 107) rfl rfl (show Int32.toInt 4 = 4 from rfl) (show Int32.toInt 4 = 4 from rfl) (fun c133 => ?_) (fun c133 => absurd c133 (by omega))
            refine te_iconst (p2 := 149) (x := 1) rfl rfl (by decide) ?_
            exact te_zret rfl rfl (by decide) ⟨I130, f130, _, rfl, Or.inr ⟨rfl, g0, g1, g4, g5, g2, g3, ((u130.2 _ _ (Or.inr (by decide))).trans ((u129.2 _ _ (Or.inr (by decide))).trans ((u123.2 _ _ (Or.inr (by decide))).trans ((u122.2 _ _ (Or.inr (by decide))).trans hg0)))), ((u130.2 _ _ (Or.inr (by decide))).trans ((u129.2 _ _ (Or.inr (by decide))).trans ((u123.2 _ _ (Or.inr (by decide))).trans ((u122.2 _ _ (Or.inr (by decide))).trans hg1)))), ((u130.2 _ _ (Or.inr (by decide))).trans ((u129.2 _ _ (Or.inr (by decide))).trans ((u123.2 _ _ (Or.inr (by decide))).trans u122.1))), ((u130.2 _ _ (Or.inr (by decide))).trans u129.1), ((u130.2 _ _ (Or.inr (by decide))).trans ((u129.2 _ _ (Or.inr (by decide))).trans u123.1)), u130.1, (by unfold prm; omega), (by unfold lexV; omega)⟩⟩
          · refine te_iinc (p2 := 59) (x := 4) (y := 3) (lv2 := [(3, .int 3), (2, .int 2), (0, .ref 164), (1, .int 6)]) rfl rfl (by decide) rfl (by decide) rfl ?_
            refine te_goto rfl ?_
            refine te_aload_n (p2 := 42) rfl rfl rfl ?_
            refine tg_r (p2 := 45) (i := 148) (r := 215) rfl rfl hI rfl rfl rfl ?_
            refine te_iload_n (p2 := 46) rfl rfl rfl ?_
            refine tl_e (p2 := 47) (i := 199) (n := 6) (t := 0) (Or.inl rfl) rfl rfl hI rfl rfl (by decide) (by decide) hg3 ?_
            refine te_aload_n (p2 := 48) rfl rfl rfl ?_
            refine tg_r (p2 := 51) (i := 148) (r := 215) rfl rfl hI rfl rfl rfl ?_
            refine te_iload_n (p2 := 52) rfl rfl rfl ?_
            refine tl_e (p2 := 53) (i := 199) (n := 6) (t := 0) (Or.inl rfl) rfl rfl hI rfl rfl (by decide) (by decide) hg2 ?_
            refine tb_ge (p2 := 56) rfl rfl rfl rfl (fun c137 => ?_) (fun c137 => ?_)
            · refine te_aload_n (p2 := 63) rfl rfl rfl ?_
              refine tg_r (p2 := 66) (i := 148) (r := 215) rfl rfl hI rfl rfl rfl ?_
              refine te_iload_n (p2 := 67) rfl rfl rfl ?_
              refine tl_e (p2 := 68) (i := 199) (n := 6) (t := 0) (Or.inl rfl) rfl rfl hI rfl rfl (by decide) (by decide) hg2 ?_
              refine te_istore (p2 := 70) (lv2 := [(4, .int g2), (3, .int 3), (2, .int 2), (0, .ref 164), (1, .int 6)]) rfl rfl (by decide) rfl ?_
              refine te_aload_n (p2 := 71) rfl rfl rfl ?_
              refine tg_r (p2 := 74) (i := 148) (r := 215) rfl rfl hI rfl rfl rfl ?_
              refine te_iload_n (p2 := 75) rfl rfl rfl ?_
              refine te_aload_n (p2 := 76) rfl rfl rfl ?_
              refine tg_r (p2 := 79) (i := 148) (r := 215) rfl rfl hI rfl rfl rfl ?_
              refine te_iload_n (p2 := 80) rfl rfl rfl ?_
              refine tl_e (p2 := 81) (i := 199) (n := 6) (t := 0) (Or.inl rfl) rfl rfl hI rfl rfl (by decide) (by decide) hg3 ?_
              refine ts_i (p2 := 82) (i := 199) (n := 6) rfl rfl hI rfl rfl rfl rfl (by decide) (by decide) (by omega) (by omega) (by omega) rfl (fun h140 I140 u140 => ?_)
              have f140 := fr_st (F := F_X12_nextOrder_6) 0 f0 u140 rfl (by decide) (by decide)
              refine te_aload_n (p2 := 83) rfl rfl rfl ?_
              refine tg_r (p2 := 86) (i := 148) (r := 215) rfl rfl I140 rfl rfl rfl ?_
              refine te_iload_n (p2 := 87) rfl rfl rfl ?_
              refine te_iload (p2 := 89) rfl rfl rfl ?_
              refine ts_i (p2 := 90) (i := 199) (n := 6) rfl rfl I140 rfl rfl rfl rfl (by decide) (by decide) (by omega) (by omega) (by omega) rfl (fun h141 I141 u141 => ?_)
              have f141 := fr_st (F := F_X12_nextOrder_6) 0 f140 u141 rfl (by decide) (by decide)
              refine te_iload_n (p2 := 91) rfl rfl rfl ?_
              refine te_iconst (p2 := 92) (x := 1) rfl rfl (by decide) ?_
              refine te_iadd (p2 := 93) (z := 3) rfl rfl (by decide) ?_
              refine te_istore (p2 := 95) (lv2 := [(5, .int 3), (4, .int g2), (3, .int 3), (2, .int 2), (0, .ref 164), (1, .int 6)]) rfl rfl (by decide) rfl ?_
              refine te_iload_n (p2 := 96) rfl rfl rfl ?_
              refine te_iconst (p2 := 97) (x := 1) rfl rfl (by decide) ?_
              refine te_isub (p2 := 98) (z := 5) rfl rfl (by decide) ?_
              refine te_istore (p2 := 100) (lv2 := [(6, .int 5), (5, .int 3), (4, .int g2), (3, .int 3), (2, .int 2), (0, .ref 164), (1, .int 6)]) rfl rfl (by decide) rfl ?_
              refine te_iload (p2 := 102) rfl rfl rfl ?_
              refine te_iload (p2 := 104) rfl rfl rfl ?_
              refine tb_ge (p2 := 107) rfl rfl (show Int32.toInt 3 = 3 from rfl) (show Int32.toInt 5 = 5 from rfl) (fun c144 => absurd c144 (by omega)) (fun c144 => ?_)
              refine te_aload_n (p2 := 108) rfl rfl rfl ?_
              refine tg_r (p2 := 111) (i := 148) (r := 215) rfl rfl I141 rfl rfl rfl ?_
              refine te_iload (p2 := 113) rfl rfl rfl ?_
              refine tl_e (p2 := 114) (i := 199) (n := 6) (t := 0) (Or.inl rfl) rfl rfl I141 rfl rfl (by decide) (by decide) u141.1 ?_
              refine te_istore (p2 := 116) (lv2 := [(7, .int g2), (6, .int 5), (5, .int 3), (4, .int g2), (3, .int 3), (2, .int 2), (0, .ref 164), (1, .int 6)]) rfl rfl (by decide) rfl ?_
              refine te_aload_n (p2 := 117) rfl rfl rfl ?_
              refine tg_r (p2 := 120) (i := 148) (r := 215) rfl rfl I141 rfl rfl rfl ?_
              refine te_iload (p2 := 122) rfl rfl rfl ?_
              refine te_aload_n (p2 := 123) rfl rfl rfl ?_
              refine tg_r (p2 := 126) (i := 148) (r := 215) rfl rfl I141 rfl rfl rfl ?_
              refine te_iload (p2 := 128) rfl rfl rfl ?_
              refine tl_e (p2 := 129) (i := 199) (n := 6) (t := 0) (Or.inl rfl) rfl rfl I141 rfl rfl (by decide) (by decide) ((u141.2 _ _ (Or.inr (by decide))).trans ((u140.2 _ _ (Or.inr (by decide))).trans hg5)) ?_
              refine ts_i (p2 := 130) (i := 199) (n := 6) rfl rfl I141 rfl rfl rfl rfl (by decide) (by decide) (by omega) (by omega) (by omega) rfl (fun h147 I147 u147 => ?_)
              have f147 := fr_st (F := F_X12_nextOrder_6) 0 f141 u147 rfl (by decide) (by decide)
              refine te_aload_n (p2 := 131) rfl rfl rfl ?_
              refine tg_r (p2 := 134) (i := 148) (r := 215) rfl rfl I147 rfl rfl rfl ?_
              refine te_iload (p2 := 136) rfl rfl rfl ?_
              refine te_iload (p2 := 138) rfl rfl rfl ?_
              refine ts_i (p2 := 139) (i := 199) (n := 6) rfl rfl I147 rfl rfl rfl rfl (by decide) (by decide) (by omega) (by omega) (by omega) rfl (fun h148 I148 u148 => ?_)
              have f148 := fr_st (F := F_X12_nextOrder_6) 0 f147 u148 rfl (by decide) (by decide)
              refine te_iinc (p2 := 142) (x := 5) (y := 4) (lv2 := [(6, .int 4), (7, .int g2), (5, .int 3), (4, .int g2), (3, .int 3), (2, .int 2), (0, .ref 164), (1, .int 6)]) rfl rfl (by decide) rfl (by decide) rfl ?_
              refine te_iinc (p2 := 145) (x := 3) (y := 4) (lv2 := [(5, .int 4), (6, .int 4), (7, .int g2), (4, .int g2), (3, .int 3), (2, .int 2), (0, .ref 164), (1, .int 6)]) rfl rfl (by decide) rfl (by decide) rfl ?_
              refine te_goto rfl ?_
              refine te_iload (p2 := 102) rfl rfl rfl ?_
              refine te_iload (p2 := 104) rfl rfl rfl ?_
              refine tb_ge (p2 := 107) rfl rfl (show Int32.toInt 4 = 4 from rfl) (show Int32.toInt 4 = 4 from rfl) (fun c151 => ?_) (fun c151 => absurd c151 (by omega))
              refine te_iconst (p2 := 149) (x := 1) rfl rfl (by decide) ?_
              exact te_zret rfl rfl (by decide) ⟨I148, f148, _, rfl, Or.inr ⟨rfl, g0, g1, g3, g5, g4, g2, ((u148.2 _ _ (Or.inr (by decide))).trans ((u147.2 _ _ (Or.inr (by decide))).trans ((u141.2 _ _ (Or.inr (by decide))).trans ((u140.2 _ _ (Or.inr (by decide))).trans hg0)))), ((u148.2 _ _ (Or.inr (by decide))).trans ((u147.2 _ _ (Or.inr (by decide))).trans ((u141.2 _ _ (Or.inr (by decide))).trans ((u140.2 _ _ (Or.inr (by decide))).trans hg1)))), ((u148.2 _ _ (Or.inr (by decide))).trans ((u147.2 _ _ (Or.inr (by decide))).trans ((u141.2 _ _ (Or.inr (by decide))).trans u140.1))), ((u148.2 _ _ (Or.inr (by decide))).trans u147.1), ((u148.2 _ _ (Or.inr (by decide))).trans ((u147.2 _ _ (Or.inr (by decide))).trans ((u141.2 _ _ (Or.inr (by decide))).trans ((u140.2 _ _ (Or.inr (by decide))).trans hg4)))), u148.1, (by unfold prm; omega), (by unfold lexV; omega)⟩⟩
            · refine te_iinc (p2 := 59) (x := 3) (y := 2) (lv2 := [(3, .int 2), (2, .int 2), (0, .ref 164), (1, .int 6)]) rfl rfl (by decide) rfl (by decide) rfl ?_
              refine te_goto rfl ?_
              refine te_aload_n (p2 := 42) rfl rfl rfl ?_
              refine tg_r (p2 := 45) (i := 148) (r := 215) rfl rfl hI rfl rfl rfl ?_
              refine te_iload_n (p2 := 46) rfl rfl rfl ?_
              refine tl_e (p2 := 47) (i := 199) (n := 6) (t := 0) (Or.inl rfl) rfl rfl hI rfl rfl (by decide) (by decide) hg2 ?_
              refine te_aload_n (p2 := 48) rfl rfl rfl ?_
              refine tg_r (p2 := 51) (i := 148) (r := 215) rfl rfl hI rfl rfl rfl ?_
              refine te_iload_n (p2 := 52) rfl rfl rfl ?_
              refine tl_e (p2 := 53) (i := 199) (n := 6) (t := 0) (Or.inl rfl) rfl rfl hI rfl rfl (by decide) (by decide) hg2 ?_
              refine tb_ge (p2 := 56) rfl rfl rfl rfl (fun c155 => ?_) (fun c155 => absurd c155 (by omega))
              refine te_aload_n (p2 := 63) rfl rfl rfl ?_
              refine tg_r (p2 := 66) (i := 148) (r := 215) rfl rfl hI rfl rfl rfl ?_
              refine te_iload_n (p2 := 67) rfl rfl rfl ?_
              refine tl_e (p2 := 68) (i := 199) (n := 6) (t := 0) (Or.inl rfl) rfl rfl hI rfl rfl (by decide) (by decide) hg2 ?_
              refine te_istore (p2 := 70) (lv2 := [(4, .int g2), (3, .int 2), (2, .int 2), (0, .ref 164), (1, .int 6)]) rfl rfl (by decide) rfl ?_
              refine te_aload_n (p2 := 71) rfl rfl rfl ?_
              refine tg_r (p2 := 74) (i := 148) (r := 215) rfl rfl hI rfl rfl rfl ?_
              refine te_iload_n (p2 := 75) rfl rfl rfl ?_
              refine te_aload_n (p2 := 76) rfl rfl rfl ?_
              refine tg_r (p2 := 79) (i := 148) (r := 215) rfl rfl hI rfl rfl rfl ?_
              refine te_iload_n (p2 := 80) rfl rfl rfl ?_
              refine tl_e (p2 := 81) (i := 199) (n := 6) (t := 0) (Or.inl rfl) rfl rfl hI rfl rfl (by decide) (by decide) hg2 ?_
              refine ts_i (p2 := 82) (i := 199) (n := 6) rfl rfl hI rfl rfl rfl rfl (by decide) (by decide) (by omega) (by omega) (by omega) rfl (fun h158 I158 u158 => ?_)
              have f158 := fr_st (F := F_X12_nextOrder_6) 0 f0 u158 rfl (by decide) (by decide)
              refine te_aload_n (p2 := 83) rfl rfl rfl ?_
              refine tg_r (p2 := 86) (i := 148) (r := 215) rfl rfl I158 rfl rfl rfl ?_
              refine te_iload_n (p2 := 87) rfl rfl rfl ?_
              refine te_iload (p2 := 89) rfl rfl rfl ?_
              refine ts_i (p2 := 90) (i := 199) (n := 6) rfl rfl I158 rfl rfl rfl rfl (by decide) (by decide) (by omega) (by omega) (by omega) rfl (fun h159 I159 u159 => ?_)
              have f159 := fr_st (F := F_X12_nextOrder_6) 0 f158 u159 rfl (by decide) (by decide)
              refine te_iload_n (p2 := 91) rfl rfl rfl ?_
              refine te_iconst (p2 := 92) (x := 1) rfl rfl (by decide) ?_
              refine te_iadd (p2 := 93) (z := 3) rfl rfl (by decide) ?_
              refine te_istore (p2 := 95) (lv2 := [(5, .int 3), (4, .int g2), (3, .int 2), (2, .int 2), (0, .ref 164), (1, .int 6)]) rfl rfl (by decide) rfl ?_
              refine te_iload_n (p2 := 96) rfl rfl rfl ?_
              refine te_iconst (p2 := 97) (x := 1) rfl rfl (by decide) ?_
              refine te_isub (p2 := 98) (z := 5) rfl rfl (by decide) ?_
              refine te_istore (p2 := 100) (lv2 := [(6, .int 5), (5, .int 3), (4, .int g2), (3, .int 2), (2, .int 2), (0, .ref 164), (1, .int 6)]) rfl rfl (by decide) rfl ?_
              refine te_iload (p2 := 102) rfl rfl rfl ?_
              refine te_iload (p2 := 104) rfl rfl rfl ?_
              refine tb_ge (p2 := 107) rfl rfl (show Int32.toInt 3 = 3 from rfl) (show Int32.toInt 5 = 5 from rfl) (fun c162 => absurd c162 (by omega)) (fun c162 => ?_)
              refine te_aload_n (p2 := 108) rfl rfl rfl ?_
              refine tg_r (p2 := 111) (i := 148) (r := 215) rfl rfl I159 rfl rfl rfl ?_
              refine te_iload (p2 := 113) rfl rfl rfl ?_
              refine tl_e (p2 := 114) (i := 199) (n := 6) (t := 0) (Or.inl rfl) rfl rfl I159 rfl rfl (by decide) (by decide) ((u159.2 _ _ (Or.inr (by decide))).trans ((u158.2 _ _ (Or.inr (by decide))).trans hg3)) ?_
              refine te_istore (p2 := 116) (lv2 := [(7, .int g3), (6, .int 5), (5, .int 3), (4, .int g2), (3, .int 2), (2, .int 2), (0, .ref 164), (1, .int 6)]) rfl rfl (by decide) rfl ?_
              refine te_aload_n (p2 := 117) rfl rfl rfl ?_
              refine tg_r (p2 := 120) (i := 148) (r := 215) rfl rfl I159 rfl rfl rfl ?_
              refine te_iload (p2 := 122) rfl rfl rfl ?_
              refine te_aload_n (p2 := 123) rfl rfl rfl ?_
              refine tg_r (p2 := 126) (i := 148) (r := 215) rfl rfl I159 rfl rfl rfl ?_
              refine te_iload (p2 := 128) rfl rfl rfl ?_
              refine tl_e (p2 := 129) (i := 199) (n := 6) (t := 0) (Or.inl rfl) rfl rfl I159 rfl rfl (by decide) (by decide) ((u159.2 _ _ (Or.inr (by decide))).trans ((u158.2 _ _ (Or.inr (by decide))).trans hg5)) ?_
              refine ts_i (p2 := 130) (i := 199) (n := 6) rfl rfl I159 rfl rfl rfl rfl (by decide) (by decide) (by omega) (by omega) (by omega) rfl (fun h165 I165 u165 => ?_)
              have f165 := fr_st (F := F_X12_nextOrder_6) 0 f159 u165 rfl (by decide) (by decide)
              refine te_aload_n (p2 := 131) rfl rfl rfl ?_
              refine tg_r (p2 := 134) (i := 148) (r := 215) rfl rfl I165 rfl rfl rfl ?_
              refine te_iload (p2 := 136) rfl rfl rfl ?_
              refine te_iload (p2 := 138) rfl rfl rfl ?_
              refine ts_i (p2 := 139) (i := 199) (n := 6) rfl rfl I165 rfl rfl rfl rfl (by decide) (by decide) (by omega) (by omega) (by omega) rfl (fun h166 I166 u166 => ?_)
              have f166 := fr_st (F := F_X12_nextOrder_6) 0 f165 u166 rfl (by decide) (by decide)
              refine te_iinc (p2 := 142) (x := 5) (y := 4) (lv2 := [(6, .int 4), (7, .int g3), (5, .int 3), (4, .int g2), (3, .int 2), (2, .int 2), (0, .ref 164), (1, .int 6)]) rfl rfl (by decide) rfl (by decide) rfl ?_
              refine te_iinc (p2 := 145) (x := 3) (y := 4) (lv2 := [(5, .int 4), (6, .int 4), (7, .int g3), (4, .int g2), (3, .int 2), (2, .int 2), (0, .ref 164), (1, .int 6)]) rfl rfl (by decide) rfl (by decide) rfl ?_
              refine te_goto rfl ?_
              refine te_iload (p2 := 102) rfl rfl rfl ?_
              refine te_iload (p2 := 104) rfl rfl rfl ?_
              refine tb_ge (p2 := 107) rfl rfl (show Int32.toInt 4 = 4 from rfl) (show Int32.toInt 4 = 4 from rfl) (fun c169 => ?_) (fun c169 => absurd c169 (by omega))
              refine te_iconst (p2 := 149) (x := 1) rfl rfl (by decide) ?_
              exact te_zret rfl rfl (by decide) ⟨I166, f166, _, rfl, Or.inr ⟨rfl, g0, g1, g2, g5, g4, g3, ((u166.2 _ _ (Or.inr (by decide))).trans ((u165.2 _ _ (Or.inr (by decide))).trans ((u159.2 _ _ (Or.inr (by decide))).trans ((u158.2 _ _ (Or.inr (by decide))).trans hg0)))), ((u166.2 _ _ (Or.inr (by decide))).trans ((u165.2 _ _ (Or.inr (by decide))).trans ((u159.2 _ _ (Or.inr (by decide))).trans ((u158.2 _ _ (Or.inr (by decide))).trans hg1)))), ((u166.2 _ _ (Or.inr (by decide))).trans ((u165.2 _ _ (Or.inr (by decide))).trans u159.1)), ((u166.2 _ _ (Or.inr (by decide))).trans u165.1), ((u166.2 _ _ (Or.inr (by decide))).trans ((u165.2 _ _ (Or.inr (by decide))).trans ((u159.2 _ _ (Or.inr (by decide))).trans ((u158.2 _ _ (Or.inr (by decide))).trans hg4)))), u166.1, (by unfold prm; omega), (by unfold lexV; omega)⟩⟩
      · refine te_iinc (p2 := 28) (x := 2) (y := 1) (lv2 := [(2, .int 1), (0, .ref 164), (1, .int 6)]) rfl rfl (by decide) rfl (by decide) rfl ?_
        refine te_goto rfl ?_
        refine te_iload_n (p2 := 5) rfl rfl rfl ?_
        refine tz_lt (p2 := 8) rfl rfl (show Int32.toInt 1 = 1 from rfl) (fun c171 => absurd c171 (by omega)) (fun c171 => ?_)
        refine te_aload_n (p2 := 9) rfl rfl rfl ?_
        refine tg_r (p2 := 12) (i := 148) (r := 215) rfl rfl hI rfl rfl rfl ?_
        refine te_iload_n (p2 := 13) rfl rfl rfl ?_
        refine tl_e (p2 := 14) (i := 199) (n := 6) (t := 0) (Or.inl rfl) rfl rfl hI rfl rfl (by decide) (by decide) hg1 ?_
        refine te_aload_n (p2 := 15) rfl rfl rfl ?_
        refine tg_r (p2 := 18) (i := 148) (r := 215) rfl rfl hI rfl rfl rfl ?_
        refine te_iload_n (p2 := 19) rfl rfl rfl ?_
        refine te_iconst (p2 := 20) (x := 1) rfl rfl (by decide) ?_
        refine te_iadd (p2 := 21) (z := 2) rfl rfl (by decide) ?_
        refine tl_e (p2 := 22) (i := 199) (n := 6) (t := 0) (Or.inl rfl) rfl rfl hI rfl rfl (by decide) (by decide) hg2 ?_
        refine tb_le (p2 := 25) rfl rfl rfl rfl (fun c175 => ?_) (fun c175 => ?_)
        · refine te_iload_n (p2 := 32) rfl rfl rfl ?_
          refine tz_ge (p2 := 35) rfl rfl (show Int32.toInt 1 = 1 from rfl) (fun c176 => ?_) (fun c176 => absurd c176 (by omega))
          refine te_iload_n (p2 := 38) rfl rfl rfl ?_
          refine te_iconst (p2 := 39) (x := 1) rfl rfl (by decide) ?_
          refine te_isub (p2 := 40) (z := 5) rfl rfl (by decide) ?_
          refine te_istore_n (p2 := 41) (lv2 := [(3, .int 5), (2, .int 1), (0, .ref 164), (1, .int 6)]) rfl rfl (by decide) rfl ?_
          refine te_aload_n (p2 := 42) rfl rfl rfl ?_
          refine tg_r (p2 := 45) (i := 148) (r := 215) rfl rfl hI rfl rfl rfl ?_
          refine te_iload_n (p2 := 46) rfl rfl rfl ?_
          refine tl_e (p2 := 47) (i := 199) (n := 6) (t := 0) (Or.inl rfl) rfl rfl hI rfl rfl (by decide) (by decide) hg5 ?_
          refine te_aload_n (p2 := 48) rfl rfl rfl ?_
          refine tg_r (p2 := 51) (i := 148) (r := 215) rfl rfl hI rfl rfl rfl ?_
          refine te_iload_n (p2 := 52) rfl rfl rfl ?_
          refine tl_e (p2 := 53) (i := 199) (n := 6) (t := 0) (Or.inl rfl) rfl rfl hI rfl rfl (by decide) (by decide) hg1 ?_
          refine tb_ge (p2 := 56) rfl rfl rfl rfl (fun c180 => ?_) (fun c180 => ?_)
          · refine te_aload_n (p2 := 63) rfl rfl rfl ?_
            refine tg_r (p2 := 66) (i := 148) (r := 215) rfl rfl hI rfl rfl rfl ?_
            refine te_iload_n (p2 := 67) rfl rfl rfl ?_
            refine tl_e (p2 := 68) (i := 199) (n := 6) (t := 0) (Or.inl rfl) rfl rfl hI rfl rfl (by decide) (by decide) hg1 ?_
            refine te_istore (p2 := 70) (lv2 := [(4, .int g1), (3, .int 5), (2, .int 1), (0, .ref 164), (1, .int 6)]) rfl rfl (by decide) rfl ?_
            refine te_aload_n (p2 := 71) rfl rfl rfl ?_
            refine tg_r (p2 := 74) (i := 148) (r := 215) rfl rfl hI rfl rfl rfl ?_
            refine te_iload_n (p2 := 75) rfl rfl rfl ?_
            refine te_aload_n (p2 := 76) rfl rfl rfl ?_
            refine tg_r (p2 := 79) (i := 148) (r := 215) rfl rfl hI rfl rfl rfl ?_
            refine te_iload_n (p2 := 80) rfl rfl rfl ?_
            refine tl_e (p2 := 81) (i := 199) (n := 6) (t := 0) (Or.inl rfl) rfl rfl hI rfl rfl (by decide) (by decide) hg5 ?_
            refine ts_i (p2 := 82) (i := 199) (n := 6) rfl rfl hI rfl rfl rfl rfl (by decide) (by decide) (by omega) (by omega) (by omega) rfl (fun h183 I183 u183 => ?_)
            have f183 := fr_st (F := F_X12_nextOrder_6) 0 f0 u183 rfl (by decide) (by decide)
            refine te_aload_n (p2 := 83) rfl rfl rfl ?_
            refine tg_r (p2 := 86) (i := 148) (r := 215) rfl rfl I183 rfl rfl rfl ?_
            refine te_iload_n (p2 := 87) rfl rfl rfl ?_
            refine te_iload (p2 := 89) rfl rfl rfl ?_
            refine ts_i (p2 := 90) (i := 199) (n := 6) rfl rfl I183 rfl rfl rfl rfl (by decide) (by decide) (by omega) (by omega) (by omega) rfl (fun h184 I184 u184 => ?_)
            have f184 := fr_st (F := F_X12_nextOrder_6) 0 f183 u184 rfl (by decide) (by decide)
            refine te_iload_n (p2 := 91) rfl rfl rfl ?_
            refine te_iconst (p2 := 92) (x := 1) rfl rfl (by decide) ?_
            refine te_iadd (p2 := 93) (z := 2) rfl rfl (by decide) ?_
            refine te_istore (p2 := 95) (lv2 := [(5, .int 2), (4, .int g1), (3, .int 5), (2, .int 1), (0, .ref 164), (1, .int 6)]) rfl rfl (by decide) rfl ?_
            refine te_iload_n (p2 := 96) rfl rfl rfl ?_
            refine te_iconst (p2 := 97) (x := 1) rfl rfl (by decide) ?_
            refine te_isub (p2 := 98) (z := 5) rfl rfl (by decide) ?_
            refine te_istore (p2 := 100) (lv2 := [(6, .int 5), (5, .int 2), (4, .int g1), (3, .int 5), (2, .int 1), (0, .ref 164), (1, .int 6)]) rfl rfl (by decide) rfl ?_
            refine te_iload (p2 := 102) rfl rfl rfl ?_
            refine te_iload (p2 := 104) rfl rfl rfl ?_
            refine tb_ge (p2 := 107) rfl rfl (show Int32.toInt 2 = 2 from rfl) (show Int32.toInt 5 = 5 from rfl) (fun c187 => absurd c187 (by omega)) (fun c187 => ?_)
            refine te_aload_n (p2 := 108) rfl rfl rfl ?_
            refine tg_r (p2 := 111) (i := 148) (r := 215) rfl rfl I184 rfl rfl rfl ?_
            refine te_iload (p2 := 113) rfl rfl rfl ?_
            refine tl_e (p2 := 114) (i := 199) (n := 6) (t := 0) (Or.inl rfl) rfl rfl I184 rfl rfl (by decide) (by decide) ((u184.2 _ _ (Or.inr (by decide))).trans ((u183.2 _ _ (Or.inr (by decide))).trans hg2)) ?_
            refine te_istore (p2 := 116) (lv2 := [(7, .int g2), (6, .int 5), (5, .int 2), (4, .int g1), (3, .int 5), (2, .int 1), (0, .ref 164), (1, .int 6)]) rfl rfl (by decide) rfl ?_
            refine te_aload_n (p2 := 117) rfl rfl rfl ?_
            refine tg_r (p2 := 120) (i := 148) (r := 215) rfl rfl I184 rfl rfl rfl ?_
            refine te_iload (p2 := 122) rfl rfl rfl ?_
            refine te_aload_n (p2 := 123) rfl rfl rfl ?_
            refine tg_r (p2 := 126) (i := 148) (r := 215) rfl rfl I184 rfl rfl rfl ?_
            refine te_iload (p2 := 128) rfl rfl rfl ?_
            refine tl_e (p2 := 129) (i := 199) (n := 6) (t := 0) (Or.inl rfl) rfl rfl I184 rfl rfl (by decide) (by decide) u184.1 ?_
            refine ts_i (p2 := 130) (i := 199) (n := 6) rfl rfl I184 rfl rfl rfl rfl (by decide) (by decide) (by omega) (by omega) (by omega) rfl (fun h190 I190 u190 => ?_)
            have f190 := fr_st (F := F_X12_nextOrder_6) 0 f184 u190 rfl (by decide) (by decide)
            refine te_aload_n (p2 := 131) rfl rfl rfl ?_
            refine tg_r (p2 := 134) (i := 148) (r := 215) rfl rfl I190 rfl rfl rfl ?_
            refine te_iload (p2 := 136) rfl rfl rfl ?_
            refine te_iload (p2 := 138) rfl rfl rfl ?_
            refine ts_i (p2 := 139) (i := 199) (n := 6) rfl rfl I190 rfl rfl rfl rfl (by decide) (by decide) (by omega) (by omega) (by omega) rfl (fun h191 I191 u191 => ?_)
            have f191 := fr_st (F := F_X12_nextOrder_6) 0 f190 u191 rfl (by decide) (by decide)
            refine te_iinc (p2 := 142) (x := 5) (y := 4) (lv2 := [(6, .int 4), (7, .int g2), (5, .int 2), (4, .int g1), (3, .int 5), (2, .int 1), (0, .ref 164), (1, .int 6)]) rfl rfl (by decide) rfl (by decide) rfl ?_
            refine te_iinc (p2 := 145) (x := 2) (y := 3) (lv2 := [(5, .int 3), (6, .int 4), (7, .int g2), (4, .int g1), (3, .int 5), (2, .int 1), (0, .ref 164), (1, .int 6)]) rfl rfl (by decide) rfl (by decide) rfl ?_
            refine te_goto rfl ?_
            refine te_iload (p2 := 102) rfl rfl rfl ?_
            refine te_iload (p2 := 104) rfl rfl rfl ?_
            refine tb_ge (p2 := 107) rfl rfl (show Int32.toInt 3 = 3 from rfl) (show Int32.toInt 4 = 4 from rfl) (fun c194 => absurd c194 (by omega)) (fun c194 => ?_)
            refine te_aload_n (p2 := 108) rfl rfl rfl ?_
            refine tg_r (p2 := 111) (i := 148) (r := 215) rfl rfl I191 rfl rfl rfl ?_
            refine te_iload (p2 := 113) rfl rfl rfl ?_
            refine tl_e (p2 := 114) (i := 199) (n := 6) (t := 0) (Or.inl rfl) rfl rfl I191 rfl rfl (by decide) (by decide) ((u191.2 _ _ (Or.inr (by decide))).trans ((u190.2 _ _ (Or.inr (by decide))).trans ((u184.2 _ _ (Or.inr (by decide))).trans ((u183.2 _ _ (Or.inr (by decide))).trans hg3)))) ?_
            refine te_istore (p2 := 116) (lv2 := [(7, .int g3), (5, .int 3), (6, .int 4), (4, .int g1), (3, .int 5), (2, .int 1), (0, .ref 164), (1, .int 6)]) rfl rfl (by decide) rfl ?_
            refine te_aload_n (p2 := 117) rfl rfl rfl ?_
            refine tg_r (p2 := 120) (i := 148) (r := 215) rfl rfl I191 rfl rfl rfl ?_
            refine te_iload (p2 := 122) rfl rfl rfl ?_
            refine te_aload_n (p2 := 123) rfl rfl rfl ?_
            refine tg_r (p2 := 126) (i := 148) (r := 215) rfl rfl I191 rfl rfl rfl ?_
            refine te_iload (p2 := 128) rfl rfl rfl ?_
            refine tl_e (p2 := 129) (i := 199) (n := 6) (t := 0) (Or.inl rfl) rfl rfl I191 rfl rfl (by decide) (by decide) ((u191.2 _ _ (Or.inr (by decide))).trans ((u190.2 _ _ (Or.inr (by decide))).trans ((u184.2 _ _ (Or.inr (by decide))).trans ((u183.2 _ _ (Or.inr (by decide))).trans hg4)))) ?_
            refine ts_i (p2 := 130) (i := 199) (n := 6) rfl rfl I191 rfl rfl rfl rfl (by decide) (by decide) (by omega) (by omega) (by omega) rfl (fun h197 I197 u197 => ?_)
            have f197 := fr_st (F := F_X12_nextOrder_6) 0 f191 u197 rfl (by decide) (by decide)
            refine te_aload_n (p2 := 131) rfl rfl rfl ?_
            refine tg_r (p2 := 134) (i := 148) (r := 215) rfl rfl I197 rfl rfl rfl ?_
            refine te_iload (p2 := 136) rfl rfl rfl ?_
            refine te_iload (p2 := 138) rfl rfl rfl ?_
            refine ts_i (p2 := 139) (i := 199) (n := 6) rfl rfl I197 rfl rfl rfl rfl (by decide) (by decide) (by omega) (by omega) (by omega) rfl (fun h198 I198 u198 => ?_)
            have f198 := fr_st (F := F_X12_nextOrder_6) 0 f197 u198 rfl (by decide) (by decide)
            refine te_iinc (p2 := 142) (x := 4) (y := 3) (lv2 := [(6, .int 3), (7, .int g3), (5, .int 3), (4, .int g1), (3, .int 5), (2, .int 1), (0, .ref 164), (1, .int 6)]) rfl rfl (by decide) rfl (by decide) rfl ?_
            refine te_iinc (p2 := 145) (x := 3) (y := 4) (lv2 := [(5, .int 4), (6, .int 3), (7, .int g3), (4, .int g1), (3, .int 5), (2, .int 1), (0, .ref 164), (1, .int 6)]) rfl rfl (by decide) rfl (by decide) rfl ?_
            refine te_goto rfl ?_
            refine te_iload (p2 := 102) rfl rfl rfl ?_
            refine te_iload (p2 := 104) rfl rfl rfl ?_
            refine tb_ge (p2 := 107) rfl rfl (show Int32.toInt 4 = 4 from rfl) (show Int32.toInt 3 = 3 from rfl) (fun c201 => ?_) (fun c201 => absurd c201 (by omega))
            refine te_iconst (p2 := 149) (x := 1) rfl rfl (by decide) ?_
            exact te_zret rfl rfl (by decide) ⟨I198, f198, _, rfl, Or.inr ⟨rfl, g0, g5, g1, g4, g3, g2, ((u198.2 _ _ (Or.inr (by decide))).trans ((u197.2 _ _ (Or.inr (by decide))).trans ((u191.2 _ _ (Or.inr (by decide))).trans ((u190.2 _ _ (Or.inr (by decide))).trans ((u184.2 _ _ (Or.inr (by decide))).trans ((u183.2 _ _ (Or.inr (by decide))).trans hg0)))))), ((u198.2 _ _ (Or.inr (by decide))).trans ((u197.2 _ _ (Or.inr (by decide))).trans ((u191.2 _ _ (Or.inr (by decide))).trans ((u190.2 _ _ (Or.inr (by decide))).trans ((u184.2 _ _ (Or.inr (by decide))).trans u183.1))))), ((u198.2 _ _ (Or.inr (by decide))).trans ((u197.2 _ _ (Or.inr (by decide))).trans ((u191.2 _ _ (Or.inr (by decide))).trans u190.1))), ((u198.2 _ _ (Or.inr (by decide))).trans u197.1), u198.1, ((u198.2 _ _ (Or.inr (by decide))).trans ((u197.2 _ _ (Or.inr (by decide))).trans u191.1)), (by unfold prm; omega), (by unfold lexV; omega)⟩⟩
          · refine te_iinc (p2 := 59) (x := 5) (y := 4) (lv2 := [(3, .int 4), (2, .int 1), (0, .ref 164), (1, .int 6)]) rfl rfl (by decide) rfl (by decide) rfl ?_
            refine te_goto rfl ?_
            refine te_aload_n (p2 := 42) rfl rfl rfl ?_
            refine tg_r (p2 := 45) (i := 148) (r := 215) rfl rfl hI rfl rfl rfl ?_
            refine te_iload_n (p2 := 46) rfl rfl rfl ?_
            refine tl_e (p2 := 47) (i := 199) (n := 6) (t := 0) (Or.inl rfl) rfl rfl hI rfl rfl (by decide) (by decide) hg4 ?_
            refine te_aload_n (p2 := 48) rfl rfl rfl ?_
            refine tg_r (p2 := 51) (i := 148) (r := 215) rfl rfl hI rfl rfl rfl ?_
            refine te_iload_n (p2 := 52) rfl rfl rfl ?_
            refine tl_e (p2 := 53) (i := 199) (n := 6) (t := 0) (Or.inl rfl) rfl rfl hI rfl rfl (by decide) (by decide) hg1 ?_
            refine tb_ge (p2 := 56) rfl rfl rfl rfl (fun c205 => ?_) (fun c205 => ?_)
            · refine te_aload_n (p2 := 63) rfl rfl rfl ?_
              refine tg_r (p2 := 66) (i := 148) (r := 215) rfl rfl hI rfl rfl rfl ?_
              refine te_iload_n (p2 := 67) rfl rfl rfl ?_
              refine tl_e (p2 := 68) (i := 199) (n := 6) (t := 0) (Or.inl rfl) rfl rfl hI rfl rfl (by decide) (by decide) hg1 ?_
              refine te_istore (p2 := 70) (lv2 := [(4, .int g1), (3, .int 4), (2, .int 1), (0, .ref 164), (1, .int 6)]) rfl rfl (by decide) rfl ?_
              refine te_aload_n (p2 := 71) rfl rfl rfl ?_
              refine tg_r (p2 := 74) (i := 148) (r := 215) rfl rfl hI rfl rfl rfl ?_
              refine te_iload_n (p2 := 75) rfl rfl rfl ?_
              refine te_aload_n (p2 := 76) rfl rfl rfl ?_
              refine tg_r (p2 := 79) (i := 148) (r := 215) rfl rfl hI rfl rfl rfl ?_
              refine te_iload_n (p2 := 80) rfl rfl rfl ?_
              refine tl_e (p2 := 81) (i := 199) (n := 6) (t := 0) (Or.inl rfl) rfl rfl hI rfl rfl (by decide) (by decide) hg4 ?_
              refine ts_i (p2 := 82) (i := 199) (n := 6) rfl rfl hI rfl rfl rfl rfl (by decide) (by decide) (by omega) (by omega) (by omega) rfl (fun h208 I208 u208 => ?_)
              have f208 := fr_st (F := F_X12_nextOrder_6) 0 f0 u208 rfl (by decide) (by decide)
              refine te_aload_n (p2 := 83) rfl rfl rfl ?_
              refine tg_r (p2 := 86) (i := 148) (r := 215) rfl rfl I208 rfl rfl rfl ?_
              refine te_iload_n (p2 := 87) rfl rfl rfl ?_
              refine te_iload (p2 := 89) rfl rfl rfl ?_
              refine ts_i (p2 := 90) (i := 199) (n := 6) rfl rfl I208 rfl rfl rfl rfl (by decide) (by decide) (by omega) (by omega) (by omega) rfl (fun h209 I209 u209 => ?_)
              have f209 := fr_st (F := F_X12_nextOrder_6) 0 f208 u209 rfl (by decide) (by decide)
              refine te_iload_n (p2 := 91) rfl rfl rfl ?_
              refine te_iconst (p2 := 92) (x := 1) rfl rfl (by decide) ?_
              refine te_iadd (p2 := 93) (z := 2) rfl rfl (by decide) ?_
              refine te_istore (p2 := 95) (lv2 := [(5, .int 2), (4, .int g1), (3, .int 4), (2, .int 1), (0, .ref 164), (1, .int 6)]) rfl rfl (by decide) rfl ?_
              refine te_iload_n (p2 := 96) rfl rfl rfl ?_
              refine te_iconst (p2 := 97) (x := 1) rfl rfl (by decide) ?_
              refine te_isub (p2 := 98) (z := 5) rfl rfl (by decide) ?_
              refine te_istore (p2 := 100) (lv2 := [(6, .int 5), (5, .int 2), (4, .int g1), (3, .int 4), (2, .int 1), (0, .ref 164), (1, .int 6)]) rfl rfl (by decide) rfl ?_
              refine te_iload (p2 := 102) rfl rfl rfl ?_
              refine te_iload (p2 := 104) rfl rfl rfl ?_
              refine tb_ge (p2 := 107) rfl rfl (show Int32.toInt 2 = 2 from rfl) (show Int32.toInt 5 = 5 from rfl) (fun c212 => absurd c212 (by omega)) (fun c212 => ?_)
              refine te_aload_n (p2 := 108) rfl rfl rfl ?_
              refine tg_r (p2 := 111) (i := 148) (r := 215) rfl rfl I209 rfl rfl rfl ?_
              refine te_iload (p2 := 113) rfl rfl rfl ?_
              refine tl_e (p2 := 114) (i := 199) (n := 6) (t := 0) (Or.inl rfl) rfl rfl I209 rfl rfl (by decide) (by decide) ((u209.2 _ _ (Or.inr (by decide))).trans ((u208.2 _ _ (Or.inr (by decide))).trans hg2)) ?_
              refine te_istore (p2 := 116) (lv2 := [(7, .int g2), (6, .int 5), (5, .int 2), (4, .int g1), (3, .int 4), (2, .int 1), (0, .ref 164), (1, .int 6)]) rfl rfl (by decide) rfl ?_
              refine te_aload_n (p2 := 117) rfl rfl rfl ?_
              refine tg_r (p2 := 120) (i := 148) (r := 215) rfl rfl I209 rfl rfl rfl ?_
              refine te_iload (p2 := 122) rfl rfl rfl ?_
              refine te_aload_n (p2 := 123) rfl rfl rfl ?_
              refine tg_r (p2 := 126) (i := 148) (r := 215) rfl rfl I209 rfl rfl rfl ?_
              refine te_iload (p2 := 128) rfl rfl rfl ?_
              refine tl_e (p2 := 129) (i := 199) (n := 6) (t := 0) (Or.inl rfl) rfl rfl I209 rfl rfl (by decide) (by decide) ((u209.2 _ _ (Or.inr (by decide))).trans ((u208.2 _ _ (Or.inr (by decide))).trans hg5)) ?_
              refine ts_i (p2 := 130) (i := 199) (n := 6) rfl rfl I209 rfl rfl rfl rfl (by decide) (by decide) (by omega) (by omega) (by omega) rfl (fun h215 I215 u215 => ?_)
              have f215 := fr_st (F := F_X12_nextOrder_6) 0 f209 u215 rfl (by decide) (by decide)
              refine te_aload_n (p2 := 131) rfl rfl rfl ?_
              refine tg_r (p2 := 134) (i := 148) (r := 215) rfl rfl I215 rfl rfl rfl ?_
              refine te_iload (p2 := 136) rfl rfl rfl ?_
              refine te_iload (p2 := 138) rfl rfl rfl ?_
              refine ts_i (p2 := 139) (i := 199) (n := 6) rfl rfl I215 rfl rfl rfl rfl (by decide) (by decide) (by omega) (by omega) (by omega) rfl (fun h216 I216 u216 => ?_)
              have f216 := fr_st (F := F_X12_nextOrder_6) 0 f215 u216 rfl (by decide) (by decide)
              refine te_iinc (p2 := 142) (x := 5) (y := 4) (lv2 := [(6, .int 4), (7, .int g2), (5, .int 2), (4, .int g1), (3, .int 4), (2, .int 1), (0, .ref 164), (1, .int 6)]) rfl rfl (by decide) rfl (by decide) rfl ?_
              refine te_iinc (p2 := 145) (x := 2) (y := 3) (lv2 := [(5, .int 3), (6, .int 4), (7, .int g2), (4, .int g1), (3, .int 4), (2, .int 1), (0, .ref 164), (1, .int 6)]) rfl rfl (by decide) rfl (by decide) rfl ?_
              refine te_goto rfl ?_
              refine te_iload (p2 := 102) rfl rfl rfl ?_
              refine te_iload (p2 := 104) rfl rfl rfl ?_
              refine tb_ge (p2 := 107) rfl rfl (show Int32.toInt 3 = 3 from rfl) (show Int32.toInt 4 = 4 from rfl) (fun c219 => absurd c219 (by omega)) (fun c219 => ?_)
              refine te_aload_n (p2 := 108) rfl rfl rfl ?_
              refine tg_r (p2 := 111) (i := 148) (r := 215) rfl rfl I216 rfl rfl rfl ?_
              refine te_iload (p2 := 113) rfl rfl rfl ?_
              refine tl_e (p2 := 114) (i := 199) (n := 6) (t := 0) (Or.inl rfl) rfl rfl I216 rfl rfl (by decide) (by decide) ((u216.2 _ _ (Or.inr (by decide))).trans ((u215.2 _ _ (Or.inr (by decide))).trans ((u209.2 _ _ (Or.inr (by decide))).trans ((u208.2 _ _ (Or.inr (by decide))).trans hg3)))) ?_
              refine te_istore (p2 := 116) (lv2 := [(7, .int g3), (5, .int 3), (6, .int 4), (4, .int g1), (3, .int 4), (2, .int 1), (0, .ref 164), (1, .int 6)]) rfl rfl (by decide) rfl ?_
              refine te_aload_n (p2 := 117) rfl rfl rfl ?_
              refine tg_r (p2 := 120) (i := 148) (r := 215) rfl rfl I216 rfl rfl rfl ?_
              refine te_iload (p2 := 122) rfl rfl rfl ?_
              refine te_aload_n (p2 := 123) rfl rfl rfl ?_
              refine tg_r (p2 := 126) (i := 148) (r := 215) rfl rfl I216 rfl rfl rfl ?_
              refine te_iload (p2 := 128) rfl rfl rfl ?_
              refine tl_e (p2 := 129) (i := 199) (n := 6) (t := 0) (Or.inl rfl) rfl rfl I216 rfl rfl (by decide) (by decide) ((u216.2 _ _ (Or.inr (by decide))).trans ((u215.2 _ _ (Or.inr (by decide))).trans u209.1)) ?_
              refine ts_i (p2 := 130) (i := 199) (n := 6) rfl rfl I216 rfl rfl rfl rfl (by decide) (by decide) (by omega) (by omega) (by omega) rfl (fun h222 I222 u222 => ?_)
              have f222 := fr_st (F := F_X12_nextOrder_6) 0 f216 u222 rfl (by decide) (by decide)
              refine te_aload_n (p2 := 131) rfl rfl rfl ?_
              refine tg_r (p2 := 134) (i := 148) (r := 215) rfl rfl I222 rfl rfl rfl ?_
              refine te_iload (p2 := 136) rfl rfl rfl ?_
              refine te_iload (p2 := 138) rfl rfl rfl ?_
              refine ts_i (p2 := 139) (i := 199) (n := 6) rfl rfl I222 rfl rfl rfl rfl (by decide) (by decide) (by omega) (by omega) (by omega) rfl (fun h223 I223 u223 => ?_)
              have f223 := fr_st (F := F_X12_nextOrder_6) 0 f222 u223 rfl (by decide) (by decide)
              refine te_iinc (p2 := 142) (x := 4) (y := 3) (lv2 := [(6, .int 3), (7, .int g3), (5, .int 3), (4, .int g1), (3, .int 4), (2, .int 1), (0, .ref 164), (1, .int 6)]) rfl rfl (by decide) rfl (by decide) rfl ?_
              refine te_iinc (p2 := 145) (x := 3) (y := 4) (lv2 := [(5, .int 4), (6, .int 3), (7, .int g3), (4, .int g1), (3, .int 4), (2, .int 1), (0, .ref 164), (1, .int 6)]) rfl rfl (by decide) rfl (by decide) rfl ?_
              refine te_goto rfl ?_
              refine te_iload (p2 := 102) rfl rfl rfl ?_
              refine te_iload (p2 := 104) rfl rfl rfl ?_
              refine tb_ge (p2 := 107) rfl rfl (show Int32.toInt 4 = 4 from rfl) (show Int32.toInt 3 = 3 from rfl) (fun c226 => ?_) (fun c226 => absurd c226 (by omega))
              refine te_iconst (p2 := 149) (x := 1) rfl rfl (by decide) ?_
              exact te_zret rfl rfl (by decide) ⟨I223, f223, _, rfl, Or.inr ⟨rfl, g0, g4, g5, g1, g3, g2, ((u223.2 _ _ (Or.inr (by decide))).trans ((u222.2 _ _ (Or.inr (by decide))).trans ((u216.2 _ _ (Or.inr (by decide))).trans ((u215.2 _ _ (Or.inr (by decide))).trans ((u209.2 _ _ (Or.inr (by decide))).trans ((u208.2 _ _ (Or.inr (by decide))).trans hg0)))))), ((u223.2 _ _ (Or.inr (by decide))).trans ((u222.2 _ _ (Or.inr (by decide))).trans ((u216.2 _ _ (Or.inr (by decide))).trans ((u215.2 _ _ (Or.inr (by decide))).trans ((u209.2 _ _ (Or.inr (by decide))).trans u208.1))))), ((u223.2 _ _ (Or.inr (by decide))).trans ((u222.2 _ _ (Or.inr (by decide))).trans ((u216.2 _ _ (Or.inr (by decide))).trans u215.1))), ((u223.2 _ _ (Or.inr (by decide))).trans u222.1), u223.1, ((u223.2 _ _ (Or.inr (by decide))).trans ((u222.2 _ _ (Or.inr (by decide))).trans u216.1)), (by unfold prm; omega), (by unfold lexV; omega)⟩⟩
            · refine te_iinc (p2 := 59) (x := 4) (y := 3) (lv2 := [(3, .int 3), (2, .int 1), (0, .ref 164), (1, .int 6)]) rfl rfl (by decide) rfl (by decide) rfl ?_
              refine te_goto rfl ?_
              refine te_aload_n (p2 := 42) rfl rfl rfl ?_
              refine tg_r (p2 := 45) (i := 148) (r := 215) rfl rfl hI rfl rfl rfl ?_
              refine te_iload_n (p2 := 46) rfl rfl rfl ?_
              refine tl_e (p2 := 47) (i := 199) (n := 6) (t := 0) (Or.inl rfl) rfl rfl hI rfl rfl (by decide) (by decide) hg3 ?_
              refine te_aload_n (p2 := 48) rfl rfl rfl ?_
              refine tg_r (p2 := 51) (i := 148) (r := 215) rfl rfl hI rfl rfl rfl ?_
              refine te_iload_n (p2 := 52) rfl rfl rfl ?_
              refine tl_e (p2 := 53) (i := 199) (n := 6) (t := 0) (Or.inl rfl) rfl rfl hI rfl rfl (by decide) (by decide) hg1 ?_
              refine tb_ge (p2 := 56) rfl rfl rfl rfl (fun c230 => ?_) (fun c230 => ?_)
              · refine te_aload_n (p2 := 63) rfl rfl rfl ?_
                refine tg_r (p2 := 66) (i := 148) (r := 215) rfl rfl hI rfl rfl rfl ?_
                refine te_iload_n (p2 := 67) rfl rfl rfl ?_
                refine tl_e (p2 := 68) (i := 199) (n := 6) (t := 0) (Or.inl rfl) rfl rfl hI rfl rfl (by decide) (by decide) hg1 ?_
                refine te_istore (p2 := 70) (lv2 := [(4, .int g1), (3, .int 3), (2, .int 1), (0, .ref 164), (1, .int 6)]) rfl rfl (by decide) rfl ?_
                refine te_aload_n (p2 := 71) rfl rfl rfl ?_
                refine tg_r (p2 := 74) (i := 148) (r := 215) rfl rfl hI rfl rfl rfl ?_
                refine te_iload_n (p2 := 75) rfl rfl rfl ?_
                refine te_aload_n (p2 := 76) rfl rfl rfl ?_
                refine tg_r (p2 := 79) (i := 148) (r := 215) rfl rfl hI rfl rfl rfl ?_
                refine te_iload_n (p2 := 80) rfl rfl rfl ?_
                refine tl_e (p2 := 81) (i := 199) (n := 6) (t := 0) (Or.inl rfl) rfl rfl hI rfl rfl (by decide) (by decide) hg3 ?_
                refine ts_i (p2 := 82) (i := 199) (n := 6) rfl rfl hI rfl rfl rfl rfl (by decide) (by decide) (by omega) (by omega) (by omega) rfl (fun h233 I233 u233 => ?_)
                have f233 := fr_st (F := F_X12_nextOrder_6) 0 f0 u233 rfl (by decide) (by decide)
                refine te_aload_n (p2 := 83) rfl rfl rfl ?_
                refine tg_r (p2 := 86) (i := 148) (r := 215) rfl rfl I233 rfl rfl rfl ?_
                refine te_iload_n (p2 := 87) rfl rfl rfl ?_
                refine te_iload (p2 := 89) rfl rfl rfl ?_
                refine ts_i (p2 := 90) (i := 199) (n := 6) rfl rfl I233 rfl rfl rfl rfl (by decide) (by decide) (by omega) (by omega) (by omega) rfl (fun h234 I234 u234 => ?_)
                have f234 := fr_st (F := F_X12_nextOrder_6) 0 f233 u234 rfl (by decide) (by decide)
                refine te_iload_n (p2 := 91) rfl rfl rfl ?_
                refine te_iconst (p2 := 92) (x := 1) rfl rfl (by decide) ?_
                refine te_iadd (p2 := 93) (z := 2) rfl rfl (by decide) ?_
                refine te_istore (p2 := 95) (lv2 := [(5, .int 2), (4, .int g1), (3, .int 3), (2, .int 1), (0, .ref 164), (1, .int 6)]) rfl rfl (by decide) rfl ?_
                refine te_iload_n (p2 := 96) rfl rfl rfl ?_
                refine te_iconst (p2 := 97) (x := 1) rfl rfl (by decide) ?_
                refine te_isub (p2 := 98) (z := 5) rfl rfl (by decide) ?_
                refine te_istore (p2 := 100) (lv2 := [(6, .int 5), (5, .int 2), (4, .int g1), (3, .int 3), (2, .int 1), (0, .ref 164), (1, .int 6)]) rfl rfl (by decide) rfl ?_
                refine te_iload (p2 := 102) rfl rfl rfl ?_
                refine te_iload (p2 := 104) rfl rfl rfl ?_
                refine tb_ge (p2 := 107) rfl rfl (show Int32.toInt 2 = 2 from rfl) (show Int32.toInt 5 = 5 from rfl) (fun c237 => absurd c237 (by omega)) (fun c237 => ?_)
                refine te_aload_n (p2 := 108) rfl rfl rfl ?_
                refine tg_r (p2 := 111) (i := 148) (r := 215) rfl rfl I234 rfl rfl rfl ?_
                refine te_iload (p2 := 113) rfl rfl rfl ?_
                refine tl_e (p2 := 114) (i := 199) (n := 6) (t := 0) (Or.inl rfl) rfl rfl I234 rfl rfl (by decide) (by decide) ((u234.2 _ _ (Or.inr (by decide))).trans ((u233.2 _ _ (Or.inr (by decide))).trans hg2)) ?_
                refine te_istore (p2 := 116) (lv2 := [(7, .int g2), (6, .int 5), (5, .int 2), (4, .int g1), (3, .int 3), (2, .int 1), (0, .ref 164), (1, .int 6)]) rfl rfl (by decide) rfl ?_
                refine te_aload_n (p2 := 117) rfl rfl rfl ?_
                refine tg_r (p2 := 120) (i := 148) (r := 215) rfl rfl I234 rfl rfl rfl ?_
                refine te_iload (p2 := 122) rfl rfl rfl ?_
                refine te_aload_n (p2 := 123) rfl rfl rfl ?_
                refine tg_r (p2 := 126) (i := 148) (r := 215) rfl rfl I234 rfl rfl rfl ?_
                refine te_iload (p2 := 128) rfl rfl rfl ?_
                refine tl_e (p2 := 129) (i := 199) (n := 6) (t := 0) (Or.inl rfl) rfl rfl I234 rfl rfl (by decide) (by decide) ((u234.2 _ _ (Or.inr (by decide))).trans ((u233.2 _ _ (Or.inr (by decide))).trans hg5)) ?_
                refine ts_i (p2 := 130) (i := 199) (n := 6) rfl rfl I234 rfl rfl rfl rfl (by decide) (by decide) (by omega) (by omega) (by omega) rfl (fun h240 I240 u240 => ?_)
                have f240 := fr_st (F := F_X12_nextOrder_6) 0 f234 u240 rfl (by decide) (by decide)
                refine te_aload_n (p2 := 131) rfl rfl rfl ?_
                refine tg_r (p2 := 134) (i := 148) (r := 215) rfl rfl I240 rfl rfl rfl ?_
                refine te_iload (p2 := 136) rfl rfl rfl ?_
                refine te_iload (p2 := 138) rfl rfl rfl ?_
                refine ts_i (p2 := 139) (i := 199) (n := 6) rfl rfl I240 rfl rfl rfl rfl (by decide) (by decide) (by omega) (by omega) (by omega) rfl (fun h241 I241 u241 => ?_)
                have f241 := fr_st (F := F_X12_nextOrder_6) 0 f240 u241 rfl (by decide) (by decide)
                refine te_iinc (p2 := 142) (x := 5) (y := 4) (lv2 := [(6, .int 4), (7, .int g2), (5, .int 2), (4, .int g1), (3, .int 3), (2, .int 1), (0, .ref 164), (1, .int 6)]) rfl rfl (by decide) rfl (by decide) rfl ?_
                refine te_iinc (p2 := 145) (x := 2) (y := 3) (lv2 := [(5, .int 3), (6, .int 4), (7, .int g2), (4, .int g1), (3, .int 3), (2, .int 1), (0, .ref 164), (1, .int 6)]) rfl rfl (by decide) rfl (by decide) rfl ?_
                refine te_goto rfl ?_
                refine te_iload (p2 := 102) rfl rfl rfl ?_
                refine te_iload (p2 := 104) rfl rfl rfl ?_
                refine tb_ge (p2 := 107) rfl rfl (show Int32.toInt 3 = 3 from rfl) (show Int32.toInt 4 = 4 from rfl) (fun c244 => absurd c244 (by omega)) (fun c244 => ?_)
                refine te_aload_n (p2 := 108) rfl rfl rfl ?_
                refine tg_r (p2 := 111) (i := 148) (r := 215) rfl rfl I241 rfl rfl rfl ?_
                refine te_iload (p2 := 113) rfl rfl rfl ?_
                refine tl_e (p2 := 114) (i := 199) (n := 6) (t := 0) (Or.inl rfl) rfl rfl I241 rfl rfl (by decide) (by decide) ((u241.2 _ _ (Or.inr (by decide))).trans ((u240.2 _ _ (Or.inr (by decide))).trans u234.1)) ?_
                refine te_istore (p2 := 116) (lv2 := [(7, .int g1), (5, .int 3), (6, .int 4), (4, .int g1), (3, .int 3), (2, .int 1), (0, .ref 164), (1, .int 6)]) rfl rfl (by decide) rfl ?_
                refine te_aload_n (p2 := 117) rfl rfl rfl ?_
                refine tg_r (p2 := 120) (i := 148) (r := 215) rfl rfl I241 rfl rfl rfl ?_
                refine te_iload (p2 := 122) rfl rfl rfl ?_
                refine te_aload_n (p2 := 123) rfl rfl rfl ?_
                refine tg_r (p2 := 126) (i := 148) (r := 215) rfl rfl I241 rfl rfl rfl ?_
                refine te_iload (p2 := 128) rfl rfl rfl ?_
                refine tl_e (p2 := 129) (i := 199) (n := 6) (t := 0) (Or.inl rfl) rfl rfl I241 rfl rfl (by decide) (by decide) ((u241.2 _ _ (Or.inr (by decide))).trans ((u240.2 _ _ (Or.inr (by decide))).trans ((u234.2 _ _ (Or.inr (by decide))).trans ((u233.2 _ _ (Or.inr (by decide))).trans hg4)))) ?_
                refine ts_i (p2 := 130) (i := 199) (n := 6) rfl rfl I241 rfl rfl rfl rfl (by decide) (by decide) (by omega) (by omega) (by omega) rfl (fun h247 I247 u247 => ?_)
                have f247 := fr_st (F := F_X12_nextOrder_6) 0 f241 u247 rfl (by decide) (by decide)
                refine te_aload_n (p2 := 131) rfl rfl rfl ?_
                refine tg_r (p2 := 134) (i := 148) (r := 215) rfl rfl I247 rfl rfl rfl ?_
                refine te_iload (p2 := 136) rfl rfl rfl ?_
                refine te_iload (p2 := 138) rfl rfl rfl ?_
                refine ts_i (p2 := 139) (i := 199) (n := 6) rfl rfl I247 rfl rfl rfl rfl (by decide) (by decide) (by omega) (by omega) (by omega) rfl (fun h248 I248 u248 => ?_)
                have f248 := fr_st (F := F_X12_nextOrder_6) 0 f247 u248 rfl (by decide) (by decide)
                refine te_iinc (p2 := 142) (x := 4) (y := 3) (lv2 := [(6, .int 3), (7, .int g1), (5, .int 3), (4, .int g1), (3, .int 3), (2, .int 1), (0, .ref 164), (1, .int 6)]) rfl rfl (by decide) rfl (by decide) rfl ?_
                refine te_iinc (p2 := 145) (x := 3) (y := 4) (lv2 := [(5, .int 4), (6, .int 3), (7, .int g1), (4, .int g1), (3, .int 3), (2, .int 1), (0, .ref 164), (1, .int 6)]) rfl rfl (by decide) rfl (by decide) rfl ?_
                refine te_goto rfl ?_
                refine te_iload (p2 := 102) rfl rfl rfl ?_
                refine te_iload (p2 := 104) rfl rfl rfl ?_
                refine tb_ge (p2 := 107) rfl rfl (show Int32.toInt 4 = 4 from rfl) (show Int32.toInt 3 = 3 from rfl) (fun c251 => ?_) (fun c251 => absurd c251 (by omega))
                refine te_iconst (p2 := 149) (x := 1) rfl rfl (by decide) ?_
                exact te_zret rfl rfl (by decide) ⟨I248, f248, _, rfl, Or.inr ⟨rfl, g0, g3, g5, g4, g1, g2, ((u248.2 _ _ (Or.inr (by decide))).trans ((u247.2 _ _ (Or.inr (by decide))).trans ((u241.2 _ _ (Or.inr (by decide))).trans ((u240.2 _ _ (Or.inr (by decide))).trans ((u234.2 _ _ (Or.inr (by decide))).trans ((u233.2 _ _ (Or.inr (by decide))).trans hg0)))))), ((u248.2 _ _ (Or.inr (by decide))).trans ((u247.2 _ _ (Or.inr (by decide))).trans ((u241.2 _ _ (Or.inr (by decide))).trans ((u240.2 _ _ (Or.inr (by decide))).trans ((u234.2 _ _ (Or.inr (by decide))).trans u233.1))))), ((u248.2 _ _ (Or.inr (by decide))).trans ((u247.2 _ _ (Or.inr (by decide))).trans ((u241.2 _ _ (Or.inr (by decide))).trans u240.1))), ((u248.2 _ _ (Or.inr (by decide))).trans u247.1), u248.1, ((u248.2 _ _ (Or.inr (by decide))).trans ((u247.2 _ _ (Or.inr (by decide))).trans u241.1)), (by unfold prm; omega), (by unfold lexV; omega)⟩⟩
              · refine te_iinc (p2 := 59) (x := 3) (y := 2) (lv2 := [(3, .int 2), (2, .int 1), (0, .ref 164), (1, .int 6)]) rfl rfl (by decide) rfl (by decide) rfl ?_
                refine te_goto rfl ?_
                refine te_aload_n (p2 := 42) rfl rfl rfl ?_
                refine tg_r (p2 := 45) (i := 148) (r := 215) rfl rfl hI rfl rfl rfl ?_
                refine te_iload_n (p2 := 46) rfl rfl rfl ?_
                refine tl_e (p2 := 47) (i := 199) (n := 6) (t := 0) (Or.inl rfl) rfl rfl hI rfl rfl (by decide) (by decide) hg2 ?_
                refine te_aload_n (p2 := 48) rfl rfl rfl ?_
                refine tg_r (p2 := 51) (i := 148) (r := 215) rfl rfl hI rfl rfl rfl ?_
                refine te_iload_n (p2 := 52) rfl rfl rfl ?_
                refine tl_e (p2 := 53) (i := 199) (n := 6) (t := 0) (Or.inl rfl) rfl rfl hI rfl rfl (by decide) (by decide) hg1 ?_
                refine tb_ge (p2 := 56) rfl rfl rfl rfl (fun c255 => ?_) (fun c255 => ?_)
                · refine te_aload_n (p2 := 63) rfl rfl rfl ?_
                  refine tg_r (p2 := 66) (i := 148) (r := 215) rfl rfl hI rfl rfl rfl ?_
                  refine te_iload_n (p2 := 67) rfl rfl rfl ?_
                  refine tl_e (p2 := 68) (i := 199) (n := 6) (t := 0) (Or.inl rfl) rfl rfl hI rfl rfl (by decide) (by decide) hg1 ?_
                  refine te_istore (p2 := 70) (lv2 := [(4, .int g1), (3, .int 2), (2, .int 1), (0, .ref 164), (1, .int 6)]) rfl rfl (by decide) rfl ?_
                  refine te_aload_n (p2 := 71) rfl rfl rfl ?_
                  refine tg_r (p2 := 74) (i := 148) (r := 215) rfl rfl hI rfl rfl rfl ?_
                  refine te_iload_n (p2 := 75) rfl rfl rfl ?_
                  refine te_aload_n (p2 := 76) rfl rfl rfl ?_
                  refine tg_r (p2 := 79) (i := 148) (r := 215) rfl rfl hI rfl rfl rfl ?_
                  refine te_iload_n (p2 := 80) rfl rfl rfl ?_
                  refine tl_e (p2 := 81) (i := 199) (n := 6) (t := 0) (Or.inl rfl) rfl rfl hI rfl rfl (by decide) (by decide) hg2 ?_
                  refine ts_i (p2 := 82) (i := 199) (n := 6) rfl rfl hI rfl rfl rfl rfl (by decide) (by decide) (by omega) (by omega) (by omega) rfl (fun h258 I258 u258 => ?_)
                  have f258 := fr_st (F := F_X12_nextOrder_6) 0 f0 u258 rfl (by decide) (by decide)
                  refine te_aload_n (p2 := 83) rfl rfl rfl ?_
                  refine tg_r (p2 := 86) (i := 148) (r := 215) rfl rfl I258 rfl rfl rfl ?_
                  refine te_iload_n (p2 := 87) rfl rfl rfl ?_
                  refine te_iload (p2 := 89) rfl rfl rfl ?_
                  refine ts_i (p2 := 90) (i := 199) (n := 6) rfl rfl I258 rfl rfl rfl rfl (by decide) (by decide) (by omega) (by omega) (by omega) rfl (fun h259 I259 u259 => ?_)
                  have f259 := fr_st (F := F_X12_nextOrder_6) 0 f258 u259 rfl (by decide) (by decide)
                  refine te_iload_n (p2 := 91) rfl rfl rfl ?_
                  refine te_iconst (p2 := 92) (x := 1) rfl rfl (by decide) ?_
                  refine te_iadd (p2 := 93) (z := 2) rfl rfl (by decide) ?_
                  refine te_istore (p2 := 95) (lv2 := [(5, .int 2), (4, .int g1), (3, .int 2), (2, .int 1), (0, .ref 164), (1, .int 6)]) rfl rfl (by decide) rfl ?_
                  refine te_iload_n (p2 := 96) rfl rfl rfl ?_
                  refine te_iconst (p2 := 97) (x := 1) rfl rfl (by decide) ?_
                  refine te_isub (p2 := 98) (z := 5) rfl rfl (by decide) ?_
                  refine te_istore (p2 := 100) (lv2 := [(6, .int 5), (5, .int 2), (4, .int g1), (3, .int 2), (2, .int 1), (0, .ref 164), (1, .int 6)]) rfl rfl (by decide) rfl ?_
                  refine te_iload (p2 := 102) rfl rfl rfl ?_
                  refine te_iload (p2 := 104) rfl rfl rfl ?_
                  refine tb_ge (p2 := 107) rfl rfl (show Int32.toInt 2 = 2 from rfl) (show Int32.toInt 5 = 5 from rfl) (fun c262 => absurd c262 (by omega)) (fun c262 => ?_)
                  refine te_aload_n (p2 := 108) rfl rfl rfl ?_
                  refine tg_r (p2 := 111) (i := 148) (r := 215) rfl rfl I259 rfl rfl rfl ?_
                  refine te_iload (p2 := 113) rfl rfl rfl ?_
                  refine tl_e (p2 := 114) (i := 199) (n := 6) (t := 0) (Or.inl rfl) rfl rfl I259 rfl rfl (by decide) (by decide) u259.1 ?_
                  refine te_istore (p2 := 116) (lv2 := [(7, .int g1), (6, .int 5), (5, .int 2), (4, .int g1), (3, .int 2), (2, .int 1), (0, .ref 164), (1, .int 6)]) rfl rfl (by decide) rfl ?_
                  refine te_aload_n (p2 := 117) rfl rfl rfl ?_
                  refine tg_r (p2 := 120) (i := 148) (r := 215) rfl rfl I259 rfl rfl rfl ?_
                  refine te_iload (p2 := 122) rfl rfl rfl ?_
                  refine te_aload_n (p2 := 123) rfl rfl rfl ?_
                  refine tg_r (p2 := 126) (i := 148) (r := 215) rfl rfl I259 rfl rfl rfl ?_
                  refine te_iload (p2 := 128) rfl rfl rfl ?_
                  refine tl_e (p2 := 129) (i := 199) (n := 6) (t := 0) (Or.inl rfl) rfl rfl I259 rfl rfl (by decide) (by decide) ((u259.2 _ _ (Or.inr (by decide))).trans ((u258.2 _ _ (Or.inr (by decide))).trans hg5)) ?_
                  refine ts_i (p2 := 130) (i := 199) (n := 6) rfl rfl I259 rfl rfl rfl rfl (by decide) (by decide) (by omega) (by omega) (by omega) rfl (fun h265 I265 u265 => ?_)
                  have f265 := fr_st (F := F_X12_nextOrder_6) 0 f259 u265 rfl (by decide) (by decide)
                  refine te_aload_n (p2 := 131) rfl rfl rfl ?_
                  refine tg_r (p2 := 134) (i := 148) (r := 215) rfl rfl I265 rfl rfl rfl ?_
                  refine te_iload (p2 := 136) rfl rfl rfl ?_
                  refine te_iload (p2 := 138) rfl rfl rfl ?_
                  refine ts_i (p2 := 139) (i := 199) (n := 6) rfl rfl I265 rfl rfl rfl rfl (by decide) (by decide) (by omega) (by omega) (by omega) rfl (fun h266 I266 u266 => ?_)
                  have f266 := fr_st (F := F_X12_nextOrder_6) 0 f265 u266 rfl (by decide) (by decide)
                  refine te_iinc (p2 := 142) (x := 5) (y := 4) (lv2 := [(6, .int 4), (7, .int g1), (5, .int 2), (4, .int g1), (3, .int 2), (2, .int 1), (0, .ref 164), (1, .int 6)]) rfl rfl (by decide) rfl (by decide) rfl ?_
                  refine te_iinc (p2 := 145) (x := 2) (y := 3) (lv2 := [(5, .int 3), (6, .int 4), (7, .int g1), (4, .int g1), (3, .int 2), (2, .int 1), (0, .ref 164), (1, .int 6)]) rfl rfl (by decide) rfl (by decide) rfl ?_
                  refine te_goto rfl ?_
                  refine te_iload (p2 := 102) rfl rfl rfl ?_
                  refine te_iload (p2 := 104) rfl rfl rfl ?_
                  refine tb_ge (p2 := 107) rfl rfl (show Int32.toInt 3 = 3 from rfl) (show Int32.toInt 4 = 4 from rfl) (fun c269 => absurd c269 (by omega)) (fun c269 => ?_)
                  refine te_aload_n (p2 := 108) rfl rfl rfl ?_
                  refine tg_r (p2 := 111) (i := 148) (r := 215) rfl rfl I266 rfl rfl rfl ?_
                  refine te_iload (p2 := 113) rfl rfl rfl ?_
                  refine tl_e (p2 := 114) (i := 199) (n := 6) (t := 0) (Or.inl rfl) rfl rfl I266 rfl rfl (by decide) (by decide) ((u266.2 _ _ (Or.inr (by decide))).trans ((u265.2 _ _ (Or.inr (by decide))).trans ((u259.2 _ _ (Or.inr (by decide))).trans ((u258.2 _ _ (Or.inr (by decide))).trans hg3)))) ?_
                  refine te_istore (p2 := 116) (lv2 := [(7, .int g3), (5, .int 3), (6, .int 4), (4, .int g1), (3, .int 2), (2, .int 1), (0, .ref 164), (1, .int 6)]) rfl rfl (by decide) rfl ?_
                  refine te_aload_n (p2 := 117) rfl rfl rfl ?_
                  refine tg_r (p2 := 120) (i := 148) (r := 215) rfl rfl I266 rfl rfl rfl ?_
                  refine te_iload (p2 := 122) rfl rfl rfl ?_
                  refine te_aload_n (p2 := 123) rfl rfl rfl ?_
                  refine tg_r (p2 := 126) (i := 148) (r := 215) rfl rfl I266 rfl rfl rfl ?_
                  refine te_iload (p2 := 128) rfl rfl rfl ?_
                  refine tl_e (p2 := 129) (i := 199) (n := 6) (t := 0) (Or.inl rfl) rfl rfl I266 rfl rfl (by decide) (by decide) ((u266.2 _ _ (Or.inr (by decide))).trans ((u265.2 _ _ (Or.inr (by decide))).trans ((u259.2 _ _ (Or.inr (by decide))).trans ((u258.2 _ _ (Or.inr (by decide))).trans hg4)))) ?_
                  refine ts_i (p2 := 130) (i := 199) (n := 6) rfl rfl I266 rfl rfl rfl rfl (by decide) (by decide) (by omega) (by omega) (by omega) rfl (fun h272 I272 u272 => ?_)
                  have f272 := fr_st (F := F_X12_nextOrder_6) 0 f266 u272 rfl (by decide) (by decide)
                  refine te_aload_n (p2 := 131) rfl rfl rfl ?_
                  refine tg_r (p2 := 134) (i := 148) (r := 215) rfl rfl I272 rfl rfl rfl ?_
                  refine te_iload (p2 := 136) rfl rfl rfl ?_
                  refine te_iload (p2 := 138) rfl rfl rfl ?_
                  refine ts_i (p2 := 139) (i := 199) (n := 6) rfl rfl I272 rfl rfl rfl rfl (by decide) (by decide) (by omega) (by omega) (by omega) rfl (fun h273 I273 u273 => ?_)
                  have f273 := fr_st (F := F_X12_nextOrder_6) 0 f272 u273 rfl (by decide) (by decide)
                  refine te_iinc (p2 := 142) (x := 4) (y := 3) (lv2 := [(6, .int 3), (7, .int g3), (5, .int 3), (4, .int g1), (3, .int 2), (2, .int 1), (0, .ref 164), (1, .int 6)]) rfl rfl (by decide) rfl (by decide) rfl ?_
                  refine te_iinc (p2 := 145) (x := 3) (y := 4) (lv2 := [(5, .int 4), (6, .int 3), (7, .int g3), (4, .int g1), (3, .int 2), (2, .int 1), (0, .ref 164), (1, .int 6)]) rfl rfl (by decide) rfl (by decide) rfl ?_
                  refine te_goto rfl ?_
                  refine te_iload (p2 := 102) rfl rfl rfl ?_
                  refine te_iload (p2 := 104) rfl rfl rfl ?_
                  refine tb_ge (p2 := 107) rfl rfl (show Int32.toInt 4 = 4 from rfl) (show Int32.toInt 3 = 3 from rfl) (fun c276 => ?_) (fun c276 => absurd c276 (by omega))
                  refine te_iconst (p2 := 149) (x := 1) rfl rfl (by decide) ?_
                  exact te_zret rfl rfl (by decide) ⟨I273, f273, _, rfl, Or.inr ⟨rfl, g0, g2, g5, g4, g3, g1, ((u273.2 _ _ (Or.inr (by decide))).trans ((u272.2 _ _ (Or.inr (by decide))).trans ((u266.2 _ _ (Or.inr (by decide))).trans ((u265.2 _ _ (Or.inr (by decide))).trans ((u259.2 _ _ (Or.inr (by decide))).trans ((u258.2 _ _ (Or.inr (by decide))).trans hg0)))))), ((u273.2 _ _ (Or.inr (by decide))).trans ((u272.2 _ _ (Or.inr (by decide))).trans ((u266.2 _ _ (Or.inr (by decide))).trans ((u265.2 _ _ (Or.inr (by decide))).trans ((u259.2 _ _ (Or.inr (by decide))).trans u258.1))))), ((u273.2 _ _ (Or.inr (by decide))).trans ((u272.2 _ _ (Or.inr (by decide))).trans ((u266.2 _ _ (Or.inr (by decide))).trans u265.1))), ((u273.2 _ _ (Or.inr (by decide))).trans u272.1), u273.1, ((u273.2 _ _ (Or.inr (by decide))).trans ((u272.2 _ _ (Or.inr (by decide))).trans u266.1)), (by unfold prm; omega), (by unfold lexV; omega)⟩⟩
                · refine te_iinc (p2 := 59) (x := 2) (y := 1) (lv2 := [(3, .int 1), (2, .int 1), (0, .ref 164), (1, .int 6)]) rfl rfl (by decide) rfl (by decide) rfl ?_
                  refine te_goto rfl ?_
                  refine te_aload_n (p2 := 42) rfl rfl rfl ?_
                  refine tg_r (p2 := 45) (i := 148) (r := 215) rfl rfl hI rfl rfl rfl ?_
                  refine te_iload_n (p2 := 46) rfl rfl rfl ?_
                  refine tl_e (p2 := 47) (i := 199) (n := 6) (t := 0) (Or.inl rfl) rfl rfl hI rfl rfl (by decide) (by decide) hg1 ?_
                  refine te_aload_n (p2 := 48) rfl rfl rfl ?_
                  refine tg_r (p2 := 51) (i := 148) (r := 215) rfl rfl hI rfl rfl rfl ?_
                  refine te_iload_n (p2 := 52) rfl rfl rfl ?_
                  refine tl_e (p2 := 53) (i := 199) (n := 6) (t := 0) (Or.inl rfl) rfl rfl hI rfl rfl (by decide) (by decide) hg1 ?_
                  refine tb_ge (p2 := 56) rfl rfl rfl rfl (fun c280 => ?_) (fun c280 => absurd c280 (by omega))
                  refine te_aload_n (p2 := 63) rfl rfl rfl ?_
                  refine tg_r (p2 := 66) (i := 148) (r := 215) rfl rfl hI rfl rfl rfl ?_
                  refine te_iload_n (p2 := 67) rfl rfl rfl ?_
                  refine tl_e (p2 := 68) (i := 199) (n := 6) (t := 0) (Or.inl rfl) rfl rfl hI rfl rfl (by decide) (by decide) hg1 ?_
                  refine te_istore (p2 := 70) (lv2 := [(4, .int g1), (3, .int 1), (2, .int 1), (0, .ref 164), (1, .int 6)]) rfl rfl (by decide) rfl ?_
                  refine te_aload_n (p2 := 71) rfl rfl rfl ?_
                  refine tg_r (p2 := 74) (i := 148) (r := 215) rfl rfl hI rfl rfl rfl ?_
                  refine te_iload_n (p2 := 75) rfl rfl rfl ?_
                  refine te_aload_n (p2 := 76) rfl rfl rfl ?_
                  refine tg_r (p2 := 79) (i := 148) (r := 215) rfl rfl hI rfl rfl rfl ?_
                  refine te_iload_n (p2 := 80) rfl rfl rfl ?_
                  refine tl_e (p2 := 81) (i := 199) (n := 6) (t := 0) (Or.inl rfl) rfl rfl hI rfl rfl (by decide) (by decide) hg1 ?_
                  refine ts_i (p2 := 82) (i := 199) (n := 6) rfl rfl hI rfl rfl rfl rfl (by decide) (by decide) (by omega) (by omega) (by omega) rfl (fun h283 I283 u283 => ?_)
                  have f283 := fr_st (F := F_X12_nextOrder_6) 0 f0 u283 rfl (by decide) (by decide)
                  refine te_aload_n (p2 := 83) rfl rfl rfl ?_
                  refine tg_r (p2 := 86) (i := 148) (r := 215) rfl rfl I283 rfl rfl rfl ?_
                  refine te_iload_n (p2 := 87) rfl rfl rfl ?_
                  refine te_iload (p2 := 89) rfl rfl rfl ?_
                  refine ts_i (p2 := 90) (i := 199) (n := 6) rfl rfl I283 rfl rfl rfl rfl (by decide) (by decide) (by omega) (by omega) (by omega) rfl (fun h284 I284 u284 => ?_)
                  have f284 := fr_st (F := F_X12_nextOrder_6) 0 f283 u284 rfl (by decide) (by decide)
                  refine te_iload_n (p2 := 91) rfl rfl rfl ?_
                  refine te_iconst (p2 := 92) (x := 1) rfl rfl (by decide) ?_
                  refine te_iadd (p2 := 93) (z := 2) rfl rfl (by decide) ?_
                  refine te_istore (p2 := 95) (lv2 := [(5, .int 2), (4, .int g1), (3, .int 1), (2, .int 1), (0, .ref 164), (1, .int 6)]) rfl rfl (by decide) rfl ?_
                  refine te_iload_n (p2 := 96) rfl rfl rfl ?_
                  refine te_iconst (p2 := 97) (x := 1) rfl rfl (by decide) ?_
                  refine te_isub (p2 := 98) (z := 5) rfl rfl (by decide) ?_
                  refine te_istore (p2 := 100) (lv2 := [(6, .int 5), (5, .int 2), (4, .int g1), (3, .int 1), (2, .int 1), (0, .ref 164), (1, .int 6)]) rfl rfl (by decide) rfl ?_
                  refine te_iload (p2 := 102) rfl rfl rfl ?_
                  refine te_iload (p2 := 104) rfl rfl rfl ?_
                  refine tb_ge (p2 := 107) rfl rfl (show Int32.toInt 2 = 2 from rfl) (show Int32.toInt 5 = 5 from rfl) (fun c287 => absurd c287 (by omega)) (fun c287 => ?_)
                  refine te_aload_n (p2 := 108) rfl rfl rfl ?_
                  refine tg_r (p2 := 111) (i := 148) (r := 215) rfl rfl I284 rfl rfl rfl ?_
                  refine te_iload (p2 := 113) rfl rfl rfl ?_
                  refine tl_e (p2 := 114) (i := 199) (n := 6) (t := 0) (Or.inl rfl) rfl rfl I284 rfl rfl (by decide) (by decide) ((u284.2 _ _ (Or.inr (by decide))).trans ((u283.2 _ _ (Or.inr (by decide))).trans hg2)) ?_
                  refine te_istore (p2 := 116) (lv2 := [(7, .int g2), (6, .int 5), (5, .int 2), (4, .int g1), (3, .int 1), (2, .int 1), (0, .ref 164), (1, .int 6)]) rfl rfl (by decide) rfl ?_
                  refine te_aload_n (p2 := 117) rfl rfl rfl ?_
                  refine tg_r (p2 := 120) (i := 148) (r := 215) rfl rfl I284 rfl rfl rfl ?_
                  refine te_iload (p2 := 122) rfl rfl rfl ?_
                  refine te_aload_n (p2 := 123) rfl rfl rfl ?_
                  refine tg_r (p2 := 126) (i := 148) (r := 215) rfl rfl I284 rfl rfl rfl ?_
                  refine te_iload (p2 := 128) rfl rfl rfl ?_
                  refine tl_e (p2 := 129) (i := 199) (n := 6) (t := 0) (Or.inl rfl) rfl rfl I284 rfl rfl (by decide) (by decide) ((u284.2 _ _ (Or.inr (by decide))).trans ((u283.2 _ _ (Or.inr (by decide))).trans hg5)) ?_
                  refine ts_i (p2 := 130) (i := 199) (n := 6) rfl rfl I284 rfl rfl rfl rfl (by decide) (by decide) (by omega) (by omega) (by omega) rfl (fun h290 I290 u290 => ?_)
                  have f290 := fr_st (F := F_X12_nextOrder_6) 0 f284 u290 rfl (by decide) (by decide)
                  refine te_aload_n (p2 := 131) rfl rfl rfl ?_
                  refine tg_r (p2 := 134) (i := 148) (r := 215) rfl rfl I290 rfl rfl rfl ?_
                  refine te_iload (p2 := 136) rfl rfl rfl ?_
                  refine te_iload (p2 := 138) rfl rfl rfl ?_
                  refine ts_i (p2 := 139) (i := 199) (n := 6) rfl rfl I290 rfl rfl rfl rfl (by decide) (by decide) (by omega) (by omega) (by omega) rfl (fun h291 I291 u291 => ?_)
                  have f291 := fr_st (F := F_X12_nextOrder_6) 0 f290 u291 rfl (by decide) (by decide)
                  refine te_iinc (p2 := 142) (x := 5) (y := 4) (lv2 := [(6, .int 4), (7, .int g2), (5, .int 2), (4, .int g1), (3, .int 1), (2, .int 1), (0, .ref 164), (1, .int 6)]) rfl rfl (by decide) rfl (by decide) rfl ?_
                  refine te_iinc (p2 := 145) (x := 2) (y := 3) (lv2 := [(5, .int 3), (6, .int 4), (7, .int g2), (4, .int g1), (3, .int 1), (2, .int 1), (0, .ref 164), (1, .int 6)]) rfl rfl (by decide) rfl (by decide) rfl ?_
                  refine te_goto rfl ?_
                  refine te_iload (p2 := 102) rfl rfl rfl ?_
                  refine te_iload (p2 := 104) rfl rfl rfl ?_
                  refine tb_ge (p2 := 107) rfl rfl (show Int32.toInt 3 = 3 from rfl) (show Int32.toInt 4 = 4 from rfl) (fun c294 => absurd c294 (by omega)) (fun c294 => ?_)
                  refine te_aload_n (p2 := 108) rfl rfl rfl ?_
                  refine tg_r (p2 := 111) (i := 148) (r := 215) rfl rfl I291 rfl rfl rfl ?_
                  refine te_iload (p2 := 113) rfl rfl rfl ?_
                  refine tl_e (p2 := 114) (i := 199) (n := 6) (t := 0) (Or.inl rfl) rfl rfl I291 rfl rfl (by decide) (by decide) ((u291.2 _ _ (Or.inr (by decide))).trans ((u290.2 _ _ (Or.inr (by decide))).trans ((u284.2 _ _ (Or.inr (by decide))).trans ((u283.2 _ _ (Or.inr (by decide))).trans hg3)))) ?_
                  refine te_istore (p2 := 116) (lv2 := [(7, .int g3), (5, .int 3), (6, .int 4), (4, .int g1), (3, .int 1), (2, .int 1), (0, .ref 164), (1, .int 6)]) rfl rfl (by decide) rfl ?_
                  refine te_aload_n (p2 := 117) rfl rfl rfl ?_
                  refine tg_r (p2 := 120) (i := 148) (r := 215) rfl rfl I291 rfl rfl rfl ?_
                  refine te_iload (p2 := 122) rfl rfl rfl ?_
                  refine te_aload_n (p2 := 123) rfl rfl rfl ?_
                  refine tg_r (p2 := 126) (i := 148) (r := 215) rfl rfl I291 rfl rfl rfl ?_
                  refine te_iload (p2 := 128) rfl rfl rfl ?_
                  refine tl_e (p2 := 129) (i := 199) (n := 6) (t := 0) (Or.inl rfl) rfl rfl I291 rfl rfl (by decide) (by decide) ((u291.2 _ _ (Or.inr (by decide))).trans ((u290.2 _ _ (Or.inr (by decide))).trans ((u284.2 _ _ (Or.inr (by decide))).trans ((u283.2 _ _ (Or.inr (by decide))).trans hg4)))) ?_
                  refine ts_i (p2 := 130) (i := 199) (n := 6) rfl rfl I291 rfl rfl rfl rfl (by decide) (by decide) (by omega) (by omega) (by omega) rfl (fun h297 I297 u297 => ?_)
                  have f297 := fr_st (F := F_X12_nextOrder_6) 0 f291 u297 rfl (by decide) (by decide)
                  refine te_aload_n (p2 := 131) rfl rfl rfl ?_
                  refine tg_r (p2 := 134) (i := 148) (r := 215) rfl rfl I297 rfl rfl rfl ?_
                  refine te_iload (p2 := 136) rfl rfl rfl ?_
                  refine te_iload (p2 := 138) rfl rfl rfl ?_
                  refine ts_i (p2 := 139) (i := 199) (n := 6) rfl rfl I297 rfl rfl rfl rfl (by decide) (by decide) (by omega) (by omega) (by omega) rfl (fun h298 I298 u298 => ?_)
                  have f298 := fr_st (F := F_X12_nextOrder_6) 0 f297 u298 rfl (by decide) (by decide)
                  refine te_iinc (p2 := 142) (x := 4) (y := 3) (lv2 := [(6, .int 3), (7, .int g3), (5, .int 3), (4, .int g1), (3, .int 1), (2, .int 1), (0, .ref 164), (1, .int 6)]) rfl rfl (by decide) rfl (by decide) rfl ?_
                  refine te_iinc (p2 := 145) (x := 3) (y := 4) (lv2 := [(5, .int 4), (6, .int 3), (7, .int g3), (4, .int g1), (3, .int 1), (2, .int 1), (0, .ref 164), (1, .int 6)]) rfl rfl (by decide) rfl (by decide) rfl ?_
                  refine te_goto rfl ?_
                  refine te_iload (p2 := 102) rfl rfl rfl ?_
                  refine te_iload (p2 := 104) rfl rfl rfl ?_
                  refine tb_ge (p2 := 107) rfl rfl (show Int32.toInt 4 = 4 from rfl) (show Int32.toInt 3 = 3 from rfl) (fun c301 => ?_) (fun c301 => absurd c301 (by omega))
                  refine te_iconst (p2 := 149) (x := 1) rfl rfl (by decide) ?_
                  exact te_zret rfl rfl (by decide) ⟨I298, f298, _, rfl, Or.inr ⟨rfl, g0, g1, g5, g4, g3, g2, ((u298.2 _ _ (Or.inr (by decide))).trans ((u297.2 _ _ (Or.inr (by decide))).trans ((u291.2 _ _ (Or.inr (by decide))).trans ((u290.2 _ _ (Or.inr (by decide))).trans ((u284.2 _ _ (Or.inr (by decide))).trans ((u283.2 _ _ (Or.inr (by decide))).trans hg0)))))), ((u298.2 _ _ (Or.inr (by decide))).trans ((u297.2 _ _ (Or.inr (by decide))).trans ((u291.2 _ _ (Or.inr (by decide))).trans ((u290.2 _ _ (Or.inr (by decide))).trans u284.1)))), ((u298.2 _ _ (Or.inr (by decide))).trans ((u297.2 _ _ (Or.inr (by decide))).trans ((u291.2 _ _ (Or.inr (by decide))).trans u290.1))), ((u298.2 _ _ (Or.inr (by decide))).trans u297.1), u298.1, ((u298.2 _ _ (Or.inr (by decide))).trans ((u297.2 _ _ (Or.inr (by decide))).trans u291.1)), (by unfold prm; omega), (by unfold lexV; omega)⟩⟩
        · refine te_iinc (p2 := 28) (x := 1) (y := 0) (lv2 := [(2, .int 0), (0, .ref 164), (1, .int 6)]) rfl rfl (by decide) rfl (by decide) rfl ?_
          refine te_goto rfl ?_
          refine te_iload_n (p2 := 5) rfl rfl rfl ?_
          refine tz_lt (p2 := 8) rfl rfl (show Int32.toInt 0 = 0 from rfl) (fun c303 => absurd c303 (by omega)) (fun c303 => ?_)
          refine te_aload_n (p2 := 9) rfl rfl rfl ?_
          refine tg_r (p2 := 12) (i := 148) (r := 215) rfl rfl hI rfl rfl rfl ?_
          refine te_iload_n (p2 := 13) rfl rfl rfl ?_
          refine tl_e (p2 := 14) (i := 199) (n := 6) (t := 0) (Or.inl rfl) rfl rfl hI rfl rfl (by decide) (by decide) hg0 ?_
          refine te_aload_n (p2 := 15) rfl rfl rfl ?_
          refine tg_r (p2 := 18) (i := 148) (r := 215) rfl rfl hI rfl rfl rfl ?_
          refine te_iload_n (p2 := 19) rfl rfl rfl ?_
          refine te_iconst (p2 := 20) (x := 1) rfl rfl (by decide) ?_
          refine te_iadd (p2 := 21) (z := 1) rfl rfl (by decide) ?_
          refine tl_e (p2 := 22) (i := 199) (n := 6) (t := 0) (Or.inl rfl) rfl rfl hI rfl rfl (by decide) (by decide) hg1 ?_
          refine tb_le (p2 := 25) rfl rfl rfl rfl (fun c307 => ?_) (fun c307 => ?_)
          · refine te_iload_n (p2 := 32) rfl rfl rfl ?_
            refine tz_ge (p2 := 35) rfl rfl (show Int32.toInt 0 = 0 from rfl) (fun c308 => ?_) (fun c308 => absurd c308 (by omega))
            refine te_iload_n (p2 := 38) rfl rfl rfl ?_
            refine te_iconst (p2 := 39) (x := 1) rfl rfl (by decide) ?_
            refine te_isub (p2 := 40) (z := 5) rfl rfl (by decide) ?_
            refine te_istore_n (p2 := 41) (lv2 := [(3, .int 5), (2, .int 0), (0, .ref 164), (1, .int 6)]) rfl rfl (by decide) rfl ?_
            refine te_aload_n (p2 := 42) rfl rfl rfl ?_
            refine tg_r (p2 := 45) (i := 148) (r := 215) rfl rfl hI rfl rfl rfl ?_
            refine te_iload_n (p2 := 46) rfl rfl rfl ?_
            refine tl_e (p2 := 47) (i := 199) (n := 6) (t := 0) (Or.inl rfl) rfl rfl hI rfl rfl (by decide) (by decide) hg5 ?_
            refine te_aload_n (p2 := 48) rfl rfl rfl ?_
            refine tg_r (p2 := 51) (i := 148) (r := 215) rfl rfl hI rfl rfl rfl ?_
            refine te_iload_n (p2 := 52) rfl rfl rfl ?_
            refine tl_e (p2 := 53) (i := 199) (n := 6) (t := 0) (Or.inl rfl) rfl rfl hI rfl rfl (by decide) (by decide) hg0 ?_
            refine tb_ge (p2 := 56) rfl rfl rfl rfl (fun c312 => ?_) (fun c312 => ?_)
            · refine te_aload_n (p2 := 63) rfl rfl rfl ?_
              refine tg_r (p2 := 66) (i := 148) (r := 215) rfl rfl hI rfl rfl rfl ?_
              refine te_iload_n (p2 := 67) rfl rfl rfl ?_
              refine tl_e (p2 := 68) (i := 199) (n := 6) (t := 0) (Or.inl rfl) rfl rfl hI rfl rfl (by decide) (by decide) hg0 ?_
              refine te_istore (p2 := 70) (lv2 := [(4, .int g0), (3, .int 5), (2, .int 0), (0, .ref 164), (1, .int 6)]) rfl rfl (by decide) rfl ?_
              refine te_aload_n (p2 := 71) rfl rfl rfl ?_
              refine tg_r (p2 := 74) (i := 148) (r := 215) rfl rfl hI rfl rfl rfl ?_
              refine te_iload_n (p2 := 75) rfl rfl rfl ?_
              refine te_aload_n (p2 := 76) rfl rfl rfl ?_
              refine tg_r (p2 := 79) (i := 148) (r := 215) rfl rfl hI rfl rfl rfl ?_
              refine te_iload_n (p2 := 80) rfl rfl rfl ?_
              refine tl_e (p2 := 81) (i := 199) (n := 6) (t := 0) (Or.inl rfl) rfl rfl hI rfl rfl (by decide) (by decide) hg5 ?_
              refine ts_i (p2 := 82) (i := 199) (n := 6) rfl rfl hI rfl rfl rfl rfl (by decide) (by decide) (by omega) (by omega) (by omega) rfl (fun h315 I315 u315 => ?_)
              have f315 := fr_st (F := F_X12_nextOrder_6) 0 f0 u315 rfl (by decide) (by decide)
              refine te_aload_n (p2 := 83) rfl rfl rfl ?_
              refine tg_r (p2 := 86) (i := 148) (r := 215) rfl rfl I315 rfl rfl rfl ?_
              refine te_iload_n (p2 := 87) rfl rfl rfl ?_
              refine te_iload (p2 := 89) rfl rfl rfl ?_
              refine ts_i (p2 := 90) (i := 199) (n := 6) rfl rfl I315 rfl rfl rfl rfl (by decide) (by decide) (by omega) (by omega) (by omega) rfl (fun h316 I316 u316 => ?_)
              have f316 := fr_st (F := F_X12_nextOrder_6) 0 f315 u316 rfl (by decide) (by decide)
              refine te_iload_n (p2 := 91) rfl rfl rfl ?_
              refine te_iconst (p2 := 92) (x := 1) rfl rfl (by decide) ?_
              refine te_iadd (p2 := 93) (z := 1) rfl rfl (by decide) ?_
              refine te_istore (p2 := 95) (lv2 := [(5, .int 1), (4, .int g0), (3, .int 5), (2, .int 0), (0, .ref 164), (1, .int 6)]) rfl rfl (by decide) rfl ?_
              refine te_iload_n (p2 := 96) rfl rfl rfl ?_
              refine te_iconst (p2 := 97) (x := 1) rfl rfl (by decide) ?_
              refine te_isub (p2 := 98) (z := 5) rfl rfl (by decide) ?_
              refine te_istore (p2 := 100) (lv2 := [(6, .int 5), (5, .int 1), (4, .int g0), (3, .int 5), (2, .int 0), (0, .ref 164), (1, .int 6)]) rfl rfl (by decide) rfl ?_
              refine te_iload (p2 := 102) rfl rfl rfl ?_
              refine te_iload (p2 := 104) rfl rfl rfl ?_
              refine tb_ge (p2 := 107) rfl rfl (show Int32.toInt 1 = 1 from rfl) (show Int32.toInt 5 = 5 from rfl) (fun c319 => absurd c319 (by omega)) (fun c319 => ?_)
              refine te_aload_n (p2 := 108) rfl rfl rfl ?_
              refine tg_r (p2 := 111) (i := 148) (r := 215) rfl rfl I316 rfl rfl rfl ?_
              refine te_iload (p2 := 113) rfl rfl rfl ?_
              refine tl_e (p2 := 114) (i := 199) (n := 6) (t := 0) (Or.inl rfl) rfl rfl I316 rfl rfl (by decide) (by decide) ((u316.2 _ _ (Or.inr (by decide))).trans ((u315.2 _ _ (Or.inr (by decide))).trans hg1)) ?_
              refine te_istore (p2 := 116) (lv2 := [(7, .int g1), (6, .int 5), (5, .int 1), (4, .int g0), (3, .int 5), (2, .int 0), (0, .ref 164), (1, .int 6)]) rfl rfl (by decide) rfl ?_
              refine te_aload_n (p2 := 117) rfl rfl rfl ?_
              refine tg_r (p2 := 120) (i := 148) (r := 215) rfl rfl I316 rfl rfl rfl ?_
              refine te_iload (p2 := 122) rfl rfl rfl ?_
              refine te_aload_n (p2 := 123) rfl rfl rfl ?_
              refine tg_r (p2 := 126) (i := 148) (r := 215) rfl rfl I316 rfl rfl rfl ?_
              refine te_iload (p2 := 128) rfl rfl rfl ?_
              refine tl_e (p2 := 129) (i := 199) (n := 6) (t := 0) (Or.inl rfl) rfl rfl I316 rfl rfl (by decide) (by decide) u316.1 ?_
              refine ts_i (p2 := 130) (i := 199) (n := 6) rfl rfl I316 rfl rfl rfl rfl (by decide) (by decide) (by omega) (by omega) (by omega) rfl (fun h322 I322 u322 => ?_)
              have f322 := fr_st (F := F_X12_nextOrder_6) 0 f316 u322 rfl (by decide) (by decide)
              refine te_aload_n (p2 := 131) rfl rfl rfl ?_
              refine tg_r (p2 := 134) (i := 148) (r := 215) rfl rfl I322 rfl rfl rfl ?_
              refine te_iload (p2 := 136) rfl rfl rfl ?_
              refine te_iload (p2 := 138) rfl rfl rfl ?_
              refine ts_i (p2 := 139) (i := 199) (n := 6) rfl rfl I322 rfl rfl rfl rfl (by decide) (by decide) (by omega) (by omega) (by omega) rfl (fun h323 I323 u323 => ?_)
              have f323 := fr_st (F := F_X12_nextOrder_6) 0 f322 u323 rfl (by decide) (by decide)
              refine te_iinc (p2 := 142) (x := 5) (y := 4) (lv2 := [(6, .int 4), (7, .int g1), (5, .int 1), (4, .int g0), (3, .int 5), (2, .int 0), (0, .ref 164), (1, .int 6)]) rfl rfl (by decide) rfl (by decide) rfl ?_
              refine te_iinc (p2 := 145) (x := 1) (y := 2) (lv2 := [(5, .int 2), (6, .int 4), (7, .int g1), (4, .int g0), (3, .int 5), (2, .int 0), (0, .ref 164), (1, .int 6)]) rfl rfl (by decide) rfl (by decide) rfl ?_
              refine te_goto rfl ?_
              refine te_iload (p2 := 102) rfl rfl rfl ?_
              refine te_iload (p2 := 104) rfl rfl rfl ?_
              refine tb_ge (p2 := 107) rfl rfl (show Int32.toInt 2 = 2 from rfl) (show Int32.toInt 4 = 4 from rfl) (fun c326 => absurd c326 (by omega)) (fun c326 => ?_)
              refine te_aload_n (p2 := 108) rfl rfl rfl ?_
              refine tg_r (p2 := 111) (i := 148) (r := 215) rfl rfl I323 rfl rfl rfl ?_
              refine te_iload (p2 := 113) rfl rfl rfl ?_
              refine tl_e (p2 := 114) (i := 199) (n := 6) (t := 0) (Or.inl rfl) rfl rfl I323 rfl rfl (by decide) (by decide) ((u323.2 _ _ (Or.inr (by decide))).trans ((u322.2 _ _ (Or.inr (by decide))).trans ((u316.2 _ _ (Or.inr (by decide))).trans ((u315.2 _ _ (Or.inr (by decide))).trans hg2)))) ?_
              refine te_istore (p2 := 116) (lv2 := [(7, .int g2), (5, .int 2), (6, .int 4), (4, .int g0), (3, .int 5), (2, .int 0), (0, .ref 164), (1, .int 6)]) rfl rfl (by decide) rfl ?_
              refine te_aload_n (p2 := 117) rfl rfl rfl ?_
              refine tg_r (p2 := 120) (i := 148) (r := 215) rfl rfl I323 rfl rfl rfl ?_
              refine te_iload (p2 := 122) rfl rfl rfl ?_
              refine te_aload_n (p2 := 123) rfl rfl rfl ?_
              refine tg_r (p2 := 126) (i := 148) (r := 215) rfl rfl I323 rfl rfl rfl ?_
              refine te_iload (p2 := 128) rfl rfl rfl ?_
              refine tl_e (p2 := 129) (i := 199) (n := 6) (t := 0) (Or.inl rfl) rfl rfl I323 rfl rfl (by decide) (by decide) ((u323.2 _ _ (Or.inr (by decide))).trans ((u322.2 _ _ (Or.inr (by decide))).trans ((u316.2 _ _ (Or.inr (by decide))).trans ((u315.2 _ _ (Or.inr (by decide))).trans hg4)))) ?_
              refine ts_i (p2 := 130) (i := 199) (n := 6) rfl rfl I323 rfl rfl rfl rfl (by decide) (by decide) (by omega) (by omega) (by omega) rfl (fun h329 I329 u329 => ?_)
              have f329 := fr_st (F := F_X12_nextOrder_6) 0 f323 u329 rfl (by decide) (by decide)
              refine te_aload_n (p2 := 131) rfl rfl rfl ?_
              refine tg_r (p2 := 134) (i := 148) (r := 215) rfl rfl I329 rfl rfl rfl ?_
              refine te_iload (p2 := 136) rfl rfl rfl ?_
              refine te_iload (p2 := 138) rfl rfl rfl ?_
              refine ts_i (p2 := 139) (i := 199) (n := 6) rfl rfl I329 rfl rfl rfl rfl (by decide) (by decide) (by omega) (by omega) (by omega) rfl (fun h330 I330 u330 => ?_)
              have f330 := fr_st (F := F_X12_nextOrder_6) 0 f329 u330 rfl (by decide) (by decide)
              refine te_iinc (p2 := 142) (x := 4) (y := 3) (lv2 := [(6, .int 3), (7, .int g2), (5, .int 2), (4, .int g0), (3, .int 5), (2, .int 0), (0, .ref 164), (1, .int 6)]) rfl rfl (by decide) rfl (by decide) rfl ?_
              refine te_iinc (p2 := 145) (x := 2) (y := 3) (lv2 := [(5, .int 3), (6, .int 3), (7, .int g2), (4, .int g0), (3, .int 5), (2, .int 0), (0, .ref 164), (1, .int 6)]) rfl rfl (by decide) rfl (by decide) rfl ?_
              refine te_goto rfl ?_
              refine te_iload (p2 := 102) rfl rfl rfl ?_
              refine te_iload (p2 := 104) rfl rfl rfl ?_
              refine tb_ge (p2 := 107) rfl rfl (show Int32.toInt 3 = 3 from rfl) (show Int32.toInt 3 = 3 from rfl) (fun c333 => ?_) (fun c333 => absurd c333 (by omega))
              refine te_iconst (p2 := 149) (x := 1) rfl rfl (by decide) ?_
              exact te_zret rfl rfl (by decide) ⟨I330, f330, _, rfl, Or.inr ⟨rfl, g5, g0, g4, g3, g2, g1, ((u330.2 _ _ (Or.inr (by decide))).trans ((u329.2 _ _ (Or.inr (by decide))).trans ((u323.2 _ _ (Or.inr (by decide))).trans ((u322.2 _ _ (Or.inr (by decide))).trans ((u316.2 _ _ (Or.inr (by decide))).trans u315.1))))), ((u330.2 _ _ (Or.inr (by decide))).trans ((u329.2 _ _ (Or.inr (by decide))).trans ((u323.2 _ _ (Or.inr (by decide))).trans u322.1))), ((u330.2 _ _ (Or.inr (by decide))).trans u329.1), ((u330.2 _ _ (Or.inr (by decide))).trans ((u329.2 _ _ (Or.inr (by decide))).trans ((u323.2 _ _ (Or.inr (by decide))).trans ((u322.2 _ _ (Or.inr (by decide))).trans ((u316.2 _ _ (Or.inr (by decide))).trans ((u315.2 _ _ (Or.inr (by decide))).trans hg3)))))), u330.1, ((u330.2 _ _ (Or.inr (by decide))).trans ((u329.2 _ _ (Or.inr (by decide))).trans u323.1)), (by unfold prm; omega), (by unfold lexV; omega)⟩⟩
            · refine te_iinc (p2 := 59) (x := 5) (y := 4) (lv2 := [(3, .int 4), (2, .int 0), (0, .ref 164), (1, .int 6)]) rfl rfl (by decide) rfl (by decide) rfl ?_
              refine te_goto rfl ?_
              refine te_aload_n (p2 := 42) rfl rfl rfl ?_
              refine tg_r (p2 := 45) (i := 148) (r := 215) rfl rfl hI rfl rfl rfl ?_
              refine te_iload_n (p2 := 46) rfl rfl rfl ?_
              refine tl_e (p2 := 47) (i := 199) (n := 6) (t := 0) (Or.inl rfl) rfl rfl hI rfl rfl (by decide) (by decide) hg4 ?_
              refine te_aload_n (p2 := 48) rfl rfl rfl ?_
              refine tg_r (p2 := 51) (i := 148) (r := 215) rfl rfl hI rfl rfl rfl ?_
              refine te_iload_n (p2 := 52) rfl rfl rfl ?_
              refine tl_e (p2 := 53) (i := 199) (n := 6) (t := 0) (Or.inl rfl) rfl rfl hI rfl rfl (by decide) (by decide) hg0 ?_
              refine tb_ge (p2 := 56) rfl rfl rfl rfl (fun c337 => ?_) (fun c337 => ?_)
              · refine te_aload_n (p2 := 63) rfl rfl rfl ?_
                refine tg_r (p2 := 66) (i := 148) (r := 215) rfl rfl hI rfl rfl rfl ?_
                refine te_iload_n (p2 := 67) rfl rfl rfl ?_
                refine tl_e (p2 := 68) (i := 199) (n := 6) (t := 0) (Or.inl rfl) rfl rfl hI rfl rfl (by decide) (by decide) hg0 ?_
                refine te_istore (p2 := 70) (lv2 := [(4, .int g0), (3, .int 4), (2, .int 0), (0, .ref 164), (1, .int 6)]) rfl rfl (by decide) rfl ?_
                refine te_aload_n (p2 := 71) rfl rfl rfl ?_
                refine tg_r (p2 := 74) (i := 148) (r := 215) rfl rfl hI rfl rfl rfl ?_
                refine te_iload_n (p2 := 75) rfl rfl rfl ?_
                refine te_aload_n (p2 := 76) rfl rfl rfl ?_
                refine tg_r (p2 := 79) (i := 148) (r := 215) rfl rfl hI rfl rfl rfl ?_
                refine te_iload_n (p2 := 80) rfl rfl rfl ?_
                refine tl_e (p2 := 81) (i := 199) (n := 6) (t := 0) (Or.inl rfl) rfl rfl hI rfl rfl (by decide) (by decide) hg4 ?_
                refine ts_i (p2 := 82) (i := 199) (n := 6) rfl rfl hI rfl rfl rfl rfl (by decide) (by decide) (by omega) (by omega) (by omega) rfl (fun h340 I340 u340 => ?_)
                have f340 := fr_st (F := F_X12_nextOrder_6) 0 f0 u340 rfl (by decide) (by decide)
                refine te_aload_n (p2 := 83) rfl rfl rfl ?_
                refine tg_r (p2 := 86) (i := 148) (r := 215) rfl rfl I340 rfl rfl rfl ?_
                refine te_iload_n (p2 := 87) rfl rfl rfl ?_
                refine te_iload (p2 := 89) rfl rfl rfl ?_
                refine ts_i (p2 := 90) (i := 199) (n := 6) rfl rfl I340 rfl rfl rfl rfl (by decide) (by decide) (by omega) (by omega) (by omega) rfl (fun h341 I341 u341 => ?_)
                have f341 := fr_st (F := F_X12_nextOrder_6) 0 f340 u341 rfl (by decide) (by decide)
                refine te_iload_n (p2 := 91) rfl rfl rfl ?_
                refine te_iconst (p2 := 92) (x := 1) rfl rfl (by decide) ?_
                refine te_iadd (p2 := 93) (z := 1) rfl rfl (by decide) ?_
                refine te_istore (p2 := 95) (lv2 := [(5, .int 1), (4, .int g0), (3, .int 4), (2, .int 0), (0, .ref 164), (1, .int 6)]) rfl rfl (by decide) rfl ?_
                refine te_iload_n (p2 := 96) rfl rfl rfl ?_
                refine te_iconst (p2 := 97) (x := 1) rfl rfl (by decide) ?_
                refine te_isub (p2 := 98) (z := 5) rfl rfl (by decide) ?_
                refine te_istore (p2 := 100) (lv2 := [(6, .int 5), (5, .int 1), (4, .int g0), (3, .int 4), (2, .int 0), (0, .ref 164), (1, .int 6)]) rfl rfl (by decide) rfl ?_
                refine te_iload (p2 := 102) rfl rfl rfl ?_
                refine te_iload (p2 := 104) rfl rfl rfl ?_
                refine tb_ge (p2 := 107) rfl rfl (show Int32.toInt 1 = 1 from rfl) (show Int32.toInt 5 = 5 from rfl) (fun c344 => absurd c344 (by omega)) (fun c344 => ?_)
                refine te_aload_n (p2 := 108) rfl rfl rfl ?_
                refine tg_r (p2 := 111) (i := 148) (r := 215) rfl rfl I341 rfl rfl rfl ?_
                refine te_iload (p2 := 113) rfl rfl rfl ?_
                refine tl_e (p2 := 114) (i := 199) (n := 6) (t := 0) (Or.inl rfl) rfl rfl I341 rfl rfl (by decide) (by decide) ((u341.2 _ _ (Or.inr (by decide))).trans ((u340.2 _ _ (Or.inr (by decide))).trans hg1)) ?_
                refine te_istore (p2 := 116) (lv2 := [(7, .int g1), (6, .int 5), (5, .int 1), (4, .int g0), (3, .int 4), (2, .int 0), (0, .ref 164), (1, .int 6)]) rfl rfl (by decide) rfl ?_
                refine te_aload_n (p2 := 117) rfl rfl rfl ?_
                refine tg_r (p2 := 120) (i := 148) (r := 215) rfl rfl I341 rfl rfl rfl ?_
                refine te_iload (p2 := 122) rfl rfl rfl ?_
                refine te_aload_n (p2 := 123) rfl rfl rfl ?_
                refine tg_r (p2 := 126) (i := 148) (r := 215) rfl rfl I341 rfl rfl rfl ?_
                refine te_iload (p2 := 128) rfl rfl rfl ?_
                refine tl_e (p2 := 129) (i := 199) (n := 6) (t := 0) (Or.inl rfl) rfl rfl I341 rfl rfl (by decide) (by decide) ((u341.2 _ _ (Or.inr (by decide))).trans ((u340.2 _ _ (Or.inr (by decide))).trans hg5)) ?_
                refine ts_i (p2 := 130) (i := 199) (n := 6) rfl rfl I341 rfl rfl rfl rfl (by decide) (by decide) (by omega) (by omega) (by omega) rfl (fun h347 I347 u347 => ?_)
                have f347 := fr_st (F := F_X12_nextOrder_6) 0 f341 u347 rfl (by decide) (by decide)
                refine te_aload_n (p2 := 131) rfl rfl rfl ?_
                refine tg_r (p2 := 134) (i := 148) (r := 215) rfl rfl I347 rfl rfl rfl ?_
                refine te_iload (p2 := 136) rfl rfl rfl ?_
                refine te_iload (p2 := 138) rfl rfl rfl ?_
                refine ts_i (p2 := 139) (i := 199) (n := 6) rfl rfl I347 rfl rfl rfl rfl (by decide) (by decide) (by omega) (by omega) (by omega) rfl (fun h348 I348 u348 => ?_)
                have f348 := fr_st (F := F_X12_nextOrder_6) 0 f347 u348 rfl (by decide) (by decide)
                refine te_iinc (p2 := 142) (x := 5) (y := 4) (lv2 := [(6, .int 4), (7, .int g1), (5, .int 1), (4, .int g0), (3, .int 4), (2, .int 0), (0, .ref 164), (1, .int 6)]) rfl rfl (by decide) rfl (by decide) rfl ?_
                refine te_iinc (p2 := 145) (x := 1) (y := 2) (lv2 := [(5, .int 2), (6, .int 4), (7, .int g1), (4, .int g0), (3, .int 4), (2, .int 0), (0, .ref 164), (1, .int 6)]) rfl rfl (by decide) rfl (by decide) rfl ?_
                refine te_goto rfl ?_
                refine te_iload (p2 := 102) rfl rfl rfl ?_
                refine te_iload (p2 := 104) rfl rfl rfl ?_
                refine tb_ge (p2 := 107) rfl rfl (show Int32.toInt 2 = 2 from rfl) (show Int32.toInt 4 = 4 from rfl) (fun c351 => absurd c351 (by omega)) (fun c351 => ?_)
                refine te_aload_n (p2 := 108) rfl rfl rfl ?_
                refine tg_r (p2 := 111) (i := 148) (r := 215) rfl rfl I348 rfl rfl rfl ?_
                refine te_iload (p2 := 113) rfl rfl rfl ?_
                refine tl_e (p2 := 114) (i := 199) (n := 6) (t := 0) (Or.inl rfl) rfl rfl I348 rfl rfl (by decide) (by decide) ((u348.2 _ _ (Or.inr (by decide))).trans ((u347.2 _ _ (Or.inr (by decide))).trans ((u341.2 _ _ (Or.inr (by decide))).trans ((u340.2 _ _ (Or.inr (by decide))).trans hg2)))) ?_
                refine te_istore (p2 := 116) (lv2 := [(7, .int g2), (5, .int 2), (6, .int 4), (4, .int g0), (3, .int 4), (2, .int 0), (0, .ref 164), (1, .int 6)]) rfl rfl (by decide) rfl ?_
                refine te_aload_n (p2 := 117) rfl rfl rfl ?_
                refine tg_r (p2 := 120) (i := 148) (r := 215) rfl rfl I348 rfl rfl rfl ?_
                refine te_iload (p2 := 122) rfl rfl rfl ?_
                refine te_aload_n (p2 := 123) rfl rfl rfl ?_
                refine tg_r (p2 := 126) (i := 148) (r := 215) rfl rfl I348 rfl rfl rfl ?_
                refine te_iload (p2 := 128) rfl rfl rfl ?_
                refine tl_e (p2 := 129) (i := 199) (n := 6) (t := 0) (Or.inl rfl) rfl rfl I348 rfl rfl (by decide) (by decide) ((u348.2 _ _ (Or.inr (by decide))).trans ((u347.2 _ _ (Or.inr (by decide))).trans u341.1)) ?_
                refine ts_i (p2 := 130) (i := 199) (n := 6) rfl rfl I348 rfl rfl rfl rfl (by decide) (by decide) (by omega) (by omega) (by omega) rfl (fun h354 I354 u354 => ?_)
                have f354 := fr_st (F := F_X12_nextOrder_6) 0 f348 u354 rfl (by decide) (by decide)
                refine te_aload_n (p2 := 131) rfl rfl rfl ?_
                refine tg_r (p2 := 134) (i := 148) (r := 215) rfl rfl I354 rfl rfl rfl ?_
                refine te_iload (p2 := 136) rfl rfl rfl ?_
                refine te_iload (p2 := 138) rfl rfl rfl ?_
                refine ts_i (p2 := 139) (i := 199) (n := 6) rfl rfl I354 rfl rfl rfl rfl (by decide) (by decide) (by omega) (by omega) (by omega) rfl (fun h355 I355 u355 => ?_)
                have f355 := fr_st (F := F_X12_nextOrder_6) 0 f354 u355 rfl (by decide) (by decide)
                refine te_iinc (p2 := 142) (x := 4) (y := 3) (lv2 := [(6, .int 3), (7, .int g2), (5, .int 2), (4, .int g0), (3, .int 4), (2, .int 0), (0, .ref 164), (1, .int 6)]) rfl rfl (by decide) rfl (by decide) rfl ?_
                refine te_iinc (p2 := 145) (x := 2) (y := 3) (lv2 := [(5, .int 3), (6, .int 3), (7, .int g2), (4, .int g0), (3, .int 4), (2, .int 0), (0, .ref 164), (1, .int 6)]) rfl rfl (by decide) rfl (by decide) rfl ?_
                refine te_goto rfl ?_
                refine te_iload (p2 := 102) rfl rfl rfl ?_
                refine te_iload (p2 := 104) rfl rfl rfl ?_
                refine tb_ge (p2 := 107) rfl rfl (show Int32.toInt 3 = 3 from rfl) (show Int32.toInt 3 = 3 from rfl) (fun c358 => ?_) (fun c358 => absurd c358 (by omega))
                refine te_iconst (p2 := 149) (x := 1) rfl rfl (by decide) ?_
                exact te_zret rfl rfl (by decide) ⟨I355, f355, _, rfl, Or.inr ⟨rfl, g4, g5, g0, g3, g2, g1, ((u355.2 _ _ (Or.inr (by decide))).trans ((u354.2 _ _ (Or.inr (by decide))).trans ((u348.2 _ _ (Or.inr (by decide))).trans ((u347.2 _ _ (Or.inr (by decide))).trans ((u341.2 _ _ (Or.inr (by decide))).trans u340.1))))), ((u355.2 _ _ (Or.inr (by decide))).trans ((u354.2 _ _ (Or.inr (by decide))).trans ((u348.2 _ _ (Or.inr (by decide))).trans u347.1))), ((u355.2 _ _ (Or.inr (by decide))).trans u354.1), ((u355.2 _ _ (Or.inr (by decide))).trans ((u354.2 _ _ (Or.inr (by decide))).trans ((u348.2 _ _ (Or.inr (by decide))).trans ((u347.2 _ _ (Or.inr (by decide))).trans ((u341.2 _ _ (Or.inr (by decide))).trans ((u340.2 _ _ (Or.inr (by decide))).trans hg3)))))), u355.1, ((u355.2 _ _ (Or.inr (by decide))).trans ((u354.2 _ _ (Or.inr (by decide))).trans u348.1)), (by unfold prm; omega), (by unfold lexV; omega)⟩⟩
              · refine te_iinc (p2 := 59) (x := 4) (y := 3) (lv2 := [(3, .int 3), (2, .int 0), (0, .ref 164), (1, .int 6)]) rfl rfl (by decide) rfl (by decide) rfl ?_
                refine te_goto rfl ?_
                refine te_aload_n (p2 := 42) rfl rfl rfl ?_
                refine tg_r (p2 := 45) (i := 148) (r := 215) rfl rfl hI rfl rfl rfl ?_
                refine te_iload_n (p2 := 46) rfl rfl rfl ?_
                refine tl_e (p2 := 47) (i := 199) (n := 6) (t := 0) (Or.inl rfl) rfl rfl hI rfl rfl (by decide) (by decide) hg3 ?_
                refine te_aload_n (p2 := 48) rfl rfl rfl ?_
                refine tg_r (p2 := 51) (i := 148) (r := 215) rfl rfl hI rfl rfl rfl ?_
                refine te_iload_n (p2 := 52) rfl rfl rfl ?_
                refine tl_e (p2 := 53) (i := 199) (n := 6) (t := 0) (Or.inl rfl) rfl rfl hI rfl rfl (by decide) (by decide) hg0 ?_
                refine tb_ge (p2 := 56) rfl rfl rfl rfl (fun c362 => ?_) (fun c362 => ?_)
                · refine te_aload_n (p2 := 63) rfl rfl rfl ?_
                  refine tg_r (p2 := 66) (i := 148) (r := 215) rfl rfl hI rfl rfl rfl ?_
                  refine te_iload_n (p2 := 67) rfl rfl rfl ?_
                  refine tl_e (p2 := 68) (i := 199) (n := 6) (t := 0) (Or.inl rfl) rfl rfl hI rfl rfl (by decide) (by decide) hg0 ?_
                  refine te_istore (p2 := 70) (lv2 := [(4, .int g0), (3, .int 3), (2, .int 0), (0, .ref 164), (1, .int 6)]) rfl rfl (by decide) rfl ?_
                  refine te_aload_n (p2 := 71) rfl rfl rfl ?_
                  refine tg_r (p2 := 74) (i := 148) (r := 215) rfl rfl hI rfl rfl rfl ?_
                  refine te_iload_n (p2 := 75) rfl rfl rfl ?_
                  refine te_aload_n (p2 := 76) rfl rfl rfl ?_
                  refine tg_r (p2 := 79) (i := 148) (r := 215) rfl rfl hI rfl rfl rfl ?_
                  refine te_iload_n (p2 := 80) rfl rfl rfl ?_
                  refine tl_e (p2 := 81) (i := 199) (n := 6) (t := 0) (Or.inl rfl) rfl rfl hI rfl rfl (by decide) (by decide) hg3 ?_
                  refine ts_i (p2 := 82) (i := 199) (n := 6) rfl rfl hI rfl rfl rfl rfl (by decide) (by decide) (by omega) (by omega) (by omega) rfl (fun h365 I365 u365 => ?_)
                  have f365 := fr_st (F := F_X12_nextOrder_6) 0 f0 u365 rfl (by decide) (by decide)
                  refine te_aload_n (p2 := 83) rfl rfl rfl ?_
                  refine tg_r (p2 := 86) (i := 148) (r := 215) rfl rfl I365 rfl rfl rfl ?_
                  refine te_iload_n (p2 := 87) rfl rfl rfl ?_
                  refine te_iload (p2 := 89) rfl rfl rfl ?_
                  refine ts_i (p2 := 90) (i := 199) (n := 6) rfl rfl I365 rfl rfl rfl rfl (by decide) (by decide) (by omega) (by omega) (by omega) rfl (fun h366 I366 u366 => ?_)
                  have f366 := fr_st (F := F_X12_nextOrder_6) 0 f365 u366 rfl (by decide) (by decide)
                  refine te_iload_n (p2 := 91) rfl rfl rfl ?_
                  refine te_iconst (p2 := 92) (x := 1) rfl rfl (by decide) ?_
                  refine te_iadd (p2 := 93) (z := 1) rfl rfl (by decide) ?_
                  refine te_istore (p2 := 95) (lv2 := [(5, .int 1), (4, .int g0), (3, .int 3), (2, .int 0), (0, .ref 164), (1, .int 6)]) rfl rfl (by decide) rfl ?_
                  refine te_iload_n (p2 := 96) rfl rfl rfl ?_
                  refine te_iconst (p2 := 97) (x := 1) rfl rfl (by decide) ?_
                  refine te_isub (p2 := 98) (z := 5) rfl rfl (by decide) ?_
                  refine te_istore (p2 := 100) (lv2 := [(6, .int 5), (5, .int 1), (4, .int g0), (3, .int 3), (2, .int 0), (0, .ref 164), (1, .int 6)]) rfl rfl (by decide) rfl ?_
                  refine te_iload (p2 := 102) rfl rfl rfl ?_
                  refine te_iload (p2 := 104) rfl rfl rfl ?_
                  refine tb_ge (p2 := 107) rfl rfl (show Int32.toInt 1 = 1 from rfl) (show Int32.toInt 5 = 5 from rfl) (fun c369 => absurd c369 (by omega)) (fun c369 => ?_)
                  refine te_aload_n (p2 := 108) rfl rfl rfl ?_
                  refine tg_r (p2 := 111) (i := 148) (r := 215) rfl rfl I366 rfl rfl rfl ?_
                  refine te_iload (p2 := 113) rfl rfl rfl ?_
                  refine tl_e (p2 := 114) (i := 199) (n := 6) (t := 0) (Or.inl rfl) rfl rfl I366 rfl rfl (by decide) (by decide) ((u366.2 _ _ (Or.inr (by decide))).trans ((u365.2 _ _ (Or.inr (by decide))).trans hg1)) ?_
                  refine te_istore (p2 := 116) (lv2 := [(7, .int g1), (6, .int 5), (5, .int 1), (4, .int g0), (3, .int 3), (2, .int 0), (0, .ref 164), (1, .int 6)]) rfl rfl (by decide) rfl ?_
                  refine te_aload_n (p2 := 117) rfl rfl rfl ?_
                  refine tg_r (p2 := 120) (i := 148) (r := 215) rfl rfl I366 rfl rfl rfl ?_
                  refine te_iload (p2 := 122) rfl rfl rfl ?_
                  refine te_aload_n (p2 := 123) rfl rfl rfl ?_
                  refine tg_r (p2 := 126) (i := 148) (r := 215) rfl rfl I366 rfl rfl rfl ?_
                  refine te_iload (p2 := 128) rfl rfl rfl ?_
                  refine tl_e (p2 := 129) (i := 199) (n := 6) (t := 0) (Or.inl rfl) rfl rfl I366 rfl rfl (by decide) (by decide) ((u366.2 _ _ (Or.inr (by decide))).trans ((u365.2 _ _ (Or.inr (by decide))).trans hg5)) ?_
                  refine ts_i (p2 := 130) (i := 199) (n := 6) rfl rfl I366 rfl rfl rfl rfl (by decide) (by decide) (by omega) (by omega) (by omega) rfl (fun h372 I372 u372 => ?_)
                  have f372 := fr_st (F := F_X12_nextOrder_6) 0 f366 u372 rfl (by decide) (by decide)
                  refine te_aload_n (p2 := 131) rfl rfl rfl ?_
                  refine tg_r (p2 := 134) (i := 148) (r := 215) rfl rfl I372 rfl rfl rfl ?_
                  refine te_iload (p2 := 136) rfl rfl rfl ?_
                  refine te_iload (p2 := 138) rfl rfl rfl ?_
                  refine ts_i (p2 := 139) (i := 199) (n := 6) rfl rfl I372 rfl rfl rfl rfl (by decide) (by decide) (by omega) (by omega) (by omega) rfl (fun h373 I373 u373 => ?_)
                  have f373 := fr_st (F := F_X12_nextOrder_6) 0 f372 u373 rfl (by decide) (by decide)
                  refine te_iinc (p2 := 142) (x := 5) (y := 4) (lv2 := [(6, .int 4), (7, .int g1), (5, .int 1), (4, .int g0), (3, .int 3), (2, .int 0), (0, .ref 164), (1, .int 6)]) rfl rfl (by decide) rfl (by decide) rfl ?_
                  refine te_iinc (p2 := 145) (x := 1) (y := 2) (lv2 := [(5, .int 2), (6, .int 4), (7, .int g1), (4, .int g0), (3, .int 3), (2, .int 0), (0, .ref 164), (1, .int 6)]) rfl rfl (by decide) rfl (by decide) rfl ?_
                  refine te_goto rfl ?_
                  refine te_iload (p2 := 102) rfl rfl rfl ?_
                  refine te_iload (p2 := 104) rfl rfl rfl ?_
                  refine tb_ge (p2 := 107) rfl rfl (show Int32.toInt 2 = 2 from rfl) (show Int32.toInt 4 = 4 from rfl) (fun c376 => absurd c376 (by omega)) (fun c376 => ?_)
                  refine te_aload_n (p2 := 108) rfl rfl rfl ?_
                  refine tg_r (p2 := 111) (i := 148) (r := 215) rfl rfl I373 rfl rfl rfl ?_
                  refine te_iload (p2 := 113) rfl rfl rfl ?_
                  refine tl_e (p2 := 114) (i := 199) (n := 6) (t := 0) (Or.inl rfl) rfl rfl I373 rfl rfl (by decide) (by decide) ((u373.2 _ _ (Or.inr (by decide))).trans ((u372.2 _ _ (Or.inr (by decide))).trans ((u366.2 _ _ (Or.inr (by decide))).trans ((u365.2 _ _ (Or.inr (by decide))).trans hg2)))) ?_
                  refine te_istore (p2 := 116) (lv2 := [(7, .int g2), (5, .int 2), (6, .int 4), (4, .int g0), (3, .int 3), (2, .int 0), (0, .ref 164), (1, .int 6)]) rfl rfl (by decide) rfl ?_
                  refine te_aload_n (p2 := 117) rfl rfl rfl ?_
                  refine tg_r (p2 := 120) (i := 148) (r := 215) rfl rfl I373 rfl rfl rfl ?_
                  refine te_iload (p2 := 122) rfl rfl rfl ?_
                  refine te_aload_n (p2 := 123) rfl rfl rfl ?_
                  refine tg_r (p2 := 126) (i := 148) (r := 215) rfl rfl I373 rfl rfl rfl ?_
                  refine te_iload (p2 := 128) rfl rfl rfl ?_
                  refine tl_e (p2 := 129) (i := 199) (n := 6) (t := 0) (Or.inl rfl) rfl rfl I373 rfl rfl (by decide) (by decide) ((u373.2 _ _ (Or.inr (by decide))).trans ((u372.2 _ _ (Or.inr (by decide))).trans ((u366.2 _ _ (Or.inr (by decide))).trans ((u365.2 _ _ (Or.inr (by decide))).trans hg4)))) ?_
                  refine ts_i (p2 := 130) (i := 199) (n := 6) rfl rfl I373 rfl rfl rfl rfl (by decide) (by decide) (by omega) (by omega) (by omega) rfl (fun h379 I379 u379 => ?_)
                  have f379 := fr_st (F := F_X12_nextOrder_6) 0 f373 u379 rfl (by decide) (by decide)
                  refine te_aload_n (p2 := 131) rfl rfl rfl ?_
                  refine tg_r (p2 := 134) (i := 148) (r := 215) rfl rfl I379 rfl rfl rfl ?_
                  refine te_iload (p2 := 136) rfl rfl rfl ?_
                  refine te_iload (p2 := 138) rfl rfl rfl ?_
                  refine ts_i (p2 := 139) (i := 199) (n := 6) rfl rfl I379 rfl rfl rfl rfl (by decide) (by decide) (by omega) (by omega) (by omega) rfl (fun h380 I380 u380 => ?_)
                  have f380 := fr_st (F := F_X12_nextOrder_6) 0 f379 u380 rfl (by decide) (by decide)
                  refine te_iinc (p2 := 142) (x := 4) (y := 3) (lv2 := [(6, .int 3), (7, .int g2), (5, .int 2), (4, .int g0), (3, .int 3), (2, .int 0), (0, .ref 164), (1, .int 6)]) rfl rfl (by decide) rfl (by decide) rfl ?_
                  refine te_iinc (p2 := 145) (x := 2) (y := 3) (lv2 := [(5, .int 3), (6, .int 3), (7, .int g2), (4, .int g0), (3, .int 3), (2, .int 0), (0, .ref 164), (1, .int 6)]) rfl rfl (by decide) rfl (by decide) rfl ?_
                  refine te_goto rfl ?_
                  refine te_iload (p2 := 102) rfl rfl rfl ?_
                  refine te_iload (p2 := 104) rfl rfl rfl ?_
                  refine tb_ge (p2 := 107) rfl rfl (show Int32.toInt 3 = 3 from rfl) (show Int32.toInt 3 = 3 from rfl) (fun c383 => ?_) (fun c383 => absurd c383 (by omega))
                  refine te_iconst (p2 := 149) (x := 1) rfl rfl (by decide) ?_
                  exact te_zret rfl rfl (by decide) ⟨I380, f380, _, rfl, Or.inr ⟨rfl, g3, g5, g4, g0, g2, g1, ((u380.2 _ _ (Or.inr (by decide))).trans ((u379.2 _ _ (Or.inr (by decide))).trans ((u373.2 _ _ (Or.inr (by decide))).trans ((u372.2 _ _ (Or.inr (by decide))).trans ((u366.2 _ _ (Or.inr (by decide))).trans u365.1))))), ((u380.2 _ _ (Or.inr (by decide))).trans ((u379.2 _ _ (Or.inr (by decide))).trans ((u373.2 _ _ (Or.inr (by decide))).trans u372.1))), ((u380.2 _ _ (Or.inr (by decide))).trans u379.1), ((u380.2 _ _ (Or.inr (by decide))).trans ((u379.2 _ _ (Or.inr (by decide))).trans ((u373.2 _ _ (Or.inr (by decide))).trans ((u372.2 _ _ (Or.inr (by decide))).trans u366.1)))), u380.1, ((u380.2 _ _ (Or.inr (by decide))).trans ((u379.2 _ _ (Or.inr (by decide))).trans u373.1)), (by unfold prm; omega), (by unfold lexV; omega)⟩⟩
                · refine te_iinc (p2 := 59) (x := 3) (y := 2) (lv2 := [(3, .int 2), (2, .int 0), (0, .ref 164), (1, .int 6)]) rfl rfl (by decide) rfl (by decide) rfl ?_
                  refine te_goto rfl ?_
                  refine te_aload_n (p2 := 42) rfl rfl rfl ?_
                  refine tg_r (p2 := 45) (i := 148) (r := 215) rfl rfl hI rfl rfl rfl ?_
                  refine te_iload_n (p2 := 46) rfl rfl rfl ?_
                  refine tl_e (p2 := 47) (i := 199) (n := 6) (t := 0) (Or.inl rfl) rfl rfl hI rfl rfl (by decide) (by decide) hg2 ?_
                  refine te_aload_n (p2 := 48) rfl rfl rfl ?_
                  refine tg_r (p2 := 51) (i := 148) (r := 215) rfl rfl hI rfl rfl rfl ?_
                  refine te_iload_n (p2 := 52) rfl rfl rfl ?_
                  refine tl_e (p2 := 53) (i := 199) (n := 6) (t := 0) (Or.inl rfl) rfl rfl hI rfl rfl (by decide) (by decide) hg0 ?_
                  refine tb_ge (p2 := 56) rfl rfl rfl rfl (fun c387 => ?_) (fun c387 => ?_)
                  · refine te_aload_n (p2 := 63) rfl rfl rfl ?_
                    refine tg_r (p2 := 66) (i := 148) (r := 215) rfl rfl hI rfl rfl rfl ?_
                    refine te_iload_n (p2 := 67) rfl rfl rfl ?_
                    refine tl_e (p2 := 68) (i := 199) (n := 6) (t := 0) (Or.inl rfl) rfl rfl hI rfl rfl (by decide) (by decide) hg0 ?_
                    refine te_istore (p2 := 70) (lv2 := [(4, .int g0), (3, .int 2), (2, .int 0), (0, .ref 164), (1, .int 6)]) rfl rfl (by decide) rfl ?_
                    refine te_aload_n (p2 := 71) rfl rfl rfl ?_
                    refine tg_r (p2 := 74) (i := 148) (r := 215) rfl rfl hI rfl rfl rfl ?_
                    refine te_iload_n (p2 := 75) rfl rfl rfl ?_
                    refine te_aload_n (p2 := 76) rfl rfl rfl ?_
                    refine tg_r (p2 := 79) (i := 148) (r := 215) rfl rfl hI rfl rfl rfl ?_
                    refine te_iload_n (p2 := 80) rfl rfl rfl ?_
                    refine tl_e (p2 := 81) (i := 199) (n := 6) (t := 0) (Or.inl rfl) rfl rfl hI rfl rfl (by decide) (by decide) hg2 ?_
                    refine ts_i (p2 := 82) (i := 199) (n := 6) rfl rfl hI rfl rfl rfl rfl (by decide) (by decide) (by omega) (by omega) (by omega) rfl (fun h390 I390 u390 => ?_)
                    have f390 := fr_st (F := F_X12_nextOrder_6) 0 f0 u390 rfl (by decide) (by decide)
                    refine te_aload_n (p2 := 83) rfl rfl rfl ?_
                    refine tg_r (p2 := 86) (i := 148) (r := 215) rfl rfl I390 rfl rfl rfl ?_
                    refine te_iload_n (p2 := 87) rfl rfl rfl ?_
                    refine te_iload (p2 := 89) rfl rfl rfl ?_
                    refine ts_i (p2 := 90) (i := 199) (n := 6) rfl rfl I390 rfl rfl rfl rfl (by decide) (by decide) (by omega) (by omega) (by omega) rfl (fun h391 I391 u391 => ?_)
                    have f391 := fr_st (F := F_X12_nextOrder_6) 0 f390 u391 rfl (by decide) (by decide)
                    refine te_iload_n (p2 := 91) rfl rfl rfl ?_
                    refine te_iconst (p2 := 92) (x := 1) rfl rfl (by decide) ?_
                    refine te_iadd (p2 := 93) (z := 1) rfl rfl (by decide) ?_
                    refine te_istore (p2 := 95) (lv2 := [(5, .int 1), (4, .int g0), (3, .int 2), (2, .int 0), (0, .ref 164), (1, .int 6)]) rfl rfl (by decide) rfl ?_
                    refine te_iload_n (p2 := 96) rfl rfl rfl ?_
                    refine te_iconst (p2 := 97) (x := 1) rfl rfl (by decide) ?_
                    refine te_isub (p2 := 98) (z := 5) rfl rfl (by decide) ?_
                    refine te_istore (p2 := 100) (lv2 := [(6, .int 5), (5, .int 1), (4, .int g0), (3, .int 2), (2, .int 0), (0, .ref 164), (1, .int 6)]) rfl rfl (by decide) rfl ?_
                    refine te_iload (p2 := 102) rfl rfl rfl ?_
                    refine te_iload (p2 := 104) rfl rfl rfl ?_
                    refine tb_ge (p2 := 107) rfl rfl (show Int32.toInt 1 = 1 from rfl) (show Int32.toInt 5 = 5 from rfl) (fun c394 => absurd c394 (by omega)) (fun c394 => ?_)
                    refine te_aload_n (p2 := 108) rfl rfl rfl ?_
                    refine tg_r (p2 := 111) (i := 148) (r := 215) rfl rfl I391 rfl rfl rfl ?_
                    refine te_iload (p2 := 113) rfl rfl rfl ?_
                    refine tl_e (p2 := 114) (i := 199) (n := 6) (t := 0) (Or.inl rfl) rfl rfl I391 rfl rfl (by decide) (by decide) ((u391.2 _ _ (Or.inr (by decide))).trans ((u390.2 _ _ (Or.inr (by decide))).trans hg1)) ?_
                    refine te_istore (p2 := 116) (lv2 := [(7, .int g1), (6, .int 5), (5, .int 1), (4, .int g0), (3, .int 2), (2, .int 0), (0, .ref 164), (1, .int 6)]) rfl rfl (by decide) rfl ?_
                    refine te_aload_n (p2 := 117) rfl rfl rfl ?_
                    refine tg_r (p2 := 120) (i := 148) (r := 215) rfl rfl I391 rfl rfl rfl ?_
                    refine te_iload (p2 := 122) rfl rfl rfl ?_
                    refine te_aload_n (p2 := 123) rfl rfl rfl ?_
                    refine tg_r (p2 := 126) (i := 148) (r := 215) rfl rfl I391 rfl rfl rfl ?_
                    refine te_iload (p2 := 128) rfl rfl rfl ?_
                    refine tl_e (p2 := 129) (i := 199) (n := 6) (t := 0) (Or.inl rfl) rfl rfl I391 rfl rfl (by decide) (by decide) ((u391.2 _ _ (Or.inr (by decide))).trans ((u390.2 _ _ (Or.inr (by decide))).trans hg5)) ?_
                    refine ts_i (p2 := 130) (i := 199) (n := 6) rfl rfl I391 rfl rfl rfl rfl (by decide) (by decide) (by omega) (by omega) (by omega) rfl (fun h397 I397 u397 => ?_)
                    have f397 := fr_st (F := F_X12_nextOrder_6) 0 f391 u397 rfl (by decide) (by decide)
                    refine te_aload_n (p2 := 131) rfl rfl rfl ?_
                    refine tg_r (p2 := 134) (i := 148) (r := 215) rfl rfl I397 rfl rfl rfl ?_
                    refine te_iload (p2 := 136) rfl rfl rfl ?_
                    refine te_iload (p2 := 138) rfl rfl rfl ?_
                    refine ts_i (p2 := 139) (i := 199) (n := 6) rfl rfl I397 rfl rfl rfl rfl (by decide) (by decide) (by omega) (by omega) (by omega) rfl (fun h398 I398 u398 => ?_)
                    have f398 := fr_st (F := F_X12_nextOrder_6) 0 f397 u398 rfl (by decide) (by decide)
                    refine te_iinc (p2 := 142) (x := 5) (y := 4) (lv2 := [(6, .int 4), (7, .int g1), (5, .int 1), (4, .int g0), (3, .int 2), (2, .int 0), (0, .ref 164), (1, .int 6)]) rfl rfl (by decide) rfl (by decide) rfl ?_
                    refine te_iinc (p2 := 145) (x := 1) (y := 2) (lv2 := [(5, .int 2), (6, .int 4), (7, .int g1), (4, .int g0), (3, .int 2), (2, .int 0), (0, .ref 164), (1, .int 6)]) rfl rfl (by decide) rfl (by decide) rfl ?_
                    refine te_goto rfl ?_
                    refine te_iload (p2 := 102) rfl rfl rfl ?_
                    refine te_iload (p2 := 104) rfl rfl rfl ?_
                    refine tb_ge (p2 := 107) rfl rfl (show Int32.toInt 2 = 2 from rfl) (show Int32.toInt 4 = 4 from rfl) (fun c401 => absurd c401 (by omega)) (fun c401 => ?_)
                    refine te_aload_n (p2 := 108) rfl rfl rfl ?_
                    refine tg_r (p2 := 111) (i := 148) (r := 215) rfl rfl I398 rfl rfl rfl ?_
                    refine te_iload (p2 := 113) rfl rfl rfl ?_
                    refine tl_e (p2 := 114) (i := 199) (n := 6) (t := 0) (Or.inl rfl) rfl rfl I398 rfl rfl (by decide) (by decide) ((u398.2 _ _ (Or.inr (by decide))).trans ((u397.2 _ _ (Or.inr (by decide))).trans u391.1)) ?_
                    refine te_istore (p2 := 116) (lv2 := [(7, .int g0), (5, .int 2), (6, .int 4), (4, .int g0), (3, .int 2), (2, .int 0), (0, .ref 164), (1, .int 6)]) rfl rfl (by decide) rfl ?_
                    refine te_aload_n (p2 := 117) rfl rfl rfl ?_
                    refine tg_r (p2 := 120) (i := 148) (r := 215) rfl rfl I398 rfl rfl rfl ?_
                    refine te_iload (p2 := 122) rfl rfl rfl ?_
                    refine te_aload_n (p2 := 123) rfl rfl rfl ?_
                    refine tg_r (p2 := 126) (i := 148) (r := 215) rfl rfl I398 rfl rfl rfl ?_
                    refine te_iload (p2 := 128) rfl rfl rfl ?_
                    refine tl_e (p2 := 129) (i := 199) (n := 6) (t := 0) (Or.inl rfl) rfl rfl I398 rfl rfl (by decide) (by decide) ((u398.2 _ _ (Or.inr (by decide))).trans ((u397.2 _ _ (Or.inr (by decide))).trans ((u391.2 _ _ (Or.inr (by decide))).trans ((u390.2 _ _ (Or.inr (by decide))).trans hg4)))) ?_
                    refine ts_i (p2 := 130) (i := 199) (n := 6) rfl rfl I398 rfl rfl rfl rfl (by decide) (by decide) (by omega) (by omega) (by omega) rfl (fun h404 I404 u404 => ?_)
                    have f404 := fr_st (F := F_X12_nextOrder_6) 0 f398 u404 rfl (by decide) (by decide)
                    refine te_aload_n (p2 := 131) rfl rfl rfl ?_
                    refine tg_r (p2 := 134) (i := 148) (r := 215) rfl rfl I404 rfl rfl rfl ?_
                    refine te_iload (p2 := 136) rfl rfl rfl ?_
                    refine te_iload (p2 := 138) rfl rfl rfl ?_
                    refine ts_i (p2 := 139) (i := 199) (n := 6) rfl rfl I404 rfl rfl rfl rfl (by decide) (by decide) (by omega) (by omega) (by omega) rfl (fun h405 I405 u405 => ?_)
                    have f405 := fr_st (F := F_X12_nextOrder_6) 0 f404 u405 rfl (by decide) (by decide)
                    refine te_iinc (p2 := 142) (x := 4) (y := 3) (lv2 := [(6, .int 3), (7, .int g0), (5, .int 2), (4, .int g0), (3, .int 2), (2, .int 0), (0, .ref 164), (1, .int 6)]) rfl rfl (by decide) rfl (by decide) rfl ?_
                    refine te_iinc (p2 := 145) (x := 2) (y := 3) (lv2 := [(5, .int 3), (6, .int 3), (7, .int g0), (4, .int g0), (3, .int 2), (2, .int 0), (0, .ref 164), (1, .int 6)]) rfl rfl (by decide) rfl (by decide) rfl ?_
                    refine te_goto rfl ?_
                    refine te_iload (p2 := 102) rfl rfl rfl ?_
                    refine te_iload (p2 := 104) rfl rfl rfl ?_
                    refine tb_ge (p2 := 107) rfl rfl (show Int32.toInt 3 = 3 from rfl) (show Int32.toInt 3 = 3 from rfl) (fun c408 => ?_) (fun c408 => absurd c408 (by omega))
                    refine te_iconst (p2 := 149) (x := 1) rfl rfl (by decide) ?_
                    exact te_zret rfl rfl (by decide) ⟨I405, f405, _, rfl, Or.inr ⟨rfl, g2, g5, g4, g3, g0, g1, ((u405.2 _ _ (Or.inr (by decide))).trans ((u404.2 _ _ (Or.inr (by decide))).trans ((u398.2 _ _ (Or.inr (by decide))).trans ((u397.2 _ _ (Or.inr (by decide))).trans ((u391.2 _ _ (Or.inr (by decide))).trans u390.1))))), ((u405.2 _ _ (Or.inr (by decide))).trans ((u404.2 _ _ (Or.inr (by decide))).trans ((u398.2 _ _ (Or.inr (by decide))).trans u397.1))), ((u405.2 _ _ (Or.inr (by decide))).trans u404.1), ((u405.2 _ _ (Or.inr (by decide))).trans ((u404.2 _ _ (Or.inr (by decide))).trans ((u398.2 _ _ (Or.inr (by decide))).trans ((u397.2 _ _ (Or.inr (by decide))).trans ((u391.2 _ _ (Or.inr (by decide))).trans ((u390.2 _ _ (Or.inr (by decide))).trans hg3)))))), u405.1, ((u405.2 _ _ (Or.inr (by decide))).trans ((u404.2 _ _ (Or.inr (by decide))).trans u398.1)), (by unfold prm; omega), (by unfold lexV; omega)⟩⟩
                  · refine te_iinc (p2 := 59) (x := 2) (y := 1) (lv2 := [(3, .int 1), (2, .int 0), (0, .ref 164), (1, .int 6)]) rfl rfl (by decide) rfl (by decide) rfl ?_
                    refine te_goto rfl ?_
                    refine te_aload_n (p2 := 42) rfl rfl rfl ?_
                    refine tg_r (p2 := 45) (i := 148) (r := 215) rfl rfl hI rfl rfl rfl ?_
                    refine te_iload_n (p2 := 46) rfl rfl rfl ?_
                    refine tl_e (p2 := 47) (i := 199) (n := 6) (t := 0) (Or.inl rfl) rfl rfl hI rfl rfl (by decide) (by decide) hg1 ?_
                    refine te_aload_n (p2 := 48) rfl rfl rfl ?_
                    refine tg_r (p2 := 51) (i := 148) (r := 215) rfl rfl hI rfl rfl rfl ?_
                    refine te_iload_n (p2 := 52) rfl rfl rfl ?_
                    refine tl_e (p2 := 53) (i := 199) (n := 6) (t := 0) (Or.inl rfl) rfl rfl hI rfl rfl (by decide) (by decide) hg0 ?_
                    refine tb_ge (p2 := 56) rfl rfl rfl rfl (fun c412 => ?_) (fun c412 => ?_)
                    · refine te_aload_n (p2 := 63) rfl rfl rfl ?_
                      refine tg_r (p2 := 66) (i := 148) (r := 215) rfl rfl hI rfl rfl rfl ?_
                      refine te_iload_n (p2 := 67) rfl rfl rfl ?_
                      refine tl_e (p2 := 68) (i := 199) (n := 6) (t := 0) (Or.inl rfl) rfl rfl hI rfl rfl (by decide) (by decide) hg0 ?_
                      refine te_istore (p2 := 70) (lv2 := [(4, .int g0), (3, .int 1), (2, .int 0), (0, .ref 164), (1, .int 6)]) rfl rfl (by decide) rfl ?_
                      refine te_aload_n (p2 := 71) rfl rfl rfl ?_
                      refine tg_r (p2 := 74) (i := 148) (r := 215) rfl rfl hI rfl rfl rfl ?_
                      refine te_iload_n (p2 := 75) rfl rfl rfl ?_
                      refine te_aload_n (p2 := 76) rfl rfl rfl ?_
                      refine tg_r (p2 := 79) (i := 148) (r := 215) rfl rfl hI rfl rfl rfl ?_
                      refine te_iload_n (p2 := 80) rfl rfl rfl ?_
                      refine tl_e (p2 := 81) (i := 199) (n := 6) (t := 0) (Or.inl rfl) rfl rfl hI rfl rfl (by decide) (by decide) hg1 ?_
                      refine ts_i (p2 := 82) (i := 199) (n := 6) rfl rfl hI rfl rfl rfl rfl (by decide) (by decide) (by omega) (by omega) (by omega) rfl (fun h415 I415 u415 => ?_)
                      have f415 := fr_st (F := F_X12_nextOrder_6) 0 f0 u415 rfl (by decide) (by decide)
                      refine te_aload_n (p2 := 83) rfl rfl rfl ?_
                      refine tg_r (p2 := 86) (i := 148) (r := 215) rfl rfl I415 rfl rfl rfl ?_
                      refine te_iload_n (p2 := 87) rfl rfl rfl ?_
                      refine te_iload (p2 := 89) rfl rfl rfl ?_
                      refine ts_i (p2 := 90) (i := 199) (n := 6) rfl rfl I415 rfl rfl rfl rfl (by decide) (by decide) (by omega) (by omega) (by omega) rfl (fun h416 I416 u416 => ?_)
                      have f416 := fr_st (F := F_X12_nextOrder_6) 0 f415 u416 rfl (by decide) (by decide)
                      refine te_iload_n (p2 := 91) rfl rfl rfl ?_
                      refine te_iconst (p2 := 92) (x := 1) rfl rfl (by decide) ?_
                      refine te_iadd (p2 := 93) (z := 1) rfl rfl (by decide) ?_
                      refine te_istore (p2 := 95) (lv2 := [(5, .int 1), (4, .int g0), (3, .int 1), (2, .int 0), (0, .ref 164), (1, .int 6)]) rfl rfl (by decide) rfl ?_
                      refine te_iload_n (p2 := 96) rfl rfl rfl ?_
                      refine te_iconst (p2 := 97) (x := 1) rfl rfl (by decide) ?_
                      refine te_isub (p2 := 98) (z := 5) rfl rfl (by decide) ?_
                      refine te_istore (p2 := 100) (lv2 := [(6, .int 5), (5, .int 1), (4, .int g0), (3, .int 1), (2, .int 0), (0, .ref 164), (1, .int 6)]) rfl rfl (by decide) rfl ?_
                      refine te_iload (p2 := 102) rfl rfl rfl ?_
                      refine te_iload (p2 := 104) rfl rfl rfl ?_
                      refine tb_ge (p2 := 107) rfl rfl (show Int32.toInt 1 = 1 from rfl) (show Int32.toInt 5 = 5 from rfl) (fun c419 => absurd c419 (by omega)) (fun c419 => ?_)
                      refine te_aload_n (p2 := 108) rfl rfl rfl ?_
                      refine tg_r (p2 := 111) (i := 148) (r := 215) rfl rfl I416 rfl rfl rfl ?_
                      refine te_iload (p2 := 113) rfl rfl rfl ?_
                      refine tl_e (p2 := 114) (i := 199) (n := 6) (t := 0) (Or.inl rfl) rfl rfl I416 rfl rfl (by decide) (by decide) u416.1 ?_
                      refine te_istore (p2 := 116) (lv2 := [(7, .int g0), (6, .int 5), (5, .int 1), (4, .int g0), (3, .int 1), (2, .int 0), (0, .ref 164), (1, .int 6)]) rfl rfl (by decide) rfl ?_
                      refine te_aload_n (p2 := 117) rfl rfl rfl ?_
                      refine tg_r (p2 := 120) (i := 148) (r := 215) rfl rfl I416 rfl rfl rfl ?_
                      refine te_iload (p2 := 122) rfl rfl rfl ?_
                      refine te_aload_n (p2 := 123) rfl rfl rfl ?_
                      refine tg_r (p2 := 126) (i := 148) (r := 215) rfl rfl I416 rfl rfl rfl ?_
                      refine te_iload (p2 := 128) rfl rfl rfl ?_
                      refine tl_e (p2 := 129) (i := 199) (n := 6) (t := 0) (Or.inl rfl) rfl rfl I416 rfl rfl (by decide) (by decide) ((u416.2 _ _ (Or.inr (by decide))).trans ((u415.2 _ _ (Or.inr (by decide))).trans hg5)) ?_
                      refine ts_i (p2 := 130) (i := 199) (n := 6) rfl rfl I416 rfl rfl rfl rfl (by decide) (by decide) (by omega) (by omega) (by omega) rfl (fun h422 I422 u422 => ?_)
                      have f422 := fr_st (F := F_X12_nextOrder_6) 0 f416 u422 rfl (by decide) (by decide)
                      refine te_aload_n (p2 := 131) rfl rfl rfl ?_
                      refine tg_r (p2 := 134) (i := 148) (r := 215) rfl rfl I422 rfl rfl rfl ?_
                      refine te_iload (p2 := 136) rfl rfl rfl ?_
                      refine te_iload (p2 := 138) rfl rfl rfl ?_
                      refine ts_i (p2 := 139) (i := 199) (n := 6) rfl rfl I422 rfl rfl rfl rfl (by decide) (by decide) (by omega) (by omega) (by omega) rfl (fun h423 I423 u423 => ?_)
                      have f423 := fr_st (F := F_X12_nextOrder_6) 0 f422 u423 rfl (by decide) (by decide)
                      refine te_iinc (p2 := 142) (x := 5) (y := 4) (lv2 := [(6, .int 4), (7, .int g0), (5, .int 1), (4, .int g0), (3, .int 1), (2, .int 0), (0, .ref 164), (1, .int 6)]) rfl rfl (by decide) rfl (by decide) rfl ?_
                      refine te_iinc (p2 := 145) (x := 1) (y := 2) (lv2 := [(5, .int 2), (6, .int 4), (7, .int g0), (4, .int g0), (3, .int 1), (2, .int 0), (0, .ref 164), (1, .int 6)]) rfl rfl (by decide) rfl (by decide) rfl ?_
                      refine te_goto rfl ?_
                      refine te_iload (p2 := 102) rfl rfl rfl ?_
                      refine te_iload (p2 := 104) rfl rfl rfl ?_
                      refine tb_ge (p2 := 107) rfl rfl (show Int32.toInt 2 = 2 from rfl) (show Int32.toInt 4 = 4 from rfl) (fun c426 => absurd c426 (by omega)) (fun c426 => ?_)
                      refine te_aload_n (p2 := 108) rfl rfl rfl ?_
                      refine tg_r (p2 := 111) (i := 148) (r := 215) rfl rfl I423 rfl rfl rfl ?_
                      refine te_iload (p2 := 113) rfl rfl rfl ?_
                      refine tl_e (p2 := 114) (i := 199) (n := 6) (t := 0) (Or.inl rfl) rfl rfl I423 rfl rfl (by decide) (by decide) ((u423.2 _ _ (Or.inr (by decide))).trans ((u422.2 _ _ (Or.inr (by decide))).trans ((u416.2 _ _ (Or.inr (by decide))).trans ((u415.2 _ _ (Or.inr (by decide))).trans hg2)))) ?_
                      refine te_istore (p2 := 116) (lv2 := [(7, .int g2), (5, .int 2), (6, .int 4), (4, .int g0), (3, .int 1), (2, .int 0), (0, .ref 164), (1, .int 6)]) rfl rfl (by decide) rfl ?_
                      refine te_aload_n (p2 := 117) rfl rfl rfl ?_
                      refine tg_r (p2 := 120) (i := 148) (r := 215) rfl rfl I423 rfl rfl rfl ?_
                      refine te_iload (p2 := 122) rfl rfl rfl ?_
                      refine te_aload_n (p2 := 123) rfl rfl rfl ?_
                      refine tg_r (p2 := 126) (i := 148) (r := 215) rfl rfl I423 rfl rfl rfl ?_
                      refine te_iload (p2 := 128) rfl rfl rfl ?_
                      refine tl_e (p2 := 129) (i := 199) (n := 6) (t := 0) (Or.inl rfl) rfl rfl I423 rfl rfl (by decide) (by decide) ((u423.2 _ _ (Or.inr (by decide))).trans ((u422.2 _ _ (Or.inr (by decide))).trans ((u416.2 _ _ (Or.inr (by decide))).trans ((u415.2 _ _ (Or.inr (by decide))).trans hg4)))) ?_
                      refine ts_i (p2 := 130) (i := 199) (n := 6) rfl rfl I423 rfl rfl rfl rfl (by decide) (by decide) (by omega) (by omega) (by omega) rfl (fun h429 I429 u429 => ?_)
                      have f429 := fr_st (F := F_X12_nextOrder_6) 0 f423 u429 rfl (by decide) (by decide)
                      refine te_aload_n (p2 := 131) rfl rfl rfl ?_
                      refine tg_r (p2 := 134) (i := 148) (r := 215) rfl rfl I429 rfl rfl rfl ?_
                      refine te_iload (p2 := 136) rfl rfl rfl ?_
                      refine te_iload (p2 := 138) rfl rfl rfl ?_
                      refine ts_i (p2 := 139) (i := 199) (n := 6) rfl rfl I429 rfl rfl rfl rfl (by decide) (by decide) (by omega) (by omega) (by omega) rfl (fun h430 I430 u430 => ?_)
                      have f430 := fr_st (F := F_X12_nextOrder_6) 0 f429 u430 rfl (by decide) (by decide)
                      refine te_iinc (p2 := 142) (x := 4) (y := 3) (lv2 := [(6, .int 3), (7, .int g2), (5, .int 2), (4, .int g0), (3, .int 1), (2, .int 0), (0, .ref 164), (1, .int 6)]) rfl rfl (by decide) rfl (by decide) rfl ?_
                      refine te_iinc (p2 := 145) (x := 2) (y := 3) (lv2 := [(5, .int 3), (6, .int 3), (7, .int g2), (4, .int g0), (3, .int 1), (2, .int 0), (0, .ref 164), (1, .int 6)]) rfl rfl (by decide) rfl (by decide) rfl ?_
                      refine te_goto rfl ?_
                      refine te_iload (p2 := 102) rfl rfl rfl ?_
                      refine te_iload (p2 := 104) rfl rfl rfl ?_
                      refine tb_ge (p2 := 107) rfl rfl (show Int32.toInt 3 = 3 from rfl) (show Int32.toInt 3 = 3 from rfl) (fun c433 => ?_) (fun c433 => absurd c433 (by omega))
                      refine te_iconst (p2 := 149) (x := 1) rfl rfl (by decide) ?_
                      exact te_zret rfl rfl (by decide) ⟨I430, f430, _, rfl, Or.inr ⟨rfl, g1, g5, g4, g3, g2, g0, ((u430.2 _ _ (Or.inr (by decide))).trans ((u429.2 _ _ (Or.inr (by decide))).trans ((u423.2 _ _ (Or.inr (by decide))).trans ((u422.2 _ _ (Or.inr (by decide))).trans ((u416.2 _ _ (Or.inr (by decide))).trans u415.1))))), ((u430.2 _ _ (Or.inr (by decide))).trans ((u429.2 _ _ (Or.inr (by decide))).trans ((u423.2 _ _ (Or.inr (by decide))).trans u422.1))), ((u430.2 _ _ (Or.inr (by decide))).trans u429.1), ((u430.2 _ _ (Or.inr (by decide))).trans ((u429.2 _ _ (Or.inr (by decide))).trans ((u423.2 _ _ (Or.inr (by decide))).trans ((u422.2 _ _ (Or.inr (by decide))).trans ((u416.2 _ _ (Or.inr (by decide))).trans ((u415.2 _ _ (Or.inr (by decide))).trans hg3)))))), u430.1, ((u430.2 _ _ (Or.inr (by decide))).trans ((u429.2 _ _ (Or.inr (by decide))).trans u423.1)), (by unfold prm; omega), (by unfold lexV; omega)⟩⟩
                    · refine te_iinc (p2 := 59) (x := 1) (y := 0) (lv2 := [(3, .int 0), (2, .int 0), (0, .ref 164), (1, .int 6)]) rfl rfl (by decide) rfl (by decide) rfl ?_
                      refine te_goto rfl ?_
                      refine te_aload_n (p2 := 42) rfl rfl rfl ?_
                      refine tg_r (p2 := 45) (i := 148) (r := 215) rfl rfl hI rfl rfl rfl ?_
                      refine te_iload_n (p2 := 46) rfl rfl rfl ?_
                      refine tl_e (p2 := 47) (i := 199) (n := 6) (t := 0) (Or.inl rfl) rfl rfl hI rfl rfl (by decide) (by decide) hg0 ?_
                      refine te_aload_n (p2 := 48) rfl rfl rfl ?_
                      refine tg_r (p2 := 51) (i := 148) (r := 215) rfl rfl hI rfl rfl rfl ?_
                      refine te_iload_n (p2 := 52) rfl rfl rfl ?_
                      refine tl_e (p2 := 53) (i := 199) (n := 6) (t := 0) (Or.inl rfl) rfl rfl hI rfl rfl (by decide) (by decide) hg0 ?_
                      refine tb_ge (p2 := 56) rfl rfl rfl rfl (fun c437 => ?_) (fun c437 => absurd c437 (by omega))
                      refine te_aload_n (p2 := 63) rfl rfl rfl ?_
                      refine tg_r (p2 := 66) (i := 148) (r := 215) rfl rfl hI rfl rfl rfl ?_
                      refine te_iload_n (p2 := 67) rfl rfl rfl ?_
                      refine tl_e (p2 := 68) (i := 199) (n := 6) (t := 0) (Or.inl rfl) rfl rfl hI rfl rfl (by decide) (by decide) hg0 ?_
                      refine te_istore (p2 := 70) (lv2 := [(4, .int g0), (3, .int 0), (2, .int 0), (0, .ref 164), (1, .int 6)]) rfl rfl (by decide) rfl ?_
                      refine te_aload_n (p2 := 71) rfl rfl rfl ?_
                      refine tg_r (p2 := 74) (i := 148) (r := 215) rfl rfl hI rfl rfl rfl ?_
                      refine te_iload_n (p2 := 75) rfl rfl rfl ?_
                      refine te_aload_n (p2 := 76) rfl rfl rfl ?_
                      refine tg_r (p2 := 79) (i := 148) (r := 215) rfl rfl hI rfl rfl rfl ?_
                      refine te_iload_n (p2 := 80) rfl rfl rfl ?_
                      refine tl_e (p2 := 81) (i := 199) (n := 6) (t := 0) (Or.inl rfl) rfl rfl hI rfl rfl (by decide) (by decide) hg0 ?_
                      refine ts_i (p2 := 82) (i := 199) (n := 6) rfl rfl hI rfl rfl rfl rfl (by decide) (by decide) (by omega) (by omega) (by omega) rfl (fun h440 I440 u440 => ?_)
                      have f440 := fr_st (F := F_X12_nextOrder_6) 0 f0 u440 rfl (by decide) (by decide)
                      refine te_aload_n (p2 := 83) rfl rfl rfl ?_
                      refine tg_r (p2 := 86) (i := 148) (r := 215) rfl rfl I440 rfl rfl rfl ?_
                      refine te_iload_n (p2 := 87) rfl rfl rfl ?_
                      refine te_iload (p2 := 89) rfl rfl rfl ?_
                      refine ts_i (p2 := 90) (i := 199) (n := 6) rfl rfl I440 rfl rfl rfl rfl (by decide) (by decide) (by omega) (by omega) (by omega) rfl (fun h441 I441 u441 => ?_)
                      have f441 := fr_st (F := F_X12_nextOrder_6) 0 f440 u441 rfl (by decide) (by decide)
                      refine te_iload_n (p2 := 91) rfl rfl rfl ?_
                      refine te_iconst (p2 := 92) (x := 1) rfl rfl (by decide) ?_
                      refine te_iadd (p2 := 93) (z := 1) rfl rfl (by decide) ?_
                      refine te_istore (p2 := 95) (lv2 := [(5, .int 1), (4, .int g0), (3, .int 0), (2, .int 0), (0, .ref 164), (1, .int 6)]) rfl rfl (by decide) rfl ?_
                      refine te_iload_n (p2 := 96) rfl rfl rfl ?_
                      refine te_iconst (p2 := 97) (x := 1) rfl rfl (by decide) ?_
                      refine te_isub (p2 := 98) (z := 5) rfl rfl (by decide) ?_
                      refine te_istore (p2 := 100) (lv2 := [(6, .int 5), (5, .int 1), (4, .int g0), (3, .int 0), (2, .int 0), (0, .ref 164), (1, .int 6)]) rfl rfl (by decide) rfl ?_
                      refine te_iload (p2 := 102) rfl rfl rfl ?_
                      refine te_iload (p2 := 104) rfl rfl rfl ?_
                      refine tb_ge (p2 := 107) rfl rfl (show Int32.toInt 1 = 1 from rfl) (show Int32.toInt 5 = 5 from rfl) (fun c444 => absurd c444 (by omega)) (fun c444 => ?_)
                      refine te_aload_n (p2 := 108) rfl rfl rfl ?_
                      refine tg_r (p2 := 111) (i := 148) (r := 215) rfl rfl I441 rfl rfl rfl ?_
                      refine te_iload (p2 := 113) rfl rfl rfl ?_
                      refine tl_e (p2 := 114) (i := 199) (n := 6) (t := 0) (Or.inl rfl) rfl rfl I441 rfl rfl (by decide) (by decide) ((u441.2 _ _ (Or.inr (by decide))).trans ((u440.2 _ _ (Or.inr (by decide))).trans hg1)) ?_
                      refine te_istore (p2 := 116) (lv2 := [(7, .int g1), (6, .int 5), (5, .int 1), (4, .int g0), (3, .int 0), (2, .int 0), (0, .ref 164), (1, .int 6)]) rfl rfl (by decide) rfl ?_
                      refine te_aload_n (p2 := 117) rfl rfl rfl ?_
                      refine tg_r (p2 := 120) (i := 148) (r := 215) rfl rfl I441 rfl rfl rfl ?_
                      refine te_iload (p2 := 122) rfl rfl rfl ?_
                      refine te_aload_n (p2 := 123) rfl rfl rfl ?_
                      refine tg_r (p2 := 126) (i := 148) (r := 215) rfl rfl I441 rfl rfl rfl ?_
                      refine te_iload (p2 := 128) rfl rfl rfl ?_
                      refine tl_e (p2 := 129) (i := 199) (n := 6) (t := 0) (Or.inl rfl) rfl rfl I441 rfl rfl (by decide) (by decide) ((u441.2 _ _ (Or.inr (by decide))).trans ((u440.2 _ _ (Or.inr (by decide))).trans hg5)) ?_
                      refine ts_i (p2 := 130) (i := 199) (n := 6) rfl rfl I441 rfl rfl rfl rfl (by decide) (by decide) (by omega) (by omega) (by omega) rfl (fun h447 I447 u447 => ?_)
                      have f447 := fr_st (F := F_X12_nextOrder_6) 0 f441 u447 rfl (by decide) (by decide)
                      refine te_aload_n (p2 := 131) rfl rfl rfl ?_
                      refine tg_r (p2 := 134) (i := 148) (r := 215) rfl rfl I447 rfl rfl rfl ?_
                      refine te_iload (p2 := 136) rfl rfl rfl ?_
                      refine te_iload (p2 := 138) rfl rfl rfl ?_
                      refine ts_i (p2 := 139) (i := 199) (n := 6) rfl rfl I447 rfl rfl rfl rfl (by decide) (by decide) (by omega) (by omega) (by omega) rfl (fun h448 I448 u448 => ?_)
                      have f448 := fr_st (F := F_X12_nextOrder_6) 0 f447 u448 rfl (by decide) (by decide)
                      refine te_iinc (p2 := 142) (x := 5) (y := 4) (lv2 := [(6, .int 4), (7, .int g1), (5, .int 1), (4, .int g0), (3, .int 0), (2, .int 0), (0, .ref 164), (1, .int 6)]) rfl rfl (by decide) rfl (by decide) rfl ?_
                      refine te_iinc (p2 := 145) (x := 1) (y := 2) (lv2 := [(5, .int 2), (6, .int 4), (7, .int g1), (4, .int g0), (3, .int 0), (2, .int 0), (0, .ref 164), (1, .int 6)]) rfl rfl (by decide) rfl (by decide) rfl ?_
                      refine te_goto rfl ?_
                      refine te_iload (p2 := 102) rfl rfl rfl ?_
                      refine te_iload (p2 := 104) rfl rfl rfl ?_
                      refine tb_ge (p2 := 107) rfl rfl (show Int32.toInt 2 = 2 from rfl) (show Int32.toInt 4 = 4 from rfl) (fun c451 => absurd c451 (by omega)) (fun c451 => ?_)
                      refine te_aload_n (p2 := 108) rfl rfl rfl ?_
                      refine tg_r (p2 := 111) (i := 148) (r := 215) rfl rfl I448 rfl rfl rfl ?_
                      refine te_iload (p2 := 113) rfl rfl rfl ?_
                      refine tl_e (p2 := 114) (i := 199) (n := 6) (t := 0) (Or.inl rfl) rfl rfl I448 rfl rfl (by decide) (by decide) ((u448.2 _ _ (Or.inr (by decide))).trans ((u447.2 _ _ (Or.inr (by decide))).trans ((u441.2 _ _ (Or.inr (by decide))).trans ((u440.2 _ _ (Or.inr (by decide))).trans hg2)))) ?_
                      refine te_istore (p2 := 116) (lv2 := [(7, .int g2), (5, .int 2), (6, .int 4), (4, .int g0), (3, .int 0), (2, .int 0), (0, .ref 164), (1, .int 6)]) rfl rfl (by decide) rfl ?_
                      refine te_aload_n (p2 := 117) rfl rfl rfl ?_
                      refine tg_r (p2 := 120) (i := 148) (r := 215) rfl rfl I448 rfl rfl rfl ?_
                      refine te_iload (p2 := 122) rfl rfl rfl ?_
                      refine te_aload_n (p2 := 123) rfl rfl rfl ?_
                      refine tg_r (p2 := 126) (i := 148) (r := 215) rfl rfl I448 rfl rfl rfl ?_
                      refine te_iload (p2 := 128) rfl rfl rfl ?_
                      refine tl_e (p2 := 129) (i := 199) (n := 6) (t := 0) (Or.inl rfl) rfl rfl I448 rfl rfl (by decide) (by decide) ((u448.2 _ _ (Or.inr (by decide))).trans ((u447.2 _ _ (Or.inr (by decide))).trans ((u441.2 _ _ (Or.inr (by decide))).trans ((u440.2 _ _ (Or.inr (by decide))).trans hg4)))) ?_
                      refine ts_i (p2 := 130) (i := 199) (n := 6) rfl rfl I448 rfl rfl rfl rfl (by decide) (by decide) (by omega) (by omega) (by omega) rfl (fun h454 I454 u454 => ?_)
                      have f454 := fr_st (F := F_X12_nextOrder_6) 0 f448 u454 rfl (by decide) (by decide)
                      refine te_aload_n (p2 := 131) rfl rfl rfl ?_
                      refine tg_r (p2 := 134) (i := 148) (r := 215) rfl rfl I454 rfl rfl rfl ?_
                      refine te_iload (p2 := 136) rfl rfl rfl ?_
                      refine te_iload (p2 := 138) rfl rfl rfl ?_
                      refine ts_i (p2 := 139) (i := 199) (n := 6) rfl rfl I454 rfl rfl rfl rfl (by decide) (by decide) (by omega) (by omega) (by omega) rfl (fun h455 I455 u455 => ?_)
                      have f455 := fr_st (F := F_X12_nextOrder_6) 0 f454 u455 rfl (by decide) (by decide)
                      refine te_iinc (p2 := 142) (x := 4) (y := 3) (lv2 := [(6, .int 3), (7, .int g2), (5, .int 2), (4, .int g0), (3, .int 0), (2, .int 0), (0, .ref 164), (1, .int 6)]) rfl rfl (by decide) rfl (by decide) rfl ?_
                      refine te_iinc (p2 := 145) (x := 2) (y := 3) (lv2 := [(5, .int 3), (6, .int 3), (7, .int g2), (4, .int g0), (3, .int 0), (2, .int 0), (0, .ref 164), (1, .int 6)]) rfl rfl (by decide) rfl (by decide) rfl ?_
                      refine te_goto rfl ?_
                      refine te_iload (p2 := 102) rfl rfl rfl ?_
                      refine te_iload (p2 := 104) rfl rfl rfl ?_
                      refine tb_ge (p2 := 107) rfl rfl (show Int32.toInt 3 = 3 from rfl) (show Int32.toInt 3 = 3 from rfl) (fun c458 => ?_) (fun c458 => absurd c458 (by omega))
                      refine te_iconst (p2 := 149) (x := 1) rfl rfl (by decide) ?_
                      exact te_zret rfl rfl (by decide) ⟨I455, f455, _, rfl, Or.inr ⟨rfl, g0, g5, g4, g3, g2, g1, ((u455.2 _ _ (Or.inr (by decide))).trans ((u454.2 _ _ (Or.inr (by decide))).trans ((u448.2 _ _ (Or.inr (by decide))).trans ((u447.2 _ _ (Or.inr (by decide))).trans u441.1)))), ((u455.2 _ _ (Or.inr (by decide))).trans ((u454.2 _ _ (Or.inr (by decide))).trans ((u448.2 _ _ (Or.inr (by decide))).trans u447.1))), ((u455.2 _ _ (Or.inr (by decide))).trans u454.1), ((u455.2 _ _ (Or.inr (by decide))).trans ((u454.2 _ _ (Or.inr (by decide))).trans ((u448.2 _ _ (Or.inr (by decide))).trans ((u447.2 _ _ (Or.inr (by decide))).trans ((u441.2 _ _ (Or.inr (by decide))).trans ((u440.2 _ _ (Or.inr (by decide))).trans hg3)))))), u455.1, ((u455.2 _ _ (Or.inr (by decide))).trans ((u454.2 _ _ (Or.inr (by decide))).trans u448.1)), (by unfold prm; omega), (by unfold lexV; omega)⟩⟩
          · refine te_iinc (p2 := 28) (x := 0) (y := (-1)) (lv2 := [(2, .int (-1)), (0, .ref 164), (1, .int 6)]) rfl rfl (by decide) rfl (by decide) rfl ?_
            refine te_goto rfl ?_
            refine te_iload_n (p2 := 5) rfl rfl rfl ?_
            refine tz_lt (p2 := 8) rfl rfl (show Int32.toInt (-1) = (-1) from rfl) (fun c460 => ?_) (fun c460 => absurd c460 (by omega))
            refine te_iload_n (p2 := 32) rfl rfl rfl ?_
            refine tz_ge (p2 := 35) rfl rfl (show Int32.toInt (-1) = (-1) from rfl) (fun c461 => absurd c461 (by omega)) (fun c461 => ?_)
            refine te_iconst (p2 := 36) (x := 0) rfl rfl (by decide) ?_
            exact te_zret rfl rfl (by decide) ⟨hI, f0, _, rfl, Or.inl rfl⟩
set_option maxRecDepth 20000 in
set_option maxHeartbeats 4000000 in
theorem t_X12_nextOrder {n : Int32} {g0 g1 g2 g3 g4 g5 : Int32} {h : im_H} (hI : tI h) (n0 : 1 ≤ n.toInt) (n1 : n.toInt ≤ 6) (e0 : rd h 199 (Int32.toInt 0).toNat = some (.int g0)) (a0 : 0 ≤ g0.toInt) (b0 : g0.toInt ≤ 5) (e1 : rd h 199 (Int32.toInt 1).toNat = some (.int g1)) (a1 : 0 ≤ g1.toInt) (b1 : g1.toInt ≤ 5) (e2 : rd h 199 (Int32.toInt 2).toNat = some (.int g2)) (a2 : 0 ≤ g2.toInt) (b2 : g2.toInt ≤ 5) (e3 : rd h 199 (Int32.toInt 3).toNat = some (.int g3)) (a3 : 0 ≤ g3.toInt) (b3 : g3.toInt ≤ 5) (e4 : rd h 199 (Int32.toInt 4).toNat = some (.int g4)) (a4 : 0 ≤ g4.toInt) (b4 : g4.toInt ≤ 5) (e5 : rd h 199 (Int32.toInt 5).toNat = some (.int g5)) (a5 : 0 ≤ g5.toInt) (b5 : g5.toInt ≤ 5) (hp : prm n.toInt g0.toInt g1.toInt g2.toInt g3.toInt g4.toInt g5.toInt) : CaP 1 167 [.ref 164, .int n] h (fun v h2 => tI h2 ∧ fr [(199, 0, 5)] h h2 ∧ ∃ y : Int32, v = some (.int y) ∧ (y = 0 ∨ (y = 1 ∧ ∃ k0 k1 k2 k3 k4 k5 : Int32, rd h2 199 (Int32.toInt 0).toNat = some (.int k0) ∧ rd h2 199 (Int32.toInt 1).toNat = some (.int k1) ∧ rd h2 199 (Int32.toInt 2).toNat = some (.int k2) ∧ rd h2 199 (Int32.toInt 3).toNat = some (.int k3) ∧ rd h2 199 (Int32.toInt 4).toNat = some (.int k4) ∧ rd h2 199 (Int32.toInt 5).toNat = some (.int k5) ∧ prm n.toInt k0.toInt k1.toInt k2.toInt k3.toInt k4.toInt k5.toInt ∧ lexV g0.toInt g1.toInt g2.toInt g3.toInt g4.toInt g5.toInt < lexV k0.toInt k1.toInt k2.toInt k3.toInt k4.toInt k5.toInt))) := by
  rcases (show n.toInt = 1 ∨ n.toInt = 2 ∨ n.toInt = 3 ∨ n.toInt = 4 ∨ n.toInt = 5 ∨ n.toInt = 6 by omega) with hn | hn | hn | hn | hn | hn
  · obtain rfl : n = 1 := i32_ext hn
    exact t_X12_nextOrder_1 hI e0 a0 b0 e1 a1 b1 e2 a2 b2 e3 a3 b3 e4 a4 b4 e5 a5 b5 hp
  · obtain rfl : n = 2 := i32_ext hn
    exact t_X12_nextOrder_2 hI e0 a0 b0 e1 a1 b1 e2 a2 b2 e3 a3 b3 e4 a4 b4 e5 a5 b5 hp
  · obtain rfl : n = 3 := i32_ext hn
    exact t_X12_nextOrder_3 hI e0 a0 b0 e1 a1 b1 e2 a2 b2 e3 a3 b3 e4 a4 b4 e5 a5 b5 hp
  · obtain rfl : n = 4 := i32_ext hn
    exact t_X12_nextOrder_4 hI e0 a0 b0 e1 a1 b1 e2 a2 b2 e3 a3 b3 e4 a4 b4 e5 a5 b5 hp
  · obtain rfl : n = 5 := i32_ext hn
    exact t_X12_nextOrder_5 hI e0 a0 b0 e1 a1 b1 e2 a2 b2 e3 a3 b3 e4 a4 b4 e5 a5 b5 hp
  · obtain rfl : n = 6 := i32_ext hn
    exact t_X12_nextOrder_6 hI e0 a0 b0 e1 a1 b1 e2 a2 b2 e3 a3 b3 e4 a4 b4 e5 a5 b5 hp
abbrev F_X12_pulls : List (Nat × Nat × Nat) := [(148, 41, 41), (149, 108, 139), (183, 0, 5), (197, 0, 15), (198, 0, 15), (199, 0, 5)]
set_option maxRecDepth 20000 in
set_option maxHeartbeats 4000000 in
theorem t_X12_pulls {x1 : Int32} {h : im_H} (hI : tI h)  : CaP 5 168 [.ref 164, .int x1] h (mI h F_X12_pulls (fun _ => True)) := by
  refine cap_of (d := 4) (M := mX12_pulls) rfl (Nat.le_of_ble_eq_true rfl) ?_
  show EvP im_K0 4 mX12_pulls (0, [(0, .ref 164), (1, .int x1)], [], h) _
  have f0 : fr F_X12_pulls h h := fr_rf
  refine te_iload_n (p2 := 1) rfl rfl rfl ?_
  refine te_iconst (p2 := 2) (x := 0) rfl rfl (by decide) ?_
  refine te_iconst (p2 := 3) (x := 3) rfl rfl (by decide) ?_
  refine cS_pI (p2 := 6) rfl rfl rfl rfl (t_X12_in (n := x1) (a := 0) (b := 3) hI ) (by decide) (fun y1 r1 => ?_)
  rcases r1 with ⟨w1, c1⟩ | ⟨w1, c1⟩
  · subst w1
    have cc1_1 := (show Int32.toInt 0 = 0 from rfl)
    have cc1_2 := (show Int32.toInt 3 = 3 from rfl)
    refine tz_ne (p2 := 9) rfl rfl (show Int32.toInt 1 = 1 from rfl) (fun c2 => ?_) (fun c2 => absurd c2 (by omega))
    refine te_aload_n (p2 := 12) rfl rfl rfl ?_
    refine tg_r (p2 := 15) (i := 148) (r := 208) rfl rfl hI rfl rfl rfl ?_
    refine te_iload_n (p2 := 16) rfl rfl rfl ?_
    refine tl_i (p2 := 17) (i := 192) (n := 4) rfl rfl hI rfl rfl rfl rfl (by omega) (by omega) (fun y3 a3 b3 g3 e3 => ?_)
    refine te_iconst (p2 := 18) (x := (-1)) rfl rfl (by decide) ?_
    refine tb_ne (p2 := 21) rfl rfl rfl (show Int32.toInt (-1) = (-1) from rfl) (fun c4 => ?_) (fun c4 => ?_)
    · refine te_aload_n (p2 := 25) rfl rfl rfl ?_
      refine tg_r (p2 := 28) (i := 148) (r := 209) rfl rfl hI rfl rfl rfl ?_
      refine te_iload_n (p2 := 29) rfl rfl rfl ?_
      refine tl_i (p2 := 30) (i := 193) (n := 4) rfl rfl hI rfl rfl rfl rfl (by omega) (by omega) (fun y5 a5 b5 g5 e5 => ?_)
      refine te_istore_n (p2 := 31) (lv2 := [(2, .int y5), (0, .ref 164), (1, .int x1)]) rfl rfl (by decide) rfl ?_
      refine te_iconst (p2 := 32) (x := 0) rfl rfl (by decide) ?_
      refine te_istore_n (p2 := 33) (lv2 := [(3, .int 0), (2, .int y5), (0, .ref 164), (1, .int x1)]) rfl rfl (by decide) rfl ?_
      refine te_iload_n (p2 := 34) rfl rfl rfl ?_
      refine te_iconst (p2 := 35) (x := 1) rfl rfl (by decide) ?_
      refine te_bipush (p2 := 37) (x := 6) rfl rfl (by decide) ?_
      refine cS_pI (p2 := 40) rfl rfl rfl rfl (t_X12_in (n := y5) (a := 1) (b := 6) hI ) (by decide) (fun y6 r6 => ?_)
      rcases r6 with ⟨w6, c6⟩ | ⟨w6, c6⟩
      · subst w6
        have cc6_1 := (show Int32.toInt 1 = 1 from rfl)
        have cc6_2 := (show Int32.toInt 6 = 6 from rfl)
        refine te_istore (p2 := 42) (lv2 := [(4, .int 1), (3, .int 0), (2, .int y5), (0, .ref 164), (1, .int x1)]) rfl rfl (by decide) rfl ?_
        refine te_iconst (p2 := 43) (x := 0) rfl rfl (by decide) ?_
        refine te_istore (p2 := 45) (lv2 := [(5, .int 0), (4, .int 1), (3, .int 0), (2, .int y5), (0, .ref 164), (1, .int x1)]) rfl rfl (by decide) rfl ?_
        have lp7 : ∀ (n7 : Nat) (v7_3 v7_4 v7_5 : Int32) , 0 ≤ v7_4.toInt → v7_4.toInt ≤ 1 → 0 ≤ v7_5.toInt → v7_5.toInt ≤ 40 → (v7_4.toInt = 1 → allB h 194 (40 * x1.toInt.toNat) v7_5.toInt 15) → 40 - v7_5.toInt < (n7 : Int) → EvP im_K0 4 mX12_pulls (45, [(0, .ref 164), (1, .int x1), (2, .int y5), (3, .int v7_3), (4, .int v7_4), (5, .int v7_5)], [], h) (mI h F_X12_pulls (fun _ => True)) := by
          intro n7
          induction n7 with
          | zero => intro v7_3 v7_4 v7_5 a7_4 b7_4 a7_5 b7_5 w7_0 m7; exfalso; omega
          | succ n7 ih7 =>
            intro v7_3 v7_4 v7_5 a7_4 b7_4 a7_5 b7_5 w7_0 m7
            refine te_iload (p2 := 47) rfl rfl rfl ?_
            refine te_iload_n (p2 := 48) rfl rfl rfl ?_
            refine tb_ge (p2 := 51) rfl rfl rfl rfl (fun c8 => ?_) (fun c8 => ?_)
            · refine te_iload (p2 := 146) rfl rfl rfl ?_
              refine tz_ne (p2 := 149) rfl rfl rfl (fun c9 => ?_) (fun c9 => ?_)
              · refine te_iconst (p2 := 153) (x := 0) rfl rfl (by decide) ?_
                refine te_istore (p2 := 155) (lv2 := [(5, .int 0), (0, .ref 164), (1, .int x1), (2, .int y5), (3, .int v7_3), (4, .int v7_4)]) rfl rfl (by decide) rfl ?_
                have lp10 : ∀ (n10 : Nat) (v10_5 : Int32) (h10 : im_H), tI h10 → fr F_X12_pulls h h10 → 0 ≤ v10_5.toInt → v10_5.toInt ≤ 6 → v10_5.toInt ≤ y5.toInt → (∀ q : Nat, (q : Int) < v10_5.toInt → ∃ p : Int32, rd h10 199 q = some (.int p) ∧ p.toInt = q) → 6 - v10_5.toInt < (n10 : Int) → EvP im_K0 4 mX12_pulls (155, [(0, .ref 164), (1, .int x1), (2, .int y5), (3, .int v7_3), (4, .int v7_4), (5, .int v10_5)], [], h10) (mI h F_X12_pulls (fun _ => True)) := by
                  intro n10
                  induction n10 with
                  | zero => intro v10_5 h10 I10 f10 a10_5 b10_5 l10_0 w10_0 m10; exfalso; omega
                  | succ n10 ih10 =>
                    intro v10_5 h10 I10 f10 a10_5 b10_5 l10_0 w10_0 m10
                    refine te_iload (p2 := 157) rfl rfl rfl ?_
                    refine te_iload_n (p2 := 158) rfl rfl rfl ?_
                    refine tb_ge (p2 := 161) rfl rfl rfl rfl (fun c11 => ?_) (fun c11 => ?_)
                    · refine te_iconst (p2 := 177) (x := (-1)) rfl rfl (by decide) ?_
                      refine te_istore (p2 := 179) (lv2 := [(5, .int (-1)), (0, .ref 164), (1, .int x1), (2, .int y5), (3, .int v7_3), (4, .int v7_4)]) rfl rfl (by decide) rfl ?_
                      refine te_iconst (p2 := 180) (x := 1) rfl rfl (by decide) ?_
                      refine te_istore (p2 := 182) (lv2 := [(6, .int 1), (5, .int (-1)), (0, .ref 164), (1, .int x1), (2, .int y5), (3, .int v7_3), (4, .int v7_4)]) rfl rfl (by decide) rfl ?_
                      obtain ⟨v13, e13, y13, w13, a13, b13, _⟩ := I10.2.1 199 (Int32.toInt 0).toNat (.inl (0, 5, 9999999999)) (tq_row rfl (by decide))
                      subst w13
                      obtain ⟨v14, e14, y14, w14, a14, b14, _⟩ := I10.2.1 199 (Int32.toInt 1).toNat (.inl (0, 5, 9999999999)) (tq_row rfl (by decide))
                      subst w14
                      obtain ⟨v15, e15, y15, w15, a15, b15, _⟩ := I10.2.1 199 (Int32.toInt 2).toNat (.inl (0, 5, 9999999999)) (tq_row rfl (by decide))
                      subst w15
                      obtain ⟨v16, e16, y16, w16, a16, b16, _⟩ := I10.2.1 199 (Int32.toInt 3).toNat (.inl (0, 5, 9999999999)) (tq_row rfl (by decide))
                      subst w16
                      obtain ⟨v17, e17, y17, w17, a17, b17, _⟩ := I10.2.1 199 (Int32.toInt 4).toNat (.inl (0, 5, 9999999999)) (tq_row rfl (by decide))
                      subst w17
                      obtain ⟨v18, e18, y18, w18, a18, b18, _⟩ := I10.2.1 199 (Int32.toInt 5).toNat (.inl (0, 5, 9999999999)) (tq_row rfl (by decide))
                      subst w18
                      have lp12 : ∀ (n12 : Nat) (v12_5 v12_6 t12_t0 t12_t1 t12_t2 t12_t3 t12_t4 t12_t5 : Int32) (h12 : im_H), tI h12 → fr F_X12_pulls h h12 → 0 ≤ v12_6.toInt → v12_6.toInt ≤ 1 → rd h12 199 (Int32.toInt 0).toNat = some (.int t12_t0) → rd h12 199 (Int32.toInt 1).toNat = some (.int t12_t1) → rd h12 199 (Int32.toInt 2).toNat = some (.int t12_t2) → rd h12 199 (Int32.toInt 3).toNat = some (.int t12_t3) → rd h12 199 (Int32.toInt 4).toNat = some (.int t12_t4) → rd h12 199 (Int32.toInt 5).toNat = some (.int t12_t5) → 0 ≤ t12_t0.toInt → t12_t0.toInt ≤ 5 → 0 ≤ t12_t1.toInt → t12_t1.toInt ≤ 5 → 0 ≤ t12_t2.toInt → t12_t2.toInt ≤ 5 → 0 ≤ t12_t3.toInt → t12_t3.toInt ≤ 5 → 0 ≤ t12_t4.toInt → t12_t4.toInt ≤ 5 → 0 ≤ t12_t5.toInt → t12_t5.toInt ≤ 5 → prm y5.toInt t12_t0.toInt t12_t1.toInt t12_t2.toInt t12_t3.toInt t12_t4.toInt t12_t5.toInt → 46656 - (7776 * t12_t0.toInt + 1296 * t12_t1.toInt + 216 * t12_t2.toInt + 36 * t12_t3.toInt + 6 * t12_t4.toInt + t12_t5.toInt) < (n12 : Int) → EvP im_K0 4 mX12_pulls (182, [(0, .ref 164), (1, .int x1), (2, .int y5), (3, .int v7_3), (4, .int v7_4), (5, .int v12_5), (6, .int v12_6)], [], h12) (mI h F_X12_pulls (fun _ => True)) := by
                        intro n12
                        induction n12 with
                        | zero => intro v12_5 v12_6 t12_t0 t12_t1 t12_t2 t12_t3 t12_t4 t12_t5 h12 I12 f12 a12_6 b12_6 v12_t0 v12_t1 v12_t2 v12_t3 v12_t4 v12_t5 va12_t0 vb12_t0 va12_t1 vb12_t1 va12_t2 vb12_t2 va12_t3 vb12_t3 va12_t4 vb12_t4 va12_t5 vb12_t5 w12_0 m12; exfalso; omega
                        | succ n12 ih12 =>
                          intro v12_5 v12_6 t12_t0 t12_t1 t12_t2 t12_t3 t12_t4 t12_t5 h12 I12 f12 a12_6 b12_6 v12_t0 v12_t1 v12_t2 v12_t3 v12_t4 v12_t5 va12_t0 vb12_t0 va12_t1 vb12_t1 va12_t2 vb12_t2 va12_t3 vb12_t3 va12_t4 vb12_t4 va12_t5 vb12_t5 w12_0 m12
                          refine te_iload (p2 := 184) rfl rfl rfl ?_
                          refine tz_eq (p2 := 187) rfl rfl rfl (fun c19 => ?_) (fun c19 => ?_)
                          · refine te_aload_n (p2 := 262) rfl rfl rfl ?_
                            refine te_iload_n (p2 := 263) rfl rfl rfl ?_
                            refine tp_i (p2 := 266) (i := 148) rfl rfl I12 rfl rfl (by decide) rfl rfl rfl (by omega) (by omega) (by omega) rfl (fun h20 I20 u20 => ?_)
                            have f20 := fr_st (F := F_X12_pulls) 0 f12 u20 rfl (by decide) (by decide)
                            refine te_iload (p2 := 268) rfl rfl rfl ?_
                            exact te_iret rfl rfl ⟨I20, f20, _, rfl, trivial⟩
                          · refine te_aload_n (p2 := 188) rfl rfl rfl ?_
                            refine te_iload_n (p2 := 189) rfl rfl rfl ?_
                            refine te_iload_n (p2 := 190) rfl rfl rfl ?_
                            refine cV_mI (p2 := 193) (i := 148) rfl rfl rfl rfl I12 rfl rfl rfl (t_X12_late (s := x1) (n := y5) I12 (by omega) (by omega) (by omega) (by omega) (allB_fr (allB_le (w7_0 (by omega)) (by omega)) (fun q => f12 _ _ rfl)) (allB_prm v12_t0 v12_t1 v12_t2 v12_t3 v12_t4 v12_t5 w12_0 (by omega))) (by decide) (fun y21 h21 I21 g21 r21 => ?_)
                            have f21 := fr_tr (F1 := F_X12_late) (F := F_X12_pulls) f12 g21 (by decide)
                            refine te_istore (p2 := 195) (lv2 := [(7, .int y21), (0, .ref 164), (1, .int x1), (2, .int y5), (3, .int v7_3), (4, .int v7_4), (5, .int v12_5), (6, .int v12_6)]) rfl rfl (by decide) rfl ?_
                            refine te_iload (p2 := 197) rfl rfl rfl ?_
                            refine te_iconst (p2 := 198) (x := (-1)) rfl rfl (by decide) ?_
                            refine tb_eq (p2 := 201) rfl rfl rfl (show Int32.toInt (-1) = (-1) from rfl) (fun c22 => ?_) (fun c22 => ?_)
                            · refine te_iload (p2 := 210) rfl rfl rfl ?_
                              refine te_istore (p2 := 212) (lv2 := [(5, .int y21), (7, .int y21), (0, .ref 164), (1, .int x1), (2, .int y5), (3, .int v7_3), (4, .int v7_4), (6, .int v12_6)]) rfl rfl (by decide) rfl ?_
                              refine te_iconst (p2 := 213) (x := 0) rfl rfl (by decide) ?_
                              refine te_istore (p2 := 215) (lv2 := [(8, .int 0), (5, .int y21), (7, .int y21), (0, .ref 164), (1, .int x1), (2, .int y5), (3, .int v7_3), (4, .int v7_4), (6, .int v12_6)]) rfl rfl (by decide) rfl ?_
                              have lp23 : ∀ (n23 : Nat) (v23_8 t23_t0 t23_t1 t23_t2 t23_t3 t23_t4 t23_t5 : Int32) (h23 : im_H), tI h23 → fr F_X12_pulls h h23 → 0 ≤ v23_8.toInt → v23_8.toInt ≤ 6 → rd h23 199 (Int32.toInt 0).toNat = some (.int t23_t0) → rd h23 199 (Int32.toInt 1).toNat = some (.int t23_t1) → rd h23 199 (Int32.toInt 2).toNat = some (.int t23_t2) → rd h23 199 (Int32.toInt 3).toNat = some (.int t23_t3) → rd h23 199 (Int32.toInt 4).toNat = some (.int t23_t4) → rd h23 199 (Int32.toInt 5).toNat = some (.int t23_t5) → 0 ≤ t23_t0.toInt → t23_t0.toInt ≤ 5 → 0 ≤ t23_t1.toInt → t23_t1.toInt ≤ 5 → 0 ≤ t23_t2.toInt → t23_t2.toInt ≤ 5 → 0 ≤ t23_t3.toInt → t23_t3.toInt ≤ 5 → 0 ≤ t23_t4.toInt → t23_t4.toInt ≤ 5 → 0 ≤ t23_t5.toInt → t23_t5.toInt ≤ 5 → t23_t0.toInt = t12_t0.toInt → t23_t1.toInt = t12_t1.toInt → t23_t2.toInt = t12_t2.toInt → t23_t3.toInt = t12_t3.toInt → t23_t4.toInt = t12_t4.toInt → t23_t5.toInt = t12_t5.toInt → 6 - v23_8.toInt < (n23 : Int) → EvP im_K0 4 mX12_pulls (215, [(0, .ref 164), (1, .int x1), (2, .int y5), (3, .int v7_3), (4, .int v7_4), (5, .int y21), (6, .int v12_6), (7, .int y21), (8, .int v23_8)], [], h23) (mI h F_X12_pulls (fun _ => True)) := by
                                intro n23
                                induction n23 with
                                | zero => intro v23_8 t23_t0 t23_t1 t23_t2 t23_t3 t23_t4 t23_t5 h23 I23 f23 a23_8 b23_8 v23_t0 v23_t1 v23_t2 v23_t3 v23_t4 v23_t5 va23_t0 vb23_t0 va23_t1 vb23_t1 va23_t2 vb23_t2 va23_t3 vb23_t3 va23_t4 vb23_t4 va23_t5 vb23_t5 l23_0 l23_1 l23_2 l23_3 l23_4 l23_5 m23; exfalso; omega
                                | succ n23 ih23 =>
                                  intro v23_8 t23_t0 t23_t1 t23_t2 t23_t3 t23_t4 t23_t5 h23 I23 f23 a23_8 b23_8 v23_t0 v23_t1 v23_t2 v23_t3 v23_t4 v23_t5 va23_t0 vb23_t0 va23_t1 vb23_t1 va23_t2 vb23_t2 va23_t3 vb23_t3 va23_t4 vb23_t4 va23_t5 vb23_t5 l23_0 l23_1 l23_2 l23_3 l23_4 l23_5 m23
                                  refine te_iload (p2 := 217) rfl rfl rfl ?_
                                  refine te_iload_n (p2 := 218) rfl rfl rfl ?_
                                  refine tb_ge (p2 := 221) rfl rfl rfl rfl (fun c24 => ?_) (fun c24 => ?_)
                                  · refine te_aload_n (p2 := 252) rfl rfl rfl ?_
                                    refine te_iload_n (p2 := 253) rfl rfl rfl ?_
                                    refine tc_V (p2 := 256) (i := 148) rfl rfl rfl rfl I23 rfl rfl rfl (t_X12_nextOrder (n := y5) (g0 := t23_t0) (g1 := t23_t1) (g2 := t23_t2) (g3 := t23_t3) (g4 := t23_t4) (g5 := t23_t5) I23 (by omega) (by omega) v23_t0 (by omega) (by omega) v23_t1 (by omega) (by omega) v23_t2 (by omega) (by omega) v23_t3 (by omega) (by omega) v23_t4 (by omega) (by omega) v23_t5 (by omega) (by omega) (by rw [l23_0, l23_1, l23_2, l23_3, l23_4, l23_5]; exact w12_0)) (by decide) (fun v25 h25 hq25 => ?_)
                                    obtain ⟨I25, g25, y25, w25, r25⟩ := hq25
                                    subst w25
                                    have f25 := fr_tr (F1 := [(199, 0, 5)]) (F := F_X12_pulls) f23 g25 (by decide)
                                    rcases r25 with r25 | ⟨r25, s25_0, s25_1, s25_2, s25_3, s25_4, s25_5, es25_0, es25_1, es25_2, es25_3, es25_4, es25_5, pm25, lx25⟩
                                    · subst r25
                                      show EvP _ _ _ (256, [(0, .ref 164), (1, .int x1), (2, .int y5), (3, .int v7_3), (4, .int v7_4), (5, .int y21), (6, .int v12_6), (7, .int y21), (8, .int v23_8)], [.int 0], h25) _
                                      refine te_istore (p2 := 258) (lv2 := [(6, .int 0), (0, .ref 164), (1, .int x1), (2, .int y5), (3, .int v7_3), (4, .int v7_4), (5, .int y21), (7, .int y21), (8, .int v23_8)]) rfl rfl (by decide) rfl ?_
                                      refine te_goto rfl ?_
                                      refine te_iload (p2 := 184) rfl rfl rfl ?_
                                      refine tz_eq (p2 := 187) rfl rfl (show Int32.toInt 0 = 0 from rfl) (fun c26 => ?_) (fun c26 => absurd c26 (by omega))
                                      refine te_aload_n (p2 := 262) rfl rfl rfl ?_
                                      refine te_iload_n (p2 := 263) rfl rfl rfl ?_
                                      refine tp_i (p2 := 266) (i := 148) rfl rfl I25 rfl rfl (by decide) rfl rfl rfl (by omega) (by omega) (by omega) rfl (fun h27 I27 u27 => ?_)
                                      have f27 := fr_st (F := F_X12_pulls) 0 f25 u27 rfl (by decide) (by decide)
                                      refine te_iload (p2 := 268) rfl rfl rfl ?_
                                      exact te_iret rfl rfl ⟨I27, f27, _, rfl, trivial⟩
                                    · subst r25
                                      obtain ⟨v28, ex28, y28, w28, a28, b28, _⟩ := I25.2.1 199 (Int32.toInt 0).toNat (.inl (0, 5, 9999999999)) (tq_row rfl (by decide))
                                      subst w28
                                      rw [← int_inj es25_0 ex28] at a28 b28
                                      obtain ⟨v29, ex29, y29, w29, a29, b29, _⟩ := I25.2.1 199 (Int32.toInt 1).toNat (.inl (0, 5, 9999999999)) (tq_row rfl (by decide))
                                      subst w29
                                      rw [← int_inj es25_1 ex29] at a29 b29
                                      obtain ⟨v30, ex30, y30, w30, a30, b30, _⟩ := I25.2.1 199 (Int32.toInt 2).toNat (.inl (0, 5, 9999999999)) (tq_row rfl (by decide))
                                      subst w30
                                      rw [← int_inj es25_2 ex30] at a30 b30
                                      obtain ⟨v31, ex31, y31, w31, a31, b31, _⟩ := I25.2.1 199 (Int32.toInt 3).toNat (.inl (0, 5, 9999999999)) (tq_row rfl (by decide))
                                      subst w31
                                      rw [← int_inj es25_3 ex31] at a31 b31
                                      obtain ⟨v32, ex32, y32, w32, a32, b32, _⟩ := I25.2.1 199 (Int32.toInt 4).toNat (.inl (0, 5, 9999999999)) (tq_row rfl (by decide))
                                      subst w32
                                      rw [← int_inj es25_4 ex32] at a32 b32
                                      obtain ⟨v33, ex33, y33, w33, a33, b33, _⟩ := I25.2.1 199 (Int32.toInt 5).toNat (.inl (0, 5, 9999999999)) (tq_row rfl (by decide))
                                      subst w33
                                      rw [← int_inj es25_5 ex33] at a33 b33
                                      unfold lexV at lx25
                                      show EvP _ _ _ (256, [(0, .ref 164), (1, .int x1), (2, .int y5), (3, .int v7_3), (4, .int v7_4), (5, .int y21), (6, .int v12_6), (7, .int y21), (8, .int v23_8)], [.int 1], h25) _
                                      refine te_istore (p2 := 258) (lv2 := [(6, .int 1), (0, .ref 164), (1, .int x1), (2, .int y5), (3, .int v7_3), (4, .int v7_4), (5, .int y21), (7, .int y21), (8, .int v23_8)]) rfl rfl (by decide) rfl ?_
                                      refine te_goto rfl ?_
                                      refine te_lv [(0, .ref 164), (1, .int x1), (2, .int y5), (3, .int v7_3), (4, .int v7_4), (5, .int y21), (6, .int 1)] rfl rfl ⟨rfl, rfl, rfl, rfl, rfl, rfl, rfl, trivial⟩ ?_
                                      exact ih12 y21 1 s25_0 s25_1 s25_2 s25_3 s25_4 s25_5 h25 I25 f25 (by decide) (by decide) es25_0 es25_1 es25_2 es25_3 es25_4 es25_5 (by omega) (by omega) (by omega) (by omega) (by omega) (by omega) (by omega) (by omega) (by omega) (by omega) (by omega) (by omega) pm25 (by have cc0 := (show Int32.toInt 1 = 1 from rfl); omega)
                                  · refine te_aload_n (p2 := 222) rfl rfl rfl ?_
                                    refine tg_r (p2 := 225) (i := 148) (r := 199) rfl rfl I23 rfl rfl rfl ?_
                                    refine te_iload (p2 := 227) rfl rfl rfl ?_
                                    refine te_aload_n (p2 := 228) rfl rfl rfl ?_
                                    refine tg_r (p2 := 231) (i := 148) (r := 210) rfl rfl I23 rfl rfl rfl ?_
                                    refine te_bipush (p2 := 233) (x := 40) rfl rfl (by decide) ?_
                                    refine te_iload_n (p2 := 234) rfl rfl rfl ?_
                                    refine ar_mul (p2 := 235) rfl rfl (show Int32.toInt 40 = 40 from rfl) rfl (by omega) (by omega) (fun z34 e34 f34 => ?_)
                                    refine te_aload_n (p2 := 236) rfl rfl rfl ?_
                                    refine tg_r (p2 := 239) (i := 148) (r := 215) rfl rfl I23 rfl rfl rfl ?_
                                    refine te_iload (p2 := 241) rfl rfl rfl ?_
                                    refine tl_i (p2 := 242) (i := 199) (n := 6) rfl rfl I23 rfl rfl rfl rfl (by omega) (by omega) (fun y35 a35 b35 g35 e35 => ?_)
                                    refine ar_add (p2 := 243) rfl rfl rfl rfl (by omega) (by omega) (fun z36 e36 f36 => ?_)
                                    refine tl_i (p2 := 244) (i := 194) (n := 160) rfl rfl I23 rfl rfl rfl rfl (by omega) (by omega) (fun y37 a37 b37 g37 e37 => ?_)
                                    refine ts_i (p2 := 245) (i := 183) (n := 6) rfl rfl I23 rfl rfl rfl rfl (by omega) (by omega) (i32_lo _) (i32_hi _) (i32_ho _) rfl (fun h38 I38 u38 => ?_)
                                    have f38 := fr_st (F := F_X12_pulls) 2 f23 u38 rfl (by omega) (by omega)
                                    refine ar_inc (p2 := 248) (x := v23_8) rfl rfl (by decide) rfl (by decide) rfl (by omega) (by omega) (fun z39 e39 f39 => ?_)
                                    show EvP _ _ _ (248, [(8, .int z39), (0, .ref 164), (1, .int x1), (2, .int y5), (3, .int v7_3), (4, .int v7_4), (5, .int y21), (6, .int v12_6), (7, .int y21)], [], h38) _
                                    refine te_goto rfl ?_
                                    refine te_lv [(0, .ref 164), (1, .int x1), (2, .int y5), (3, .int v7_3), (4, .int v7_4), (5, .int y21), (6, .int v12_6), (7, .int y21), (8, .int z39)] rfl rfl ⟨rfl, rfl, rfl, rfl, rfl, rfl, rfl, rfl, rfl, trivial⟩ ?_
                                    exact ih23 z39 t23_t0 t23_t1 t23_t2 t23_t3 t23_t4 t23_t5 h38 I38 f38 (by omega) (by omega) ((u38.2 _ _ (Or.inl (by decide))).trans v23_t0) ((u38.2 _ _ (Or.inl (by decide))).trans v23_t1) ((u38.2 _ _ (Or.inl (by decide))).trans v23_t2) ((u38.2 _ _ (Or.inl (by decide))).trans v23_t3) ((u38.2 _ _ (Or.inl (by decide))).trans v23_t4) ((u38.2 _ _ (Or.inl (by decide))).trans v23_t5) (by omega) (by omega) (by omega) (by omega) (by omega) (by omega) (by omega) (by omega) (by omega) (by omega) (by omega) (by omega) (by omega) (by omega) (by omega) (by omega) (by omega) (by omega) (by omega)
                              refine te_lv [(0, .ref 164), (1, .int x1), (2, .int y5), (3, .int v7_3), (4, .int v7_4), (5, .int y21), (6, .int v12_6), (7, .int y21), (8, .int 0)] rfl rfl ⟨rfl, rfl, rfl, rfl, rfl, rfl, rfl, rfl, rfl, trivial⟩ ?_
                              exact lp23 7 0 t12_t0 t12_t1 t12_t2 t12_t3 t12_t4 t12_t5 h21 I21 f21 (by decide) (by decide) ((g21 _ _ rfl).trans v12_t0) ((g21 _ _ rfl).trans v12_t1) ((g21 _ _ rfl).trans v12_t2) ((g21 _ _ rfl).trans v12_t3) ((g21 _ _ rfl).trans v12_t4) ((g21 _ _ rfl).trans v12_t5) (by omega) (by omega) (by omega) (by omega) (by omega) (by omega) (by omega) (by omega) (by omega) (by omega) (by omega) (by omega) (by have cc0 := (show Int32.toInt 0 = 0 from rfl); omega) (by have cc0 := (show Int32.toInt 0 = 0 from rfl); omega) (by have cc0 := (show Int32.toInt 0 = 0 from rfl); omega) (by have cc0 := (show Int32.toInt 0 = 0 from rfl); omega) (by have cc0 := (show Int32.toInt 0 = 0 from rfl); omega) (by have cc0 := (show Int32.toInt 0 = 0 from rfl); omega) (by have cc0 := (show Int32.toInt 0 = 0 from rfl); omega)
                            · refine te_iload (p2 := 203) rfl rfl rfl ?_
                              refine te_iload (p2 := 205) rfl rfl rfl ?_
                              refine tb_ge (p2 := 208) rfl rfl rfl rfl (fun c40 => ?_) (fun c40 => ?_)
                              · refine te_aload_n (p2 := 252) rfl rfl rfl ?_
                                refine te_iload_n (p2 := 253) rfl rfl rfl ?_
                                refine tc_V (p2 := 256) (i := 148) rfl rfl rfl rfl I21 rfl rfl rfl (t_X12_nextOrder (n := y5) (g0 := t12_t0) (g1 := t12_t1) (g2 := t12_t2) (g3 := t12_t3) (g4 := t12_t4) (g5 := t12_t5) I21 (by omega) (by omega) ((g21 _ _ rfl).trans v12_t0) (by omega) (by omega) ((g21 _ _ rfl).trans v12_t1) (by omega) (by omega) ((g21 _ _ rfl).trans v12_t2) (by omega) (by omega) ((g21 _ _ rfl).trans v12_t3) (by omega) (by omega) ((g21 _ _ rfl).trans v12_t4) (by omega) (by omega) ((g21 _ _ rfl).trans v12_t5) (by omega) (by omega) w12_0) (by decide) (fun v41 h41 hq41 => ?_)
                                obtain ⟨I41, g41, y41, w41, r41⟩ := hq41
                                subst w41
                                have f41 := fr_tr (F1 := [(199, 0, 5)]) (F := F_X12_pulls) f21 g41 (by decide)
                                rcases r41 with r41 | ⟨r41, s41_0, s41_1, s41_2, s41_3, s41_4, s41_5, es41_0, es41_1, es41_2, es41_3, es41_4, es41_5, pm41, lx41⟩
                                · subst r41
                                  show EvP _ _ _ (256, [(7, .int y21), (0, .ref 164), (1, .int x1), (2, .int y5), (3, .int v7_3), (4, .int v7_4), (5, .int v12_5), (6, .int v12_6)], [.int 0], h41) _
                                  refine te_istore (p2 := 258) (lv2 := [(6, .int 0), (7, .int y21), (0, .ref 164), (1, .int x1), (2, .int y5), (3, .int v7_3), (4, .int v7_4), (5, .int v12_5)]) rfl rfl (by decide) rfl ?_
                                  refine te_goto rfl ?_
                                  refine te_iload (p2 := 184) rfl rfl rfl ?_
                                  refine tz_eq (p2 := 187) rfl rfl (show Int32.toInt 0 = 0 from rfl) (fun c42 => ?_) (fun c42 => absurd c42 (by omega))
                                  refine te_aload_n (p2 := 262) rfl rfl rfl ?_
                                  refine te_iload_n (p2 := 263) rfl rfl rfl ?_
                                  refine tp_i (p2 := 266) (i := 148) rfl rfl I41 rfl rfl (by decide) rfl rfl rfl (by omega) (by omega) (by omega) rfl (fun h43 I43 u43 => ?_)
                                  have f43 := fr_st (F := F_X12_pulls) 0 f41 u43 rfl (by decide) (by decide)
                                  refine te_iload (p2 := 268) rfl rfl rfl ?_
                                  exact te_iret rfl rfl ⟨I43, f43, _, rfl, trivial⟩
                                · subst r41
                                  obtain ⟨v44, ex44, y44, w44, a44, b44, _⟩ := I41.2.1 199 (Int32.toInt 0).toNat (.inl (0, 5, 9999999999)) (tq_row rfl (by decide))
                                  subst w44
                                  rw [← int_inj es41_0 ex44] at a44 b44
                                  obtain ⟨v45, ex45, y45, w45, a45, b45, _⟩ := I41.2.1 199 (Int32.toInt 1).toNat (.inl (0, 5, 9999999999)) (tq_row rfl (by decide))
                                  subst w45
                                  rw [← int_inj es41_1 ex45] at a45 b45
                                  obtain ⟨v46, ex46, y46, w46, a46, b46, _⟩ := I41.2.1 199 (Int32.toInt 2).toNat (.inl (0, 5, 9999999999)) (tq_row rfl (by decide))
                                  subst w46
                                  rw [← int_inj es41_2 ex46] at a46 b46
                                  obtain ⟨v47, ex47, y47, w47, a47, b47, _⟩ := I41.2.1 199 (Int32.toInt 3).toNat (.inl (0, 5, 9999999999)) (tq_row rfl (by decide))
                                  subst w47
                                  rw [← int_inj es41_3 ex47] at a47 b47
                                  obtain ⟨v48, ex48, y48, w48, a48, b48, _⟩ := I41.2.1 199 (Int32.toInt 4).toNat (.inl (0, 5, 9999999999)) (tq_row rfl (by decide))
                                  subst w48
                                  rw [← int_inj es41_4 ex48] at a48 b48
                                  obtain ⟨v49, ex49, y49, w49, a49, b49, _⟩ := I41.2.1 199 (Int32.toInt 5).toNat (.inl (0, 5, 9999999999)) (tq_row rfl (by decide))
                                  subst w49
                                  rw [← int_inj es41_5 ex49] at a49 b49
                                  unfold lexV at lx41
                                  show EvP _ _ _ (256, [(7, .int y21), (0, .ref 164), (1, .int x1), (2, .int y5), (3, .int v7_3), (4, .int v7_4), (5, .int v12_5), (6, .int v12_6)], [.int 1], h41) _
                                  refine te_istore (p2 := 258) (lv2 := [(6, .int 1), (7, .int y21), (0, .ref 164), (1, .int x1), (2, .int y5), (3, .int v7_3), (4, .int v7_4), (5, .int v12_5)]) rfl rfl (by decide) rfl ?_
                                  refine te_goto rfl ?_
                                  refine te_lv [(0, .ref 164), (1, .int x1), (2, .int y5), (3, .int v7_3), (4, .int v7_4), (5, .int v12_5), (6, .int 1)] rfl rfl ⟨rfl, rfl, rfl, rfl, rfl, rfl, rfl, trivial⟩ ?_
                                  exact ih12 v12_5 1 s41_0 s41_1 s41_2 s41_3 s41_4 s41_5 h41 I41 f41 (by decide) (by decide) es41_0 es41_1 es41_2 es41_3 es41_4 es41_5 (by omega) (by omega) (by omega) (by omega) (by omega) (by omega) (by omega) (by omega) (by omega) (by omega) (by omega) (by omega) pm41 (by have cc0 := (show Int32.toInt 1 = 1 from rfl); omega)
                              · refine te_iload (p2 := 210) rfl rfl rfl ?_
                                refine te_istore (p2 := 212) (lv2 := [(5, .int y21), (7, .int y21), (0, .ref 164), (1, .int x1), (2, .int y5), (3, .int v7_3), (4, .int v7_4), (6, .int v12_6)]) rfl rfl (by decide) rfl ?_
                                refine te_iconst (p2 := 213) (x := 0) rfl rfl (by decide) ?_
                                refine te_istore (p2 := 215) (lv2 := [(8, .int 0), (5, .int y21), (7, .int y21), (0, .ref 164), (1, .int x1), (2, .int y5), (3, .int v7_3), (4, .int v7_4), (6, .int v12_6)]) rfl rfl (by decide) rfl ?_
                                have lp50 : ∀ (n50 : Nat) (v50_8 t50_t0 t50_t1 t50_t2 t50_t3 t50_t4 t50_t5 : Int32) (h50 : im_H), tI h50 → fr F_X12_pulls h h50 → 0 ≤ v50_8.toInt → v50_8.toInt ≤ 6 → rd h50 199 (Int32.toInt 0).toNat = some (.int t50_t0) → rd h50 199 (Int32.toInt 1).toNat = some (.int t50_t1) → rd h50 199 (Int32.toInt 2).toNat = some (.int t50_t2) → rd h50 199 (Int32.toInt 3).toNat = some (.int t50_t3) → rd h50 199 (Int32.toInt 4).toNat = some (.int t50_t4) → rd h50 199 (Int32.toInt 5).toNat = some (.int t50_t5) → 0 ≤ t50_t0.toInt → t50_t0.toInt ≤ 5 → 0 ≤ t50_t1.toInt → t50_t1.toInt ≤ 5 → 0 ≤ t50_t2.toInt → t50_t2.toInt ≤ 5 → 0 ≤ t50_t3.toInt → t50_t3.toInt ≤ 5 → 0 ≤ t50_t4.toInt → t50_t4.toInt ≤ 5 → 0 ≤ t50_t5.toInt → t50_t5.toInt ≤ 5 → t50_t0.toInt = t12_t0.toInt → t50_t1.toInt = t12_t1.toInt → t50_t2.toInt = t12_t2.toInt → t50_t3.toInt = t12_t3.toInt → t50_t4.toInt = t12_t4.toInt → t50_t5.toInt = t12_t5.toInt → 6 - v50_8.toInt < (n50 : Int) → EvP im_K0 4 mX12_pulls (215, [(0, .ref 164), (1, .int x1), (2, .int y5), (3, .int v7_3), (4, .int v7_4), (5, .int y21), (6, .int v12_6), (7, .int y21), (8, .int v50_8)], [], h50) (mI h F_X12_pulls (fun _ => True)) := by
                                  intro n50
                                  induction n50 with
                                  | zero => intro v50_8 t50_t0 t50_t1 t50_t2 t50_t3 t50_t4 t50_t5 h50 I50 f50 a50_8 b50_8 v50_t0 v50_t1 v50_t2 v50_t3 v50_t4 v50_t5 va50_t0 vb50_t0 va50_t1 vb50_t1 va50_t2 vb50_t2 va50_t3 vb50_t3 va50_t4 vb50_t4 va50_t5 vb50_t5 l50_0 l50_1 l50_2 l50_3 l50_4 l50_5 m50; exfalso; omega
                                  | succ n50 ih50 =>
                                    intro v50_8 t50_t0 t50_t1 t50_t2 t50_t3 t50_t4 t50_t5 h50 I50 f50 a50_8 b50_8 v50_t0 v50_t1 v50_t2 v50_t3 v50_t4 v50_t5 va50_t0 vb50_t0 va50_t1 vb50_t1 va50_t2 vb50_t2 va50_t3 vb50_t3 va50_t4 vb50_t4 va50_t5 vb50_t5 l50_0 l50_1 l50_2 l50_3 l50_4 l50_5 m50
                                    refine te_iload (p2 := 217) rfl rfl rfl ?_
                                    refine te_iload_n (p2 := 218) rfl rfl rfl ?_
                                    refine tb_ge (p2 := 221) rfl rfl rfl rfl (fun c51 => ?_) (fun c51 => ?_)
                                    · refine te_aload_n (p2 := 252) rfl rfl rfl ?_
                                      refine te_iload_n (p2 := 253) rfl rfl rfl ?_
                                      refine tc_V (p2 := 256) (i := 148) rfl rfl rfl rfl I50 rfl rfl rfl (t_X12_nextOrder (n := y5) (g0 := t50_t0) (g1 := t50_t1) (g2 := t50_t2) (g3 := t50_t3) (g4 := t50_t4) (g5 := t50_t5) I50 (by omega) (by omega) v50_t0 (by omega) (by omega) v50_t1 (by omega) (by omega) v50_t2 (by omega) (by omega) v50_t3 (by omega) (by omega) v50_t4 (by omega) (by omega) v50_t5 (by omega) (by omega) (by rw [l50_0, l50_1, l50_2, l50_3, l50_4, l50_5]; exact w12_0)) (by decide) (fun v52 h52 hq52 => ?_)
                                      obtain ⟨I52, g52, y52, w52, r52⟩ := hq52
                                      subst w52
                                      have f52 := fr_tr (F1 := [(199, 0, 5)]) (F := F_X12_pulls) f50 g52 (by decide)
                                      rcases r52 with r52 | ⟨r52, s52_0, s52_1, s52_2, s52_3, s52_4, s52_5, es52_0, es52_1, es52_2, es52_3, es52_4, es52_5, pm52, lx52⟩
                                      · subst r52
                                        show EvP _ _ _ (256, [(0, .ref 164), (1, .int x1), (2, .int y5), (3, .int v7_3), (4, .int v7_4), (5, .int y21), (6, .int v12_6), (7, .int y21), (8, .int v50_8)], [.int 0], h52) _
                                        refine te_istore (p2 := 258) (lv2 := [(6, .int 0), (0, .ref 164), (1, .int x1), (2, .int y5), (3, .int v7_3), (4, .int v7_4), (5, .int y21), (7, .int y21), (8, .int v50_8)]) rfl rfl (by decide) rfl ?_
                                        refine te_goto rfl ?_
                                        refine te_iload (p2 := 184) rfl rfl rfl ?_
                                        refine tz_eq (p2 := 187) rfl rfl (show Int32.toInt 0 = 0 from rfl) (fun c53 => ?_) (fun c53 => absurd c53 (by omega))
                                        refine te_aload_n (p2 := 262) rfl rfl rfl ?_
                                        refine te_iload_n (p2 := 263) rfl rfl rfl ?_
                                        refine tp_i (p2 := 266) (i := 148) rfl rfl I52 rfl rfl (by decide) rfl rfl rfl (by omega) (by omega) (by omega) rfl (fun h54 I54 u54 => ?_)
                                        have f54 := fr_st (F := F_X12_pulls) 0 f52 u54 rfl (by decide) (by decide)
                                        refine te_iload (p2 := 268) rfl rfl rfl ?_
                                        exact te_iret rfl rfl ⟨I54, f54, _, rfl, trivial⟩
                                      · subst r52
                                        obtain ⟨v55, ex55, y55, w55, a55, b55, _⟩ := I52.2.1 199 (Int32.toInt 0).toNat (.inl (0, 5, 9999999999)) (tq_row rfl (by decide))
                                        subst w55
                                        rw [← int_inj es52_0 ex55] at a55 b55
                                        obtain ⟨v56, ex56, y56, w56, a56, b56, _⟩ := I52.2.1 199 (Int32.toInt 1).toNat (.inl (0, 5, 9999999999)) (tq_row rfl (by decide))
                                        subst w56
                                        rw [← int_inj es52_1 ex56] at a56 b56
                                        obtain ⟨v57, ex57, y57, w57, a57, b57, _⟩ := I52.2.1 199 (Int32.toInt 2).toNat (.inl (0, 5, 9999999999)) (tq_row rfl (by decide))
                                        subst w57
                                        rw [← int_inj es52_2 ex57] at a57 b57
                                        obtain ⟨v58, ex58, y58, w58, a58, b58, _⟩ := I52.2.1 199 (Int32.toInt 3).toNat (.inl (0, 5, 9999999999)) (tq_row rfl (by decide))
                                        subst w58
                                        rw [← int_inj es52_3 ex58] at a58 b58
                                        obtain ⟨v59, ex59, y59, w59, a59, b59, _⟩ := I52.2.1 199 (Int32.toInt 4).toNat (.inl (0, 5, 9999999999)) (tq_row rfl (by decide))
                                        subst w59
                                        rw [← int_inj es52_4 ex59] at a59 b59
                                        obtain ⟨v60, ex60, y60, w60, a60, b60, _⟩ := I52.2.1 199 (Int32.toInt 5).toNat (.inl (0, 5, 9999999999)) (tq_row rfl (by decide))
                                        subst w60
                                        rw [← int_inj es52_5 ex60] at a60 b60
                                        unfold lexV at lx52
                                        show EvP _ _ _ (256, [(0, .ref 164), (1, .int x1), (2, .int y5), (3, .int v7_3), (4, .int v7_4), (5, .int y21), (6, .int v12_6), (7, .int y21), (8, .int v50_8)], [.int 1], h52) _
                                        refine te_istore (p2 := 258) (lv2 := [(6, .int 1), (0, .ref 164), (1, .int x1), (2, .int y5), (3, .int v7_3), (4, .int v7_4), (5, .int y21), (7, .int y21), (8, .int v50_8)]) rfl rfl (by decide) rfl ?_
                                        refine te_goto rfl ?_
                                        refine te_lv [(0, .ref 164), (1, .int x1), (2, .int y5), (3, .int v7_3), (4, .int v7_4), (5, .int y21), (6, .int 1)] rfl rfl ⟨rfl, rfl, rfl, rfl, rfl, rfl, rfl, trivial⟩ ?_
                                        exact ih12 y21 1 s52_0 s52_1 s52_2 s52_3 s52_4 s52_5 h52 I52 f52 (by decide) (by decide) es52_0 es52_1 es52_2 es52_3 es52_4 es52_5 (by omega) (by omega) (by omega) (by omega) (by omega) (by omega) (by omega) (by omega) (by omega) (by omega) (by omega) (by omega) pm52 (by have cc0 := (show Int32.toInt 1 = 1 from rfl); omega)
                                    · refine te_aload_n (p2 := 222) rfl rfl rfl ?_
                                      refine tg_r (p2 := 225) (i := 148) (r := 199) rfl rfl I50 rfl rfl rfl ?_
                                      refine te_iload (p2 := 227) rfl rfl rfl ?_
                                      refine te_aload_n (p2 := 228) rfl rfl rfl ?_
                                      refine tg_r (p2 := 231) (i := 148) (r := 210) rfl rfl I50 rfl rfl rfl ?_
                                      refine te_bipush (p2 := 233) (x := 40) rfl rfl (by decide) ?_
                                      refine te_iload_n (p2 := 234) rfl rfl rfl ?_
                                      refine ar_mul (p2 := 235) rfl rfl (show Int32.toInt 40 = 40 from rfl) rfl (by omega) (by omega) (fun z61 e61 f61 => ?_)
                                      refine te_aload_n (p2 := 236) rfl rfl rfl ?_
                                      refine tg_r (p2 := 239) (i := 148) (r := 215) rfl rfl I50 rfl rfl rfl ?_
                                      refine te_iload (p2 := 241) rfl rfl rfl ?_
                                      refine tl_i (p2 := 242) (i := 199) (n := 6) rfl rfl I50 rfl rfl rfl rfl (by omega) (by omega) (fun y62 a62 b62 g62 e62 => ?_)
                                      refine ar_add (p2 := 243) rfl rfl rfl rfl (by omega) (by omega) (fun z63 e63 f63 => ?_)
                                      refine tl_i (p2 := 244) (i := 194) (n := 160) rfl rfl I50 rfl rfl rfl rfl (by omega) (by omega) (fun y64 a64 b64 g64 e64 => ?_)
                                      refine ts_i (p2 := 245) (i := 183) (n := 6) rfl rfl I50 rfl rfl rfl rfl (by omega) (by omega) (i32_lo _) (i32_hi _) (i32_ho _) rfl (fun h65 I65 u65 => ?_)
                                      have f65 := fr_st (F := F_X12_pulls) 2 f50 u65 rfl (by omega) (by omega)
                                      refine ar_inc (p2 := 248) (x := v50_8) rfl rfl (by decide) rfl (by decide) rfl (by omega) (by omega) (fun z66 e66 f66 => ?_)
                                      show EvP _ _ _ (248, [(8, .int z66), (0, .ref 164), (1, .int x1), (2, .int y5), (3, .int v7_3), (4, .int v7_4), (5, .int y21), (6, .int v12_6), (7, .int y21)], [], h65) _
                                      refine te_goto rfl ?_
                                      refine te_lv [(0, .ref 164), (1, .int x1), (2, .int y5), (3, .int v7_3), (4, .int v7_4), (5, .int y21), (6, .int v12_6), (7, .int y21), (8, .int z66)] rfl rfl ⟨rfl, rfl, rfl, rfl, rfl, rfl, rfl, rfl, rfl, trivial⟩ ?_
                                      exact ih50 z66 t50_t0 t50_t1 t50_t2 t50_t3 t50_t4 t50_t5 h65 I65 f65 (by omega) (by omega) ((u65.2 _ _ (Or.inl (by decide))).trans v50_t0) ((u65.2 _ _ (Or.inl (by decide))).trans v50_t1) ((u65.2 _ _ (Or.inl (by decide))).trans v50_t2) ((u65.2 _ _ (Or.inl (by decide))).trans v50_t3) ((u65.2 _ _ (Or.inl (by decide))).trans v50_t4) ((u65.2 _ _ (Or.inl (by decide))).trans v50_t5) (by omega) (by omega) (by omega) (by omega) (by omega) (by omega) (by omega) (by omega) (by omega) (by omega) (by omega) (by omega) (by omega) (by omega) (by omega) (by omega) (by omega) (by omega) (by omega)
                                refine te_lv [(0, .ref 164), (1, .int x1), (2, .int y5), (3, .int v7_3), (4, .int v7_4), (5, .int y21), (6, .int v12_6), (7, .int y21), (8, .int 0)] rfl rfl ⟨rfl, rfl, rfl, rfl, rfl, rfl, rfl, rfl, rfl, trivial⟩ ?_
                                exact lp50 7 0 t12_t0 t12_t1 t12_t2 t12_t3 t12_t4 t12_t5 h21 I21 f21 (by decide) (by decide) ((g21 _ _ rfl).trans v12_t0) ((g21 _ _ rfl).trans v12_t1) ((g21 _ _ rfl).trans v12_t2) ((g21 _ _ rfl).trans v12_t3) ((g21 _ _ rfl).trans v12_t4) ((g21 _ _ rfl).trans v12_t5) (by omega) (by omega) (by omega) (by omega) (by omega) (by omega) (by omega) (by omega) (by omega) (by omega) (by omega) (by omega) (by have cc0 := (show Int32.toInt 0 = 0 from rfl); omega) (by have cc0 := (show Int32.toInt 0 = 0 from rfl); omega) (by have cc0 := (show Int32.toInt 0 = 0 from rfl); omega) (by have cc0 := (show Int32.toInt 0 = 0 from rfl); omega) (by have cc0 := (show Int32.toInt 0 = 0 from rfl); omega) (by have cc0 := (show Int32.toInt 0 = 0 from rfl); omega) (by have cc0 := (show Int32.toInt 0 = 0 from rfl); omega)
                      refine te_lv [(0, .ref 164), (1, .int x1), (2, .int y5), (3, .int v7_3), (4, .int v7_4), (5, .int (-1)), (6, .int 1)] rfl rfl ⟨rfl, rfl, rfl, rfl, rfl, rfl, rfl, trivial⟩ ?_
                      exact lp12 46657 (-1) 1 y13 y14 y15 y16 y17 y18 h10 I10 f10 (by decide) (by decide) e13 e14 e15 e16 e17 e18 (by omega) (by omega) (by omega) (by omega) (by omega) (by omega) (by omega) (by omega) (by omega) (by omega) (by omega) (by omega) (by (have hk0 : (0 : Int) < y5.toInt → y13.toInt = 0 := fun hl => (by (obtain ⟨p, ep, fp⟩ := w10_0 0 (by omega)); rw [int_inj e13 (show rd _ 199 (Int32.toInt 0).toNat = some (.int p) from ep)]; exact fp); have hk1 : (1 : Int) < y5.toInt → y14.toInt = 1 := fun hl => (by (obtain ⟨p, ep, fp⟩ := w10_0 1 (by omega)); rw [int_inj e14 (show rd _ 199 (Int32.toInt 1).toNat = some (.int p) from ep)]; exact fp); have hk2 : (2 : Int) < y5.toInt → y15.toInt = 2 := fun hl => (by (obtain ⟨p, ep, fp⟩ := w10_0 2 (by omega)); rw [int_inj e15 (show rd _ 199 (Int32.toInt 2).toNat = some (.int p) from ep)]; exact fp); have hk3 : (3 : Int) < y5.toInt → y16.toInt = 3 := fun hl => (by (obtain ⟨p, ep, fp⟩ := w10_0 3 (by omega)); rw [int_inj e16 (show rd _ 199 (Int32.toInt 3).toNat = some (.int p) from ep)]; exact fp); have hk4 : (4 : Int) < y5.toInt → y17.toInt = 4 := fun hl => (by (obtain ⟨p, ep, fp⟩ := w10_0 4 (by omega)); rw [int_inj e17 (show rd _ 199 (Int32.toInt 4).toNat = some (.int p) from ep)]; exact fp); have hk5 : (5 : Int) < y5.toInt → y18.toInt = 5 := fun hl => (by (obtain ⟨p, ep, fp⟩ := w10_0 5 (by omega)); rw [int_inj e18 (show rd _ 199 (Int32.toInt 5).toNat = some (.int p) from ep)]; exact fp); unfold prm; omega)) (by have cc0 := (show Int32.toInt (-1) = (-1) from rfl); have cc1 := (show Int32.toInt 1 = 1 from rfl); omega)
                    · refine te_aload_n (p2 := 162) rfl rfl rfl ?_
                      refine tg_r (p2 := 165) (i := 148) (r := 215) rfl rfl I10 rfl rfl rfl ?_
                      refine te_iload (p2 := 167) rfl rfl rfl ?_
                      refine te_iload (p2 := 169) rfl rfl rfl ?_
                      refine ts_i (p2 := 170) (i := 199) (n := 6) rfl rfl I10 rfl rfl rfl rfl (by omega) (by omega) (by omega) (by omega) (by omega) rfl (fun h67 I67 u67 => ?_)
                      have f67 := fr_st (F := F_X12_pulls) 5 f10 u67 rfl (by omega) (by omega)
                      refine ar_inc (p2 := 173) (x := v10_5) rfl rfl (by decide) rfl (by decide) rfl (by omega) (by omega) (fun z68 e68 f68 => ?_)
                      show EvP _ _ _ (173, [(5, .int z68), (0, .ref 164), (1, .int x1), (2, .int y5), (3, .int v7_3), (4, .int v7_4)], [], h67) _
                      refine te_goto rfl ?_
                      refine te_lv [(0, .ref 164), (1, .int x1), (2, .int y5), (3, .int v7_3), (4, .int v7_4), (5, .int z68)] rfl rfl ⟨rfl, rfl, rfl, rfl, rfl, rfl, trivial⟩ ?_
                      exact ih10 z68 h67 I67 f67 (by omega) (by omega) (by omega) (fun q hq => by (by_cases hqk : q = v10_5.toInt.toNat; exact ⟨v10_5, by rw [hqk]; exact u67.1, by omega⟩; obtain ⟨p, ep, fp⟩ := w10_0 q (by omega); exact ⟨p, (u67.2 _ _ (Or.inr (by omega))).trans ep, fp⟩)) (by omega)
                refine te_lv [(0, .ref 164), (1, .int x1), (2, .int y5), (3, .int v7_3), (4, .int v7_4), (5, .int 0)] rfl rfl ⟨rfl, rfl, rfl, rfl, rfl, rfl, trivial⟩ ?_
                exact lp10 7 0 h hI f0 (by decide) (by decide) (by have cc0 := (show Int32.toInt 0 = 0 from rfl); omega) (fun q hq => absurd hq (by rw [show Int32.toInt 0 = 0 from rfl]; omega)) (by have cc0 := (show Int32.toInt 0 = 0 from rfl); omega)
              · refine te_bipush (p2 := 151) (x := (-2)) rfl rfl (by decide) ?_
                exact te_iret rfl rfl ⟨hI, f0, _, rfl, trivial⟩
            · refine te_iload (p2 := 53) rfl rfl rfl ?_
              refine tz_eq (p2 := 56) rfl rfl rfl (fun c69 => ?_) (fun c69 => ?_)
              · refine te_iload (p2 := 146) rfl rfl rfl ?_
                refine tz_ne (p2 := 149) rfl rfl rfl (fun c70 => absurd c70 (by omega)) (fun c70 => ?_)
                refine te_bipush (p2 := 151) (x := (-2)) rfl rfl (by decide) ?_
                exact te_iret rfl rfl ⟨hI, f0, _, rfl, trivial⟩
              · refine te_aload_n (p2 := 57) rfl rfl rfl ?_
                refine tg_r (p2 := 60) (i := 148) (r := 210) rfl rfl hI rfl rfl rfl ?_
                refine te_bipush (p2 := 62) (x := 40) rfl rfl (by decide) ?_
                refine te_iload_n (p2 := 63) rfl rfl rfl ?_
                refine ar_mul (p2 := 64) rfl rfl (show Int32.toInt 40 = 40 from rfl) rfl (by omega) (by omega) (fun z71 e71 f71 => ?_)
                refine te_iload (p2 := 66) rfl rfl rfl ?_
                refine ar_add (p2 := 67) rfl rfl rfl rfl (by omega) (by omega) (fun z72 e72 f72 => ?_)
                refine tl_i (p2 := 68) (i := 194) (n := 160) rfl rfl hI rfl rfl rfl rfl (by omega) (by omega) (fun y73 a73 b73 g73 e73 => ?_)
                refine te_istore (p2 := 70) (lv2 := [(6, .int y73), (0, .ref 164), (1, .int x1), (2, .int y5), (3, .int v7_3), (4, .int v7_4), (5, .int v7_5)]) rfl rfl (by decide) rfl ?_
                refine te_aload_n (p2 := 71) rfl rfl rfl ?_
                refine te_iload (p2 := 73) rfl rfl rfl ?_
                refine cV_pI (p2 := 76) (i := 148) rfl rfl rfl rfl hI rfl rfl rfl (t_X12_isWall (k := y73) hI) (by decide) (fun y74 r74 => ?_)
                obtain ⟨p74, e74, a74, b74, r74⟩ := r74
                rcases r74 with ⟨w74, c74⟩ | ⟨w74, c74⟩
                · subst w74
                  refine tz_eq (p2 := 79) rfl rfl (show Int32.toInt 1 = 1 from rfl) (fun c75 => absurd c75 (by omega)) (fun c75 => ?_)
                  refine te_aload_n (p2 := 80) rfl rfl rfl ?_
                  refine tg_r (p2 := 83) (i := 148) (r := 165) rfl rfl hI rfl rfl rfl ?_
                  refine te_bipush (p2 := 85) (x := 108) rfl rfl (by decide) ?_
                  refine te_aload_n (p2 := 86) rfl rfl rfl ?_
                  refine te_iload (p2 := 88) rfl rfl rfl ?_
                  refine cV_pI (p2 := 91) (i := 148) rfl rfl rfl rfl hI rfl rfl rfl (t_X12_isWall (k := y73) hI) (by decide) (fun y76 r76 => ?_)
                  obtain ⟨p76, e76, a76, b76, r76⟩ := r76
                  have w76 : p76 = p74 := Value.int.inj (Option.some.inj (e76.symm.trans e74))
                  subst w76
                  rcases r76 with ⟨w76, c76⟩ | ⟨w76, c76⟩
                  · subst w76
                    refine tz_eq (p2 := 94) rfl rfl (show Int32.toInt 1 = 1 from rfl) (fun c77 => absurd c77 (by omega)) (fun c77 => ?_)
                    refine te_iload (p2 := 96) rfl rfl rfl ?_
                    refine te_goto rfl ?_
                    refine ar_add (p2 := 101) rfl rfl (show Int32.toInt 108 = 108 from rfl) rfl (by omega) (by omega) (fun z78 e78 f78 => ?_)
                    refine tl_i (p2 := 102) (i := 149) (n := 283) rfl rfl hI rfl rfl rfl rfl (by omega) (by omega) (fun y79 a79 b79 g79 e79 => ?_)
                    refine te_iconst (p2 := 103) (x := 1) rfl rfl (by decide) ?_
                    refine tb_ne (p2 := 106) rfl rfl rfl (show Int32.toInt 1 = 1 from rfl) (fun c80 => ?_) (fun c80 => ?_)
                    · refine te_iconst (p2 := 120) (x := 0) rfl rfl (by decide) ?_
                      refine te_istore (p2 := 122) (lv2 := [(4, .int 0), (6, .int y73), (0, .ref 164), (1, .int x1), (2, .int y5), (3, .int v7_3), (5, .int v7_5)]) rfl rfl (by decide) rfl ?_
                      refine te_iload_n (p2 := 123) rfl rfl rfl ?_
                      refine te_iload (p2 := 125) rfl rfl rfl ?_
                      refine tz_eq (p2 := 128) rfl rfl (show Int32.toInt 0 = 0 from rfl) (fun c81 => ?_) (fun c81 => absurd c81 (by omega))
                      refine te_iconst (p2 := 136) (x := 0) rfl rfl (by decide) ?_
                      refine te_ior (p2 := 137) (z := v7_3) rfl rfl (Int32.or_zero) ?_
                      refine te_istore_n (p2 := 138) (lv2 := [(3, .int v7_3), (4, .int 0), (6, .int y73), (0, .ref 164), (1, .int x1), (2, .int y5), (5, .int v7_5)]) rfl rfl (by decide) rfl ?_
                      refine ar_inc (p2 := 141) (x := v7_5) rfl rfl (by decide) rfl (by decide) rfl (by omega) (by omega) (fun z83 e83 f83 => ?_)
                      show EvP _ _ _ (141, [(5, .int z83), (3, .int v7_3), (4, .int 0), (6, .int y73), (0, .ref 164), (1, .int x1), (2, .int y5)], [], h) _
                      refine te_goto rfl ?_
                      refine te_lv [(0, .ref 164), (1, .int x1), (2, .int y5), (3, .int v7_3), (4, .int 0), (5, .int z83)] rfl rfl ⟨rfl, rfl, rfl, rfl, rfl, rfl, trivial⟩ ?_
                      exact ih7 v7_3 0 z83 (by decide) (by decide) (by omega) (by omega) (fun e => absurd e (by decide)) (by have cc0 := (show Int32.toInt 0 = 0 from rfl); omega)
                    · refine te_iload_n (p2 := 107) rfl rfl rfl ?_
                      refine te_iload (p2 := 109) rfl rfl rfl ?_
                      refine au_shr (p2 := 110) rfl rfl (fun z84 e84 => ?_)
                      refine te_iconst (p2 := 111) (x := 1) rfl rfl (by decide) ?_
                      refine au_and (p2 := 112) rfl rfl (fun z85 e85 => ?_)
                      refine tz_ne (p2 := 115) rfl rfl rfl (fun c86 => ?_) (fun c86 => ?_)
                      · refine te_iconst (p2 := 120) (x := 0) rfl rfl (by decide) ?_
                        refine te_istore (p2 := 122) (lv2 := [(4, .int 0), (6, .int y73), (0, .ref 164), (1, .int x1), (2, .int y5), (3, .int v7_3), (5, .int v7_5)]) rfl rfl (by decide) rfl ?_
                        refine te_iload_n (p2 := 123) rfl rfl rfl ?_
                        refine te_iload (p2 := 125) rfl rfl rfl ?_
                        refine tz_eq (p2 := 128) rfl rfl (show Int32.toInt 0 = 0 from rfl) (fun c87 => ?_) (fun c87 => absurd c87 (by omega))
                        refine te_iconst (p2 := 136) (x := 0) rfl rfl (by decide) ?_
                        refine te_ior (p2 := 137) (z := v7_3) rfl rfl (Int32.or_zero) ?_
                        refine te_istore_n (p2 := 138) (lv2 := [(3, .int v7_3), (4, .int 0), (6, .int y73), (0, .ref 164), (1, .int x1), (2, .int y5), (5, .int v7_5)]) rfl rfl (by decide) rfl ?_
                        refine ar_inc (p2 := 141) (x := v7_5) rfl rfl (by decide) rfl (by decide) rfl (by omega) (by omega) (fun z89 e89 f89 => ?_)
                        show EvP _ _ _ (141, [(5, .int z89), (3, .int v7_3), (4, .int 0), (6, .int y73), (0, .ref 164), (1, .int x1), (2, .int y5)], [], h) _
                        refine te_goto rfl ?_
                        refine te_lv [(0, .ref 164), (1, .int x1), (2, .int y5), (3, .int v7_3), (4, .int 0), (5, .int z89)] rfl rfl ⟨rfl, rfl, rfl, rfl, rfl, rfl, trivial⟩ ?_
                        exact ih7 v7_3 0 z89 (by decide) (by decide) (by omega) (by omega) (fun e => absurd e (by decide)) (by have cc0 := (show Int32.toInt 0 = 0 from rfl); omega)
                      · refine te_iconst (p2 := 116) (x := 1) rfl rfl (by decide) ?_
                        refine te_goto rfl ?_
                        refine te_istore (p2 := 122) (lv2 := [(4, .int 1), (6, .int y73), (0, .ref 164), (1, .int x1), (2, .int y5), (3, .int v7_3), (5, .int v7_5)]) rfl rfl (by decide) rfl ?_
                        refine te_iload_n (p2 := 123) rfl rfl rfl ?_
                        refine te_iload (p2 := 125) rfl rfl rfl ?_
                        refine tz_eq (p2 := 128) rfl rfl (show Int32.toInt 1 = 1 from rfl) (fun c90 => absurd c90 (by omega)) (fun c90 => ?_)
                        refine te_iconst (p2 := 129) (x := 1) rfl rfl (by decide) ?_
                        refine te_iload (p2 := 131) rfl rfl rfl ?_
                        refine au_shl (p2 := 132) rfl rfl (fun z91 e91 => ?_)
                        refine te_goto rfl ?_
                        refine au_or (p2 := 137) rfl rfl (fun z92 e92 => ?_)
                        refine te_istore_n (p2 := 138) (lv2 := [(3, .int z92), (4, .int 1), (6, .int y73), (0, .ref 164), (1, .int x1), (2, .int y5), (5, .int v7_5)]) rfl rfl (by decide) rfl ?_
                        refine ar_inc (p2 := 141) (x := v7_5) rfl rfl (by decide) rfl (by decide) rfl (by omega) (by omega) (fun z93 e93 f93 => ?_)
                        show EvP _ _ _ (141, [(5, .int z93), (3, .int z92), (4, .int 1), (6, .int y73), (0, .ref 164), (1, .int x1), (2, .int y5)], [], h) _
                        refine te_goto rfl ?_
                        refine te_lv [(0, .ref 164), (1, .int x1), (2, .int y5), (3, .int z92), (4, .int 1), (5, .int z93)] rfl rfl ⟨rfl, rfl, rfl, rfl, rfl, rfl, trivial⟩ ?_
                        exact ih7 z92 1 z93 (by decide) (by decide) (by omega) (by omega) (fun _ => allB_s (k := v7_5.toInt.toNat) (w7_0 (by omega)) (by omega) f93 (by rw [show 40 * x1.toInt.toNat + v7_5.toInt.toNat = z72.toInt.toNat by omega]; exact e73) (by omega) (by omega)) (by have cc0 := (show Int32.toInt 1 = 1 from rfl); omega)
                  · subst w76
                    refine tz_eq (p2 := 94) rfl rfl (show Int32.toInt 0 = 0 from rfl) (fun c94 => ?_) (fun c94 => absurd c94 (by omega))
                    refine te_iconst (p2 := 100) (x := 0) rfl rfl (by decide) ?_
                    refine te_iadd (p2 := 101) (z := 108) rfl rfl (by decide) ?_
                    refine tl_i (p2 := 102) (i := 149) (n := 283) rfl rfl hI rfl rfl rfl rfl (by decide) (by decide) (fun y96 a96 b96 g96 e96 => ?_)
                    refine te_iconst (p2 := 103) (x := 1) rfl rfl (by decide) ?_
                    refine tb_ne (p2 := 106) rfl rfl rfl (show Int32.toInt 1 = 1 from rfl) (fun c97 => ?_) (fun c97 => ?_)
                    · refine te_iconst (p2 := 120) (x := 0) rfl rfl (by decide) ?_
                      refine te_istore (p2 := 122) (lv2 := [(4, .int 0), (6, .int y73), (0, .ref 164), (1, .int x1), (2, .int y5), (3, .int v7_3), (5, .int v7_5)]) rfl rfl (by decide) rfl ?_
                      refine te_iload_n (p2 := 123) rfl rfl rfl ?_
                      refine te_iload (p2 := 125) rfl rfl rfl ?_
                      refine tz_eq (p2 := 128) rfl rfl (show Int32.toInt 0 = 0 from rfl) (fun c98 => ?_) (fun c98 => absurd c98 (by omega))
                      refine te_iconst (p2 := 136) (x := 0) rfl rfl (by decide) ?_
                      refine te_ior (p2 := 137) (z := v7_3) rfl rfl (Int32.or_zero) ?_
                      refine te_istore_n (p2 := 138) (lv2 := [(3, .int v7_3), (4, .int 0), (6, .int y73), (0, .ref 164), (1, .int x1), (2, .int y5), (5, .int v7_5)]) rfl rfl (by decide) rfl ?_
                      refine ar_inc (p2 := 141) (x := v7_5) rfl rfl (by decide) rfl (by decide) rfl (by omega) (by omega) (fun z100 e100 f100 => ?_)
                      show EvP _ _ _ (141, [(5, .int z100), (3, .int v7_3), (4, .int 0), (6, .int y73), (0, .ref 164), (1, .int x1), (2, .int y5)], [], h) _
                      refine te_goto rfl ?_
                      refine te_lv [(0, .ref 164), (1, .int x1), (2, .int y5), (3, .int v7_3), (4, .int 0), (5, .int z100)] rfl rfl ⟨rfl, rfl, rfl, rfl, rfl, rfl, trivial⟩ ?_
                      exact ih7 v7_3 0 z100 (by decide) (by decide) (by omega) (by omega) (fun e => absurd e (by decide)) (by have cc0 := (show Int32.toInt 0 = 0 from rfl); omega)
                    · refine te_iload_n (p2 := 107) rfl rfl rfl ?_
                      refine te_iload (p2 := 109) rfl rfl rfl ?_
                      refine au_shr (p2 := 110) rfl rfl (fun z101 e101 => ?_)
                      refine te_iconst (p2 := 111) (x := 1) rfl rfl (by decide) ?_
                      refine au_and (p2 := 112) rfl rfl (fun z102 e102 => ?_)
                      refine tz_ne (p2 := 115) rfl rfl rfl (fun c103 => ?_) (fun c103 => ?_)
                      · refine te_iconst (p2 := 120) (x := 0) rfl rfl (by decide) ?_
                        refine te_istore (p2 := 122) (lv2 := [(4, .int 0), (6, .int y73), (0, .ref 164), (1, .int x1), (2, .int y5), (3, .int v7_3), (5, .int v7_5)]) rfl rfl (by decide) rfl ?_
                        refine te_iload_n (p2 := 123) rfl rfl rfl ?_
                        refine te_iload (p2 := 125) rfl rfl rfl ?_
                        refine tz_eq (p2 := 128) rfl rfl (show Int32.toInt 0 = 0 from rfl) (fun c104 => ?_) (fun c104 => absurd c104 (by omega))
                        refine te_iconst (p2 := 136) (x := 0) rfl rfl (by decide) ?_
                        refine te_ior (p2 := 137) (z := v7_3) rfl rfl (Int32.or_zero) ?_
                        refine te_istore_n (p2 := 138) (lv2 := [(3, .int v7_3), (4, .int 0), (6, .int y73), (0, .ref 164), (1, .int x1), (2, .int y5), (5, .int v7_5)]) rfl rfl (by decide) rfl ?_
                        refine ar_inc (p2 := 141) (x := v7_5) rfl rfl (by decide) rfl (by decide) rfl (by omega) (by omega) (fun z106 e106 f106 => ?_)
                        show EvP _ _ _ (141, [(5, .int z106), (3, .int v7_3), (4, .int 0), (6, .int y73), (0, .ref 164), (1, .int x1), (2, .int y5)], [], h) _
                        refine te_goto rfl ?_
                        refine te_lv [(0, .ref 164), (1, .int x1), (2, .int y5), (3, .int v7_3), (4, .int 0), (5, .int z106)] rfl rfl ⟨rfl, rfl, rfl, rfl, rfl, rfl, trivial⟩ ?_
                        exact ih7 v7_3 0 z106 (by decide) (by decide) (by omega) (by omega) (fun e => absurd e (by decide)) (by have cc0 := (show Int32.toInt 0 = 0 from rfl); omega)
                      · refine te_iconst (p2 := 116) (x := 1) rfl rfl (by decide) ?_
                        refine te_goto rfl ?_
                        refine te_istore (p2 := 122) (lv2 := [(4, .int 1), (6, .int y73), (0, .ref 164), (1, .int x1), (2, .int y5), (3, .int v7_3), (5, .int v7_5)]) rfl rfl (by decide) rfl ?_
                        refine te_iload_n (p2 := 123) rfl rfl rfl ?_
                        refine te_iload (p2 := 125) rfl rfl rfl ?_
                        refine tz_eq (p2 := 128) rfl rfl (show Int32.toInt 1 = 1 from rfl) (fun c107 => absurd c107 (by omega)) (fun c107 => ?_)
                        refine te_iconst (p2 := 129) (x := 1) rfl rfl (by decide) ?_
                        refine te_iload (p2 := 131) rfl rfl rfl ?_
                        refine au_shl (p2 := 132) rfl rfl (fun z108 e108 => ?_)
                        refine te_goto rfl ?_
                        refine au_or (p2 := 137) rfl rfl (fun z109 e109 => ?_)
                        refine te_istore_n (p2 := 138) (lv2 := [(3, .int z109), (4, .int 1), (6, .int y73), (0, .ref 164), (1, .int x1), (2, .int y5), (5, .int v7_5)]) rfl rfl (by decide) rfl ?_
                        refine ar_inc (p2 := 141) (x := v7_5) rfl rfl (by decide) rfl (by decide) rfl (by omega) (by omega) (fun z110 e110 f110 => ?_)
                        show EvP _ _ _ (141, [(5, .int z110), (3, .int z109), (4, .int 1), (6, .int y73), (0, .ref 164), (1, .int x1), (2, .int y5)], [], h) _
                        refine te_goto rfl ?_
                        refine te_lv [(0, .ref 164), (1, .int x1), (2, .int y5), (3, .int z109), (4, .int 1), (5, .int z110)] rfl rfl ⟨rfl, rfl, rfl, rfl, rfl, rfl, trivial⟩ ?_
                        exact ih7 z109 1 z110 (by decide) (by decide) (by omega) (by omega) (fun _ => allB_s (k := v7_5.toInt.toNat) (w7_0 (by omega)) (by omega) f110 (by rw [show 40 * x1.toInt.toNat + v7_5.toInt.toNat = z72.toInt.toNat by omega]; exact e73) (by omega) (by omega)) (by have cc0 := (show Int32.toInt 1 = 1 from rfl); omega)
                · subst w74
                  refine tz_eq (p2 := 79) rfl rfl (show Int32.toInt 0 = 0 from rfl) (fun c111 => ?_) (fun c111 => absurd c111 (by omega))
                  refine te_iconst (p2 := 120) (x := 0) rfl rfl (by decide) ?_
                  refine te_istore (p2 := 122) (lv2 := [(4, .int 0), (6, .int y73), (0, .ref 164), (1, .int x1), (2, .int y5), (3, .int v7_3), (5, .int v7_5)]) rfl rfl (by decide) rfl ?_
                  refine te_iload_n (p2 := 123) rfl rfl rfl ?_
                  refine te_iload (p2 := 125) rfl rfl rfl ?_
                  refine tz_eq (p2 := 128) rfl rfl (show Int32.toInt 0 = 0 from rfl) (fun c112 => ?_) (fun c112 => absurd c112 (by omega))
                  refine te_iconst (p2 := 136) (x := 0) rfl rfl (by decide) ?_
                  refine te_ior (p2 := 137) (z := v7_3) rfl rfl (Int32.or_zero) ?_
                  refine te_istore_n (p2 := 138) (lv2 := [(3, .int v7_3), (4, .int 0), (6, .int y73), (0, .ref 164), (1, .int x1), (2, .int y5), (5, .int v7_5)]) rfl rfl (by decide) rfl ?_
                  refine ar_inc (p2 := 141) (x := v7_5) rfl rfl (by decide) rfl (by decide) rfl (by omega) (by omega) (fun z114 e114 f114 => ?_)
                  show EvP _ _ _ (141, [(5, .int z114), (3, .int v7_3), (4, .int 0), (6, .int y73), (0, .ref 164), (1, .int x1), (2, .int y5)], [], h) _
                  refine te_goto rfl ?_
                  refine te_lv [(0, .ref 164), (1, .int x1), (2, .int y5), (3, .int v7_3), (4, .int 0), (5, .int z114)] rfl rfl ⟨rfl, rfl, rfl, rfl, rfl, rfl, trivial⟩ ?_
                  exact ih7 v7_3 0 z114 (by decide) (by decide) (by omega) (by omega) (fun e => absurd e (by decide)) (by have cc0 := (show Int32.toInt 0 = 0 from rfl); omega)
        refine te_lv [(0, .ref 164), (1, .int x1), (2, .int y5), (3, .int 0), (4, .int 1), (5, .int 0)] rfl rfl ⟨rfl, rfl, rfl, rfl, rfl, rfl, trivial⟩ ?_
        exact lp7 41 0 1 0 (by decide) (by decide) (by decide) (by decide) (fun _ => allB_0 (by decide)) (by have cc0 := (show Int32.toInt 0 = 0 from rfl); have cc1 := (show Int32.toInt 1 = 1 from rfl); omega)
      · subst w6
        have cc6_1 := (show Int32.toInt 1 = 1 from rfl)
        have cc6_2 := (show Int32.toInt 6 = 6 from rfl)
        refine te_istore (p2 := 42) (lv2 := [(4, .int 0), (3, .int 0), (2, .int y5), (0, .ref 164), (1, .int x1)]) rfl rfl (by decide) rfl ?_
        refine te_iconst (p2 := 43) (x := 0) rfl rfl (by decide) ?_
        refine te_istore (p2 := 45) (lv2 := [(5, .int 0), (4, .int 0), (3, .int 0), (2, .int y5), (0, .ref 164), (1, .int x1)]) rfl rfl (by decide) rfl ?_
        have lp115 : ∀ (n115 : Nat) (v115_3 v115_4 v115_5 : Int32) , 0 ≤ v115_4.toInt → v115_4.toInt ≤ 0 → 0 ≤ v115_5.toInt → v115_5.toInt ≤ 40 → 40 - v115_5.toInt < (n115 : Int) → EvP im_K0 4 mX12_pulls (45, [(0, .ref 164), (1, .int x1), (2, .int y5), (3, .int v115_3), (4, .int v115_4), (5, .int v115_5)], [], h) (mI h F_X12_pulls (fun _ => True)) := by
          intro n115
          induction n115 with
          | zero => intro v115_3 v115_4 v115_5 a115_4 b115_4 a115_5 b115_5 m115; exfalso; omega
          | succ n115 ih115 =>
            intro v115_3 v115_4 v115_5 a115_4 b115_4 a115_5 b115_5 m115
            refine te_iload (p2 := 47) rfl rfl rfl ?_
            refine te_iload_n (p2 := 48) rfl rfl rfl ?_
            refine tb_ge (p2 := 51) rfl rfl rfl rfl (fun c116 => ?_) (fun c116 => ?_)
            · refine te_iload (p2 := 146) rfl rfl rfl ?_
              refine tz_ne (p2 := 149) rfl rfl rfl (fun c117 => absurd c117 (by omega)) (fun c117 => ?_)
              refine te_bipush (p2 := 151) (x := (-2)) rfl rfl (by decide) ?_
              exact te_iret rfl rfl ⟨hI, f0, _, rfl, trivial⟩
            · refine te_iload (p2 := 53) rfl rfl rfl ?_
              refine tz_eq (p2 := 56) rfl rfl rfl (fun c118 => ?_) (fun c118 => absurd c118 (by omega))
              refine te_iload (p2 := 146) rfl rfl rfl ?_
              refine tz_ne (p2 := 149) rfl rfl rfl (fun c119 => absurd c119 (by omega)) (fun c119 => ?_)
              refine te_bipush (p2 := 151) (x := (-2)) rfl rfl (by decide) ?_
              exact te_iret rfl rfl ⟨hI, f0, _, rfl, trivial⟩
        refine te_lv [(0, .ref 164), (1, .int x1), (2, .int y5), (3, .int 0), (4, .int 0), (5, .int 0)] rfl rfl ⟨rfl, rfl, rfl, rfl, rfl, rfl, trivial⟩ ?_
        exact lp115 41 0 0 0 (by decide) (by decide) (by decide) (by decide) (by have cc0 := (show Int32.toInt 0 = 0 from rfl); omega)
    · refine te_bipush (p2 := 23) (x := (-11)) rfl rfl (by decide) ?_
      exact te_iret rfl rfl ⟨hI, f0, _, rfl, trivial⟩
  · subst w1
    have cc1_1 := (show Int32.toInt 0 = 0 from rfl)
    have cc1_2 := (show Int32.toInt 3 = 3 from rfl)
    refine tz_ne (p2 := 9) rfl rfl (show Int32.toInt 0 = 0 from rfl) (fun c120 => absurd c120 (by omega)) (fun c120 => ?_)
    refine te_iconst (p2 := 10) (x := (-1)) rfl rfl (by decide) ?_
    exact te_iret rfl rfl ⟨hI, f0, _, rfl, trivial⟩
