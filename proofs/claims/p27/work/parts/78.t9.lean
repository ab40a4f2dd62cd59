abbrev F_X3_swap : List (Nat × Nat × Nat) := [(70, 0, 5)]
set_option maxRecDepth 20000 in
set_option maxHeartbeats 4000000 in
theorem t_X3_swap {i : Int32} {j : Int32} {h : im_H} (hI : tI h) (p_i0 : 0 ≤ i.toInt) (p_i1 : i.toInt ≤ 5) (p_j0 : 0 ≤ j.toInt) (p_j1 : j.toInt ≤ 5) : CaP 1 27 [.ref 84, .int i, .int j] h (mV h F_X3_swap) := by
  refine cap_of (d := 0) (M := mX3_swap) rfl (Nat.le_of_ble_eq_true rfl) ?_
  show EvP im_K0 0 mX3_swap (0, [(0, .ref 84), (1, .int i), (2, .int j)], [], h) _
  have f0 : fr F_X3_swap h h := fr_rf
  refine te_aload_n (p2 := 1) rfl rfl rfl ?_
  refine tg_r (p2 := 4) (i := 68) (r := 86) rfl rfl hI rfl rfl rfl ?_
  refine te_iload_n (p2 := 5) rfl rfl rfl ?_
  refine tl_i (p2 := 6) (i := 70) (n := 6) rfl rfl hI rfl rfl rfl rfl (by omega) (by omega) (fun y1 a1 b1 g1 e1 => ?_)
  refine te_istore_n (p2 := 7) (lv2 := [(3, .int y1), (0, .ref 84), (1, .int i), (2, .int j)]) rfl rfl (by decide) rfl ?_
  refine te_aload_n (p2 := 8) rfl rfl rfl ?_
  refine tg_r (p2 := 11) (i := 68) (r := 86) rfl rfl hI rfl rfl rfl ?_
  refine te_iload_n (p2 := 12) rfl rfl rfl ?_
  refine te_aload_n (p2 := 13) rfl rfl rfl ?_
  refine tg_r (p2 := 16) (i := 68) (r := 86) rfl rfl hI rfl rfl rfl ?_
  refine te_iload_n (p2 := 17) rfl rfl rfl ?_
  refine tl_i (p2 := 18) (i := 70) (n := 6) rfl rfl hI rfl rfl rfl rfl (by omega) (by omega) (fun y2 a2 b2 g2 e2 => ?_)
  refine ts_i (p2 := 19) (i := 70) (n := 6) rfl rfl hI rfl rfl rfl rfl (by omega) (by omega) (by omega) (by omega) (by omega) rfl (fun h3 I3 u3 => ?_)
  have f3 := fr_st (F := F_X3_swap) 0 f0 u3 rfl (by omega) (by omega)
  refine te_aload_n (p2 := 20) rfl rfl rfl ?_
  refine tg_r (p2 := 23) (i := 68) (r := 86) rfl rfl I3 rfl rfl rfl ?_
  refine te_iload_n (p2 := 24) rfl rfl rfl ?_
  refine te_iload_n (p2 := 25) rfl rfl rfl ?_
  refine ts_i (p2 := 26) (i := 70) (n := 6) rfl rfl I3 rfl rfl rfl rfl (by omega) (by omega) (by omega) (by omega) (by omega) rfl (fun h4 I4 u4 => ?_)
  have f4 := fr_st (F := F_X3_swap) 0 f3 u4 rfl (by omega) (by omega)
  exact te_vret rfl rfl ⟨I4, f4, rfl⟩
set_option maxRecDepth 20000 in
set_option maxHeartbeats 4000000 in
theorem t_X3_countLate  {h : im_H} (hI : tI h)  : CaP 1 24 [.ref 84] h (pI h (fun _ => True)) := by
  refine cap_of (d := 0) (M := mX3_countLate) rfl (Nat.le_of_ble_eq_true rfl) ?_
  show EvP im_K0 0 mX3_countLate (0, [(0, .ref 84)], [], h) _
  refine te_iconst (p2 := 1) (x := 0) rfl rfl (by decide) ?_
  refine te_istore_n (p2 := 2) (lv2 := [(1, .int 0), (0, .ref 84)]) rfl rfl (by decide) rfl ?_
  refine te_iconst (p2 := 3) (x := 0) rfl rfl (by decide) ?_
  refine te_istore_n (p2 := 4) (lv2 := [(2, .int 0), (1, .int 0), (0, .ref 84)]) rfl rfl (by decide) rfl ?_
  have lp1 : ∀ (n1 : Nat) (v1_1 v1_2 : Int32) , 0 ≤ v1_2.toInt → v1_2.toInt ≤ 6 → 6 - v1_2.toInt < (n1 : Int) → EvP im_K0 0 mX3_countLate (4, [(0, .ref 84), (1, .int v1_1), (2, .int v1_2)], [], h) (pI h (fun _ => True)) := by
    intro n1
    induction n1 with
    | zero => intro v1_1 v1_2 a1_2 b1_2 m1; exfalso; omega
    | succ n1 ih1 =>
      intro v1_1 v1_2 a1_2 b1_2 m1
      refine te_iload_n (p2 := 5) rfl rfl rfl ?_
      refine te_aload_n (p2 := 6) rfl rfl rfl ?_
      refine tg_i (p2 := 9) (i := 68) rfl rfl hI rfl rfl rfl (fun y2 a2 b2 e2 => ?_)
      refine tb_ge (p2 := 12) rfl rfl rfl rfl (fun c3 => ?_) (fun c3 => ?_)
      · refine te_iload_n (p2 := 42) rfl rfl rfl ?_
        exact te_iret rfl rfl ⟨rfl, _, rfl, trivial⟩
      · refine te_iload_n (p2 := 13) rfl rfl rfl ?_
        refine te_aload_n (p2 := 14) rfl rfl rfl ?_
        refine tg_r (p2 := 17) (i := 68) (r := 87) rfl rfl hI rfl rfl rfl ?_
        refine te_aload_n (p2 := 18) rfl rfl rfl ?_
        refine tg_r (p2 := 21) (i := 68) (r := 86) rfl rfl hI rfl rfl rfl ?_
        refine te_iload_n (p2 := 22) rfl rfl rfl ?_
        refine tl_i (p2 := 23) (i := 70) (n := 6) rfl rfl hI rfl rfl rfl rfl (by omega) (by omega) (fun y4 a4 b4 g4 e4 => ?_)
        refine tl_i (p2 := 24) (i := 71) (n := 6) rfl rfl hI rfl rfl rfl rfl (by omega) (by omega) (fun y5 a5 b5 g5 e5 => ?_)
        refine te_iload_n (p2 := 25) rfl rfl rfl ?_
        refine tb_gt (p2 := 28) rfl rfl rfl rfl (fun c6 => ?_) (fun c6 => ?_)
        · refine te_iconst (p2 := 33) (x := 0) rfl rfl (by decide) ?_
          have n7_v1_1 := i32_lo v1_1
          have o7_v1_1 := i32_hi v1_1
          refine ar_add (p2 := 34) rfl rfl rfl (show Int32.toInt 0 = 0 from rfl) (by omega) (by omega) (fun z7 e7 f7 => ?_)
          refine te_istore_n (p2 := 35) (lv2 := [(1, .int z7), (0, .ref 84), (2, .int v1_2)]) rfl rfl (by decide) rfl ?_
          refine ar_inc (p2 := 38) (x := v1_2) rfl rfl (by decide) rfl (by decide) rfl (by omega) (by omega) (fun z8 e8 f8 => ?_)
          show EvP _ _ _ (38, [(2, .int z8), (1, .int z7), (0, .ref 84)], [], h) _
          refine te_goto rfl ?_
          refine te_lv [(0, .ref 84), (1, .int z7), (2, .int z8)] rfl rfl ⟨rfl, rfl, rfl, trivial⟩ ?_
          exact ih1 z7 z8 (by omega) (by omega) (by omega)
        · refine te_iconst (p2 := 29) (x := 1) rfl rfl (by decide) ?_
          refine te_goto rfl ?_
          refine au_add (p2 := 34) rfl rfl (fun z9 e9 => ?_)
          refine te_istore_n (p2 := 35) (lv2 := [(1, .int z9), (0, .ref 84), (2, .int v1_2)]) rfl rfl (by decide) rfl ?_
          refine ar_inc (p2 := 38) (x := v1_2) rfl rfl (by decide) rfl (by decide) rfl (by omega) (by omega) (fun z10 e10 f10 => ?_)
          show EvP _ _ _ (38, [(2, .int z10), (1, .int z9), (0, .ref 84)], [], h) _
          refine te_goto rfl ?_
          refine te_lv [(0, .ref 84), (1, .int z9), (2, .int z10)] rfl rfl ⟨rfl, rfl, rfl, trivial⟩ ?_
          exact ih1 z9 z10 (by omega) (by omega) (by omega)
  refine te_lv [(0, .ref 84), (1, .int 0), (2, .int 0)] rfl rfl ⟨rfl, rfl, rfl, trivial⟩ ?_
  exact lp1 7 0 0 (by decide) (by decide) (by have cc0 := (show Int32.toInt 0 = 0 from rfl); omega)
abbrev F_X3_keep : List (Nat × Nat × Nat) := [(69, 0, 5)]
set_option maxRecDepth 20000 in
set_option maxHeartbeats 4000000 in
theorem t_X3_keep {s : Nat} {h : im_H} (hI : tI h) (q_s : s = 140 ∨ s = 142 ∨ s = 144 ∨ s = 146) : CaP 1 25 [.ref 84, .ref (16 + s)] h (mV h F_X3_keep) := by
  refine cap_of (d := 0) (M := mX3_keep) rfl (Nat.le_of_ble_eq_true rfl) ?_
  show EvP im_K0 0 mX3_keep (0, [(0, .ref 84), (1, .ref (16 + s))], [], h) _
  have f0 : fr F_X3_keep h h := fr_rf
  refine te_iconst (p2 := 1) (x := 0) rfl rfl (by decide) ?_
  refine te_istore_n (p2 := 2) (lv2 := [(2, .int 0), (0, .ref 84), (1, .ref (16 + s))]) rfl rfl (by decide) rfl ?_
  have lp1 : ∀ (n1 : Nat) (v1_2 : Int32) (h1 : im_H), tI h1 → fr F_X3_keep h h1 → 0 ≤ v1_2.toInt → v1_2.toInt ≤ 6 → 6 - v1_2.toInt < (n1 : Int) → EvP im_K0 0 mX3_keep (2, [(0, .ref 84), (1, .ref (16 + s)), (2, .int v1_2)], [], h1) (mV h F_X3_keep) := by
    intro n1
    induction n1 with
    | zero => intro v1_2 h1 I1 f1 a1_2 b1_2 m1; exfalso; omega
    | succ n1 ih1 =>
      intro v1_2 h1 I1 f1 a1_2 b1_2 m1
      refine te_iload_n (p2 := 3) rfl rfl rfl ?_
      refine te_aload_n (p2 := 4) rfl rfl rfl ?_
      refine tg_i (p2 := 7) (i := 68) rfl rfl I1 rfl rfl rfl (fun y2 a2 b2 e2 => ?_)
      refine tb_ge (p2 := 10) rfl rfl rfl rfl (fun c3 => ?_) (fun c3 => ?_)
      · exact te_vret rfl rfl ⟨I1, f1, rfl⟩
      · refine te_aload_n (p2 := 11) rfl rfl rfl ?_
        refine tg_r (p2 := 14) (i := 68) (r := 85) rfl rfl I1 rfl rfl rfl ?_
        refine te_iload_n (p2 := 15) rfl rfl rfl ?_
        refine te_aload_n (p2 := 16) rfl rfl rfl ?_
        refine tg_r (p2 := 19) (i := s) (r := (16 + (s + 1))) rfl rfl I1 rfl (by rcases q_s with rfl | rfl | rfl | rfl <;> rfl) (by rcases q_s with rfl | rfl | rfl | rfl <;> rfl) ?_
        refine te_aload_n (p2 := 20) rfl rfl rfl ?_
        refine tg_r (p2 := 23) (i := 68) (r := 86) rfl rfl I1 rfl rfl rfl ?_
        refine te_iload_n (p2 := 24) rfl rfl rfl ?_
        refine tl_i (p2 := 25) (i := 70) (n := 6) rfl rfl I1 rfl rfl rfl rfl (by omega) (by omega) (fun y4 a4 b4 g4 e4 => ?_)
        refine tl_i (p2 := 26) (i := (s + 1)) (n := 40) rfl rfl I1 rfl (by rcases q_s with rfl | rfl | rfl | rfl <;> rfl) (by rcases q_s with rfl | rfl | rfl | rfl <;> rfl) rfl (by omega) (by omega) (fun y5 a5 b5 g5 e5 => ?_)
        refine ts_i (p2 := 27) (i := 69) (n := 6) rfl rfl I1 rfl rfl rfl rfl (by omega) (by omega) (i32_lo _) (i32_hi _) (i32_ho _) rfl (fun h6 I6 u6 => ?_)
        have f6 := fr_st (F := F_X3_keep) 0 f1 u6 rfl (by omega) (by omega)
        refine ar_inc (p2 := 30) (x := v1_2) rfl rfl (by decide) rfl (by decide) rfl (by omega) (by omega) (fun z7 e7 f7 => ?_)
        show EvP _ _ _ (30, [(2, .int z7), (0, .ref 84), (1, .ref (16 + s))], [], h6) _
        refine te_goto rfl ?_
        refine te_lv [(0, .ref 84), (1, .ref (16 + s)), (2, .int z7)] rfl rfl ⟨rfl, rfl, rfl, trivial⟩ ?_
        exact ih1 z7 h6 I6 f6 (by omega) (by omega) (by omega)
  refine te_lv [(0, .ref 84), (1, .ref (16 + s)), (2, .int 0)] rfl rfl ⟨rfl, rfl, rfl, trivial⟩ ?_
  exact lp1 7 0 h hI f0 (by decide) (by decide) (by have cc0 := (show Int32.toInt 0 = 0 from rfl); omega)
abbrev F_X3_goOn : List (Nat × Nat × Nat) := [(70, 0, 5)]
set_option maxRecDepth 20000 in
set_option maxHeartbeats 4000000 in
theorem t_X3_goOn  {h : im_H} (hI : tI h)  : CaP 2 26 [.ref 84] h (mI h F_X3_goOn (fun y => 0 ≤ y.toInt ∧ y.toInt ≤ 1)) := by
  refine cap_of (d := 1) (M := mX3_goOn) rfl (Nat.le_of_ble_eq_true rfl) ?_
  show EvP im_K0 1 mX3_goOn (0, [(0, .ref 84)], [], h) _
  have f0 : fr F_X3_goOn h h := fr_rf
  refine te_aload_n (p2 := 1) rfl rfl rfl ?_
  refine tg_i (p2 := 4) (i := 68) rfl rfl hI rfl rfl rfl (fun y1 a1 b1 e1 => ?_)
  refine te_iconst (p2 := 5) (x := 2) rfl rfl (by decide) ?_
  refine ar_sub (p2 := 6) rfl rfl rfl (show Int32.toInt 2 = 2 from rfl) (by omega) (by omega) (fun z2 e2 f2 => ?_)
  refine te_istore_n (p2 := 7) (lv2 := [(1, .int z2), (0, .ref 84)]) rfl rfl (by decide) rfl ?_
  have lp3 : ∀ (n3 : Nat) (v3_1 t3_z : Int32) , (-2) ≤ v3_1.toInt → v3_1.toInt ≤ 4 → rd h 68 0 = some (.int t3_z) → 0 ≤ t3_z.toInt → t3_z.toInt ≤ 6 → v3_1.toInt ≤ t3_z.toInt - 2 → v3_1.toInt + 3 < (n3 : Int) → EvP im_K0 1 mX3_goOn (7, [(0, .ref 84), (1, .int v3_1)], [], h) (mI h F_X3_goOn (fun y => 0 ≤ y.toInt ∧ y.toInt ≤ 1)) := by
    intro n3
    induction n3 with
    | zero => intro v3_1 t3_z a3_1 b3_1 v3_z va3_z vb3_z l3_0 m3; exfalso; omega
    | succ n3 ih3 =>
      intro v3_1 t3_z a3_1 b3_1 v3_z va3_z vb3_z l3_0 m3
      refine te_iload_n (p2 := 8) rfl rfl rfl ?_
      refine tz_lt (p2 := 11) rfl rfl rfl (fun c4 => ?_) (fun c4 => ?_)
      · refine te_iload_n (p2 := 35) rfl rfl rfl ?_
        refine tz_ge (p2 := 38) rfl rfl rfl (fun c5 => absurd c5 (by omega)) (fun c5 => ?_)
        refine te_iconst (p2 := 39) (x := 0) rfl rfl (by decide) ?_
        exact te_zret rfl rfl (by decide) ⟨hI, f0, _, rfl, by decide, by decide⟩
      · refine te_aload_n (p2 := 12) rfl rfl rfl ?_
        refine tg_r (p2 := 15) (i := 68) (r := 86) rfl rfl hI rfl rfl rfl ?_
        refine te_iload_n (p2 := 16) rfl rfl rfl ?_
        refine tl_i (p2 := 17) (i := 70) (n := 6) rfl rfl hI rfl rfl rfl rfl (by omega) (by omega) (fun y6 a6 b6 g6 e6 => ?_)
        refine te_aload_n (p2 := 18) rfl rfl rfl ?_
        refine tg_r (p2 := 21) (i := 68) (r := 86) rfl rfl hI rfl rfl rfl ?_
        refine te_iload_n (p2 := 22) rfl rfl rfl ?_
        refine te_iconst (p2 := 23) (x := 1) rfl rfl (by decide) ?_
        refine ar_add (p2 := 24) rfl rfl rfl (show Int32.toInt 1 = 1 from rfl) (by omega) (by omega) (fun z7 e7 f7 => ?_)
        refine tl_i (p2 := 25) (i := 70) (n := 6) rfl rfl hI rfl rfl rfl rfl (by omega) (by omega) (fun y8 a8 b8 g8 e8 => ?_)
        refine tb_le (p2 := 28) rfl rfl rfl rfl (fun c9 => ?_) (fun c9 => ?_)
        · refine te_iload_n (p2 := 35) rfl rfl rfl ?_
          refine tz_ge (p2 := 38) rfl rfl rfl (fun c10 => ?_) (fun c10 => absurd c10 (by omega))
          refine te_aload_n (p2 := 41) rfl rfl rfl ?_
          refine tg_e (p2 := 44) (i := 68) (v := .int t3_z) rfl rfl hI rfl rfl v3_z ?_
          refine te_iconst (p2 := 45) (x := 1) rfl rfl (by decide) ?_
          refine ar_sub (p2 := 46) rfl rfl rfl (show Int32.toInt 1 = 1 from rfl) (by omega) (by omega) (fun z11 e11 f11 => ?_)
          refine te_istore_n (p2 := 47) (lv2 := [(2, .int z11), (0, .ref 84), (1, .int v3_1)]) rfl rfl (by decide) rfl ?_
          have lp12 : ∀ (n12 : Nat) (v12_2 : Int32) , (-1) ≤ v12_2.toInt → v12_2.toInt ≤ 5 → v3_1.toInt ≤ v12_2.toInt → v12_2.toInt + 1 < (n12 : Int) → EvP im_K0 1 mX3_goOn (47, [(0, .ref 84), (1, .int v3_1), (2, .int v12_2)], [], h) (mI h F_X3_goOn (fun y => 0 ≤ y.toInt ∧ y.toInt ≤ 1)) := by
            intro n12
            induction n12 with
            | zero => intro v12_2 a12_2 b12_2 l12_0 m12; exfalso; omega
            | succ n12 ih12 =>
              intro v12_2 a12_2 b12_2 l12_0 m12
              refine te_iload_n (p2 := 48) rfl rfl rfl ?_
              refine te_iload_n (p2 := 49) rfl rfl rfl ?_
              refine tb_le (p2 := 52) rfl rfl rfl rfl (fun c13 => ?_) (fun c13 => ?_)
              · refine te_aload_n (p2 := 74) rfl rfl rfl ?_
                refine te_iload_n (p2 := 75) rfl rfl rfl ?_
                refine te_iload_n (p2 := 76) rfl rfl rfl ?_
                refine cV_mV (p2 := 79) (i := 68) rfl rfl rfl rfl hI rfl rfl rfl (t_X3_swap (i := v3_1) (j := v12_2) hI (by omega) (by omega) (by omega) (by omega)) (by decide) (fun h14 I14 g14 => ?_)
                have f14 := fr_tr (F1 := F_X3_swap) (F := F_X3_goOn) f0 g14 (by decide)
                refine te_iload_n (p2 := 80) rfl rfl rfl ?_
                refine te_iconst (p2 := 81) (x := 1) rfl rfl (by decide) ?_
                refine ar_add (p2 := 82) rfl rfl rfl (show Int32.toInt 1 = 1 from rfl) (by omega) (by omega) (fun z15 e15 f15 => ?_)
                refine te_istore_n (p2 := 83) (lv2 := [(3, .int z15), (0, .ref 84), (1, .int v3_1), (2, .int v12_2)]) rfl rfl (by decide) rfl ?_
                refine te_aload_n (p2 := 84) rfl rfl rfl ?_
                refine tg_e (p2 := 87) (i := 68) (v := .int t3_z) rfl rfl I14 rfl rfl ((g14 _ _ (by decide)).trans v3_z) ?_
                refine te_iconst (p2 := 88) (x := 1) rfl rfl (by decide) ?_
                refine ar_sub (p2 := 89) rfl rfl rfl (show Int32.toInt 1 = 1 from rfl) (by omega) (by omega) (fun z16 e16 f16 => ?_)
                refine te_istore (p2 := 91) (lv2 := [(4, .int z16), (3, .int z15), (0, .ref 84), (1, .int v3_1), (2, .int v12_2)]) rfl rfl (by decide) rfl ?_
                have lp17 : ∀ (n17 : Nat) (v17_3 v17_4 : Int32) (h17 : im_H), tI h17 → fr F_X3_goOn h h17 → 0 ≤ v17_3.toInt → v17_3.toInt ≤ 6 → (-1) ≤ v17_4.toInt → v17_4.toInt ≤ 5 → v17_4.toInt - v17_3.toInt + 7 < (n17 : Int) → EvP im_K0 1 mX3_goOn (91, [(0, .ref 84), (1, .int v3_1), (2, .int v12_2), (3, .int v17_3), (4, .int v17_4)], [], h17) (mI h F_X3_goOn (fun y => 0 ≤ y.toInt ∧ y.toInt ≤ 1)) := by
                  intro n17
                  induction n17 with
                  | zero => intro v17_3 v17_4 h17 I17 f17 a17_3 b17_3 a17_4 b17_4 m17; exfalso; omega
                  | succ n17 ih17 =>
                    intro v17_3 v17_4 h17 I17 f17 a17_3 b17_3 a17_4 b17_4 m17
                    refine te_iload_n (p2 := 92) rfl rfl rfl ?_
                    refine te_iload (p2 := 94) rfl rfl rfl ?_
                    refine tb_ge (p2 := 97) rfl rfl rfl rfl (fun c18 => ?_) (fun c18 => ?_)
                    · refine te_iconst (p2 := 114) (x := 1) rfl rfl (by decide) ?_
                      exact te_zret rfl rfl (by decide) ⟨I17, f17, _, rfl, by decide, by decide⟩
                    · refine te_aload_n (p2 := 98) rfl rfl rfl ?_
                      refine te_iload_n (p2 := 99) rfl rfl rfl ?_
                      refine te_iload (p2 := 101) rfl rfl rfl ?_
                      refine cV_mV (p2 := 104) (i := 68) rfl rfl rfl rfl I17 rfl rfl rfl (t_X3_swap (i := v17_3) (j := v17_4) I17 (by omega) (by omega) (by omega) (by omega)) (by decide) (fun h19 I19 g19 => ?_)
                      have f19 := fr_tr (F1 := F_X3_swap) (F := F_X3_goOn) f17 g19 (by decide)
                      refine ar_inc (p2 := 107) (x := v17_3) rfl rfl (by decide) rfl (by decide) rfl (by omega) (by omega) (fun z20 e20 f20 => ?_)
                      show EvP _ _ _ (107, [(3, .int z20), (0, .ref 84), (1, .int v3_1), (2, .int v12_2), (4, .int v17_4)], [], h19) _
                      refine ar_inc (p2 := 110) (x := v17_4) rfl rfl (by decide) rfl (by decide) rfl (by omega) (by omega) (fun z21 e21 f21 => ?_)
                      show EvP _ _ _ (110, [(4, .int z21), (3, .int z20), (0, .ref 84), (1, .int v3_1), (2, .int v12_2)], [], h19) _
                      refine te_goto rfl ?_
                      refine te_lv [(0, .ref 84), (1, .int v3_1), (2, .int v12_2), (3, .int z20), (4, .int z21)] rfl rfl ⟨rfl, rfl, rfl, rfl, rfl, trivial⟩ ?_
                      exact ih17 z20 z21 h19 I19 f19 (by omega) (by omega) (by omega) (by omega) (by omega)
                refine te_lv [(0, .ref 84), (1, .int v3_1), (2, .int v12_2), (3, .int z15), (4, .int z16)] rfl rfl ⟨rfl, rfl, rfl, rfl, rfl, trivial⟩ ?_
                exact lp17 13 z15 z16 h14 I14 f14 (by omega) (by omega) (by omega) (by omega) (by omega)
              · refine te_aload_n (p2 := 53) rfl rfl rfl ?_
                refine tg_r (p2 := 56) (i := 68) (r := 86) rfl rfl hI rfl rfl rfl ?_
                refine te_iload_n (p2 := 57) rfl rfl rfl ?_
                refine tl_i (p2 := 58) (i := 70) (n := 6) rfl rfl hI rfl rfl rfl rfl (by omega) (by omega) (fun y22 a22 b22 g22 e22 => ?_)
                refine te_aload_n (p2 := 59) rfl rfl rfl ?_
                refine tg_r (p2 := 62) (i := 68) (r := 86) rfl rfl hI rfl rfl rfl ?_
                refine te_iload_n (p2 := 63) rfl rfl rfl ?_
                refine tl_e (p2 := 64) (i := 70) (n := 6) (t := 0) (Or.inl rfl) rfl rfl hI rfl rfl (by omega) (by omega) e6 ?_
                refine tb_ge (p2 := 67) rfl rfl rfl rfl (fun c24 => ?_) (fun c24 => ?_)
                · refine te_aload_n (p2 := 74) rfl rfl rfl ?_
                  refine te_iload_n (p2 := 75) rfl rfl rfl ?_
                  refine te_iload_n (p2 := 76) rfl rfl rfl ?_
                  refine cV_mV (p2 := 79) (i := 68) rfl rfl rfl rfl hI rfl rfl rfl (t_X3_swap (i := v3_1) (j := v12_2) hI (by omega) (by omega) (by omega) (by omega)) (by decide) (fun h25 I25 g25 => ?_)
                  have f25 := fr_tr (F1 := F_X3_swap) (F := F_X3_goOn) f0 g25 (by decide)
                  refine te_iload_n (p2 := 80) rfl rfl rfl ?_
                  refine te_iconst (p2 := 81) (x := 1) rfl rfl (by decide) ?_
                  refine ar_add (p2 := 82) rfl rfl rfl (show Int32.toInt 1 = 1 from rfl) (by omega) (by omega) (fun z26 e26 f26 => ?_)
                  refine te_istore_n (p2 := 83) (lv2 := [(3, .int z26), (0, .ref 84), (1, .int v3_1), (2, .int v12_2)]) rfl rfl (by decide) rfl ?_
                  refine te_aload_n (p2 := 84) rfl rfl rfl ?_
                  refine tg_e (p2 := 87) (i := 68) (v := .int t3_z) rfl rfl I25 rfl rfl ((g25 _ _ (by decide)).trans v3_z) ?_
                  refine te_iconst (p2 := 88) (x := 1) rfl rfl (by decide) ?_
                  refine ar_sub (p2 := 89) rfl rfl rfl (show Int32.toInt 1 = 1 from rfl) (by omega) (by omega) (fun z27 e27 f27 => ?_)
                  refine te_istore (p2 := 91) (lv2 := [(4, .int z27), (3, .int z26), (0, .ref 84), (1, .int v3_1), (2, .int v12_2)]) rfl rfl (by decide) rfl ?_
                  have lp28 : ∀ (n28 : Nat) (v28_3 v28_4 : Int32) (h28 : im_H), tI h28 → fr F_X3_goOn h h28 → 0 ≤ v28_3.toInt → v28_3.toInt ≤ 6 → (-1) ≤ v28_4.toInt → v28_4.toInt ≤ 5 → v28_4.toInt - v28_3.toInt + 7 < (n28 : Int) → EvP im_K0 1 mX3_goOn (91, [(0, .ref 84), (1, .int v3_1), (2, .int v12_2), (3, .int v28_3), (4, .int v28_4)], [], h28) (mI h F_X3_goOn (fun y => 0 ≤ y.toInt ∧ y.toInt ≤ 1)) := by
                    intro n28
                    induction n28 with
                    | zero => intro v28_3 v28_4 h28 I28 f28 a28_3 b28_3 a28_4 b28_4 m28; exfalso; omega
                    | succ n28 ih28 =>
                      intro v28_3 v28_4 h28 I28 f28 a28_3 b28_3 a28_4 b28_4 m28
                      refine te_iload_n (p2 := 92) rfl rfl rfl ?_
                      refine te_iload (p2 := 94) rfl rfl rfl ?_
                      refine tb_ge (p2 := 97) rfl rfl rfl rfl (fun c29 => ?_) (fun c29 => ?_)
                      · refine te_iconst (p2 := 114) (x := 1) rfl rfl (by decide) ?_
                        exact te_zret rfl rfl (by decide) ⟨I28, f28, _, rfl, by decide, by decide⟩
                      · refine te_aload_n (p2 := 98) rfl rfl rfl ?_
                        refine te_iload_n (p2 := 99) rfl rfl rfl ?_
                        refine te_iload (p2 := 101) rfl rfl rfl ?_
                        refine cV_mV (p2 := 104) (i := 68) rfl rfl rfl rfl I28 rfl rfl rfl (t_X3_swap (i := v28_3) (j := v28_4) I28 (by omega) (by omega) (by omega) (by omega)) (by decide) (fun h30 I30 g30 => ?_)
                        have f30 := fr_tr (F1 := F_X3_swap) (F := F_X3_goOn) f28 g30 (by decide)
                        refine ar_inc (p2 := 107) (x := v28_3) rfl rfl (by decide) rfl (by decide) rfl (by omega) (by omega) (fun z31 e31 f31 => ?_)
                        show EvP _ _ _ (107, [(3, .int z31), (0, .ref 84), (1, .int v3_1), (2, .int v12_2), (4, .int v28_4)], [], h30) _
                        refine ar_inc (p2 := 110) (x := v28_4) rfl rfl (by decide) rfl (by decide) rfl (by omega) (by omega) (fun z32 e32 f32 => ?_)
                        show EvP _ _ _ (110, [(4, .int z32), (3, .int z31), (0, .ref 84), (1, .int v3_1), (2, .int v12_2)], [], h30) _
                        refine te_goto rfl ?_
                        refine te_lv [(0, .ref 84), (1, .int v3_1), (2, .int v12_2), (3, .int z31), (4, .int z32)] rfl rfl ⟨rfl, rfl, rfl, rfl, rfl, trivial⟩ ?_
                        exact ih28 z31 z32 h30 I30 f30 (by omega) (by omega) (by omega) (by omega) (by omega)
                  refine te_lv [(0, .ref 84), (1, .int v3_1), (2, .int v12_2), (3, .int z26), (4, .int z27)] rfl rfl ⟨rfl, rfl, rfl, rfl, rfl, trivial⟩ ?_
                  exact lp28 13 z26 z27 h25 I25 f25 (by omega) (by omega) (by omega) (by omega) (by omega)
                · refine ar_inc (p2 := 70) (x := v12_2) rfl rfl (by decide) rfl (by decide) rfl (by omega) (by omega) (fun z33 e33 f33 => ?_)
                  show EvP _ _ _ (70, [(2, .int z33), (0, .ref 84), (1, .int v3_1)], [], h) _
                  refine te_goto rfl ?_
                  refine te_lv [(0, .ref 84), (1, .int v3_1), (2, .int z33)] rfl rfl ⟨rfl, rfl, rfl, trivial⟩ ?_
                  exact ih12 z33 (by omega) (by omega) (by omega) (by omega)
          refine te_lv [(0, .ref 84), (1, .int v3_1), (2, .int z11)] rfl rfl ⟨rfl, rfl, rfl, trivial⟩ ?_
          exact lp12 7 z11 (by omega) (by omega) (by omega) (by omega)
        · refine ar_inc (p2 := 31) (x := v3_1) rfl rfl (by decide) rfl (by decide) rfl (by omega) (by omega) (fun z34 e34 f34 => ?_)
          show EvP _ _ _ (31, [(1, .int z34), (0, .ref 84)], [], h) _
          refine te_goto rfl ?_
          refine te_lv [(0, .ref 84), (1, .int z34)] rfl rfl ⟨rfl, rfl, trivial⟩ ?_
          exact ih3 z34 t3_z (by omega) (by omega) v3_z (by omega) (by omega) (by omega) (by omega)
  refine te_lv [(0, .ref 84), (1, .int z2)] rfl rfl ⟨rfl, rfl, trivial⟩ ?_
  exact lp3 8 z2 y1 (by omega) (by omega) e1 (by omega) (by omega) (by omega) (by omega)
abbrev F_X3_find : List (Nat × Nat × Nat) := [(68, 0, 0), (69, 0, 5), (70, 0, 5)]
set_option maxRecDepth 20000 in
set_option maxHeartbeats 4000000 in
theorem t_X3_find {s : Nat} {h : im_H} (hI : tI h) (q_s : s = 140 ∨ s = 142 ∨ s = 144 ∨ s = 146) (hp0 : ∃ p : Int32, rd h s 1 = some (.int p) ∧ 1 ≤ p.toInt ∧ p.toInt ≤ 6) : CaP 3 23 [.ref 84, .ref (16 + s)] h (mI h F_X3_find (fun _ => True)) := by
  refine cap_of (d := 2) (M := mX3_find) rfl (Nat.le_of_ble_eq_true rfl) ?_
  show EvP im_K0 2 mX3_find (0, [(0, .ref 84), (1, .ref (16 + s))], [], h) _
  obtain ⟨pp0, ep0, ap0, bp0⟩ := hp0
  have f0 : fr F_X3_find h h := fr_rf
  refine te_bipush (p2 := 2) (x := 7) rfl rfl (by decide) ?_
  refine te_istore_n (p2 := 3) (lv2 := [(2, .int 7), (0, .ref 84), (1, .ref (16 + s))]) rfl rfl (by decide) rfl ?_
  refine te_aload_n (p2 := 4) rfl rfl rfl ?_
  refine te_aload_n (p2 := 5) rfl rfl rfl ?_
  refine tg_e (p2 := 8) (i := s) (v := .int pp0) rfl rfl hI rfl (by rcases q_s with rfl | rfl | rfl | rfl <;> rfl) ep0 ?_
  refine tp_i (p2 := 11) (i := 68) rfl rfl hI rfl rfl (by decide) rfl rfl rfl (by omega) (by omega) (by omega) rfl (fun h1 I1 u1 => ?_)
  have f1 := fr_st (F := F_X3_find) 0 f0 u1 rfl (by decide) (by decide)
  refine te_iconst (p2 := 12) (x := 0) rfl rfl (by decide) ?_
  refine te_istore_n (p2 := 13) (lv2 := [(3, .int 0), (2, .int 7), (0, .ref 84), (1, .ref (16 + s))]) rfl rfl (by decide) rfl ?_
  have lp2 : ∀ (n2 : Nat) (v2_3 : Int32) (h2 : im_H), tI h2 → fr F_X3_find h h2 → 0 ≤ v2_3.toInt → v2_3.toInt ≤ 6 → 6 - v2_3.toInt < (n2 : Int) → EvP im_K0 2 mX3_find (13, [(0, .ref 84), (1, .ref (16 + s)), (2, .int 7), (3, .int v2_3)], [], h2) (mI h F_X3_find (fun _ => True)) := by
    intro n2
    induction n2 with
    | zero => intro v2_3 h2 I2 f2 a2_3 b2_3 m2; exfalso; omega
    | succ n2 ih2 =>
      intro v2_3 h2 I2 f2 a2_3 b2_3 m2
      refine te_iload_n (p2 := 14) rfl rfl rfl ?_
      refine te_aload_n (p2 := 15) rfl rfl rfl ?_
      refine tg_i (p2 := 18) (i := 68) rfl rfl I2 rfl rfl rfl (fun y3 a3 b3 e3 => ?_)
      refine tb_ge (p2 := 21) rfl rfl rfl rfl (fun c4 => ?_) (fun c4 => ?_)
      · refine te_iconst (p2 := 35) (x := 0) rfl rfl (by decide) ?_
        refine te_istore_n (p2 := 36) (lv2 := [(3, .int 0), (0, .ref 84), (1, .ref (16 + s)), (2, .int 7)]) rfl rfl (by decide) rfl ?_
        have lp5 : ∀ (n5 : Nat) (v5_2 v5_3 : Int32) (h5 : im_H), tI h5 → fr F_X3_find h h5 → 0 ≤ v5_3.toInt → v5_3.toInt ≤ 720 → 720 - v5_3.toInt < (n5 : Int) → EvP im_K0 2 mX3_find (36, [(0, .ref 84), (1, .ref (16 + s)), (2, .int v5_2), (3, .int v5_3)], [], h5) (mI h F_X3_find (fun _ => True)) := by
          intro n5
          induction n5 with
          | zero => intro v5_2 v5_3 h5 I5 f5 a5_3 b5_3 m5; exfalso; omega
          | succ n5 ih5 =>
            intro v5_2 v5_3 h5 I5 f5 a5_3 b5_3 m5
            refine te_iload_n (p2 := 37) rfl rfl rfl ?_
            refine te_sipush (p2 := 40) (x := 720) rfl rfl (by decide) ?_
            refine tb_ge (p2 := 43) rfl rfl rfl (show Int32.toInt 720 = 720 from rfl) (fun c6 => ?_) (fun c6 => ?_)
            · refine te_iload_n (p2 := 80) rfl rfl rfl ?_
              exact te_iret rfl rfl ⟨I5, f5, _, rfl, trivial⟩
            · refine te_aload_n (p2 := 44) rfl rfl rfl ?_
              refine cV_pI (p2 := 47) (i := 68) rfl rfl rfl rfl I5 rfl rfl rfl (t_X3_countLate  I5 ) (by decide) (fun y7 r7 => ?_)
              refine te_istore (p2 := 49) (lv2 := [(4, .int y7), (0, .ref 84), (1, .ref (16 + s)), (2, .int v5_2), (3, .int v5_3)]) rfl rfl (by decide) rfl ?_
              refine te_iload (p2 := 51) rfl rfl rfl ?_
              refine te_iload_n (p2 := 52) rfl rfl rfl ?_
              refine tb_ge (p2 := 55) rfl rfl rfl rfl (fun c8 => ?_) (fun c8 => ?_)
              · refine te_aload_n (p2 := 64) rfl rfl rfl ?_
                refine cV_mI (p2 := 67) (i := 68) rfl rfl rfl rfl I5 rfl rfl rfl (t_X3_goOn  I5 ) (by decide) (fun y9 h9 I9 g9 r9 => ?_)
                have f9 := fr_tr (F1 := F_X3_goOn) (F := F_X3_find) f5 g9 (by decide)
                obtain ⟨a9, b9⟩ := r9
                refine tz_ne (p2 := 70) rfl rfl rfl (fun c10 => ?_) (fun c10 => ?_)
                · refine ar_inc (p2 := 76) (x := v5_3) rfl rfl (by decide) rfl (by decide) rfl (by omega) (by omega) (fun z11 e11 f11 => ?_)
                  show EvP _ _ _ (76, [(3, .int z11), (4, .int y7), (0, .ref 84), (1, .ref (16 + s)), (2, .int v5_2)], [], h9) _
                  refine te_goto rfl ?_
                  refine te_lv [(0, .ref 84), (1, .ref (16 + s)), (2, .int v5_2), (3, .int z11)] rfl rfl ⟨rfl, rfl, rfl, rfl, trivial⟩ ?_
                  exact ih5 v5_2 z11 h9 I9 f9 (by omega) (by omega) (by omega)
                · refine te_goto rfl ?_
                  refine te_iload_n (p2 := 80) rfl rfl rfl ?_
                  exact te_iret rfl rfl ⟨I9, f9, _, rfl, trivial⟩
              · refine te_iload (p2 := 57) rfl rfl rfl ?_
                refine te_istore_n (p2 := 58) (lv2 := [(2, .int y7), (4, .int y7), (0, .ref 84), (1, .ref (16 + s)), (3, .int v5_3)]) rfl rfl (by decide) rfl ?_
                refine te_aload_n (p2 := 59) rfl rfl rfl ?_
                refine te_aload_n (p2 := 60) rfl rfl rfl ?_
                refine cV_mV (p2 := 63) (i := 68) rfl rfl rfl rfl I5 rfl rfl rfl (t_X3_keep (s := s) I5 q_s) (by decide) (fun h12 I12 g12 => ?_)
                have f12 := fr_tr (F1 := F_X3_keep) (F := F_X3_find) f5 g12 (by decide)
                refine te_aload_n (p2 := 64) rfl rfl rfl ?_
                refine cV_mI (p2 := 67) (i := 68) rfl rfl rfl rfl I12 rfl rfl rfl (t_X3_goOn  I12 ) (by decide) (fun y13 h13 I13 g13 r13 => ?_)
                have f13 := fr_tr (F1 := F_X3_goOn) (F := F_X3_find) f12 g13 (by decide)
                obtain ⟨a13, b13⟩ := r13
                refine tz_ne (p2 := 70) rfl rfl rfl (fun c14 => ?_) (fun c14 => ?_)
                · refine ar_inc (p2 := 76) (x := v5_3) rfl rfl (by decide) rfl (by decide) rfl (by omega) (by omega) (fun z15 e15 f15 => ?_)
                  show EvP _ _ _ (76, [(3, .int z15), (2, .int y7), (4, .int y7), (0, .ref 84), (1, .ref (16 + s))], [], h13) _
                  refine te_goto rfl ?_
                  refine te_lv [(0, .ref 84), (1, .ref (16 + s)), (2, .int y7), (3, .int z15)] rfl rfl ⟨rfl, rfl, rfl, rfl, trivial⟩ ?_
                  exact ih5 y7 z15 h13 I13 f13 (by omega) (by omega) (by omega)
                · refine te_goto rfl ?_
                  refine te_iload_n (p2 := 80) rfl rfl rfl ?_
                  exact te_iret rfl rfl ⟨I13, f13, _, rfl, trivial⟩
        refine te_lv [(0, .ref 84), (1, .ref (16 + s)), (2, .int 7), (3, .int 0)] rfl rfl ⟨rfl, rfl, rfl, rfl, trivial⟩ ?_
        exact lp5 721 7 0 h2 I2 f2 (by decide) (by decide) (by have cc0 := (show Int32.toInt 7 = 7 from rfl); have cc1 := (show Int32.toInt 0 = 0 from rfl); omega)
      · refine te_aload_n (p2 := 22) rfl rfl rfl ?_
        refine tg_r (p2 := 25) (i := 68) (r := 86) rfl rfl I2 rfl rfl rfl ?_
        refine te_iload_n (p2 := 26) rfl rfl rfl ?_
        refine te_iload_n (p2 := 27) rfl rfl rfl ?_
        refine ts_i (p2 := 28) (i := 70) (n := 6) rfl rfl I2 rfl rfl rfl rfl (by omega) (by omega) (by omega) (by omega) (by omega) rfl (fun h16 I16 u16 => ?_)
        have f16 := fr_st (F := F_X3_find) 2 f2 u16 rfl (by omega) (by omega)
        refine ar_inc (p2 := 31) (x := v2_3) rfl rfl (by decide) rfl (by decide) rfl (by omega) (by omega) (fun z17 e17 f17 => ?_)
        show EvP _ _ _ (31, [(3, .int z17), (0, .ref 84), (1, .ref (16 + s)), (2, .int 7)], [], h16) _
        refine te_goto rfl ?_
        refine te_lv [(0, .ref 84), (1, .ref (16 + s)), (2, .int 7), (3, .int z17)] rfl rfl ⟨rfl, rfl, rfl, rfl, trivial⟩ ?_
        exact ih2 z17 h16 I16 f16 (by omega) (by omega) (by have cc0 := (show Int32.toInt 7 = 7 from rfl); omega)
  refine te_lv [(0, .ref 84), (1, .ref (16 + s)), (2, .int 7), (3, .int 0)] rfl rfl ⟨rfl, rfl, rfl, rfl, trivial⟩ ?_
  exact lp2 7 0 h1 I1 f1 (by decide) (by decide) (by have cc0 := (show Int32.toInt 7 = 7 from rfl); have cc1 := (show Int32.toInt 0 = 0 from rfl); omega)
abbrev F_X11_pulls : List (Nat × Nat × Nat) := [(68, 0, 0), (69, 0, 5), (70, 0, 5), (71, 0, 5)]
set_option maxRecDepth 20000 in
set_option maxHeartbeats 4000000 in
theorem t_X11_pulls {x1 : Int32} {h : im_H} (hI : tI h)  : CaP 4 85 [.ref 16, .int x1] h (mI h F_X11_pulls (fun _ => True)) := by
  refine cap_of (d := 3) (M := mX11_pulls) rfl (Nat.le_of_ble_eq_true rfl) ?_
  show EvP im_K0 3 mX11_pulls (0, [(0, .ref 16), (1, .int x1)], [], h) _
  have f0 : fr F_X11_pulls h h := fr_rf
  refine te_iload_n (p2 := 1) rfl rfl rfl ?_
  refine te_iconst (p2 := 2) (x := 4) rfl rfl (by decide) ?_
  refine cS_pI (p2 := 5) rfl rfl rfl rfl (t_X11_within (n := x1) (b := 4) hI ) (by decide) (fun y1 r1 => ?_)
  rcases r1 with ⟨w1, c1⟩ | ⟨w1, c1⟩
  · subst w1
    have cc1_1 := (show Int32.toInt 4 = 4 from rfl)
    refine tz_ne (p2 := 8) rfl rfl (show Int32.toInt 1 = 1 from rfl) (fun c2 => ?_) (fun c2 => absurd c2 (by omega))
    refine te_aload_n (p2 := 11) rfl rfl rfl ?_
    refine tg_r (p2 := 14) (i := 0) (r := 113) rfl rfl hI rfl rfl rfl ?_
    refine te_iload_n (p2 := 15) rfl rfl rfl ?_
    refine tl_f (p2 := 16) (i := 97) (n := 4) (c0 := 140) (sp := 2) rfl rfl hI rfl rfl (by decide) rq_97 (by omega) (by omega) (fun o3 w3 => ?_)
    have q3 : o3 = 140 ∨ o3 = 142 ∨ o3 = 144 ∨ o3 = 146 := by omega
    refine te_astore_n (p2 := 17) (lv2 := [(2, .ref (16 + o3)), (0, .ref 16), (1, .int x1)]) rfl rfl (by decide) rfl ?_
    refine te_aload_n (p2 := 18) rfl rfl rfl ?_
    refine cV_pI (p2 := 21) (i := o3) rfl rfl rfl rfl hI rfl (by rcases q3 with rfl | rfl | rfl | rfl <;> rfl) rfl (t_X8_isMissing (s := o3) hI q3) (by decide) (fun y4 r4 => ?_)
    obtain ⟨a4, b4⟩ := r4
    refine tz_eq (p2 := 24) rfl rfl rfl (fun c5 => ?_) (fun c5 => ?_)
    · refine te_aload_n (p2 := 28) rfl rfl rfl ?_
      refine tg_i (p2 := 31) (i := o3) rfl rfl hI rfl (by rcases q3 with rfl | rfl | rfl | rfl <;> rfl) (by rcases q3 with rfl | rfl | rfl | rfl <;> rfl) (fun y6 a6 b6 e6 => ?_)
      refine te_iconst (p2 := 32) (x := 1) rfl rfl (by decide) ?_
      refine te_bipush (p2 := 34) (x := 6) rfl rfl (by decide) ?_
      refine cS_pI (p2 := 37) rfl rfl rfl rfl (t_X11_between (n := y6) (a := 1) (b := 6) hI ) (by decide) (fun y7 r7 => ?_)
      rcases r7 with ⟨w7, c7⟩ | ⟨w7, c7⟩
      · subst w7
        have cc7_1 := (show Int32.toInt 1 = 1 from rfl)
        have cc7_2 := (show Int32.toInt 6 = 6 from rfl)
        refine tz_eq (p2 := 40) rfl rfl (show Int32.toInt 1 = 1 from rfl) (fun c8 => absurd c8 (by omega)) (fun c8 => ?_)
        refine te_aload_n (p2 := 41) rfl rfl rfl ?_
        refine te_aload_n (p2 := 42) rfl rfl rfl ?_
        refine cV_pI (p2 := 45) (i := 0) rfl rfl rfl rfl hI rfl rfl rfl (t_X11_areWallsToPull (s := o3)  hI  q3) (by decide) (fun y9 r9 => ?_)
        rcases r9 with r9 | ⟨r9, p9, e9, a9, b9, w9⟩
        · refine tz_ne (p2 := 48) rfl rfl rfl (fun c10 => absurd c10 (by omega)) (fun c10 => ?_)
          refine te_bipush (p2 := 50) (x := (-2)) rfl rfl (by decide) ?_
          exact te_iret rfl rfl ⟨hI, f0, _, rfl, trivial⟩
        · have x9 : p9 = y6 := int_inj e9 e6
          rw [x9] at w9
          refine tz_ne (p2 := 48) rfl rfl rfl (fun c11 => ?_) (fun c11 => absurd c11 (by omega))
          refine te_iconst (p2 := 52) (x := 0) rfl rfl (by decide) ?_
          refine te_istore_n (p2 := 53) (lv2 := [(3, .int 0), (2, .ref (16 + o3)), (0, .ref 16), (1, .int x1)]) rfl rfl (by decide) rfl ?_
          have lp12 : ∀ (n12 : Nat) (v12_3 : Int32) (h12 : im_H), tI h12 → fr F_X11_pulls h h12 → 0 ≤ v12_3.toInt → v12_3.toInt ≤ 6 → 6 - v12_3.toInt < (n12 : Int) → EvP im_K0 3 mX11_pulls (53, [(0, .ref 16), (1, .int x1), (2, .ref (16 + o3)), (3, .int v12_3)], [], h12) (mI h F_X11_pulls (fun _ => True)) := by
            intro n12
            induction n12 with
            | zero => intro v12_3 h12 I12 f12 a12_3 b12_3 m12; exfalso; omega
            | succ n12 ih12 =>
              intro v12_3 h12 I12 f12 a12_3 b12_3 m12
              refine te_iload_n (p2 := 54) rfl rfl rfl ?_
              refine te_aload_n (p2 := 55) rfl rfl rfl ?_
              refine tg_e (p2 := 58) (i := o3) (v := .int y6) rfl rfl I12 rfl (by rcases q3 with rfl | rfl | rfl | rfl <;> rfl) ((f12 _ _ (by rcases q3 with rfl | rfl | rfl | rfl <;> rfl)).trans e6) ?_
              refine tb_ge (p2 := 61) rfl rfl rfl rfl (fun c13 => ?_) (fun c13 => ?_)
              · refine te_aload_n (p2 := 94) rfl rfl rfl ?_
                refine tg_r (p2 := 97) (i := 0) (r := 84) rfl rfl I12 rfl rfl rfl ?_
                refine te_aload_n (p2 := 98) rfl rfl rfl ?_
                refine cV_mI (p2 := 101) (i := 68) rfl rfl rfl rfl I12 rfl rfl rfl (t_X3_find (s := o3) I12 q3 ⟨y6, ((f12 _ _ (by rcases q3 with rfl | rfl | rfl | rfl <;> rfl)).trans e6), by omega, by omega⟩) (by decide) (fun y14 h14 I14 g14 r14 => ?_)
                have f14 := fr_tr (F1 := F_X3_find) (F := F_X11_pulls) f12 g14 (by decide)
                exact te_iret rfl rfl ⟨I14, f14, _, rfl, trivial⟩
              · refine te_aload_n (p2 := 62) rfl rfl rfl ?_
                refine tg_r (p2 := 65) (i := 0) (r := 84) rfl rfl I12 rfl rfl rfl ?_
                refine tg_r (p2 := 68) (i := 68) (r := 87) rfl rfl I12 rfl rfl rfl ?_
                refine te_iload_n (p2 := 69) rfl rfl rfl ?_
                refine te_aload_n (p2 := 70) rfl rfl rfl ?_
                refine tg_r (p2 := 73) (i := 0) (r := 17) rfl rfl I12 rfl rfl rfl ?_
                refine te_aload_n (p2 := 74) rfl rfl rfl ?_
                refine tg_r (p2 := 77) (i := 0) (r := 39) rfl rfl I12 rfl rfl rfl ?_
                refine te_aload_n (p2 := 78) rfl rfl rfl ?_
                refine tg_r (p2 := 81) (i := o3) (r := (16 + (o3 + 1))) rfl rfl I12 rfl (by rcases q3 with rfl | rfl | rfl | rfl <;> rfl) (by rcases q3 with rfl | rfl | rfl | rfl <;> rfl) ?_
                refine te_iload_n (p2 := 82) rfl rfl rfl ?_
                refine tl_i (p2 := 83) (i := (o3 + 1)) (n := 40) rfl rfl I12 rfl (by rcases q3 with rfl | rfl | rfl | rfl <;> rfl) (by rcases q3 with rfl | rfl | rfl | rfl <;> rfl) rfl (by omega) (by omega) (fun y15 a15 b15 g15 e15 => ?_)
                obtain ⟨a16, b16⟩ := allB_at (allB_fr w9 (fun q => f12 _ _ (by rcases q3 with rfl | rfl | rfl | rfl <;> rfl))) v12_3.toInt.toNat (by omega) (by rw [Nat.zero_add]) e15
                refine cV_pI (p2 := 86) (i := 1) rfl rfl rfl rfl I12 rfl rfl rfl (t_X0_daysUntilFall (s := 23) (k := y15) I12 (by decide) (by omega) (by omega)) (by decide) (fun y17 r17 => ?_)
                obtain ⟨a17, b17⟩ := r17
                refine ts_i (p2 := 87) (i := 71) (n := 6) rfl rfl I12 rfl rfl rfl rfl (by omega) (by omega) (i32_lo _) (i32_hi _) (i32_ho _) rfl (fun h18 I18 u18 => ?_)
                have f18 := fr_st (F := F_X11_pulls) 3 f12 u18 rfl (by omega) (by omega)
                refine ar_inc (p2 := 90) (x := v12_3) rfl rfl (by decide) rfl (by decide) rfl (by omega) (by omega) (fun z19 e19 f19 => ?_)
                show EvP _ _ _ (90, [(3, .int z19), (0, .ref 16), (1, .int x1), (2, .ref (16 + o3))], [], h18) _
                refine te_goto rfl ?_
                refine te_lv [(0, .ref 16), (1, .int x1), (2, .ref (16 + o3)), (3, .int z19)] rfl rfl ⟨rfl, rfl, rfl, rfl, trivial⟩ ?_
                exact ih12 z19 h18 I18 f18 (by omega) (by omega) (by omega)
          refine te_lv [(0, .ref 16), (1, .int x1), (2, .ref (16 + o3)), (3, .int 0)] rfl rfl ⟨rfl, rfl, rfl, rfl, trivial⟩ ?_
          exact lp12 7 0 h hI f0 (by decide) (by decide) (by have cc0 := (show Int32.toInt 0 = 0 from rfl); omega)
      · subst w7
        have cc7_1 := (show Int32.toInt 1 = 1 from rfl)
        have cc7_2 := (show Int32.toInt 6 = 6 from rfl)
        refine tz_eq (p2 := 40) rfl rfl (show Int32.toInt 0 = 0 from rfl) (fun c20 => ?_) (fun c20 => absurd c20 (by omega))
        refine te_bipush (p2 := 50) (x := (-2)) rfl rfl (by decide) ?_
        exact te_iret rfl rfl ⟨hI, f0, _, rfl, trivial⟩
    · refine te_bipush (p2 := 26) (x := (-11)) rfl rfl (by decide) ?_
      exact te_iret rfl rfl ⟨hI, f0, _, rfl, trivial⟩
  · subst w1
    have cc1_1 := (show Int32.toInt 4 = 4 from rfl)
    refine tz_ne (p2 := 8) rfl rfl (show Int32.toInt 0 = 0 from rfl) (fun c21 => absurd c21 (by omega)) (fun c21 => ?_)
    refine te_iconst (p2 := 9) (x := (-1)) rfl rfl (by decide) ?_
    exact te_iret rfl rfl ⟨hI, f0, _, rfl, trivial⟩
set_option maxRecDepth 20000 in
set_option maxHeartbeats 4000000 in
theorem t_X12_isInOther {k : Int32} {row : Int32} {h : im_H} (hI : tI h)  : CaP 1 129 [.ref 164, .int k, .int row] h (pI h (fun y => 0 ≤ y.toInt ∧ y.toInt ≤ 1)) := by
  refine cap_of (d := 0) (M := mX12_isInOther) rfl (Nat.le_of_ble_eq_true rfl) ?_
  show EvP im_K0 0 mX12_isInOther (0, [(0, .ref 164), (1, .int k), (2, .int row)], [], h) _
  refine te_iconst (p2 := 1) (x := 0) rfl rfl (by decide) ?_
  refine te_istore_n (p2 := 2) (lv2 := [(3, .int 0), (0, .ref 164), (1, .int k), (2, .int row)]) rfl rfl (by decide) rfl ?_
  have lp1 : ∀ (n1 : Nat) (v1_3 : Int32) , 0 ≤ v1_3.toInt → v1_3.toInt ≤ 4 → 4 - v1_3.toInt < (n1 : Int) → EvP im_K0 0 mX12_isInOther (2, [(0, .ref 164), (1, .int k), (2, .int row), (3, .int v1_3)], [], h) (pI h (fun y => 0 ≤ y.toInt ∧ y.toInt ≤ 1)) := by
    intro n1
    induction n1 with
    | zero => intro v1_3 a1_3 b1_3 m1; exfalso; omega
    | succ n1 ih1 =>
      intro v1_3 a1_3 b1_3 m1
      refine te_iload_n (p2 := 3) rfl rfl rfl ?_
      refine te_iconst (p2 := 4) (x := 4) rfl rfl (by decide) ?_
      refine tb_ge (p2 := 7) rfl rfl rfl (show Int32.toInt 4 = 4 from rfl) (fun c2 => ?_) (fun c2 => ?_)
      · refine te_iconst (p2 := 57) (x := 0) rfl rfl (by decide) ?_
        exact te_zret rfl rfl (by decide) ⟨rfl, _, rfl, by decide, by decide⟩
      · refine te_iconst (p2 := 8) (x := 0) rfl rfl (by decide) ?_
        refine te_istore (p2 := 10) (lv2 := [(4, .int 0), (0, .ref 164), (1, .int k), (2, .int row), (3, .int v1_3)]) rfl rfl (by decide) rfl ?_
        have lp3 : ∀ (n3 : Nat) (v3_4 : Int32) , 0 ≤ v3_4.toInt → v3_4.toInt ≤ 8 → 8 - v3_4.toInt < (n3 : Int) → EvP im_K0 0 mX12_isInOther (10, [(0, .ref 164), (1, .int k), (2, .int row), (3, .int v1_3), (4, .int v3_4)], [], h) (pI h (fun y => 0 ≤ y.toInt ∧ y.toInt ≤ 1)) := by
          intro n3
          induction n3 with
          | zero => intro v3_4 a3_4 b3_4 m3; exfalso; omega
          | succ n3 ih3 =>
            intro v3_4 a3_4 b3_4 m3
            refine te_iload (p2 := 12) rfl rfl rfl ?_
            refine te_aload_n (p2 := 13) rfl rfl rfl ?_
            refine tg_r (p2 := 16) (i := 148) (r := 177) rfl rfl hI rfl rfl rfl ?_
            refine te_iload_n (p2 := 17) rfl rfl rfl ?_
            refine tl_i (p2 := 18) (i := 161) (n := 4) rfl rfl hI rfl rfl rfl rfl (by omega) (by omega) (fun y4 a4 b4 g4 e4 => ?_)
            refine tb_ge (p2 := 21) rfl rfl rfl rfl (fun c5 => ?_) (fun c5 => ?_)
            · refine ar_inc (p2 := 53) (x := v1_3) rfl rfl (by decide) rfl (by decide) rfl (by omega) (by omega) (fun z6 e6 f6 => ?_)
              show EvP _ _ _ (53, [(3, .int z6), (0, .ref 164), (1, .int k), (2, .int row), (4, .int v3_4)], [], h) _
              refine te_goto rfl ?_
              refine te_lv [(0, .ref 164), (1, .int k), (2, .int row), (3, .int z6)] rfl rfl ⟨rfl, rfl, rfl, rfl, trivial⟩ ?_
              exact ih1 z6 (by omega) (by omega) (by omega)
            · refine te_iload_n (p2 := 22) rfl rfl rfl ?_
              refine te_iload_n (p2 := 23) rfl rfl rfl ?_
              refine tb_eq (p2 := 26) rfl rfl rfl rfl (fun c7 => ?_) (fun c7 => ?_)
              · refine ar_inc (p2 := 53) (x := v1_3) rfl rfl (by decide) rfl (by decide) rfl (by omega) (by omega) (fun z8 e8 f8 => ?_)
                show EvP _ _ _ (53, [(3, .int z8), (0, .ref 164), (1, .int k), (2, .int row), (4, .int v3_4)], [], h) _
                refine te_goto rfl ?_
                refine te_lv [(0, .ref 164), (1, .int k), (2, .int row), (3, .int z8)] rfl rfl ⟨rfl, rfl, rfl, rfl, trivial⟩ ?_
                exact ih1 z8 (by omega) (by omega) (by omega)
              · refine te_aload_n (p2 := 27) rfl rfl rfl ?_
                refine tg_r (p2 := 30) (i := 148) (r := 176) rfl rfl hI rfl rfl rfl ?_
                refine te_bipush (p2 := 32) (x := 8) rfl rfl (by decide) ?_
                refine te_iload_n (p2 := 33) rfl rfl rfl ?_
                refine ar_mul (p2 := 34) rfl rfl (show Int32.toInt 8 = 8 from rfl) rfl (by omega) (by omega) (fun z9 e9 f9 => ?_)
                refine te_iload (p2 := 36) rfl rfl rfl ?_
                refine ar_add (p2 := 37) rfl rfl rfl rfl (by omega) (by omega) (fun z10 e10 f10 => ?_)
                refine tl_i (p2 := 38) (i := 160) (n := 32) rfl rfl hI rfl rfl rfl rfl (by omega) (by omega) (fun y11 a11 b11 g11 e11 => ?_)
                refine te_iload_n (p2 := 39) rfl rfl rfl ?_
                refine tb_ne (p2 := 42) rfl rfl rfl rfl (fun c12 => ?_) (fun c12 => ?_)
                · refine ar_inc (p2 := 47) (x := v3_4) rfl rfl (by decide) rfl (by decide) rfl (by omega) (by omega) (fun z13 e13 f13 => ?_)
                  show EvP _ _ _ (47, [(4, .int z13), (0, .ref 164), (1, .int k), (2, .int row), (3, .int v1_3)], [], h) _
                  refine te_goto rfl ?_
                  refine te_lv [(0, .ref 164), (1, .int k), (2, .int row), (3, .int v1_3), (4, .int z13)] rfl rfl ⟨rfl, rfl, rfl, rfl, rfl, trivial⟩ ?_
                  exact ih3 z13 (by omega) (by omega) (by omega)
                · refine te_iconst (p2 := 43) (x := 1) rfl rfl (by decide) ?_
                  exact te_zret rfl rfl (by decide) ⟨rfl, _, rfl, by decide, by decide⟩
        refine te_lv [(0, .ref 164), (1, .int k), (2, .int row), (3, .int v1_3), (4, .int 0)] rfl rfl ⟨rfl, rfl, rfl, rfl, rfl, trivial⟩ ?_
        exact lp3 9 0 (by decide) (by decide) (by have cc0 := (show Int32.toInt 0 = 0 from rfl); omega)
  refine te_lv [(0, .ref 164), (1, .int k), (2, .int row), (3, .int 0)] rfl rfl ⟨rfl, rfl, rfl, rfl, trivial⟩ ?_
  exact lp1 5 0 (by decide) (by decide) (by have cc0 := (show Int32.toInt 0 = 0 from rfl); omega)
set_option maxRecDepth 20000 in
set_option maxHeartbeats 4000000 in
theorem t_X12_barred {row : Int32} {s : Int32} {h : im_H} (hI : tI h) (p_row0 : 0 ≤ row.toInt) (p_row1 : row.toInt ≤ 3) (p_s0 : 0 ≤ s.toInt) (p_s1 : s.toInt ≤ 3) : CaP 3 130 [.ref 164, .int row, .int s] h (pI h (fun y => (y.toInt < 0) ∨ (y.toInt = 0 ∧ ∃ p : Int32, rd h 193 s.toInt.toNat = some (.int p) ∧ 0 ≤ p.toInt ∧ p.toInt ≤ 40 ∧ allB h 194 (40 * s.toInt.toNat) p.toInt 23))) := by
  refine cap_of (d := 2) (M := mX12_barred) rfl (Nat.le_of_ble_eq_true rfl) ?_
  show EvP im_K0 2 mX12_barred (0, [(0, .ref 164), (1, .int row), (2, .int s)], [], h) _
  refine te_iconst (p2 := 1) (x := 0) rfl rfl (by decide) ?_
  refine te_istore_n (p2 := 2) (lv2 := [(3, .int 0), (0, .ref 164), (1, .int row), (2, .int s)]) rfl rfl (by decide) rfl ?_
  have lp1 : ∀ (n1 : Nat) (v1_3 : Int32) , 0 ≤ v1_3.toInt → v1_3.toInt ≤ 40 → allB h 194 (40 * s.toInt.toNat) v1_3.toInt 23 → 40 - v1_3.toInt < (n1 : Int) → EvP im_K0 2 mX12_barred (2, [(0, .ref 164), (1, .int row), (2, .int s), (3, .int v1_3)], [], h) (pI h (fun y => (y.toInt < 0) ∨ (y.toInt = 0 ∧ ∃ p : Int32, rd h 193 s.toInt.toNat = some (.int p) ∧ 0 ≤ p.toInt ∧ p.toInt ≤ 40 ∧ allB h 194 (40 * s.toInt.toNat) p.toInt 23))) := by
    intro n1
    induction n1 with
    | zero => intro v1_3 a1_3 b1_3 w1_0 m1; exfalso; omega
    | succ n1 ih1 =>
      intro v1_3 a1_3 b1_3 w1_0 m1
      refine te_iload_n (p2 := 3) rfl rfl rfl ?_
      refine te_aload_n (p2 := 4) rfl rfl rfl ?_
      refine tg_r (p2 := 7) (i := 148) (r := 209) rfl rfl hI rfl rfl rfl ?_
      refine te_iload_n (p2 := 8) rfl rfl rfl ?_
      refine tl_i (p2 := 9) (i := 193) (n := 4) rfl rfl hI rfl rfl rfl rfl (by omega) (by omega) (fun y2 a2 b2 g2 e2 => ?_)
      refine tb_ge (p2 := 12) rfl rfl rfl rfl (fun c3 => ?_) (fun c3 => ?_)
      · refine te_iconst (p2 := 107) (x := 0) rfl rfl (by decide) ?_
        exact te_iret rfl rfl ⟨rfl, _, rfl, Or.inr ⟨by decide, y2, e2, by omega, by omega, allB_le w1_0 (by omega)⟩⟩
      · refine te_aload_n (p2 := 13) rfl rfl rfl ?_
        refine tg_r (p2 := 16) (i := 148) (r := 210) rfl rfl hI rfl rfl rfl ?_
        refine te_bipush (p2 := 18) (x := 40) rfl rfl (by decide) ?_
        refine te_iload_n (p2 := 19) rfl rfl rfl ?_
        refine ar_mul (p2 := 20) rfl rfl (show Int32.toInt 40 = 40 from rfl) rfl (by omega) (by omega) (fun z4 e4 f4 => ?_)
        refine te_iload_n (p2 := 21) rfl rfl rfl ?_
        refine ar_add (p2 := 22) rfl rfl rfl rfl (by omega) (by omega) (fun z5 e5 f5 => ?_)
        refine tl_i (p2 := 23) (i := 194) (n := 160) rfl rfl hI rfl rfl rfl rfl (by omega) (by omega) (fun y6 a6 b6 g6 e6 => ?_)
        refine te_istore (p2 := 25) (lv2 := [(4, .int y6), (0, .ref 164), (1, .int row), (2, .int s), (3, .int v1_3)]) rfl rfl (by decide) rfl ?_
        refine te_aload_n (p2 := 26) rfl rfl rfl ?_
        refine te_iload (p2 := 28) rfl rfl rfl ?_
        refine cV_pI (p2 := 31) (i := 148) rfl rfl rfl rfl hI rfl rfl rfl (t_X12_isPerson (k := y6) hI) (by decide) (fun y7 r7 => ?_)
        obtain ⟨p7, e7, a7, b7, r7⟩ := r7
        rcases r7 with ⟨w7, c7⟩ | ⟨w7, c7⟩
        · subst w7
          refine tz_eq (p2 := 34) rfl rfl (show Int32.toInt 1 = 1 from rfl) (fun c8 => absurd c8 (by omega)) (fun c8 => ?_)
          refine te_aload_n (p2 := 35) rfl rfl rfl ?_
          refine tg_r (p2 := 38) (i := 148) (r := 165) rfl rfl hI rfl rfl rfl ?_
          refine te_sipush (p2 := 41) (x := 236) rfl rfl (by decide) ?_
          refine te_iload (p2 := 43) rfl rfl rfl ?_
          refine ar_add (p2 := 44) rfl rfl (show Int32.toInt 236 = 236 from rfl) rfl (by omega) (by omega) (fun z9 e9 f9 => ?_)
          refine tl_i (p2 := 45) (i := 149) (n := 283) rfl rfl hI rfl rfl rfl rfl (by omega) (by omega) (fun y10 a10 b10 g10 e10 => ?_)
          refine te_iconst (p2 := 46) (x := 1) rfl rfl (by decide) ?_
          refine tb_ne (p2 := 49) rfl rfl rfl (show Int32.toInt 1 = 1 from rfl) (fun c11 => ?_) (fun c11 => ?_)
          · refine te_iconst (p2 := 53) (x := 0) rfl rfl (by decide) ?_
            refine te_istore (p2 := 55) (lv2 := [(5, .int 0), (4, .int y6), (0, .ref 164), (1, .int row), (2, .int s), (3, .int v1_3)]) rfl rfl (by decide) rfl ?_
            have lp12 : ∀ (n12 : Nat) (v12_5 : Int32) , 0 ≤ v12_5.toInt → v12_5.toInt ≤ 40 → 40 - v12_5.toInt < (n12 : Int) → EvP im_K0 2 mX12_barred (55, [(0, .ref 164), (1, .int row), (2, .int s), (3, .int v1_3), (4, .int y6), (5, .int v12_5)], [], h) (pI h (fun y => (y.toInt < 0) ∨ (y.toInt = 0 ∧ ∃ p : Int32, rd h 193 s.toInt.toNat = some (.int p) ∧ 0 ≤ p.toInt ∧ p.toInt ≤ 40 ∧ allB h 194 (40 * s.toInt.toNat) p.toInt 23))) := by
              intro n12
              induction n12 with
              | zero => intro v12_5 a12_5 b12_5 m12; exfalso; omega
              | succ n12 ih12 =>
                intro v12_5 a12_5 b12_5 m12
                refine te_iload (p2 := 57) rfl rfl rfl ?_
                refine te_iload_n (p2 := 58) rfl rfl rfl ?_
                refine tb_ge (p2 := 61) rfl rfl rfl rfl (fun c13 => ?_) (fun c13 => ?_)
                · refine te_aload_n (p2 := 88) rfl rfl rfl ?_
                  refine te_iload (p2 := 90) rfl rfl rfl ?_
                  refine te_iload_n (p2 := 91) rfl rfl rfl ?_
                  refine cV_pI (p2 := 94) (i := 148) rfl rfl rfl rfl hI rfl rfl rfl (t_X12_isInOther (k := y6) (row := row) hI ) (by decide) (fun y14 r14 => ?_)
                  obtain ⟨a14, b14⟩ := r14
                  refine tz_eq (p2 := 97) rfl rfl rfl (fun c15 => ?_) (fun c15 => ?_)
                  · refine ar_inc (p2 := 103) (x := v1_3) rfl rfl (by decide) rfl (by decide) rfl (by omega) (by omega) (fun z16 e16 f16 => ?_)
                    show EvP _ _ _ (103, [(3, .int z16), (0, .ref 164), (1, .int row), (2, .int s), (4, .int y6), (5, .int v12_5)], [], h) _
                    refine te_goto rfl ?_
                    refine te_lv [(0, .ref 164), (1, .int row), (2, .int s), (3, .int z16)] rfl rfl ⟨rfl, rfl, rfl, rfl, trivial⟩ ?_
                    exact ih1 z16 (by omega) (by omega) (allB_s (k := v1_3.toInt.toNat) w1_0 (by omega) f16 (by rw [show 40 * s.toInt.toNat + v1_3.toInt.toNat = z5.toInt.toNat by omega]; exact e6) (by omega) (by omega)) (by omega)
                  · refine te_bipush (p2 := 99) (x := (-3)) rfl rfl (by decide) ?_
                    exact te_iret rfl rfl ⟨rfl, _, rfl, Or.inl (by decide)⟩
                · refine te_aload_n (p2 := 62) rfl rfl rfl ?_
                  refine tg_r (p2 := 65) (i := 148) (r := 210) rfl rfl hI rfl rfl rfl ?_
                  refine te_bipush (p2 := 67) (x := 40) rfl rfl (by decide) ?_
                  refine te_iload_n (p2 := 68) rfl rfl rfl ?_
                  refine ar_mul (p2 := 69) rfl rfl (show Int32.toInt 40 = 40 from rfl) rfl (by omega) (by omega) (fun z17 e17 f17 => ?_)
                  refine te_iload (p2 := 71) rfl rfl rfl ?_
                  refine ar_add (p2 := 72) rfl rfl rfl rfl (by omega) (by omega) (fun z18 e18 f18 => ?_)
                  refine tl_i (p2 := 73) (i := 194) (n := 160) rfl rfl hI rfl rfl rfl rfl (by omega) (by omega) (fun y19 a19 b19 g19 e19 => ?_)
                  refine te_iload (p2 := 75) rfl rfl rfl ?_
                  refine tb_ne (p2 := 78) rfl rfl rfl rfl (fun c20 => ?_) (fun c20 => ?_)
                  · refine ar_inc (p2 := 84) (x := v12_5) rfl rfl (by decide) rfl (by decide) rfl (by omega) (by omega) (fun z21 e21 f21 => ?_)
                    show EvP _ _ _ (84, [(5, .int z21), (0, .ref 164), (1, .int row), (2, .int s), (3, .int v1_3), (4, .int y6)], [], h) _
                    refine te_goto rfl ?_
                    refine te_lv [(0, .ref 164), (1, .int row), (2, .int s), (3, .int v1_3), (4, .int y6), (5, .int z21)] rfl rfl ⟨rfl, rfl, rfl, rfl, rfl, rfl, trivial⟩ ?_
                    exact ih12 z21 (by omega) (by omega) (by omega)
                  · refine te_bipush (p2 := 80) (x := (-2)) rfl rfl (by decide) ?_
                    exact te_iret rfl rfl ⟨rfl, _, rfl, Or.inl (by decide)⟩
            refine te_lv [(0, .ref 164), (1, .int row), (2, .int s), (3, .int v1_3), (4, .int y6), (5, .int 0)] rfl rfl ⟨rfl, rfl, rfl, rfl, rfl, rfl, trivial⟩ ?_
            exact lp12 41 0 (by decide) (by decide) (by have cc0 := (show Int32.toInt 0 = 0 from rfl); omega)
          · refine te_bipush (p2 := 51) (x := (-2)) rfl rfl (by decide) ?_
            exact te_iret rfl rfl ⟨rfl, _, rfl, Or.inl (by decide)⟩
        · subst w7
          refine tz_eq (p2 := 34) rfl rfl (show Int32.toInt 0 = 0 from rfl) (fun c22 => ?_) (fun c22 => absurd c22 (by omega))
          refine te_bipush (p2 := 51) (x := (-2)) rfl rfl (by decide) ?_
          exact te_iret rfl rfl ⟨rfl, _, rfl, Or.inl (by decide)⟩
  refine te_lv [(0, .ref 164), (1, .int row), (2, .int s), (3, .int 0)] rfl rfl ⟨rfl, rfl, rfl, rfl, trivial⟩ ?_
  exact lp1 41 0 (by decide) (by decide) (allB_0 (by decide)) (by have cc0 := (show Int32.toInt 0 = 0 from rfl); omega)
abbrev F_X12_row : List (Nat × Nat × Nat) := [(160, 0, 31), (161, 0, 3), (162, 0, 3), (163, 0, 3)]
set_option maxRecDepth 20000 in
set_option maxHeartbeats 4000000 in
theorem t_X12_row {x1 : Int32} {x2 : Int32} {x3 : Int32} {x4 : Int32} {h : im_H} (hI : tI h)  : CaP 4 131 [.ref 164, .int x1, .int x2, .int x3, .int x4] h (mI h F_X12_row (fun _ => True)) := by
  refine cap_of (d := 3) (M := mX12_row) rfl (Nat.le_of_ble_eq_true rfl) ?_
  show EvP im_K0 3 mX12_row (0, [(0, .ref 164), (1, .int x1), (2, .int x2), (3, .int x3), (4, .int x4)], [], h) _
  have f0 : fr F_X12_row h h := fr_rf
  refine te_iload_n (p2 := 1) rfl rfl rfl ?_
  refine te_iconst (p2 := 2) (x := 0) rfl rfl (by decide) ?_
  refine te_iconst (p2 := 3) (x := 3) rfl rfl (by decide) ?_
  refine cS_pI (p2 := 6) rfl rfl rfl rfl (t_X12_in (n := x1) (a := 0) (b := 3) hI ) (by decide) (fun y1 r1 => ?_)
  rcases r1 with ⟨w1, c1⟩ | ⟨w1, c1⟩
  · subst w1
    have cc1_1 := (show Int32.toInt 0 = 0 from rfl)
    have cc1_2 := (show Int32.toInt 3 = 3 from rfl)
    refine tz_eq (p2 := 9) rfl rfl (show Int32.toInt 1 = 1 from rfl) (fun c2 => absurd c2 (by omega)) (fun c2 => ?_)
    refine te_iload_n (p2 := 10) rfl rfl rfl ?_
    refine te_iconst (p2 := 11) (x := 0) rfl rfl (by decide) ?_
    refine te_iconst (p2 := 12) (x := 3) rfl rfl (by decide) ?_
    refine cS_pI (p2 := 15) rfl rfl rfl rfl (t_X12_in (n := x2) (a := 0) (b := 3) hI ) (by decide) (fun y3 r3 => ?_)
    rcases r3 with ⟨w3, c3⟩ | ⟨w3, c3⟩
    · subst w3
      have cc3_1 := (show Int32.toInt 0 = 0 from rfl)
      have cc3_2 := (show Int32.toInt 3 = 3 from rfl)
      refine tz_eq (p2 := 18) rfl rfl (show Int32.toInt 1 = 1 from rfl) (fun c4 => absurd c4 (by omega)) (fun c4 => ?_)
      refine te_iload_n (p2 := 19) rfl rfl rfl ?_
      refine cS_pI (p2 := 22) rfl rfl rfl rfl (t_X12_isCell (n := x3) hI ) (by decide) (fun y5 r5 => ?_)
      rcases r5 with ⟨w5, c5⟩ | ⟨w5, c5⟩
      · subst w5
        refine tz_eq (p2 := 25) rfl rfl (show Int32.toInt 1 = 1 from rfl) (fun c6 => absurd c6 (by omega)) (fun c6 => ?_)
        refine te_iload (p2 := 27) rfl rfl rfl ?_
        refine cS_pI (p2 := 30) rfl rfl rfl rfl (t_X12_isCell (n := x4) hI ) (by decide) (fun y7 r7 => ?_)
        rcases r7 with ⟨w7, c7⟩ | ⟨w7, c7⟩
        · subst w7
          refine tz_ne (p2 := 33) rfl rfl (show Int32.toInt 1 = 1 from rfl) (fun c8 => ?_) (fun c8 => absurd c8 (by omega))
          refine te_aload_n (p2 := 36) rfl rfl rfl ?_
          refine tg_r (p2 := 39) (i := 148) (r := 208) rfl rfl hI rfl rfl rfl ?_
          refine te_iload_n (p2 := 40) rfl rfl rfl ?_
          refine tl_i (p2 := 41) (i := 192) (n := 4) rfl rfl hI rfl rfl rfl rfl (by omega) (by omega) (fun y9 a9 b9 g9 e9 => ?_)
          refine te_iconst (p2 := 42) (x := (-1)) rfl rfl (by decide) ?_
          refine tb_ne (p2 := 45) rfl rfl rfl (show Int32.toInt (-1) = (-1) from rfl) (fun c10 => ?_) (fun c10 => ?_)
          · refine te_aload_n (p2 := 49) rfl rfl rfl ?_
            refine tg_r (p2 := 52) (i := 148) (r := 209) rfl rfl hI rfl rfl rfl ?_
            refine te_iload_n (p2 := 53) rfl rfl rfl ?_
            refine tl_i (p2 := 54) (i := 193) (n := 4) rfl rfl hI rfl rfl rfl rfl (by omega) (by omega) (fun y11 a11 b11 g11 e11 => ?_)
            refine te_bipush (p2 := 56) (x := 8) rfl rfl (by decide) ?_
            refine tb_gt (p2 := 59) rfl rfl rfl (show Int32.toInt 8 = 8 from rfl) (fun c12 => ?_) (fun c12 => ?_)
            · refine te_bipush (p2 := 70) (x := (-2)) rfl rfl (by decide) ?_
              exact te_iret rfl rfl ⟨hI, f0, _, rfl, trivial⟩
            · refine te_iload_n (p2 := 60) rfl rfl rfl ?_
              refine te_iload (p2 := 62) rfl rfl rfl ?_
              refine cS_pI (p2 := 65) rfl rfl rfl rfl (t_X12_areBeside (c := x3) (o := x4) hI (by omega) (by omega)) (by decide) (fun y13 r13 => ?_)
              obtain ⟨a13, b13⟩ := r13
              refine tz_ne (p2 := 68) rfl rfl rfl (fun c14 => ?_) (fun c14 => ?_)
              · refine te_aload_n (p2 := 72) rfl rfl rfl ?_
                refine te_iload_n (p2 := 73) rfl rfl rfl ?_
                refine te_iload_n (p2 := 74) rfl rfl rfl ?_
                refine cV_pI (p2 := 77) (i := 148) rfl rfl rfl rfl hI rfl rfl rfl (t_X12_barred (row := x1) (s := x2) hI (by omega) (by omega) (by omega) (by omega)) (by decide) (fun y15 r15 => ?_)
                rcases r15 with r15 | ⟨r15, p15, e15, a15, b15, w15⟩
                · refine te_istore (p2 := 79) (lv2 := [(5, .int y15), (0, .ref 164), (1, .int x1), (2, .int x2), (3, .int x3), (4, .int x4)]) rfl rfl (by decide) rfl ?_
                  refine te_iload (p2 := 81) rfl rfl rfl ?_
                  refine tz_eq (p2 := 84) rfl rfl rfl (fun c16 => absurd c16 (by omega)) (fun c16 => ?_)
                  refine te_iload (p2 := 86) rfl rfl rfl ?_
                  exact te_iret rfl rfl ⟨hI, f0, _, rfl, trivial⟩
                · have x15 : p15 = y11 := int_inj e15 e11
                  rw [x15] at w15
                  refine te_istore (p2 := 79) (lv2 := [(5, .int y15), (0, .ref 164), (1, .int x1), (2, .int x2), (3, .int x3), (4, .int x4)]) rfl rfl (by decide) rfl ?_
                  refine te_iload (p2 := 81) rfl rfl rfl ?_
                  refine tz_eq (p2 := 84) rfl rfl rfl (fun c17 => ?_) (fun c17 => absurd c17 (by omega))
                  refine te_iconst (p2 := 88) (x := 0) rfl rfl (by decide) ?_
                  refine te_istore (p2 := 90) (lv2 := [(6, .int 0), (5, .int y15), (0, .ref 164), (1, .int x1), (2, .int x2), (3, .int x3), (4, .int x4)]) rfl rfl (by decide) rfl ?_
                  have lp18 : ∀ (n18 : Nat) (v18_6 : Int32) (h18 : im_H), tI h18 → fr F_X12_row h h18 → 0 ≤ v18_6.toInt → v18_6.toInt ≤ 8 → 8 - v18_6.toInt < (n18 : Int) → EvP im_K0 3 mX12_row (90, [(0, .ref 164), (1, .int x1), (2, .int x2), (3, .int x3), (4, .int x4), (5, .int y15), (6, .int v18_6)], [], h18) (mI h F_X12_row (fun _ => True)) := by
                    intro n18
                    induction n18 with
                    | zero => intro v18_6 h18 I18 f18 a18_6 b18_6 m18; exfalso; omega
                    | succ n18 ih18 =>
                      intro v18_6 h18 I18 f18 a18_6 b18_6 m18
                      refine te_iload (p2 := 92) rfl rfl rfl ?_
                      refine te_aload_n (p2 := 93) rfl rfl rfl ?_
                      refine tg_r (p2 := 96) (i := 148) (r := 209) rfl rfl I18 rfl rfl rfl ?_
                      refine te_iload_n (p2 := 97) rfl rfl rfl ?_
                      refine tl_e (p2 := 98) (i := 193) (n := 4) (t := 0) (Or.inl rfl) rfl rfl I18 rfl rfl (by omega) (by omega) ((f18 _ _ rfl).trans e11) ?_
                      refine tb_ge (p2 := 101) rfl rfl rfl rfl (fun c20 => ?_) (fun c20 => ?_)
                      · refine te_aload_n (p2 := 132) rfl rfl rfl ?_
                        refine tg_r (p2 := 135) (i := 148) (r := 177) rfl rfl I18 rfl rfl rfl ?_
                        refine te_iload_n (p2 := 136) rfl rfl rfl ?_
                        refine te_aload_n (p2 := 137) rfl rfl rfl ?_
                        refine tg_r (p2 := 140) (i := 148) (r := 209) rfl rfl I18 rfl rfl rfl ?_
                        refine te_iload_n (p2 := 141) rfl rfl rfl ?_
                        refine tl_e (p2 := 142) (i := 193) (n := 4) (t := 0) (Or.inl rfl) rfl rfl I18 rfl rfl (by omega) (by omega) ((f18 _ _ rfl).trans e11) ?_
                        refine ts_i (p2 := 143) (i := 161) (n := 4) rfl rfl I18 rfl rfl rfl rfl (by omega) (by omega) (by omega) (by omega) (by omega) rfl (fun h22 I22 u22 => ?_)
                        have f22 := fr_st (F := F_X12_row) 1 f18 u22 rfl (by omega) (by omega)
                        refine te_aload_n (p2 := 144) rfl rfl rfl ?_
                        refine tg_r (p2 := 147) (i := 148) (r := 178) rfl rfl I22 rfl rfl rfl ?_
                        refine te_iload_n (p2 := 148) rfl rfl rfl ?_
                        refine te_iload_n (p2 := 149) rfl rfl rfl ?_
                        refine ts_i (p2 := 150) (i := 162) (n := 4) rfl rfl I22 rfl rfl rfl rfl (by omega) (by omega) (by omega) (by omega) (by omega) rfl (fun h23 I23 u23 => ?_)
                        have f23 := fr_st (F := F_X12_row) 2 f22 u23 rfl (by omega) (by omega)
                        refine te_aload_n (p2 := 151) rfl rfl rfl ?_
                        refine tg_r (p2 := 154) (i := 148) (r := 179) rfl rfl I23 rfl rfl rfl ?_
                        refine te_iload_n (p2 := 155) rfl rfl rfl ?_
                        refine te_iload (p2 := 157) rfl rfl rfl ?_
                        refine ts_i (p2 := 158) (i := 163) (n := 4) rfl rfl I23 rfl rfl rfl rfl (by omega) (by omega) (by omega) (by omega) (by omega) rfl (fun h24 I24 u24 => ?_)
                        have f24 := fr_st (F := F_X12_row) 3 f23 u24 rfl (by omega) (by omega)
                        refine te_aload_n (p2 := 159) rfl rfl rfl ?_
                        refine tg_r (p2 := 162) (i := 148) (r := 209) rfl rfl I24 rfl rfl rfl ?_
                        refine te_iload_n (p2 := 163) rfl rfl rfl ?_
                        refine tl_e (p2 := 164) (i := 193) (n := 4) (t := 0) (Or.inl rfl) rfl rfl I24 rfl rfl (by omega) (by omega) ((u24.2 _ _ (Or.inl (by decide))).trans ((u23.2 _ _ (Or.inl (by decide))).trans ((u22.2 _ _ (Or.inl (by decide))).trans ((f18 _ _ rfl).trans e11)))) ?_
                        exact te_iret rfl rfl ⟨I24, f24, _, rfl, trivial⟩
                      · refine te_aload_n (p2 := 102) rfl rfl rfl ?_
                        refine tg_r (p2 := 105) (i := 148) (r := 176) rfl rfl I18 rfl rfl rfl ?_
                        refine te_bipush (p2 := 107) (x := 8) rfl rfl (by decide) ?_
                        refine te_iload_n (p2 := 108) rfl rfl rfl ?_
                        refine ar_mul (p2 := 109) rfl rfl (show Int32.toInt 8 = 8 from rfl) rfl (by omega) (by omega) (fun z26 e26 f26 => ?_)
                        refine te_iload (p2 := 111) rfl rfl rfl ?_
                        refine ar_add (p2 := 112) rfl rfl rfl rfl (by omega) (by omega) (fun z27 e27 f27 => ?_)
                        refine te_aload_n (p2 := 113) rfl rfl rfl ?_
                        refine tg_r (p2 := 116) (i := 148) (r := 210) rfl rfl I18 rfl rfl rfl ?_
                        refine te_bipush (p2 := 118) (x := 40) rfl rfl (by decide) ?_
                        refine te_iload_n (p2 := 119) rfl rfl rfl ?_
                        refine ar_mul (p2 := 120) rfl rfl (show Int32.toInt 40 = 40 from rfl) rfl (by omega) (by omega) (fun z28 e28 f28 => ?_)
                        refine te_iload (p2 := 122) rfl rfl rfl ?_
                        refine ar_add (p2 := 123) rfl rfl rfl rfl (by omega) (by omega) (fun z29 e29 f29 => ?_)
                        refine tl_i (p2 := 124) (i := 194) (n := 160) rfl rfl I18 rfl rfl rfl rfl (by omega) (by omega) (fun y30 a30 b30 g30 e30 => ?_)
                        obtain ⟨a31, b31⟩ := allB_at (allB_fr w15 (fun q => f18 _ _ rfl)) v18_6.toInt.toNat (by omega) (by omega) e30
                        refine ts_i (p2 := 125) (i := 160) (n := 32) rfl rfl I18 rfl rfl rfl rfl (by omega) (by omega) (by omega) (by omega) (by omega) rfl (fun h32 I32 u32 => ?_)
                        have f32 := fr_st (F := F_X12_row) 0 f18 u32 rfl (by omega) (by omega)
                        refine ar_inc (p2 := 128) (x := v18_6) rfl rfl (by decide) rfl (by decide) rfl (by omega) (by omega) (fun z33 e33 f33 => ?_)
                        show EvP _ _ _ (128, [(6, .int z33), (0, .ref 164), (1, .int x1), (2, .int x2), (3, .int x3), (4, .int x4), (5, .int y15)], [], h32) _
                        refine te_goto rfl ?_
                        refine te_lv [(0, .ref 164), (1, .int x1), (2, .int x2), (3, .int x3), (4, .int x4), (5, .int y15), (6, .int z33)] rfl rfl ⟨rfl, rfl, rfl, rfl, rfl, rfl, rfl, trivial⟩ ?_
                        exact ih18 z33 h32 I32 f32 (by omega) (by omega) (by omega)
                  refine te_lv [(0, .ref 164), (1, .int x1), (2, .int x2), (3, .int x3), (4, .int x4), (5, .int y15), (6, .int 0)] rfl rfl ⟨rfl, rfl, rfl, rfl, rfl, rfl, rfl, trivial⟩ ?_
                  exact lp18 9 0 h hI f0 (by decide) (by decide) (by have cc0 := (show Int32.toInt 0 = 0 from rfl); omega)
              · refine te_bipush (p2 := 70) (x := (-2)) rfl rfl (by decide) ?_
                exact te_iret rfl rfl ⟨hI, f0, _, rfl, trivial⟩
          · refine te_bipush (p2 := 47) (x := (-11)) rfl rfl (by decide) ?_
            exact te_iret rfl rfl ⟨hI, f0, _, rfl, trivial⟩
        · subst w7
          refine tz_ne (p2 := 33) rfl rfl (show Int32.toInt 0 = 0 from rfl) (fun c34 => absurd c34 (by omega)) (fun c34 => ?_)
          refine te_iconst (p2 := 34) (x := (-1)) rfl rfl (by decide) ?_
          exact te_iret rfl rfl ⟨hI, f0, _, rfl, trivial⟩
      · subst w5
        refine tz_eq (p2 := 25) rfl rfl (show Int32.toInt 0 = 0 from rfl) (fun c35 => ?_) (fun c35 => absurd c35 (by omega))
        refine te_iconst (p2 := 34) (x := (-1)) rfl rfl (by decide) ?_
        exact te_iret rfl rfl ⟨hI, f0, _, rfl, trivial⟩
    · subst w3
      have cc3_1 := (show Int32.toInt 0 = 0 from rfl)
      have cc3_2 := (show Int32.toInt 3 = 3 from rfl)
      refine tz_eq (p2 := 18) rfl rfl (show Int32.toInt 0 = 0 from rfl) (fun c36 => ?_) (fun c36 => absurd c36 (by omega))
      refine te_iconst (p2 := 34) (x := (-1)) rfl rfl (by decide) ?_
      exact te_iret rfl rfl ⟨hI, f0, _, rfl, trivial⟩
  · subst w1
    have cc1_1 := (show Int32.toInt 0 = 0 from rfl)
    have cc1_2 := (show Int32.toInt 3 = 3 from rfl)
    refine tz_eq (p2 := 9) rfl rfl (show Int32.toInt 0 = 0 from rfl) (fun c37 => ?_) (fun c37 => absurd c37 (by omega))
    refine te_iconst (p2 := 34) (x := (-1)) rfl rfl (by decide) ?_
    exact te_iret rfl rfl ⟨hI, f0, _, rfl, trivial⟩
abbrev F_X12_rail : List (Nat × Nat × Nat) := [(164, 0, 35), (165, 0, 2), (166, 0, 2)]
set_option maxRecDepth 20000 in
set_option maxHeartbeats 4000000 in
theorem t_X12_rail {x1 : Int32} {x2 : Int32} {x3 : Int32} {h : im_H} (hI : tI h)  : CaP 4 132 [.ref 164, .int x1, .int x2, .int x3] h (mI h F_X12_rail (fun _ => True)) := by
  refine cap_of (d := 3) (M := mX12_rail) rfl (Nat.le_of_ble_eq_true rfl) ?_
  show EvP im_K0 3 mX12_rail (0, [(0, .ref 164), (1, .int x1), (2, .int x2), (3, .int x3)], [], h) _
  have f0 : fr F_X12_rail h h := fr_rf
  refine te_iload_n (p2 := 1) rfl rfl rfl ?_
  refine te_iconst (p2 := 2) (x := 0) rfl rfl (by decide) ?_
  refine te_iconst (p2 := 3) (x := 2) rfl rfl (by decide) ?_
  refine cS_pI (p2 := 6) rfl rfl rfl rfl (t_X12_in (n := x1) (a := 0) (b := 2) hI ) (by decide) (fun y1 r1 => ?_)
  rcases r1 with ⟨w1, c1⟩ | ⟨w1, c1⟩
  · subst w1
    have cc1_1 := (show Int32.toInt 0 = 0 from rfl)
    have cc1_2 := (show Int32.toInt 2 = 2 from rfl)
    refine tz_eq (p2 := 9) rfl rfl (show Int32.toInt 1 = 1 from rfl) (fun c2 => absurd c2 (by omega)) (fun c2 => ?_)
    refine te_iload_n (p2 := 10) rfl rfl rfl ?_
    refine te_iconst (p2 := 11) (x := 0) rfl rfl (by decide) ?_
    refine te_iconst (p2 := 12) (x := 3) rfl rfl (by decide) ?_
    refine cS_pI (p2 := 15) rfl rfl rfl rfl (t_X12_in (n := x2) (a := 0) (b := 3) hI ) (by decide) (fun y3 r3 => ?_)
    rcases r3 with ⟨w3, c3⟩ | ⟨w3, c3⟩
    · subst w3
      have cc3_1 := (show Int32.toInt 0 = 0 from rfl)
      have cc3_2 := (show Int32.toInt 3 = 3 from rfl)
      refine tz_ne (p2 := 18) rfl rfl (show Int32.toInt 1 = 1 from rfl) (fun c4 => ?_) (fun c4 => absurd c4 (by omega))
      refine te_aload_n (p2 := 21) rfl rfl rfl ?_
      refine tg_r (p2 := 24) (i := 148) (r := 208) rfl rfl hI rfl rfl rfl ?_
      refine te_iload_n (p2 := 25) rfl rfl rfl ?_
      refine tl_i (p2 := 26) (i := 192) (n := 4) rfl rfl hI rfl rfl rfl rfl (by omega) (by omega) (fun y5 a5 b5 g5 e5 => ?_)
      refine te_iconst (p2 := 27) (x := (-1)) rfl rfl (by decide) ?_
      refine tb_ne (p2 := 30) rfl rfl rfl (show Int32.toInt (-1) = (-1) from rfl) (fun c6 => ?_) (fun c6 => ?_)
      · refine te_aload_n (p2 := 34) rfl rfl rfl ?_
        refine tg_r (p2 := 37) (i := 148) (r := 209) rfl rfl hI rfl rfl rfl ?_
        refine te_iload_n (p2 := 38) rfl rfl rfl ?_
        refine tl_i (p2 := 39) (i := 193) (n := 4) rfl rfl hI rfl rfl rfl rfl (by omega) (by omega) (fun y7 a7 b7 g7 e7 => ?_)
        refine te_iconst (p2 := 40) (x := 0) rfl rfl (by decide) ?_
        refine te_bipush (p2 := 42) (x := 12) rfl rfl (by decide) ?_
        refine cS_pI (p2 := 45) rfl rfl rfl rfl (t_X12_in (n := y7) (a := 0) (b := 12) hI ) (by decide) (fun y8 r8 => ?_)
        rcases r8 with ⟨w8, c8⟩ | ⟨w8, c8⟩
        · subst w8
          have cc8_1 := (show Int32.toInt 0 = 0 from rfl)
          have cc8_2 := (show Int32.toInt 12 = 12 from rfl)
          refine tz_eq (p2 := 48) rfl rfl (show Int32.toInt 1 = 1 from rfl) (fun c9 => absurd c9 (by omega)) (fun c9 => ?_)
          refine te_aload_n (p2 := 49) rfl rfl rfl ?_
          refine tg_r (p2 := 52) (i := 148) (r := 209) rfl rfl hI rfl rfl rfl ?_
          refine te_iload_n (p2 := 53) rfl rfl rfl ?_
          refine tl_e (p2 := 54) (i := 193) (n := 4) (t := 0) (Or.inl rfl) rfl rfl hI rfl rfl (by omega) (by omega) e7 ?_
          refine te_iconst (p2 := 55) (x := 1) rfl rfl (by decide) ?_
          refine tb_eq (p2 := 58) rfl rfl rfl (show Int32.toInt 1 = 1 from rfl) (fun c11 => ?_) (fun c11 => ?_)
          · refine te_iconst (p2 := 73) (x := 0) rfl rfl (by decide) ?_
            refine te_istore (p2 := 75) (lv2 := [(4, .int 0), (0, .ref 164), (1, .int x1), (2, .int x2), (3, .int x3)]) rfl rfl (by decide) rfl ?_
            refine te_iconst (p2 := 76) (x := 0) rfl rfl (by decide) ?_
            refine te_istore (p2 := 78) (lv2 := [(5, .int 0), (4, .int 0), (0, .ref 164), (1, .int x1), (2, .int x2), (3, .int x3)]) rfl rfl (by decide) rfl ?_
            have lp12 : ∀ (n12 : Nat) (v12_4 v12_5 : Int32) , 0 ≤ v12_4.toInt → v12_4.toInt ≤ 0 → 0 ≤ v12_5.toInt → v12_5.toInt ≤ 40 → 40 - v12_5.toInt < (n12 : Int) → EvP im_K0 3 mX12_rail (78, [(0, .ref 164), (1, .int x1), (2, .int x2), (3, .int x3), (4, .int v12_4), (5, .int v12_5)], [], h) (mI h F_X12_rail (fun _ => True)) := by
              intro n12
              induction n12 with
              | zero => intro v12_4 v12_5 a12_4 b12_4 a12_5 b12_5 m12; exfalso; omega
              | succ n12 ih12 =>
                intro v12_4 v12_5 a12_4 b12_4 a12_5 b12_5 m12
                refine te_iload (p2 := 80) rfl rfl rfl ?_
                refine te_aload_n (p2 := 81) rfl rfl rfl ?_
                refine tg_r (p2 := 84) (i := 148) (r := 209) rfl rfl hI rfl rfl rfl ?_
                refine te_iload_n (p2 := 85) rfl rfl rfl ?_
                refine tl_e (p2 := 86) (i := 193) (n := 4) (t := 0) (Or.inl rfl) rfl rfl hI rfl rfl (by omega) (by omega) e7 ?_
                refine tb_ge (p2 := 89) rfl rfl rfl rfl (fun c14 => ?_) (fun c14 => ?_)
                · refine te_iload (p2 := 173) rfl rfl rfl ?_
                  refine tz_ne (p2 := 176) rfl rfl rfl (fun c15 => absurd c15 (by omega)) (fun c15 => ?_)
                  refine te_bipush (p2 := 178) (x := (-2)) rfl rfl (by decide) ?_
                  exact te_iret rfl rfl ⟨hI, f0, _, rfl, trivial⟩
                · refine te_iload (p2 := 91) rfl rfl rfl ?_
                  refine tz_eq (p2 := 94) rfl rfl rfl (fun c16 => ?_) (fun c16 => absurd c16 (by omega))
                  refine te_iload (p2 := 173) rfl rfl rfl ?_
                  refine tz_ne (p2 := 176) rfl rfl rfl (fun c17 => absurd c17 (by omega)) (fun c17 => ?_)
                  refine te_bipush (p2 := 178) (x := (-2)) rfl rfl (by decide) ?_
                  exact te_iret rfl rfl ⟨hI, f0, _, rfl, trivial⟩
            refine te_lv [(0, .ref 164), (1, .int x1), (2, .int x2), (3, .int x3), (4, .int 0), (5, .int 0)] rfl rfl ⟨rfl, rfl, rfl, rfl, rfl, rfl, trivial⟩ ?_
            exact lp12 41 0 0 (by decide) (by decide) (by decide) (by decide) (by have cc0 := (show Int32.toInt 0 = 0 from rfl); omega)
          · refine te_iload_n (p2 := 59) rfl rfl rfl ?_
            refine te_iconst (p2 := 60) (x := 0) rfl rfl (by decide) ?_
            refine te_bipush (p2 := 62) (x := 20) rfl rfl (by decide) ?_
            refine cS_pI (p2 := 65) rfl rfl rfl rfl (t_X12_in (n := x3) (a := 0) (b := 20) hI ) (by decide) (fun y18 r18 => ?_)
            rcases r18 with ⟨w18, c18⟩ | ⟨w18, c18⟩
            · subst w18
              have cc18_1 := (show Int32.toInt 0 = 0 from rfl)
              have cc18_2 := (show Int32.toInt 20 = 20 from rfl)
              refine tz_eq (p2 := 68) rfl rfl (show Int32.toInt 1 = 1 from rfl) (fun c19 => absurd c19 (by omega)) (fun c19 => ?_)
              refine te_iconst (p2 := 69) (x := 1) rfl rfl (by decide) ?_
              refine te_goto rfl ?_
              refine te_istore (p2 := 75) (lv2 := [(4, .int 1), (0, .ref 164), (1, .int x1), (2, .int x2), (3, .int x3)]) rfl rfl (by decide) rfl ?_
              refine te_iconst (p2 := 76) (x := 0) rfl rfl (by decide) ?_
              refine te_istore (p2 := 78) (lv2 := [(5, .int 0), (4, .int 1), (0, .ref 164), (1, .int x1), (2, .int x2), (3, .int x3)]) rfl rfl (by decide) rfl ?_
              have lp20 : ∀ (n20 : Nat) (v20_4 v20_5 : Int32) , 0 ≤ v20_4.toInt → v20_4.toInt ≤ 1 → 0 ≤ v20_5.toInt → v20_5.toInt ≤ 40 → (v20_4.toInt = 1 → allB h 194 (40 * x2.toInt.toNat) v20_5.toInt 99) → 40 - v20_5.toInt < (n20 : Int) → EvP im_K0 3 mX12_rail (78, [(0, .ref 164), (1, .int x1), (2, .int x2), (3, .int x3), (4, .int v20_4), (5, .int v20_5)], [], h) (mI h F_X12_rail (fun _ => True)) := by
                intro n20
                induction n20 with
                | zero => intro v20_4 v20_5 a20_4 b20_4 a20_5 b20_5 w20_0 m20; exfalso; omega
                | succ n20 ih20 =>
                  intro v20_4 v20_5 a20_4 b20_4 a20_5 b20_5 w20_0 m20
                  refine te_iload (p2 := 80) rfl rfl rfl ?_
                  refine te_aload_n (p2 := 81) rfl rfl rfl ?_
                  refine tg_r (p2 := 84) (i := 148) (r := 209) rfl rfl hI rfl rfl rfl ?_
                  refine te_iload_n (p2 := 85) rfl rfl rfl ?_
                  refine tl_e (p2 := 86) (i := 193) (n := 4) (t := 0) (Or.inl rfl) rfl rfl hI rfl rfl (by omega) (by omega) e7 ?_
                  refine tb_ge (p2 := 89) rfl rfl rfl rfl (fun c22 => ?_) (fun c22 => ?_)
                  · refine te_iload (p2 := 173) rfl rfl rfl ?_
                    refine tz_ne (p2 := 176) rfl rfl rfl (fun c23 => ?_) (fun c23 => ?_)
                    · refine te_iconst (p2 := 180) (x := 0) rfl rfl (by decide) ?_
                      refine te_istore (p2 := 182) (lv2 := [(5, .int 0), (0, .ref 164), (1, .int x1), (2, .int x2), (3, .int x3), (4, .int v20_4)]) rfl rfl (by decide) rfl ?_
                      have lp24 : ∀ (n24 : Nat) (v24_5 : Int32) (h24 : im_H), tI h24 → fr F_X12_rail h h24 → 0 ≤ v24_5.toInt → v24_5.toInt ≤ 12 → 12 - v24_5.toInt < (n24 : Int) → EvP im_K0 3 mX12_rail (182, [(0, .ref 164), (1, .int x1), (2, .int x2), (3, .int x3), (4, .int v20_4), (5, .int v24_5)], [], h24) (mI h F_X12_rail (fun _ => True)) := by
                        intro n24
                        induction n24 with
                        | zero => intro v24_5 h24 I24 f24 a24_5 b24_5 m24; exfalso; omega
                        | succ n24 ih24 =>
                          intro v24_5 h24 I24 f24 a24_5 b24_5 m24
                          refine te_iload (p2 := 184) rfl rfl rfl ?_
                          refine te_aload_n (p2 := 185) rfl rfl rfl ?_
                          refine tg_r (p2 := 188) (i := 148) (r := 209) rfl rfl I24 rfl rfl rfl ?_
                          refine te_iload_n (p2 := 189) rfl rfl rfl ?_
                          refine tl_e (p2 := 190) (i := 193) (n := 4) (t := 0) (Or.inl rfl) rfl rfl I24 rfl rfl (by omega) (by omega) ((f24 _ _ rfl).trans e7) ?_
                          refine tb_ge (p2 := 193) rfl rfl rfl rfl (fun c26 => ?_) (fun c26 => ?_)
                          · refine te_aload_n (p2 := 224) rfl rfl rfl ?_
                            refine tg_r (p2 := 227) (i := 148) (r := 181) rfl rfl I24 rfl rfl rfl ?_
                            refine te_iload_n (p2 := 228) rfl rfl rfl ?_
                            refine te_aload_n (p2 := 229) rfl rfl rfl ?_
                            refine tg_r (p2 := 232) (i := 148) (r := 209) rfl rfl I24 rfl rfl rfl ?_
                            refine te_iload_n (p2 := 233) rfl rfl rfl ?_
                            refine tl_e (p2 := 234) (i := 193) (n := 4) (t := 0) (Or.inl rfl) rfl rfl I24 rfl rfl (by omega) (by omega) ((f24 _ _ rfl).trans e7) ?_
                            refine ts_i (p2 := 235) (i := 165) (n := 3) rfl rfl I24 rfl rfl rfl rfl (by omega) (by omega) (by omega) (by omega) (by omega) rfl (fun h28 I28 u28 => ?_)
                            have f28 := fr_st (F := F_X12_rail) 1 f24 u28 rfl (by omega) (by omega)
                            refine te_aload_n (p2 := 236) rfl rfl rfl ?_
                            refine tg_r (p2 := 239) (i := 148) (r := 182) rfl rfl I28 rfl rfl rfl ?_
                            refine te_iload_n (p2 := 240) rfl rfl rfl ?_
                            refine te_iload_n (p2 := 241) rfl rfl rfl ?_
                            refine ts_i (p2 := 242) (i := 166) (n := 3) rfl rfl I28 rfl rfl rfl rfl (by omega) (by omega) (i32_lo _) (i32_hi _) (i32_ho _) rfl (fun h29 I29 u29 => ?_)
                            have f29 := fr_st (F := F_X12_rail) 2 f28 u29 rfl (by omega) (by omega)
                            refine te_aload_n (p2 := 243) rfl rfl rfl ?_
                            refine tg_r (p2 := 246) (i := 148) (r := 209) rfl rfl I29 rfl rfl rfl ?_
                            refine te_iload_n (p2 := 247) rfl rfl rfl ?_
                            refine tl_e (p2 := 248) (i := 193) (n := 4) (t := 0) (Or.inl rfl) rfl rfl I29 rfl rfl (by omega) (by omega) ((u29.2 _ _ (Or.inl (by decide))).trans ((u28.2 _ _ (Or.inl (by decide))).trans ((f24 _ _ rfl).trans e7))) ?_
                            exact te_iret rfl rfl ⟨I29, f29, _, rfl, trivial⟩
                          · refine te_aload_n (p2 := 194) rfl rfl rfl ?_
                            refine tg_r (p2 := 197) (i := 148) (r := 180) rfl rfl I24 rfl rfl rfl ?_
                            refine te_bipush (p2 := 199) (x := 12) rfl rfl (by decide) ?_
                            refine te_iload_n (p2 := 200) rfl rfl rfl ?_
                            refine ar_mul (p2 := 201) rfl rfl (show Int32.toInt 12 = 12 from rfl) rfl (by omega) (by omega) (fun z31 e31 f31 => ?_)
                            refine te_iload (p2 := 203) rfl rfl rfl ?_
                            refine ar_add (p2 := 204) rfl rfl rfl rfl (by omega) (by omega) (fun z32 e32 f32 => ?_)
                            refine te_aload_n (p2 := 205) rfl rfl rfl ?_
                            refine tg_r (p2 := 208) (i := 148) (r := 210) rfl rfl I24 rfl rfl rfl ?_
                            refine te_bipush (p2 := 210) (x := 40) rfl rfl (by decide) ?_
                            refine te_iload_n (p2 := 211) rfl rfl rfl ?_
                            refine ar_mul (p2 := 212) rfl rfl (show Int32.toInt 40 = 40 from rfl) rfl (by omega) (by omega) (fun z33 e33 f33 => ?_)
                            refine te_iload (p2 := 214) rfl rfl rfl ?_
                            refine ar_add (p2 := 215) rfl rfl rfl rfl (by omega) (by omega) (fun z34 e34 f34 => ?_)
                            refine tl_i (p2 := 216) (i := 194) (n := 160) rfl rfl I24 rfl rfl rfl rfl (by omega) (by omega) (fun y35 a35 b35 g35 e35 => ?_)
                            obtain ⟨a36, b36⟩ := allB_at (allB_fr (w20_0 (by omega)) (fun q => f24 _ _ rfl)) v24_5.toInt.toNat (by omega) (by omega) e35
                            refine ts_i (p2 := 217) (i := 164) (n := 36) rfl rfl I24 rfl rfl rfl rfl (by omega) (by omega) (by omega) (by omega) (by omega) rfl (fun h37 I37 u37 => ?_)
                            have f37 := fr_st (F := F_X12_rail) 0 f24 u37 rfl (by omega) (by omega)
                            refine ar_inc (p2 := 220) (x := v24_5) rfl rfl (by decide) rfl (by decide) rfl (by omega) (by omega) (fun z38 e38 f38 => ?_)
                            show EvP _ _ _ (220, [(5, .int z38), (0, .ref 164), (1, .int x1), (2, .int x2), (3, .int x3), (4, .int v20_4)], [], h37) _
                            refine te_goto rfl ?_
                            refine te_lv [(0, .ref 164), (1, .int x1), (2, .int x2), (3, .int x3), (4, .int v20_4), (5, .int z38)] rfl rfl ⟨rfl, rfl, rfl, rfl, rfl, rfl, trivial⟩ ?_
                            exact ih24 z38 h37 I37 f37 (by omega) (by omega) (by omega)
                      refine te_lv [(0, .ref 164), (1, .int x1), (2, .int x2), (3, .int x3), (4, .int v20_4), (5, .int 0)] rfl rfl ⟨rfl, rfl, rfl, rfl, rfl, rfl, trivial⟩ ?_
                      exact lp24 13 0 h hI f0 (by decide) (by decide) (by have cc0 := (show Int32.toInt 0 = 0 from rfl); omega)
                    · refine te_bipush (p2 := 178) (x := (-2)) rfl rfl (by decide) ?_
                      exact te_iret rfl rfl ⟨hI, f0, _, rfl, trivial⟩
                  · refine te_iload (p2 := 91) rfl rfl rfl ?_
                    refine tz_eq (p2 := 94) rfl rfl rfl (fun c39 => ?_) (fun c39 => ?_)
                    · refine te_iload (p2 := 173) rfl rfl rfl ?_
                      refine tz_ne (p2 := 176) rfl rfl rfl (fun c40 => absurd c40 (by omega)) (fun c40 => ?_)
                      refine te_bipush (p2 := 178) (x := (-2)) rfl rfl (by decide) ?_
                      exact te_iret rfl rfl ⟨hI, f0, _, rfl, trivial⟩
                    · refine te_aload_n (p2 := 95) rfl rfl rfl ?_
                      refine tg_r (p2 := 98) (i := 148) (r := 210) rfl rfl hI rfl rfl rfl ?_
                      refine te_bipush (p2 := 100) (x := 40) rfl rfl (by decide) ?_
                      refine te_iload_n (p2 := 101) rfl rfl rfl ?_
                      refine ar_mul (p2 := 102) rfl rfl (show Int32.toInt 40 = 40 from rfl) rfl (by omega) (by omega) (fun z41 e41 f41 => ?_)
                      refine te_iload (p2 := 104) rfl rfl rfl ?_
                      refine ar_add (p2 := 105) rfl rfl rfl rfl (by omega) (by omega) (fun z42 e42 f42 => ?_)
                      refine tl_i (p2 := 106) (i := 194) (n := 160) rfl rfl hI rfl rfl rfl rfl (by omega) (by omega) (fun y43 a43 b43 g43 e43 => ?_)
                      refine cS_pI (p2 := 109) rfl rfl rfl rfl (t_X12_isCell (n := y43) hI ) (by decide) (fun y44 r44 => ?_)
                      rcases r44 with ⟨w44, c44⟩ | ⟨w44, c44⟩
                      · subst w44
                        refine tz_eq (p2 := 112) rfl rfl (show Int32.toInt 1 = 1 from rfl) (fun c45 => absurd c45 (by omega)) (fun c45 => ?_)
                        refine te_iload (p2 := 114) rfl rfl rfl ?_
                        refine tz_eq (p2 := 117) rfl rfl rfl (fun c46 => ?_) (fun c46 => ?_)
                        · refine te_iconst (p2 := 159) (x := 1) rfl rfl (by decide) ?_
                          refine te_goto rfl ?_
                          refine te_istore (p2 := 165) (lv2 := [(4, .int 1), (0, .ref 164), (1, .int x1), (2, .int x2), (3, .int x3), (5, .int v20_5)]) rfl rfl (by decide) rfl ?_
                          refine ar_inc (p2 := 168) (x := v20_5) rfl rfl (by decide) rfl (by decide) rfl (by omega) (by omega) (fun z47 e47 f47 => ?_)
                          show EvP _ _ _ (168, [(5, .int z47), (4, .int 1), (0, .ref 164), (1, .int x1), (2, .int x2), (3, .int x3)], [], h) _
                          refine te_goto rfl ?_
                          refine te_lv [(0, .ref 164), (1, .int x1), (2, .int x2), (3, .int x3), (4, .int 1), (5, .int z47)] rfl rfl ⟨rfl, rfl, rfl, rfl, rfl, rfl, trivial⟩ ?_
                          exact ih20 1 z47 (by decide) (by decide) (by omega) (by omega) (fun _ => allB_s (k := v20_5.toInt.toNat) (w20_0 (by omega)) (by omega) f47 (by rw [show 40 * x2.toInt.toNat + v20_5.toInt.toNat = z42.toInt.toNat by omega]; exact e43) (by omega) (by omega)) (by have cc0 := (show Int32.toInt 1 = 1 from rfl); omega)
                        · refine te_aload_n (p2 := 118) rfl rfl rfl ?_
                          refine tg_r (p2 := 121) (i := 148) (r := 210) rfl rfl hI rfl rfl rfl ?_
                          refine te_bipush (p2 := 123) (x := 40) rfl rfl (by decide) ?_
                          refine te_iload_n (p2 := 124) rfl rfl rfl ?_
                          refine ar_mul (p2 := 125) rfl rfl (show Int32.toInt 40 = 40 from rfl) rfl (by omega) (by omega) (fun z48 e48 f48 => ?_)
                          refine te_iload (p2 := 127) rfl rfl rfl ?_
                          refine tz_ne (p2 := 130) rfl rfl rfl (fun c49 => ?_) (fun c49 => absurd c49 (by omega))
                          refine te_iload (p2 := 136) rfl rfl rfl ?_
                          refine te_iconst (p2 := 137) (x := 1) rfl rfl (by decide) ?_
                          refine ar_sub (p2 := 138) rfl rfl rfl (show Int32.toInt 1 = 1 from rfl) (by omega) (by omega) (fun z50 e50 f50 => ?_)
                          refine ar_add (p2 := 139) rfl rfl rfl rfl (by omega) (by omega) (fun z51 e51 f51 => ?_)
                          refine tl_i (p2 := 140) (i := 194) (n := 160) rfl rfl hI rfl rfl rfl rfl (by omega) (by omega) (fun y52 a52 b52 g52 e52 => ?_)
                          obtain ⟨a53, b53⟩ := allB_at (w20_0 (by omega)) (v20_5.toInt - 1).toNat (by omega) (by omega) e52
                          refine te_aload_n (p2 := 141) rfl rfl rfl ?_
                          refine tg_r (p2 := 144) (i := 148) (r := 210) rfl rfl hI rfl rfl rfl ?_
                          refine te_bipush (p2 := 146) (x := 40) rfl rfl (by decide) ?_
                          refine te_iload_n (p2 := 147) rfl rfl rfl ?_
                          refine ar_mul (p2 := 148) rfl rfl (show Int32.toInt 40 = 40 from rfl) rfl (by omega) (by omega) (fun z54 e54 f54 => ?_)
                          refine te_iload (p2 := 150) rfl rfl rfl ?_
                          refine ar_add (p2 := 151) rfl rfl rfl rfl (by omega) (by omega) (fun z55 e55 f55 => ?_)
                          refine tl_i (p2 := 152) (i := 194) (n := 160) rfl rfl hI rfl rfl rfl rfl (by omega) (by omega) (fun y56 a56 b56 g56 e56 => ?_)
                          refine cS_pI (p2 := 155) rfl rfl rfl rfl (t_X12_areBeside (c := y52) (o := y56) hI (by omega) (by omega)) (by decide) (fun y57 r57 => ?_)
                          obtain ⟨a57, b57⟩ := r57
                          refine tz_eq (p2 := 158) rfl rfl rfl (fun c58 => ?_) (fun c58 => ?_)
                          · refine te_iconst (p2 := 163) (x := 0) rfl rfl (by decide) ?_
                            refine te_istore (p2 := 165) (lv2 := [(4, .int 0), (0, .ref 164), (1, .int x1), (2, .int x2), (3, .int x3), (5, .int v20_5)]) rfl rfl (by decide) rfl ?_
                            refine ar_inc (p2 := 168) (x := v20_5) rfl rfl (by decide) rfl (by decide) rfl (by omega) (by omega) (fun z59 e59 f59 => ?_)
                            show EvP _ _ _ (168, [(5, .int z59), (4, .int 0), (0, .ref 164), (1, .int x1), (2, .int x2), (3, .int x3)], [], h) _
                            refine te_goto rfl ?_
                            refine te_lv [(0, .ref 164), (1, .int x1), (2, .int x2), (3, .int x3), (4, .int 0), (5, .int z59)] rfl rfl ⟨rfl, rfl, rfl, rfl, rfl, rfl, trivial⟩ ?_
                            exact ih20 0 z59 (by decide) (by decide) (by omega) (by omega) (fun e => absurd e (by decide)) (by have cc0 := (show Int32.toInt 0 = 0 from rfl); omega)
                          · refine te_iconst (p2 := 159) (x := 1) rfl rfl (by decide) ?_
                            refine te_goto rfl ?_
                            refine te_istore (p2 := 165) (lv2 := [(4, .int 1), (0, .ref 164), (1, .int x1), (2, .int x2), (3, .int x3), (5, .int v20_5)]) rfl rfl (by decide) rfl ?_
                            refine ar_inc (p2 := 168) (x := v20_5) rfl rfl (by decide) rfl (by decide) rfl (by omega) (by omega) (fun z60 e60 f60 => ?_)
                            show EvP _ _ _ (168, [(5, .int z60), (4, .int 1), (0, .ref 164), (1, .int x1), (2, .int x2), (3, .int x3)], [], h) _
                            refine te_goto rfl ?_
                            refine te_lv [(0, .ref 164), (1, .int x1), (2, .int x2), (3, .int x3), (4, .int 1), (5, .int z60)] rfl rfl ⟨rfl, rfl, rfl, rfl, rfl, rfl, trivial⟩ ?_
                            exact ih20 1 z60 (by decide) (by decide) (by omega) (by omega) (fun _ => allB_s (k := v20_5.toInt.toNat) (w20_0 (by omega)) (by omega) f60 (by rw [show 40 * x2.toInt.toNat + v20_5.toInt.toNat = z42.toInt.toNat by omega]; exact e43) (by omega) (by omega)) (by have cc0 := (show Int32.toInt 1 = 1 from rfl); omega)
                      · subst w44
                        refine tz_eq (p2 := 112) rfl rfl (show Int32.toInt 0 = 0 from rfl) (fun c61 => ?_) (fun c61 => absurd c61 (by omega))
                        refine te_iconst (p2 := 163) (x := 0) rfl rfl (by decide) ?_
                        refine te_istore (p2 := 165) (lv2 := [(4, .int 0), (0, .ref 164), (1, .int x1), (2, .int x2), (3, .int x3), (5, .int v20_5)]) rfl rfl (by decide) rfl ?_
                        refine ar_inc (p2 := 168) (x := v20_5) rfl rfl (by decide) rfl (by decide) rfl (by omega) (by omega) (fun z62 e62 f62 => ?_)
                        show EvP _ _ _ (168, [(5, .int z62), (4, .int 0), (0, .ref 164), (1, .int x1), (2, .int x2), (3, .int x3)], [], h) _
                        refine te_goto rfl ?_
                        refine te_lv [(0, .ref 164), (1, .int x1), (2, .int x2), (3, .int x3), (4, .int 0), (5, .int z62)] rfl rfl ⟨rfl, rfl, rfl, rfl, rfl, rfl, trivial⟩ ?_
                        exact ih20 0 z62 (by decide) (by decide) (by omega) (by omega) (fun e => absurd e (by decide)) (by have cc0 := (show Int32.toInt 0 = 0 from rfl); omega)
              refine te_lv [(0, .ref 164), (1, .int x1), (2, .int x2), (3, .int x3), (4, .int 1), (5, .int 0)] rfl rfl ⟨rfl, rfl, rfl, rfl, rfl, rfl, trivial⟩ ?_
              exact lp20 41 1 0 (by decide) (by decide) (by decide) (by decide) (fun _ => allB_0 (by decide)) (by have cc0 := (show Int32.toInt 1 = 1 from rfl); have cc1 := (show Int32.toInt 0 = 0 from rfl); omega)
            · subst w18
              have cc18_1 := (show Int32.toInt 0 = 0 from rfl)
              have cc18_2 := (show Int32.toInt 20 = 20 from rfl)
              refine tz_eq (p2 := 68) rfl rfl (show Int32.toInt 0 = 0 from rfl) (fun c63 => ?_) (fun c63 => absurd c63 (by omega))
              refine te_iconst (p2 := 73) (x := 0) rfl rfl (by decide) ?_
              refine te_istore (p2 := 75) (lv2 := [(4, .int 0), (0, .ref 164), (1, .int x1), (2, .int x2), (3, .int x3)]) rfl rfl (by decide) rfl ?_
              refine te_iconst (p2 := 76) (x := 0) rfl rfl (by decide) ?_
              refine te_istore (p2 := 78) (lv2 := [(5, .int 0), (4, .int 0), (0, .ref 164), (1, .int x1), (2, .int x2), (3, .int x3)]) rfl rfl (by decide) rfl ?_
              have lp64 : ∀ (n64 : Nat) (v64_4 v64_5 : Int32) , 0 ≤ v64_4.toInt → v64_4.toInt ≤ 0 → 0 ≤ v64_5.toInt → v64_5.toInt ≤ 40 → 40 - v64_5.toInt < (n64 : Int) → EvP im_K0 3 mX12_rail (78, [(0, .ref 164), (1, .int x1), (2, .int x2), (3, .int x3), (4, .int v64_4), (5, .int v64_5)], [], h) (mI h F_X12_rail (fun _ => True)) := by
                intro n64
                induction n64 with
                | zero => intro v64_4 v64_5 a64_4 b64_4 a64_5 b64_5 m64; exfalso; omega
                | succ n64 ih64 =>
                  intro v64_4 v64_5 a64_4 b64_4 a64_5 b64_5 m64
                  refine te_iload (p2 := 80) rfl rfl rfl ?_
                  refine te_aload_n (p2 := 81) rfl rfl rfl ?_
                  refine tg_r (p2 := 84) (i := 148) (r := 209) rfl rfl hI rfl rfl rfl ?_
                  refine te_iload_n (p2 := 85) rfl rfl rfl ?_
                  refine tl_e (p2 := 86) (i := 193) (n := 4) (t := 0) (Or.inl rfl) rfl rfl hI rfl rfl (by omega) (by omega) e7 ?_
                  refine tb_ge (p2 := 89) rfl rfl rfl rfl (fun c66 => ?_) (fun c66 => ?_)
                  · refine te_iload (p2 := 173) rfl rfl rfl ?_
                    refine tz_ne (p2 := 176) rfl rfl rfl (fun c67 => absurd c67 (by omega)) (fun c67 => ?_)
                    refine te_bipush (p2 := 178) (x := (-2)) rfl rfl (by decide) ?_
                    exact te_iret rfl rfl ⟨hI, f0, _, rfl, trivial⟩
                  · refine te_iload (p2 := 91) rfl rfl rfl ?_
                    refine tz_eq (p2 := 94) rfl rfl rfl (fun c68 => ?_) (fun c68 => absurd c68 (by omega))
                    refine te_iload (p2 := 173) rfl rfl rfl ?_
                    refine tz_ne (p2 := 176) rfl rfl rfl (fun c69 => absurd c69 (by omega)) (fun c69 => ?_)
                    refine te_bipush (p2 := 178) (x := (-2)) rfl rfl (by decide) ?_
                    exact te_iret rfl rfl ⟨hI, f0, _, rfl, trivial⟩
              refine te_lv [(0, .ref 164), (1, .int x1), (2, .int x2), (3, .int x3), (4, .int 0), (5, .int 0)] rfl rfl ⟨rfl, rfl, rfl, rfl, rfl, rfl, trivial⟩ ?_
              exact lp64 41 0 0 (by decide) (by decide) (by decide) (by decide) (by have cc0 := (show Int32.toInt 0 = 0 from rfl); omega)
        · subst w8
          have cc8_1 := (show Int32.toInt 0 = 0 from rfl)
          have cc8_2 := (show Int32.toInt 12 = 12 from rfl)
          refine tz_eq (p2 := 48) rfl rfl (show Int32.toInt 0 = 0 from rfl) (fun c70 => ?_) (fun c70 => absurd c70 (by omega))
          refine te_iconst (p2 := 73) (x := 0) rfl rfl (by decide) ?_
          refine te_istore (p2 := 75) (lv2 := [(4, .int 0), (0, .ref 164), (1, .int x1), (2, .int x2), (3, .int x3)]) rfl rfl (by decide) rfl ?_
          refine te_iconst (p2 := 76) (x := 0) rfl rfl (by decide) ?_
          refine te_istore (p2 := 78) (lv2 := [(5, .int 0), (4, .int 0), (0, .ref 164), (1, .int x1), (2, .int x2), (3, .int x3)]) rfl rfl (by decide) rfl ?_
          have lp71 : ∀ (n71 : Nat) (v71_4 v71_5 : Int32) , 0 ≤ v71_4.toInt → v71_4.toInt ≤ 0 → 0 ≤ v71_5.toInt → v71_5.toInt ≤ 40 → 40 - v71_5.toInt < (n71 : Int) → EvP im_K0 3 mX12_rail (78, [(0, .ref 164), (1, .int x1), (2, .int x2), (3, .int x3), (4, .int v71_4), (5, .int v71_5)], [], h) (mI h F_X12_rail (fun _ => True)) := by
            intro n71
            induction n71 with
            | zero => intro v71_4 v71_5 a71_4 b71_4 a71_5 b71_5 m71; exfalso; omega
            | succ n71 ih71 =>
              intro v71_4 v71_5 a71_4 b71_4 a71_5 b71_5 m71
              refine te_iload (p2 := 80) rfl rfl rfl ?_
              refine te_aload_n (p2 := 81) rfl rfl rfl ?_
              refine tg_r (p2 := 84) (i := 148) (r := 209) rfl rfl hI rfl rfl rfl ?_
              refine te_iload_n (p2 := 85) rfl rfl rfl ?_
              refine tl_e (p2 := 86) (i := 193) (n := 4) (t := 0) (Or.inl rfl) rfl rfl hI rfl rfl (by omega) (by omega) e7 ?_
              refine tb_ge (p2 := 89) rfl rfl rfl rfl (fun c73 => ?_) (fun c73 => ?_)
              · refine te_iload (p2 := 173) rfl rfl rfl ?_
                refine tz_ne (p2 := 176) rfl rfl rfl (fun c74 => absurd c74 (by omega)) (fun c74 => ?_)
                refine te_bipush (p2 := 178) (x := (-2)) rfl rfl (by decide) ?_
                exact te_iret rfl rfl ⟨hI, f0, _, rfl, trivial⟩
              · refine te_iload (p2 := 91) rfl rfl rfl ?_
                refine tz_eq (p2 := 94) rfl rfl rfl (fun c75 => ?_) (fun c75 => absurd c75 (by omega))
                refine te_iload (p2 := 173) rfl rfl rfl ?_
                refine tz_ne (p2 := 176) rfl rfl rfl (fun c76 => absurd c76 (by omega)) (fun c76 => ?_)
                refine te_bipush (p2 := 178) (x := (-2)) rfl rfl (by decide) ?_
                exact te_iret rfl rfl ⟨hI, f0, _, rfl, trivial⟩
          refine te_lv [(0, .ref 164), (1, .int x1), (2, .int x2), (3, .int x3), (4, .int 0), (5, .int 0)] rfl rfl ⟨rfl, rfl, rfl, rfl, rfl, rfl, trivial⟩ ?_
          exact lp71 41 0 0 (by decide) (by decide) (by decide) (by decide) (by have cc0 := (show Int32.toInt 0 = 0 from rfl); omega)
      · refine te_bipush (p2 := 32) (x := (-11)) rfl rfl (by decide) ?_
        exact te_iret rfl rfl ⟨hI, f0, _, rfl, trivial⟩
    · subst w3
      have cc3_1 := (show Int32.toInt 0 = 0 from rfl)
      have cc3_2 := (show Int32.toInt 3 = 3 from rfl)
      refine tz_ne (p2 := 18) rfl rfl (show Int32.toInt 0 = 0 from rfl) (fun c77 => absurd c77 (by omega)) (fun c77 => ?_)
      refine te_iconst (p2 := 19) (x := (-1)) rfl rfl (by decide) ?_
      exact te_iret rfl rfl ⟨hI, f0, _, rfl, trivial⟩
  · subst w1
    have cc1_1 := (show Int32.toInt 0 = 0 from rfl)
    have cc1_2 := (show Int32.toInt 2 = 2 from rfl)
    refine tz_eq (p2 := 9) rfl rfl (show Int32.toInt 0 = 0 from rfl) (fun c78 => ?_) (fun c78 => absurd c78 (by omega))
    refine te_iconst (p2 := 19) (x := (-1)) rfl rfl (by decide) ?_
    exact te_iret rfl rfl ⟨hI, f0, _, rfl, trivial⟩
