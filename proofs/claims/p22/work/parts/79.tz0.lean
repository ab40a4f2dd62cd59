set_option maxRecDepth 20000 in
set_option maxHeartbeats 4000000 in
theorem c_X9_allLoads {s : Nat} {h : im_H} (hI : tI h) (q_s : s = 23 ∨ s = 37 ∨ s = 51) : CaP 1 47 [.ref (16 + s)] h (pI h (fun y => y = sm (absX h s).ld 100)) := by
  refine cap_of (d := 0) (M := mX9_allLoads) rfl (Nat.le_of_ble_eq_true rfl) ?_
  show EvP im_K0 0 mX9_allLoads (0, [(0, .ref (16 + s))], [], h) _
  refine te_iconst (p2 := 1) (x := 0) rfl rfl (by decide) ?_
  refine te_istore_n (p2 := 2) (lv2 := [(1, .int 0), (0, .ref (16 + s))]) rfl rfl (by decide) rfl ?_
  refine te_iconst (p2 := 3) (x := 0) rfl rfl (by decide) ?_
  refine te_istore_n (p2 := 4) (lv2 := [(2, .int 0), (1, .int 0), (0, .ref (16 + s))]) rfl rfl (by decide) rfl ?_
  have lp1 : ∀ (n1 : Nat) (v1_1 v1_2 : Int32) , 0 ≤ v1_2.toInt → v1_2.toInt ≤ 100 → (v1_1 = sm (absX h s).ld v1_2.toInt.toNat) → 100 - v1_2.toInt < (n1 : Int) → EvP im_K0 0 mX9_allLoads (4, [(0, .ref (16 + s)), (1, .int v1_1), (2, .int v1_2)], [], h) (pI h (fun y => y = sm (absX h s).ld 100)) := by
    intro n1
    induction n1 with
    | zero => intro v1_1 v1_2 a1_2 b1_2 w1_0 m1; exfalso; omega
    | succ n1 ih1 =>
      intro v1_1 v1_2 a1_2 b1_2 w1_0 m1
      refine te_iload_n (p2 := 5) rfl rfl rfl ?_
      refine te_bipush (p2 := 7) (x := 100) rfl rfl (by decide) ?_
      refine tb_ge (p2 := 10) rfl rfl rfl (show Int32.toInt 100 = 100 from rfl) (fun c2 => ?_) (fun c2 => ?_)
      · refine te_iload_n (p2 := 26) rfl rfl rfl ?_
        exact te_iret rfl rfl ⟨rfl, _, rfl, (by rw [w1_0, show v1_2.toInt.toNat = 100 by omega])⟩
      · refine te_iload_n (p2 := 11) rfl rfl rfl ?_
        refine te_aload_n (p2 := 12) rfl rfl rfl ?_
        refine tg_r (p2 := 15) (i := s) (r := (16 + (s + 2))) rfl rfl hI rfl (by rcases q_s with rfl | rfl | rfl <;> rfl) (by rcases q_s with rfl | rfl | rfl <;> rfl) ?_
        refine te_iload_n (p2 := 16) rfl rfl rfl ?_
        refine tl_i (p2 := 17) (i := (s + 2)) (n := 100) rfl rfl hI rfl (by rcases q_s with rfl | rfl | rfl <;> rfl) (by rcases q_s with rfl | rfl | rfl <;> rfl) rfl (by omega) (by omega) (fun y3 a3 b3 g3 e3 => ?_)
        refine au_add (p2 := 18) rfl rfl (fun z4 e4 => ?_)
        refine te_istore_n (p2 := 19) (lv2 := [(1, .int z4), (0, .ref (16 + s)), (2, .int v1_2)]) rfl rfl (by decide) rfl ?_
        refine ar_inc (p2 := 22) (x := v1_2) rfl rfl (by decide) rfl (by decide) rfl (by omega) (by omega) (fun z5 e5 f5 => ?_)
        show EvP _ _ _ (22, [(2, .int z5), (1, .int z4), (0, .ref (16 + s))], [], h) _
        refine te_goto rfl ?_
        refine te_lv [(0, .ref (16 + s)), (1, .int z4), (2, .int z5)] rfl rfl ⟨rfl, rfl, rfl, trivial⟩ ?_
        exact ih1 z4 z5 (by omega) (by omega) (sm_s w1_0 ((aX_ld (by omega)).trans (rv_of e3)) e4 (by omega)) (by omega)
  refine te_lv [(0, .ref (16 + s)), (1, .int 0), (2, .int 0)] rfl rfl ⟨rfl, rfl, rfl, trivial⟩ ?_
  exact lp1 101 0 0 (by decide) (by decide) rfl (by have cc0 := (show Int32.toInt 0 = 0 from rfl); omega)
set_option maxRecDepth 20000 in
set_option maxHeartbeats 4000000 in
theorem c_X9_allDead {s : Nat} {h : im_H} (hI : tI h) (q_s : s = 23 ∨ s = 37 ∨ s = 51) : CaP 1 48 [.ref (16 + s)] h (pI h (fun y => y = sm (absX h s).de 24)) := by
  refine cap_of (d := 0) (M := mX9_allDead) rfl (Nat.le_of_ble_eq_true rfl) ?_
  show EvP im_K0 0 mX9_allDead (0, [(0, .ref (16 + s))], [], h) _
  refine te_iconst (p2 := 1) (x := 0) rfl rfl (by decide) ?_
  refine te_istore_n (p2 := 2) (lv2 := [(1, .int 0), (0, .ref (16 + s))]) rfl rfl (by decide) rfl ?_
  refine te_iconst (p2 := 3) (x := 0) rfl rfl (by decide) ?_
  refine te_istore_n (p2 := 4) (lv2 := [(2, .int 0), (1, .int 0), (0, .ref (16 + s))]) rfl rfl (by decide) rfl ?_
  have lp1 : ∀ (n1 : Nat) (v1_1 v1_2 : Int32) , 0 ≤ v1_2.toInt → v1_2.toInt ≤ 24 → (v1_1 = sm (absX h s).de v1_2.toInt.toNat) → 24 - v1_2.toInt < (n1 : Int) → EvP im_K0 0 mX9_allDead (4, [(0, .ref (16 + s)), (1, .int v1_1), (2, .int v1_2)], [], h) (pI h (fun y => y = sm (absX h s).de 24)) := by
    intro n1
    induction n1 with
    | zero => intro v1_1 v1_2 a1_2 b1_2 w1_0 m1; exfalso; omega
    | succ n1 ih1 =>
      intro v1_1 v1_2 a1_2 b1_2 w1_0 m1
      refine te_iload_n (p2 := 5) rfl rfl rfl ?_
      refine te_bipush (p2 := 7) (x := 24) rfl rfl (by decide) ?_
      refine tb_ge (p2 := 10) rfl rfl rfl (show Int32.toInt 24 = 24 from rfl) (fun c2 => ?_) (fun c2 => ?_)
      · refine te_iload_n (p2 := 34) rfl rfl rfl ?_
        exact te_iret rfl rfl ⟨rfl, _, rfl, (by rw [w1_0, show v1_2.toInt.toNat = 24 by omega])⟩
      · refine te_iload_n (p2 := 11) rfl rfl rfl ?_
        refine te_aload_n (p2 := 12) rfl rfl rfl ?_
        refine tg_r (p2 := 15) (i := s) (r := (16 + (s + 7))) rfl rfl hI rfl (by rcases q_s with rfl | rfl | rfl <;> rfl) (by rcases q_s with rfl | rfl | rfl <;> rfl) ?_
        refine te_iload_n (p2 := 16) rfl rfl rfl ?_
        refine tl_b (p2 := 17) (i := (s + 7)) (n := 24) rfl rfl hI rfl (by rcases q_s with rfl | rfl | rfl <;> rfl) (by rcases q_s with rfl | rfl | rfl <;> rfl) rfl (by omega) (by omega) (fun y3 a3 e3 => ?_)
        refine tz_eq (p2 := 20) rfl rfl rfl (fun c4 => ?_) (fun c4 => ?_)
        · refine te_iconst (p2 := 25) (x := 0) rfl rfl (by decide) ?_
          have n5_v1_1 := i32_lo v1_1
          have o5_v1_1 := i32_hi v1_1
          refine ar_add (p2 := 26) rfl rfl rfl (show Int32.toInt 0 = 0 from rfl) (by omega) (by omega) (fun z5 e5 f5 => ?_)
          refine te_istore_n (p2 := 27) (lv2 := [(1, .int z5), (0, .ref (16 + s)), (2, .int v1_2)]) rfl rfl (by decide) rfl ?_
          refine ar_inc (p2 := 30) (x := v1_2) rfl rfl (by decide) rfl (by decide) rfl (by omega) (by omega) (fun z6 e6 f6 => ?_)
          show EvP _ _ _ (30, [(2, .int z6), (1, .int z5), (0, .ref (16 + s))], [], h) _
          refine te_goto rfl ?_
          refine te_lv [(0, .ref (16 + s)), (1, .int z5), (2, .int z6)] rfl rfl ⟨rfl, rfl, rfl, trivial⟩ ?_
          exact ih1 z5 z6 (by omega) (by omega) (sm_s (y := 0) w1_0 ((aX_de (by omega)).trans ((rv_of e3).trans (i32_ext (by (have c0 := (show Int32.toInt 0 = 0 from rfl)); omega)))) e5 (by omega)) (by omega)
        · refine te_iconst (p2 := 21) (x := 1) rfl rfl (by decide) ?_
          refine te_goto rfl ?_
          refine au_add (p2 := 26) rfl rfl (fun z7 e7 => ?_)
          refine te_istore_n (p2 := 27) (lv2 := [(1, .int z7), (0, .ref (16 + s)), (2, .int v1_2)]) rfl rfl (by decide) rfl ?_
          refine ar_inc (p2 := 30) (x := v1_2) rfl rfl (by decide) rfl (by decide) rfl (by omega) (by omega) (fun z8 e8 f8 => ?_)
          show EvP _ _ _ (30, [(2, .int z8), (1, .int z7), (0, .ref (16 + s))], [], h) _
          refine te_goto rfl ?_
          refine te_lv [(0, .ref (16 + s)), (1, .int z7), (2, .int z8)] rfl rfl ⟨rfl, rfl, rfl, trivial⟩ ?_
          exact ih1 z7 z8 (by omega) (by omega) (sm_s (y := 1) w1_0 ((aX_de (by omega)).trans ((rv_of e3).trans (i32_ext (by (have c0 := (show Int32.toInt 1 = 1 from rfl)); omega)))) e7 (by omega)) (by omega)
  refine te_lv [(0, .ref (16 + s)), (1, .int 0), (2, .int 0)] rfl rfl ⟨rfl, rfl, rfl, trivial⟩ ?_
  exact lp1 25 0 0 (by decide) (by decide) rfl (by have cc0 := (show Int32.toInt 0 = 0 from rfl); omega)
set_option maxRecDepth 20000 in
set_option maxHeartbeats 4000000 in
theorem c_X12_sum {frm : Int32} {many : Int32} {h : im_H} (hI : tI h) (p_frm0 : 0 ≤ frm.toInt) (p_frm1 : frm.toInt ≤ 283) (p_many0 : 0 ≤ many.toInt) (p_many1 : many.toInt ≤ 283) (pr0 : frm.toInt + many.toInt ≤ 283) : CaP 1 163 [.ref 164, .int frm, .int many] h (pI h (fun y => y = sm (fun k => rv h 149 (frm.toInt.toNat + k)) many.toInt.toNat)) := by
  refine cap_of (d := 0) (M := mX12_sum) rfl (Nat.le_of_ble_eq_true rfl) ?_
  show EvP im_K0 0 mX12_sum (0, [(0, .ref 164), (1, .int frm), (2, .int many)], [], h) _
  refine te_iconst (p2 := 1) (x := 0) rfl rfl (by decide) ?_
  refine te_istore_n (p2 := 2) (lv2 := [(3, .int 0), (0, .ref 164), (1, .int frm), (2, .int many)]) rfl rfl (by decide) rfl ?_
  refine te_iconst (p2 := 3) (x := 0) rfl rfl (by decide) ?_
  refine te_istore (p2 := 5) (lv2 := [(4, .int 0), (3, .int 0), (0, .ref 164), (1, .int frm), (2, .int many)]) rfl rfl (by decide) rfl ?_
  have lp1 : ∀ (n1 : Nat) (v1_3 v1_4 : Int32) , 0 ≤ v1_4.toInt → v1_4.toInt ≤ 283 → v1_4.toInt ≤ many.toInt → (v1_3 = sm (fun k => rv h 149 (frm.toInt.toNat + k)) v1_4.toInt.toNat) → many.toInt - v1_4.toInt < (n1 : Int) → EvP im_K0 0 mX12_sum (5, [(0, .ref 164), (1, .int frm), (2, .int many), (3, .int v1_3), (4, .int v1_4)], [], h) (pI h (fun y => y = sm (fun k => rv h 149 (frm.toInt.toNat + k)) many.toInt.toNat)) := by
    intro n1
    induction n1 with
    | zero => intro v1_3 v1_4 a1_4 b1_4 l1_0 w1_0 m1; exfalso; omega
    | succ n1 ih1 =>
      intro v1_3 v1_4 a1_4 b1_4 l1_0 w1_0 m1
      refine te_iload (p2 := 7) rfl rfl rfl ?_
      refine te_iload_n (p2 := 8) rfl rfl rfl ?_
      refine tb_ge (p2 := 11) rfl rfl rfl rfl (fun c2 => ?_) (fun c2 => ?_)
      · refine te_iload_n (p2 := 30) rfl rfl rfl ?_
        exact te_iret rfl rfl ⟨rfl, _, rfl, (by rw [w1_0, show v1_4.toInt.toNat = many.toInt.toNat by omega])⟩
      · refine te_iload_n (p2 := 12) rfl rfl rfl ?_
        refine te_aload_n (p2 := 13) rfl rfl rfl ?_
        refine tg_r (p2 := 16) (i := 148) (r := 165) rfl rfl hI rfl rfl rfl ?_
        refine te_iload_n (p2 := 17) rfl rfl rfl ?_
        refine te_iload (p2 := 19) rfl rfl rfl ?_
        refine ar_add (p2 := 20) rfl rfl rfl rfl (by omega) (by omega) (fun z3 e3 f3 => ?_)
        refine tl_i (p2 := 21) (i := 149) (n := 283) rfl rfl hI rfl rfl rfl rfl (by omega) (by omega) (fun y4 a4 b4 g4 e4 => ?_)
        refine au_add (p2 := 22) rfl rfl (fun z5 e5 => ?_)
        refine te_istore_n (p2 := 23) (lv2 := [(3, .int z5), (0, .ref 164), (1, .int frm), (2, .int many), (4, .int v1_4)]) rfl rfl (by decide) rfl ?_
        refine ar_inc (p2 := 26) (x := v1_4) rfl rfl (by decide) rfl (by decide) rfl (by omega) (by omega) (fun z6 e6 f6 => ?_)
        show EvP _ _ _ (26, [(4, .int z6), (3, .int z5), (0, .ref 164), (1, .int frm), (2, .int many)], [], h) _
        refine te_goto rfl ?_
        refine te_lv [(0, .ref 164), (1, .int frm), (2, .int many), (3, .int z5), (4, .int z6)] rfl rfl ⟨rfl, rfl, rfl, rfl, rfl, trivial⟩ ?_
        exact ih1 z5 z6 (by omega) (by omega) (by omega) (sm_s w1_0 (by show rv h 149 (frm.toInt.toNat + v1_4.toInt.toNat) = _; rw [show frm.toInt.toNat + v1_4.toInt.toNat = z3.toInt.toNat by omega]; exact rv_of e4) e5 (by omega)) (by omega)
  refine te_lv [(0, .ref 164), (1, .int frm), (2, .int many), (3, .int 0), (4, .int 0)] rfl rfl ⟨rfl, rfl, rfl, rfl, rfl, trivial⟩ ?_
  exact lp1 284 0 0 (by decide) (by decide) (by have cc0 := (show Int32.toInt 0 = 0 from rfl); omega) rfl (by have cc0 := (show Int32.toInt 0 = 0 from rfl); omega)
def count_f (x1 : Int32) (c : Ct) (A : Dy) (o r t m d : Int32) : Int32 := if x1.toInt = 0 then A.da else if x1.toInt = 1 then sm A.ld 100 else if x1.toInt = 2 then A.ti else if x1.toInt = 3 then A.du else if x1.toInt = 4 then A.kp 0 else if x1.toInt = 5 then A.kp 1 else if x1.toInt = 6 then A.kp 2 else if x1.toInt = 7 then c.np else if x1.toInt = 8 then d else if x1.toInt = 9 then o else if x1.toInt = 10 then r else if x1.toInt = 11 then t else if x1.toInt = 12 then m else if x1.toInt = 13 then c.nw else -2
abbrev Q1_count (x1 : Int32) (y : Int32) (h h2 : im_H) : Prop := y = count_f x1 (cX h) (absX h 23) (rv h 0 7) (rv h 0 8) (rv h 65 1) (rv h 72 0) (sm (absX h 23).de 24)
set_option maxRecDepth 20000 in
set_option maxHeartbeats 4000000 in
theorem c_X11_count {x1 : Int32} {h : im_H} (hI : tI h)  : CaP 3 83 [.ref 16, .int x1] h (fun v h2 => tI h2 ∧ fr F_X11_count h h2 ∧ ∃ y : Int32, v = some (.int y) ∧ Q1_count x1 y h h2) := by
  refine cap_of (d := 2) (M := mX11_count) rfl (Nat.le_of_ble_eq_true rfl) ?_
  show EvP im_K0 2 mX11_count (0, [(0, .ref 16), (1, .int x1)], [], h) _
  have f0 : fr F_X11_count h h := fr_rf
  refine te_iload_n (p2 := 1) rfl rfl rfl ?_
  by_cases c1 : x1.toInt = 0
  · refine te_tsIn (k := 0) (p2 := 72) rfl c1 (by decide) (by decide) rfl (by decide) ?_
    refine te_aload_n (p2 := 73) rfl rfl rfl ?_
    refine tg_r (p2 := 76) (i := 0) (r := 39) rfl rfl hI rfl rfl rfl ?_
    refine tg_i (p2 := 79) (i := 23) rfl rfl hI rfl rfl rfl (fun y2 a2 b2 e2 => ?_)
    exact te_iret rfl rfl ⟨hI, f0, _, rfl, (by show y2 = count_f x1 (cX h) (absX h 23) (rv h 0 7) (rv h 0 8) (rv h 65 1) (rv h 72 0) (sm (absX h 23).de 24); unfold count_f; rw [if_pos (show x1.toInt = 0 by omega)]; exact (rv_of e2).symm)⟩
  · by_cases c3 : x1.toInt = 1
    · refine te_tsIn (k := 1) (p2 := 80) rfl c3 (by decide) (by decide) rfl (by decide) ?_
      refine te_aload_n (p2 := 81) rfl rfl rfl ?_
      refine tg_r (p2 := 84) (i := 0) (r := 39) rfl rfl hI rfl rfl rfl ?_
      refine cV_pI (p2 := 87) (i := 23) rfl rfl rfl rfl hI rfl rfl rfl (c_X9_allLoads (s := 23) hI (by decide)) (by decide) (fun y4 r4 => ?_)
      exact te_iret rfl rfl ⟨hI, f0, _, rfl, (by show y4 = count_f x1 (cX h) (absX h 23) (rv h 0 7) (rv h 0 8) (rv h 65 1) (rv h 72 0) (sm (absX h 23).de 24); unfold count_f; rw [if_neg (show ¬ x1.toInt = 0 by omega), if_pos (show x1.toInt = 1 by omega)]; exact r4)⟩
    · by_cases c5 : x1.toInt = 2
      · refine te_tsIn (k := 2) (p2 := 88) rfl c5 (by decide) (by decide) rfl (by decide) ?_
        refine te_aload_n (p2 := 89) rfl rfl rfl ?_
        refine tg_r (p2 := 92) (i := 0) (r := 39) rfl rfl hI rfl rfl rfl ?_
        refine tg_i (p2 := 95) (i := 23) rfl rfl hI rfl rfl rfl (fun y6 a6 b6 e6 => ?_)
        exact te_iret rfl rfl ⟨hI, f0, _, rfl, (by show y6 = count_f x1 (cX h) (absX h 23) (rv h 0 7) (rv h 0 8) (rv h 65 1) (rv h 72 0) (sm (absX h 23).de 24); unfold count_f; rw [if_neg (show ¬ x1.toInt = 0 by omega), if_neg (show ¬ x1.toInt = 1 by omega), if_pos (show x1.toInt = 2 by omega)]; exact (rv_of e6).symm)⟩
      · by_cases c7 : x1.toInt = 3
        · refine te_tsIn (k := 3) (p2 := 96) rfl c7 (by decide) (by decide) rfl (by decide) ?_
          refine te_aload_n (p2 := 97) rfl rfl rfl ?_
          refine tg_r (p2 := 100) (i := 0) (r := 39) rfl rfl hI rfl rfl rfl ?_
          refine tg_i (p2 := 103) (i := 23) rfl rfl hI rfl rfl rfl (fun y8 a8 b8 e8 => ?_)
          exact te_iret rfl rfl ⟨hI, f0, _, rfl, (by show y8 = count_f x1 (cX h) (absX h 23) (rv h 0 7) (rv h 0 8) (rv h 65 1) (rv h 72 0) (sm (absX h 23).de 24); unfold count_f; rw [if_neg (show ¬ x1.toInt = 0 by omega), if_neg (show ¬ x1.toInt = 1 by omega), if_neg (show ¬ x1.toInt = 2 by omega), if_pos (show x1.toInt = 3 by omega)]; exact (rv_of e8).symm)⟩
        · by_cases c9 : x1.toInt = 4
          · refine te_tsIn (k := 4) (p2 := 104) rfl c9 (by decide) (by decide) rfl (by decide) ?_
            refine te_aload_n (p2 := 105) rfl rfl rfl ?_
            refine tg_r (p2 := 108) (i := 0) (r := 39) rfl rfl hI rfl rfl rfl ?_
            refine tg_r (p2 := 111) (i := 23) (r := 40) rfl rfl hI rfl rfl rfl ?_
            refine te_iconst (p2 := 112) (x := 0) rfl rfl (by decide) ?_
            refine tl_i (p2 := 113) (i := 24) (n := 3) rfl rfl hI rfl rfl rfl rfl (by decide) (by decide) (fun y10 a10 b10 g10 e10 => ?_)
            exact te_iret rfl rfl ⟨hI, f0, _, rfl, (by show y10 = count_f x1 (cX h) (absX h 23) (rv h 0 7) (rv h 0 8) (rv h 65 1) (rv h 72 0) (sm (absX h 23).de 24); unfold count_f; rw [if_neg (show ¬ x1.toInt = 0 by omega), if_neg (show ¬ x1.toInt = 1 by omega), if_neg (show ¬ x1.toInt = 2 by omega), if_neg (show ¬ x1.toInt = 3 by omega), if_pos (show x1.toInt = 4 by omega)]; exact ((aX_kp (by decide)).trans (rv_of (k := 0) e10)).symm)⟩
          · by_cases c11 : x1.toInt = 5
            · refine te_tsIn (k := 5) (p2 := 114) rfl c11 (by decide) (by decide) rfl (by decide) ?_
              refine te_aload_n (p2 := 115) rfl rfl rfl ?_
              refine tg_r (p2 := 118) (i := 0) (r := 39) rfl rfl hI rfl rfl rfl ?_
              refine tg_r (p2 := 121) (i := 23) (r := 40) rfl rfl hI rfl rfl rfl ?_
              refine te_iconst (p2 := 122) (x := 1) rfl rfl (by decide) ?_
              refine tl_i (p2 := 123) (i := 24) (n := 3) rfl rfl hI rfl rfl rfl rfl (by decide) (by decide) (fun y12 a12 b12 g12 e12 => ?_)
              exact te_iret rfl rfl ⟨hI, f0, _, rfl, (by show y12 = count_f x1 (cX h) (absX h 23) (rv h 0 7) (rv h 0 8) (rv h 65 1) (rv h 72 0) (sm (absX h 23).de 24); unfold count_f; rw [if_neg (show ¬ x1.toInt = 0 by omega), if_neg (show ¬ x1.toInt = 1 by omega), if_neg (show ¬ x1.toInt = 2 by omega), if_neg (show ¬ x1.toInt = 3 by omega), if_neg (show ¬ x1.toInt = 4 by omega), if_pos (show x1.toInt = 5 by omega)]; exact ((aX_kp (by decide)).trans (rv_of (k := 1) e12)).symm)⟩
            · by_cases c13 : x1.toInt = 6
              · refine te_tsIn (k := 6) (p2 := 124) rfl c13 (by decide) (by decide) rfl (by decide) ?_
                refine te_aload_n (p2 := 125) rfl rfl rfl ?_
                refine tg_r (p2 := 128) (i := 0) (r := 39) rfl rfl hI rfl rfl rfl ?_
                refine tg_r (p2 := 131) (i := 23) (r := 40) rfl rfl hI rfl rfl rfl ?_
                refine te_iconst (p2 := 132) (x := 2) rfl rfl (by decide) ?_
                refine tl_i (p2 := 133) (i := 24) (n := 3) rfl rfl hI rfl rfl rfl rfl (by decide) (by decide) (fun y14 a14 b14 g14 e14 => ?_)
                exact te_iret rfl rfl ⟨hI, f0, _, rfl, (by show y14 = count_f x1 (cX h) (absX h 23) (rv h 0 7) (rv h 0 8) (rv h 65 1) (rv h 72 0) (sm (absX h 23).de 24); unfold count_f; rw [if_neg (show ¬ x1.toInt = 0 by omega), if_neg (show ¬ x1.toInt = 1 by omega), if_neg (show ¬ x1.toInt = 2 by omega), if_neg (show ¬ x1.toInt = 3 by omega), if_neg (show ¬ x1.toInt = 4 by omega), if_neg (show ¬ x1.toInt = 5 by omega), if_pos (show x1.toInt = 6 by omega)]; exact ((aX_kp (by decide)).trans (rv_of (k := 2) e14)).symm)⟩
              · by_cases c15 : x1.toInt = 7
                · refine te_tsIn (k := 7) (p2 := 134) rfl c15 (by decide) (by decide) rfl (by decide) ?_
                  refine te_aload_n (p2 := 135) rfl rfl rfl ?_
                  refine tg_r (p2 := 138) (i := 0) (r := 17) rfl rfl hI rfl rfl rfl ?_
                  refine tg_i (p2 := 141) (i := 1) rfl rfl hI rfl rfl rfl (fun y16 a16 b16 e16 => ?_)
                  exact te_iret rfl rfl ⟨hI, f0, _, rfl, (by show y16 = count_f x1 (cX h) (absX h 23) (rv h 0 7) (rv h 0 8) (rv h 65 1) (rv h 72 0) (sm (absX h 23).de 24); unfold count_f; rw [if_neg (show ¬ x1.toInt = 0 by omega), if_neg (show ¬ x1.toInt = 1 by omega), if_neg (show ¬ x1.toInt = 2 by omega), if_neg (show ¬ x1.toInt = 3 by omega), if_neg (show ¬ x1.toInt = 4 by omega), if_neg (show ¬ x1.toInt = 5 by omega), if_neg (show ¬ x1.toInt = 6 by omega), if_pos (show x1.toInt = 7 by omega)]; exact (rv_of e16).symm)⟩
                · by_cases c17 : x1.toInt = 8
                  · refine te_tsIn (k := 8) (p2 := 142) rfl c17 (by decide) (by decide) rfl (by decide) ?_
                    refine te_aload_n (p2 := 143) rfl rfl rfl ?_
                    refine tg_r (p2 := 146) (i := 0) (r := 39) rfl rfl hI rfl rfl rfl ?_
                    refine cV_pI (p2 := 149) (i := 23) rfl rfl rfl rfl hI rfl rfl rfl (c_X9_allDead (s := 23) hI (by decide)) (by decide) (fun y18 r18 => ?_)
                    exact te_iret rfl rfl ⟨hI, f0, _, rfl, (by show y18 = count_f x1 (cX h) (absX h 23) (rv h 0 7) (rv h 0 8) (rv h 65 1) (rv h 72 0) (sm (absX h 23).de 24); unfold count_f; rw [if_neg (show ¬ x1.toInt = 0 by omega), if_neg (show ¬ x1.toInt = 1 by omega), if_neg (show ¬ x1.toInt = 2 by omega), if_neg (show ¬ x1.toInt = 3 by omega), if_neg (show ¬ x1.toInt = 4 by omega), if_neg (show ¬ x1.toInt = 5 by omega), if_neg (show ¬ x1.toInt = 6 by omega), if_neg (show ¬ x1.toInt = 7 by omega), if_pos (show x1.toInt = 8 by omega)]; exact r18)⟩
                  · by_cases c19 : x1.toInt = 9
                    · refine te_tsIn (k := 9) (p2 := 150) rfl c19 (by decide) (by decide) rfl (by decide) ?_
                      refine te_aload_n (p2 := 151) rfl rfl rfl ?_
                      refine tg_i (p2 := 154) (i := 0) rfl rfl hI rfl rfl rfl (fun y20 a20 b20 e20 => ?_)
                      exact te_iret rfl rfl ⟨hI, f0, _, rfl, (by show y20 = count_f x1 (cX h) (absX h 23) (rv h 0 7) (rv h 0 8) (rv h 65 1) (rv h 72 0) (sm (absX h 23).de 24); unfold count_f; rw [if_neg (show ¬ x1.toInt = 0 by omega), if_neg (show ¬ x1.toInt = 1 by omega), if_neg (show ¬ x1.toInt = 2 by omega), if_neg (show ¬ x1.toInt = 3 by omega), if_neg (show ¬ x1.toInt = 4 by omega), if_neg (show ¬ x1.toInt = 5 by omega), if_neg (show ¬ x1.toInt = 6 by omega), if_neg (show ¬ x1.toInt = 7 by omega), if_neg (show ¬ x1.toInt = 8 by omega), if_pos (show x1.toInt = 9 by omega)]; exact (rv_of e20).symm)⟩
                    · by_cases c21 : x1.toInt = 10
                      · refine te_tsIn (k := 10) (p2 := 155) rfl c21 (by decide) (by decide) rfl (by decide) ?_
                        refine te_aload_n (p2 := 156) rfl rfl rfl ?_
                        refine tg_i (p2 := 159) (i := 0) rfl rfl hI rfl rfl rfl (fun y22 a22 b22 e22 => ?_)
                        exact te_iret rfl rfl ⟨hI, f0, _, rfl, (by show y22 = count_f x1 (cX h) (absX h 23) (rv h 0 7) (rv h 0 8) (rv h 65 1) (rv h 72 0) (sm (absX h 23).de 24); unfold count_f; rw [if_neg (show ¬ x1.toInt = 0 by omega), if_neg (show ¬ x1.toInt = 1 by omega), if_neg (show ¬ x1.toInt = 2 by omega), if_neg (show ¬ x1.toInt = 3 by omega), if_neg (show ¬ x1.toInt = 4 by omega), if_neg (show ¬ x1.toInt = 5 by omega), if_neg (show ¬ x1.toInt = 6 by omega), if_neg (show ¬ x1.toInt = 7 by omega), if_neg (show ¬ x1.toInt = 8 by omega), if_neg (show ¬ x1.toInt = 9 by omega), if_pos (show x1.toInt = 10 by omega)]; exact (rv_of e22).symm)⟩
                      · by_cases c23 : x1.toInt = 11
                        · refine te_tsIn (k := 11) (p2 := 160) rfl c23 (by decide) (by decide) rfl (by decide) ?_
                          refine te_aload_n (p2 := 161) rfl rfl rfl ?_
                          refine tg_r (p2 := 164) (i := 0) (r := 81) rfl rfl hI rfl rfl rfl ?_
                          refine tg_i (p2 := 167) (i := 65) rfl rfl hI rfl rfl rfl (fun y24 a24 b24 e24 => ?_)
                          exact te_iret rfl rfl ⟨hI, f0, _, rfl, (by show y24 = count_f x1 (cX h) (absX h 23) (rv h 0 7) (rv h 0 8) (rv h 65 1) (rv h 72 0) (sm (absX h 23).de 24); unfold count_f; rw [if_neg (show ¬ x1.toInt = 0 by omega), if_neg (show ¬ x1.toInt = 1 by omega), if_neg (show ¬ x1.toInt = 2 by omega), if_neg (show ¬ x1.toInt = 3 by omega), if_neg (show ¬ x1.toInt = 4 by omega), if_neg (show ¬ x1.toInt = 5 by omega), if_neg (show ¬ x1.toInt = 6 by omega), if_neg (show ¬ x1.toInt = 7 by omega), if_neg (show ¬ x1.toInt = 8 by omega), if_neg (show ¬ x1.toInt = 9 by omega), if_neg (show ¬ x1.toInt = 10 by omega), if_pos (show x1.toInt = 11 by omega)]; exact (rv_of e24).symm)⟩
                        · by_cases c25 : x1.toInt = 12
                          · refine te_tsIn (k := 12) (p2 := 168) rfl c25 (by decide) (by decide) rfl (by decide) ?_
                            refine te_aload_n (p2 := 169) rfl rfl rfl ?_
                            refine tg_r (p2 := 172) (i := 0) (r := 88) rfl rfl hI rfl rfl rfl ?_
                            refine tg_i (p2 := 175) (i := 72) rfl rfl hI rfl rfl rfl (fun y26 a26 b26 e26 => ?_)
                            exact te_iret rfl rfl ⟨hI, f0, _, rfl, (by show y26 = count_f x1 (cX h) (absX h 23) (rv h 0 7) (rv h 0 8) (rv h 65 1) (rv h 72 0) (sm (absX h 23).de 24); unfold count_f; rw [if_neg (show ¬ x1.toInt = 0 by omega), if_neg (show ¬ x1.toInt = 1 by omega), if_neg (show ¬ x1.toInt = 2 by omega), if_neg (show ¬ x1.toInt = 3 by omega), if_neg (show ¬ x1.toInt = 4 by omega), if_neg (show ¬ x1.toInt = 5 by omega), if_neg (show ¬ x1.toInt = 6 by omega), if_neg (show ¬ x1.toInt = 7 by omega), if_neg (show ¬ x1.toInt = 8 by omega), if_neg (show ¬ x1.toInt = 9 by omega), if_neg (show ¬ x1.toInt = 10 by omega), if_neg (show ¬ x1.toInt = 11 by omega), if_pos (show x1.toInt = 12 by omega)]; exact (rv_of e26).symm)⟩
                          · by_cases c27 : x1.toInt = 13
                            · refine te_tsIn (k := 13) (p2 := 176) rfl c27 (by decide) (by decide) rfl (by decide) ?_
                              refine te_aload_n (p2 := 177) rfl rfl rfl ?_
                              refine tg_r (p2 := 180) (i := 0) (r := 17) rfl rfl hI rfl rfl rfl ?_
                              refine tg_i (p2 := 183) (i := 1) rfl rfl hI rfl rfl rfl (fun y28 a28 b28 e28 => ?_)
                              exact te_iret rfl rfl ⟨hI, f0, _, rfl, (by show y28 = count_f x1 (cX h) (absX h 23) (rv h 0 7) (rv h 0 8) (rv h 65 1) (rv h 72 0) (sm (absX h 23).de 24); unfold count_f; rw [if_neg (show ¬ x1.toInt = 0 by omega), if_neg (show ¬ x1.toInt = 1 by omega), if_neg (show ¬ x1.toInt = 2 by omega), if_neg (show ¬ x1.toInt = 3 by omega), if_neg (show ¬ x1.toInt = 4 by omega), if_neg (show ¬ x1.toInt = 5 by omega), if_neg (show ¬ x1.toInt = 6 by omega), if_neg (show ¬ x1.toInt = 7 by omega), if_neg (show ¬ x1.toInt = 8 by omega), if_neg (show ¬ x1.toInt = 9 by omega), if_neg (show ¬ x1.toInt = 10 by omega), if_neg (show ¬ x1.toInt = 11 by omega), if_neg (show ¬ x1.toInt = 12 by omega), if_pos (show x1.toInt = 13 by omega)]; exact (rv_of e28).symm)⟩
                            · refine te_tsOut (p2 := 184) rfl (by omega) (by decide) ?_
                              refine te_bipush (p2 := 186) (x := (-2)) rfl rfl (by decide) ?_
                              exact te_iret rfl rfl ⟨hI, f0, _, rfl, (by show (-2) = count_f x1 (cX h) (absX h 23) (rv h 0 7) (rv h 0 8) (rv h 65 1) (rv h 72 0) (sm (absX h 23).de 24); unfold count_f; rw [if_neg (show ¬ x1.toInt = 0 by omega), if_neg (show ¬ x1.toInt = 1 by omega), if_neg (show ¬ x1.toInt = 2 by omega), if_neg (show ¬ x1.toInt = 3 by omega), if_neg (show ¬ x1.toInt = 4 by omega), if_neg (show ¬ x1.toInt = 5 by omega), if_neg (show ¬ x1.toInt = 6 by omega), if_neg (show ¬ x1.toInt = 7 by omega), if_neg (show ¬ x1.toInt = 8 by omega), if_neg (show ¬ x1.toInt = 9 by omega), if_neg (show ¬ x1.toInt = 10 by omega), if_neg (show ¬ x1.toInt = 11 by omega), if_neg (show ¬ x1.toInt = 12 by omega), if_neg (show ¬ x1.toInt = 13 by omega)])⟩
abbrev Q2_count (x1 : Int32) (y : Int32) (h h2 : im_H) : Prop := y = count_f x1 (cM h) (absM h) (rv h 148 46) (rv h 148 47) (rv h 148 45) (rv h 148 24) (sm (absM h).de (cM h).np.toInt.toNat)
set_option maxRecDepth 20000 in
set_option maxHeartbeats 4000000 in
theorem c_X12_count {x1 : Int32} {h : im_H} (hI : tI h)  : CaP 3 164 [.ref 164, .int x1] h (fun v h2 => tI h2 ∧ fr F_X12_count h h2 ∧ ∃ y : Int32, v = some (.int y) ∧ Q2_count x1 y h h2) := by
  refine cap_of (d := 2) (M := mX12_count) rfl (Nat.le_of_ble_eq_true rfl) ?_
  show EvP im_K0 2 mX12_count (0, [(0, .ref 164), (1, .int x1)], [], h) _
  have f0 : fr F_X12_count h h := fr_rf
  refine te_iload_n (p2 := 1) rfl rfl rfl ?_
  by_cases c1 : x1.toInt = 0
  · refine te_tsIn (k := 0) (p2 := 72) rfl c1 (by decide) (by decide) rfl (by decide) ?_
    refine te_aload_n (p2 := 73) rfl rfl rfl ?_
    refine tg_r (p2 := 76) (i := 148) (r := 165) rfl rfl hI rfl rfl rfl ?_
    refine te_bipush (p2 := 78) (x := 105) rfl rfl (by decide) ?_
    refine tl_i (p2 := 79) (i := 149) (n := 283) rfl rfl hI rfl rfl rfl rfl (by decide) (by decide) (fun y2 a2 b2 g2 e2 => ?_)
    exact te_iret rfl rfl ⟨hI, f0, _, rfl, (by show y2 = count_f x1 (cM h) (absM h) (rv h 148 46) (rv h 148 47) (rv h 148 45) (rv h 148 24) (sm (absM h).de (cM h).np.toInt.toNat); unfold count_f; rw [if_pos (show x1.toInt = 0 by omega)]; exact (rv_of (k := 105) e2).symm)⟩
  · by_cases c3 : x1.toInt = 1
    · refine te_tsIn (k := 1) (p2 := 80) rfl c3 (by decide) (by decide) rfl (by decide) ?_
      refine te_aload_n (p2 := 81) rfl rfl rfl ?_
      refine te_iconst (p2 := 82) (x := 0) rfl rfl (by decide) ?_
      refine te_bipush (p2 := 84) (x := 100) rfl rfl (by decide) ?_
      refine cV_pI (p2 := 87) (i := 148) rfl rfl rfl rfl hI rfl rfl rfl (c_X12_sum (frm := 0) (many := 100) hI (by decide) (by decide) (by decide) (by decide) (by have cq1 := (show Int32.toInt 0 = 0 from rfl); have cq2 := (show Int32.toInt 100 = 100 from rfl); omega)) (by decide) (fun y4 r4 => ?_)
      exact te_iret rfl rfl ⟨hI, f0, _, rfl, (by show y4 = count_f x1 (cM h) (absM h) (rv h 148 46) (rv h 148 47) (rv h 148 45) (rv h 148 24) (sm (absM h).de (cM h).np.toInt.toNat); unfold count_f; rw [if_neg (show ¬ x1.toInt = 0 by omega), if_pos (show x1.toInt = 1 by omega)]; rw [r4]; exact sm_c _ (fun k hk => (by (show rv h 149 (0 + k) = (absM h).ld k); rw [aM_ld hk, Nat.zero_add])))⟩
    · by_cases c5 : x1.toInt = 2
      · refine te_tsIn (k := 2) (p2 := 88) rfl c5 (by decide) (by decide) rfl (by decide) ?_
        refine te_aload_n (p2 := 89) rfl rfl rfl ?_
        refine tg_r (p2 := 92) (i := 148) (r := 165) rfl rfl hI rfl rfl rfl ?_
        refine te_bipush (p2 := 94) (x := 104) rfl rfl (by decide) ?_
        refine tl_i (p2 := 95) (i := 149) (n := 283) rfl rfl hI rfl rfl rfl rfl (by decide) (by decide) (fun y6 a6 b6 g6 e6 => ?_)
        exact te_iret rfl rfl ⟨hI, f0, _, rfl, (by show y6 = count_f x1 (cM h) (absM h) (rv h 148 46) (rv h 148 47) (rv h 148 45) (rv h 148 24) (sm (absM h).de (cM h).np.toInt.toNat); unfold count_f; rw [if_neg (show ¬ x1.toInt = 0 by omega), if_neg (show ¬ x1.toInt = 1 by omega), if_pos (show x1.toInt = 2 by omega)]; exact (rv_of (k := 104) e6).symm)⟩
      · by_cases c7 : x1.toInt = 3
        · refine te_tsIn (k := 3) (p2 := 96) rfl c7 (by decide) (by decide) rfl (by decide) ?_
          refine te_aload_n (p2 := 97) rfl rfl rfl ?_
          refine tg_r (p2 := 100) (i := 148) (r := 165) rfl rfl hI rfl rfl rfl ?_
          refine te_bipush (p2 := 102) (x := 103) rfl rfl (by decide) ?_
          refine tl_i (p2 := 103) (i := 149) (n := 283) rfl rfl hI rfl rfl rfl rfl (by decide) (by decide) (fun y8 a8 b8 g8 e8 => ?_)
          exact te_iret rfl rfl ⟨hI, f0, _, rfl, (by show y8 = count_f x1 (cM h) (absM h) (rv h 148 46) (rv h 148 47) (rv h 148 45) (rv h 148 24) (sm (absM h).de (cM h).np.toInt.toNat); unfold count_f; rw [if_neg (show ¬ x1.toInt = 0 by omega), if_neg (show ¬ x1.toInt = 1 by omega), if_neg (show ¬ x1.toInt = 2 by omega), if_pos (show x1.toInt = 3 by omega)]; exact (rv_of (k := 103) e8).symm)⟩
        · by_cases c9 : x1.toInt = 4
          · refine te_tsIn (k := 4) (p2 := 104) rfl c9 (by decide) (by decide) rfl (by decide) ?_
            refine te_aload_n (p2 := 105) rfl rfl rfl ?_
            refine tg_r (p2 := 108) (i := 148) (r := 165) rfl rfl hI rfl rfl rfl ?_
            refine te_bipush (p2 := 110) (x := 100) rfl rfl (by decide) ?_
            refine te_iload_n (p2 := 111) rfl rfl rfl ?_
            refine ar_add (p2 := 112) rfl rfl (show Int32.toInt 100 = 100 from rfl) rfl (by omega) (by omega) (fun z10 e10 f10 => ?_)
            refine te_iconst (p2 := 113) (x := 4) rfl rfl (by decide) ?_
            refine ar_sub (p2 := 114) rfl rfl rfl (show Int32.toInt 4 = 4 from rfl) (by omega) (by omega) (fun z11 e11 f11 => ?_)
            refine tl_i (p2 := 115) (i := 149) (n := 283) rfl rfl hI rfl rfl rfl rfl (by omega) (by omega) (fun y12 a12 b12 g12 e12 => ?_)
            exact te_iret rfl rfl ⟨hI, f0, _, rfl, (by show y12 = count_f x1 (cM h) (absM h) (rv h 148 46) (rv h 148 47) (rv h 148 45) (rv h 148 24) (sm (absM h).de (cM h).np.toInt.toNat); unfold count_f; rw [if_neg (show ¬ x1.toInt = 0 by omega), if_neg (show ¬ x1.toInt = 1 by omega), if_neg (show ¬ x1.toInt = 2 by omega), if_neg (show ¬ x1.toInt = 3 by omega), if_pos (show x1.toInt = 4 by omega)]; exact ((aM_kp (by decide)).trans (by rw [show 100 + 0 = z11.toInt.toNat by omega]; exact rv_of e12)).symm)⟩
          · by_cases c13 : x1.toInt = 5
            · refine te_tsIn (k := 5) (p2 := 104) rfl c13 (by decide) (by decide) rfl (by decide) ?_
              refine te_aload_n (p2 := 105) rfl rfl rfl ?_
              refine tg_r (p2 := 108) (i := 148) (r := 165) rfl rfl hI rfl rfl rfl ?_
              refine te_bipush (p2 := 110) (x := 100) rfl rfl (by decide) ?_
              refine te_iload_n (p2 := 111) rfl rfl rfl ?_
              refine ar_add (p2 := 112) rfl rfl (show Int32.toInt 100 = 100 from rfl) rfl (by omega) (by omega) (fun z14 e14 f14 => ?_)
              refine te_iconst (p2 := 113) (x := 4) rfl rfl (by decide) ?_
              refine ar_sub (p2 := 114) rfl rfl rfl (show Int32.toInt 4 = 4 from rfl) (by omega) (by omega) (fun z15 e15 f15 => ?_)
              refine tl_i (p2 := 115) (i := 149) (n := 283) rfl rfl hI rfl rfl rfl rfl (by omega) (by omega) (fun y16 a16 b16 g16 e16 => ?_)
              exact te_iret rfl rfl ⟨hI, f0, _, rfl, (by show y16 = count_f x1 (cM h) (absM h) (rv h 148 46) (rv h 148 47) (rv h 148 45) (rv h 148 24) (sm (absM h).de (cM h).np.toInt.toNat); unfold count_f; rw [if_neg (show ¬ x1.toInt = 0 by omega), if_neg (show ¬ x1.toInt = 1 by omega), if_neg (show ¬ x1.toInt = 2 by omega), if_neg (show ¬ x1.toInt = 3 by omega), if_neg (show ¬ x1.toInt = 4 by omega), if_pos (show x1.toInt = 5 by omega)]; exact ((aM_kp (by decide)).trans (by rw [show 100 + 1 = z15.toInt.toNat by omega]; exact rv_of e16)).symm)⟩
            · by_cases c17 : x1.toInt = 6
              · refine te_tsIn (k := 6) (p2 := 104) rfl c17 (by decide) (by decide) rfl (by decide) ?_
                refine te_aload_n (p2 := 105) rfl rfl rfl ?_
                refine tg_r (p2 := 108) (i := 148) (r := 165) rfl rfl hI rfl rfl rfl ?_
                refine te_bipush (p2 := 110) (x := 100) rfl rfl (by decide) ?_
                refine te_iload_n (p2 := 111) rfl rfl rfl ?_
                refine ar_add (p2 := 112) rfl rfl (show Int32.toInt 100 = 100 from rfl) rfl (by omega) (by omega) (fun z18 e18 f18 => ?_)
                refine te_iconst (p2 := 113) (x := 4) rfl rfl (by decide) ?_
                refine ar_sub (p2 := 114) rfl rfl rfl (show Int32.toInt 4 = 4 from rfl) (by omega) (by omega) (fun z19 e19 f19 => ?_)
                refine tl_i (p2 := 115) (i := 149) (n := 283) rfl rfl hI rfl rfl rfl rfl (by omega) (by omega) (fun y20 a20 b20 g20 e20 => ?_)
                exact te_iret rfl rfl ⟨hI, f0, _, rfl, (by show y20 = count_f x1 (cM h) (absM h) (rv h 148 46) (rv h 148 47) (rv h 148 45) (rv h 148 24) (sm (absM h).de (cM h).np.toInt.toNat); unfold count_f; rw [if_neg (show ¬ x1.toInt = 0 by omega), if_neg (show ¬ x1.toInt = 1 by omega), if_neg (show ¬ x1.toInt = 2 by omega), if_neg (show ¬ x1.toInt = 3 by omega), if_neg (show ¬ x1.toInt = 4 by omega), if_neg (show ¬ x1.toInt = 5 by omega), if_pos (show x1.toInt = 6 by omega)]; exact ((aM_kp (by decide)).trans (by rw [show 100 + 2 = z19.toInt.toNat by omega]; exact rv_of e20)).symm)⟩
              · by_cases c21 : x1.toInt = 7
                · refine te_tsIn (k := 7) (p2 := 116) rfl c21 (by decide) (by decide) rfl (by decide) ?_
                  refine te_aload_n (p2 := 117) rfl rfl rfl ?_
                  refine tg_i (p2 := 120) (i := 148) rfl rfl hI rfl rfl rfl (fun y22 a22 b22 e22 => ?_)
                  exact te_iret rfl rfl ⟨hI, f0, _, rfl, (by show y22 = count_f x1 (cM h) (absM h) (rv h 148 46) (rv h 148 47) (rv h 148 45) (rv h 148 24) (sm (absM h).de (cM h).np.toInt.toNat); unfold count_f; rw [if_neg (show ¬ x1.toInt = 0 by omega), if_neg (show ¬ x1.toInt = 1 by omega), if_neg (show ¬ x1.toInt = 2 by omega), if_neg (show ¬ x1.toInt = 3 by omega), if_neg (show ¬ x1.toInt = 4 by omega), if_neg (show ¬ x1.toInt = 5 by omega), if_neg (show ¬ x1.toInt = 6 by omega), if_pos (show x1.toInt = 7 by omega)]; exact (rv_of e22).symm)⟩
                · by_cases c23 : x1.toInt = 8
                  · refine te_tsIn (k := 8) (p2 := 121) rfl c23 (by decide) (by decide) rfl (by decide) ?_
                    refine te_aload_n (p2 := 122) rfl rfl rfl ?_
                    refine te_sipush (p2 := 125) (x := 236) rfl rfl (by decide) ?_
                    refine te_aload_n (p2 := 126) rfl rfl rfl ?_
                    refine tg_i (p2 := 129) (i := 148) rfl rfl hI rfl rfl rfl (fun y24 a24 b24 e24 => ?_)
                    refine cV_pI (p2 := 132) (i := 148) rfl rfl rfl rfl hI rfl rfl rfl (c_X12_sum (frm := 236) (many := y24) hI (by decide) (by decide) (by omega) (by omega) (by have cq1 := (show Int32.toInt 236 = 236 from rfl); omega)) (by decide) (fun y25 r25 => ?_)
                    exact te_iret rfl rfl ⟨hI, f0, _, rfl, (by show y25 = count_f x1 (cM h) (absM h) (rv h 148 46) (rv h 148 47) (rv h 148 45) (rv h 148 24) (sm (absM h).de (cM h).np.toInt.toNat); unfold count_f; rw [if_neg (show ¬ x1.toInt = 0 by omega), if_neg (show ¬ x1.toInt = 1 by omega), if_neg (show ¬ x1.toInt = 2 by omega), if_neg (show ¬ x1.toInt = 3 by omega), if_neg (show ¬ x1.toInt = 4 by omega), if_neg (show ¬ x1.toInt = 5 by omega), if_neg (show ¬ x1.toInt = 6 by omega), if_neg (show ¬ x1.toInt = 7 by omega), if_pos (show x1.toInt = 8 by omega)]; rw [r25, show (cM h).np = y24 from rv_of e24]; exact sm_c _ (fun k hk => (by (show rv h 149 (236 + k) = (absM h).de k); rw [aM_de (by omega)])))⟩
                  · by_cases c26 : x1.toInt = 9
                    · refine te_tsIn (k := 9) (p2 := 133) rfl c26 (by decide) (by decide) rfl (by decide) ?_
                      refine te_aload_n (p2 := 134) rfl rfl rfl ?_
                      refine tg_i (p2 := 137) (i := 148) rfl rfl hI rfl rfl rfl (fun y27 a27 b27 e27 => ?_)
                      exact te_iret rfl rfl ⟨hI, f0, _, rfl, (by show y27 = count_f x1 (cM h) (absM h) (rv h 148 46) (rv h 148 47) (rv h 148 45) (rv h 148 24) (sm (absM h).de (cM h).np.toInt.toNat); unfold count_f; rw [if_neg (show ¬ x1.toInt = 0 by omega), if_neg (show ¬ x1.toInt = 1 by omega), if_neg (show ¬ x1.toInt = 2 by omega), if_neg (show ¬ x1.toInt = 3 by omega), if_neg (show ¬ x1.toInt = 4 by omega), if_neg (show ¬ x1.toInt = 5 by omega), if_neg (show ¬ x1.toInt = 6 by omega), if_neg (show ¬ x1.toInt = 7 by omega), if_neg (show ¬ x1.toInt = 8 by omega), if_pos (show x1.toInt = 9 by omega)]; exact (rv_of e27).symm)⟩
                    · by_cases c28 : x1.toInt = 10
                      · refine te_tsIn (k := 10) (p2 := 138) rfl c28 (by decide) (by decide) rfl (by decide) ?_
                        refine te_aload_n (p2 := 139) rfl rfl rfl ?_
                        refine tg_i (p2 := 142) (i := 148) rfl rfl hI rfl rfl rfl (fun y29 a29 b29 e29 => ?_)
                        exact te_iret rfl rfl ⟨hI, f0, _, rfl, (by show y29 = count_f x1 (cM h) (absM h) (rv h 148 46) (rv h 148 47) (rv h 148 45) (rv h 148 24) (sm (absM h).de (cM h).np.toInt.toNat); unfold count_f; rw [if_neg (show ¬ x1.toInt = 0 by omega), if_neg (show ¬ x1.toInt = 1 by omega), if_neg (show ¬ x1.toInt = 2 by omega), if_neg (show ¬ x1.toInt = 3 by omega), if_neg (show ¬ x1.toInt = 4 by omega), if_neg (show ¬ x1.toInt = 5 by omega), if_neg (show ¬ x1.toInt = 6 by omega), if_neg (show ¬ x1.toInt = 7 by omega), if_neg (show ¬ x1.toInt = 8 by omega), if_neg (show ¬ x1.toInt = 9 by omega), if_pos (show x1.toInt = 10 by omega)]; exact (rv_of e29).symm)⟩
                      · by_cases c30 : x1.toInt = 11
                        · refine te_tsIn (k := 11) (p2 := 143) rfl c30 (by decide) (by decide) rfl (by decide) ?_
                          refine te_aload_n (p2 := 144) rfl rfl rfl ?_
                          refine tg_i (p2 := 147) (i := 148) rfl rfl hI rfl rfl rfl (fun y31 a31 b31 e31 => ?_)
                          exact te_iret rfl rfl ⟨hI, f0, _, rfl, (by show y31 = count_f x1 (cM h) (absM h) (rv h 148 46) (rv h 148 47) (rv h 148 45) (rv h 148 24) (sm (absM h).de (cM h).np.toInt.toNat); unfold count_f; rw [if_neg (show ¬ x1.toInt = 0 by omega), if_neg (show ¬ x1.toInt = 1 by omega), if_neg (show ¬ x1.toInt = 2 by omega), if_neg (show ¬ x1.toInt = 3 by omega), if_neg (show ¬ x1.toInt = 4 by omega), if_neg (show ¬ x1.toInt = 5 by omega), if_neg (show ¬ x1.toInt = 6 by omega), if_neg (show ¬ x1.toInt = 7 by omega), if_neg (show ¬ x1.toInt = 8 by omega), if_neg (show ¬ x1.toInt = 9 by omega), if_neg (show ¬ x1.toInt = 10 by omega), if_pos (show x1.toInt = 11 by omega)]; exact (rv_of e31).symm)⟩
                        · by_cases c32 : x1.toInt = 12
                          · refine te_tsIn (k := 12) (p2 := 148) rfl c32 (by decide) (by decide) rfl (by decide) ?_
                            refine te_aload_n (p2 := 149) rfl rfl rfl ?_
                            refine tg_i (p2 := 152) (i := 148) rfl rfl hI rfl rfl rfl (fun y33 a33 b33 e33 => ?_)
                            exact te_iret rfl rfl ⟨hI, f0, _, rfl, (by show y33 = count_f x1 (cM h) (absM h) (rv h 148 46) (rv h 148 47) (rv h 148 45) (rv h 148 24) (sm (absM h).de (cM h).np.toInt.toNat); unfold count_f; rw [if_neg (show ¬ x1.toInt = 0 by omega), if_neg (show ¬ x1.toInt = 1 by omega), if_neg (show ¬ x1.toInt = 2 by omega), if_neg (show ¬ x1.toInt = 3 by omega), if_neg (show ¬ x1.toInt = 4 by omega), if_neg (show ¬ x1.toInt = 5 by omega), if_neg (show ¬ x1.toInt = 6 by omega), if_neg (show ¬ x1.toInt = 7 by omega), if_neg (show ¬ x1.toInt = 8 by omega), if_neg (show ¬ x1.toInt = 9 by omega), if_neg (show ¬ x1.toInt = 10 by omega), if_neg (show ¬ x1.toInt = 11 by omega), if_pos (show x1.toInt = 12 by omega)]; exact (rv_of e33).symm)⟩
                          · by_cases c34 : x1.toInt = 13
                            · refine te_tsIn (k := 13) (p2 := 153) rfl c34 (by decide) (by decide) rfl (by decide) ?_
                              refine te_aload_n (p2 := 154) rfl rfl rfl ?_
                              refine tg_i (p2 := 157) (i := 148) rfl rfl hI rfl rfl rfl (fun y35 a35 b35 e35 => ?_)
                              exact te_iret rfl rfl ⟨hI, f0, _, rfl, (by show y35 = count_f x1 (cM h) (absM h) (rv h 148 46) (rv h 148 47) (rv h 148 45) (rv h 148 24) (sm (absM h).de (cM h).np.toInt.toNat); unfold count_f; rw [if_neg (show ¬ x1.toInt = 0 by omega), if_neg (show ¬ x1.toInt = 1 by omega), if_neg (show ¬ x1.toInt = 2 by omega), if_neg (show ¬ x1.toInt = 3 by omega), if_neg (show ¬ x1.toInt = 4 by omega), if_neg (show ¬ x1.toInt = 5 by omega), if_neg (show ¬ x1.toInt = 6 by omega), if_neg (show ¬ x1.toInt = 7 by omega), if_neg (show ¬ x1.toInt = 8 by omega), if_neg (show ¬ x1.toInt = 9 by omega), if_neg (show ¬ x1.toInt = 10 by omega), if_neg (show ¬ x1.toInt = 11 by omega), if_neg (show ¬ x1.toInt = 12 by omega), if_pos (show x1.toInt = 13 by omega)]; exact (rv_of e35).symm)⟩
                            · refine te_tsOut (p2 := 158) rfl (by omega) (by decide) ?_
                              refine te_bipush (p2 := 160) (x := (-2)) rfl rfl (by decide) ?_
                              exact te_iret rfl rfl ⟨hI, f0, _, rfl, (by show (-2) = count_f x1 (cM h) (absM h) (rv h 148 46) (rv h 148 47) (rv h 148 45) (rv h 148 24) (sm (absM h).de (cM h).np.toInt.toNat); unfold count_f; rw [if_neg (show ¬ x1.toInt = 0 by omega), if_neg (show ¬ x1.toInt = 1 by omega), if_neg (show ¬ x1.toInt = 2 by omega), if_neg (show ¬ x1.toInt = 3 by omega), if_neg (show ¬ x1.toInt = 4 by omega), if_neg (show ¬ x1.toInt = 5 by omega), if_neg (show ¬ x1.toInt = 6 by omega), if_neg (show ¬ x1.toInt = 7 by omega), if_neg (show ¬ x1.toInt = 8 by omega), if_neg (show ¬ x1.toInt = 9 by omega), if_neg (show ¬ x1.toInt = 10 by omega), if_neg (show ¬ x1.toInt = 11 by omega), if_neg (show ¬ x1.toInt = 12 by omega), if_neg (show ¬ x1.toInt = 13 by omega)])⟩
