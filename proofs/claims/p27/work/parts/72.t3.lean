set_option maxRecDepth 20000 in
set_option maxHeartbeats 4000000 in
theorem t_X11_areBeside {c : Int32} {o : Int32} {h : im_H} (hI : tI h) (p_c0 : 0 ≤ c.toInt) (p_c1 : c.toInt ≤ 99) : CaP 2 113 [.int c, .int o] h (pI h (fun y => 0 ≤ y.toInt ∧ y.toInt ≤ 1)) := by
  refine cap_of (d := 1) (M := mX11_areBeside) rfl (Nat.le_of_ble_eq_true rfl) ?_
  show EvP im_K0 1 mX11_areBeside (0, [(0, .int c), (1, .int o)], [], h) _
  refine te_iconst (p2 := 1) (x := 0) rfl rfl (by decide) ?_
  refine te_istore_n (p2 := 2) (lv2 := [(2, .int 0), (0, .int c), (1, .int o)]) rfl rfl (by decide) rfl ?_
  have lp1 : ∀ (n1 : Nat) (v1_2 : Int32) , 0 ≤ v1_2.toInt → v1_2.toInt ≤ 4 → 4 - v1_2.toInt < (n1 : Int) → EvP im_K0 1 mX11_areBeside (2, [(0, .int c), (1, .int o), (2, .int v1_2)], [], h) (pI h (fun y => 0 ≤ y.toInt ∧ y.toInt ≤ 1)) := by
    intro n1
    induction n1 with
    | zero => intro v1_2 a1_2 b1_2 m1; exfalso; omega
    | succ n1 ih1 =>
      intro v1_2 a1_2 b1_2 m1
      refine te_iload_n (p2 := 3) rfl rfl rfl ?_
      refine te_iconst (p2 := 4) (x := 4) rfl rfl (by decide) ?_
      refine tb_ge (p2 := 7) rfl rfl rfl (show Int32.toInt 4 = 4 from rfl) (fun c2 => ?_) (fun c2 => ?_)
      · refine te_iconst (p2 := 25) (x := 0) rfl rfl (by decide) ?_
        exact te_zret rfl rfl (by decide) ⟨rfl, _, rfl, by decide, by decide⟩
      · refine te_iload_n (p2 := 8) rfl rfl rfl ?_
        refine te_iload_n (p2 := 9) rfl rfl rfl ?_
        refine cS_pI (p2 := 12) rfl rfl rfl rfl (t_X11_cellOnSide (c := c) (side := v1_2) hI (by omega) (by omega)) (by decide) (fun y3 r3 => ?_)
        obtain ⟨a3, b3, e3⟩ := r3
        refine te_iload_n (p2 := 13) rfl rfl rfl ?_
        refine tb_ne (p2 := 16) rfl rfl rfl rfl (fun c4 => ?_) (fun c4 => ?_)
        · refine ar_inc (p2 := 21) (x := v1_2) rfl rfl (by decide) rfl (by decide) rfl (by omega) (by omega) (fun z5 e5 f5 => ?_)
          show EvP _ _ _ (21, [(2, .int z5), (0, .int c), (1, .int o)], [], h) _
          refine te_goto rfl ?_
          refine te_lv [(0, .int c), (1, .int o), (2, .int z5)] rfl rfl ⟨rfl, rfl, rfl, trivial⟩ ?_
          exact ih1 z5 (by omega) (by omega) (by omega)
        · refine te_iconst (p2 := 17) (x := 1) rfl rfl (by decide) ?_
          exact te_zret rfl rfl (by decide) ⟨rfl, _, rfl, by decide, by decide⟩
  refine te_lv [(0, .int c), (1, .int o), (2, .int 0)] rfl rfl ⟨rfl, rfl, rfl, trivial⟩ ?_
  exact lp1 5 0 (by decide) (by decide) (by have cc0 := (show Int32.toInt 0 = 0 from rfl); omega)
set_option maxRecDepth 20000 in
set_option maxHeartbeats 4000000 in
theorem t_X12_areBeside {c : Int32} {o : Int32} {h : im_H} (hI : tI h) (p_c0 : 0 ≤ c.toInt) (p_c1 : c.toInt ≤ 99) : CaP 2 121 [.int c, .int o] h (pI h (fun y => 0 ≤ y.toInt ∧ y.toInt ≤ 1)) := by
  refine cap_of (d := 1) (M := mX12_areBeside) rfl (Nat.le_of_ble_eq_true rfl) ?_
  show EvP im_K0 1 mX12_areBeside (0, [(0, .int c), (1, .int o)], [], h) _
  refine te_iconst (p2 := 1) (x := 0) rfl rfl (by decide) ?_
  refine te_istore_n (p2 := 2) (lv2 := [(2, .int 0), (0, .int c), (1, .int o)]) rfl rfl (by decide) rfl ?_
  have lp1 : ∀ (n1 : Nat) (v1_2 : Int32) , 0 ≤ v1_2.toInt → v1_2.toInt ≤ 4 → 4 - v1_2.toInt < (n1 : Int) → EvP im_K0 1 mX12_areBeside (2, [(0, .int c), (1, .int o), (2, .int v1_2)], [], h) (pI h (fun y => 0 ≤ y.toInt ∧ y.toInt ≤ 1)) := by
    intro n1
    induction n1 with
    | zero => intro v1_2 a1_2 b1_2 m1; exfalso; omega
    | succ n1 ih1 =>
      intro v1_2 a1_2 b1_2 m1
      refine te_iload_n (p2 := 3) rfl rfl rfl ?_
      refine te_iconst (p2 := 4) (x := 4) rfl rfl (by decide) ?_
      refine tb_ge (p2 := 7) rfl rfl rfl (show Int32.toInt 4 = 4 from rfl) (fun c2 => ?_) (fun c2 => ?_)
      · refine te_iconst (p2 := 25) (x := 0) rfl rfl (by decide) ?_
        exact te_zret rfl rfl (by decide) ⟨rfl, _, rfl, by decide, by decide⟩
      · refine te_iload_n (p2 := 8) rfl rfl rfl ?_
        refine te_iload_n (p2 := 9) rfl rfl rfl ?_
        refine cS_pI (p2 := 12) rfl rfl rfl rfl (t_X12_nextTo (c := c) (side := v1_2) hI (by omega) (by omega)) (by decide) (fun y3 r3 => ?_)
        obtain ⟨a3, b3, e3⟩ := r3
        refine te_iload_n (p2 := 13) rfl rfl rfl ?_
        refine tb_ne (p2 := 16) rfl rfl rfl rfl (fun c4 => ?_) (fun c4 => ?_)
        · refine ar_inc (p2 := 21) (x := v1_2) rfl rfl (by decide) rfl (by decide) rfl (by omega) (by omega) (fun z5 e5 f5 => ?_)
          show EvP _ _ _ (21, [(2, .int z5), (0, .int c), (1, .int o)], [], h) _
          refine te_goto rfl ?_
          refine te_lv [(0, .int c), (1, .int o), (2, .int z5)] rfl rfl ⟨rfl, rfl, rfl, trivial⟩ ?_
          exact ih1 z5 (by omega) (by omega) (by omega)
        · refine te_iconst (p2 := 17) (x := 1) rfl rfl (by decide) ?_
          exact te_zret rfl rfl (by decide) ⟨rfl, _, rfl, by decide, by decide⟩
  refine te_lv [(0, .int c), (1, .int o), (2, .int 0)] rfl rfl ⟨rfl, rfl, rfl, trivial⟩ ?_
  exact lp1 5 0 (by decide) (by decide) (by have cc0 := (show Int32.toInt 0 = 0 from rfl); omega)
set_option maxRecDepth 20000 in
set_option maxHeartbeats 4000000 in
theorem t_X11_isOfKind {kind : Int32} {wanted : Int32} {h : im_H} (hI : tI h) (p_kind0 : (-1) ≤ kind.toInt) (p_kind1 : kind.toInt ≤ 5) : CaP 1 114 [.int kind, .int wanted] h (pI h (fun y => 0 ≤ y.toInt ∧ y.toInt ≤ 1)) := by
  refine cap_of (d := 0) (M := mX11_isOfKind) rfl (Nat.le_of_ble_eq_true rfl) ?_
  show EvP im_K0 0 mX11_isOfKind (0, [(0, .int kind), (1, .int wanted)], [], h) _
  refine te_iload_n (p2 := 1) rfl rfl rfl ?_
  refine te_istore_n (p2 := 2) (lv2 := [(2, .int kind), (0, .int kind), (1, .int wanted)]) rfl rfl (by decide) rfl ?_
  refine te_iconst (p2 := 3) (x := 0) rfl rfl (by decide) ?_
  refine te_istore_n (p2 := 4) (lv2 := [(3, .int 0), (2, .int kind), (0, .int kind), (1, .int wanted)]) rfl rfl (by decide) rfl ?_
  have lp1 : ∀ (n1 : Nat) (v1_2 v1_3 : Int32) , (-1) ≤ v1_2.toInt → v1_2.toInt ≤ 5 → 0 ≤ v1_3.toInt → v1_3.toInt ≤ 3 → 3 - v1_3.toInt < (n1 : Int) → EvP im_K0 0 mX11_isOfKind (4, [(0, .int kind), (1, .int wanted), (2, .int v1_2), (3, .int v1_3)], [], h) (pI h (fun y => 0 ≤ y.toInt ∧ y.toInt ≤ 1)) := by
    intro n1
    induction n1 with
    | zero => intro v1_2 v1_3 a1_2 b1_2 a1_3 b1_3 m1; exfalso; omega
    | succ n1 ih1 =>
      intro v1_2 v1_3 a1_2 b1_2 a1_3 b1_3 m1
      refine te_iload_n (p2 := 5) rfl rfl rfl ?_
      refine te_iconst (p2 := 6) (x := 3) rfl rfl (by decide) ?_
      refine tb_ge (p2 := 9) rfl rfl rfl (show Int32.toInt 3 = 3 from rfl) (fun c2 => ?_) (fun c2 => ?_)
      · refine te_iconst (p2 := 34) (x := 0) rfl rfl (by decide) ?_
        exact te_zret rfl rfl (by decide) ⟨rfl, _, rfl, by decide, by decide⟩
      · refine te_iload_n (p2 := 10) rfl rfl rfl ?_
        refine te_iconst (p2 := 11) (x := (-1)) rfl rfl (by decide) ?_
        refine tb_eq (p2 := 14) rfl rfl rfl (show Int32.toInt (-1) = (-1) from rfl) (fun c3 => ?_) (fun c3 => ?_)
        · refine te_iconst (p2 := 34) (x := 0) rfl rfl (by decide) ?_
          exact te_zret rfl rfl (by decide) ⟨rfl, _, rfl, by decide, by decide⟩
        · refine te_iload_n (p2 := 15) rfl rfl rfl ?_
          refine te_iload_n (p2 := 16) rfl rfl rfl ?_
          refine tb_ne (p2 := 19) rfl rfl rfl rfl (fun c4 => ?_) (fun c4 => ?_)
          · refine te_gst (p2 := 24) rfl rfl (by decide) ?_
            refine te_iload_n (p2 := 25) rfl rfl rfl ?_
            refine tl_s (p2 := 26) (R := 4) (l := [(-1), 0, 0, 1, 2, 1]) (n := 6) (lo := (-1)) (hi := 2) rfl rfl (by decide) rfl rfl (by decide) (by omega) (by omega) (fun y5 a5 b5 e5 => ?_)
            refine te_istore_n (p2 := 27) (lv2 := [(2, .int y5), (0, .int kind), (1, .int wanted), (3, .int v1_3)]) rfl rfl (by decide) rfl ?_
            refine ar_inc (p2 := 30) (x := v1_3) rfl rfl (by decide) rfl (by decide) rfl (by omega) (by omega) (fun z6 e6 f6 => ?_)
            show EvP _ _ _ (30, [(3, .int z6), (2, .int y5), (0, .int kind), (1, .int wanted)], [], h) _
            refine te_goto rfl ?_
            refine te_lv [(0, .int kind), (1, .int wanted), (2, .int y5), (3, .int z6)] rfl rfl ⟨rfl, rfl, rfl, rfl, trivial⟩ ?_
            exact ih1 y5 z6 (by omega) (by omega) (by omega) (by omega) (by omega)
          · refine te_iconst (p2 := 20) (x := 1) rfl rfl (by decide) ?_
            exact te_zret rfl rfl (by decide) ⟨rfl, _, rfl, by decide, by decide⟩
  refine te_lv [(0, .int kind), (1, .int wanted), (2, .int kind), (3, .int 0)] rfl rfl ⟨rfl, rfl, rfl, rfl, trivial⟩ ?_
  exact lp1 4 kind 0 (by omega) (by omega) (by decide) (by decide) (by have cc0 := (show Int32.toInt 0 = 0 from rfl); omega)
set_option maxRecDepth 20000 in
set_option maxHeartbeats 4000000 in
theorem t_X12_isUnder {k : Int32} {of : Int32} {h : im_H} (hI : tI h)  : CaP 1 195 [.int k, .int of] h (pI h (fun y => 0 ≤ y.toInt ∧ y.toInt ≤ 1)) := by
  refine cap_of (d := 0) (M := mX12_isUnder) rfl (Nat.le_of_ble_eq_true rfl) ?_
  show EvP im_K0 0 mX12_isUnder (0, [(0, .int k), (1, .int of)], [], h) _
  refine te_iload_n (p2 := 1) rfl rfl rfl ?_
  refine tz_eq (p2 := 4) rfl rfl rfl (fun c1 => ?_) (fun c1 => ?_)
  · refine te_iconst (p2 := 35) (x := 1) rfl rfl (by decide) ?_
    refine te_goto rfl ?_
    exact te_zret rfl rfl (by decide) ⟨rfl, _, rfl, by decide, by decide⟩
  · refine te_iload_n (p2 := 5) rfl rfl rfl ?_
    refine te_iload_n (p2 := 6) rfl rfl rfl ?_
    refine tb_eq (p2 := 9) rfl rfl rfl rfl (fun c2 => ?_) (fun c2 => ?_)
    · refine te_iconst (p2 := 35) (x := 1) rfl rfl (by decide) ?_
      refine te_goto rfl ?_
      exact te_zret rfl rfl (by decide) ⟨rfl, _, rfl, by decide, by decide⟩
    · refine te_iload_n (p2 := 10) rfl rfl rfl ?_
      refine te_iconst (p2 := 11) (x := 1) rfl rfl (by decide) ?_
      refine tb_ne (p2 := 14) rfl rfl rfl (show Int32.toInt 1 = 1 from rfl) (fun c3 => ?_) (fun c3 => ?_)
      · refine te_iload_n (p2 := 25) rfl rfl rfl ?_
        refine te_iconst (p2 := 26) (x := 2) rfl rfl (by decide) ?_
        refine tb_ne (p2 := 29) rfl rfl rfl (show Int32.toInt 2 = 2 from rfl) (fun c4 => ?_) (fun c4 => ?_)
        · refine te_iconst (p2 := 39) (x := 0) rfl rfl (by decide) ?_
          exact te_zret rfl rfl (by decide) ⟨rfl, _, rfl, by decide, by decide⟩
        · refine te_iload_n (p2 := 30) rfl rfl rfl ?_
          refine te_iconst (p2 := 31) (x := 4) rfl rfl (by decide) ?_
          refine tb_ne (p2 := 34) rfl rfl rfl (show Int32.toInt 4 = 4 from rfl) (fun c5 => ?_) (fun c5 => ?_)
          · refine te_iconst (p2 := 39) (x := 0) rfl rfl (by decide) ?_
            exact te_zret rfl rfl (by decide) ⟨rfl, _, rfl, by decide, by decide⟩
          · refine te_iconst (p2 := 35) (x := 1) rfl rfl (by decide) ?_
            refine te_goto rfl ?_
            exact te_zret rfl rfl (by decide) ⟨rfl, _, rfl, by decide, by decide⟩
      · refine te_iload_n (p2 := 15) rfl rfl rfl ?_
        refine te_iconst (p2 := 16) (x := 3) rfl rfl (by decide) ?_
        refine tb_eq (p2 := 19) rfl rfl rfl (show Int32.toInt 3 = 3 from rfl) (fun c6 => ?_) (fun c6 => ?_)
        · refine te_iconst (p2 := 35) (x := 1) rfl rfl (by decide) ?_
          refine te_goto rfl ?_
          exact te_zret rfl rfl (by decide) ⟨rfl, _, rfl, by decide, by decide⟩
        · refine te_iload_n (p2 := 20) rfl rfl rfl ?_
          refine te_iconst (p2 := 21) (x := 5) rfl rfl (by decide) ?_
          refine tb_eq (p2 := 24) rfl rfl rfl (show Int32.toInt 5 = 5 from rfl) (fun c7 => ?_) (fun c7 => ?_)
          · refine te_iconst (p2 := 35) (x := 1) rfl rfl (by decide) ?_
            refine te_goto rfl ?_
            exact te_zret rfl rfl (by decide) ⟨rfl, _, rfl, by decide, by decide⟩
          · refine te_iload_n (p2 := 25) rfl rfl rfl ?_
            refine te_iconst (p2 := 26) (x := 2) rfl rfl (by decide) ?_
            refine tb_ne (p2 := 29) rfl rfl rfl (show Int32.toInt 2 = 2 from rfl) (fun c8 => ?_) (fun c8 => absurd c8 (by omega))
            refine te_iconst (p2 := 39) (x := 0) rfl rfl (by decide) ?_
            exact te_zret rfl rfl (by decide) ⟨rfl, _, rfl, by decide, by decide⟩
set_option maxRecDepth 20000 in
set_option maxHeartbeats 4000000 in
theorem t_X11_greatestDivisor {a : Int32} {b : Int32} {h : im_H} (hI : tI h)  : CaP 1 115 [.int a, .int b] h (pI h (fun _ => True)) := by
  refine cap_of (d := 0) (M := mX11_greatestDivisor) rfl (Nat.le_of_ble_eq_true rfl) ?_
  show EvP im_K0 0 mX11_greatestDivisor (0, [(0, .int a), (1, .int b)], [], h) _
  refine te_iload_n (p2 := 1) rfl rfl rfl ?_
  refine te_istore_n (p2 := 2) (lv2 := [(2, .int a), (0, .int a), (1, .int b)]) rfl rfl (by decide) rfl ?_
  refine te_iload_n (p2 := 3) rfl rfl rfl ?_
  refine te_istore_n (p2 := 4) (lv2 := [(3, .int b), (2, .int a), (0, .int a), (1, .int b)]) rfl rfl (by decide) rfl ?_
  refine te_iconst (p2 := 5) (x := 0) rfl rfl (by decide) ?_
  refine te_istore (p2 := 7) (lv2 := [(4, .int 0), (3, .int b), (2, .int a), (0, .int a), (1, .int b)]) rfl rfl (by decide) rfl ?_
  have lp1 : ∀ (n1 : Nat) (v1_2 v1_3 v1_4 : Int32) , 0 ≤ v1_4.toInt → v1_4.toInt ≤ 64 → 64 - v1_4.toInt < (n1 : Int) → EvP im_K0 0 mX11_greatestDivisor (7, [(0, .int a), (1, .int b), (2, .int v1_2), (3, .int v1_3), (4, .int v1_4)], [], h) (pI h (fun _ => True)) := by
    intro n1
    induction n1 with
    | zero => intro v1_2 v1_3 v1_4 a1_4 b1_4 m1; exfalso; omega
    | succ n1 ih1 =>
      intro v1_2 v1_3 v1_4 a1_4 b1_4 m1
      refine te_iload (p2 := 9) rfl rfl rfl ?_
      refine te_bipush (p2 := 11) (x := 64) rfl rfl (by decide) ?_
      refine tb_ge (p2 := 14) rfl rfl rfl (show Int32.toInt 64 = 64 from rfl) (fun c2 => ?_) (fun c2 => ?_)
      · refine te_iload_n (p2 := 35) rfl rfl rfl ?_
        exact te_iret rfl rfl ⟨rfl, _, rfl, trivial⟩
      · refine te_iload_n (p2 := 15) rfl rfl rfl ?_
        refine tz_eq (p2 := 18) rfl rfl rfl (fun c3 => ?_) (fun c3 => ?_)
        · refine te_iload_n (p2 := 35) rfl rfl rfl ?_
          exact te_iret rfl rfl ⟨rfl, _, rfl, trivial⟩
        · refine te_iload_n (p2 := 19) rfl rfl rfl ?_
          refine te_iload_n (p2 := 20) rfl rfl rfl ?_
          refine au_rem (p2 := 21) rfl rfl rfl (by omega) (fun z4 e4 => ?_)
          refine te_istore (p2 := 23) (lv2 := [(5, .int z4), (0, .int a), (1, .int b), (2, .int v1_2), (3, .int v1_3), (4, .int v1_4)]) rfl rfl (by decide) rfl ?_
          refine te_iload_n (p2 := 24) rfl rfl rfl ?_
          refine te_istore_n (p2 := 25) (lv2 := [(2, .int v1_3), (5, .int z4), (0, .int a), (1, .int b), (3, .int v1_3), (4, .int v1_4)]) rfl rfl (by decide) rfl ?_
          refine te_iload (p2 := 27) rfl rfl rfl ?_
          refine te_istore_n (p2 := 28) (lv2 := [(3, .int z4), (2, .int v1_3), (5, .int z4), (0, .int a), (1, .int b), (4, .int v1_4)]) rfl rfl (by decide) rfl ?_
          refine ar_inc (p2 := 31) (x := v1_4) rfl rfl (by decide) rfl (by decide) rfl (by omega) (by omega) (fun z5 e5 f5 => ?_)
          show EvP _ _ _ (31, [(4, .int z5), (3, .int z4), (2, .int v1_3), (5, .int z4), (0, .int a), (1, .int b)], [], h) _
          refine te_goto rfl ?_
          refine te_lv [(0, .int a), (1, .int b), (2, .int v1_3), (3, .int z4), (4, .int z5)] rfl rfl ⟨rfl, rfl, rfl, rfl, rfl, trivial⟩ ?_
          exact ih1 v1_3 z4 z5 (by omega) (by omega) (by omega)
  refine te_lv [(0, .int a), (1, .int b), (2, .int a), (3, .int b), (4, .int 0)] rfl rfl ⟨rfl, rfl, rfl, rfl, rfl, trivial⟩ ?_
  exact lp1 65 a b 0 (by decide) (by decide) (by have cc0 := (show Int32.toInt 0 = 0 from rfl); omega)
set_option maxRecDepth 20000 in
set_option maxHeartbeats 4000000 in
theorem t_X9_allLoads {s : Nat} {h : im_H} (hI : tI h) (q_s : s = 23 ∨ s = 37 ∨ s = 51) : CaP 1 47 [.ref (16 + s)] h (pI h (fun _ => True)) := by
  refine cap_of (d := 0) (M := mX9_allLoads) rfl (Nat.le_of_ble_eq_true rfl) ?_
  show EvP im_K0 0 mX9_allLoads (0, [(0, .ref (16 + s))], [], h) _
  refine te_iconst (p2 := 1) (x := 0) rfl rfl (by decide) ?_
  refine te_istore_n (p2 := 2) (lv2 := [(1, .int 0), (0, .ref (16 + s))]) rfl rfl (by decide) rfl ?_
  refine te_iconst (p2 := 3) (x := 0) rfl rfl (by decide) ?_
  refine te_istore_n (p2 := 4) (lv2 := [(2, .int 0), (1, .int 0), (0, .ref (16 + s))]) rfl rfl (by decide) rfl ?_
  have lp1 : ∀ (n1 : Nat) (v1_1 v1_2 : Int32) , 0 ≤ v1_2.toInt → v1_2.toInt ≤ 100 → 100 - v1_2.toInt < (n1 : Int) → EvP im_K0 0 mX9_allLoads (4, [(0, .ref (16 + s)), (1, .int v1_1), (2, .int v1_2)], [], h) (pI h (fun _ => True)) := by
    intro n1
    induction n1 with
    | zero => intro v1_1 v1_2 a1_2 b1_2 m1; exfalso; omega
    | succ n1 ih1 =>
      intro v1_1 v1_2 a1_2 b1_2 m1
      refine te_iload_n (p2 := 5) rfl rfl rfl ?_
      refine te_bipush (p2 := 7) (x := 100) rfl rfl (by decide) ?_
      refine tb_ge (p2 := 10) rfl rfl rfl (show Int32.toInt 100 = 100 from rfl) (fun c2 => ?_) (fun c2 => ?_)
      · refine te_iload_n (p2 := 26) rfl rfl rfl ?_
        exact te_iret rfl rfl ⟨rfl, _, rfl, trivial⟩
      · refine te_iload_n (p2 := 11) rfl rfl rfl ?_
        refine te_aload_n (p2 := 12) rfl rfl rfl ?_
        refine tg_r (p2 := 15) (i := s) (r := (16 + (s + 2))) rfl rfl hI rfl (by rcases q_s with rfl | rfl | rfl <;> rfl) (by rcases q_s with rfl | rfl | rfl <;> rfl) ?_
        refine te_iload_n (p2 := 16) rfl rfl rfl ?_
        refine tl_i (p2 := 17) (i := (s + 2)) (n := 100) rfl rfl hI rfl (by rcases q_s with rfl | rfl | rfl <;> rfl) (by rcases q_s with rfl | rfl | rfl <;> rfl) rfl (by omega) (by omega) (fun y3 a3 b3 g3 e3 => ?_)
        refine au_add (p2 := 18) rfl rfl (fun z4 e4 => ?_)
        refine te_istore_n (p2 := 19) (lv2 := [(1, .int z4), (0, .ref (16 + s)), (2, .int v1_2)]) rfl rfl (by decide) rfl ?_
        refine ar_inc (p2 := 22) (x := v1_2) rfl rfl (by decide) rfl (by decide) rfl (by omega) (by omega) (fun z5 e5 f5 => ?_)
        show EvP _ _ _ (22, [(2, .int z5), (1, .int z4), (0, .ref (16 + s))], [], h) _
        refine te_goto rfl ?_
        refine te_lv [(0, .ref (16 + s)), (1, .int z4), (2, .int z5)] rfl rfl ⟨rfl, rfl, rfl, trivial⟩ ?_
        exact ih1 z4 z5 (by omega) (by omega) (by omega)
  refine te_lv [(0, .ref (16 + s)), (1, .int 0), (2, .int 0)] rfl rfl ⟨rfl, rfl, rfl, trivial⟩ ?_
  exact lp1 101 0 0 (by decide) (by decide) (by have cc0 := (show Int32.toInt 0 = 0 from rfl); omega)
set_option maxRecDepth 20000 in
set_option maxHeartbeats 4000000 in
theorem t_X9_allDead {s : Nat} {h : im_H} (hI : tI h) (q_s : s = 23 ∨ s = 37 ∨ s = 51) : CaP 1 48 [.ref (16 + s)] h (pI h (fun _ => True)) := by
  refine cap_of (d := 0) (M := mX9_allDead) rfl (Nat.le_of_ble_eq_true rfl) ?_
  show EvP im_K0 0 mX9_allDead (0, [(0, .ref (16 + s))], [], h) _
  refine te_iconst (p2 := 1) (x := 0) rfl rfl (by decide) ?_
  refine te_istore_n (p2 := 2) (lv2 := [(1, .int 0), (0, .ref (16 + s))]) rfl rfl (by decide) rfl ?_
  refine te_iconst (p2 := 3) (x := 0) rfl rfl (by decide) ?_
  refine te_istore_n (p2 := 4) (lv2 := [(2, .int 0), (1, .int 0), (0, .ref (16 + s))]) rfl rfl (by decide) rfl ?_
  have lp1 : ∀ (n1 : Nat) (v1_1 v1_2 : Int32) , 0 ≤ v1_2.toInt → v1_2.toInt ≤ 24 → 24 - v1_2.toInt < (n1 : Int) → EvP im_K0 0 mX9_allDead (4, [(0, .ref (16 + s)), (1, .int v1_1), (2, .int v1_2)], [], h) (pI h (fun _ => True)) := by
    intro n1
    induction n1 with
    | zero => intro v1_1 v1_2 a1_2 b1_2 m1; exfalso; omega
    | succ n1 ih1 =>
      intro v1_1 v1_2 a1_2 b1_2 m1
      refine te_iload_n (p2 := 5) rfl rfl rfl ?_
      refine te_bipush (p2 := 7) (x := 24) rfl rfl (by decide) ?_
      refine tb_ge (p2 := 10) rfl rfl rfl (show Int32.toInt 24 = 24 from rfl) (fun c2 => ?_) (fun c2 => ?_)
      · refine te_iload_n (p2 := 34) rfl rfl rfl ?_
        exact te_iret rfl rfl ⟨rfl, _, rfl, trivial⟩
      · refine te_iload_n (p2 := 11) rfl rfl rfl ?_
        refine te_aload_n (p2 := 12) rfl rfl rfl ?_
        refine tg_r (p2 := 15) (i := s) (r := (16 + (s + 7))) rfl rfl hI rfl (by rcases q_s with rfl | rfl | rfl <;> rfl) (by rcases q_s with rfl | rfl | rfl <;> rfl) ?_
        refine te_iload_n (p2 := 16) rfl rfl rfl ?_
        refine tl_b (p2 := 17) (i := (s + 7)) (n := 24) rfl rfl hI rfl (by rcases q_s with rfl | rfl | rfl <;> rfl) (by rcases q_s with rfl | rfl | rfl <;> rfl) rfl (by omega) (by omega) (fun y3 a3 e3 => ?_)
        refine tz_eq (p2 := 20) rfl rfl rfl (fun c4 => ?_) (fun c4 => ?_)
        · refine te_iconst (p2 := 25) (x := 0) rfl rfl (by decide) ?_
          have n5_v1_1 := i32_lo v1_1
          have o5_v1_1 := i32_hi v1_1
          refine ar_add (p2 := 26) rfl rfl rfl (show Int32.toInt 0 = 0 from rfl) (by omega) (by omega) (fun z5 e5 f5 => ?_)
          refine te_istore_n (p2 := 27) (lv2 := [(1, .int z5), (0, .ref (16 + s)), (2, .int v1_2)]) rfl rfl (by decide) rfl ?_
          refine ar_inc (p2 := 30) (x := v1_2) rfl rfl (by decide) rfl (by decide) rfl (by omega) (by omega) (fun z6 e6 f6 => ?_)
          show EvP _ _ _ (30, [(2, .int z6), (1, .int z5), (0, .ref (16 + s))], [], h) _
          refine te_goto rfl ?_
          refine te_lv [(0, .ref (16 + s)), (1, .int z5), (2, .int z6)] rfl rfl ⟨rfl, rfl, rfl, trivial⟩ ?_
          exact ih1 z5 z6 (by omega) (by omega) (by omega)
        · refine te_iconst (p2 := 21) (x := 1) rfl rfl (by decide) ?_
          refine te_goto rfl ?_
          refine au_add (p2 := 26) rfl rfl (fun z7 e7 => ?_)
          refine te_istore_n (p2 := 27) (lv2 := [(1, .int z7), (0, .ref (16 + s)), (2, .int v1_2)]) rfl rfl (by decide) rfl ?_
          refine ar_inc (p2 := 30) (x := v1_2) rfl rfl (by decide) rfl (by decide) rfl (by omega) (by omega) (fun z8 e8 f8 => ?_)
          show EvP _ _ _ (30, [(2, .int z8), (1, .int z7), (0, .ref (16 + s))], [], h) _
          refine te_goto rfl ?_
          refine te_lv [(0, .ref (16 + s)), (1, .int z7), (2, .int z8)] rfl rfl ⟨rfl, rfl, rfl, trivial⟩ ?_
          exact ih1 z7 z8 (by omega) (by omega) (by omega)
  refine te_lv [(0, .ref (16 + s)), (1, .int 0), (2, .int 0)] rfl rfl ⟨rfl, rfl, rfl, trivial⟩ ?_
  exact lp1 25 0 0 (by decide) (by decide) (by have cc0 := (show Int32.toInt 0 = 0 from rfl); omega)
set_option maxRecDepth 20000 in
set_option maxHeartbeats 4000000 in
theorem t_X9_allHurt {s : Nat} {h : im_H} (hI : tI h) (q_s : s = 23 ∨ s = 37 ∨ s = 51) : CaP 1 49 [.ref (16 + s)] h (pI h (fun _ => True)) := by
  refine cap_of (d := 0) (M := mX9_allHurt) rfl (Nat.le_of_ble_eq_true rfl) ?_
  show EvP im_K0 0 mX9_allHurt (0, [(0, .ref (16 + s))], [], h) _
  refine te_iconst (p2 := 1) (x := 0) rfl rfl (by decide) ?_
  refine te_istore_n (p2 := 2) (lv2 := [(1, .int 0), (0, .ref (16 + s))]) rfl rfl (by decide) rfl ?_
  refine te_iconst (p2 := 3) (x := 0) rfl rfl (by decide) ?_
  refine te_istore_n (p2 := 4) (lv2 := [(2, .int 0), (1, .int 0), (0, .ref (16 + s))]) rfl rfl (by decide) rfl ?_
  have lp1 : ∀ (n1 : Nat) (v1_1 v1_2 : Int32) , 0 ≤ v1_2.toInt → v1_2.toInt ≤ 24 → 24 - v1_2.toInt < (n1 : Int) → EvP im_K0 0 mX9_allHurt (4, [(0, .ref (16 + s)), (1, .int v1_1), (2, .int v1_2)], [], h) (pI h (fun _ => True)) := by
    intro n1
    induction n1 with
    | zero => intro v1_1 v1_2 a1_2 b1_2 m1; exfalso; omega
    | succ n1 ih1 =>
      intro v1_1 v1_2 a1_2 b1_2 m1
      refine te_iload_n (p2 := 5) rfl rfl rfl ?_
      refine te_bipush (p2 := 7) (x := 24) rfl rfl (by decide) ?_
      refine tb_ge (p2 := 10) rfl rfl rfl (show Int32.toInt 24 = 24 from rfl) (fun c2 => ?_) (fun c2 => ?_)
      · refine te_iload_n (p2 := 26) rfl rfl rfl ?_
        exact te_iret rfl rfl ⟨rfl, _, rfl, trivial⟩
      · refine te_iload_n (p2 := 11) rfl rfl rfl ?_
        refine te_aload_n (p2 := 12) rfl rfl rfl ?_
        refine tg_r (p2 := 15) (i := s) (r := (16 + (s + 4))) rfl rfl hI rfl (by rcases q_s with rfl | rfl | rfl <;> rfl) (by rcases q_s with rfl | rfl | rfl <;> rfl) ?_
        refine te_iload_n (p2 := 16) rfl rfl rfl ?_
        refine tl_i (p2 := 17) (i := (s + 4)) (n := 24) rfl rfl hI rfl (by rcases q_s with rfl | rfl | rfl <;> rfl) (by rcases q_s with rfl | rfl | rfl <;> rfl) rfl (by omega) (by omega) (fun y3 a3 b3 g3 e3 => ?_)
        refine au_add (p2 := 18) rfl rfl (fun z4 e4 => ?_)
        refine te_istore_n (p2 := 19) (lv2 := [(1, .int z4), (0, .ref (16 + s)), (2, .int v1_2)]) rfl rfl (by decide) rfl ?_
        refine ar_inc (p2 := 22) (x := v1_2) rfl rfl (by decide) rfl (by decide) rfl (by omega) (by omega) (fun z5 e5 f5 => ?_)
        show EvP _ _ _ (22, [(2, .int z5), (1, .int z4), (0, .ref (16 + s))], [], h) _
        refine te_goto rfl ?_
        refine te_lv [(0, .ref (16 + s)), (1, .int z4), (2, .int z5)] rfl rfl ⟨rfl, rfl, rfl, trivial⟩ ?_
        exact ih1 z4 z5 (by omega) (by omega) (by omega)
  refine te_lv [(0, .ref (16 + s)), (1, .int 0), (2, .int 0)] rfl rfl ⟨rfl, rfl, rfl, trivial⟩ ?_
  exact lp1 25 0 0 (by decide) (by decide) (by have cc0 := (show Int32.toInt 0 = 0 from rfl); omega)
set_option maxRecDepth 20000 in
set_option maxHeartbeats 4000000 in
theorem t_X12_sum {frm : Int32} {many : Int32} {h : im_H} (hI : tI h) (p_frm0 : 0 ≤ frm.toInt) (p_frm1 : frm.toInt ≤ 283) (p_many0 : 0 ≤ many.toInt) (p_many1 : many.toInt ≤ 283) (pr0 : frm.toInt + many.toInt ≤ 283) : CaP 1 163 [.ref 164, .int frm, .int many] h (pI h (fun _ => True)) := by
  refine cap_of (d := 0) (M := mX12_sum) rfl (Nat.le_of_ble_eq_true rfl) ?_
  show EvP im_K0 0 mX12_sum (0, [(0, .ref 164), (1, .int frm), (2, .int many)], [], h) _
  refine te_iconst (p2 := 1) (x := 0) rfl rfl (by decide) ?_
  refine te_istore_n (p2 := 2) (lv2 := [(3, .int 0), (0, .ref 164), (1, .int frm), (2, .int many)]) rfl rfl (by decide) rfl ?_
  refine te_iconst (p2 := 3) (x := 0) rfl rfl (by decide) ?_
  refine te_istore (p2 := 5) (lv2 := [(4, .int 0), (3, .int 0), (0, .ref 164), (1, .int frm), (2, .int many)]) rfl rfl (by decide) rfl ?_
  have lp1 : ∀ (n1 : Nat) (v1_3 v1_4 : Int32) , 0 ≤ v1_4.toInt → v1_4.toInt ≤ 283 → v1_4.toInt ≤ many.toInt → many.toInt - v1_4.toInt < (n1 : Int) → EvP im_K0 0 mX12_sum (5, [(0, .ref 164), (1, .int frm), (2, .int many), (3, .int v1_3), (4, .int v1_4)], [], h) (pI h (fun _ => True)) := by
    intro n1
    induction n1 with
    | zero => intro v1_3 v1_4 a1_4 b1_4 l1_0 m1; exfalso; omega
    | succ n1 ih1 =>
      intro v1_3 v1_4 a1_4 b1_4 l1_0 m1
      refine te_iload (p2 := 7) rfl rfl rfl ?_
      refine te_iload_n (p2 := 8) rfl rfl rfl ?_
      refine tb_ge (p2 := 11) rfl rfl rfl rfl (fun c2 => ?_) (fun c2 => ?_)
      · refine te_iload_n (p2 := 30) rfl rfl rfl ?_
        exact te_iret rfl rfl ⟨rfl, _, rfl, trivial⟩
      · refine te_iload_n (p2 := 12) rfl rfl rfl ?_
        refine te_aload_n (p2 := 13) rfl rfl rfl ?_
        refine tg_r (p2 := 16) (i := 148) (r := 165) rfl rfl hI rfl rfl rfl ?_
        refine te_iload_n (p2 := 17) rfl rfl rfl ?_
        refine te_iload (p2 := 19) rfl rfl rfl ?_
        refine ar_add (p2 := 20) rfl rfl rfl rfl (by omega) (by omega) (fun z3 e3 f3 => ?_)
        refine tl_i (p2 := 21) (i := 149) (n := 283) rfl rfl hI rfl rfl rfl rfl (by omega) (by omega) (fun y4 a4 b4 g4 e4 => ?_)
        refine au_add (p2 := 22) rfl rfl (fun z5 e5 => ?_)
        refine te_istore_n (p2 := 23) (lv2 := [(3, .int z5), (0, .ref 164), (1, .int frm), (2, .int many), (4, .int v1_4)]) rfl rfl (by decide) rfl ?_
        refine ar_inc (p2 := 26) (x := v1_4) rfl rfl (by decide) rfl (by decide) rfl (by omega) (by omega) (fun z6 e6 f6 => ?_)
        show EvP _ _ _ (26, [(4, .int z6), (3, .int z5), (0, .ref 164), (1, .int frm), (2, .int many)], [], h) _
        refine te_goto rfl ?_
        refine te_lv [(0, .ref 164), (1, .int frm), (2, .int many), (3, .int z5), (4, .int z6)] rfl rfl ⟨rfl, rfl, rfl, rfl, rfl, trivial⟩ ?_
        exact ih1 z5 z6 (by omega) (by omega) (by omega) (by omega)
  refine te_lv [(0, .ref 164), (1, .int frm), (2, .int many), (3, .int 0), (4, .int 0)] rfl rfl ⟨rfl, rfl, rfl, rfl, rfl, trivial⟩ ?_
  exact lp1 284 0 0 (by decide) (by decide) (by have cc0 := (show Int32.toInt 0 = 0 from rfl); omega) (by have cc0 := (show Int32.toInt 0 = 0 from rfl); omega)
set_option maxRecDepth 20000 in
set_option maxHeartbeats 4000000 in
theorem t_X8_isMissing {s : Nat} {h : im_H} (hI : tI h) (q_s : s = 140 ∨ s = 142 ∨ s = 144 ∨ s = 146) : CaP 1 41 [.ref (16 + s)] h (pI h (fun y => 0 ≤ y.toInt ∧ y.toInt ≤ 1)) := by
  refine cap_of (d := 0) (M := mX8_isMissing) rfl (Nat.le_of_ble_eq_true rfl) ?_
  show EvP im_K0 0 mX8_isMissing (0, [(0, .ref (16 + s))], [], h) _
  refine te_aload_n (p2 := 1) rfl rfl rfl ?_
  refine tg_i (p2 := 4) (i := s) rfl rfl hI rfl (by rcases q_s with rfl | rfl | rfl | rfl <;> rfl) (by rcases q_s with rfl | rfl | rfl | rfl <;> rfl) (fun y1 a1 b1 e1 => ?_)
  refine te_iconst (p2 := 5) (x := (-1)) rfl rfl (by decide) ?_
  refine tb_ne (p2 := 8) rfl rfl rfl (show Int32.toInt (-1) = (-1) from rfl) (fun c2 => ?_) (fun c2 => ?_)
  · refine te_iconst (p2 := 13) (x := 0) rfl rfl (by decide) ?_
    exact te_zret rfl rfl (by decide) ⟨rfl, _, rfl, by decide, by decide⟩
  · refine te_iconst (p2 := 9) (x := 1) rfl rfl (by decide) ?_
    refine te_goto rfl ?_
    exact te_zret rfl rfl (by decide) ⟨rfl, _, rfl, by decide, by decide⟩
abbrev F_X8_put (s : Nat) : List (Nat × Nat × Nat) := [((s + 1), 0, 39)]
set_option maxRecDepth 20000 in
set_option maxHeartbeats 4000000 in
theorem t_X8_put {s : Nat} {i : Int32} {v : Int32} {h : im_H} (hI : tI h) (q_s : s = 140 ∨ s = 142 ∨ s = 144 ∨ s = 146) (p_i0 : 0 ≤ i.toInt) (p_i1 : i.toInt ≤ 39) : CaP 1 42 [.ref (16 + s), .int i, .int v] h (mV h (F_X8_put s)) := by
  refine cap_of (d := 0) (M := mX8_put) rfl (Nat.le_of_ble_eq_true rfl) ?_
  show EvP im_K0 0 mX8_put (0, [(0, .ref (16 + s)), (1, .int i), (2, .int v)], [], h) _
  have f0 : fr (F_X8_put s) h h := fr_rf
  refine te_aload_n (p2 := 1) rfl rfl rfl ?_
  refine tg_r (p2 := 4) (i := s) (r := (16 + (s + 1))) rfl rfl hI rfl (by rcases q_s with rfl | rfl | rfl | rfl <;> rfl) (by rcases q_s with rfl | rfl | rfl | rfl <;> rfl) ?_
  refine te_iload_n (p2 := 5) rfl rfl rfl ?_
  refine te_aload_n (p2 := 6) rfl rfl rfl ?_
  refine tg_i (p2 := 9) (i := s) rfl rfl hI rfl (by rcases q_s with rfl | rfl | rfl | rfl <;> rfl) (by rcases q_s with rfl | rfl | rfl | rfl <;> rfl) (fun y1 a1 b1 e1 => ?_)
  refine tz_ne (p2 := 12) rfl rfl rfl (fun c2 => ?_) (fun c2 => ?_)
  · refine te_aload_n (p2 := 18) rfl rfl rfl ?_
    refine tg_e (p2 := 21) (i := s) (v := .int y1) rfl rfl hI rfl (by rcases q_s with rfl | rfl | rfl | rfl <;> rfl) e1 ?_
    refine te_iconst (p2 := 22) (x := 1) rfl rfl (by decide) ?_
    refine tb_ne (p2 := 25) rfl rfl rfl (show Int32.toInt 1 = 1 from rfl) (fun c3 => ?_) (fun c3 => ?_)
    · refine te_iload_n (p2 := 31) rfl rfl rfl ?_
      refine ts_i (p2 := 32) (i := (s + 1)) (n := 40) rfl rfl hI rfl (by rcases q_s with rfl | rfl | rfl | rfl <;> rfl) (by rcases q_s with rfl | rfl | rfl | rfl <;> rfl) rfl (by omega) (by omega) (i32_lo _) (i32_hi _) (i32_ho _) (by rcases q_s with rfl | rfl | rfl | rfl <;> rfl) (fun h4 I4 u4 => ?_)
      have f4 := fr_st (F := (F_X8_put s)) 0 f0 u4 rfl (by omega) (by omega)
      exact te_vret rfl rfl ⟨I4, f4, rfl⟩
    · refine te_iload_n (p2 := 26) rfl rfl rfl ?_
      obtain ⟨z5, e5⟩ : ∃ z, (Int16.toInt32 (Int32.toInt16 v)) = z := ⟨_, rfl⟩
      refine te_i2s (p2 := 27) rfl rfl e5 ?_
      refine te_goto rfl ?_
      refine ts_i (p2 := 32) (i := (s + 1)) (n := 40) rfl rfl hI rfl (by rcases q_s with rfl | rfl | rfl | rfl <;> rfl) (by rcases q_s with rfl | rfl | rfl | rfl <;> rfl) rfl (by omega) (by omega) (i32_lo _) (i32_hi _) (i32_ho _) (by rcases q_s with rfl | rfl | rfl | rfl <;> rfl) (fun h6 I6 u6 => ?_)
      have f6 := fr_st (F := (F_X8_put s)) 0 f0 u6 rfl (by omega) (by omega)
      exact te_vret rfl rfl ⟨I6, f6, rfl⟩
  · refine te_iload_n (p2 := 13) rfl rfl rfl ?_
    obtain ⟨z7, e7⟩ : ∃ z, (Int8.toInt32 (Int32.toInt8 v)) = z := ⟨_, rfl⟩
    refine te_i2b (p2 := 14) rfl rfl e7 ?_
    refine te_goto rfl ?_
    refine ts_i (p2 := 32) (i := (s + 1)) (n := 40) rfl rfl hI rfl (by rcases q_s with rfl | rfl | rfl | rfl <;> rfl) (by rcases q_s with rfl | rfl | rfl | rfl <;> rfl) rfl (by omega) (by omega) (i32_lo _) (i32_hi _) (i32_ho _) (by rcases q_s with rfl | rfl | rfl | rfl <;> rfl) (fun h8 I8 u8 => ?_)
    have f8 := fr_st (F := (F_X8_put s)) 0 f0 u8 rfl (by omega) (by omega)
    exact te_vret rfl rfl ⟨I8, f8, rfl⟩
set_option maxRecDepth 20000 in
set_option maxHeartbeats 4000000 in
theorem t_X8_holds {s : Nat} {i : Int32} {n : Int32} {h : im_H} (hI : tI h) (q_s : s = 140 ∨ s = 142 ∨ s = 144 ∨ s = 146) : CaP 1 43 [.ref (16 + s), .int i, .int n] h (pI h (fun y => ∃ p : Int32, rd h s 1 = some (.int p) ∧ 0 ≤ p.toInt ∧ p.toInt ≤ 40 ∧ ((y = 1 ∧ 0 ≤ i.toInt ∧ 0 ≤ n.toInt ∧ n.toInt ≤ p.toInt - i.toInt) ∨ (y = 0 ∧ ¬ (0 ≤ i.toInt ∧ 0 ≤ n.toInt ∧ n.toInt ≤ p.toInt - i.toInt))))) := by
  refine cap_of (d := 0) (M := mX8_holds) rfl (Nat.le_of_ble_eq_true rfl) ?_
  show EvP im_K0 0 mX8_holds (0, [(0, .ref (16 + s)), (1, .int i), (2, .int n)], [], h) _
  refine te_iload_n (p2 := 1) rfl rfl rfl ?_
  refine tz_lt (p2 := 4) rfl rfl rfl (fun c1 => ?_) (fun c1 => ?_)
  · refine te_iconst (p2 := 23) (x := 0) rfl rfl (by decide) ?_
    obtain ⟨v2, e2, p2, w2, a2, b2, _⟩ := hI.2.1 s 1 (.inl (0, 40, 9999999999)) (by rcases q_s with rfl | rfl | rfl | rfl <;> rfl)
    subst w2
    exact te_zret rfl rfl (by decide) ⟨rfl, _, rfl, p2, e2, a2, b2, Or.inr ⟨rfl, by omega⟩⟩
  · refine te_iload_n (p2 := 5) rfl rfl rfl ?_
    refine tz_lt (p2 := 8) rfl rfl rfl (fun c3 => ?_) (fun c3 => ?_)
    · refine te_iconst (p2 := 23) (x := 0) rfl rfl (by decide) ?_
      obtain ⟨v4, e4, p4, w4, a4, b4, _⟩ := hI.2.1 s 1 (.inl (0, 40, 9999999999)) (by rcases q_s with rfl | rfl | rfl | rfl <;> rfl)
      subst w4
      exact te_zret rfl rfl (by decide) ⟨rfl, _, rfl, p4, e4, a4, b4, Or.inr ⟨rfl, by omega⟩⟩
    · refine te_iload_n (p2 := 9) rfl rfl rfl ?_
      refine te_aload_n (p2 := 10) rfl rfl rfl ?_
      refine tg_i (p2 := 13) (i := s) rfl rfl hI rfl (by rcases q_s with rfl | rfl | rfl | rfl <;> rfl) (by rcases q_s with rfl | rfl | rfl | rfl <;> rfl) (fun y5 a5 b5 e5 => ?_)
      refine te_iload_n (p2 := 14) rfl rfl rfl ?_
      have n6_i := i32_lo i
      have o6_i := i32_hi i
      refine ar_sub (p2 := 15) rfl rfl rfl rfl (by omega) (by omega) (fun z6 e6 f6 => ?_)
      refine tb_gt (p2 := 18) rfl rfl rfl rfl (fun c7 => ?_) (fun c7 => ?_)
      · refine te_iconst (p2 := 23) (x := 0) rfl rfl (by decide) ?_
        exact te_zret rfl rfl (by decide) ⟨rfl, _, rfl, y5, e5, by omega, by omega, Or.inr ⟨rfl, by omega⟩⟩
      · refine te_iconst (p2 := 19) (x := 1) rfl rfl (by decide) ?_
        refine te_goto rfl ?_
        exact te_zret rfl rfl (by decide) ⟨rfl, _, rfl, y5, e5, by omega, by omega, Or.inl ⟨rfl, by omega⟩⟩
set_option maxRecDepth 20000 in
set_option maxHeartbeats 4000000 in
theorem t_X8_hasAheadOf {s : Nat} {i : Int32} {number : Int32} {h : im_H} (hI : tI h) (q_s : s = 140 ∨ s = 142 ∨ s = 144 ∨ s = 146) (p_i0 : 0 ≤ i.toInt) (p_i1 : i.toInt ≤ 40) : CaP 1 44 [.ref (16 + s), .int i, .int number] h (pI h (fun y => 0 ≤ y.toInt ∧ y.toInt ≤ 1)) := by
  refine cap_of (d := 0) (M := mX8_hasAheadOf) rfl (Nat.le_of_ble_eq_true rfl) ?_
  show EvP im_K0 0 mX8_hasAheadOf (0, [(0, .ref (16 + s)), (1, .int i), (2, .int number)], [], h) _
  refine te_iconst (p2 := 1) (x := 0) rfl rfl (by decide) ?_
  refine te_istore_n (p2 := 2) (lv2 := [(3, .int 0), (0, .ref (16 + s)), (1, .int i), (2, .int number)]) rfl rfl (by decide) rfl ?_
  have lp1 : ∀ (n1 : Nat) (v1_3 : Int32) , 0 ≤ v1_3.toInt → v1_3.toInt ≤ 40 → v1_3.toInt ≤ i.toInt → i.toInt - v1_3.toInt < (n1 : Int) → EvP im_K0 0 mX8_hasAheadOf (2, [(0, .ref (16 + s)), (1, .int i), (2, .int number), (3, .int v1_3)], [], h) (pI h (fun y => 0 ≤ y.toInt ∧ y.toInt ≤ 1)) := by
    intro n1
    induction n1 with
    | zero => intro v1_3 a1_3 b1_3 l1_0 m1; exfalso; omega
    | succ n1 ih1 =>
      intro v1_3 a1_3 b1_3 l1_0 m1
      refine te_iload_n (p2 := 3) rfl rfl rfl ?_
      refine te_iload_n (p2 := 4) rfl rfl rfl ?_
      refine tb_ge (p2 := 7) rfl rfl rfl rfl (fun c2 => ?_) (fun c2 => ?_)
      · refine te_iconst (p2 := 26) (x := 0) rfl rfl (by decide) ?_
        exact te_zret rfl rfl (by decide) ⟨rfl, _, rfl, by decide, by decide⟩
      · refine te_aload_n (p2 := 8) rfl rfl rfl ?_
        refine tg_r (p2 := 11) (i := s) (r := (16 + (s + 1))) rfl rfl hI rfl (by rcases q_s with rfl | rfl | rfl | rfl <;> rfl) (by rcases q_s with rfl | rfl | rfl | rfl <;> rfl) ?_
        refine te_iload_n (p2 := 12) rfl rfl rfl ?_
        refine tl_i (p2 := 13) (i := (s + 1)) (n := 40) rfl rfl hI rfl (by rcases q_s with rfl | rfl | rfl | rfl <;> rfl) (by rcases q_s with rfl | rfl | rfl | rfl <;> rfl) rfl (by omega) (by omega) (fun y3 a3 b3 g3 e3 => ?_)
        refine te_iload_n (p2 := 14) rfl rfl rfl ?_
        refine tb_ne (p2 := 17) rfl rfl rfl rfl (fun c4 => ?_) (fun c4 => ?_)
        · refine ar_inc (p2 := 22) (x := v1_3) rfl rfl (by decide) rfl (by decide) rfl (by omega) (by omega) (fun z5 e5 f5 => ?_)
          show EvP _ _ _ (22, [(3, .int z5), (0, .ref (16 + s)), (1, .int i), (2, .int number)], [], h) _
          refine te_goto rfl ?_
          refine te_lv [(0, .ref (16 + s)), (1, .int i), (2, .int number), (3, .int z5)] rfl rfl ⟨rfl, rfl, rfl, rfl, trivial⟩ ?_
          exact ih1 z5 (by omega) (by omega) (by omega) (by omega)
        · refine te_iconst (p2 := 18) (x := 1) rfl rfl (by decide) ?_
          exact te_zret rfl rfl (by decide) ⟨rfl, _, rfl, by decide, by decide⟩
  refine te_lv [(0, .ref (16 + s)), (1, .int i), (2, .int number), (3, .int 0)] rfl rfl ⟨rfl, rfl, rfl, rfl, trivial⟩ ?_
  exact lp1 41 0 (by decide) (by decide) (by have cc0 := (show Int32.toInt 0 = 0 from rfl); omega) (by have cc0 := (show Int32.toInt 0 = 0 from rfl); omega)
