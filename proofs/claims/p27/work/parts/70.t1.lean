set_option maxRecDepth 20000 in
set_option maxHeartbeats 4000000 in
theorem t_X11_within {n : Int32} {b : Int32} {h : im_H} (hI : tI h)  : CaP 1 110 [.int n, .int b] h (pI h (fun y => (y = 1 ∧ 0 ≤ n.toInt ∧ n.toInt < b.toInt) ∨ (y = 0 ∧ ¬ (0 ≤ n.toInt ∧ n.toInt < b.toInt)))) := by
  refine cap_of (d := 0) (M := mX11_within) rfl (Nat.le_of_ble_eq_true rfl) ?_
  show EvP im_K0 0 mX11_within (0, [(0, .int n), (1, .int b)], [], h) _
  refine te_iload_n (p2 := 1) rfl rfl rfl ?_
  refine tz_lt (p2 := 4) rfl rfl rfl (fun c1 => ?_) (fun c1 => ?_)
  · refine te_iconst (p2 := 14) (x := 0) rfl rfl (by decide) ?_
    exact te_zret rfl rfl (by decide) ⟨rfl, _, rfl, Or.inr ⟨rfl, by omega⟩⟩
  · refine te_iload_n (p2 := 5) rfl rfl rfl ?_
    refine te_iload_n (p2 := 6) rfl rfl rfl ?_
    refine tb_ge (p2 := 9) rfl rfl rfl rfl (fun c2 => ?_) (fun c2 => ?_)
    · refine te_iconst (p2 := 14) (x := 0) rfl rfl (by decide) ?_
      exact te_zret rfl rfl (by decide) ⟨rfl, _, rfl, Or.inr ⟨rfl, by omega⟩⟩
    · refine te_iconst (p2 := 10) (x := 1) rfl rfl (by decide) ?_
      refine te_goto rfl ?_
      exact te_zret rfl rfl (by decide) ⟨rfl, _, rfl, Or.inl ⟨rfl, by omega⟩⟩
set_option maxRecDepth 20000 in
set_option maxHeartbeats 4000000 in
theorem t_X11_between {n : Int32} {a : Int32} {b : Int32} {h : im_H} (hI : tI h)  : CaP 1 111 [.int n, .int a, .int b] h (pI h (fun y => (y = 1 ∧ a.toInt ≤ n.toInt ∧ n.toInt ≤ b.toInt) ∨ (y = 0 ∧ ¬ (a.toInt ≤ n.toInt ∧ n.toInt ≤ b.toInt)))) := by
  refine cap_of (d := 0) (M := mX11_between) rfl (Nat.le_of_ble_eq_true rfl) ?_
  show EvP im_K0 0 mX11_between (0, [(0, .int n), (1, .int a), (2, .int b)], [], h) _
  refine te_iload_n (p2 := 1) rfl rfl rfl ?_
  refine te_iload_n (p2 := 2) rfl rfl rfl ?_
  refine tb_lt (p2 := 5) rfl rfl rfl rfl (fun c1 => ?_) (fun c1 => ?_)
  · refine te_iconst (p2 := 15) (x := 0) rfl rfl (by decide) ?_
    exact te_zret rfl rfl (by decide) ⟨rfl, _, rfl, Or.inr ⟨rfl, by omega⟩⟩
  · refine te_iload_n (p2 := 6) rfl rfl rfl ?_
    refine te_iload_n (p2 := 7) rfl rfl rfl ?_
    refine tb_gt (p2 := 10) rfl rfl rfl rfl (fun c2 => ?_) (fun c2 => ?_)
    · refine te_iconst (p2 := 15) (x := 0) rfl rfl (by decide) ?_
      exact te_zret rfl rfl (by decide) ⟨rfl, _, rfl, Or.inr ⟨rfl, by omega⟩⟩
    · refine te_iconst (p2 := 11) (x := 1) rfl rfl (by decide) ?_
      refine te_goto rfl ?_
      exact te_zret rfl rfl (by decide) ⟨rfl, _, rfl, Or.inl ⟨rfl, by omega⟩⟩
set_option maxRecDepth 20000 in
set_option maxHeartbeats 4000000 in
theorem t_X12_in {n : Int32} {a : Int32} {b : Int32} {h : im_H} (hI : tI h)  : CaP 1 117 [.int n, .int a, .int b] h (pI h (fun y => (y = 1 ∧ a.toInt ≤ n.toInt ∧ n.toInt ≤ b.toInt) ∨ (y = 0 ∧ ¬ (a.toInt ≤ n.toInt ∧ n.toInt ≤ b.toInt)))) := by
  refine cap_of (d := 0) (M := mX12_in) rfl (Nat.le_of_ble_eq_true rfl) ?_
  show EvP im_K0 0 mX12_in (0, [(0, .int n), (1, .int a), (2, .int b)], [], h) _
  refine te_iload_n (p2 := 1) rfl rfl rfl ?_
  refine te_iload_n (p2 := 2) rfl rfl rfl ?_
  refine tb_lt (p2 := 5) rfl rfl rfl rfl (fun c1 => ?_) (fun c1 => ?_)
  · refine te_iconst (p2 := 15) (x := 0) rfl rfl (by decide) ?_
    exact te_zret rfl rfl (by decide) ⟨rfl, _, rfl, Or.inr ⟨rfl, by omega⟩⟩
  · refine te_iload_n (p2 := 6) rfl rfl rfl ?_
    refine te_iload_n (p2 := 7) rfl rfl rfl ?_
    refine tb_gt (p2 := 10) rfl rfl rfl rfl (fun c2 => ?_) (fun c2 => ?_)
    · refine te_iconst (p2 := 15) (x := 0) rfl rfl (by decide) ?_
      exact te_zret rfl rfl (by decide) ⟨rfl, _, rfl, Or.inr ⟨rfl, by omega⟩⟩
    · refine te_iconst (p2 := 11) (x := 1) rfl rfl (by decide) ?_
      refine te_goto rfl ?_
      exact te_zret rfl rfl (by decide) ⟨rfl, _, rfl, Or.inl ⟨rfl, by omega⟩⟩
set_option maxRecDepth 20000 in
set_option maxHeartbeats 4000000 in
theorem t_X12_isCell {n : Int32} {h : im_H} (hI : tI h)  : CaP 2 118 [.int n] h (pI h (fun y => (y = 1 ∧ 0 ≤ n.toInt ∧ n.toInt ≤ 99) ∨ (y = 0 ∧ ¬ (0 ≤ n.toInt ∧ n.toInt ≤ 99)))) := by
  refine cap_of (d := 1) (M := mX12_isCell) rfl (Nat.le_of_ble_eq_true rfl) ?_
  show EvP im_K0 1 mX12_isCell (0, [(0, .int n)], [], h) _
  refine te_iload_n (p2 := 1) rfl rfl rfl ?_
  refine te_iconst (p2 := 2) (x := 0) rfl rfl (by decide) ?_
  refine te_bipush (p2 := 4) (x := 99) rfl rfl (by decide) ?_
  refine cS_pI (p2 := 7) rfl rfl rfl rfl (t_X12_in (n := n) (a := 0) (b := 99) hI ) (by decide) (fun y1 r1 => ?_)
  rcases r1 with ⟨w1, c1⟩ | ⟨w1, c1⟩
  · subst w1
    have cc1_1 := (show Int32.toInt 0 = 0 from rfl)
    have cc1_2 := (show Int32.toInt 99 = 99 from rfl)
    exact te_zret rfl rfl (by decide) ⟨rfl, _, rfl, Or.inl ⟨rfl, by omega⟩⟩
  · subst w1
    have cc1_1 := (show Int32.toInt 0 = 0 from rfl)
    have cc1_2 := (show Int32.toInt 99 = 99 from rfl)
    exact te_zret rfl rfl (by decide) ⟨rfl, _, rfl, Or.inr ⟨rfl, by omega⟩⟩
set_option maxRecDepth 20000 in
set_option maxHeartbeats 4000000 in
theorem t_X12_isPerson {k : Int32} {h : im_H} (hI : tI h)  : CaP 2 119 [.ref 164, .int k] h (pI h (fun y => ∃ p : Int32, rd h 148 10 = some (.int p) ∧ 0 ≤ p.toInt ∧ p.toInt ≤ 24 ∧ ((y = 1 ∧ 0 ≤ k.toInt ∧ k.toInt < p.toInt) ∨ (y = 0 ∧ ¬ (0 ≤ k.toInt ∧ k.toInt < p.toInt))))) := by
  refine cap_of (d := 1) (M := mX12_isPerson) rfl (Nat.le_of_ble_eq_true rfl) ?_
  show EvP im_K0 1 mX12_isPerson (0, [(0, .ref 164), (1, .int k)], [], h) _
  refine te_iload_n (p2 := 1) rfl rfl rfl ?_
  refine te_iconst (p2 := 2) (x := 0) rfl rfl (by decide) ?_
  refine te_aload_n (p2 := 3) rfl rfl rfl ?_
  refine tg_i (p2 := 6) (i := 148) rfl rfl hI rfl rfl rfl (fun y1 a1 b1 e1 => ?_)
  refine te_iconst (p2 := 7) (x := 1) rfl rfl (by decide) ?_
  refine ar_sub (p2 := 8) rfl rfl rfl (show Int32.toInt 1 = 1 from rfl) (by omega) (by omega) (fun z2 e2 f2 => ?_)
  refine cS_pI (p2 := 11) rfl rfl rfl rfl (t_X12_in (n := k) (a := 0) (b := z2) hI ) (by decide) (fun y3 r3 => ?_)
  rcases r3 with ⟨w3, c3⟩ | ⟨w3, c3⟩
  · subst w3
    have cc3_1 := (show Int32.toInt 0 = 0 from rfl)
    exact te_zret rfl rfl (by decide) ⟨rfl, _, rfl, y1, e1, by omega, by omega, Or.inl ⟨rfl, by omega⟩⟩
  · subst w3
    have cc3_1 := (show Int32.toInt 0 = 0 from rfl)
    exact te_zret rfl rfl (by decide) ⟨rfl, _, rfl, y1, e1, by omega, by omega, Or.inr ⟨rfl, by omega⟩⟩
set_option maxRecDepth 20000 in
set_option maxHeartbeats 4000000 in
theorem t_X12_isWall {k : Int32} {h : im_H} (hI : tI h)  : CaP 2 161 [.ref 164, .int k] h (pI h (fun y => ∃ p : Int32, rd h 148 21 = some (.int p) ∧ 0 ≤ p.toInt ∧ p.toInt ≤ 16 ∧ ((y = 1 ∧ 0 ≤ k.toInt ∧ k.toInt < p.toInt) ∨ (y = 0 ∧ ¬ (0 ≤ k.toInt ∧ k.toInt < p.toInt))))) := by
  refine cap_of (d := 1) (M := mX12_isWall) rfl (Nat.le_of_ble_eq_true rfl) ?_
  show EvP im_K0 1 mX12_isWall (0, [(0, .ref 164), (1, .int k)], [], h) _
  refine te_iload_n (p2 := 1) rfl rfl rfl ?_
  refine te_iconst (p2 := 2) (x := 0) rfl rfl (by decide) ?_
  refine te_aload_n (p2 := 3) rfl rfl rfl ?_
  refine tg_i (p2 := 6) (i := 148) rfl rfl hI rfl rfl rfl (fun y1 a1 b1 e1 => ?_)
  refine te_iconst (p2 := 7) (x := 1) rfl rfl (by decide) ?_
  refine ar_sub (p2 := 8) rfl rfl rfl (show Int32.toInt 1 = 1 from rfl) (by omega) (by omega) (fun z2 e2 f2 => ?_)
  refine cS_pI (p2 := 11) rfl rfl rfl rfl (t_X12_in (n := k) (a := 0) (b := z2) hI ) (by decide) (fun y3 r3 => ?_)
  rcases r3 with ⟨w3, c3⟩ | ⟨w3, c3⟩
  · subst w3
    have cc3_1 := (show Int32.toInt 0 = 0 from rfl)
    exact te_zret rfl rfl (by decide) ⟨rfl, _, rfl, y1, e1, by omega, by omega, Or.inl ⟨rfl, by omega⟩⟩
  · subst w3
    have cc3_1 := (show Int32.toInt 0 = 0 from rfl)
    exact te_zret rfl rfl (by decide) ⟨rfl, _, rfl, y1, e1, by omega, by omega, Or.inr ⟨rfl, by omega⟩⟩
set_option maxRecDepth 20000 in
set_option maxHeartbeats 4000000 in
theorem t_X12_isRoom {k : Int32} {h : im_H} (hI : tI h)  : CaP 2 172 [.ref 164, .int k] h (pI h (fun y => ∃ p : Int32, rd h 148 24 = some (.int p) ∧ 0 ≤ p.toInt ∧ p.toInt ≤ 12 ∧ ((y = 1 ∧ 0 ≤ k.toInt ∧ k.toInt < p.toInt) ∨ (y = 0 ∧ ¬ (0 ≤ k.toInt ∧ k.toInt < p.toInt))))) := by
  refine cap_of (d := 1) (M := mX12_isRoom) rfl (Nat.le_of_ble_eq_true rfl) ?_
  show EvP im_K0 1 mX12_isRoom (0, [(0, .ref 164), (1, .int k)], [], h) _
  refine te_iload_n (p2 := 1) rfl rfl rfl ?_
  refine te_iconst (p2 := 2) (x := 0) rfl rfl (by decide) ?_
  refine te_aload_n (p2 := 3) rfl rfl rfl ?_
  refine tg_i (p2 := 6) (i := 148) rfl rfl hI rfl rfl rfl (fun y1 a1 b1 e1 => ?_)
  refine te_iconst (p2 := 7) (x := 1) rfl rfl (by decide) ?_
  refine ar_sub (p2 := 8) rfl rfl rfl (show Int32.toInt 1 = 1 from rfl) (by omega) (by omega) (fun z2 e2 f2 => ?_)
  refine cS_pI (p2 := 11) rfl rfl rfl rfl (t_X12_in (n := k) (a := 0) (b := z2) hI ) (by decide) (fun y3 r3 => ?_)
  rcases r3 with ⟨w3, c3⟩ | ⟨w3, c3⟩
  · subst w3
    have cc3_1 := (show Int32.toInt 0 = 0 from rfl)
    exact te_zret rfl rfl (by decide) ⟨rfl, _, rfl, y1, e1, by omega, by omega, Or.inl ⟨rfl, by omega⟩⟩
  · subst w3
    have cc3_1 := (show Int32.toInt 0 = 0 from rfl)
    exact te_zret rfl rfl (by decide) ⟨rfl, _, rfl, y1, e1, by omega, by omega, Or.inr ⟨rfl, by omega⟩⟩
set_option maxRecDepth 20000 in
set_option maxHeartbeats 4000000 in
theorem t_X12_nextTo {c : Int32} {side : Int32} {h : im_H} (hI : tI h) (p_c0 : 0 ≤ c.toInt) (p_c1 : c.toInt ≤ 99) : CaP 1 120 [.int c, .int side] h (pI h (fun y => -1 ≤ y.toInt ∧ y.toInt ≤ 99 ∧ y = nbr c side)) := by
  refine cap_of (d := 0) (M := mX12_nextTo) rfl (Nat.le_of_ble_eq_true rfl) ?_
  show EvP im_K0 0 mX12_nextTo (0, [(0, .int c), (1, .int side)], [], h) _
  refine te_iload_n (p2 := 1) rfl rfl rfl ?_
  by_cases c1 : side.toInt = 0
  · refine te_tsIn (k := 0) (p2 := 28) rfl c1 (by decide) (by decide) rfl (by decide) ?_
    refine te_iload_n (p2 := 29) rfl rfl rfl ?_
    refine te_bipush (p2 := 31) (x := 90) rfl rfl (by decide) ?_
    refine tb_ge (p2 := 34) rfl rfl rfl (show Int32.toInt 90 = 90 from rfl) (fun c2 => ?_) (fun c2 => ?_)
    · refine te_iconst (p2 := 42) (x := (-1)) rfl rfl (by decide) ?_
      exact te_iret rfl rfl ⟨rfl, _, rfl, by decide, by decide, by (unfold nbr; (repeat' split) <;> first | (exfalso; omega) | rfl | (subst_vars; rfl))⟩
    · refine te_iload_n (p2 := 35) rfl rfl rfl ?_
      refine te_bipush (p2 := 37) (x := 10) rfl rfl (by decide) ?_
      refine ar_add (p2 := 38) rfl rfl rfl (show Int32.toInt 10 = 10 from rfl) (by omega) (by omega) (fun z3 e3 f3 => ?_)
      refine te_goto rfl ?_
      exact te_iret rfl rfl ⟨rfl, _, rfl, by omega, by omega, by (unfold nbr; (repeat' split) <;> first | (exfalso; omega) | rfl | (subst_vars; rfl))⟩
  · by_cases c4 : side.toInt = 1
    · refine te_tsIn (k := 1) (p2 := 43) rfl c4 (by decide) (by decide) rfl (by decide) ?_
      refine te_iload_n (p2 := 44) rfl rfl rfl ?_
      refine te_bipush (p2 := 46) (x := 10) rfl rfl (by decide) ?_
      refine ar_rem (p2 := 47) rfl rfl rfl (show Int32.toInt 10 = 10 from rfl) (by omega) (by decide) (fun z5 e5 f5 => ?_)
      refine te_bipush (p2 := 49) (x := 9) rfl rfl (by decide) ?_
      refine tb_ge (p2 := 52) rfl rfl rfl (show Int32.toInt 9 = 9 from rfl) (fun c6 => ?_) (fun c6 => ?_)
      · refine te_iconst (p2 := 59) (x := (-1)) rfl rfl (by decide) ?_
        exact te_iret rfl rfl ⟨rfl, _, rfl, by decide, by decide, by (unfold nbr; (repeat' split) <;> first | (exfalso; omega) | rfl | (subst_vars; rfl))⟩
      · refine te_iload_n (p2 := 53) rfl rfl rfl ?_
        refine te_iconst (p2 := 54) (x := 1) rfl rfl (by decide) ?_
        refine ar_add (p2 := 55) rfl rfl rfl (show Int32.toInt 1 = 1 from rfl) (by omega) (by omega) (fun z7 e7 f7 => ?_)
        refine te_goto rfl ?_
        exact te_iret rfl rfl ⟨rfl, _, rfl, by omega, by omega, by (unfold nbr; (repeat' split) <;> first | (exfalso; omega) | rfl | (subst_vars; rfl))⟩
    · by_cases c8 : side.toInt = 2
      · refine te_tsIn (k := 2) (p2 := 60) rfl c8 (by decide) (by decide) rfl (by decide) ?_
        refine te_iload_n (p2 := 61) rfl rfl rfl ?_
        refine te_bipush (p2 := 63) (x := 10) rfl rfl (by decide) ?_
        refine tb_lt (p2 := 66) rfl rfl rfl (show Int32.toInt 10 = 10 from rfl) (fun c9 => ?_) (fun c9 => ?_)
        · refine te_iconst (p2 := 74) (x := (-1)) rfl rfl (by decide) ?_
          exact te_iret rfl rfl ⟨rfl, _, rfl, by decide, by decide, by (unfold nbr; (repeat' split) <;> first | (exfalso; omega) | rfl | (subst_vars; rfl))⟩
        · refine te_iload_n (p2 := 67) rfl rfl rfl ?_
          refine te_bipush (p2 := 69) (x := 10) rfl rfl (by decide) ?_
          refine ar_sub (p2 := 70) rfl rfl rfl (show Int32.toInt 10 = 10 from rfl) (by omega) (by omega) (fun z10 e10 f10 => ?_)
          refine te_goto rfl ?_
          exact te_iret rfl rfl ⟨rfl, _, rfl, by omega, by omega, by (unfold nbr; (repeat' split) <;> first | (exfalso; omega) | rfl | (subst_vars; rfl))⟩
      · refine te_tsOut (p2 := 75) rfl (by omega) (by decide) ?_
        refine te_iload_n (p2 := 76) rfl rfl rfl ?_
        refine te_bipush (p2 := 78) (x := 10) rfl rfl (by decide) ?_
        refine ar_rem (p2 := 79) rfl rfl rfl (show Int32.toInt 10 = 10 from rfl) (by omega) (by decide) (fun z11 e11 f11 => ?_)
        refine tz_le (p2 := 82) rfl rfl rfl (fun c12 => ?_) (fun c12 => ?_)
        · refine te_iconst (p2 := 89) (x := (-1)) rfl rfl (by decide) ?_
          exact te_iret rfl rfl ⟨rfl, _, rfl, by decide, by decide, by (unfold nbr; (repeat' split) <;> first | (exfalso; omega) | rfl | (subst_vars; rfl))⟩
        · refine te_iload_n (p2 := 83) rfl rfl rfl ?_
          refine te_iconst (p2 := 84) (x := 1) rfl rfl (by decide) ?_
          refine ar_sub (p2 := 85) rfl rfl rfl (show Int32.toInt 1 = 1 from rfl) (by omega) (by omega) (fun z13 e13 f13 => ?_)
          refine te_goto rfl ?_
          exact te_iret rfl rfl ⟨rfl, _, rfl, by omega, by omega, by (unfold nbr; (repeat' split) <;> first | (exfalso; omega) | rfl | (subst_vars; rfl))⟩
set_option maxRecDepth 20000 in
set_option maxHeartbeats 4000000 in
theorem t_X11_cellOnSide {c : Int32} {side : Int32} {h : im_H} (hI : tI h) (p_c0 : 0 ≤ c.toInt) (p_c1 : c.toInt ≤ 99) : CaP 1 112 [.int c, .int side] h (pI h (fun y => -1 ≤ y.toInt ∧ y.toInt ≤ 99 ∧ y = nbr c side)) := by
  refine cap_of (d := 0) (M := mX11_cellOnSide) rfl (Nat.le_of_ble_eq_true rfl) ?_
  show EvP im_K0 0 mX11_cellOnSide (0, [(0, .int c), (1, .int side)], [], h) _
  refine te_iload_n (p2 := 1) rfl rfl rfl ?_
  refine te_bipush (p2 := 3) (x := 10) rfl rfl (by decide) ?_
  refine ar_rem (p2 := 4) rfl rfl rfl (show Int32.toInt 10 = 10 from rfl) (by omega) (by decide) (fun z1 e1 f1 => ?_)
  refine te_istore_n (p2 := 5) (lv2 := [(2, .int z1), (0, .int c), (1, .int side)]) rfl rfl (by decide) rfl ?_
  refine te_iload_n (p2 := 6) rfl rfl rfl ?_
  refine te_bipush (p2 := 8) (x := 10) rfl rfl (by decide) ?_
  refine ar_div (p2 := 9) rfl rfl rfl (show Int32.toInt 10 = 10 from rfl) (by omega) (by decide) (fun z2 e2 f2 => ?_)
  refine te_istore_n (p2 := 10) (lv2 := [(3, .int z2), (2, .int z1), (0, .int c), (1, .int side)]) rfl rfl (by decide) rfl ?_
  refine te_iload_n (p2 := 11) rfl rfl rfl ?_
  by_cases c3 : side.toInt = 0
  · refine te_tsIn (k := 0) (p2 := 36) rfl c3 (by decide) (by decide) rfl (by decide) ?_
    refine te_iload_n (p2 := 37) rfl rfl rfl ?_
    refine te_bipush (p2 := 39) (x := 9) rfl rfl (by decide) ?_
    refine tb_ge (p2 := 42) rfl rfl rfl (show Int32.toInt 9 = 9 from rfl) (fun c4 => ?_) (fun c4 => ?_)
    · refine te_iconst (p2 := 50) (x := (-1)) rfl rfl (by decide) ?_
      exact te_iret rfl rfl ⟨rfl, _, rfl, by decide, by decide, by (unfold nbr; (repeat' split) <;> first | (exfalso; omega) | rfl | (subst_vars; rfl))⟩
    · refine te_iload_n (p2 := 43) rfl rfl rfl ?_
      refine te_bipush (p2 := 45) (x := 10) rfl rfl (by decide) ?_
      refine ar_add (p2 := 46) rfl rfl rfl (show Int32.toInt 10 = 10 from rfl) (by omega) (by omega) (fun z5 e5 f5 => ?_)
      refine te_goto rfl ?_
      exact te_iret rfl rfl ⟨rfl, _, rfl, by omega, by omega, by (unfold nbr; (repeat' split) <;> first | (exfalso; omega) | rfl | (subst_vars; rfl))⟩
  · by_cases c6 : side.toInt = 1
    · refine te_tsIn (k := 1) (p2 := 51) rfl c6 (by decide) (by decide) rfl (by decide) ?_
      refine te_iload_n (p2 := 52) rfl rfl rfl ?_
      refine te_bipush (p2 := 54) (x := 9) rfl rfl (by decide) ?_
      refine tb_ge (p2 := 57) rfl rfl rfl (show Int32.toInt 9 = 9 from rfl) (fun c7 => ?_) (fun c7 => ?_)
      · refine te_iconst (p2 := 64) (x := (-1)) rfl rfl (by decide) ?_
        exact te_iret rfl rfl ⟨rfl, _, rfl, by decide, by decide, by (unfold nbr; (repeat' split) <;> first | (exfalso; omega) | rfl | (subst_vars; rfl))⟩
      · refine te_iload_n (p2 := 58) rfl rfl rfl ?_
        refine te_iconst (p2 := 59) (x := 1) rfl rfl (by decide) ?_
        refine ar_add (p2 := 60) rfl rfl rfl (show Int32.toInt 1 = 1 from rfl) (by omega) (by omega) (fun z8 e8 f8 => ?_)
        refine te_goto rfl ?_
        exact te_iret rfl rfl ⟨rfl, _, rfl, by omega, by omega, by (unfold nbr; (repeat' split) <;> first | (exfalso; omega) | rfl | (subst_vars; rfl))⟩
    · by_cases c9 : side.toInt = 2
      · refine te_tsIn (k := 2) (p2 := 65) rfl c9 (by decide) (by decide) rfl (by decide) ?_
        refine te_iload_n (p2 := 66) rfl rfl rfl ?_
        refine tz_le (p2 := 69) rfl rfl rfl (fun c10 => ?_) (fun c10 => ?_)
        · refine te_iconst (p2 := 77) (x := (-1)) rfl rfl (by decide) ?_
          exact te_iret rfl rfl ⟨rfl, _, rfl, by decide, by decide, by (unfold nbr; (repeat' split) <;> first | (exfalso; omega) | rfl | (subst_vars; rfl))⟩
        · refine te_iload_n (p2 := 70) rfl rfl rfl ?_
          refine te_bipush (p2 := 72) (x := 10) rfl rfl (by decide) ?_
          refine ar_sub (p2 := 73) rfl rfl rfl (show Int32.toInt 10 = 10 from rfl) (by omega) (by omega) (fun z11 e11 f11 => ?_)
          refine te_goto rfl ?_
          exact te_iret rfl rfl ⟨rfl, _, rfl, by omega, by omega, by (unfold nbr; (repeat' split) <;> first | (exfalso; omega) | rfl | (subst_vars; rfl))⟩
      · refine te_tsOut (p2 := 78) rfl (by omega) (by decide) ?_
        refine te_iload_n (p2 := 79) rfl rfl rfl ?_
        refine tz_le (p2 := 82) rfl rfl rfl (fun c12 => ?_) (fun c12 => ?_)
        · refine te_iconst (p2 := 89) (x := (-1)) rfl rfl (by decide) ?_
          exact te_iret rfl rfl ⟨rfl, _, rfl, by decide, by decide, by (unfold nbr; (repeat' split) <;> first | (exfalso; omega) | rfl | (subst_vars; rfl))⟩
        · refine te_iload_n (p2 := 83) rfl rfl rfl ?_
          refine te_iconst (p2 := 84) (x := 1) rfl rfl (by decide) ?_
          refine ar_sub (p2 := 85) rfl rfl rfl (show Int32.toInt 1 = 1 from rfl) (by omega) (by omega) (fun z13 e13 f13 => ?_)
          refine te_goto rfl ?_
          exact te_iret rfl rfl ⟨rfl, _, rfl, by omega, by omega, by (unfold nbr; (repeat' split) <;> first | (exfalso; omega) | rfl | (subst_vars; rfl))⟩
set_option maxRecDepth 20000 in
set_option maxHeartbeats 4000000 in
theorem t_X12_weakOf {c : Int32} {h : im_H} (hI : tI h) (p_c0 : 0 ≤ c.toInt) (p_c1 : c.toInt ≤ 99) : CaP 1 122 [.ref 164, .int c] h (pI h (fun y => 0 ≤ y.toInt ∧ y.toInt ≤ 70)) := by
  refine cap_of (d := 0) (M := mX12_weakOf) rfl (Nat.le_of_ble_eq_true rfl) ?_
  show EvP im_K0 0 mX12_weakOf (0, [(0, .ref 164), (1, .int c)], [], h) _
  refine te_aload_n (p2 := 1) rfl rfl rfl ?_
  refine tg_r (p2 := 4) (i := 148) (r := 168) rfl rfl hI rfl rfl rfl ?_
  refine te_iload_n (p2 := 5) rfl rfl rfl ?_
  refine tl_i (p2 := 6) (i := 152) (n := 100) rfl rfl hI rfl rfl rfl rfl (by omega) (by omega) (fun y1 a1 b1 g1 e1 => ?_)
  refine te_iconst (p2 := 7) (x := (-1)) rfl rfl (by decide) ?_
  refine tb_ne (p2 := 10) rfl rfl rfl (show Int32.toInt (-1) = (-1) from rfl) (fun c2 => ?_) (fun c2 => ?_)
  · refine te_aload_n (p2 := 15) rfl rfl rfl ?_
    refine tg_r (p2 := 18) (i := 148) (r := 172) rfl rfl hI rfl rfl rfl ?_
    refine te_aload_n (p2 := 19) rfl rfl rfl ?_
    refine tg_r (p2 := 22) (i := 148) (r := 168) rfl rfl hI rfl rfl rfl ?_
    refine te_iload_n (p2 := 23) rfl rfl rfl ?_
    refine tl_e (p2 := 24) (i := 152) (n := 100) (t := 0) (Or.inl rfl) rfl rfl hI rfl rfl (by omega) (by omega) e1 ?_
    refine tl_i (p2 := 25) (i := 156) (n := 6) rfl rfl hI rfl rfl rfl rfl (by omega) (by omega) (fun y4 a4 b4 g4 e4 => ?_)
    exact te_iret rfl rfl ⟨rfl, _, rfl, by omega, by omega⟩
  · refine te_iconst (p2 := 11) (x := 3) rfl rfl (by decide) ?_
    refine te_goto rfl ?_
    exact te_iret rfl rfl ⟨rfl, _, rfl, by decide, by decide⟩
set_option maxRecDepth 20000 in
set_option maxHeartbeats 4000000 in
theorem t_X0_weakOf {c : Int32} {h : im_H} (hI : tI h) (p_c0 : 0 ≤ c.toInt) (p_c1 : c.toInt ≤ 99) : CaP 1 2 [.ref 17, .int c] h (pI h (fun y => 2 ≤ y.toInt ∧ y.toInt ≤ 7)) := by
  refine cap_of (d := 0) (M := mX0_weakOf) rfl (Nat.le_of_ble_eq_true rfl) ?_
  show EvP im_K0 0 mX0_weakOf (0, [(0, .ref 17), (1, .int c)], [], h) _
  refine te_aload_n (p2 := 1) rfl rfl rfl ?_
  refine tg_r (p2 := 4) (i := 1) (r := 18) rfl rfl hI rfl rfl rfl ?_
  refine te_iload_n (p2 := 5) rfl rfl rfl ?_
  refine tl_i (p2 := 6) (i := 2) (n := 100) rfl rfl hI rfl rfl rfl rfl (by omega) (by omega) (fun y1 a1 b1 g1 e1 => ?_)
  refine te_iconst (p2 := 7) (x := (-1)) rfl rfl (by decide) ?_
  refine tb_ne (p2 := 10) rfl rfl rfl (show Int32.toInt (-1) = (-1) from rfl) (fun c2 => ?_) (fun c2 => ?_)
  · refine te_gst (p2 := 17) rfl rfl (by decide) ?_
    refine te_aload_n (p2 := 18) rfl rfl rfl ?_
    refine tg_r (p2 := 21) (i := 1) (r := 18) rfl rfl hI rfl rfl rfl ?_
    refine te_iload_n (p2 := 22) rfl rfl rfl ?_
    refine tl_e (p2 := 23) (i := 2) (n := 100) (t := 0) (Or.inl rfl) rfl rfl hI rfl rfl (by omega) (by omega) e1 ?_
    refine tl_s (p2 := 24) (R := 3) (l := [3, 3, 2, 7, 2, 6]) (n := 6) (lo := 2) (hi := 7) rfl rfl (by decide) rfl rfl (by decide) (by omega) (by omega) (fun y4 a4 b4 e4 => ?_)
    exact te_iret rfl rfl ⟨rfl, _, rfl, by omega, by omega⟩
  · refine te_iconst (p2 := 11) (x := 3) rfl rfl (by decide) ?_
    refine te_goto rfl ?_
    exact te_iret rfl rfl ⟨rfl, _, rfl, by decide, by decide⟩
