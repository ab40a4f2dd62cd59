set_option maxRecDepth 20000 in
set_option maxHeartbeats 4000000 in
theorem c_X11_isOfKind_0 {wanted : Int32} {h : im_H} (hI : tI h)  : CaP 1 114 [.int 0, .int wanted] h (pI h (fun y => (y = 1 ∧ (wanted.toInt = 0 ∨ (0 : Int32).toInt = wanted.toInt ∨ (wanted.toInt = 1 ∧ ((0 : Int32).toInt = 3 ∨ (0 : Int32).toInt = 5)) ∨ (wanted.toInt = 2 ∧ (0 : Int32).toInt = 4))) ∨ (y = 0 ∧ ¬ ((wanted.toInt = 0 ∨ (0 : Int32).toInt = wanted.toInt ∨ (wanted.toInt = 1 ∧ ((0 : Int32).toInt = 3 ∨ (0 : Int32).toInt = 5)) ∨ (wanted.toInt = 2 ∧ (0 : Int32).toInt = 4)))))) := by
  refine cap_of (d := 0) (M := mX11_isOfKind) rfl (Nat.le_of_ble_eq_true rfl) ?_
  show EvP im_K0 0 mX11_isOfKind (0, [(0, .int 0), (1, .int wanted)], [], h) _
  refine te_iload_n (p2 := 1) rfl rfl rfl ?_
  refine te_istore_n (p2 := 2) (lv2 := [(2, .int 0), (0, .int 0), (1, .int wanted)]) rfl rfl (by decide) rfl ?_
  refine te_iconst (p2 := 3) (x := 0) rfl rfl (by decide) ?_
  refine te_istore_n (p2 := 4) (lv2 := [(3, .int 0), (2, .int 0), (0, .int 0), (1, .int wanted)]) rfl rfl (by decide) rfl ?_
  refine te_iload_n (p2 := 5) rfl rfl rfl ?_
  refine te_iconst (p2 := 6) (x := 3) rfl rfl (by decide) ?_
  refine tb_ge (p2 := 9) rfl rfl (show Int32.toInt 0 = 0 from rfl) (show Int32.toInt 3 = 3 from rfl) (fun c1 => absurd c1 (by omega)) (fun c1 => ?_)
  refine te_iload_n (p2 := 10) rfl rfl rfl ?_
  refine te_iconst (p2 := 11) (x := (-1)) rfl rfl (by decide) ?_
  refine tb_eq (p2 := 14) rfl rfl (show Int32.toInt 0 = 0 from rfl) (show Int32.toInt (-1) = (-1) from rfl) (fun c2 => absurd c2 (by omega)) (fun c2 => ?_)
  refine te_iload_n (p2 := 15) rfl rfl rfl ?_
  refine te_iload_n (p2 := 16) rfl rfl rfl ?_
  refine tb_ne (p2 := 19) rfl rfl (show Int32.toInt 0 = 0 from rfl) rfl (fun c3 => ?_) (fun c3 => ?_)
  · refine te_gst (p2 := 24) rfl rfl (by decide) ?_
    refine te_iload_n (p2 := 25) rfl rfl rfl ?_
    refine tl_s (p2 := 26) (R := 4) (l := [(-1), 0, 0, 1, 2, 1]) (n := 6) (lo := (-1)) (hi := 2) rfl rfl (by decide) rfl rfl (by decide) (by decide) (by decide) (fun y4 a4 b4 e4 => ?_)
    obtain rfl : y4 = (-1) := e4.symm.trans (by decide)
    show EvP _ _ _ (26, [(3, .int 0), (2, .int 0), (0, .int 0), (1, .int wanted)], [.int (-1)], h) _
    refine te_istore_n (p2 := 27) (lv2 := [(2, .int (-1)), (3, .int 0), (0, .int 0), (1, .int wanted)]) rfl rfl (by decide) rfl ?_
    refine te_iinc (p2 := 30) (x := 0) (y := 1) (lv2 := [(3, .int 1), (2, .int (-1)), (0, .int 0), (1, .int wanted)]) rfl rfl (by decide) rfl (by decide) rfl ?_
    refine te_goto rfl ?_
    refine te_iload_n (p2 := 5) rfl rfl rfl ?_
    refine te_iconst (p2 := 6) (x := 3) rfl rfl (by decide) ?_
    refine tb_ge (p2 := 9) rfl rfl (show Int32.toInt 1 = 1 from rfl) (show Int32.toInt 3 = 3 from rfl) (fun c6 => absurd c6 (by omega)) (fun c6 => ?_)
    refine te_iload_n (p2 := 10) rfl rfl rfl ?_
    refine te_iconst (p2 := 11) (x := (-1)) rfl rfl (by decide) ?_
    refine tb_eq (p2 := 14) rfl rfl (show Int32.toInt (-1) = (-1) from rfl) (show Int32.toInt (-1) = (-1) from rfl) (fun c7 => ?_) (fun c7 => absurd c7 (by omega))
    refine te_iconst (p2 := 34) (x := 0) rfl rfl (by decide) ?_
    exact te_zret rfl rfl (by decide) ⟨rfl, _, rfl, Or.inr ⟨rfl, by (have cq := (show Int32.toInt 0 = 0 from rfl)); omega⟩⟩
  · refine te_iconst (p2 := 20) (x := 1) rfl rfl (by decide) ?_
    exact te_zret rfl rfl (by decide) ⟨rfl, _, rfl, Or.inl ⟨rfl, by (have cq := (show Int32.toInt 0 = 0 from rfl)); omega⟩⟩
set_option maxRecDepth 20000 in
set_option maxHeartbeats 4000000 in
theorem c_X11_isOfKind_1 {wanted : Int32} {h : im_H} (hI : tI h)  : CaP 1 114 [.int 1, .int wanted] h (pI h (fun y => (y = 1 ∧ (wanted.toInt = 0 ∨ (1 : Int32).toInt = wanted.toInt ∨ (wanted.toInt = 1 ∧ ((1 : Int32).toInt = 3 ∨ (1 : Int32).toInt = 5)) ∨ (wanted.toInt = 2 ∧ (1 : Int32).toInt = 4))) ∨ (y = 0 ∧ ¬ ((wanted.toInt = 0 ∨ (1 : Int32).toInt = wanted.toInt ∨ (wanted.toInt = 1 ∧ ((1 : Int32).toInt = 3 ∨ (1 : Int32).toInt = 5)) ∨ (wanted.toInt = 2 ∧ (1 : Int32).toInt = 4)))))) := by
  refine cap_of (d := 0) (M := mX11_isOfKind) rfl (Nat.le_of_ble_eq_true rfl) ?_
  show EvP im_K0 0 mX11_isOfKind (0, [(0, .int 1), (1, .int wanted)], [], h) _
  refine te_iload_n (p2 := 1) rfl rfl rfl ?_
  refine te_istore_n (p2 := 2) (lv2 := [(2, .int 1), (0, .int 1), (1, .int wanted)]) rfl rfl (by decide) rfl ?_
  refine te_iconst (p2 := 3) (x := 0) rfl rfl (by decide) ?_
  refine te_istore_n (p2 := 4) (lv2 := [(3, .int 0), (2, .int 1), (0, .int 1), (1, .int wanted)]) rfl rfl (by decide) rfl ?_
  refine te_iload_n (p2 := 5) rfl rfl rfl ?_
  refine te_iconst (p2 := 6) (x := 3) rfl rfl (by decide) ?_
  refine tb_ge (p2 := 9) rfl rfl (show Int32.toInt 0 = 0 from rfl) (show Int32.toInt 3 = 3 from rfl) (fun c1 => absurd c1 (by omega)) (fun c1 => ?_)
  refine te_iload_n (p2 := 10) rfl rfl rfl ?_
  refine te_iconst (p2 := 11) (x := (-1)) rfl rfl (by decide) ?_
  refine tb_eq (p2 := 14) rfl rfl (show Int32.toInt 1 = 1 from rfl) (show Int32.toInt (-1) = (-1) from rfl) (fun c2 => absurd c2 (by omega)) (fun c2 => ?_)
  refine te_iload_n (p2 := 15) rfl rfl rfl ?_
  refine te_iload_n (p2 := 16) rfl rfl rfl ?_
  refine tb_ne (p2 := 19) rfl rfl (show Int32.toInt 1 = 1 from rfl) rfl (fun c3 => ?_) (fun c3 => ?_)
  · refine te_gst (p2 := 24) rfl rfl (by decide) ?_
    refine te_iload_n (p2 := 25) rfl rfl rfl ?_
    refine tl_s (p2 := 26) (R := 4) (l := [(-1), 0, 0, 1, 2, 1]) (n := 6) (lo := (-1)) (hi := 2) rfl rfl (by decide) rfl rfl (by decide) (by decide) (by decide) (fun y4 a4 b4 e4 => ?_)
    obtain rfl : y4 = 0 := e4.symm.trans (by decide)
    show EvP _ _ _ (26, [(3, .int 0), (2, .int 1), (0, .int 1), (1, .int wanted)], [.int 0], h) _
    refine te_istore_n (p2 := 27) (lv2 := [(2, .int 0), (3, .int 0), (0, .int 1), (1, .int wanted)]) rfl rfl (by decide) rfl ?_
    refine te_iinc (p2 := 30) (x := 0) (y := 1) (lv2 := [(3, .int 1), (2, .int 0), (0, .int 1), (1, .int wanted)]) rfl rfl (by decide) rfl (by decide) rfl ?_
    refine te_goto rfl ?_
    refine te_iload_n (p2 := 5) rfl rfl rfl ?_
    refine te_iconst (p2 := 6) (x := 3) rfl rfl (by decide) ?_
    refine tb_ge (p2 := 9) rfl rfl (show Int32.toInt 1 = 1 from rfl) (show Int32.toInt 3 = 3 from rfl) (fun c6 => absurd c6 (by omega)) (fun c6 => ?_)
    refine te_iload_n (p2 := 10) rfl rfl rfl ?_
    refine te_iconst (p2 := 11) (x := (-1)) rfl rfl (by decide) ?_
    refine tb_eq (p2 := 14) rfl rfl (show Int32.toInt 0 = 0 from rfl) (show Int32.toInt (-1) = (-1) from rfl) (fun c7 => absurd c7 (by omega)) (fun c7 => ?_)
    refine te_iload_n (p2 := 15) rfl rfl rfl ?_
    refine te_iload_n (p2 := 16) rfl rfl rfl ?_
    refine tb_ne (p2 := 19) rfl rfl (show Int32.toInt 0 = 0 from rfl) rfl (fun c8 => ?_) (fun c8 => ?_)
    · refine te_gst (p2 := 24) rfl rfl (by decide) ?_
      refine te_iload_n (p2 := 25) rfl rfl rfl ?_
      refine tl_s (p2 := 26) (R := 4) (l := [(-1), 0, 0, 1, 2, 1]) (n := 6) (lo := (-1)) (hi := 2) rfl rfl (by decide) rfl rfl (by decide) (by decide) (by decide) (fun y9 a9 b9 e9 => ?_)
      obtain rfl : y9 = (-1) := e9.symm.trans (by decide)
      show EvP _ _ _ (26, [(3, .int 1), (2, .int 0), (0, .int 1), (1, .int wanted)], [.int (-1)], h) _
      refine te_istore_n (p2 := 27) (lv2 := [(2, .int (-1)), (3, .int 1), (0, .int 1), (1, .int wanted)]) rfl rfl (by decide) rfl ?_
      refine te_iinc (p2 := 30) (x := 1) (y := 2) (lv2 := [(3, .int 2), (2, .int (-1)), (0, .int 1), (1, .int wanted)]) rfl rfl (by decide) rfl (by decide) rfl ?_
      refine te_goto rfl ?_
      refine te_iload_n (p2 := 5) rfl rfl rfl ?_
      refine te_iconst (p2 := 6) (x := 3) rfl rfl (by decide) ?_
      refine tb_ge (p2 := 9) rfl rfl (show Int32.toInt 2 = 2 from rfl) (show Int32.toInt 3 = 3 from rfl) (fun c11 => absurd c11 (by omega)) (fun c11 => ?_)
      refine te_iload_n (p2 := 10) rfl rfl rfl ?_
      refine te_iconst (p2 := 11) (x := (-1)) rfl rfl (by decide) ?_
      refine tb_eq (p2 := 14) rfl rfl (show Int32.toInt (-1) = (-1) from rfl) (show Int32.toInt (-1) = (-1) from rfl) (fun c12 => ?_) (fun c12 => absurd c12 (by omega))
      refine te_iconst (p2 := 34) (x := 0) rfl rfl (by decide) ?_
      exact te_zret rfl rfl (by decide) ⟨rfl, _, rfl, Or.inr ⟨rfl, by (have cq := (show Int32.toInt 1 = 1 from rfl)); omega⟩⟩
    · refine te_iconst (p2 := 20) (x := 1) rfl rfl (by decide) ?_
      exact te_zret rfl rfl (by decide) ⟨rfl, _, rfl, Or.inl ⟨rfl, by (have cq := (show Int32.toInt 1 = 1 from rfl)); omega⟩⟩
  · refine te_iconst (p2 := 20) (x := 1) rfl rfl (by decide) ?_
    exact te_zret rfl rfl (by decide) ⟨rfl, _, rfl, Or.inl ⟨rfl, by (have cq := (show Int32.toInt 1 = 1 from rfl)); omega⟩⟩
set_option maxRecDepth 20000 in
set_option maxHeartbeats 4000000 in
theorem c_X11_isOfKind_2 {wanted : Int32} {h : im_H} (hI : tI h)  : CaP 1 114 [.int 2, .int wanted] h (pI h (fun y => (y = 1 ∧ (wanted.toInt = 0 ∨ (2 : Int32).toInt = wanted.toInt ∨ (wanted.toInt = 1 ∧ ((2 : Int32).toInt = 3 ∨ (2 : Int32).toInt = 5)) ∨ (wanted.toInt = 2 ∧ (2 : Int32).toInt = 4))) ∨ (y = 0 ∧ ¬ ((wanted.toInt = 0 ∨ (2 : Int32).toInt = wanted.toInt ∨ (wanted.toInt = 1 ∧ ((2 : Int32).toInt = 3 ∨ (2 : Int32).toInt = 5)) ∨ (wanted.toInt = 2 ∧ (2 : Int32).toInt = 4)))))) := by
  refine cap_of (d := 0) (M := mX11_isOfKind) rfl (Nat.le_of_ble_eq_true rfl) ?_
  show EvP im_K0 0 mX11_isOfKind (0, [(0, .int 2), (1, .int wanted)], [], h) _
  refine te_iload_n (p2 := 1) rfl rfl rfl ?_
  refine te_istore_n (p2 := 2) (lv2 := [(2, .int 2), (0, .int 2), (1, .int wanted)]) rfl rfl (by decide) rfl ?_
  refine te_iconst (p2 := 3) (x := 0) rfl rfl (by decide) ?_
  refine te_istore_n (p2 := 4) (lv2 := [(3, .int 0), (2, .int 2), (0, .int 2), (1, .int wanted)]) rfl rfl (by decide) rfl ?_
  refine te_iload_n (p2 := 5) rfl rfl rfl ?_
  refine te_iconst (p2 := 6) (x := 3) rfl rfl (by decide) ?_
  refine tb_ge (p2 := 9) rfl rfl (show Int32.toInt 0 = 0 from rfl) (show Int32.toInt 3 = 3 from rfl) (fun c1 => absurd c1 (by omega)) (fun c1 => ?_)
  refine te_iload_n (p2 := 10) rfl rfl rfl ?_
  refine te_iconst (p2 := 11) (x := (-1)) rfl rfl (by decide) ?_
  refine tb_eq (p2 := 14) rfl rfl (show Int32.toInt 2 = 2 from rfl) (show Int32.toInt (-1) = (-1) from rfl) (fun c2 => absurd c2 (by omega)) (fun c2 => ?_)
  refine te_iload_n (p2 := 15) rfl rfl rfl ?_
  refine te_iload_n (p2 := 16) rfl rfl rfl ?_
  refine tb_ne (p2 := 19) rfl rfl (show Int32.toInt 2 = 2 from rfl) rfl (fun c3 => ?_) (fun c3 => ?_)
  · refine te_gst (p2 := 24) rfl rfl (by decide) ?_
    refine te_iload_n (p2 := 25) rfl rfl rfl ?_
    refine tl_s (p2 := 26) (R := 4) (l := [(-1), 0, 0, 1, 2, 1]) (n := 6) (lo := (-1)) (hi := 2) rfl rfl (by decide) rfl rfl (by decide) (by decide) (by decide) (fun y4 a4 b4 e4 => ?_)
    obtain rfl : y4 = 0 := e4.symm.trans (by decide)
    show EvP _ _ _ (26, [(3, .int 0), (2, .int 2), (0, .int 2), (1, .int wanted)], [.int 0], h) _
    refine te_istore_n (p2 := 27) (lv2 := [(2, .int 0), (3, .int 0), (0, .int 2), (1, .int wanted)]) rfl rfl (by decide) rfl ?_
    refine te_iinc (p2 := 30) (x := 0) (y := 1) (lv2 := [(3, .int 1), (2, .int 0), (0, .int 2), (1, .int wanted)]) rfl rfl (by decide) rfl (by decide) rfl ?_
    refine te_goto rfl ?_
    refine te_iload_n (p2 := 5) rfl rfl rfl ?_
    refine te_iconst (p2 := 6) (x := 3) rfl rfl (by decide) ?_
    refine tb_ge (p2 := 9) rfl rfl (show Int32.toInt 1 = 1 from rfl) (show Int32.toInt 3 = 3 from rfl) (fun c6 => absurd c6 (by omega)) (fun c6 => ?_)
    refine te_iload_n (p2 := 10) rfl rfl rfl ?_
    refine te_iconst (p2 := 11) (x := (-1)) rfl rfl (by decide) ?_
    refine tb_eq (p2 := 14) rfl rfl (show Int32.toInt 0 = 0 from rfl) (show Int32.toInt (-1) = (-1) from rfl) (fun c7 => absurd c7 (by omega)) (fun c7 => ?_)
    refine te_iload_n (p2 := 15) rfl rfl rfl ?_
    refine te_iload_n (p2 := 16) rfl rfl rfl ?_
    refine tb_ne (p2 := 19) rfl rfl (show Int32.toInt 0 = 0 from rfl) rfl (fun c8 => ?_) (fun c8 => ?_)
    · refine te_gst (p2 := 24) rfl rfl (by decide) ?_
      refine te_iload_n (p2 := 25) rfl rfl rfl ?_
      refine tl_s (p2 := 26) (R := 4) (l := [(-1), 0, 0, 1, 2, 1]) (n := 6) (lo := (-1)) (hi := 2) rfl rfl (by decide) rfl rfl (by decide) (by decide) (by decide) (fun y9 a9 b9 e9 => ?_)
      obtain rfl : y9 = (-1) := e9.symm.trans (by decide)
      show EvP _ _ _ (26, [(3, .int 1), (2, .int 0), (0, .int 2), (1, .int wanted)], [.int (-1)], h) _
      refine te_istore_n (p2 := 27) (lv2 := [(2, .int (-1)), (3, .int 1), (0, .int 2), (1, .int wanted)]) rfl rfl (by decide) rfl ?_
      refine te_iinc (p2 := 30) (x := 1) (y := 2) (lv2 := [(3, .int 2), (2, .int (-1)), (0, .int 2), (1, .int wanted)]) rfl rfl (by decide) rfl (by decide) rfl ?_
      refine te_goto rfl ?_
      refine te_iload_n (p2 := 5) rfl rfl rfl ?_
      refine te_iconst (p2 := 6) (x := 3) rfl rfl (by decide) ?_
      refine tb_ge (p2 := 9) rfl rfl (show Int32.toInt 2 = 2 from rfl) (show Int32.toInt 3 = 3 from rfl) (fun c11 => absurd c11 (by omega)) (fun c11 => ?_)
      refine te_iload_n (p2 := 10) rfl rfl rfl ?_
      refine te_iconst (p2 := 11) (x := (-1)) rfl rfl (by decide) ?_
      refine tb_eq (p2 := 14) rfl rfl (show Int32.toInt (-1) = (-1) from rfl) (show Int32.toInt (-1) = (-1) from rfl) (fun c12 => ?_) (fun c12 => absurd c12 (by omega))
      refine te_iconst (p2 := 34) (x := 0) rfl rfl (by decide) ?_
      exact te_zret rfl rfl (by decide) ⟨rfl, _, rfl, Or.inr ⟨rfl, by (have cq := (show Int32.toInt 2 = 2 from rfl)); omega⟩⟩
    · refine te_iconst (p2 := 20) (x := 1) rfl rfl (by decide) ?_
      exact te_zret rfl rfl (by decide) ⟨rfl, _, rfl, Or.inl ⟨rfl, by (have cq := (show Int32.toInt 2 = 2 from rfl)); omega⟩⟩
  · refine te_iconst (p2 := 20) (x := 1) rfl rfl (by decide) ?_
    exact te_zret rfl rfl (by decide) ⟨rfl, _, rfl, Or.inl ⟨rfl, by (have cq := (show Int32.toInt 2 = 2 from rfl)); omega⟩⟩
set_option maxRecDepth 20000 in
set_option maxHeartbeats 4000000 in
theorem c_X11_isOfKind_3 {wanted : Int32} {h : im_H} (hI : tI h)  : CaP 1 114 [.int 3, .int wanted] h (pI h (fun y => (y = 1 ∧ (wanted.toInt = 0 ∨ (3 : Int32).toInt = wanted.toInt ∨ (wanted.toInt = 1 ∧ ((3 : Int32).toInt = 3 ∨ (3 : Int32).toInt = 5)) ∨ (wanted.toInt = 2 ∧ (3 : Int32).toInt = 4))) ∨ (y = 0 ∧ ¬ ((wanted.toInt = 0 ∨ (3 : Int32).toInt = wanted.toInt ∨ (wanted.toInt = 1 ∧ ((3 : Int32).toInt = 3 ∨ (3 : Int32).toInt = 5)) ∨ (wanted.toInt = 2 ∧ (3 : Int32).toInt = 4)))))) := by
  refine cap_of (d := 0) (M := mX11_isOfKind) rfl (Nat.le_of_ble_eq_true rfl) ?_
  show EvP im_K0 0 mX11_isOfKind (0, [(0, .int 3), (1, .int wanted)], [], h) _
  refine te_iload_n (p2 := 1) rfl rfl rfl ?_
  refine te_istore_n (p2 := 2) (lv2 := [(2, .int 3), (0, .int 3), (1, .int wanted)]) rfl rfl (by decide) rfl ?_
  refine te_iconst (p2 := 3) (x := 0) rfl rfl (by decide) ?_
  refine te_istore_n (p2 := 4) (lv2 := [(3, .int 0), (2, .int 3), (0, .int 3), (1, .int wanted)]) rfl rfl (by decide) rfl ?_
  refine te_iload_n (p2 := 5) rfl rfl rfl ?_
  refine te_iconst (p2 := 6) (x := 3) rfl rfl (by decide) ?_
  refine tb_ge (p2 := 9) rfl rfl (show Int32.toInt 0 = 0 from rfl) (show Int32.toInt 3 = 3 from rfl) (fun c1 => absurd c1 (by omega)) (fun c1 => ?_)
  refine te_iload_n (p2 := 10) rfl rfl rfl ?_
  refine te_iconst (p2 := 11) (x := (-1)) rfl rfl (by decide) ?_
  refine tb_eq (p2 := 14) rfl rfl (show Int32.toInt 3 = 3 from rfl) (show Int32.toInt (-1) = (-1) from rfl) (fun c2 => absurd c2 (by omega)) (fun c2 => ?_)
  refine te_iload_n (p2 := 15) rfl rfl rfl ?_
  refine te_iload_n (p2 := 16) rfl rfl rfl ?_
  refine tb_ne (p2 := 19) rfl rfl (show Int32.toInt 3 = 3 from rfl) rfl (fun c3 => ?_) (fun c3 => ?_)
  · refine te_gst (p2 := 24) rfl rfl (by decide) ?_
    refine te_iload_n (p2 := 25) rfl rfl rfl ?_
    refine tl_s (p2 := 26) (R := 4) (l := [(-1), 0, 0, 1, 2, 1]) (n := 6) (lo := (-1)) (hi := 2) rfl rfl (by decide) rfl rfl (by decide) (by decide) (by decide) (fun y4 a4 b4 e4 => ?_)
    obtain rfl : y4 = 1 := e4.symm.trans (by decide)
    show EvP _ _ _ (26, [(3, .int 0), (2, .int 3), (0, .int 3), (1, .int wanted)], [.int 1], h) _
    refine te_istore_n (p2 := 27) (lv2 := [(2, .int 1), (3, .int 0), (0, .int 3), (1, .int wanted)]) rfl rfl (by decide) rfl ?_
    refine te_iinc (p2 := 30) (x := 0) (y := 1) (lv2 := [(3, .int 1), (2, .int 1), (0, .int 3), (1, .int wanted)]) rfl rfl (by decide) rfl (by decide) rfl ?_
    refine te_goto rfl ?_
    refine te_iload_n (p2 := 5) rfl rfl rfl ?_
    refine te_iconst (p2 := 6) (x := 3) rfl rfl (by decide) ?_
    refine tb_ge (p2 := 9) rfl rfl (show Int32.toInt 1 = 1 from rfl) (show Int32.toInt 3 = 3 from rfl) (fun c6 => absurd c6 (by omega)) (fun c6 => ?_)
    refine te_iload_n (p2 := 10) rfl rfl rfl ?_
    refine te_iconst (p2 := 11) (x := (-1)) rfl rfl (by decide) ?_
    refine tb_eq (p2 := 14) rfl rfl (show Int32.toInt 1 = 1 from rfl) (show Int32.toInt (-1) = (-1) from rfl) (fun c7 => absurd c7 (by omega)) (fun c7 => ?_)
    refine te_iload_n (p2 := 15) rfl rfl rfl ?_
    refine te_iload_n (p2 := 16) rfl rfl rfl ?_
    refine tb_ne (p2 := 19) rfl rfl (show Int32.toInt 1 = 1 from rfl) rfl (fun c8 => ?_) (fun c8 => ?_)
    · refine te_gst (p2 := 24) rfl rfl (by decide) ?_
      refine te_iload_n (p2 := 25) rfl rfl rfl ?_
      refine tl_s (p2 := 26) (R := 4) (l := [(-1), 0, 0, 1, 2, 1]) (n := 6) (lo := (-1)) (hi := 2) rfl rfl (by decide) rfl rfl (by decide) (by decide) (by decide) (fun y9 a9 b9 e9 => ?_)
      obtain rfl : y9 = 0 := e9.symm.trans (by decide)
      show EvP _ _ _ (26, [(3, .int 1), (2, .int 1), (0, .int 3), (1, .int wanted)], [.int 0], h) _
      refine te_istore_n (p2 := 27) (lv2 := [(2, .int 0), (3, .int 1), (0, .int 3), (1, .int wanted)]) rfl rfl (by decide) rfl ?_
      refine te_iinc (p2 := 30) (x := 1) (y := 2) (lv2 := [(3, .int 2), (2, .int 0), (0, .int 3), (1, .int wanted)]) rfl rfl (by decide) rfl (by decide) rfl ?_
      refine te_goto rfl ?_
      refine te_iload_n (p2 := 5) rfl rfl rfl ?_
      refine te_iconst (p2 := 6) (x := 3) rfl rfl (by decide) ?_
      refine tb_ge (p2 := 9) rfl rfl (show Int32.toInt 2 = 2 from rfl) (show Int32.toInt 3 = 3 from rfl) (fun c11 => absurd c11 (by omega)) (fun c11 => ?_)
      refine te_iload_n (p2 := 10) rfl rfl rfl ?_
      refine te_iconst (p2 := 11) (x := (-1)) rfl rfl (by decide) ?_
      refine tb_eq (p2 := 14) rfl rfl (show Int32.toInt 0 = 0 from rfl) (show Int32.toInt (-1) = (-1) from rfl) (fun c12 => absurd c12 (by omega)) (fun c12 => ?_)
      refine te_iload_n (p2 := 15) rfl rfl rfl ?_
      refine te_iload_n (p2 := 16) rfl rfl rfl ?_
      refine tb_ne (p2 := 19) rfl rfl (show Int32.toInt 0 = 0 from rfl) rfl (fun c13 => ?_) (fun c13 => ?_)
      · refine te_gst (p2 := 24) rfl rfl (by decide) ?_
        refine te_iload_n (p2 := 25) rfl rfl rfl ?_
        refine tl_s (p2 := 26) (R := 4) (l := [(-1), 0, 0, 1, 2, 1]) (n := 6) (lo := (-1)) (hi := 2) rfl rfl (by decide) rfl rfl (by decide) (by decide) (by decide) (fun y14 a14 b14 e14 => ?_)
        obtain rfl : y14 = (-1) := e14.symm.trans (by decide)
        show EvP _ _ _ (26, [(3, .int 2), (2, .int 0), (0, .int 3), (1, .int wanted)], [.int (-1)], h) _
        refine te_istore_n (p2 := 27) (lv2 := [(2, .int (-1)), (3, .int 2), (0, .int 3), (1, .int wanted)]) rfl rfl (by decide) rfl ?_
        refine te_iinc (p2 := 30) (x := 2) (y := 3) (lv2 := [(3, .int 3), (2, .int (-1)), (0, .int 3), (1, .int wanted)]) rfl rfl (by decide) rfl (by decide) rfl ?_
        refine te_goto rfl ?_
        refine te_iload_n (p2 := 5) rfl rfl rfl ?_
        refine te_iconst (p2 := 6) (x := 3) rfl rfl (by decide) ?_
        refine tb_ge (p2 := 9) rfl rfl (show Int32.toInt 3 = 3 from rfl) (show Int32.toInt 3 = 3 from rfl) (fun c16 => ?_) (fun c16 => absurd c16 (by omega))
        refine te_iconst (p2 := 34) (x := 0) rfl rfl (by decide) ?_
        exact te_zret rfl rfl (by decide) ⟨rfl, _, rfl, Or.inr ⟨rfl, by (have cq := (show Int32.toInt 3 = 3 from rfl)); omega⟩⟩
      · refine te_iconst (p2 := 20) (x := 1) rfl rfl (by decide) ?_
        exact te_zret rfl rfl (by decide) ⟨rfl, _, rfl, Or.inl ⟨rfl, by (have cq := (show Int32.toInt 3 = 3 from rfl)); omega⟩⟩
    · refine te_iconst (p2 := 20) (x := 1) rfl rfl (by decide) ?_
      exact te_zret rfl rfl (by decide) ⟨rfl, _, rfl, Or.inl ⟨rfl, by (have cq := (show Int32.toInt 3 = 3 from rfl)); omega⟩⟩
  · refine te_iconst (p2 := 20) (x := 1) rfl rfl (by decide) ?_
    exact te_zret rfl rfl (by decide) ⟨rfl, _, rfl, Or.inl ⟨rfl, by (have cq := (show Int32.toInt 3 = 3 from rfl)); omega⟩⟩
set_option maxRecDepth 20000 in
set_option maxHeartbeats 4000000 in
theorem c_X11_isOfKind_4 {wanted : Int32} {h : im_H} (hI : tI h)  : CaP 1 114 [.int 4, .int wanted] h (pI h (fun y => (y = 1 ∧ (wanted.toInt = 0 ∨ (4 : Int32).toInt = wanted.toInt ∨ (wanted.toInt = 1 ∧ ((4 : Int32).toInt = 3 ∨ (4 : Int32).toInt = 5)) ∨ (wanted.toInt = 2 ∧ (4 : Int32).toInt = 4))) ∨ (y = 0 ∧ ¬ ((wanted.toInt = 0 ∨ (4 : Int32).toInt = wanted.toInt ∨ (wanted.toInt = 1 ∧ ((4 : Int32).toInt = 3 ∨ (4 : Int32).toInt = 5)) ∨ (wanted.toInt = 2 ∧ (4 : Int32).toInt = 4)))))) := by
  refine cap_of (d := 0) (M := mX11_isOfKind) rfl (Nat.le_of_ble_eq_true rfl) ?_
  show EvP im_K0 0 mX11_isOfKind (0, [(0, .int 4), (1, .int wanted)], [], h) _
  refine te_iload_n (p2 := 1) rfl rfl rfl ?_
  refine te_istore_n (p2 := 2) (lv2 := [(2, .int 4), (0, .int 4), (1, .int wanted)]) rfl rfl (by decide) rfl ?_
  refine te_iconst (p2 := 3) (x := 0) rfl rfl (by decide) ?_
  refine te_istore_n (p2 := 4) (lv2 := [(3, .int 0), (2, .int 4), (0, .int 4), (1, .int wanted)]) rfl rfl (by decide) rfl ?_
  refine te_iload_n (p2 := 5) rfl rfl rfl ?_
  refine te_iconst (p2 := 6) (x := 3) rfl rfl (by decide) ?_
  refine tb_ge (p2 := 9) rfl rfl (show Int32.toInt 0 = 0 from rfl) (show Int32.toInt 3 = 3 from rfl) (fun c1 => absurd c1 (by omega)) (fun c1 => ?_)
  refine te_iload_n (p2 := 10) rfl rfl rfl ?_
  refine te_iconst (p2 := 11) (x := (-1)) rfl rfl (by decide) ?_
  refine tb_eq (p2 := 14) rfl rfl (show Int32.toInt 4 = 4 from rfl) (show Int32.toInt (-1) = (-1) from rfl) (fun c2 => absurd c2 (by omega)) (fun c2 => ?_)
  refine te_iload_n (p2 := 15) rfl rfl rfl ?_
  refine te_iload_n (p2 := 16) rfl rfl rfl ?_
  refine tb_ne (p2 := 19) rfl rfl (show Int32.toInt 4 = 4 from rfl) rfl (fun c3 => ?_) (fun c3 => ?_)
  · refine te_gst (p2 := 24) rfl rfl (by decide) ?_
    refine te_iload_n (p2 := 25) rfl rfl rfl ?_
    refine tl_s (p2 := 26) (R := 4) (l := [(-1), 0, 0, 1, 2, 1]) (n := 6) (lo := (-1)) (hi := 2) rfl rfl (by decide) rfl rfl (by decide) (by decide) (by decide) (fun y4 a4 b4 e4 => ?_)
    obtain rfl : y4 = 2 := e4.symm.trans (by decide)
    show EvP _ _ _ (26, [(3, .int 0), (2, .int 4), (0, .int 4), (1, .int wanted)], [.int 2], h) _
    refine te_istore_n (p2 := 27) (lv2 := [(2, .int 2), (3, .int 0), (0, .int 4), (1, .int wanted)]) rfl rfl (by decide) rfl ?_
    refine te_iinc (p2 := 30) (x := 0) (y := 1) (lv2 := [(3, .int 1), (2, .int 2), (0, .int 4), (1, .int wanted)]) rfl rfl (by decide) rfl (by decide) rfl ?_
    refine te_goto rfl ?_
    refine te_iload_n (p2 := 5) rfl rfl rfl ?_
    refine te_iconst (p2 := 6) (x := 3) rfl rfl (by decide) ?_
    refine tb_ge (p2 := 9) rfl rfl (show Int32.toInt 1 = 1 from rfl) (show Int32.toInt 3 = 3 from rfl) (fun c6 => absurd c6 (by omega)) (fun c6 => ?_)
    refine te_iload_n (p2 := 10) rfl rfl rfl ?_
    refine te_iconst (p2 := 11) (x := (-1)) rfl rfl (by decide) ?_
    refine tb_eq (p2 := 14) rfl rfl (show Int32.toInt 2 = 2 from rfl) (show Int32.toInt (-1) = (-1) from rfl) (fun c7 => absurd c7 (by omega)) (fun c7 => ?_)
    refine te_iload_n (p2 := 15) rfl rfl rfl ?_
    refine te_iload_n (p2 := 16) rfl rfl rfl ?_
    refine tb_ne (p2 := 19) rfl rfl (show Int32.toInt 2 = 2 from rfl) rfl (fun c8 => ?_) (fun c8 => ?_)
    · refine te_gst (p2 := 24) rfl rfl (by decide) ?_
      refine te_iload_n (p2 := 25) rfl rfl rfl ?_
      refine tl_s (p2 := 26) (R := 4) (l := [(-1), 0, 0, 1, 2, 1]) (n := 6) (lo := (-1)) (hi := 2) rfl rfl (by decide) rfl rfl (by decide) (by decide) (by decide) (fun y9 a9 b9 e9 => ?_)
      obtain rfl : y9 = 0 := e9.symm.trans (by decide)
      show EvP _ _ _ (26, [(3, .int 1), (2, .int 2), (0, .int 4), (1, .int wanted)], [.int 0], h) _
      refine te_istore_n (p2 := 27) (lv2 := [(2, .int 0), (3, .int 1), (0, .int 4), (1, .int wanted)]) rfl rfl (by decide) rfl ?_
      refine te_iinc (p2 := 30) (x := 1) (y := 2) (lv2 := [(3, .int 2), (2, .int 0), (0, .int 4), (1, .int wanted)]) rfl rfl (by decide) rfl (by decide) rfl ?_
      refine te_goto rfl ?_
      refine te_iload_n (p2 := 5) rfl rfl rfl ?_
      refine te_iconst (p2 := 6) (x := 3) rfl rfl (by decide) ?_
      refine tb_ge (p2 := 9) rfl rfl (show Int32.toInt 2 = 2 from rfl) (show Int32.toInt 3 = 3 from rfl) (fun c11 => absurd c11 (by omega)) (fun c11 => ?_)
      refine te_iload_n (p2 := 10) rfl rfl rfl ?_
      refine te_iconst (p2 := 11) (x := (-1)) rfl rfl (by decide) ?_
      refine tb_eq (p2 := 14) rfl rfl (show Int32.toInt 0 = 0 from rfl) (show Int32.toInt (-1) = (-1) from rfl) (fun c12 => absurd c12 (by omega)) (fun c12 => ?_)
      refine te_iload_n (p2 := 15) rfl rfl rfl ?_
      refine te_iload_n (p2 := 16) rfl rfl rfl ?_
      refine tb_ne (p2 := 19) rfl rfl (show Int32.toInt 0 = 0 from rfl) rfl (fun c13 => ?_) (fun c13 => ?_)
      · refine te_gst (p2 := 24) rfl rfl (by decide) ?_
        refine te_iload_n (p2 := 25) rfl rfl rfl ?_
        refine tl_s (p2 := 26) (R := 4) (l := [(-1), 0, 0, 1, 2, 1]) (n := 6) (lo := (-1)) (hi := 2) rfl rfl (by decide) rfl rfl (by decide) (by decide) (by decide) (fun y14 a14 b14 e14 => ?_)
        obtain rfl : y14 = (-1) := e14.symm.trans (by decide)
        show EvP _ _ _ (26, [(3, .int 2), (2, .int 0), (0, .int 4), (1, .int wanted)], [.int (-1)], h) _
        refine te_istore_n (p2 := 27) (lv2 := [(2, .int (-1)), (3, .int 2), (0, .int 4), (1, .int wanted)]) rfl rfl (by decide) rfl ?_
        refine te_iinc (p2 := 30) (x := 2) (y := 3) (lv2 := [(3, .int 3), (2, .int (-1)), (0, .int 4), (1, .int wanted)]) rfl rfl (by decide) rfl (by decide) rfl ?_
        refine te_goto rfl ?_
        refine te_iload_n (p2 := 5) rfl rfl rfl ?_
        refine te_iconst (p2 := 6) (x := 3) rfl rfl (by decide) ?_
        refine tb_ge (p2 := 9) rfl rfl (show Int32.toInt 3 = 3 from rfl) (show Int32.toInt 3 = 3 from rfl) (fun c16 => ?_) (fun c16 => absurd c16 (by omega))
        refine te_iconst (p2 := 34) (x := 0) rfl rfl (by decide) ?_
        exact te_zret rfl rfl (by decide) ⟨rfl, _, rfl, Or.inr ⟨rfl, by (have cq := (show Int32.toInt 4 = 4 from rfl)); omega⟩⟩
      · refine te_iconst (p2 := 20) (x := 1) rfl rfl (by decide) ?_
        exact te_zret rfl rfl (by decide) ⟨rfl, _, rfl, Or.inl ⟨rfl, by (have cq := (show Int32.toInt 4 = 4 from rfl)); omega⟩⟩
    · refine te_iconst (p2 := 20) (x := 1) rfl rfl (by decide) ?_
      exact te_zret rfl rfl (by decide) ⟨rfl, _, rfl, Or.inl ⟨rfl, by (have cq := (show Int32.toInt 4 = 4 from rfl)); omega⟩⟩
  · refine te_iconst (p2 := 20) (x := 1) rfl rfl (by decide) ?_
    exact te_zret rfl rfl (by decide) ⟨rfl, _, rfl, Or.inl ⟨rfl, by (have cq := (show Int32.toInt 4 = 4 from rfl)); omega⟩⟩
set_option maxRecDepth 20000 in
set_option maxHeartbeats 4000000 in
theorem c_X11_isOfKind_5 {wanted : Int32} {h : im_H} (hI : tI h)  : CaP 1 114 [.int 5, .int wanted] h (pI h (fun y => (y = 1 ∧ (wanted.toInt = 0 ∨ (5 : Int32).toInt = wanted.toInt ∨ (wanted.toInt = 1 ∧ ((5 : Int32).toInt = 3 ∨ (5 : Int32).toInt = 5)) ∨ (wanted.toInt = 2 ∧ (5 : Int32).toInt = 4))) ∨ (y = 0 ∧ ¬ ((wanted.toInt = 0 ∨ (5 : Int32).toInt = wanted.toInt ∨ (wanted.toInt = 1 ∧ ((5 : Int32).toInt = 3 ∨ (5 : Int32).toInt = 5)) ∨ (wanted.toInt = 2 ∧ (5 : Int32).toInt = 4)))))) := by
  refine cap_of (d := 0) (M := mX11_isOfKind) rfl (Nat.le_of_ble_eq_true rfl) ?_
  show EvP im_K0 0 mX11_isOfKind (0, [(0, .int 5), (1, .int wanted)], [], h) _
  refine te_iload_n (p2 := 1) rfl rfl rfl ?_
  refine te_istore_n (p2 := 2) (lv2 := [(2, .int 5), (0, .int 5), (1, .int wanted)]) rfl rfl (by decide) rfl ?_
  refine te_iconst (p2 := 3) (x := 0) rfl rfl (by decide) ?_
  refine te_istore_n (p2 := 4) (lv2 := [(3, .int 0), (2, .int 5), (0, .int 5), (1, .int wanted)]) rfl rfl (by decide) rfl ?_
  refine te_iload_n (p2 := 5) rfl rfl rfl ?_
  refine te_iconst (p2 := 6) (x := 3) rfl rfl (by decide) ?_
  refine tb_ge (p2 := 9) rfl rfl (show Int32.toInt 0 = 0 from rfl) (show Int32.toInt 3 = 3 from rfl) (fun c1 => absurd c1 (by omega)) (fun c1 => ?_)
  refine te_iload_n (p2 := 10) rfl rfl rfl ?_
  refine te_iconst (p2 := 11) (x := (-1)) rfl rfl (by decide) ?_
  refine tb_eq (p2 := 14) rfl rfl (show Int32.toInt 5 = 5 from rfl) (show Int32.toInt (-1) = (-1) from rfl) (fun c2 => absurd c2 (by omega)) (fun c2 => ?_)
  refine te_iload_n (p2 := 15) rfl rfl rfl ?_
  refine te_iload_n (p2 := 16) rfl rfl rfl ?_
  refine tb_ne (p2 := 19) rfl rfl (show Int32.toInt 5 = 5 from rfl) rfl (fun c3 => ?_) (fun c3 => ?_)
  · refine te_gst (p2 := 24) rfl rfl (by decide) ?_
    refine te_iload_n (p2 := 25) rfl rfl rfl ?_
    refine tl_s (p2 := 26) (R := 4) (l := [(-1), 0, 0, 1, 2, 1]) (n := 6) (lo := (-1)) (hi := 2) rfl rfl (by decide) rfl rfl (by decide) (by decide) (by decide) (fun y4 a4 b4 e4 => ?_)
    obtain rfl : y4 = 1 := e4.symm.trans (by decide)
    show EvP _ _ _ (26, [(3, .int 0), (2, .int 5), (0, .int 5), (1, .int wanted)], [.int 1], h) _
    refine te_istore_n (p2 := 27) (lv2 := [(2, .int 1), (3, .int 0), (0, .int 5), (1, .int wanted)]) rfl rfl (by decide) rfl ?_
    refine te_iinc (p2 := 30) (x := 0) (y := 1) (lv2 := [(3, .int 1), (2, .int 1), (0, .int 5), (1, .int wanted)]) rfl rfl (by decide) rfl (by decide) rfl ?_
    refine te_goto rfl ?_
    refine te_iload_n (p2 := 5) rfl rfl rfl ?_
    refine te_iconst (p2 := 6) (x := 3) rfl rfl (by decide) ?_
    refine tb_ge (p2 := 9) rfl rfl (show Int32.toInt 1 = 1 from rfl) (show Int32.toInt 3 = 3 from rfl) (fun c6 => absurd c6 (by omega)) (fun c6 => ?_)
    refine te_iload_n (p2 := 10) rfl rfl rfl ?_
    refine te_iconst (p2 := 11) (x := (-1)) rfl rfl (by decide) ?_
    refine tb_eq (p2 := 14) rfl rfl (show Int32.toInt 1 = 1 from rfl) (show Int32.toInt (-1) = (-1) from rfl) (fun c7 => absurd c7 (by omega)) (fun c7 => ?_)
    refine te_iload_n (p2 := 15) rfl rfl rfl ?_
    refine te_iload_n (p2 := 16) rfl rfl rfl ?_
    refine tb_ne (p2 := 19) rfl rfl (show Int32.toInt 1 = 1 from rfl) rfl (fun c8 => ?_) (fun c8 => ?_)
    · refine te_gst (p2 := 24) rfl rfl (by decide) ?_
      refine te_iload_n (p2 := 25) rfl rfl rfl ?_
      refine tl_s (p2 := 26) (R := 4) (l := [(-1), 0, 0, 1, 2, 1]) (n := 6) (lo := (-1)) (hi := 2) rfl rfl (by decide) rfl rfl (by decide) (by decide) (by decide) (fun y9 a9 b9 e9 => ?_)
      obtain rfl : y9 = 0 := e9.symm.trans (by decide)
      show EvP _ _ _ (26, [(3, .int 1), (2, .int 1), (0, .int 5), (1, .int wanted)], [.int 0], h) _
      refine te_istore_n (p2 := 27) (lv2 := [(2, .int 0), (3, .int 1), (0, .int 5), (1, .int wanted)]) rfl rfl (by decide) rfl ?_
      refine te_iinc (p2 := 30) (x := 1) (y := 2) (lv2 := [(3, .int 2), (2, .int 0), (0, .int 5), (1, .int wanted)]) rfl rfl (by decide) rfl (by decide) rfl ?_
      refine te_goto rfl ?_
      refine te_iload_n (p2 := 5) rfl rfl rfl ?_
      refine te_iconst (p2 := 6) (x := 3) rfl rfl (by decide) ?_
      refine tb_ge (p2 := 9) rfl rfl (show Int32.toInt 2 = 2 from rfl) (show Int32.toInt 3 = 3 from rfl) (fun c11 => absurd c11 (by omega)) (fun c11 => ?_)
      refine te_iload_n (p2 := 10) rfl rfl rfl ?_
      refine te_iconst (p2 := 11) (x := (-1)) rfl rfl (by decide) ?_
      refine tb_eq (p2 := 14) rfl rfl (show Int32.toInt 0 = 0 from rfl) (show Int32.toInt (-1) = (-1) from rfl) (fun c12 => absurd c12 (by omega)) (fun c12 => ?_)
      refine te_iload_n (p2 := 15) rfl rfl rfl ?_
      refine te_iload_n (p2 := 16) rfl rfl rfl ?_
      refine tb_ne (p2 := 19) rfl rfl (show Int32.toInt 0 = 0 from rfl) rfl (fun c13 => ?_) (fun c13 => ?_)
      · refine te_gst (p2 := 24) rfl rfl (by decide) ?_
        refine te_iload_n (p2 := 25) rfl rfl rfl ?_
        refine tl_s (p2 := 26) (R := 4) (l := [(-1), 0, 0, 1, 2, 1]) (n := 6) (lo := (-1)) (hi := 2) rfl rfl (by decide) rfl rfl (by decide) (by decide) (by decide) (fun y14 a14 b14 e14 => ?_)
        obtain rfl : y14 = (-1) := e14.symm.trans (by decide)
        show EvP _ _ _ (26, [(3, .int 2), (2, .int 0), (0, .int 5), (1, .int wanted)], [.int (-1)], h) _
        refine te_istore_n (p2 := 27) (lv2 := [(2, .int (-1)), (3, .int 2), (0, .int 5), (1, .int wanted)]) rfl rfl (by decide) rfl ?_
        refine te_iinc (p2 := 30) (x := 2) (y := 3) (lv2 := [(3, .int 3), (2, .int (-1)), (0, .int 5), (1, .int wanted)]) rfl rfl (by decide) rfl (by decide) rfl ?_
        refine te_goto rfl ?_
        refine te_iload_n (p2 := 5) rfl rfl rfl ?_
        refine te_iconst (p2 := 6) (x := 3) rfl rfl (by decide) ?_
        refine tb_ge (p2 := 9) rfl rfl (show Int32.toInt 3 = 3 from rfl) (show Int32.toInt 3 = 3 from rfl) (fun c16 => ?_) (fun c16 => absurd c16 (by omega))
        refine te_iconst (p2 := 34) (x := 0) rfl rfl (by decide) ?_
        exact te_zret rfl rfl (by decide) ⟨rfl, _, rfl, Or.inr ⟨rfl, by (have cq := (show Int32.toInt 5 = 5 from rfl)); omega⟩⟩
      · refine te_iconst (p2 := 20) (x := 1) rfl rfl (by decide) ?_
        exact te_zret rfl rfl (by decide) ⟨rfl, _, rfl, Or.inl ⟨rfl, by (have cq := (show Int32.toInt 5 = 5 from rfl)); omega⟩⟩
    · refine te_iconst (p2 := 20) (x := 1) rfl rfl (by decide) ?_
      exact te_zret rfl rfl (by decide) ⟨rfl, _, rfl, Or.inl ⟨rfl, by (have cq := (show Int32.toInt 5 = 5 from rfl)); omega⟩⟩
  · refine te_iconst (p2 := 20) (x := 1) rfl rfl (by decide) ?_
    exact te_zret rfl rfl (by decide) ⟨rfl, _, rfl, Or.inl ⟨rfl, by (have cq := (show Int32.toInt 5 = 5 from rfl)); omega⟩⟩
theorem c_X11_isOfKind {kind wanted : Int32} {h : im_H} (hI : tI h) (p0 : 0 ≤ kind.toInt) (p1 : kind.toInt ≤ 5) : CaP 1 114 [.int kind, .int wanted] h (pI h (fun y => (y = 1 ∧ (wanted.toInt = 0 ∨ kind.toInt = wanted.toInt ∨ (wanted.toInt = 1 ∧ (kind.toInt = 3 ∨ kind.toInt = 5)) ∨ (wanted.toInt = 2 ∧ kind.toInt = 4))) ∨ (y = 0 ∧ ¬ ((wanted.toInt = 0 ∨ kind.toInt = wanted.toInt ∨ (wanted.toInt = 1 ∧ (kind.toInt = 3 ∨ kind.toInt = 5)) ∨ (wanted.toInt = 2 ∧ kind.toInt = 4)))))) := by
  rcases (show kind.toInt = 0 ∨ kind.toInt = 1 ∨ kind.toInt = 2 ∨ kind.toInt = 3 ∨ kind.toInt = 4 ∨ kind.toInt = 5 by omega) with q | q | q | q | q | q
  · obtain rfl : kind = 0 := i32_ext (by rw [q]; rfl)
    exact c_X11_isOfKind_0 hI
  · obtain rfl : kind = 1 := i32_ext (by rw [q]; rfl)
    exact c_X11_isOfKind_1 hI
  · obtain rfl : kind = 2 := i32_ext (by rw [q]; rfl)
    exact c_X11_isOfKind_2 hI
  · obtain rfl : kind = 3 := i32_ext (by rw [q]; rfl)
    exact c_X11_isOfKind_3 hI
  · obtain rfl : kind = 4 := i32_ext (by rw [q]; rfl)
    exact c_X11_isOfKind_4 hI
  · obtain rfl : kind = 5 := i32_ext (by rw [q]; rfl)
    exact c_X11_isOfKind_5 hI
set_option maxRecDepth 20000 in
set_option maxHeartbeats 4000000 in
theorem c_X12_isUnder {k : Int32} {of : Int32} {h : im_H} (hI : tI h)  : CaP 1 195 [.int k, .int of] h (pI h (fun y => (y = 1 ∧ (of.toInt = 0 ∨ k.toInt = of.toInt ∨ (of.toInt = 1 ∧ (k.toInt = 3 ∨ k.toInt = 5)) ∨ (of.toInt = 2 ∧ k.toInt = 4))) ∨ (y = 0 ∧ ¬ ((of.toInt = 0 ∨ k.toInt = of.toInt ∨ (of.toInt = 1 ∧ (k.toInt = 3 ∨ k.toInt = 5)) ∨ (of.toInt = 2 ∧ k.toInt = 4)))))) := by
  refine cap_of (d := 0) (M := mX12_isUnder) rfl (Nat.le_of_ble_eq_true rfl) ?_
  show EvP im_K0 0 mX12_isUnder (0, [(0, .int k), (1, .int of)], [], h) _
  refine te_iload_n (p2 := 1) rfl rfl rfl ?_
  refine tz_eq (p2 := 4) rfl rfl rfl (fun c1 => ?_) (fun c1 => ?_)
  · refine te_iconst (p2 := 35) (x := 1) rfl rfl (by decide) ?_
    refine te_goto rfl ?_
    exact te_zret rfl rfl (by decide) ⟨rfl, _, rfl, Or.inl ⟨rfl, by omega⟩⟩
  · refine te_iload_n (p2 := 5) rfl rfl rfl ?_
    refine te_iload_n (p2 := 6) rfl rfl rfl ?_
    refine tb_eq (p2 := 9) rfl rfl rfl rfl (fun c2 => ?_) (fun c2 => ?_)
    · refine te_iconst (p2 := 35) (x := 1) rfl rfl (by decide) ?_
      refine te_goto rfl ?_
      exact te_zret rfl rfl (by decide) ⟨rfl, _, rfl, Or.inl ⟨rfl, by omega⟩⟩
    · refine te_iload_n (p2 := 10) rfl rfl rfl ?_
      refine te_iconst (p2 := 11) (x := 1) rfl rfl (by decide) ?_
      refine tb_ne (p2 := 14) rfl rfl rfl (show Int32.toInt 1 = 1 from rfl) (fun c3 => ?_) (fun c3 => ?_)
      · refine te_iload_n (p2 := 25) rfl rfl rfl ?_
        refine te_iconst (p2 := 26) (x := 2) rfl rfl (by decide) ?_
        refine tb_ne (p2 := 29) rfl rfl rfl (show Int32.toInt 2 = 2 from rfl) (fun c4 => ?_) (fun c4 => ?_)
        · refine te_iconst (p2 := 39) (x := 0) rfl rfl (by decide) ?_
          exact te_zret rfl rfl (by decide) ⟨rfl, _, rfl, Or.inr ⟨rfl, by omega⟩⟩
        · refine te_iload_n (p2 := 30) rfl rfl rfl ?_
          refine te_iconst (p2 := 31) (x := 4) rfl rfl (by decide) ?_
          refine tb_ne (p2 := 34) rfl rfl rfl (show Int32.toInt 4 = 4 from rfl) (fun c5 => ?_) (fun c5 => ?_)
          · refine te_iconst (p2 := 39) (x := 0) rfl rfl (by decide) ?_
            exact te_zret rfl rfl (by decide) ⟨rfl, _, rfl, Or.inr ⟨rfl, by omega⟩⟩
          · refine te_iconst (p2 := 35) (x := 1) rfl rfl (by decide) ?_
            refine te_goto rfl ?_
            exact te_zret rfl rfl (by decide) ⟨rfl, _, rfl, Or.inl ⟨rfl, by omega⟩⟩
      · refine te_iload_n (p2 := 15) rfl rfl rfl ?_
        refine te_iconst (p2 := 16) (x := 3) rfl rfl (by decide) ?_
        refine tb_eq (p2 := 19) rfl rfl rfl (show Int32.toInt 3 = 3 from rfl) (fun c6 => ?_) (fun c6 => ?_)
        · refine te_iconst (p2 := 35) (x := 1) rfl rfl (by decide) ?_
          refine te_goto rfl ?_
          exact te_zret rfl rfl (by decide) ⟨rfl, _, rfl, Or.inl ⟨rfl, by omega⟩⟩
        · refine te_iload_n (p2 := 20) rfl rfl rfl ?_
          refine te_iconst (p2 := 21) (x := 5) rfl rfl (by decide) ?_
          refine tb_eq (p2 := 24) rfl rfl rfl (show Int32.toInt 5 = 5 from rfl) (fun c7 => ?_) (fun c7 => ?_)
          · refine te_iconst (p2 := 35) (x := 1) rfl rfl (by decide) ?_
            refine te_goto rfl ?_
            exact te_zret rfl rfl (by decide) ⟨rfl, _, rfl, Or.inl ⟨rfl, by omega⟩⟩
          · refine te_iload_n (p2 := 25) rfl rfl rfl ?_
            refine te_iconst (p2 := 26) (x := 2) rfl rfl (by decide) ?_
            refine tb_ne (p2 := 29) rfl rfl rfl (show Int32.toInt 2 = 2 from rfl) (fun c8 => ?_) (fun c8 => absurd c8 (by omega))
            refine te_iconst (p2 := 39) (x := 0) rfl rfl (by decide) ?_
            exact te_zret rfl rfl (by decide) ⟨rfl, _, rfl, Or.inr ⟨rfl, by omega⟩⟩
def tkT (x1 x2 k t z : Int32) : Int32 := if 0 ≤ x2.toInt ∧ x2.toInt ≤ 5 then (if (0 ≤ x1.toInt ∧ x1.toInt ≤ 99) then (if k.toInt = -1 then (if x1.toInt = t.toInt then -13 else -11) else if (x2.toInt = 0 ∨ k.toInt = x2.toInt ∨ (x2.toInt = 1 ∧ (k.toInt = 3 ∨ k.toInt = 5)) ∨ (x2.toInt = 2 ∧ k.toInt = 4)) then z else -13) else -12) else -2
abbrev Q1_taken (x1 x2 : Int32) (y : Int32) (h h2 : im_H) : Prop := ((0 ≤ x1.toInt ∧ x1.toInt ≤ 99) → ∃ k t : Int32, rd h 2 x1.toInt.toNat = some (.int k) ∧ rd h 1 1 = some (.int t) ∧ y = tkT x1 x2 k t (([20, 35, 20, 70, 10, 5] : List Int32).getD k.toInt.toNat 0)) ∧ (¬ (0 ≤ x1.toInt ∧ x1.toInt ≤ 99) → y = tkT x1 x2 0 0 0)
set_option maxRecDepth 20000 in
set_option maxHeartbeats 4000000 in
theorem c_X11_taken {x1 : Int32} {x2 : Int32} {h : im_H} (hI : tI h)  : CaP 3 109 [.ref 16, .int x1, .int x2] h (fun v h2 => tI h2 ∧ fr F_X11_taken h h2 ∧ ∃ y : Int32, v = some (.int y) ∧ Q1_taken x1 x2 y h h2) := by
  refine cap_of (d := 2) (M := mX11_taken) rfl (Nat.le_of_ble_eq_true rfl) ?_
  show EvP im_K0 2 mX11_taken (0, [(0, .ref 16), (1, .int x1), (2, .int x2)], [], h) _
  have f0 : fr F_X11_taken h h := fr_rf
  refine te_iload_n (p2 := 1) rfl rfl rfl ?_
  refine te_bipush (p2 := 3) (x := 6) rfl rfl (by decide) ?_
  refine cS_pI (p2 := 6) rfl rfl rfl rfl (t_X11_within (n := x2) (b := 6) hI ) (by decide) (fun y1 r1 => ?_)
  rcases r1 with ⟨w1, c1⟩ | ⟨w1, c1⟩
  · subst w1
    have cc1_1 := (show Int32.toInt 6 = 6 from rfl)
    refine tz_ne (p2 := 9) rfl rfl (show Int32.toInt 1 = 1 from rfl) (fun c2 => ?_) (fun c2 => absurd c2 (by omega))
    refine te_iload_n (p2 := 13) rfl rfl rfl ?_
    refine te_bipush (p2 := 15) (x := 100) rfl rfl (by decide) ?_
    refine cS_pI (p2 := 18) rfl rfl rfl rfl (t_X11_within (n := x1) (b := 100) hI ) (by decide) (fun y3 r3 => ?_)
    rcases r3 with ⟨w3, c3⟩ | ⟨w3, c3⟩
    · subst w3
      have cc3_1 := (show Int32.toInt 100 = 100 from rfl)
      refine tz_ne (p2 := 21) rfl rfl (show Int32.toInt 1 = 1 from rfl) (fun c4 => ?_) (fun c4 => absurd c4 (by omega))
      refine te_aload_n (p2 := 25) rfl rfl rfl ?_
      refine tg_r (p2 := 28) (i := 0) (r := 17) rfl rfl hI rfl rfl rfl ?_
      refine tg_r (p2 := 31) (i := 1) (r := 18) rfl rfl hI rfl rfl rfl ?_
      refine te_iload_n (p2 := 32) rfl rfl rfl ?_
      refine tl_i (p2 := 33) (i := 2) (n := 100) rfl rfl hI rfl rfl rfl rfl (by omega) (by omega) (fun y5 a5 b5 g5 e5 => ?_)
      refine te_istore_n (p2 := 34) (lv2 := [(3, .int y5), (0, .ref 16), (1, .int x1), (2, .int x2)]) rfl rfl (by decide) rfl ?_
      refine te_iload_n (p2 := 35) rfl rfl rfl ?_
      refine te_iconst (p2 := 36) (x := (-1)) rfl rfl (by decide) ?_
      refine tb_ne (p2 := 39) rfl rfl rfl (show Int32.toInt (-1) = (-1) from rfl) (fun c6 => ?_) (fun c6 => ?_)
      · refine te_iload_n (p2 := 59) rfl rfl rfl ?_
        refine te_iload_n (p2 := 60) rfl rfl rfl ?_
        refine cS_pI (p2 := 63) rfl rfl rfl rfl (c_X11_isOfKind (kind := y5) (wanted := x2) hI (by omega) (by omega)) (by decide) (fun y7 r7 => ?_)
        rcases r7 with ⟨w7, c7⟩ | ⟨w7, c7⟩
        · subst w7
          refine tz_eq (p2 := 66) rfl rfl (show Int32.toInt 1 = 1 from rfl) (fun c8 => absurd c8 (by omega)) (fun c8 => ?_)
          refine te_gst (p2 := 69) rfl rfl (by decide) ?_
          refine te_iload_n (p2 := 70) rfl rfl rfl ?_
          refine tl_s (p2 := 71) (R := 0) (l := [20, 35, 20, 70, 10, 5]) (n := 6) (lo := 5) (hi := 70) rfl rfl (by decide) rfl rfl (by decide) (by omega) (by omega) (fun y9 a9 b9 e9 => ?_)
          refine te_goto rfl ?_
          obtain ⟨v10, e10, y10, w10, a10, b10, _⟩ := hI.2.1 1 1 (.inl ((-1), 99, 9999999999)) rfl
          subst w10
          exact te_iret rfl rfl ⟨hI, f0, _, rfl, (fun _ => ⟨y5, y10, e5, e10, (by unfold tkT; (repeat' split) <;> first | (exfalso; omega) | rfl | (subst_vars; rfl))⟩), (fun hk => absurd (by omega) hk)⟩
        · subst w7
          refine tz_eq (p2 := 66) rfl rfl (show Int32.toInt 0 = 0 from rfl) (fun c11 => ?_) (fun c11 => absurd c11 (by omega))
          refine te_bipush (p2 := 76) (x := (-13)) rfl rfl (by decide) ?_
          obtain ⟨v12, e12, y12, w12, a12, b12, _⟩ := hI.2.1 1 1 (.inl ((-1), 99, 9999999999)) rfl
          subst w12
          exact te_iret rfl rfl ⟨hI, f0, _, rfl, (fun _ => ⟨y5, y12, e5, e12, (by unfold tkT; (repeat' split) <;> first | (exfalso; omega) | rfl | (subst_vars; rfl))⟩), (fun hk => absurd (by omega) hk)⟩
      · refine te_iload_n (p2 := 40) rfl rfl rfl ?_
        refine te_aload_n (p2 := 41) rfl rfl rfl ?_
        refine tg_r (p2 := 44) (i := 0) (r := 17) rfl rfl hI rfl rfl rfl ?_
        refine tg_i (p2 := 47) (i := 1) rfl rfl hI rfl rfl rfl (fun y13 a13 b13 e13 => ?_)
        refine tb_ne (p2 := 50) rfl rfl rfl rfl (fun c14 => ?_) (fun c14 => ?_)
        · refine te_bipush (p2 := 57) (x := (-11)) rfl rfl (by decide) ?_
          exact te_iret rfl rfl ⟨hI, f0, _, rfl, (fun _ => ⟨y5, y13, e5, e13, (by unfold tkT; (repeat' split) <;> first | (exfalso; omega) | rfl | (subst_vars; rfl))⟩), (fun hk => absurd (by omega) hk)⟩
        · refine te_bipush (p2 := 52) (x := (-13)) rfl rfl (by decide) ?_
          refine te_goto rfl ?_
          exact te_iret rfl rfl ⟨hI, f0, _, rfl, (fun _ => ⟨y5, y13, e5, e13, (by unfold tkT; (repeat' split) <;> first | (exfalso; omega) | rfl | (subst_vars; rfl))⟩), (fun hk => absurd (by omega) hk)⟩
    · subst w3
      have cc3_1 := (show Int32.toInt 100 = 100 from rfl)
      refine tz_ne (p2 := 21) rfl rfl (show Int32.toInt 0 = 0 from rfl) (fun c15 => absurd c15 (by omega)) (fun c15 => ?_)
      refine te_bipush (p2 := 23) (x := (-12)) rfl rfl (by decide) ?_
      exact te_iret rfl rfl ⟨hI, f0, _, rfl, (fun hk => absurd hk (by omega)), (fun _ => (by unfold tkT; (repeat' split) <;> first | (exfalso; omega) | rfl | (subst_vars; rfl)))⟩
  · subst w1
    have cc1_1 := (show Int32.toInt 6 = 6 from rfl)
    refine tz_ne (p2 := 9) rfl rfl (show Int32.toInt 0 = 0 from rfl) (fun c16 => absurd c16 (by omega)) (fun c16 => ?_)
    refine te_bipush (p2 := 11) (x := (-2)) rfl rfl (by decide) ?_
    exact te_iret rfl rfl ⟨hI, f0, _, rfl, (fun hk => by (obtain ⟨_, e1, k1, w1, _⟩ := hI.2.1 2 x1.toInt.toNat (.inl ((-1), 5, 9999999999)) (tq_row rfl (by omega)); obtain ⟨_, e2, k2, w2, _⟩ := hI.2.1 1 1 (.inl ((-1), 99, 9999999999)) rfl; subst w1; subst w2; exact ⟨k1, k2, e1, e2, (by unfold tkT; (repeat' split) <;> first | (exfalso; omega) | rfl | (subst_vars; rfl))⟩)), (fun hk => (by unfold tkT; (repeat' split) <;> first | (exfalso; omega) | rfl | (subst_vars; rfl)))⟩
abbrev Q2_taken (x1 x2 : Int32) (y : Int32) (h h2 : im_H) : Prop := ((0 ≤ x1.toInt ∧ x1.toInt ≤ 99) → ∃ k t : Int32, rd h 152 x1.toInt.toNat = some (.int k) ∧ rd h 148 9 = some (.int t) ∧ ∃ z : Int32, (0 ≤ x2.toInt ∧ x2.toInt ≤ 5 → k.toInt ≠ -1 ∧ (x2.toInt = 0 ∨ k.toInt = x2.toInt ∨ (x2.toInt = 1 ∧ (k.toInt = 3 ∨ k.toInt = 5)) ∨ (x2.toInt = 2 ∧ k.toInt = 4)) → rd h 153 k.toInt.toNat = some (.int z)) ∧ y = tkT x1 x2 k t z) ∧ (¬ (0 ≤ x1.toInt ∧ x1.toInt ≤ 99) → y = tkT x1 x2 0 0 0)
set_option maxRecDepth 20000 in
set_option maxHeartbeats 4000000 in
theorem c_X12_taken {x1 : Int32} {x2 : Int32} {h : im_H} (hI : tI h)  : CaP 3 196 [.ref 164, .int x1, .int x2] h (fun v h2 => tI h2 ∧ fr F_X12_taken h h2 ∧ ∃ y : Int32, v = some (.int y) ∧ Q2_taken x1 x2 y h h2) := by
  refine cap_of (d := 2) (M := mX12_taken) rfl (Nat.le_of_ble_eq_true rfl) ?_
  show EvP im_K0 2 mX12_taken (0, [(0, .ref 164), (1, .int x1), (2, .int x2)], [], h) _
  have f0 : fr F_X12_taken h h := fr_rf
  refine te_iload_n (p2 := 1) rfl rfl rfl ?_
  refine te_iconst (p2 := 2) (x := 0) rfl rfl (by decide) ?_
  refine te_iconst (p2 := 3) (x := 5) rfl rfl (by decide) ?_
  refine cS_pI (p2 := 6) rfl rfl rfl rfl (t_X12_in (n := x2) (a := 0) (b := 5) hI ) (by decide) (fun y1 r1 => ?_)
  rcases r1 with ⟨w1, c1⟩ | ⟨w1, c1⟩
  · subst w1
    have cc1_1 := (show Int32.toInt 0 = 0 from rfl)
    have cc1_2 := (show Int32.toInt 5 = 5 from rfl)
    refine tz_ne (p2 := 9) rfl rfl (show Int32.toInt 1 = 1 from rfl) (fun c2 => ?_) (fun c2 => absurd c2 (by omega))
    refine te_iload_n (p2 := 13) rfl rfl rfl ?_
    refine cS_pI (p2 := 16) rfl rfl rfl rfl (t_X12_isCell (n := x1) hI ) (by decide) (fun y3 r3 => ?_)
    rcases r3 with ⟨w3, c3⟩ | ⟨w3, c3⟩
    · subst w3
      refine tz_ne (p2 := 19) rfl rfl (show Int32.toInt 1 = 1 from rfl) (fun c4 => ?_) (fun c4 => absurd c4 (by omega))
      refine te_aload_n (p2 := 23) rfl rfl rfl ?_
      refine tg_r (p2 := 26) (i := 148) (r := 168) rfl rfl hI rfl rfl rfl ?_
      refine te_iload_n (p2 := 27) rfl rfl rfl ?_
      refine tl_i (p2 := 28) (i := 152) (n := 100) rfl rfl hI rfl rfl rfl rfl (by omega) (by omega) (fun y5 a5 b5 g5 e5 => ?_)
      refine te_iconst (p2 := 29) (x := (-1)) rfl rfl (by decide) ?_
      refine tb_ne (p2 := 32) rfl rfl rfl (show Int32.toInt (-1) = (-1) from rfl) (fun c6 => ?_) (fun c6 => ?_)
      · refine te_aload_n (p2 := 49) rfl rfl rfl ?_
        refine tg_r (p2 := 52) (i := 148) (r := 168) rfl rfl hI rfl rfl rfl ?_
        refine te_iload_n (p2 := 53) rfl rfl rfl ?_
        refine tl_e (p2 := 54) (i := 152) (n := 100) (t := 0) (Or.inl rfl) rfl rfl hI rfl rfl (by omega) (by omega) e5 ?_
        refine te_iload_n (p2 := 55) rfl rfl rfl ?_
        refine cS_pI (p2 := 58) rfl rfl rfl rfl (c_X12_isUnder (k := y5) (of := x2) hI ) (by decide) (fun y8 r8 => ?_)
        rcases r8 with ⟨w8, c8⟩ | ⟨w8, c8⟩
        · subst w8
          refine tz_eq (p2 := 61) rfl rfl (show Int32.toInt 1 = 1 from rfl) (fun c9 => absurd c9 (by omega)) (fun c9 => ?_)
          refine te_aload_n (p2 := 62) rfl rfl rfl ?_
          refine tg_r (p2 := 65) (i := 148) (r := 169) rfl rfl hI rfl rfl rfl ?_
          refine te_aload_n (p2 := 66) rfl rfl rfl ?_
          refine tg_r (p2 := 69) (i := 148) (r := 168) rfl rfl hI rfl rfl rfl ?_
          refine te_iload_n (p2 := 70) rfl rfl rfl ?_
          refine tl_e (p2 := 71) (i := 152) (n := 100) (t := 0) (Or.inl rfl) rfl rfl hI rfl rfl (by omega) (by omega) e5 ?_
          refine tl_i (p2 := 72) (i := 153) (n := 6) rfl rfl hI rfl rfl rfl rfl (by omega) (by omega) (fun y11 a11 b11 g11 e11 => ?_)
          refine te_goto rfl ?_
          obtain ⟨v12, e12, y12, w12, a12, b12, _⟩ := hI.2.1 148 9 (.inl ((-1), 99, 9999999999)) rfl
          subst w12
          exact te_iret rfl rfl ⟨hI, f0, _, rfl, (fun _ => ⟨y5, y12, e5, e12, y11, (fun _ _ => e11), (by unfold tkT; (repeat' split) <;> first | (exfalso; omega) | rfl | (subst_vars; rfl))⟩), (fun hk => absurd (by omega) hk)⟩
        · subst w8
          refine tz_eq (p2 := 61) rfl rfl (show Int32.toInt 0 = 0 from rfl) (fun c13 => ?_) (fun c13 => absurd c13 (by omega))
          refine te_bipush (p2 := 77) (x := (-13)) rfl rfl (by decide) ?_
          obtain ⟨v14, e14, y14, w14, a14, b14, _⟩ := hI.2.1 148 9 (.inl ((-1), 99, 9999999999)) rfl
          subst w14
          exact te_iret rfl rfl ⟨hI, f0, _, rfl, (fun _ => ⟨y5, y14, e5, e14, 0, (fun hx hy => absurd hy (by omega)), (by unfold tkT; (repeat' split) <;> first | (exfalso; omega) | rfl | (subst_vars; rfl))⟩), (fun hk => absurd (by omega) hk)⟩
      · refine te_iload_n (p2 := 33) rfl rfl rfl ?_
        refine te_aload_n (p2 := 34) rfl rfl rfl ?_
        refine tg_i (p2 := 37) (i := 148) rfl rfl hI rfl rfl rfl (fun y15 a15 b15 e15 => ?_)
        refine tb_ne (p2 := 40) rfl rfl rfl rfl (fun c16 => ?_) (fun c16 => ?_)
        · refine te_bipush (p2 := 47) (x := (-11)) rfl rfl (by decide) ?_
          exact te_iret rfl rfl ⟨hI, f0, _, rfl, (fun _ => ⟨y5, y15, e5, e15, 0, (fun hx hy => absurd hy (by omega)), (by unfold tkT; (repeat' split) <;> first | (exfalso; omega) | rfl | (subst_vars; rfl))⟩), (fun hk => absurd (by omega) hk)⟩
        · refine te_bipush (p2 := 42) (x := (-13)) rfl rfl (by decide) ?_
          refine te_goto rfl ?_
          exact te_iret rfl rfl ⟨hI, f0, _, rfl, (fun _ => ⟨y5, y15, e5, e15, 0, (fun hx hy => absurd hy (by omega)), (by unfold tkT; (repeat' split) <;> first | (exfalso; omega) | rfl | (subst_vars; rfl))⟩), (fun hk => absurd (by omega) hk)⟩
    · subst w3
      refine tz_ne (p2 := 19) rfl rfl (show Int32.toInt 0 = 0 from rfl) (fun c17 => absurd c17 (by omega)) (fun c17 => ?_)
      refine te_bipush (p2 := 21) (x := (-12)) rfl rfl (by decide) ?_
      exact te_iret rfl rfl ⟨hI, f0, _, rfl, (fun hk => absurd hk (by omega)), (fun _ => (by unfold tkT; (repeat' split) <;> first | (exfalso; omega) | rfl | (subst_vars; rfl)))⟩
  · subst w1
    have cc1_1 := (show Int32.toInt 0 = 0 from rfl)
    have cc1_2 := (show Int32.toInt 5 = 5 from rfl)
    refine tz_ne (p2 := 9) rfl rfl (show Int32.toInt 0 = 0 from rfl) (fun c18 => absurd c18 (by omega)) (fun c18 => ?_)
    refine te_bipush (p2 := 11) (x := (-2)) rfl rfl (by decide) ?_
    exact te_iret rfl rfl ⟨hI, f0, _, rfl, (fun hk => by (obtain ⟨_, e1, k1, w1, _⟩ := hI.2.1 152 x1.toInt.toNat (.inl ((-1), 5, 9999999999)) (tq_row rfl (by omega)); obtain ⟨_, e2, k2, w2, _⟩ := hI.2.1 148 9 (.inl ((-1), 99, 9999999999)) rfl; subst w1; subst w2; exact ⟨k1, k2, e1, e2, 0, (fun hx _ => absurd hx (by omega)), (by unfold tkT; (repeat' split) <;> first | (exfalso; omega) | rfl | (subst_vars; rfl))⟩)), (fun hk => (by unfold tkT; (repeat' split) <;> first | (exfalso; omega) | rfl | (subst_vars; rfl)))⟩
def fT (x1 p : Int32) : Int32 := if -1 ≤ x1.toInt ∧ x1.toInt ≤ 99 then p else -5
def gT (x1 p : Int32) : Int32 := if -1 ≤ x1.toInt ∧ x1.toInt ≤ 99 then x1 else p
abbrev Q1_tip (x1 : Int32) (y : Int32) (h h2 : im_H) : Prop := ∃ p : Int32, rd h 1 1 = some (.int p) ∧ y = fT x1 p ∧ rd h2 1 1 = some (.int (gT x1 p))
set_option maxRecDepth 20000 in
set_option maxHeartbeats 4000000 in
theorem c_X11_tip {x1 : Int32} {h : im_H} (hI : tI h)  : CaP 8 66 [.ref 16, .int x1] h (fun v h2 => tI h2 ∧ fr F_X11_tip h h2 ∧ ∃ y : Int32, v = some (.int y) ∧ Q1_tip x1 y h h2) := by
  refine cap_of (d := 7) (M := mX11_tip) rfl (Nat.le_of_ble_eq_true rfl) ?_
  show EvP im_K0 7 mX11_tip (0, [(0, .ref 16), (1, .int x1)], [], h) _
  have f0 : fr F_X11_tip h h := fr_rf
  refine te_iload_n (p2 := 1) rfl rfl rfl ?_
  refine te_iconst (p2 := 2) (x := (-1)) rfl rfl (by decide) ?_
  refine tb_eq (p2 := 5) rfl rfl rfl (show Int32.toInt (-1) = (-1) from rfl) (fun c1 => ?_) (fun c1 => ?_)
  · refine te_aload_n (p2 := 18) rfl rfl rfl ?_
    refine tg_r (p2 := 21) (i := 0) (r := 17) rfl rfl hI rfl rfl rfl ?_
    refine tg_i (p2 := 24) (i := 1) rfl rfl hI rfl rfl rfl (fun y2 a2 b2 e2 => ?_)
    refine te_istore_n (p2 := 25) (lv2 := [(2, .int y2), (0, .ref 16), (1, .int x1)]) rfl rfl (by decide) rfl ?_
    refine te_aload_n (p2 := 26) rfl rfl rfl ?_
    refine tg_r (p2 := 29) (i := 0) (r := 17) rfl rfl hI rfl rfl rfl ?_
    refine te_iload_n (p2 := 30) rfl rfl rfl ?_
    refine tp_i (p2 := 33) (i := 1) rfl rfl hI rfl rfl (by decide) rfl rfl rfl (by omega) (by omega) (by omega) rfl (fun h3 I3 u3 => ?_)
    have f3 := fr_st (F := F_X11_tip) 0 f0 u3 rfl (by decide) (by decide)
    refine te_iload_n (p2 := 34) rfl rfl rfl ?_
    exact te_iret rfl rfl ⟨I3, f3, _, rfl, y2, e2, (show y2 = fT x1 y2 from by (unfold fT; (repeat' split) <;> first | (exfalso; omega) | rfl | assumption | (exact i32_ext (by omega)) | (subst_vars; rfl))), u3.1.trans (congrArg (fun t => some (Value.int t)) (show x1 = gT x1 y2 from by (unfold gT; (repeat' split) <;> first | (exfalso; omega) | rfl | assumption | (exact i32_ext (by omega)) | (subst_vars; rfl))))⟩
  · refine te_iload_n (p2 := 6) rfl rfl rfl ?_
    refine te_bipush (p2 := 8) (x := 100) rfl rfl (by decide) ?_
    refine cS_pI (p2 := 11) rfl rfl rfl rfl (t_X11_within (n := x1) (b := 100) hI ) (by decide) (fun y4 r4 => ?_)
    rcases r4 with ⟨w4, c4⟩ | ⟨w4, c4⟩
    · subst w4
      have cc4_1 := (show Int32.toInt 100 = 100 from rfl)
      refine tz_ne (p2 := 14) rfl rfl (show Int32.toInt 1 = 1 from rfl) (fun c5 => ?_) (fun c5 => absurd c5 (by omega))
      refine te_aload_n (p2 := 18) rfl rfl rfl ?_
      refine tg_r (p2 := 21) (i := 0) (r := 17) rfl rfl hI rfl rfl rfl ?_
      refine tg_i (p2 := 24) (i := 1) rfl rfl hI rfl rfl rfl (fun y6 a6 b6 e6 => ?_)
      refine te_istore_n (p2 := 25) (lv2 := [(2, .int y6), (0, .ref 16), (1, .int x1)]) rfl rfl (by decide) rfl ?_
      refine te_aload_n (p2 := 26) rfl rfl rfl ?_
      refine tg_r (p2 := 29) (i := 0) (r := 17) rfl rfl hI rfl rfl rfl ?_
      refine te_iload_n (p2 := 30) rfl rfl rfl ?_
      refine tp_i (p2 := 33) (i := 1) rfl rfl hI rfl rfl (by decide) rfl rfl rfl (by omega) (by omega) (by omega) rfl (fun h7 I7 u7 => ?_)
      have f7 := fr_st (F := F_X11_tip) 0 f0 u7 rfl (by decide) (by decide)
      refine te_iload_n (p2 := 34) rfl rfl rfl ?_
      exact te_iret rfl rfl ⟨I7, f7, _, rfl, y6, e6, (show y6 = fT x1 y6 from by (unfold fT; (repeat' split) <;> first | (exfalso; omega) | rfl | assumption | (exact i32_ext (by omega)) | (subst_vars; rfl))), u7.1.trans (congrArg (fun t => some (Value.int t)) (show x1 = gT x1 y6 from by (unfold gT; (repeat' split) <;> first | (exfalso; omega) | rfl | assumption | (exact i32_ext (by omega)) | (subst_vars; rfl))))⟩
    · subst w4
      have cc4_1 := (show Int32.toInt 100 = 100 from rfl)
      refine tz_ne (p2 := 14) rfl rfl (show Int32.toInt 0 = 0 from rfl) (fun c8 => absurd c8 (by omega)) (fun c8 => ?_)
      refine te_bipush (p2 := 16) (x := (-5)) rfl rfl (by decide) ?_
      obtain ⟨v9, e9, y9, w9, a9, b9, _⟩ := hI.2.1 1 1 (.inl ((-1), 99, 9999999999)) rfl
      subst w9
      exact te_iret rfl rfl ⟨hI, f0, _, rfl, y9, e9, (show (-5) = fT x1 y9 from by (have c0_ := (show Int32.toInt (-5) = (-5) from rfl); unfold fT; (repeat' split) <;> first | (exfalso; omega) | rfl | assumption | (exact i32_ext (by omega)) | (subst_vars; rfl))), e9.trans (congrArg (fun t => some (Value.int t)) (show y9 = gT x1 y9 from by (have c0_ := (show Int32.toInt (-5) = (-5) from rfl); unfold gT; (repeat' split) <;> first | (exfalso; omega) | rfl | assumption | (exact i32_ext (by omega)) | (subst_vars; rfl))))⟩
abbrev Q2_tip (x1 : Int32) (y : Int32) (h h2 : im_H) : Prop := ∃ p : Int32, rd h 148 9 = some (.int p) ∧ y = fT x1 p ∧ rd h2 148 9 = some (.int (gT x1 p))
set_option maxRecDepth 20000 in
set_option maxHeartbeats 4000000 in
theorem c_X12_tip {x1 : Int32} {h : im_H} (hI : tI h)  : CaP 8 128 [.ref 164, .int x1] h (fun v h2 => tI h2 ∧ fr F_X12_tip h h2 ∧ ∃ y : Int32, v = some (.int y) ∧ Q2_tip x1 y h h2) := by
  refine cap_of (d := 7) (M := mX12_tip) rfl (Nat.le_of_ble_eq_true rfl) ?_
  show EvP im_K0 7 mX12_tip (0, [(0, .ref 164), (1, .int x1)], [], h) _
  have f0 : fr F_X12_tip h h := fr_rf
  refine te_iload_n (p2 := 1) rfl rfl rfl ?_
  refine te_iconst (p2 := 2) (x := (-1)) rfl rfl (by decide) ?_
  refine te_bipush (p2 := 4) (x := 99) rfl rfl (by decide) ?_
  refine cS_pI (p2 := 7) rfl rfl rfl rfl (t_X12_in (n := x1) (a := (-1)) (b := 99) hI ) (by decide) (fun y1 r1 => ?_)
  rcases r1 with ⟨w1, c1⟩ | ⟨w1, c1⟩
  · subst w1
    have cc1_1 := (show Int32.toInt (-1) = (-1) from rfl)
    have cc1_2 := (show Int32.toInt 99 = 99 from rfl)
    refine tz_ne (p2 := 10) rfl rfl (show Int32.toInt 1 = 1 from rfl) (fun c2 => ?_) (fun c2 => absurd c2 (by omega))
    refine te_aload_n (p2 := 14) rfl rfl rfl ?_
    refine tg_i (p2 := 17) (i := 148) rfl rfl hI rfl rfl rfl (fun y3 a3 b3 e3 => ?_)
    refine te_istore_n (p2 := 18) (lv2 := [(2, .int y3), (0, .ref 164), (1, .int x1)]) rfl rfl (by decide) rfl ?_
    refine te_aload_n (p2 := 19) rfl rfl rfl ?_
    refine te_iload_n (p2 := 20) rfl rfl rfl ?_
    refine tp_i (p2 := 23) (i := 148) rfl rfl hI rfl rfl (by decide) rfl rfl rfl (by omega) (by omega) (by omega) rfl (fun h4 I4 u4 => ?_)
    have f4 := fr_st (F := F_X12_tip) 0 f0 u4 rfl (by decide) (by decide)
    refine te_iload_n (p2 := 24) rfl rfl rfl ?_
    exact te_iret rfl rfl ⟨I4, f4, _, rfl, y3, e3, (show y3 = fT x1 y3 from by (unfold fT; (repeat' split) <;> first | (exfalso; omega) | rfl | assumption | (exact i32_ext (by omega)) | (subst_vars; rfl))), u4.1.trans (congrArg (fun t => some (Value.int t)) (show x1 = gT x1 y3 from by (unfold gT; (repeat' split) <;> first | (exfalso; omega) | rfl | assumption | (exact i32_ext (by omega)) | (subst_vars; rfl))))⟩
  · subst w1
    have cc1_1 := (show Int32.toInt (-1) = (-1) from rfl)
    have cc1_2 := (show Int32.toInt 99 = 99 from rfl)
    refine tz_ne (p2 := 10) rfl rfl (show Int32.toInt 0 = 0 from rfl) (fun c5 => absurd c5 (by omega)) (fun c5 => ?_)
    refine te_bipush (p2 := 12) (x := (-5)) rfl rfl (by decide) ?_
    obtain ⟨v6, e6, y6, w6, a6, b6, _⟩ := hI.2.1 148 9 (.inl ((-1), 99, 9999999999)) rfl
    subst w6
    exact te_iret rfl rfl ⟨hI, f0, _, rfl, y6, e6, (show (-5) = fT x1 y6 from by (have c0_ := (show Int32.toInt (-5) = (-5) from rfl); unfold fT; (repeat' split) <;> first | (exfalso; omega) | rfl | assumption | (exact i32_ext (by omega)) | (subst_vars; rfl))), e6.trans (congrArg (fun t => some (Value.int t)) (show y6 = gT x1 y6 from by (have c0_ := (show Int32.toInt (-5) = (-5) from rfl); unfold gT; (repeat' split) <;> first | (exfalso; omega) | rfl | assumption | (exact i32_ext (by omega)) | (subst_vars; rfl))))⟩
abbrev Q1_ruin (x1 x2 x3 : Int32) (y : Int32) (h h2 : im_H) : Prop := ((0 ≤ x1.toInt ∧ x1.toInt ≤ 99 ∧ 0 ≤ x2.toInt ∧ x2.toInt ≤ 5 ∧ 0 ≤ x3.toInt ∧ x3.toInt ≤ 9999) → rd h2 2 x1.toInt.toNat = some (.int x2)) ∧ (∀ k : Nat, (k ≠ x1.toInt.toNat ∨ ¬ (0 ≤ x1.toInt ∧ x1.toInt ≤ 99 ∧ 0 ≤ x2.toInt ∧ x2.toInt ≤ 5 ∧ 0 ≤ x3.toInt ∧ x3.toInt ≤ 9999)) → rd h2 2 k = rd h 2 k)
set_option maxRecDepth 20000 in
set_option maxHeartbeats 4000000 in
theorem c_X11_ruin {x1 : Int32} {x2 : Int32} {x3 : Int32} {h : im_H} (hI : tI h)  : CaP 8 61 [.ref 16, .int x1, .int x2, .int x3] h (fun v h2 => tI h2 ∧ fr F_X11_ruin h h2 ∧ ∃ y : Int32, v = some (.int y) ∧ Q1_ruin x1 x2 x3 y h h2) := by
  refine cap_of (d := 7) (M := mX11_ruin) rfl (Nat.le_of_ble_eq_true rfl) ?_
  show EvP im_K0 7 mX11_ruin (0, [(0, .ref 16), (1, .int x1), (2, .int x2), (3, .int x3)], [], h) _
  have f0 : fr F_X11_ruin h h := fr_rf
  refine te_iload_n (p2 := 1) rfl rfl rfl ?_
  refine te_bipush (p2 := 3) (x := 100) rfl rfl (by decide) ?_
  refine cS_pI (p2 := 6) rfl rfl rfl rfl (t_X11_within (n := x1) (b := 100) hI ) (by decide) (fun y1 r1 => ?_)
  rcases r1 with ⟨w1, c1⟩ | ⟨w1, c1⟩
  · subst w1
    have cc1_1 := (show Int32.toInt 100 = 100 from rfl)
    refine tz_ne (p2 := 9) rfl rfl (show Int32.toInt 1 = 1 from rfl) (fun c2 => ?_) (fun c2 => absurd c2 (by omega))
    refine te_iload_n (p2 := 12) rfl rfl rfl ?_
    refine te_bipush (p2 := 14) (x := 6) rfl rfl (by decide) ?_
    refine cS_pI (p2 := 17) rfl rfl rfl rfl (t_X11_within (n := x2) (b := 6) hI ) (by decide) (fun y3 r3 => ?_)
    rcases r3 with ⟨w3, c3⟩ | ⟨w3, c3⟩
    · subst w3
      have cc3_1 := (show Int32.toInt 6 = 6 from rfl)
      refine tz_eq (p2 := 20) rfl rfl (show Int32.toInt 1 = 1 from rfl) (fun c4 => absurd c4 (by omega)) (fun c4 => ?_)
      refine te_iload_n (p2 := 21) rfl rfl rfl ?_
      refine te_iconst (p2 := 22) (x := 0) rfl rfl (by decide) ?_
      refine te_sipush (p2 := 25) (x := 9999) rfl rfl (by decide) ?_
      refine cS_pI (p2 := 28) rfl rfl rfl rfl (t_X11_between (n := x3) (a := 0) (b := 9999) hI ) (by decide) (fun y5 r5 => ?_)
      rcases r5 with ⟨w5, c5⟩ | ⟨w5, c5⟩
      · subst w5
        have cc5_1 := (show Int32.toInt 0 = 0 from rfl)
        have cc5_2 := (show Int32.toInt 9999 = 9999 from rfl)
        refine tz_ne (p2 := 31) rfl rfl (show Int32.toInt 1 = 1 from rfl) (fun c6 => ?_) (fun c6 => absurd c6 (by omega))
        refine te_aload_n (p2 := 35) rfl rfl rfl ?_
        refine tg_r (p2 := 38) (i := 0) (r := 39) rfl rfl hI rfl rfl rfl ?_
        refine tg_r (p2 := 41) (i := 23) (r := 41) rfl rfl hI rfl rfl rfl ?_
        refine te_iload_n (p2 := 42) rfl rfl rfl ?_
        refine tl_i (p2 := 43) (i := 25) (n := 100) rfl rfl hI rfl rfl rfl rfl (by omega) (by omega) (fun y7 a7 b7 g7 e7 => ?_)
        refine te_istore (p2 := 45) (lv2 := [(4, .int y7), (0, .ref 16), (1, .int x1), (2, .int x2), (3, .int x3)]) rfl rfl (by decide) rfl ?_
        refine te_aload_n (p2 := 46) rfl rfl rfl ?_
        refine tg_r (p2 := 49) (i := 0) (r := 17) rfl rfl hI rfl rfl rfl ?_
        refine tg_r (p2 := 52) (i := 1) (r := 18) rfl rfl hI rfl rfl rfl ?_
        refine te_iload_n (p2 := 53) rfl rfl rfl ?_
        refine te_iload_n (p2 := 54) rfl rfl rfl ?_
        refine ts_i (p2 := 55) (i := 2) (n := 100) rfl rfl hI rfl rfl rfl rfl (by omega) (by omega) (by omega) (by omega) (by omega) rfl (fun h8 I8 u8 => ?_)
        have f8 := fr_st (F := F_X11_ruin) 0 f0 u8 rfl (by omega) (by omega)
        refine te_aload_n (p2 := 56) rfl rfl rfl ?_
        refine tg_r (p2 := 59) (i := 0) (r := 39) rfl rfl I8 rfl rfl rfl ?_
        refine tg_r (p2 := 62) (i := 23) (r := 41) rfl rfl I8 rfl rfl rfl ?_
        refine te_iload_n (p2 := 63) rfl rfl rfl ?_
        refine te_iload_n (p2 := 64) rfl rfl rfl ?_
        refine ts_i (p2 := 65) (i := 25) (n := 100) rfl rfl I8 rfl rfl rfl rfl (by omega) (by omega) (i32_lo _) (i32_hi _) (i32_ho _) rfl (fun h9 I9 u9 => ?_)
        have f9 := fr_st (F := F_X11_ruin) 1 f8 u9 rfl (by omega) (by omega)
        refine te_iload (p2 := 67) rfl rfl rfl ?_
        exact te_iret rfl rfl ⟨I9, f9, _, rfl, (fun _ => (u9.2 _ _ (Or.inl (by decide))).trans (u8.1)), (fun k hn => by (have hk : k ≠ x1.toInt.toNat := hn.resolve_right (fun hq => hq (by omega))); exact ((u9.2 _ _ (Or.inl (by decide))).trans (u8.2 _ _ (Or.inr hk))))⟩
      · subst w5
        have cc5_1 := (show Int32.toInt 0 = 0 from rfl)
        have cc5_2 := (show Int32.toInt 9999 = 9999 from rfl)
        refine tz_ne (p2 := 31) rfl rfl (show Int32.toInt 0 = 0 from rfl) (fun c10 => absurd c10 (by omega)) (fun c10 => ?_)
        refine te_bipush (p2 := 33) (x := (-2)) rfl rfl (by decide) ?_
        exact te_iret rfl rfl ⟨hI, f0, _, rfl, (fun hk => absurd hk (by omega)), (fun k hk => rfl)⟩
    · subst w3
      have cc3_1 := (show Int32.toInt 6 = 6 from rfl)
      refine tz_eq (p2 := 20) rfl rfl (show Int32.toInt 0 = 0 from rfl) (fun c11 => ?_) (fun c11 => absurd c11 (by omega))
      refine te_bipush (p2 := 33) (x := (-2)) rfl rfl (by decide) ?_
      exact te_iret rfl rfl ⟨hI, f0, _, rfl, (fun hk => absurd hk (by omega)), (fun k hk => rfl)⟩
  · subst w1
    have cc1_1 := (show Int32.toInt 100 = 100 from rfl)
    refine tz_ne (p2 := 9) rfl rfl (show Int32.toInt 0 = 0 from rfl) (fun c12 => absurd c12 (by omega)) (fun c12 => ?_)
    refine te_iconst (p2 := 10) (x := (-1)) rfl rfl (by decide) ?_
    exact te_iret rfl rfl ⟨hI, f0, _, rfl, (fun hk => absurd hk (by omega)), (fun k hk => rfl)⟩
abbrev Q2_ruin (x1 x2 x3 : Int32) (y : Int32) (h h2 : im_H) : Prop := ((0 ≤ x1.toInt ∧ x1.toInt ≤ 99 ∧ 0 ≤ x2.toInt ∧ x2.toInt ≤ 5 ∧ 0 ≤ x3.toInt ∧ x3.toInt ≤ 9999) → rd h2 152 x1.toInt.toNat = some (.int x2)) ∧ (∀ k : Nat, (k ≠ x1.toInt.toNat ∨ ¬ (0 ≤ x1.toInt ∧ x1.toInt ≤ 99 ∧ 0 ≤ x2.toInt ∧ x2.toInt ≤ 5 ∧ 0 ≤ x3.toInt ∧ x3.toInt ≤ 9999)) → rd h2 152 k = rd h 152 k)
set_option maxRecDepth 20000 in
set_option maxHeartbeats 4000000 in
theorem c_X12_ruin {x1 : Int32} {x2 : Int32} {x3 : Int32} {h : im_H} (hI : tI h)  : CaP 8 123 [.ref 164, .int x1, .int x2, .int x3] h (fun v h2 => tI h2 ∧ fr F_X12_ruin h h2 ∧ ∃ y : Int32, v = some (.int y) ∧ Q2_ruin x1 x2 x3 y h h2) := by
  refine cap_of (d := 7) (M := mX12_ruin) rfl (Nat.le_of_ble_eq_true rfl) ?_
  show EvP im_K0 7 mX12_ruin (0, [(0, .ref 164), (1, .int x1), (2, .int x2), (3, .int x3)], [], h) _
  have f0 : fr F_X12_ruin h h := fr_rf
  refine te_iload_n (p2 := 1) rfl rfl rfl ?_
  refine cS_pI (p2 := 4) rfl rfl rfl rfl (t_X12_isCell (n := x1) hI ) (by decide) (fun y1 r1 => ?_)
  rcases r1 with ⟨w1, c1⟩ | ⟨w1, c1⟩
  · subst w1
    refine tz_ne (p2 := 7) rfl rfl (show Int32.toInt 1 = 1 from rfl) (fun c2 => ?_) (fun c2 => absurd c2 (by omega))
    refine te_iload_n (p2 := 10) rfl rfl rfl ?_
    refine te_iconst (p2 := 11) (x := 0) rfl rfl (by decide) ?_
    refine te_iconst (p2 := 12) (x := 5) rfl rfl (by decide) ?_
    refine cS_pI (p2 := 15) rfl rfl rfl rfl (t_X12_in (n := x2) (a := 0) (b := 5) hI ) (by decide) (fun y3 r3 => ?_)
    rcases r3 with ⟨w3, c3⟩ | ⟨w3, c3⟩
    · subst w3
      have cc3_1 := (show Int32.toInt 0 = 0 from rfl)
      have cc3_2 := (show Int32.toInt 5 = 5 from rfl)
      refine tz_eq (p2 := 18) rfl rfl (show Int32.toInt 1 = 1 from rfl) (fun c4 => absurd c4 (by omega)) (fun c4 => ?_)
      refine te_iload_n (p2 := 19) rfl rfl rfl ?_
      refine te_iconst (p2 := 20) (x := 0) rfl rfl (by decide) ?_
      refine te_sipush (p2 := 23) (x := 9999) rfl rfl (by decide) ?_
      refine cS_pI (p2 := 26) rfl rfl rfl rfl (t_X12_in (n := x3) (a := 0) (b := 9999) hI ) (by decide) (fun y5 r5 => ?_)
      rcases r5 with ⟨w5, c5⟩ | ⟨w5, c5⟩
      · subst w5
        have cc5_1 := (show Int32.toInt 0 = 0 from rfl)
        have cc5_2 := (show Int32.toInt 9999 = 9999 from rfl)
        refine tz_ne (p2 := 29) rfl rfl (show Int32.toInt 1 = 1 from rfl) (fun c6 => ?_) (fun c6 => absurd c6 (by omega))
        refine te_aload_n (p2 := 33) rfl rfl rfl ?_
        refine tg_r (p2 := 36) (i := 148) (r := 165) rfl rfl hI rfl rfl rfl ?_
        refine te_iload_n (p2 := 37) rfl rfl rfl ?_
        refine tl_i (p2 := 38) (i := 149) (n := 283) rfl rfl hI rfl rfl rfl rfl (by omega) (by omega) (fun y7 a7 b7 g7 e7 => ?_)
        refine te_istore (p2 := 40) (lv2 := [(4, .int y7), (0, .ref 164), (1, .int x1), (2, .int x2), (3, .int x3)]) rfl rfl (by decide) rfl ?_
        refine te_aload_n (p2 := 41) rfl rfl rfl ?_
        refine tg_r (p2 := 44) (i := 148) (r := 165) rfl rfl hI rfl rfl rfl ?_
        refine te_iload_n (p2 := 45) rfl rfl rfl ?_
        refine te_iload_n (p2 := 46) rfl rfl rfl ?_
        refine ts_i (p2 := 47) (i := 149) (n := 283) rfl rfl hI rfl rfl rfl rfl (by omega) (by omega) (i32_lo _) (i32_hi _) (i32_ho _) rfl (fun h8 I8 u8 => ?_)
        have f8 := fr_st (F := F_X12_ruin) 0 f0 u8 rfl (by omega) (by omega)
        refine te_aload_n (p2 := 48) rfl rfl rfl ?_
        refine tg_r (p2 := 51) (i := 148) (r := 168) rfl rfl I8 rfl rfl rfl ?_
        refine te_iload_n (p2 := 52) rfl rfl rfl ?_
        refine te_iload_n (p2 := 53) rfl rfl rfl ?_
        refine ts_i (p2 := 54) (i := 152) (n := 100) rfl rfl I8 rfl rfl rfl rfl (by omega) (by omega) (by omega) (by omega) (by omega) rfl (fun h9 I9 u9 => ?_)
        have f9 := fr_st (F := F_X12_ruin) 1 f8 u9 rfl (by omega) (by omega)
        refine te_iload (p2 := 56) rfl rfl rfl ?_
        exact te_iret rfl rfl ⟨I9, f9, _, rfl, (fun _ => u9.1), (fun k hn => by (have hk : k ≠ x1.toInt.toNat := hn.resolve_right (fun hq => hq (by omega))); exact ((u9.2 _ _ (Or.inr hk)).trans (u8.2 _ _ (Or.inl (by decide)))))⟩
      · subst w5
        have cc5_1 := (show Int32.toInt 0 = 0 from rfl)
        have cc5_2 := (show Int32.toInt 9999 = 9999 from rfl)
        refine tz_ne (p2 := 29) rfl rfl (show Int32.toInt 0 = 0 from rfl) (fun c10 => absurd c10 (by omega)) (fun c10 => ?_)
        refine te_bipush (p2 := 31) (x := (-2)) rfl rfl (by decide) ?_
        exact te_iret rfl rfl ⟨hI, f0, _, rfl, (fun hk => absurd hk (by omega)), (fun k hk => rfl)⟩
    · subst w3
      have cc3_1 := (show Int32.toInt 0 = 0 from rfl)
      have cc3_2 := (show Int32.toInt 5 = 5 from rfl)
      refine tz_eq (p2 := 18) rfl rfl (show Int32.toInt 0 = 0 from rfl) (fun c11 => ?_) (fun c11 => absurd c11 (by omega))
      refine te_bipush (p2 := 31) (x := (-2)) rfl rfl (by decide) ?_
      exact te_iret rfl rfl ⟨hI, f0, _, rfl, (fun hk => absurd hk (by omega)), (fun k hk => rfl)⟩
  · subst w1
    refine tz_ne (p2 := 7) rfl rfl (show Int32.toInt 0 = 0 from rfl) (fun c12 => absurd c12 (by omega)) (fun c12 => ?_)
    refine te_iconst (p2 := 8) (x := (-1)) rfl rfl (by decide) ?_
    exact te_iret rfl rfl ⟨hI, f0, _, rfl, (fun hk => absurd hk (by omega)), (fun k hk => rfl)⟩
