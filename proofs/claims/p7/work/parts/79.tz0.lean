def fT (x1 p : Int32) : Int32 := if -1 ≤ x1.toInt ∧ x1.toInt ≤ 99 then p else -5
def gT (x1 p : Int32) : Int32 := if -1 ≤ x1.toInt ∧ x1.toInt ≤ 99 then x1 else p
set_option maxRecDepth 20000 in
set_option maxHeartbeats 4000000 in
theorem c_X11_tip {x1 : Int32} {h : im_H} (hI : tI h)  : CaP 8 66 [.ref 16, .int x1] h (fun v h2 => tI h2 ∧ fr F_X11_tip h h2 ∧ ∃ y : Int32, v = some (.int y) ∧ ∃ p : Int32, rd h 1 1 = some (.int p) ∧ y = fT x1 p ∧ rd h2 1 1 = some (.int (gT x1 p))) := by
  refine cap_of (d := 7) (M := mX11_tip) rfl (Nat.le_of_ble_eq_true rfl) ?_
  show EvP im_K0 7 mX11_tip (0, [(0, .ref 16), (1, .int x1)], [], h) _
  have f0 : fr F_X11_tip h h := fr_rf
  refine te_iload_n (p2 := 1) rfl rfl rfl ?_
  refine te_iconst (p2 := 2) (x := (-1)) rfl rfl (by decide) ?_
  refine tb_eq (p2 := 5) rfl rfl rfl (show Int32.toInt (-1) = (-1) from rfl) (fun c1 => ?_) (fun c1 => ?_)
  · refine te_aload_n (p2 := 18) rfl rfl rfl ?_
    refine tg_r (p2 := 21) (i := 0) (r := 17) rfl rfl hI rfl rfl rfl ?_
    refine tg_i (p2 := 24) (i := 1) rfl rfl hI rfl rfl rfl (fun y2 a2 b2 e2 => ?_)
    refine te_istore_n (p2 := 25) (lv2 := [(2, .int y2), (0, .ref 16), (1, .int x1)]) rfl rfl (by decide) rfl ?_
    refine te_aload_n (p2 := 26) rfl rfl rfl ?_
    refine tg_r (p2 := 29) (i := 0) (r := 17) rfl rfl hI rfl rfl rfl ?_
    refine te_iload_n (p2 := 30) rfl rfl rfl ?_
    refine tp_i (p2 := 33) (i := 1) rfl rfl hI rfl rfl (by decide) rfl rfl rfl (by omega) (by omega) (by omega) rfl (fun h3 I3 u3 => ?_)
    have f3 := fr_st (F := F_X11_tip) 0 f0 u3 rfl (by decide) (by decide)
    refine te_iload_n (p2 := 34) rfl rfl rfl ?_
    exact te_iret rfl rfl ⟨I3, f3, _, rfl, y2, e2, (show y2 = fT x1 y2 from by (unfold fT; (repeat' split) <;> first | (exfalso; omega) | rfl | assumption | (exact i32_ext (by omega)) | (subst_vars; rfl))), u3.1.trans (congrArg (fun t => some (Value.int t)) (show x1 = gT x1 y2 from by (unfold gT; (repeat' split) <;> first | (exfalso; omega) | rfl | assumption | (exact i32_ext (by omega)) | (subst_vars; rfl))))⟩
  · refine te_iload_n (p2 := 6) rfl rfl rfl ?_
    refine te_bipush (p2 := 8) (x := 100) rfl rfl (by decide) ?_
    refine cS_pI (p2 := 11) rfl rfl rfl rfl (t_X11_within (n := x1) (b := 100) hI ) (by decide) (fun y4 r4 => ?_)
    rcases r4 with ⟨w4, c4⟩ | ⟨w4, c4⟩
    · subst w4
      have cc4_1 := (show Int32.toInt 100 = 100 from rfl)
      refine tz_ne (p2 := 14) rfl rfl (show Int32.toInt 1 = 1 from rfl) (fun c5 => ?_) (fun c5 => absurd c5 (by omega))
      refine te_aload_n (p2 := 18) rfl rfl rfl ?_
      refine tg_r (p2 := 21) (i := 0) (r := 17) rfl rfl hI rfl rfl rfl ?_
      refine tg_i (p2 := 24) (i := 1) rfl rfl hI rfl rfl rfl (fun y6 a6 b6 e6 => ?_)
      refine te_istore_n (p2 := 25) (lv2 := [(2, .int y6), (0, .ref 16), (1, .int x1)]) rfl rfl (by decide) rfl ?_
      refine te_aload_n (p2 := 26) rfl rfl rfl ?_
      refine tg_r (p2 := 29) (i := 0) (r := 17) rfl rfl hI rfl rfl rfl ?_
      refine te_iload_n (p2 := 30) rfl rfl rfl ?_
      refine tp_i (p2 := 33) (i := 1) rfl rfl hI rfl rfl (by decide) rfl rfl rfl (by omega) (by omega) (by omega) rfl (fun h7 I7 u7 => ?_)
      have f7 := fr_st (F := F_X11_tip) 0 f0 u7 rfl (by decide) (by decide)
      refine te_iload_n (p2 := 34) rfl rfl rfl ?_
      exact te_iret rfl rfl ⟨I7, f7, _, rfl, y6, e6, (show y6 = fT x1 y6 from by (unfold fT; (repeat' split) <;> first | (exfalso; omega) | rfl | assumption | (exact i32_ext (by omega)) | (subst_vars; rfl))), u7.1.trans (congrArg (fun t => some (Value.int t)) (show x1 = gT x1 y6 from by (unfold gT; (repeat' split) <;> first | (exfalso; omega) | rfl | assumption | (exact i32_ext (by omega)) | (subst_vars; rfl))))⟩
    · subst w4
      have cc4_1 := (show Int32.toInt 100 = 100 from rfl)
      refine tz_ne (p2 := 14) rfl rfl (show Int32.toInt 0 = 0 from rfl) (fun c8 => absurd c8 (by omega)) (fun c8 => ?_)
      refine te_bipush (p2 := 16) (x := (-5)) rfl rfl (by decide) ?_
      obtain ⟨v9, e9, y9, w9, a9, b9, _⟩ := hI.2.1 1 1 (.inl ((-1), 99, 9999999999)) rfl
      subst w9
      exact te_iret rfl rfl ⟨hI, f0, _, rfl, y9, e9, (show (-5) = fT x1 y9 from by (have c0_ := (show Int32.toInt (-5) = (-5) from rfl); unfold fT; (repeat' split) <;> first | (exfalso; omega) | rfl | assumption | (exact i32_ext (by omega)) | (subst_vars; rfl))), e9.trans (congrArg (fun t => some (Value.int t)) (show y9 = gT x1 y9 from by (have c0_ := (show Int32.toInt (-5) = (-5) from rfl); unfold gT; (repeat' split) <;> first | (exfalso; omega) | rfl | assumption | (exact i32_ext (by omega)) | (subst_vars; rfl))))⟩
set_option maxRecDepth 20000 in
set_option maxHeartbeats 4000000 in
theorem c_X12_tip {x1 : Int32} {h : im_H} (hI : tI h)  : CaP 8 128 [.ref 164, .int x1] h (fun v h2 => tI h2 ∧ fr F_X12_tip h h2 ∧ ∃ y : Int32, v = some (.int y) ∧ ∃ p : Int32, rd h 148 9 = some (.int p) ∧ y = fT x1 p ∧ rd h2 148 9 = some (.int (gT x1 p))) := by
  refine cap_of (d := 7) (M := mX12_tip) rfl (Nat.le_of_ble_eq_true rfl) ?_
  show EvP im_K0 7 mX12_tip (0, [(0, .ref 164), (1, .int x1)], [], h) _
  have f0 : fr F_X12_tip h h := fr_rf
  refine te_iload_n (p2 := 1) rfl rfl rfl ?_
  refine te_iconst (p2 := 2) (x := (-1)) rfl rfl (by decide) ?_
  refine te_bipush (p2 := 4) (x := 99) rfl rfl (by decide) ?_
  refine cS_pI (p2 := 7) rfl rfl rfl rfl (t_X12_in (n := x1) (a := (-1)) (b := 99) hI ) (by decide) (fun y1 r1 => ?_)
  rcases r1 with ⟨w1, c1⟩ | ⟨w1, c1⟩
  · subst w1
    have cc1_1 := (show Int32.toInt (-1) = (-1) from rfl)
    have cc1_2 := (show Int32.toInt 99 = 99 from rfl)
    refine tz_ne (p2 := 10) rfl rfl (show Int32.toInt 1 = 1 from rfl) (fun c2 => ?_) (fun c2 => absurd c2 (by omega))
    refine te_aload_n (p2 := 14) rfl rfl rfl ?_
    refine tg_i (p2 := 17) (i := 148) rfl rfl hI rfl rfl rfl (fun y3 a3 b3 e3 => ?_)
    refine te_istore_n (p2 := 18) (lv2 := [(2, .int y3), (0, .ref 164), (1, .int x1)]) rfl rfl (by decide) rfl ?_
    refine te_aload_n (p2 := 19) rfl rfl rfl ?_
    refine te_iload_n (p2 := 20) rfl rfl rfl ?_
    refine tp_i (p2 := 23) (i := 148) rfl rfl hI rfl rfl (by decide) rfl rfl rfl (by omega) (by omega) (by omega) rfl (fun h4 I4 u4 => ?_)
    have f4 := fr_st (F := F_X12_tip) 0 f0 u4 rfl (by decide) (by decide)
    refine te_iload_n (p2 := 24) rfl rfl rfl ?_
    exact te_iret rfl rfl ⟨I4, f4, _, rfl, y3, e3, (show y3 = fT x1 y3 from by (unfold fT; (repeat' split) <;> first | (exfalso; omega) | rfl | assumption | (exact i32_ext (by omega)) | (subst_vars; rfl))), u4.1.trans (congrArg (fun t => some (Value.int t)) (show x1 = gT x1 y3 from by (unfold gT; (repeat' split) <;> first | (exfalso; omega) | rfl | assumption | (exact i32_ext (by omega)) | (subst_vars; rfl))))⟩
  · subst w1
    have cc1_1 := (show Int32.toInt (-1) = (-1) from rfl)
    have cc1_2 := (show Int32.toInt 99 = 99 from rfl)
    refine tz_ne (p2 := 10) rfl rfl (show Int32.toInt 0 = 0 from rfl) (fun c5 => absurd c5 (by omega)) (fun c5 => ?_)
    refine te_bipush (p2 := 12) (x := (-5)) rfl rfl (by decide) ?_
    obtain ⟨v6, e6, y6, w6, a6, b6, _⟩ := hI.2.1 148 9 (.inl ((-1), 99, 9999999999)) rfl
    subst w6
    exact te_iret rfl rfl ⟨hI, f0, _, rfl, y6, e6, (show (-5) = fT x1 y6 from by (have c0_ := (show Int32.toInt (-5) = (-5) from rfl); unfold fT; (repeat' split) <;> first | (exfalso; omega) | rfl | assumption | (exact i32_ext (by omega)) | (subst_vars; rfl))), e6.trans (congrArg (fun t => some (Value.int t)) (show y6 = gT x1 y6 from by (have c0_ := (show Int32.toInt (-5) = (-5) from rfl); unfold gT; (repeat' split) <;> first | (exfalso; omega) | rfl | assumption | (exact i32_ext (by omega)) | (subst_vars; rfl))))⟩
def rel (h : im_H) : Prop := rd h 1 1 = rd h 148 9
theorem rel_fr {F : List (Nat × Nat × Nat)} {h h2 : im_H} (hr : rel h) (g : fr F h h2) (f1 : inF F 1 1 = false) (f2 : inF F 148 9 = false) : rel h2 := (g _ _ f1).trans (hr.trans (g _ _ f2).symm)
theorem relc {h h1 h2 : im_H} {x1 y1 y2 : Int32} (hr : rel h) (g1 : fr F_X11_tip h h1) (g2 : fr F_X12_tip h1 h2) (r1 : ∃ p : Int32, rd h 1 1 = some (.int p) ∧ y1 = fT x1 p ∧ rd h1 1 1 = some (.int (gT x1 p))) (r2 : ∃ p : Int32, rd h1 148 9 = some (.int p) ∧ y2 = fT x1 p ∧ rd h2 148 9 = some (.int (gT x1 p))) : y1 = y2 ∧ rel h2 := by
  obtain ⟨p, e1, f1, n1⟩ := r1
  obtain ⟨q, e2, f2, n2⟩ := r2
  have e3 : rd h1 148 9 = some (.int p) := (g1 _ _ rfl).trans (hr.symm.trans e1)
  have e4 := int_inj e3 e2
  subst e4
  exact ⟨f1.trans f2.symm, (show rd h2 1 1 = rd h2 148 9 from ((g2 _ _ rfl).trans n1).trans n2.symm)⟩
