def clR (c : Ct) (A : Dy) (x : Nat) : Nat → Nat → Int32
  | 0, k => if ((dysF c A k).ld x).toInt = 0 then Int32.ofNat k else -3
  | m + 1, k => if ((dysF c A k).ld x).toInt = 0 then Int32.ofNat k else clR c A x m (k + 1)
theorem clR_y {c : Ct} {A : Dy} {x k : Nat} {y : Int32} (hy : y.toInt = k) (h : ((dysF c A k).ld x).toInt = 0) : ∀ m, clR c A x m k = y := by
  intro m
  have e : Int32.ofNat k = y := i32_ext (by rw [Int32.toInt_ofNat_of_lt (by have := i32_hi y; omega), hy])
  cases m with
  | zero => exact (if_pos h).trans e
  | succ m => exact (if_pos h).trans e
theorem clR_s {c : Ct} {A : Dy} {x m m2 k k2 : Nat} (hm : m = m2 + 1) (hk : k2 = k + 1) (h : ((dysF c A k).ld x).toInt ≠ 0) : clR c A x m k = clR c A x m2 k2 := by
  subst hm hk
  exact if_neg h
theorem clR_n {c : Ct} {A : Dy} {x m k : Nat} (hm : m = 0) (h : ((dysF c A k).ld x).toInt ≠ 0) : clR c A x m k = -3 := by
  subst hm
  exact if_neg h
def clear_f (x1 x2 : Int32) (c : Ct) (A : Dy) : Int32 := if 0 ≤ x1.toInt ∧ x1.toInt ≤ 99 then (if 1 ≤ x2.toInt ∧ x2.toInt ≤ 60 then clR c A x1.toInt.toNat x2.toInt.toNat 0 else -2) else -1
abbrev Q1_clear (x1 x2 : Int32) (y : Int32) (h h2 : im_H) : Prop := y = clear_f x1 x2 (ctX h) (absX h 23)
set_option maxRecDepth 20000 in
set_option maxHeartbeats 4000000 in
theorem c_X11_clear {x1 : Int32} {x2 : Int32} {h : im_H} (hI : tI h)  : CaP 8 101 [.ref 16, .int x1, .int x2] h (fun v h2 => tI h2 ∧ fr F_X11_clear h h2 ∧ ∃ y : Int32, v = some (.int y) ∧ Q1_clear x1 x2 y h h2) := by
  refine cap_of (d := 7) (M := mX11_clear) rfl (Nat.le_of_ble_eq_true rfl) ?_
  show EvP im_K0 7 mX11_clear (0, [(0, .ref 16), (1, .int x1), (2, .int x2)], [], h) _
  have f0 : fr F_X11_clear h h := fr_rf
  refine te_iload_n (p2 := 1) rfl rfl rfl ?_
  refine te_bipush (p2 := 3) (x := 100) rfl rfl (by decide) ?_
  refine cS_pI (p2 := 6) rfl rfl rfl rfl (t_X11_within (n := x1) (b := 100) hI ) (by decide) (fun y1 r1 => ?_)
  rcases r1 with ⟨w1, c1⟩ | ⟨w1, c1⟩
  · subst w1
    have cc1_1 := (show Int32.toInt 100 = 100 from rfl)
    refine tz_ne (p2 := 9) rfl rfl (show Int32.toInt 1 = 1 from rfl) (fun c2 => ?_) (fun c2 => absurd c2 (by omega))
    refine te_iload_n (p2 := 12) rfl rfl rfl ?_
    refine te_iconst (p2 := 13) (x := 1) rfl rfl (by decide) ?_
    refine te_bipush (p2 := 15) (x := 60) rfl rfl (by decide) ?_
    refine cS_pI (p2 := 18) rfl rfl rfl rfl (t_X11_between (n := x2) (a := 1) (b := 60) hI ) (by decide) (fun y3 r3 => ?_)
    rcases r3 with ⟨w3, c3⟩ | ⟨w3, c3⟩
    · subst w3
      have cc3_1 := (show Int32.toInt 1 = 1 from rfl)
      have cc3_2 := (show Int32.toInt 60 = 60 from rfl)
      refine tz_ne (p2 := 21) rfl rfl (show Int32.toInt 1 = 1 from rfl) (fun c4 => ?_) (fun c4 => absurd c4 (by omega))
      refine te_aload_n (p2 := 25) rfl rfl rfl ?_
      refine tg_r (p2 := 28) (i := 0) (r := 53) rfl rfl hI rfl rfl rfl ?_
      refine te_aload_n (p2 := 29) rfl rfl rfl ?_
      refine tg_r (p2 := 32) (i := 0) (r := 39) rfl rfl hI rfl rfl rfl ?_
      refine tc_V (p2 := 35) (i := 37) rfl rfl rfl rfl hI rfl rfl rfl (c_X9_become (s := 37) (o := 23) hI (by decide) (by decide)) (by decide) (fun v5 h5 hq5 => ?_)
      obtain ⟨I5, g5, w5, B5⟩ := hq5
      subst w5
      have f5 := fr_tr (F1 := (F_X9_become 37 23)) (F := F_X11_clear) f0 g5 (by decide)
      show EvP _ _ _ (35, [(0, .ref 16), (1, .int x1), (2, .int x2)], [], h5) _
      refine te_iconst (p2 := 36) (x := 0) rfl rfl (by decide) ?_
      refine te_istore_n (p2 := 37) (lv2 := [(3, .int 0), (0, .ref 16), (1, .int x1), (2, .int x2)]) rfl rfl (by decide) rfl ?_
      have lp6 : ∀ (n6 : Nat) (v6_3 : Int32) (h6 : im_H), tI h6 → fr F_X11_clear h h6 → 0 ≤ v6_3.toInt → v6_3.toInt ≤ 60 → v6_3.toInt ≤ x2.toInt → (absX h6 37 = dysF (ctX h) (absX h 23) v6_3.toInt.toNat) → (clR (ctX h) (absX h 23) x1.toInt.toNat (x2.toInt.toNat - v6_3.toInt.toNat) v6_3.toInt.toNat = clR (ctX h) (absX h 23) x1.toInt.toNat x2.toInt.toNat 0) → x2.toInt - v6_3.toInt < (n6 : Int) → EvP im_K0 7 mX11_clear (37, [(0, .ref 16), (1, .int x1), (2, .int x2), (3, .int v6_3)], [], h6) (fun v h2 => tI h2 ∧ fr F_X11_clear h h2 ∧ ∃ y : Int32, v = some (.int y) ∧ Q1_clear x1 x2 y h h2) := by
        intro n6
        induction n6 with
        | zero => intro v6_3 h6 I6 f6 a6_3 b6_3 l6_0 w6_0 w6_1 m6; exfalso; omega
        | succ n6 ih6 =>
          intro v6_3 h6 I6 f6 a6_3 b6_3 l6_0 w6_0 w6_1 m6
          refine te_iload_n (p2 := 38) rfl rfl rfl ?_
          refine te_iload_n (p2 := 39) rfl rfl rfl ?_
          refine tb_ge (p2 := 42) rfl rfl rfl rfl (fun c7 => ?_) (fun c7 => ?_)
          · refine te_aload_n (p2 := 74) rfl rfl rfl ?_
            refine tg_r (p2 := 77) (i := 0) (r := 53) rfl rfl I6 rfl rfl rfl ?_
            refine tg_r (p2 := 80) (i := 37) (r := 55) rfl rfl I6 rfl rfl rfl ?_
            refine te_iload_n (p2 := 81) rfl rfl rfl ?_
            refine tl_i (p2 := 82) (i := 39) (n := 100) rfl rfl I6 rfl rfl rfl rfl (by omega) (by omega) (fun y8 a8 b8 g8 e8 => ?_)
            refine tz_ne (p2 := 85) rfl rfl rfl (fun c9 => ?_) (fun c9 => ?_)
            · refine te_bipush (p2 := 91) (x := (-3)) rfl rfl (by decide) ?_
              exact te_iret rfl rfl ⟨I6, f6, _, rfl, (by show (-3) = clear_f x1 x2 (ctX h) (absX h 23); unfold clear_f; rw [if_pos (by omega), if_pos (by omega), ← w6_1]; exact (clR_n (by omega) (by rw [(show ((dysF (ctX h) (absX h 23) v6_3.toInt.toNat).ld x1.toInt.toNat) = y8 from (by rw [← w6_0]; exact (aX_ld (by omega)).trans (rv_of e8)))]; omega)).symm)⟩
            · refine te_iload_n (p2 := 86) rfl rfl rfl ?_
              refine te_goto rfl ?_
              exact te_iret rfl rfl ⟨I6, f6, _, rfl, (by show x2 = clear_f x1 x2 (ctX h) (absX h 23); unfold clear_f; rw [if_pos (by omega), if_pos (by omega), ← w6_1]; exact (clR_y (y := x2) (by omega) (by rw [(show ((dysF (ctX h) (absX h 23) v6_3.toInt.toNat).ld x1.toInt.toNat) = y8 from (by rw [← w6_0]; exact (aX_ld (by omega)).trans (rv_of e8)))]; omega) _).symm)⟩
          · refine te_aload_n (p2 := 43) rfl rfl rfl ?_
            refine tg_r (p2 := 46) (i := 0) (r := 53) rfl rfl I6 rfl rfl rfl ?_
            refine tg_r (p2 := 49) (i := 37) (r := 55) rfl rfl I6 rfl rfl rfl ?_
            refine te_iload_n (p2 := 50) rfl rfl rfl ?_
            refine tl_i (p2 := 51) (i := 39) (n := 100) rfl rfl I6 rfl rfl rfl rfl (by omega) (by omega) (fun y10 a10 b10 g10 e10 => ?_)
            refine tz_ne (p2 := 54) rfl rfl rfl (fun c11 => ?_) (fun c11 => ?_)
            · refine te_aload_n (p2 := 57) rfl rfl rfl ?_
              refine tg_r (p2 := 60) (i := 0) (r := 17) rfl rfl I6 rfl rfl rfl ?_
              refine te_aload_n (p2 := 61) rfl rfl rfl ?_
              refine tg_r (p2 := 64) (i := 0) (r := 53) rfl rfl I6 rfl rfl rfl ?_
              refine tc_V (p2 := 67) (i := 1) rfl rfl rfl rfl I6 rfl rfl rfl (d_X0_playDay (s := 37) I6 (by decide)) (by decide) (fun v12 h12 hq12 => ?_)
              obtain ⟨I12, g12, w12, Q12⟩ := hq12
              subst w12
              have f12 := fr_tr (F1 := (F_X0_playDay 37)) (F := F_X11_clear) f6 g12 (by decide)
              show EvP _ _ _ (67, [(0, .ref 16), (1, .int x1), (2, .int x2), (3, .int v6_3)], [], h12) _
              refine ar_inc (p2 := 70) (x := v6_3) rfl rfl (by decide) rfl (by decide) rfl (by omega) (by omega) (fun z13 e13 f13 => ?_)
              show EvP _ _ _ (70, [(3, .int z13), (0, .ref 16), (1, .int x1), (2, .int x2)], [], h12) _
              refine te_goto rfl ?_
              refine te_lv [(0, .ref 16), (1, .int x1), (2, .int x2), (3, .int z13)] rfl rfl ⟨rfl, rfl, rfl, rfl, trivial⟩ ?_
              exact ih6 z13 h12 I12 f12 (by omega) (by omega) (by omega) (by rw [Q12, (show ctX h6 = ctX h from ctX_fr f6 rfl), w6_0, show z13.toInt.toNat = v6_3.toInt.toNat + 1 by omega]; exact dys_s) (by rw [← w6_1]; exact (clR_s (by omega) (by omega) (by rw [(show ((dysF (ctX h) (absX h 23) v6_3.toInt.toNat).ld x1.toInt.toNat) = y10 from (by rw [← w6_0]; exact (aX_ld (by omega)).trans (rv_of e10)))]; omega)).symm) (by omega)
            · refine te_iload_n (p2 := 55) rfl rfl rfl ?_
              exact te_iret rfl rfl ⟨I6, f6, _, rfl, (by show v6_3 = clear_f x1 x2 (ctX h) (absX h 23); unfold clear_f; rw [if_pos (by omega), if_pos (by omega), ← w6_1]; exact (clR_y (y := v6_3) (by omega) (by rw [(show ((dysF (ctX h) (absX h 23) v6_3.toInt.toNat).ld x1.toInt.toNat) = y10 from (by rw [← w6_0]; exact (aX_ld (by omega)).trans (rv_of e10)))]; omega) _).symm)⟩
      refine te_lv [(0, .ref 16), (1, .int x1), (2, .int x2), (3, .int 0)] rfl rfl ⟨rfl, rfl, rfl, rfl, trivial⟩ ?_
      exact lp6 61 0 h5 I5 f5 (by decide) (by decide) (by have cc0 := (show Int32.toInt 0 = 0 from rfl); omega) ((bec_abs B5).1.trans (dys_0 rfl)) rfl (by have cc0 := (show Int32.toInt 0 = 0 from rfl); omega)
    · subst w3
      have cc3_1 := (show Int32.toInt 1 = 1 from rfl)
      have cc3_2 := (show Int32.toInt 60 = 60 from rfl)
      refine tz_ne (p2 := 21) rfl rfl (show Int32.toInt 0 = 0 from rfl) (fun c14 => absurd c14 (by omega)) (fun c14 => ?_)
      refine te_bipush (p2 := 23) (x := (-2)) rfl rfl (by decide) ?_
      exact te_iret rfl rfl ⟨hI, f0, _, rfl, (by show (-2) = clear_f x1 x2 (ctX h) (absX h 23); unfold clear_f; rw [if_pos (by omega), if_neg (by omega)])⟩
  · subst w1
    have cc1_1 := (show Int32.toInt 100 = 100 from rfl)
    refine tz_ne (p2 := 9) rfl rfl (show Int32.toInt 0 = 0 from rfl) (fun c15 => absurd c15 (by omega)) (fun c15 => ?_)
    refine te_iconst (p2 := 10) (x := (-1)) rfl rfl (by decide) ?_
    exact te_iret rfl rfl ⟨hI, f0, _, rfl, (by show (-1) = clear_f x1 x2 (ctX h) (absX h 23); unfold clear_f; rw [if_neg (by omega)])⟩
theorem ctM_cl {h H : im_H} (f : fr F_X12_clear h H) : ctM H = ctM h := ctM_e (fun i k hi => f _ _ (inF_no2 (fun q hq e => by (have := (show ∀ q ∈ F_X12_clear, q.1 = 149 ∨ q.1 = 150 ∨ (q.1 = 148 ∧ 61 ≤ q.2.1) by decide) q hq); omega)))
abbrev D2_clear (x1 x2 : Int32) (y : Int32) (h h2 : im_H) : Prop := (∀ k : Nat, (k : Int) < 283 → rd h2 149 k = rd h 149 k) ∧ y = clear_f x1 x2 (ctM h) (absM h)
abbrev Q2_clear (x1 x2 : Int32) (y : Int32) (h h2 : im_H) : Prop := (tabM h ∧ ctOK (ctM h) ∧ ∃ b, dyOK b (absM h) ∧ b + 500000 ≤ 2147483647) → D2_clear x1 x2 y h h2
set_option maxRecDepth 20000 in
set_option maxHeartbeats 4000000 in
theorem d_X12_clear {x1 : Int32} {x2 : Int32} {h : im_H} (hI : tI h) (pr0 : (tabM h ∧ ctOK (ctM h) ∧ ∃ b, dyOK b (absM h) ∧ b + 500000 ≤ 2147483647)) : CaP 9 188 [.ref 164, .int x1, .int x2] h (fun v h2 => tI h2 ∧ fr F_X12_clear h h2 ∧ ∃ y : Int32, v = some (.int y) ∧ D2_clear x1 x2 y h h2) := by
  refine cap_of (d := 8) (M := mX12_clear) rfl (Nat.le_of_ble_eq_true rfl) ?_
  show EvP im_K0 8 mX12_clear (0, [(0, .ref 164), (1, .int x1), (2, .int x2)], [], h) _
  have f0 : fr F_X12_clear h h := fr_rf
  refine te_iload_n (p2 := 1) rfl rfl rfl ?_
  obtain ⟨v1, e1, y1, w1, a1, b1, _⟩ := hI.2.1 148 21 (.inl (0, 16, 9999999999)) rfl
  subst w1
  have hnw : (ctM h).nw.toInt ≤ 16 := by (rw [show (ctM h).nw = y1 from rv_of e1]; omega)
  obtain ⟨b, ok, hb⟩ := pr0.2.2
  refine cS_pI (p2 := 4) rfl rfl rfl rfl (t_X12_isCell (n := x1) hI ) (by decide) (fun y2 r2 => ?_)
  rcases r2 with ⟨w2, c2⟩ | ⟨w2, c2⟩
  · subst w2
    refine tz_ne (p2 := 7) rfl rfl (show Int32.toInt 1 = 1 from rfl) (fun c3 => ?_) (fun c3 => absurd c3 (by omega))
    refine te_iload_n (p2 := 10) rfl rfl rfl ?_
    refine te_iconst (p2 := 11) (x := 1) rfl rfl (by decide) ?_
    refine te_bipush (p2 := 13) (x := 60) rfl rfl (by decide) ?_
    refine cS_pI (p2 := 16) rfl rfl rfl rfl (t_X12_in (n := x2) (a := 1) (b := 60) hI ) (by decide) (fun y4 r4 => ?_)
    rcases r4 with ⟨w4, c4⟩ | ⟨w4, c4⟩
    · subst w4
      have cc4_1 := (show Int32.toInt 1 = 1 from rfl)
      have cc4_2 := (show Int32.toInt 60 = 60 from rfl)
      refine tz_ne (p2 := 19) rfl rfl (show Int32.toInt 1 = 1 from rfl) (fun c5 => ?_) (fun c5 => absurd c5 (by omega))
      refine te_aload_n (p2 := 23) rfl rfl rfl ?_
      refine te_iconst (p2 := 24) (x := 0) rfl rfl (by decide) ?_
      refine tc_V (p2 := 27) (i := 148) rfl rfl rfl rfl hI rfl rfl rfl (c_X12_lays (back := 0) hI (by decide) (by decide)) (by decide) (fun v6 h6 hq6 => ?_)
      obtain ⟨I6, g6, w6, L6⟩ := hq6
      subst w6
      have f6 := fr_tr (F1 := F_X12_lays) (F := F_X12_clear) f0 g6 (by decide)
      show EvP _ _ _ (27, [(0, .ref 164), (1, .int x1), (2, .int x2)], [], h6) _
      refine te_iconst (p2 := 28) (x := 0) rfl rfl (by decide) ?_
      refine te_istore_n (p2 := 29) (lv2 := [(3, .int 0), (0, .ref 164), (1, .int x1), (2, .int x2)]) rfl rfl (by decide) rfl ?_
      have lp7 : ∀ (n7 : Nat) (v7_3 : Int32) (h7 : im_H), tI h7 → fr F_X12_clear h h7 → 0 ≤ v7_3.toInt → v7_3.toInt ≤ 61 → v7_3.toInt ≤ x2.toInt + 1 → (∀ k : Nat, (k : Int) < 283 → rd h7 150 k = rd h 149 k) → (absM h7 = dysF (ctM h) (absM h) v7_3.toInt.toNat) → ((if v7_3.toInt ≤ x2.toInt then clR (ctM h) (absM h) x1.toInt.toNat (x2.toInt.toNat - v7_3.toInt.toNat) v7_3.toInt.toNat else -3) = clR (ctM h) (absM h) x1.toInt.toNat x2.toInt.toNat 0) → 61 - v7_3.toInt < (n7 : Int) → EvP im_K0 8 mX12_clear (29, [(0, .ref 164), (1, .int x1), (2, .int x2), (3, .int v7_3)], [], h7) (fun v h2 => tI h2 ∧ fr F_X12_clear h h2 ∧ ∃ y : Int32, v = some (.int y) ∧ D2_clear x1 x2 y h h2) := by
        intro n7
        induction n7 with
        | zero => intro v7_3 h7 I7 f7 a7_3 b7_3 l7_0 w7_0 w7_1 w7_2 m7; exfalso; omega
        | succ n7 ih7 =>
          intro v7_3 h7 I7 f7 a7_3 b7_3 l7_0 w7_0 w7_1 w7_2 m7
          refine te_iload_n (p2 := 30) rfl rfl rfl ?_
          refine te_iload_n (p2 := 31) rfl rfl rfl ?_
          refine tb_gt (p2 := 34) rfl rfl rfl rfl (fun c8 => ?_) (fun c8 => ?_)
          · refine te_aload_n (p2 := 54) rfl rfl rfl ?_
            refine te_iconst (p2 := 55) (x := 1) rfl rfl (by decide) ?_
            refine tc_V (p2 := 58) (i := 148) rfl rfl rfl rfl I7 rfl rfl rfl (c_X12_lays (back := 1) I7 (by decide) (by decide)) (by decide) (fun v9 h9 hq9 => ?_)
            obtain ⟨I9, g9, w9, L9⟩ := hq9
            subst w9
            have f9 := fr_tr (F1 := F_X12_lays) (F := F_X12_clear) f7 g9 (by decide)
            show EvP _ _ _ (58, [(0, .ref 164), (1, .int x1), (2, .int x2), (3, .int v7_3)], [], h9) _
            refine te_iload_n (p2 := 59) rfl rfl rfl ?_
            refine te_iload_n (p2 := 60) rfl rfl rfl ?_
            refine tb_le (p2 := 63) rfl rfl rfl rfl (fun c10 => ?_) (fun c10 => ?_)
            · refine te_iload_n (p2 := 69) rfl rfl rfl ?_
              exact te_iret rfl rfl ⟨I9, f9, _, rfl, (by exfalso; omega)⟩
            · refine te_bipush (p2 := 65) (x := (-3)) rfl rfl (by decide) ?_
              refine te_goto rfl ?_
              exact te_iret rfl rfl ⟨I9, f9, _, rfl, (by show (∀ k : Nat, (k : Int) < 283 → rd h9 149 k = rd h 149 k) ∧ (-3) = clear_f x1 x2 (ctM h) (absM h); refine ⟨(fun k hk => ((L9.2 (by decide)).1 k hk).trans (w7_0 k hk)), ?_⟩; unfold clear_f; rw [if_pos (by omega), if_pos (by omega), ← w7_2]; rw [if_neg (by omega)])⟩
          · refine te_aload_n (p2 := 35) rfl rfl rfl ?_
            refine tg_r (p2 := 38) (i := 148) (r := 165) rfl rfl I7 rfl rfl rfl ?_
            refine te_iload_n (p2 := 39) rfl rfl rfl ?_
            refine tl_i (p2 := 40) (i := 149) (n := 283) rfl rfl I7 rfl rfl rfl rfl (by omega) (by omega) (fun y11 a11 b11 g11 e11 => ?_)
            refine tz_le (p2 := 43) rfl rfl rfl (fun c12 => ?_) (fun c12 => ?_)
            · refine te_aload_n (p2 := 54) rfl rfl rfl ?_
              refine te_iconst (p2 := 55) (x := 1) rfl rfl (by decide) ?_
              refine tc_V (p2 := 58) (i := 148) rfl rfl rfl rfl I7 rfl rfl rfl (c_X12_lays (back := 1) I7 (by decide) (by decide)) (by decide) (fun v13 h13 hq13 => ?_)
              obtain ⟨I13, g13, w13, L13⟩ := hq13
              subst w13
              have f13 := fr_tr (F1 := F_X12_lays) (F := F_X12_clear) f7 g13 (by decide)
              show EvP _ _ _ (58, [(0, .ref 164), (1, .int x1), (2, .int x2), (3, .int v7_3)], [], h13) _
              refine te_iload_n (p2 := 59) rfl rfl rfl ?_
              refine te_iload_n (p2 := 60) rfl rfl rfl ?_
              refine tb_le (p2 := 63) rfl rfl rfl rfl (fun c14 => ?_) (fun c14 => ?_)
              · refine te_iload_n (p2 := 69) rfl rfl rfl ?_
                exact te_iret rfl rfl ⟨I13, f13, _, rfl, (by show (∀ k : Nat, (k : Int) < 283 → rd h13 149 k = rd h 149 k) ∧ v7_3 = clear_f x1 x2 (ctM h) (absM h); refine ⟨(fun k hk => ((L13.2 (by decide)).1 k hk).trans (w7_0 k hk)), ?_⟩; unfold clear_f; rw [if_pos (by omega), if_pos (by omega), ← w7_2]; rw [if_pos (by omega)]; exact (clR_y (y := v7_3) (by omega) (by (have h9 := ((das_B pr0.2.1 hnw ok v7_3.toInt.toNat (by omega)).1 x1.toInt.toNat).1); rw [(show ((dysF (ctM h) (absM h) v7_3.toInt.toNat).ld x1.toInt.toNat) = y11 from (by rw [← w7_1]; exact (aM_ld (by omega)).trans (rv_of e11)))] at h9 ⊢; omega) _).symm)⟩
              · refine te_bipush (p2 := 65) (x := (-3)) rfl rfl (by decide) ?_
                refine te_goto rfl ?_
                exact te_iret rfl rfl ⟨I13, f13, _, rfl, (by show (∀ k : Nat, (k : Int) < 283 → rd h13 149 k = rd h 149 k) ∧ (-3) = clear_f x1 x2 (ctM h) (absM h); refine ⟨(fun k hk => ((L13.2 (by decide)).1 k hk).trans (w7_0 k hk)), ?_⟩; unfold clear_f; rw [if_pos (by omega), if_pos (by omega), ← w7_2]; rw [if_neg (by omega)])⟩
            · refine te_aload_n (p2 := 44) rfl rfl rfl ?_
              refine tc_V (p2 := 47) (i := 148) rfl rfl rfl rfl I7 rfl rfl rfl (d_X12_goes  I7  (tabM_fr pr0.1 f7 (fun q hq => by (have h9 := (show ∀ q ∈ F_X12_clear, q.1 < 153 ∨ 156 < q.1 by decide)); exact h9 q hq)) (by rw [(show ctM h7 = ctM h from ctM_cl f7)]; exact pr0.2.1) ⟨_, by rw [w7_1]; exact das_B pr0.2.1 hnw ok v7_3.toInt.toNat (by omega), by omega⟩) (by decide) (fun v15 h15 hq15 => ?_)
              obtain ⟨I15, g15, w15, Q15⟩ := hq15
              subst w15
              have f15 := fr_tr (F1 := F_X12_goes) (F := F_X12_clear) f7 g15 (by decide)
              show EvP _ _ _ (47, [(0, .ref 164), (1, .int x1), (2, .int x2), (3, .int v7_3)], [], h15) _
              refine ar_inc (p2 := 50) (x := v7_3) rfl rfl (by decide) rfl (by decide) rfl (by omega) (by omega) (fun z16 e16 f16 => ?_)
              show EvP _ _ _ (50, [(3, .int z16), (0, .ref 164), (1, .int x1), (2, .int x2)], [], h15) _
              refine te_goto rfl ?_
              refine te_lv [(0, .ref 164), (1, .int x1), (2, .int x2), (3, .int z16)] rfl rfl ⟨rfl, rfl, rfl, rfl, trivial⟩ ?_
              exact ih7 z16 h15 I15 f15 (by omega) (by omega) (by omega) (fun k hk => (g15 150 _ rfl).trans (w7_0 k hk)) (by rw [Q15, (show ctM h7 = ctM h from ctM_cl f7), w7_1, show z16.toInt.toNat = v7_3.toInt.toNat + 1 by omega]; exact dys_s) (by rw [← w7_2, if_pos (show v7_3.toInt ≤ x2.toInt by omega)]; (by_cases hq : z16.toInt ≤ x2.toInt); (· rw [if_pos hq]; exact (clR_s (by omega) (by omega) (by rw [(show ((dysF (ctM h) (absM h) v7_3.toInt.toNat).ld x1.toInt.toNat) = y11 from (by rw [← w7_1]; exact (aM_ld (by omega)).trans (rv_of e11)))]; omega)).symm); (· rw [if_neg hq]; exact (clR_n (by omega) (by rw [(show ((dysF (ctM h) (absM h) v7_3.toInt.toNat).ld x1.toInt.toNat) = y11 from (by rw [← w7_1]; exact (aM_ld (by omega)).trans (rv_of e11)))]; omega)).symm)) (by omega)
      refine te_lv [(0, .ref 164), (1, .int x1), (2, .int x2), (3, .int 0)] rfl rfl ⟨rfl, rfl, rfl, rfl, trivial⟩ ?_
      exact lp7 62 0 h6 I6 f6 (by decide) (by decide) (by have cc0 := (show Int32.toInt 0 = 0 from rfl); omega) (L6.1 (by decide)).1 ((absC_e (c := 149) (d := 149) (fun k _ => (L6.1 (by decide)).2 k)).trans (dys_0 rfl)) (if_pos (by (have c0 := (show Int32.toInt 0 = 0 from rfl)); omega)) (by have cc0 := (show Int32.toInt 0 = 0 from rfl); omega)
    · subst w4
      have cc4_1 := (show Int32.toInt 1 = 1 from rfl)
      have cc4_2 := (show Int32.toInt 60 = 60 from rfl)
      refine tz_ne (p2 := 19) rfl rfl (show Int32.toInt 0 = 0 from rfl) (fun c17 => absurd c17 (by omega)) (fun c17 => ?_)
      refine te_bipush (p2 := 21) (x := (-2)) rfl rfl (by decide) ?_
      exact te_iret rfl rfl ⟨hI, f0, _, rfl, (by show (∀ k : Nat, (k : Int) < 283 → rd h 149 k = rd h 149 k) ∧ (-2) = clear_f x1 x2 (ctM h) (absM h); refine ⟨fun k _ => rfl, ?_⟩; unfold clear_f; rw [if_pos (by omega), if_neg (by omega)])⟩
  · subst w2
    refine tz_ne (p2 := 7) rfl rfl (show Int32.toInt 0 = 0 from rfl) (fun c18 => absurd c18 (by omega)) (fun c18 => ?_)
    refine te_iconst (p2 := 8) (x := (-1)) rfl rfl (by decide) ?_
    exact te_iret rfl rfl ⟨hI, f0, _, rfl, (by show (∀ k : Nat, (k : Int) < 283 → rd h 149 k = rd h 149 k) ∧ (-1) = clear_f x1 x2 (ctM h) (absM h); refine ⟨fun k _ => rfl, ?_⟩; unfold clear_f; rw [if_neg (by omega)])⟩
theorem c_X12_clear {x1 : Int32} {x2 : Int32} {h : im_H} (hI : tI h) : CaP 9 188 [.ref 164, .int x1, .int x2] h (fun v h2 => tI h2 ∧ fr F_X12_clear h h2 ∧ ∃ y : Int32, v = some (.int y) ∧ Q2_clear x1 x2 y h h2) := by
  by_cases hp : (tabM h ∧ ctOK (ctM h) ∧ ∃ b, dyOK b (absM h) ∧ b + 500000 ≤ 2147483647)
  · exact cap_imp (d_X12_clear hI hp) (fun v h2 ⟨a, f, y, e, q⟩ => ⟨a, f, y, e, fun _ => q⟩)
  · exact cap_imp (t_X12_clear hI) (fun v h2 ⟨a, f, y, e, _⟩ => ⟨a, f, y, e, fun q => absurd q hp⟩)
