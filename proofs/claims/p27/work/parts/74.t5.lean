set_option maxRecDepth 20000 in
set_option maxHeartbeats 4000000 in
theorem t_X2_isKnown {k : Int32} {known : Int32} {h : im_H} (hI : tI h) (p_k0 : 0 ≤ k.toInt) (p_k1 : k.toInt ≤ 23) : CaP 1 21 [.ref 107, .int k, .int known] h (pI h (fun y => 0 ≤ y.toInt ∧ y.toInt ≤ 1)) := by
  refine cap_of (d := 0) (M := mX2_isKnown) rfl (Nat.le_of_ble_eq_true rfl) ?_
  show EvP im_K0 0 mX2_isKnown (0, [(0, .ref 107), (1, .int k), (2, .int known)], [], h) _
  refine te_aload_n (p2 := 1) rfl rfl rfl ?_
  refine tg_r (p2 := 4) (i := 91) (r := 111) rfl rfl hI rfl rfl rfl ?_
  refine te_iload_n (p2 := 5) rfl rfl rfl ?_
  refine tl_i (p2 := 6) (i := 95) (n := 24) rfl rfl hI rfl rfl rfl rfl (by omega) (by omega) (fun y1 a1 b1 g1 e1 => ?_)
  refine te_iload_n (p2 := 7) rfl rfl rfl ?_
  refine tb_gt (p2 := 10) rfl rfl rfl rfl (fun c2 => ?_) (fun c2 => ?_)
  · refine te_iconst (p2 := 35) (x := 0) rfl rfl (by decide) ?_
    exact te_zret rfl rfl (by decide) ⟨rfl, _, rfl, by decide, by decide⟩
  · refine te_aload_n (p2 := 11) rfl rfl rfl ?_
    refine tg_r (p2 := 14) (i := 91) (r := 112) rfl rfl hI rfl rfl rfl ?_
    refine te_iload_n (p2 := 15) rfl rfl rfl ?_
    refine tl_i (p2 := 16) (i := 96) (n := 24) rfl rfl hI rfl rfl rfl rfl (by omega) (by omega) (fun y3 a3 b3 g3 e3 => ?_)
    refine te_iconst (p2 := 17) (x := (-1)) rfl rfl (by decide) ?_
    refine tb_eq (p2 := 20) rfl rfl rfl (show Int32.toInt (-1) = (-1) from rfl) (fun c4 => ?_) (fun c4 => ?_)
    · refine te_iconst (p2 := 31) (x := 1) rfl rfl (by decide) ?_
      refine te_goto rfl ?_
      exact te_zret rfl rfl (by decide) ⟨rfl, _, rfl, by decide, by decide⟩
    · refine te_aload_n (p2 := 21) rfl rfl rfl ?_
      refine tg_r (p2 := 24) (i := 91) (r := 112) rfl rfl hI rfl rfl rfl ?_
      refine te_iload_n (p2 := 25) rfl rfl rfl ?_
      refine tl_e (p2 := 26) (i := 96) (n := 24) (t := 0) (Or.inl rfl) rfl rfl hI rfl rfl (by omega) (by omega) e3 ?_
      refine te_iload_n (p2 := 27) rfl rfl rfl ?_
      refine tb_le (p2 := 30) rfl rfl rfl rfl (fun c6 => ?_) (fun c6 => ?_)
      · refine te_iconst (p2 := 35) (x := 0) rfl rfl (by decide) ?_
        exact te_zret rfl rfl (by decide) ⟨rfl, _, rfl, by decide, by decide⟩
      · refine te_iconst (p2 := 31) (x := 1) rfl rfl (by decide) ?_
        refine te_goto rfl ?_
        exact te_zret rfl rfl (by decide) ⟨rfl, _, rfl, by decide, by decide⟩
set_option maxRecDepth 20000 in
set_option maxHeartbeats 4000000 in
theorem t_X2_ownerOf {ofLot : Int32} {day : Int32} {known : Int32} {h : im_H} (hI : tI h)  : CaP 2 20 [.ref 107, .int ofLot, .int day, .int known] h (pI h (fun _ => True)) := by
  refine cap_of (d := 1) (M := mX2_ownerOf) rfl (Nat.le_of_ble_eq_true rfl) ?_
  show EvP im_K0 1 mX2_ownerOf (0, [(0, .ref 107), (1, .int ofLot), (2, .int day), (3, .int known)], [], h) _
  refine te_iconst (p2 := 1) (x := (-1)) rfl rfl (by decide) ?_
  refine te_istore (p2 := 3) (lv2 := [(4, .int (-1)), (0, .ref 107), (1, .int ofLot), (2, .int day), (3, .int known)]) rfl rfl (by decide) rfl ?_
  refine te_iconst (p2 := 4) (x := 0) rfl rfl (by decide) ?_
  refine te_istore (p2 := 6) (lv2 := [(5, .int 0), (4, .int (-1)), (0, .ref 107), (1, .int ofLot), (2, .int day), (3, .int known)]) rfl rfl (by decide) rfl ?_
  have lp1 : ∀ (n1 : Nat) (v1_4 v1_5 : Int32) , (-1) ≤ v1_4.toInt → v1_4.toInt ≤ 23 → 0 ≤ v1_5.toInt → v1_5.toInt ≤ 24 → 24 - v1_5.toInt < (n1 : Int) → EvP im_K0 1 mX2_ownerOf (6, [(0, .ref 107), (1, .int ofLot), (2, .int day), (3, .int known), (4, .int v1_4), (5, .int v1_5)], [], h) (pI h (fun _ => True)) := by
    intro n1
    induction n1 with
    | zero => intro v1_4 v1_5 a1_4 b1_4 a1_5 b1_5 m1; exfalso; omega
    | succ n1 ih1 =>
      intro v1_4 v1_5 a1_4 b1_4 a1_5 b1_5 m1
      refine te_iload (p2 := 8) rfl rfl rfl ?_
      refine te_aload_n (p2 := 9) rfl rfl rfl ?_
      refine tg_i (p2 := 12) (i := 91) rfl rfl hI rfl rfl rfl (fun y2 a2 b2 e2 => ?_)
      refine tb_ge (p2 := 15) rfl rfl rfl rfl (fun c3 => ?_) (fun c3 => ?_)
      · refine te_iload (p2 := 94) rfl rfl rfl ?_
        refine te_iconst (p2 := 95) (x := (-1)) rfl rfl (by decide) ?_
        refine tb_ne (p2 := 98) rfl rfl rfl (show Int32.toInt (-1) = (-1) from rfl) (fun c4 => ?_) (fun c4 => ?_)
        · refine te_aload_n (p2 := 103) rfl rfl rfl ?_
          refine tg_r (p2 := 106) (i := 91) (r := 109) rfl rfl hI rfl rfl rfl ?_
          refine te_iload (p2 := 108) rfl rfl rfl ?_
          refine tl_i (p2 := 109) (i := 93) (n := 24) rfl rfl hI rfl rfl rfl rfl (by omega) (by omega) (fun y5 a5 b5 g5 e5 => ?_)
          exact te_iret rfl rfl ⟨rfl, _, rfl, trivial⟩
        · refine te_iconst (p2 := 99) (x := (-1)) rfl rfl (by decide) ?_
          refine te_goto rfl ?_
          exact te_iret rfl rfl ⟨rfl, _, rfl, trivial⟩
      · refine te_aload_n (p2 := 16) rfl rfl rfl ?_
        refine tg_r (p2 := 19) (i := 91) (r := 108) rfl rfl hI rfl rfl rfl ?_
        refine te_iload (p2 := 21) rfl rfl rfl ?_
        refine tl_i (p2 := 22) (i := 92) (n := 24) rfl rfl hI rfl rfl rfl rfl (by omega) (by omega) (fun y6 a6 b6 g6 e6 => ?_)
        refine te_iload_n (p2 := 23) rfl rfl rfl ?_
        refine tb_ne (p2 := 26) rfl rfl rfl rfl (fun c7 => ?_) (fun c7 => ?_)
        · refine te_iconst (p2 := 52) (x := 0) rfl rfl (by decide) ?_
          refine te_istore (p2 := 54) (lv2 := [(6, .int 0), (0, .ref 107), (1, .int ofLot), (2, .int day), (3, .int known), (4, .int v1_4), (5, .int v1_5)]) rfl rfl (by decide) rfl ?_
          refine te_iload (p2 := 56) rfl rfl rfl ?_
          refine tz_eq (p2 := 59) rfl rfl (show Int32.toInt 0 = 0 from rfl) (fun c8 => ?_) (fun c8 => absurd c8 (by omega))
          refine ar_inc (p2 := 89) (x := v1_5) rfl rfl (by decide) rfl (by decide) rfl (by omega) (by omega) (fun z9 e9 f9 => ?_)
          show EvP _ _ _ (89, [(5, .int z9), (6, .int 0), (0, .ref 107), (1, .int ofLot), (2, .int day), (3, .int known), (4, .int v1_4)], [], h) _
          refine te_goto rfl ?_
          refine te_lv [(0, .ref 107), (1, .int ofLot), (2, .int day), (3, .int known), (4, .int v1_4), (5, .int z9)] rfl rfl ⟨rfl, rfl, rfl, rfl, rfl, rfl, trivial⟩ ?_
          exact ih1 v1_4 z9 (by omega) (by omega) (by omega) (by omega) (by omega)
        · refine te_aload_n (p2 := 27) rfl rfl rfl ?_
          refine tg_r (p2 := 30) (i := 91) (r := 110) rfl rfl hI rfl rfl rfl ?_
          refine te_iload (p2 := 32) rfl rfl rfl ?_
          refine tl_i (p2 := 33) (i := 94) (n := 24) rfl rfl hI rfl rfl rfl rfl (by omega) (by omega) (fun y10 a10 b10 g10 e10 => ?_)
          refine te_iload_n (p2 := 34) rfl rfl rfl ?_
          refine tb_gt (p2 := 37) rfl rfl rfl rfl (fun c11 => ?_) (fun c11 => ?_)
          · refine te_iconst (p2 := 52) (x := 0) rfl rfl (by decide) ?_
            refine te_istore (p2 := 54) (lv2 := [(6, .int 0), (0, .ref 107), (1, .int ofLot), (2, .int day), (3, .int known), (4, .int v1_4), (5, .int v1_5)]) rfl rfl (by decide) rfl ?_
            refine te_iload (p2 := 56) rfl rfl rfl ?_
            refine tz_eq (p2 := 59) rfl rfl (show Int32.toInt 0 = 0 from rfl) (fun c12 => ?_) (fun c12 => absurd c12 (by omega))
            refine ar_inc (p2 := 89) (x := v1_5) rfl rfl (by decide) rfl (by decide) rfl (by omega) (by omega) (fun z13 e13 f13 => ?_)
            show EvP _ _ _ (89, [(5, .int z13), (6, .int 0), (0, .ref 107), (1, .int ofLot), (2, .int day), (3, .int known), (4, .int v1_4)], [], h) _
            refine te_goto rfl ?_
            refine te_lv [(0, .ref 107), (1, .int ofLot), (2, .int day), (3, .int known), (4, .int v1_4), (5, .int z13)] rfl rfl ⟨rfl, rfl, rfl, rfl, rfl, rfl, trivial⟩ ?_
            exact ih1 v1_4 z13 (by omega) (by omega) (by omega) (by omega) (by omega)
          · refine te_aload_n (p2 := 38) rfl rfl rfl ?_
            refine te_iload (p2 := 40) rfl rfl rfl ?_
            refine te_iload_n (p2 := 41) rfl rfl rfl ?_
            refine cV_pI (p2 := 44) (i := 91) rfl rfl rfl rfl hI rfl rfl rfl (t_X2_isKnown (k := v1_5) (known := known) hI (by omega) (by omega)) (by decide) (fun y14 r14 => ?_)
            obtain ⟨a14, b14⟩ := r14
            refine tz_eq (p2 := 47) rfl rfl rfl (fun c15 => ?_) (fun c15 => ?_)
            · refine te_iconst (p2 := 52) (x := 0) rfl rfl (by decide) ?_
              refine te_istore (p2 := 54) (lv2 := [(6, .int 0), (0, .ref 107), (1, .int ofLot), (2, .int day), (3, .int known), (4, .int v1_4), (5, .int v1_5)]) rfl rfl (by decide) rfl ?_
              refine te_iload (p2 := 56) rfl rfl rfl ?_
              refine tz_eq (p2 := 59) rfl rfl (show Int32.toInt 0 = 0 from rfl) (fun c16 => ?_) (fun c16 => absurd c16 (by omega))
              refine ar_inc (p2 := 89) (x := v1_5) rfl rfl (by decide) rfl (by decide) rfl (by omega) (by omega) (fun z17 e17 f17 => ?_)
              show EvP _ _ _ (89, [(5, .int z17), (6, .int 0), (0, .ref 107), (1, .int ofLot), (2, .int day), (3, .int known), (4, .int v1_4)], [], h) _
              refine te_goto rfl ?_
              refine te_lv [(0, .ref 107), (1, .int ofLot), (2, .int day), (3, .int known), (4, .int v1_4), (5, .int z17)] rfl rfl ⟨rfl, rfl, rfl, rfl, rfl, rfl, trivial⟩ ?_
              exact ih1 v1_4 z17 (by omega) (by omega) (by omega) (by omega) (by omega)
            · refine te_iconst (p2 := 48) (x := 1) rfl rfl (by decide) ?_
              refine te_goto rfl ?_
              refine te_istore (p2 := 54) (lv2 := [(6, .int 1), (0, .ref 107), (1, .int ofLot), (2, .int day), (3, .int known), (4, .int v1_4), (5, .int v1_5)]) rfl rfl (by decide) rfl ?_
              refine te_iload (p2 := 56) rfl rfl rfl ?_
              refine tz_eq (p2 := 59) rfl rfl (show Int32.toInt 1 = 1 from rfl) (fun c18 => absurd c18 (by omega)) (fun c18 => ?_)
              refine te_iload (p2 := 61) rfl rfl rfl ?_
              refine te_iconst (p2 := 62) (x := (-1)) rfl rfl (by decide) ?_
              refine tb_eq (p2 := 65) rfl rfl rfl (show Int32.toInt (-1) = (-1) from rfl) (fun c19 => ?_) (fun c19 => ?_)
              · refine te_iload (p2 := 84) rfl rfl rfl ?_
                refine te_istore (p2 := 86) (lv2 := [(4, .int v1_5), (6, .int 1), (0, .ref 107), (1, .int ofLot), (2, .int day), (3, .int known), (5, .int v1_5)]) rfl rfl (by decide) rfl ?_
                refine ar_inc (p2 := 89) (x := v1_5) rfl rfl (by decide) rfl (by decide) rfl (by omega) (by omega) (fun z20 e20 f20 => ?_)
                show EvP _ _ _ (89, [(5, .int z20), (4, .int v1_5), (6, .int 1), (0, .ref 107), (1, .int ofLot), (2, .int day), (3, .int known)], [], h) _
                refine te_goto rfl ?_
                refine te_lv [(0, .ref 107), (1, .int ofLot), (2, .int day), (3, .int known), (4, .int v1_5), (5, .int z20)] rfl rfl ⟨rfl, rfl, rfl, rfl, rfl, rfl, trivial⟩ ?_
                exact ih1 v1_5 z20 (by omega) (by omega) (by omega) (by omega) (by omega)
              · refine te_aload_n (p2 := 66) rfl rfl rfl ?_
                refine tg_r (p2 := 69) (i := 91) (r := 110) rfl rfl hI rfl rfl rfl ?_
                refine te_iload (p2 := 71) rfl rfl rfl ?_
                refine tl_e (p2 := 72) (i := 94) (n := 24) (t := 0) (Or.inl rfl) rfl rfl hI rfl rfl (by omega) (by omega) e10 ?_
                refine te_aload_n (p2 := 73) rfl rfl rfl ?_
                refine tg_r (p2 := 76) (i := 91) (r := 110) rfl rfl hI rfl rfl rfl ?_
                refine te_iload (p2 := 78) rfl rfl rfl ?_
                refine tl_i (p2 := 79) (i := 94) (n := 24) rfl rfl hI rfl rfl rfl rfl (by omega) (by omega) (fun y22 a22 b22 g22 e22 => ?_)
                refine tb_lt (p2 := 82) rfl rfl rfl rfl (fun c23 => ?_) (fun c23 => ?_)
                · refine ar_inc (p2 := 89) (x := v1_5) rfl rfl (by decide) rfl (by decide) rfl (by omega) (by omega) (fun z24 e24 f24 => ?_)
                  show EvP _ _ _ (89, [(5, .int z24), (6, .int 1), (0, .ref 107), (1, .int ofLot), (2, .int day), (3, .int known), (4, .int v1_4)], [], h) _
                  refine te_goto rfl ?_
                  refine te_lv [(0, .ref 107), (1, .int ofLot), (2, .int day), (3, .int known), (4, .int v1_4), (5, .int z24)] rfl rfl ⟨rfl, rfl, rfl, rfl, rfl, rfl, trivial⟩ ?_
                  exact ih1 v1_4 z24 (by omega) (by omega) (by omega) (by omega) (by omega)
                · refine te_iload (p2 := 84) rfl rfl rfl ?_
                  refine te_istore (p2 := 86) (lv2 := [(4, .int v1_5), (6, .int 1), (0, .ref 107), (1, .int ofLot), (2, .int day), (3, .int known), (5, .int v1_5)]) rfl rfl (by decide) rfl ?_
                  refine ar_inc (p2 := 89) (x := v1_5) rfl rfl (by decide) rfl (by decide) rfl (by omega) (by omega) (fun z25 e25 f25 => ?_)
                  show EvP _ _ _ (89, [(5, .int z25), (4, .int v1_5), (6, .int 1), (0, .ref 107), (1, .int ofLot), (2, .int day), (3, .int known)], [], h) _
                  refine te_goto rfl ?_
                  refine te_lv [(0, .ref 107), (1, .int ofLot), (2, .int day), (3, .int known), (4, .int v1_5), (5, .int z25)] rfl rfl ⟨rfl, rfl, rfl, rfl, rfl, rfl, trivial⟩ ?_
                  exact ih1 v1_5 z25 (by omega) (by omega) (by omega) (by omega) (by omega)
  refine te_lv [(0, .ref 107), (1, .int ofLot), (2, .int day), (3, .int known), (4, .int (-1)), (5, .int 0)] rfl rfl ⟨rfl, rfl, rfl, rfl, rfl, rfl, trivial⟩ ?_
  exact lp1 25 (-1) 0 (by decide) (by decide) (by decide) (by decide) (by have cc0 := (show Int32.toInt (-1) = (-1) from rfl); have cc1 := (show Int32.toInt 0 = 0 from rfl); omega)
abbrev F_X11_owner : List (Nat × Nat × Nat) := []
set_option maxRecDepth 20000 in
set_option maxHeartbeats 4000000 in
theorem t_X11_owner {x1 : Int32} {x2 : Int32} {x3 : Int32} {h : im_H} (hI : tI h)  : CaP 3 98 [.ref 16, .int x1, .int x2, .int x3] h (mI h F_X11_owner (fun _ => True)) := by
  refine cap_of (d := 2) (M := mX11_owner) rfl (Nat.le_of_ble_eq_true rfl) ?_
  show EvP im_K0 2 mX11_owner (0, [(0, .ref 16), (1, .int x1), (2, .int x2), (3, .int x3)], [], h) _
  have f0 : fr F_X11_owner h h := fr_rf
  refine te_iload_n (p2 := 1) rfl rfl rfl ?_
  refine te_bipush (p2 := 3) (x := 12) rfl rfl (by decide) ?_
  refine cS_pI (p2 := 6) rfl rfl rfl rfl (t_X11_within (n := x1) (b := 12) hI ) (by decide) (fun y1 r1 => ?_)
  rcases r1 with ⟨w1, c1⟩ | ⟨w1, c1⟩
  · subst w1
    have cc1_1 := (show Int32.toInt 12 = 12 from rfl)
    refine tz_ne (p2 := 9) rfl rfl (show Int32.toInt 1 = 1 from rfl) (fun c2 => ?_) (fun c2 => absurd c2 (by omega))
    refine te_iload_n (p2 := 13) rfl rfl rfl ?_
    refine te_iconst (p2 := 14) (x := 0) rfl rfl (by decide) ?_
    refine te_sipush (p2 := 17) (x := 2000) rfl rfl (by decide) ?_
    refine cS_pI (p2 := 20) rfl rfl rfl rfl (t_X11_between (n := x2) (a := 0) (b := 2000) hI ) (by decide) (fun y3 r3 => ?_)
    rcases r3 with ⟨w3, c3⟩ | ⟨w3, c3⟩
    · subst w3
      have cc3_1 := (show Int32.toInt 0 = 0 from rfl)
      have cc3_2 := (show Int32.toInt 2000 = 2000 from rfl)
      refine tz_eq (p2 := 23) rfl rfl (show Int32.toInt 1 = 1 from rfl) (fun c4 => absurd c4 (by omega)) (fun c4 => ?_)
      refine te_iload_n (p2 := 24) rfl rfl rfl ?_
      refine te_iconst (p2 := 25) (x := 0) rfl rfl (by decide) ?_
      refine te_aload_n (p2 := 26) rfl rfl rfl ?_
      refine tg_r (p2 := 29) (i := 0) (r := 39) rfl rfl hI rfl rfl rfl ?_
      refine tg_i (p2 := 32) (i := 23) rfl rfl hI rfl rfl rfl (fun y5 a5 b5 e5 => ?_)
      refine cS_pI (p2 := 35) rfl rfl rfl rfl (t_X11_between (n := x3) (a := 0) (b := y5) hI ) (by decide) (fun y6 r6 => ?_)
      rcases r6 with ⟨w6, c6⟩ | ⟨w6, c6⟩
      · subst w6
        have cc6_1 := (show Int32.toInt 0 = 0 from rfl)
        refine tz_ne (p2 := 38) rfl rfl (show Int32.toInt 1 = 1 from rfl) (fun c7 => ?_) (fun c7 => absurd c7 (by omega))
        refine te_aload_n (p2 := 42) rfl rfl rfl ?_
        refine tg_r (p2 := 45) (i := 0) (r := 107) rfl rfl hI rfl rfl rfl ?_
        refine te_iload_n (p2 := 46) rfl rfl rfl ?_
        refine te_iload_n (p2 := 47) rfl rfl rfl ?_
        refine te_iload_n (p2 := 48) rfl rfl rfl ?_
        refine cV_pI (p2 := 51) (i := 91) rfl rfl rfl rfl hI rfl rfl rfl (t_X2_ownerOf (ofLot := x1) (day := x2) (known := x3) hI ) (by decide) (fun y8 r8 => ?_)
        exact te_iret rfl rfl ⟨hI, f0, _, rfl, trivial⟩
      · subst w6
        have cc6_1 := (show Int32.toInt 0 = 0 from rfl)
        refine tz_ne (p2 := 38) rfl rfl (show Int32.toInt 0 = 0 from rfl) (fun c9 => absurd c9 (by omega)) (fun c9 => ?_)
        refine te_bipush (p2 := 40) (x := (-2)) rfl rfl (by decide) ?_
        exact te_iret rfl rfl ⟨hI, f0, _, rfl, trivial⟩
    · subst w3
      have cc3_1 := (show Int32.toInt 0 = 0 from rfl)
      have cc3_2 := (show Int32.toInt 2000 = 2000 from rfl)
      refine tz_eq (p2 := 23) rfl rfl (show Int32.toInt 0 = 0 from rfl) (fun c10 => ?_) (fun c10 => absurd c10 (by omega))
      refine te_bipush (p2 := 40) (x := (-2)) rfl rfl (by decide) ?_
      exact te_iret rfl rfl ⟨hI, f0, _, rfl, trivial⟩
  · subst w1
    have cc1_1 := (show Int32.toInt 12 = 12 from rfl)
    refine tz_ne (p2 := 9) rfl rfl (show Int32.toInt 0 = 0 from rfl) (fun c11 => absurd c11 (by omega)) (fun c11 => ?_)
    refine te_bipush (p2 := 11) (x := (-5)) rfl rfl (by decide) ?_
    exact te_iret rfl rfl ⟨hI, f0, _, rfl, trivial⟩
abbrev F_X11_heirs : List (Nat × Nat × Nat) := []
set_option maxRecDepth 20000 in
set_option maxHeartbeats 4000000 in
theorem t_X11_heirs {x1 : Int32} {x2 : Int32} {x3 : Int32} {h : im_H} (hI : tI h)  : CaP 4 99 [.ref 16, .int x1, .int x2, .int x3] h (mI h F_X11_heirs (fun _ => True)) := by
  refine cap_of (d := 3) (M := mX11_heirs) rfl (Nat.le_of_ble_eq_true rfl) ?_
  show EvP im_K0 3 mX11_heirs (0, [(0, .ref 16), (1, .int x1), (2, .int x2), (3, .int x3)], [], h) _
  have f0 : fr F_X11_heirs h h := fr_rf
  refine te_aload_n (p2 := 1) rfl rfl rfl ?_
  refine te_iload_n (p2 := 2) rfl rfl rfl ?_
  refine te_iload_n (p2 := 3) rfl rfl rfl ?_
  refine te_iload_n (p2 := 4) rfl rfl rfl ?_
  refine cV_mI (p2 := 7) (i := 0) rfl rfl rfl rfl hI rfl rfl rfl (t_X11_owner (x1 := x1) (x2 := x2) (x3 := x3) hI ) (by decide) (fun y1 h1 I1 g1 r1 => ?_)
  have f1 := fr_tr (F1 := F_X11_owner) (F := F_X11_heirs) f0 g1 (by decide)
  refine te_istore (p2 := 9) (lv2 := [(4, .int y1), (0, .ref 16), (1, .int x1), (2, .int x2), (3, .int x3)]) rfl rfl (by decide) rfl ?_
  refine te_iload (p2 := 11) rfl rfl rfl ?_
  refine te_aload_n (p2 := 12) rfl rfl rfl ?_
  refine tg_r (p2 := 15) (i := 0) (r := 17) rfl rfl I1 rfl rfl rfl ?_
  refine tg_i (p2 := 18) (i := 1) rfl rfl I1 rfl rfl rfl (fun y2 a2 b2 e2 => ?_)
  refine cS_pI (p2 := 21) rfl rfl rfl rfl (t_X11_within (n := y1) (b := y2) I1 ) (by decide) (fun y3 r3 => ?_)
  rcases r3 with ⟨w3, c3⟩ | ⟨w3, c3⟩
  · subst w3
    refine tz_ne (p2 := 24) rfl rfl (show Int32.toInt 1 = 1 from rfl) (fun c4 => ?_) (fun c4 => absurd c4 (by omega))
    refine te_aload_n (p2 := 28) rfl rfl rfl ?_
    refine tg_r (p2 := 31) (i := 0) (r := 39) rfl rfl I1 rfl rfl rfl ?_
    refine tg_r (p2 := 34) (i := 23) (r := 46) rfl rfl I1 rfl rfl rfl ?_
    refine te_iload (p2 := 36) rfl rfl rfl ?_
    refine tl_b (p2 := 37) (i := 30) (n := 24) rfl rfl I1 rfl rfl rfl rfl (by omega) (by omega) (fun y5 a5 e5 => ?_)
    refine tz_eq (p2 := 40) rfl rfl rfl (fun c6 => ?_) (fun c6 => ?_)
    · refine te_iconst (p2 := 57) (x := 1) rfl rfl (by decide) ?_
      refine te_iload (p2 := 59) rfl rfl rfl ?_
      refine au_shl (p2 := 60) rfl rfl (fun z7 e7 => ?_)
      exact te_iret rfl rfl ⟨I1, f1, _, rfl, trivial⟩
    · refine te_aload_n (p2 := 41) rfl rfl rfl ?_
      refine tg_r (p2 := 44) (i := 0) (r := 17) rfl rfl I1 rfl rfl rfl ?_
      refine te_aload_n (p2 := 45) rfl rfl rfl ?_
      refine tg_r (p2 := 48) (i := 0) (r := 39) rfl rfl I1 rfl rfl rfl ?_
      refine te_iload (p2 := 50) rfl rfl rfl ?_
      refine cV_pI (p2 := 53) (i := 1) rfl rfl rfl rfl I1 rfl rfl rfl (t_X0_livingKin (s := 23) (p := y1) I1 (by decide) (by omega) (by omega)) (by decide) (fun y8 r8 => ?_)
      refine te_goto rfl ?_
      exact te_iret rfl rfl ⟨I1, f1, _, rfl, trivial⟩
  · subst w3
    refine tz_ne (p2 := 24) rfl rfl (show Int32.toInt 0 = 0 from rfl) (fun c9 => absurd c9 (by omega)) (fun c9 => ?_)
    refine te_iload (p2 := 26) rfl rfl rfl ?_
    exact te_iret rfl rfl ⟨I1, f1, _, rfl, trivial⟩
set_option maxRecDepth 20000 in
set_option maxHeartbeats 4000000 in
theorem t_X4_isOver {raid : Int32} {c : Int32} {h : im_H} (hI : tI h) (p_raid0 : 0 ≤ raid.toInt) (p_raid1 : raid.toInt ≤ 7) : CaP 1 30 [.ref 93, .int raid, .int c] h (pI h (fun y => 0 ≤ y.toInt ∧ y.toInt ≤ 1)) := by
  refine cap_of (d := 0) (M := mX4_isOver) rfl (Nat.le_of_ble_eq_true rfl) ?_
  show EvP im_K0 0 mX4_isOver (0, [(0, .ref 93), (1, .int raid), (2, .int c)], [], h) _
  refine te_iconst (p2 := 1) (x := 0) rfl rfl (by decide) ?_
  refine te_istore_n (p2 := 2) (lv2 := [(3, .int 0), (0, .ref 93), (1, .int raid), (2, .int c)]) rfl rfl (by decide) rfl ?_
  have lp1 : ∀ (n1 : Nat) (v1_3 : Int32) , 0 ≤ v1_3.toInt → v1_3.toInt ≤ 10 → 10 - v1_3.toInt < (n1 : Int) → EvP im_K0 0 mX4_isOver (2, [(0, .ref 93), (1, .int raid), (2, .int c), (3, .int v1_3)], [], h) (pI h (fun y => 0 ≤ y.toInt ∧ y.toInt ≤ 1)) := by
    intro n1
    induction n1 with
    | zero => intro v1_3 a1_3 b1_3 m1; exfalso; omega
    | succ n1 ih1 =>
      intro v1_3 a1_3 b1_3 m1
      refine te_iload_n (p2 := 3) rfl rfl rfl ?_
      refine te_aload_n (p2 := 4) rfl rfl rfl ?_
      refine tg_r (p2 := 7) (i := 77) (r := 103) rfl rfl hI rfl rfl rfl ?_
      refine te_iload_n (p2 := 8) rfl rfl rfl ?_
      refine tl_i (p2 := 9) (i := 87) (n := 8) rfl rfl hI rfl rfl rfl rfl (by omega) (by omega) (fun y2 a2 b2 g2 e2 => ?_)
      refine tb_ge (p2 := 12) rfl rfl rfl rfl (fun c3 => ?_) (fun c3 => ?_)
      · refine te_iconst (p2 := 33) (x := 0) rfl rfl (by decide) ?_
        exact te_zret rfl rfl (by decide) ⟨rfl, _, rfl, by decide, by decide⟩
      · refine te_aload_n (p2 := 13) rfl rfl rfl ?_
        refine tg_r (p2 := 16) (i := 77) (r := 94) rfl rfl hI rfl rfl rfl ?_
        refine te_iload_n (p2 := 17) rfl rfl rfl ?_
        refine tl_f (p2 := 18) (i := 78) (n := 8) (c0 := 79) (sp := 1) rfl rfl hI rfl rfl (by decide) rq_78 (by omega) (by omega) (fun o4 w4 => ?_)
        have q4 : o4 = 79 ∨ o4 = 80 ∨ o4 = 81 ∨ o4 = 82 ∨ o4 = 83 ∨ o4 = 84 ∨ o4 = 85 ∨ o4 = 86 := by omega
        refine te_iload_n (p2 := 19) rfl rfl rfl ?_
        refine tl_i (p2 := 20) (i := o4) (n := 10) rfl rfl hI rfl (by rcases q4 with rfl | rfl | rfl | rfl | rfl | rfl | rfl | rfl <;> rfl) (by rcases q4 with rfl | rfl | rfl | rfl | rfl | rfl | rfl | rfl <;> rfl) rfl (by omega) (by omega) (fun y5 a5 b5 g5 e5 => ?_)
        refine te_iload_n (p2 := 21) rfl rfl rfl ?_
        refine tb_ne (p2 := 24) rfl rfl rfl rfl (fun c6 => ?_) (fun c6 => ?_)
        · refine ar_inc (p2 := 29) (x := v1_3) rfl rfl (by decide) rfl (by decide) rfl (by omega) (by omega) (fun z7 e7 f7 => ?_)
          show EvP _ _ _ (29, [(3, .int z7), (0, .ref 93), (1, .int raid), (2, .int c)], [], h) _
          refine te_goto rfl ?_
          refine te_lv [(0, .ref 93), (1, .int raid), (2, .int c), (3, .int z7)] rfl rfl ⟨rfl, rfl, rfl, rfl, trivial⟩ ?_
          exact ih1 z7 (by omega) (by omega) (by omega)
        · refine te_iconst (p2 := 25) (x := 1) rfl rfl (by decide) ?_
          exact te_zret rfl rfl (by decide) ⟨rfl, _, rfl, by decide, by decide⟩
  refine te_lv [(0, .ref 93), (1, .int raid), (2, .int c), (3, .int 0)] rfl rfl ⟨rfl, rfl, rfl, rfl, trivial⟩ ?_
  exact lp1 11 0 (by decide) (by decide) (by have cc0 := (show Int32.toInt 0 = 0 from rfl); omega)
set_option maxRecDepth 20000 in
set_option maxHeartbeats 4000000 in
theorem t_X4_leftOver {c : Int32} {h : im_H} (hI : tI h)  : CaP 2 31 [.ref 93, .int c] h (pI h (fun _ => True)) := by
  refine cap_of (d := 1) (M := mX4_leftOver) rfl (Nat.le_of_ble_eq_true rfl) ?_
  show EvP im_K0 1 mX4_leftOver (0, [(0, .ref 93), (1, .int c)], [], h) _
  refine te_iconst (p2 := 1) (x := 0) rfl rfl (by decide) ?_
  refine te_istore_n (p2 := 2) (lv2 := [(2, .int 0), (0, .ref 93), (1, .int c)]) rfl rfl (by decide) rfl ?_
  refine te_iconst (p2 := 3) (x := 0) rfl rfl (by decide) ?_
  refine te_istore_n (p2 := 4) (lv2 := [(3, .int 0), (2, .int 0), (0, .ref 93), (1, .int c)]) rfl rfl (by decide) rfl ?_
  have lp1 : ∀ (n1 : Nat) (v1_2 v1_3 : Int32) , 0 ≤ v1_3.toInt → v1_3.toInt ≤ 8 → 8 - v1_3.toInt < (n1 : Int) → EvP im_K0 1 mX4_leftOver (4, [(0, .ref 93), (1, .int c), (2, .int v1_2), (3, .int v1_3)], [], h) (pI h (fun _ => True)) := by
    intro n1
    induction n1 with
    | zero => intro v1_2 v1_3 a1_3 b1_3 m1; exfalso; omega
    | succ n1 ih1 =>
      intro v1_2 v1_3 a1_3 b1_3 m1
      refine te_iload_n (p2 := 5) rfl rfl rfl ?_
      refine te_aload_n (p2 := 6) rfl rfl rfl ?_
      refine tg_i (p2 := 9) (i := 77) rfl rfl hI rfl rfl rfl (fun y2 a2 b2 e2 => ?_)
      refine tb_ge (p2 := 12) rfl rfl rfl rfl (fun c3 => ?_) (fun c3 => ?_)
      · refine te_iload_n (p2 := 41) rfl rfl rfl ?_
        exact te_iret rfl rfl ⟨rfl, _, rfl, trivial⟩
      · refine te_iload_n (p2 := 13) rfl rfl rfl ?_
        refine te_aload_n (p2 := 14) rfl rfl rfl ?_
        refine te_iload_n (p2 := 15) rfl rfl rfl ?_
        refine te_iload_n (p2 := 16) rfl rfl rfl ?_
        refine cV_pI (p2 := 19) (i := 77) rfl rfl rfl rfl hI rfl rfl rfl (t_X4_isOver (raid := v1_3) (c := c) hI (by omega) (by omega)) (by decide) (fun y4 r4 => ?_)
        obtain ⟨a4, b4⟩ := r4
        refine tz_eq (p2 := 22) rfl rfl rfl (fun c5 => ?_) (fun c5 => ?_)
        · refine te_iconst (p2 := 32) (x := 0) rfl rfl (by decide) ?_
          have n6_v1_2 := i32_lo v1_2
          have o6_v1_2 := i32_hi v1_2
          refine ar_add (p2 := 33) rfl rfl rfl (show Int32.toInt 0 = 0 from rfl) (by omega) (by omega) (fun z6 e6 f6 => ?_)
          refine te_istore_n (p2 := 34) (lv2 := [(2, .int z6), (0, .ref 93), (1, .int c), (3, .int v1_3)]) rfl rfl (by decide) rfl ?_
          refine ar_inc (p2 := 37) (x := v1_3) rfl rfl (by decide) rfl (by decide) rfl (by omega) (by omega) (fun z7 e7 f7 => ?_)
          show EvP _ _ _ (37, [(3, .int z7), (2, .int z6), (0, .ref 93), (1, .int c)], [], h) _
          refine te_goto rfl ?_
          refine te_lv [(0, .ref 93), (1, .int c), (2, .int z6), (3, .int z7)] rfl rfl ⟨rfl, rfl, rfl, rfl, trivial⟩ ?_
          exact ih1 z6 z7 (by omega) (by omega) (by omega)
        · refine te_aload_n (p2 := 23) rfl rfl rfl ?_
          refine tg_r (p2 := 26) (i := 77) (r := 104) rfl rfl hI rfl rfl rfl ?_
          refine te_iload_n (p2 := 27) rfl rfl rfl ?_
          refine tl_i (p2 := 28) (i := 88) (n := 8) rfl rfl hI rfl rfl rfl rfl (by omega) (by omega) (fun y8 a8 b8 g8 e8 => ?_)
          refine te_goto rfl ?_
          refine au_add (p2 := 33) rfl rfl (fun z9 e9 => ?_)
          refine te_istore_n (p2 := 34) (lv2 := [(2, .int z9), (0, .ref 93), (1, .int c), (3, .int v1_3)]) rfl rfl (by decide) rfl ?_
          refine ar_inc (p2 := 37) (x := v1_3) rfl rfl (by decide) rfl (by decide) rfl (by omega) (by omega) (fun z10 e10 f10 => ?_)
          show EvP _ _ _ (37, [(3, .int z10), (2, .int z9), (0, .ref 93), (1, .int c)], [], h) _
          refine te_goto rfl ?_
          refine te_lv [(0, .ref 93), (1, .int c), (2, .int z9), (3, .int z10)] rfl rfl ⟨rfl, rfl, rfl, rfl, trivial⟩ ?_
          exact ih1 z9 z10 (by omega) (by omega) (by omega)
  refine te_lv [(0, .ref 93), (1, .int c), (2, .int 0), (3, .int 0)] rfl rfl ⟨rfl, rfl, rfl, rfl, trivial⟩ ?_
  exact lp1 9 0 0 (by decide) (by decide) (by have cc0 := (show Int32.toInt 0 = 0 from rfl); omega)
abbrev F_X4_find : List (Nat × Nat × Nat) := [(88, 0, 7), (89, 0, 7), (90, 0, 99)]
set_option maxRecDepth 20000 in
set_option maxHeartbeats 4000000 in
theorem t_X4_find {c : Int32} {shells : Int32} {h : im_H} (hI : tI h) (p_c0 : 0 ≤ c.toInt) (p_c1 : c.toInt ≤ 99) (p_shells0 : 0 ≤ shells.toInt) (p_shells1 : shells.toInt ≤ 9) : CaP 2 32 [.ref 93, .int c, .int shells] h (mV h F_X4_find) := by
  refine cap_of (d := 1) (M := mX4_find) rfl (Nat.le_of_ble_eq_true rfl) ?_
  show EvP im_K0 1 mX4_find (0, [(0, .ref 93), (1, .int c), (2, .int shells)], [], h) _
  have f0 : fr F_X4_find h h := fr_rf
  refine te_iload_n (p2 := 1) rfl rfl rfl ?_
  refine te_istore_n (p2 := 2) (lv2 := [(3, .int shells), (0, .ref 93), (1, .int c), (2, .int shells)]) rfl rfl (by decide) rfl ?_
  refine te_aload_n (p2 := 3) rfl rfl rfl ?_
  refine tg_r (p2 := 6) (i := 77) (r := 106) rfl rfl hI rfl rfl rfl ?_
  refine te_iload_n (p2 := 7) rfl rfl rfl ?_
  refine te_iconst (p2 := 8) (x := 1) rfl rfl (by decide) ?_
  refine ts_b (p2 := 9) (i := 90) (n := 100) rfl rfl hI rfl rfl rfl rfl (by omega) (by omega) (by decide) (by decide) rfl (fun h1 I1 u1 => ?_)
  have f1 := fr_st (F := F_X4_find) 2 f0 u1 rfl (by omega) (by omega)
  refine te_iconst (p2 := 10) (x := 0) rfl rfl (by decide) ?_
  refine te_istore (p2 := 12) (lv2 := [(4, .int 0), (3, .int shells), (0, .ref 93), (1, .int c), (2, .int shells)]) rfl rfl (by decide) rfl ?_
  have lp2 : ∀ (n2 : Nat) (v2_3 v2_4 : Int32) (h2 : im_H), tI h2 → fr F_X4_find h h2 → 0 ≤ v2_3.toInt → v2_3.toInt ≤ 9 → 0 ≤ v2_4.toInt → v2_4.toInt ≤ 8 → 8 - v2_4.toInt < (n2 : Int) → EvP im_K0 1 mX4_find (12, [(0, .ref 93), (1, .int c), (2, .int shells), (3, .int v2_3), (4, .int v2_4)], [], h2) (mV h F_X4_find) := by
    intro n2
    induction n2 with
    | zero => intro v2_3 v2_4 h2 I2 f2 a2_3 b2_3 a2_4 b2_4 m2; exfalso; omega
    | succ n2 ih2 =>
      intro v2_3 v2_4 h2 I2 f2 a2_3 b2_3 a2_4 b2_4 m2
      refine te_iload (p2 := 14) rfl rfl rfl ?_
      refine te_aload_n (p2 := 15) rfl rfl rfl ?_
      refine tg_i (p2 := 18) (i := 77) rfl rfl I2 rfl rfl rfl (fun y3 a3 b3 e3 => ?_)
      refine tb_ge (p2 := 21) rfl rfl rfl rfl (fun c4 => ?_) (fun c4 => ?_)
      · exact te_vret rfl rfl ⟨I2, f2, rfl⟩
      · refine te_aload_n (p2 := 22) rfl rfl rfl ?_
        refine te_iload (p2 := 24) rfl rfl rfl ?_
        refine te_iload_n (p2 := 25) rfl rfl rfl ?_
        refine cV_pI (p2 := 28) (i := 77) rfl rfl rfl rfl I2 rfl rfl rfl (t_X4_isOver (raid := v2_4) (c := c) I2 (by omega) (by omega)) (by decide) (fun y5 r5 => ?_)
        obtain ⟨a5, b5⟩ := r5
        refine tz_eq (p2 := 31) rfl rfl rfl (fun c6 => ?_) (fun c6 => ?_)
        · refine ar_inc (p2 := 75) (x := v2_4) rfl rfl (by decide) rfl (by decide) rfl (by omega) (by omega) (fun z7 e7 f7 => ?_)
          show EvP _ _ _ (75, [(4, .int z7), (0, .ref 93), (1, .int c), (2, .int shells), (3, .int v2_3)], [], h2) _
          refine te_goto rfl ?_
          refine te_lv [(0, .ref 93), (1, .int c), (2, .int shells), (3, .int v2_3), (4, .int z7)] rfl rfl ⟨rfl, rfl, rfl, rfl, rfl, trivial⟩ ?_
          exact ih2 v2_3 z7 h2 I2 f2 (by omega) (by omega) (by omega) (by omega) (by omega)
        · refine te_iload_n (p2 := 32) rfl rfl rfl ?_
          refine te_aload_n (p2 := 33) rfl rfl rfl ?_
          refine tg_r (p2 := 36) (i := 77) (r := 104) rfl rfl I2 rfl rfl rfl ?_
          refine te_iload (p2 := 38) rfl rfl rfl ?_
          refine tl_i (p2 := 39) (i := 88) (n := 8) rfl rfl I2 rfl rfl rfl rfl (by omega) (by omega) (fun y8 a8 b8 g8 e8 => ?_)
          refine ar_min (p2 := 42) rfl rfl rfl rfl rfl (fun z9 e9 f9 => ?_)
          refine te_istore (p2 := 44) (lv2 := [(5, .int z9), (0, .ref 93), (1, .int c), (2, .int shells), (3, .int v2_3), (4, .int v2_4)]) rfl rfl (by decide) rfl ?_
          refine te_aload_n (p2 := 45) rfl rfl rfl ?_
          refine tg_r (p2 := 48) (i := 77) (r := 104) rfl rfl I2 rfl rfl rfl ?_
          refine te_iload (p2 := 50) rfl rfl rfl ?_
          refine te_dup2 (p2 := 51) rfl rfl ⟨rfl, rfl⟩ ?_
          refine tl_e (p2 := 52) (i := 88) (n := 8) (t := 0) (Or.inl rfl) rfl rfl I2 rfl rfl (by omega) (by omega) e8 ?_
          refine te_iload (p2 := 54) rfl rfl rfl ?_
          refine ar_sub (p2 := 55) rfl rfl rfl rfl (by omega) (by omega) (fun z11 e11 f11 => ?_)
          refine ts_i (p2 := 56) (i := 88) (n := 8) rfl rfl I2 rfl rfl rfl rfl (by omega) (by omega) (by omega) (by omega) (by omega) rfl (fun h12 I12 u12 => ?_)
          have f12 := fr_st (F := F_X4_find) 0 f2 u12 rfl (by omega) (by omega)
          refine te_iload_n (p2 := 57) rfl rfl rfl ?_
          refine te_iload (p2 := 59) rfl rfl rfl ?_
          refine ar_sub (p2 := 60) rfl rfl rfl rfl (by omega) (by omega) (fun z13 e13 f13 => ?_)
          refine te_istore_n (p2 := 61) (lv2 := [(3, .int z13), (5, .int z9), (0, .ref 93), (1, .int c), (2, .int shells), (4, .int v2_4)]) rfl rfl (by decide) rfl ?_
          refine te_aload_n (p2 := 62) rfl rfl rfl ?_
          refine tg_r (p2 := 65) (i := 77) (r := 105) rfl rfl I12 rfl rfl rfl ?_
          refine te_iload (p2 := 67) rfl rfl rfl ?_
          refine te_dup2 (p2 := 68) rfl rfl ⟨rfl, rfl⟩ ?_
          refine tl_i (p2 := 69) (i := 89) (n := 8) rfl rfl I12 rfl rfl rfl rfl (by omega) (by omega) (fun y14 a14 b14 g14 e14 => ?_)
          refine te_iconst (p2 := 70) (x := 1) rfl rfl (by decide) ?_
          refine au_sub (p2 := 71) rfl rfl (fun z15 e15 => ?_)
          refine ts_i (p2 := 72) (i := 89) (n := 8) rfl rfl I12 rfl rfl rfl rfl (by omega) (by omega) (i32_lo _) (i32_hi _) (i32_ho _) rfl (fun h16 I16 u16 => ?_)
          have f16 := fr_st (F := F_X4_find) 1 f12 u16 rfl (by omega) (by omega)
          refine ar_inc (p2 := 75) (x := v2_4) rfl rfl (by decide) rfl (by decide) rfl (by omega) (by omega) (fun z17 e17 f17 => ?_)
          show EvP _ _ _ (75, [(4, .int z17), (3, .int z13), (5, .int z9), (0, .ref 93), (1, .int c), (2, .int shells)], [], h16) _
          refine te_goto rfl ?_
          refine te_lv [(0, .ref 93), (1, .int c), (2, .int shells), (3, .int z13), (4, .int z17)] rfl rfl ⟨rfl, rfl, rfl, rfl, rfl, trivial⟩ ?_
          exact ih2 z13 z17 h16 I16 f16 (by omega) (by omega) (by omega) (by omega) (by omega)
  refine te_lv [(0, .ref 93), (1, .int c), (2, .int shells), (3, .int shells), (4, .int 0)] rfl rfl ⟨rfl, rfl, rfl, rfl, rfl, trivial⟩ ?_
  exact lp2 9 shells 0 h1 I1 f1 (by omega) (by omega) (by decide) (by decide) (by have cc0 := (show Int32.toInt 0 = 0 from rfl); omega)
set_option maxRecDepth 20000 in
set_option maxHeartbeats 4000000 in
theorem t_X4_chance {c : Int32} {h : im_H} (hI : tI h) (p_c0 : 0 ≤ c.toInt) (p_c1 : c.toInt ≤ 99) : CaP 2 33 [.ref 93, .int c] h (pI h (fun _ => True)) := by
  refine cap_of (d := 1) (M := mX4_chance) rfl (Nat.le_of_ble_eq_true rfl) ?_
  show EvP im_K0 1 mX4_chance (0, [(0, .ref 93), (1, .int c)], [], h) _
  refine te_aload_n (p2 := 1) rfl rfl rfl ?_
  refine tg_r (p2 := 4) (i := 77) (r := 106) rfl rfl hI rfl rfl rfl ?_
  refine te_iload_n (p2 := 5) rfl rfl rfl ?_
  refine tl_b (p2 := 6) (i := 90) (n := 100) rfl rfl hI rfl rfl rfl rfl (by omega) (by omega) (fun y1 a1 e1 => ?_)
  refine tz_eq (p2 := 9) rfl rfl rfl (fun c2 => ?_) (fun c2 => ?_)
  · refine te_iconst (p2 := 12) (x := 0) rfl rfl (by decide) ?_
    refine te_istore_n (p2 := 13) (lv2 := [(2, .int 0), (0, .ref 93), (1, .int c)]) rfl rfl (by decide) rfl ?_
    refine te_iconst (p2 := 14) (x := 0) rfl rfl (by decide) ?_
    refine te_istore_n (p2 := 15) (lv2 := [(3, .int 0), (2, .int 0), (0, .ref 93), (1, .int c)]) rfl rfl (by decide) rfl ?_
    have lp3 : ∀ (n3 : Nat) (v3_2 v3_3 : Int32) , 0 ≤ v3_3.toInt → v3_3.toInt ≤ 8 → 8 - v3_3.toInt < (n3 : Int) → EvP im_K0 1 mX4_chance (15, [(0, .ref 93), (1, .int c), (2, .int v3_2), (3, .int v3_3)], [], h) (pI h (fun _ => True)) := by
      intro n3
      induction n3 with
      | zero => intro v3_2 v3_3 a3_3 b3_3 m3; exfalso; omega
      | succ n3 ih3 =>
        intro v3_2 v3_3 a3_3 b3_3 m3
        refine te_iload_n (p2 := 16) rfl rfl rfl ?_
        refine te_aload_n (p2 := 17) rfl rfl rfl ?_
        refine tg_i (p2 := 20) (i := 77) rfl rfl hI rfl rfl rfl (fun y4 a4 b4 e4 => ?_)
        refine tb_ge (p2 := 23) rfl rfl rfl rfl (fun c5 => ?_) (fun c5 => ?_)
        · refine te_iload_n (p2 := 68) rfl rfl rfl ?_
          exact te_iret rfl rfl ⟨rfl, _, rfl, trivial⟩
        · refine te_aload_n (p2 := 24) rfl rfl rfl ?_
          refine tg_r (p2 := 27) (i := 77) (r := 105) rfl rfl hI rfl rfl rfl ?_
          refine te_iload_n (p2 := 28) rfl rfl rfl ?_
          refine tl_i (p2 := 29) (i := 89) (n := 8) rfl rfl hI rfl rfl rfl rfl (by omega) (by omega) (fun y6 a6 b6 g6 e6 => ?_)
          refine tz_le (p2 := 32) rfl rfl rfl (fun c7 => ?_) (fun c7 => ?_)
          · refine ar_inc (p2 := 64) (x := v3_3) rfl rfl (by decide) rfl (by decide) rfl (by omega) (by omega) (fun z8 e8 f8 => ?_)
            show EvP _ _ _ (64, [(3, .int z8), (0, .ref 93), (1, .int c), (2, .int v3_2)], [], h) _
            refine te_goto rfl ?_
            refine te_lv [(0, .ref 93), (1, .int c), (2, .int v3_2), (3, .int z8)] rfl rfl ⟨rfl, rfl, rfl, rfl, trivial⟩ ?_
            exact ih3 v3_2 z8 (by omega) (by omega) (by omega)
          · refine te_aload_n (p2 := 33) rfl rfl rfl ?_
            refine te_iload_n (p2 := 34) rfl rfl rfl ?_
            refine te_iload_n (p2 := 35) rfl rfl rfl ?_
            refine cV_pI (p2 := 38) (i := 77) rfl rfl rfl rfl hI rfl rfl rfl (t_X4_isOver (raid := v3_3) (c := c) hI (by omega) (by omega)) (by decide) (fun y9 r9 => ?_)
            obtain ⟨a9, b9⟩ := r9
            refine tz_eq (p2 := 41) rfl rfl rfl (fun c10 => ?_) (fun c10 => ?_)
            · refine ar_inc (p2 := 64) (x := v3_3) rfl rfl (by decide) rfl (by decide) rfl (by omega) (by omega) (fun z11 e11 f11 => ?_)
              show EvP _ _ _ (64, [(3, .int z11), (0, .ref 93), (1, .int c), (2, .int v3_2)], [], h) _
              refine te_goto rfl ?_
              refine te_lv [(0, .ref 93), (1, .int c), (2, .int v3_2), (3, .int z11)] rfl rfl ⟨rfl, rfl, rfl, rfl, trivial⟩ ?_
              exact ih3 v3_2 z11 (by omega) (by omega) (by omega)
            · refine te_iload_n (p2 := 42) rfl rfl rfl ?_
              refine te_aload_n (p2 := 43) rfl rfl rfl ?_
              refine tg_r (p2 := 46) (i := 77) (r := 104) rfl rfl hI rfl rfl rfl ?_
              refine te_iload_n (p2 := 47) rfl rfl rfl ?_
              refine tl_i (p2 := 48) (i := 88) (n := 8) rfl rfl hI rfl rfl rfl rfl (by omega) (by omega) (fun y12 a12 b12 g12 e12 => ?_)
              refine te_sipush (p2 := 51) (x := 2520) rfl rfl (by decide) ?_
              refine te_aload_n (p2 := 52) rfl rfl rfl ?_
              refine tg_r (p2 := 55) (i := 77) (r := 105) rfl rfl hI rfl rfl rfl ?_
              refine te_iload_n (p2 := 56) rfl rfl rfl ?_
              refine tl_e (p2 := 57) (i := 89) (n := 8) (t := 0) (Or.inl rfl) rfl rfl hI rfl rfl (by omega) (by omega) e6 ?_
              refine au_div (p2 := 58) rfl rfl rfl (by omega) (fun z14 e14 => ?_)
              refine au_mul (p2 := 59) rfl rfl (fun z15 e15 => ?_)
              refine au_add (p2 := 60) rfl rfl (fun z16 e16 => ?_)
              refine te_istore_n (p2 := 61) (lv2 := [(2, .int z16), (0, .ref 93), (1, .int c), (3, .int v3_3)]) rfl rfl (by decide) rfl ?_
              refine ar_inc (p2 := 64) (x := v3_3) rfl rfl (by decide) rfl (by decide) rfl (by omega) (by omega) (fun z17 e17 f17 => ?_)
              show EvP _ _ _ (64, [(3, .int z17), (2, .int z16), (0, .ref 93), (1, .int c)], [], h) _
              refine te_goto rfl ?_
              refine te_lv [(0, .ref 93), (1, .int c), (2, .int z16), (3, .int z17)] rfl rfl ⟨rfl, rfl, rfl, rfl, trivial⟩ ?_
              exact ih3 z16 z17 (by omega) (by omega) (by omega)
    refine te_lv [(0, .ref 93), (1, .int c), (2, .int 0), (3, .int 0)] rfl rfl ⟨rfl, rfl, rfl, rfl, trivial⟩ ?_
    exact lp3 9 0 0 (by decide) (by decide) (by have cc0 := (show Int32.toInt 0 = 0 from rfl); omega)
  · refine te_iconst (p2 := 10) (x := 0) rfl rfl (by decide) ?_
    exact te_iret rfl rfl ⟨rfl, _, rfl, trivial⟩
set_option maxRecDepth 20000 in
set_option maxHeartbeats 4000000 in
theorem t_X4_likeliest  {h : im_H} (hI : tI h)  : CaP 3 34 [.ref 93] h (pI h (fun _ => True)) := by
  refine cap_of (d := 2) (M := mX4_likeliest) rfl (Nat.le_of_ble_eq_true rfl) ?_
  show EvP im_K0 2 mX4_likeliest (0, [(0, .ref 93)], [], h) _
  refine te_iconst (p2 := 1) (x := (-1)) rfl rfl (by decide) ?_
  refine te_istore_n (p2 := 2) (lv2 := [(1, .int (-1)), (0, .ref 93)]) rfl rfl (by decide) rfl ?_
  refine te_iconst (p2 := 3) (x := 0) rfl rfl (by decide) ?_
  refine te_istore_n (p2 := 4) (lv2 := [(2, .int 0), (1, .int (-1)), (0, .ref 93)]) rfl rfl (by decide) rfl ?_
  refine te_iconst (p2 := 5) (x := 0) rfl rfl (by decide) ?_
  refine te_istore_n (p2 := 6) (lv2 := [(3, .int 0), (2, .int 0), (1, .int (-1)), (0, .ref 93)]) rfl rfl (by decide) rfl ?_
  have lp1 : ∀ (n1 : Nat) (v1_1 v1_2 v1_3 : Int32) , 0 ≤ v1_3.toInt → v1_3.toInt ≤ 100 → 100 - v1_3.toInt < (n1 : Int) → EvP im_K0 2 mX4_likeliest (6, [(0, .ref 93), (1, .int v1_1), (2, .int v1_2), (3, .int v1_3)], [], h) (pI h (fun _ => True)) := by
    intro n1
    induction n1 with
    | zero => intro v1_1 v1_2 v1_3 a1_3 b1_3 m1; exfalso; omega
    | succ n1 ih1 =>
      intro v1_1 v1_2 v1_3 a1_3 b1_3 m1
      refine te_iload_n (p2 := 7) rfl rfl rfl ?_
      refine te_bipush (p2 := 9) (x := 100) rfl rfl (by decide) ?_
      refine tb_ge (p2 := 12) rfl rfl rfl (show Int32.toInt 100 = 100 from rfl) (fun c2 => ?_) (fun c2 => ?_)
      · refine te_iload_n (p2 := 37) rfl rfl rfl ?_
        exact te_iret rfl rfl ⟨rfl, _, rfl, trivial⟩
      · refine te_aload_n (p2 := 13) rfl rfl rfl ?_
        refine te_iload_n (p2 := 14) rfl rfl rfl ?_
        refine cV_pI (p2 := 17) (i := 77) rfl rfl rfl rfl hI rfl rfl rfl (t_X4_chance (c := v1_3) hI (by omega) (by omega)) (by decide) (fun y3 r3 => ?_)
        refine te_istore (p2 := 19) (lv2 := [(4, .int y3), (0, .ref 93), (1, .int v1_1), (2, .int v1_2), (3, .int v1_3)]) rfl rfl (by decide) rfl ?_
        refine te_iload (p2 := 21) rfl rfl rfl ?_
        refine te_iload_n (p2 := 22) rfl rfl rfl ?_
        refine tb_le (p2 := 25) rfl rfl rfl rfl (fun c4 => ?_) (fun c4 => ?_)
        · refine ar_inc (p2 := 33) (x := v1_3) rfl rfl (by decide) rfl (by decide) rfl (by omega) (by omega) (fun z5 e5 f5 => ?_)
          show EvP _ _ _ (33, [(3, .int z5), (4, .int y3), (0, .ref 93), (1, .int v1_1), (2, .int v1_2)], [], h) _
          refine te_goto rfl ?_
          refine te_lv [(0, .ref 93), (1, .int v1_1), (2, .int v1_2), (3, .int z5)] rfl rfl ⟨rfl, rfl, rfl, rfl, trivial⟩ ?_
          exact ih1 v1_1 v1_2 z5 (by omega) (by omega) (by omega)
        · refine te_iload (p2 := 27) rfl rfl rfl ?_
          refine te_istore_n (p2 := 28) (lv2 := [(2, .int y3), (4, .int y3), (0, .ref 93), (1, .int v1_1), (3, .int v1_3)]) rfl rfl (by decide) rfl ?_
          refine te_iload_n (p2 := 29) rfl rfl rfl ?_
          refine te_istore_n (p2 := 30) (lv2 := [(1, .int v1_3), (2, .int y3), (4, .int y3), (0, .ref 93), (3, .int v1_3)]) rfl rfl (by decide) rfl ?_
          refine ar_inc (p2 := 33) (x := v1_3) rfl rfl (by decide) rfl (by decide) rfl (by omega) (by omega) (fun z6 e6 f6 => ?_)
          show EvP _ _ _ (33, [(3, .int z6), (1, .int v1_3), (2, .int y3), (4, .int y3), (0, .ref 93)], [], h) _
          refine te_goto rfl ?_
          refine te_lv [(0, .ref 93), (1, .int v1_3), (2, .int y3), (3, .int z6)] rfl rfl ⟨rfl, rfl, rfl, rfl, trivial⟩ ?_
          exact ih1 v1_3 y3 z6 (by omega) (by omega) (by omega)
  refine te_lv [(0, .ref 93), (1, .int (-1)), (2, .int 0), (3, .int 0)] rfl rfl ⟨rfl, rfl, rfl, rfl, trivial⟩ ?_
  exact lp1 101 (-1) 0 0 (by decide) (by decide) (by have cc0 := (show Int32.toInt (-1) = (-1) from rfl); have cc1 := (show Int32.toInt 0 = 0 from rfl); omega)
abbrev F_X11_probe : List (Nat × Nat × Nat) := [(88, 0, 7), (89, 0, 7), (90, 0, 99)]
set_option maxRecDepth 20000 in
set_option maxHeartbeats 4000000 in
theorem t_X11_probe {x1 : Int32} {x2 : Int32} {h : im_H} (hI : tI h)  : CaP 4 93 [.ref 16, .int x1, .int x2] h (mI h F_X11_probe (fun _ => True)) := by
  refine cap_of (d := 3) (M := mX11_probe) rfl (Nat.le_of_ble_eq_true rfl) ?_
  show EvP im_K0 3 mX11_probe (0, [(0, .ref 16), (1, .int x1), (2, .int x2)], [], h) _
  have f0 : fr F_X11_probe h h := fr_rf
  refine te_iload_n (p2 := 1) rfl rfl rfl ?_
  refine te_bipush (p2 := 3) (x := 100) rfl rfl (by decide) ?_
  refine cS_pI (p2 := 6) rfl rfl rfl rfl (t_X11_within (n := x1) (b := 100) hI ) (by decide) (fun y1 r1 => ?_)
  rcases r1 with ⟨w1, c1⟩ | ⟨w1, c1⟩
  · subst w1
    have cc1_1 := (show Int32.toInt 100 = 100 from rfl)
    refine tz_ne (p2 := 9) rfl rfl (show Int32.toInt 1 = 1 from rfl) (fun c2 => ?_) (fun c2 => absurd c2 (by omega))
    refine te_iload_n (p2 := 12) rfl rfl rfl ?_
    refine te_iconst (p2 := 13) (x := 0) rfl rfl (by decide) ?_
    refine te_bipush (p2 := 15) (x := 9) rfl rfl (by decide) ?_
    refine cS_pI (p2 := 18) rfl rfl rfl rfl (t_X11_between (n := x2) (a := 0) (b := 9) hI ) (by decide) (fun y3 r3 => ?_)
    rcases r3 with ⟨w3, c3⟩ | ⟨w3, c3⟩
    · subst w3
      have cc3_1 := (show Int32.toInt 0 = 0 from rfl)
      have cc3_2 := (show Int32.toInt 9 = 9 from rfl)
      refine tz_ne (p2 := 21) rfl rfl (show Int32.toInt 1 = 1 from rfl) (fun c4 => ?_) (fun c4 => absurd c4 (by omega))
      refine te_aload_n (p2 := 25) rfl rfl rfl ?_
      refine tg_r (p2 := 28) (i := 0) (r := 93) rfl rfl hI rfl rfl rfl ?_
      refine tg_r (p2 := 31) (i := 77) (r := 106) rfl rfl hI rfl rfl rfl ?_
      refine te_iload_n (p2 := 32) rfl rfl rfl ?_
      refine tl_b (p2 := 33) (i := 90) (n := 100) rfl rfl hI rfl rfl rfl rfl (by omega) (by omega) (fun y5 a5 e5 => ?_)
      refine tz_eq (p2 := 36) rfl rfl rfl (fun c6 => ?_) (fun c6 => ?_)
      · refine te_iload_n (p2 := 40) rfl rfl rfl ?_
        refine te_aload_n (p2 := 41) rfl rfl rfl ?_
        refine tg_r (p2 := 44) (i := 0) (r := 93) rfl rfl hI rfl rfl rfl ?_
        refine te_iload_n (p2 := 45) rfl rfl rfl ?_
        refine cV_pI (p2 := 48) (i := 77) rfl rfl rfl rfl hI rfl rfl rfl (t_X4_leftOver (c := x1) hI ) (by decide) (fun y7 r7 => ?_)
        refine tb_le (p2 := 51) rfl rfl rfl rfl (fun c8 => ?_) (fun c8 => ?_)
        · refine te_aload_n (p2 := 55) rfl rfl rfl ?_
          refine tg_r (p2 := 58) (i := 0) (r := 93) rfl rfl hI rfl rfl rfl ?_
          refine te_iload_n (p2 := 59) rfl rfl rfl ?_
          refine te_iload_n (p2 := 60) rfl rfl rfl ?_
          refine cV_mV (p2 := 63) (i := 77) rfl rfl rfl rfl hI rfl rfl rfl (t_X4_find (c := x1) (shells := x2) hI (by omega) (by omega) (by omega) (by omega)) (by decide) (fun h9 I9 g9 => ?_)
          have f9 := fr_tr (F1 := F_X4_find) (F := F_X11_probe) f0 g9 (by decide)
          refine te_aload_n (p2 := 64) rfl rfl rfl ?_
          refine tg_r (p2 := 67) (i := 0) (r := 93) rfl rfl I9 rfl rfl rfl ?_
          refine te_iload_n (p2 := 68) rfl rfl rfl ?_
          refine cV_pI (p2 := 71) (i := 77) rfl rfl rfl rfl I9 rfl rfl rfl (t_X4_leftOver (c := x1) I9 ) (by decide) (fun y10 r10 => ?_)
          exact te_iret rfl rfl ⟨I9, f9, _, rfl, trivial⟩
        · refine te_bipush (p2 := 53) (x := (-6)) rfl rfl (by decide) ?_
          exact te_iret rfl rfl ⟨hI, f0, _, rfl, trivial⟩
      · refine te_bipush (p2 := 38) (x := (-3)) rfl rfl (by decide) ?_
        exact te_iret rfl rfl ⟨hI, f0, _, rfl, trivial⟩
    · subst w3
      have cc3_1 := (show Int32.toInt 0 = 0 from rfl)
      have cc3_2 := (show Int32.toInt 9 = 9 from rfl)
      refine tz_ne (p2 := 21) rfl rfl (show Int32.toInt 0 = 0 from rfl) (fun c11 => absurd c11 (by omega)) (fun c11 => ?_)
      refine te_bipush (p2 := 23) (x := (-2)) rfl rfl (by decide) ?_
      exact te_iret rfl rfl ⟨hI, f0, _, rfl, trivial⟩
  · subst w1
    have cc1_1 := (show Int32.toInt 100 = 100 from rfl)
    refine tz_ne (p2 := 9) rfl rfl (show Int32.toInt 0 = 0 from rfl) (fun c12 => absurd c12 (by omega)) (fun c12 => ?_)
    refine te_iconst (p2 := 10) (x := (-1)) rfl rfl (by decide) ?_
    exact te_iret rfl rfl ⟨hI, f0, _, rfl, trivial⟩
abbrev F_X11_likely : List (Nat × Nat × Nat) := []
set_option maxRecDepth 20000 in
set_option maxHeartbeats 4000000 in
theorem t_X11_likely {x1 : Int32} {x2 : Int32} {h : im_H} (hI : tI h)  : CaP 4 94 [.ref 16, .int x1, .int x2] h (mL h F_X11_likely) := by
  refine cap_of (d := 3) (M := mX11_likely) rfl (Nat.le_of_ble_eq_true rfl) ?_
  show EvP im_K0 3 mX11_likely (0, [(0, .ref 16), (1, .int x1), (2, .int x2)], [], h) _
  have f0 : fr F_X11_likely h h := fr_rf
  refine te_iload_n (p2 := 1) rfl rfl rfl ?_
  refine te_bipush (p2 := 3) (x := 100) rfl rfl (by decide) ?_
  refine cS_pI (p2 := 6) rfl rfl rfl rfl (t_X11_within (n := x1) (b := 100) hI ) (by decide) (fun y1 r1 => ?_)
  rcases r1 with ⟨w1, c1⟩ | ⟨w1, c1⟩
  · subst w1
    have cc1_1 := (show Int32.toInt 100 = 100 from rfl)
    refine tz_eq (p2 := 9) rfl rfl (show Int32.toInt 1 = 1 from rfl) (fun c2 => absurd c2 (by omega)) (fun c2 => ?_)
    refine te_iload_n (p2 := 10) rfl rfl rfl ?_
    refine te_iconst (p2 := 11) (x := 2) rfl rfl (by decide) ?_
    refine cS_pI (p2 := 14) rfl rfl rfl rfl (t_X11_within (n := x2) (b := 2) hI ) (by decide) (fun y3 r3 => ?_)
    rcases r3 with ⟨w3, c3⟩ | ⟨w3, c3⟩
    · subst w3
      have cc3_1 := (show Int32.toInt 2 = 2 from rfl)
      refine tz_ne (p2 := 17) rfl rfl (show Int32.toInt 1 = 1 from rfl) (fun c4 => ?_) (fun c4 => absurd c4 (by omega))
      refine te_aload_n (p2 := 22) rfl rfl rfl ?_
      refine tg_r (p2 := 25) (i := 0) (r := 93) rfl rfl hI rfl rfl rfl ?_
      refine te_iload_n (p2 := 26) rfl rfl rfl ?_
      refine cV_pI (p2 := 29) (i := 77) rfl rfl rfl rfl hI rfl rfl rfl (t_X4_chance (c := x1) hI (by omega) (by omega)) (by decide) (fun y5 r5 => ?_)
      refine te_istore_n (p2 := 30) (lv2 := [(3, .int y5), (0, .ref 16), (1, .int x1), (2, .int x2)]) rfl rfl (by decide) rfl ?_
      refine te_iload_n (p2 := 31) rfl rfl rfl ?_
      refine te_sipush (p2 := 34) (x := 2520) rfl rfl (by decide) ?_
      refine cS_pI (p2 := 37) rfl rfl rfl rfl (t_X11_greatestDivisor (a := y5) (b := 2520) hI ) (by decide) (fun y6 r6 => ?_)
      refine te_istore (p2 := 39) (lv2 := [(4, .int y6), (3, .int y5), (0, .ref 16), (1, .int x1), (2, .int x2)]) rfl rfl (by decide) rfl ?_
      refine te_iload_n (p2 := 40) rfl rfl rfl ?_
      refine tz_ne (p2 := 43) rfl rfl rfl (fun c7 => ?_) (fun c7 => ?_)
      · refine te_sipush (p2 := 50) (x := 2520) rfl rfl (by decide) ?_
        refine te_iload (p2 := 52) rfl rfl rfl ?_
        refine te_iconst (p2 := 53) (x := 1) rfl rfl (by decide) ?_
        refine ar_max (p2 := 56) rfl rfl rfl rfl (show Int32.toInt 1 = 1 from rfl) (fun z8 e8 f8 => ?_)
        refine au_div (p2 := 57) rfl rfl rfl (by omega) (fun z9 e9 => ?_)
        refine te_i2l (p2 := 58) (z := (Int32.toInt64 z9)) rfl rfl rfl ?_
        exact te_lret rfl rfl ⟨hI, f0, _, rfl⟩
      · refine te_iload_n (p2 := 44) rfl rfl rfl ?_
        refine te_goto rfl ?_
        refine te_iload (p2 := 52) rfl rfl rfl ?_
        refine te_iconst (p2 := 53) (x := 1) rfl rfl (by decide) ?_
        refine ar_max (p2 := 56) rfl rfl rfl rfl (show Int32.toInt 1 = 1 from rfl) (fun z10 e10 f10 => ?_)
        refine au_div (p2 := 57) rfl rfl rfl (by omega) (fun z11 e11 => ?_)
        refine te_i2l (p2 := 58) (z := (Int32.toInt64 z11)) rfl rfl rfl ?_
        exact te_lret rfl rfl ⟨hI, f0, _, rfl⟩
    · subst w3
      have cc3_1 := (show Int32.toInt 2 = 2 from rfl)
      refine tz_ne (p2 := 17) rfl rfl (show Int32.toInt 0 = 0 from rfl) (fun c12 => absurd c12 (by omega)) (fun c12 => ?_)
      refine te_ldc2 (p2 := 20) (x := (-4611686018427387904)) rfl rfl rfl ?_
      exact te_lret rfl rfl ⟨hI, f0, _, rfl⟩
  · subst w1
    have cc1_1 := (show Int32.toInt 100 = 100 from rfl)
    refine tz_eq (p2 := 9) rfl rfl (show Int32.toInt 0 = 0 from rfl) (fun c13 => ?_) (fun c13 => absurd c13 (by omega))
    refine te_ldc2 (p2 := 20) (x := (-4611686018427387904)) rfl rfl rfl ?_
    exact te_lret rfl rfl ⟨hI, f0, _, rfl⟩
abbrev F_X11_next : List (Nat × Nat × Nat) := []
set_option maxRecDepth 20000 in
set_option maxHeartbeats 4000000 in
theorem t_X11_next  {h : im_H} (hI : tI h)  : CaP 4 95 [.ref 16] h (mI h F_X11_next (fun _ => True)) := by
  refine cap_of (d := 3) (M := mX11_next) rfl (Nat.le_of_ble_eq_true rfl) ?_
  show EvP im_K0 3 mX11_next (0, [(0, .ref 16)], [], h) _
  have f0 : fr F_X11_next h h := fr_rf
  refine te_aload_n (p2 := 1) rfl rfl rfl ?_
  refine tg_r (p2 := 4) (i := 0) (r := 93) rfl rfl hI rfl rfl rfl ?_
  refine cV_pI (p2 := 7) (i := 77) rfl rfl rfl rfl hI rfl rfl rfl (t_X4_likeliest  hI ) (by decide) (fun y1 r1 => ?_)
  exact te_iret rfl rfl ⟨hI, f0, _, rfl, trivial⟩
abbrev F_X11_says : List (Nat × Nat × Nat) := [(11, 0, 7)]
set_option maxRecDepth 20000 in
set_option maxHeartbeats 4000000 in
theorem t_X11_says {x1 : Int32} {x2 : Int32} {h : im_H} (hI : tI h)  : CaP 4 75 [.ref 16, .int x1, .int x2] h (mI h F_X11_says (fun _ => True)) := by
  refine cap_of (d := 3) (M := mX11_says) rfl (Nat.le_of_ble_eq_true rfl) ?_
  show EvP im_K0 3 mX11_says (0, [(0, .ref 16), (1, .int x1), (2, .int x2)], [], h) _
  have f0 : fr F_X11_says h h := fr_rf
  refine te_iload_n (p2 := 1) rfl rfl rfl ?_
  refine te_aload_n (p2 := 2) rfl rfl rfl ?_
  refine tg_r (p2 := 5) (i := 0) (r := 17) rfl rfl hI rfl rfl rfl ?_
  refine tg_i (p2 := 8) (i := 1) rfl rfl hI rfl rfl rfl (fun y1 a1 b1 e1 => ?_)
  refine cS_pI (p2 := 11) rfl rfl rfl rfl (t_X11_within (n := x1) (b := y1) hI ) (by decide) (fun y2 r2 => ?_)
  rcases r2 with ⟨w2, c2⟩ | ⟨w2, c2⟩
  · subst w2
    refine tz_ne (p2 := 14) rfl rfl (show Int32.toInt 1 = 1 from rfl) (fun c3 => ?_) (fun c3 => absurd c3 (by omega))
    refine te_iload_n (p2 := 17) rfl rfl rfl ?_
    refine te_iconst (p2 := 18) (x := 3) rfl rfl (by decide) ?_
    refine cS_pI (p2 := 21) rfl rfl rfl rfl (t_X11_within (n := x2) (b := 3) hI ) (by decide) (fun y4 r4 => ?_)
    rcases r4 with ⟨w4, c4⟩ | ⟨w4, c4⟩
    · subst w4
      have cc4_1 := (show Int32.toInt 3 = 3 from rfl)
      refine tz_ne (p2 := 24) rfl rfl (show Int32.toInt 1 = 1 from rfl) (fun c5 => ?_) (fun c5 => absurd c5 (by omega))
      refine te_aload_n (p2 := 28) rfl rfl rfl ?_
      refine tg_r (p2 := 31) (i := 0) (r := 17) rfl rfl hI rfl rfl rfl ?_
      refine te_aload_n (p2 := 32) rfl rfl rfl ?_
      refine tg_r (p2 := 35) (i := 0) (r := 39) rfl rfl hI rfl rfl rfl ?_
      refine te_iload_n (p2 := 36) rfl rfl rfl ?_
      refine te_iload_n (p2 := 37) rfl rfl rfl ?_
      refine cV_mI (p2 := 40) (i := 1) rfl rfl rfl rfl hI rfl rfl rfl (t_X0_said (s := 23) (p := x1) (key := x2) hI (by decide) (by omega) (by omega)) (by decide) (fun y6 h6 I6 g6 r6 => ?_)
      have f6 := fr_tr (F1 := F_X0_said) (F := F_X11_says) f0 g6 (by decide)
      exact te_iret rfl rfl ⟨I6, f6, _, rfl, trivial⟩
    · subst w4
      have cc4_1 := (show Int32.toInt 3 = 3 from rfl)
      refine tz_ne (p2 := 24) rfl rfl (show Int32.toInt 0 = 0 from rfl) (fun c7 => absurd c7 (by omega)) (fun c7 => ?_)
      refine te_bipush (p2 := 26) (x := (-2)) rfl rfl (by decide) ?_
      exact te_iret rfl rfl ⟨hI, f0, _, rfl, trivial⟩
  · subst w2
    refine tz_ne (p2 := 14) rfl rfl (show Int32.toInt 0 = 0 from rfl) (fun c8 => absurd c8 (by omega)) (fun c8 => ?_)
    refine te_iconst (p2 := 15) (x := (-1)) rfl rfl (by decide) ?_
    exact te_iret rfl rfl ⟨hI, f0, _, rfl, trivial⟩
abbrev F_X11_personTold : List (Nat × Nat × Nat) := [(11, 0, 7)]
set_option maxRecDepth 20000 in
set_option maxHeartbeats 4000000 in
theorem t_X11_personTold {x1 : Int32} {x2 : Int32} {h : im_H} (hI : tI h)  : CaP 6 79 [.ref 16, .int x1, .int x2] h (mI h F_X11_personTold (fun _ => True)) := by
  refine cap_of (d := 5) (M := mX11_personTold) rfl (Nat.le_of_ble_eq_true rfl) ?_
  show EvP im_K0 5 mX11_personTold (0, [(0, .ref 16), (1, .int x1), (2, .int x2)], [], h) _
  have f0 : fr F_X11_personTold h h := fr_rf
  refine te_iload_n (p2 := 1) rfl rfl rfl ?_
  refine te_aload_n (p2 := 2) rfl rfl rfl ?_
  refine tg_r (p2 := 5) (i := 0) (r := 17) rfl rfl hI rfl rfl rfl ?_
  refine tg_i (p2 := 8) (i := 1) rfl rfl hI rfl rfl rfl (fun y1 a1 b1 e1 => ?_)
  refine cS_pI (p2 := 11) rfl rfl rfl rfl (t_X11_within (n := x1) (b := y1) hI ) (by decide) (fun y2 r2 => ?_)
  rcases r2 with ⟨w2, c2⟩ | ⟨w2, c2⟩
  · subst w2
    refine tz_ne (p2 := 14) rfl rfl (show Int32.toInt 1 = 1 from rfl) (fun c3 => ?_) (fun c3 => absurd c3 (by omega))
    refine te_iload_n (p2 := 17) rfl rfl rfl ?_
    by_cases c4 : x2.toInt = 0
    · refine te_tsIn (k := 0) (p2 := 60) rfl c4 (by decide) (by decide) rfl (by decide) ?_
      refine te_aload_n (p2 := 61) rfl rfl rfl ?_
      refine tg_r (p2 := 64) (i := 0) (r := 39) rfl rfl hI rfl rfl rfl ?_
      refine tg_r (p2 := 67) (i := 23) (r := 42) rfl rfl hI rfl rfl rfl ?_
      refine te_iload_n (p2 := 68) rfl rfl rfl ?_
      refine tl_i (p2 := 69) (i := 26) (n := 24) rfl rfl hI rfl rfl rfl rfl (by omega) (by omega) (fun y5 a5 b5 g5 e5 => ?_)
      exact te_iret rfl rfl ⟨hI, f0, _, rfl, trivial⟩
    · by_cases c6 : x2.toInt = 1
      · refine te_tsIn (k := 1) (p2 := 70) rfl c6 (by decide) (by decide) rfl (by decide) ?_
        refine te_aload_n (p2 := 71) rfl rfl rfl ?_
        refine tg_r (p2 := 74) (i := 0) (r := 39) rfl rfl hI rfl rfl rfl ?_
        refine tg_r (p2 := 77) (i := 23) (r := 43) rfl rfl hI rfl rfl rfl ?_
        refine te_iload_n (p2 := 78) rfl rfl rfl ?_
        refine tl_i (p2 := 79) (i := 27) (n := 24) rfl rfl hI rfl rfl rfl rfl (by omega) (by omega) (fun y7 a7 b7 g7 e7 => ?_)
        exact te_iret rfl rfl ⟨hI, f0, _, rfl, trivial⟩
      · by_cases c8 : x2.toInt = 2
        · refine te_tsIn (k := 2) (p2 := 80) rfl c8 (by decide) (by decide) rfl (by decide) ?_
          refine te_aload_n (p2 := 81) rfl rfl rfl ?_
          refine tg_r (p2 := 84) (i := 0) (r := 39) rfl rfl hI rfl rfl rfl ?_
          refine tg_r (p2 := 87) (i := 23) (r := 44) rfl rfl hI rfl rfl rfl ?_
          refine te_iload_n (p2 := 88) rfl rfl rfl ?_
          refine tl_i (p2 := 89) (i := 28) (n := 24) rfl rfl hI rfl rfl rfl rfl (by omega) (by omega) (fun y9 a9 b9 g9 e9 => ?_)
          exact te_iret rfl rfl ⟨hI, f0, _, rfl, trivial⟩
        · by_cases c10 : x2.toInt = 3
          · refine te_tsIn (k := 3) (p2 := 90) rfl c10 (by decide) (by decide) rfl (by decide) ?_
            refine te_aload_n (p2 := 91) rfl rfl rfl ?_
            refine tg_r (p2 := 94) (i := 0) (r := 39) rfl rfl hI rfl rfl rfl ?_
            refine tg_r (p2 := 97) (i := 23) (r := 45) rfl rfl hI rfl rfl rfl ?_
            refine te_iload_n (p2 := 98) rfl rfl rfl ?_
            refine tl_i (p2 := 99) (i := 29) (n := 24) rfl rfl hI rfl rfl rfl rfl (by omega) (by omega) (fun y11 a11 b11 g11 e11 => ?_)
            exact te_iret rfl rfl ⟨hI, f0, _, rfl, trivial⟩
          · by_cases c12 : x2.toInt = 4
            · refine te_tsIn (k := 4) (p2 := 100) rfl c12 (by decide) (by decide) rfl (by decide) ?_
              refine te_aload_n (p2 := 101) rfl rfl rfl ?_
              refine tg_r (p2 := 104) (i := 0) (r := 39) rfl rfl hI rfl rfl rfl ?_
              refine tg_r (p2 := 107) (i := 23) (r := 46) rfl rfl hI rfl rfl rfl ?_
              refine te_iload_n (p2 := 108) rfl rfl rfl ?_
              refine tl_b (p2 := 109) (i := 30) (n := 24) rfl rfl hI rfl rfl rfl rfl (by omega) (by omega) (fun y13 a13 e13 => ?_)
              refine tz_eq (p2 := 112) rfl rfl rfl (fun c14 => ?_) (fun c14 => ?_)
              · refine te_iconst (p2 := 117) (x := 0) rfl rfl (by decide) ?_
                exact te_iret rfl rfl ⟨hI, f0, _, rfl, trivial⟩
              · refine te_iconst (p2 := 113) (x := 1) rfl rfl (by decide) ?_
                refine te_goto rfl ?_
                exact te_iret rfl rfl ⟨hI, f0, _, rfl, trivial⟩
            · by_cases c15 : x2.toInt = 5
              · refine te_tsIn (k := 5) (p2 := 118) rfl c15 (by decide) (by decide) rfl (by decide) ?_
                refine te_aload_n (p2 := 119) rfl rfl rfl ?_
                refine tg_r (p2 := 122) (i := 0) (r := 17) rfl rfl hI rfl rfl rfl ?_
                refine te_aload_n (p2 := 123) rfl rfl rfl ?_
                refine tg_r (p2 := 126) (i := 0) (r := 39) rfl rfl hI rfl rfl rfl ?_
                refine te_iload_n (p2 := 127) rfl rfl rfl ?_
                refine cV_mI (p2 := 130) (i := 1) rfl rfl rfl rfl hI rfl rfl rfl (t_X0_passes (s := 23) (p := x1) hI (by decide) (by omega) (by omega)) (by decide) (fun y16 h16 I16 g16 r16 => ?_)
                have f16 := fr_tr (F1 := F_X0_passes) (F := F_X11_personTold) f0 g16 (by decide)
                exact te_iret rfl rfl ⟨I16, f16, _, rfl, trivial⟩
              · by_cases c17 : x2.toInt = 6
                · refine te_tsIn (k := 6) (p2 := 131) rfl c17 (by decide) (by decide) rfl (by decide) ?_
                  refine te_aload_n (p2 := 132) rfl rfl rfl ?_
                  refine tg_r (p2 := 135) (i := 0) (r := 17) rfl rfl hI rfl rfl rfl ?_
                  refine te_aload_n (p2 := 136) rfl rfl rfl ?_
                  refine tg_r (p2 := 139) (i := 0) (r := 39) rfl rfl hI rfl rfl rfl ?_
                  refine te_iload_n (p2 := 140) rfl rfl rfl ?_
                  refine cV_mI (p2 := 143) (i := 1) rfl rfl rfl rfl hI rfl rfl rfl (t_X0_cellByDay (s := 23) (p := x1) hI (by decide) (by omega) (by omega)) (by decide) (fun y18 h18 I18 g18 r18 => ?_)
                  have f18 := fr_tr (F1 := F_X0_cellByDay) (F := F_X11_personTold) f0 g18 (by decide)
                  exact te_iret rfl rfl ⟨I18, f18, _, rfl, trivial⟩
                · refine te_tsOut (p2 := 144) rfl (by omega) (by decide) ?_
                  refine te_bipush (p2 := 146) (x := (-2)) rfl rfl (by decide) ?_
                  exact te_iret rfl rfl ⟨hI, f0, _, rfl, trivial⟩
  · subst w2
    refine tz_ne (p2 := 14) rfl rfl (show Int32.toInt 0 = 0 from rfl) (fun c19 => absurd c19 (by omega)) (fun c19 => ?_)
    refine te_iconst (p2 := 15) (x := (-1)) rfl rfl (by decide) ?_
    exact te_iret rfl rfl ⟨hI, f0, _, rfl, trivial⟩
abbrev F_X11_pull : List (Nat × Nat × Nat) := [(11, 0, 7), (25, 0, 99), (27, 0, 23), (30, 0, 23), (32, 0, 15)]
set_option maxRecDepth 20000 in
set_option maxHeartbeats 4000000 in
theorem t_X11_pull {x1 : Int32} {h : im_H} (hI : tI h)  : CaP 7 84 [.ref 16, .int x1] h (mI h F_X11_pull (fun _ => True)) := by
  refine cap_of (d := 6) (M := mX11_pull) rfl (Nat.le_of_ble_eq_true rfl) ?_
  show EvP im_K0 6 mX11_pull (0, [(0, .ref 16), (1, .int x1)], [], h) _
  have f0 : fr F_X11_pull h h := fr_rf
  refine te_iload_n (p2 := 1) rfl rfl rfl ?_
  refine te_aload_n (p2 := 2) rfl rfl rfl ?_
  refine tg_r (p2 := 5) (i := 0) (r := 17) rfl rfl hI rfl rfl rfl ?_
  refine tg_i (p2 := 8) (i := 1) rfl rfl hI rfl rfl rfl (fun y1 a1 b1 e1 => ?_)
  refine cS_pI (p2 := 11) rfl rfl rfl rfl (t_X11_within (n := x1) (b := y1) hI ) (by decide) (fun y2 r2 => ?_)
  rcases r2 with ⟨w2, c2⟩ | ⟨w2, c2⟩
  · subst w2
    refine tz_ne (p2 := 14) rfl rfl (show Int32.toInt 1 = 1 from rfl) (fun c3 => ?_) (fun c3 => absurd c3 (by omega))
    refine te_aload_n (p2 := 17) rfl rfl rfl ?_
    refine tg_r (p2 := 20) (i := 0) (r := 39) rfl rfl hI rfl rfl rfl ?_
    refine tg_r (p2 := 23) (i := 23) (r := 48) rfl rfl hI rfl rfl rfl ?_
    refine te_iload_n (p2 := 24) rfl rfl rfl ?_
    refine tl_b (p2 := 25) (i := 32) (n := 16) rfl rfl hI rfl rfl rfl rfl (by omega) (by omega) (fun y4 a4 e4 => ?_)
    refine tz_ne (p2 := 28) rfl rfl rfl (fun c5 => ?_) (fun c5 => ?_)
    · refine te_aload_n (p2 := 32) rfl rfl rfl ?_
      refine tg_r (p2 := 35) (i := 0) (r := 17) rfl rfl hI rfl rfl rfl ?_
      refine te_aload_n (p2 := 36) rfl rfl rfl ?_
      refine tg_r (p2 := 39) (i := 0) (r := 39) rfl rfl hI rfl rfl rfl ?_
      refine te_iload_n (p2 := 40) rfl rfl rfl ?_
      refine cV_mI (p2 := 43) (i := 1) rfl rfl rfl rfl hI rfl rfl rfl (t_X0_fall (s := 23) (k := x1) hI (by decide) (by omega) (by omega)) (by decide) (fun y6 h6 I6 g6 r6 => ?_)
      have f6 := fr_tr (F1 := (F_X0_fall 23)) (F := F_X11_pull) f0 g6 (by decide)
      exact te_iret rfl rfl ⟨I6, f6, _, rfl, trivial⟩
    · refine te_bipush (p2 := 30) (x := (-3)) rfl rfl (by decide) ?_
      exact te_iret rfl rfl ⟨hI, f0, _, rfl, trivial⟩
  · subst w2
    refine tz_ne (p2 := 14) rfl rfl (show Int32.toInt 0 = 0 from rfl) (fun c7 => absurd c7 (by omega)) (fun c7 => ?_)
    refine te_iconst (p2 := 15) (x := (-1)) rfl rfl (by decide) ?_
    exact te_iret rfl rfl ⟨hI, f0, _, rfl, trivial⟩
abbrev F_X11_run : List (Nat × Nat × Nat) := [(11, 0, 7), (23, 0, 0), (23, 3, 4), (24, 0, 2), (25, 0, 99), (27, 0, 23), (28, 0, 23), (29, 0, 23), (30, 0, 23), (31, 0, 15), (32, 0, 15), (34, 0, 3), (35, 0, 3), (36, 0, 2)]
set_option maxRecDepth 20000 in
set_option maxHeartbeats 4000000 in
theorem t_X11_run {x1 : Int32} {h : im_H} (hI : tI h)  : CaP 8 76 [.ref 16, .int x1] h (mI h F_X11_run (fun _ => True)) := by
  refine cap_of (d := 7) (M := mX11_run) rfl (Nat.le_of_ble_eq_true rfl) ?_
  show EvP im_K0 7 mX11_run (0, [(0, .ref 16), (1, .int x1)], [], h) _
  have f0 : fr F_X11_run h h := fr_rf
  refine te_iload_n (p2 := 1) rfl rfl rfl ?_
  refine te_iconst (p2 := 2) (x := 1) rfl rfl (by decide) ?_
  refine te_bipush (p2 := 4) (x := 60) rfl rfl (by decide) ?_
  refine cS_pI (p2 := 7) rfl rfl rfl rfl (t_X11_between (n := x1) (a := 1) (b := 60) hI ) (by decide) (fun y1 r1 => ?_)
  rcases r1 with ⟨w1, c1⟩ | ⟨w1, c1⟩
  · subst w1
    have cc1_1 := (show Int32.toInt 1 = 1 from rfl)
    have cc1_2 := (show Int32.toInt 60 = 60 from rfl)
    refine tz_ne (p2 := 10) rfl rfl (show Int32.toInt 1 = 1 from rfl) (fun c2 => ?_) (fun c2 => absurd c2 (by omega))
    refine te_aload_n (p2 := 14) rfl rfl rfl ?_
    refine tg_r (p2 := 17) (i := 0) (r := 39) rfl rfl hI rfl rfl rfl ?_
    refine tg_i (p2 := 20) (i := 23) rfl rfl hI rfl rfl rfl (fun y3 a3 b3 e3 => ?_)
    refine te_iload_n (p2 := 21) rfl rfl rfl ?_
    refine au_add (p2 := 22) rfl rfl (fun z4 e4 => ?_)
    refine te_sipush (p2 := 25) (x := 2000) rfl rfl (by decide) ?_
    refine tb_le (p2 := 28) rfl rfl rfl (show Int32.toInt 2000 = 2000 from rfl) (fun c5 => ?_) (fun c5 => ?_)
    · refine te_iconst (p2 := 32) (x := 0) rfl rfl (by decide) ?_
      refine te_istore_n (p2 := 33) (lv2 := [(2, .int 0), (0, .ref 16), (1, .int x1)]) rfl rfl (by decide) rfl ?_
      have lp6 : ∀ (n6 : Nat) (v6_2 : Int32) (h6 : im_H), tI h6 → fr F_X11_run h h6 → 0 ≤ v6_2.toInt → v6_2.toInt ≤ 60 → v6_2.toInt ≤ x1.toInt → x1.toInt - v6_2.toInt < (n6 : Int) → EvP im_K0 7 mX11_run (33, [(0, .ref 16), (1, .int x1), (2, .int v6_2)], [], h6) (mI h F_X11_run (fun _ => True)) := by
        intro n6
        induction n6 with
        | zero => intro v6_2 h6 I6 f6 a6_2 b6_2 l6_0 m6; exfalso; omega
        | succ n6 ih6 =>
          intro v6_2 h6 I6 f6 a6_2 b6_2 l6_0 m6
          refine te_iload_n (p2 := 34) rfl rfl rfl ?_
          refine te_iload_n (p2 := 35) rfl rfl rfl ?_
          refine tb_ge (p2 := 38) rfl rfl rfl rfl (fun c7 => ?_) (fun c7 => ?_)
          · refine te_aload_n (p2 := 56) rfl rfl rfl ?_
            refine tg_r (p2 := 59) (i := 0) (r := 39) rfl rfl I6 rfl rfl rfl ?_
            refine tg_i (p2 := 62) (i := 23) rfl rfl I6 rfl rfl rfl (fun y8 a8 b8 e8 => ?_)
            exact te_iret rfl rfl ⟨I6, f6, _, rfl, trivial⟩
          · refine te_aload_n (p2 := 39) rfl rfl rfl ?_
            refine tg_r (p2 := 42) (i := 0) (r := 17) rfl rfl I6 rfl rfl rfl ?_
            refine te_aload_n (p2 := 43) rfl rfl rfl ?_
            refine tg_r (p2 := 46) (i := 0) (r := 39) rfl rfl I6 rfl rfl rfl ?_
            refine cV_mV (p2 := 49) (i := 1) rfl rfl rfl rfl I6 rfl rfl rfl (t_X0_playDay (s := 23) I6 (by decide)) (by decide) (fun h9 I9 g9 => ?_)
            have f9 := fr_tr (F1 := (F_X0_playDay 23)) (F := F_X11_run) f6 g9 (by decide)
            refine ar_inc (p2 := 52) (x := v6_2) rfl rfl (by decide) rfl (by decide) rfl (by omega) (by omega) (fun z10 e10 f10 => ?_)
            show EvP _ _ _ (52, [(2, .int z10), (0, .ref 16), (1, .int x1)], [], h9) _
            refine te_goto rfl ?_
            refine te_lv [(0, .ref 16), (1, .int x1), (2, .int z10)] rfl rfl ⟨rfl, rfl, rfl, trivial⟩ ?_
            exact ih6 z10 h9 I9 f9 (by omega) (by omega) (by omega) (by omega)
      refine te_lv [(0, .ref 16), (1, .int x1), (2, .int 0)] rfl rfl ⟨rfl, rfl, rfl, trivial⟩ ?_
      exact lp6 61 0 h hI f0 (by decide) (by decide) (by have cc0 := (show Int32.toInt 0 = 0 from rfl); omega) (by have cc0 := (show Int32.toInt 0 = 0 from rfl); omega)
    · refine te_bipush (p2 := 30) (x := (-4)) rfl rfl (by decide) ?_
      exact te_iret rfl rfl ⟨hI, f0, _, rfl, trivial⟩
  · subst w1
    have cc1_1 := (show Int32.toInt 1 = 1 from rfl)
    have cc1_2 := (show Int32.toInt 60 = 60 from rfl)
    refine tz_ne (p2 := 10) rfl rfl (show Int32.toInt 0 = 0 from rfl) (fun c11 => absurd c11 (by omega)) (fun c11 => ?_)
    refine te_bipush (p2 := 12) (x := (-2)) rfl rfl (by decide) ?_
    exact te_iret rfl rfl ⟨hI, f0, _, rfl, trivial⟩
abbrev F_X11_count : List (Nat × Nat × Nat) := []
set_option maxRecDepth 20000 in
set_option maxHeartbeats 4000000 in
theorem t_X11_count {x1 : Int32} {h : im_H} (hI : tI h)  : CaP 3 83 [.ref 16, .int x1] h (mI h F_X11_count (fun _ => True)) := by
  refine cap_of (d := 2) (M := mX11_count) rfl (Nat.le_of_ble_eq_true rfl) ?_
  show EvP im_K0 2 mX11_count (0, [(0, .ref 16), (1, .int x1)], [], h) _
  have f0 : fr F_X11_count h h := fr_rf
  refine te_iload_n (p2 := 1) rfl rfl rfl ?_
  by_cases c1 : x1.toInt = 0
  · refine te_tsIn (k := 0) (p2 := 72) rfl c1 (by decide) (by decide) rfl (by decide) ?_
    refine te_aload_n (p2 := 73) rfl rfl rfl ?_
    refine tg_r (p2 := 76) (i := 0) (r := 39) rfl rfl hI rfl rfl rfl ?_
    refine tg_i (p2 := 79) (i := 23) rfl rfl hI rfl rfl rfl (fun y2 a2 b2 e2 => ?_)
    exact te_iret rfl rfl ⟨hI, f0, _, rfl, trivial⟩
  · by_cases c3 : x1.toInt = 1
    · refine te_tsIn (k := 1) (p2 := 80) rfl c3 (by decide) (by decide) rfl (by decide) ?_
      refine te_aload_n (p2 := 81) rfl rfl rfl ?_
      refine tg_r (p2 := 84) (i := 0) (r := 39) rfl rfl hI rfl rfl rfl ?_
      refine cV_pI (p2 := 87) (i := 23) rfl rfl rfl rfl hI rfl rfl rfl (t_X9_allLoads (s := 23) hI (by decide)) (by decide) (fun y4 r4 => ?_)
      exact te_iret rfl rfl ⟨hI, f0, _, rfl, trivial⟩
    · by_cases c5 : x1.toInt = 2
      · refine te_tsIn (k := 2) (p2 := 88) rfl c5 (by decide) (by decide) rfl (by decide) ?_
        refine te_aload_n (p2 := 89) rfl rfl rfl ?_
        refine tg_r (p2 := 92) (i := 0) (r := 39) rfl rfl hI rfl rfl rfl ?_
        refine tg_i (p2 := 95) (i := 23) rfl rfl hI rfl rfl rfl (fun y6 a6 b6 e6 => ?_)
        exact te_iret rfl rfl ⟨hI, f0, _, rfl, trivial⟩
      · by_cases c7 : x1.toInt = 3
        · refine te_tsIn (k := 3) (p2 := 96) rfl c7 (by decide) (by decide) rfl (by decide) ?_
          refine te_aload_n (p2 := 97) rfl rfl rfl ?_
          refine tg_r (p2 := 100) (i := 0) (r := 39) rfl rfl hI rfl rfl rfl ?_
          refine tg_i (p2 := 103) (i := 23) rfl rfl hI rfl rfl rfl (fun y8 a8 b8 e8 => ?_)
          exact te_iret rfl rfl ⟨hI, f0, _, rfl, trivial⟩
        · by_cases c9 : x1.toInt = 4
          · refine te_tsIn (k := 4) (p2 := 104) rfl c9 (by decide) (by decide) rfl (by decide) ?_
            refine te_aload_n (p2 := 105) rfl rfl rfl ?_
            refine tg_r (p2 := 108) (i := 0) (r := 39) rfl rfl hI rfl rfl rfl ?_
            refine tg_r (p2 := 111) (i := 23) (r := 40) rfl rfl hI rfl rfl rfl ?_
            refine te_iconst (p2 := 112) (x := 0) rfl rfl (by decide) ?_
            refine tl_i (p2 := 113) (i := 24) (n := 3) rfl rfl hI rfl rfl rfl rfl (by decide) (by decide) (fun y10 a10 b10 g10 e10 => ?_)
            exact te_iret rfl rfl ⟨hI, f0, _, rfl, trivial⟩
          · by_cases c11 : x1.toInt = 5
            · refine te_tsIn (k := 5) (p2 := 114) rfl c11 (by decide) (by decide) rfl (by decide) ?_
              refine te_aload_n (p2 := 115) rfl rfl rfl ?_
              refine tg_r (p2 := 118) (i := 0) (r := 39) rfl rfl hI rfl rfl rfl ?_
              refine tg_r (p2 := 121) (i := 23) (r := 40) rfl rfl hI rfl rfl rfl ?_
              refine te_iconst (p2 := 122) (x := 1) rfl rfl (by decide) ?_
              refine tl_i (p2 := 123) (i := 24) (n := 3) rfl rfl hI rfl rfl rfl rfl (by decide) (by decide) (fun y12 a12 b12 g12 e12 => ?_)
              exact te_iret rfl rfl ⟨hI, f0, _, rfl, trivial⟩
            · by_cases c13 : x1.toInt = 6
              · refine te_tsIn (k := 6) (p2 := 124) rfl c13 (by decide) (by decide) rfl (by decide) ?_
                refine te_aload_n (p2 := 125) rfl rfl rfl ?_
                refine tg_r (p2 := 128) (i := 0) (r := 39) rfl rfl hI rfl rfl rfl ?_
                refine tg_r (p2 := 131) (i := 23) (r := 40) rfl rfl hI rfl rfl rfl ?_
                refine te_iconst (p2 := 132) (x := 2) rfl rfl (by decide) ?_
                refine tl_i (p2 := 133) (i := 24) (n := 3) rfl rfl hI rfl rfl rfl rfl (by decide) (by decide) (fun y14 a14 b14 g14 e14 => ?_)
                exact te_iret rfl rfl ⟨hI, f0, _, rfl, trivial⟩
              · by_cases c15 : x1.toInt = 7
                · refine te_tsIn (k := 7) (p2 := 134) rfl c15 (by decide) (by decide) rfl (by decide) ?_
                  refine te_aload_n (p2 := 135) rfl rfl rfl ?_
                  refine tg_r (p2 := 138) (i := 0) (r := 17) rfl rfl hI rfl rfl rfl ?_
                  refine tg_i (p2 := 141) (i := 1) rfl rfl hI rfl rfl rfl (fun y16 a16 b16 e16 => ?_)
                  exact te_iret rfl rfl ⟨hI, f0, _, rfl, trivial⟩
                · by_cases c17 : x1.toInt = 8
                  · refine te_tsIn (k := 8) (p2 := 142) rfl c17 (by decide) (by decide) rfl (by decide) ?_
                    refine te_aload_n (p2 := 143) rfl rfl rfl ?_
                    refine tg_r (p2 := 146) (i := 0) (r := 39) rfl rfl hI rfl rfl rfl ?_
                    refine cV_pI (p2 := 149) (i := 23) rfl rfl rfl rfl hI rfl rfl rfl (t_X9_allDead (s := 23) hI (by decide)) (by decide) (fun y18 r18 => ?_)
                    exact te_iret rfl rfl ⟨hI, f0, _, rfl, trivial⟩
                  · by_cases c19 : x1.toInt = 9
                    · refine te_tsIn (k := 9) (p2 := 150) rfl c19 (by decide) (by decide) rfl (by decide) ?_
                      refine te_aload_n (p2 := 151) rfl rfl rfl ?_
                      refine tg_i (p2 := 154) (i := 0) rfl rfl hI rfl rfl rfl (fun y20 a20 b20 e20 => ?_)
                      exact te_iret rfl rfl ⟨hI, f0, _, rfl, trivial⟩
                    · by_cases c21 : x1.toInt = 10
                      · refine te_tsIn (k := 10) (p2 := 155) rfl c21 (by decide) (by decide) rfl (by decide) ?_
                        refine te_aload_n (p2 := 156) rfl rfl rfl ?_
                        refine tg_i (p2 := 159) (i := 0) rfl rfl hI rfl rfl rfl (fun y22 a22 b22 e22 => ?_)
                        exact te_iret rfl rfl ⟨hI, f0, _, rfl, trivial⟩
                      · by_cases c23 : x1.toInt = 11
                        · refine te_tsIn (k := 11) (p2 := 160) rfl c23 (by decide) (by decide) rfl (by decide) ?_
                          refine te_aload_n (p2 := 161) rfl rfl rfl ?_
                          refine tg_r (p2 := 164) (i := 0) (r := 81) rfl rfl hI rfl rfl rfl ?_
                          refine tg_i (p2 := 167) (i := 65) rfl rfl hI rfl rfl rfl (fun y24 a24 b24 e24 => ?_)
                          exact te_iret rfl rfl ⟨hI, f0, _, rfl, trivial⟩
                        · by_cases c25 : x1.toInt = 12
                          · refine te_tsIn (k := 12) (p2 := 168) rfl c25 (by decide) (by decide) rfl (by decide) ?_
                            refine te_aload_n (p2 := 169) rfl rfl rfl ?_
                            refine tg_r (p2 := 172) (i := 0) (r := 88) rfl rfl hI rfl rfl rfl ?_
                            refine tg_i (p2 := 175) (i := 72) rfl rfl hI rfl rfl rfl (fun y26 a26 b26 e26 => ?_)
                            exact te_iret rfl rfl ⟨hI, f0, _, rfl, trivial⟩
                          · by_cases c27 : x1.toInt = 13
                            · refine te_tsIn (k := 13) (p2 := 176) rfl c27 (by decide) (by decide) rfl (by decide) ?_
                              refine te_aload_n (p2 := 177) rfl rfl rfl ?_
                              refine tg_r (p2 := 180) (i := 0) (r := 17) rfl rfl hI rfl rfl rfl ?_
                              refine tg_i (p2 := 183) (i := 1) rfl rfl hI rfl rfl rfl (fun y28 a28 b28 e28 => ?_)
                              exact te_iret rfl rfl ⟨hI, f0, _, rfl, trivial⟩
                            · refine te_tsOut (p2 := 184) rfl (by omega) (by decide) ?_
                              refine te_bipush (p2 := 186) (x := (-2)) rfl rfl (by decide) ?_
                              exact te_iret rfl rfl ⟨hI, f0, _, rfl, trivial⟩
abbrev F_X11_cell : List (Nat × Nat × Nat) := [(141, 0, 39), (143, 0, 39), (145, 0, 39), (147, 0, 39)]
set_option maxRecDepth 20000 in
set_option maxHeartbeats 4000000 in
theorem t_X11_cell {x1 : Int32} {x2 : Int32} {x3 : Int32} {h : im_H} (hI : tI h)  : CaP 3 105 [.ref 16, .int x1, .int x2, .int x3] h (mI h F_X11_cell (fun _ => True)) := by
  refine cap_of (d := 2) (M := mX11_cell) rfl (Nat.le_of_ble_eq_true rfl) ?_
  show EvP im_K0 2 mX11_cell (0, [(0, .ref 16), (1, .int x1), (2, .int x2), (3, .int x3)], [], h) _
  have f0 : fr F_X11_cell h h := fr_rf
  refine te_iload_n (p2 := 1) rfl rfl rfl ?_
  refine te_iconst (p2 := 2) (x := 4) rfl rfl (by decide) ?_
  refine cS_pI (p2 := 5) rfl rfl rfl rfl (t_X11_within (n := x1) (b := 4) hI ) (by decide) (fun y1 r1 => ?_)
  rcases r1 with ⟨w1, c1⟩ | ⟨w1, c1⟩
  · subst w1
    have cc1_1 := (show Int32.toInt 4 = 4 from rfl)
    refine tz_ne (p2 := 8) rfl rfl (show Int32.toInt 1 = 1 from rfl) (fun c2 => ?_) (fun c2 => absurd c2 (by omega))
    refine te_aload_n (p2 := 12) rfl rfl rfl ?_
    refine tg_r (p2 := 15) (i := 0) (r := 113) rfl rfl hI rfl rfl rfl ?_
    refine te_iload_n (p2 := 16) rfl rfl rfl ?_
    refine tl_f (p2 := 17) (i := 97) (n := 4) (c0 := 140) (sp := 2) rfl rfl hI rfl rfl (by decide) rq_97 (by omega) (by omega) (fun o3 w3 => ?_)
    have q3 : o3 = 140 ∨ o3 = 142 ∨ o3 = 144 ∨ o3 = 146 := by omega
    refine cV_pI (p2 := 20) (i := o3) rfl rfl rfl rfl hI rfl (by rcases q3 with rfl | rfl | rfl | rfl <;> rfl) rfl (t_X8_isMissing (s := o3) hI q3) (by decide) (fun y4 r4 => ?_)
    obtain ⟨a4, b4⟩ := r4
    refine tz_eq (p2 := 23) rfl rfl rfl (fun c5 => ?_) (fun c5 => ?_)
    · refine te_iload_n (p2 := 27) rfl rfl rfl ?_
      refine te_aload_n (p2 := 28) rfl rfl rfl ?_
      refine tg_r (p2 := 31) (i := 0) (r := 113) rfl rfl hI rfl rfl rfl ?_
      refine te_iload_n (p2 := 32) rfl rfl rfl ?_
      refine tl_f (p2 := 33) (i := 97) (n := 4) (c0 := 140) (sp := 2) rfl rfl hI rfl rfl (by decide) rq_97 (by omega) (by omega) (fun o6 w6 => ?_)
      have q6 : o6 = 140 ∨ o6 = 142 ∨ o6 = 144 ∨ o6 = 146 := by omega
      refine tg_i (p2 := 36) (i := o6) rfl rfl hI rfl (by rcases q6 with rfl | rfl | rfl | rfl <;> rfl) (by rcases q6 with rfl | rfl | rfl | rfl <;> rfl) (fun y7 a7 b7 e7 => ?_)
      refine cS_pI (p2 := 39) rfl rfl rfl rfl (t_X11_within (n := x2) (b := y7) hI ) (by decide) (fun y8 r8 => ?_)
      rcases r8 with ⟨w8, c8⟩ | ⟨w8, c8⟩
      · subst w8
        refine tz_ne (p2 := 42) rfl rfl (show Int32.toInt 1 = 1 from rfl) (fun c9 => ?_) (fun c9 => absurd c9 (by omega))
        refine te_aload_n (p2 := 46) rfl rfl rfl ?_
        refine tg_r (p2 := 49) (i := 0) (r := 113) rfl rfl hI rfl rfl rfl ?_
        refine te_iload_n (p2 := 50) rfl rfl rfl ?_
        refine tl_f (p2 := 51) (i := 97) (n := 4) (c0 := 140) (sp := 2) rfl rfl hI rfl rfl (by decide) rq_97 (by omega) (by omega) (fun o10 w10 => ?_)
        have q10 : o10 = 140 ∨ o10 = 142 ∨ o10 = 144 ∨ o10 = 146 := by omega
        refine te_iload_n (p2 := 52) rfl rfl rfl ?_
        refine te_iload_n (p2 := 53) rfl rfl rfl ?_
        refine cV_mV (p2 := 56) (i := o10) rfl rfl rfl rfl hI rfl (by rcases q10 with rfl | rfl | rfl | rfl <;> rfl) rfl (t_X8_put (s := o10) (i := x2) (v := x3) hI q10 (by omega) (by omega)) (by decide) (fun h11 I11 g11 => ?_)
        have f11 := fr_tr (F1 := (F_X8_put o10)) (F := F_X11_cell) f0 g11 (by rcases q10 with rfl | rfl | rfl | rfl <;> decide)
        refine te_iconst (p2 := 57) (x := 1) rfl rfl (by decide) ?_
        exact te_iret rfl rfl ⟨I11, f11, _, rfl, trivial⟩
      · subst w8
        refine tz_ne (p2 := 42) rfl rfl (show Int32.toInt 0 = 0 from rfl) (fun c12 => absurd c12 (by omega)) (fun c12 => ?_)
        refine te_bipush (p2 := 44) (x := (-12)) rfl rfl (by decide) ?_
        exact te_iret rfl rfl ⟨hI, f0, _, rfl, trivial⟩
    · refine te_bipush (p2 := 25) (x := (-11)) rfl rfl (by decide) ?_
      exact te_iret rfl rfl ⟨hI, f0, _, rfl, trivial⟩
  · subst w1
    have cc1_1 := (show Int32.toInt 4 = 4 from rfl)
    refine tz_ne (p2 := 8) rfl rfl (show Int32.toInt 0 = 0 from rfl) (fun c13 => absurd c13 (by omega)) (fun c13 => ?_)
    refine te_bipush (p2 := 10) (x := (-2)) rfl rfl (by decide) ?_
    exact te_iret rfl rfl ⟨hI, f0, _, rfl, trivial⟩
abbrev F_X11_taken : List (Nat × Nat × Nat) := []
set_option maxRecDepth 20000 in
set_option maxHeartbeats 4000000 in
theorem t_X11_taken {x1 : Int32} {x2 : Int32} {h : im_H} (hI : tI h)  : CaP 3 109 [.ref 16, .int x1, .int x2] h (mI h F_X11_taken (fun _ => True)) := by
  refine cap_of (d := 2) (M := mX11_taken) rfl (Nat.le_of_ble_eq_true rfl) ?_
  show EvP im_K0 2 mX11_taken (0, [(0, .ref 16), (1, .int x1), (2, .int x2)], [], h) _
  have f0 : fr F_X11_taken h h := fr_rf
  refine te_iload_n (p2 := 1) rfl rfl rfl ?_
  refine te_bipush (p2 := 3) (x := 6) rfl rfl (by decide) ?_
  refine cS_pI (p2 := 6) rfl rfl rfl rfl (t_X11_within (n := x2) (b := 6) hI ) (by decide) (fun y1 r1 => ?_)
  rcases r1 with ⟨w1, c1⟩ | ⟨w1, c1⟩
  · subst w1
    have cc1_1 := (show Int32.toInt 6 = 6 from rfl)
    refine tz_ne (p2 := 9) rfl rfl (show Int32.toInt 1 = 1 from rfl) (fun c2 => ?_) (fun c2 => absurd c2 (by omega))
    refine te_iload_n (p2 := 13) rfl rfl rfl ?_
    refine te_bipush (p2 := 15) (x := 100) rfl rfl (by decide) ?_
    refine cS_pI (p2 := 18) rfl rfl rfl rfl (t_X11_within (n := x1) (b := 100) hI ) (by decide) (fun y3 r3 => ?_)
    rcases r3 with ⟨w3, c3⟩ | ⟨w3, c3⟩
    · subst w3
      have cc3_1 := (show Int32.toInt 100 = 100 from rfl)
      refine tz_ne (p2 := 21) rfl rfl (show Int32.toInt 1 = 1 from rfl) (fun c4 => ?_) (fun c4 => absurd c4 (by omega))
      refine te_aload_n (p2 := 25) rfl rfl rfl ?_
      refine tg_r (p2 := 28) (i := 0) (r := 17) rfl rfl hI rfl rfl rfl ?_
      refine tg_r (p2 := 31) (i := 1) (r := 18) rfl rfl hI rfl rfl rfl ?_
      refine te_iload_n (p2 := 32) rfl rfl rfl ?_
      refine tl_i (p2 := 33) (i := 2) (n := 100) rfl rfl hI rfl rfl rfl rfl (by omega) (by omega) (fun y5 a5 b5 g5 e5 => ?_)
      refine te_istore_n (p2 := 34) (lv2 := [(3, .int y5), (0, .ref 16), (1, .int x1), (2, .int x2)]) rfl rfl (by decide) rfl ?_
      refine te_iload_n (p2 := 35) rfl rfl rfl ?_
      refine te_iconst (p2 := 36) (x := (-1)) rfl rfl (by decide) ?_
      refine tb_ne (p2 := 39) rfl rfl rfl (show Int32.toInt (-1) = (-1) from rfl) (fun c6 => ?_) (fun c6 => ?_)
      · refine te_iload_n (p2 := 59) rfl rfl rfl ?_
        refine te_iload_n (p2 := 60) rfl rfl rfl ?_
        refine cS_pI (p2 := 63) rfl rfl rfl rfl (t_X11_isOfKind (kind := y5) (wanted := x2) hI (by omega) (by omega)) (by decide) (fun y7 r7 => ?_)
        obtain ⟨a7, b7⟩ := r7
        refine tz_eq (p2 := 66) rfl rfl rfl (fun c8 => ?_) (fun c8 => ?_)
        · refine te_bipush (p2 := 76) (x := (-13)) rfl rfl (by decide) ?_
          exact te_iret rfl rfl ⟨hI, f0, _, rfl, trivial⟩
        · refine te_gst (p2 := 69) rfl rfl (by decide) ?_
          refine te_iload_n (p2 := 70) rfl rfl rfl ?_
          refine tl_s (p2 := 71) (R := 0) (l := [20, 35, 20, 70, 10, 5]) (n := 6) (lo := 5) (hi := 70) rfl rfl (by decide) rfl rfl (by decide) (by omega) (by omega) (fun y9 a9 b9 e9 => ?_)
          refine te_goto rfl ?_
          exact te_iret rfl rfl ⟨hI, f0, _, rfl, trivial⟩
      · refine te_iload_n (p2 := 40) rfl rfl rfl ?_
        refine te_aload_n (p2 := 41) rfl rfl rfl ?_
        refine tg_r (p2 := 44) (i := 0) (r := 17) rfl rfl hI rfl rfl rfl ?_
        refine tg_i (p2 := 47) (i := 1) rfl rfl hI rfl rfl rfl (fun y10 a10 b10 e10 => ?_)
        refine tb_ne (p2 := 50) rfl rfl rfl rfl (fun c11 => ?_) (fun c11 => ?_)
        · refine te_bipush (p2 := 57) (x := (-11)) rfl rfl (by decide) ?_
          exact te_iret rfl rfl ⟨hI, f0, _, rfl, trivial⟩
        · refine te_bipush (p2 := 52) (x := (-13)) rfl rfl (by decide) ?_
          refine te_goto rfl ?_
          exact te_iret rfl rfl ⟨hI, f0, _, rfl, trivial⟩
    · subst w3
      have cc3_1 := (show Int32.toInt 100 = 100 from rfl)
      refine tz_ne (p2 := 21) rfl rfl (show Int32.toInt 0 = 0 from rfl) (fun c12 => absurd c12 (by omega)) (fun c12 => ?_)
      refine te_bipush (p2 := 23) (x := (-12)) rfl rfl (by decide) ?_
      exact te_iret rfl rfl ⟨hI, f0, _, rfl, trivial⟩
  · subst w1
    have cc1_1 := (show Int32.toInt 6 = 6 from rfl)
    refine tz_ne (p2 := 9) rfl rfl (show Int32.toInt 0 = 0 from rfl) (fun c13 => absurd c13 (by omega)) (fun c13 => ?_)
    refine te_bipush (p2 := 11) (x := (-2)) rfl rfl (by decide) ?_
    exact te_iret rfl rfl ⟨hI, f0, _, rfl, trivial⟩
