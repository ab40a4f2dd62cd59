set_option maxRecDepth 20000 in
set_option maxHeartbeats 4000000 in
theorem t_X11_refusalOfHands {rr : Int32} {s : Nat} {h : im_H} (hI : tI h) (p_rr0 : 0 ≤ rr.toInt) (p_rr1 : rr.toInt ≤ 3) (q_s : s = 140 ∨ s = 142 ∨ s = 144 ∨ s = 146) : CaP 3 68 [.ref 16, .int rr, .ref (16 + s)] h (pI h (fun y => (y.toInt < 0) ∨ (y.toInt = 0 ∧ ∃ p : Int32, rd h s 1 = some (.int p) ∧ 0 ≤ p.toInt ∧ p.toInt ≤ 40 ∧ allB h (s + 1) 0 p.toInt 23))) := by
  refine cap_of (d := 2) (M := mX11_refusalOfHands) rfl (Nat.le_of_ble_eq_true rfl) ?_
  show EvP im_K0 2 mX11_refusalOfHands (0, [(0, .ref 16), (1, .int rr), (2, .ref (16 + s))], [], h) _
  refine te_iconst (p2 := 1) (x := 0) rfl rfl (by decide) ?_
  refine te_istore_n (p2 := 2) (lv2 := [(3, .int 0), (0, .ref 16), (1, .int rr), (2, .ref (16 + s))]) rfl rfl (by decide) rfl ?_
  have lp1 : ∀ (n1 : Nat) (v1_3 : Int32) , 0 ≤ v1_3.toInt → v1_3.toInt ≤ 40 → allB h (s + 1) 0 v1_3.toInt 23 → 40 - v1_3.toInt < (n1 : Int) → EvP im_K0 2 mX11_refusalOfHands (2, [(0, .ref 16), (1, .int rr), (2, .ref (16 + s)), (3, .int v1_3)], [], h) (pI h (fun y => (y.toInt < 0) ∨ (y.toInt = 0 ∧ ∃ p : Int32, rd h s 1 = some (.int p) ∧ 0 ≤ p.toInt ∧ p.toInt ≤ 40 ∧ allB h (s + 1) 0 p.toInt 23))) := by
    intro n1
    induction n1 with
    | zero => intro v1_3 a1_3 b1_3 w1_0 m1; exfalso; omega
    | succ n1 ih1 =>
      intro v1_3 a1_3 b1_3 w1_0 m1
      refine te_iload_n (p2 := 3) rfl rfl rfl ?_
      refine te_aload_n (p2 := 4) rfl rfl rfl ?_
      refine tg_i (p2 := 7) (i := s) rfl rfl hI rfl (by rcases q_s with rfl | rfl | rfl | rfl <;> rfl) (by rcases q_s with rfl | rfl | rfl | rfl <;> rfl) (fun y2 a2 b2 e2 => ?_)
      refine tb_ge (p2 := 10) rfl rfl rfl rfl (fun c3 => ?_) (fun c3 => ?_)
      · refine te_iconst (p2 := 97) (x := 0) rfl rfl (by decide) ?_
        exact te_iret rfl rfl ⟨rfl, _, rfl, Or.inr ⟨by decide, y2, e2, by omega, by omega, allB_le w1_0 (by omega)⟩⟩
      · refine te_aload_n (p2 := 11) rfl rfl rfl ?_
        refine tg_r (p2 := 14) (i := s) (r := (16 + (s + 1))) rfl rfl hI rfl (by rcases q_s with rfl | rfl | rfl | rfl <;> rfl) (by rcases q_s with rfl | rfl | rfl | rfl <;> rfl) ?_
        refine te_iload_n (p2 := 15) rfl rfl rfl ?_
        refine tl_i (p2 := 16) (i := (s + 1)) (n := 40) rfl rfl hI rfl (by rcases q_s with rfl | rfl | rfl | rfl <;> rfl) (by rcases q_s with rfl | rfl | rfl | rfl <;> rfl) rfl (by omega) (by omega) (fun y4 a4 b4 g4 e4 => ?_)
        refine te_istore (p2 := 18) (lv2 := [(4, .int y4), (0, .ref 16), (1, .int rr), (2, .ref (16 + s)), (3, .int v1_3)]) rfl rfl (by decide) rfl ?_
        refine te_iload (p2 := 20) rfl rfl rfl ?_
        refine te_aload_n (p2 := 21) rfl rfl rfl ?_
        refine tg_r (p2 := 24) (i := 0) (r := 17) rfl rfl hI rfl rfl rfl ?_
        refine tg_i (p2 := 27) (i := 1) rfl rfl hI rfl rfl rfl (fun y5 a5 b5 e5 => ?_)
        refine cS_pI (p2 := 30) rfl rfl rfl rfl (t_X11_within (n := y4) (b := y5) hI ) (by decide) (fun y6 r6 => ?_)
        rcases r6 with ⟨w6, c6⟩ | ⟨w6, c6⟩
        · subst w6
          refine tz_eq (p2 := 33) rfl rfl (show Int32.toInt 1 = 1 from rfl) (fun c7 => absurd c7 (by omega)) (fun c7 => ?_)
          refine te_aload_n (p2 := 34) rfl rfl rfl ?_
          refine tg_r (p2 := 37) (i := 0) (r := 39) rfl rfl hI rfl rfl rfl ?_
          refine tg_r (p2 := 40) (i := 23) (r := 46) rfl rfl hI rfl rfl rfl ?_
          refine te_iload (p2 := 42) rfl rfl rfl ?_
          refine tl_b (p2 := 43) (i := 30) (n := 24) rfl rfl hI rfl rfl rfl rfl (by omega) (by omega) (fun y8 a8 e8 => ?_)
          refine tz_ne (p2 := 46) rfl rfl rfl (fun c9 => ?_) (fun c9 => ?_)
          · refine te_bipush (p2 := 58) (x := (-2)) rfl rfl (by decide) ?_
            exact te_iret rfl rfl ⟨rfl, _, rfl, Or.inl (by decide)⟩
          · refine te_aload_n (p2 := 47) rfl rfl rfl ?_
            refine te_iload_n (p2 := 48) rfl rfl rfl ?_
            refine te_iload (p2 := 50) rfl rfl rfl ?_
            refine cV_pI (p2 := 53) (i := s) rfl rfl rfl rfl hI rfl (by rcases q_s with rfl | rfl | rfl | rfl <;> rfl) rfl (t_X8_hasAheadOf (s := s) (i := v1_3) (number := y4) hI q_s (by omega) (by omega)) (by decide) (fun y10 r10 => ?_)
            obtain ⟨a10, b10⟩ := r10
            refine tz_eq (p2 := 56) rfl rfl rfl (fun c11 => ?_) (fun c11 => ?_)
            · refine te_aload_n (p2 := 60) rfl rfl rfl ?_
              refine tg_r (p2 := 63) (i := 0) (r := 17) rfl rfl hI rfl rfl rfl ?_
              refine tg_r (p2 := 66) (i := 1) (r := 22) rfl rfl hI rfl rfl rfl ?_
              refine te_iload (p2 := 68) rfl rfl rfl ?_
              refine tl_i (p2 := 69) (i := 6) (n := 24) rfl rfl hI rfl rfl rfl rfl (by omega) (by omega) (fun y12 a12 b12 g12 e12 => ?_)
              refine te_iconst (p2 := 70) (x := (-1)) rfl rfl (by decide) ?_
              refine tb_eq (p2 := 73) rfl rfl rfl (show Int32.toInt (-1) = (-1) from rfl) (fun c13 => ?_) (fun c13 => ?_)
              · refine ar_inc (p2 := 93) (x := v1_3) rfl rfl (by decide) rfl (by decide) rfl (by omega) (by omega) (fun z14 e14 f14 => ?_)
                show EvP _ _ _ (93, [(3, .int z14), (4, .int y4), (0, .ref 16), (1, .int rr), (2, .ref (16 + s))], [], h) _
                refine te_goto rfl ?_
                refine te_lv [(0, .ref 16), (1, .int rr), (2, .ref (16 + s)), (3, .int z14)] rfl rfl ⟨rfl, rfl, rfl, rfl, trivial⟩ ?_
                exact ih1 z14 (by omega) (by omega) (allB_s (k := v1_3.toInt.toNat) w1_0 (by omega) f14 (by rw [Nat.zero_add]; exact e4) (by omega) (by omega)) (by omega)
              · refine te_aload_n (p2 := 74) rfl rfl rfl ?_
                refine tg_r (p2 := 77) (i := 0) (r := 17) rfl rfl hI rfl rfl rfl ?_
                refine tg_r (p2 := 80) (i := 1) (r := 22) rfl rfl hI rfl rfl rfl ?_
                refine te_iload (p2 := 82) rfl rfl rfl ?_
                refine tl_e (p2 := 83) (i := 6) (n := 24) (t := 0) (Or.inl rfl) rfl rfl hI rfl rfl (by omega) (by omega) e12 ?_
                refine te_iload_n (p2 := 84) rfl rfl rfl ?_
                refine tb_eq (p2 := 87) rfl rfl rfl rfl (fun c16 => ?_) (fun c16 => ?_)
                · refine ar_inc (p2 := 93) (x := v1_3) rfl rfl (by decide) rfl (by decide) rfl (by omega) (by omega) (fun z17 e17 f17 => ?_)
                  show EvP _ _ _ (93, [(3, .int z17), (4, .int y4), (0, .ref 16), (1, .int rr), (2, .ref (16 + s))], [], h) _
                  refine te_goto rfl ?_
                  refine te_lv [(0, .ref 16), (1, .int rr), (2, .ref (16 + s)), (3, .int z17)] rfl rfl ⟨rfl, rfl, rfl, rfl, trivial⟩ ?_
                  exact ih1 z17 (by omega) (by omega) (allB_s (k := v1_3.toInt.toNat) w1_0 (by omega) f17 (by rw [Nat.zero_add]; exact e4) (by omega) (by omega)) (by omega)
                · refine te_bipush (p2 := 89) (x := (-3)) rfl rfl (by decide) ?_
                  exact te_iret rfl rfl ⟨rfl, _, rfl, Or.inl (by decide)⟩
            · refine te_bipush (p2 := 58) (x := (-2)) rfl rfl (by decide) ?_
              exact te_iret rfl rfl ⟨rfl, _, rfl, Or.inl (by decide)⟩
        · subst w6
          refine tz_eq (p2 := 33) rfl rfl (show Int32.toInt 0 = 0 from rfl) (fun c18 => ?_) (fun c18 => absurd c18 (by omega))
          refine te_bipush (p2 := 58) (x := (-2)) rfl rfl (by decide) ?_
          exact te_iret rfl rfl ⟨rfl, _, rfl, Or.inl (by decide)⟩
  refine te_lv [(0, .ref 16), (1, .int rr), (2, .ref (16 + s)), (3, .int 0)] rfl rfl ⟨rfl, rfl, rfl, rfl, trivial⟩ ?_
  exact lp1 41 0 (by decide) (by decide) (allB_0 (by decide)) (by have cc0 := (show Int32.toInt 0 = 0 from rfl); omega)
set_option maxRecDepth 20000 in
set_option maxHeartbeats 4000000 in
theorem t_X11_isWay {s : Nat} {h : im_H} (hI : tI h) (q_s : s = 140 ∨ s = 142 ∨ s = 144 ∨ s = 146) : CaP 3 70 [.ref (16 + s)] h (pI h (fun y => (y.toInt = 0) ∨ (y.toInt = 1 ∧ ∃ p : Int32, rd h s 1 = some (.int p) ∧ 0 ≤ p.toInt ∧ p.toInt ≤ 40 ∧ allB h (s + 1) 0 p.toInt 99))) := by
  refine cap_of (d := 2) (M := mX11_isWay) rfl (Nat.le_of_ble_eq_true rfl) ?_
  show EvP im_K0 2 mX11_isWay (0, [(0, .ref (16 + s))], [], h) _
  refine te_iconst (p2 := 1) (x := 0) rfl rfl (by decide) ?_
  refine te_istore_n (p2 := 2) (lv2 := [(1, .int 0), (0, .ref (16 + s))]) rfl rfl (by decide) rfl ?_
  have lp1 : ∀ (n1 : Nat) (v1_1 : Int32) , 0 ≤ v1_1.toInt → v1_1.toInt ≤ 40 → allB h (s + 1) 0 v1_1.toInt 99 → 40 - v1_1.toInt < (n1 : Int) → EvP im_K0 2 mX11_isWay (2, [(0, .ref (16 + s)), (1, .int v1_1)], [], h) (pI h (fun y => (y.toInt = 0) ∨ (y.toInt = 1 ∧ ∃ p : Int32, rd h s 1 = some (.int p) ∧ 0 ≤ p.toInt ∧ p.toInt ≤ 40 ∧ allB h (s + 1) 0 p.toInt 99))) := by
    intro n1
    induction n1 with
    | zero => intro v1_1 a1_1 b1_1 w1_0 m1; exfalso; omega
    | succ n1 ih1 =>
      intro v1_1 a1_1 b1_1 w1_0 m1
      refine te_iload_n (p2 := 3) rfl rfl rfl ?_
      refine te_aload_n (p2 := 4) rfl rfl rfl ?_
      refine tg_i (p2 := 7) (i := s) rfl rfl hI rfl (by rcases q_s with rfl | rfl | rfl | rfl <;> rfl) (by rcases q_s with rfl | rfl | rfl | rfl <;> rfl) (fun y2 a2 b2 e2 => ?_)
      refine tb_ge (p2 := 10) rfl rfl rfl rfl (fun c3 => ?_) (fun c3 => ?_)
      · refine te_iconst (p2 := 59) (x := 1) rfl rfl (by decide) ?_
        exact te_zret rfl rfl (by decide) ⟨rfl, _, rfl, Or.inr ⟨by decide, y2, e2, by omega, by omega, allB_le w1_0 (by omega)⟩⟩
      · refine te_aload_n (p2 := 11) rfl rfl rfl ?_
        refine tg_r (p2 := 14) (i := s) (r := (16 + (s + 1))) rfl rfl hI rfl (by rcases q_s with rfl | rfl | rfl | rfl <;> rfl) (by rcases q_s with rfl | rfl | rfl | rfl <;> rfl) ?_
        refine te_iload_n (p2 := 15) rfl rfl rfl ?_
        refine tl_i (p2 := 16) (i := (s + 1)) (n := 40) rfl rfl hI rfl (by rcases q_s with rfl | rfl | rfl | rfl <;> rfl) (by rcases q_s with rfl | rfl | rfl | rfl <;> rfl) rfl (by omega) (by omega) (fun y4 a4 b4 g4 e4 => ?_)
        refine te_bipush (p2 := 18) (x := 100) rfl rfl (by decide) ?_
        refine cS_pI (p2 := 21) rfl rfl rfl rfl (t_X11_within (n := y4) (b := 100) hI ) (by decide) (fun y5 r5 => ?_)
        rcases r5 with ⟨w5, c5⟩ | ⟨w5, c5⟩
        · subst w5
          have cc5_1 := (show Int32.toInt 100 = 100 from rfl)
          refine tz_ne (p2 := 24) rfl rfl (show Int32.toInt 1 = 1 from rfl) (fun c6 => ?_) (fun c6 => absurd c6 (by omega))
          refine te_iload_n (p2 := 27) rfl rfl rfl ?_
          refine tz_le (p2 := 30) rfl rfl rfl (fun c7 => ?_) (fun c7 => ?_)
          · refine ar_inc (p2 := 55) (x := v1_1) rfl rfl (by decide) rfl (by decide) rfl (by omega) (by omega) (fun z8 e8 f8 => ?_)
            show EvP _ _ _ (55, [(1, .int z8), (0, .ref (16 + s))], [], h) _
            refine te_goto rfl ?_
            refine te_lv [(0, .ref (16 + s)), (1, .int z8)] rfl rfl ⟨rfl, rfl, trivial⟩ ?_
            exact ih1 z8 (by omega) (by omega) (allB_s (k := v1_1.toInt.toNat) w1_0 (by omega) f8 (by rw [Nat.zero_add]; exact e4) (by omega) (by omega)) (by omega)
          · refine te_aload_n (p2 := 31) rfl rfl rfl ?_
            refine tg_r (p2 := 34) (i := s) (r := (16 + (s + 1))) rfl rfl hI rfl (by rcases q_s with rfl | rfl | rfl | rfl <;> rfl) (by rcases q_s with rfl | rfl | rfl | rfl <;> rfl) ?_
            refine te_iload_n (p2 := 35) rfl rfl rfl ?_
            refine te_iconst (p2 := 36) (x := 1) rfl rfl (by decide) ?_
            refine ar_sub (p2 := 37) rfl rfl rfl (show Int32.toInt 1 = 1 from rfl) (by omega) (by omega) (fun z9 e9 f9 => ?_)
            refine tl_i (p2 := 38) (i := (s + 1)) (n := 40) rfl rfl hI rfl (by rcases q_s with rfl | rfl | rfl | rfl <;> rfl) (by rcases q_s with rfl | rfl | rfl | rfl <;> rfl) rfl (by omega) (by omega) (fun y10 a10 b10 g10 e10 => ?_)
            obtain ⟨a11, b11⟩ := allB_at w1_0 (v1_1.toInt - 1).toNat (by omega) (by omega) e10
            refine te_aload_n (p2 := 39) rfl rfl rfl ?_
            refine tg_r (p2 := 42) (i := s) (r := (16 + (s + 1))) rfl rfl hI rfl (by rcases q_s with rfl | rfl | rfl | rfl <;> rfl) (by rcases q_s with rfl | rfl | rfl | rfl <;> rfl) ?_
            refine te_iload_n (p2 := 43) rfl rfl rfl ?_
            refine tl_e (p2 := 44) (i := (s + 1)) (n := 40) (t := 0) (Or.inl rfl) rfl rfl hI rfl (by rcases q_s with rfl | rfl | rfl | rfl <;> rfl) (by omega) (by omega) e4 ?_
            refine cS_pI (p2 := 47) rfl rfl rfl rfl (t_X11_areBeside (c := y10) (o := y4) hI (by omega) (by omega)) (by decide) (fun y13 r13 => ?_)
            obtain ⟨a13, b13⟩ := r13
            refine tz_ne (p2 := 50) rfl rfl rfl (fun c14 => ?_) (fun c14 => ?_)
            · refine ar_inc (p2 := 55) (x := v1_1) rfl rfl (by decide) rfl (by decide) rfl (by omega) (by omega) (fun z15 e15 f15 => ?_)
              show EvP _ _ _ (55, [(1, .int z15), (0, .ref (16 + s))], [], h) _
              refine te_goto rfl ?_
              refine te_lv [(0, .ref (16 + s)), (1, .int z15)] rfl rfl ⟨rfl, rfl, trivial⟩ ?_
              exact ih1 z15 (by omega) (by omega) (allB_s (k := v1_1.toInt.toNat) w1_0 (by omega) f15 (by rw [Nat.zero_add]; exact e4) (by omega) (by omega)) (by omega)
            · refine te_iconst (p2 := 51) (x := 0) rfl rfl (by decide) ?_
              exact te_zret rfl rfl (by decide) ⟨rfl, _, rfl, Or.inl (by decide)⟩
        · subst w5
          have cc5_1 := (show Int32.toInt 100 = 100 from rfl)
          refine tz_ne (p2 := 24) rfl rfl (show Int32.toInt 0 = 0 from rfl) (fun c16 => absurd c16 (by omega)) (fun c16 => ?_)
          refine te_iconst (p2 := 25) (x := 0) rfl rfl (by decide) ?_
          exact te_zret rfl rfl (by decide) ⟨rfl, _, rfl, Or.inl (by decide)⟩
  refine te_lv [(0, .ref (16 + s)), (1, .int 0)] rfl rfl ⟨rfl, rfl, trivial⟩ ?_
  exact lp1 41 0 (by decide) (by decide) (allB_0 (by decide)) (by have cc0 := (show Int32.toInt 0 = 0 from rfl); omega)
set_option maxRecDepth 20000 in
set_option maxHeartbeats 4000000 in
theorem t_X11_areWallsToPull {s : Nat} {h : im_H} (hI : tI h) (q_s : s = 140 ∨ s = 142 ∨ s = 144 ∨ s = 146) : CaP 3 86 [.ref 16, .ref (16 + s)] h (pI h (fun y => (y.toInt = 0) ∨ (y.toInt = 1 ∧ ∃ p : Int32, rd h s 1 = some (.int p) ∧ 0 ≤ p.toInt ∧ p.toInt ≤ 40 ∧ allB h (s + 1) 0 p.toInt 15))) := by
  refine cap_of (d := 2) (M := mX11_areWallsToPull) rfl (Nat.le_of_ble_eq_true rfl) ?_
  show EvP im_K0 2 mX11_areWallsToPull (0, [(0, .ref 16), (1, .ref (16 + s))], [], h) _
  refine te_iconst (p2 := 1) (x := 0) rfl rfl (by decide) ?_
  refine te_istore_n (p2 := 2) (lv2 := [(2, .int 0), (0, .ref 16), (1, .ref (16 + s))]) rfl rfl (by decide) rfl ?_
  have lp1 : ∀ (n1 : Nat) (v1_2 : Int32) , 0 ≤ v1_2.toInt → v1_2.toInt ≤ 40 → allB h (s + 1) 0 v1_2.toInt 15 → 40 - v1_2.toInt < (n1 : Int) → EvP im_K0 2 mX11_areWallsToPull (2, [(0, .ref 16), (1, .ref (16 + s)), (2, .int v1_2)], [], h) (pI h (fun y => (y.toInt = 0) ∨ (y.toInt = 1 ∧ ∃ p : Int32, rd h s 1 = some (.int p) ∧ 0 ≤ p.toInt ∧ p.toInt ≤ 40 ∧ allB h (s + 1) 0 p.toInt 15))) := by
    intro n1
    induction n1 with
    | zero => intro v1_2 a1_2 b1_2 w1_0 m1; exfalso; omega
    | succ n1 ih1 =>
      intro v1_2 a1_2 b1_2 w1_0 m1
      refine te_iload_n (p2 := 3) rfl rfl rfl ?_
      refine te_aload_n (p2 := 4) rfl rfl rfl ?_
      refine tg_i (p2 := 7) (i := s) rfl rfl hI rfl (by rcases q_s with rfl | rfl | rfl | rfl <;> rfl) (by rcases q_s with rfl | rfl | rfl | rfl <;> rfl) (fun y2 a2 b2 e2 => ?_)
      refine tb_ge (p2 := 10) rfl rfl rfl rfl (fun c3 => ?_) (fun c3 => ?_)
      · refine te_iconst (p2 := 61) (x := 1) rfl rfl (by decide) ?_
        exact te_zret rfl rfl (by decide) ⟨rfl, _, rfl, Or.inr ⟨by decide, y2, e2, by omega, by omega, allB_le w1_0 (by omega)⟩⟩
      · refine te_aload_n (p2 := 11) rfl rfl rfl ?_
        refine tg_r (p2 := 14) (i := s) (r := (16 + (s + 1))) rfl rfl hI rfl (by rcases q_s with rfl | rfl | rfl | rfl <;> rfl) (by rcases q_s with rfl | rfl | rfl | rfl <;> rfl) ?_
        refine te_iload_n (p2 := 15) rfl rfl rfl ?_
        refine tl_i (p2 := 16) (i := (s + 1)) (n := 40) rfl rfl hI rfl (by rcases q_s with rfl | rfl | rfl | rfl <;> rfl) (by rcases q_s with rfl | rfl | rfl | rfl <;> rfl) rfl (by omega) (by omega) (fun y4 a4 b4 g4 e4 => ?_)
        refine te_istore_n (p2 := 17) (lv2 := [(3, .int y4), (0, .ref 16), (1, .ref (16 + s)), (2, .int v1_2)]) rfl rfl (by decide) rfl ?_
        refine te_iload_n (p2 := 18) rfl rfl rfl ?_
        refine te_aload_n (p2 := 19) rfl rfl rfl ?_
        refine tg_r (p2 := 22) (i := 0) (r := 17) rfl rfl hI rfl rfl rfl ?_
        refine tg_i (p2 := 25) (i := 1) rfl rfl hI rfl rfl rfl (fun y5 a5 b5 e5 => ?_)
        refine cS_pI (p2 := 28) rfl rfl rfl rfl (t_X11_within (n := y4) (b := y5) hI ) (by decide) (fun y6 r6 => ?_)
        rcases r6 with ⟨w6, c6⟩ | ⟨w6, c6⟩
        · subst w6
          refine tz_eq (p2 := 31) rfl rfl (show Int32.toInt 1 = 1 from rfl) (fun c7 => absurd c7 (by omega)) (fun c7 => ?_)
          refine te_aload_n (p2 := 32) rfl rfl rfl ?_
          refine tg_r (p2 := 35) (i := 0) (r := 39) rfl rfl hI rfl rfl rfl ?_
          refine tg_r (p2 := 38) (i := 23) (r := 48) rfl rfl hI rfl rfl rfl ?_
          refine te_iload_n (p2 := 39) rfl rfl rfl ?_
          refine tl_b (p2 := 40) (i := 32) (n := 16) rfl rfl hI rfl rfl rfl rfl (by omega) (by omega) (fun y8 a8 e8 => ?_)
          refine tz_eq (p2 := 43) rfl rfl rfl (fun c9 => ?_) (fun c9 => ?_)
          · refine te_iconst (p2 := 53) (x := 0) rfl rfl (by decide) ?_
            exact te_zret rfl rfl (by decide) ⟨rfl, _, rfl, Or.inl (by decide)⟩
          · refine te_aload_n (p2 := 44) rfl rfl rfl ?_
            refine te_iload_n (p2 := 45) rfl rfl rfl ?_
            refine te_iload_n (p2 := 46) rfl rfl rfl ?_
            refine cV_pI (p2 := 49) (i := s) rfl rfl rfl rfl hI rfl (by rcases q_s with rfl | rfl | rfl | rfl <;> rfl) rfl (t_X8_hasAheadOf (s := s) (i := v1_2) (number := y4) hI q_s (by omega) (by omega)) (by decide) (fun y10 r10 => ?_)
            obtain ⟨a10, b10⟩ := r10
            refine tz_eq (p2 := 52) rfl rfl rfl (fun c11 => ?_) (fun c11 => ?_)
            · refine ar_inc (p2 := 57) (x := v1_2) rfl rfl (by decide) rfl (by decide) rfl (by omega) (by omega) (fun z12 e12 f12 => ?_)
              show EvP _ _ _ (57, [(2, .int z12), (3, .int y4), (0, .ref 16), (1, .ref (16 + s))], [], h) _
              refine te_goto rfl ?_
              refine te_lv [(0, .ref 16), (1, .ref (16 + s)), (2, .int z12)] rfl rfl ⟨rfl, rfl, rfl, trivial⟩ ?_
              exact ih1 z12 (by omega) (by omega) (allB_s (k := v1_2.toInt.toNat) w1_0 (by omega) f12 (by rw [Nat.zero_add]; exact e4) (by omega) (by omega)) (by omega)
            · refine te_iconst (p2 := 53) (x := 0) rfl rfl (by decide) ?_
              exact te_zret rfl rfl (by decide) ⟨rfl, _, rfl, Or.inl (by decide)⟩
        · subst w6
          refine tz_eq (p2 := 31) rfl rfl (show Int32.toInt 0 = 0 from rfl) (fun c13 => ?_) (fun c13 => absurd c13 (by omega))
          refine te_iconst (p2 := 53) (x := 0) rfl rfl (by decide) ?_
          exact te_zret rfl rfl (by decide) ⟨rfl, _, rfl, Or.inl (by decide)⟩
  refine te_lv [(0, .ref 16), (1, .ref (16 + s)), (2, .int 0)] rfl rfl ⟨rfl, rfl, rfl, trivial⟩ ?_
  exact lp1 41 0 (by decide) (by decide) (allB_0 (by decide)) (by have cc0 := (show Int32.toInt 0 = 0 from rfl); omega)
abbrev F_X0_setHands : List (Nat × Nat × Nat) := [(12, 1, 1), (13, 0, 7), (14, 1, 1), (15, 0, 7), (16, 1, 1), (17, 0, 7), (18, 1, 1), (19, 0, 7), (6, 0, 23)]
set_option maxRecDepth 20000 in
set_option maxHeartbeats 4000000 in
theorem t_X0_setHands {rr : Int32} {s : Nat} {h : im_H} (hI : tI h) (p_rr0 : 0 ≤ rr.toInt) (p_rr1 : rr.toInt ≤ 3) (q_s : s = 140 ∨ s = 142 ∨ s = 144 ∨ s = 146) (pr0 : ∀ p : Int32, rd h s 1 = some (.int p) → allB h (s + 1) 0 p.toInt 23) (hp0 : ∃ p : Int32, rd h s 1 = some (.int p) ∧ 0 ≤ p.toInt ∧ p.toInt ≤ 8) : CaP 1 1 [.ref 17, .int rr, .ref (16 + s)] h (mV h F_X0_setHands) := by
  refine cap_of (d := 0) (M := mX0_setHands) rfl (Nat.le_of_ble_eq_true rfl) ?_
  show EvP im_K0 0 mX0_setHands (0, [(0, .ref 17), (1, .int rr), (2, .ref (16 + s))], [], h) _
  obtain ⟨pp0, ep0, ap0, bp0⟩ := hp0
  have f0 : fr F_X0_setHands h h := fr_rf
  refine te_iconst (p2 := 1) (x := 0) rfl rfl (by decide) ?_
  refine te_istore_n (p2 := 2) (lv2 := [(3, .int 0), (0, .ref 17), (1, .int rr), (2, .ref (16 + s))]) rfl rfl (by decide) rfl ?_
  have lp1 : ∀ (n1 : Nat) (v1_3 : Int32) (h1 : im_H), tI h1 → fr F_X0_setHands h h1 → 0 ≤ v1_3.toInt → v1_3.toInt ≤ 24 → 24 - v1_3.toInt < (n1 : Int) → EvP im_K0 0 mX0_setHands (2, [(0, .ref 17), (1, .int rr), (2, .ref (16 + s)), (3, .int v1_3)], [], h1) (mV h F_X0_setHands) := by
    intro n1
    induction n1 with
    | zero => intro v1_3 h1 I1 f1 a1_3 b1_3 m1; exfalso; omega
    | succ n1 ih1 =>
      intro v1_3 h1 I1 f1 a1_3 b1_3 m1
      refine te_iload_n (p2 := 3) rfl rfl rfl ?_
      refine te_bipush (p2 := 5) (x := 24) rfl rfl (by decide) ?_
      refine tb_ge (p2 := 8) rfl rfl rfl (show Int32.toInt 24 = 24 from rfl) (fun c2 => ?_) (fun c2 => ?_)
      · refine te_aload_n (p2 := 32) rfl rfl rfl ?_
        refine tg_r (p2 := 35) (i := 1) (r := 23) rfl rfl I1 rfl rfl rfl ?_
        refine te_iload_n (p2 := 36) rfl rfl rfl ?_
        refine tl_f (p2 := 37) (i := 7) (n := 4) (c0 := 12) (sp := 2) rfl rfl I1 rfl rfl (by decide) rq_7 (by omega) (by omega) (fun o3 w3 => ?_)
        have q3 : o3 = 12 ∨ o3 = 14 ∨ o3 = 16 ∨ o3 = 18 := by omega
        refine te_aload_n (p2 := 38) rfl rfl rfl ?_
        refine tg_e (p2 := 41) (i := s) (v := .int pp0) rfl rfl I1 rfl (by rcases q_s with rfl | rfl | rfl | rfl <;> rfl) ((f1 _ _ (by rcases q_s with rfl | rfl | rfl | rfl <;> rfl)).trans ep0) ?_
        refine tp_i (p2 := 44) (i := o3) rfl rfl I1 rfl (by rcases q3 with rfl | rfl | rfl | rfl <;> rfl) (by decide) rfl rfl (by rcases q3 with rfl | rfl | rfl | rfl <;> rfl) (by omega) (by omega) (by omega) (by rcases q3 with rfl | rfl | rfl | rfl <;> rfl) (fun h4 I4 u4 => ?_)
        have f4 := fr_up (F := F_X0_setHands) (a := 1) (b := 1) f1 u4 (by rcases q3 with rfl | rfl | rfl | rfl <;> decide) (by decide) (by decide)
        refine te_iconst (p2 := 45) (x := 0) rfl rfl (by decide) ?_
        refine te_istore_n (p2 := 46) (lv2 := [(3, .int 0), (0, .ref 17), (1, .int rr), (2, .ref (16 + s))]) rfl rfl (by decide) rfl ?_
        have lp5 : ∀ (n5 : Nat) (v5_3 : Int32) (h5 : im_H), tI h5 → fr F_X0_setHands h h5 → 0 ≤ v5_3.toInt → v5_3.toInt ≤ 8 → 8 - v5_3.toInt < (n5 : Int) → EvP im_K0 0 mX0_setHands (46, [(0, .ref 17), (1, .int rr), (2, .ref (16 + s)), (3, .int v5_3)], [], h5) (mV h F_X0_setHands) := by
          intro n5
          induction n5 with
          | zero => intro v5_3 h5 I5 f5 a5_3 b5_3 m5; exfalso; omega
          | succ n5 ih5 =>
            intro v5_3 h5 I5 f5 a5_3 b5_3 m5
            refine te_iload_n (p2 := 47) rfl rfl rfl ?_
            refine te_aload_n (p2 := 48) rfl rfl rfl ?_
            refine tg_e (p2 := 51) (i := s) (v := .int pp0) rfl rfl I5 rfl (by rcases q_s with rfl | rfl | rfl | rfl <;> rfl) ((f5 _ _ (by rcases q_s with rfl | rfl | rfl | rfl <;> rfl)).trans ep0) ?_
            refine tb_ge (p2 := 54) rfl rfl rfl rfl (fun c6 => ?_) (fun c6 => ?_)
            · exact te_vret rfl rfl ⟨I5, f5, rfl⟩
            · refine te_aload_n (p2 := 55) rfl rfl rfl ?_
              refine tg_r (p2 := 58) (i := 1) (r := 23) rfl rfl I5 rfl rfl rfl ?_
              refine te_iload_n (p2 := 59) rfl rfl rfl ?_
              refine tl_f (p2 := 60) (i := 7) (n := 4) (c0 := 12) (sp := 2) rfl rfl I5 rfl rfl (by decide) rq_7 (by omega) (by omega) (fun o7 w7 => ?_)
              have q7 : o7 = 12 ∨ o7 = 14 ∨ o7 = 16 ∨ o7 = 18 := by omega
              refine tg_r (p2 := 63) (i := o7) (r := (16 + (o7 + 1))) rfl rfl I5 rfl (by rcases q7 with rfl | rfl | rfl | rfl <;> rfl) (by rcases q7 with rfl | rfl | rfl | rfl <;> rfl) ?_
              refine te_iload_n (p2 := 64) rfl rfl rfl ?_
              refine te_aload_n (p2 := 65) rfl rfl rfl ?_
              refine tg_r (p2 := 68) (i := s) (r := (16 + (s + 1))) rfl rfl I5 rfl (by rcases q_s with rfl | rfl | rfl | rfl <;> rfl) (by rcases q_s with rfl | rfl | rfl | rfl <;> rfl) ?_
              refine te_iload_n (p2 := 69) rfl rfl rfl ?_
              refine tl_i (p2 := 70) (i := (s + 1)) (n := 40) rfl rfl I5 rfl (by rcases q_s with rfl | rfl | rfl | rfl <;> rfl) (by rcases q_s with rfl | rfl | rfl | rfl <;> rfl) rfl (by omega) (by omega) (fun y8 a8 b8 g8 e8 => ?_)
              obtain ⟨a9, b9⟩ := allB_at (allB_fr (pr0 pp0 ep0) (fun q => f5 _ _ (by rcases q_s with rfl | rfl | rfl | rfl <;> rfl))) v5_3.toInt.toNat (by omega) (by rw [Nat.zero_add]) e8
              refine ts_i (p2 := 71) (i := (o7 + 1)) (n := 8) rfl rfl I5 rfl (by rcases q7 with rfl | rfl | rfl | rfl <;> rfl) (by rcases q7 with rfl | rfl | rfl | rfl <;> rfl) rfl (by omega) (by omega) (by omega) (by omega) (by omega) (by rcases q7 with rfl | rfl | rfl | rfl <;> rfl) (fun h10 I10 u10 => ?_)
              have f10 := fr_up (F := F_X0_setHands) (a := 0) (b := 7) f5 u10 (by rcases q7 with rfl | rfl | rfl | rfl <;> decide) (by omega) (by omega)
              refine te_aload_n (p2 := 72) rfl rfl rfl ?_
              refine tg_r (p2 := 75) (i := 1) (r := 22) rfl rfl I10 rfl rfl rfl ?_
              refine te_aload_n (p2 := 76) rfl rfl rfl ?_
              refine tg_r (p2 := 79) (i := s) (r := (16 + (s + 1))) rfl rfl I10 rfl (by rcases q_s with rfl | rfl | rfl | rfl <;> rfl) (by rcases q_s with rfl | rfl | rfl | rfl <;> rfl) ?_
              refine te_iload_n (p2 := 80) rfl rfl rfl ?_
              refine tl_e (p2 := 81) (i := (s + 1)) (n := 40) (t := 0) (Or.inl rfl) rfl rfl I10 rfl (by rcases q_s with rfl | rfl | rfl | rfl <;> rfl) (by omega) (by omega) ((u10.2 _ _ (Or.inl (by omega))).trans e8) ?_
              obtain ⟨a12, b12⟩ := allB_at (allB_fr (pr0 pp0 ep0) (fun q => f10 _ _ (by rcases q_s with rfl | rfl | rfl | rfl <;> rfl))) v5_3.toInt.toNat (by omega) (by rw [Nat.zero_add]) ((u10.2 _ _ (Or.inl (by omega))).trans e8)
              refine te_iload_n (p2 := 82) rfl rfl rfl ?_
              refine ts_i (p2 := 83) (i := 6) (n := 24) rfl rfl I10 rfl rfl rfl rfl (by omega) (by omega) (by omega) (by omega) (by omega) rfl (fun h13 I13 u13 => ?_)
              have f13 := fr_st (F := F_X0_setHands) 8 f10 u13 rfl (by omega) (by omega)
              refine ar_inc (p2 := 86) (x := v5_3) rfl rfl (by decide) rfl (by decide) rfl (by omega) (by omega) (fun z14 e14 f14 => ?_)
              show EvP _ _ _ (86, [(3, .int z14), (0, .ref 17), (1, .int rr), (2, .ref (16 + s))], [], h13) _
              refine te_goto rfl ?_
              refine te_lv [(0, .ref 17), (1, .int rr), (2, .ref (16 + s)), (3, .int z14)] rfl rfl ⟨rfl, rfl, rfl, rfl, trivial⟩ ?_
              exact ih5 z14 h13 I13 f13 (by omega) (by omega) (by omega)
        refine te_lv [(0, .ref 17), (1, .int rr), (2, .ref (16 + s)), (3, .int 0)] rfl rfl ⟨rfl, rfl, rfl, rfl, trivial⟩ ?_
        exact lp5 9 0 h4 I4 f4 (by decide) (by decide) (by have cc0 := (show Int32.toInt 0 = 0 from rfl); omega)
      · refine te_aload_n (p2 := 9) rfl rfl rfl ?_
        refine tg_r (p2 := 12) (i := 1) (r := 22) rfl rfl I1 rfl rfl rfl ?_
        refine te_iload_n (p2 := 13) rfl rfl rfl ?_
        refine tl_i (p2 := 14) (i := 6) (n := 24) rfl rfl I1 rfl rfl rfl rfl (by omega) (by omega) (fun y15 a15 b15 g15 e15 => ?_)
        refine te_iload_n (p2 := 15) rfl rfl rfl ?_
        refine tb_ne (p2 := 18) rfl rfl rfl rfl (fun c16 => ?_) (fun c16 => ?_)
        · refine ar_inc (p2 := 28) (x := v1_3) rfl rfl (by decide) rfl (by decide) rfl (by omega) (by omega) (fun z17 e17 f17 => ?_)
          show EvP _ _ _ (28, [(3, .int z17), (0, .ref 17), (1, .int rr), (2, .ref (16 + s))], [], h1) _
          refine te_goto rfl ?_
          refine te_lv [(0, .ref 17), (1, .int rr), (2, .ref (16 + s)), (3, .int z17)] rfl rfl ⟨rfl, rfl, rfl, rfl, trivial⟩ ?_
          exact ih1 z17 h1 I1 f1 (by omega) (by omega) (by omega)
        · refine te_aload_n (p2 := 19) rfl rfl rfl ?_
          refine tg_r (p2 := 22) (i := 1) (r := 22) rfl rfl I1 rfl rfl rfl ?_
          refine te_iload_n (p2 := 23) rfl rfl rfl ?_
          refine te_iconst (p2 := 24) (x := (-1)) rfl rfl (by decide) ?_
          refine ts_i (p2 := 25) (i := 6) (n := 24) rfl rfl I1 rfl rfl rfl rfl (by omega) (by omega) (by decide) (by decide) (by decide) rfl (fun h18 I18 u18 => ?_)
          have f18 := fr_st (F := F_X0_setHands) 8 f1 u18 rfl (by omega) (by omega)
          refine ar_inc (p2 := 28) (x := v1_3) rfl rfl (by decide) rfl (by decide) rfl (by omega) (by omega) (fun z19 e19 f19 => ?_)
          show EvP _ _ _ (28, [(3, .int z19), (0, .ref 17), (1, .int rr), (2, .ref (16 + s))], [], h18) _
          refine te_goto rfl ?_
          refine te_lv [(0, .ref 17), (1, .int rr), (2, .ref (16 + s)), (3, .int z19)] rfl rfl ⟨rfl, rfl, rfl, rfl, trivial⟩ ?_
          exact ih1 z19 h18 I18 f18 (by omega) (by omega) (by omega)
  refine te_lv [(0, .ref 17), (1, .int rr), (2, .ref (16 + s)), (3, .int 0)] rfl rfl ⟨rfl, rfl, rfl, rfl, trivial⟩ ?_
  exact lp1 25 0 h hI f0 (by decide) (by decide) (by have cc0 := (show Int32.toInt 0 = 0 from rfl); omega)
abbrev F_X11_row : List (Nat × Nat × Nat) := [(12, 1, 3), (13, 0, 7), (14, 1, 3), (15, 0, 7), (16, 1, 3), (17, 0, 7), (18, 1, 3), (19, 0, 7), (6, 0, 23)]
set_option maxRecDepth 20000 in
set_option maxHeartbeats 4000000 in
theorem t_X11_row {x1 : Int32} {x2 : Int32} {x3 : Int32} {x4 : Int32} {h : im_H} (hI : tI h)  : CaP 4 67 [.ref 16, .int x1, .int x2, .int x3, .int x4] h (mI h F_X11_row (fun _ => True)) := by
  refine cap_of (d := 3) (M := mX11_row) rfl (Nat.le_of_ble_eq_true rfl) ?_
  show EvP im_K0 3 mX11_row (0, [(0, .ref 16), (1, .int x1), (2, .int x2), (3, .int x3), (4, .int x4)], [], h) _
  have f0 : fr F_X11_row h h := fr_rf
  refine te_iload_n (p2 := 1) rfl rfl rfl ?_
  refine te_iconst (p2 := 2) (x := 4) rfl rfl (by decide) ?_
  refine cS_pI (p2 := 5) rfl rfl rfl rfl (t_X11_within (n := x1) (b := 4) hI ) (by decide) (fun y1 r1 => ?_)
  rcases r1 with ⟨w1, c1⟩ | ⟨w1, c1⟩
  · subst w1
    have cc1_1 := (show Int32.toInt 4 = 4 from rfl)
    refine tz_eq (p2 := 8) rfl rfl (show Int32.toInt 1 = 1 from rfl) (fun c2 => absurd c2 (by omega)) (fun c2 => ?_)
    refine te_iload_n (p2 := 9) rfl rfl rfl ?_
    refine te_iconst (p2 := 10) (x := 4) rfl rfl (by decide) ?_
    refine cS_pI (p2 := 13) rfl rfl rfl rfl (t_X11_within (n := x2) (b := 4) hI ) (by decide) (fun y3 r3 => ?_)
    rcases r3 with ⟨w3, c3⟩ | ⟨w3, c3⟩
    · subst w3
      have cc3_1 := (show Int32.toInt 4 = 4 from rfl)
      refine tz_eq (p2 := 16) rfl rfl (show Int32.toInt 1 = 1 from rfl) (fun c4 => absurd c4 (by omega)) (fun c4 => ?_)
      refine te_iload_n (p2 := 17) rfl rfl rfl ?_
      refine te_bipush (p2 := 19) (x := 100) rfl rfl (by decide) ?_
      refine cS_pI (p2 := 22) rfl rfl rfl rfl (t_X11_within (n := x3) (b := 100) hI ) (by decide) (fun y5 r5 => ?_)
      rcases r5 with ⟨w5, c5⟩ | ⟨w5, c5⟩
      · subst w5
        have cc5_1 := (show Int32.toInt 100 = 100 from rfl)
        refine tz_eq (p2 := 25) rfl rfl (show Int32.toInt 1 = 1 from rfl) (fun c6 => absurd c6 (by omega)) (fun c6 => ?_)
        refine te_iload (p2 := 27) rfl rfl rfl ?_
        refine te_bipush (p2 := 29) (x := 100) rfl rfl (by decide) ?_
        refine cS_pI (p2 := 32) rfl rfl rfl rfl (t_X11_within (n := x4) (b := 100) hI ) (by decide) (fun y7 r7 => ?_)
        rcases r7 with ⟨w7, c7⟩ | ⟨w7, c7⟩
        · subst w7
          have cc7_1 := (show Int32.toInt 100 = 100 from rfl)
          refine tz_ne (p2 := 35) rfl rfl (show Int32.toInt 1 = 1 from rfl) (fun c8 => ?_) (fun c8 => absurd c8 (by omega))
          refine te_aload_n (p2 := 38) rfl rfl rfl ?_
          refine tg_r (p2 := 41) (i := 0) (r := 113) rfl rfl hI rfl rfl rfl ?_
          refine te_iload_n (p2 := 42) rfl rfl rfl ?_
          refine tl_f (p2 := 43) (i := 97) (n := 4) (c0 := 140) (sp := 2) rfl rfl hI rfl rfl (by decide) rq_97 (by omega) (by omega) (fun o9 w9 => ?_)
          have q9 : o9 = 140 ∨ o9 = 142 ∨ o9 = 144 ∨ o9 = 146 := by omega
          refine te_astore (p2 := 45) (lv2 := [(5, .ref (16 + o9)), (0, .ref 16), (1, .int x1), (2, .int x2), (3, .int x3), (4, .int x4)]) rfl rfl (by decide) rfl ?_
          refine te_aload (p2 := 47) rfl rfl rfl ?_
          refine cV_pI (p2 := 50) (i := o9) rfl rfl rfl rfl hI rfl (by rcases q9 with rfl | rfl | rfl | rfl <;> rfl) rfl (t_X8_isMissing (s := o9) hI q9) (by decide) (fun y10 r10 => ?_)
          obtain ⟨a10, b10⟩ := r10
          refine tz_eq (p2 := 53) rfl rfl rfl (fun c11 => ?_) (fun c11 => ?_)
          · refine te_aload (p2 := 58) rfl rfl rfl ?_
            refine tg_i (p2 := 61) (i := o9) rfl rfl hI rfl (by rcases q9 with rfl | rfl | rfl | rfl <;> rfl) (by rcases q9 with rfl | rfl | rfl | rfl <;> rfl) (fun y12 a12 b12 e12 => ?_)
            refine te_bipush (p2 := 63) (x := 8) rfl rfl (by decide) ?_
            refine tb_gt (p2 := 66) rfl rfl rfl (show Int32.toInt 8 = 8 from rfl) (fun c13 => ?_) (fun c13 => ?_)
            · refine te_bipush (p2 := 77) (x := (-2)) rfl rfl (by decide) ?_
              exact te_iret rfl rfl ⟨hI, f0, _, rfl, trivial⟩
            · refine te_iload_n (p2 := 67) rfl rfl rfl ?_
              refine te_iload (p2 := 69) rfl rfl rfl ?_
              refine cS_pI (p2 := 72) rfl rfl rfl rfl (t_X11_areBeside (c := x3) (o := x4) hI (by omega) (by omega)) (by decide) (fun y14 r14 => ?_)
              obtain ⟨a14, b14⟩ := r14
              refine tz_ne (p2 := 75) rfl rfl rfl (fun c15 => ?_) (fun c15 => ?_)
              · refine te_aload_n (p2 := 79) rfl rfl rfl ?_
                refine te_iload_n (p2 := 80) rfl rfl rfl ?_
                refine te_aload (p2 := 82) rfl rfl rfl ?_
                refine cV_pI (p2 := 85) (i := 0) rfl rfl rfl rfl hI rfl rfl rfl (t_X11_refusalOfHands (s := o9) (rr := x1) hI (by omega) (by omega) q9) (by decide) (fun y16 r16 => ?_)
                rcases r16 with r16 | ⟨r16, p16, e16, a16, b16, w16⟩
                · refine te_istore (p2 := 87) (lv2 := [(6, .int y16), (5, .ref (16 + o9)), (0, .ref 16), (1, .int x1), (2, .int x2), (3, .int x3), (4, .int x4)]) rfl rfl (by decide) rfl ?_
                  refine te_iload (p2 := 89) rfl rfl rfl ?_
                  refine tz_ge (p2 := 92) rfl rfl rfl (fun c17 => absurd c17 (by omega)) (fun c17 => ?_)
                  refine te_iload (p2 := 94) rfl rfl rfl ?_
                  exact te_iret rfl rfl ⟨hI, f0, _, rfl, trivial⟩
                · have x16 : p16 = y12 := int_inj e16 e12
                  rw [x16] at w16
                  refine te_istore (p2 := 87) (lv2 := [(6, .int y16), (5, .ref (16 + o9)), (0, .ref 16), (1, .int x1), (2, .int x2), (3, .int x3), (4, .int x4)]) rfl rfl (by decide) rfl ?_
                  refine te_iload (p2 := 89) rfl rfl rfl ?_
                  refine tz_ge (p2 := 92) rfl rfl rfl (fun c18 => ?_) (fun c18 => absurd c18 (by omega))
                  refine te_aload_n (p2 := 96) rfl rfl rfl ?_
                  refine tg_r (p2 := 99) (i := 0) (r := 17) rfl rfl hI rfl rfl rfl ?_
                  refine te_iload_n (p2 := 100) rfl rfl rfl ?_
                  refine te_aload (p2 := 102) rfl rfl rfl ?_
                  refine cV_mV (p2 := 105) (i := 1) rfl rfl rfl rfl hI rfl rfl rfl (t_X0_setHands (s := o9) (rr := x1) hI (by omega) (by omega) q9 (fun p e => by rw [(int_inj e e12 : p = y12)]; exact w16) ⟨y12, e12, by omega, by omega⟩) (by decide) (fun h19 I19 g19 => ?_)
                  have f19 := fr_tr (F1 := F_X0_setHands) (F := F_X11_row) f0 g19 (by decide)
                  refine te_aload_n (p2 := 106) rfl rfl rfl ?_
                  refine tg_r (p2 := 109) (i := 0) (r := 17) rfl rfl I19 rfl rfl rfl ?_
                  refine tg_r (p2 := 112) (i := 1) (r := 23) rfl rfl I19 rfl rfl rfl ?_
                  refine te_iload_n (p2 := 113) rfl rfl rfl ?_
                  refine tl_f (p2 := 114) (i := 7) (n := 4) (c0 := 12) (sp := 2) rfl rfl I19 rfl rfl (by decide) rq_7 (by omega) (by omega) (fun o20 w20 => ?_)
                  have q20 : o20 = 12 ∨ o20 = 14 ∨ o20 = 16 ∨ o20 = 18 := by omega
                  refine te_iload_n (p2 := 115) rfl rfl rfl ?_
                  refine tp_i (p2 := 118) (i := o20) rfl rfl I19 rfl (by rcases q20 with rfl | rfl | rfl | rfl <;> rfl) (by decide) rfl rfl (by rcases q20 with rfl | rfl | rfl | rfl <;> rfl) (by omega) (by omega) (by omega) (by rcases q20 with rfl | rfl | rfl | rfl <;> rfl) (fun h21 I21 u21 => ?_)
                  have f21 := fr_up (F := F_X11_row) (a := 1) (b := 3) f19 u21 (by rcases q20 with rfl | rfl | rfl | rfl <;> decide) (by decide) (by decide)
                  refine te_aload_n (p2 := 119) rfl rfl rfl ?_
                  refine tg_r (p2 := 122) (i := 0) (r := 17) rfl rfl I21 rfl rfl rfl ?_
                  refine tg_r (p2 := 125) (i := 1) (r := 23) rfl rfl I21 rfl rfl rfl ?_
                  refine te_iload_n (p2 := 126) rfl rfl rfl ?_
                  refine tl_f (p2 := 127) (i := 7) (n := 4) (c0 := 12) (sp := 2) rfl rfl I21 rfl rfl (by decide) rq_7 (by omega) (by omega) (fun o22 w22 => ?_)
                  have q22 : o22 = 12 ∨ o22 = 14 ∨ o22 = 16 ∨ o22 = 18 := by omega
                  refine te_iload (p2 := 129) rfl rfl rfl ?_
                  refine tp_i (p2 := 132) (i := o22) rfl rfl I21 rfl (by rcases q22 with rfl | rfl | rfl | rfl <;> rfl) (by decide) rfl rfl (by rcases q22 with rfl | rfl | rfl | rfl <;> rfl) (by omega) (by omega) (by omega) (by rcases q22 with rfl | rfl | rfl | rfl <;> rfl) (fun h23 I23 u23 => ?_)
                  have f23 := fr_up (F := F_X11_row) (a := 1) (b := 3) f21 u23 (by rcases q22 with rfl | rfl | rfl | rfl <;> decide) (by decide) (by decide)
                  refine te_aload (p2 := 134) rfl rfl rfl ?_
                  refine tg_e (p2 := 137) (i := o9) (v := .int y12) rfl rfl I23 rfl (by rcases q9 with rfl | rfl | rfl | rfl <;> rfl) ((u23.2 _ _ (Or.inl (by omega))).trans ((u21.2 _ _ (Or.inl (by omega))).trans ((g19 _ _ (by rcases q9 with rfl | rfl | rfl | rfl <;> rfl)).trans e12))) ?_
                  exact te_iret rfl rfl ⟨I23, f23, _, rfl, trivial⟩
              · refine te_bipush (p2 := 77) (x := (-2)) rfl rfl (by decide) ?_
                exact te_iret rfl rfl ⟨hI, f0, _, rfl, trivial⟩
          · refine te_bipush (p2 := 55) (x := (-11)) rfl rfl (by decide) ?_
            exact te_iret rfl rfl ⟨hI, f0, _, rfl, trivial⟩
        · subst w7
          have cc7_1 := (show Int32.toInt 100 = 100 from rfl)
          refine tz_ne (p2 := 35) rfl rfl (show Int32.toInt 0 = 0 from rfl) (fun c24 => absurd c24 (by omega)) (fun c24 => ?_)
          refine te_iconst (p2 := 36) (x := (-1)) rfl rfl (by decide) ?_
          exact te_iret rfl rfl ⟨hI, f0, _, rfl, trivial⟩
      · subst w5
        have cc5_1 := (show Int32.toInt 100 = 100 from rfl)
        refine tz_eq (p2 := 25) rfl rfl (show Int32.toInt 0 = 0 from rfl) (fun c25 => ?_) (fun c25 => absurd c25 (by omega))
        refine te_iconst (p2 := 36) (x := (-1)) rfl rfl (by decide) ?_
        exact te_iret rfl rfl ⟨hI, f0, _, rfl, trivial⟩
    · subst w3
      have cc3_1 := (show Int32.toInt 4 = 4 from rfl)
      refine tz_eq (p2 := 16) rfl rfl (show Int32.toInt 0 = 0 from rfl) (fun c26 => ?_) (fun c26 => absurd c26 (by omega))
      refine te_iconst (p2 := 36) (x := (-1)) rfl rfl (by decide) ?_
      exact te_iret rfl rfl ⟨hI, f0, _, rfl, trivial⟩
  · subst w1
    have cc1_1 := (show Int32.toInt 4 = 4 from rfl)
    refine tz_eq (p2 := 8) rfl rfl (show Int32.toInt 0 = 0 from rfl) (fun c27 => ?_) (fun c27 => absurd c27 (by omega))
    refine te_iconst (p2 := 36) (x := (-1)) rfl rfl (by decide) ?_
    exact te_iret rfl rfl ⟨hI, f0, _, rfl, trivial⟩
abbrev F_X11_rail : List (Nat × Nat × Nat) := [(20, 0, 3), (21, 0, 3), (22, 0, 3)]
set_option maxRecDepth 20000 in
set_option maxHeartbeats 4000000 in
theorem t_X11_rail {x1 : Int32} {x2 : Int32} {x3 : Int32} {h : im_H} (hI : tI h)  : CaP 4 69 [.ref 16, .int x1, .int x2, .int x3] h (mI h F_X11_rail (fun _ => True)) := by
  refine cap_of (d := 3) (M := mX11_rail) rfl (Nat.le_of_ble_eq_true rfl) ?_
  show EvP im_K0 3 mX11_rail (0, [(0, .ref 16), (1, .int x1), (2, .int x2), (3, .int x3)], [], h) _
  have f0 : fr F_X11_rail h h := fr_rf
  refine te_iload_n (p2 := 1) rfl rfl rfl ?_
  refine te_iconst (p2 := 2) (x := 3) rfl rfl (by decide) ?_
  refine cS_pI (p2 := 5) rfl rfl rfl rfl (t_X11_within (n := x1) (b := 3) hI ) (by decide) (fun y1 r1 => ?_)
  rcases r1 with ⟨w1, c1⟩ | ⟨w1, c1⟩
  · subst w1
    have cc1_1 := (show Int32.toInt 3 = 3 from rfl)
    refine tz_eq (p2 := 8) rfl rfl (show Int32.toInt 1 = 1 from rfl) (fun c2 => absurd c2 (by omega)) (fun c2 => ?_)
    refine te_iload_n (p2 := 9) rfl rfl rfl ?_
    refine te_iconst (p2 := 10) (x := 4) rfl rfl (by decide) ?_
    refine cS_pI (p2 := 13) rfl rfl rfl rfl (t_X11_within (n := x2) (b := 4) hI ) (by decide) (fun y3 r3 => ?_)
    rcases r3 with ⟨w3, c3⟩ | ⟨w3, c3⟩
    · subst w3
      have cc3_1 := (show Int32.toInt 4 = 4 from rfl)
      refine tz_ne (p2 := 16) rfl rfl (show Int32.toInt 1 = 1 from rfl) (fun c4 => ?_) (fun c4 => absurd c4 (by omega))
      refine te_aload_n (p2 := 19) rfl rfl rfl ?_
      refine tg_r (p2 := 22) (i := 0) (r := 113) rfl rfl hI rfl rfl rfl ?_
      refine te_iload_n (p2 := 23) rfl rfl rfl ?_
      refine tl_f (p2 := 24) (i := 97) (n := 4) (c0 := 140) (sp := 2) rfl rfl hI rfl rfl (by decide) rq_97 (by omega) (by omega) (fun o5 w5 => ?_)
      have q5 : o5 = 140 ∨ o5 = 142 ∨ o5 = 144 ∨ o5 = 146 := by omega
      refine te_astore (p2 := 26) (lv2 := [(4, .ref (16 + o5)), (0, .ref 16), (1, .int x1), (2, .int x2), (3, .int x3)]) rfl rfl (by decide) rfl ?_
      refine te_aload (p2 := 28) rfl rfl rfl ?_
      refine cV_pI (p2 := 31) (i := o5) rfl rfl rfl rfl hI rfl (by rcases q5 with rfl | rfl | rfl | rfl <;> rfl) rfl (t_X8_isMissing (s := o5) hI q5) (by decide) (fun y6 r6 => ?_)
      obtain ⟨a6, b6⟩ := r6
      refine tz_eq (p2 := 34) rfl rfl rfl (fun c7 => ?_) (fun c7 => ?_)
      · refine te_aload (p2 := 39) rfl rfl rfl ?_
        refine tg_i (p2 := 42) (i := o5) rfl rfl hI rfl (by rcases q5 with rfl | rfl | rfl | rfl <;> rfl) (by rcases q5 with rfl | rfl | rfl | rfl <;> rfl) (fun y8 a8 b8 e8 => ?_)
        refine te_iconst (p2 := 43) (x := 1) rfl rfl (by decide) ?_
        refine tb_eq (p2 := 46) rfl rfl rfl (show Int32.toInt 1 = 1 from rfl) (fun c9 => ?_) (fun c9 => ?_)
        · refine te_bipush (p2 := 76) (x := (-2)) rfl rfl (by decide) ?_
          exact te_iret rfl rfl ⟨hI, f0, _, rfl, trivial⟩
        · refine te_aload (p2 := 48) rfl rfl rfl ?_
          refine tg_e (p2 := 51) (i := o5) (v := .int y8) rfl rfl hI rfl (by rcases q5 with rfl | rfl | rfl | rfl <;> rfl) e8 ?_
          refine te_bipush (p2 := 53) (x := 12) rfl rfl (by decide) ?_
          refine tb_gt (p2 := 56) rfl rfl rfl (show Int32.toInt 12 = 12 from rfl) (fun c10 => ?_) (fun c10 => ?_)
          · refine te_bipush (p2 := 76) (x := (-2)) rfl rfl (by decide) ?_
            exact te_iret rfl rfl ⟨hI, f0, _, rfl, trivial⟩
          · refine te_iload_n (p2 := 57) rfl rfl rfl ?_
            refine te_iconst (p2 := 58) (x := 0) rfl rfl (by decide) ?_
            refine te_bipush (p2 := 60) (x := 20) rfl rfl (by decide) ?_
            refine cS_pI (p2 := 63) rfl rfl rfl rfl (t_X11_between (n := x3) (a := 0) (b := 20) hI ) (by decide) (fun y11 r11 => ?_)
            rcases r11 with ⟨w11, c11⟩ | ⟨w11, c11⟩
            · subst w11
              have cc11_1 := (show Int32.toInt 0 = 0 from rfl)
              have cc11_2 := (show Int32.toInt 20 = 20 from rfl)
              refine tz_eq (p2 := 66) rfl rfl (show Int32.toInt 1 = 1 from rfl) (fun c12 => absurd c12 (by omega)) (fun c12 => ?_)
              refine te_aload (p2 := 68) rfl rfl rfl ?_
              refine cS_pI (p2 := 71) rfl rfl rfl rfl (t_X11_isWay (s := o5)  hI  q5) (by decide) (fun y13 r13 => ?_)
              rcases r13 with r13 | ⟨r13, p13, e13, a13, b13, w13⟩
              · refine tz_ne (p2 := 74) rfl rfl rfl (fun c14 => absurd c14 (by omega)) (fun c14 => ?_)
                refine te_bipush (p2 := 76) (x := (-2)) rfl rfl (by decide) ?_
                exact te_iret rfl rfl ⟨hI, f0, _, rfl, trivial⟩
              · have x13 : p13 = y8 := int_inj e13 e8
                rw [x13] at w13
                refine tz_ne (p2 := 74) rfl rfl rfl (fun c15 => ?_) (fun c15 => absurd c15 (by omega))
                refine te_aload_n (p2 := 78) rfl rfl rfl ?_
                refine tg_r (p2 := 81) (i := 0) (r := 17) rfl rfl hI rfl rfl rfl ?_
                refine tg_r (p2 := 84) (i := 1) (r := 24) rfl rfl hI rfl rfl rfl ?_
                refine te_iload_n (p2 := 85) rfl rfl rfl ?_
                refine tl_f (p2 := 86) (i := 8) (n := 3) (c0 := 20) (sp := 1) rfl rfl hI rfl rfl (by decide) rq_8 (by omega) (by omega) (fun o16 w16 => ?_)
                have q16 : o16 = 20 ∨ o16 = 21 ∨ o16 = 22 := by omega
                refine te_astore (p2 := 88) (lv2 := [(5, .ref (16 + o16)), (4, .ref (16 + o5)), (0, .ref 16), (1, .int x1), (2, .int x2), (3, .int x3)]) rfl rfl (by decide) rfl ?_
                refine te_aload (p2 := 90) rfl rfl rfl ?_
                refine te_aload (p2 := 92) rfl rfl rfl ?_
                refine tg_e (p2 := 95) (i := o5) (v := .int y8) rfl rfl hI rfl (by rcases q5 with rfl | rfl | rfl | rfl <;> rfl) e8 ?_
                refine tp_i (p2 := 98) (i := o16) rfl rfl hI rfl (by rcases q16 with rfl | rfl | rfl <;> rfl) (by decide) rfl rfl (by rcases q16 with rfl | rfl | rfl <;> rfl) (by omega) (by omega) (by omega) (by rcases q16 with rfl | rfl | rfl <;> rfl) (fun h17 I17 u17 => ?_)
                have f17 := fr_up (F := F_X11_rail) (a := 0) (b := 3) f0 u17 (by rcases q16 with rfl | rfl | rfl <;> decide) (by decide) (by decide)
                refine te_aload (p2 := 100) rfl rfl rfl ?_
                refine te_iload_n (p2 := 101) rfl rfl rfl ?_
                refine tp_i (p2 := 104) (i := o16) rfl rfl I17 rfl (by rcases q16 with rfl | rfl | rfl <;> rfl) (by decide) rfl rfl (by rcases q16 with rfl | rfl | rfl <;> rfl) (i32_lo _) (i32_hi _) (i32_ho _) (by rcases q16 with rfl | rfl | rfl <;> rfl) (fun h18 I18 u18 => ?_)
                have f18 := fr_up (F := F_X11_rail) (a := 0) (b := 3) f17 u18 (by rcases q16 with rfl | rfl | rfl <;> decide) (by decide) (by decide)
                refine te_aload (p2 := 106) rfl rfl rfl ?_
                refine tg_e (p2 := 109) (i := o5) (v := .int y8) rfl rfl I18 rfl (by rcases q5 with rfl | rfl | rfl | rfl <;> rfl) ((u18.2 _ _ (Or.inl (by omega))).trans ((u17.2 _ _ (Or.inl (by omega))).trans e8)) ?_
                refine tz_le (p2 := 112) rfl rfl rfl (fun c19 => ?_) (fun c19 => ?_)
                · refine te_aload (p2 := 144) rfl rfl rfl ?_
                  refine tg_e (p2 := 147) (i := o5) (v := .int y8) rfl rfl I18 rfl (by rcases q5 with rfl | rfl | rfl | rfl <;> rfl) ((u18.2 _ _ (Or.inl (by omega))).trans ((u17.2 _ _ (Or.inl (by omega))).trans e8)) ?_
                  exact te_iret rfl rfl ⟨I18, f18, _, rfl, trivial⟩
                · refine te_aload (p2 := 114) rfl rfl rfl ?_
                  refine te_aload (p2 := 116) rfl rfl rfl ?_
                  refine tg_r (p2 := 119) (i := o5) (r := (16 + (o5 + 1))) rfl rfl I18 rfl (by rcases q5 with rfl | rfl | rfl | rfl <;> rfl) (by rcases q5 with rfl | rfl | rfl | rfl <;> rfl) ?_
                  refine te_iconst (p2 := 120) (x := 0) rfl rfl (by decide) ?_
                  refine tl_i (p2 := 121) (i := (o5 + 1)) (n := 40) rfl rfl I18 rfl (by rcases q5 with rfl | rfl | rfl | rfl <;> rfl) (by rcases q5 with rfl | rfl | rfl | rfl <;> rfl) rfl (by decide) (by decide) (fun y20 a20 b20 g20 e20 => ?_)
                  obtain ⟨a21, b21⟩ := allB_at (allB_fr w13 (fun q => f18 _ _ (by rcases q5 with rfl | rfl | rfl | rfl <;> rfl))) (Int32.toInt 0).toNat (by have := (show Int32.toInt 0 = 0 from rfl); omega) (by rw [Nat.zero_add]) e20
                  refine tp_i (p2 := 124) (i := o16) rfl rfl I18 rfl (by rcases q16 with rfl | rfl | rfl <;> rfl) (by decide) rfl rfl (by rcases q16 with rfl | rfl | rfl <;> rfl) (by omega) (by omega) (by omega) (by rcases q16 with rfl | rfl | rfl <;> rfl) (fun h22 I22 u22 => ?_)
                  have f22 := fr_up (F := F_X11_rail) (a := 0) (b := 3) f18 u22 (by rcases q16 with rfl | rfl | rfl <;> decide) (by decide) (by decide)
                  refine te_aload (p2 := 126) rfl rfl rfl ?_
                  refine te_aload (p2 := 128) rfl rfl rfl ?_
                  refine tg_r (p2 := 131) (i := o5) (r := (16 + (o5 + 1))) rfl rfl I22 rfl (by rcases q5 with rfl | rfl | rfl | rfl <;> rfl) (by rcases q5 with rfl | rfl | rfl | rfl <;> rfl) ?_
                  refine te_aload (p2 := 133) rfl rfl rfl ?_
                  refine tg_e (p2 := 136) (i := o5) (v := .int y8) rfl rfl I22 rfl (by rcases q5 with rfl | rfl | rfl | rfl <;> rfl) ((u22.2 _ _ (Or.inl (by omega))).trans ((u18.2 _ _ (Or.inl (by omega))).trans ((u17.2 _ _ (Or.inl (by omega))).trans e8))) ?_
                  refine te_iconst (p2 := 137) (x := 1) rfl rfl (by decide) ?_
                  refine ar_sub (p2 := 138) rfl rfl rfl (show Int32.toInt 1 = 1 from rfl) (by omega) (by omega) (fun z23 e23 f23 => ?_)
                  refine tl_i (p2 := 139) (i := (o5 + 1)) (n := 40) rfl rfl I22 rfl (by rcases q5 with rfl | rfl | rfl | rfl <;> rfl) (by rcases q5 with rfl | rfl | rfl | rfl <;> rfl) rfl (by omega) (by omega) (fun y24 a24 b24 g24 e24 => ?_)
                  obtain ⟨a25, b25⟩ := allB_at (allB_fr w13 (fun q => f22 _ _ (by rcases q5 with rfl | rfl | rfl | rfl <;> rfl))) z23.toInt.toNat (by omega) (by rw [Nat.zero_add]) e24
                  refine tp_i (p2 := 142) (i := o16) rfl rfl I22 rfl (by rcases q16 with rfl | rfl | rfl <;> rfl) (by decide) rfl rfl (by rcases q16 with rfl | rfl | rfl <;> rfl) (by omega) (by omega) (by omega) (by rcases q16 with rfl | rfl | rfl <;> rfl) (fun h26 I26 u26 => ?_)
                  have f26 := fr_up (F := F_X11_rail) (a := 0) (b := 3) f22 u26 (by rcases q16 with rfl | rfl | rfl <;> decide) (by decide) (by decide)
                  refine te_aload (p2 := 144) rfl rfl rfl ?_
                  refine tg_e (p2 := 147) (i := o5) (v := .int y8) rfl rfl I26 rfl (by rcases q5 with rfl | rfl | rfl | rfl <;> rfl) ((u26.2 _ _ (Or.inl (by omega))).trans ((u22.2 _ _ (Or.inl (by omega))).trans ((u18.2 _ _ (Or.inl (by omega))).trans ((u17.2 _ _ (Or.inl (by omega))).trans e8)))) ?_
                  exact te_iret rfl rfl ⟨I26, f26, _, rfl, trivial⟩
            · subst w11
              have cc11_1 := (show Int32.toInt 0 = 0 from rfl)
              have cc11_2 := (show Int32.toInt 20 = 20 from rfl)
              refine tz_eq (p2 := 66) rfl rfl (show Int32.toInt 0 = 0 from rfl) (fun c27 => ?_) (fun c27 => absurd c27 (by omega))
              refine te_bipush (p2 := 76) (x := (-2)) rfl rfl (by decide) ?_
              exact te_iret rfl rfl ⟨hI, f0, _, rfl, trivial⟩
      · refine te_bipush (p2 := 36) (x := (-11)) rfl rfl (by decide) ?_
        exact te_iret rfl rfl ⟨hI, f0, _, rfl, trivial⟩
    · subst w3
      have cc3_1 := (show Int32.toInt 4 = 4 from rfl)
      refine tz_ne (p2 := 16) rfl rfl (show Int32.toInt 0 = 0 from rfl) (fun c28 => absurd c28 (by omega)) (fun c28 => ?_)
      refine te_iconst (p2 := 17) (x := (-1)) rfl rfl (by decide) ?_
      exact te_iret rfl rfl ⟨hI, f0, _, rfl, trivial⟩
  · subst w1
    have cc1_1 := (show Int32.toInt 3 = 3 from rfl)
    refine tz_eq (p2 := 8) rfl rfl (show Int32.toInt 0 = 0 from rfl) (fun c29 => ?_) (fun c29 => absurd c29 (by omega))
    refine te_iconst (p2 := 17) (x := (-1)) rfl rfl (by decide) ?_
    exact te_iret rfl rfl ⟨hI, f0, _, rfl, trivial⟩
