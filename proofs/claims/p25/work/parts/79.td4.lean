set_option maxRecDepth 20000 in
set_option maxHeartbeats 4000000 in
theorem c_X12_nextOrder_1 {g0 : Int32} {g1 : Int32} {g2 : Int32} {g3 : Int32} {g4 : Int32} {g5 : Int32} {h : im_H} (hI : tI h) (hg0 : rd h 199 (Int32.toInt 0).toNat = some (.int g0)) (ga0 : 0 ≤ g0.toInt) (gb0 : g0.toInt ≤ 5) (hg1 : rd h 199 (Int32.toInt 1).toNat = some (.int g1)) (ga1 : 0 ≤ g1.toInt) (gb1 : g1.toInt ≤ 5) (hg2 : rd h 199 (Int32.toInt 2).toNat = some (.int g2)) (ga2 : 0 ≤ g2.toInt) (gb2 : g2.toInt ≤ 5) (hg3 : rd h 199 (Int32.toInt 3).toNat = some (.int g3)) (ga3 : 0 ≤ g3.toInt) (gb3 : g3.toInt ≤ 5) (hg4 : rd h 199 (Int32.toInt 4).toNat = some (.int g4)) (ga4 : 0 ≤ g4.toInt) (gb4 : g4.toInt ≤ 5) (hg5 : rd h 199 (Int32.toInt 5).toNat = some (.int g5)) (ga5 : 0 ≤ g5.toInt) (gb5 : g5.toInt ≤ 5) (pr0 : prm 1 g0.toInt g1.toInt g2.toInt g3.toInt g4.toInt g5.toInt) : CaP 1 167 [.ref 164, .int 1] h (fun v h2 => tI h2 ∧ fr F_X12_nextOrder_1 h h2 ∧ ∃ y : Int32, v = some (.int y) ∧ ((y = 0 ∧ pq_x 1 (on6 1 (pq_n h 199)) = none) ∨ (y = 1 ∧ pq_x 1 (on6 1 (pq_n h 199)) = some (on6 1 (pq_n h2 199)) ∧ ∃ k0 k1 k2 k3 k4 k5 : Int32, rd h2 199 (Int32.toInt 0).toNat = some (.int k0) ∧ rd h2 199 (Int32.toInt 1).toNat = some (.int k1) ∧ rd h2 199 (Int32.toInt 2).toNat = some (.int k2) ∧ rd h2 199 (Int32.toInt 3).toNat = some (.int k3) ∧ rd h2 199 (Int32.toInt 4).toNat = some (.int k4) ∧ rd h2 199 (Int32.toInt 5).toNat = some (.int k5) ∧ prm 1 k0.toInt k1.toInt k2.toInt k3.toInt k4.toInt k5.toInt ∧ lexV g0.toInt g1.toInt g2.toInt g3.toInt g4.toInt g5.toInt < lexV k0.toInt k1.toInt k2.toInt k3.toInt k4.toInt k5.toInt))) := by
  refine cap_of (d := 0) (M := mX12_nextOrder) rfl (Nat.le_of_ble_eq_true rfl) ?_
  show EvP im_K0 0 mX12_nextOrder (0, [(0, .ref 164), (1, .int 1)], [], h) _
  obtain ⟨q0, q1, q2, q3, q4, q5⟩ := pr0
  have q0 := q0 (by decide)
  clear q1 q2 q3 q4 q5
  have f0 : fr F_X12_nextOrder_1 h h := fr_rf
  refine te_iload_n (p2 := 1) rfl rfl rfl ?_
  refine te_iconst (p2 := 2) (x := 2) rfl rfl (by decide) ?_
  refine te_isub (p2 := 3) (z := (-1)) rfl rfl (by decide) ?_
  refine te_istore_n (p2 := 4) (lv2 := [(2, .int (-1)), (0, .ref 164), (1, .int 1)]) rfl rfl (by decide) rfl ?_
  refine te_iload_n (p2 := 5) rfl rfl rfl ?_
  refine tz_lt (p2 := 8) rfl rfl (show Int32.toInt (-1) = (-1) from rfl) (fun c2 => ?_) (fun c2 => absurd c2 (by omega))
  refine te_iload_n (p2 := 32) rfl rfl rfl ?_
  refine tz_ge (p2 := 35) rfl rfl (show Int32.toInt (-1) = (-1) from rfl) (fun c3 => absurd c3 (by omega)) (fun c3 => ?_)
  refine te_iconst (p2 := 36) (x := 0) rfl rfl (by decide) ?_
  exact te_zret rfl rfl (by decide) ⟨hI, f0, _, rfl, Or.inl ⟨rfl, pq_xe1⟩⟩
set_option maxRecDepth 20000 in
set_option maxHeartbeats 4000000 in
theorem c_X12_nextOrder_2 {g0 : Int32} {g1 : Int32} {g2 : Int32} {g3 : Int32} {g4 : Int32} {g5 : Int32} {h : im_H} (hI : tI h) (hg0 : rd h 199 (Int32.toInt 0).toNat = some (.int g0)) (ga0 : 0 ≤ g0.toInt) (gb0 : g0.toInt ≤ 5) (hg1 : rd h 199 (Int32.toInt 1).toNat = some (.int g1)) (ga1 : 0 ≤ g1.toInt) (gb1 : g1.toInt ≤ 5) (hg2 : rd h 199 (Int32.toInt 2).toNat = some (.int g2)) (ga2 : 0 ≤ g2.toInt) (gb2 : g2.toInt ≤ 5) (hg3 : rd h 199 (Int32.toInt 3).toNat = some (.int g3)) (ga3 : 0 ≤ g3.toInt) (gb3 : g3.toInt ≤ 5) (hg4 : rd h 199 (Int32.toInt 4).toNat = some (.int g4)) (ga4 : 0 ≤ g4.toInt) (gb4 : g4.toInt ≤ 5) (hg5 : rd h 199 (Int32.toInt 5).toNat = some (.int g5)) (ga5 : 0 ≤ g5.toInt) (gb5 : g5.toInt ≤ 5) (pr0 : prm 2 g0.toInt g1.toInt g2.toInt g3.toInt g4.toInt g5.toInt) : CaP 1 167 [.ref 164, .int 2] h (fun v h2 => tI h2 ∧ fr F_X12_nextOrder_2 h h2 ∧ ∃ y : Int32, v = some (.int y) ∧ ((y = 0 ∧ pq_x 2 (on6 2 (pq_n h 199)) = none) ∨ (y = 1 ∧ pq_x 2 (on6 2 (pq_n h 199)) = some (on6 2 (pq_n h2 199)) ∧ ∃ k0 k1 k2 k3 k4 k5 : Int32, rd h2 199 (Int32.toInt 0).toNat = some (.int k0) ∧ rd h2 199 (Int32.toInt 1).toNat = some (.int k1) ∧ rd h2 199 (Int32.toInt 2).toNat = some (.int k2) ∧ rd h2 199 (Int32.toInt 3).toNat = some (.int k3) ∧ rd h2 199 (Int32.toInt 4).toNat = some (.int k4) ∧ rd h2 199 (Int32.toInt 5).toNat = some (.int k5) ∧ prm 2 k0.toInt k1.toInt k2.toInt k3.toInt k4.toInt k5.toInt ∧ lexV g0.toInt g1.toInt g2.toInt g3.toInt g4.toInt g5.toInt < lexV k0.toInt k1.toInt k2.toInt k3.toInt k4.toInt k5.toInt))) := by
  refine cap_of (d := 0) (M := mX12_nextOrder) rfl (Nat.le_of_ble_eq_true rfl) ?_
  show EvP im_K0 0 mX12_nextOrder (0, [(0, .ref 164), (1, .int 2)], [], h) _
  obtain ⟨q0, q1, q2, q3, q4, q5⟩ := pr0
  have q0 := q0 (by decide)
  have q1 := q1 (by decide)
  clear q2 q3 q4 q5
  have f0 : fr F_X12_nextOrder_2 h h := fr_rf
  refine te_iload_n (p2 := 1) rfl rfl rfl ?_
  refine te_iconst (p2 := 2) (x := 2) rfl rfl (by decide) ?_
  refine te_isub (p2 := 3) (z := 0) rfl rfl (by decide) ?_
  refine te_istore_n (p2 := 4) (lv2 := [(2, .int 0), (0, .ref 164), (1, .int 2)]) rfl rfl (by decide) rfl ?_
  refine te_iload_n (p2 := 5) rfl rfl rfl ?_
  refine tz_lt (p2 := 8) rfl rfl (show Int32.toInt 0 = 0 from rfl) (fun c2 => absurd c2 (by omega)) (fun c2 => ?_)
  refine te_aload_n (p2 := 9) rfl rfl rfl ?_
  refine tg_r (p2 := 12) (i := 148) (r := 215) rfl rfl hI rfl rfl rfl ?_
  refine te_iload_n (p2 := 13) rfl rfl rfl ?_
  refine tl_e (p2 := 14) (i := 199) (n := 6) (t := 0) (Or.inl rfl) rfl rfl hI rfl rfl (by decide) (by decide) hg0 ?_
  refine te_aload_n (p2 := 15) rfl rfl rfl ?_
  refine tg_r (p2 := 18) (i := 148) (r := 215) rfl rfl hI rfl rfl rfl ?_
  refine te_iload_n (p2 := 19) rfl rfl rfl ?_
  refine te_iconst (p2 := 20) (x := 1) rfl rfl (by decide) ?_
  refine te_iadd (p2 := 21) (z := 1) rfl rfl (by decide) ?_
  refine tl_e (p2 := 22) (i := 199) (n := 6) (t := 0) (Or.inl rfl) rfl rfl hI rfl rfl (by decide) (by decide) hg1 ?_
  refine tb_le (p2 := 25) rfl rfl rfl rfl (fun c6 => ?_) (fun c6 => ?_)
  · refine te_iload_n (p2 := 32) rfl rfl rfl ?_
    refine tz_ge (p2 := 35) rfl rfl (show Int32.toInt 0 = 0 from rfl) (fun c7 => ?_) (fun c7 => absurd c7 (by omega))
    refine te_iload_n (p2 := 38) rfl rfl rfl ?_
    refine te_iconst (p2 := 39) (x := 1) rfl rfl (by decide) ?_
    refine te_isub (p2 := 40) (z := 1) rfl rfl (by decide) ?_
    refine te_istore_n (p2 := 41) (lv2 := [(3, .int 1), (2, .int 0), (0, .ref 164), (1, .int 2)]) rfl rfl (by decide) rfl ?_
    refine te_aload_n (p2 := 42) rfl rfl rfl ?_
    refine tg_r (p2 := 45) (i := 148) (r := 215) rfl rfl hI rfl rfl rfl ?_
    refine te_iload_n (p2 := 46) rfl rfl rfl ?_
    refine tl_e (p2 := 47) (i := 199) (n := 6) (t := 0) (Or.inl rfl) rfl rfl hI rfl rfl (by decide) (by decide) hg1 ?_
    refine te_aload_n (p2 := 48) rfl rfl rfl ?_
    refine tg_r (p2 := 51) (i := 148) (r := 215) rfl rfl hI rfl rfl rfl ?_
    refine te_iload_n (p2 := 52) rfl rfl rfl ?_
    refine tl_e (p2 := 53) (i := 199) (n := 6) (t := 0) (Or.inl rfl) rfl rfl hI rfl rfl (by decide) (by decide) hg0 ?_
    refine tb_ge (p2 := 56) rfl rfl rfl rfl (fun c11 => ?_) (fun c11 => ?_)
    · refine te_aload_n (p2 := 63) rfl rfl rfl ?_
      refine tg_r (p2 := 66) (i := 148) (r := 215) rfl rfl hI rfl rfl rfl ?_
      refine te_iload_n (p2 := 67) rfl rfl rfl ?_
      refine tl_e (p2 := 68) (i := 199) (n := 6) (t := 0) (Or.inl rfl) rfl rfl hI rfl rfl (by decide) (by decide) hg0 ?_
      refine te_istore (p2 := 70) (lv2 := [(4, .int g0), (3, .int 1), (2, .int 0), (0, .ref 164), (1, .int 2)]) rfl rfl (by decide) rfl ?_
      refine te_aload_n (p2 := 71) rfl rfl rfl ?_
      refine tg_r (p2 := 74) (i := 148) (r := 215) rfl rfl hI rfl rfl rfl ?_
      refine te_iload_n (p2 := 75) rfl rfl rfl ?_
      refine te_aload_n (p2 := 76) rfl rfl rfl ?_
      refine tg_r (p2 := 79) (i := 148) (r := 215) rfl rfl hI rfl rfl rfl ?_
      refine te_iload_n (p2 := 80) rfl rfl rfl ?_
      refine tl_e (p2 := 81) (i := 199) (n := 6) (t := 0) (Or.inl rfl) rfl rfl hI rfl rfl (by decide) (by decide) hg1 ?_
      refine ts_i (p2 := 82) (i := 199) (n := 6) rfl rfl hI rfl rfl rfl rfl (by decide) (by decide) (by omega) (by omega) (by omega) rfl (fun h14 I14 u14 => ?_)
      have f14 := fr_st (F := F_X12_nextOrder_2) 0 f0 u14 rfl (by decide) (by decide)
      refine te_aload_n (p2 := 83) rfl rfl rfl ?_
      refine tg_r (p2 := 86) (i := 148) (r := 215) rfl rfl I14 rfl rfl rfl ?_
      refine te_iload_n (p2 := 87) rfl rfl rfl ?_
      refine te_iload (p2 := 89) rfl rfl rfl ?_
      refine ts_i (p2 := 90) (i := 199) (n := 6) rfl rfl I14 rfl rfl rfl rfl (by decide) (by decide) (by omega) (by omega) (by omega) rfl (fun h15 I15 u15 => ?_)
      have f15 := fr_st (F := F_X12_nextOrder_2) 0 f14 u15 rfl (by decide) (by decide)
      refine te_iload_n (p2 := 91) rfl rfl rfl ?_
      refine te_iconst (p2 := 92) (x := 1) rfl rfl (by decide) ?_
      refine te_iadd (p2 := 93) (z := 1) rfl rfl (by decide) ?_
      refine te_istore (p2 := 95) (lv2 := [(5, .int 1), (4, .int g0), (3, .int 1), (2, .int 0), (0, .ref 164), (1, .int 2)]) rfl rfl (by decide) rfl ?_
      refine te_iload_n (p2 := 96) rfl rfl rfl ?_
      refine te_iconst (p2 := 97) (x := 1) rfl rfl (by decide) ?_
      refine te_isub (p2 := 98) (z := 1) rfl rfl (by decide) ?_
      refine te_istore (p2 := 100) (lv2 := [(6, .int 1), (5, .int 1), (4, .int g0), (3, .int 1), (2, .int 0), (0, .ref 164), (1, .int 2)]) rfl rfl (by decide) rfl ?_
      refine te_iload (p2 := 102) rfl rfl rfl ?_
      refine te_iload (p2 := 104) rfl rfl rfl ?_
      refine tb_ge (p2 := 107) rfl rfl (show Int32.toInt 1 = 1 from rfl) (show Int32.toInt 1 = 1 from rfl) (fun c18 => ?_) (fun c18 => absurd c18 (by omega))
      refine te_iconst (p2 := 149) (x := 1) rfl rfl (by decide) ?_
      exact te_zret rfl rfl (by decide) ⟨I15, f15, _, rfl, Or.inr ⟨rfl, (by rw [pq_xe2, on6_2, (pq_of (k := 0) hg0 : pq_n h 199 0 = g0.toInt.toNat), (pq_of (k := 1) hg1 : pq_n h 199 1 = g1.toInt.toNat), (pq_of (k := 0) ((u15.2 _ _ (Or.inr (by decide))).trans u14.1) : pq_n h15 199 0 = g1.toInt.toNat), (pq_of (k := 1) u15.1 : pq_n h15 199 1 = g0.toInt.toNat)]; unfold pq_x2; rw [if_neg (by omega), if_neg (by omega)]), g1, g0, g2, g3, g4, g5, ((u15.2 _ _ (Or.inr (by decide))).trans u14.1), u15.1, ((u15.2 _ _ (Or.inr (by decide))).trans ((u14.2 _ _ (Or.inr (by decide))).trans hg2)), ((u15.2 _ _ (Or.inr (by decide))).trans ((u14.2 _ _ (Or.inr (by decide))).trans hg3)), ((u15.2 _ _ (Or.inr (by decide))).trans ((u14.2 _ _ (Or.inr (by decide))).trans hg4)), ((u15.2 _ _ (Or.inr (by decide))).trans ((u14.2 _ _ (Or.inr (by decide))).trans hg5)), (by unfold prm; omega), (by unfold lexV; omega)⟩⟩
    · refine te_iinc (p2 := 59) (x := 1) (y := 0) (lv2 := [(3, .int 0), (2, .int 0), (0, .ref 164), (1, .int 2)]) rfl rfl (by decide) rfl (by decide) rfl ?_
      refine te_goto rfl ?_
      refine te_aload_n (p2 := 42) rfl rfl rfl ?_
      refine tg_r (p2 := 45) (i := 148) (r := 215) rfl rfl hI rfl rfl rfl ?_
      refine te_iload_n (p2 := 46) rfl rfl rfl ?_
      refine tl_e (p2 := 47) (i := 199) (n := 6) (t := 0) (Or.inl rfl) rfl rfl hI rfl rfl (by decide) (by decide) hg0 ?_
      refine te_aload_n (p2 := 48) rfl rfl rfl ?_
      refine tg_r (p2 := 51) (i := 148) (r := 215) rfl rfl hI rfl rfl rfl ?_
      refine te_iload_n (p2 := 52) rfl rfl rfl ?_
      refine tl_e (p2 := 53) (i := 199) (n := 6) (t := 0) (Or.inl rfl) rfl rfl hI rfl rfl (by decide) (by decide) hg0 ?_
      refine tb_ge (p2 := 56) rfl rfl rfl rfl (fun c22 => ?_) (fun c22 => absurd c22 (by omega))
      refine te_aload_n (p2 := 63) rfl rfl rfl ?_
      refine tg_r (p2 := 66) (i := 148) (r := 215) rfl rfl hI rfl rfl rfl ?_
      refine te_iload_n (p2 := 67) rfl rfl rfl ?_
      refine tl_e (p2 := 68) (i := 199) (n := 6) (t := 0) (Or.inl rfl) rfl rfl hI rfl rfl (by decide) (by decide) hg0 ?_
      refine te_istore (p2 := 70) (lv2 := [(4, .int g0), (3, .int 0), (2, .int 0), (0, .ref 164), (1, .int 2)]) rfl rfl (by decide) rfl ?_
      refine te_aload_n (p2 := 71) rfl rfl rfl ?_
      refine tg_r (p2 := 74) (i := 148) (r := 215) rfl rfl hI rfl rfl rfl ?_
      refine te_iload_n (p2 := 75) rfl rfl rfl ?_
      refine te_aload_n (p2 := 76) rfl rfl rfl ?_
      refine tg_r (p2 := 79) (i := 148) (r := 215) rfl rfl hI rfl rfl rfl ?_
      refine te_iload_n (p2 := 80) rfl rfl rfl ?_
      refine tl_e (p2 := 81) (i := 199) (n := 6) (t := 0) (Or.inl rfl) rfl rfl hI rfl rfl (by decide) (by decide) hg0 ?_
      refine ts_i (p2 := 82) (i := 199) (n := 6) rfl rfl hI rfl rfl rfl rfl (by decide) (by decide) (by omega) (by omega) (by omega) rfl (fun h25 I25 u25 => ?_)
      have f25 := fr_st (F := F_X12_nextOrder_2) 0 f0 u25 rfl (by decide) (by decide)
      refine te_aload_n (p2 := 83) rfl rfl rfl ?_
      refine tg_r (p2 := 86) (i := 148) (r := 215) rfl rfl I25 rfl rfl rfl ?_
      refine te_iload_n (p2 := 87) rfl rfl rfl ?_
      refine te_iload (p2 := 89) rfl rfl rfl ?_
      refine ts_i (p2 := 90) (i := 199) (n := 6) rfl rfl I25 rfl rfl rfl rfl (by decide) (by decide) (by omega) (by omega) (by omega) rfl (fun h26 I26 u26 => ?_)
      have f26 := fr_st (F := F_X12_nextOrder_2) 0 f25 u26 rfl (by decide) (by decide)
      refine te_iload_n (p2 := 91) rfl rfl rfl ?_
      refine te_iconst (p2 := 92) (x := 1) rfl rfl (by decide) ?_
      refine te_iadd (p2 := 93) (z := 1) rfl rfl (by decide) ?_
      refine te_istore (p2 := 95) (lv2 := [(5, .int 1), (4, .int g0), (3, .int 0), (2, .int 0), (0, .ref 164), (1, .int 2)]) rfl rfl (by decide) rfl ?_
      refine te_iload_n (p2 := 96) rfl rfl rfl ?_
      refine te_iconst (p2 := 97) (x := 1) rfl rfl (by decide) ?_
      refine te_isub (p2 := 98) (z := 1) rfl rfl (by decide) ?_
      refine te_istore (p2 := 100) (lv2 := [(6, .int 1), (5, .int 1), (4, .int g0), (3, .int 0), (2, .int 0), (0, .ref 164), (1, .int 2)]) rfl rfl (by decide) rfl ?_
      refine te_iload (p2 := 102) rfl rfl rfl ?_
      refine te_iload (p2 := 104) rfl rfl rfl ?_
      refine tb_ge (p2 := 107) rfl rfl (show Int32.toInt 1 = 1 from rfl) (show Int32.toInt 1 = 1 from rfl) (fun c29 => ?_) (fun c29 => absurd c29 (by omega))
      refine te_iconst (p2 := 149) (x := 1) rfl rfl (by decide) ?_
      exact te_zret rfl rfl (by decide) ⟨I26, f26, _, rfl, Or.inr ⟨rfl, (by rw [pq_xe2, on6_2, (pq_of (k := 0) hg0 : pq_n h 199 0 = g0.toInt.toNat), (pq_of (k := 1) hg1 : pq_n h 199 1 = g1.toInt.toNat), (pq_of (k := 0) u26.1 : pq_n h26 199 0 = g0.toInt.toNat), (pq_of (k := 1) ((u26.2 _ _ (Or.inr (by decide))).trans ((u25.2 _ _ (Or.inr (by decide))).trans hg1)) : pq_n h26 199 1 = g1.toInt.toNat)]; unfold pq_x2; rw [if_neg (by omega), if_pos (by omega)]), g0, g1, g2, g3, g4, g5, u26.1, ((u26.2 _ _ (Or.inr (by decide))).trans ((u25.2 _ _ (Or.inr (by decide))).trans hg1)), ((u26.2 _ _ (Or.inr (by decide))).trans ((u25.2 _ _ (Or.inr (by decide))).trans hg2)), ((u26.2 _ _ (Or.inr (by decide))).trans ((u25.2 _ _ (Or.inr (by decide))).trans hg3)), ((u26.2 _ _ (Or.inr (by decide))).trans ((u25.2 _ _ (Or.inr (by decide))).trans hg4)), ((u26.2 _ _ (Or.inr (by decide))).trans ((u25.2 _ _ (Or.inr (by decide))).trans hg5)), (by unfold prm; omega), (by unfold lexV; omega)⟩⟩
  · refine te_iinc (p2 := 28) (x := 0) (y := (-1)) (lv2 := [(2, .int (-1)), (0, .ref 164), (1, .int 2)]) rfl rfl (by decide) rfl (by decide) rfl ?_
    refine te_goto rfl ?_
    refine te_iload_n (p2 := 5) rfl rfl rfl ?_
    refine tz_lt (p2 := 8) rfl rfl (show Int32.toInt (-1) = (-1) from rfl) (fun c31 => ?_) (fun c31 => absurd c31 (by omega))
    refine te_iload_n (p2 := 32) rfl rfl rfl ?_
    refine tz_ge (p2 := 35) rfl rfl (show Int32.toInt (-1) = (-1) from rfl) (fun c32 => absurd c32 (by omega)) (fun c32 => ?_)
    refine te_iconst (p2 := 36) (x := 0) rfl rfl (by decide) ?_
    exact te_zret rfl rfl (by decide) ⟨hI, f0, _, rfl, Or.inl ⟨rfl, (by rw [pq_xe2, (pq_of (k := 0) hg0 : pq_n h 199 0 = g0.toInt.toNat), (pq_of (k := 1) hg1 : pq_n h 199 1 = g1.toInt.toNat)]; unfold pq_x2; rw [if_pos (by omega)])⟩⟩
set_option maxRecDepth 20000 in
set_option maxHeartbeats 4000000 in
theorem c_X12_nextOrder_3 {g0 : Int32} {g1 : Int32} {g2 : Int32} {g3 : Int32} {g4 : Int32} {g5 : Int32} {h : im_H} (hI : tI h) (hg0 : rd h 199 (Int32.toInt 0).toNat = some (.int g0)) (ga0 : 0 ≤ g0.toInt) (gb0 : g0.toInt ≤ 5) (hg1 : rd h 199 (Int32.toInt 1).toNat = some (.int g1)) (ga1 : 0 ≤ g1.toInt) (gb1 : g1.toInt ≤ 5) (hg2 : rd h 199 (Int32.toInt 2).toNat = some (.int g2)) (ga2 : 0 ≤ g2.toInt) (gb2 : g2.toInt ≤ 5) (hg3 : rd h 199 (Int32.toInt 3).toNat = some (.int g3)) (ga3 : 0 ≤ g3.toInt) (gb3 : g3.toInt ≤ 5) (hg4 : rd h 199 (Int32.toInt 4).toNat = some (.int g4)) (ga4 : 0 ≤ g4.toInt) (gb4 : g4.toInt ≤ 5) (hg5 : rd h 199 (Int32.toInt 5).toNat = some (.int g5)) (ga5 : 0 ≤ g5.toInt) (gb5 : g5.toInt ≤ 5) (pr0 : prm 3 g0.toInt g1.toInt g2.toInt g3.toInt g4.toInt g5.toInt) : CaP 1 167 [.ref 164, .int 3] h (fun v h2 => tI h2 ∧ fr F_X12_nextOrder_3 h h2 ∧ ∃ y : Int32, v = some (.int y) ∧ ((y = 0 ∧ pq_x 3 (on6 3 (pq_n h 199)) = none) ∨ (y = 1 ∧ pq_x 3 (on6 3 (pq_n h 199)) = some (on6 3 (pq_n h2 199)) ∧ ∃ k0 k1 k2 k3 k4 k5 : Int32, rd h2 199 (Int32.toInt 0).toNat = some (.int k0) ∧ rd h2 199 (Int32.toInt 1).toNat = some (.int k1) ∧ rd h2 199 (Int32.toInt 2).toNat = some (.int k2) ∧ rd h2 199 (Int32.toInt 3).toNat = some (.int k3) ∧ rd h2 199 (Int32.toInt 4).toNat = some (.int k4) ∧ rd h2 199 (Int32.toInt 5).toNat = some (.int k5) ∧ prm 3 k0.toInt k1.toInt k2.toInt k3.toInt k4.toInt k5.toInt ∧ lexV g0.toInt g1.toInt g2.toInt g3.toInt g4.toInt g5.toInt < lexV k0.toInt k1.toInt k2.toInt k3.toInt k4.toInt k5.toInt))) := by
  refine cap_of (d := 0) (M := mX12_nextOrder) rfl (Nat.le_of_ble_eq_true rfl) ?_
  show EvP im_K0 0 mX12_nextOrder (0, [(0, .ref 164), (1, .int 3)], [], h) _
  obtain ⟨q0, q1, q2, q3, q4, q5⟩ := pr0
  have q0 := q0 (by decide)
  have q1 := q1 (by decide)
  have q2 := q2 (by decide)
  clear q3 q4 q5
  have f0 : fr F_X12_nextOrder_3 h h := fr_rf
  refine te_iload_n (p2 := 1) rfl rfl rfl ?_
  refine te_iconst (p2 := 2) (x := 2) rfl rfl (by decide) ?_
  refine te_isub (p2 := 3) (z := 1) rfl rfl (by decide) ?_
  refine te_istore_n (p2 := 4) (lv2 := [(2, .int 1), (0, .ref 164), (1, .int 3)]) rfl rfl (by decide) rfl ?_
  refine te_iload_n (p2 := 5) rfl rfl rfl ?_
  refine tz_lt (p2 := 8) rfl rfl (show Int32.toInt 1 = 1 from rfl) (fun c2 => absurd c2 (by omega)) (fun c2 => ?_)
  refine te_aload_n (p2 := 9) rfl rfl rfl ?_
  refine tg_r (p2 := 12) (i := 148) (r := 215) rfl rfl hI rfl rfl rfl ?_
  refine te_iload_n (p2 := 13) rfl rfl rfl ?_
  refine tl_e (p2 := 14) (i := 199) (n := 6) (t := 0) (Or.inl rfl) rfl rfl hI rfl rfl (by decide) (by decide) hg1 ?_
  refine te_aload_n (p2 := 15) rfl rfl rfl ?_
  refine tg_r (p2 := 18) (i := 148) (r := 215) rfl rfl hI rfl rfl rfl ?_
  refine te_iload_n (p2 := 19) rfl rfl rfl ?_
  refine te_iconst (p2 := 20) (x := 1) rfl rfl (by decide) ?_
  refine te_iadd (p2 := 21) (z := 2) rfl rfl (by decide) ?_
  refine tl_e (p2 := 22) (i := 199) (n := 6) (t := 0) (Or.inl rfl) rfl rfl hI rfl rfl (by decide) (by decide) hg2 ?_
  refine tb_le (p2 := 25) rfl rfl rfl rfl (fun c6 => ?_) (fun c6 => ?_)
  · refine te_iload_n (p2 := 32) rfl rfl rfl ?_
    refine tz_ge (p2 := 35) rfl rfl (show Int32.toInt 1 = 1 from rfl) (fun c7 => ?_) (fun c7 => absurd c7 (by omega))
    refine te_iload_n (p2 := 38) rfl rfl rfl ?_
    refine te_iconst (p2 := 39) (x := 1) rfl rfl (by decide) ?_
    refine te_isub (p2 := 40) (z := 2) rfl rfl (by decide) ?_
    refine te_istore_n (p2 := 41) (lv2 := [(3, .int 2), (2, .int 1), (0, .ref 164), (1, .int 3)]) rfl rfl (by decide) rfl ?_
    refine te_aload_n (p2 := 42) rfl rfl rfl ?_
    refine tg_r (p2 := 45) (i := 148) (r := 215) rfl rfl hI rfl rfl rfl ?_
    refine te_iload_n (p2 := 46) rfl rfl rfl ?_
    refine tl_e (p2 := 47) (i := 199) (n := 6) (t := 0) (Or.inl rfl) rfl rfl hI rfl rfl (by decide) (by decide) hg2 ?_
    refine te_aload_n (p2 := 48) rfl rfl rfl ?_
    refine tg_r (p2 := 51) (i := 148) (r := 215) rfl rfl hI rfl rfl rfl ?_
    refine te_iload_n (p2 := 52) rfl rfl rfl ?_
    refine tl_e (p2 := 53) (i := 199) (n := 6) (t := 0) (Or.inl rfl) rfl rfl hI rfl rfl (by decide) (by decide) hg1 ?_
    refine tb_ge (p2 := 56) rfl rfl rfl rfl (fun c11 => ?_) (fun c11 => ?_)
    · refine te_aload_n (p2 := 63) rfl rfl rfl ?_
      refine tg_r (p2 := 66) (i := 148) (r := 215) rfl rfl hI rfl rfl rfl ?_
      refine te_iload_n (p2 := 67) rfl rfl rfl ?_
      refine tl_e (p2 := 68) (i := 199) (n := 6) (t := 0) (Or.inl rfl) rfl rfl hI rfl rfl (by decide) (by decide) hg1 ?_
      refine te_istore (p2 := 70) (lv2 := [(4, .int g1), (3, .int 2), (2, .int 1), (0, .ref 164), (1, .int 3)]) rfl rfl (by decide) rfl ?_
      refine te_aload_n (p2 := 71) rfl rfl rfl ?_
      refine tg_r (p2 := 74) (i := 148) (r := 215) rfl rfl hI rfl rfl rfl ?_
      refine te_iload_n (p2 := 75) rfl rfl rfl ?_
      refine te_aload_n (p2 := 76) rfl rfl rfl ?_
      refine tg_r (p2 := 79) (i := 148) (r := 215) rfl rfl hI rfl rfl rfl ?_
      refine te_iload_n (p2 := 80) rfl rfl rfl ?_
      refine tl_e (p2 := 81) (i := 199) (n := 6) (t := 0) (Or.inl rfl) rfl rfl hI rfl rfl (by decide) (by decide) hg2 ?_
      refine ts_i (p2 := 82) (i := 199) (n := 6) rfl rfl hI rfl rfl rfl rfl (by decide) (by decide) (by omega) (by omega) (by omega) rfl (fun h14 I14 u14 => ?_)
      have f14 := fr_st (F := F_X12_nextOrder_3) 0 f0 u14 rfl (by decide) (by decide)
      refine te_aload_n (p2 := 83) rfl rfl rfl ?_
      refine tg_r (p2 := 86) (i := 148) (r := 215) rfl rfl I14 rfl rfl rfl ?_
      refine te_iload_n (p2 := 87) rfl rfl rfl ?_
      refine te_iload (p2 := 89) rfl rfl rfl ?_
      refine ts_i (p2 := 90) (i := 199) (n := 6) rfl rfl I14 rfl rfl rfl rfl (by decide) (by decide) (by omega) (by omega) (by omega) rfl (fun h15 I15 u15 => ?_)
      have f15 := fr_st (F := F_X12_nextOrder_3) 0 f14 u15 rfl (by decide) (by decide)
      refine te_iload_n (p2 := 91) rfl rfl rfl ?_
      refine te_iconst (p2 := 92) (x := 1) rfl rfl (by decide) ?_
      refine te_iadd (p2 := 93) (z := 2) rfl rfl (by decide) ?_
      refine te_istore (p2 := 95) (lv2 := [(5, .int 2), (4, .int g1), (3, .int 2), (2, .int 1), (0, .ref 164), (1, .int 3)]) rfl rfl (by decide) rfl ?_
      refine te_iload_n (p2 := 96) rfl rfl rfl ?_
      refine te_iconst (p2 := 97) (x := 1) rfl rfl (by decide) ?_
      refine te_isub (p2 := 98) (z := 2) rfl rfl (by decide) ?_
      refine te_istore (p2 := 100) (lv2 := [(6, .int 2), (5, .int 2), (4, .int g1), (3, .int 2), (2, .int 1), (0, .ref 164), (1, .int 3)]) rfl rfl (by decide) rfl ?_
      refine te_iload (p2 := 102) rfl rfl rfl ?_
      refine te_iload (p2 := 104) rfl rfl rfl ?_
      refine tb_ge (p2 := 107) rfl rfl (show Int32.toInt 2 = 2 from rfl) (show Int32.toInt 2 = 2 from rfl) (fun c18 => ?_) (fun c18 => absurd c18 (by omega))
      refine te_iconst (p2 := 149) (x := 1) rfl rfl (by decide) ?_
      exact te_zret rfl rfl (by decide) ⟨I15, f15, _, rfl, Or.inr ⟨rfl, (by rw [pq_xe3, on6_3, (pq_of (k := 0) hg0 : pq_n h 199 0 = g0.toInt.toNat), (pq_of (k := 1) hg1 : pq_n h 199 1 = g1.toInt.toNat), (pq_of (k := 2) hg2 : pq_n h 199 2 = g2.toInt.toNat), (pq_of (k := 0) ((u15.2 _ _ (Or.inr (by decide))).trans ((u14.2 _ _ (Or.inr (by decide))).trans hg0)) : pq_n h15 199 0 = g0.toInt.toNat), (pq_of (k := 1) ((u15.2 _ _ (Or.inr (by decide))).trans u14.1) : pq_n h15 199 1 = g2.toInt.toNat), (pq_of (k := 2) u15.1 : pq_n h15 199 2 = g1.toInt.toNat)]; unfold pq_x3; rw [if_neg (by omega), if_neg (by omega)]), g0, g2, g1, g3, g4, g5, ((u15.2 _ _ (Or.inr (by decide))).trans ((u14.2 _ _ (Or.inr (by decide))).trans hg0)), ((u15.2 _ _ (Or.inr (by decide))).trans u14.1), u15.1, ((u15.2 _ _ (Or.inr (by decide))).trans ((u14.2 _ _ (Or.inr (by decide))).trans hg3)), ((u15.2 _ _ (Or.inr (by decide))).trans ((u14.2 _ _ (Or.inr (by decide))).trans hg4)), ((u15.2 _ _ (Or.inr (by decide))).trans ((u14.2 _ _ (Or.inr (by decide))).trans hg5)), (by unfold prm; omega), (by unfold lexV; omega)⟩⟩
    · refine te_iinc (p2 := 59) (x := 2) (y := 1) (lv2 := [(3, .int 1), (2, .int 1), (0, .ref 164), (1, .int 3)]) rfl rfl (by decide) rfl (by decide) rfl ?_
      refine te_goto rfl ?_
      refine te_aload_n (p2 := 42) rfl rfl rfl ?_
      refine tg_r (p2 := 45) (i := 148) (r := 215) rfl rfl hI rfl rfl rfl ?_
      refine te_iload_n (p2 := 46) rfl rfl rfl ?_
      refine tl_e (p2 := 47) (i := 199) (n := 6) (t := 0) (Or.inl rfl) rfl rfl hI rfl rfl (by decide) (by decide) hg1 ?_
      refine te_aload_n (p2 := 48) rfl rfl rfl ?_
      refine tg_r (p2 := 51) (i := 148) (r := 215) rfl rfl hI rfl rfl rfl ?_
      refine te_iload_n (p2 := 52) rfl rfl rfl ?_
      refine tl_e (p2 := 53) (i := 199) (n := 6) (t := 0) (Or.inl rfl) rfl rfl hI rfl rfl (by decide) (by decide) hg1 ?_
      refine tb_ge (p2 := 56) rfl rfl rfl rfl (fun c22 => ?_) (fun c22 => absurd c22 (by omega))
      refine te_aload_n (p2 := 63) rfl rfl rfl ?_
      refine tg_r (p2 := 66) (i := 148) (r := 215) rfl rfl hI rfl rfl rfl ?_
      refine te_iload_n (p2 := 67) rfl rfl rfl ?_
      refine tl_e (p2 := 68) (i := 199) (n := 6) (t := 0) (Or.inl rfl) rfl rfl hI rfl rfl (by decide) (by decide) hg1 ?_
      refine te_istore (p2 := 70) (lv2 := [(4, .int g1), (3, .int 1), (2, .int 1), (0, .ref 164), (1, .int 3)]) rfl rfl (by decide) rfl ?_
      refine te_aload_n (p2 := 71) rfl rfl rfl ?_
      refine tg_r (p2 := 74) (i := 148) (r := 215) rfl rfl hI rfl rfl rfl ?_
      refine te_iload_n (p2 := 75) rfl rfl rfl ?_
      refine te_aload_n (p2 := 76) rfl rfl rfl ?_
      refine tg_r (p2 := 79) (i := 148) (r := 215) rfl rfl hI rfl rfl rfl ?_
      refine te_iload_n (p2 := 80) rfl rfl rfl ?_
      refine tl_e (p2 := 81) (i := 199) (n := 6) (t := 0) (Or.inl rfl) rfl rfl hI rfl rfl (by decide) (by decide) hg1 ?_
      refine ts_i (p2 := 82) (i := 199) (n := 6) rfl rfl hI rfl rfl rfl rfl (by decide) (by decide) (by omega) (by omega) (by omega) rfl (fun h25 I25 u25 => ?_)
      have f25 := fr_st (F := F_X12_nextOrder_3) 0 f0 u25 rfl (by decide) (by decide)
      refine te_aload_n (p2 := 83) rfl rfl rfl ?_
      refine tg_r (p2 := 86) (i := 148) (r := 215) rfl rfl I25 rfl rfl rfl ?_
      refine te_iload_n (p2 := 87) rfl rfl rfl ?_
      refine te_iload (p2 := 89) rfl rfl rfl ?_
      refine ts_i (p2 := 90) (i := 199) (n := 6) rfl rfl I25 rfl rfl rfl rfl (by decide) (by decide) (by omega) (by omega) (by omega) rfl (fun h26 I26 u26 => ?_)
      have f26 := fr_st (F := F_X12_nextOrder_3) 0 f25 u26 rfl (by decide) (by decide)
      refine te_iload_n (p2 := 91) rfl rfl rfl ?_
      refine te_iconst (p2 := 92) (x := 1) rfl rfl (by decide) ?_
      refine te_iadd (p2 := 93) (z := 2) rfl rfl (by decide) ?_
      refine te_istore (p2 := 95) (lv2 := [(5, .int 2), (4, .int g1), (3, .int 1), (2, .int 1), (0, .ref 164), (1, .int 3)]) rfl rfl (by decide) rfl ?_
      refine te_iload_n (p2 := 96) rfl rfl rfl ?_
      refine te_iconst (p2 := 97) (x := 1) rfl rfl (by decide) ?_
      refine te_isub (p2 := 98) (z := 2) rfl rfl (by decide) ?_
      refine te_istore (p2 := 100) (lv2 := [(6, .int 2), (5, .int 2), (4, .int g1), (3, .int 1), (2, .int 1), (0, .ref 164), (1, .int 3)]) rfl rfl (by decide) rfl ?_
      refine te_iload (p2 := 102) rfl rfl rfl ?_
      refine te_iload (p2 := 104) rfl rfl rfl ?_
      refine tb_ge (p2 := 107) rfl rfl (show Int32.toInt 2 = 2 from rfl) (show Int32.toInt 2 = 2 from rfl) (fun c29 => ?_) (fun c29 => absurd c29 (by omega))
      refine te_iconst (p2 := 149) (x := 1) rfl rfl (by decide) ?_
      exact te_zret rfl rfl (by decide) ⟨I26, f26, _, rfl, Or.inr ⟨rfl, (by rw [pq_xe3, on6_3, (pq_of (k := 0) hg0 : pq_n h 199 0 = g0.toInt.toNat), (pq_of (k := 1) hg1 : pq_n h 199 1 = g1.toInt.toNat), (pq_of (k := 2) hg2 : pq_n h 199 2 = g2.toInt.toNat), (pq_of (k := 0) ((u26.2 _ _ (Or.inr (by decide))).trans ((u25.2 _ _ (Or.inr (by decide))).trans hg0)) : pq_n h26 199 0 = g0.toInt.toNat), (pq_of (k := 1) u26.1 : pq_n h26 199 1 = g1.toInt.toNat), (pq_of (k := 2) ((u26.2 _ _ (Or.inr (by decide))).trans ((u25.2 _ _ (Or.inr (by decide))).trans hg2)) : pq_n h26 199 2 = g2.toInt.toNat)]; unfold pq_x3; rw [if_neg (by omega), if_pos (by omega)]), g0, g1, g2, g3, g4, g5, ((u26.2 _ _ (Or.inr (by decide))).trans ((u25.2 _ _ (Or.inr (by decide))).trans hg0)), u26.1, ((u26.2 _ _ (Or.inr (by decide))).trans ((u25.2 _ _ (Or.inr (by decide))).trans hg2)), ((u26.2 _ _ (Or.inr (by decide))).trans ((u25.2 _ _ (Or.inr (by decide))).trans hg3)), ((u26.2 _ _ (Or.inr (by decide))).trans ((u25.2 _ _ (Or.inr (by decide))).trans hg4)), ((u26.2 _ _ (Or.inr (by decide))).trans ((u25.2 _ _ (Or.inr (by decide))).trans hg5)), (by unfold prm; omega), (by unfold lexV; omega)⟩⟩
  · refine te_iinc (p2 := 28) (x := 1) (y := 0) (lv2 := [(2, .int 0), (0, .ref 164), (1, .int 3)]) rfl rfl (by decide) rfl (by decide) rfl ?_
    refine te_goto rfl ?_
    refine te_iload_n (p2 := 5) rfl rfl rfl ?_
    refine tz_lt (p2 := 8) rfl rfl (show Int32.toInt 0 = 0 from rfl) (fun c31 => absurd c31 (by omega)) (fun c31 => ?_)
    refine te_aload_n (p2 := 9) rfl rfl rfl ?_
    refine tg_r (p2 := 12) (i := 148) (r := 215) rfl rfl hI rfl rfl rfl ?_
    refine te_iload_n (p2 := 13) rfl rfl rfl ?_
    refine tl_e (p2 := 14) (i := 199) (n := 6) (t := 0) (Or.inl rfl) rfl rfl hI rfl rfl (by decide) (by decide) hg0 ?_
    refine te_aload_n (p2 := 15) rfl rfl rfl ?_
    refine tg_r (p2 := 18) (i := 148) (r := 215) rfl rfl hI rfl rfl rfl ?_
    refine te_iload_n (p2 := 19) rfl rfl rfl ?_
    refine te_iconst (p2 := 20) (x := 1) rfl rfl (by decide) ?_
    refine te_iadd (p2 := 21) (z := 1) rfl rfl (by decide) ?_
    refine tl_e (p2 := 22) (i := 199) (n := 6) (t := 0) (Or.inl rfl) rfl rfl hI rfl rfl (by decide) (by decide) hg1 ?_
    refine tb_le (p2 := 25) rfl rfl rfl rfl (fun c35 => ?_) (fun c35 => ?_)
    · refine te_iload_n (p2 := 32) rfl rfl rfl ?_
      refine tz_ge (p2 := 35) rfl rfl (show Int32.toInt 0 = 0 from rfl) (fun c36 => ?_) (fun c36 => absurd c36 (by omega))
      refine te_iload_n (p2 := 38) rfl rfl rfl ?_
      refine te_iconst (p2 := 39) (x := 1) rfl rfl (by decide) ?_
      refine te_isub (p2 := 40) (z := 2) rfl rfl (by decide) ?_
      refine te_istore_n (p2 := 41) (lv2 := [(3, .int 2), (2, .int 0), (0, .ref 164), (1, .int 3)]) rfl rfl (by decide) rfl ?_
      refine te_aload_n (p2 := 42) rfl rfl rfl ?_
      refine tg_r (p2 := 45) (i := 148) (r := 215) rfl rfl hI rfl rfl rfl ?_
      refine te_iload_n (p2 := 46) rfl rfl rfl ?_
      refine tl_e (p2 := 47) (i := 199) (n := 6) (t := 0) (Or.inl rfl) rfl rfl hI rfl rfl (by decide) (by decide) hg2 ?_
      refine te_aload_n (p2 := 48) rfl rfl rfl ?_
      refine tg_r (p2 := 51) (i := 148) (r := 215) rfl rfl hI rfl rfl rfl ?_
      refine te_iload_n (p2 := 52) rfl rfl rfl ?_
      refine tl_e (p2 := 53) (i := 199) (n := 6) (t := 0) (Or.inl rfl) rfl rfl hI rfl rfl (by decide) (by decide) hg0 ?_
      refine tb_ge (p2 := 56) rfl rfl rfl rfl (fun c40 => ?_) (fun c40 => ?_)
      · refine te_aload_n (p2 := 63) rfl rfl rfl ?_
        refine tg_r (p2 := 66) (i := 148) (r := 215) rfl rfl hI rfl rfl rfl ?_
        refine te_iload_n (p2 := 67) rfl rfl rfl ?_
        refine tl_e (p2 := 68) (i := 199) (n := 6) (t := 0) (Or.inl rfl) rfl rfl hI rfl rfl (by decide) (by decide) hg0 ?_
        refine te_istore (p2 := 70) (lv2 := [(4, .int g0), (3, .int 2), (2, .int 0), (0, .ref 164), (1, .int 3)]) rfl rfl (by decide) rfl ?_
        refine te_aload_n (p2 := 71) rfl rfl rfl ?_
        refine tg_r (p2 := 74) (i := 148) (r := 215) rfl rfl hI rfl rfl rfl ?_
        refine te_iload_n (p2 := 75) rfl rfl rfl ?_
        refine te_aload_n (p2 := 76) rfl rfl rfl ?_
        refine tg_r (p2 := 79) (i := 148) (r := 215) rfl rfl hI rfl rfl rfl ?_
        refine te_iload_n (p2 := 80) rfl rfl rfl ?_
        refine tl_e (p2 := 81) (i := 199) (n := 6) (t := 0) (Or.inl rfl) rfl rfl hI rfl rfl (by decide) (by decide) hg2 ?_
        refine ts_i (p2 := 82) (i := 199) (n := 6) rfl rfl hI rfl rfl rfl rfl (by decide) (by decide) (by omega) (by omega) (by omega) rfl (fun h43 I43 u43 => ?_)
        have f43 := fr_st (F := F_X12_nextOrder_3) 0 f0 u43 rfl (by decide) (by decide)
        refine te_aload_n (p2 := 83) rfl rfl rfl ?_
        refine tg_r (p2 := 86) (i := 148) (r := 215) rfl rfl I43 rfl rfl rfl ?_
        refine te_iload_n (p2 := 87) rfl rfl rfl ?_
        refine te_iload (p2 := 89) rfl rfl rfl ?_
        refine ts_i (p2 := 90) (i := 199) (n := 6) rfl rfl I43 rfl rfl rfl rfl (by decide) (by decide) (by omega) (by omega) (by omega) rfl (fun h44 I44 u44 => ?_)
        have f44 := fr_st (F := F_X12_nextOrder_3) 0 f43 u44 rfl (by decide) (by decide)
        refine te_iload_n (p2 := 91) rfl rfl rfl ?_
        refine te_iconst (p2 := 92) (x := 1) rfl rfl (by decide) ?_
        refine te_iadd (p2 := 93) (z := 1) rfl rfl (by decide) ?_
        refine te_istore (p2 := 95) (lv2 := [(5, .int 1), (4, .int g0), (3, .int 2), (2, .int 0), (0, .ref 164), (1, .int 3)]) rfl rfl (by decide) rfl ?_
        refine te_iload_n (p2 := 96) rfl rfl rfl ?_
        refine te_iconst (p2 := 97) (x := 1) rfl rfl (by decide) ?_
        refine te_isub (p2 := 98) (z := 2) rfl rfl (by decide) ?_
        refine te_istore (p2 := 100) (lv2 := [(6, .int 2), (5, .int 1), (4, .int g0), (3, .int 2), (2, .int 0), (0, .ref 164), (1, .int 3)]) rfl rfl (by decide) rfl ?_
        refine te_iload (p2 := 102) rfl rfl rfl ?_
        refine te_iload (p2 := 104) rfl rfl rfl ?_
        refine tb_ge (p2 := 107) rfl rfl (show Int32.toInt 1 = 1 from rfl) (show Int32.toInt 2 = 2 from rfl) (fun c47 => absurd c47 (by omega)) (fun c47 => ?_)
        refine te_aload_n (p2 := 108) rfl rfl rfl ?_
        refine tg_r (p2 := 111) (i := 148) (r := 215) rfl rfl I44 rfl rfl rfl ?_
        refine te_iload (p2 := 113) rfl rfl rfl ?_
        refine tl_e (p2 := 114) (i := 199) (n := 6) (t := 0) (Or.inl rfl) rfl rfl I44 rfl rfl (by decide) (by decide) ((u44.2 _ _ (Or.inr (by decide))).trans ((u43.2 _ _ (Or.inr (by decide))).trans hg1)) ?_
        refine te_istore (p2 := 116) (lv2 := [(7, .int g1), (6, .int 2), (5, .int 1), (4, .int g0), (3, .int 2), (2, .int 0), (0, .ref 164), (1, .int 3)]) rfl rfl (by decide) rfl ?_
        refine te_aload_n (p2 := 117) rfl rfl rfl ?_
        refine tg_r (p2 := 120) (i := 148) (r := 215) rfl rfl I44 rfl rfl rfl ?_
        refine te_iload (p2 := 122) rfl rfl rfl ?_
        refine te_aload_n (p2 := 123) rfl rfl rfl ?_
        refine tg_r (p2 := 126) (i := 148) (r := 215) rfl rfl I44 rfl rfl rfl ?_
        refine te_iload (p2 := 128) rfl rfl rfl ?_
        refine tl_e (p2 := 129) (i := 199) (n := 6) (t := 0) (Or.inl rfl) rfl rfl I44 rfl rfl (by decide) (by decide) u44.1 ?_
        refine ts_i (p2 := 130) (i := 199) (n := 6) rfl rfl I44 rfl rfl rfl rfl (by decide) (by decide) (by omega) (by omega) (by omega) rfl (fun h50 I50 u50 => ?_)
        have f50 := fr_st (F := F_X12_nextOrder_3) 0 f44 u50 rfl (by decide) (by decide)
        refine te_aload_n (p2 := 131) rfl rfl rfl ?_
        refine tg_r (p2 := 134) (i := 148) (r := 215) rfl rfl I50 rfl rfl rfl ?_
        refine te_iload (p2 := 136) rfl rfl rfl ?_
        refine te_iload (p2 := 138) rfl rfl rfl ?_
        refine ts_i (p2 := 139) (i := 199) (n := 6) rfl rfl I50 rfl rfl rfl rfl (by decide) (by decide) (by omega) (by omega) (by omega) rfl (fun h51 I51 u51 => ?_)
        have f51 := fr_st (F := F_X12_nextOrder_3) 0 f50 u51 rfl (by decide) (by decide)
        refine te_iinc (p2 := 142) (x := 2) (y := 1) (lv2 := [(6, .int 1), (7, .int g1), (5, .int 1), (4, .int g0), (3, .int 2), (2, .int 0), (0, .ref 164), (1, .int 3)]) rfl rfl (by decide) rfl (by decide) rfl ?_
        refine te_iinc (p2 := 145) (x := 1) (y := 2) (lv2 := [(5, .int 2), (6, .int 1), (7, .int g1), (4, .int g0), (3, .int 2), (2, .int 0), (0, .ref 164), (1, .int 3)]) rfl rfl (by decide) rfl (by decide) rfl ?_
        refine te_goto rfl ?_
        refine te_iload (p2 := 102) rfl rfl rfl ?_
        refine te_iload (p2 := 104) rfl rfl rfl ?_
        refine tb_ge (p2 := 107) rfl rfl (show Int32.toInt 2 = 2 from rfl) (show Int32.toInt 1 = 1 from rfl) (fun c54 => ?_) (fun c54 => absurd c54 (by omega))
        refine te_iconst (p2 := 149) (x := 1) rfl rfl (by decide) ?_
        exact te_zret rfl rfl (by decide) ⟨I51, f51, _, rfl, Or.inr ⟨rfl, (by rw [pq_xe3, on6_3, (pq_of (k := 0) hg0 : pq_n h 199 0 = g0.toInt.toNat), (pq_of (k := 1) hg1 : pq_n h 199 1 = g1.toInt.toNat), (pq_of (k := 2) hg2 : pq_n h 199 2 = g2.toInt.toNat), (pq_of (k := 0) ((u51.2 _ _ (Or.inr (by decide))).trans ((u50.2 _ _ (Or.inr (by decide))).trans ((u44.2 _ _ (Or.inr (by decide))).trans u43.1))) : pq_n h51 199 0 = g2.toInt.toNat), (pq_of (k := 1) ((u51.2 _ _ (Or.inr (by decide))).trans u50.1) : pq_n h51 199 1 = g0.toInt.toNat), (pq_of (k := 2) u51.1 : pq_n h51 199 2 = g1.toInt.toNat)]; unfold pq_x3; rw [if_pos (by omega), if_neg (by omega), if_neg (by omega)]), g2, g0, g1, g3, g4, g5, ((u51.2 _ _ (Or.inr (by decide))).trans ((u50.2 _ _ (Or.inr (by decide))).trans ((u44.2 _ _ (Or.inr (by decide))).trans u43.1))), ((u51.2 _ _ (Or.inr (by decide))).trans u50.1), u51.1, ((u51.2 _ _ (Or.inr (by decide))).trans ((u50.2 _ _ (Or.inr (by decide))).trans ((u44.2 _ _ (Or.inr (by decide))).trans ((u43.2 _ _ (Or.inr (by decide))).trans hg3)))), ((u51.2 _ _ (Or.inr (by decide))).trans ((u50.2 _ _ (Or.inr (by decide))).trans ((u44.2 _ _ (Or.inr (by decide))).trans ((u43.2 _ _ (Or.inr (by decide))).trans hg4)))), ((u51.2 _ _ (Or.inr (by decide))).trans ((u50.2 _ _ (Or.inr (by decide))).trans ((u44.2 _ _ (Or.inr (by decide))).trans ((u43.2 _ _ (Or.inr (by decide))).trans hg5)))), (by unfold prm; omega), (by unfold lexV; omega)⟩⟩
      · refine te_iinc (p2 := 59) (x := 2) (y := 1) (lv2 := [(3, .int 1), (2, .int 0), (0, .ref 164), (1, .int 3)]) rfl rfl (by decide) rfl (by decide) rfl ?_
        refine te_goto rfl ?_
        refine te_aload_n (p2 := 42) rfl rfl rfl ?_
        refine tg_r (p2 := 45) (i := 148) (r := 215) rfl rfl hI rfl rfl rfl ?_
        refine te_iload_n (p2 := 46) rfl rfl rfl ?_
        refine tl_e (p2 := 47) (i := 199) (n := 6) (t := 0) (Or.inl rfl) rfl rfl hI rfl rfl (by decide) (by decide) hg1 ?_
        refine te_aload_n (p2 := 48) rfl rfl rfl ?_
        refine tg_r (p2 := 51) (i := 148) (r := 215) rfl rfl hI rfl rfl rfl ?_
        refine te_iload_n (p2 := 52) rfl rfl rfl ?_
        refine tl_e (p2 := 53) (i := 199) (n := 6) (t := 0) (Or.inl rfl) rfl rfl hI rfl rfl (by decide) (by decide) hg0 ?_
        refine tb_ge (p2 := 56) rfl rfl rfl rfl (fun c58 => ?_) (fun c58 => ?_)
        · refine te_aload_n (p2 := 63) rfl rfl rfl ?_
          refine tg_r (p2 := 66) (i := 148) (r := 215) rfl rfl hI rfl rfl rfl ?_
          refine te_iload_n (p2 := 67) rfl rfl rfl ?_
          refine tl_e (p2 := 68) (i := 199) (n := 6) (t := 0) (Or.inl rfl) rfl rfl hI rfl rfl (by decide) (by decide) hg0 ?_
          refine te_istore (p2 := 70) (lv2 := [(4, .int g0), (3, .int 1), (2, .int 0), (0, .ref 164), (1, .int 3)]) rfl rfl (by decide) rfl ?_
          refine te_aload_n (p2 := 71) rfl rfl rfl ?_
          refine tg_r (p2 := 74) (i := 148) (r := 215) rfl rfl hI rfl rfl rfl ?_
          refine te_iload_n (p2 := 75) rfl rfl rfl ?_
          refine te_aload_n (p2 := 76) rfl rfl rfl ?_
          refine tg_r (p2 := 79) (i := 148) (r := 215) rfl rfl hI rfl rfl rfl ?_
          refine te_iload_n (p2 := 80) rfl rfl rfl ?_
          refine tl_e (p2 := 81) (i := 199) (n := 6) (t := 0) (Or.inl rfl) rfl rfl hI rfl rfl (by decide) (by decide) hg1 ?_
          refine ts_i (p2 := 82) (i := 199) (n := 6) rfl rfl hI rfl rfl rfl rfl (by decide) (by decide) (by omega) (by omega) (by omega) rfl (fun h61 I61 u61 => ?_)
          have f61 := fr_st (F := F_X12_nextOrder_3) 0 f0 u61 rfl (by decide) (by decide)
          refine te_aload_n (p2 := 83) rfl rfl rfl ?_
          refine tg_r (p2 := 86) (i := 148) (r := 215) rfl rfl I61 rfl rfl rfl ?_
          refine te_iload_n (p2 := 87) rfl rfl rfl ?_
          refine te_iload (p2 := 89) rfl rfl rfl ?_
          refine ts_i (p2 := 90) (i := 199) (n := 6) rfl rfl I61 rfl rfl rfl rfl (by decide) (by decide) (by omega) (by omega) (by omega) rfl (fun h62 I62 u62 => ?_)
          have f62 := fr_st (F := F_X12_nextOrder_3) 0 f61 u62 rfl (by decide) (by decide)
          refine te_iload_n (p2 := 91) rfl rfl rfl ?_
          refine te_iconst (p2 := 92) (x := 1) rfl rfl (by decide) ?_
          refine te_iadd (p2 := 93) (z := 1) rfl rfl (by decide) ?_
          refine te_istore (p2 := 95) (lv2 := [(5, .int 1), (4, .int g0), (3, .int 1), (2, .int 0), (0, .ref 164), (1, .int 3)]) rfl rfl (by decide) rfl ?_
          refine te_iload_n (p2 := 96) rfl rfl rfl ?_
          refine te_iconst (p2 := 97) (x := 1) rfl rfl (by decide) ?_
          refine te_isub (p2 := 98) (z := 2) rfl rfl (by decide) ?_
          refine te_istore (p2 := 100) (lv2 := [(6, .int 2), (5, .int 1), (4, .int g0), (3, .int 1), (2, .int 0), (0, .ref 164), (1, .int 3)]) rfl rfl (by decide) rfl ?_
          refine te_iload (p2 := 102) rfl rfl rfl ?_
          refine te_iload (p2 := 104) rfl rfl rfl ?_
          refine tb_ge (p2 := 107) rfl rfl (show Int32.toInt 1 = 1 from rfl) (show Int32.toInt 2 = 2 from rfl) (fun c65 => absurd c65 (by omega)) (fun c65 => ?_)
          refine te_aload_n (p2 := 108) rfl rfl rfl ?_
          refine tg_r (p2 := 111) (i := 148) (r := 215) rfl rfl I62 rfl rfl rfl ?_
          refine te_iload (p2 := 113) rfl rfl rfl ?_
          refine tl_e (p2 := 114) (i := 199) (n := 6) (t := 0) (Or.inl rfl) rfl rfl I62 rfl rfl (by decide) (by decide) u62.1 ?_
          refine te_istore (p2 := 116) (lv2 := [(7, .int g0), (6, .int 2), (5, .int 1), (4, .int g0), (3, .int 1), (2, .int 0), (0, .ref 164), (1, .int 3)]) rfl rfl (by decide) rfl ?_
          refine te_aload_n (p2 := 117) rfl rfl rfl ?_
          refine tg_r (p2 := 120) (i := 148) (r := 215) rfl rfl I62 rfl rfl rfl ?_
          refine te_iload (p2 := 122) rfl rfl rfl ?_
          refine te_aload_n (p2 := 123) rfl rfl rfl ?_
          refine tg_r (p2 := 126) (i := 148) (r := 215) rfl rfl I62 rfl rfl rfl ?_
          refine te_iload (p2 := 128) rfl rfl rfl ?_
          refine tl_e (p2 := 129) (i := 199) (n := 6) (t := 0) (Or.inl rfl) rfl rfl I62 rfl rfl (by decide) (by decide) ((u62.2 _ _ (Or.inr (by decide))).trans ((u61.2 _ _ (Or.inr (by decide))).trans hg2)) ?_
          refine ts_i (p2 := 130) (i := 199) (n := 6) rfl rfl I62 rfl rfl rfl rfl (by decide) (by decide) (by omega) (by omega) (by omega) rfl (fun h68 I68 u68 => ?_)
          have f68 := fr_st (F := F_X12_nextOrder_3) 0 f62 u68 rfl (by decide) (by decide)
          refine te_aload_n (p2 := 131) rfl rfl rfl ?_
          refine tg_r (p2 := 134) (i := 148) (r := 215) rfl rfl I68 rfl rfl rfl ?_
          refine te_iload (p2 := 136) rfl rfl rfl ?_
          refine te_iload (p2 := 138) rfl rfl rfl ?_
          refine ts_i (p2 := 139) (i := 199) (n := 6) rfl rfl I68 rfl rfl rfl rfl (by decide) (by decide) (by omega) (by omega) (by omega) rfl (fun h69 I69 u69 => ?_)
          have f69 := fr_st (F := F_X12_nextOrder_3) 0 f68 u69 rfl (by decide) (by decide)
          refine te_iinc (p2 := 142) (x := 2) (y := 1) (lv2 := [(6, .int 1), (7, .int g0), (5, .int 1), (4, .int g0), (3, .int 1), (2, .int 0), (0, .ref 164), (1, .int 3)]) rfl rfl (by decide) rfl (by decide) rfl ?_
          refine te_iinc (p2 := 145) (x := 1) (y := 2) (lv2 := [(5, .int 2), (6, .int 1), (7, .int g0), (4, .int g0), (3, .int 1), (2, .int 0), (0, .ref 164), (1, .int 3)]) rfl rfl (by decide) rfl (by decide) rfl ?_
          refine te_goto rfl ?_
          refine te_iload (p2 := 102) rfl rfl rfl ?_
          refine te_iload (p2 := 104) rfl rfl rfl ?_
          refine tb_ge (p2 := 107) rfl rfl (show Int32.toInt 2 = 2 from rfl) (show Int32.toInt 1 = 1 from rfl) (fun c72 => ?_) (fun c72 => absurd c72 (by omega))
          refine te_iconst (p2 := 149) (x := 1) rfl rfl (by decide) ?_
          exact te_zret rfl rfl (by decide) ⟨I69, f69, _, rfl, Or.inr ⟨rfl, (by rw [pq_xe3, on6_3, (pq_of (k := 0) hg0 : pq_n h 199 0 = g0.toInt.toNat), (pq_of (k := 1) hg1 : pq_n h 199 1 = g1.toInt.toNat), (pq_of (k := 2) hg2 : pq_n h 199 2 = g2.toInt.toNat), (pq_of (k := 0) ((u69.2 _ _ (Or.inr (by decide))).trans ((u68.2 _ _ (Or.inr (by decide))).trans ((u62.2 _ _ (Or.inr (by decide))).trans u61.1))) : pq_n h69 199 0 = g1.toInt.toNat), (pq_of (k := 1) ((u69.2 _ _ (Or.inr (by decide))).trans u68.1) : pq_n h69 199 1 = g2.toInt.toNat), (pq_of (k := 2) u69.1 : pq_n h69 199 2 = g0.toInt.toNat)]; unfold pq_x3; rw [if_pos (by omega), if_neg (by omega), if_pos (by omega), if_neg (by omega)]), g1, g2, g0, g3, g4, g5, ((u69.2 _ _ (Or.inr (by decide))).trans ((u68.2 _ _ (Or.inr (by decide))).trans ((u62.2 _ _ (Or.inr (by decide))).trans u61.1))), ((u69.2 _ _ (Or.inr (by decide))).trans u68.1), u69.1, ((u69.2 _ _ (Or.inr (by decide))).trans ((u68.2 _ _ (Or.inr (by decide))).trans ((u62.2 _ _ (Or.inr (by decide))).trans ((u61.2 _ _ (Or.inr (by decide))).trans hg3)))), ((u69.2 _ _ (Or.inr (by decide))).trans ((u68.2 _ _ (Or.inr (by decide))).trans ((u62.2 _ _ (Or.inr (by decide))).trans ((u61.2 _ _ (Or.inr (by decide))).trans hg4)))), ((u69.2 _ _ (Or.inr (by decide))).trans ((u68.2 _ _ (Or.inr (by decide))).trans ((u62.2 _ _ (Or.inr (by decide))).trans ((u61.2 _ _ (Or.inr (by decide))).trans hg5)))), (by unfold prm; omega), (by unfold lexV; omega)⟩⟩
        · refine te_iinc (p2 := 59) (x := 1) (y := 0) (lv2 := [(3, .int 0), (2, .int 0), (0, .ref 164), (1, .int 3)]) rfl rfl (by decide) rfl (by decide) rfl ?_
          refine te_goto rfl ?_
          refine te_aload_n (p2 := 42) rfl rfl rfl ?_
          refine tg_r (p2 := 45) (i := 148) (r := 215) rfl rfl hI rfl rfl rfl ?_
          refine te_iload_n (p2 := 46) rfl rfl rfl ?_
          refine tl_e (p2 := 47) (i := 199) (n := 6) (t := 0) (Or.inl rfl) rfl rfl hI rfl rfl (by decide) (by decide) hg0 ?_
          refine te_aload_n (p2 := 48) rfl rfl rfl ?_
          refine tg_r (p2 := 51) (i := 148) (r := 215) rfl rfl hI rfl rfl rfl ?_
          refine te_iload_n (p2 := 52) rfl rfl rfl ?_
          refine tl_e (p2 := 53) (i := 199) (n := 6) (t := 0) (Or.inl rfl) rfl rfl hI rfl rfl (by decide) (by decide) hg0 ?_
          refine tb_ge (p2 := 56) rfl rfl rfl rfl (fun c76 => ?_) (fun c76 => absurd c76 (by omega))
          refine te_aload_n (p2 := 63) rfl rfl rfl ?_
          refine tg_r (p2 := 66) (i := 148) (r := 215) rfl rfl hI rfl rfl rfl ?_
          refine te_iload_n (p2 := 67) rfl rfl rfl ?_
          refine tl_e (p2 := 68) (i := 199) (n := 6) (t := 0) (Or.inl rfl) rfl rfl hI rfl rfl (by decide) (by decide) hg0 ?_
          refine te_istore (p2 := 70) (lv2 := [(4, .int g0), (3, .int 0), (2, .int 0), (0, .ref 164), (1, .int 3)]) rfl rfl (by decide) rfl ?_
          refine te_aload_n (p2 := 71) rfl rfl rfl ?_
          refine tg_r (p2 := 74) (i := 148) (r := 215) rfl rfl hI rfl rfl rfl ?_
          refine te_iload_n (p2 := 75) rfl rfl rfl ?_
          refine te_aload_n (p2 := 76) rfl rfl rfl ?_
          refine tg_r (p2 := 79) (i := 148) (r := 215) rfl rfl hI rfl rfl rfl ?_
          refine te_iload_n (p2 := 80) rfl rfl rfl ?_
          refine tl_e (p2 := 81) (i := 199) (n := 6) (t := 0) (Or.inl rfl) rfl rfl hI rfl rfl (by decide) (by decide) hg0 ?_
          refine ts_i (p2 := 82) (i := 199) (n := 6) rfl rfl hI rfl rfl rfl rfl (by decide) (by decide) (by omega) (by omega) (by omega) rfl (fun h79 I79 u79 => ?_)
          have f79 := fr_st (F := F_X12_nextOrder_3) 0 f0 u79 rfl (by decide) (by decide)
          refine te_aload_n (p2 := 83) rfl rfl rfl ?_
          refine tg_r (p2 := 86) (i := 148) (r := 215) rfl rfl I79 rfl rfl rfl ?_
          refine te_iload_n (p2 := 87) rfl rfl rfl ?_
          refine te_iload (p2 := 89) rfl rfl rfl ?_
          refine ts_i (p2 := 90) (i := 199) (n := 6) rfl rfl I79 rfl rfl rfl rfl (by decide) (by decide) (by omega) (by omega) (by omega) rfl (fun h80 I80 u80 => ?_)
          have f80 := fr_st (F := F_X12_nextOrder_3) 0 f79 u80 rfl (by decide) (by decide)
          refine te_iload_n (p2 := 91) rfl rfl rfl ?_
          refine te_iconst (p2 := 92) (x := 1) rfl rfl (by decide) ?_
          refine te_iadd (p2 := 93) (z := 1) rfl rfl (by decide) ?_
          refine te_istore (p2 := 95) (lv2 := [(5, .int 1), (4, .int g0), (3, .int 0), (2, .int 0), (0, .ref 164), (1, .int 3)]) rfl rfl (by decide) rfl ?_
          refine te_iload_n (p2 := 96) rfl rfl rfl ?_
          refine te_iconst (p2 := 97) (x := 1) rfl rfl (by decide) ?_
          refine te_isub (p2 := 98) (z := 2) rfl rfl (by decide) ?_
          refine te_istore (p2 := 100) (lv2 := [(6, .int 2), (5, .int 1), (4, .int g0), (3, .int 0), (2, .int 0), (0, .ref 164), (1, .int 3)]) rfl rfl (by decide) rfl ?_
          refine te_iload (p2 := 102) rfl rfl rfl ?_
          refine te_iload (p2 := 104) rfl rfl rfl ?_
          refine tb_ge (p2 := 107) rfl rfl (show Int32.toInt 1 = 1 from rfl) (show Int32.toInt 2 = 2 from rfl) (fun c83 => absurd c83 (by omega)) (fun c83 => ?_)
          refine te_aload_n (p2 := 108) rfl rfl rfl ?_
          refine tg_r (p2 := 111) (i := 148) (r := 215) rfl rfl I80 rfl rfl rfl ?_
          refine te_iload (p2 := 113) rfl rfl rfl ?_
          refine tl_e (p2 := 114) (i := 199) (n := 6) (t := 0) (Or.inl rfl) rfl rfl I80 rfl rfl (by decide) (by decide) ((u80.2 _ _ (Or.inr (by decide))).trans ((u79.2 _ _ (Or.inr (by decide))).trans hg1)) ?_
          refine te_istore (p2 := 116) (lv2 := [(7, .int g1), (6, .int 2), (5, .int 1), (4, .int g0), (3, .int 0), (2, .int 0), (0, .ref 164), (1, .int 3)]) rfl rfl (by decide) rfl ?_
          refine te_aload_n (p2 := 117) rfl rfl rfl ?_
          refine tg_r (p2 := 120) (i := 148) (r := 215) rfl rfl I80 rfl rfl rfl ?_
          refine te_iload (p2 := 122) rfl rfl rfl ?_
          refine te_aload_n (p2 := 123) rfl rfl rfl ?_
          refine tg_r (p2 := 126) (i := 148) (r := 215) rfl rfl I80 rfl rfl rfl ?_
          refine te_iload (p2 := 128) rfl rfl rfl ?_
          refine tl_e (p2 := 129) (i := 199) (n := 6) (t := 0) (Or.inl rfl) rfl rfl I80 rfl rfl (by decide) (by decide) ((u80.2 _ _ (Or.inr (by decide))).trans ((u79.2 _ _ (Or.inr (by decide))).trans hg2)) ?_
          refine ts_i (p2 := 130) (i := 199) (n := 6) rfl rfl I80 rfl rfl rfl rfl (by decide) (by decide) (by omega) (by omega) (by omega) rfl (fun h86 I86 u86 => ?_)
          have f86 := fr_st (F := F_X12_nextOrder_3) 0 f80 u86 rfl (by decide) (by decide)
          refine te_aload_n (p2 := 131) rfl rfl rfl ?_
          refine tg_r (p2 := 134) (i := 148) (r := 215) rfl rfl I86 rfl rfl rfl ?_
          refine te_iload (p2 := 136) rfl rfl rfl ?_
          refine te_iload (p2 := 138) rfl rfl rfl ?_
          refine ts_i (p2 := 139) (i := 199) (n := 6) rfl rfl I86 rfl rfl rfl rfl (by decide) (by decide) (by omega) (by omega) (by omega) rfl (fun h87 I87 u87 => ?_)
          have f87 := fr_st (F := F_X12_nextOrder_3) 0 f86 u87 rfl (by decide) (by decide)
          refine te_iinc (p2 := 142) (x := 2) (y := 1) (lv2 := [(6, .int 1), (7, .int g1), (5, .int 1), (4, .int g0), (3, .int 0), (2, .int 0), (0, .ref 164), (1, .int 3)]) rfl rfl (by decide) rfl (by decide) rfl ?_
          refine te_iinc (p2 := 145) (x := 1) (y := 2) (lv2 := [(5, .int 2), (6, .int 1), (7, .int g1), (4, .int g0), (3, .int 0), (2, .int 0), (0, .ref 164), (1, .int 3)]) rfl rfl (by decide) rfl (by decide) rfl ?_
          refine te_goto rfl ?_
          refine te_iload (p2 := 102) rfl rfl rfl ?_
          refine te_iload (p2 := 104) rfl rfl rfl ?_
          refine tb_ge (p2 := 107) rfl rfl (show Int32.toInt 2 = 2 from rfl) (show Int32.toInt 1 = 1 from rfl) (fun c90 => ?_) (fun c90 => absurd c90 (by omega))
          refine te_iconst (p2 := 149) (x := 1) rfl rfl (by decide) ?_
          exact te_zret rfl rfl (by decide) ⟨I87, f87, _, rfl, Or.inr ⟨rfl, (by rw [pq_xe3, on6_3, (pq_of (k := 0) hg0 : pq_n h 199 0 = g0.toInt.toNat), (pq_of (k := 1) hg1 : pq_n h 199 1 = g1.toInt.toNat), (pq_of (k := 2) hg2 : pq_n h 199 2 = g2.toInt.toNat), (pq_of (k := 0) ((u87.2 _ _ (Or.inr (by decide))).trans ((u86.2 _ _ (Or.inr (by decide))).trans u80.1)) : pq_n h87 199 0 = g0.toInt.toNat), (pq_of (k := 1) ((u87.2 _ _ (Or.inr (by decide))).trans u86.1) : pq_n h87 199 1 = g2.toInt.toNat), (pq_of (k := 2) u87.1 : pq_n h87 199 2 = g1.toInt.toNat)]; unfold pq_x3; rw [if_pos (by omega), if_neg (by omega), if_pos (by omega), if_pos (by omega)]), g0, g2, g1, g3, g4, g5, ((u87.2 _ _ (Or.inr (by decide))).trans ((u86.2 _ _ (Or.inr (by decide))).trans u80.1)), ((u87.2 _ _ (Or.inr (by decide))).trans u86.1), u87.1, ((u87.2 _ _ (Or.inr (by decide))).trans ((u86.2 _ _ (Or.inr (by decide))).trans ((u80.2 _ _ (Or.inr (by decide))).trans ((u79.2 _ _ (Or.inr (by decide))).trans hg3)))), ((u87.2 _ _ (Or.inr (by decide))).trans ((u86.2 _ _ (Or.inr (by decide))).trans ((u80.2 _ _ (Or.inr (by decide))).trans ((u79.2 _ _ (Or.inr (by decide))).trans hg4)))), ((u87.2 _ _ (Or.inr (by decide))).trans ((u86.2 _ _ (Or.inr (by decide))).trans ((u80.2 _ _ (Or.inr (by decide))).trans ((u79.2 _ _ (Or.inr (by decide))).trans hg5)))), (by unfold prm; omega), (by unfold lexV; omega)⟩⟩
    · refine te_iinc (p2 := 28) (x := 0) (y := (-1)) (lv2 := [(2, .int (-1)), (0, .ref 164), (1, .int 3)]) rfl rfl (by decide) rfl (by decide) rfl ?_
      refine te_goto rfl ?_
      refine te_iload_n (p2 := 5) rfl rfl rfl ?_
      refine tz_lt (p2 := 8) rfl rfl (show Int32.toInt (-1) = (-1) from rfl) (fun c92 => ?_) (fun c92 => absurd c92 (by omega))
      refine te_iload_n (p2 := 32) rfl rfl rfl ?_
      refine tz_ge (p2 := 35) rfl rfl (show Int32.toInt (-1) = (-1) from rfl) (fun c93 => absurd c93 (by omega)) (fun c93 => ?_)
      refine te_iconst (p2 := 36) (x := 0) rfl rfl (by decide) ?_
      exact te_zret rfl rfl (by decide) ⟨hI, f0, _, rfl, Or.inl ⟨rfl, (by rw [pq_xe3, (pq_of (k := 0) hg0 : pq_n h 199 0 = g0.toInt.toNat), (pq_of (k := 1) hg1 : pq_n h 199 1 = g1.toInt.toNat), (pq_of (k := 2) hg2 : pq_n h 199 2 = g2.toInt.toNat)]; unfold pq_x3; rw [if_pos (by omega), if_pos (by omega)])⟩⟩
set_option maxRecDepth 20000 in
set_option maxHeartbeats 4000000 in
theorem c_X12_nextOrder_4 {g0 : Int32} {g1 : Int32} {g2 : Int32} {g3 : Int32} {g4 : Int32} {g5 : Int32} {h : im_H} (hI : tI h) (hg0 : rd h 199 (Int32.toInt 0).toNat = some (.int g0)) (ga0 : 0 ≤ g0.toInt) (gb0 : g0.toInt ≤ 5) (hg1 : rd h 199 (Int32.toInt 1).toNat = some (.int g1)) (ga1 : 0 ≤ g1.toInt) (gb1 : g1.toInt ≤ 5) (hg2 : rd h 199 (Int32.toInt 2).toNat = some (.int g2)) (ga2 : 0 ≤ g2.toInt) (gb2 : g2.toInt ≤ 5) (hg3 : rd h 199 (Int32.toInt 3).toNat = some (.int g3)) (ga3 : 0 ≤ g3.toInt) (gb3 : g3.toInt ≤ 5) (hg4 : rd h 199 (Int32.toInt 4).toNat = some (.int g4)) (ga4 : 0 ≤ g4.toInt) (gb4 : g4.toInt ≤ 5) (hg5 : rd h 199 (Int32.toInt 5).toNat = some (.int g5)) (ga5 : 0 ≤ g5.toInt) (gb5 : g5.toInt ≤ 5) (pr0 : prm 4 g0.toInt g1.toInt g2.toInt g3.toInt g4.toInt g5.toInt) : CaP 1 167 [.ref 164, .int 4] h (fun v h2 => tI h2 ∧ fr F_X12_nextOrder_4 h h2 ∧ ∃ y : Int32, v = some (.int y) ∧ ((y = 0 ∧ pq_x 4 (on6 4 (pq_n h 199)) = none) ∨ (y = 1 ∧ pq_x 4 (on6 4 (pq_n h 199)) = some (on6 4 (pq_n h2 199)) ∧ ∃ k0 k1 k2 k3 k4 k5 : Int32, rd h2 199 (Int32.toInt 0).toNat = some (.int k0) ∧ rd h2 199 (Int32.toInt 1).toNat = some (.int k1) ∧ rd h2 199 (Int32.toInt 2).toNat = some (.int k2) ∧ rd h2 199 (Int32.toInt 3).toNat = some (.int k3) ∧ rd h2 199 (Int32.toInt 4).toNat = some (.int k4) ∧ rd h2 199 (Int32.toInt 5).toNat = some (.int k5) ∧ prm 4 k0.toInt k1.toInt k2.toInt k3.toInt k4.toInt k5.toInt ∧ lexV g0.toInt g1.toInt g2.toInt g3.toInt g4.toInt g5.toInt < lexV k0.toInt k1.toInt k2.toInt k3.toInt k4.toInt k5.toInt))) := by
  refine cap_of (d := 0) (M := mX12_nextOrder) rfl (Nat.le_of_ble_eq_true rfl) ?_
  show EvP im_K0 0 mX12_nextOrder (0, [(0, .ref 164), (1, .int 4)], [], h) _
  obtain ⟨q0, q1, q2, q3, q4, q5⟩ := pr0
  have q0 := q0 (by decide)
  have q1 := q1 (by decide)
  have q2 := q2 (by decide)
  have q3 := q3 (by decide)
  clear q4 q5
  have f0 : fr F_X12_nextOrder_4 h h := fr_rf
  refine te_iload_n (p2 := 1) rfl rfl rfl ?_
  refine te_iconst (p2 := 2) (x := 2) rfl rfl (by decide) ?_
  refine te_isub (p2 := 3) (z := 2) rfl rfl (by decide) ?_
  refine te_istore_n (p2 := 4) (lv2 := [(2, .int 2), (0, .ref 164), (1, .int 4)]) rfl rfl (by decide) rfl ?_
  refine te_iload_n (p2 := 5) rfl rfl rfl ?_
  refine tz_lt (p2 := 8) rfl rfl (show Int32.toInt 2 = 2 from rfl) (fun c2 => absurd c2 (by omega)) (fun c2 => ?_)
  refine te_aload_n (p2 := 9) rfl rfl rfl ?_
  refine tg_r (p2 := 12) (i := 148) (r := 215) rfl rfl hI rfl rfl rfl ?_
  refine te_iload_n (p2 := 13) rfl rfl rfl ?_
  refine tl_e (p2 := 14) (i := 199) (n := 6) (t := 0) (Or.inl rfl) rfl rfl hI rfl rfl (by decide) (by decide) hg2 ?_
  refine te_aload_n (p2 := 15) rfl rfl rfl ?_
  refine tg_r (p2 := 18) (i := 148) (r := 215) rfl rfl hI rfl rfl rfl ?_
  refine te_iload_n (p2 := 19) rfl rfl rfl ?_
  refine te_iconst (p2 := 20) (x := 1) rfl rfl (by decide) ?_
  refine te_iadd (p2 := 21) (z := 3) rfl rfl (by decide) ?_
  refine tl_e (p2 := 22) (i := 199) (n := 6) (t := 0) (Or.inl rfl) rfl rfl hI rfl rfl (by decide) (by decide) hg3 ?_
  refine tb_le (p2 := 25) rfl rfl rfl rfl (fun c6 => ?_) (fun c6 => ?_)
  · refine te_iload_n (p2 := 32) rfl rfl rfl ?_
    refine tz_ge (p2 := 35) rfl rfl (show Int32.toInt 2 = 2 from rfl) (fun c7 => ?_) (fun c7 => absurd c7 (by omega))
    refine te_iload_n (p2 := 38) rfl rfl rfl ?_
    refine te_iconst (p2 := 39) (x := 1) rfl rfl (by decide) ?_
    refine te_isub (p2 := 40) (z := 3) rfl rfl (by decide) ?_
    refine te_istore_n (p2 := 41) (lv2 := [(3, .int 3), (2, .int 2), (0, .ref 164), (1, .int 4)]) rfl rfl (by decide) rfl ?_
    refine te_aload_n (p2 := 42) rfl rfl rfl ?_
    refine tg_r (p2 := 45) (i := 148) (r := 215) rfl rfl hI rfl rfl rfl ?_
    refine te_iload_n (p2 := 46) rfl rfl rfl ?_
    refine tl_e (p2 := 47) (i := 199) (n := 6) (t := 0) (Or.inl rfl) rfl rfl hI rfl rfl (by decide) (by decide) hg3 ?_
    refine te_aload_n (p2 := 48) rfl rfl rfl ?_
    refine tg_r (p2 := 51) (i := 148) (r := 215) rfl rfl hI rfl rfl rfl ?_
    refine te_iload_n (p2 := 52) rfl rfl rfl ?_
    refine tl_e (p2 := 53) (i := 199) (n := 6) (t := 0) (Or.inl rfl) rfl rfl hI rfl rfl (by decide) (by decide) hg2 ?_
    refine tb_ge (p2 := 56) rfl rfl rfl rfl (fun c11 => ?_) (fun c11 => ?_)
    · refine te_aload_n (p2 := 63) rfl rfl rfl ?_
      refine tg_r (p2 := 66) (i := 148) (r := 215) rfl rfl hI rfl rfl rfl ?_
      refine te_iload_n (p2 := 67) rfl rfl rfl ?_
      refine tl_e (p2 := 68) (i := 199) (n := 6) (t := 0) (Or.inl rfl) rfl rfl hI rfl rfl (by decide) (by decide) hg2 ?_
      refine te_istore (p2 := 70) (lv2 := [(4, .int g2), (3, .int 3), (2, .int 2), (0, .ref 164), (1, .int 4)]) rfl rfl (by decide) rfl ?_
      refine te_aload_n (p2 := 71) rfl rfl rfl ?_
      refine tg_r (p2 := 74) (i := 148) (r := 215) rfl rfl hI rfl rfl rfl ?_
      refine te_iload_n (p2 := 75) rfl rfl rfl ?_
      refine te_aload_n (p2 := 76) rfl rfl rfl ?_
      refine tg_r (p2 := 79) (i := 148) (r := 215) rfl rfl hI rfl rfl rfl ?_
      refine te_iload_n (p2 := 80) rfl rfl rfl ?_
      refine tl_e (p2 := 81) (i := 199) (n := 6) (t := 0) (Or.inl rfl) rfl rfl hI rfl rfl (by decide) (by decide) hg3 ?_
      refine ts_i (p2 := 82) (i := 199) (n := 6) rfl rfl hI rfl rfl rfl rfl (by decide) (by decide) (by omega) (by omega) (by omega) rfl (fun h14 I14 u14 => ?_)
      have f14 := fr_st (F := F_X12_nextOrder_4) 0 f0 u14 rfl (by decide) (by decide)
      refine te_aload_n (p2 := 83) rfl rfl rfl ?_
      refine tg_r (p2 := 86) (i := 148) (r := 215) rfl rfl I14 rfl rfl rfl ?_
      refine te_iload_n (p2 := 87) rfl rfl rfl ?_
      refine te_iload (p2 := 89) rfl rfl rfl ?_
      refine ts_i (p2 := 90) (i := 199) (n := 6) rfl rfl I14 rfl rfl rfl rfl (by decide) (by decide) (by omega) (by omega) (by omega) rfl (fun h15 I15 u15 => ?_)
      have f15 := fr_st (F := F_X12_nextOrder_4) 0 f14 u15 rfl (by decide) (by decide)
      refine te_iload_n (p2 := 91) rfl rfl rfl ?_
      refine te_iconst (p2 := 92) (x := 1) rfl rfl (by decide) ?_
      refine te_iadd (p2 := 93) (z := 3) rfl rfl (by decide) ?_
      refine te_istore (p2 := 95) (lv2 := [(5, .int 3), (4, .int g2), (3, .int 3), (2, .int 2), (0, .ref 164), (1, .int 4)]) rfl rfl (by decide) rfl ?_
      refine te_iload_n (p2 := 96) rfl rfl rfl ?_
      refine te_iconst (p2 := 97) (x := 1) rfl rfl (by decide) ?_
      refine te_isub (p2 := 98) (z := 3) rfl rfl (by decide) ?_
      refine te_istore (p2 := 100) (lv2 := [(6, .int 3), (5, .int 3), (4, .int g2), (3, .int 3), (2, .int 2), (0, .ref 164), (1, .int 4)]) rfl rfl (by decide) rfl ?_
      refine te_iload (p2 := 102) rfl rfl rfl ?_
      refine te_iload (p2 := 104) rfl rfl rfl ?_
      refine tb_ge (p2 := 107) rfl rfl (show Int32.toInt 3 = 3 from rfl) (show Int32.toInt 3 = 3 from rfl) (fun c18 => ?_) (fun c18 => absurd c18 (by omega))
      refine te_iconst (p2 := 149) (x := 1) rfl rfl (by decide) ?_
      exact te_zret rfl rfl (by decide) ⟨I15, f15, _, rfl, Or.inr ⟨rfl, (by rw [pq_xe4, on6_4, (pq_of (k := 0) hg0 : pq_n h 199 0 = g0.toInt.toNat), (pq_of (k := 1) hg1 : pq_n h 199 1 = g1.toInt.toNat), (pq_of (k := 2) hg2 : pq_n h 199 2 = g2.toInt.toNat), (pq_of (k := 3) hg3 : pq_n h 199 3 = g3.toInt.toNat), (pq_of (k := 0) ((u15.2 _ _ (Or.inr (by decide))).trans ((u14.2 _ _ (Or.inr (by decide))).trans hg0)) : pq_n h15 199 0 = g0.toInt.toNat), (pq_of (k := 1) ((u15.2 _ _ (Or.inr (by decide))).trans ((u14.2 _ _ (Or.inr (by decide))).trans hg1)) : pq_n h15 199 1 = g1.toInt.toNat), (pq_of (k := 2) ((u15.2 _ _ (Or.inr (by decide))).trans u14.1) : pq_n h15 199 2 = g3.toInt.toNat), (pq_of (k := 3) u15.1 : pq_n h15 199 3 = g2.toInt.toNat)]; unfold pq_x4; rw [if_neg (by omega), if_neg (by omega)]), g0, g1, g3, g2, g4, g5, ((u15.2 _ _ (Or.inr (by decide))).trans ((u14.2 _ _ (Or.inr (by decide))).trans hg0)), ((u15.2 _ _ (Or.inr (by decide))).trans ((u14.2 _ _ (Or.inr (by decide))).trans hg1)), ((u15.2 _ _ (Or.inr (by decide))).trans u14.1), u15.1, ((u15.2 _ _ (Or.inr (by decide))).trans ((u14.2 _ _ (Or.inr (by decide))).trans hg4)), ((u15.2 _ _ (Or.inr (by decide))).trans ((u14.2 _ _ (Or.inr (by decide))).trans hg5)), (by unfold prm; omega), (by unfold lexV; omega)⟩⟩
    · refine te_iinc (p2 := 59) (x := 3) (y := 2) (lv2 := [(3, .int 2), (2, .int 2), (0, .ref 164), (1, .int 4)]) rfl rfl (by decide) rfl (by decide) rfl ?_
      refine te_goto rfl ?_
      refine te_aload_n (p2 := 42) rfl rfl rfl ?_
      refine tg_r (p2 := 45) (i := 148) (r := 215) rfl rfl hI rfl rfl rfl ?_
      refine te_iload_n (p2 := 46) rfl rfl rfl ?_
      refine tl_e (p2 := 47) (i := 199) (n := 6) (t := 0) (Or.inl rfl) rfl rfl hI rfl rfl (by decide) (by decide) hg2 ?_
      refine te_aload_n (p2 := 48) rfl rfl rfl ?_
      refine tg_r (p2 := 51) (i := 148) (r := 215) rfl rfl hI rfl rfl rfl ?_
      refine te_iload_n (p2 := 52) rfl rfl rfl ?_
      refine tl_e (p2 := 53) (i := 199) (n := 6) (t := 0) (Or.inl rfl) rfl rfl hI rfl rfl (by decide) (by decide) hg2 ?_
      refine tb_ge (p2 := 56) rfl rfl rfl rfl (fun c22 => ?_) (fun c22 => absurd c22 (by omega))
      refine te_aload_n (p2 := 63) rfl rfl rfl ?_
      refine tg_r (p2 := 66) (i := 148) (r := 215) rfl rfl hI rfl rfl rfl ?_
      refine te_iload_n (p2 := 67) rfl rfl rfl ?_
      refine tl_e (p2 := 68) (i := 199) (n := 6) (t := 0) (Or.inl rfl) rfl rfl hI rfl rfl (by decide) (by decide) hg2 ?_
      refine te_istore (p2 := 70) (lv2 := [(4, .int g2), (3, .int 2), (2, .int 2), (0, .ref 164), (1, .int 4)]) rfl rfl (by decide) rfl ?_
      refine te_aload_n (p2 := 71) rfl rfl rfl ?_
      refine tg_r (p2 := 74) (i := 148) (r := 215) rfl rfl hI rfl rfl rfl ?_
      refine te_iload_n (p2 := 75) rfl rfl rfl ?_
      refine te_aload_n (p2 := 76) rfl rfl rfl ?_
      refine tg_r (p2 := 79) (i := 148) (r := 215) rfl rfl hI rfl rfl rfl ?_
      refine te_iload_n (p2 := 80) rfl rfl rfl ?_
      refine tl_e (p2 := 81) (i := 199) (n := 6) (t := 0) (Or.inl rfl) rfl rfl hI rfl rfl (by decide) (by decide) hg2 ?_
      refine ts_i (p2 := 82) (i := 199) (n := 6) rfl rfl hI rfl rfl rfl rfl (by decide) (by decide) (by omega) (by omega) (by omega) rfl (fun h25 I25 u25 => ?_)
      have f25 := fr_st (F := F_X12_nextOrder_4) 0 f0 u25 rfl (by decide) (by decide)
      refine te_aload_n (p2 := 83) rfl rfl rfl ?_
      refine tg_r (p2 := 86) (i := 148) (r := 215) rfl rfl I25 rfl rfl rfl ?_
      refine te_iload_n (p2 := 87) rfl rfl rfl ?_
      refine te_iload (p2 := 89) rfl rfl rfl ?_
      refine ts_i (p2 := 90) (i := 199) (n := 6) rfl rfl I25 rfl rfl rfl rfl (by decide) (by decide) (by omega) (by omega) (by omega) rfl (fun h26 I26 u26 => ?_)
      have f26 := fr_st (F := F_X12_nextOrder_4) 0 f25 u26 rfl (by decide) (by decide)
      refine te_iload_n (p2 := 91) rfl rfl rfl ?_
      refine te_iconst (p2 := 92) (x := 1) rfl rfl (by decide) ?_
      refine te_iadd (p2 := 93) (z := 3) rfl rfl (by decide) ?_
      refine te_istore (p2 := 95) (lv2 := [(5, .int 3), (4, .int g2), (3, .int 2), (2, .int 2), (0, .ref 164), (1, .int 4)]) rfl rfl (by decide) rfl ?_
      refine te_iload_n (p2 := 96) rfl rfl rfl ?_
      refine te_iconst (p2 := 97) (x := 1) rfl rfl (by decide) ?_
      refine te_isub (p2 := 98) (z := 3) rfl rfl (by decide) ?_
      refine te_istore (p2 := 100) (lv2 := [(6, .int 3), (5, .int 3), (4, .int g2), (3, .int 2), (2, .int 2), (0, .ref 164), (1, .int 4)]) rfl rfl (by decide) rfl ?_
      refine te_iload (p2 := 102) rfl rfl rfl ?_
      refine te_iload (p2 := 104) rfl rfl rfl ?_
      refine tb_ge (p2 := 107) rfl rfl (show Int32.toInt 3 = 3 from rfl) (show Int32.toInt 3 = 3 from rfl) (fun c29 => ?_) (fun c29 => absurd c29 (by omega))
      refine te_iconst (p2 := 149) (x := 1) rfl rfl (by decide) ?_
      exact te_zret rfl rfl (by decide) ⟨I26, f26, _, rfl, Or.inr ⟨rfl, (by rw [pq_xe4, on6_4, (pq_of (k := 0) hg0 : pq_n h 199 0 = g0.toInt.toNat), (pq_of (k := 1) hg1 : pq_n h 199 1 = g1.toInt.toNat), (pq_of (k := 2) hg2 : pq_n h 199 2 = g2.toInt.toNat), (pq_of (k := 3) hg3 : pq_n h 199 3 = g3.toInt.toNat), (pq_of (k := 0) ((u26.2 _ _ (Or.inr (by decide))).trans ((u25.2 _ _ (Or.inr (by decide))).trans hg0)) : pq_n h26 199 0 = g0.toInt.toNat), (pq_of (k := 1) ((u26.2 _ _ (Or.inr (by decide))).trans ((u25.2 _ _ (Or.inr (by decide))).trans hg1)) : pq_n h26 199 1 = g1.toInt.toNat), (pq_of (k := 2) u26.1 : pq_n h26 199 2 = g2.toInt.toNat), (pq_of (k := 3) ((u26.2 _ _ (Or.inr (by decide))).trans ((u25.2 _ _ (Or.inr (by decide))).trans hg3)) : pq_n h26 199 3 = g3.toInt.toNat)]; unfold pq_x4; rw [if_neg (by omega), if_pos (by omega)]), g0, g1, g2, g3, g4, g5, ((u26.2 _ _ (Or.inr (by decide))).trans ((u25.2 _ _ (Or.inr (by decide))).trans hg0)), ((u26.2 _ _ (Or.inr (by decide))).trans ((u25.2 _ _ (Or.inr (by decide))).trans hg1)), u26.1, ((u26.2 _ _ (Or.inr (by decide))).trans ((u25.2 _ _ (Or.inr (by decide))).trans hg3)), ((u26.2 _ _ (Or.inr (by decide))).trans ((u25.2 _ _ (Or.inr (by decide))).trans hg4)), ((u26.2 _ _ (Or.inr (by decide))).trans ((u25.2 _ _ (Or.inr (by decide))).trans hg5)), (by unfold prm; omega), (by unfold lexV; omega)⟩⟩
  · refine te_iinc (p2 := 28) (x := 2) (y := 1) (lv2 := [(2, .int 1), (0, .ref 164), (1, .int 4)]) rfl rfl (by decide) rfl (by decide) rfl ?_
    refine te_goto rfl ?_
    refine te_iload_n (p2 := 5) rfl rfl rfl ?_
    refine tz_lt (p2 := 8) rfl rfl (show Int32.toInt 1 = 1 from rfl) (fun c31 => absurd c31 (by omega)) (fun c31 => ?_)
    refine te_aload_n (p2 := 9) rfl rfl rfl ?_
    refine tg_r (p2 := 12) (i := 148) (r := 215) rfl rfl hI rfl rfl rfl ?_
    refine te_iload_n (p2 := 13) rfl rfl rfl ?_
    refine tl_e (p2 := 14) (i := 199) (n := 6) (t := 0) (Or.inl rfl) rfl rfl hI rfl rfl (by decide) (by decide) hg1 ?_
    refine te_aload_n (p2 := 15) rfl rfl rfl ?_
    refine tg_r (p2 := 18) (i := 148) (r := 215) rfl rfl hI rfl rfl rfl ?_
    refine te_iload_n (p2 := 19) rfl rfl rfl ?_
    refine te_iconst (p2 := 20) (x := 1) rfl rfl (by decide) ?_
    refine te_iadd (p2 := 21) (z := 2) rfl rfl (by decide) ?_
    refine tl_e (p2 := 22) (i := 199) (n := 6) (t := 0) (Or.inl rfl) rfl rfl hI rfl rfl (by decide) (by decide) hg2 ?_
    refine tb_le (p2 := 25) rfl rfl rfl rfl (fun c35 => ?_) (fun c35 => ?_)
    · refine te_iload_n (p2 := 32) rfl rfl rfl ?_
      refine tz_ge (p2 := 35) rfl rfl (show Int32.toInt 1 = 1 from rfl) (fun c36 => ?_) (fun c36 => absurd c36 (by omega))
      refine te_iload_n (p2 := 38) rfl rfl rfl ?_
      refine te_iconst (p2 := 39) (x := 1) rfl rfl (by decide) ?_
      refine te_isub (p2 := 40) (z := 3) rfl rfl (by decide) ?_
      refine te_istore_n (p2 := 41) (lv2 := [(3, .int 3), (2, .int 1), (0, .ref 164), (1, .int 4)]) rfl rfl (by decide) rfl ?_
      refine te_aload_n (p2 := 42) rfl rfl rfl ?_
      refine tg_r (p2 := 45) (i := 148) (r := 215) rfl rfl hI rfl rfl rfl ?_
      refine te_iload_n (p2 := 46) rfl rfl rfl ?_
      refine tl_e (p2 := 47) (i := 199) (n := 6) (t := 0) (Or.inl rfl) rfl rfl hI rfl rfl (by decide) (by decide) hg3 ?_
      refine te_aload_n (p2 := 48) rfl rfl rfl ?_
      refine tg_r (p2 := 51) (i := 148) (r := 215) rfl rfl hI rfl rfl rfl ?_
      refine te_iload_n (p2 := 52) rfl rfl rfl ?_
      refine tl_e (p2 := 53) (i := 199) (n := 6) (t := 0) (Or.inl rfl) rfl rfl hI rfl rfl (by decide) (by decide) hg1 ?_
      refine tb_ge (p2 := 56) rfl rfl rfl rfl (fun c40 => ?_) (fun c40 => ?_)
      · refine te_aload_n (p2 := 63) rfl rfl rfl ?_
        refine tg_r (p2 := 66) (i := 148) (r := 215) rfl rfl hI rfl rfl rfl ?_
        refine te_iload_n (p2 := 67) rfl rfl rfl ?_
        refine tl_e (p2 := 68) (i := 199) (n := 6) (t := 0) (Or.inl rfl) rfl rfl hI rfl rfl (by decide) (by decide) hg1 ?_
        refine te_istore (p2 := 70) (lv2 := [(4, .int g1), (3, .int 3), (2, .int 1), (0, .ref 164), (1, .int 4)]) rfl rfl (by decide) rfl ?_
        refine te_aload_n (p2 := 71) rfl rfl rfl ?_
        refine tg_r (p2 := 74) (i := 148) (r := 215) rfl rfl hI rfl rfl rfl ?_
        refine te_iload_n (p2 := 75) rfl rfl rfl ?_
        refine te_aload_n (p2 := 76) rfl rfl rfl ?_
        refine tg_r (p2 := 79) (i := 148) (r := 215) rfl rfl hI rfl rfl rfl ?_
        refine te_iload_n (p2 := 80) rfl rfl rfl ?_
        refine tl_e (p2 := 81) (i := 199) (n := 6) (t := 0) (Or.inl rfl) rfl rfl hI rfl rfl (by decide) (by decide) hg3 ?_
        refine ts_i (p2 := 82) (i := 199) (n := 6) rfl rfl hI rfl rfl rfl rfl (by decide) (by decide) (by omega) (by omega) (by omega) rfl (fun h43 I43 u43 => ?_)
        have f43 := fr_st (F := F_X12_nextOrder_4) 0 f0 u43 rfl (by decide) (by decide)
        refine te_aload_n (p2 := 83) rfl rfl rfl ?_
        refine tg_r (p2 := 86) (i := 148) (r := 215) rfl rfl I43 rfl rfl rfl ?_
        refine te_iload_n (p2 := 87) rfl rfl rfl ?_
        refine te_iload (p2 := 89) rfl rfl rfl ?_
        refine ts_i (p2 := 90) (i := 199) (n := 6) rfl rfl I43 rfl rfl rfl rfl (by decide) (by decide) (by omega) (by omega) (by omega) rfl (fun h44 I44 u44 => ?_)
        have f44 := fr_st (F := F_X12_nextOrder_4) 0 f43 u44 rfl (by decide) (by decide)
        refine te_iload_n (p2 := 91) rfl rfl rfl ?_
        refine te_iconst (p2 := 92) (x := 1) rfl rfl (by decide) ?_
        refine te_iadd (p2 := 93) (z := 2) rfl rfl (by decide) ?_
        refine te_istore (p2 := 95) (lv2 := [(5, .int 2), (4, .int g1), (3, .int 3), (2, .int 1), (0, .ref 164), (1, .int 4)]) rfl rfl (by decide) rfl ?_
        refine te_iload_n (p2 := 96) rfl rfl rfl ?_
        refine te_iconst (p2 := 97) (x := 1) rfl rfl (by decide) ?_
        refine te_isub (p2 := 98) (z := 3) rfl rfl (by decide) ?_
        refine te_istore (p2 := 100) (lv2 := [(6, .int 3), (5, .int 2), (4, .int g1), (3, .int 3), (2, .int 1), (0, .ref 164), (1, .int 4)]) rfl rfl (by decide) rfl ?_
        refine te_iload (p2 := 102) rfl rfl rfl ?_
        refine te_iload (p2 := 104) rfl rfl rfl ?_
        refine tb_ge (p2 := 107) rfl rfl (show Int32.toInt 2 = 2 from rfl) (show Int32.toInt 3 = 3 from rfl) (fun c47 => absurd c47 (by omega)) (fun c47 => ?_)
        refine te_aload_n (p2 := 108) rfl rfl rfl ?_
        refine tg_r (p2 := 111) (i := 148) (r := 215) rfl rfl I44 rfl rfl rfl ?_
        refine te_iload (p2 := 113) rfl rfl rfl ?_
        refine tl_e (p2 := 114) (i := 199) (n := 6) (t := 0) (Or.inl rfl) rfl rfl I44 rfl rfl (by decide) (by decide) ((u44.2 _ _ (Or.inr (by decide))).trans ((u43.2 _ _ (Or.inr (by decide))).trans hg2)) ?_
        refine te_istore (p2 := 116) (lv2 := [(7, .int g2), (6, .int 3), (5, .int 2), (4, .int g1), (3, .int 3), (2, .int 1), (0, .ref 164), (1, .int 4)]) rfl rfl (by decide) rfl ?_
        refine te_aload_n (p2 := 117) rfl rfl rfl ?_
        refine tg_r (p2 := 120) (i := 148) (r := 215) rfl rfl I44 rfl rfl rfl ?_
        refine te_iload (p2 := 122) rfl rfl rfl ?_
        refine te_aload_n (p2 := 123) rfl rfl rfl ?_
        refine tg_r (p2 := 126) (i := 148) (r := 215) rfl rfl I44 rfl rfl rfl ?_
        refine te_iload (p2 := 128) rfl rfl rfl ?_
        refine tl_e (p2 := 129) (i := 199) (n := 6) (t := 0) (Or.inl rfl) rfl rfl I44 rfl rfl (by decide) (by decide) u44.1 ?_
        refine ts_i (p2 := 130) (i := 199) (n := 6) rfl rfl I44 rfl rfl rfl rfl (by decide) (by decide) (by omega) (by omega) (by omega) rfl (fun h50 I50 u50 => ?_)
        have f50 := fr_st (F := F_X12_nextOrder_4) 0 f44 u50 rfl (by decide) (by decide)
        refine te_aload_n (p2 := 131) rfl rfl rfl ?_
        refine tg_r (p2 := 134) (i := 148) (r := 215) rfl rfl I50 rfl rfl rfl ?_
        refine te_iload (p2 := 136) rfl rfl rfl ?_
        refine te_iload (p2 := 138) rfl rfl rfl ?_
        refine ts_i (p2 := 139) (i := 199) (n := 6) rfl rfl I50 rfl rfl rfl rfl (by decide) (by decide) (by omega) (by omega) (by omega) rfl (fun h51 I51 u51 => ?_)
        have f51 := fr_st (F := F_X12_nextOrder_4) 0 f50 u51 rfl (by decide) (by decide)
        refine te_iinc (p2 := 142) (x := 3) (y := 2) (lv2 := [(6, .int 2), (7, .int g2), (5, .int 2), (4, .int g1), (3, .int 3), (2, .int 1), (0, .ref 164), (1, .int 4)]) rfl rfl (by decide) rfl (by decide) rfl ?_
        refine te_iinc (p2 := 145) (x := 2) (y := 3) (lv2 := [(5, .int 3), (6, .int 2), (7, .int g2), (4, .int g1), (3, .int 3), (2, .int 1), (0, .ref 164), (1, .int 4)]) rfl rfl (by decide) rfl (by decide) rfl ?_
        refine te_goto rfl ?_
        refine te_iload (p2 := 102) rfl rfl rfl ?_
        refine te_iload (p2 := 104) rfl rfl rfl ?_
        refine tb_ge (p2 := 107) rfl rfl (show Int32.toInt 3 = 3 from rfl) (show Int32.toInt 2 = 2 from rfl) (fun c54 => ?_) (fun c54 => absurd c54 (by omega))
        refine te_iconst (p2 := 149) (x := 1) rfl rfl (by decide) ?_
        exact te_zret rfl rfl (by decide) ⟨I51, f51, _, rfl, Or.inr ⟨rfl, (by rw [pq_xe4, on6_4, (pq_of (k := 0) hg0 : pq_n h 199 0 = g0.toInt.toNat), (pq_of (k := 1) hg1 : pq_n h 199 1 = g1.toInt.toNat), (pq_of (k := 2) hg2 : pq_n h 199 2 = g2.toInt.toNat), (pq_of (k := 3) hg3 : pq_n h 199 3 = g3.toInt.toNat), (pq_of (k := 0) ((u51.2 _ _ (Or.inr (by decide))).trans ((u50.2 _ _ (Or.inr (by decide))).trans ((u44.2 _ _ (Or.inr (by decide))).trans ((u43.2 _ _ (Or.inr (by decide))).trans hg0)))) : pq_n h51 199 0 = g0.toInt.toNat), (pq_of (k := 1) ((u51.2 _ _ (Or.inr (by decide))).trans ((u50.2 _ _ (Or.inr (by decide))).trans ((u44.2 _ _ (Or.inr (by decide))).trans u43.1))) : pq_n h51 199 1 = g3.toInt.toNat), (pq_of (k := 2) ((u51.2 _ _ (Or.inr (by decide))).trans u50.1) : pq_n h51 199 2 = g1.toInt.toNat), (pq_of (k := 3) u51.1 : pq_n h51 199 3 = g2.toInt.toNat)]; unfold pq_x4; rw [if_pos (by omega), if_neg (by omega), if_neg (by omega)]), g0, g3, g1, g2, g4, g5, ((u51.2 _ _ (Or.inr (by decide))).trans ((u50.2 _ _ (Or.inr (by decide))).trans ((u44.2 _ _ (Or.inr (by decide))).trans ((u43.2 _ _ (Or.inr (by decide))).trans hg0)))), ((u51.2 _ _ (Or.inr (by decide))).trans ((u50.2 _ _ (Or.inr (by decide))).trans ((u44.2 _ _ (Or.inr (by decide))).trans u43.1))), ((u51.2 _ _ (Or.inr (by decide))).trans u50.1), u51.1, ((u51.2 _ _ (Or.inr (by decide))).trans ((u50.2 _ _ (Or.inr (by decide))).trans ((u44.2 _ _ (Or.inr (by decide))).trans ((u43.2 _ _ (Or.inr (by decide))).trans hg4)))), ((u51.2 _ _ (Or.inr (by decide))).trans ((u50.2 _ _ (Or.inr (by decide))).trans ((u44.2 _ _ (Or.inr (by decide))).trans ((u43.2 _ _ (Or.inr (by decide))).trans hg5)))), (by unfold prm; omega), (by unfold lexV; omega)⟩⟩
      · refine te_iinc (p2 := 59) (x := 3) (y := 2) (lv2 := [(3, .int 2), (2, .int 1), (0, .ref 164), (1, .int 4)]) rfl rfl (by decide) rfl (by decide) rfl ?_
        refine te_goto rfl ?_
        refine te_aload_n (p2 := 42) rfl rfl rfl ?_
        refine tg_r (p2 := 45) (i := 148) (r := 215) rfl rfl hI rfl rfl rfl ?_
        refine te_iload_n (p2 := 46) rfl rfl rfl ?_
        refine tl_e (p2 := 47) (i := 199) (n := 6) (t := 0) (Or.inl rfl) rfl rfl hI rfl rfl (by decide) (by decide) hg2 ?_
        refine te_aload_n (p2 := 48) rfl rfl rfl ?_
        refine tg_r (p2 := 51) (i := 148) (r := 215) rfl rfl hI rfl rfl rfl ?_
        refine te_iload_n (p2 := 52) rfl rfl rfl ?_
        refine tl_e (p2 := 53) (i := 199) (n := 6) (t := 0) (Or.inl rfl) rfl rfl hI rfl rfl (by decide) (by decide) hg1 ?_
        refine tb_ge (p2 := 56) rfl rfl rfl rfl (fun c58 => ?_) (fun c58 => ?_)
        · refine te_aload_n (p2 := 63) rfl rfl rfl ?_
          refine tg_r (p2 := 66) (i := 148) (r := 215) rfl rfl hI rfl rfl rfl ?_
          refine te_iload_n (p2 := 67) rfl rfl rfl ?_
          refine tl_e (p2 := 68) (i := 199) (n := 6) (t := 0) (Or.inl rfl) rfl rfl hI rfl rfl (by decide) (by decide) hg1 ?_
          refine te_istore (p2 := 70) (lv2 := [(4, .int g1), (3, .int 2), (2, .int 1), (0, .ref 164), (1, .int 4)]) rfl rfl (by decide) rfl ?_
          refine te_aload_n (p2 := 71) rfl rfl rfl ?_
          refine tg_r (p2 := 74) (i := 148) (r := 215) rfl rfl hI rfl rfl rfl ?_
          refine te_iload_n (p2 := 75) rfl rfl rfl ?_
          refine te_aload_n (p2 := 76) rfl rfl rfl ?_
          refine tg_r (p2 := 79) (i := 148) (r := 215) rfl rfl hI rfl rfl rfl ?_
          refine te_iload_n (p2 := 80) rfl rfl rfl ?_
          refine tl_e (p2 := 81) (i := 199) (n := 6) (t := 0) (Or.inl rfl) rfl rfl hI rfl rfl (by decide) (by decide) hg2 ?_
          refine ts_i (p2 := 82) (i := 199) (n := 6) rfl rfl hI rfl rfl rfl rfl (by decide) (by decide) (by omega) (by omega) (by omega) rfl (fun h61 I61 u61 => ?_)
          have f61 := fr_st (F := F_X12_nextOrder_4) 0 f0 u61 rfl (by decide) (by decide)
          refine te_aload_n (p2 := 83) rfl rfl rfl ?_
          refine tg_r (p2 := 86) (i := 148) (r := 215) rfl rfl I61 rfl rfl rfl ?_
          refine te_iload_n (p2 := 87) rfl rfl rfl ?_
          refine te_iload (p2 := 89) rfl rfl rfl ?_
          refine ts_i (p2 := 90) (i := 199) (n := 6) rfl rfl I61 rfl rfl rfl rfl (by decide) (by decide) (by omega) (by omega) (by omega) rfl (fun h62 I62 u62 => ?_)
          have f62 := fr_st (F := F_X12_nextOrder_4) 0 f61 u62 rfl (by decide) (by decide)
          refine te_iload_n (p2 := 91) rfl rfl rfl ?_
          refine te_iconst (p2 := 92) (x := 1) rfl rfl (by decide) ?_
          refine te_iadd (p2 := 93) (z := 2) rfl rfl (by decide) ?_
          refine te_istore (p2 := 95) (lv2 := [(5, .int 2), (4, .int g1), (3, .int 2), (2, .int 1), (0, .ref 164), (1, .int 4)]) rfl rfl (by decide) rfl ?_
          refine te_iload_n (p2 := 96) rfl rfl rfl ?_
          refine te_iconst (p2 := 97) (x := 1) rfl rfl (by decide) ?_
          refine te_isub (p2 := 98) (z := 3) rfl rfl (by decide) ?_
          refine te_istore (p2 := 100) (lv2 := [(6, .int 3), (5, .int 2), (4, .int g1), (3, .int 2), (2, .int 1), (0, .ref 164), (1, .int 4)]) rfl rfl (by decide) rfl ?_
          refine te_iload (p2 := 102) rfl rfl rfl ?_
          refine te_iload (p2 := 104) rfl rfl rfl ?_
          refine tb_ge (p2 := 107) rfl rfl (show Int32.toInt 2 = 2 from rfl) (show Int32.toInt 3 = 3 from rfl) (fun c65 => absurd c65 (by omega)) (fun c65 => ?_)
          refine te_aload_n (p2 := 108) rfl rfl rfl ?_
          refine tg_r (p2 := 111) (i := 148) (r := 215) rfl rfl I62 rfl rfl rfl ?_
          refine te_iload (p2 := 113) rfl rfl rfl ?_
          refine tl_e (p2 := 114) (i := 199) (n := 6) (t := 0) (Or.inl rfl) rfl rfl I62 rfl rfl (by decide) (by decide) u62.1 ?_
          refine te_istore (p2 := 116) (lv2 := [(7, .int g1), (6, .int 3), (5, .int 2), (4, .int g1), (3, .int 2), (2, .int 1), (0, .ref 164), (1, .int 4)]) rfl rfl (by decide) rfl ?_
          refine te_aload_n (p2 := 117) rfl rfl rfl ?_
          refine tg_r (p2 := 120) (i := 148) (r := 215) rfl rfl I62 rfl rfl rfl ?_
          refine te_iload (p2 := 122) rfl rfl rfl ?_
          refine te_aload_n (p2 := 123) rfl rfl rfl ?_
          refine tg_r (p2 := 126) (i := 148) (r := 215) rfl rfl I62 rfl rfl rfl ?_
          refine te_iload (p2 := 128) rfl rfl rfl ?_
          refine tl_e (p2 := 129) (i := 199) (n := 6) (t := 0) (Or.inl rfl) rfl rfl I62 rfl rfl (by decide) (by decide) ((u62.2 _ _ (Or.inr (by decide))).trans ((u61.2 _ _ (Or.inr (by decide))).trans hg3)) ?_
          refine ts_i (p2 := 130) (i := 199) (n := 6) rfl rfl I62 rfl rfl rfl rfl (by decide) (by decide) (by omega) (by omega) (by omega) rfl (fun h68 I68 u68 => ?_)
          have f68 := fr_st (F := F_X12_nextOrder_4) 0 f62 u68 rfl (by decide) (by decide)
          refine te_aload_n (p2 := 131) rfl rfl rfl ?_
          refine tg_r (p2 := 134) (i := 148) (r := 215) rfl rfl I68 rfl rfl rfl ?_
          refine te_iload (p2 := 136) rfl rfl rfl ?_
          refine te_iload (p2 := 138) rfl rfl rfl ?_
          refine ts_i (p2 := 139) (i := 199) (n := 6) rfl rfl I68 rfl rfl rfl rfl (by decide) (by decide) (by omega) (by omega) (by omega) rfl (fun h69 I69 u69 => ?_)
          have f69 := fr_st (F := F_X12_nextOrder_4) 0 f68 u69 rfl (by decide) (by decide)
          refine te_iinc (p2 := 142) (x := 3) (y := 2) (lv2 := [(6, .int 2), (7, .int g1), (5, .int 2), (4, .int g1), (3, .int 2), (2, .int 1), (0, .ref 164), (1, .int 4)]) rfl rfl (by decide) rfl (by decide) rfl ?_
          refine te_iinc (p2 := 145) (x := 2) (y := 3) (lv2 := [(5, .int 3), (6, .int 2), (7, .int g1), (4, .int g1), (3, .int 2), (2, .int 1), (0, .ref 164), (1, .int 4)]) rfl rfl (by decide) rfl (by decide) rfl ?_
          refine te_goto rfl ?_
          refine te_iload (p2 := 102) rfl rfl rfl ?_
          refine te_iload (p2 := 104) rfl rfl rfl ?_
          refine tb_ge (p2 := 107) rfl rfl (show Int32.toInt 3 = 3 from rfl) (show Int32.toInt 2 = 2 from rfl) (fun c72 => ?_) (fun c72 => absurd c72 (by omega))
          refine te_iconst (p2 := 149) (x := 1) rfl rfl (by decide) ?_
          exact te_zret rfl rfl (by decide) ⟨I69, f69, _, rfl, Or.inr ⟨rfl, (by rw [pq_xe4, on6_4, (pq_of (k := 0) hg0 : pq_n h 199 0 = g0.toInt.toNat), (pq_of (k := 1) hg1 : pq_n h 199 1 = g1.toInt.toNat), (pq_of (k := 2) hg2 : pq_n h 199 2 = g2.toInt.toNat), (pq_of (k := 3) hg3 : pq_n h 199 3 = g3.toInt.toNat), (pq_of (k := 0) ((u69.2 _ _ (Or.inr (by decide))).trans ((u68.2 _ _ (Or.inr (by decide))).trans ((u62.2 _ _ (Or.inr (by decide))).trans ((u61.2 _ _ (Or.inr (by decide))).trans hg0)))) : pq_n h69 199 0 = g0.toInt.toNat), (pq_of (k := 1) ((u69.2 _ _ (Or.inr (by decide))).trans ((u68.2 _ _ (Or.inr (by decide))).trans ((u62.2 _ _ (Or.inr (by decide))).trans u61.1))) : pq_n h69 199 1 = g2.toInt.toNat), (pq_of (k := 2) ((u69.2 _ _ (Or.inr (by decide))).trans u68.1) : pq_n h69 199 2 = g3.toInt.toNat), (pq_of (k := 3) u69.1 : pq_n h69 199 3 = g1.toInt.toNat)]; unfold pq_x4; rw [if_pos (by omega), if_neg (by omega), if_pos (by omega), if_neg (by omega)]), g0, g2, g3, g1, g4, g5, ((u69.2 _ _ (Or.inr (by decide))).trans ((u68.2 _ _ (Or.inr (by decide))).trans ((u62.2 _ _ (Or.inr (by decide))).trans ((u61.2 _ _ (Or.inr (by decide))).trans hg0)))), ((u69.2 _ _ (Or.inr (by decide))).trans ((u68.2 _ _ (Or.inr (by decide))).trans ((u62.2 _ _ (Or.inr (by decide))).trans u61.1))), ((u69.2 _ _ (Or.inr (by decide))).trans u68.1), u69.1, ((u69.2 _ _ (Or.inr (by decide))).trans ((u68.2 _ _ (Or.inr (by decide))).trans ((u62.2 _ _ (Or.inr (by decide))).trans ((u61.2 _ _ (Or.inr (by decide))).trans hg4)))), ((u69.2 _ _ (Or.inr (by decide))).trans ((u68.2 _ _ (Or.inr (by decide))).trans ((u62.2 _ _ (Or.inr (by decide))).trans ((u61.2 _ _ (Or.inr (by decide))).trans hg5)))), (by unfold prm; omega), (by unfold lexV; omega)⟩⟩
        · refine te_iinc (p2 := 59) (x := 2) (y := 1) (lv2 := [(3, .int 1), (2, .int 1), (0, .ref 164), (1, .int 4)]) rfl rfl (by decide) rfl (by decide) rfl ?_
          refine te_goto rfl ?_
          refine te_aload_n (p2 := 42) rfl rfl rfl ?_
          refine tg_r (p2 := 45) (i := 148) (r := 215) rfl rfl hI rfl rfl rfl ?_
          refine te_iload_n (p2 := 46) rfl rfl rfl ?_
          refine tl_e (p2 := 47) (i := 199) (n := 6) (t := 0) (Or.inl rfl) rfl rfl hI rfl rfl (by decide) (by decide) hg1 ?_
          refine te_aload_n (p2 := 48) rfl rfl rfl ?_
          refine tg_r (p2 := 51) (i := 148) (r := 215) rfl rfl hI rfl rfl rfl ?_
          refine te_iload_n (p2 := 52) rfl rfl rfl ?_
          refine tl_e (p2 := 53) (i := 199) (n := 6) (t := 0) (Or.inl rfl) rfl rfl hI rfl rfl (by decide) (by decide) hg1 ?_
          refine tb_ge (p2 := 56) rfl rfl rfl rfl (fun c76 => ?_) (fun c76 => absurd c76 (by omega))
          refine te_aload_n (p2 := 63) rfl rfl rfl ?_
          refine tg_r (p2 := 66) (i := 148) (r := 215) rfl rfl hI rfl rfl rfl ?_
          refine te_iload_n (p2 := 67) rfl rfl rfl ?_
          refine tl_e (p2 := 68) (i := 199) (n := 6) (t := 0) (Or.inl rfl) rfl rfl hI rfl rfl (by decide) (by decide) hg1 ?_
          refine te_istore (p2 := 70) (lv2 := [(4, .int g1), (3, .int 1), (2, .int 1), (0, .ref 164), (1, .int 4)]) rfl rfl (by decide) rfl ?_
          refine te_aload_n (p2 := 71) rfl rfl rfl ?_
          refine tg_r (p2 := 74) (i := 148) (r := 215) rfl rfl hI rfl rfl rfl ?_
          refine te_iload_n (p2 := 75) rfl rfl rfl ?_
          refine te_aload_n (p2 := 76) rfl rfl rfl ?_
          refine tg_r (p2 := 79) (i := 148) (r := 215) rfl rfl hI rfl rfl rfl ?_
          refine te_iload_n (p2 := 80) rfl rfl rfl ?_
          refine tl_e (p2 := 81) (i := 199) (n := 6) (t := 0) (Or.inl rfl) rfl rfl hI rfl rfl (by decide) (by decide) hg1 ?_
          refine ts_i (p2 := 82) (i := 199) (n := 6) rfl rfl hI rfl rfl rfl rfl (by decide) (by decide) (by omega) (by omega) (by omega) rfl (fun h79 I79 u79 => ?_)
          have f79 := fr_st (F := F_X12_nextOrder_4) 0 f0 u79 rfl (by decide) (by decide)
          refine te_aload_n (p2 := 83) rfl rfl rfl ?_
          refine tg_r (p2 := 86) (i := 148) (r := 215) rfl rfl I79 rfl rfl rfl ?_
          refine te_iload_n (p2 := 87) rfl rfl rfl ?_
          refine te_iload (p2 := 89) rfl rfl rfl ?_
          refine ts_i (p2 := 90) (i := 199) (n := 6) rfl rfl I79 rfl rfl rfl rfl (by decide) (by decide) (by omega) (by omega) (by omega) rfl (fun h80 I80 u80 => ?_)
          have f80 := fr_st (F := F_X12_nextOrder_4) 0 f79 u80 rfl (by decide) (by decide)
          refine te_iload_n (p2 := 91) rfl rfl rfl ?_
          refine te_iconst (p2 := 92) (x := 1) rfl rfl (by decide) ?_
          refine te_iadd (p2 := 93) (z := 2) rfl rfl (by decide) ?_
          refine te_istore (p2 := 95) (lv2 := [(5, .int 2), (4, .int g1), (3, .int 1), (2, .int 1), (0, .ref 164), (1, .int 4)]) rfl rfl (by decide) rfl ?_
          refine te_iload_n (p2 := 96) rfl rfl rfl ?_
          refine te_iconst (p2 := 97) (x := 1) rfl rfl (by decide) ?_
          refine te_isub (p2 := 98) (z := 3) rfl rfl (by decide) ?_
          refine te_istore (p2 := 100) (lv2 := [(6, .int 3), (5, .int 2), (4, .int g1), (3, .int 1), (2, .int 1), (0, .ref 164), (1, .int 4)]) rfl rfl (by decide) rfl ?_
          refine te_iload (p2 := 102) rfl rfl rfl ?_
          refine te_iload (p2 := 104) rfl rfl rfl ?_
          refine tb_ge (p2 := 107) rfl rfl (show Int32.toInt 2 = 2 from rfl) (show Int32.toInt 3 = 3 from rfl) (fun c83 => absurd c83 (by omega)) (fun c83 => ?_)
          refine te_aload_n (p2 := 108) rfl rfl rfl ?_
          refine tg_r (p2 := 111) (i := 148) (r := 215) rfl rfl I80 rfl rfl rfl ?_
          refine te_iload (p2 := 113) rfl rfl rfl ?_
          refine tl_e (p2 := 114) (i := 199) (n := 6) (t := 0) (Or.inl rfl) rfl rfl I80 rfl rfl (by decide) (by decide) ((u80.2 _ _ (Or.inr (by decide))).trans ((u79.2 _ _ (Or.inr (by decide))).trans hg2)) ?_
          refine te_istore (p2 := 116) (lv2 := [(7, .int g2), (6, .int 3), (5, .int 2), (4, .int g1), (3, .int 1), (2, .int 1), (0, .ref 164), (1, .int 4)]) rfl rfl (by decide) rfl ?_
          refine te_aload_n (p2 := 117) rfl rfl rfl ?_
          refine tg_r (p2 := 120) (i := 148) (r := 215) rfl rfl I80 rfl rfl rfl ?_
          refine te_iload (p2 := 122) rfl rfl rfl ?_
          refine te_aload_n (p2 := 123) rfl rfl rfl ?_
          refine tg_r (p2 := 126) (i := 148) (r := 215) rfl rfl I80 rfl rfl rfl ?_
          refine te_iload (p2 := 128) rfl rfl rfl ?_
          refine tl_e (p2 := 129) (i := 199) (n := 6) (t := 0) (Or.inl rfl) rfl rfl I80 rfl rfl (by decide) (by decide) ((u80.2 _ _ (Or.inr (by decide))).trans ((u79.2 _ _ (Or.inr (by decide))).trans hg3)) ?_
          refine ts_i (p2 := 130) (i := 199) (n := 6) rfl rfl I80 rfl rfl rfl rfl (by decide) (by decide) (by omega) (by omega) (by omega) rfl (fun h86 I86 u86 => ?_)
          have f86 := fr_st (F := F_X12_nextOrder_4) 0 f80 u86 rfl (by decide) (by decide)
          refine te_aload_n (p2 := 131) rfl rfl rfl ?_
          refine tg_r (p2 := 134) (i := 148) (r := 215) rfl rfl I86 rfl rfl rfl ?_
          refine te_iload (p2 := 136) rfl rfl rfl ?_
          refine te_iload (p2 := 138) rfl rfl rfl ?_
          refine ts_i (p2 := 139) (i := 199) (n := 6) rfl rfl I86 rfl rfl rfl rfl (by decide) (by decide) (by omega) (by omega) (by omega) rfl (fun h87 I87 u87 => ?_)
          have f87 := fr_st (F := F_X12_nextOrder_4) 0 f86 u87 rfl (by decide) (by decide)
          refine te_iinc (p2 := 142) (x := 3) (y := 2) (lv2 := [(6, .int 2), (7, .int g2), (5, .int 2), (4, .int g1), (3, .int 1), (2, .int 1), (0, .ref 164), (1, .int 4)]) rfl rfl (by decide) rfl (by decide) rfl ?_
          refine te_iinc (p2 := 145) (x := 2) (y := 3) (lv2 := [(5, .int 3), (6, .int 2), (7, .int g2), (4, .int g1), (3, .int 1), (2, .int 1), (0, .ref 164), (1, .int 4)]) rfl rfl (by decide) rfl (by decide) rfl ?_
          refine te_goto rfl ?_
          refine te_iload (p2 := 102) rfl rfl rfl ?_
          refine te_iload (p2 := 104) rfl rfl rfl ?_
          refine tb_ge (p2 := 107) rfl rfl (show Int32.toInt 3 = 3 from rfl) (show Int32.toInt 2 = 2 from rfl) (fun c90 => ?_) (fun c90 => absurd c90 (by omega))
          refine te_iconst (p2 := 149) (x := 1) rfl rfl (by decide) ?_
          exact te_zret rfl rfl (by decide) ⟨I87, f87, _, rfl, Or.inr ⟨rfl, (by rw [pq_xe4, on6_4, (pq_of (k := 0) hg0 : pq_n h 199 0 = g0.toInt.toNat), (pq_of (k := 1) hg1 : pq_n h 199 1 = g1.toInt.toNat), (pq_of (k := 2) hg2 : pq_n h 199 2 = g2.toInt.toNat), (pq_of (k := 3) hg3 : pq_n h 199 3 = g3.toInt.toNat), (pq_of (k := 0) ((u87.2 _ _ (Or.inr (by decide))).trans ((u86.2 _ _ (Or.inr (by decide))).trans ((u80.2 _ _ (Or.inr (by decide))).trans ((u79.2 _ _ (Or.inr (by decide))).trans hg0)))) : pq_n h87 199 0 = g0.toInt.toNat), (pq_of (k := 1) ((u87.2 _ _ (Or.inr (by decide))).trans ((u86.2 _ _ (Or.inr (by decide))).trans u80.1)) : pq_n h87 199 1 = g1.toInt.toNat), (pq_of (k := 2) ((u87.2 _ _ (Or.inr (by decide))).trans u86.1) : pq_n h87 199 2 = g3.toInt.toNat), (pq_of (k := 3) u87.1 : pq_n h87 199 3 = g2.toInt.toNat)]; unfold pq_x4; rw [if_pos (by omega), if_neg (by omega), if_pos (by omega), if_pos (by omega)]), g0, g1, g3, g2, g4, g5, ((u87.2 _ _ (Or.inr (by decide))).trans ((u86.2 _ _ (Or.inr (by decide))).trans ((u80.2 _ _ (Or.inr (by decide))).trans ((u79.2 _ _ (Or.inr (by decide))).trans hg0)))), ((u87.2 _ _ (Or.inr (by decide))).trans ((u86.2 _ _ (Or.inr (by decide))).trans u80.1)), ((u87.2 _ _ (Or.inr (by decide))).trans u86.1), u87.1, ((u87.2 _ _ (Or.inr (by decide))).trans ((u86.2 _ _ (Or.inr (by decide))).trans ((u80.2 _ _ (Or.inr (by decide))).trans ((u79.2 _ _ (Or.inr (by decide))).trans hg4)))), ((u87.2 _ _ (Or.inr (by decide))).trans ((u86.2 _ _ (Or.inr (by decide))).trans ((u80.2 _ _ (Or.inr (by decide))).trans ((u79.2 _ _ (Or.inr (by decide))).trans hg5)))), (by unfold prm; omega), (by unfold lexV; omega)⟩⟩
    · refine te_iinc (p2 := 28) (x := 1) (y := 0) (lv2 := [(2, .int 0), (0, .ref 164), (1, .int 4)]) rfl rfl (by decide) rfl (by decide) rfl ?_
      refine te_goto rfl ?_
      refine te_iload_n (p2 := 5) rfl rfl rfl ?_
      refine tz_lt (p2 := 8) rfl rfl (show Int32.toInt 0 = 0 from rfl) (fun c92 => absurd c92 (by omega)) (fun c92 => ?_)
      refine te_aload_n (p2 := 9) rfl rfl rfl ?_
      refine tg_r (p2 := 12) (i := 148) (r := 215) rfl rfl hI rfl rfl rfl ?_
      refine te_iload_n (p2 := 13) rfl rfl rfl ?_
      refine tl_e (p2 := 14) (i := 199) (n := 6) (t := 0) (Or.inl rfl) rfl rfl hI rfl rfl (by decide) (by decide) hg0 ?_
      refine te_aload_n (p2 := 15) rfl rfl rfl ?_
      refine tg_r (p2 := 18) (i := 148) (r := 215) rfl rfl hI rfl rfl rfl ?_
      refine te_iload_n (p2 := 19) rfl rfl rfl ?_
      refine te_iconst (p2 := 20) (x := 1) rfl rfl (by decide) ?_
      refine te_iadd (p2 := 21) (z := 1) rfl rfl (by decide) ?_
      refine tl_e (p2 := 22) (i := 199) (n := 6) (t := 0) (Or.inl rfl) rfl rfl hI rfl rfl (by decide) (by decide) hg1 ?_
      refine tb_le (p2 := 25) rfl rfl rfl rfl (fun c96 => ?_) (fun c96 => ?_)
      · refine te_iload_n (p2 := 32) rfl rfl rfl ?_
        refine tz_ge (p2 := 35) rfl rfl (show Int32.toInt 0 = 0 from rfl) (fun c97 => ?_) (fun c97 => absurd c97 (by omega))
        refine te_iload_n (p2 := 38) rfl rfl rfl ?_
        refine te_iconst (p2 := 39) (x := 1) rfl rfl (by decide) ?_
        refine te_isub (p2 := 40) (z := 3) rfl rfl (by decide) ?_
        refine te_istore_n (p2 := 41) (lv2 := [(3, .int 3), (2, .int 0), (0, .ref 164), (1, .int 4)]) rfl rfl (by decide) rfl ?_
        refine te_aload_n (p2 := 42) rfl rfl rfl ?_
        refine tg_r (p2 := 45) (i := 148) (r := 215) rfl rfl hI rfl rfl rfl ?_
        refine te_iload_n (p2 := 46) rfl rfl rfl ?_
        refine tl_e (p2 := 47) (i := 199) (n := 6) (t := 0) (Or.inl rfl) rfl rfl hI rfl rfl (by decide) (by decide) hg3 ?_
        refine te_aload_n (p2 := 48) rfl rfl rfl ?_
        refine tg_r (p2 := 51) (i := 148) (r := 215) rfl rfl hI rfl rfl rfl ?_
        refine te_iload_n (p2 := 52) rfl rfl rfl ?_
        refine tl_e (p2 := 53) (i := 199) (n := 6) (t := 0) (Or.inl rfl) rfl rfl hI rfl rfl (by decide) (by decide) hg0 ?_
        refine tb_ge (p2 := 56) rfl rfl rfl rfl (fun c101 => ?_) (fun c101 => ?_)
        · refine te_aload_n (p2 := 63) rfl rfl rfl ?_
          refine tg_r (p2 := 66) (i := 148) (r := 215) rfl rfl hI rfl rfl rfl ?_
          refine te_iload_n (p2 := 67) rfl rfl rfl ?_
          refine tl_e (p2 := 68) (i := 199) (n := 6) (t := 0) (Or.inl rfl) rfl rfl hI rfl rfl (by decide) (by decide) hg0 ?_
          refine te_istore (p2 := 70) (lv2 := [(4, .int g0), (3, .int 3), (2, .int 0), (0, .ref 164), (1, .int 4)]) rfl rfl (by decide) rfl ?_
          refine te_aload_n (p2 := 71) rfl rfl rfl ?_
          refine tg_r (p2 := 74) (i := 148) (r := 215) rfl rfl hI rfl rfl rfl ?_
          refine te_iload_n (p2 := 75) rfl rfl rfl ?_
          refine te_aload_n (p2 := 76) rfl rfl rfl ?_
          refine tg_r (p2 := 79) (i := 148) (r := 215) rfl rfl hI rfl rfl rfl ?_
          refine te_iload_n (p2 := 80) rfl rfl rfl ?_
          refine tl_e (p2 := 81) (i := 199) (n := 6) (t := 0) (Or.inl rfl) rfl rfl hI rfl rfl (by decide) (by decide) hg3 ?_
          refine ts_i (p2 := 82) (i := 199) (n := 6) rfl rfl hI rfl rfl rfl rfl (by decide) (by decide) (by omega) (by omega) (by omega) rfl (fun h104 I104 u104 => ?_)
          have f104 := fr_st (F := F_X12_nextOrder_4) 0 f0 u104 rfl (by decide) (by decide)
          refine te_aload_n (p2 := 83) rfl rfl rfl ?_
          refine tg_r (p2 := 86) (i := 148) (r := 215) rfl rfl I104 rfl rfl rfl ?_
          refine te_iload_n (p2 := 87) rfl rfl rfl ?_
          refine te_iload (p2 := 89) rfl rfl rfl ?_
          refine ts_i (p2 := 90) (i := 199) (n := 6) rfl rfl I104 rfl rfl rfl rfl (by decide) (by decide) (by omega) (by omega) (by omega) rfl (fun h105 I105 u105 => ?_)
          have f105 := fr_st (F := F_X12_nextOrder_4) 0 f104 u105 rfl (by decide) (by decide)
          refine te_iload_n (p2 := 91) rfl rfl rfl ?_
          refine te_iconst (p2 := 92) (x := 1) rfl rfl (by decide) ?_
          refine te_iadd (p2 := 93) (z := 1) rfl rfl (by decide) ?_
          refine te_istore (p2 := 95) (lv2 := [(5, .int 1), (4, .int g0), (3, .int 3), (2, .int 0), (0, .ref 164), (1, .int 4)]) rfl rfl (by decide) rfl ?_
          refine te_iload_n (p2 := 96) rfl rfl rfl ?_
          refine te_iconst (p2 := 97) (x := 1) rfl rfl (by decide) ?_
          refine te_isub (p2 := 98) (z := 3) rfl rfl (by decide) ?_
          refine te_istore (p2 := 100) (lv2 := [(6, .int 3), (5, .int 1), (4, .int g0), (3, .int 3), (2, .int 0), (0, .ref 164), (1, .int 4)]) rfl rfl (by decide) rfl ?_
          refine te_iload (p2 := 102) rfl rfl rfl ?_
          refine te_iload (p2 := 104) rfl rfl rfl ?_
          refine tb_ge (p2 := 107) rfl rfl (show Int32.toInt 1 = 1 from rfl) (show Int32.toInt 3 = 3 from rfl) (fun c108 => absurd c108 (by omega)) (fun c108 => ?_)
          refine te_aload_n (p2 := 108) rfl rfl rfl ?_
          refine tg_r (p2 := 111) (i := 148) (r := 215) rfl rfl I105 rfl rfl rfl ?_
          refine te_iload (p2 := 113) rfl rfl rfl ?_
          refine tl_e (p2 := 114) (i := 199) (n := 6) (t := 0) (Or.inl rfl) rfl rfl I105 rfl rfl (by decide) (by decide) ((u105.2 _ _ (Or.inr (by decide))).trans ((u104.2 _ _ (Or.inr (by decide))).trans hg1)) ?_
          refine te_istore (p2 := 116) (lv2 := [(7, .int g1), (6, .int 3), (5, .int 1), (4, .int g0), (3, .int 3), (2, .int 0), (0, .ref 164), (1, .int 4)]) rfl rfl (by decide) rfl ?_
          refine te_aload_n (p2 := 117) rfl rfl rfl ?_
          refine tg_r (p2 := 120) (i := 148) (r := 215) rfl rfl I105 rfl rfl rfl ?_
          refine te_iload (p2 := 122) rfl rfl rfl ?_
          refine te_aload_n (p2 := 123) rfl rfl rfl ?_
          refine tg_r (p2 := 126) (i := 148) (r := 215) rfl rfl I105 rfl rfl rfl ?_
          refine te_iload (p2 := 128) rfl rfl rfl ?_
          refine tl_e (p2 := 129) (i := 199) (n := 6) (t := 0) (Or.inl rfl) rfl rfl I105 rfl rfl (by decide) (by decide) u105.1 ?_
          refine ts_i (p2 := 130) (i := 199) (n := 6) rfl rfl I105 rfl rfl rfl rfl (by decide) (by decide) (by omega) (by omega) (by omega) rfl (fun h111 I111 u111 => ?_)
          have f111 := fr_st (F := F_X12_nextOrder_4) 0 f105 u111 rfl (by decide) (by decide)
          refine te_aload_n (p2 := 131) rfl rfl rfl ?_
          refine tg_r (p2 := 134) (i := 148) (r := 215) rfl rfl I111 rfl rfl rfl ?_
          refine te_iload (p2 := 136) rfl rfl rfl ?_
          refine te_iload (p2 := 138) rfl rfl rfl ?_
          refine ts_i (p2 := 139) (i := 199) (n := 6) rfl rfl I111 rfl rfl rfl rfl (by decide) (by decide) (by omega) (by omega) (by omega) rfl (fun h112 I112 u112 => ?_)
          have f112 := fr_st (F := F_X12_nextOrder_4) 0 f111 u112 rfl (by decide) (by decide)
          refine te_iinc (p2 := 142) (x := 3) (y := 2) (lv2 := [(6, .int 2), (7, .int g1), (5, .int 1), (4, .int g0), (3, .int 3), (2, .int 0), (0, .ref 164), (1, .int 4)]) rfl rfl (by decide) rfl (by decide) rfl ?_
          refine te_iinc (p2 := 145) (x := 1) (y := 2) (lv2 := [(5, .int 2), (6, .int 2), (7, .int g1), (4, .int g0), (3, .int 3), (2, .int 0), (0, .ref 164), (1, .int 4)]) rfl rfl (by decide) rfl (by decide) rfl ?_
          refine te_goto rfl ?_
          refine te_iload (p2 := 102) rfl rfl rfl ?_
          refine te_iload (p2 := 104) rfl rfl rfl ?_
          refine tb_ge (p2 := 107) rfl rfl (show Int32.toInt 2 = 2 from rfl) (show Int32.toInt 2 = 2 from rfl) (fun c115 => ?_) (fun c115 => absurd c115 (by omega))
          refine te_iconst (p2 := 149) (x := 1) rfl rfl (by decide) ?_
          exact te_zret rfl rfl (by decide) ⟨I112, f112, _, rfl, Or.inr ⟨rfl, (by rw [pq_xe4, on6_4, (pq_of (k := 0) hg0 : pq_n h 199 0 = g0.toInt.toNat), (pq_of (k := 1) hg1 : pq_n h 199 1 = g1.toInt.toNat), (pq_of (k := 2) hg2 : pq_n h 199 2 = g2.toInt.toNat), (pq_of (k := 3) hg3 : pq_n h 199 3 = g3.toInt.toNat), (pq_of (k := 0) ((u112.2 _ _ (Or.inr (by decide))).trans ((u111.2 _ _ (Or.inr (by decide))).trans ((u105.2 _ _ (Or.inr (by decide))).trans u104.1))) : pq_n h112 199 0 = g3.toInt.toNat), (pq_of (k := 1) ((u112.2 _ _ (Or.inr (by decide))).trans u111.1) : pq_n h112 199 1 = g0.toInt.toNat), (pq_of (k := 2) ((u112.2 _ _ (Or.inr (by decide))).trans ((u111.2 _ _ (Or.inr (by decide))).trans ((u105.2 _ _ (Or.inr (by decide))).trans ((u104.2 _ _ (Or.inr (by decide))).trans hg2)))) : pq_n h112 199 2 = g2.toInt.toNat), (pq_of (k := 3) u112.1 : pq_n h112 199 3 = g1.toInt.toNat)]; unfold pq_x4; rw [if_pos (by omega), if_pos (by omega), if_neg (by omega), if_neg (by omega)]), g3, g0, g2, g1, g4, g5, ((u112.2 _ _ (Or.inr (by decide))).trans ((u111.2 _ _ (Or.inr (by decide))).trans ((u105.2 _ _ (Or.inr (by decide))).trans u104.1))), ((u112.2 _ _ (Or.inr (by decide))).trans u111.1), ((u112.2 _ _ (Or.inr (by decide))).trans ((u111.2 _ _ (Or.inr (by decide))).trans ((u105.2 _ _ (Or.inr (by decide))).trans ((u104.2 _ _ (Or.inr (by decide))).trans hg2)))), u112.1, ((u112.2 _ _ (Or.inr (by decide))).trans ((u111.2 _ _ (Or.inr (by decide))).trans ((u105.2 _ _ (Or.inr (by decide))).trans ((u104.2 _ _ (Or.inr (by decide))).trans hg4)))), ((u112.2 _ _ (Or.inr (by decide))).trans ((u111.2 _ _ (Or.inr (by decide))).trans ((u105.2 _ _ (Or.inr (by decide))).trans ((u104.2 _ _ (Or.inr (by decide))).trans hg5)))), (by unfold prm; omega), (by unfold lexV; omega)⟩⟩
        · refine te_iinc (p2 := 59) (x := 3) (y := 2) (lv2 := [(3, .int 2), (2, .int 0), (0, .ref 164), (1, .int 4)]) rfl rfl (by decide) rfl (by decide) rfl ?_
          refine te_goto rfl ?_
          refine te_aload_n (p2 := 42) rfl rfl rfl ?_
          refine tg_r (p2 := 45) (i := 148) (r := 215) rfl rfl hI rfl rfl rfl ?_
          refine te_iload_n (p2 := 46) rfl rfl rfl ?_
          refine tl_e (p2 := 47) (i := 199) (n := 6) (t := 0) (Or.inl rfl) rfl rfl hI rfl rfl (by decide) (by decide) hg2 ?_
          refine te_aload_n (p2 := 48) rfl rfl rfl ?_
          refine tg_r (p2 := 51) (i := 148) (r := 215) rfl rfl hI rfl rfl rfl ?_
          refine te_iload_n (p2 := 52) rfl rfl rfl ?_
          refine tl_e (p2 := 53) (i := 199) (n := 6) (t := 0) (Or.inl rfl) rfl rfl hI rfl rfl (by decide) (by decide) hg0 ?_
          refine tb_ge (p2 := 56) rfl rfl rfl rfl (fun c119 => ?_) (fun c119 => ?_)
          · refine te_aload_n (p2 := 63) rfl rfl rfl ?_
            refine tg_r (p2 := 66) (i := 148) (r := 215) rfl rfl hI rfl rfl rfl ?_
            refine te_iload_n (p2 := 67) rfl rfl rfl ?_
            refine tl_e (p2 := 68) (i := 199) (n := 6) (t := 0) (Or.inl rfl) rfl rfl hI rfl rfl (by decide) (by decide) hg0 ?_
            refine te_istore (p2 := 70) (lv2 := [(4, .int g0), (3, .int 2), (2, .int 0), (0, .ref 164), (1, .int 4)]) rfl rfl (by decide) rfl ?_
            refine te_aload_n (p2 := 71) rfl rfl rfl ?_
            refine tg_r (p2 := 74) (i := 148) (r := 215) rfl rfl hI rfl rfl rfl ?_
            refine te_iload_n (p2 := 75) rfl rfl rfl ?_
            refine te_aload_n (p2 := 76) rfl rfl rfl ?_
            refine tg_r (p2 := 79) (i := 148) (r := 215) rfl rfl hI rfl rfl rfl ?_
            refine te_iload_n (p2 := 80) rfl rfl rfl ?_
            refine tl_e (p2 := 81) (i := 199) (n := 6) (t := 0) (Or.inl rfl) rfl rfl hI rfl rfl (by decide) (by decide) hg2 ?_
            refine ts_i (p2 := 82) (i := 199) (n := 6) rfl rfl hI rfl rfl rfl rfl (by decide) (by decide) (by omega) (by omega) (by omega) rfl (fun h122 I122 u122 => ?_)
            have f122 := fr_st (F := F_X12_nextOrder_4) 0 f0 u122 rfl (by decide) (by decide)
            refine te_aload_n (p2 := 83) rfl rfl rfl ?_
            refine tg_r (p2 := 86) (i := 148) (r := 215) rfl rfl I122 rfl rfl rfl ?_
            refine te_iload_n (p2 := 87) rfl rfl rfl ?_
            refine te_iload (p2 := 89) rfl rfl rfl ?_
            refine ts_i (p2 := 90) (i := 199) (n := 6) rfl rfl I122 rfl rfl rfl rfl (by decide) (by decide) (by omega) (by omega) (by omega) rfl (fun h123 I123 u123 => ?_)
            have f123 := fr_st (F := F_X12_nextOrder_4) 0 f122 u123 rfl (by decide) (by decide)
            refine te_iload_n (p2 := 91) rfl rfl rfl ?_
            refine te_iconst (p2 := 92) (x := 1) rfl rfl (by decide) ?_
            refine te_iadd (p2 := 93) (z := 1) rfl rfl (by decide) ?_
            refine te_istore (p2 := 95) (lv2 := [(5, .int 1), (4, .int g0), (3, .int 2), (2, .int 0), (0, .ref 164), (1, .int 4)]) rfl rfl (by decide) rfl ?_
            refine te_iload_n (p2 := 96) rfl rfl rfl ?_
            refine te_iconst (p2 := 97) (x := 1) rfl rfl (by decide) ?_
            refine te_isub (p2 := 98) (z := 3) rfl rfl (by decide) ?_
            refine te_istore (p2 := 100) (lv2 := [(6, .int 3), (5, .int 1), (4, .int g0), (3, .int 2), (2, .int 0), (0, .ref 164), (1, .int 4)]) rfl rfl (by decide) rfl ?_
            refine te_iload (p2 := 102) rfl rfl rfl ?_
            refine te_iload (p2 := 104) rfl rfl rfl ?_
            refine tb_ge (p2 := 107) rfl rfl (show Int32.toInt 1 = 1 from rfl) (show Int32.toInt 3 = 3 from rfl) (fun c126 => absurd c126 (by omega)) (fun c126 => ?_)
            refine te_aload_n (p2 := 108) rfl rfl rfl ?_
            refine tg_r (p2 := 111) (i := 148) (r := 215) rfl rfl I123 rfl rfl rfl ?_
            refine te_iload (p2 := 113) rfl rfl rfl ?_
            refine tl_e (p2 := 114) (i := 199) (n := 6) (t := 0) (Or.inl rfl) rfl rfl I123 rfl rfl (by decide) (by decide) ((u123.2 _ _ (Or.inr (by decide))).trans ((u122.2 _ _ (Or.inr (by decide))).trans hg1)) ?_
            refine te_istore (p2 := 116) (lv2 := [(7, .int g1), (6, .int 3), (5, .int 1), (4, .int g0), (3, .int 2), (2, .int 0), (0, .ref 164), (1, .int 4)]) rfl rfl (by decide) rfl ?_
            refine te_aload_n (p2 := 117) rfl rfl rfl ?_
            refine tg_r (p2 := 120) (i := 148) (r := 215) rfl rfl I123 rfl rfl rfl ?_
            refine te_iload (p2 := 122) rfl rfl rfl ?_
            refine te_aload_n (p2 := 123) rfl rfl rfl ?_
            refine tg_r (p2 := 126) (i := 148) (r := 215) rfl rfl I123 rfl rfl rfl ?_
            refine te_iload (p2 := 128) rfl rfl rfl ?_
            refine tl_e (p2 := 129) (i := 199) (n := 6) (t := 0) (Or.inl rfl) rfl rfl I123 rfl rfl (by decide) (by decide) ((u123.2 _ _ (Or.inr (by decide))).trans ((u122.2 _ _ (Or.inr (by decide))).trans hg3)) ?_
            refine ts_i (p2 := 130) (i := 199) (n := 6) rfl rfl I123 rfl rfl rfl rfl (by decide) (by decide) (by omega) (by omega) (by omega) rfl (fun h129 I129 u129 => ?_)
            have f129 := fr_st (F := F_X12_nextOrder_4) 0 f123 u129 rfl (by decide) (by decide)
            refine te_aload_n (p2 := 131) rfl rfl rfl ?_
            refine tg_r (p2 := 134) (i := 148) (r := 215) rfl rfl I129 rfl rfl rfl ?_
            refine te_iload (p2 := 136) rfl rfl rfl ?_
            refine te_iload (p2 := 138) rfl rfl rfl ?_
            refine ts_i (p2 := 139) (i := 199) (n := 6) rfl rfl I129 rfl rfl rfl rfl (by decide) (by decide) (by omega) (by omega) (by omega) rfl (fun h130 I130 u130 => ?_)
            have f130 := fr_st (F := F_X12_nextOrder_4) 0 f129 u130 rfl (by decide) (by decide)
            refine te_iinc (p2 := 142) (x := 3) (y := 2) (lv2 := [(6, .int 2), (7, .int g1), (5, .int 1), (4, .int g0), (3, .int 2), (2, .int 0), (0, .ref 164), (1, .int 4)]) rfl rfl (by decide) rfl (by decide) rfl ?_
            refine te_iinc (p2 := 145) (x := 1) (y := 2) (lv2 := [(5, .int 2), (6, .int 2), (7, .int g1), (4, .int g0), (3, .int 2), (2, .int 0), (0, .ref 164), (1, .int 4)]) rfl rfl (by decide) rfl (by decide) rfl ?_
            refine te_goto rfl ?_
            refine te_iload (p2 := 102) rfl rfl rfl ?_
            refine te_iload (p2 := 104) rfl rfl rfl ?_
            refine tb_ge (p2 := 107) rfl rfl (show Int32.toInt 2 = 2 from rfl) (show Int32.toInt 2 = 2 from rfl) (fun c133 => ?_) (fun c133 => absurd c133 (by omega))
            refine te_iconst (p2 := 149) (x := 1) rfl rfl (by decide) ?_
            exact te_zret rfl rfl (by decide) ⟨I130, f130, _, rfl, Or.inr ⟨rfl, (by rw [pq_xe4, on6_4, (pq_of (k := 0) hg0 : pq_n h 199 0 = g0.toInt.toNat), (pq_of (k := 1) hg1 : pq_n h 199 1 = g1.toInt.toNat), (pq_of (k := 2) hg2 : pq_n h 199 2 = g2.toInt.toNat), (pq_of (k := 3) hg3 : pq_n h 199 3 = g3.toInt.toNat), (pq_of (k := 0) ((u130.2 _ _ (Or.inr (by decide))).trans ((u129.2 _ _ (Or.inr (by decide))).trans ((u123.2 _ _ (Or.inr (by decide))).trans u122.1))) : pq_n h130 199 0 = g2.toInt.toNat), (pq_of (k := 1) ((u130.2 _ _ (Or.inr (by decide))).trans u129.1) : pq_n h130 199 1 = g3.toInt.toNat), (pq_of (k := 2) ((u130.2 _ _ (Or.inr (by decide))).trans ((u129.2 _ _ (Or.inr (by decide))).trans u123.1)) : pq_n h130 199 2 = g0.toInt.toNat), (pq_of (k := 3) u130.1 : pq_n h130 199 3 = g1.toInt.toNat)]; unfold pq_x4; rw [if_pos (by omega), if_pos (by omega), if_neg (by omega), if_pos (by omega), if_neg (by omega)]), g2, g3, g0, g1, g4, g5, ((u130.2 _ _ (Or.inr (by decide))).trans ((u129.2 _ _ (Or.inr (by decide))).trans ((u123.2 _ _ (Or.inr (by decide))).trans u122.1))), ((u130.2 _ _ (Or.inr (by decide))).trans u129.1), ((u130.2 _ _ (Or.inr (by decide))).trans ((u129.2 _ _ (Or.inr (by decide))).trans u123.1)), u130.1, ((u130.2 _ _ (Or.inr (by decide))).trans ((u129.2 _ _ (Or.inr (by decide))).trans ((u123.2 _ _ (Or.inr (by decide))).trans ((u122.2 _ _ (Or.inr (by decide))).trans hg4)))), ((u130.2 _ _ (Or.inr (by decide))).trans ((u129.2 _ _ (Or.inr (by decide))).trans ((u123.2 _ _ (Or.inr (by decide))).trans ((u122.2 _ _ (Or.inr (by decide))).trans hg5)))), (by unfold prm; omega), (by unfold lexV; omega)⟩⟩
          · refine te_iinc (p2 := 59) (x := 2) (y := 1) (lv2 := [(3, .int 1), (2, .int 0), (0, .ref 164), (1, .int 4)]) rfl rfl (by decide) rfl (by decide) rfl ?_
            refine te_goto rfl ?_
            refine te_aload_n (p2 := 42) rfl rfl rfl ?_
            refine tg_r (p2 := 45) (i := 148) (r := 215) rfl rfl hI rfl rfl rfl ?_
            refine te_iload_n (p2 := 46) rfl rfl rfl ?_
            refine tl_e (p2 := 47) (i := 199) (n := 6) (t := 0) (Or.inl rfl) rfl rfl hI rfl rfl (by decide) (by decide) hg1 ?_
            refine te_aload_n (p2 := 48) rfl rfl rfl ?_
            refine tg_r (p2 := 51) (i := 148) (r := 215) rfl rfl hI rfl rfl rfl ?_
            refine te_iload_n (p2 := 52) rfl rfl rfl ?_
            refine tl_e (p2 := 53) (i := 199) (n := 6) (t := 0) (Or.inl rfl) rfl rfl hI rfl rfl (by decide) (by decide) hg0 ?_
            refine tb_ge (p2 := 56) rfl rfl rfl rfl (fun c137 => ?_) (fun c137 => ?_)
            · refine te_aload_n (p2 := 63) rfl rfl rfl ?_
              refine tg_r (p2 := 66) (i := 148) (r := 215) rfl rfl hI rfl rfl rfl ?_
              refine te_iload_n (p2 := 67) rfl rfl rfl ?_
              refine tl_e (p2 := 68) (i := 199) (n := 6) (t := 0) (Or.inl rfl) rfl rfl hI rfl rfl (by decide) (by decide) hg0 ?_
              refine te_istore (p2 := 70) (lv2 := [(4, .int g0), (3, .int 1), (2, .int 0), (0, .ref 164), (1, .int 4)]) rfl rfl (by decide) rfl ?_
              refine te_aload_n (p2 := 71) rfl rfl rfl ?_
              refine tg_r (p2 := 74) (i := 148) (r := 215) rfl rfl hI rfl rfl rfl ?_
              refine te_iload_n (p2 := 75) rfl rfl rfl ?_
              refine te_aload_n (p2 := 76) rfl rfl rfl ?_
              refine tg_r (p2 := 79) (i := 148) (r := 215) rfl rfl hI rfl rfl rfl ?_
              refine te_iload_n (p2 := 80) rfl rfl rfl ?_
              refine tl_e (p2 := 81) (i := 199) (n := 6) (t := 0) (Or.inl rfl) rfl rfl hI rfl rfl (by decide) (by decide) hg1 ?_
              refine ts_i (p2 := 82) (i := 199) (n := 6) rfl rfl hI rfl rfl rfl rfl (by decide) (by decide) (by omega) (by omega) (by omega) rfl (fun h140 I140 u140 => ?_)
              have f140 := fr_st (F := F_X12_nextOrder_4) 0 f0 u140 rfl (by decide) (by decide)
              refine te_aload_n (p2 := 83) rfl rfl rfl ?_
              refine tg_r (p2 := 86) (i := 148) (r := 215) rfl rfl I140 rfl rfl rfl ?_
              refine te_iload_n (p2 := 87) rfl rfl rfl ?_
              refine te_iload (p2 := 89) rfl rfl rfl ?_
              refine ts_i (p2 := 90) (i := 199) (n := 6) rfl rfl I140 rfl rfl rfl rfl (by decide) (by decide) (by omega) (by omega) (by omega) rfl (fun h141 I141 u141 => ?_)
              have f141 := fr_st (F := F_X12_nextOrder_4) 0 f140 u141 rfl (by decide) (by decide)
              refine te_iload_n (p2 := 91) rfl rfl rfl ?_
              refine te_iconst (p2 := 92) (x := 1) rfl rfl (by decide) ?_
              refine te_iadd (p2 := 93) (z := 1) rfl rfl (by decide) ?_
              refine te_istore (p2 := 95) (lv2 := [(5, .int 1), (4, .int g0), (3, .int 1), (2, .int 0), (0, .ref 164), (1, .int 4)]) rfl rfl (by decide) rfl ?_
              refine te_iload_n (p2 := 96) rfl rfl rfl ?_
              refine te_iconst (p2 := 97) (x := 1) rfl rfl (by decide) ?_
              refine te_isub (p2 := 98) (z := 3) rfl rfl (by decide) ?_
              refine te_istore (p2 := 100) (lv2 := [(6, .int 3), (5, .int 1), (4, .int g0), (3, .int 1), (2, .int 0), (0, .ref 164), (1, .int 4)]) rfl rfl (by decide) rfl ?_
              refine te_iload (p2 := 102) rfl rfl rfl ?_
              refine te_iload (p2 := 104) rfl rfl rfl ?_
              refine tb_ge (p2 := 107) rfl rfl (show Int32.toInt 1 = 1 from rfl) (show Int32.toInt 3 = 3 from rfl) (fun c144 => absurd c144 (by omega)) (fun c144 => ?_)
              refine te_aload_n (p2 := 108) rfl rfl rfl ?_
              refine tg_r (p2 := 111) (i := 148) (r := 215) rfl rfl I141 rfl rfl rfl ?_
              refine te_iload (p2 := 113) rfl rfl rfl ?_
              refine tl_e (p2 := 114) (i := 199) (n := 6) (t := 0) (Or.inl rfl) rfl rfl I141 rfl rfl (by decide) (by decide) u141.1 ?_
              refine te_istore (p2 := 116) (lv2 := [(7, .int g0), (6, .int 3), (5, .int 1), (4, .int g0), (3, .int 1), (2, .int 0), (0, .ref 164), (1, .int 4)]) rfl rfl (by decide) rfl ?_
              refine te_aload_n (p2 := 117) rfl rfl rfl ?_
              refine tg_r (p2 := 120) (i := 148) (r := 215) rfl rfl I141 rfl rfl rfl ?_
              refine te_iload (p2 := 122) rfl rfl rfl ?_
              refine te_aload_n (p2 := 123) rfl rfl rfl ?_
              refine tg_r (p2 := 126) (i := 148) (r := 215) rfl rfl I141 rfl rfl rfl ?_
              refine te_iload (p2 := 128) rfl rfl rfl ?_
              refine tl_e (p2 := 129) (i := 199) (n := 6) (t := 0) (Or.inl rfl) rfl rfl I141 rfl rfl (by decide) (by decide) ((u141.2 _ _ (Or.inr (by decide))).trans ((u140.2 _ _ (Or.inr (by decide))).trans hg3)) ?_
              refine ts_i (p2 := 130) (i := 199) (n := 6) rfl rfl I141 rfl rfl rfl rfl (by decide) (by decide) (by omega) (by omega) (by omega) rfl (fun h147 I147 u147 => ?_)
              have f147 := fr_st (F := F_X12_nextOrder_4) 0 f141 u147 rfl (by decide) (by decide)
              refine te_aload_n (p2 := 131) rfl rfl rfl ?_
              refine tg_r (p2 := 134) (i := 148) (r := 215) rfl rfl I147 rfl rfl rfl ?_
              refine te_iload (p2 := 136) rfl rfl rfl ?_
              refine te_iload (p2 := 138) rfl rfl rfl ?_
              refine ts_i (p2 := 139) (i := 199) (n := 6) rfl rfl I147 rfl rfl rfl rfl (by decide) (by decide) (by omega) (by omega) (by omega) rfl (fun h148 I148 u148 => ?_)
              have f148 := fr_st (F := F_X12_nextOrder_4) 0 f147 u148 rfl (by decide) (by decide)
              refine te_iinc (p2 := 142) (x := 3) (y := 2) (lv2 := [(6, .int 2), (7, .int g0), (5, .int 1), (4, .int g0), (3, .int 1), (2, .int 0), (0, .ref 164), (1, .int 4)]) rfl rfl (by decide) rfl (by decide) rfl ?_
              refine te_iinc (p2 := 145) (x := 1) (y := 2) (lv2 := [(5, .int 2), (6, .int 2), (7, .int g0), (4, .int g0), (3, .int 1), (2, .int 0), (0, .ref 164), (1, .int 4)]) rfl rfl (by decide) rfl (by decide) rfl ?_
              refine te_goto rfl ?_
              refine te_iload (p2 := 102) rfl rfl rfl ?_
              refine te_iload (p2 := 104) rfl rfl rfl ?_
              refine tb_ge (p2 := 107) rfl rfl (show Int32.toInt 2 = 2 from rfl) (show Int32.toInt 2 = 2 from rfl) (fun c151 => ?_) (fun c151 => absurd c151 (by omega))
              refine te_iconst (p2 := 149) (x := 1) rfl rfl (by decide) ?_
              exact te_zret rfl rfl (by decide) ⟨I148, f148, _, rfl, Or.inr ⟨rfl, (by rw [pq_xe4, on6_4, (pq_of (k := 0) hg0 : pq_n h 199 0 = g0.toInt.toNat), (pq_of (k := 1) hg1 : pq_n h 199 1 = g1.toInt.toNat), (pq_of (k := 2) hg2 : pq_n h 199 2 = g2.toInt.toNat), (pq_of (k := 3) hg3 : pq_n h 199 3 = g3.toInt.toNat), (pq_of (k := 0) ((u148.2 _ _ (Or.inr (by decide))).trans ((u147.2 _ _ (Or.inr (by decide))).trans ((u141.2 _ _ (Or.inr (by decide))).trans u140.1))) : pq_n h148 199 0 = g1.toInt.toNat), (pq_of (k := 1) ((u148.2 _ _ (Or.inr (by decide))).trans u147.1) : pq_n h148 199 1 = g3.toInt.toNat), (pq_of (k := 2) ((u148.2 _ _ (Or.inr (by decide))).trans ((u147.2 _ _ (Or.inr (by decide))).trans ((u141.2 _ _ (Or.inr (by decide))).trans ((u140.2 _ _ (Or.inr (by decide))).trans hg2)))) : pq_n h148 199 2 = g2.toInt.toNat), (pq_of (k := 3) u148.1 : pq_n h148 199 3 = g0.toInt.toNat)]; unfold pq_x4; rw [if_pos (by omega), if_pos (by omega), if_neg (by omega), if_pos (by omega), if_pos (by omega), if_neg (by omega)]), g1, g3, g2, g0, g4, g5, ((u148.2 _ _ (Or.inr (by decide))).trans ((u147.2 _ _ (Or.inr (by decide))).trans ((u141.2 _ _ (Or.inr (by decide))).trans u140.1))), ((u148.2 _ _ (Or.inr (by decide))).trans u147.1), ((u148.2 _ _ (Or.inr (by decide))).trans ((u147.2 _ _ (Or.inr (by decide))).trans ((u141.2 _ _ (Or.inr (by decide))).trans ((u140.2 _ _ (Or.inr (by decide))).trans hg2)))), u148.1, ((u148.2 _ _ (Or.inr (by decide))).trans ((u147.2 _ _ (Or.inr (by decide))).trans ((u141.2 _ _ (Or.inr (by decide))).trans ((u140.2 _ _ (Or.inr (by decide))).trans hg4)))), ((u148.2 _ _ (Or.inr (by decide))).trans ((u147.2 _ _ (Or.inr (by decide))).trans ((u141.2 _ _ (Or.inr (by decide))).trans ((u140.2 _ _ (Or.inr (by decide))).trans hg5)))), (by unfold prm; omega), (by unfold lexV; omega)⟩⟩
            · refine te_iinc (p2 := 59) (x := 1) (y := 0) (lv2 := [(3, .int 0), (2, .int 0), (0, .ref 164), (1, .int 4)]) rfl rfl (by decide) rfl (by decide) rfl ?_
              refine te_goto rfl ?_
              refine te_aload_n (p2 := 42) rfl rfl rfl ?_
              refine tg_r (p2 := 45) (i := 148) (r := 215) rfl rfl hI rfl rfl rfl ?_
              refine te_iload_n (p2 := 46) rfl rfl rfl ?_
              refine tl_e (p2 := 47) (i := 199) (n := 6) (t := 0) (Or.inl rfl) rfl rfl hI rfl rfl (by decide) (by decide) hg0 ?_
              refine te_aload_n (p2 := 48) rfl rfl rfl ?_
              refine tg_r (p2 := 51) (i := 148) (r := 215) rfl rfl hI rfl rfl rfl ?_
              refine te_iload_n (p2 := 52) rfl rfl rfl ?_
              refine tl_e (p2 := 53) (i := 199) (n := 6) (t := 0) (Or.inl rfl) rfl rfl hI rfl rfl (by decide) (by decide) hg0 ?_
              refine tb_ge (p2 := 56) rfl rfl rfl rfl (fun c155 => ?_) (fun c155 => absurd c155 (by omega))
              refine te_aload_n (p2 := 63) rfl rfl rfl ?_
              refine tg_r (p2 := 66) (i := 148) (r := 215) rfl rfl hI rfl rfl rfl ?_
              refine te_iload_n (p2 := 67) rfl rfl rfl ?_
              refine tl_e (p2 := 68) (i := 199) (n := 6) (t := 0) (Or.inl rfl) rfl rfl hI rfl rfl (by decide) (by decide) hg0 ?_
              refine te_istore (p2 := 70) (lv2 := [(4, .int g0), (3, .int 0), (2, .int 0), (0, .ref 164), (1, .int 4)]) rfl rfl (by decide) rfl ?_
              refine te_aload_n (p2 := 71) rfl rfl rfl ?_
              refine tg_r (p2 := 74) (i := 148) (r := 215) rfl rfl hI rfl rfl rfl ?_
              refine te_iload_n (p2 := 75) rfl rfl rfl ?_
              refine te_aload_n (p2 := 76) rfl rfl rfl ?_
              refine tg_r (p2 := 79) (i := 148) (r := 215) rfl rfl hI rfl rfl rfl ?_
              refine te_iload_n (p2 := 80) rfl rfl rfl ?_
              refine tl_e (p2 := 81) (i := 199) (n := 6) (t := 0) (Or.inl rfl) rfl rfl hI rfl rfl (by decide) (by decide) hg0 ?_
              refine ts_i (p2 := 82) (i := 199) (n := 6) rfl rfl hI rfl rfl rfl rfl (by decide) (by decide) (by omega) (by omega) (by omega) rfl (fun h158 I158 u158 => ?_)
              have f158 := fr_st (F := F_X12_nextOrder_4) 0 f0 u158 rfl (by decide) (by decide)
              refine te_aload_n (p2 := 83) rfl rfl rfl ?_
              refine tg_r (p2 := 86) (i := 148) (r := 215) rfl rfl I158 rfl rfl rfl ?_
              refine te_iload_n (p2 := 87) rfl rfl rfl ?_
              refine te_iload (p2 := 89) rfl rfl rfl ?_
              refine ts_i (p2 := 90) (i := 199) (n := 6) rfl rfl I158 rfl rfl rfl rfl (by decide) (by decide) (by omega) (by omega) (by omega) rfl (fun h159 I159 u159 => ?_)
              have f159 := fr_st (F := F_X12_nextOrder_4) 0 f158 u159 rfl (by decide) (by decide)
              refine te_iload_n (p2 := 91) rfl rfl rfl ?_
              refine te_iconst (p2 := 92) (x := 1) rfl rfl (by decide) ?_
              refine te_iadd (p2 := 93) (z := 1) rfl rfl (by decide) ?_
              refine te_istore (p2 := 95) (lv2 := [(5, .int 1), (4, .int g0), (3, .int 0), (2, .int 0), (0, .ref 164), (1, .int 4)]) rfl rfl (by decide) rfl ?_
              refine te_iload_n (p2 := 96) rfl rfl rfl ?_
              refine te_iconst (p2 := 97) (x := 1) rfl rfl (by decide) ?_
              refine te_isub (p2 := 98) (z := 3) rfl rfl (by decide) ?_
              refine te_istore (p2 := 100) (lv2 := [(6, .int 3), (5, .int 1), (4, .int g0), (3, .int 0), (2, .int 0), (0, .ref 164), (1, .int 4)]) rfl rfl (by decide) rfl ?_
              refine te_iload (p2 := 102) rfl rfl rfl ?_
              refine te_iload (p2 := 104) rfl rfl rfl ?_
              refine tb_ge (p2 := 107) rfl rfl (show Int32.toInt 1 = 1 from rfl) (show Int32.toInt 3 = 3 from rfl) (fun c162 => absurd c162 (by omega)) (fun c162 => ?_)
              refine te_aload_n (p2 := 108) rfl rfl rfl ?_
              refine tg_r (p2 := 111) (i := 148) (r := 215) rfl rfl I159 rfl rfl rfl ?_
              refine te_iload (p2 := 113) rfl rfl rfl ?_
              refine tl_e (p2 := 114) (i := 199) (n := 6) (t := 0) (Or.inl rfl) rfl rfl I159 rfl rfl (by decide) (by decide) ((u159.2 _ _ (Or.inr (by decide))).trans ((u158.2 _ _ (Or.inr (by decide))).trans hg1)) ?_
              refine te_istore (p2 := 116) (lv2 := [(7, .int g1), (6, .int 3), (5, .int 1), (4, .int g0), (3, .int 0), (2, .int 0), (0, .ref 164), (1, .int 4)]) rfl rfl (by decide) rfl ?_
              refine te_aload_n (p2 := 117) rfl rfl rfl ?_
              refine tg_r (p2 := 120) (i := 148) (r := 215) rfl rfl I159 rfl rfl rfl ?_
              refine te_iload (p2 := 122) rfl rfl rfl ?_
              refine te_aload_n (p2 := 123) rfl rfl rfl ?_
              refine tg_r (p2 := 126) (i := 148) (r := 215) rfl rfl I159 rfl rfl rfl ?_
              refine te_iload (p2 := 128) rfl rfl rfl ?_
              refine tl_e (p2 := 129) (i := 199) (n := 6) (t := 0) (Or.inl rfl) rfl rfl I159 rfl rfl (by decide) (by decide) ((u159.2 _ _ (Or.inr (by decide))).trans ((u158.2 _ _ (Or.inr (by decide))).trans hg3)) ?_
              refine ts_i (p2 := 130) (i := 199) (n := 6) rfl rfl I159 rfl rfl rfl rfl (by decide) (by decide) (by omega) (by omega) (by omega) rfl (fun h165 I165 u165 => ?_)
              have f165 := fr_st (F := F_X12_nextOrder_4) 0 f159 u165 rfl (by decide) (by decide)
              refine te_aload_n (p2 := 131) rfl rfl rfl ?_
              refine tg_r (p2 := 134) (i := 148) (r := 215) rfl rfl I165 rfl rfl rfl ?_
              refine te_iload (p2 := 136) rfl rfl rfl ?_
              refine te_iload (p2 := 138) rfl rfl rfl ?_
              refine ts_i (p2 := 139) (i := 199) (n := 6) rfl rfl I165 rfl rfl rfl rfl (by decide) (by decide) (by omega) (by omega) (by omega) rfl (fun h166 I166 u166 => ?_)
              have f166 := fr_st (F := F_X12_nextOrder_4) 0 f165 u166 rfl (by decide) (by decide)
              refine te_iinc (p2 := 142) (x := 3) (y := 2) (lv2 := [(6, .int 2), (7, .int g1), (5, .int 1), (4, .int g0), (3, .int 0), (2, .int 0), (0, .ref 164), (1, .int 4)]) rfl rfl (by decide) rfl (by decide) rfl ?_
              refine te_iinc (p2 := 145) (x := 1) (y := 2) (lv2 := [(5, .int 2), (6, .int 2), (7, .int g1), (4, .int g0), (3, .int 0), (2, .int 0), (0, .ref 164), (1, .int 4)]) rfl rfl (by decide) rfl (by decide) rfl ?_
              refine te_goto rfl ?_
              refine te_iload (p2 := 102) rfl rfl rfl ?_
              refine te_iload (p2 := 104) rfl rfl rfl ?_
              refine tb_ge (p2 := 107) rfl rfl (show Int32.toInt 2 = 2 from rfl) (show Int32.toInt 2 = 2 from rfl) (fun c169 => ?_) (fun c169 => absurd c169 (by omega))
              refine te_iconst (p2 := 149) (x := 1) rfl rfl (by decide) ?_
              exact te_zret rfl rfl (by decide) ⟨I166, f166, _, rfl, Or.inr ⟨rfl, (by rw [pq_xe4, on6_4, (pq_of (k := 0) hg0 : pq_n h 199 0 = g0.toInt.toNat), (pq_of (k := 1) hg1 : pq_n h 199 1 = g1.toInt.toNat), (pq_of (k := 2) hg2 : pq_n h 199 2 = g2.toInt.toNat), (pq_of (k := 3) hg3 : pq_n h 199 3 = g3.toInt.toNat), (pq_of (k := 0) ((u166.2 _ _ (Or.inr (by decide))).trans ((u165.2 _ _ (Or.inr (by decide))).trans u159.1)) : pq_n h166 199 0 = g0.toInt.toNat), (pq_of (k := 1) ((u166.2 _ _ (Or.inr (by decide))).trans u165.1) : pq_n h166 199 1 = g3.toInt.toNat), (pq_of (k := 2) ((u166.2 _ _ (Or.inr (by decide))).trans ((u165.2 _ _ (Or.inr (by decide))).trans ((u159.2 _ _ (Or.inr (by decide))).trans ((u158.2 _ _ (Or.inr (by decide))).trans hg2)))) : pq_n h166 199 2 = g2.toInt.toNat), (pq_of (k := 3) u166.1 : pq_n h166 199 3 = g1.toInt.toNat)]; unfold pq_x4; rw [if_pos (by omega), if_pos (by omega), if_neg (by omega), if_pos (by omega), if_pos (by omega), if_pos (by omega)]), g0, g3, g2, g1, g4, g5, ((u166.2 _ _ (Or.inr (by decide))).trans ((u165.2 _ _ (Or.inr (by decide))).trans u159.1)), ((u166.2 _ _ (Or.inr (by decide))).trans u165.1), ((u166.2 _ _ (Or.inr (by decide))).trans ((u165.2 _ _ (Or.inr (by decide))).trans ((u159.2 _ _ (Or.inr (by decide))).trans ((u158.2 _ _ (Or.inr (by decide))).trans hg2)))), u166.1, ((u166.2 _ _ (Or.inr (by decide))).trans ((u165.2 _ _ (Or.inr (by decide))).trans ((u159.2 _ _ (Or.inr (by decide))).trans ((u158.2 _ _ (Or.inr (by decide))).trans hg4)))), ((u166.2 _ _ (Or.inr (by decide))).trans ((u165.2 _ _ (Or.inr (by decide))).trans ((u159.2 _ _ (Or.inr (by decide))).trans ((u158.2 _ _ (Or.inr (by decide))).trans hg5)))), (by unfold prm; omega), (by unfold lexV; omega)⟩⟩
      · refine te_iinc (p2 := 28) (x := 0) (y := (-1)) (lv2 := [(2, .int (-1)), (0, .ref 164), (1, .int 4)]) rfl rfl (by decide) rfl (by decide) rfl ?_
        refine te_goto rfl ?_
        refine te_iload_n (p2 := 5) rfl rfl rfl ?_
        refine tz_lt (p2 := 8) rfl rfl (show Int32.toInt (-1) = (-1) from rfl) (fun c171 => ?_) (fun c171 => absurd c171 (by omega))
        refine te_iload_n (p2 := 32) rfl rfl rfl ?_
        refine tz_ge (p2 := 35) rfl rfl (show Int32.toInt (-1) = (-1) from rfl) (fun c172 => absurd c172 (by omega)) (fun c172 => ?_)
        refine te_iconst (p2 := 36) (x := 0) rfl rfl (by decide) ?_
        exact te_zret rfl rfl (by decide) ⟨hI, f0, _, rfl, Or.inl ⟨rfl, (by rw [pq_xe4, (pq_of (k := 0) hg0 : pq_n h 199 0 = g0.toInt.toNat), (pq_of (k := 1) hg1 : pq_n h 199 1 = g1.toInt.toNat), (pq_of (k := 2) hg2 : pq_n h 199 2 = g2.toInt.toNat), (pq_of (k := 3) hg3 : pq_n h 199 3 = g3.toInt.toNat)]; unfold pq_x4; rw [if_pos (by omega), if_pos (by omega), if_pos (by omega)])⟩⟩
set_option maxRecDepth 20000 in
set_option maxHeartbeats 4000000 in
theorem c_X12_nextOrder_5 {g0 : Int32} {g1 : Int32} {g2 : Int32} {g3 : Int32} {g4 : Int32} {g5 : Int32} {h : im_H} (hI : tI h) (hg0 : rd h 199 (Int32.toInt 0).toNat = some (.int g0)) (ga0 : 0 ≤ g0.toInt) (gb0 : g0.toInt ≤ 5) (hg1 : rd h 199 (Int32.toInt 1).toNat = some (.int g1)) (ga1 : 0 ≤ g1.toInt) (gb1 : g1.toInt ≤ 5) (hg2 : rd h 199 (Int32.toInt 2).toNat = some (.int g2)) (ga2 : 0 ≤ g2.toInt) (gb2 : g2.toInt ≤ 5) (hg3 : rd h 199 (Int32.toInt 3).toNat = some (.int g3)) (ga3 : 0 ≤ g3.toInt) (gb3 : g3.toInt ≤ 5) (hg4 : rd h 199 (Int32.toInt 4).toNat = some (.int g4)) (ga4 : 0 ≤ g4.toInt) (gb4 : g4.toInt ≤ 5) (hg5 : rd h 199 (Int32.toInt 5).toNat = some (.int g5)) (ga5 : 0 ≤ g5.toInt) (gb5 : g5.toInt ≤ 5) (pr0 : prm 5 g0.toInt g1.toInt g2.toInt g3.toInt g4.toInt g5.toInt) : CaP 1 167 [.ref 164, .int 5] h (fun v h2 => tI h2 ∧ fr F_X12_nextOrder_5 h h2 ∧ ∃ y : Int32, v = some (.int y) ∧ ((y = 0 ∧ pq_x 5 (on6 5 (pq_n h 199)) = none) ∨ (y = 1 ∧ pq_x 5 (on6 5 (pq_n h 199)) = some (on6 5 (pq_n h2 199)) ∧ ∃ k0 k1 k2 k3 k4 k5 : Int32, rd h2 199 (Int32.toInt 0).toNat = some (.int k0) ∧ rd h2 199 (Int32.toInt 1).toNat = some (.int k1) ∧ rd h2 199 (Int32.toInt 2).toNat = some (.int k2) ∧ rd h2 199 (Int32.toInt 3).toNat = some (.int k3) ∧ rd h2 199 (Int32.toInt 4).toNat = some (.int k4) ∧ rd h2 199 (Int32.toInt 5).toNat = some (.int k5) ∧ prm 5 k0.toInt k1.toInt k2.toInt k3.toInt k4.toInt k5.toInt ∧ lexV g0.toInt g1.toInt g2.toInt g3.toInt g4.toInt g5.toInt < lexV k0.toInt k1.toInt k2.toInt k3.toInt k4.toInt k5.toInt))) := by
  refine cap_of (d := 0) (M := mX12_nextOrder) rfl (Nat.le_of_ble_eq_true rfl) ?_
  show EvP im_K0 0 mX12_nextOrder (0, [(0, .ref 164), (1, .int 5)], [], h) _
  obtain ⟨q0, q1, q2, q3, q4, q5⟩ := pr0
  have q0 := q0 (by decide)
  have q1 := q1 (by decide)
  have q2 := q2 (by decide)
  have q3 := q3 (by decide)
  have q4 := q4 (by decide)
  clear q5
  have f0 : fr F_X12_nextOrder_5 h h := fr_rf
  refine te_iload_n (p2 := 1) rfl rfl rfl ?_
  refine te_iconst (p2 := 2) (x := 2) rfl rfl (by decide) ?_
  refine te_isub (p2 := 3) (z := 3) rfl rfl (by decide) ?_
  refine te_istore_n (p2 := 4) (lv2 := [(2, .int 3), (0, .ref 164), (1, .int 5)]) rfl rfl (by decide) rfl ?_
  refine te_iload_n (p2 := 5) rfl rfl rfl ?_
  refine tz_lt (p2 := 8) rfl rfl (show Int32.toInt 3 = 3 from rfl) (fun c2 => absurd c2 (by omega)) (fun c2 => ?_)
  refine te_aload_n (p2 := 9) rfl rfl rfl ?_
  refine tg_r (p2 := 12) (i := 148) (r := 215) rfl rfl hI rfl rfl rfl ?_
  refine te_iload_n (p2 := 13) rfl rfl rfl ?_
  refine tl_e (p2 := 14) (i := 199) (n := 6) (t := 0) (Or.inl rfl) rfl rfl hI rfl rfl (by decide) (by decide) hg3 ?_
  refine te_aload_n (p2 := 15) rfl rfl rfl ?_
  refine tg_r (p2 := 18) (i := 148) (r := 215) rfl rfl hI rfl rfl rfl ?_
  refine te_iload_n (p2 := 19) rfl rfl rfl ?_
  refine te_iconst (p2 := 20) (x := 1) rfl rfl (by decide) ?_
  refine te_iadd (p2 := 21) (z := 4) rfl rfl (by decide) ?_
  refine tl_e (p2 := 22) (i := 199) (n := 6) (t := 0) (Or.inl rfl) rfl rfl hI rfl rfl (by decide) (by decide) hg4 ?_
  refine tb_le (p2 := 25) rfl rfl rfl rfl (fun c6 => ?_) (fun c6 => ?_)
  · refine te_iload_n (p2 := 32) rfl rfl rfl ?_
    refine tz_ge (p2 := 35) rfl rfl (show Int32.toInt 3 = 3 from rfl) (fun c7 => ?_) (fun c7 => absurd c7 (by omega))
    refine te_iload_n (p2 := 38) rfl rfl rfl ?_
    refine te_iconst (p2 := 39) (x := 1) rfl rfl (by decide) ?_
    refine te_isub (p2 := 40) (z := 4) rfl rfl (by decide) ?_
    refine te_istore_n (p2 := 41) (lv2 := [(3, .int 4), (2, .int 3), (0, .ref 164), (1, .int 5)]) rfl rfl (by decide) rfl ?_
    refine te_aload_n (p2 := 42) rfl rfl rfl ?_
    refine tg_r (p2 := 45) (i := 148) (r := 215) rfl rfl hI rfl rfl rfl ?_
    refine te_iload_n (p2 := 46) rfl rfl rfl ?_
    refine tl_e (p2 := 47) (i := 199) (n := 6) (t := 0) (Or.inl rfl) rfl rfl hI rfl rfl (by decide) (by decide) hg4 ?_
    refine te_aload_n (p2 := 48) rfl rfl rfl ?_
    refine tg_r (p2 := 51) (i := 148) (r := 215) rfl rfl hI rfl rfl rfl ?_
    refine te_iload_n (p2 := 52) rfl rfl rfl ?_
    refine tl_e (p2 := 53) (i := 199) (n := 6) (t := 0) (Or.inl rfl) rfl rfl hI rfl rfl (by decide) (by decide) hg3 ?_
    refine tb_ge (p2 := 56) rfl rfl rfl rfl (fun c11 => ?_) (fun c11 => ?_)
    · refine te_aload_n (p2 := 63) rfl rfl rfl ?_
      refine tg_r (p2 := 66) (i := 148) (r := 215) rfl rfl hI rfl rfl rfl ?_
      refine te_iload_n (p2 := 67) rfl rfl rfl ?_
      refine tl_e (p2 := 68) (i := 199) (n := 6) (t := 0) (Or.inl rfl) rfl rfl hI rfl rfl (by decide) (by decide) hg3 ?_
      refine te_istore (p2 := 70) (lv2 := [(4, .int g3), (3, .int 4), (2, .int 3), (0, .ref 164), (1, .int 5)]) rfl rfl (by decide) rfl ?_
      refine te_aload_n (p2 := 71) rfl rfl rfl ?_
      refine tg_r (p2 := 74) (i := 148) (r := 215) rfl rfl hI rfl rfl rfl ?_
      refine te_iload_n (p2 := 75) rfl rfl rfl ?_
      refine te_aload_n (p2 := 76) rfl rfl rfl ?_
      refine tg_r (p2 := 79) (i := 148) (r := 215) rfl rfl hI rfl rfl rfl ?_
      refine te_iload_n (p2 := 80) rfl rfl rfl ?_
      refine tl_e (p2 := 81) (i := 199) (n := 6) (t := 0) (Or.inl rfl) rfl rfl hI rfl rfl (by decide) (by decide) hg4 ?_
      refine ts_i (p2 := 82) (i := 199) (n := 6) rfl rfl hI rfl rfl rfl rfl (by decide) (by decide) (by omega) (by omega) (by omega) rfl (fun h14 I14 u14 => ?_)
      have f14 := fr_st (F := F_X12_nextOrder_5) 0 f0 u14 rfl (by decide) (by decide)
      refine te_aload_n (p2 := 83) rfl rfl rfl ?_
      refine tg_r (p2 := 86) (i := 148) (r := 215) rfl rfl I14 rfl rfl rfl ?_
      refine te_iload_n (p2 := 87) rfl rfl rfl ?_
      refine te_iload (p2 := 89) rfl rfl rfl ?_
      refine ts_i (p2 := 90) (i := 199) (n := 6) rfl rfl I14 rfl rfl rfl rfl (by decide) (by decide) (by omega) (by omega) (by omega) rfl (fun h15 I15 u15 => ?_)
      have f15 := fr_st (F := F_X12_nextOrder_5) 0 f14 u15 rfl (by decide) (by decide)
      refine te_iload_n (p2 := 91) rfl rfl rfl ?_
      refine te_iconst (p2 := 92) (x := 1) rfl rfl (by decide) ?_
      refine te_iadd (p2 := 93) (z := 4) rfl rfl (by decide) ?_
      refine te_istore (p2 := 95) (lv2 := [(5, .int 4), (4, .int g3), (3, .int 4), (2, .int 3), (0, .ref 164), (1, .int 5)]) rfl rfl (by decide) rfl ?_
      refine te_iload_n (p2 := 96) rfl rfl rfl ?_
      refine te_iconst (p2 := 97) (x := 1) rfl rfl (by decide) ?_
      refine te_isub (p2 := 98) (z := 4) rfl rfl (by decide) ?_
      refine te_istore (p2 := 100) (lv2 := [(6, .int 4), (5, .int 4), (4, .int g3), (3, .int 4), (2, .int 3), (0, .ref 164), (1, .int 5)]) rfl rfl (by decide) rfl ?_
      refine te_iload (p2 := 102) rfl rfl rfl ?_
      refine te_iload (p2 := 104) rfl rfl rfl ?_
      refine tb_ge (p2 := 107) rfl rfl (show Int32.toInt 4 = 4 from rfl) (show Int32.toInt 4 = 4 from rfl) (fun c18 => ?_) (fun c18 => absurd c18 (by omega))
      refine te_iconst (p2 := 149) (x := 1) rfl rfl (by decide) ?_
      exact te_zret rfl rfl (by decide) ⟨I15, f15, _, rfl, Or.inr ⟨rfl, (by rw [pq_xe5, on6_5, (pq_of (k := 0) hg0 : pq_n h 199 0 = g0.toInt.toNat), (pq_of (k := 1) hg1 : pq_n h 199 1 = g1.toInt.toNat), (pq_of (k := 2) hg2 : pq_n h 199 2 = g2.toInt.toNat), (pq_of (k := 3) hg3 : pq_n h 199 3 = g3.toInt.toNat), (pq_of (k := 4) hg4 : pq_n h 199 4 = g4.toInt.toNat), (pq_of (k := 0) ((u15.2 _ _ (Or.inr (by decide))).trans ((u14.2 _ _ (Or.inr (by decide))).trans hg0)) : pq_n h15 199 0 = g0.toInt.toNat), (pq_of (k := 1) ((u15.2 _ _ (Or.inr (by decide))).trans ((u14.2 _ _ (Or.inr (by decide))).trans hg1)) : pq_n h15 199 1 = g1.toInt.toNat), (pq_of (k := 2) ((u15.2 _ _ (Or.inr (by decide))).trans ((u14.2 _ _ (Or.inr (by decide))).trans hg2)) : pq_n h15 199 2 = g2.toInt.toNat), (pq_of (k := 3) ((u15.2 _ _ (Or.inr (by decide))).trans u14.1) : pq_n h15 199 3 = g4.toInt.toNat), (pq_of (k := 4) u15.1 : pq_n h15 199 4 = g3.toInt.toNat)]; unfold pq_x5; rw [if_neg (by omega), if_neg (by omega)]), g0, g1, g2, g4, g3, g5, ((u15.2 _ _ (Or.inr (by decide))).trans ((u14.2 _ _ (Or.inr (by decide))).trans hg0)), ((u15.2 _ _ (Or.inr (by decide))).trans ((u14.2 _ _ (Or.inr (by decide))).trans hg1)), ((u15.2 _ _ (Or.inr (by decide))).trans ((u14.2 _ _ (Or.inr (by decide))).trans hg2)), ((u15.2 _ _ (Or.inr (by decide))).trans u14.1), u15.1, ((u15.2 _ _ (Or.inr (by decide))).trans ((u14.2 _ _ (Or.inr (by decide))).trans hg5)), (by unfold prm; omega), (by unfold lexV; omega)⟩⟩
    · refine te_iinc (p2 := 59) (x := 4) (y := 3) (lv2 := [(3, .int 3), (2, .int 3), (0, .ref 164), (1, .int 5)]) rfl rfl (by decide) rfl (by decide) rfl ?_
      refine te_goto rfl ?_
      refine te_aload_n (p2 := 42) rfl rfl rfl ?_
      refine tg_r (p2 := 45) (i := 148) (r := 215) rfl rfl hI rfl rfl rfl ?_
      refine te_iload_n (p2 := 46) rfl rfl rfl ?_
      refine tl_e (p2 := 47) (i := 199) (n := 6) (t := 0) (Or.inl rfl) rfl rfl hI rfl rfl (by decide) (by decide) hg3 ?_
      refine te_aload_n (p2 := 48) rfl rfl rfl ?_
      refine tg_r (p2 := 51) (i := 148) (r := 215) rfl rfl hI rfl rfl rfl ?_
      refine te_iload_n (p2 := 52) rfl rfl rfl ?_
      refine tl_e (p2 := 53) (i := 199) (n := 6) (t := 0) (Or.inl rfl) rfl rfl hI rfl rfl (by decide) (by decide) hg3 ?_
      refine tb_ge (p2 := 56) rfl rfl rfl rfl (fun c22 => ?_) (fun c22 => absurd c22 (by omega))
      refine te_aload_n (p2 := 63) rfl rfl rfl ?_
      refine tg_r (p2 := 66) (i := 148) (r := 215) rfl rfl hI rfl rfl rfl ?_
      refine te_iload_n (p2 := 67) rfl rfl rfl ?_
      refine tl_e (p2 := 68) (i := 199) (n := 6) (t := 0) (Or.inl rfl) rfl rfl hI rfl rfl (by decide) (by decide) hg3 ?_
      refine te_istore (p2 := 70) (lv2 := [(4, .int g3), (3, .int 3), (2, .int 3), (0, .ref 164), (1, .int 5)]) rfl rfl (by decide) rfl ?_
      refine te_aload_n (p2 := 71) rfl rfl rfl ?_
      refine tg_r (p2 := 74) (i := 148) (r := 215) rfl rfl hI rfl rfl rfl ?_
      refine te_iload_n (p2 := 75) rfl rfl rfl ?_
      refine te_aload_n (p2 := 76) rfl rfl rfl ?_
      refine tg_r (p2 := 79) (i := 148) (r := 215) rfl rfl hI rfl rfl rfl ?_
      refine te_iload_n (p2 := 80) rfl rfl rfl ?_
      refine tl_e (p2 := 81) (i := 199) (n := 6) (t := 0) (Or.inl rfl) rfl rfl hI rfl rfl (by decide) (by decide) hg3 ?_
      refine ts_i (p2 := 82) (i := 199) (n := 6) rfl rfl hI rfl rfl rfl rfl (by decide) (by decide) (by omega) (by omega) (by omega) rfl (fun h25 I25 u25 => ?_)
      have f25 := fr_st (F := F_X12_nextOrder_5) 0 f0 u25 rfl (by decide) (by decide)
      refine te_aload_n (p2 := 83) rfl rfl rfl ?_
      refine tg_r (p2 := 86) (i := 148) (r := 215) rfl rfl I25 rfl rfl rfl ?_
      refine te_iload_n (p2 := 87) rfl rfl rfl ?_
      refine te_iload (p2 := 89) rfl rfl rfl ?_
      refine ts_i (p2 := 90) (i := 199) (n := 6) rfl rfl I25 rfl rfl rfl rfl (by decide) (by decide) (by omega) (by omega) (by omega) rfl (fun h26 I26 u26 => ?_)
      have f26 := fr_st (F := F_X12_nextOrder_5) 0 f25 u26 rfl (by decide) (by decide)
      refine te_iload_n (p2 := 91) rfl rfl rfl ?_
      refine te_iconst (p2 := 92) (x := 1) rfl rfl (by decide) ?_
      refine te_iadd (p2 := 93) (z := 4) rfl rfl (by decide) ?_
      refine te_istore (p2 := 95) (lv2 := [(5, .int 4), (4, .int g3), (3, .int 3), (2, .int 3), (0, .ref 164), (1, .int 5)]) rfl rfl (by decide) rfl ?_
      refine te_iload_n (p2 := 96) rfl rfl rfl ?_
      refine te_iconst (p2 := 97) (x := 1) rfl rfl (by decide) ?_
      refine te_isub (p2 := 98) (z := 4) rfl rfl (by decide) ?_
      refine te_istore (p2 := 100) (lv2 := [(6, .int 4), (5, .int 4), (4, .int g3), (3, .int 3), (2, .int 3), (0, .ref 164), (1, .int 5)]) rfl rfl (by decide) rfl ?_
      refine te_iload (p2 := 102) rfl rfl rfl ?_
      refine te_iload (p2 := 104) rfl rfl rfl ?_
      refine tb_ge (p2 := 107) rfl rfl (show Int32.toInt 4 = 4 from rfl) (show Int32.toInt 4 = 4 from rfl) (fun c29 => ?_) (fun c29 => absurd c29 (by omega))
      refine te_iconst (p2 := 149) (x := 1) rfl rfl (by decide) ?_
      exact te_zret rfl rfl (by decide) ⟨I26, f26, _, rfl, Or.inr ⟨rfl, (by rw [pq_xe5, on6_5, (pq_of (k := 0) hg0 : pq_n h 199 0 = g0.toInt.toNat), (pq_of (k := 1) hg1 : pq_n h 199 1 = g1.toInt.toNat), (pq_of (k := 2) hg2 : pq_n h 199 2 = g2.toInt.toNat), (pq_of (k := 3) hg3 : pq_n h 199 3 = g3.toInt.toNat), (pq_of (k := 4) hg4 : pq_n h 199 4 = g4.toInt.toNat), (pq_of (k := 0) ((u26.2 _ _ (Or.inr (by decide))).trans ((u25.2 _ _ (Or.inr (by decide))).trans hg0)) : pq_n h26 199 0 = g0.toInt.toNat), (pq_of (k := 1) ((u26.2 _ _ (Or.inr (by decide))).trans ((u25.2 _ _ (Or.inr (by decide))).trans hg1)) : pq_n h26 199 1 = g1.toInt.toNat), (pq_of (k := 2) ((u26.2 _ _ (Or.inr (by decide))).trans ((u25.2 _ _ (Or.inr (by decide))).trans hg2)) : pq_n h26 199 2 = g2.toInt.toNat), (pq_of (k := 3) u26.1 : pq_n h26 199 3 = g3.toInt.toNat), (pq_of (k := 4) ((u26.2 _ _ (Or.inr (by decide))).trans ((u25.2 _ _ (Or.inr (by decide))).trans hg4)) : pq_n h26 199 4 = g4.toInt.toNat)]; unfold pq_x5; rw [if_neg (by omega), if_pos (by omega)]), g0, g1, g2, g3, g4, g5, ((u26.2 _ _ (Or.inr (by decide))).trans ((u25.2 _ _ (Or.inr (by decide))).trans hg0)), ((u26.2 _ _ (Or.inr (by decide))).trans ((u25.2 _ _ (Or.inr (by decide))).trans hg1)), ((u26.2 _ _ (Or.inr (by decide))).trans ((u25.2 _ _ (Or.inr (by decide))).trans hg2)), u26.1, ((u26.2 _ _ (Or.inr (by decide))).trans ((u25.2 _ _ (Or.inr (by decide))).trans hg4)), ((u26.2 _ _ (Or.inr (by decide))).trans ((u25.2 _ _ (Or.inr (by decide))).trans hg5)), (by unfold prm; omega), (by unfold lexV; omega)⟩⟩
  · refine te_iinc (p2 := 28) (x := 3) (y := 2) (lv2 := [(2, .int 2), (0, .ref 164), (1, .int 5)]) rfl rfl (by decide) rfl (by decide) rfl ?_
    refine te_goto rfl ?_
    refine te_iload_n (p2 := 5) rfl rfl rfl ?_
    refine tz_lt (p2 := 8) rfl rfl (show Int32.toInt 2 = 2 from rfl) (fun c31 => absurd c31 (by omega)) (fun c31 => ?_)
    refine te_aload_n (p2 := 9) rfl rfl rfl ?_
    refine tg_r (p2 := 12) (i := 148) (r := 215) rfl rfl hI rfl rfl rfl ?_
    refine te_iload_n (p2 := 13) rfl rfl rfl ?_
    refine tl_e (p2 := 14) (i := 199) (n := 6) (t := 0) (Or.inl rfl) rfl rfl hI rfl rfl (by decide) (by decide) hg2 ?_
    refine te_aload_n (p2 := 15) rfl rfl rfl ?_
    refine tg_r (p2 := 18) (i := 148) (r := 215) rfl rfl hI rfl rfl rfl ?_
    refine te_iload_n (p2 := 19) rfl rfl rfl ?_
    refine te_iconst (p2 := 20) (x := 1) rfl rfl (by decide) ?_
    refine te_iadd (p2 := 21) (z := 3) rfl rfl (by decide) ?_
    refine tl_e (p2 := 22) (i := 199) (n := 6) (t := 0) (Or.inl rfl) rfl rfl hI rfl rfl (by decide) (by decide) hg3 ?_
    refine tb_le (p2 := 25) rfl rfl rfl rfl (fun c35 => ?_) (fun c35 => ?_)
    · refine te_iload_n (p2 := 32) rfl rfl rfl ?_
      refine tz_ge (p2 := 35) rfl rfl (show Int32.toInt 2 = 2 from rfl) (fun c36 => ?_) (fun c36 => absurd c36 (by omega))
      refine te_iload_n (p2 := 38) rfl rfl rfl ?_
      refine te_iconst (p2 := 39) (x := 1) rfl rfl (by decide) ?_
      refine te_isub (p2 := 40) (z := 4) rfl rfl (by decide) ?_
      refine te_istore_n (p2 := 41) (lv2 := [(3, .int 4), (2, .int 2), (0, .ref 164), (1, .int 5)]) rfl rfl (by decide) rfl ?_
      refine te_aload_n (p2 := 42) rfl rfl rfl ?_
      refine tg_r (p2 := 45) (i := 148) (r := 215) rfl rfl hI rfl rfl rfl ?_
      refine te_iload_n (p2 := 46) rfl rfl rfl ?_
      refine tl_e (p2 := 47) (i := 199) (n := 6) (t := 0) (Or.inl rfl) rfl rfl hI rfl rfl (by decide) (by decide) hg4 ?_
      refine te_aload_n (p2 := 48) rfl rfl rfl ?_
      refine tg_r (p2 := 51) (i := 148) (r := 215) rfl rfl hI rfl rfl rfl ?_
      refine te_iload_n (p2 := 52) rfl rfl rfl ?_
      refine tl_e (p2 := 53) (i := 199) (n := 6) (t := 0) (Or.inl rfl) rfl rfl hI rfl rfl (by decide) (by decide) hg2 ?_
      refine tb_ge (p2 := 56) rfl rfl rfl rfl (fun c40 => ?_) (fun c40 => ?_)
      · refine te_aload_n (p2 := 63) rfl rfl rfl ?_
        refine tg_r (p2 := 66) (i := 148) (r := 215) rfl rfl hI rfl rfl rfl ?_
        refine te_iload_n (p2 := 67) rfl rfl rfl ?_
        refine tl_e (p2 := 68) (i := 199) (n := 6) (t := 0) (Or.inl rfl) rfl rfl hI rfl rfl (by decide) (by decide) hg2 ?_
        refine te_istore (p2 := 70) (lv2 := [(4, .int g2), (3, .int 4), (2, .int 2), (0, .ref 164), (1, .int 5)]) rfl rfl (by decide) rfl ?_
        refine te_aload_n (p2 := 71) rfl rfl rfl ?_
        refine tg_r (p2 := 74) (i := 148) (r := 215) rfl rfl hI rfl rfl rfl ?_
        refine te_iload_n (p2 := 75) rfl rfl rfl ?_
        refine te_aload_n (p2 := 76) rfl rfl rfl ?_
        refine tg_r (p2 := 79) (i := 148) (r := 215) rfl rfl hI rfl rfl rfl ?_
        refine te_iload_n (p2 := 80) rfl rfl rfl ?_
        refine tl_e (p2 := 81) (i := 199) (n := 6) (t := 0) (Or.inl rfl) rfl rfl hI rfl rfl (by decide) (by decide) hg4 ?_
        refine ts_i (p2 := 82) (i := 199) (n := 6) rfl rfl hI rfl rfl rfl rfl (by decide) (by decide) (by omega) (by omega) (by omega) rfl (fun h43 I43 u43 => ?_)
        have f43 := fr_st (F := F_X12_nextOrder_5) 0 f0 u43 rfl (by decide) (by decide)
        refine te_aload_n (p2 := 83) rfl rfl rfl ?_
        refine tg_r (p2 := 86) (i := 148) (r := 215) rfl rfl I43 rfl rfl rfl ?_
        refine te_iload_n (p2 := 87) rfl rfl rfl ?_
        refine te_iload (p2 := 89) rfl rfl rfl ?_
        refine ts_i (p2 := 90) (i := 199) (n := 6) rfl rfl I43 rfl rfl rfl rfl (by decide) (by decide) (by omega) (by omega) (by omega) rfl (fun h44 I44 u44 => ?_)
        have f44 := fr_st (F := F_X12_nextOrder_5) 0 f43 u44 rfl (by decide) (by decide)
        refine te_iload_n (p2 := 91) rfl rfl rfl ?_
        refine te_iconst (p2 := 92) (x := 1) rfl rfl (by decide) ?_
        refine te_iadd (p2 := 93) (z := 3) rfl rfl (by decide) ?_
        refine te_istore (p2 := 95) (lv2 := [(5, .int 3), (4, .int g2), (3, .int 4), (2, .int 2), (0, .ref 164), (1, .int 5)]) rfl rfl (by decide) rfl ?_
        refine te_iload_n (p2 := 96) rfl rfl rfl ?_
        refine te_iconst (p2 := 97) (x := 1) rfl rfl (by decide) ?_
        refine te_isub (p2 := 98) (z := 4) rfl rfl (by decide) ?_
        refine te_istore (p2 := 100) (lv2 := [(6, .int 4), (5, .int 3), (4, .int g2), (3, .int 4), (2, .int 2), (0, .ref 164), (1, .int 5)]) rfl rfl (by decide) rfl ?_
        refine te_iload (p2 := 102) rfl rfl rfl ?_
        refine te_iload (p2 := 104) rfl rfl rfl ?_
        refine tb_ge (p2 := 107) rfl rfl (show Int32.toInt 3 = 3 from rfl) (show Int32.toInt 4 = 4 from rfl) (fun c47 => absurd c47 (by omega)) (fun c47 => ?_)
        refine te_aload_n (p2 := 108) rfl rfl rfl ?_
        refine tg_r (p2 := 111) (i := 148) (r := 215) rfl rfl I44 rfl rfl rfl ?_
        refine te_iload (p2 := 113) rfl rfl rfl ?_
        refine tl_e (p2 := 114) (i := 199) (n := 6) (t := 0) (Or.inl rfl) rfl rfl I44 rfl rfl (by decide) (by decide) ((u44.2 _ _ (Or.inr (by decide))).trans ((u43.2 _ _ (Or.inr (by decide))).trans hg3)) ?_
        refine te_istore (p2 := 116) (lv2 := [(7, .int g3), (6, .int 4), (5, .int 3), (4, .int g2), (3, .int 4), (2, .int 2), (0, .ref 164), (1, .int 5)]) rfl rfl (by decide) rfl ?_
        refine te_aload_n (p2 := 117) rfl rfl rfl ?_
        refine tg_r (p2 := 120) (i := 148) (r := 215) rfl rfl I44 rfl rfl rfl ?_
        refine te_iload (p2 := 122) rfl rfl rfl ?_
        refine te_aload_n (p2 := 123) rfl rfl rfl ?_
        refine tg_r (p2 := 126) (i := 148) (r := 215) rfl rfl I44 rfl rfl rfl ?_
        refine te_iload (p2 := 128) rfl rfl rfl ?_
        refine tl_e (p2 := 129) (i := 199) (n := 6) (t := 0) (Or.inl rfl) rfl rfl I44 rfl rfl (by decide) (by decide) u44.1 ?_
        refine ts_i (p2 := 130) (i := 199) (n := 6) rfl rfl I44 rfl rfl rfl rfl (by decide) (by decide) (by omega) (by omega) (by omega) rfl (fun h50 I50 u50 => ?_)
        have f50 := fr_st (F := F_X12_nextOrder_5) 0 f44 u50 rfl (by decide) (by decide)
        refine te_aload_n (p2 := 131) rfl rfl rfl ?_
        refine tg_r (p2 := 134) (i := 148) (r := 215) rfl rfl I50 rfl rfl rfl ?_
        refine te_iload (p2 := 136) rfl rfl rfl ?_
        refine te_iload (p2 := 138) rfl rfl rfl ?_
        refine ts_i (p2 := 139) (i := 199) (n := 6) rfl rfl I50 rfl rfl rfl rfl (by decide) (by decide) (by omega) (by omega) (by omega) rfl (fun h51 I51 u51 => ?_)
        have f51 := fr_st (F := F_X12_nextOrder_5) 0 f50 u51 rfl (by decide) (by decide)
        refine te_iinc (p2 := 142) (x := 4) (y := 3) (lv2 := [(6, .int 3), (7, .int g3), (5, .int 3), (4, .int g2), (3, .int 4), (2, .int 2), (0, .ref 164), (1, .int 5)]) rfl rfl (by decide) rfl (by decide) rfl ?_
        refine te_iinc (p2 := 145) (x := 3) (y := 4) (lv2 := [(5, .int 4), (6, .int 3), (7, .int g3), (4, .int g2), (3, .int 4), (2, .int 2), (0, .ref 164), (1, .int 5)]) rfl rfl (by decide) rfl (by decide) rfl ?_
        refine te_goto rfl ?_
        refine te_iload (p2 := 102) rfl rfl rfl ?_
        refine te_iload (p2 := 104) rfl rfl rfl ?_
        refine tb_ge (p2 := 107) rfl rfl (show Int32.toInt 4 = 4 from rfl) (show Int32.toInt 3 = 3 from rfl) (fun c54 => ?_) (fun c54 => absurd c54 (by omega))
        refine te_iconst (p2 := 149) (x := 1) rfl rfl (by decide) ?_
        exact te_zret rfl rfl (by decide) ⟨I51, f51, _, rfl, Or.inr ⟨rfl, (by rw [pq_xe5, on6_5, (pq_of (k := 0) hg0 : pq_n h 199 0 = g0.toInt.toNat), (pq_of (k := 1) hg1 : pq_n h 199 1 = g1.toInt.toNat), (pq_of (k := 2) hg2 : pq_n h 199 2 = g2.toInt.toNat), (pq_of (k := 3) hg3 : pq_n h 199 3 = g3.toInt.toNat), (pq_of (k := 4) hg4 : pq_n h 199 4 = g4.toInt.toNat), (pq_of (k := 0) ((u51.2 _ _ (Or.inr (by decide))).trans ((u50.2 _ _ (Or.inr (by decide))).trans ((u44.2 _ _ (Or.inr (by decide))).trans ((u43.2 _ _ (Or.inr (by decide))).trans hg0)))) : pq_n h51 199 0 = g0.toInt.toNat), (pq_of (k := 1) ((u51.2 _ _ (Or.inr (by decide))).trans ((u50.2 _ _ (Or.inr (by decide))).trans ((u44.2 _ _ (Or.inr (by decide))).trans ((u43.2 _ _ (Or.inr (by decide))).trans hg1)))) : pq_n h51 199 1 = g1.toInt.toNat), (pq_of (k := 2) ((u51.2 _ _ (Or.inr (by decide))).trans ((u50.2 _ _ (Or.inr (by decide))).trans ((u44.2 _ _ (Or.inr (by decide))).trans u43.1))) : pq_n h51 199 2 = g4.toInt.toNat), (pq_of (k := 3) ((u51.2 _ _ (Or.inr (by decide))).trans u50.1) : pq_n h51 199 3 = g2.toInt.toNat), (pq_of (k := 4) u51.1 : pq_n h51 199 4 = g3.toInt.toNat)]; unfold pq_x5; rw [if_pos (by omega), if_neg (by omega), if_neg (by omega)]), g0, g1, g4, g2, g3, g5, ((u51.2 _ _ (Or.inr (by decide))).trans ((u50.2 _ _ (Or.inr (by decide))).trans ((u44.2 _ _ (Or.inr (by decide))).trans ((u43.2 _ _ (Or.inr (by decide))).trans hg0)))), ((u51.2 _ _ (Or.inr (by decide))).trans ((u50.2 _ _ (Or.inr (by decide))).trans ((u44.2 _ _ (Or.inr (by decide))).trans ((u43.2 _ _ (Or.inr (by decide))).trans hg1)))), ((u51.2 _ _ (Or.inr (by decide))).trans ((u50.2 _ _ (Or.inr (by decide))).trans ((u44.2 _ _ (Or.inr (by decide))).trans u43.1))), ((u51.2 _ _ (Or.inr (by decide))).trans u50.1), u51.1, ((u51.2 _ _ (Or.inr (by decide))).trans ((u50.2 _ _ (Or.inr (by decide))).trans ((u44.2 _ _ (Or.inr (by decide))).trans ((u43.2 _ _ (Or.inr (by decide))).trans hg5)))), (by unfold prm; omega), (by unfold lexV; omega)⟩⟩
      · refine te_iinc (p2 := 59) (x := 4) (y := 3) (lv2 := [(3, .int 3), (2, .int 2), (0, .ref 164), (1, .int 5)]) rfl rfl (by decide) rfl (by decide) rfl ?_
        refine te_goto rfl ?_
        refine te_aload_n (p2 := 42) rfl rfl rfl ?_
        refine tg_r (p2 := 45) (i := 148) (r := 215) rfl rfl hI rfl rfl rfl ?_
        refine te_iload_n (p2 := 46) rfl rfl rfl ?_
        refine tl_e (p2 := 47) (i := 199) (n := 6) (t := 0) (Or.inl rfl) rfl rfl hI rfl rfl (by decide) (by decide) hg3 ?_
        refine te_aload_n (p2 := 48) rfl rfl rfl ?_
        refine tg_r (p2 := 51) (i := 148) (r := 215) rfl rfl hI rfl rfl rfl ?_
        refine te_iload_n (p2 := 52) rfl rfl rfl ?_
        refine tl_e (p2 := 53) (i := 199) (n := 6) (t := 0) (Or.inl rfl) rfl rfl hI rfl rfl (by decide) (by decide) hg2 ?_
        refine tb_ge (p2 := 56) rfl rfl rfl rfl (fun c58 => ?_) (fun c58 => ?_)
        · refine te_aload_n (p2 := 63) rfl rfl rfl ?_
          refine tg_r (p2 := 66) (i := 148) (r := 215) rfl rfl hI rfl rfl rfl ?_
          refine te_iload_n (p2 := 67) rfl rfl rfl ?_
          refine tl_e (p2 := 68) (i := 199) (n := 6) (t := 0) (Or.inl rfl) rfl rfl hI rfl rfl (by decide) (by decide) hg2 ?_
          refine te_istore (p2 := 70) (lv2 := [(4, .int g2), (3, .int 3), (2, .int 2), (0, .ref 164), (1, .int 5)]) rfl rfl (by decide) rfl ?_
          refine te_aload_n (p2 := 71) rfl rfl rfl ?_
          refine tg_r (p2 := 74) (i := 148) (r := 215) rfl rfl hI rfl rfl rfl ?_
          refine te_iload_n (p2 := 75) rfl rfl rfl ?_
          refine te_aload_n (p2 := 76) rfl rfl rfl ?_
          refine tg_r (p2 := 79) (i := 148) (r := 215) rfl rfl hI rfl rfl rfl ?_
          refine te_iload_n (p2 := 80) rfl rfl rfl ?_
          refine tl_e (p2 := 81) (i := 199) (n := 6) (t := 0) (Or.inl rfl) rfl rfl hI rfl rfl (by decide) (by decide) hg3 ?_
          refine ts_i (p2 := 82) (i := 199) (n := 6) rfl rfl hI rfl rfl rfl rfl (by decide) (by decide) (by omega) (by omega) (by omega) rfl (fun h61 I61 u61 => ?_)
          have f61 := fr_st (F := F_X12_nextOrder_5) 0 f0 u61 rfl (by decide) (by decide)
          refine te_aload_n (p2 := 83) rfl rfl rfl ?_
          refine tg_r (p2 := 86) (i := 148) (r := 215) rfl rfl I61 rfl rfl rfl ?_
          refine te_iload_n (p2 := 87) rfl rfl rfl ?_
          refine te_iload (p2 := 89) rfl rfl rfl ?_
          refine ts_i (p2 := 90) (i := 199) (n := 6) rfl rfl I61 rfl rfl rfl rfl (by decide) (by decide) (by omega) (by omega) (by omega) rfl (fun h62 I62 u62 => ?_)
          have f62 := fr_st (F := F_X12_nextOrder_5) 0 f61 u62 rfl (by decide) (by decide)
          refine te_iload_n (p2 := 91) rfl rfl rfl ?_
          refine te_iconst (p2 := 92) (x := 1) rfl rfl (by decide) ?_
          refine te_iadd (p2 := 93) (z := 3) rfl rfl (by decide) ?_
          refine te_istore (p2 := 95) (lv2 := [(5, .int 3), (4, .int g2), (3, .int 3), (2, .int 2), (0, .ref 164), (1, .int 5)]) rfl rfl (by decide) rfl ?_
          refine te_iload_n (p2 := 96) rfl rfl rfl ?_
          refine te_iconst (p2 := 97) (x := 1) rfl rfl (by decide) ?_
          refine te_isub (p2 := 98) (z := 4) rfl rfl (by decide) ?_
          refine te_istore (p2 := 100) (lv2 := [(6, .int 4), (5, .int 3), (4, .int g2), (3, .int 3), (2, .int 2), (0, .ref 164), (1, .int 5)]) rfl rfl (by decide) rfl ?_
          refine te_iload (p2 := 102) rfl rfl rfl ?_
          refine te_iload (p2 := 104) rfl rfl rfl ?_
          refine tb_ge (p2 := 107) rfl rfl (show Int32.toInt 3 = 3 from rfl) (show Int32.toInt 4 = 4 from rfl) (fun c65 => absurd c65 (by omega)) (fun c65 => ?_)
          refine te_aload_n (p2 := 108) rfl rfl rfl ?_
          refine tg_r (p2 := 111) (i := 148) (r := 215) rfl rfl I62 rfl rfl rfl ?_
          refine te_iload (p2 := 113) rfl rfl rfl ?_
          refine tl_e (p2 := 114) (i := 199) (n := 6) (t := 0) (Or.inl rfl) rfl rfl I62 rfl rfl (by decide) (by decide) u62.1 ?_
          refine te_istore (p2 := 116) (lv2 := [(7, .int g2), (6, .int 4), (5, .int 3), (4, .int g2), (3, .int 3), (2, .int 2), (0, .ref 164), (1, .int 5)]) rfl rfl (by decide) rfl ?_
          refine te_aload_n (p2 := 117) rfl rfl rfl ?_
          refine tg_r (p2 := 120) (i := 148) (r := 215) rfl rfl I62 rfl rfl rfl ?_
          refine te_iload (p2 := 122) rfl rfl rfl ?_
          refine te_aload_n (p2 := 123) rfl rfl rfl ?_
          refine tg_r (p2 := 126) (i := 148) (r := 215) rfl rfl I62 rfl rfl rfl ?_
          refine te_iload (p2 := 128) rfl rfl rfl ?_
          refine tl_e (p2 := 129) (i := 199) (n := 6) (t := 0) (Or.inl rfl) rfl rfl I62 rfl rfl (by decide) (by decide) ((u62.2 _ _ (Or.inr (by decide))).trans ((u61.2 _ _ (Or.inr (by decide))).trans hg4)) ?_
          refine ts_i (p2 := 130) (i := 199) (n := 6) rfl rfl I62 rfl rfl rfl rfl (by decide) (by decide) (by omega) (by omega) (by omega) rfl (fun h68 I68 u68 => ?_)
          have f68 := fr_st (F := F_X12_nextOrder_5) 0 f62 u68 rfl (by decide) (by decide)
          refine te_aload_n (p2 := 131) rfl rfl rfl ?_
          refine tg_r (p2 := 134) (i := 148) (r := 215) rfl rfl I68 rfl rfl rfl ?_
          refine te_iload (p2 := 136) rfl rfl rfl ?_
          refine te_iload (p2 := 138) rfl rfl rfl ?_
          refine ts_i (p2 := 139) (i := 199) (n := 6) rfl rfl I68 rfl rfl rfl rfl (by decide) (by decide) (by omega) (by omega) (by omega) rfl (fun h69 I69 u69 => ?_)
          have f69 := fr_st (F := F_X12_nextOrder_5) 0 f68 u69 rfl (by decide) (by decide)
          refine te_iinc (p2 := 142) (x := 4) (y := 3) (lv2 := [(6, .int 3), (7, .int g2), (5, .int 3), (4, .int g2), (3, .int 3), (2, .int 2), (0, .ref 164), (1, .int 5)]) rfl rfl (by decide) rfl (by decide) rfl ?_
          refine te_iinc (p2 := 145) (x := 3) (y := 4) (lv2 := [(5, .int 4), (6, .int 3), (7, .int g2), (4, .int g2), (3, .int 3), (2, .int 2), (0, .ref 164), (1, .int 5)]) rfl rfl (by decide) rfl (by decide) rfl ?_
          refine te_goto rfl ?_
          refine te_iload (p2 := 102) rfl rfl rfl ?_
          refine te_iload (p2 := 104) rfl rfl rfl ?_
          refine tb_ge (p2 := 107) rfl rfl (show Int32.toInt 4 = 4 from rfl) (show Int32.toInt 3 = 3 from rfl) (fun c72 => ?_) (fun c72 => absurd c72 (by omega))
          refine te_iconst (p2 := 149) (x := 1) rfl rfl (by decide) ?_
          exact te_zret rfl rfl (by decide) ⟨I69, f69, _, rfl, Or.inr ⟨rfl, (by rw [pq_xe5, on6_5, (pq_of (k := 0) hg0 : pq_n h 199 0 = g0.toInt.toNat), (pq_of (k := 1) hg1 : pq_n h 199 1 = g1.toInt.toNat), (pq_of (k := 2) hg2 : pq_n h 199 2 = g2.toInt.toNat), (pq_of (k := 3) hg3 : pq_n h 199 3 = g3.toInt.toNat), (pq_of (k := 4) hg4 : pq_n h 199 4 = g4.toInt.toNat), (pq_of (k := 0) ((u69.2 _ _ (Or.inr (by decide))).trans ((u68.2 _ _ (Or.inr (by decide))).trans ((u62.2 _ _ (Or.inr (by decide))).trans ((u61.2 _ _ (Or.inr (by decide))).trans hg0)))) : pq_n h69 199 0 = g0.toInt.toNat), (pq_of (k := 1) ((u69.2 _ _ (Or.inr (by decide))).trans ((u68.2 _ _ (Or.inr (by decide))).trans ((u62.2 _ _ (Or.inr (by decide))).trans ((u61.2 _ _ (Or.inr (by decide))).trans hg1)))) : pq_n h69 199 1 = g1.toInt.toNat), (pq_of (k := 2) ((u69.2 _ _ (Or.inr (by decide))).trans ((u68.2 _ _ (Or.inr (by decide))).trans ((u62.2 _ _ (Or.inr (by decide))).trans u61.1))) : pq_n h69 199 2 = g3.toInt.toNat), (pq_of (k := 3) ((u69.2 _ _ (Or.inr (by decide))).trans u68.1) : pq_n h69 199 3 = g4.toInt.toNat), (pq_of (k := 4) u69.1 : pq_n h69 199 4 = g2.toInt.toNat)]; unfold pq_x5; rw [if_pos (by omega), if_neg (by omega), if_pos (by omega), if_neg (by omega)]), g0, g1, g3, g4, g2, g5, ((u69.2 _ _ (Or.inr (by decide))).trans ((u68.2 _ _ (Or.inr (by decide))).trans ((u62.2 _ _ (Or.inr (by decide))).trans ((u61.2 _ _ (Or.inr (by decide))).trans hg0)))), ((u69.2 _ _ (Or.inr (by decide))).trans ((u68.2 _ _ (Or.inr (by decide))).trans ((u62.2 _ _ (Or.inr (by decide))).trans ((u61.2 _ _ (Or.inr (by decide))).trans hg1)))), ((u69.2 _ _ (Or.inr (by decide))).trans ((u68.2 _ _ (Or.inr (by decide))).trans ((u62.2 _ _ (Or.inr (by decide))).trans u61.1))), ((u69.2 _ _ (Or.inr (by decide))).trans u68.1), u69.1, ((u69.2 _ _ (Or.inr (by decide))).trans ((u68.2 _ _ (Or.inr (by decide))).trans ((u62.2 _ _ (Or.inr (by decide))).trans ((u61.2 _ _ (Or.inr (by decide))).trans hg5)))), (by unfold prm; omega), (by unfold lexV; omega)⟩⟩
        · refine te_iinc (p2 := 59) (x := 3) (y := 2) (lv2 := [(3, .int 2), (2, .int 2), (0, .ref 164), (1, .int 5)]) rfl rfl (by decide) rfl (by decide) rfl ?_
          refine te_goto rfl ?_
          refine te_aload_n (p2 := 42) rfl rfl rfl ?_
          refine tg_r (p2 := 45) (i := 148) (r := 215) rfl rfl hI rfl rfl rfl ?_
          refine te_iload_n (p2 := 46) rfl rfl rfl ?_
          refine tl_e (p2 := 47) (i := 199) (n := 6) (t := 0) (Or.inl rfl) rfl rfl hI rfl rfl (by decide) (by decide) hg2 ?_
          refine te_aload_n (p2 := 48) rfl rfl rfl ?_
          refine tg_r (p2 := 51) (i := 148) (r := 215) rfl rfl hI rfl rfl rfl ?_
          refine te_iload_n (p2 := 52) rfl rfl rfl ?_
          refine tl_e (p2 := 53) (i := 199) (n := 6) (t := 0) (Or.inl rfl) rfl rfl hI rfl rfl (by decide) (by decide) hg2 ?_
          refine tb_ge (p2 := 56) rfl rfl rfl rfl (fun c76 => ?_) (fun c76 => absurd c76 (by omega))
          refine te_aload_n (p2 := 63) rfl rfl rfl ?_
          refine tg_r (p2 := 66) (i := 148) (r := 215) rfl rfl hI rfl rfl rfl ?_
          refine te_iload_n (p2 := 67) rfl rfl rfl ?_
          refine tl_e (p2 := 68) (i := 199) (n := 6) (t := 0) (Or.inl rfl) rfl rfl hI rfl rfl (by decide) (by decide) hg2 ?_
          refine te_istore (p2 := 70) (lv2 := [(4, .int g2), (3, .int 2), (2, .int 2), (0, .ref 164), (1, .int 5)]) rfl rfl (by decide) rfl ?_
          refine te_aload_n (p2 := 71) rfl rfl rfl ?_
          refine tg_r (p2 := 74) (i := 148) (r := 215) rfl rfl hI rfl rfl rfl ?_
          refine te_iload_n (p2 := 75) rfl rfl rfl ?_
          refine te_aload_n (p2 := 76) rfl rfl rfl ?_
          refine tg_r (p2 := 79) (i := 148) (r := 215) rfl rfl hI rfl rfl rfl ?_
          refine te_iload_n (p2 := 80) rfl rfl rfl ?_
          refine tl_e (p2 := 81) (i := 199) (n := 6) (t := 0) (Or.inl rfl) rfl rfl hI rfl rfl (by decide) (by decide) hg2 ?_
          refine ts_i (p2 := 82) (i := 199) (n := 6) rfl rfl hI rfl rfl rfl rfl (by decide) (by decide) (by omega) (by omega) (by omega) rfl (fun h79 I79 u79 => ?_)
          have f79 := fr_st (F := F_X12_nextOrder_5) 0 f0 u79 rfl (by decide) (by decide)
          refine te_aload_n (p2 := 83) rfl rfl rfl ?_
          refine tg_r (p2 := 86) (i := 148) (r := 215) rfl rfl I79 rfl rfl rfl ?_
          refine te_iload_n (p2 := 87) rfl rfl rfl ?_
          refine te_iload (p2 := 89) rfl rfl rfl ?_
          refine ts_i (p2 := 90) (i := 199) (n := 6) rfl rfl I79 rfl rfl rfl rfl (by decide) (by decide) (by omega) (by omega) (by omega) rfl (fun h80 I80 u80 => ?_)
          have f80 := fr_st (F := F_X12_nextOrder_5) 0 f79 u80 rfl (by decide) (by decide)
          refine te_iload_n (p2 := 91) rfl rfl rfl ?_
          refine te_iconst (p2 := 92) (x := 1) rfl rfl (by decide) ?_
          refine te_iadd (p2 := 93) (z := 3) rfl rfl (by decide) ?_
          refine te_istore (p2 := 95) (lv2 := [(5, .int 3), (4, .int g2), (3, .int 2), (2, .int 2), (0, .ref 164), (1, .int 5)]) rfl rfl (by decide) rfl ?_
          refine te_iload_n (p2 := 96) rfl rfl rfl ?_
          refine te_iconst (p2 := 97) (x := 1) rfl rfl (by decide) ?_
          refine te_isub (p2 := 98) (z := 4) rfl rfl (by decide) ?_
          refine te_istore (p2 := 100) (lv2 := [(6, .int 4), (5, .int 3), (4, .int g2), (3, .int 2), (2, .int 2), (0, .ref 164), (1, .int 5)]) rfl rfl (by decide) rfl ?_
          refine te_iload (p2 := 102) rfl rfl rfl ?_
          refine te_iload (p2 := 104) rfl rfl rfl ?_
          refine tb_ge (p2 := 107) rfl rfl (show Int32.toInt 3 = 3 from rfl) (show Int32.toInt 4 = 4 from rfl) (fun c83 => absurd c83 (by omega)) (fun c83 => ?_)
          refine te_aload_n (p2 := 108) rfl rfl rfl ?_
          refine tg_r (p2 := 111) (i := 148) (r := 215) rfl rfl I80 rfl rfl rfl ?_
          refine te_iload (p2 := 113) rfl rfl rfl ?_
          refine tl_e (p2 := 114) (i := 199) (n := 6) (t := 0) (Or.inl rfl) rfl rfl I80 rfl rfl (by decide) (by decide) ((u80.2 _ _ (Or.inr (by decide))).trans ((u79.2 _ _ (Or.inr (by decide))).trans hg3)) ?_
          refine te_istore (p2 := 116) (lv2 := [(7, .int g3), (6, .int 4), (5, .int 3), (4, .int g2), (3, .int 2), (2, .int 2), (0, .ref 164), (1, .int 5)]) rfl rfl (by decide) rfl ?_
          refine te_aload_n (p2 := 117) rfl rfl rfl ?_
          refine tg_r (p2 := 120) (i := 148) (r := 215) rfl rfl I80 rfl rfl rfl ?_
          refine te_iload (p2 := 122) rfl rfl rfl ?_
          refine te_aload_n (p2 := 123) rfl rfl rfl ?_
          refine tg_r (p2 := 126) (i := 148) (r := 215) rfl rfl I80 rfl rfl rfl ?_
          refine te_iload (p2 := 128) rfl rfl rfl ?_
          refine tl_e (p2 := 129) (i := 199) (n := 6) (t := 0) (Or.inl rfl) rfl rfl I80 rfl rfl (by decide) (by decide) ((u80.2 _ _ (Or.inr (by decide))).trans ((u79.2 _ _ (Or.inr (by decide))).trans hg4)) ?_
          refine ts_i (p2 := 130) (i := 199) (n := 6) rfl rfl I80 rfl rfl rfl rfl (by decide) (by decide) (by omega) (by omega) (by omega) rfl (fun h86 I86 u86 => ?_)
          have f86 := fr_st (F := F_X12_nextOrder_5) 0 f80 u86 rfl (by decide) (by decide)
          refine te_aload_n (p2 := 131) rfl rfl rfl ?_
          refine tg_r (p2 := 134) (i := 148) (r := 215) rfl rfl I86 rfl rfl rfl ?_
          refine te_iload (p2 := 136) rfl rfl rfl ?_
          refine te_iload (p2 := 138) rfl rfl rfl ?_
          refine ts_i (p2 := 139) (i := 199) (n := 6) rfl rfl I86 rfl rfl rfl rfl (by decide) (by decide) (by omega) (by omega) (by omega) rfl (fun h87 I87 u87 => ?_)
          have f87 := fr_st (F := F_X12_nextOrder_5) 0 f86 u87 rfl (by decide) (by decide)
          refine te_iinc (p2 := 142) (x := 4) (y := 3) (lv2 := [(6, .int 3), (7, .int g3), (5, .int 3), (4, .int g2), (3, .int 2), (2, .int 2), (0, .ref 164), (1, .int 5)]) rfl rfl (by decide) rfl (by decide) rfl ?_
          refine te_iinc (p2 := 145) (x := 3) (y := 4) (lv2 := [(5, .int 4), (6, .int 3), (7, .int g3), (4, .int g2), (3, .int 2), (2, .int 2), (0, .ref 164), (1, .int 5)]) rfl rfl (by decide) rfl (by decide) rfl ?_
          refine te_goto rfl ?_
          refine te_iload (p2 := 102) rfl rfl rfl ?_
          refine te_iload (p2 := 104) rfl rfl rfl ?_
          refine tb_ge (p2 := 107) rfl rfl (show Int32.toInt 4 = 4 from rfl) (show Int32.toInt 3 = 3 from rfl) (fun c90 => ?_) (fun c90 => absurd c90 (by omega))
          refine te_iconst (p2 := 149) (x := 1) rfl rfl (by decide) ?_
          exact te_zret rfl rfl (by decide) ⟨I87, f87, _, rfl, Or.inr ⟨rfl, (by rw [pq_xe5, on6_5, (pq_of (k := 0) hg0 : pq_n h 199 0 = g0.toInt.toNat), (pq_of (k := 1) hg1 : pq_n h 199 1 = g1.toInt.toNat), (pq_of (k := 2) hg2 : pq_n h 199 2 = g2.toInt.toNat), (pq_of (k := 3) hg3 : pq_n h 199 3 = g3.toInt.toNat), (pq_of (k := 4) hg4 : pq_n h 199 4 = g4.toInt.toNat), (pq_of (k := 0) ((u87.2 _ _ (Or.inr (by decide))).trans ((u86.2 _ _ (Or.inr (by decide))).trans ((u80.2 _ _ (Or.inr (by decide))).trans ((u79.2 _ _ (Or.inr (by decide))).trans hg0)))) : pq_n h87 199 0 = g0.toInt.toNat), (pq_of (k := 1) ((u87.2 _ _ (Or.inr (by decide))).trans ((u86.2 _ _ (Or.inr (by decide))).trans ((u80.2 _ _ (Or.inr (by decide))).trans ((u79.2 _ _ (Or.inr (by decide))).trans hg1)))) : pq_n h87 199 1 = g1.toInt.toNat), (pq_of (k := 2) ((u87.2 _ _ (Or.inr (by decide))).trans ((u86.2 _ _ (Or.inr (by decide))).trans u80.1)) : pq_n h87 199 2 = g2.toInt.toNat), (pq_of (k := 3) ((u87.2 _ _ (Or.inr (by decide))).trans u86.1) : pq_n h87 199 3 = g4.toInt.toNat), (pq_of (k := 4) u87.1 : pq_n h87 199 4 = g3.toInt.toNat)]; unfold pq_x5; rw [if_pos (by omega), if_neg (by omega), if_pos (by omega), if_pos (by omega)]), g0, g1, g2, g4, g3, g5, ((u87.2 _ _ (Or.inr (by decide))).trans ((u86.2 _ _ (Or.inr (by decide))).trans ((u80.2 _ _ (Or.inr (by decide))).trans ((u79.2 _ _ (Or.inr (by decide))).trans hg0)))), ((u87.2 _ _ (Or.inr (by decide))).trans ((u86.2 _ _ (Or.inr (by decide))).trans ((u80.2 _ _ (Or.inr (by decide))).trans ((u79.2 _ _ (Or.inr (by decide))).trans hg1)))), ((u87.2 _ _ (Or.inr (by decide))).trans ((u86.2 _ _ (Or.inr (by decide))).trans u80.1)), ((u87.2 _ _ (Or.inr (by decide))).trans u86.1), u87.1, ((u87.2 _ _ (Or.inr (by decide))).trans ((u86.2 _ _ (Or.inr (by decide))).trans ((u80.2 _ _ (Or.inr (by decide))).trans ((u79.2 _ _ (Or.inr (by decide))).trans hg5)))), (by unfold prm; omega), (by unfold lexV; omega)⟩⟩
    · refine te_iinc (p2 := 28) (x := 2) (y := 1) (lv2 := [(2, .int 1), (0, .ref 164), (1, .int 5)]) rfl rfl (by decide) rfl (by decide) rfl ?_
      refine te_goto rfl ?_
      refine te_iload_n (p2 := 5) rfl rfl rfl ?_
      refine tz_lt (p2 := 8) rfl rfl (show Int32.toInt 1 = 1 from rfl) (fun c92 => absurd c92 (by omega)) (fun c92 => ?_)
      refine te_aload_n (p2 := 9) rfl rfl rfl ?_
      refine tg_r (p2 := 12) (i := 148) (r := 215) rfl rfl hI rfl rfl rfl ?_
      refine te_iload_n (p2 := 13) rfl rfl rfl ?_
      refine tl_e (p2 := 14) (i := 199) (n := 6) (t := 0) (Or.inl rfl) rfl rfl hI rfl rfl (by decide) (by decide) hg1 ?_
      refine te_aload_n (p2 := 15) rfl rfl rfl ?_
      refine tg_r (p2 := 18) (i := 148) (r := 215) rfl rfl hI rfl rfl rfl ?_
      refine te_iload_n (p2 := 19) rfl rfl rfl ?_
      refine te_iconst (p2 := 20) (x := 1) rfl rfl (by decide) ?_
      refine te_iadd (p2 := 21) (z := 2) rfl rfl (by decide) ?_
      refine tl_e (p2 := 22) (i := 199) (n := 6) (t := 0) (Or.inl rfl) rfl rfl hI rfl rfl (by decide) (by decide) hg2 ?_
      refine tb_le (p2 := 25) rfl rfl rfl rfl (fun c96 => ?_) (fun c96 => ?_)
      · refine te_iload_n (p2 := 32) rfl rfl rfl ?_
        refine tz_ge (p2 := 35) rfl rfl (show Int32.toInt 1 = 1 from rfl) (fun c97 => ?_) (fun c97 => absurd c97 (by omega))
        refine te_iload_n (p2 := 38) rfl rfl rfl ?_
        refine te_iconst (p2 := 39) (x := 1) rfl rfl (by decide) ?_
        refine te_isub (p2 := 40) (z := 4) rfl rfl (by decide) ?_
        refine te_istore_n (p2 := 41) (lv2 := [(3, .int 4), (2, .int 1), (0, .ref 164), (1, .int 5)]) rfl rfl (by decide) rfl ?_
        refine te_aload_n (p2 := 42) rfl rfl rfl ?_
        refine tg_r (p2 := 45) (i := 148) (r := 215) rfl rfl hI rfl rfl rfl ?_
        refine te_iload_n (p2 := 46) rfl rfl rfl ?_
        refine tl_e (p2 := 47) (i := 199) (n := 6) (t := 0) (Or.inl rfl) rfl rfl hI rfl rfl (by decide) (by decide) hg4 ?_
        refine te_aload_n (p2 := 48) rfl rfl rfl ?_
        refine tg_r (p2 := 51) (i := 148) (r := 215) rfl rfl hI rfl rfl rfl ?_
        refine te_iload_n (p2 := 52) rfl rfl rfl ?_
        refine tl_e (p2 := 53) (i := 199) (n := 6) (t := 0) (Or.inl rfl) rfl rfl hI rfl rfl (by decide) (by decide) hg1 ?_
        refine tb_ge (p2 := 56) rfl rfl rfl rfl (fun c101 => ?_) (fun c101 => ?_)
        · refine te_aload_n (p2 := 63) rfl rfl rfl ?_
          refine tg_r (p2 := 66) (i := 148) (r := 215) rfl rfl hI rfl rfl rfl ?_
          refine te_iload_n (p2 := 67) rfl rfl rfl ?_
          refine tl_e (p2 := 68) (i := 199) (n := 6) (t := 0) (Or.inl rfl) rfl rfl hI rfl rfl (by decide) (by decide) hg1 ?_
          refine te_istore (p2 := 70) (lv2 := [(4, .int g1), (3, .int 4), (2, .int 1), (0, .ref 164), (1, .int 5)]) rfl rfl (by decide) rfl ?_
          refine te_aload_n (p2 := 71) rfl rfl rfl ?_
          refine tg_r (p2 := 74) (i := 148) (r := 215) rfl rfl hI rfl rfl rfl ?_
          refine te_iload_n (p2 := 75) rfl rfl rfl ?_
          refine te_aload_n (p2 := 76) rfl rfl rfl ?_
          refine tg_r (p2 := 79) (i := 148) (r := 215) rfl rfl hI rfl rfl rfl ?_
          refine te_iload_n (p2 := 80) rfl rfl rfl ?_
          refine tl_e (p2 := 81) (i := 199) (n := 6) (t := 0) (Or.inl rfl) rfl rfl hI rfl rfl (by decide) (by decide) hg4 ?_
          refine ts_i (p2 := 82) (i := 199) (n := 6) rfl rfl hI rfl rfl rfl rfl (by decide) (by decide) (by omega) (by omega) (by omega) rfl (fun h104 I104 u104 => ?_)
          have f104 := fr_st (F := F_X12_nextOrder_5) 0 f0 u104 rfl (by decide) (by decide)
          refine te_aload_n (p2 := 83) rfl rfl rfl ?_
          refine tg_r (p2 := 86) (i := 148) (r := 215) rfl rfl I104 rfl rfl rfl ?_
          refine te_iload_n (p2 := 87) rfl rfl rfl ?_
          refine te_iload (p2 := 89) rfl rfl rfl ?_
          refine ts_i (p2 := 90) (i := 199) (n := 6) rfl rfl I104 rfl rfl rfl rfl (by decide) (by decide) (by omega) (by omega) (by omega) rfl (fun h105 I105 u105 => ?_)
          have f105 := fr_st (F := F_X12_nextOrder_5) 0 f104 u105 rfl (by decide) (by decide)
          refine te_iload_n (p2 := 91) rfl rfl rfl ?_
          refine te_iconst (p2 := 92) (x := 1) rfl rfl (by decide) ?_
          refine te_iadd (p2 := 93) (z := 2) rfl rfl (by decide) ?_
          refine te_istore (p2 := 95) (lv2 := [(5, .int 2), (4, .int g1), (3, .int 4), (2, .int 1), (0, .ref 164), (1, .int 5)]) rfl rfl (by decide) rfl ?_
          refine te_iload_n (p2 := 96) rfl rfl rfl ?_
          refine te_iconst (p2 := 97) (x := 1) rfl rfl (by decide) ?_
          refine te_isub (p2 := 98) (z := 4) rfl rfl (by decide) ?_
          refine te_istore (p2 := 100) (lv2 := [(6, .int 4), (5, .int 2), (4, .int g1), (3, .int 4), (2, .int 1), (0, .ref 164), (1, .int 5)]) rfl rfl (by decide) rfl ?_
          refine te_iload (p2 := 102) rfl rfl rfl ?_
          refine te_iload (p2 := 104) rfl rfl rfl ?_
          refine tb_ge (p2 := 107) rfl rfl (show Int32.toInt 2 = 2 from rfl) (show Int32.toInt 4 = 4 from rfl) (fun c108 => absurd c108 (by omega)) (fun c108 => ?_)
          refine te_aload_n (p2 := 108) rfl rfl rfl ?_
          refine tg_r (p2 := 111) (i := 148) (r := 215) rfl rfl I105 rfl rfl rfl ?_
          refine te_iload (p2 := 113) rfl rfl rfl ?_
          refine tl_e (p2 := 114) (i := 199) (n := 6) (t := 0) (Or.inl rfl) rfl rfl I105 rfl rfl (by decide) (by decide) ((u105.2 _ _ (Or.inr (by decide))).trans ((u104.2 _ _ (Or.inr (by decide))).trans hg2)) ?_
          refine te_istore (p2 := 116) (lv2 := [(7, .int g2), (6, .int 4), (5, .int 2), (4, .int g1), (3, .int 4), (2, .int 1), (0, .ref 164), (1, .int 5)]) rfl rfl (by decide) rfl ?_
          refine te_aload_n (p2 := 117) rfl rfl rfl ?_
          refine tg_r (p2 := 120) (i := 148) (r := 215) rfl rfl I105 rfl rfl rfl ?_
          refine te_iload (p2 := 122) rfl rfl rfl ?_
          refine te_aload_n (p2 := 123) rfl rfl rfl ?_
          refine tg_r (p2 := 126) (i := 148) (r := 215) rfl rfl I105 rfl rfl rfl ?_
          refine te_iload (p2 := 128) rfl rfl rfl ?_
          refine tl_e (p2 := 129) (i := 199) (n := 6) (t := 0) (Or.inl rfl) rfl rfl I105 rfl rfl (by decide) (by decide) u105.1 ?_
          refine ts_i (p2 := 130) (i := 199) (n := 6) rfl rfl I105 rfl rfl rfl rfl (by decide) (by decide) (by omega) (by omega) (by omega) rfl (fun h111 I111 u111 => ?_)
          have f111 := fr_st (F := F_X12_nextOrder_5) 0 f105 u111 rfl (by decide) (by decide)
          refine te_aload_n (p2 := 131) rfl rfl rfl ?_
          refine tg_r (p2 := 134) (i := 148) (r := 215) rfl rfl I111 rfl rfl rfl ?_
          refine te_iload (p2 := 136) rfl rfl rfl ?_
          refine te_iload (p2 := 138) rfl rfl rfl ?_
          refine ts_i (p2 := 139) (i := 199) (n := 6) rfl rfl I111 rfl rfl rfl rfl (by decide) (by decide) (by omega) (by omega) (by omega) rfl (fun h112 I112 u112 => ?_)
          have f112 := fr_st (F := F_X12_nextOrder_5) 0 f111 u112 rfl (by decide) (by decide)
          refine te_iinc (p2 := 142) (x := 4) (y := 3) (lv2 := [(6, .int 3), (7, .int g2), (5, .int 2), (4, .int g1), (3, .int 4), (2, .int 1), (0, .ref 164), (1, .int 5)]) rfl rfl (by decide) rfl (by decide) rfl ?_
          refine te_iinc (p2 := 145) (x := 2) (y := 3) (lv2 := [(5, .int 3), (6, .int 3), (7, .int g2), (4, .int g1), (3, .int 4), (2, .int 1), (0, .ref 164), (1, .int 5)]) rfl rfl (by decide) rfl (by decide) rfl ?_
          refine te_goto rfl ?_
          refine te_iload (p2 := 102) rfl rfl rfl ?_
          refine te_iload (p2 := 104) rfl rfl rfl ?_
          refine tb_ge (p2 := 107) rfl rfl (show Int32.toInt 3 = 3 from rfl) (show Int32.toInt 3 = 3 from rfl) (fun c115 => ?_) (fun c115 => absurd c115 (by omega))
          refine te_iconst (p2 := 149) (x := 1) rfl rfl (by decide) ?_
          exact te_zret rfl rfl (by decide) ⟨I112, f112, _, rfl, Or.inr ⟨rfl, (by rw [pq_xe5, on6_5, (pq_of (k := 0) hg0 : pq_n h 199 0 = g0.toInt.toNat), (pq_of (k := 1) hg1 : pq_n h 199 1 = g1.toInt.toNat), (pq_of (k := 2) hg2 : pq_n h 199 2 = g2.toInt.toNat), (pq_of (k := 3) hg3 : pq_n h 199 3 = g3.toInt.toNat), (pq_of (k := 4) hg4 : pq_n h 199 4 = g4.toInt.toNat), (pq_of (k := 0) ((u112.2 _ _ (Or.inr (by decide))).trans ((u111.2 _ _ (Or.inr (by decide))).trans ((u105.2 _ _ (Or.inr (by decide))).trans ((u104.2 _ _ (Or.inr (by decide))).trans hg0)))) : pq_n h112 199 0 = g0.toInt.toNat), (pq_of (k := 1) ((u112.2 _ _ (Or.inr (by decide))).trans ((u111.2 _ _ (Or.inr (by decide))).trans ((u105.2 _ _ (Or.inr (by decide))).trans u104.1))) : pq_n h112 199 1 = g4.toInt.toNat), (pq_of (k := 2) ((u112.2 _ _ (Or.inr (by decide))).trans u111.1) : pq_n h112 199 2 = g1.toInt.toNat), (pq_of (k := 3) ((u112.2 _ _ (Or.inr (by decide))).trans ((u111.2 _ _ (Or.inr (by decide))).trans ((u105.2 _ _ (Or.inr (by decide))).trans ((u104.2 _ _ (Or.inr (by decide))).trans hg3)))) : pq_n h112 199 3 = g3.toInt.toNat), (pq_of (k := 4) u112.1 : pq_n h112 199 4 = g2.toInt.toNat)]; unfold pq_x5; rw [if_pos (by omega), if_pos (by omega), if_neg (by omega), if_neg (by omega)]), g0, g4, g1, g3, g2, g5, ((u112.2 _ _ (Or.inr (by decide))).trans ((u111.2 _ _ (Or.inr (by decide))).trans ((u105.2 _ _ (Or.inr (by decide))).trans ((u104.2 _ _ (Or.inr (by decide))).trans hg0)))), ((u112.2 _ _ (Or.inr (by decide))).trans ((u111.2 _ _ (Or.inr (by decide))).trans ((u105.2 _ _ (Or.inr (by decide))).trans u104.1))), ((u112.2 _ _ (Or.inr (by decide))).trans u111.1), ((u112.2 _ _ (Or.inr (by decide))).trans ((u111.2 _ _ (Or.inr (by decide))).trans ((u105.2 _ _ (Or.inr (by decide))).trans ((u104.2 _ _ (Or.inr (by decide))).trans hg3)))), u112.1, ((u112.2 _ _ (Or.inr (by decide))).trans ((u111.2 _ _ (Or.inr (by decide))).trans ((u105.2 _ _ (Or.inr (by decide))).trans ((u104.2 _ _ (Or.inr (by decide))).trans hg5)))), (by unfold prm; omega), (by unfold lexV; omega)⟩⟩
        · refine te_iinc (p2 := 59) (x := 4) (y := 3) (lv2 := [(3, .int 3), (2, .int 1), (0, .ref 164), (1, .int 5)]) rfl rfl (by decide) rfl (by decide) rfl ?_
          refine te_goto rfl ?_
          refine te_aload_n (p2 := 42) rfl rfl rfl ?_
          refine tg_r (p2 := 45) (i := 148) (r := 215) rfl rfl hI rfl rfl rfl ?_
          refine te_iload_n (p2 := 46) rfl rfl rfl ?_
          refine tl_e (p2 := 47) (i := 199) (n := 6) (t := 0) (Or.inl rfl) rfl rfl hI rfl rfl (by decide) (by decide) hg3 ?_
          refine te_aload_n (p2 := 48) rfl rfl rfl ?_
          refine tg_r (p2 := 51) (i := 148) (r := 215) rfl rfl hI rfl rfl rfl ?_
          refine te_iload_n (p2 := 52) rfl rfl rfl ?_
          refine tl_e (p2 := 53) (i := 199) (n := 6) (t := 0) (Or.inl rfl) rfl rfl hI rfl rfl (by decide) (by decide) hg1 ?_
          refine tb_ge (p2 := 56) rfl rfl rfl rfl (fun c119 => ?_) (fun c119 => ?_)
          · refine te_aload_n (p2 := 63) rfl rfl rfl ?_
            refine tg_r (p2 := 66) (i := 148) (r := 215) rfl rfl hI rfl rfl rfl ?_
            refine te_iload_n (p2 := 67) rfl rfl rfl ?_
            refine tl_e (p2 := 68) (i := 199) (n := 6) (t := 0) (Or.inl rfl) rfl rfl hI rfl rfl (by decide) (by decide) hg1 ?_
            refine te_istore (p2 := 70) (lv2 := [(4, .int g1), (3, .int 3), (2, .int 1), (0, .ref 164), (1, .int 5)]) rfl rfl (by decide) rfl ?_
            refine te_aload_n (p2 := 71) rfl rfl rfl ?_
            refine tg_r (p2 := 74) (i := 148) (r := 215) rfl rfl hI rfl rfl rfl ?_
            refine te_iload_n (p2 := 75) rfl rfl rfl ?_
            refine te_aload_n (p2 := 76) rfl rfl rfl ?_
            refine tg_r (p2 := 79) (i := 148) (r := 215) rfl rfl hI rfl rfl rfl ?_
            refine te_iload_n (p2 := 80) rfl rfl rfl ?_
            refine tl_e (p2 := 81) (i := 199) (n := 6) (t := 0) (Or.inl rfl) rfl rfl hI rfl rfl (by decide) (by decide) hg3 ?_
            refine ts_i (p2 := 82) (i := 199) (n := 6) rfl rfl hI rfl rfl rfl rfl (by decide) (by decide) (by omega) (by omega) (by omega) rfl (fun h122 I122 u122 => ?_)
            have f122 := fr_st (F := F_X12_nextOrder_5) 0 f0 u122 rfl (by decide) (by decide)
            refine te_aload_n (p2 := 83) rfl rfl rfl ?_
            refine tg_r (p2 := 86) (i := 148) (r := 215) rfl rfl I122 rfl rfl rfl ?_
            refine te_iload_n (p2 := 87) rfl rfl rfl ?_
            refine te_iload (p2 := 89) rfl rfl rfl ?_
            refine ts_i (p2 := 90) (i := 199) (n := 6) rfl rfl I122 rfl rfl rfl rfl (by decide) (by decide) (by omega) (by omega) (by omega) rfl (fun h123 I123 u123 => ?_)
            have f123 := fr_st (F := F_X12_nextOrder_5) 0 f122 u123 rfl (by decide) (by decide)
            refine te_iload_n (p2 := 91) rfl rfl rfl ?_
            refine te_iconst (p2 := 92) (x := 1) rfl rfl (by decide) ?_
            refine te_iadd (p2 := 93) (z := 2) rfl rfl (by decide) ?_
            refine te_istore (p2 := 95) (lv2 := [(5, .int 2), (4, .int g1), (3, .int 3), (2, .int 1), (0, .ref 164), (1, .int 5)]) rfl rfl (by decide) rfl ?_
            refine te_iload_n (p2 := 96) rfl rfl rfl ?_
            refine te_iconst (p2 := 97) (x := 1) rfl rfl (by decide) ?_
            refine te_isub (p2 := 98) (z := 4) rfl rfl (by decide) ?_
            refine te_istore (p2 := 100) (lv2 := [(6, .int 4), (5, .int 2), (4, .int g1), (3, .int 3), (2, .int 1), (0, .ref 164), (1, .int 5)]) rfl rfl (by decide) rfl ?_
            refine te_iload (p2 := 102) rfl rfl rfl ?_
            refine te_iload (p2 := 104) rfl rfl rfl ?_
            refine tb_ge (p2 := 107) rfl rfl (show Int32.toInt 2 = 2 from rfl) (show Int32.toInt 4 = 4 from rfl) (fun c126 => absurd c126 (by omega)) (fun c126 => ?_)
            refine te_aload_n (p2 := 108) rfl rfl rfl ?_
            refine tg_r (p2 := 111) (i := 148) (r := 215) rfl rfl I123 rfl rfl rfl ?_
            refine te_iload (p2 := 113) rfl rfl rfl ?_
            refine tl_e (p2 := 114) (i := 199) (n := 6) (t := 0) (Or.inl rfl) rfl rfl I123 rfl rfl (by decide) (by decide) ((u123.2 _ _ (Or.inr (by decide))).trans ((u122.2 _ _ (Or.inr (by decide))).trans hg2)) ?_
            refine te_istore (p2 := 116) (lv2 := [(7, .int g2), (6, .int 4), (5, .int 2), (4, .int g1), (3, .int 3), (2, .int 1), (0, .ref 164), (1, .int 5)]) rfl rfl (by decide) rfl ?_
            refine te_aload_n (p2 := 117) rfl rfl rfl ?_
            refine tg_r (p2 := 120) (i := 148) (r := 215) rfl rfl I123 rfl rfl rfl ?_
            refine te_iload (p2 := 122) rfl rfl rfl ?_
            refine te_aload_n (p2 := 123) rfl rfl rfl ?_
            refine tg_r (p2 := 126) (i := 148) (r := 215) rfl rfl I123 rfl rfl rfl ?_
            refine te_iload (p2 := 128) rfl rfl rfl ?_
            refine tl_e (p2 := 129) (i := 199) (n := 6) (t := 0) (Or.inl rfl) rfl rfl I123 rfl rfl (by decide) (by decide) ((u123.2 _ _ (Or.inr (by decide))).trans ((u122.2 _ _ (Or.inr (by decide))).trans hg4)) ?_
            refine ts_i (p2 := 130) (i := 199) (n := 6) rfl rfl I123 rfl rfl rfl rfl (by decide) (by decide) (by omega) (by omega) (by omega) rfl (fun h129 I129 u129 => ?_)
            have f129 := fr_st (F := F_X12_nextOrder_5) 0 f123 u129 rfl (by decide) (by decide)
            refine te_aload_n (p2 := 131) rfl rfl rfl ?_
            refine tg_r (p2 := 134) (i := 148) (r := 215) rfl rfl I129 rfl rfl rfl ?_
            refine te_iload (p2 := 136) rfl rfl rfl ?_
            refine te_iload (p2 := 138) rfl rfl rfl ?_
            refine ts_i (p2 := 139) (i := 199) (n := 6) rfl rfl I129 rfl rfl rfl rfl (by decide) (by decide) (by omega) (by omega) (by omega) rfl (fun h130 I130 u130 => ?_)
            have f130 := fr_st (F := F_X12_nextOrder_5) 0 f129 u130 rfl (by decide) (by decide)
            refine te_iinc (p2 := 142) (x := 4) (y := 3) (lv2 := [(6, .int 3), (7, .int g2), (5, .int 2), (4, .int g1), (3, .int 3), (2, .int 1), (0, .ref 164), (1, .int 5)]) rfl rfl (by decide) rfl (by decide) rfl ?_
            refine te_iinc (p2 := 145) (x := 2) (y := 3) (lv2 := [(5, .int 3), (6, .int 3), (7, .int g2), (4, .int g1), (3, .int 3), (2, .int 1), (0, .ref 164), (1, .int 5)]) rfl rfl (by decide) rfl (by decide) rfl ?_
            refine te_goto rfl ?_
            refine te_iload (p2 := 102) rfl rfl rfl ?_
            refine te_iload (p2 := 104) rfl rfl rfl ?_
            refine tb_ge (p2 := 107) rfl rfl (show Int32.toInt 3 = 3 from rfl) (show Int32.toInt 3 = 3 from rfl) (fun c133 => ?_) (fun c133 => absurd c133 (by omega))
            refine te_iconst (p2 := 149) (x := 1) rfl rfl (by decide) ?_
            exact te_zret rfl rfl (by decide) ⟨I130, f130, _, rfl, Or.inr ⟨rfl, (by rw [pq_xe5, on6_5, (pq_of (k := 0) hg0 : pq_n h 199 0 = g0.toInt.toNat), (pq_of (k := 1) hg1 : pq_n h 199 1 = g1.toInt.toNat), (pq_of (k := 2) hg2 : pq_n h 199 2 = g2.toInt.toNat), (pq_of (k := 3) hg3 : pq_n h 199 3 = g3.toInt.toNat), (pq_of (k := 4) hg4 : pq_n h 199 4 = g4.toInt.toNat), (pq_of (k := 0) ((u130.2 _ _ (Or.inr (by decide))).trans ((u129.2 _ _ (Or.inr (by decide))).trans ((u123.2 _ _ (Or.inr (by decide))).trans ((u122.2 _ _ (Or.inr (by decide))).trans hg0)))) : pq_n h130 199 0 = g0.toInt.toNat), (pq_of (k := 1) ((u130.2 _ _ (Or.inr (by decide))).trans ((u129.2 _ _ (Or.inr (by decide))).trans ((u123.2 _ _ (Or.inr (by decide))).trans u122.1))) : pq_n h130 199 1 = g3.toInt.toNat), (pq_of (k := 2) ((u130.2 _ _ (Or.inr (by decide))).trans u129.1) : pq_n h130 199 2 = g4.toInt.toNat), (pq_of (k := 3) ((u130.2 _ _ (Or.inr (by decide))).trans ((u129.2 _ _ (Or.inr (by decide))).trans u123.1)) : pq_n h130 199 3 = g1.toInt.toNat), (pq_of (k := 4) u130.1 : pq_n h130 199 4 = g2.toInt.toNat)]; unfold pq_x5; rw [if_pos (by omega), if_pos (by omega), if_neg (by omega), if_pos (by omega), if_neg (by omega)]), g0, g3, g4, g1, g2, g5, ((u130.2 _ _ (Or.inr (by decide))).trans ((u129.2 _ _ (Or.inr (by decide))).trans ((u123.2 _ _ (Or.inr (by decide))).trans ((u122.2 _ _ (Or.inr (by decide))).trans hg0)))), ((u130.2 _ _ (Or.inr (by decide))).trans ((u129.2 _ _ (Or.inr (by decide))).trans ((u123.2 _ _ (Or.inr (by decide))).trans u122.1))), ((u130.2 _ _ (Or.inr (by decide))).trans u129.1), ((u130.2 _ _ (Or.inr (by decide))).trans ((u129.2 _ _ (Or.inr (by decide))).trans u123.1)), u130.1, ((u130.2 _ _ (Or.inr (by decide))).trans ((u129.2 _ _ (Or.inr (by decide))).trans ((u123.2 _ _ (Or.inr (by decide))).trans ((u122.2 _ _ (Or.inr (by decide))).trans hg5)))), (by unfold prm; omega), (by unfold lexV; omega)⟩⟩
          · refine te_iinc (p2 := 59) (x := 3) (y := 2) (lv2 := [(3, .int 2), (2, .int 1), (0, .ref 164), (1, .int 5)]) rfl rfl (by decide) rfl (by decide) rfl ?_
            refine te_goto rfl ?_
            refine te_aload_n (p2 := 42) rfl rfl rfl ?_
            refine tg_r (p2 := 45) (i := 148) (r := 215) rfl rfl hI rfl rfl rfl ?_
            refine te_iload_n (p2 := 46) rfl rfl rfl ?_
            refine tl_e (p2 := 47) (i := 199) (n := 6) (t := 0) (Or.inl rfl) rfl rfl hI rfl rfl (by decide) (by decide) hg2 ?_
            refine te_aload_n (p2 := 48) rfl rfl rfl ?_
            refine tg_r (p2 := 51) (i := 148) (r := 215) rfl rfl hI rfl rfl rfl ?_
            refine te_iload_n (p2 := 52) rfl rfl rfl ?_
            refine tl_e (p2 := 53) (i := 199) (n := 6) (t := 0) (Or.inl rfl) rfl rfl hI rfl rfl (by decide) (by decide) hg1 ?_
            refine tb_ge (p2 := 56) rfl rfl rfl rfl (fun c137 => ?_) (fun c137 => ?_)
            · refine te_aload_n (p2 := 63) rfl rfl rfl ?_
              refine tg_r (p2 := 66) (i := 148) (r := 215) rfl rfl hI rfl rfl rfl ?_
              refine te_iload_n (p2 := 67) rfl rfl rfl ?_
              refine tl_e (p2 := 68) (i := 199) (n := 6) (t := 0) (Or.inl rfl) rfl rfl hI rfl rfl (by decide) (by decide) hg1 ?_
              refine te_istore (p2 := 70) (lv2 := [(4, .int g1), (3, .int 2), (2, .int 1), (0, .ref 164), (1, .int 5)]) rfl rfl (by decide) rfl ?_
              refine te_aload_n (p2 := 71) rfl rfl rfl ?_
              refine tg_r (p2 := 74) (i := 148) (r := 215) rfl rfl hI rfl rfl rfl ?_
              refine te_iload_n (p2 := 75) rfl rfl rfl ?_
              refine te_aload_n (p2 := 76) rfl rfl rfl ?_
              refine tg_r (p2 := 79) (i := 148) (r := 215) rfl rfl hI rfl rfl rfl ?_
              refine te_iload_n (p2 := 80) rfl rfl rfl ?_
              refine tl_e (p2 := 81) (i := 199) (n := 6) (t := 0) (Or.inl rfl) rfl rfl hI rfl rfl (by decide) (by decide) hg2 ?_
              refine ts_i (p2 := 82) (i := 199) (n := 6) rfl rfl hI rfl rfl rfl rfl (by decide) (by decide) (by omega) (by omega) (by omega) rfl (fun h140 I140 u140 => ?_)
              have f140 := fr_st (F := F_X12_nextOrder_5) 0 f0 u140 rfl (by decide) (by decide)
              refine te_aload_n (p2 := 83) rfl rfl rfl ?_
              refine tg_r (p2 := 86) (i := 148) (r := 215) rfl rfl I140 rfl rfl rfl ?_
              refine te_iload_n (p2 := 87) rfl rfl rfl ?_
              refine te_iload (p2 := 89) rfl rfl rfl ?_
              refine ts_i (p2 := 90) (i := 199) (n := 6) rfl rfl I140 rfl rfl rfl rfl (by decide) (by decide) (by omega) (by omega) (by omega) rfl (fun h141 I141 u141 => ?_)
              have f141 := fr_st (F := F_X12_nextOrder_5) 0 f140 u141 rfl (by decide) (by decide)
              refine te_iload_n (p2 := 91) rfl rfl rfl ?_
              refine te_iconst (p2 := 92) (x := 1) rfl rfl (by decide) ?_
              refine te_iadd (p2 := 93) (z := 2) rfl rfl (by decide) ?_
              refine te_istore (p2 := 95) (lv2 := [(5, .int 2), (4, .int g1), (3, .int 2), (2, .int 1), (0, .ref 164), (1, .int 5)]) rfl rfl (by decide) rfl ?_
              refine te_iload_n (p2 := 96) rfl rfl rfl ?_
              refine te_iconst (p2 := 97) (x := 1) rfl rfl (by decide) ?_
              refine te_isub (p2 := 98) (z := 4) rfl rfl (by decide) ?_
              refine te_istore (p2 := 100) (lv2 := [(6, .int 4), (5, .int 2), (4, .int g1), (3, .int 2), (2, .int 1), (0, .ref 164), (1, .int 5)]) rfl rfl (by decide) rfl ?_
              refine te_iload (p2 := 102) rfl rfl rfl ?_
              refine te_iload (p2 := 104) rfl rfl rfl ?_
              refine tb_ge (p2 := 107) rfl rfl (show Int32.toInt 2 = 2 from rfl) (show Int32.toInt 4 = 4 from rfl) (fun c144 => absurd c144 (by omega)) (fun c144 => ?_)
              refine te_aload_n (p2 := 108) rfl rfl rfl ?_
              refine tg_r (p2 := 111) (i := 148) (r := 215) rfl rfl I141 rfl rfl rfl ?_
              refine te_iload (p2 := 113) rfl rfl rfl ?_
              refine tl_e (p2 := 114) (i := 199) (n := 6) (t := 0) (Or.inl rfl) rfl rfl I141 rfl rfl (by decide) (by decide) u141.1 ?_
              refine te_istore (p2 := 116) (lv2 := [(7, .int g1), (6, .int 4), (5, .int 2), (4, .int g1), (3, .int 2), (2, .int 1), (0, .ref 164), (1, .int 5)]) rfl rfl (by decide) rfl ?_
              refine te_aload_n (p2 := 117) rfl rfl rfl ?_
              refine tg_r (p2 := 120) (i := 148) (r := 215) rfl rfl I141 rfl rfl rfl ?_
              refine te_iload (p2 := 122) rfl rfl rfl ?_
              refine te_aload_n (p2 := 123) rfl rfl rfl ?_
              refine tg_r (p2 := 126) (i := 148) (r := 215) rfl rfl I141 rfl rfl rfl ?_
              refine te_iload (p2 := 128) rfl rfl rfl ?_
              refine tl_e (p2 := 129) (i := 199) (n := 6) (t := 0) (Or.inl rfl) rfl rfl I141 rfl rfl (by decide) (by decide) ((u141.2 _ _ (Or.inr (by decide))).trans ((u140.2 _ _ (Or.inr (by decide))).trans hg4)) ?_
              refine ts_i (p2 := 130) (i := 199) (n := 6) rfl rfl I141 rfl rfl rfl rfl (by decide) (by decide) (by omega) (by omega) (by omega) rfl (fun h147 I147 u147 => ?_)
              have f147 := fr_st (F := F_X12_nextOrder_5) 0 f141 u147 rfl (by decide) (by decide)
              refine te_aload_n (p2 := 131) rfl rfl rfl ?_
              refine tg_r (p2 := 134) (i := 148) (r := 215) rfl rfl I147 rfl rfl rfl ?_
              refine te_iload (p2 := 136) rfl rfl rfl ?_
              refine te_iload (p2 := 138) rfl rfl rfl ?_
              refine ts_i (p2 := 139) (i := 199) (n := 6) rfl rfl I147 rfl rfl rfl rfl (by decide) (by decide) (by omega) (by omega) (by omega) rfl (fun h148 I148 u148 => ?_)
              have f148 := fr_st (F := F_X12_nextOrder_5) 0 f147 u148 rfl (by decide) (by decide)
              refine te_iinc (p2 := 142) (x := 4) (y := 3) (lv2 := [(6, .int 3), (7, .int g1), (5, .int 2), (4, .int g1), (3, .int 2), (2, .int 1), (0, .ref 164), (1, .int 5)]) rfl rfl (by decide) rfl (by decide) rfl ?_
              refine te_iinc (p2 := 145) (x := 2) (y := 3) (lv2 := [(5, .int 3), (6, .int 3), (7, .int g1), (4, .int g1), (3, .int 2), (2, .int 1), (0, .ref 164), (1, .int 5)]) rfl rfl (by decide) rfl (by decide) rfl ?_
              refine te_goto rfl ?_
              refine te_iload (p2 := 102) rfl rfl rfl ?_
              refine te_iload (p2 := 104) rfl rfl rfl ?_
              refine tb_ge (p2 := 107) rfl rfl (show Int32.toInt 3 = 3 from rfl) (show Int32.toInt 3 = 3 from rfl) (fun c151 => ?_) (fun c151 => absurd c151 (by omega))
              refine te_iconst (p2 := 149) (x := 1) rfl rfl (by decide) ?_
              exact te_zret rfl rfl (by decide) ⟨I148, f148, _, rfl, Or.inr ⟨rfl, (by rw [pq_xe5, on6_5, (pq_of (k := 0) hg0 : pq_n h 199 0 = g0.toInt.toNat), (pq_of (k := 1) hg1 : pq_n h 199 1 = g1.toInt.toNat), (pq_of (k := 2) hg2 : pq_n h 199 2 = g2.toInt.toNat), (pq_of (k := 3) hg3 : pq_n h 199 3 = g3.toInt.toNat), (pq_of (k := 4) hg4 : pq_n h 199 4 = g4.toInt.toNat), (pq_of (k := 0) ((u148.2 _ _ (Or.inr (by decide))).trans ((u147.2 _ _ (Or.inr (by decide))).trans ((u141.2 _ _ (Or.inr (by decide))).trans ((u140.2 _ _ (Or.inr (by decide))).trans hg0)))) : pq_n h148 199 0 = g0.toInt.toNat), (pq_of (k := 1) ((u148.2 _ _ (Or.inr (by decide))).trans ((u147.2 _ _ (Or.inr (by decide))).trans ((u141.2 _ _ (Or.inr (by decide))).trans u140.1))) : pq_n h148 199 1 = g2.toInt.toNat), (pq_of (k := 2) ((u148.2 _ _ (Or.inr (by decide))).trans u147.1) : pq_n h148 199 2 = g4.toInt.toNat), (pq_of (k := 3) ((u148.2 _ _ (Or.inr (by decide))).trans ((u147.2 _ _ (Or.inr (by decide))).trans ((u141.2 _ _ (Or.inr (by decide))).trans ((u140.2 _ _ (Or.inr (by decide))).trans hg3)))) : pq_n h148 199 3 = g3.toInt.toNat), (pq_of (k := 4) u148.1 : pq_n h148 199 4 = g1.toInt.toNat)]; unfold pq_x5; rw [if_pos (by omega), if_pos (by omega), if_neg (by omega), if_pos (by omega), if_pos (by omega), if_neg (by omega)]), g0, g2, g4, g3, g1, g5, ((u148.2 _ _ (Or.inr (by decide))).trans ((u147.2 _ _ (Or.inr (by decide))).trans ((u141.2 _ _ (Or.inr (by decide))).trans ((u140.2 _ _ (Or.inr (by decide))).trans hg0)))), ((u148.2 _ _ (Or.inr (by decide))).trans ((u147.2 _ _ (Or.inr (by decide))).trans ((u141.2 _ _ (Or.inr (by decide))).trans u140.1))), ((u148.2 _ _ (Or.inr (by decide))).trans u147.1), ((u148.2 _ _ (Or.inr (by decide))).trans ((u147.2 _ _ (Or.inr (by decide))).trans ((u141.2 _ _ (Or.inr (by decide))).trans ((u140.2 _ _ (Or.inr (by decide))).trans hg3)))), u148.1, ((u148.2 _ _ (Or.inr (by decide))).trans ((u147.2 _ _ (Or.inr (by decide))).trans ((u141.2 _ _ (Or.inr (by decide))).trans ((u140.2 _ _ (Or.inr (by decide))).trans hg5)))), (by unfold prm; omega), (by unfold lexV; omega)⟩⟩
            · refine te_iinc (p2 := 59) (x := 2) (y := 1) (lv2 := [(3, .int 1), (2, .int 1), (0, .ref 164), (1, .int 5)]) rfl rfl (by decide) rfl (by decide) rfl ?_
              refine te_goto rfl ?_
              refine te_aload_n (p2 := 42) rfl rfl rfl ?_
              refine tg_r (p2 := 45) (i := 148) (r := 215) rfl rfl hI rfl rfl rfl ?_
              refine te_iload_n (p2 := 46) rfl rfl rfl ?_
              refine tl_e (p2 := 47) (i := 199) (n := 6) (t := 0) (Or.inl rfl) rfl rfl hI rfl rfl (by decide) (by decide) hg1 ?_
              refine te_aload_n (p2 := 48) rfl rfl rfl ?_
              refine tg_r (p2 := 51) (i := 148) (r := 215) rfl rfl hI rfl rfl rfl ?_
              refine te_iload_n (p2 := 52) rfl rfl rfl ?_
              refine tl_e (p2 := 53) (i := 199) (n := 6) (t := 0) (Or.inl rfl) rfl rfl hI rfl rfl (by decide) (by decide) hg1 ?_
              refine tb_ge (p2 := 56) rfl rfl rfl rfl (fun c155 => ?_) (fun c155 => absurd c155 (by omega))
              refine te_aload_n (p2 := 63) rfl rfl rfl ?_
              refine tg_r (p2 := 66) (i := 148) (r := 215) rfl rfl hI rfl rfl rfl ?_
              refine te_iload_n (p2 := 67) rfl rfl rfl ?_
              refine tl_e (p2 := 68) (i := 199) (n := 6) (t := 0) (Or.inl rfl) rfl rfl hI rfl rfl (by decide) (by decide) hg1 ?_
              refine te_istore (p2 := 70) (lv2 := [(4, .int g1), (3, .int 1), (2, .int 1), (0, .ref 164), (1, .int 5)]) rfl rfl (by decide) rfl ?_
              refine te_aload_n (p2 := 71) rfl rfl rfl ?_
              refine tg_r (p2 := 74) (i := 148) (r := 215) rfl rfl hI rfl rfl rfl ?_
              refine te_iload_n (p2 := 75) rfl rfl rfl ?_
              refine te_aload_n (p2 := 76) rfl rfl rfl ?_
              refine tg_r (p2 := 79) (i := 148) (r := 215) rfl rfl hI rfl rfl rfl ?_
              refine te_iload_n (p2 := 80) rfl rfl rfl ?_
              refine tl_e (p2 := 81) (i := 199) (n := 6) (t := 0) (Or.inl rfl) rfl rfl hI rfl rfl (by decide) (by decide) hg1 ?_
              refine ts_i (p2 := 82) (i := 199) (n := 6) rfl rfl hI rfl rfl rfl rfl (by decide) (by decide) (by omega) (by omega) (by omega) rfl (fun h158 I158 u158 => ?_)
              have f158 := fr_st (F := F_X12_nextOrder_5) 0 f0 u158 rfl (by decide) (by decide)
              refine te_aload_n (p2 := 83) rfl rfl rfl ?_
              refine tg_r (p2 := 86) (i := 148) (r := 215) rfl rfl I158 rfl rfl rfl ?_
              refine te_iload_n (p2 := 87) rfl rfl rfl ?_
              refine te_iload (p2 := 89) rfl rfl rfl ?_
              refine ts_i (p2 := 90) (i := 199) (n := 6) rfl rfl I158 rfl rfl rfl rfl (by decide) (by decide) (by omega) (by omega) (by omega) rfl (fun h159 I159 u159 => ?_)
              have f159 := fr_st (F := F_X12_nextOrder_5) 0 f158 u159 rfl (by decide) (by decide)
              refine te_iload_n (p2 := 91) rfl rfl rfl ?_
              refine te_iconst (p2 := 92) (x := 1) rfl rfl (by decide) ?_
              refine te_iadd (p2 := 93) (z := 2) rfl rfl (by decide) ?_
              refine te_istore (p2 := 95) (lv2 := [(5, .int 2), (4, .int g1), (3, .int 1), (2, .int 1), (0, .ref 164), (1, .int 5)]) rfl rfl (by decide) rfl ?_
              refine te_iload_n (p2 := 96) rfl rfl rfl ?_
              refine te_iconst (p2 := 97) (x := 1) rfl rfl (by decide) ?_
              refine te_isub (p2 := 98) (z := 4) rfl rfl (by decide) ?_
              refine te_istore (p2 := 100) (lv2 := [(6, .int 4), (5, .int 2), (4, .int g1), (3, .int 1), (2, .int 1), (0, .ref 164), (1, .int 5)]) rfl rfl (by decide) rfl ?_
              refine te_iload (p2 := 102) rfl rfl rfl ?_
              refine te_iload (p2 := 104) rfl rfl rfl ?_
              refine tb_ge (p2 := 107) rfl rfl (show Int32.toInt 2 = 2 from rfl) (show Int32.toInt 4 = 4 from rfl) (fun c162 => absurd c162 (by omega)) (fun c162 => ?_)
              refine te_aload_n (p2 := 108) rfl rfl rfl ?_
              refine tg_r (p2 := 111) (i := 148) (r := 215) rfl rfl I159 rfl rfl rfl ?_
              refine te_iload (p2 := 113) rfl rfl rfl ?_
              refine tl_e (p2 := 114) (i := 199) (n := 6) (t := 0) (Or.inl rfl) rfl rfl I159 rfl rfl (by decide) (by decide) ((u159.2 _ _ (Or.inr (by decide))).trans ((u158.2 _ _ (Or.inr (by decide))).trans hg2)) ?_
              refine te_istore (p2 := 116) (lv2 := [(7, .int g2), (6, .int 4), (5, .int 2), (4, .int g1), (3, .int 1), (2, .int 1), (0, .ref 164), (1, .int 5)]) rfl rfl (by decide) rfl ?_
              refine te_aload_n (p2 := 117) rfl rfl rfl ?_
              refine tg_r (p2 := 120) (i := 148) (r := 215) rfl rfl I159 rfl rfl rfl ?_
              refine te_iload (p2 := 122) rfl rfl rfl ?_
              refine te_aload_n (p2 := 123) rfl rfl rfl ?_
              refine tg_r (p2 := 126) (i := 148) (r := 215) rfl rfl I159 rfl rfl rfl ?_
              refine te_iload (p2 := 128) rfl rfl rfl ?_
              refine tl_e (p2 := 129) (i := 199) (n := 6) (t := 0) (Or.inl rfl) rfl rfl I159 rfl rfl (by decide) (by decide) ((u159.2 _ _ (Or.inr (by decide))).trans ((u158.2 _ _ (Or.inr (by decide))).trans hg4)) ?_
              refine ts_i (p2 := 130) (i := 199) (n := 6) rfl rfl I159 rfl rfl rfl rfl (by decide) (by decide) (by omega) (by omega) (by omega) rfl (fun h165 I165 u165 => ?_)
              have f165 := fr_st (F := F_X12_nextOrder_5) 0 f159 u165 rfl (by decide) (by decide)
              refine te_aload_n (p2 := 131) rfl rfl rfl ?_
              refine tg_r (p2 := 134) (i := 148) (r := 215) rfl rfl I165 rfl rfl rfl ?_
              refine te_iload (p2 := 136) rfl rfl rfl ?_
              refine te_iload (p2 := 138) rfl rfl rfl ?_
              refine ts_i (p2 := 139) (i := 199) (n := 6) rfl rfl I165 rfl rfl rfl rfl (by decide) (by decide) (by omega) (by omega) (by omega) rfl (fun h166 I166 u166 => ?_)
              have f166 := fr_st (F := F_X12_nextOrder_5) 0 f165 u166 rfl (by decide) (by decide)
              refine te_iinc (p2 := 142) (x := 4) (y := 3) (lv2 := [(6, .int 3), (7, .int g2), (5, .int 2), (4, .int g1), (3, .int 1), (2, .int 1), (0, .ref 164), (1, .int 5)]) rfl rfl (by decide) rfl (by decide) rfl ?_
              refine te_iinc (p2 := 145) (x := 2) (y := 3) (lv2 := [(5, .int 3), (6, .int 3), (7, .int g2), (4, .int g1), (3, .int 1), (2, .int 1), (0, .ref 164), (1, .int 5)]) rfl rfl (by decide) rfl (by decide) rfl ?_
              refine te_goto rfl ?_
              refine te_iload (p2 := 102) rfl rfl rfl ?_
              refine te_iload (p2 := 104) rfl rfl rfl ?_
              refine tb_ge (p2 := 107) rfl rfl (show Int32.toInt 3 = 3 from rfl) (show Int32.toInt 3 = 3 from rfl) (fun c169 => ?_) (fun c169 => absurd c169 (by omega))
              refine te_iconst (p2 := 149) (x := 1) rfl rfl (by decide) ?_
              exact te_zret rfl rfl (by decide) ⟨I166, f166, _, rfl, Or.inr ⟨rfl, (by rw [pq_xe5, on6_5, (pq_of (k := 0) hg0 : pq_n h 199 0 = g0.toInt.toNat), (pq_of (k := 1) hg1 : pq_n h 199 1 = g1.toInt.toNat), (pq_of (k := 2) hg2 : pq_n h 199 2 = g2.toInt.toNat), (pq_of (k := 3) hg3 : pq_n h 199 3 = g3.toInt.toNat), (pq_of (k := 4) hg4 : pq_n h 199 4 = g4.toInt.toNat), (pq_of (k := 0) ((u166.2 _ _ (Or.inr (by decide))).trans ((u165.2 _ _ (Or.inr (by decide))).trans ((u159.2 _ _ (Or.inr (by decide))).trans ((u158.2 _ _ (Or.inr (by decide))).trans hg0)))) : pq_n h166 199 0 = g0.toInt.toNat), (pq_of (k := 1) ((u166.2 _ _ (Or.inr (by decide))).trans ((u165.2 _ _ (Or.inr (by decide))).trans u159.1)) : pq_n h166 199 1 = g1.toInt.toNat), (pq_of (k := 2) ((u166.2 _ _ (Or.inr (by decide))).trans u165.1) : pq_n h166 199 2 = g4.toInt.toNat), (pq_of (k := 3) ((u166.2 _ _ (Or.inr (by decide))).trans ((u165.2 _ _ (Or.inr (by decide))).trans ((u159.2 _ _ (Or.inr (by decide))).trans ((u158.2 _ _ (Or.inr (by decide))).trans hg3)))) : pq_n h166 199 3 = g3.toInt.toNat), (pq_of (k := 4) u166.1 : pq_n h166 199 4 = g2.toInt.toNat)]; unfold pq_x5; rw [if_pos (by omega), if_pos (by omega), if_neg (by omega), if_pos (by omega), if_pos (by omega), if_pos (by omega)]), g0, g1, g4, g3, g2, g5, ((u166.2 _ _ (Or.inr (by decide))).trans ((u165.2 _ _ (Or.inr (by decide))).trans ((u159.2 _ _ (Or.inr (by decide))).trans ((u158.2 _ _ (Or.inr (by decide))).trans hg0)))), ((u166.2 _ _ (Or.inr (by decide))).trans ((u165.2 _ _ (Or.inr (by decide))).trans u159.1)), ((u166.2 _ _ (Or.inr (by decide))).trans u165.1), ((u166.2 _ _ (Or.inr (by decide))).trans ((u165.2 _ _ (Or.inr (by decide))).trans ((u159.2 _ _ (Or.inr (by decide))).trans ((u158.2 _ _ (Or.inr (by decide))).trans hg3)))), u166.1, ((u166.2 _ _ (Or.inr (by decide))).trans ((u165.2 _ _ (Or.inr (by decide))).trans ((u159.2 _ _ (Or.inr (by decide))).trans ((u158.2 _ _ (Or.inr (by decide))).trans hg5)))), (by unfold prm; omega), (by unfold lexV; omega)⟩⟩
      · refine te_iinc (p2 := 28) (x := 1) (y := 0) (lv2 := [(2, .int 0), (0, .ref 164), (1, .int 5)]) rfl rfl (by decide) rfl (by decide) rfl ?_
        refine te_goto rfl ?_
        refine te_iload_n (p2 := 5) rfl rfl rfl ?_
        refine tz_lt (p2 := 8) rfl rfl (show Int32.toInt 0 = 0 from rfl) (fun c171 => absurd c171 (by omega)) (fun c171 => ?_)
        refine te_aload_n (p2 := 9) rfl rfl rfl ?_
        refine tg_r (p2 := 12) (i := 148) (r := 215) rfl rfl hI rfl rfl rfl ?_
        refine te_iload_n (p2 := 13) rfl rfl rfl ?_
        refine tl_e (p2 := 14) (i := 199) (n := 6) (t := 0) (Or.inl rfl) rfl rfl hI rfl rfl (by decide) (by decide) hg0 ?_
        refine te_aload_n (p2 := 15) rfl rfl rfl ?_
        refine tg_r (p2 := 18) (i := 148) (r := 215) rfl rfl hI rfl rfl rfl ?_
        refine te_iload_n (p2 := 19) rfl rfl rfl ?_
        refine te_iconst (p2 := 20) (x := 1) rfl rfl (by decide) ?_
        refine te_iadd (p2 := 21) (z := 1) rfl rfl (by decide) ?_
        refine tl_e (p2 := 22) (i := 199) (n := 6) (t := 0) (Or.inl rfl) rfl rfl hI rfl rfl (by decide) (by decide) hg1 ?_
        refine tb_le (p2 := 25) rfl rfl rfl rfl (fun c175 => ?_) (fun c175 => ?_)
        · refine te_iload_n (p2 := 32) rfl rfl rfl ?_
          refine tz_ge (p2 := 35) rfl rfl (show Int32.toInt 0 = 0 from rfl) (fun c176 => ?_) (fun c176 => absurd c176 (by omega))
          refine te_iload_n (p2 := 38) rfl rfl rfl ?_
          refine te_iconst (p2 := 39) (x := 1) rfl rfl (by decide) ?_
          refine te_isub (p2 := 40) (z := 4) rfl rfl (by decide) ?_
          refine te_istore_n (p2 := 41) (lv2 := [(3, .int 4), (2, .int 0), (0, .ref 164), (1, .int 5)]) rfl rfl (by decide) rfl ?_
          refine te_aload_n (p2 := 42) rfl rfl rfl ?_
          refine tg_r (p2 := 45) (i := 148) (r := 215) rfl rfl hI rfl rfl rfl ?_
          refine te_iload_n (p2 := 46) rfl rfl rfl ?_
          refine tl_e (p2 := 47) (i := 199) (n := 6) (t := 0) (Or.inl rfl) rfl rfl hI rfl rfl (by decide) (by decide) hg4 ?_
          refine te_aload_n (p2 := 48) rfl rfl rfl ?_
          refine tg_r (p2 := 51) (i := 148) (r := 215) rfl rfl hI rfl rfl rfl ?_
          refine te_iload_n (p2 := 52) rfl rfl rfl ?_
          refine tl_e (p2 := 53) (i := 199) (n := 6) (t := 0) (Or.inl rfl) rfl rfl hI rfl rfl (by decide) (by decide) hg0 ?_
          refine tb_ge (p2 := 56) rfl rfl rfl rfl (fun c180 => ?_) (fun c180 => ?_)
          · refine te_aload_n (p2 := 63) rfl rfl rfl ?_
            refine tg_r (p2 := 66) (i := 148) (r := 215) rfl rfl hI rfl rfl rfl ?_
            refine te_iload_n (p2 := 67) rfl rfl rfl ?_
            refine tl_e (p2 := 68) (i := 199) (n := 6) (t := 0) (Or.inl rfl) rfl rfl hI rfl rfl (by decide) (by decide) hg0 ?_
            refine te_istore (p2 := 70) (lv2 := [(4, .int g0), (3, .int 4), (2, .int 0), (0, .ref 164), (1, .int 5)]) rfl rfl (by decide) rfl ?_
            refine te_aload_n (p2 := 71) rfl rfl rfl ?_
            refine tg_r (p2 := 74) (i := 148) (r := 215) rfl rfl hI rfl rfl rfl ?_
            refine te_iload_n (p2 := 75) rfl rfl rfl ?_
            refine te_aload_n (p2 := 76) rfl rfl rfl ?_
            refine tg_r (p2 := 79) (i := 148) (r := 215) rfl rfl hI rfl rfl rfl ?_
            refine te_iload_n (p2 := 80) rfl rfl rfl ?_
            refine tl_e (p2 := 81) (i := 199) (n := 6) (t := 0) (Or.inl rfl) rfl rfl hI rfl rfl (by decide) (by decide) hg4 ?_
            refine ts_i (p2 := 82) (i := 199) (n := 6) rfl rfl hI rfl rfl rfl rfl (by decide) (by decide) (by omega) (by omega) (by omega) rfl (fun h183 I183 u183 => ?_)
            have f183 := fr_st (F := F_X12_nextOrder_5) 0 f0 u183 rfl (by decide) (by decide)
            refine te_aload_n (p2 := 83) rfl rfl rfl ?_
            refine tg_r (p2 := 86) (i := 148) (r := 215) rfl rfl I183 rfl rfl rfl ?_
            refine te_iload_n (p2 := 87) rfl rfl rfl ?_
            refine te_iload (p2 := 89) rfl rfl rfl ?_
            refine ts_i (p2 := 90) (i := 199) (n := 6) rfl rfl I183 rfl rfl rfl rfl (by decide) (by decide) (by omega) (by omega) (by omega) rfl (fun h184 I184 u184 => ?_)
            have f184 := fr_st (F := F_X12_nextOrder_5) 0 f183 u184 rfl (by decide) (by decide)
            refine te_iload_n (p2 := 91) rfl rfl rfl ?_
            refine te_iconst (p2 := 92) (x := 1) rfl rfl (by decide) ?_
            refine te_iadd (p2 := 93) (z := 1) rfl rfl (by decide) ?_
            refine te_istore (p2 := 95) (lv2 := [(5, .int 1), (4, .int g0), (3, .int 4), (2, .int 0), (0, .ref 164), (1, .int 5)]) rfl rfl (by decide) rfl ?_
            refine te_iload_n (p2 := 96) rfl rfl rfl ?_
            refine te_iconst (p2 := 97) (x := 1) rfl rfl (by decide) ?_
            refine te_isub (p2 := 98) (z := 4) rfl rfl (by decide) ?_
            refine te_istore (p2 := 100) (lv2 := [(6, .int 4), (5, .int 1), (4, .int g0), (3, .int 4), (2, .int 0), (0, .ref 164), (1, .int 5)]) rfl rfl (by decide) rfl ?_
            refine te_iload (p2 := 102) rfl rfl rfl ?_
            refine te_iload (p2 := 104) rfl rfl rfl ?_
            refine tb_ge (p2 := 107) rfl rfl (show Int32.toInt 1 = 1 from rfl) (show Int32.toInt 4 = 4 from rfl) (fun c187 => absurd c187 (by omega)) (fun c187 => ?_)
            refine te_aload_n (p2 := 108) rfl rfl rfl ?_
            refine tg_r (p2 := 111) (i := 148) (r := 215) rfl rfl I184 rfl rfl rfl ?_
            refine te_iload (p2 := 113) rfl rfl rfl ?_
            refine tl_e (p2 := 114) (i := 199) (n := 6) (t := 0) (Or.inl rfl) rfl rfl I184 rfl rfl (by decide) (by decide) ((u184.2 _ _ (Or.inr (by decide))).trans ((u183.2 _ _ (Or.inr (by decide))).trans hg1)) ?_
            refine te_istore (p2 := 116) (lv2 := [(7, .int g1), (6, .int 4), (5, .int 1), (4, .int g0), (3, .int 4), (2, .int 0), (0, .ref 164), (1, .int 5)]) rfl rfl (by decide) rfl ?_
            refine te_aload_n (p2 := 117) rfl rfl rfl ?_
            refine tg_r (p2 := 120) (i := 148) (r := 215) rfl rfl I184 rfl rfl rfl ?_
            refine te_iload (p2 := 122) rfl rfl rfl ?_
            refine te_aload_n (p2 := 123) rfl rfl rfl ?_
            refine tg_r (p2 := 126) (i := 148) (r := 215) rfl rfl I184 rfl rfl rfl ?_
            refine te_iload (p2 := 128) rfl rfl rfl ?_
            refine tl_e (p2 := 129) (i := 199) (n := 6) (t := 0) (Or.inl rfl) rfl rfl I184 rfl rfl (by decide) (by decide) u184.1 ?_
            refine ts_i (p2 := 130) (i := 199) (n := 6) rfl rfl I184 rfl rfl rfl rfl (by decide) (by decide) (by omega) (by omega) (by omega) rfl (fun h190 I190 u190 => ?_)
            have f190 := fr_st (F := F_X12_nextOrder_5) 0 f184 u190 rfl (by decide) (by decide)
            refine te_aload_n (p2 := 131) rfl rfl rfl ?_
            refine tg_r (p2 := 134) (i := 148) (r := 215) rfl rfl I190 rfl rfl rfl ?_
            refine te_iload (p2 := 136) rfl rfl rfl ?_
            refine te_iload (p2 := 138) rfl rfl rfl ?_
            refine ts_i (p2 := 139) (i := 199) (n := 6) rfl rfl I190 rfl rfl rfl rfl (by decide) (by decide) (by omega) (by omega) (by omega) rfl (fun h191 I191 u191 => ?_)
            have f191 := fr_st (F := F_X12_nextOrder_5) 0 f190 u191 rfl (by decide) (by decide)
            refine te_iinc (p2 := 142) (x := 4) (y := 3) (lv2 := [(6, .int 3), (7, .int g1), (5, .int 1), (4, .int g0), (3, .int 4), (2, .int 0), (0, .ref 164), (1, .int 5)]) rfl rfl (by decide) rfl (by decide) rfl ?_
            refine te_iinc (p2 := 145) (x := 1) (y := 2) (lv2 := [(5, .int 2), (6, .int 3), (7, .int g1), (4, .int g0), (3, .int 4), (2, .int 0), (0, .ref 164), (1, .int 5)]) rfl rfl (by decide) rfl (by decide) rfl ?_
            refine te_goto rfl ?_
            refine te_iload (p2 := 102) rfl rfl rfl ?_
            refine te_iload (p2 := 104) rfl rfl rfl ?_
            refine tb_ge (p2 := 107) rfl rfl (show Int32.toInt 2 = 2 from rfl) (show Int32.toInt 3 = 3 from rfl) (fun c194 => absurd c194 (by omega)) (fun c194 => ?_)
            refine te_aload_n (p2 := 108) rfl rfl rfl ?_
            refine tg_r (p2 := 111) (i := 148) (r := 215) rfl rfl I191 rfl rfl rfl ?_
            refine te_iload (p2 := 113) rfl rfl rfl ?_
            refine tl_e (p2 := 114) (i := 199) (n := 6) (t := 0) (Or.inl rfl) rfl rfl I191 rfl rfl (by decide) (by decide) ((u191.2 _ _ (Or.inr (by decide))).trans ((u190.2 _ _ (Or.inr (by decide))).trans ((u184.2 _ _ (Or.inr (by decide))).trans ((u183.2 _ _ (Or.inr (by decide))).trans hg2)))) ?_
            refine te_istore (p2 := 116) (lv2 := [(7, .int g2), (5, .int 2), (6, .int 3), (4, .int g0), (3, .int 4), (2, .int 0), (0, .ref 164), (1, .int 5)]) rfl rfl (by decide) rfl ?_
            refine te_aload_n (p2 := 117) rfl rfl rfl ?_
            refine tg_r (p2 := 120) (i := 148) (r := 215) rfl rfl I191 rfl rfl rfl ?_
            refine te_iload (p2 := 122) rfl rfl rfl ?_
            refine te_aload_n (p2 := 123) rfl rfl rfl ?_
            refine tg_r (p2 := 126) (i := 148) (r := 215) rfl rfl I191 rfl rfl rfl ?_
            refine te_iload (p2 := 128) rfl rfl rfl ?_
            refine tl_e (p2 := 129) (i := 199) (n := 6) (t := 0) (Or.inl rfl) rfl rfl I191 rfl rfl (by decide) (by decide) ((u191.2 _ _ (Or.inr (by decide))).trans ((u190.2 _ _ (Or.inr (by decide))).trans ((u184.2 _ _ (Or.inr (by decide))).trans ((u183.2 _ _ (Or.inr (by decide))).trans hg3)))) ?_
            refine ts_i (p2 := 130) (i := 199) (n := 6) rfl rfl I191 rfl rfl rfl rfl (by decide) (by decide) (by omega) (by omega) (by omega) rfl (fun h197 I197 u197 => ?_)
            have f197 := fr_st (F := F_X12_nextOrder_5) 0 f191 u197 rfl (by decide) (by decide)
            refine te_aload_n (p2 := 131) rfl rfl rfl ?_
            refine tg_r (p2 := 134) (i := 148) (r := 215) rfl rfl I197 rfl rfl rfl ?_
            refine te_iload (p2 := 136) rfl rfl rfl ?_
            refine te_iload (p2 := 138) rfl rfl rfl ?_
            refine ts_i (p2 := 139) (i := 199) (n := 6) rfl rfl I197 rfl rfl rfl rfl (by decide) (by decide) (by omega) (by omega) (by omega) rfl (fun h198 I198 u198 => ?_)
            have f198 := fr_st (F := F_X12_nextOrder_5) 0 f197 u198 rfl (by decide) (by decide)
            refine te_iinc (p2 := 142) (x := 3) (y := 2) (lv2 := [(6, .int 2), (7, .int g2), (5, .int 2), (4, .int g0), (3, .int 4), (2, .int 0), (0, .ref 164), (1, .int 5)]) rfl rfl (by decide) rfl (by decide) rfl ?_
            refine te_iinc (p2 := 145) (x := 2) (y := 3) (lv2 := [(5, .int 3), (6, .int 2), (7, .int g2), (4, .int g0), (3, .int 4), (2, .int 0), (0, .ref 164), (1, .int 5)]) rfl rfl (by decide) rfl (by decide) rfl ?_
            refine te_goto rfl ?_
            refine te_iload (p2 := 102) rfl rfl rfl ?_
            refine te_iload (p2 := 104) rfl rfl rfl ?_
            refine tb_ge (p2 := 107) rfl rfl (show Int32.toInt 3 = 3 from rfl) (show Int32.toInt 2 = 2 from rfl) (fun c201 => ?_) (fun c201 => absurd c201 (by omega))
            refine te_iconst (p2 := 149) (x := 1) rfl rfl (by decide) ?_
            exact te_zret rfl rfl (by decide) ⟨I198, f198, _, rfl, Or.inr ⟨rfl, (by rw [pq_xe5, on6_5, (pq_of (k := 0) hg0 : pq_n h 199 0 = g0.toInt.toNat), (pq_of (k := 1) hg1 : pq_n h 199 1 = g1.toInt.toNat), (pq_of (k := 2) hg2 : pq_n h 199 2 = g2.toInt.toNat), (pq_of (k := 3) hg3 : pq_n h 199 3 = g3.toInt.toNat), (pq_of (k := 4) hg4 : pq_n h 199 4 = g4.toInt.toNat), (pq_of (k := 0) ((u198.2 _ _ (Or.inr (by decide))).trans ((u197.2 _ _ (Or.inr (by decide))).trans ((u191.2 _ _ (Or.inr (by decide))).trans ((u190.2 _ _ (Or.inr (by decide))).trans ((u184.2 _ _ (Or.inr (by decide))).trans u183.1))))) : pq_n h198 199 0 = g4.toInt.toNat), (pq_of (k := 1) ((u198.2 _ _ (Or.inr (by decide))).trans ((u197.2 _ _ (Or.inr (by decide))).trans ((u191.2 _ _ (Or.inr (by decide))).trans u190.1))) : pq_n h198 199 1 = g0.toInt.toNat), (pq_of (k := 2) ((u198.2 _ _ (Or.inr (by decide))).trans u197.1) : pq_n h198 199 2 = g3.toInt.toNat), (pq_of (k := 3) u198.1 : pq_n h198 199 3 = g2.toInt.toNat), (pq_of (k := 4) ((u198.2 _ _ (Or.inr (by decide))).trans ((u197.2 _ _ (Or.inr (by decide))).trans u191.1)) : pq_n h198 199 4 = g1.toInt.toNat)]; unfold pq_x5; rw [if_pos (by omega), if_pos (by omega), if_pos (by omega), if_neg (by omega), if_neg (by omega)]), g4, g0, g3, g2, g1, g5, ((u198.2 _ _ (Or.inr (by decide))).trans ((u197.2 _ _ (Or.inr (by decide))).trans ((u191.2 _ _ (Or.inr (by decide))).trans ((u190.2 _ _ (Or.inr (by decide))).trans ((u184.2 _ _ (Or.inr (by decide))).trans u183.1))))), ((u198.2 _ _ (Or.inr (by decide))).trans ((u197.2 _ _ (Or.inr (by decide))).trans ((u191.2 _ _ (Or.inr (by decide))).trans u190.1))), ((u198.2 _ _ (Or.inr (by decide))).trans u197.1), u198.1, ((u198.2 _ _ (Or.inr (by decide))).trans ((u197.2 _ _ (Or.inr (by decide))).trans u191.1)), ((u198.2 _ _ (Or.inr (by decide))).trans ((u197.2 _ _ (Or.inr (by decide))).trans ((u191.2 _ _ (Or.inr (by decide))).trans ((u190.2 _ _ (Or.inr (by decide))).trans ((u184.2 _ _ (Or.inr (by decide))).trans ((u183.2 _ _ (Or.inr (by decide))).trans hg5)))))), (by unfold prm; omega), (by unfold lexV; omega)⟩⟩
          · refine te_iinc (p2 := 59) (x := 4) (y := 3) (lv2 := [(3, .int 3), (2, .int 0), (0, .ref 164), (1, .int 5)]) rfl rfl (by decide) rfl (by decide) rfl ?_
            refine te_goto rfl ?_
            refine te_aload_n (p2 := 42) rfl rfl rfl ?_
            refine tg_r (p2 := 45) (i := 148) (r := 215) rfl rfl hI rfl rfl rfl ?_
            refine te_iload_n (p2 := 46) rfl rfl rfl ?_
            refine tl_e (p2 := 47) (i := 199) (n := 6) (t := 0) (Or.inl rfl) rfl rfl hI rfl rfl (by decide) (by decide) hg3 ?_
            refine te_aload_n (p2 := 48) rfl rfl rfl ?_
            refine tg_r (p2 := 51) (i := 148) (r := 215) rfl rfl hI rfl rfl rfl ?_
            refine te_iload_n (p2 := 52) rfl rfl rfl ?_
            refine tl_e (p2 := 53) (i := 199) (n := 6) (t := 0) (Or.inl rfl) rfl rfl hI rfl rfl (by decide) (by decide) hg0 ?_
            refine tb_ge (p2 := 56) rfl rfl rfl rfl (fun c205 => ?_) (fun c205 => ?_)
            · refine te_aload_n (p2 := 63) rfl rfl rfl ?_
              refine tg_r (p2 := 66) (i := 148) (r := 215) rfl rfl hI rfl rfl rfl ?_
              refine te_iload_n (p2 := 67) rfl rfl rfl ?_
              refine tl_e (p2 := 68) (i := 199) (n := 6) (t := 0) (Or.inl rfl) rfl rfl hI rfl rfl (by decide) (by decide) hg0 ?_
              refine te_istore (p2 := 70) (lv2 := [(4, .int g0), (3, .int 3), (2, .int 0), (0, .ref 164), (1, .int 5)]) rfl rfl (by decide) rfl ?_
              refine te_aload_n (p2 := 71) rfl rfl rfl ?_
              refine tg_r (p2 := 74) (i := 148) (r := 215) rfl rfl hI rfl rfl rfl ?_
              refine te_iload_n (p2 := 75) rfl rfl rfl ?_
              refine te_aload_n (p2 := 76) rfl rfl rfl ?_
              refine tg_r (p2 := 79) (i := 148) (r := 215) rfl rfl hI rfl rfl rfl ?_
              refine te_iload_n (p2 := 80) rfl rfl rfl ?_
              refine tl_e (p2 := 81) (i := 199) (n := 6) (t := 0) (Or.inl rfl) rfl rfl hI rfl rfl (by decide) (by decide) hg3 ?_
              refine ts_i (p2 := 82) (i := 199) (n := 6) rfl rfl hI rfl rfl rfl rfl (by decide) (by decide) (by omega) (by omega) (by omega) rfl (fun h208 I208 u208 => ?_)
              have f208 := fr_st (F := F_X12_nextOrder_5) 0 f0 u208 rfl (by decide) (by decide)
              refine te_aload_n (p2 := 83) rfl rfl rfl ?_
              refine tg_r (p2 := 86) (i := 148) (r := 215) rfl rfl I208 rfl rfl rfl ?_
              refine te_iload_n (p2 := 87) rfl rfl rfl ?_
              refine te_iload (p2 := 89) rfl rfl rfl ?_
              refine ts_i (p2 := 90) (i := 199) (n := 6) rfl rfl I208 rfl rfl rfl rfl (by decide) (by decide) (by omega) (by omega) (by omega) rfl (fun h209 I209 u209 => ?_)
              have f209 := fr_st (F := F_X12_nextOrder_5) 0 f208 u209 rfl (by decide) (by decide)
              refine te_iload_n (p2 := 91) rfl rfl rfl ?_
              refine te_iconst (p2 := 92) (x := 1) rfl rfl (by decide) ?_
              refine te_iadd (p2 := 93) (z := 1) rfl rfl (by decide) ?_
              refine te_istore (p2 := 95) (lv2 := [(5, .int 1), (4, .int g0), (3, .int 3), (2, .int 0), (0, .ref 164), (1, .int 5)]) rfl rfl (by decide) rfl ?_
              refine te_iload_n (p2 := 96) rfl rfl rfl ?_
              refine te_iconst (p2 := 97) (x := 1) rfl rfl (by decide) ?_
              refine te_isub (p2 := 98) (z := 4) rfl rfl (by decide) ?_
              refine te_istore (p2 := 100) (lv2 := [(6, .int 4), (5, .int 1), (4, .int g0), (3, .int 3), (2, .int 0), (0, .ref 164), (1, .int 5)]) rfl rfl (by decide) rfl ?_
              refine te_iload (p2 := 102) rfl rfl rfl ?_
              refine te_iload (p2 := 104) rfl rfl rfl ?_
              refine tb_ge (p2 := 107) rfl rfl (show Int32.toInt 1 = 1 from rfl) (show Int32.toInt 4 = 4 from rfl) (fun c212 => absurd c212 (by omega)) (fun c212 => ?_)
              refine te_aload_n (p2 := 108) rfl rfl rfl ?_
              refine tg_r (p2 := 111) (i := 148) (r := 215) rfl rfl I209 rfl rfl rfl ?_
              refine te_iload (p2 := 113) rfl rfl rfl ?_
              refine tl_e (p2 := 114) (i := 199) (n := 6) (t := 0) (Or.inl rfl) rfl rfl I209 rfl rfl (by decide) (by decide) ((u209.2 _ _ (Or.inr (by decide))).trans ((u208.2 _ _ (Or.inr (by decide))).trans hg1)) ?_
              refine te_istore (p2 := 116) (lv2 := [(7, .int g1), (6, .int 4), (5, .int 1), (4, .int g0), (3, .int 3), (2, .int 0), (0, .ref 164), (1, .int 5)]) rfl rfl (by decide) rfl ?_
              refine te_aload_n (p2 := 117) rfl rfl rfl ?_
              refine tg_r (p2 := 120) (i := 148) (r := 215) rfl rfl I209 rfl rfl rfl ?_
              refine te_iload (p2 := 122) rfl rfl rfl ?_
              refine te_aload_n (p2 := 123) rfl rfl rfl ?_
              refine tg_r (p2 := 126) (i := 148) (r := 215) rfl rfl I209 rfl rfl rfl ?_
              refine te_iload (p2 := 128) rfl rfl rfl ?_
              refine tl_e (p2 := 129) (i := 199) (n := 6) (t := 0) (Or.inl rfl) rfl rfl I209 rfl rfl (by decide) (by decide) ((u209.2 _ _ (Or.inr (by decide))).trans ((u208.2 _ _ (Or.inr (by decide))).trans hg4)) ?_
              refine ts_i (p2 := 130) (i := 199) (n := 6) rfl rfl I209 rfl rfl rfl rfl (by decide) (by decide) (by omega) (by omega) (by omega) rfl (fun h215 I215 u215 => ?_)
              have f215 := fr_st (F := F_X12_nextOrder_5) 0 f209 u215 rfl (by decide) (by decide)
              refine te_aload_n (p2 := 131) rfl rfl rfl ?_
              refine tg_r (p2 := 134) (i := 148) (r := 215) rfl rfl I215 rfl rfl rfl ?_
              refine te_iload (p2 := 136) rfl rfl rfl ?_
              refine te_iload (p2 := 138) rfl rfl rfl ?_
              refine ts_i (p2 := 139) (i := 199) (n := 6) rfl rfl I215 rfl rfl rfl rfl (by decide) (by decide) (by omega) (by omega) (by omega) rfl (fun h216 I216 u216 => ?_)
              have f216 := fr_st (F := F_X12_nextOrder_5) 0 f215 u216 rfl (by decide) (by decide)
              refine te_iinc (p2 := 142) (x := 4) (y := 3) (lv2 := [(6, .int 3), (7, .int g1), (5, .int 1), (4, .int g0), (3, .int 3), (2, .int 0), (0, .ref 164), (1, .int 5)]) rfl rfl (by decide) rfl (by decide) rfl ?_
              refine te_iinc (p2 := 145) (x := 1) (y := 2) (lv2 := [(5, .int 2), (6, .int 3), (7, .int g1), (4, .int g0), (3, .int 3), (2, .int 0), (0, .ref 164), (1, .int 5)]) rfl rfl (by decide) rfl (by decide) rfl ?_
              refine te_goto rfl ?_
              refine te_iload (p2 := 102) rfl rfl rfl ?_
              refine te_iload (p2 := 104) rfl rfl rfl ?_
              refine tb_ge (p2 := 107) rfl rfl (show Int32.toInt 2 = 2 from rfl) (show Int32.toInt 3 = 3 from rfl) (fun c219 => absurd c219 (by omega)) (fun c219 => ?_)
              refine te_aload_n (p2 := 108) rfl rfl rfl ?_
              refine tg_r (p2 := 111) (i := 148) (r := 215) rfl rfl I216 rfl rfl rfl ?_
              refine te_iload (p2 := 113) rfl rfl rfl ?_
              refine tl_e (p2 := 114) (i := 199) (n := 6) (t := 0) (Or.inl rfl) rfl rfl I216 rfl rfl (by decide) (by decide) ((u216.2 _ _ (Or.inr (by decide))).trans ((u215.2 _ _ (Or.inr (by decide))).trans ((u209.2 _ _ (Or.inr (by decide))).trans ((u208.2 _ _ (Or.inr (by decide))).trans hg2)))) ?_
              refine te_istore (p2 := 116) (lv2 := [(7, .int g2), (5, .int 2), (6, .int 3), (4, .int g0), (3, .int 3), (2, .int 0), (0, .ref 164), (1, .int 5)]) rfl rfl (by decide) rfl ?_
              refine te_aload_n (p2 := 117) rfl rfl rfl ?_
              refine tg_r (p2 := 120) (i := 148) (r := 215) rfl rfl I216 rfl rfl rfl ?_
              refine te_iload (p2 := 122) rfl rfl rfl ?_
              refine te_aload_n (p2 := 123) rfl rfl rfl ?_
              refine tg_r (p2 := 126) (i := 148) (r := 215) rfl rfl I216 rfl rfl rfl ?_
              refine te_iload (p2 := 128) rfl rfl rfl ?_
              refine tl_e (p2 := 129) (i := 199) (n := 6) (t := 0) (Or.inl rfl) rfl rfl I216 rfl rfl (by decide) (by decide) ((u216.2 _ _ (Or.inr (by decide))).trans ((u215.2 _ _ (Or.inr (by decide))).trans u209.1)) ?_
              refine ts_i (p2 := 130) (i := 199) (n := 6) rfl rfl I216 rfl rfl rfl rfl (by decide) (by decide) (by omega) (by omega) (by omega) rfl (fun h222 I222 u222 => ?_)
              have f222 := fr_st (F := F_X12_nextOrder_5) 0 f216 u222 rfl (by decide) (by decide)
              refine te_aload_n (p2 := 131) rfl rfl rfl ?_
              refine tg_r (p2 := 134) (i := 148) (r := 215) rfl rfl I222 rfl rfl rfl ?_
              refine te_iload (p2 := 136) rfl rfl rfl ?_
              refine te_iload (p2 := 138) rfl rfl rfl ?_
              refine ts_i (p2 := 139) (i := 199) (n := 6) rfl rfl I222 rfl rfl rfl rfl (by decide) (by decide) (by omega) (by omega) (by omega) rfl (fun h223 I223 u223 => ?_)
              have f223 := fr_st (F := F_X12_nextOrder_5) 0 f222 u223 rfl (by decide) (by decide)
              refine te_iinc (p2 := 142) (x := 3) (y := 2) (lv2 := [(6, .int 2), (7, .int g2), (5, .int 2), (4, .int g0), (3, .int 3), (2, .int 0), (0, .ref 164), (1, .int 5)]) rfl rfl (by decide) rfl (by decide) rfl ?_
              refine te_iinc (p2 := 145) (x := 2) (y := 3) (lv2 := [(5, .int 3), (6, .int 2), (7, .int g2), (4, .int g0), (3, .int 3), (2, .int 0), (0, .ref 164), (1, .int 5)]) rfl rfl (by decide) rfl (by decide) rfl ?_
              refine te_goto rfl ?_
              refine te_iload (p2 := 102) rfl rfl rfl ?_
              refine te_iload (p2 := 104) rfl rfl rfl ?_
              refine tb_ge (p2 := 107) rfl rfl (show Int32.toInt 3 = 3 from rfl) (show Int32.toInt 2 = 2 from rfl) (fun c226 => ?_) (fun c226 => absurd c226 (by omega))
              refine te_iconst (p2 := 149) (x := 1) rfl rfl (by decide) ?_
              exact te_zret rfl rfl (by decide) ⟨I223, f223, _, rfl, Or.inr ⟨rfl, (by rw [pq_xe5, on6_5, (pq_of (k := 0) hg0 : pq_n h 199 0 = g0.toInt.toNat), (pq_of (k := 1) hg1 : pq_n h 199 1 = g1.toInt.toNat), (pq_of (k := 2) hg2 : pq_n h 199 2 = g2.toInt.toNat), (pq_of (k := 3) hg3 : pq_n h 199 3 = g3.toInt.toNat), (pq_of (k := 4) hg4 : pq_n h 199 4 = g4.toInt.toNat), (pq_of (k := 0) ((u223.2 _ _ (Or.inr (by decide))).trans ((u222.2 _ _ (Or.inr (by decide))).trans ((u216.2 _ _ (Or.inr (by decide))).trans ((u215.2 _ _ (Or.inr (by decide))).trans ((u209.2 _ _ (Or.inr (by decide))).trans u208.1))))) : pq_n h223 199 0 = g3.toInt.toNat), (pq_of (k := 1) ((u223.2 _ _ (Or.inr (by decide))).trans ((u222.2 _ _ (Or.inr (by decide))).trans ((u216.2 _ _ (Or.inr (by decide))).trans u215.1))) : pq_n h223 199 1 = g4.toInt.toNat), (pq_of (k := 2) ((u223.2 _ _ (Or.inr (by decide))).trans u222.1) : pq_n h223 199 2 = g0.toInt.toNat), (pq_of (k := 3) u223.1 : pq_n h223 199 3 = g2.toInt.toNat), (pq_of (k := 4) ((u223.2 _ _ (Or.inr (by decide))).trans ((u222.2 _ _ (Or.inr (by decide))).trans u216.1)) : pq_n h223 199 4 = g1.toInt.toNat)]; unfold pq_x5; rw [if_pos (by omega), if_pos (by omega), if_pos (by omega), if_neg (by omega), if_pos (by omega), if_neg (by omega)]), g3, g4, g0, g2, g1, g5, ((u223.2 _ _ (Or.inr (by decide))).trans ((u222.2 _ _ (Or.inr (by decide))).trans ((u216.2 _ _ (Or.inr (by decide))).trans ((u215.2 _ _ (Or.inr (by decide))).trans ((u209.2 _ _ (Or.inr (by decide))).trans u208.1))))), ((u223.2 _ _ (Or.inr (by decide))).trans ((u222.2 _ _ (Or.inr (by decide))).trans ((u216.2 _ _ (Or.inr (by decide))).trans u215.1))), ((u223.2 _ _ (Or.inr (by decide))).trans u222.1), u223.1, ((u223.2 _ _ (Or.inr (by decide))).trans ((u222.2 _ _ (Or.inr (by decide))).trans u216.1)), ((u223.2 _ _ (Or.inr (by decide))).trans ((u222.2 _ _ (Or.inr (by decide))).trans ((u216.2 _ _ (Or.inr (by decide))).trans ((u215.2 _ _ (Or.inr (by decide))).trans ((u209.2 _ _ (Or.inr (by decide))).trans ((u208.2 _ _ (Or.inr (by decide))).trans hg5)))))), (by unfold prm; omega), (by unfold lexV; omega)⟩⟩
            · refine te_iinc (p2 := 59) (x := 3) (y := 2) (lv2 := [(3, .int 2), (2, .int 0), (0, .ref 164), (1, .int 5)]) rfl rfl (by decide) rfl (by decide) rfl ?_
              refine te_goto rfl ?_
              refine te_aload_n (p2 := 42) rfl rfl rfl ?_
              refine tg_r (p2 := 45) (i := 148) (r := 215) rfl rfl hI rfl rfl rfl ?_
              refine te_iload_n (p2 := 46) rfl rfl rfl ?_
              refine tl_e (p2 := 47) (i := 199) (n := 6) (t := 0) (Or.inl rfl) rfl rfl hI rfl rfl (by decide) (by decide) hg2 ?_
              refine te_aload_n (p2 := 48) rfl rfl rfl ?_
              refine tg_r (p2 := 51) (i := 148) (r := 215) rfl rfl hI rfl rfl rfl ?_
              refine te_iload_n (p2 := 52) rfl rfl rfl ?_
              refine tl_e (p2 := 53) (i := 199) (n := 6) (t := 0) (Or.inl rfl) rfl rfl hI rfl rfl (by decide) (by decide) hg0 ?_
              refine tb_ge (p2 := 56) rfl rfl rfl rfl (fun c230 => ?_) (fun c230 => ?_)
              · refine te_aload_n (p2 := 63) rfl rfl rfl ?_
                refine tg_r (p2 := 66) (i := 148) (r := 215) rfl rfl hI rfl rfl rfl ?_
                refine te_iload_n (p2 := 67) rfl rfl rfl ?_
                refine tl_e (p2 := 68) (i := 199) (n := 6) (t := 0) (Or.inl rfl) rfl rfl hI rfl rfl (by decide) (by decide) hg0 ?_
                refine te_istore (p2 := 70) (lv2 := [(4, .int g0), (3, .int 2), (2, .int 0), (0, .ref 164), (1, .int 5)]) rfl rfl (by decide) rfl ?_
                refine te_aload_n (p2 := 71) rfl rfl rfl ?_
                refine tg_r (p2 := 74) (i := 148) (r := 215) rfl rfl hI rfl rfl rfl ?_
                refine te_iload_n (p2 := 75) rfl rfl rfl ?_
                refine te_aload_n (p2 := 76) rfl rfl rfl ?_
                refine tg_r (p2 := 79) (i := 148) (r := 215) rfl rfl hI rfl rfl rfl ?_
                refine te_iload_n (p2 := 80) rfl rfl rfl ?_
                refine tl_e (p2 := 81) (i := 199) (n := 6) (t := 0) (Or.inl rfl) rfl rfl hI rfl rfl (by decide) (by decide) hg2 ?_
                refine ts_i (p2 := 82) (i := 199) (n := 6) rfl rfl hI rfl rfl rfl rfl (by decide) (by decide) (by omega) (by omega) (by omega) rfl (fun h233 I233 u233 => ?_)
                have f233 := fr_st (F := F_X12_nextOrder_5) 0 f0 u233 rfl (by decide) (by decide)
                refine te_aload_n (p2 := 83) rfl rfl rfl ?_
                refine tg_r (p2 := 86) (i := 148) (r := 215) rfl rfl I233 rfl rfl rfl ?_
                refine te_iload_n (p2 := 87) rfl rfl rfl ?_
                refine te_iload (p2 := 89) rfl rfl rfl ?_
                refine ts_i (p2 := 90) (i := 199) (n := 6) rfl rfl I233 rfl rfl rfl rfl (by decide) (by decide) (by omega) (by omega) (by omega) rfl (fun h234 I234 u234 => ?_)
                have f234 := fr_st (F := F_X12_nextOrder_5) 0 f233 u234 rfl (by decide) (by decide)
                refine te_iload_n (p2 := 91) rfl rfl rfl ?_
                refine te_iconst (p2 := 92) (x := 1) rfl rfl (by decide) ?_
                refine te_iadd (p2 := 93) (z := 1) rfl rfl (by decide) ?_
                refine te_istore (p2 := 95) (lv2 := [(5, .int 1), (4, .int g0), (3, .int 2), (2, .int 0), (0, .ref 164), (1, .int 5)]) rfl rfl (by decide) rfl ?_
                refine te_iload_n (p2 := 96) rfl rfl rfl ?_
                refine te_iconst (p2 := 97) (x := 1) rfl rfl (by decide) ?_
                refine te_isub (p2 := 98) (z := 4) rfl rfl (by decide) ?_
                refine te_istore (p2 := 100) (lv2 := [(6, .int 4), (5, .int 1), (4, .int g0), (3, .int 2), (2, .int 0), (0, .ref 164), (1, .int 5)]) rfl rfl (by decide) rfl ?_
                refine te_iload (p2 := 102) rfl rfl rfl ?_
                refine te_iload (p2 := 104) rfl rfl rfl ?_
                refine tb_ge (p2 := 107) rfl rfl (show Int32.toInt 1 = 1 from rfl) (show Int32.toInt 4 = 4 from rfl) (fun c237 => absurd c237 (by omega)) (fun c237 => ?_)
                refine te_aload_n (p2 := 108) rfl rfl rfl ?_
                refine tg_r (p2 := 111) (i := 148) (r := 215) rfl rfl I234 rfl rfl rfl ?_
                refine te_iload (p2 := 113) rfl rfl rfl ?_
                refine tl_e (p2 := 114) (i := 199) (n := 6) (t := 0) (Or.inl rfl) rfl rfl I234 rfl rfl (by decide) (by decide) ((u234.2 _ _ (Or.inr (by decide))).trans ((u233.2 _ _ (Or.inr (by decide))).trans hg1)) ?_
                refine te_istore (p2 := 116) (lv2 := [(7, .int g1), (6, .int 4), (5, .int 1), (4, .int g0), (3, .int 2), (2, .int 0), (0, .ref 164), (1, .int 5)]) rfl rfl (by decide) rfl ?_
                refine te_aload_n (p2 := 117) rfl rfl rfl ?_
                refine tg_r (p2 := 120) (i := 148) (r := 215) rfl rfl I234 rfl rfl rfl ?_
                refine te_iload (p2 := 122) rfl rfl rfl ?_
                refine te_aload_n (p2 := 123) rfl rfl rfl ?_
                refine tg_r (p2 := 126) (i := 148) (r := 215) rfl rfl I234 rfl rfl rfl ?_
                refine te_iload (p2 := 128) rfl rfl rfl ?_
                refine tl_e (p2 := 129) (i := 199) (n := 6) (t := 0) (Or.inl rfl) rfl rfl I234 rfl rfl (by decide) (by decide) ((u234.2 _ _ (Or.inr (by decide))).trans ((u233.2 _ _ (Or.inr (by decide))).trans hg4)) ?_
                refine ts_i (p2 := 130) (i := 199) (n := 6) rfl rfl I234 rfl rfl rfl rfl (by decide) (by decide) (by omega) (by omega) (by omega) rfl (fun h240 I240 u240 => ?_)
                have f240 := fr_st (F := F_X12_nextOrder_5) 0 f234 u240 rfl (by decide) (by decide)
                refine te_aload_n (p2 := 131) rfl rfl rfl ?_
                refine tg_r (p2 := 134) (i := 148) (r := 215) rfl rfl I240 rfl rfl rfl ?_
                refine te_iload (p2 := 136) rfl rfl rfl ?_
                refine te_iload (p2 := 138) rfl rfl rfl ?_
                refine ts_i (p2 := 139) (i := 199) (n := 6) rfl rfl I240 rfl rfl rfl rfl (by decide) (by decide) (by omega) (by omega) (by omega) rfl (fun h241 I241 u241 => ?_)
                have f241 := fr_st (F := F_X12_nextOrder_5) 0 f240 u241 rfl (by decide) (by decide)
                refine te_iinc (p2 := 142) (x := 4) (y := 3) (lv2 := [(6, .int 3), (7, .int g1), (5, .int 1), (4, .int g0), (3, .int 2), (2, .int 0), (0, .ref 164), (1, .int 5)]) rfl rfl (by decide) rfl (by decide) rfl ?_
                refine te_iinc (p2 := 145) (x := 1) (y := 2) (lv2 := [(5, .int 2), (6, .int 3), (7, .int g1), (4, .int g0), (3, .int 2), (2, .int 0), (0, .ref 164), (1, .int 5)]) rfl rfl (by decide) rfl (by decide) rfl ?_
                refine te_goto rfl ?_
                refine te_iload (p2 := 102) rfl rfl rfl ?_
                refine te_iload (p2 := 104) rfl rfl rfl ?_
                refine tb_ge (p2 := 107) rfl rfl (show Int32.toInt 2 = 2 from rfl) (show Int32.toInt 3 = 3 from rfl) (fun c244 => absurd c244 (by omega)) (fun c244 => ?_)
                refine te_aload_n (p2 := 108) rfl rfl rfl ?_
                refine tg_r (p2 := 111) (i := 148) (r := 215) rfl rfl I241 rfl rfl rfl ?_
                refine te_iload (p2 := 113) rfl rfl rfl ?_
                refine tl_e (p2 := 114) (i := 199) (n := 6) (t := 0) (Or.inl rfl) rfl rfl I241 rfl rfl (by decide) (by decide) ((u241.2 _ _ (Or.inr (by decide))).trans ((u240.2 _ _ (Or.inr (by decide))).trans u234.1)) ?_
                refine te_istore (p2 := 116) (lv2 := [(7, .int g0), (5, .int 2), (6, .int 3), (4, .int g0), (3, .int 2), (2, .int 0), (0, .ref 164), (1, .int 5)]) rfl rfl (by decide) rfl ?_
                refine te_aload_n (p2 := 117) rfl rfl rfl ?_
                refine tg_r (p2 := 120) (i := 148) (r := 215) rfl rfl I241 rfl rfl rfl ?_
                refine te_iload (p2 := 122) rfl rfl rfl ?_
                refine te_aload_n (p2 := 123) rfl rfl rfl ?_
                refine tg_r (p2 := 126) (i := 148) (r := 215) rfl rfl I241 rfl rfl rfl ?_
                refine te_iload (p2 := 128) rfl rfl rfl ?_
                refine tl_e (p2 := 129) (i := 199) (n := 6) (t := 0) (Or.inl rfl) rfl rfl I241 rfl rfl (by decide) (by decide) ((u241.2 _ _ (Or.inr (by decide))).trans ((u240.2 _ _ (Or.inr (by decide))).trans ((u234.2 _ _ (Or.inr (by decide))).trans ((u233.2 _ _ (Or.inr (by decide))).trans hg3)))) ?_
                refine ts_i (p2 := 130) (i := 199) (n := 6) rfl rfl I241 rfl rfl rfl rfl (by decide) (by decide) (by omega) (by omega) (by omega) rfl (fun h247 I247 u247 => ?_)
                have f247 := fr_st (F := F_X12_nextOrder_5) 0 f241 u247 rfl (by decide) (by decide)
                refine te_aload_n (p2 := 131) rfl rfl rfl ?_
                refine tg_r (p2 := 134) (i := 148) (r := 215) rfl rfl I247 rfl rfl rfl ?_
                refine te_iload (p2 := 136) rfl rfl rfl ?_
                refine te_iload (p2 := 138) rfl rfl rfl ?_
                refine ts_i (p2 := 139) (i := 199) (n := 6) rfl rfl I247 rfl rfl rfl rfl (by decide) (by decide) (by omega) (by omega) (by omega) rfl (fun h248 I248 u248 => ?_)
                have f248 := fr_st (F := F_X12_nextOrder_5) 0 f247 u248 rfl (by decide) (by decide)
                refine te_iinc (p2 := 142) (x := 3) (y := 2) (lv2 := [(6, .int 2), (7, .int g0), (5, .int 2), (4, .int g0), (3, .int 2), (2, .int 0), (0, .ref 164), (1, .int 5)]) rfl rfl (by decide) rfl (by decide) rfl ?_
                refine te_iinc (p2 := 145) (x := 2) (y := 3) (lv2 := [(5, .int 3), (6, .int 2), (7, .int g0), (4, .int g0), (3, .int 2), (2, .int 0), (0, .ref 164), (1, .int 5)]) rfl rfl (by decide) rfl (by decide) rfl ?_
                refine te_goto rfl ?_
                refine te_iload (p2 := 102) rfl rfl rfl ?_
                refine te_iload (p2 := 104) rfl rfl rfl ?_
                refine tb_ge (p2 := 107) rfl rfl (show Int32.toInt 3 = 3 from rfl) (show Int32.toInt 2 = 2 from rfl) (fun c251 => ?_) (fun c251 => absurd c251 (by omega))
                refine te_iconst (p2 := 149) (x := 1) rfl rfl (by decide) ?_
                exact te_zret rfl rfl (by decide) ⟨I248, f248, _, rfl, Or.inr ⟨rfl, (by rw [pq_xe5, on6_5, (pq_of (k := 0) hg0 : pq_n h 199 0 = g0.toInt.toNat), (pq_of (k := 1) hg1 : pq_n h 199 1 = g1.toInt.toNat), (pq_of (k := 2) hg2 : pq_n h 199 2 = g2.toInt.toNat), (pq_of (k := 3) hg3 : pq_n h 199 3 = g3.toInt.toNat), (pq_of (k := 4) hg4 : pq_n h 199 4 = g4.toInt.toNat), (pq_of (k := 0) ((u248.2 _ _ (Or.inr (by decide))).trans ((u247.2 _ _ (Or.inr (by decide))).trans ((u241.2 _ _ (Or.inr (by decide))).trans ((u240.2 _ _ (Or.inr (by decide))).trans ((u234.2 _ _ (Or.inr (by decide))).trans u233.1))))) : pq_n h248 199 0 = g2.toInt.toNat), (pq_of (k := 1) ((u248.2 _ _ (Or.inr (by decide))).trans ((u247.2 _ _ (Or.inr (by decide))).trans ((u241.2 _ _ (Or.inr (by decide))).trans u240.1))) : pq_n h248 199 1 = g4.toInt.toNat), (pq_of (k := 2) ((u248.2 _ _ (Or.inr (by decide))).trans u247.1) : pq_n h248 199 2 = g3.toInt.toNat), (pq_of (k := 3) u248.1 : pq_n h248 199 3 = g0.toInt.toNat), (pq_of (k := 4) ((u248.2 _ _ (Or.inr (by decide))).trans ((u247.2 _ _ (Or.inr (by decide))).trans u241.1)) : pq_n h248 199 4 = g1.toInt.toNat)]; unfold pq_x5; rw [if_pos (by omega), if_pos (by omega), if_pos (by omega), if_neg (by omega), if_pos (by omega), if_pos (by omega), if_neg (by omega)]), g2, g4, g3, g0, g1, g5, ((u248.2 _ _ (Or.inr (by decide))).trans ((u247.2 _ _ (Or.inr (by decide))).trans ((u241.2 _ _ (Or.inr (by decide))).trans ((u240.2 _ _ (Or.inr (by decide))).trans ((u234.2 _ _ (Or.inr (by decide))).trans u233.1))))), ((u248.2 _ _ (Or.inr (by decide))).trans ((u247.2 _ _ (Or.inr (by decide))).trans ((u241.2 _ _ (Or.inr (by decide))).trans u240.1))), ((u248.2 _ _ (Or.inr (by decide))).trans u247.1), u248.1, ((u248.2 _ _ (Or.inr (by decide))).trans ((u247.2 _ _ (Or.inr (by decide))).trans u241.1)), ((u248.2 _ _ (Or.inr (by decide))).trans ((u247.2 _ _ (Or.inr (by decide))).trans ((u241.2 _ _ (Or.inr (by decide))).trans ((u240.2 _ _ (Or.inr (by decide))).trans ((u234.2 _ _ (Or.inr (by decide))).trans ((u233.2 _ _ (Or.inr (by decide))).trans hg5)))))), (by unfold prm; omega), (by unfold lexV; omega)⟩⟩
              · refine te_iinc (p2 := 59) (x := 2) (y := 1) (lv2 := [(3, .int 1), (2, .int 0), (0, .ref 164), (1, .int 5)]) rfl rfl (by decide) rfl (by decide) rfl ?_
                refine te_goto rfl ?_
                refine te_aload_n (p2 := 42) rfl rfl rfl ?_
                refine tg_r (p2 := 45) (i := 148) (r := 215) rfl rfl hI rfl rfl rfl ?_
                refine te_iload_n (p2 := 46) rfl rfl rfl ?_
                refine tl_e (p2 := 47) (i := 199) (n := 6) (t := 0) (Or.inl rfl) rfl rfl hI rfl rfl (by decide) (by decide) hg1 ?_
                refine te_aload_n (p2 := 48) rfl rfl rfl ?_
                refine tg_r (p2 := 51) (i := 148) (r := 215) rfl rfl hI rfl rfl rfl ?_
                refine te_iload_n (p2 := 52) rfl rfl rfl ?_
                refine tl_e (p2 := 53) (i := 199) (n := 6) (t := 0) (Or.inl rfl) rfl rfl hI rfl rfl (by decide) (by decide) hg0 ?_
                refine tb_ge (p2 := 56) rfl rfl rfl rfl (fun c255 => ?_) (fun c255 => ?_)
                · refine te_aload_n (p2 := 63) rfl rfl rfl ?_
                  refine tg_r (p2 := 66) (i := 148) (r := 215) rfl rfl hI rfl rfl rfl ?_
                  refine te_iload_n (p2 := 67) rfl rfl rfl ?_
                  refine tl_e (p2 := 68) (i := 199) (n := 6) (t := 0) (Or.inl rfl) rfl rfl hI rfl rfl (by decide) (by decide) hg0 ?_
                  refine te_istore (p2 := 70) (lv2 := [(4, .int g0), (3, .int 1), (2, .int 0), (0, .ref 164), (1, .int 5)]) rfl rfl (by decide) rfl ?_
                  refine te_aload_n (p2 := 71) rfl rfl rfl ?_
                  refine tg_r (p2 := 74) (i := 148) (r := 215) rfl rfl hI rfl rfl rfl ?_
                  refine te_iload_n (p2 := 75) rfl rfl rfl ?_
                  refine te_aload_n (p2 := 76) rfl rfl rfl ?_
                  refine tg_r (p2 := 79) (i := 148) (r := 215) rfl rfl hI rfl rfl rfl ?_
                  refine te_iload_n (p2 := 80) rfl rfl rfl ?_
                  refine tl_e (p2 := 81) (i := 199) (n := 6) (t := 0) (Or.inl rfl) rfl rfl hI rfl rfl (by decide) (by decide) hg1 ?_
                  refine ts_i (p2 := 82) (i := 199) (n := 6) rfl rfl hI rfl rfl rfl rfl (by decide) (by decide) (by omega) (by omega) (by omega) rfl (fun h258 I258 u258 => ?_)
                  have f258 := fr_st (F := F_X12_nextOrder_5) 0 f0 u258 rfl (by decide) (by decide)
                  refine te_aload_n (p2 := 83) rfl rfl rfl ?_
                  refine tg_r (p2 := 86) (i := 148) (r := 215) rfl rfl I258 rfl rfl rfl ?_
                  refine te_iload_n (p2 := 87) rfl rfl rfl ?_
                  refine te_iload (p2 := 89) rfl rfl rfl ?_
                  refine ts_i (p2 := 90) (i := 199) (n := 6) rfl rfl I258 rfl rfl rfl rfl (by decide) (by decide) (by omega) (by omega) (by omega) rfl (fun h259 I259 u259 => ?_)
                  have f259 := fr_st (F := F_X12_nextOrder_5) 0 f258 u259 rfl (by decide) (by decide)
                  refine te_iload_n (p2 := 91) rfl rfl rfl ?_
                  refine te_iconst (p2 := 92) (x := 1) rfl rfl (by decide) ?_
                  refine te_iadd (p2 := 93) (z := 1) rfl rfl (by decide) ?_
                  refine te_istore (p2 := 95) (lv2 := [(5, .int 1), (4, .int g0), (3, .int 1), (2, .int 0), (0, .ref 164), (1, .int 5)]) rfl rfl (by decide) rfl ?_
                  refine te_iload_n (p2 := 96) rfl rfl rfl ?_
                  refine te_iconst (p2 := 97) (x := 1) rfl rfl (by decide) ?_
                  refine te_isub (p2 := 98) (z := 4) rfl rfl (by decide) ?_
                  refine te_istore (p2 := 100) (lv2 := [(6, .int 4), (5, .int 1), (4, .int g0), (3, .int 1), (2, .int 0), (0, .ref 164), (1, .int 5)]) rfl rfl (by decide) rfl ?_
                  refine te_iload (p2 := 102) rfl rfl rfl ?_
                  refine te_iload (p2 := 104) rfl rfl rfl ?_
                  refine tb_ge (p2 := 107) rfl rfl (show Int32.toInt 1 = 1 from rfl) (show Int32.toInt 4 = 4 from rfl) (fun c262 => absurd c262 (by omega)) (fun c262 => ?_)
                  refine te_aload_n (p2 := 108) rfl rfl rfl ?_
                  refine tg_r (p2 := 111) (i := 148) (r := 215) rfl rfl I259 rfl rfl rfl ?_
                  refine te_iload (p2 := 113) rfl rfl rfl ?_
                  refine tl_e (p2 := 114) (i := 199) (n := 6) (t := 0) (Or.inl rfl) rfl rfl I259 rfl rfl (by decide) (by decide) u259.1 ?_
                  refine te_istore (p2 := 116) (lv2 := [(7, .int g0), (6, .int 4), (5, .int 1), (4, .int g0), (3, .int 1), (2, .int 0), (0, .ref 164), (1, .int 5)]) rfl rfl (by decide) rfl ?_
                  refine te_aload_n (p2 := 117) rfl rfl rfl ?_
                  refine tg_r (p2 := 120) (i := 148) (r := 215) rfl rfl I259 rfl rfl rfl ?_
                  refine te_iload (p2 := 122) rfl rfl rfl ?_
                  refine te_aload_n (p2 := 123) rfl rfl rfl ?_
                  refine tg_r (p2 := 126) (i := 148) (r := 215) rfl rfl I259 rfl rfl rfl ?_
                  refine te_iload (p2 := 128) rfl rfl rfl ?_
                  refine tl_e (p2 := 129) (i := 199) (n := 6) (t := 0) (Or.inl rfl) rfl rfl I259 rfl rfl (by decide) (by decide) ((u259.2 _ _ (Or.inr (by decide))).trans ((u258.2 _ _ (Or.inr (by decide))).trans hg4)) ?_
                  refine ts_i (p2 := 130) (i := 199) (n := 6) rfl rfl I259 rfl rfl rfl rfl (by decide) (by decide) (by omega) (by omega) (by omega) rfl (fun h265 I265 u265 => ?_)
                  have f265 := fr_st (F := F_X12_nextOrder_5) 0 f259 u265 rfl (by decide) (by decide)
                  refine te_aload_n (p2 := 131) rfl rfl rfl ?_
                  refine tg_r (p2 := 134) (i := 148) (r := 215) rfl rfl I265 rfl rfl rfl ?_
                  refine te_iload (p2 := 136) rfl rfl rfl ?_
                  refine te_iload (p2 := 138) rfl rfl rfl ?_
                  refine ts_i (p2 := 139) (i := 199) (n := 6) rfl rfl I265 rfl rfl rfl rfl (by decide) (by decide) (by omega) (by omega) (by omega) rfl (fun h266 I266 u266 => ?_)
                  have f266 := fr_st (F := F_X12_nextOrder_5) 0 f265 u266 rfl (by decide) (by decide)
                  refine te_iinc (p2 := 142) (x := 4) (y := 3) (lv2 := [(6, .int 3), (7, .int g0), (5, .int 1), (4, .int g0), (3, .int 1), (2, .int 0), (0, .ref 164), (1, .int 5)]) rfl rfl (by decide) rfl (by decide) rfl ?_
                  refine te_iinc (p2 := 145) (x := 1) (y := 2) (lv2 := [(5, .int 2), (6, .int 3), (7, .int g0), (4, .int g0), (3, .int 1), (2, .int 0), (0, .ref 164), (1, .int 5)]) rfl rfl (by decide) rfl (by decide) rfl ?_
                  refine te_goto rfl ?_
                  refine te_iload (p2 := 102) rfl rfl rfl ?_
                  refine te_iload (p2 := 104) rfl rfl rfl ?_
                  refine tb_ge (p2 := 107) rfl rfl (show Int32.toInt 2 = 2 from rfl) (show Int32.toInt 3 = 3 from rfl) (fun c269 => absurd c269 (by omega)) (fun c269 => ?_)
                  refine te_aload_n (p2 := 108) rfl rfl rfl ?_
                  refine tg_r (p2 := 111) (i := 148) (r := 215) rfl rfl I266 rfl rfl rfl ?_
                  refine te_iload (p2 := 113) rfl rfl rfl ?_
                  refine tl_e (p2 := 114) (i := 199) (n := 6) (t := 0) (Or.inl rfl) rfl rfl I266 rfl rfl (by decide) (by decide) ((u266.2 _ _ (Or.inr (by decide))).trans ((u265.2 _ _ (Or.inr (by decide))).trans ((u259.2 _ _ (Or.inr (by decide))).trans ((u258.2 _ _ (Or.inr (by decide))).trans hg2)))) ?_
                  refine te_istore (p2 := 116) (lv2 := [(7, .int g2), (5, .int 2), (6, .int 3), (4, .int g0), (3, .int 1), (2, .int 0), (0, .ref 164), (1, .int 5)]) rfl rfl (by decide) rfl ?_
                  refine te_aload_n (p2 := 117) rfl rfl rfl ?_
                  refine tg_r (p2 := 120) (i := 148) (r := 215) rfl rfl I266 rfl rfl rfl ?_
                  refine te_iload (p2 := 122) rfl rfl rfl ?_
                  refine te_aload_n (p2 := 123) rfl rfl rfl ?_
                  refine tg_r (p2 := 126) (i := 148) (r := 215) rfl rfl I266 rfl rfl rfl ?_
                  refine te_iload (p2 := 128) rfl rfl rfl ?_
                  refine tl_e (p2 := 129) (i := 199) (n := 6) (t := 0) (Or.inl rfl) rfl rfl I266 rfl rfl (by decide) (by decide) ((u266.2 _ _ (Or.inr (by decide))).trans ((u265.2 _ _ (Or.inr (by decide))).trans ((u259.2 _ _ (Or.inr (by decide))).trans ((u258.2 _ _ (Or.inr (by decide))).trans hg3)))) ?_
                  refine ts_i (p2 := 130) (i := 199) (n := 6) rfl rfl I266 rfl rfl rfl rfl (by decide) (by decide) (by omega) (by omega) (by omega) rfl (fun h272 I272 u272 => ?_)
                  have f272 := fr_st (F := F_X12_nextOrder_5) 0 f266 u272 rfl (by decide) (by decide)
                  refine te_aload_n (p2 := 131) rfl rfl rfl ?_
                  refine tg_r (p2 := 134) (i := 148) (r := 215) rfl rfl I272 rfl rfl rfl ?_
                  refine te_iload (p2 := 136) rfl rfl rfl ?_
                  refine te_iload (p2 := 138) rfl rfl rfl ?_
                  refine ts_i (p2 := 139) (i := 199) (n := 6) rfl rfl I272 rfl rfl rfl rfl (by decide) (by decide) (by omega) (by omega) (by omega) rfl (fun h273 I273 u273 => ?_)
                  have f273 := fr_st (F := F_X12_nextOrder_5) 0 f272 u273 rfl (by decide) (by decide)
                  refine te_iinc (p2 := 142) (x := 3) (y := 2) (lv2 := [(6, .int 2), (7, .int g2), (5, .int 2), (4, .int g0), (3, .int 1), (2, .int 0), (0, .ref 164), (1, .int 5)]) rfl rfl (by decide) rfl (by decide) rfl ?_
                  refine te_iinc (p2 := 145) (x := 2) (y := 3) (lv2 := [(5, .int 3), (6, .int 2), (7, .int g2), (4, .int g0), (3, .int 1), (2, .int 0), (0, .ref 164), (1, .int 5)]) rfl rfl (by decide) rfl (by decide) rfl ?_
                  refine te_goto rfl ?_
                  refine te_iload (p2 := 102) rfl rfl rfl ?_
                  refine te_iload (p2 := 104) rfl rfl rfl ?_
                  refine tb_ge (p2 := 107) rfl rfl (show Int32.toInt 3 = 3 from rfl) (show Int32.toInt 2 = 2 from rfl) (fun c276 => ?_) (fun c276 => absurd c276 (by omega))
                  refine te_iconst (p2 := 149) (x := 1) rfl rfl (by decide) ?_
                  exact te_zret rfl rfl (by decide) ⟨I273, f273, _, rfl, Or.inr ⟨rfl, (by rw [pq_xe5, on6_5, (pq_of (k := 0) hg0 : pq_n h 199 0 = g0.toInt.toNat), (pq_of (k := 1) hg1 : pq_n h 199 1 = g1.toInt.toNat), (pq_of (k := 2) hg2 : pq_n h 199 2 = g2.toInt.toNat), (pq_of (k := 3) hg3 : pq_n h 199 3 = g3.toInt.toNat), (pq_of (k := 4) hg4 : pq_n h 199 4 = g4.toInt.toNat), (pq_of (k := 0) ((u273.2 _ _ (Or.inr (by decide))).trans ((u272.2 _ _ (Or.inr (by decide))).trans ((u266.2 _ _ (Or.inr (by decide))).trans ((u265.2 _ _ (Or.inr (by decide))).trans ((u259.2 _ _ (Or.inr (by decide))).trans u258.1))))) : pq_n h273 199 0 = g1.toInt.toNat), (pq_of (k := 1) ((u273.2 _ _ (Or.inr (by decide))).trans ((u272.2 _ _ (Or.inr (by decide))).trans ((u266.2 _ _ (Or.inr (by decide))).trans u265.1))) : pq_n h273 199 1 = g4.toInt.toNat), (pq_of (k := 2) ((u273.2 _ _ (Or.inr (by decide))).trans u272.1) : pq_n h273 199 2 = g3.toInt.toNat), (pq_of (k := 3) u273.1 : pq_n h273 199 3 = g2.toInt.toNat), (pq_of (k := 4) ((u273.2 _ _ (Or.inr (by decide))).trans ((u272.2 _ _ (Or.inr (by decide))).trans u266.1)) : pq_n h273 199 4 = g0.toInt.toNat)]; unfold pq_x5; rw [if_pos (by omega), if_pos (by omega), if_pos (by omega), if_neg (by omega), if_pos (by omega), if_pos (by omega), if_pos (by omega), if_neg (by omega)]), g1, g4, g3, g2, g0, g5, ((u273.2 _ _ (Or.inr (by decide))).trans ((u272.2 _ _ (Or.inr (by decide))).trans ((u266.2 _ _ (Or.inr (by decide))).trans ((u265.2 _ _ (Or.inr (by decide))).trans ((u259.2 _ _ (Or.inr (by decide))).trans u258.1))))), ((u273.2 _ _ (Or.inr (by decide))).trans ((u272.2 _ _ (Or.inr (by decide))).trans ((u266.2 _ _ (Or.inr (by decide))).trans u265.1))), ((u273.2 _ _ (Or.inr (by decide))).trans u272.1), u273.1, ((u273.2 _ _ (Or.inr (by decide))).trans ((u272.2 _ _ (Or.inr (by decide))).trans u266.1)), ((u273.2 _ _ (Or.inr (by decide))).trans ((u272.2 _ _ (Or.inr (by decide))).trans ((u266.2 _ _ (Or.inr (by decide))).trans ((u265.2 _ _ (Or.inr (by decide))).trans ((u259.2 _ _ (Or.inr (by decide))).trans ((u258.2 _ _ (Or.inr (by decide))).trans hg5)))))), (by unfold prm; omega), (by unfold lexV; omega)⟩⟩
                · refine te_iinc (p2 := 59) (x := 1) (y := 0) (lv2 := [(3, .int 0), (2, .int 0), (0, .ref 164), (1, .int 5)]) rfl rfl (by decide) rfl (by decide) rfl ?_
                  refine te_goto rfl ?_
                  refine te_aload_n (p2 := 42) rfl rfl rfl ?_
                  refine tg_r (p2 := 45) (i := 148) (r := 215) rfl rfl hI rfl rfl rfl ?_
                  refine te_iload_n (p2 := 46) rfl rfl rfl ?_
                  refine tl_e (p2 := 47) (i := 199) (n := 6) (t := 0) (Or.inl rfl) rfl rfl hI rfl rfl (by decide) (by decide) hg0 ?_
                  refine te_aload_n (p2 := 48) rfl rfl rfl ?_
                  refine tg_r (p2 := 51) (i := 148) (r := 215) rfl rfl hI rfl rfl rfl ?_
                  refine te_iload_n (p2 := 52) rfl rfl rfl ?_
                  refine tl_e (p2 := 53) (i := 199) (n := 6) (t := 0) (Or.inl rfl) rfl rfl hI rfl rfl (by decide) (by decide) hg0 ?_
                  refine tb_ge (p2 := 56) rfl rfl rfl rfl (fun c280 => ?_) (fun c280 => absurd c280 (by omega))
                  refine te_aload_n (p2 := 63) rfl rfl rfl ?_
                  refine tg_r (p2 := 66) (i := 148) (r := 215) rfl rfl hI rfl rfl rfl ?_
                  refine te_iload_n (p2 := 67) rfl rfl rfl ?_
                  refine tl_e (p2 := 68) (i := 199) (n := 6) (t := 0) (Or.inl rfl) rfl rfl hI rfl rfl (by decide) (by decide) hg0 ?_
                  refine te_istore (p2 := 70) (lv2 := [(4, .int g0), (3, .int 0), (2, .int 0), (0, .ref 164), (1, .int 5)]) rfl rfl (by decide) rfl ?_
                  refine te_aload_n (p2 := 71) rfl rfl rfl ?_
                  refine tg_r (p2 := 74) (i := 148) (r := 215) rfl rfl hI rfl rfl rfl ?_
                  refine te_iload_n (p2 := 75) rfl rfl rfl ?_
                  refine te_aload_n (p2 := 76) rfl rfl rfl ?_
                  refine tg_r (p2 := 79) (i := 148) (r := 215) rfl rfl hI rfl rfl rfl ?_
                  refine te_iload_n (p2 := 80) rfl rfl rfl ?_
                  refine tl_e (p2 := 81) (i := 199) (n := 6) (t := 0) (Or.inl rfl) rfl rfl hI rfl rfl (by decide) (by decide) hg0 ?_
                  refine ts_i (p2 := 82) (i := 199) (n := 6) rfl rfl hI rfl rfl rfl rfl (by decide) (by decide) (by omega) (by omega) (by omega) rfl (fun h283 I283 u283 => ?_)
                  have f283 := fr_st (F := F_X12_nextOrder_5) 0 f0 u283 rfl (by decide) (by decide)
                  refine te_aload_n (p2 := 83) rfl rfl rfl ?_
                  refine tg_r (p2 := 86) (i := 148) (r := 215) rfl rfl I283 rfl rfl rfl ?_
                  refine te_iload_n (p2 := 87) rfl rfl rfl ?_
                  refine te_iload (p2 := 89) rfl rfl rfl ?_
                  refine ts_i (p2 := 90) (i := 199) (n := 6) rfl rfl I283 rfl rfl rfl rfl (by decide) (by decide) (by omega) (by omega) (by omega) rfl (fun h284 I284 u284 => ?_)
                  have f284 := fr_st (F := F_X12_nextOrder_5) 0 f283 u284 rfl (by decide) (by decide)
                  refine te_iload_n (p2 := 91) rfl rfl rfl ?_
                  refine te_iconst (p2 := 92) (x := 1) rfl rfl (by decide) ?_
                  refine te_iadd (p2 := 93) (z := 1) rfl rfl (by decide) ?_
                  refine te_istore (p2 := 95) (lv2 := [(5, .int 1), (4, .int g0), (3, .int 0), (2, .int 0), (0, .ref 164), (1, .int 5)]) rfl rfl (by decide) rfl ?_
                  refine te_iload_n (p2 := 96) rfl rfl rfl ?_
                  refine te_iconst (p2 := 97) (x := 1) rfl rfl (by decide) ?_
                  refine te_isub (p2 := 98) (z := 4) rfl rfl (by decide) ?_
                  refine te_istore (p2 := 100) (lv2 := [(6, .int 4), (5, .int 1), (4, .int g0), (3, .int 0), (2, .int 0), (0, .ref 164), (1, .int 5)]) rfl rfl (by decide) rfl ?_
                  refine te_iload (p2 := 102) rfl rfl rfl ?_
                  refine te_iload (p2 := 104) rfl rfl rfl ?_
                  refine tb_ge (p2 := 107) rfl rfl (show Int32.toInt 1 = 1 from rfl) (show Int32.toInt 4 = 4 from rfl) (fun c287 => absurd c287 (by omega)) (fun c287 => ?_)
                  refine te_aload_n (p2 := 108) rfl rfl rfl ?_
                  refine tg_r (p2 := 111) (i := 148) (r := 215) rfl rfl I284 rfl rfl rfl ?_
                  refine te_iload (p2 := 113) rfl rfl rfl ?_
                  refine tl_e (p2 := 114) (i := 199) (n := 6) (t := 0) (Or.inl rfl) rfl rfl I284 rfl rfl (by decide) (by decide) ((u284.2 _ _ (Or.inr (by decide))).trans ((u283.2 _ _ (Or.inr (by decide))).trans hg1)) ?_
                  refine te_istore (p2 := 116) (lv2 := [(7, .int g1), (6, .int 4), (5, .int 1), (4, .int g0), (3, .int 0), (2, .int 0), (0, .ref 164), (1, .int 5)]) rfl rfl (by decide) rfl ?_
                  refine te_aload_n (p2 := 117) rfl rfl rfl ?_
                  refine tg_r (p2 := 120) (i := 148) (r := 215) rfl rfl I284 rfl rfl rfl ?_
                  refine te_iload (p2 := 122) rfl rfl rfl ?_
                  refine te_aload_n (p2 := 123) rfl rfl rfl ?_
                  refine tg_r (p2 := 126) (i := 148) (r := 215) rfl rfl I284 rfl rfl rfl ?_
                  refine te_iload (p2 := 128) rfl rfl rfl ?_
                  refine tl_e (p2 := 129) (i := 199) (n := 6) (t := 0) (Or.inl rfl) rfl rfl I284 rfl rfl (by decide) (by decide) ((u284.2 _ _ (Or.inr (by decide))).trans ((u283.2 _ _ (Or.inr (by decide))).trans hg4)) ?_
                  refine ts_i (p2 := 130) (i := 199) (n := 6) rfl rfl I284 rfl rfl rfl rfl (by decide) (by decide) (by omega) (by omega) (by omega) rfl (fun h290 I290 u290 => ?_)
                  have f290 := fr_st (F := F_X12_nextOrder_5) 0 f284 u290 rfl (by decide) (by decide)
                  refine te_aload_n (p2 := 131) rfl rfl rfl ?_
                  refine tg_r (p2 := 134) (i := 148) (r := 215) rfl rfl I290 rfl rfl rfl ?_
                  refine te_iload (p2 := 136) rfl rfl rfl ?_
                  refine te_iload (p2 := 138) rfl rfl rfl ?_
                  refine ts_i (p2 := 139) (i := 199) (n := 6) rfl rfl I290 rfl rfl rfl rfl (by decide) (by decide) (by omega) (by omega) (by omega) rfl (fun h291 I291 u291 => ?_)
                  have f291 := fr_st (F := F_X12_nextOrder_5) 0 f290 u291 rfl (by decide) (by decide)
                  refine te_iinc (p2 := 142) (x := 4) (y := 3) (lv2 := [(6, .int 3), (7, .int g1), (5, .int 1), (4, .int g0), (3, .int 0), (2, .int 0), (0, .ref 164), (1, .int 5)]) rfl rfl (by decide) rfl (by decide) rfl ?_
                  refine te_iinc (p2 := 145) (x := 1) (y := 2) (lv2 := [(5, .int 2), (6, .int 3), (7, .int g1), (4, .int g0), (3, .int 0), (2, .int 0), (0, .ref 164), (1, .int 5)]) rfl rfl (by decide) rfl (by decide) rfl ?_
                  refine te_goto rfl ?_
                  refine te_iload (p2 := 102) rfl rfl rfl ?_
                  refine te_iload (p2 := 104) rfl rfl rfl ?_
                  refine tb_ge (p2 := 107) rfl rfl (show Int32.toInt 2 = 2 from rfl) (show Int32.toInt 3 = 3 from rfl) (fun c294 => absurd c294 (by omega)) (fun c294 => ?_)
                  refine te_aload_n (p2 := 108) rfl rfl rfl ?_
                  refine tg_r (p2 := 111) (i := 148) (r := 215) rfl rfl I291 rfl rfl rfl ?_
                  refine te_iload (p2 := 113) rfl rfl rfl ?_
                  refine tl_e (p2 := 114) (i := 199) (n := 6) (t := 0) (Or.inl rfl) rfl rfl I291 rfl rfl (by decide) (by decide) ((u291.2 _ _ (Or.inr (by decide))).trans ((u290.2 _ _ (Or.inr (by decide))).trans ((u284.2 _ _ (Or.inr (by decide))).trans ((u283.2 _ _ (Or.inr (by decide))).trans hg2)))) ?_
                  refine te_istore (p2 := 116) (lv2 := [(7, .int g2), (5, .int 2), (6, .int 3), (4, .int g0), (3, .int 0), (2, .int 0), (0, .ref 164), (1, .int 5)]) rfl rfl (by decide) rfl ?_
                  refine te_aload_n (p2 := 117) rfl rfl rfl ?_
                  refine tg_r (p2 := 120) (i := 148) (r := 215) rfl rfl I291 rfl rfl rfl ?_
                  refine te_iload (p2 := 122) rfl rfl rfl ?_
                  refine te_aload_n (p2 := 123) rfl rfl rfl ?_
                  refine tg_r (p2 := 126) (i := 148) (r := 215) rfl rfl I291 rfl rfl rfl ?_
                  refine te_iload (p2 := 128) rfl rfl rfl ?_
                  refine tl_e (p2 := 129) (i := 199) (n := 6) (t := 0) (Or.inl rfl) rfl rfl I291 rfl rfl (by decide) (by decide) ((u291.2 _ _ (Or.inr (by decide))).trans ((u290.2 _ _ (Or.inr (by decide))).trans ((u284.2 _ _ (Or.inr (by decide))).trans ((u283.2 _ _ (Or.inr (by decide))).trans hg3)))) ?_
                  refine ts_i (p2 := 130) (i := 199) (n := 6) rfl rfl I291 rfl rfl rfl rfl (by decide) (by decide) (by omega) (by omega) (by omega) rfl (fun h297 I297 u297 => ?_)
                  have f297 := fr_st (F := F_X12_nextOrder_5) 0 f291 u297 rfl (by decide) (by decide)
                  refine te_aload_n (p2 := 131) rfl rfl rfl ?_
                  refine tg_r (p2 := 134) (i := 148) (r := 215) rfl rfl I297 rfl rfl rfl ?_
                  refine te_iload (p2 := 136) rfl rfl rfl ?_
                  refine te_iload (p2 := 138) rfl rfl rfl ?_
                  refine ts_i (p2 := 139) (i := 199) (n := 6) rfl rfl I297 rfl rfl rfl rfl (by decide) (by decide) (by omega) (by omega) (by omega) rfl (fun h298 I298 u298 => ?_)
                  have f298 := fr_st (F := F_X12_nextOrder_5) 0 f297 u298 rfl (by decide) (by decide)
                  refine te_iinc (p2 := 142) (x := 3) (y := 2) (lv2 := [(6, .int 2), (7, .int g2), (5, .int 2), (4, .int g0), (3, .int 0), (2, .int 0), (0, .ref 164), (1, .int 5)]) rfl rfl (by decide) rfl (by decide) rfl ?_
                  refine te_iinc (p2 := 145) (x := 2) (y := 3) (lv2 := [(5, .int 3), (6, .int 2), (7, .int g2), (4, .int g0), (3, .int 0), (2, .int 0), (0, .ref 164), (1, .int 5)]) rfl rfl (by decide) rfl (by decide) rfl ?_
                  refine te_goto rfl ?_
                  refine te_iload (p2 := 102) rfl rfl rfl ?_
                  refine te_iload (p2 := 104) rfl rfl rfl ?_
                  refine tb_ge (p2 := 107) rfl rfl (show Int32.toInt 3 = 3 from rfl) (show Int32.toInt 2 = 2 from rfl) (fun c301 => ?_) (fun c301 => absurd c301 (by omega))
                  refine te_iconst (p2 := 149) (x := 1) rfl rfl (by decide) ?_
                  exact te_zret rfl rfl (by decide) ⟨I298, f298, _, rfl, Or.inr ⟨rfl, (by rw [pq_xe5, on6_5, (pq_of (k := 0) hg0 : pq_n h 199 0 = g0.toInt.toNat), (pq_of (k := 1) hg1 : pq_n h 199 1 = g1.toInt.toNat), (pq_of (k := 2) hg2 : pq_n h 199 2 = g2.toInt.toNat), (pq_of (k := 3) hg3 : pq_n h 199 3 = g3.toInt.toNat), (pq_of (k := 4) hg4 : pq_n h 199 4 = g4.toInt.toNat), (pq_of (k := 0) ((u298.2 _ _ (Or.inr (by decide))).trans ((u297.2 _ _ (Or.inr (by decide))).trans ((u291.2 _ _ (Or.inr (by decide))).trans ((u290.2 _ _ (Or.inr (by decide))).trans u284.1)))) : pq_n h298 199 0 = g0.toInt.toNat), (pq_of (k := 1) ((u298.2 _ _ (Or.inr (by decide))).trans ((u297.2 _ _ (Or.inr (by decide))).trans ((u291.2 _ _ (Or.inr (by decide))).trans u290.1))) : pq_n h298 199 1 = g4.toInt.toNat), (pq_of (k := 2) ((u298.2 _ _ (Or.inr (by decide))).trans u297.1) : pq_n h298 199 2 = g3.toInt.toNat), (pq_of (k := 3) u298.1 : pq_n h298 199 3 = g2.toInt.toNat), (pq_of (k := 4) ((u298.2 _ _ (Or.inr (by decide))).trans ((u297.2 _ _ (Or.inr (by decide))).trans u291.1)) : pq_n h298 199 4 = g1.toInt.toNat)]; unfold pq_x5; rw [if_pos (by omega), if_pos (by omega), if_pos (by omega), if_neg (by omega), if_pos (by omega), if_pos (by omega), if_pos (by omega), if_pos (by omega)]), g0, g4, g3, g2, g1, g5, ((u298.2 _ _ (Or.inr (by decide))).trans ((u297.2 _ _ (Or.inr (by decide))).trans ((u291.2 _ _ (Or.inr (by decide))).trans ((u290.2 _ _ (Or.inr (by decide))).trans u284.1)))), ((u298.2 _ _ (Or.inr (by decide))).trans ((u297.2 _ _ (Or.inr (by decide))).trans ((u291.2 _ _ (Or.inr (by decide))).trans u290.1))), ((u298.2 _ _ (Or.inr (by decide))).trans u297.1), u298.1, ((u298.2 _ _ (Or.inr (by decide))).trans ((u297.2 _ _ (Or.inr (by decide))).trans u291.1)), ((u298.2 _ _ (Or.inr (by decide))).trans ((u297.2 _ _ (Or.inr (by decide))).trans ((u291.2 _ _ (Or.inr (by decide))).trans ((u290.2 _ _ (Or.inr (by decide))).trans ((u284.2 _ _ (Or.inr (by decide))).trans ((u283.2 _ _ (Or.inr (by decide))).trans hg5)))))), (by unfold prm; omega), (by unfold lexV; omega)⟩⟩
        · refine te_iinc (p2 := 28) (x := 0) (y := (-1)) (lv2 := [(2, .int (-1)), (0, .ref 164), (1, .int 5)]) rfl rfl (by decide) rfl (by decide) rfl ?_
          refine te_goto rfl ?_
          refine te_iload_n (p2 := 5) rfl rfl rfl ?_
          refine tz_lt (p2 := 8) rfl rfl (show Int32.toInt (-1) = (-1) from rfl) (fun c303 => ?_) (fun c303 => absurd c303 (by omega))
          refine te_iload_n (p2 := 32) rfl rfl rfl ?_
          refine tz_ge (p2 := 35) rfl rfl (show Int32.toInt (-1) = (-1) from rfl) (fun c304 => absurd c304 (by omega)) (fun c304 => ?_)
          refine te_iconst (p2 := 36) (x := 0) rfl rfl (by decide) ?_
          exact te_zret rfl rfl (by decide) ⟨hI, f0, _, rfl, Or.inl ⟨rfl, (by rw [pq_xe5, (pq_of (k := 0) hg0 : pq_n h 199 0 = g0.toInt.toNat), (pq_of (k := 1) hg1 : pq_n h 199 1 = g1.toInt.toNat), (pq_of (k := 2) hg2 : pq_n h 199 2 = g2.toInt.toNat), (pq_of (k := 3) hg3 : pq_n h 199 3 = g3.toInt.toNat), (pq_of (k := 4) hg4 : pq_n h 199 4 = g4.toInt.toNat)]; unfold pq_x5; rw [if_pos (by omega), if_pos (by omega), if_pos (by omega), if_pos (by omega)])⟩⟩
set_option maxRecDepth 20000 in
set_option maxHeartbeats 4000000 in
theorem c_X12_nextOrder_6 {g0 : Int32} {g1 : Int32} {g2 : Int32} {g3 : Int32} {g4 : Int32} {g5 : Int32} {h : im_H} (hI : tI h) (hg0 : rd h 199 (Int32.toInt 0).toNat = some (.int g0)) (ga0 : 0 ≤ g0.toInt) (gb0 : g0.toInt ≤ 5) (hg1 : rd h 199 (Int32.toInt 1).toNat = some (.int g1)) (ga1 : 0 ≤ g1.toInt) (gb1 : g1.toInt ≤ 5) (hg2 : rd h 199 (Int32.toInt 2).toNat = some (.int g2)) (ga2 : 0 ≤ g2.toInt) (gb2 : g2.toInt ≤ 5) (hg3 : rd h 199 (Int32.toInt 3).toNat = some (.int g3)) (ga3 : 0 ≤ g3.toInt) (gb3 : g3.toInt ≤ 5) (hg4 : rd h 199 (Int32.toInt 4).toNat = some (.int g4)) (ga4 : 0 ≤ g4.toInt) (gb4 : g4.toInt ≤ 5) (hg5 : rd h 199 (Int32.toInt 5).toNat = some (.int g5)) (ga5 : 0 ≤ g5.toInt) (gb5 : g5.toInt ≤ 5) (pr0 : prm 6 g0.toInt g1.toInt g2.toInt g3.toInt g4.toInt g5.toInt) : CaP 1 167 [.ref 164, .int 6] h (fun v h2 => tI h2 ∧ fr F_X12_nextOrder_6 h h2 ∧ ∃ y : Int32, v = some (.int y) ∧ ((y = 0 ∧ pq_x 6 (on6 6 (pq_n h 199)) = none) ∨ (y = 1 ∧ pq_x 6 (on6 6 (pq_n h 199)) = some (on6 6 (pq_n h2 199)) ∧ ∃ k0 k1 k2 k3 k4 k5 : Int32, rd h2 199 (Int32.toInt 0).toNat = some (.int k0) ∧ rd h2 199 (Int32.toInt 1).toNat = some (.int k1) ∧ rd h2 199 (Int32.toInt 2).toNat = some (.int k2) ∧ rd h2 199 (Int32.toInt 3).toNat = some (.int k3) ∧ rd h2 199 (Int32.toInt 4).toNat = some (.int k4) ∧ rd h2 199 (Int32.toInt 5).toNat = some (.int k5) ∧ prm 6 k0.toInt k1.toInt k2.toInt k3.toInt k4.toInt k5.toInt ∧ lexV g0.toInt g1.toInt g2.toInt g3.toInt g4.toInt g5.toInt < lexV k0.toInt k1.toInt k2.toInt k3.toInt k4.toInt k5.toInt))) := by
  refine cap_of (d := 0) (M := mX12_nextOrder) rfl (Nat.le_of_ble_eq_true rfl) ?_
  show EvP im_K0 0 mX12_nextOrder (0, [(0, .ref 164), (1, .int 6)], [], h) _
  obtain ⟨q0, q1, q2, q3, q4, q5⟩ := pr0
  have q0 := q0 (by decide)
  have q1 := q1 (by decide)
  have q2 := q2 (by decide)
  have q3 := q3 (by decide)
  have q4 := q4 (by decide)
  have q5 := q5 (by decide)
  have f0 : fr F_X12_nextOrder_6 h h := fr_rf
  refine te_iload_n (p2 := 1) rfl rfl rfl ?_
  refine te_iconst (p2 := 2) (x := 2) rfl rfl (by decide) ?_
  refine te_isub (p2 := 3) (z := 4) rfl rfl (by decide) ?_
  refine te_istore_n (p2 := 4) (lv2 := [(2, .int 4), (0, .ref 164), (1, .int 6)]) rfl rfl (by decide) rfl ?_
  refine te_iload_n (p2 := 5) rfl rfl rfl ?_
  refine tz_lt (p2 := 8) rfl rfl (show Int32.toInt 4 = 4 from rfl) (fun c2 => absurd c2 (by omega)) (fun c2 => ?_)
  refine te_aload_n (p2 := 9) rfl rfl rfl ?_
  refine tg_r (p2 := 12) (i := 148) (r := 215) rfl rfl hI rfl rfl rfl ?_
  refine te_iload_n (p2 := 13) rfl rfl rfl ?_
  refine tl_e (p2 := 14) (i := 199) (n := 6) (t := 0) (Or.inl rfl) rfl rfl hI rfl rfl (by decide) (by decide) hg4 ?_
  refine te_aload_n (p2 := 15) rfl rfl rfl ?_
  refine tg_r (p2 := 18) (i := 148) (r := 215) rfl rfl hI rfl rfl rfl ?_
  refine te_iload_n (p2 := 19) rfl rfl rfl ?_
  refine te_iconst (p2 := 20) (x := 1) rfl rfl (by decide) ?_
  refine te_iadd (p2 := 21) (z := 5) rfl rfl (by decide) ?_
  refine tl_e (p2 := 22) (i := 199) (n := 6) (t := 0) (Or.inl rfl) rfl rfl hI rfl rfl (by decide) (by decide) hg5 ?_
  refine tb_le (p2 := 25) rfl rfl rfl rfl (fun c6 => ?_) (fun c6 => ?_)
  · refine te_iload_n (p2 := 32) rfl rfl rfl ?_
    refine tz_ge (p2 := 35) rfl rfl (show Int32.toInt 4 = 4 from rfl) (fun c7 => ?_) (fun c7 => absurd c7 (by omega))
    refine te_iload_n (p2 := 38) rfl rfl rfl ?_
    refine te_iconst (p2 := 39) (x := 1) rfl rfl (by decide) ?_
    refine te_isub (p2 := 40) (z := 5) rfl rfl (by decide) ?_
    refine te_istore_n (p2 := 41) (lv2 := [(3, .int 5), (2, .int 4), (0, .ref 164), (1, .int 6)]) rfl rfl (by decide) rfl ?_
    refine te_aload_n (p2 := 42) rfl rfl rfl ?_
    refine tg_r (p2 := 45) (i := 148) (r := 215) rfl rfl hI rfl rfl rfl ?_
    refine te_iload_n (p2 := 46) rfl rfl rfl ?_
    refine tl_e (p2 := 47) (i := 199) (n := 6) (t := 0) (Or.inl rfl) rfl rfl hI rfl rfl (by decide) (by decide) hg5 ?_
    refine te_aload_n (p2 := 48) rfl rfl rfl ?_
    refine tg_r (p2 := 51) (i := 148) (r := 215) rfl rfl hI rfl rfl rfl ?_
    refine te_iload_n (p2 := 52) rfl rfl rfl ?_
    refine tl_e (p2 := 53) (i := 199) (n := 6) (t := 0) (Or.inl rfl) rfl rfl hI rfl rfl (by decide) (by decide) hg4 ?_
    refine tb_ge (p2 := 56) rfl rfl rfl rfl (fun c11 => ?_) (fun c11 => ?_)
    · refine te_aload_n (p2 := 63) rfl rfl rfl ?_
      refine tg_r (p2 := 66) (i := 148) (r := 215) rfl rfl hI rfl rfl rfl ?_
      refine te_iload_n (p2 := 67) rfl rfl rfl ?_
      refine tl_e (p2 := 68) (i := 199) (n := 6) (t := 0) (Or.inl rfl) rfl rfl hI rfl rfl (by decide) (by decide) hg4 ?_
      refine te_istore (p2 := 70) (lv2 := [(4, .int g4), (3, .int 5), (2, .int 4), (0, .ref 164), (1, .int 6)]) rfl rfl (by decide) rfl ?_
      refine te_aload_n (p2 := 71) rfl rfl rfl ?_
      refine tg_r (p2 := 74) (i := 148) (r := 215) rfl rfl hI rfl rfl rfl ?_
      refine te_iload_n (p2 := 75) rfl rfl rfl ?_
      refine te_aload_n (p2 := 76) rfl rfl rfl ?_
      refine tg_r (p2 := 79) (i := 148) (r := 215) rfl rfl hI rfl rfl rfl ?_
      refine te_iload_n (p2 := 80) rfl rfl rfl ?_
      refine tl_e (p2 := 81) (i := 199) (n := 6) (t := 0) (Or.inl rfl) rfl rfl hI rfl rfl (by decide) (by decide) hg5 ?_
      refine ts_i (p2 := 82) (i := 199) (n := 6) rfl rfl hI rfl rfl rfl rfl (by decide) (by decide) (by omega) (by omega) (by omega) rfl (fun h14 I14 u14 => ?_)
      have f14 := fr_st (F := F_X12_nextOrder_6) 0 f0 u14 rfl (by decide) (by decide)
      refine te_aload_n (p2 := 83) rfl rfl rfl ?_
      refine tg_r (p2 := 86) (i := 148) (r := 215) rfl rfl I14 rfl rfl rfl ?_
      refine te_iload_n (p2 := 87) rfl rfl rfl ?_
      refine te_iload (p2 := 89) rfl rfl rfl ?_
      refine ts_i (p2 := 90) (i := 199) (n := 6) rfl rfl I14 rfl rfl rfl rfl (by decide) (by decide) (by omega) (by omega) (by omega) rfl (fun h15 I15 u15 => ?_)
      have f15 := fr_st (F := F_X12_nextOrder_6) 0 f14 u15 rfl (by decide) (by decide)
      refine te_iload_n (p2 := 91) rfl rfl rfl ?_
      refine te_iconst (p2 := 92) (x := 1) rfl rfl (by decide) ?_
      refine te_iadd (p2 := 93) (z := 5) rfl rfl (by decide) ?_
      refine te_istore (p2 := 95) (lv2 := [(5, .int 5), (4, .int g4), (3, .int 5), (2, .int 4), (0, .ref 164), (1, .int 6)]) rfl rfl (by decide) rfl ?_
      refine te_iload_n (p2 := 96) rfl rfl rfl ?_
      refine te_iconst (p2 := 97) (x := 1) rfl rfl (by decide) ?_
      refine te_isub (p2 := 98) (z := 5) rfl rfl (by decide) ?_
      refine te_istore (p2 := 100) (lv2 := [(6, .int 5), (5, .int 5), (4, .int g4), (3, .int 5), (2, .int 4), (0, .ref 164), (1, .int 6)]) rfl rfl (by decide) rfl ?_
      refine te_iload (p2 := 102) rfl rfl rfl ?_
      refine te_iload (p2 := 104) rfl rfl rfl ?_
      refine tb_ge (p2 := 107) rfl rfl (show Int32.toInt 5 = 5 from rfl) (show Int32.toInt 5 = 5 from rfl) (fun c18 => ?_) (fun c18 => absurd c18 (by omega))
      refine te_iconst (p2 := 149) (x := 1) rfl rfl (by decide) ?_
      exact te_zret rfl rfl (by decide) ⟨I15, f15, _, rfl, Or.inr ⟨rfl, (by rw [pq_xe6, on6_6, (pq_of (k := 0) hg0 : pq_n h 199 0 = g0.toInt.toNat), (pq_of (k := 1) hg1 : pq_n h 199 1 = g1.toInt.toNat), (pq_of (k := 2) hg2 : pq_n h 199 2 = g2.toInt.toNat), (pq_of (k := 3) hg3 : pq_n h 199 3 = g3.toInt.toNat), (pq_of (k := 4) hg4 : pq_n h 199 4 = g4.toInt.toNat), (pq_of (k := 5) hg5 : pq_n h 199 5 = g5.toInt.toNat), (pq_of (k := 0) ((u15.2 _ _ (Or.inr (by decide))).trans ((u14.2 _ _ (Or.inr (by decide))).trans hg0)) : pq_n h15 199 0 = g0.toInt.toNat), (pq_of (k := 1) ((u15.2 _ _ (Or.inr (by decide))).trans ((u14.2 _ _ (Or.inr (by decide))).trans hg1)) : pq_n h15 199 1 = g1.toInt.toNat), (pq_of (k := 2) ((u15.2 _ _ (Or.inr (by decide))).trans ((u14.2 _ _ (Or.inr (by decide))).trans hg2)) : pq_n h15 199 2 = g2.toInt.toNat), (pq_of (k := 3) ((u15.2 _ _ (Or.inr (by decide))).trans ((u14.2 _ _ (Or.inr (by decide))).trans hg3)) : pq_n h15 199 3 = g3.toInt.toNat), (pq_of (k := 4) ((u15.2 _ _ (Or.inr (by decide))).trans u14.1) : pq_n h15 199 4 = g5.toInt.toNat), (pq_of (k := 5) u15.1 : pq_n h15 199 5 = g4.toInt.toNat)]; unfold pq_x6; rw [if_neg (by omega), if_neg (by omega)]), g0, g1, g2, g3, g5, g4, ((u15.2 _ _ (Or.inr (by decide))).trans ((u14.2 _ _ (Or.inr (by decide))).trans hg0)), ((u15.2 _ _ (Or.inr (by decide))).trans ((u14.2 _ _ (Or.inr (by decide))).trans hg1)), ((u15.2 _ _ (Or.inr (by decide))).trans ((u14.2 _ _ (Or.inr (by decide))).trans hg2)), ((u15.2 _ _ (Or.inr (by decide))).trans ((u14.2 _ _ (Or.inr (by decide))).trans hg3)), ((u15.2 _ _ (Or.inr (by decide))).trans u14.1), u15.1, (by unfold prm; omega), (by unfold lexV; omega)⟩⟩
    · refine te_iinc (p2 := 59) (x := 5) (y := 4) (lv2 := [(3, .int 4), (2, .int 4), (0, .ref 164), (1, .int 6)]) rfl rfl (by decide) rfl (by decide) rfl ?_
      refine te_goto rfl ?_
      refine te_aload_n (p2 := 42) rfl rfl rfl ?_
      refine tg_r (p2 := 45) (i := 148) (r := 215) rfl rfl hI rfl rfl rfl ?_
      refine te_iload_n (p2 := 46) rfl rfl rfl ?_
      refine tl_e (p2 := 47) (i := 199) (n := 6) (t := 0) (Or.inl rfl) rfl rfl hI rfl rfl (by decide) (by decide) hg4 ?_
      refine te_aload_n (p2 := 48) rfl rfl rfl ?_
      refine tg_r (p2 := 51) (i := 148) (r := 215) rfl rfl hI rfl rfl rfl ?_
      refine te_iload_n (p2 := 52) rfl rfl rfl ?_
      refine tl_e (p2 := 53) (i := 199) (n := 6) (t := 0) (Or.inl rfl) rfl rfl hI rfl rfl (by decide) (by decide) hg4 ?_
      refine tb_ge (p2 := 56) rfl rfl rfl rfl (fun c22 => ?_) (fun c22 => absurd c22 (by omega))
      refine te_aload_n (p2 := 63) rfl rfl rfl ?_
      refine tg_r (p2 := 66) (i := 148) (r := 215) rfl rfl hI rfl rfl rfl ?_
      refine te_iload_n (p2 := 67) rfl rfl rfl ?_
      refine tl_e (p2 := 68) (i := 199) (n := 6) (t := 0) (Or.inl rfl) rfl rfl hI rfl rfl (by decide) (by decide) hg4 ?_
      refine te_istore (p2 := 70) (lv2 := [(4, .int g4), (3, .int 4), (2, .int 4), (0, .ref 164), (1, .int 6)]) rfl rfl (by decide) rfl ?_
      refine te_aload_n (p2 := 71) rfl rfl rfl ?_
      refine tg_r (p2 := 74) (i := 148) (r := 215) rfl rfl hI rfl rfl rfl ?_
      refine te_iload_n (p2 := 75) rfl rfl rfl ?_
      refine te_aload_n (p2 := 76) rfl rfl rfl ?_
      refine tg_r (p2 := 79) (i := 148) (r := 215) rfl rfl hI rfl rfl rfl ?_
      refine te_iload_n (p2 := 80) rfl rfl rfl ?_
      refine tl_e (p2 := 81) (i := 199) (n := 6) (t := 0) (Or.inl rfl) rfl rfl hI rfl rfl (by decide) (by decide) hg4 ?_
      refine ts_i (p2 := 82) (i := 199) (n := 6) rfl rfl hI rfl rfl rfl rfl (by decide) (by decide) (by omega) (by omega) (by omega) rfl (fun h25 I25 u25 => ?_)
      have f25 := fr_st (F := F_X12_nextOrder_6) 0 f0 u25 rfl (by decide) (by decide)
      refine te_aload_n (p2 := 83) rfl rfl rfl ?_
      refine tg_r (p2 := 86) (i := 148) (r := 215) rfl rfl I25 rfl rfl rfl ?_
      refine te_iload_n (p2 := 87) rfl rfl rfl ?_
      refine te_iload (p2 := 89) rfl rfl rfl ?_
      refine ts_i (p2 := 90) (i := 199) (n := 6) rfl rfl I25 rfl rfl rfl rfl (by decide) (by decide) (by omega) (by omega) (by omega) rfl (fun h26 I26 u26 => ?_)
      have f26 := fr_st (F := F_X12_nextOrder_6) 0 f25 u26 rfl (by decide) (by decide)
      refine te_iload_n (p2 := 91) rfl rfl rfl ?_
      refine te_iconst (p2 := 92) (x := 1) rfl rfl (by decide) ?_
      refine te_iadd (p2 := 93) (z := 5) rfl rfl (by decide) ?_
      refine te_istore (p2 := 95) (lv2 := [(5, .int 5), (4, .int g4), (3, .int 4), (2, .int 4), (0, .ref 164), (1, .int 6)]) rfl rfl (by decide) rfl ?_
      refine te_iload_n (p2 := 96) rfl rfl rfl ?_
      refine te_iconst (p2 := 97) (x := 1) rfl rfl (by decide) ?_
      refine te_isub (p2 := 98) (z := 5) rfl rfl (by decide) ?_
      refine te_istore (p2 := 100) (lv2 := [(6, .int 5), (5, .int 5), (4, .int g4), (3, .int 4), (2, .int 4), (0, .ref 164), (1, .int 6)]) rfl rfl (by decide) rfl ?_
      refine te_iload (p2 := 102) rfl rfl rfl ?_
      refine te_iload (p2 := 104) rfl rfl rfl ?_
      refine tb_ge (p2 := 107) rfl rfl (show Int32.toInt 5 = 5 from rfl) (show Int32.toInt 5 = 5 from rfl) (fun c29 => ?_) (fun c29 => absurd c29 (by omega))
      refine te_iconst (p2 := 149) (x := 1) rfl rfl (by decide) ?_
      exact te_zret rfl rfl (by decide) ⟨I26, f26, _, rfl, Or.inr ⟨rfl, (by rw [pq_xe6, on6_6, (pq_of (k := 0) hg0 : pq_n h 199 0 = g0.toInt.toNat), (pq_of (k := 1) hg1 : pq_n h 199 1 = g1.toInt.toNat), (pq_of (k := 2) hg2 : pq_n h 199 2 = g2.toInt.toNat), (pq_of (k := 3) hg3 : pq_n h 199 3 = g3.toInt.toNat), (pq_of (k := 4) hg4 : pq_n h 199 4 = g4.toInt.toNat), (pq_of (k := 5) hg5 : pq_n h 199 5 = g5.toInt.toNat), (pq_of (k := 0) ((u26.2 _ _ (Or.inr (by decide))).trans ((u25.2 _ _ (Or.inr (by decide))).trans hg0)) : pq_n h26 199 0 = g0.toInt.toNat), (pq_of (k := 1) ((u26.2 _ _ (Or.inr (by decide))).trans ((u25.2 _ _ (Or.inr (by decide))).trans hg1)) : pq_n h26 199 1 = g1.toInt.toNat), (pq_of (k := 2) ((u26.2 _ _ (Or.inr (by decide))).trans ((u25.2 _ _ (Or.inr (by decide))).trans hg2)) : pq_n h26 199 2 = g2.toInt.toNat), (pq_of (k := 3) ((u26.2 _ _ (Or.inr (by decide))).trans ((u25.2 _ _ (Or.inr (by decide))).trans hg3)) : pq_n h26 199 3 = g3.toInt.toNat), (pq_of (k := 4) u26.1 : pq_n h26 199 4 = g4.toInt.toNat), (pq_of (k := 5) ((u26.2 _ _ (Or.inr (by decide))).trans ((u25.2 _ _ (Or.inr (by decide))).trans hg5)) : pq_n h26 199 5 = g5.toInt.toNat)]; unfold pq_x6; rw [if_neg (by omega), if_pos (by omega)]), g0, g1, g2, g3, g4, g5, ((u26.2 _ _ (Or.inr (by decide))).trans ((u25.2 _ _ (Or.inr (by decide))).trans hg0)), ((u26.2 _ _ (Or.inr (by decide))).trans ((u25.2 _ _ (Or.inr (by decide))).trans hg1)), ((u26.2 _ _ (Or.inr (by decide))).trans ((u25.2 _ _ (Or.inr (by decide))).trans hg2)), ((u26.2 _ _ (Or.inr (by decide))).trans ((u25.2 _ _ (Or.inr (by decide))).trans hg3)), u26.1, ((u26.2 _ _ (Or.inr (by decide))).trans ((u25.2 _ _ (Or.inr (by decide))).trans hg5)), (by unfold prm; omega), (by unfold lexV; omega)⟩⟩
  · refine te_iinc (p2 := 28) (x := 4) (y := 3) (lv2 := [(2, .int 3), (0, .ref 164), (1, .int 6)]) rfl rfl (by decide) rfl (by decide) rfl ?_
    refine te_goto rfl ?_
    refine te_iload_n (p2 := 5) rfl rfl rfl ?_
    refine tz_lt (p2 := 8) rfl rfl (show Int32.toInt 3 = 3 from rfl) (fun c31 => absurd c31 (by omega)) (fun c31 => ?_)
    refine te_aload_n (p2 := 9) rfl rfl rfl ?_
    refine tg_r (p2 := 12) (i := 148) (r := 215) rfl rfl hI rfl rfl rfl ?_
    refine te_iload_n (p2 := 13) rfl rfl rfl ?_
    refine tl_e (p2 := 14) (i := 199) (n := 6) (t := 0) (Or.inl rfl) rfl rfl hI rfl rfl (by decide) (by decide) hg3 ?_
    refine te_aload_n (p2 := 15) rfl rfl rfl ?_
    refine tg_r (p2 := 18) (i := 148) (r := 215) rfl rfl hI rfl rfl rfl ?_
    refine te_iload_n (p2 := 19) rfl rfl rfl ?_
    refine te_iconst (p2 := 20) (x := 1) rfl rfl (by decide) ?_
    refine te_iadd (p2 := 21) (z := 4) rfl rfl (by decide) ?_
    refine tl_e (p2 := 22) (i := 199) (n := 6) (t := 0) (Or.inl rfl) rfl rfl hI rfl rfl (by decide) (by decide) hg4 ?_
    refine tb_le (p2 := 25) rfl rfl rfl rfl (fun c35 => ?_) (fun c35 => ?_)
    · refine te_iload_n (p2 := 32) rfl rfl rfl ?_
      refine tz_ge (p2 := 35) rfl rfl (show Int32.toInt 3 = 3 from rfl) (fun c36 => ?_) (fun c36 => absurd c36 (by omega))
      refine te_iload_n (p2 := 38) rfl rfl rfl ?_
      refine te_iconst (p2 := 39) (x := 1) rfl rfl (by decide) ?_
      refine te_isub (p2 := 40) (z := 5) rfl rfl (by decide) ?_
      refine te_istore_n (p2 := 41) (lv2 := [(3, .int 5), (2, .int 3), (0, .ref 164), (1, .int 6)]) rfl rfl (by decide) rfl ?_
      refine te_aload_n (p2 := 42) rfl rfl rfl ?_
      refine tg_r (p2 := 45) (i := 148) (r := 215) rfl rfl hI rfl rfl rfl ?_
      refine te_iload_n (p2 := 46) rfl rfl rfl ?_
      refine tl_e (p2 := 47) (i := 199) (n := 6) (t := 0) (Or.inl rfl) rfl rfl hI rfl rfl (by decide) (by decide) hg5 ?_
      refine te_aload_n (p2 := 48) rfl rfl rfl ?_
      refine tg_r (p2 := 51) (i := 148) (r := 215) rfl rfl hI rfl rfl rfl ?_
      refine te_iload_n (p2 := 52) rfl rfl rfl ?_
      refine tl_e (p2 := 53) (i := 199) (n := 6) (t := 0) (Or.inl rfl) rfl rfl hI rfl rfl (by decide) (by decide) hg3 ?_
      refine tb_ge (p2 := 56) rfl rfl rfl rfl (fun c40 => ?_) (fun c40 => ?_)
      · refine te_aload_n (p2 := 63) rfl rfl rfl ?_
        refine tg_r (p2 := 66) (i := 148) (r := 215) rfl rfl hI rfl rfl rfl ?_
        refine te_iload_n (p2 := 67) rfl rfl rfl ?_
        refine tl_e (p2 := 68) (i := 199) (n := 6) (t := 0) (Or.inl rfl) rfl rfl hI rfl rfl (by decide) (by decide) hg3 ?_
        refine te_istore (p2 := 70) (lv2 := [(4, .int g3), (3, .int 5), (2, .int 3), (0, .ref 164), (1, .int 6)]) rfl rfl (by decide) rfl ?_
        refine te_aload_n (p2 := 71) rfl rfl rfl ?_
        refine tg_r (p2 := 74) (i := 148) (r := 215) rfl rfl hI rfl rfl rfl ?_
        refine te_iload_n (p2 := 75) rfl rfl rfl ?_
        refine te_aload_n (p2 := 76) rfl rfl rfl ?_
        refine tg_r (p2 := 79) (i := 148) (r := 215) rfl rfl hI rfl rfl rfl ?_
        refine te_iload_n (p2 := 80) rfl rfl rfl ?_
        refine tl_e (p2 := 81) (i := 199) (n := 6) (t := 0) (Or.inl rfl) rfl rfl hI rfl rfl (by decide) (by decide) hg5 ?_
        refine ts_i (p2 := 82) (i := 199) (n := 6) rfl rfl hI rfl rfl rfl rfl (by decide) (by decide) (by omega) (by omega) (by omega) rfl (fun h43 I43 u43 => ?_)
        have f43 := fr_st (F := F_X12_nextOrder_6) 0 f0 u43 rfl (by decide) (by decide)
        refine te_aload_n (p2 := 83) rfl rfl rfl ?_
        refine tg_r (p2 := 86) (i := 148) (r := 215) rfl rfl I43 rfl rfl rfl ?_
        refine te_iload_n (p2 := 87) rfl rfl rfl ?_
        refine te_iload (p2 := 89) rfl rfl rfl ?_
        refine ts_i (p2 := 90) (i := 199) (n := 6) rfl rfl I43 rfl rfl rfl rfl (by decide) (by decide) (by omega) (by omega) (by omega) rfl (fun h44 I44 u44 => ?_)
        have f44 := fr_st (F := F_X12_nextOrder_6) 0 f43 u44 rfl (by decide) (by decide)
        refine te_iload_n (p2 := 91) rfl rfl rfl ?_
        refine te_iconst (p2 := 92) (x := 1) rfl rfl (by decide) ?_
        refine te_iadd (p2 := 93) (z := 4) rfl rfl (by decide) ?_
        refine te_istore (p2 := 95) (lv2 := [(5, .int 4), (4, .int g3), (3, .int 5), (2, .int 3), (0, .ref 164), (1, .int 6)]) rfl rfl (by decide) rfl ?_
        refine te_iload_n (p2 := 96) rfl rfl rfl ?_
        refine te_iconst (p2 := 97) (x := 1) rfl rfl (by decide) ?_
        refine te_isub (p2 := 98) (z := 5) rfl rfl (by decide) ?_
        refine te_istore (p2 := 100) (lv2 := [(6, .int 5), (5, .int 4), (4, .int g3), (3, .int 5), (2, .int 3), (0, .ref 164), (1, .int 6)]) rfl rfl (by decide) rfl ?_
        refine te_iload (p2 := 102) rfl rfl rfl ?_
        refine te_iload (p2 := 104) rfl rfl rfl ?_
        refine tb_ge (p2 := 107) rfl rfl (show Int32.toInt 4 = 4 from rfl) (show Int32.toInt 5 = 5 from rfl) (fun c47 => absurd c47 (by omega)) (fun c47 => ?_)
        refine te_aload_n (p2 := 108) rfl rfl rfl ?_
        refine tg_r (p2 := 111) (i := 148) (r := 215) rfl rfl I44 rfl rfl rfl ?_
        refine te_iload (p2 := 113) rfl rfl rfl ?_
        refine tl_e (p2 := 114) (i := 199) (n := 6) (t := 0) (Or.inl rfl) rfl rfl I44 rfl rfl (by decide) (by decide) ((u44.2 _ _ (Or.inr (by decide))).trans ((u43.2 _ _ (Or.inr (by decide))).trans hg4)) ?_
        refine te_istore (p2 := 116) (lv2 := [(7, .int g4), (6, .int 5), (5, .int 4), (4, .int g3), (3, .int 5), (2, .int 3), (0, .ref 164), (1, .int 6)]) rfl rfl (by decide) rfl ?_
        refine te_aload_n (p2 := 117) rfl rfl rfl ?_
        refine tg_r (p2 := 120) (i := 148) (r := 215) rfl rfl I44 rfl rfl rfl ?_
        refine te_iload (p2 := 122) rfl rfl rfl ?_
        refine te_aload_n (p2 := 123) rfl rfl rfl ?_
        refine tg_r (p2 := 126) (i := 148) (r := 215) rfl rfl I44 rfl rfl rfl ?_
        refine te_iload (p2 := 128) rfl rfl rfl ?_
        refine tl_e (p2 := 129) (i := 199) (n := 6) (t := 0) (Or.inl rfl) rfl rfl I44 rfl rfl (by decide) (by decide) u44.1 ?_
        refine ts_i (p2 := 130) (i := 199) (n := 6) rfl rfl I44 rfl rfl rfl rfl (by decide) (by decide) (by omega) (by omega) (by omega) rfl (fun h50 I50 u50 => ?_)
        have f50 := fr_st (F := F_X12_nextOrder_6) 0 f44 u50 rfl (by decide) (by decide)
        refine te_aload_n (p2 := 131) rfl rfl rfl ?_
        refine tg_r (p2 := 134) (i := 148) (r := 215) rfl rfl I50 rfl rfl rfl ?_
        refine te_iload (p2 := 136) rfl rfl rfl ?_
        refine te_iload (p2 := 138) rfl rfl rfl ?_
        refine ts_i (p2 := 139) (i := 199) (n := 6) rfl rfl I50 rfl rfl rfl rfl (by decide) (by decide) (by omega) (by omega) (by omega) rfl (fun h51 I51 u51 => ?_)
        have f51 := fr_st (F := F_X12_nextOrder_6) 0 f50 u51 rfl (by decide) (by decide)
        refine te_iinc (p2 := 142) (x := 5) (y := 4) (lv2 := [(6, .int 4), (7, .int g4), (5, .int 4), (4, .int g3), (3, .int 5), (2, .int 3), (0, .ref 164), (1, .int 6)]) rfl rfl (by decide) rfl (by decide) rfl ?_
        refine te_iinc (p2 := 145) (x := 4) (y := 5) (lv2 := [(5, .int 5), (6, .int 4), (7, .int g4), (4, .int g3), (3, .int 5), (2, .int 3), (0, .ref 164), (1, .int 6)]) rfl rfl (by decide) rfl (by decide) rfl ?_
        refine te_goto rfl ?_
        refine te_iload (p2 := 102) rfl rfl rfl ?_
        refine te_iload (p2 := 104) rfl rfl rfl ?_
        refine tb_ge (p2 := 107) rfl rfl (show Int32.toInt 5 = 5 from rfl) (show Int32.toInt 4 = 4 from rfl) (fun c54 => ?_) (fun c54 => absurd c54 (by omega))
        refine te_iconst (p2 := 149) (x := 1) rfl rfl (by decide) ?_
        exact te_zret rfl rfl (by decide) ⟨I51, f51, _, rfl, Or.inr ⟨rfl, (by rw [pq_xe6, on6_6, (pq_of (k := 0) hg0 : pq_n h 199 0 = g0.toInt.toNat), (pq_of (k := 1) hg1 : pq_n h 199 1 = g1.toInt.toNat), (pq_of (k := 2) hg2 : pq_n h 199 2 = g2.toInt.toNat), (pq_of (k := 3) hg3 : pq_n h 199 3 = g3.toInt.toNat), (pq_of (k := 4) hg4 : pq_n h 199 4 = g4.toInt.toNat), (pq_of (k := 5) hg5 : pq_n h 199 5 = g5.toInt.toNat), (pq_of (k := 0) ((u51.2 _ _ (Or.inr (by decide))).trans ((u50.2 _ _ (Or.inr (by decide))).trans ((u44.2 _ _ (Or.inr (by decide))).trans ((u43.2 _ _ (Or.inr (by decide))).trans hg0)))) : pq_n h51 199 0 = g0.toInt.toNat), (pq_of (k := 1) ((u51.2 _ _ (Or.inr (by decide))).trans ((u50.2 _ _ (Or.inr (by decide))).trans ((u44.2 _ _ (Or.inr (by decide))).trans ((u43.2 _ _ (Or.inr (by decide))).trans hg1)))) : pq_n h51 199 1 = g1.toInt.toNat), (pq_of (k := 2) ((u51.2 _ _ (Or.inr (by decide))).trans ((u50.2 _ _ (Or.inr (by decide))).trans ((u44.2 _ _ (Or.inr (by decide))).trans ((u43.2 _ _ (Or.inr (by decide))).trans hg2)))) : pq_n h51 199 2 = g2.toInt.toNat), (pq_of (k := 3) ((u51.2 _ _ (Or.inr (by decide))).trans ((u50.2 _ _ (Or.inr (by decide))).trans ((u44.2 _ _ (Or.inr (by decide))).trans u43.1))) : pq_n h51 199 3 = g5.toInt.toNat), (pq_of (k := 4) ((u51.2 _ _ (Or.inr (by decide))).trans u50.1) : pq_n h51 199 4 = g3.toInt.toNat), (pq_of (k := 5) u51.1 : pq_n h51 199 5 = g4.toInt.toNat)]; unfold pq_x6; rw [if_pos (by omega), if_neg (by omega), if_neg (by omega)]), g0, g1, g2, g5, g3, g4, ((u51.2 _ _ (Or.inr (by decide))).trans ((u50.2 _ _ (Or.inr (by decide))).trans ((u44.2 _ _ (Or.inr (by decide))).trans ((u43.2 _ _ (Or.inr (by decide))).trans hg0)))), ((u51.2 _ _ (Or.inr (by decide))).trans ((u50.2 _ _ (Or.inr (by decide))).trans ((u44.2 _ _ (Or.inr (by decide))).trans ((u43.2 _ _ (Or.inr (by decide))).trans hg1)))), ((u51.2 _ _ (Or.inr (by decide))).trans ((u50.2 _ _ (Or.inr (by decide))).trans ((u44.2 _ _ (Or.inr (by decide))).trans ((u43.2 _ _ (Or.inr (by decide))).trans hg2)))), ((u51.2 _ _ (Or.inr (by decide))).trans ((u50.2 _ _ (Or.inr (by decide))).trans ((u44.2 _ _ (Or.inr (by decide))).trans u43.1))), ((u51.2 _ _ (Or.inr (by decide))).trans u50.1), u51.1, (by unfold prm; omega), (by unfold lexV; omega)⟩⟩
      · refine te_iinc (p2 := 59) (x := 5) (y := 4) (lv2 := [(3, .int 4), (2, .int 3), (0, .ref 164), (1, .int 6)]) rfl rfl (by decide) rfl (by decide) rfl ?_
        refine te_goto rfl ?_
        refine te_aload_n (p2 := 42) rfl rfl rfl ?_
        refine tg_r (p2 := 45) (i := 148) (r := 215) rfl rfl hI rfl rfl rfl ?_
        refine te_iload_n (p2 := 46) rfl rfl rfl ?_
        refine tl_e (p2 := 47) (i := 199) (n := 6) (t := 0) (Or.inl rfl) rfl rfl hI rfl rfl (by decide) (by decide) hg4 ?_
        refine te_aload_n (p2 := 48) rfl rfl rfl ?_
        refine tg_r (p2 := 51) (i := 148) (r := 215) rfl rfl hI rfl rfl rfl ?_
        refine te_iload_n (p2 := 52) rfl rfl rfl ?_
        refine tl_e (p2 := 53) (i := 199) (n := 6) (t := 0) (Or.inl rfl) rfl rfl hI rfl rfl (by decide) (by decide) hg3 ?_
        refine tb_ge (p2 := 56) rfl rfl rfl rfl (fun c58 => ?_) (fun c58 => ?_)
        · refine te_aload_n (p2 := 63) rfl rfl rfl ?_
          refine tg_r (p2 := 66) (i := 148) (r := 215) rfl rfl hI rfl rfl rfl ?_
          refine te_iload_n (p2 := 67) rfl rfl rfl ?_
          refine tl_e (p2 := 68) (i := 199) (n := 6) (t := 0) (Or.inl rfl) rfl rfl hI rfl rfl (by decide) (by decide) hg3 ?_
          refine te_istore (p2 := 70) (lv2 := [(4, .int g3), (3, .int 4), (2, .int 3), (0, .ref 164), (1, .int 6)]) rfl rfl (by decide) rfl ?_
          refine te_aload_n (p2 := 71) rfl rfl rfl ?_
          refine tg_r (p2 := 74) (i := 148) (r := 215) rfl rfl hI rfl rfl rfl ?_
          refine te_iload_n (p2 := 75) rfl rfl rfl ?_
          refine te_aload_n (p2 := 76) rfl rfl rfl ?_
          refine tg_r (p2 := 79) (i := 148) (r := 215) rfl rfl hI rfl rfl rfl ?_
          refine te_iload_n (p2 := 80) rfl rfl rfl ?_
          refine tl_e (p2 := 81) (i := 199) (n := 6) (t := 0) (Or.inl rfl) rfl rfl hI rfl rfl (by decide) (by decide) hg4 ?_
          refine ts_i (p2 := 82) (i := 199) (n := 6) rfl rfl hI rfl rfl rfl rfl (by decide) (by decide) (by omega) (by omega) (by omega) rfl (fun h61 I61 u61 => ?_)
          have f61 := fr_st (F := F_X12_nextOrder_6) 0 f0 u61 rfl (by decide) (by decide)
          refine te_aload_n (p2 := 83) rfl rfl rfl ?_
          refine tg_r (p2 := 86) (i := 148) (r := 215) rfl rfl I61 rfl rfl rfl ?_
          refine te_iload_n (p2 := 87) rfl rfl rfl ?_
          refine te_iload (p2 := 89) rfl rfl rfl ?_
          refine ts_i (p2 := 90) (i := 199) (n := 6) rfl rfl I61 rfl rfl rfl rfl (by decide) (by decide) (by omega) (by omega) (by omega) rfl (fun h62 I62 u62 => ?_)
          have f62 := fr_st (F := F_X12_nextOrder_6) 0 f61 u62 rfl (by decide) (by decide)
          refine te_iload_n (p2 := 91) rfl rfl rfl ?_
          refine te_iconst (p2 := 92) (x := 1) rfl rfl (by decide) ?_
          refine te_iadd (p2 := 93) (z := 4) rfl rfl (by decide) ?_
          refine te_istore (p2 := 95) (lv2 := [(5, .int 4), (4, .int g3), (3, .int 4), (2, .int 3), (0, .ref 164), (1, .int 6)]) rfl rfl (by decide) rfl ?_
          refine te_iload_n (p2 := 96) rfl rfl rfl ?_
          refine te_iconst (p2 := 97) (x := 1) rfl rfl (by decide) ?_
          refine te_isub (p2 := 98) (z := 5) rfl rfl (by decide) ?_
          refine te_istore (p2 := 100) (lv2 := [(6, .int 5), (5, .int 4), (4, .int g3), (3, .int 4), (2, .int 3), (0, .ref 164), (1, .int 6)]) rfl rfl (by decide) rfl ?_
          refine te_iload (p2 := 102) rfl rfl rfl ?_
          refine te_iload (p2 := 104) rfl rfl rfl ?_
          refine tb_ge (p2 := 107) rfl rfl (show Int32.toInt 4 = 4 from rfl) (show Int32.toInt 5 = 5 from rfl) (fun c65 => absurd c65 (by omega)) (fun c65 => ?_)
          refine te_aload_n (p2 := 108) rfl rfl rfl ?_
          refine tg_r (p2 := 111) (i := 148) (r := 215) rfl rfl I62 rfl rfl rfl ?_
          refine te_iload (p2 := 113) rfl rfl rfl ?_
          refine tl_e (p2 := 114) (i := 199) (n := 6) (t := 0) (Or.inl rfl) rfl rfl I62 rfl rfl (by decide) (by decide) u62.1 ?_
          refine te_istore (p2 := 116) (lv2 := [(7, .int g3), (6, .int 5), (5, .int 4), (4, .int g3), (3, .int 4), (2, .int 3), (0, .ref 164), (1, .int 6)]) rfl rfl (by decide) rfl ?_
          refine te_aload_n (p2 := 117) rfl rfl rfl ?_
          refine tg_r (p2 := 120) (i := 148) (r := 215) rfl rfl I62 rfl rfl rfl ?_
          refine te_iload (p2 := 122) rfl rfl rfl ?_
          refine te_aload_n (p2 := 123) rfl rfl rfl ?_
          refine tg_r (p2 := 126) (i := 148) (r := 215) rfl rfl I62 rfl rfl rfl ?_
          refine te_iload (p2 := 128) rfl rfl rfl ?_
          refine tl_e (p2 := 129) (i := 199) (n := 6) (t := 0) (Or.inl rfl) rfl rfl I62 rfl rfl (by decide) (by decide) ((u62.2 _ _ (Or.inr (by decide))).trans ((u61.2 _ _ (Or.inr (by decide))).trans hg5)) ?_
          refine ts_i (p2 := 130) (i := 199) (n := 6) rfl rfl I62 rfl rfl rfl rfl (by decide) (by decide) (by omega) (by omega) (by omega) rfl (fun h68 I68 u68 => ?_)
          have f68 := fr_st (F := F_X12_nextOrder_6) 0 f62 u68 rfl (by decide) (by decide)
          refine te_aload_n (p2 := 131) rfl rfl rfl ?_
          refine tg_r (p2 := 134) (i := 148) (r := 215) rfl rfl I68 rfl rfl rfl ?_
          refine te_iload (p2 := 136) rfl rfl rfl ?_
          refine te_iload (p2 := 138) rfl rfl rfl ?_
          refine ts_i (p2 := 139) (i := 199) (n := 6) rfl rfl I68 rfl rfl rfl rfl (by decide) (by decide) (by omega) (by omega) (by omega) rfl (fun h69 I69 u69 => ?_)
          have f69 := fr_st (F := F_X12_nextOrder_6) 0 f68 u69 rfl (by decide) (by decide)
          refine te_iinc (p2 := 142) (x := 5) (y := 4) (lv2 := [(6, .int 4), (7, .int g3), (5, .int 4), (4, .int g3), (3, .int 4), (2, .int 3), (0, .ref 164), (1, .int 6)]) rfl rfl (by decide) rfl (by decide) rfl ?_
          refine te_iinc (p2 := 145) (x := 4) (y := 5) (lv2 := [(5, .int 5), (6, .int 4), (7, .int g3), (4, .int g3), (3, .int 4), (2, .int 3), (0, .ref 164), (1, .int 6)]) rfl rfl (by decide) rfl (by decide) rfl ?_
          refine te_goto rfl ?_
          refine te_iload (p2 := 102) rfl rfl rfl ?_
          refine te_iload (p2 := 104) rfl rfl rfl ?_
          refine tb_ge (p2 := 107) rfl rfl (show Int32.toInt 5 = 5 from rfl) (show Int32.toInt 4 = 4 from rfl) (fun c72 => ?_) (fun c72 => absurd c72 (by omega))
          refine te_iconst (p2 := 149) (x := 1) rfl rfl (by decide) ?_
          exact te_zret rfl rfl (by decide) ⟨I69, f69, _, rfl, Or.inr ⟨rfl, (by rw [pq_xe6, on6_6, (pq_of (k := 0) hg0 : pq_n h 199 0 = g0.toInt.toNat), (pq_of (k := 1) hg1 : pq_n h 199 1 = g1.toInt.toNat), (pq_of (k := 2) hg2 : pq_n h 199 2 = g2.toInt.toNat), (pq_of (k := 3) hg3 : pq_n h 199 3 = g3.toInt.toNat), (pq_of (k := 4) hg4 : pq_n h 199 4 = g4.toInt.toNat), (pq_of (k := 5) hg5 : pq_n h 199 5 = g5.toInt.toNat), (pq_of (k := 0) ((u69.2 _ _ (Or.inr (by decide))).trans ((u68.2 _ _ (Or.inr (by decide))).trans ((u62.2 _ _ (Or.inr (by decide))).trans ((u61.2 _ _ (Or.inr (by decide))).trans hg0)))) : pq_n h69 199 0 = g0.toInt.toNat), (pq_of (k := 1) ((u69.2 _ _ (Or.inr (by decide))).trans ((u68.2 _ _ (Or.inr (by decide))).trans ((u62.2 _ _ (Or.inr (by decide))).trans ((u61.2 _ _ (Or.inr (by decide))).trans hg1)))) : pq_n h69 199 1 = g1.toInt.toNat), (pq_of (k := 2) ((u69.2 _ _ (Or.inr (by decide))).trans ((u68.2 _ _ (Or.inr (by decide))).trans ((u62.2 _ _ (Or.inr (by decide))).trans ((u61.2 _ _ (Or.inr (by decide))).trans hg2)))) : pq_n h69 199 2 = g2.toInt.toNat), (pq_of (k := 3) ((u69.2 _ _ (Or.inr (by decide))).trans ((u68.2 _ _ (Or.inr (by decide))).trans ((u62.2 _ _ (Or.inr (by decide))).trans u61.1))) : pq_n h69 199 3 = g4.toInt.toNat), (pq_of (k := 4) ((u69.2 _ _ (Or.inr (by decide))).trans u68.1) : pq_n h69 199 4 = g5.toInt.toNat), (pq_of (k := 5) u69.1 : pq_n h69 199 5 = g3.toInt.toNat)]; unfold pq_x6; rw [if_pos (by omega), if_neg (by omega), if_pos (by omega), if_neg (by omega)]), g0, g1, g2, g4, g5, g3, ((u69.2 _ _ (Or.inr (by decide))).trans ((u68.2 _ _ (Or.inr (by decide))).trans ((u62.2 _ _ (Or.inr (by decide))).trans ((u61.2 _ _ (Or.inr (by decide))).trans hg0)))), ((u69.2 _ _ (Or.inr (by decide))).trans ((u68.2 _ _ (Or.inr (by decide))).trans ((u62.2 _ _ (Or.inr (by decide))).trans ((u61.2 _ _ (Or.inr (by decide))).trans hg1)))), ((u69.2 _ _ (Or.inr (by decide))).trans ((u68.2 _ _ (Or.inr (by decide))).trans ((u62.2 _ _ (Or.inr (by decide))).trans ((u61.2 _ _ (Or.inr (by decide))).trans hg2)))), ((u69.2 _ _ (Or.inr (by decide))).trans ((u68.2 _ _ (Or.inr (by decide))).trans ((u62.2 _ _ (Or.inr (by decide))).trans u61.1))), ((u69.2 _ _ (Or.inr (by decide))).trans u68.1), u69.1, (by unfold prm; omega), (by unfold lexV; omega)⟩⟩
        · refine te_iinc (p2 := 59) (x := 4) (y := 3) (lv2 := [(3, .int 3), (2, .int 3), (0, .ref 164), (1, .int 6)]) rfl rfl (by decide) rfl (by decide) rfl ?_
          refine te_goto rfl ?_
          refine te_aload_n (p2 := 42) rfl rfl rfl ?_
          refine tg_r (p2 := 45) (i := 148) (r := 215) rfl rfl hI rfl rfl rfl ?_
          refine te_iload_n (p2 := 46) rfl rfl rfl ?_
          refine tl_e (p2 := 47) (i := 199) (n := 6) (t := 0) (Or.inl rfl) rfl rfl hI rfl rfl (by decide) (by decide) hg3 ?_
          refine te_aload_n (p2 := 48) rfl rfl rfl ?_
          refine tg_r (p2 := 51) (i := 148) (r := 215) rfl rfl hI rfl rfl rfl ?_
          refine te_iload_n (p2 := 52) rfl rfl rfl ?_
          refine tl_e (p2 := 53) (i := 199) (n := 6) (t := 0) (Or.inl rfl) rfl rfl hI rfl rfl (by decide) (by decide) hg3 ?_
          refine tb_ge (p2 := 56) rfl rfl rfl rfl (fun c76 => ?_) (fun c76 => absurd c76 (by omega))
          refine te_aload_n (p2 := 63) rfl rfl rfl ?_
          refine tg_r (p2 := 66) (i := 148) (r := 215) rfl rfl hI rfl rfl rfl ?_
          refine te_iload_n (p2 := 67) rfl rfl rfl ?_
          refine tl_e (p2 := 68) (i := 199) (n := 6) (t := 0) (Or.inl rfl) rfl rfl hI rfl rfl (by decide) (by decide) hg3 ?_
          refine te_istore (p2 := 70) (lv2 := [(4, .int g3), (3, .int 3), (2, .int 3), (0, .ref 164), (1, .int 6)]) rfl rfl (by decide) rfl ?_
          refine te_aload_n (p2 := 71) rfl rfl rfl ?_
          refine tg_r (p2 := 74) (i := 148) (r := 215) rfl rfl hI rfl rfl rfl ?_
          refine te_iload_n (p2 := 75) rfl rfl rfl ?_
          refine te_aload_n (p2 := 76) rfl rfl rfl ?_
          refine tg_r (p2 := 79) (i := 148) (r := 215) rfl rfl hI rfl rfl rfl ?_
          refine te_iload_n (p2 := 80) rfl rfl rfl ?_
          refine tl_e (p2 := 81) (i := 199) (n := 6) (t := 0) (Or.inl rfl) rfl rfl hI rfl rfl (by decide) (by decide) hg3 ?_
          refine ts_i (p2 := 82) (i := 199) (n := 6) rfl rfl hI rfl rfl rfl rfl (by decide) (by decide) (by omega) (by omega) (by omega) rfl (fun h79 I79 u79 => ?_)
          have f79 := fr_st (F := F_X12_nextOrder_6) 0 f0 u79 rfl (by decide) (by decide)
          refine te_aload_n (p2 := 83) rfl rfl rfl ?_
          refine tg_r (p2 := 86) (i := 148) (r := 215) rfl rfl I79 rfl rfl rfl ?_
          refine te_iload_n (p2 := 87) rfl rfl rfl ?_
          refine te_iload (p2 := 89) rfl rfl rfl ?_
          refine ts_i (p2 := 90) (i := 199) (n := 6) rfl rfl I79 rfl rfl rfl rfl (by decide) (by decide) (by omega) (by omega) (by omega) rfl (fun h80 I80 u80 => ?_)
          have f80 := fr_st (F := F_X12_nextOrder_6) 0 f79 u80 rfl (by decide) (by decide)
          refine te_iload_n (p2 := 91) rfl rfl rfl ?_
          refine te_iconst (p2 := 92) (x := 1) rfl rfl (by decide) ?_
          refine te_iadd (p2 := 93) (z := 4) rfl rfl (by decide) ?_
          refine te_istore (p2 := 95) (lv2 := [(5, .int 4), (4, .int g3), (3, .int 3), (2, .int 3), (0, .ref 164), (1, .int 6)]) rfl rfl (by decide) rfl ?_
          refine te_iload_n (p2 := 96) rfl rfl rfl ?_
          refine te_iconst (p2 := 97) (x := 1) rfl rfl (by decide) ?_
          refine te_isub (p2 := 98) (z := 5) rfl rfl (by decide) ?_
          refine te_istore (p2 := 100) (lv2 := [(6, .int 5), (5, .int 4), (4, .int g3), (3, .int 3), (2, .int 3), (0, .ref 164), (1, .int 6)]) rfl rfl (by decide) rfl ?_
          refine te_iload (p2 := 102) rfl rfl rfl ?_
          refine te_iload (p2 := 104) rfl rfl rfl ?_
          refine tb_ge (p2 := 107) rfl rfl (show Int32.toInt 4 = 4 from rfl) (show Int32.toInt 5 = 5 from rfl) (fun c83 => absurd c83 (by omega)) (fun c83 => ?_)
          refine te_aload_n (p2 := 108) rfl rfl rfl ?_
          refine tg_r (p2 := 111) (i := 148) (r := 215) rfl rfl I80 rfl rfl rfl ?_
          refine te_iload (p2 := 113) rfl rfl rfl ?_
          refine tl_e (p2 := 114) (i := 199) (n := 6) (t := 0) (Or.inl rfl) rfl rfl I80 rfl rfl (by decide) (by decide) ((u80.2 _ _ (Or.inr (by decide))).trans ((u79.2 _ _ (Or.inr (by decide))).trans hg4)) ?_
          refine te_istore (p2 := 116) (lv2 := [(7, .int g4), (6, .int 5), (5, .int 4), (4, .int g3), (3, .int 3), (2, .int 3), (0, .ref 164), (1, .int 6)]) rfl rfl (by decide) rfl ?_
          refine te_aload_n (p2 := 117) rfl rfl rfl ?_
          refine tg_r (p2 := 120) (i := 148) (r := 215) rfl rfl I80 rfl rfl rfl ?_
          refine te_iload (p2 := 122) rfl rfl rfl ?_
          refine te_aload_n (p2 := 123) rfl rfl rfl ?_
          refine tg_r (p2 := 126) (i := 148) (r := 215) rfl rfl I80 rfl rfl rfl ?_
          refine te_iload (p2 := 128) rfl rfl rfl ?_
          refine tl_e (p2 := 129) (i := 199) (n := 6) (t := 0) (Or.inl rfl) rfl rfl I80 rfl rfl (by decide) (by decide) ((u80.2 _ _ (Or.inr (by decide))).trans ((u79.2 _ _ (Or.inr (by decide))).trans hg5)) ?_
          refine ts_i (p2 := 130) (i := 199) (n := 6) rfl rfl I80 rfl rfl rfl rfl (by decide) (by decide) (by omega) (by omega) (by omega) rfl (fun h86 I86 u86 => ?_)
          have f86 := fr_st (F := F_X12_nextOrder_6) 0 f80 u86 rfl (by decide) (by decide)
          refine te_aload_n (p2 := 131) rfl rfl rfl ?_
          refine tg_r (p2 := 134) (i := 148) (r := 215) rfl rfl I86 rfl rfl rfl ?_
          refine te_iload (p2 := 136) rfl rfl rfl ?_
          refine te_iload (p2 := 138) rfl rfl rfl ?_
          refine ts_i (p2 := 139) (i := 199) (n := 6) rfl rfl I86 rfl rfl rfl rfl (by decide) (by decide) (by omega) (by omega) (by omega) rfl (fun h87 I87 u87 => ?_)
          have f87 := fr_st (F := F_X12_nextOrder_6) 0 f86 u87 rfl (by decide) (by decide)
          refine te_iinc (p2 := 142) (x := 5) (y := 4) (lv2 := [(6, .int 4), (7, .int g4), (5, .int 4), (4, .int g3), (3, .int 3), (2, .int 3), (0, .ref 164), (1, .int 6)]) rfl rfl (by decide) rfl (by decide) rfl ?_
          refine te_iinc (p2 := 145) (x := 4) (y := 5) (lv2 := [(5, .int 5), (6, .int 4), (7, .int g4), (4, .int g3), (3, .int 3), (2, .int 3), (0, .ref 164), (1, .int 6)]) rfl rfl (by decide) rfl (by decide) rfl ?_
          refine te_goto rfl ?_
          refine te_iload (p2 := 102) rfl rfl rfl ?_
          refine te_iload (p2 := 104) rfl rfl rfl ?_
          refine tb_ge (p2 := 107) rfl rfl (show Int32.toInt 5 = 5 from rfl) (show Int32.toInt 4 = 4 from rfl) (fun c90 => ?_) (fun c90 => absurd c90 (by omega))
          refine te_iconst (p2 := 149) (x := 1) rfl rfl (by decide) ?_
          exact te_zret rfl rfl (by decide) ⟨I87, f87, _, rfl, Or.inr ⟨rfl, (by rw [pq_xe6, on6_6, (pq_of (k := 0) hg0 : pq_n h 199 0 = g0.toInt.toNat), (pq_of (k := 1) hg1 : pq_n h 199 1 = g1.toInt.toNat), (pq_of (k := 2) hg2 : pq_n h 199 2 = g2.toInt.toNat), (pq_of (k := 3) hg3 : pq_n h 199 3 = g3.toInt.toNat), (pq_of (k := 4) hg4 : pq_n h 199 4 = g4.toInt.toNat), (pq_of (k := 5) hg5 : pq_n h 199 5 = g5.toInt.toNat), (pq_of (k := 0) ((u87.2 _ _ (Or.inr (by decide))).trans ((u86.2 _ _ (Or.inr (by decide))).trans ((u80.2 _ _ (Or.inr (by decide))).trans ((u79.2 _ _ (Or.inr (by decide))).trans hg0)))) : pq_n h87 199 0 = g0.toInt.toNat), (pq_of (k := 1) ((u87.2 _ _ (Or.inr (by decide))).trans ((u86.2 _ _ (Or.inr (by decide))).trans ((u80.2 _ _ (Or.inr (by decide))).trans ((u79.2 _ _ (Or.inr (by decide))).trans hg1)))) : pq_n h87 199 1 = g1.toInt.toNat), (pq_of (k := 2) ((u87.2 _ _ (Or.inr (by decide))).trans ((u86.2 _ _ (Or.inr (by decide))).trans ((u80.2 _ _ (Or.inr (by decide))).trans ((u79.2 _ _ (Or.inr (by decide))).trans hg2)))) : pq_n h87 199 2 = g2.toInt.toNat), (pq_of (k := 3) ((u87.2 _ _ (Or.inr (by decide))).trans ((u86.2 _ _ (Or.inr (by decide))).trans u80.1)) : pq_n h87 199 3 = g3.toInt.toNat), (pq_of (k := 4) ((u87.2 _ _ (Or.inr (by decide))).trans u86.1) : pq_n h87 199 4 = g5.toInt.toNat), (pq_of (k := 5) u87.1 : pq_n h87 199 5 = g4.toInt.toNat)]; unfold pq_x6; rw [if_pos (by omega), if_neg (by omega), if_pos (by omega), if_pos (by omega)]), g0, g1, g2, g3, g5, g4, ((u87.2 _ _ (Or.inr (by decide))).trans ((u86.2 _ _ (Or.inr (by decide))).trans ((u80.2 _ _ (Or.inr (by decide))).trans ((u79.2 _ _ (Or.inr (by decide))).trans hg0)))), ((u87.2 _ _ (Or.inr (by decide))).trans ((u86.2 _ _ (Or.inr (by decide))).trans ((u80.2 _ _ (Or.inr (by decide))).trans ((u79.2 _ _ (Or.inr (by decide))).trans hg1)))), ((u87.2 _ _ (Or.inr (by decide))).trans ((u86.2 _ _ (Or.inr (by decide))).trans ((u80.2 _ _ (Or.inr (by decide))).trans ((u79.2 _ _ (Or.inr (by decide))).trans hg2)))), ((u87.2 _ _ (Or.inr (by decide))).trans ((u86.2 _ _ (Or.inr (by decide))).trans u80.1)), ((u87.2 _ _ (Or.inr (by decide))).trans u86.1), u87.1, (by unfold prm; omega), (by unfold lexV; omega)⟩⟩
    · refine te_iinc (p2 := 28) (x := 3) (y := 2) (lv2 := [(2, .int 2), (0, .ref 164), (1, .int 6)]) rfl rfl (by decide) rfl (by decide) rfl ?_
      refine te_goto rfl ?_
      refine te_iload_n (p2 := 5) rfl rfl rfl ?_
      refine tz_lt (p2 := 8) rfl rfl (show Int32.toInt 2 = 2 from rfl) (fun c92 => absurd c92 (by omega)) (fun c92 => ?_)
      refine te_aload_n (p2 := 9) rfl rfl rfl ?_
      refine tg_r (p2 := 12) (i := 148) (r := 215) rfl rfl hI rfl rfl rfl ?_
      refine te_iload_n (p2 := 13) rfl rfl rfl ?_
      refine tl_e (p2 := 14) (i := 199) (n := 6) (t := 0) (Or.inl rfl) rfl rfl hI rfl rfl (by decide) (by decide) hg2 ?_
      refine te_aload_n (p2 := 15) rfl rfl rfl ?_
      refine tg_r (p2 := 18) (i := 148) (r := 215) rfl rfl hI rfl rfl rfl ?_
      refine te_iload_n (p2 := 19) rfl rfl rfl ?_
      refine te_iconst (p2 := 20) (x := 1) rfl rfl (by decide) ?_
      refine te_iadd (p2 := 21) (z := 3) rfl rfl (by decide) ?_
      refine tl_e (p2 := 22) (i := 199) (n := 6) (t := 0) (Or.inl rfl) rfl rfl hI rfl rfl (by decide) (by decide) hg3 ?_
      refine tb_le (p2 := 25) rfl rfl rfl rfl (fun c96 => ?_) (fun c96 => ?_)
      · refine te_iload_n (p2 := 32) rfl rfl rfl ?_
        refine tz_ge (p2 := 35) rfl rfl (show Int32.toInt 2 = 2 from rfl) (fun c97 => ?_) (fun c97 => absurd c97 (by omega))
        refine te_iload_n (p2 := 38) rfl rfl rfl ?_
        refine te_iconst (p2 := 39) (x := 1) rfl rfl (by decide) ?_
        refine te_isub (p2 := 40) (z := 5) rfl rfl (by decide) ?_
        refine te_istore_n (p2 := 41) (lv2 := [(3, .int 5), (2, .int 2), (0, .ref 164), (1, .int 6)]) rfl rfl (by decide) rfl ?_
        refine te_aload_n (p2 := 42) rfl rfl rfl ?_
        refine tg_r (p2 := 45) (i := 148) (r := 215) rfl rfl hI rfl rfl rfl ?_
        refine te_iload_n (p2 := 46) rfl rfl rfl ?_
        refine tl_e (p2 := 47) (i := 199) (n := 6) (t := 0) (Or.inl rfl) rfl rfl hI rfl rfl (by decide) (by decide) hg5 ?_
        refine te_aload_n (p2 := 48) rfl rfl rfl ?_
        refine tg_r (p2 := 51) (i := 148) (r := 215) rfl rfl hI rfl rfl rfl ?_
        refine te_iload_n (p2 := 52) rfl rfl rfl ?_
        refine tl_e (p2 := 53) (i := 199) (n := 6) (t := 0) (Or.inl rfl) rfl rfl hI rfl rfl (by decide) (by decide) hg2 ?_
        refine tb_ge (p2 := 56) rfl rfl rfl rfl (fun c101 => ?_) (fun c101 => ?_)
        · refine te_aload_n (p2 := 63) rfl rfl rfl ?_
          refine tg_r (p2 := 66) (i := 148) (r := 215) rfl rfl hI rfl rfl rfl ?_
          refine te_iload_n (p2 := 67) rfl rfl rfl ?_
          refine tl_e (p2 := 68) (i := 199) (n := 6) (t := 0) (Or.inl rfl) rfl rfl hI rfl rfl (by decide) (by decide) hg2 ?_
          refine te_istore (p2 := 70) (lv2 := [(4, .int g2), (3, .int 5), (2, .int 2), (0, .ref 164), (1, .int 6)]) rfl rfl (by decide) rfl ?_
          refine te_aload_n (p2 := 71) rfl rfl rfl ?_
          refine tg_r (p2 := 74) (i := 148) (r := 215) rfl rfl hI rfl rfl rfl ?_
          refine te_iload_n (p2 := 75) rfl rfl rfl ?_
          refine te_aload_n (p2 := 76) rfl rfl rfl ?_
          refine tg_r (p2 := 79) (i := 148) (r := 215) rfl rfl hI rfl rfl rfl ?_
          refine te_iload_n (p2 := 80) rfl rfl rfl ?_
          refine tl_e (p2 := 81) (i := 199) (n := 6) (t := 0) (Or.inl rfl) rfl rfl hI rfl rfl (by decide) (by decide) hg5 ?_
          refine ts_i (p2 := 82) (i := 199) (n := 6) rfl rfl hI rfl rfl rfl rfl (by decide) (by decide) (by omega) (by omega) (by omega) rfl (fun h104 I104 u104 => ?_)
          have f104 := fr_st (F := F_X12_nextOrder_6) 0 f0 u104 rfl (by decide) (by decide)
          refine te_aload_n (p2 := 83) rfl rfl rfl ?_
          refine tg_r (p2 := 86) (i := 148) (r := 215) rfl rfl I104 rfl rfl rfl ?_
          refine te_iload_n (p2 := 87) rfl rfl rfl ?_
          refine te_iload (p2 := 89) rfl rfl rfl ?_
          refine ts_i (p2 := 90) (i := 199) (n := 6) rfl rfl I104 rfl rfl rfl rfl (by decide) (by decide) (by omega) (by omega) (by omega) rfl (fun h105 I105 u105 => ?_)
          have f105 := fr_st (F := F_X12_nextOrder_6) 0 f104 u105 rfl (by decide) (by decide)
          refine te_iload_n (p2 := 91) rfl rfl rfl ?_
          refine te_iconst (p2 := 92) (x := 1) rfl rfl (by decide) ?_
          refine te_iadd (p2 := 93) (z := 3) rfl rfl (by decide) ?_
          refine te_istore (p2 := 95) (lv2 := [(5, .int 3), (4, .int g2), (3, .int 5), (2, .int 2), (0, .ref 164), (1, .int 6)]) rfl rfl (by decide) rfl ?_
          refine te_iload_n (p2 := 96) rfl rfl rfl ?_
          refine te_iconst (p2 := 97) (x := 1) rfl rfl (by decide) ?_
          refine te_isub (p2 := 98) (z := 5) rfl rfl (by decide) ?_
          refine te_istore (p2 := 100) (lv2 := [(6, .int 5), (5, .int 3), (4, .int g2), (3, .int 5), (2, .int 2), (0, .ref 164), (1, .int 6)]) rfl rfl (by decide) rfl ?_
          refine te_iload (p2 := 102) rfl rfl rfl ?_
          refine te_iload (p2 := 104) rfl rfl rfl ?_
          refine tb_ge (p2 := 107) rfl rfl (show Int32.toInt 3 = 3 from rfl) (show Int32.toInt 5 = 5 from rfl) (fun c108 => absurd c108 (by omega)) (fun c108 => ?_)
          refine te_aload_n (p2 := 108) rfl rfl rfl ?_
          refine tg_r (p2 := 111) (i := 148) (r := 215) rfl rfl I105 rfl rfl rfl ?_
          refine te_iload (p2 := 113) rfl rfl rfl ?_
          refine tl_e (p2 := 114) (i := 199) (n := 6) (t := 0) (Or.inl rfl) rfl rfl I105 rfl rfl (by decide) (by decide) ((u105.2 _ _ (Or.inr (by decide))).trans ((u104.2 _ _ (Or.inr (by decide))).trans hg3)) ?_
          refine te_istore (p2 := 116) (lv2 := [(7, .int g3), (6, .int 5), (5, .int 3), (4, .int g2), (3, .int 5), (2, .int 2), (0, .ref 164), (1, .int 6)]) rfl rfl (by decide) rfl ?_
          refine te_aload_n (p2 := 117) rfl rfl rfl ?_
          refine tg_r (p2 := 120) (i := 148) (r := 215) rfl rfl I105 rfl rfl rfl ?_
          refine te_iload (p2 := 122) rfl rfl rfl ?_
          refine te_aload_n (p2 := 123) rfl rfl rfl ?_
          refine tg_r (p2 := 126) (i := 148) (r := 215) rfl rfl I105 rfl rfl rfl ?_
          refine te_iload (p2 := 128) rfl rfl rfl ?_
          refine tl_e (p2 := 129) (i := 199) (n := 6) (t := 0) (Or.inl rfl) rfl rfl I105 rfl rfl (by decide) (by decide) u105.1 ?_
          refine ts_i (p2 := 130) (i := 199) (n := 6) rfl rfl I105 rfl rfl rfl rfl (by decide) (by decide) (by omega) (by omega) (by omega) rfl (fun h111 I111 u111 => ?_)
          have f111 := fr_st (F := F_X12_nextOrder_6) 0 f105 u111 rfl (by decide) (by decide)
          refine te_aload_n (p2 := 131) rfl rfl rfl ?_
          refine tg_r (p2 := 134) (i := 148) (r := 215) rfl rfl I111 rfl rfl rfl ?_
          refine te_iload (p2 := 136) rfl rfl rfl ?_
          refine te_iload (p2 := 138) rfl rfl rfl ?_
          refine ts_i (p2 := 139) (i := 199) (n := 6) rfl rfl I111 rfl rfl rfl rfl (by decide) (by decide) (by omega) (by omega) (by omega) rfl (fun h112 I112 u112 => ?_)
          have f112 := fr_st (F := F_X12_nextOrder_6) 0 f111 u112 rfl (by decide) (by decide)
          refine te_iinc (p2 := 142) (x := 5) (y := 4) (lv2 := [(6, .int 4), (7, .int g3), (5, .int 3), (4, .int g2), (3, .int 5), (2, .int 2), (0, .ref 164), (1, .int 6)]) rfl rfl (by decide) rfl (by decide) rfl ?_
          refine te_iinc (p2 := 145) (x := 3) (y := 4) (lv2 := [(5, .int 4), (6, .int 4), (7, .int g3), (4, .int g2), (3, .int 5), (2, .int 2), (0, .ref 164), (1, .int 6)]) rfl rfl (by decide) rfl (by decide) rfl ?_
          refine te_goto rfl ?_
          refine te_iload (p2 := 102) rfl rfl rfl ?_
          refine te_iload (p2 := 104) rfl rfl rfl ?_
          refine tb_ge (p2 := 107) rfl rfl (show Int32.toInt 4 = 4 from rfl) (show Int32.toInt 4 = 4 from rfl) (fun c115 => ?_) (fun c115 => absurd c115 (by omega))
          refine te_iconst (p2 := 149) (x := 1) rfl rfl (by decide) ?_
          exact te_zret rfl rfl (by decide) ⟨I112, f112, _, rfl, Or.inr ⟨rfl, (by rw [pq_xe6, on6_6, (pq_of (k := 0) hg0 : pq_n h 199 0 = g0.toInt.toNat), (pq_of (k := 1) hg1 : pq_n h 199 1 = g1.toInt.toNat), (pq_of (k := 2) hg2 : pq_n h 199 2 = g2.toInt.toNat), (pq_of (k := 3) hg3 : pq_n h 199 3 = g3.toInt.toNat), (pq_of (k := 4) hg4 : pq_n h 199 4 = g4.toInt.toNat), (pq_of (k := 5) hg5 : pq_n h 199 5 = g5.toInt.toNat), (pq_of (k := 0) ((u112.2 _ _ (Or.inr (by decide))).trans ((u111.2 _ _ (Or.inr (by decide))).trans ((u105.2 _ _ (Or.inr (by decide))).trans ((u104.2 _ _ (Or.inr (by decide))).trans hg0)))) : pq_n h112 199 0 = g0.toInt.toNat), (pq_of (k := 1) ((u112.2 _ _ (Or.inr (by decide))).trans ((u111.2 _ _ (Or.inr (by decide))).trans ((u105.2 _ _ (Or.inr (by decide))).trans ((u104.2 _ _ (Or.inr (by decide))).trans hg1)))) : pq_n h112 199 1 = g1.toInt.toNat), (pq_of (k := 2) ((u112.2 _ _ (Or.inr (by decide))).trans ((u111.2 _ _ (Or.inr (by decide))).trans ((u105.2 _ _ (Or.inr (by decide))).trans u104.1))) : pq_n h112 199 2 = g5.toInt.toNat), (pq_of (k := 3) ((u112.2 _ _ (Or.inr (by decide))).trans u111.1) : pq_n h112 199 3 = g2.toInt.toNat), (pq_of (k := 4) ((u112.2 _ _ (Or.inr (by decide))).trans ((u111.2 _ _ (Or.inr (by decide))).trans ((u105.2 _ _ (Or.inr (by decide))).trans ((u104.2 _ _ (Or.inr (by decide))).trans hg4)))) : pq_n h112 199 4 = g4.toInt.toNat), (pq_of (k := 5) u112.1 : pq_n h112 199 5 = g3.toInt.toNat)]; unfold pq_x6; rw [if_pos (by omega), if_pos (by omega), if_neg (by omega), if_neg (by omega)]), g0, g1, g5, g2, g4, g3, ((u112.2 _ _ (Or.inr (by decide))).trans ((u111.2 _ _ (Or.inr (by decide))).trans ((u105.2 _ _ (Or.inr (by decide))).trans ((u104.2 _ _ (Or.inr (by decide))).trans hg0)))), ((u112.2 _ _ (Or.inr (by decide))).trans ((u111.2 _ _ (Or.inr (by decide))).trans ((u105.2 _ _ (Or.inr (by decide))).trans ((u104.2 _ _ (Or.inr (by decide))).trans hg1)))), ((u112.2 _ _ (Or.inr (by decide))).trans ((u111.2 _ _ (Or.inr (by decide))).trans ((u105.2 _ _ (Or.inr (by decide))).trans u104.1))), ((u112.2 _ _ (Or.inr (by decide))).trans u111.1), ((u112.2 _ _ (Or.inr (by decide))).trans ((u111.2 _ _ (Or.inr (by decide))).trans ((u105.2 _ _ (Or.inr (by decide))).trans ((u104.2 _ _ (Or.inr (by decide))).trans hg4)))), u112.1, (by unfold prm; omega), (by unfold lexV; omega)⟩⟩
        · refine te_iinc (p2 := 59) (x := 5) (y := 4) (lv2 := [(3, .int 4), (2, .int 2), (0, .ref 164), (1, .int 6)]) rfl rfl (by decide) rfl (by decide) rfl ?_
          refine te_goto rfl ?_
          refine te_aload_n (p2 := 42) rfl rfl rfl ?_
          refine tg_r (p2 := 45) (i := 148) (r := 215) rfl rfl hI rfl rfl rfl ?_
          refine te_iload_n (p2 := 46) rfl rfl rfl ?_
          refine tl_e (p2 := 47) (i := 199) (n := 6) (t := 0) (Or.inl rfl) rfl rfl hI rfl rfl (by decide) (by decide) hg4 ?_
          refine te_aload_n (p2 := 48) rfl rfl rfl ?_
          refine tg_r (p2 := 51) (i := 148) (r := 215) rfl rfl hI rfl rfl rfl ?_
          refine te_iload_n (p2 := 52) rfl rfl rfl ?_
          refine tl_e (p2 := 53) (i := 199) (n := 6) (t := 0) (Or.inl rfl) rfl rfl hI rfl rfl (by decide) (by decide) hg2 ?_
          refine tb_ge (p2 := 56) rfl rfl rfl rfl (fun c119 => ?_) (fun c119 => ?_)
          · refine te_aload_n (p2 := 63) rfl rfl rfl ?_
            refine tg_r (p2 := 66) (i := 148) (r := 215) rfl rfl hI rfl rfl rfl ?_
            refine te_iload_n (p2 := 67) rfl rfl rfl ?_
            refine tl_e (p2 := 68) (i := 199) (n := 6) (t := 0) (Or.inl rfl) rfl rfl hI rfl rfl (by decide) (by decide) hg2 ?_
            refine te_istore (p2 := 70) (lv2 := [(4, .int g2), (3, .int 4), (2, .int 2), (0, .ref 164), (1, .int 6)]) rfl rfl (by decide) rfl ?_
            refine te_aload_n (p2 := 71) rfl rfl rfl ?_
            refine tg_r (p2 := 74) (i := 148) (r := 215) rfl rfl hI rfl rfl rfl ?_
            refine te_iload_n (p2 := 75) rfl rfl rfl ?_
            refine te_aload_n (p2 := 76) rfl rfl rfl ?_
            refine tg_r (p2 := 79) (i := 148) (r := 215) rfl rfl hI rfl rfl rfl ?_
            refine te_iload_n (p2 := 80) rfl rfl rfl ?_
            refine tl_e (p2 := 81) (i := 199) (n := 6) (t := 0) (Or.inl rfl) rfl rfl hI rfl rfl (by decide) (by decide) hg4 ?_
            refine ts_i (p2 := 82) (i := 199) (n := 6) rfl rfl hI rfl rfl rfl rfl (by decide) (by decide) (by omega) (by omega) (by omega) rfl (fun h122 I122 u122 => ?_)
            have f122 := fr_st (F := F_X12_nextOrder_6) 0 f0 u122 rfl (by decide) (by decide)
            refine te_aload_n (p2 := 83) rfl rfl rfl ?_
            refine tg_r (p2 := 86) (i := 148) (r := 215) rfl rfl I122 rfl rfl rfl ?_
            refine te_iload_n (p2 := 87) rfl rfl rfl ?_
            refine te_iload (p2 := 89) rfl rfl rfl ?_
            refine ts_i (p2 := 90) (i := 199) (n := 6) rfl rfl I122 rfl rfl rfl rfl (by decide) (by decide) (by omega) (by omega) (by omega) rfl (fun h123 I123 u123 => ?_)
            have f123 := fr_st (F := F_X12_nextOrder_6) 0 f122 u123 rfl (by decide) (by decide)
            refine te_iload_n (p2 := 91) rfl rfl rfl ?_
            refine te_iconst (p2 := 92) (x := 1) rfl rfl (by decide) ?_
            refine te_iadd (p2 := 93) (z := 3) rfl rfl (by decide) ?_
            refine te_istore (p2 := 95) (lv2 := [(5, .int 3), (4, .int g2), (3, .int 4), (2, .int 2), (0, .ref 164), (1, .int 6)]) rfl rfl (by decide) rfl ?_
            refine te_iload_n (p2 := 96) rfl rfl rfl ?_
            refine te_iconst (p2 := 97) (x := 1) rfl rfl (by decide) ?_
            refine te_isub (p2 := 98) (z := 5) rfl rfl (by decide) ?_
            refine te_istore (p2 := 100) (lv2 := [(6, .int 5), (5, .int 3), (4, .int g2), (3, .int 4), (2, .int 2), (0, .ref 164), (1, .int 6)]) rfl rfl (by decide) rfl ?_
            refine te_iload (p2 := 102) rfl rfl rfl ?_
            refine te_iload (p2 := 104) rfl rfl rfl ?_
            refine tb_ge (p2 := 107) rfl rfl (show Int32.toInt 3 = 3 from rfl) (show Int32.toInt 5 = 5 from rfl) (fun c126 => absurd c126 (by omega)) (fun c126 => ?_)
            refine te_aload_n (p2 := 108) rfl rfl rfl ?_
            refine tg_r (p2 := 111) (i := 148) (r := 215) rfl rfl I123 rfl rfl rfl ?_
            refine te_iload (p2 := 113) rfl rfl rfl ?_
            refine tl_e (p2 := 114) (i := 199) (n := 6) (t := 0) (Or.inl rfl) rfl rfl I123 rfl rfl (by decide) (by decide) ((u123.2 _ _ (Or.inr (by decide))).trans ((u122.2 _ _ (Or.inr (by decide))).trans hg3)) ?_
            refine te_istore (p2 := 116) (lv2 := [(7, .int g3), (6, .int 5), (5, .int 3), (4, .int g2), (3, .int 4), (2, .int 2), (0, .ref 164), (1, .int 6)]) rfl rfl (by decide) rfl ?_
            refine te_aload_n (p2 := 117) rfl rfl rfl ?_
            refine tg_r (p2 := 120) (i := 148) (r := 215) rfl rfl I123 rfl rfl rfl ?_
            refine te_iload (p2 := 122) rfl rfl rfl ?_
            refine te_aload_n (p2 := 123) rfl rfl rfl ?_
            refine tg_r (p2 := 126) (i := 148) (r := 215) rfl rfl I123 rfl rfl rfl ?_
            refine te_iload (p2 := 128) rfl rfl rfl ?_
            refine tl_e (p2 := 129) (i := 199) (n := 6) (t := 0) (Or.inl rfl) rfl rfl I123 rfl rfl (by decide) (by decide) ((u123.2 _ _ (Or.inr (by decide))).trans ((u122.2 _ _ (Or.inr (by decide))).trans hg5)) ?_
            refine ts_i (p2 := 130) (i := 199) (n := 6) rfl rfl I123 rfl rfl rfl rfl (by decide) (by decide) (by omega) (by omega) (by omega) rfl (fun h129 I129 u129 => ?_)
            have f129 := fr_st (F := F_X12_nextOrder_6) 0 f123 u129 rfl (by decide) (by decide)
            refine te_aload_n (p2 := 131) rfl rfl rfl ?_
            refine tg_r (p2 := 134) (i := 148) (r := 215) rfl rfl I129 rfl rfl rfl ?_
            refine te_iload (p2 := 136) rfl rfl rfl ?_
            refine te_iload (p2 := 138) rfl rfl rfl ?_
            refine ts_i (p2 := 139) (i := 199) (n := 6) rfl rfl I129 rfl rfl rfl rfl (by decide) (by decide) (by omega) (by omega) (by omega) rfl (fun h130 I130 u130 => ?_)
            have f130 := fr_st (F := F_X12_nextOrder_6) 0 f129 u130 rfl (by decide) (by decide)
            refine te_iinc (p2 := 142) (x := 5) (y := 4) (lv2 := [(6, .int 4), (7, .int g3), (5, .int 3), (4, .int g2), (3, .int 4), (2, .int 2), (0, .ref 164), (1, .int 6)]) rfl rfl (by decide) rfl (by decide) rfl ?_
            refine te_iinc (p2 := 145) (x := 3) (y := 4) (lv2 := [(5, .int 4), (6, .int 4), (7, .int g3), (4, .int g2), (3, .int 4), (2, .int 2), (0, .ref 164), (1, .int 6)]) rfl rfl (by decide) rfl (by decide) rfl ?_
            refine te_goto rfl ?_
            refine te_iload (p2 := 102) rfl rfl rfl ?_
            refine te_iload (p2 := 104) rfl rfl rfl ?_
            refine tb_ge (p2 := 107) rfl rfl (show Int32.toInt 4 = 4 from rfl) (show Int32.toInt 4 = 4 from rfl) (fun c133 => ?_) (fun c133 => absurd c133 (by omega))
            refine te_iconst (p2 := 149) (x := 1) rfl rfl (by decide) ?_
            exact te_zret rfl rfl (by decide) ⟨I130, f130, _, rfl, Or.inr ⟨rfl, (by rw [pq_xe6, on6_6, (pq_of (k := 0) hg0 : pq_n h 199 0 = g0.toInt.toNat), (pq_of (k := 1) hg1 : pq_n h 199 1 = g1.toInt.toNat), (pq_of (k := 2) hg2 : pq_n h 199 2 = g2.toInt.toNat), (pq_of (k := 3) hg3 : pq_n h 199 3 = g3.toInt.toNat), (pq_of (k := 4) hg4 : pq_n h 199 4 = g4.toInt.toNat), (pq_of (k := 5) hg5 : pq_n h 199 5 = g5.toInt.toNat), (pq_of (k := 0) ((u130.2 _ _ (Or.inr (by decide))).trans ((u129.2 _ _ (Or.inr (by decide))).trans ((u123.2 _ _ (Or.inr (by decide))).trans ((u122.2 _ _ (Or.inr (by decide))).trans hg0)))) : pq_n h130 199 0 = g0.toInt.toNat), (pq_of (k := 1) ((u130.2 _ _ (Or.inr (by decide))).trans ((u129.2 _ _ (Or.inr (by decide))).trans ((u123.2 _ _ (Or.inr (by decide))).trans ((u122.2 _ _ (Or.inr (by decide))).trans hg1)))) : pq_n h130 199 1 = g1.toInt.toNat), (pq_of (k := 2) ((u130.2 _ _ (Or.inr (by decide))).trans ((u129.2 _ _ (Or.inr (by decide))).trans ((u123.2 _ _ (Or.inr (by decide))).trans u122.1))) : pq_n h130 199 2 = g4.toInt.toNat), (pq_of (k := 3) ((u130.2 _ _ (Or.inr (by decide))).trans u129.1) : pq_n h130 199 3 = g5.toInt.toNat), (pq_of (k := 4) ((u130.2 _ _ (Or.inr (by decide))).trans ((u129.2 _ _ (Or.inr (by decide))).trans u123.1)) : pq_n h130 199 4 = g2.toInt.toNat), (pq_of (k := 5) u130.1 : pq_n h130 199 5 = g3.toInt.toNat)]; unfold pq_x6; rw [if_pos (by omega), if_pos (by omega), if_neg (by omega), if_pos (by omega), if_neg (by omega)]), g0, g1, g4, g5, g2, g3, ((u130.2 _ _ (Or.inr (by decide))).trans ((u129.2 _ _ (Or.inr (by decide))).trans ((u123.2 _ _ (Or.inr (by decide))).trans ((u122.2 _ _ (Or.inr (by decide))).trans hg0)))), ((u130.2 _ _ (Or.inr (by decide))).trans ((u129.2 _ _ (Or.inr (by decide))).trans ((u123.2 _ _ (Or.inr (by decide))).trans ((u122.2 _ _ (Or.inr (by decide))).trans hg1)))), ((u130.2 _ _ (Or.inr (by decide))).trans ((u129.2 _ _ (Or.inr (by decide))).trans ((u123.2 _ _ (Or.inr (by decide))).trans u122.1))), ((u130.2 _ _ (Or.inr (by decide))).trans u129.1), ((u130.2 _ _ (Or.inr (by decide))).trans ((u129.2 _ _ (Or.inr (by decide))).trans u123.1)), u130.1, (by unfold prm; omega), (by unfold lexV; omega)⟩⟩
          · refine te_iinc (p2 := 59) (x := 4) (y := 3) (lv2 := [(3, .int 3), (2, .int 2), (0, .ref 164), (1, .int 6)]) rfl rfl (by decide) rfl (by decide) rfl ?_
            refine te_goto rfl ?_
            refine te_aload_n (p2 := 42) rfl rfl rfl ?_
            refine tg_r (p2 := 45) (i := 148) (r := 215) rfl rfl hI rfl rfl rfl ?_
            refine te_iload_n (p2 := 46) rfl rfl rfl ?_
            refine tl_e (p2 := 47) (i := 199) (n := 6) (t := 0) (Or.inl rfl) rfl rfl hI rfl rfl (by decide) (by decide) hg3 ?_
            refine te_aload_n (p2 := 48) rfl rfl rfl ?_
            refine tg_r (p2 := 51) (i := 148) (r := 215) rfl rfl hI rfl rfl rfl ?_
            refine te_iload_n (p2 := 52) rfl rfl rfl ?_
            refine tl_e (p2 := 53) (i := 199) (n := 6) (t := 0) (Or.inl rfl) rfl rfl hI rfl rfl (by decide) (by decide) hg2 ?_
            refine tb_ge (p2 := 56) rfl rfl rfl rfl (fun c137 => ?_) (fun c137 => ?_)
            · refine te_aload_n (p2 := 63) rfl rfl rfl ?_
              refine tg_r (p2 := 66) (i := 148) (r := 215) rfl rfl hI rfl rfl rfl ?_
              refine te_iload_n (p2 := 67) rfl rfl rfl ?_
              refine tl_e (p2 := 68) (i := 199) (n := 6) (t := 0) (Or.inl rfl) rfl rfl hI rfl rfl (by decide) (by decide) hg2 ?_
              refine te_istore (p2 := 70) (lv2 := [(4, .int g2), (3, .int 3), (2, .int 2), (0, .ref 164), (1, .int 6)]) rfl rfl (by decide) rfl ?_
              refine te_aload_n (p2 := 71) rfl rfl rfl ?_
              refine tg_r (p2 := 74) (i := 148) (r := 215) rfl rfl hI rfl rfl rfl ?_
              refine te_iload_n (p2 := 75) rfl rfl rfl ?_
              refine te_aload_n (p2 := 76) rfl rfl rfl ?_
              refine tg_r (p2 := 79) (i := 148) (r := 215) rfl rfl hI rfl rfl rfl ?_
              refine te_iload_n (p2 := 80) rfl rfl rfl ?_
              refine tl_e (p2 := 81) (i := 199) (n := 6) (t := 0) (Or.inl rfl) rfl rfl hI rfl rfl (by decide) (by decide) hg3 ?_
              refine ts_i (p2 := 82) (i := 199) (n := 6) rfl rfl hI rfl rfl rfl rfl (by decide) (by decide) (by omega) (by omega) (by omega) rfl (fun h140 I140 u140 => ?_)
              have f140 := fr_st (F := F_X12_nextOrder_6) 0 f0 u140 rfl (by decide) (by decide)
              refine te_aload_n (p2 := 83) rfl rfl rfl ?_
              refine tg_r (p2 := 86) (i := 148) (r := 215) rfl rfl I140 rfl rfl rfl ?_
              refine te_iload_n (p2 := 87) rfl rfl rfl ?_
              refine te_iload (p2 := 89) rfl rfl rfl ?_
              refine ts_i (p2 := 90) (i := 199) (n := 6) rfl rfl I140 rfl rfl rfl rfl (by decide) (by decide) (by omega) (by omega) (by omega) rfl (fun h141 I141 u141 => ?_)
              have f141 := fr_st (F := F_X12_nextOrder_6) 0 f140 u141 rfl (by decide) (by decide)
              refine te_iload_n (p2 := 91) rfl rfl rfl ?_
              refine te_iconst (p2 := 92) (x := 1) rfl rfl (by decide) ?_
              refine te_iadd (p2 := 93) (z := 3) rfl rfl (by decide) ?_
              refine te_istore (p2 := 95) (lv2 := [(5, .int 3), (4, .int g2), (3, .int 3), (2, .int 2), (0, .ref 164), (1, .int 6)]) rfl rfl (by decide) rfl ?_
              refine te_iload_n (p2 := 96) rfl rfl rfl ?_
              refine te_iconst (p2 := 97) (x := 1) rfl rfl (by decide) ?_
              refine te_isub (p2 := 98) (z := 5) rfl rfl (by decide) ?_
              refine te_istore (p2 := 100) (lv2 := [(6, .int 5), (5, .int 3), (4, .int g2), (3, .int 3), (2, .int 2), (0, .ref 164), (1, .int 6)]) rfl rfl (by decide) rfl ?_
              refine te_iload (p2 := 102) rfl rfl rfl ?_
              refine te_iload (p2 := 104) rfl rfl rfl ?_
              refine tb_ge (p2 := 107) rfl rfl (show Int32.toInt 3 = 3 from rfl) (show Int32.toInt 5 = 5 from rfl) (fun c144 => absurd c144 (by omega)) (fun c144 => ?_)
              refine te_aload_n (p2 := 108) rfl rfl rfl ?_
              refine tg_r (p2 := 111) (i := 148) (r := 215) rfl rfl I141 rfl rfl rfl ?_
              refine te_iload (p2 := 113) rfl rfl rfl ?_
              refine tl_e (p2 := 114) (i := 199) (n := 6) (t := 0) (Or.inl rfl) rfl rfl I141 rfl rfl (by decide) (by decide) u141.1 ?_
              refine te_istore (p2 := 116) (lv2 := [(7, .int g2), (6, .int 5), (5, .int 3), (4, .int g2), (3, .int 3), (2, .int 2), (0, .ref 164), (1, .int 6)]) rfl rfl (by decide) rfl ?_
              refine te_aload_n (p2 := 117) rfl rfl rfl ?_
              refine tg_r (p2 := 120) (i := 148) (r := 215) rfl rfl I141 rfl rfl rfl ?_
              refine te_iload (p2 := 122) rfl rfl rfl ?_
              refine te_aload_n (p2 := 123) rfl rfl rfl ?_
              refine tg_r (p2 := 126) (i := 148) (r := 215) rfl rfl I141 rfl rfl rfl ?_
              refine te_iload (p2 := 128) rfl rfl rfl ?_
              refine tl_e (p2 := 129) (i := 199) (n := 6) (t := 0) (Or.inl rfl) rfl rfl I141 rfl rfl (by decide) (by decide) ((u141.2 _ _ (Or.inr (by decide))).trans ((u140.2 _ _ (Or.inr (by decide))).trans hg5)) ?_
              refine ts_i (p2 := 130) (i := 199) (n := 6) rfl rfl I141 rfl rfl rfl rfl (by decide) (by decide) (by omega) (by omega) (by omega) rfl (fun h147 I147 u147 => ?_)
              have f147 := fr_st (F := F_X12_nextOrder_6) 0 f141 u147 rfl (by decide) (by decide)
              refine te_aload_n (p2 := 131) rfl rfl rfl ?_
              refine tg_r (p2 := 134) (i := 148) (r := 215) rfl rfl I147 rfl rfl rfl ?_
              refine te_iload (p2 := 136) rfl rfl rfl ?_
              refine te_iload (p2 := 138) rfl rfl rfl ?_
              refine ts_i (p2 := 139) (i := 199) (n := 6) rfl rfl I147 rfl rfl rfl rfl (by decide) (by decide) (by omega) (by omega) (by omega) rfl (fun h148 I148 u148 => ?_)
              have f148 := fr_st (F := F_X12_nextOrder_6) 0 f147 u148 rfl (by decide) (by decide)
              refine te_iinc (p2 := 142) (x := 5) (y := 4) (lv2 := [(6, .int 4), (7, .int g2), (5, .int 3), (4, .int g2), (3, .int 3), (2, .int 2), (0, .ref 164), (1, .int 6)]) rfl rfl (by decide) rfl (by decide) rfl ?_
              refine te_iinc (p2 := 145) (x := 3) (y := 4) (lv2 := [(5, .int 4), (6, .int 4), (7, .int g2), (4, .int g2), (3, .int 3), (2, .int 2), (0, .ref 164), (1, .int 6)]) rfl rfl (by decide) rfl (by decide) rfl ?_
              refine te_goto rfl ?_
              refine te_iload (p2 := 102) rfl rfl rfl ?_
              refine te_iload (p2 := 104) rfl rfl rfl ?_
              refine tb_ge (p2 := 107) rfl rfl (show Int32.toInt 4 = 4 from rfl) (show Int32.toInt 4 = 4 from rfl) (fun c151 => ?_) (fun c151 => absurd c151 (by omega))
              refine te_iconst (p2 := 149) (x := 1) rfl rfl (by decide) ?_
              exact te_zret rfl rfl (by decide) ⟨I148, f148, _, rfl, Or.inr ⟨rfl, (by rw [pq_xe6, on6_6, (pq_of (k := 0) hg0 : pq_n h 199 0 = g0.toInt.toNat), (pq_of (k := 1) hg1 : pq_n h 199 1 = g1.toInt.toNat), (pq_of (k := 2) hg2 : pq_n h 199 2 = g2.toInt.toNat), (pq_of (k := 3) hg3 : pq_n h 199 3 = g3.toInt.toNat), (pq_of (k := 4) hg4 : pq_n h 199 4 = g4.toInt.toNat), (pq_of (k := 5) hg5 : pq_n h 199 5 = g5.toInt.toNat), (pq_of (k := 0) ((u148.2 _ _ (Or.inr (by decide))).trans ((u147.2 _ _ (Or.inr (by decide))).trans ((u141.2 _ _ (Or.inr (by decide))).trans ((u140.2 _ _ (Or.inr (by decide))).trans hg0)))) : pq_n h148 199 0 = g0.toInt.toNat), (pq_of (k := 1) ((u148.2 _ _ (Or.inr (by decide))).trans ((u147.2 _ _ (Or.inr (by decide))).trans ((u141.2 _ _ (Or.inr (by decide))).trans ((u140.2 _ _ (Or.inr (by decide))).trans hg1)))) : pq_n h148 199 1 = g1.toInt.toNat), (pq_of (k := 2) ((u148.2 _ _ (Or.inr (by decide))).trans ((u147.2 _ _ (Or.inr (by decide))).trans ((u141.2 _ _ (Or.inr (by decide))).trans u140.1))) : pq_n h148 199 2 = g3.toInt.toNat), (pq_of (k := 3) ((u148.2 _ _ (Or.inr (by decide))).trans u147.1) : pq_n h148 199 3 = g5.toInt.toNat), (pq_of (k := 4) ((u148.2 _ _ (Or.inr (by decide))).trans ((u147.2 _ _ (Or.inr (by decide))).trans ((u141.2 _ _ (Or.inr (by decide))).trans ((u140.2 _ _ (Or.inr (by decide))).trans hg4)))) : pq_n h148 199 4 = g4.toInt.toNat), (pq_of (k := 5) u148.1 : pq_n h148 199 5 = g2.toInt.toNat)]; unfold pq_x6; rw [if_pos (by omega), if_pos (by omega), if_neg (by omega), if_pos (by omega), if_pos (by omega), if_neg (by omega)]), g0, g1, g3, g5, g4, g2, ((u148.2 _ _ (Or.inr (by decide))).trans ((u147.2 _ _ (Or.inr (by decide))).trans ((u141.2 _ _ (Or.inr (by decide))).trans ((u140.2 _ _ (Or.inr (by decide))).trans hg0)))), ((u148.2 _ _ (Or.inr (by decide))).trans ((u147.2 _ _ (Or.inr (by decide))).trans ((u141.2 _ _ (Or.inr (by decide))).trans ((u140.2 _ _ (Or.inr (by decide))).trans hg1)))), ((u148.2 _ _ (Or.inr (by decide))).trans ((u147.2 _ _ (Or.inr (by decide))).trans ((u141.2 _ _ (Or.inr (by decide))).trans u140.1))), ((u148.2 _ _ (Or.inr (by decide))).trans u147.1), ((u148.2 _ _ (Or.inr (by decide))).trans ((u147.2 _ _ (Or.inr (by decide))).trans ((u141.2 _ _ (Or.inr (by decide))).trans ((u140.2 _ _ (Or.inr (by decide))).trans hg4)))), u148.1, (by unfold prm; omega), (by unfold lexV; omega)⟩⟩
            · refine te_iinc (p2 := 59) (x := 3) (y := 2) (lv2 := [(3, .int 2), (2, .int 2), (0, .ref 164), (1, .int 6)]) rfl rfl (by decide) rfl (by decide) rfl ?_
              refine te_goto rfl ?_
              refine te_aload_n (p2 := 42) rfl rfl rfl ?_
              refine tg_r (p2 := 45) (i := 148) (r := 215) rfl rfl hI rfl rfl rfl ?_
              refine te_iload_n (p2 := 46) rfl rfl rfl ?_
              refine tl_e (p2 := 47) (i := 199) (n := 6) (t := 0) (Or.inl rfl) rfl rfl hI rfl rfl (by decide) (by decide) hg2 ?_
              refine te_aload_n (p2 := 48) rfl rfl rfl ?_
              refine tg_r (p2 := 51) (i := 148) (r := 215) rfl rfl hI rfl rfl rfl ?_
              refine te_iload_n (p2 := 52) rfl rfl rfl ?_
              refine tl_e (p2 := 53) (i := 199) (n := 6) (t := 0) (Or.inl rfl) rfl rfl hI rfl rfl (by decide) (by decide) hg2 ?_
              refine tb_ge (p2 := 56) rfl rfl rfl rfl (fun c155 => ?_) (fun c155 => absurd c155 (by omega))
              refine te_aload_n (p2 := 63) rfl rfl rfl ?_
              refine tg_r (p2 := 66) (i := 148) (r := 215) rfl rfl hI rfl rfl rfl ?_
              refine te_iload_n (p2 := 67) rfl rfl rfl ?_
              refine tl_e (p2 := 68) (i := 199) (n := 6) (t := 0) (Or.inl rfl) rfl rfl hI rfl rfl (by decide) (by decide) hg2 ?_
              refine te_istore (p2 := 70) (lv2 := [(4, .int g2), (3, .int 2), (2, .int 2), (0, .ref 164), (1, .int 6)]) rfl rfl (by decide) rfl ?_
              refine te_aload_n (p2 := 71) rfl rfl rfl ?_
              refine tg_r (p2 := 74) (i := 148) (r := 215) rfl rfl hI rfl rfl rfl ?_
              refine te_iload_n (p2 := 75) rfl rfl rfl ?_
              refine te_aload_n (p2 := 76) rfl rfl rfl ?_
              refine tg_r (p2 := 79) (i := 148) (r := 215) rfl rfl hI rfl rfl rfl ?_
              refine te_iload_n (p2 := 80) rfl rfl rfl ?_
              refine tl_e (p2 := 81) (i := 199) (n := 6) (t := 0) (Or.inl rfl) rfl rfl hI rfl rfl (by decide) (by decide) hg2 ?_
              refine ts_i (p2 := 82) (i := 199) (n := 6) rfl rfl hI rfl rfl rfl rfl (by decide) (by decide) (by omega) (by omega) (by omega) rfl (fun h158 I158 u158 => ?_)
              have f158 := fr_st (F := F_X12_nextOrder_6) 0 f0 u158 rfl (by decide) (by decide)
              refine te_aload_n (p2 := 83) rfl rfl rfl ?_
              refine tg_r (p2 := 86) (i := 148) (r := 215) rfl rfl I158 rfl rfl rfl ?_
              refine te_iload_n (p2 := 87) rfl rfl rfl ?_
              refine te_iload (p2 := 89) rfl rfl rfl ?_
              refine ts_i (p2 := 90) (i := 199) (n := 6) rfl rfl I158 rfl rfl rfl rfl (by decide) (by decide) (by omega) (by omega) (by omega) rfl (fun h159 I159 u159 => ?_)
              have f159 := fr_st (F := F_X12_nextOrder_6) 0 f158 u159 rfl (by decide) (by decide)
              refine te_iload_n (p2 := 91) rfl rfl rfl ?_
              refine te_iconst (p2 := 92) (x := 1) rfl rfl (by decide) ?_
              refine te_iadd (p2 := 93) (z := 3) rfl rfl (by decide) ?_
              refine te_istore (p2 := 95) (lv2 := [(5, .int 3), (4, .int g2), (3, .int 2), (2, .int 2), (0, .ref 164), (1, .int 6)]) rfl rfl (by decide) rfl ?_
              refine te_iload_n (p2 := 96) rfl rfl rfl ?_
              refine te_iconst (p2 := 97) (x := 1) rfl rfl (by decide) ?_
              refine te_isub (p2 := 98) (z := 5) rfl rfl (by decide) ?_
              refine te_istore (p2 := 100) (lv2 := [(6, .int 5), (5, .int 3), (4, .int g2), (3, .int 2), (2, .int 2), (0, .ref 164), (1, .int 6)]) rfl rfl (by decide) rfl ?_
              refine te_iload (p2 := 102) rfl rfl rfl ?_
              refine te_iload (p2 := 104) rfl rfl rfl ?_
              refine tb_ge (p2 := 107) rfl rfl (show Int32.toInt 3 = 3 from rfl) (show Int32.toInt 5 = 5 from rfl) (fun c162 => absurd c162 (by omega)) (fun c162 => ?_)
              refine te_aload_n (p2 := 108) rfl rfl rfl ?_
              refine tg_r (p2 := 111) (i := 148) (r := 215) rfl rfl I159 rfl rfl rfl ?_
              refine te_iload (p2 := 113) rfl rfl rfl ?_
              refine tl_e (p2 := 114) (i := 199) (n := 6) (t := 0) (Or.inl rfl) rfl rfl I159 rfl rfl (by decide) (by decide) ((u159.2 _ _ (Or.inr (by decide))).trans ((u158.2 _ _ (Or.inr (by decide))).trans hg3)) ?_
              refine te_istore (p2 := 116) (lv2 := [(7, .int g3), (6, .int 5), (5, .int 3), (4, .int g2), (3, .int 2), (2, .int 2), (0, .ref 164), (1, .int 6)]) rfl rfl (by decide) rfl ?_
              refine te_aload_n (p2 := 117) rfl rfl rfl ?_
              refine tg_r (p2 := 120) (i := 148) (r := 215) rfl rfl I159 rfl rfl rfl ?_
              refine te_iload (p2 := 122) rfl rfl rfl ?_
              refine te_aload_n (p2 := 123) rfl rfl rfl ?_
              refine tg_r (p2 := 126) (i := 148) (r := 215) rfl rfl I159 rfl rfl rfl ?_
              refine te_iload (p2 := 128) rfl rfl rfl ?_
              refine tl_e (p2 := 129) (i := 199) (n := 6) (t := 0) (Or.inl rfl) rfl rfl I159 rfl rfl (by decide) (by decide) ((u159.2 _ _ (Or.inr (by decide))).trans ((u158.2 _ _ (Or.inr (by decide))).trans hg5)) ?_
              refine ts_i (p2 := 130) (i := 199) (n := 6) rfl rfl I159 rfl rfl rfl rfl (by decide) (by decide) (by omega) (by omega) (by omega) rfl (fun h165 I165 u165 => ?_)
              have f165 := fr_st (F := F_X12_nextOrder_6) 0 f159 u165 rfl (by decide) (by decide)
              refine te_aload_n (p2 := 131) rfl rfl rfl ?_
              refine tg_r (p2 := 134) (i := 148) (r := 215) rfl rfl I165 rfl rfl rfl ?_
              refine te_iload (p2 := 136) rfl rfl rfl ?_
              refine te_iload (p2 := 138) rfl rfl rfl ?_
              refine ts_i (p2 := 139) (i := 199) (n := 6) rfl rfl I165 rfl rfl rfl rfl (by decide) (by decide) (by omega) (by omega) (by omega) rfl (fun h166 I166 u166 => ?_)
              have f166 := fr_st (F := F_X12_nextOrder_6) 0 f165 u166 rfl (by decide) (by decide)
              refine te_iinc (p2 := 142) (x := 5) (y := 4) (lv2 := [(6, .int 4), (7, .int g3), (5, .int 3), (4, .int g2), (3, .int 2), (2, .int 2), (0, .ref 164), (1, .int 6)]) rfl rfl (by decide) rfl (by decide) rfl ?_
              refine te_iinc (p2 := 145) (x := 3) (y := 4) (lv2 := [(5, .int 4), (6, .int 4), (7, .int g3), (4, .int g2), (3, .int 2), (2, .int 2), (0, .ref 164), (1, .int 6)]) rfl rfl (by decide) rfl (by decide) rfl ?_
              refine te_goto rfl ?_
              refine te_iload (p2 := 102) rfl rfl rfl ?_
              refine te_iload (p2 := 104) rfl rfl rfl ?_
              refine tb_ge (p2 := 107) rfl rfl (show Int32.toInt 4 = 4 from rfl) (show Int32.toInt 4 = 4 from rfl) (fun c169 => ?_) (fun c169 => absurd c169 (by omega))
              refine te_iconst (p2 := 149) (x := 1) rfl rfl (by decide) ?_
              exact te_zret rfl rfl (by decide) ⟨I166, f166, _, rfl, Or.inr ⟨rfl, (by rw [pq_xe6, on6_6, (pq_of (k := 0) hg0 : pq_n h 199 0 = g0.toInt.toNat), (pq_of (k := 1) hg1 : pq_n h 199 1 = g1.toInt.toNat), (pq_of (k := 2) hg2 : pq_n h 199 2 = g2.toInt.toNat), (pq_of (k := 3) hg3 : pq_n h 199 3 = g3.toInt.toNat), (pq_of (k := 4) hg4 : pq_n h 199 4 = g4.toInt.toNat), (pq_of (k := 5) hg5 : pq_n h 199 5 = g5.toInt.toNat), (pq_of (k := 0) ((u166.2 _ _ (Or.inr (by decide))).trans ((u165.2 _ _ (Or.inr (by decide))).trans ((u159.2 _ _ (Or.inr (by decide))).trans ((u158.2 _ _ (Or.inr (by decide))).trans hg0)))) : pq_n h166 199 0 = g0.toInt.toNat), (pq_of (k := 1) ((u166.2 _ _ (Or.inr (by decide))).trans ((u165.2 _ _ (Or.inr (by decide))).trans ((u159.2 _ _ (Or.inr (by decide))).trans ((u158.2 _ _ (Or.inr (by decide))).trans hg1)))) : pq_n h166 199 1 = g1.toInt.toNat), (pq_of (k := 2) ((u166.2 _ _ (Or.inr (by decide))).trans ((u165.2 _ _ (Or.inr (by decide))).trans u159.1)) : pq_n h166 199 2 = g2.toInt.toNat), (pq_of (k := 3) ((u166.2 _ _ (Or.inr (by decide))).trans u165.1) : pq_n h166 199 3 = g5.toInt.toNat), (pq_of (k := 4) ((u166.2 _ _ (Or.inr (by decide))).trans ((u165.2 _ _ (Or.inr (by decide))).trans ((u159.2 _ _ (Or.inr (by decide))).trans ((u158.2 _ _ (Or.inr (by decide))).trans hg4)))) : pq_n h166 199 4 = g4.toInt.toNat), (pq_of (k := 5) u166.1 : pq_n h166 199 5 = g3.toInt.toNat)]; unfold pq_x6; rw [if_pos (by omega), if_pos (by omega), if_neg (by omega), if_pos (by omega), if_pos (by omega), if_pos (by omega)]), g0, g1, g2, g5, g4, g3, ((u166.2 _ _ (Or.inr (by decide))).trans ((u165.2 _ _ (Or.inr (by decide))).trans ((u159.2 _ _ (Or.inr (by decide))).trans ((u158.2 _ _ (Or.inr (by decide))).trans hg0)))), ((u166.2 _ _ (Or.inr (by decide))).trans ((u165.2 _ _ (Or.inr (by decide))).trans ((u159.2 _ _ (Or.inr (by decide))).trans ((u158.2 _ _ (Or.inr (by decide))).trans hg1)))), ((u166.2 _ _ (Or.inr (by decide))).trans ((u165.2 _ _ (Or.inr (by decide))).trans u159.1)), ((u166.2 _ _ (Or.inr (by decide))).trans u165.1), ((u166.2 _ _ (Or.inr (by decide))).trans ((u165.2 _ _ (Or.inr (by decide))).trans ((u159.2 _ _ (Or.inr (by decide))).trans ((u158.2 _ _ (Or.inr (by decide))).trans hg4)))), u166.1, (by unfold prm; omega), (by unfold lexV; omega)⟩⟩
      · refine te_iinc (p2 := 28) (x := 2) (y := 1) (lv2 := [(2, .int 1), (0, .ref 164), (1, .int 6)]) rfl rfl (by decide) rfl (by decide) rfl ?_
        refine te_goto rfl ?_
        refine te_iload_n (p2 := 5) rfl rfl rfl ?_
        refine tz_lt (p2 := 8) rfl rfl (show Int32.toInt 1 = 1 from rfl) (fun c171 => absurd c171 (by omega)) (fun c171 => ?_)
        refine te_aload_n (p2 := 9) rfl rfl rfl ?_
        refine tg_r (p2 := 12) (i := 148) (r := 215) rfl rfl hI rfl rfl rfl ?_
        refine te_iload_n (p2 := 13) rfl rfl rfl ?_
        refine tl_e (p2 := 14) (i := 199) (n := 6) (t := 0) (Or.inl rfl) rfl rfl hI rfl rfl (by decide) (by decide) hg1 ?_
        refine te_aload_n (p2 := 15) rfl rfl rfl ?_
        refine tg_r (p2 := 18) (i := 148) (r := 215) rfl rfl hI rfl rfl rfl ?_
        refine te_iload_n (p2 := 19) rfl rfl rfl ?_
        refine te_iconst (p2 := 20) (x := 1) rfl rfl (by decide) ?_
        refine te_iadd (p2 := 21) (z := 2) rfl rfl (by decide) ?_
        refine tl_e (p2 := 22) (i := 199) (n := 6) (t := 0) (Or.inl rfl) rfl rfl hI rfl rfl (by decide) (by decide) hg2 ?_
        refine tb_le (p2 := 25) rfl rfl rfl rfl (fun c175 => ?_) (fun c175 => ?_)
        · refine te_iload_n (p2 := 32) rfl rfl rfl ?_
          refine tz_ge (p2 := 35) rfl rfl (show Int32.toInt 1 = 1 from rfl) (fun c176 => ?_) (fun c176 => absurd c176 (by omega))
          refine te_iload_n (p2 := 38) rfl rfl rfl ?_
          refine te_iconst (p2 := 39) (x := 1) rfl rfl (by decide) ?_
          refine te_isub (p2 := 40) (z := 5) rfl rfl (by decide) ?_
          refine te_istore_n (p2 := 41) (lv2 := [(3, .int 5), (2, .int 1), (0, .ref 164), (1, .int 6)]) rfl rfl (by decide) rfl ?_
          refine te_aload_n (p2 := 42) rfl rfl rfl ?_
          refine tg_r (p2 := 45) (i := 148) (r := 215) rfl rfl hI rfl rfl rfl ?_
          refine te_iload_n (p2 := 46) rfl rfl rfl ?_
          refine tl_e (p2 := 47) (i := 199) (n := 6) (t := 0) (Or.inl rfl) rfl rfl hI rfl rfl (by decide) (by decide) hg5 ?_
          refine te_aload_n (p2 := 48) rfl rfl rfl ?_
          refine tg_r (p2 := 51) (i := 148) (r := 215) rfl rfl hI rfl rfl rfl ?_
          refine te_iload_n (p2 := 52) rfl rfl rfl ?_
          refine tl_e (p2 := 53) (i := 199) (n := 6) (t := 0) (Or.inl rfl) rfl rfl hI rfl rfl (by decide) (by decide) hg1 ?_
          refine tb_ge (p2 := 56) rfl rfl rfl rfl (fun c180 => ?_) (fun c180 => ?_)
          · refine te_aload_n (p2 := 63) rfl rfl rfl ?_
            refine tg_r (p2 := 66) (i := 148) (r := 215) rfl rfl hI rfl rfl rfl ?_
            refine te_iload_n (p2 := 67) rfl rfl rfl ?_
            refine tl_e (p2 := 68) (i := 199) (n := 6) (t := 0) (Or.inl rfl) rfl rfl hI rfl rfl (by decide) (by decide) hg1 ?_
            refine te_istore (p2 := 70) (lv2 := [(4, .int g1), (3, .int 5), (2, .int 1), (0, .ref 164), (1, .int 6)]) rfl rfl (by decide) rfl ?_
            refine te_aload_n (p2 := 71) rfl rfl rfl ?_
            refine tg_r (p2 := 74) (i := 148) (r := 215) rfl rfl hI rfl rfl rfl ?_
            refine te_iload_n (p2 := 75) rfl rfl rfl ?_
            refine te_aload_n (p2 := 76) rfl rfl rfl ?_
            refine tg_r (p2 := 79) (i := 148) (r := 215) rfl rfl hI rfl rfl rfl ?_
            refine te_iload_n (p2 := 80) rfl rfl rfl ?_
            refine tl_e (p2 := 81) (i := 199) (n := 6) (t := 0) (Or.inl rfl) rfl rfl hI rfl rfl (by decide) (by decide) hg5 ?_
            refine ts_i (p2 := 82) (i := 199) (n := 6) rfl rfl hI rfl rfl rfl rfl (by decide) (by decide) (by omega) (by omega) (by omega) rfl (fun h183 I183 u183 => ?_)
            have f183 := fr_st (F := F_X12_nextOrder_6) 0 f0 u183 rfl (by decide) (by decide)
            refine te_aload_n (p2 := 83) rfl rfl rfl ?_
            refine tg_r (p2 := 86) (i := 148) (r := 215) rfl rfl I183 rfl rfl rfl ?_
            refine te_iload_n (p2 := 87) rfl rfl rfl ?_
            refine te_iload (p2 := 89) rfl rfl rfl ?_
            refine ts_i (p2 := 90) (i := 199) (n := 6) rfl rfl I183 rfl rfl rfl rfl (by decide) (by decide) (by omega) (by omega) (by omega) rfl (fun h184 I184 u184 => ?_)
            have f184 := fr_st (F := F_X12_nextOrder_6) 0 f183 u184 rfl (by decide) (by decide)
            refine te_iload_n (p2 := 91) rfl rfl rfl ?_
            refine te_iconst (p2 := 92) (x := 1) rfl rfl (by decide) ?_
            refine te_iadd (p2 := 93) (z := 2) rfl rfl (by decide) ?_
            refine te_istore (p2 := 95) (lv2 := [(5, .int 2), (4, .int g1), (3, .int 5), (2, .int 1), (0, .ref 164), (1, .int 6)]) rfl rfl (by decide) rfl ?_
            refine te_iload_n (p2 := 96) rfl rfl rfl ?_
            refine te_iconst (p2 := 97) (x := 1) rfl rfl (by decide) ?_
            refine te_isub (p2 := 98) (z := 5) rfl rfl (by decide) ?_
            refine te_istore (p2 := 100) (lv2 := [(6, .int 5), (5, .int 2), (4, .int g1), (3, .int 5), (2, .int 1), (0, .ref 164), (1, .int 6)]) rfl rfl (by decide) rfl ?_
            refine te_iload (p2 := 102) rfl rfl rfl ?_
            refine te_iload (p2 := 104) rfl rfl rfl ?_
            refine tb_ge (p2 := 107) rfl rfl (show Int32.toInt 2 = 2 from rfl) (show Int32.toInt 5 = 5 from rfl) (fun c187 => absurd c187 (by omega)) (fun c187 => ?_)
            refine te_aload_n (p2 := 108) rfl rfl rfl ?_
            refine tg_r (p2 := 111) (i := 148) (r := 215) rfl rfl I184 rfl rfl rfl ?_
            refine te_iload (p2 := 113) rfl rfl rfl ?_
            refine tl_e (p2 := 114) (i := 199) (n := 6) (t := 0) (Or.inl rfl) rfl rfl I184 rfl rfl (by decide) (by decide) ((u184.2 _ _ (Or.inr (by decide))).trans ((u183.2 _ _ (Or.inr (by decide))).trans hg2)) ?_
            refine te_istore (p2 := 116) (lv2 := [(7, .int g2), (6, .int 5), (5, .int 2), (4, .int g1), (3, .int 5), (2, .int 1), (0, .ref 164), (1, .int 6)]) rfl rfl (by decide) rfl ?_
            refine te_aload_n (p2 := 117) rfl rfl rfl ?_
            refine tg_r (p2 := 120) (i := 148) (r := 215) rfl rfl I184 rfl rfl rfl ?_
            refine te_iload (p2 := 122) rfl rfl rfl ?_
            refine te_aload_n (p2 := 123) rfl rfl rfl ?_
            refine tg_r (p2 := 126) (i := 148) (r := 215) rfl rfl I184 rfl rfl rfl ?_
            refine te_iload (p2 := 128) rfl rfl rfl ?_
            refine tl_e (p2 := 129) (i := 199) (n := 6) (t := 0) (Or.inl rfl) rfl rfl I184 rfl rfl (by decide) (by decide) u184.1 ?_
            refine ts_i (p2 := 130) (i := 199) (n := 6) rfl rfl I184 rfl rfl rfl rfl (by decide) (by decide) (by omega) (by omega) (by omega) rfl (fun h190 I190 u190 => ?_)
            have f190 := fr_st (F := F_X12_nextOrder_6) 0 f184 u190 rfl (by decide) (by decide)
            refine te_aload_n (p2 := 131) rfl rfl rfl ?_
            refine tg_r (p2 := 134) (i := 148) (r := 215) rfl rfl I190 rfl rfl rfl ?_
            refine te_iload (p2 := 136) rfl rfl rfl ?_
            refine te_iload (p2 := 138) rfl rfl rfl ?_
            refine ts_i (p2 := 139) (i := 199) (n := 6) rfl rfl I190 rfl rfl rfl rfl (by decide) (by decide) (by omega) (by omega) (by omega) rfl (fun h191 I191 u191 => ?_)
            have f191 := fr_st (F := F_X12_nextOrder_6) 0 f190 u191 rfl (by decide) (by decide)
            refine te_iinc (p2 := 142) (x := 5) (y := 4) (lv2 := [(6, .int 4), (7, .int g2), (5, .int 2), (4, .int g1), (3, .int 5), (2, .int 1), (0, .ref 164), (1, .int 6)]) rfl rfl (by decide) rfl (by decide) rfl ?_
            refine te_iinc (p2 := 145) (x := 2) (y := 3) (lv2 := [(5, .int 3), (6, .int 4), (7, .int g2), (4, .int g1), (3, .int 5), (2, .int 1), (0, .ref 164), (1, .int 6)]) rfl rfl (by decide) rfl (by decide) rfl ?_
            refine te_goto rfl ?_
            refine te_iload (p2 := 102) rfl rfl rfl ?_
            refine te_iload (p2 := 104) rfl rfl rfl ?_
            refine tb_ge (p2 := 107) rfl rfl (show Int32.toInt 3 = 3 from rfl) (show Int32.toInt 4 = 4 from rfl) (fun c194 => absurd c194 (by omega)) (fun c194 => ?_)
            refine te_aload_n (p2 := 108) rfl rfl rfl ?_
            refine tg_r (p2 := 111) (i := 148) (r := 215) rfl rfl I191 rfl rfl rfl ?_
            refine te_iload (p2 := 113) rfl rfl rfl ?_
            refine tl_e (p2 := 114) (i := 199) (n := 6) (t := 0) (Or.inl rfl) rfl rfl I191 rfl rfl (by decide) (by decide) ((u191.2 _ _ (Or.inr (by decide))).trans ((u190.2 _ _ (Or.inr (by decide))).trans ((u184.2 _ _ (Or.inr (by decide))).trans ((u183.2 _ _ (Or.inr (by decide))).trans hg3)))) ?_
            refine te_istore (p2 := 116) (lv2 := [(7, .int g3), (5, .int 3), (6, .int 4), (4, .int g1), (3, .int 5), (2, .int 1), (0, .ref 164), (1, .int 6)]) rfl rfl (by decide) rfl ?_
            refine te_aload_n (p2 := 117) rfl rfl rfl ?_
            refine tg_r (p2 := 120) (i := 148) (r := 215) rfl rfl I191 rfl rfl rfl ?_
            refine te_iload (p2 := 122) rfl rfl rfl ?_
            refine te_aload_n (p2 := 123) rfl rfl rfl ?_
            refine tg_r (p2 := 126) (i := 148) (r := 215) rfl rfl I191 rfl rfl rfl ?_
            refine te_iload (p2 := 128) rfl rfl rfl ?_
            refine tl_e (p2 := 129) (i := 199) (n := 6) (t := 0) (Or.inl rfl) rfl rfl I191 rfl rfl (by decide) (by decide) ((u191.2 _ _ (Or.inr (by decide))).trans ((u190.2 _ _ (Or.inr (by decide))).trans ((u184.2 _ _ (Or.inr (by decide))).trans ((u183.2 _ _ (Or.inr (by decide))).trans hg4)))) ?_
            refine ts_i (p2 := 130) (i := 199) (n := 6) rfl rfl I191 rfl rfl rfl rfl (by decide) (by decide) (by omega) (by omega) (by omega) rfl (fun h197 I197 u197 => ?_)
            have f197 := fr_st (F := F_X12_nextOrder_6) 0 f191 u197 rfl (by decide) (by decide)
            refine te_aload_n (p2 := 131) rfl rfl rfl ?_
            refine tg_r (p2 := 134) (i := 148) (r := 215) rfl rfl I197 rfl rfl rfl ?_
            refine te_iload (p2 := 136) rfl rfl rfl ?_
            refine te_iload (p2 := 138) rfl rfl rfl ?_
            refine ts_i (p2 := 139) (i := 199) (n := 6) rfl rfl I197 rfl rfl rfl rfl (by decide) (by decide) (by omega) (by omega) (by omega) rfl (fun h198 I198 u198 => ?_)
            have f198 := fr_st (F := F_X12_nextOrder_6) 0 f197 u198 rfl (by decide) (by decide)
            refine te_iinc (p2 := 142) (x := 4) (y := 3) (lv2 := [(6, .int 3), (7, .int g3), (5, .int 3), (4, .int g1), (3, .int 5), (2, .int 1), (0, .ref 164), (1, .int 6)]) rfl rfl (by decide) rfl (by decide) rfl ?_
            refine te_iinc (p2 := 145) (x := 3) (y := 4) (lv2 := [(5, .int 4), (6, .int 3), (7, .int g3), (4, .int g1), (3, .int 5), (2, .int 1), (0, .ref 164), (1, .int 6)]) rfl rfl (by decide) rfl (by decide) rfl ?_
            refine te_goto rfl ?_
            refine te_iload (p2 := 102) rfl rfl rfl ?_
            refine te_iload (p2 := 104) rfl rfl rfl ?_
            refine tb_ge (p2 := 107) rfl rfl (show Int32.toInt 4 = 4 from rfl) (show Int32.toInt 3 = 3 from rfl) (fun c201 => ?_) (fun c201 => absurd c201 (by omega))
            refine te_iconst (p2 := 149) (x := 1) rfl rfl (by decide) ?_
            exact te_zret rfl rfl (by decide) ⟨I198, f198, _, rfl, Or.inr ⟨rfl, (by rw [pq_xe6, on6_6, (pq_of (k := 0) hg0 : pq_n h 199 0 = g0.toInt.toNat), (pq_of (k := 1) hg1 : pq_n h 199 1 = g1.toInt.toNat), (pq_of (k := 2) hg2 : pq_n h 199 2 = g2.toInt.toNat), (pq_of (k := 3) hg3 : pq_n h 199 3 = g3.toInt.toNat), (pq_of (k := 4) hg4 : pq_n h 199 4 = g4.toInt.toNat), (pq_of (k := 5) hg5 : pq_n h 199 5 = g5.toInt.toNat), (pq_of (k := 0) ((u198.2 _ _ (Or.inr (by decide))).trans ((u197.2 _ _ (Or.inr (by decide))).trans ((u191.2 _ _ (Or.inr (by decide))).trans ((u190.2 _ _ (Or.inr (by decide))).trans ((u184.2 _ _ (Or.inr (by decide))).trans ((u183.2 _ _ (Or.inr (by decide))).trans hg0)))))) : pq_n h198 199 0 = g0.toInt.toNat), (pq_of (k := 1) ((u198.2 _ _ (Or.inr (by decide))).trans ((u197.2 _ _ (Or.inr (by decide))).trans ((u191.2 _ _ (Or.inr (by decide))).trans ((u190.2 _ _ (Or.inr (by decide))).trans ((u184.2 _ _ (Or.inr (by decide))).trans u183.1))))) : pq_n h198 199 1 = g5.toInt.toNat), (pq_of (k := 2) ((u198.2 _ _ (Or.inr (by decide))).trans ((u197.2 _ _ (Or.inr (by decide))).trans ((u191.2 _ _ (Or.inr (by decide))).trans u190.1))) : pq_n h198 199 2 = g1.toInt.toNat), (pq_of (k := 3) ((u198.2 _ _ (Or.inr (by decide))).trans u197.1) : pq_n h198 199 3 = g4.toInt.toNat), (pq_of (k := 4) u198.1 : pq_n h198 199 4 = g3.toInt.toNat), (pq_of (k := 5) ((u198.2 _ _ (Or.inr (by decide))).trans ((u197.2 _ _ (Or.inr (by decide))).trans u191.1)) : pq_n h198 199 5 = g2.toInt.toNat)]; unfold pq_x6; rw [if_pos (by omega), if_pos (by omega), if_pos (by omega), if_neg (by omega), if_neg (by omega)]), g0, g5, g1, g4, g3, g2, ((u198.2 _ _ (Or.inr (by decide))).trans ((u197.2 _ _ (Or.inr (by decide))).trans ((u191.2 _ _ (Or.inr (by decide))).trans ((u190.2 _ _ (Or.inr (by decide))).trans ((u184.2 _ _ (Or.inr (by decide))).trans ((u183.2 _ _ (Or.inr (by decide))).trans hg0)))))), ((u198.2 _ _ (Or.inr (by decide))).trans ((u197.2 _ _ (Or.inr (by decide))).trans ((u191.2 _ _ (Or.inr (by decide))).trans ((u190.2 _ _ (Or.inr (by decide))).trans ((u184.2 _ _ (Or.inr (by decide))).trans u183.1))))), ((u198.2 _ _ (Or.inr (by decide))).trans ((u197.2 _ _ (Or.inr (by decide))).trans ((u191.2 _ _ (Or.inr (by decide))).trans u190.1))), ((u198.2 _ _ (Or.inr (by decide))).trans u197.1), u198.1, ((u198.2 _ _ (Or.inr (by decide))).trans ((u197.2 _ _ (Or.inr (by decide))).trans u191.1)), (by unfold prm; omega), (by unfold lexV; omega)⟩⟩
          · refine te_iinc (p2 := 59) (x := 5) (y := 4) (lv2 := [(3, .int 4), (2, .int 1), (0, .ref 164), (1, .int 6)]) rfl rfl (by decide) rfl (by decide) rfl ?_
            refine te_goto rfl ?_
            refine te_aload_n (p2 := 42) rfl rfl rfl ?_
            refine tg_r (p2 := 45) (i := 148) (r := 215) rfl rfl hI rfl rfl rfl ?_
            refine te_iload_n (p2 := 46) rfl rfl rfl ?_
            refine tl_e (p2 := 47) (i := 199) (n := 6) (t := 0) (Or.inl rfl) rfl rfl hI rfl rfl (by decide) (by decide) hg4 ?_
            refine te_aload_n (p2 := 48) rfl rfl rfl ?_
            refine tg_r (p2 := 51) (i := 148) (r := 215) rfl rfl hI rfl rfl rfl ?_
            refine te_iload_n (p2 := 52) rfl rfl rfl ?_
            refine tl_e (p2 := 53) (i := 199) (n := 6) (t := 0) (Or.inl rfl) rfl rfl hI rfl rfl (by decide) (by decide) hg1 ?_
            refine tb_ge (p2 := 56) rfl rfl rfl rfl (fun c205 => ?_) (fun c205 => ?_)
            · refine te_aload_n (p2 := 63) rfl rfl rfl ?_
              refine tg_r (p2 := 66) (i := 148) (r := 215) rfl rfl hI rfl rfl rfl ?_
              refine te_iload_n (p2 := 67) rfl rfl rfl ?_
              refine tl_e (p2 := 68) (i := 199) (n := 6) (t := 0) (Or.inl rfl) rfl rfl hI rfl rfl (by decide) (by decide) hg1 ?_
              refine te_istore (p2 := 70) (lv2 := [(4, .int g1), (3, .int 4), (2, .int 1), (0, .ref 164), (1, .int 6)]) rfl rfl (by decide) rfl ?_
              refine te_aload_n (p2 := 71) rfl rfl rfl ?_
              refine tg_r (p2 := 74) (i := 148) (r := 215) rfl rfl hI rfl rfl rfl ?_
              refine te_iload_n (p2 := 75) rfl rfl rfl ?_
              refine te_aload_n (p2 := 76) rfl rfl rfl ?_
              refine tg_r (p2 := 79) (i := 148) (r := 215) rfl rfl hI rfl rfl rfl ?_
              refine te_iload_n (p2 := 80) rfl rfl rfl ?_
              refine tl_e (p2 := 81) (i := 199) (n := 6) (t := 0) (Or.inl rfl) rfl rfl hI rfl rfl (by decide) (by decide) hg4 ?_
              refine ts_i (p2 := 82) (i := 199) (n := 6) rfl rfl hI rfl rfl rfl rfl (by decide) (by decide) (by omega) (by omega) (by omega) rfl (fun h208 I208 u208 => ?_)
              have f208 := fr_st (F := F_X12_nextOrder_6) 0 f0 u208 rfl (by decide) (by decide)
              refine te_aload_n (p2 := 83) rfl rfl rfl ?_
              refine tg_r (p2 := 86) (i := 148) (r := 215) rfl rfl I208 rfl rfl rfl ?_
              refine te_iload_n (p2 := 87) rfl rfl rfl ?_
              refine te_iload (p2 := 89) rfl rfl rfl ?_
              refine ts_i (p2 := 90) (i := 199) (n := 6) rfl rfl I208 rfl rfl rfl rfl (by decide) (by decide) (by omega) (by omega) (by omega) rfl (fun h209 I209 u209 => ?_)
              have f209 := fr_st (F := F_X12_nextOrder_6) 0 f208 u209 rfl (by decide) (by decide)
              refine te_iload_n (p2 := 91) rfl rfl rfl ?_
              refine te_iconst (p2 := 92) (x := 1) rfl rfl (by decide) ?_
              refine te_iadd (p2 := 93) (z := 2) rfl rfl (by decide) ?_
              refine te_istore (p2 := 95) (lv2 := [(5, .int 2), (4, .int g1), (3, .int 4), (2, .int 1), (0, .ref 164), (1, .int 6)]) rfl rfl (by decide) rfl ?_
              refine te_iload_n (p2 := 96) rfl rfl rfl ?_
              refine te_iconst (p2 := 97) (x := 1) rfl rfl (by decide) ?_
              refine te_isub (p2 := 98) (z := 5) rfl rfl (by decide) ?_
              refine te_istore (p2 := 100) (lv2 := [(6, .int 5), (5, .int 2), (4, .int g1), (3, .int 4), (2, .int 1), (0, .ref 164), (1, .int 6)]) rfl rfl (by decide) rfl ?_
              refine te_iload (p2 := 102) rfl rfl rfl ?_
              refine te_iload (p2 := 104) rfl rfl rfl ?_
              refine tb_ge (p2 := 107) rfl rfl (show Int32.toInt 2 = 2 from rfl) (show Int32.toInt 5 = 5 from rfl) (fun c212 => absurd c212 (by omega)) (fun c212 => ?_)
              refine te_aload_n (p2 := 108) rfl rfl rfl ?_
              refine tg_r (p2 := 111) (i := 148) (r := 215) rfl rfl I209 rfl rfl rfl ?_
              refine te_iload (p2 := 113) rfl rfl rfl ?_
              refine tl_e (p2 := 114) (i := 199) (n := 6) (t := 0) (Or.inl rfl) rfl rfl I209 rfl rfl (by decide) (by decide) ((u209.2 _ _ (Or.inr (by decide))).trans ((u208.2 _ _ (Or.inr (by decide))).trans hg2)) ?_
              refine te_istore (p2 := 116) (lv2 := [(7, .int g2), (6, .int 5), (5, .int 2), (4, .int g1), (3, .int 4), (2, .int 1), (0, .ref 164), (1, .int 6)]) rfl rfl (by decide) rfl ?_
              refine te_aload_n (p2 := 117) rfl rfl rfl ?_
              refine tg_r (p2 := 120) (i := 148) (r := 215) rfl rfl I209 rfl rfl rfl ?_
              refine te_iload (p2 := 122) rfl rfl rfl ?_
              refine te_aload_n (p2 := 123) rfl rfl rfl ?_
              refine tg_r (p2 := 126) (i := 148) (r := 215) rfl rfl I209 rfl rfl rfl ?_
              refine te_iload (p2 := 128) rfl rfl rfl ?_
              refine tl_e (p2 := 129) (i := 199) (n := 6) (t := 0) (Or.inl rfl) rfl rfl I209 rfl rfl (by decide) (by decide) ((u209.2 _ _ (Or.inr (by decide))).trans ((u208.2 _ _ (Or.inr (by decide))).trans hg5)) ?_
              refine ts_i (p2 := 130) (i := 199) (n := 6) rfl rfl I209 rfl rfl rfl rfl (by decide) (by decide) (by omega) (by omega) (by omega) rfl (fun h215 I215 u215 => ?_)
              have f215 := fr_st (F := F_X12_nextOrder_6) 0 f209 u215 rfl (by decide) (by decide)
              refine te_aload_n (p2 := 131) rfl rfl rfl ?_
              refine tg_r (p2 := 134) (i := 148) (r := 215) rfl rfl I215 rfl rfl rfl ?_
              refine te_iload (p2 := 136) rfl rfl rfl ?_
              refine te_iload (p2 := 138) rfl rfl rfl ?_
              refine ts_i (p2 := 139) (i := 199) (n := 6) rfl rfl I215 rfl rfl rfl rfl (by decide) (by decide) (by omega) (by omega) (by omega) rfl (fun h216 I216 u216 => ?_)
              have f216 := fr_st (F := F_X12_nextOrder_6) 0 f215 u216 rfl (by decide) (by decide)
              refine te_iinc (p2 := 142) (x := 5) (y := 4) (lv2 := [(6, .int 4), (7, .int g2), (5, .int 2), (4, .int g1), (3, .int 4), (2, .int 1), (0, .ref 164), (1, .int 6)]) rfl rfl (by decide) rfl (by decide) rfl ?_
              refine te_iinc (p2 := 145) (x := 2) (y := 3) (lv2 := [(5, .int 3), (6, .int 4), (7, .int g2), (4, .int g1), (3, .int 4), (2, .int 1), (0, .ref 164), (1, .int 6)]) rfl rfl (by decide) rfl (by decide) rfl ?_
              refine te_goto rfl ?_
              refine te_iload (p2 := 102) rfl rfl rfl ?_
              refine te_iload (p2 := 104) rfl rfl rfl ?_
              refine tb_ge (p2 := 107) rfl rfl (show Int32.toInt 3 = 3 from rfl) (show Int32.toInt 4 = 4 from rfl) (fun c219 => absurd c219 (by omega)) (fun c219 => ?_)
              refine te_aload_n (p2 := 108) rfl rfl rfl ?_
              refine tg_r (p2 := 111) (i := 148) (r := 215) rfl rfl I216 rfl rfl rfl ?_
              refine te_iload (p2 := 113) rfl rfl rfl ?_
              refine tl_e (p2 := 114) (i := 199) (n := 6) (t := 0) (Or.inl rfl) rfl rfl I216 rfl rfl (by decide) (by decide) ((u216.2 _ _ (Or.inr (by decide))).trans ((u215.2 _ _ (Or.inr (by decide))).trans ((u209.2 _ _ (Or.inr (by decide))).trans ((u208.2 _ _ (Or.inr (by decide))).trans hg3)))) ?_
              refine te_istore (p2 := 116) (lv2 := [(7, .int g3), (5, .int 3), (6, .int 4), (4, .int g1), (3, .int 4), (2, .int 1), (0, .ref 164), (1, .int 6)]) rfl rfl (by decide) rfl ?_
              refine te_aload_n (p2 := 117) rfl rfl rfl ?_
              refine tg_r (p2 := 120) (i := 148) (r := 215) rfl rfl I216 rfl rfl rfl ?_
              refine te_iload (p2 := 122) rfl rfl rfl ?_
              refine te_aload_n (p2 := 123) rfl rfl rfl ?_
              refine tg_r (p2 := 126) (i := 148) (r := 215) rfl rfl I216 rfl rfl rfl ?_
              refine te_iload (p2 := 128) rfl rfl rfl ?_
              refine tl_e (p2 := 129) (i := 199) (n := 6) (t := 0) (Or.inl rfl) rfl rfl I216 rfl rfl (by decide) (by decide) ((u216.2 _ _ (Or.inr (by decide))).trans ((u215.2 _ _ (Or.inr (by decide))).trans u209.1)) ?_
              refine ts_i (p2 := 130) (i := 199) (n := 6) rfl rfl I216 rfl rfl rfl rfl (by decide) (by decide) (by omega) (by omega) (by omega) rfl (fun h222 I222 u222 => ?_)
              have f222 := fr_st (F := F_X12_nextOrder_6) 0 f216 u222 rfl (by decide) (by decide)
              refine te_aload_n (p2 := 131) rfl rfl rfl ?_
              refine tg_r (p2 := 134) (i := 148) (r := 215) rfl rfl I222 rfl rfl rfl ?_
              refine te_iload (p2 := 136) rfl rfl rfl ?_
              refine te_iload (p2 := 138) rfl rfl rfl ?_
              refine ts_i (p2 := 139) (i := 199) (n := 6) rfl rfl I222 rfl rfl rfl rfl (by decide) (by decide) (by omega) (by omega) (by omega) rfl (fun h223 I223 u223 => ?_)
              have f223 := fr_st (F := F_X12_nextOrder_6) 0 f222 u223 rfl (by decide) (by decide)
              refine te_iinc (p2 := 142) (x := 4) (y := 3) (lv2 := [(6, .int 3), (7, .int g3), (5, .int 3), (4, .int g1), (3, .int 4), (2, .int 1), (0, .ref 164), (1, .int 6)]) rfl rfl (by decide) rfl (by decide) rfl ?_
              refine te_iinc (p2 := 145) (x := 3) (y := 4) (lv2 := [(5, .int 4), (6, .int 3), (7, .int g3), (4, .int g1), (3, .int 4), (2, .int 1), (0, .ref 164), (1, .int 6)]) rfl rfl (by decide) rfl (by decide) rfl ?_
              refine te_goto rfl ?_
              refine te_iload (p2 := 102) rfl rfl rfl ?_
              refine te_iload (p2 := 104) rfl rfl rfl ?_
              refine tb_ge (p2 := 107) rfl rfl (show Int32.toInt 4 = 4 from rfl) (show Int32.toInt 3 = 3 from rfl) (fun c226 => ?_) (fun c226 => absurd c226 (by omega))
              refine te_iconst (p2 := 149) (x := 1) rfl rfl (by decide) ?_
              exact te_zret rfl rfl (by decide) ⟨I223, f223, _, rfl, Or.inr ⟨rfl, (by rw [pq_xe6, on6_6, (pq_of (k := 0) hg0 : pq_n h 199 0 = g0.toInt.toNat), (pq_of (k := 1) hg1 : pq_n h 199 1 = g1.toInt.toNat), (pq_of (k := 2) hg2 : pq_n h 199 2 = g2.toInt.toNat), (pq_of (k := 3) hg3 : pq_n h 199 3 = g3.toInt.toNat), (pq_of (k := 4) hg4 : pq_n h 199 4 = g4.toInt.toNat), (pq_of (k := 5) hg5 : pq_n h 199 5 = g5.toInt.toNat), (pq_of (k := 0) ((u223.2 _ _ (Or.inr (by decide))).trans ((u222.2 _ _ (Or.inr (by decide))).trans ((u216.2 _ _ (Or.inr (by decide))).trans ((u215.2 _ _ (Or.inr (by decide))).trans ((u209.2 _ _ (Or.inr (by decide))).trans ((u208.2 _ _ (Or.inr (by decide))).trans hg0)))))) : pq_n h223 199 0 = g0.toInt.toNat), (pq_of (k := 1) ((u223.2 _ _ (Or.inr (by decide))).trans ((u222.2 _ _ (Or.inr (by decide))).trans ((u216.2 _ _ (Or.inr (by decide))).trans ((u215.2 _ _ (Or.inr (by decide))).trans ((u209.2 _ _ (Or.inr (by decide))).trans u208.1))))) : pq_n h223 199 1 = g4.toInt.toNat), (pq_of (k := 2) ((u223.2 _ _ (Or.inr (by decide))).trans ((u222.2 _ _ (Or.inr (by decide))).trans ((u216.2 _ _ (Or.inr (by decide))).trans u215.1))) : pq_n h223 199 2 = g5.toInt.toNat), (pq_of (k := 3) ((u223.2 _ _ (Or.inr (by decide))).trans u222.1) : pq_n h223 199 3 = g1.toInt.toNat), (pq_of (k := 4) u223.1 : pq_n h223 199 4 = g3.toInt.toNat), (pq_of (k := 5) ((u223.2 _ _ (Or.inr (by decide))).trans ((u222.2 _ _ (Or.inr (by decide))).trans u216.1)) : pq_n h223 199 5 = g2.toInt.toNat)]; unfold pq_x6; rw [if_pos (by omega), if_pos (by omega), if_pos (by omega), if_neg (by omega), if_pos (by omega), if_neg (by omega)]), g0, g4, g5, g1, g3, g2, ((u223.2 _ _ (Or.inr (by decide))).trans ((u222.2 _ _ (Or.inr (by decide))).trans ((u216.2 _ _ (Or.inr (by decide))).trans ((u215.2 _ _ (Or.inr (by decide))).trans ((u209.2 _ _ (Or.inr (by decide))).trans ((u208.2 _ _ (Or.inr (by decide))).trans hg0)))))), ((u223.2 _ _ (Or.inr (by decide))).trans ((u222.2 _ _ (Or.inr (by decide))).trans ((u216.2 _ _ (Or.inr (by decide))).trans ((u215.2 _ _ (Or.inr (by decide))).trans ((u209.2 _ _ (Or.inr (by decide))).trans u208.1))))), ((u223.2 _ _ (Or.inr (by decide))).trans ((u222.2 _ _ (Or.inr (by decide))).trans ((u216.2 _ _ (Or.inr (by decide))).trans u215.1))), ((u223.2 _ _ (Or.inr (by decide))).trans u222.1), u223.1, ((u223.2 _ _ (Or.inr (by decide))).trans ((u222.2 _ _ (Or.inr (by decide))).trans u216.1)), (by unfold prm; omega), (by unfold lexV; omega)⟩⟩
            · refine te_iinc (p2 := 59) (x := 4) (y := 3) (lv2 := [(3, .int 3), (2, .int 1), (0, .ref 164), (1, .int 6)]) rfl rfl (by decide) rfl (by decide) rfl ?_
              refine te_goto rfl ?_
              refine te_aload_n (p2 := 42) rfl rfl rfl ?_
              refine tg_r (p2 := 45) (i := 148) (r := 215) rfl rfl hI rfl rfl rfl ?_
              refine te_iload_n (p2 := 46) rfl rfl rfl ?_
              refine tl_e (p2 := 47) (i := 199) (n := 6) (t := 0) (Or.inl rfl) rfl rfl hI rfl rfl (by decide) (by decide) hg3 ?_
              refine te_aload_n (p2 := 48) rfl rfl rfl ?_
              refine tg_r (p2 := 51) (i := 148) (r := 215) rfl rfl hI rfl rfl rfl ?_
              refine te_iload_n (p2 := 52) rfl rfl rfl ?_
              refine tl_e (p2 := 53) (i := 199) (n := 6) (t := 0) (Or.inl rfl) rfl rfl hI rfl rfl (by decide) (by decide) hg1 ?_
              refine tb_ge (p2 := 56) rfl rfl rfl rfl (fun c230 => ?_) (fun c230 => ?_)
              · refine te_aload_n (p2 := 63) rfl rfl rfl ?_
                refine tg_r (p2 := 66) (i := 148) (r := 215) rfl rfl hI rfl rfl rfl ?_
                refine te_iload_n (p2 := 67) rfl rfl rfl ?_
                refine tl_e (p2 := 68) (i := 199) (n := 6) (t := 0) (Or.inl rfl) rfl rfl hI rfl rfl (by decide) (by decide) hg1 ?_
                refine te_istore (p2 := 70) (lv2 := [(4, .int g1), (3, .int 3), (2, .int 1), (0, .ref 164), (1, .int 6)]) rfl rfl (by decide) rfl ?_
                refine te_aload_n (p2 := 71) rfl rfl rfl ?_
                refine tg_r (p2 := 74) (i := 148) (r := 215) rfl rfl hI rfl rfl rfl ?_
                refine te_iload_n (p2 := 75) rfl rfl rfl ?_
                refine te_aload_n (p2 := 76) rfl rfl rfl ?_
                refine tg_r (p2 := 79) (i := 148) (r := 215) rfl rfl hI rfl rfl rfl ?_
                refine te_iload_n (p2 := 80) rfl rfl rfl ?_
                refine tl_e (p2 := 81) (i := 199) (n := 6) (t := 0) (Or.inl rfl) rfl rfl hI rfl rfl (by decide) (by decide) hg3 ?_
                refine ts_i (p2 := 82) (i := 199) (n := 6) rfl rfl hI rfl rfl rfl rfl (by decide) (by decide) (by omega) (by omega) (by omega) rfl (fun h233 I233 u233 => ?_)
                have f233 := fr_st (F := F_X12_nextOrder_6) 0 f0 u233 rfl (by decide) (by decide)
                refine te_aload_n (p2 := 83) rfl rfl rfl ?_
                refine tg_r (p2 := 86) (i := 148) (r := 215) rfl rfl I233 rfl rfl rfl ?_
                refine te_iload_n (p2 := 87) rfl rfl rfl ?_
                refine te_iload (p2 := 89) rfl rfl rfl ?_
                refine ts_i (p2 := 90) (i := 199) (n := 6) rfl rfl I233 rfl rfl rfl rfl (by decide) (by decide) (by omega) (by omega) (by omega) rfl (fun h234 I234 u234 => ?_)
                have f234 := fr_st (F := F_X12_nextOrder_6) 0 f233 u234 rfl (by decide) (by decide)
                refine te_iload_n (p2 := 91) rfl rfl rfl ?_
                refine te_iconst (p2 := 92) (x := 1) rfl rfl (by decide) ?_
                refine te_iadd (p2 := 93) (z := 2) rfl rfl (by decide) ?_
                refine te_istore (p2 := 95) (lv2 := [(5, .int 2), (4, .int g1), (3, .int 3), (2, .int 1), (0, .ref 164), (1, .int 6)]) rfl rfl (by decide) rfl ?_
                refine te_iload_n (p2 := 96) rfl rfl rfl ?_
                refine te_iconst (p2 := 97) (x := 1) rfl rfl (by decide) ?_
                refine te_isub (p2 := 98) (z := 5) rfl rfl (by decide) ?_
                refine te_istore (p2 := 100) (lv2 := [(6, .int 5), (5, .int 2), (4, .int g1), (3, .int 3), (2, .int 1), (0, .ref 164), (1, .int 6)]) rfl rfl (by decide) rfl ?_
                refine te_iload (p2 := 102) rfl rfl rfl ?_
                refine te_iload (p2 := 104) rfl rfl rfl ?_
                refine tb_ge (p2 := 107) rfl rfl (show Int32.toInt 2 = 2 from rfl) (show Int32.toInt 5 = 5 from rfl) (fun c237 => absurd c237 (by omega)) (fun c237 => ?_)
                refine te_aload_n (p2 := 108) rfl rfl rfl ?_
                refine tg_r (p2 := 111) (i := 148) (r := 215) rfl rfl I234 rfl rfl rfl ?_
                refine te_iload (p2 := 113) rfl rfl rfl ?_
                refine tl_e (p2 := 114) (i := 199) (n := 6) (t := 0) (Or.inl rfl) rfl rfl I234 rfl rfl (by decide) (by decide) ((u234.2 _ _ (Or.inr (by decide))).trans ((u233.2 _ _ (Or.inr (by decide))).trans hg2)) ?_
                refine te_istore (p2 := 116) (lv2 := [(7, .int g2), (6, .int 5), (5, .int 2), (4, .int g1), (3, .int 3), (2, .int 1), (0, .ref 164), (1, .int 6)]) rfl rfl (by decide) rfl ?_
                refine te_aload_n (p2 := 117) rfl rfl rfl ?_
                refine tg_r (p2 := 120) (i := 148) (r := 215) rfl rfl I234 rfl rfl rfl ?_
                refine te_iload (p2 := 122) rfl rfl rfl ?_
                refine te_aload_n (p2 := 123) rfl rfl rfl ?_
                refine tg_r (p2 := 126) (i := 148) (r := 215) rfl rfl I234 rfl rfl rfl ?_
                refine te_iload (p2 := 128) rfl rfl rfl ?_
                refine tl_e (p2 := 129) (i := 199) (n := 6) (t := 0) (Or.inl rfl) rfl rfl I234 rfl rfl (by decide) (by decide) ((u234.2 _ _ (Or.inr (by decide))).trans ((u233.2 _ _ (Or.inr (by decide))).trans hg5)) ?_
                refine ts_i (p2 := 130) (i := 199) (n := 6) rfl rfl I234 rfl rfl rfl rfl (by decide) (by decide) (by omega) (by omega) (by omega) rfl (fun h240 I240 u240 => ?_)
                have f240 := fr_st (F := F_X12_nextOrder_6) 0 f234 u240 rfl (by decide) (by decide)
                refine te_aload_n (p2 := 131) rfl rfl rfl ?_
                refine tg_r (p2 := 134) (i := 148) (r := 215) rfl rfl I240 rfl rfl rfl ?_
                refine te_iload (p2 := 136) rfl rfl rfl ?_
                refine te_iload (p2 := 138) rfl rfl rfl ?_
                refine ts_i (p2 := 139) (i := 199) (n := 6) rfl rfl I240 rfl rfl rfl rfl (by decide) (by decide) (by omega) (by omega) (by omega) rfl (fun h241 I241 u241 => ?_)
                have f241 := fr_st (F := F_X12_nextOrder_6) 0 f240 u241 rfl (by decide) (by decide)
                refine te_iinc (p2 := 142) (x := 5) (y := 4) (lv2 := [(6, .int 4), (7, .int g2), (5, .int 2), (4, .int g1), (3, .int 3), (2, .int 1), (0, .ref 164), (1, .int 6)]) rfl rfl (by decide) rfl (by decide) rfl ?_
                refine te_iinc (p2 := 145) (x := 2) (y := 3) (lv2 := [(5, .int 3), (6, .int 4), (7, .int g2), (4, .int g1), (3, .int 3), (2, .int 1), (0, .ref 164), (1, .int 6)]) rfl rfl (by decide) rfl (by decide) rfl ?_
                refine te_goto rfl ?_
                refine te_iload (p2 := 102) rfl rfl rfl ?_
                refine te_iload (p2 := 104) rfl rfl rfl ?_
                refine tb_ge (p2 := 107) rfl rfl (show Int32.toInt 3 = 3 from rfl) (show Int32.toInt 4 = 4 from rfl) (fun c244 => absurd c244 (by omega)) (fun c244 => ?_)
                refine te_aload_n (p2 := 108) rfl rfl rfl ?_
                refine tg_r (p2 := 111) (i := 148) (r := 215) rfl rfl I241 rfl rfl rfl ?_
                refine te_iload (p2 := 113) rfl rfl rfl ?_
                refine tl_e (p2 := 114) (i := 199) (n := 6) (t := 0) (Or.inl rfl) rfl rfl I241 rfl rfl (by decide) (by decide) ((u241.2 _ _ (Or.inr (by decide))).trans ((u240.2 _ _ (Or.inr (by decide))).trans u234.1)) ?_
                refine te_istore (p2 := 116) (lv2 := [(7, .int g1), (5, .int 3), (6, .int 4), (4, .int g1), (3, .int 3), (2, .int 1), (0, .ref 164), (1, .int 6)]) rfl rfl (by decide) rfl ?_
                refine te_aload_n (p2 := 117) rfl rfl rfl ?_
                refine tg_r (p2 := 120) (i := 148) (r := 215) rfl rfl I241 rfl rfl rfl ?_
                refine te_iload (p2 := 122) rfl rfl rfl ?_
                refine te_aload_n (p2 := 123) rfl rfl rfl ?_
                refine tg_r (p2 := 126) (i := 148) (r := 215) rfl rfl I241 rfl rfl rfl ?_
                refine te_iload (p2 := 128) rfl rfl rfl ?_
                refine tl_e (p2 := 129) (i := 199) (n := 6) (t := 0) (Or.inl rfl) rfl rfl I241 rfl rfl (by decide) (by decide) ((u241.2 _ _ (Or.inr (by decide))).trans ((u240.2 _ _ (Or.inr (by decide))).trans ((u234.2 _ _ (Or.inr (by decide))).trans ((u233.2 _ _ (Or.inr (by decide))).trans hg4)))) ?_
                refine ts_i (p2 := 130) (i := 199) (n := 6) rfl rfl I241 rfl rfl rfl rfl (by decide) (by decide) (by omega) (by omega) (by omega) rfl (fun h247 I247 u247 => ?_)
                have f247 := fr_st (F := F_X12_nextOrder_6) 0 f241 u247 rfl (by decide) (by decide)
                refine te_aload_n (p2 := 131) rfl rfl rfl ?_
                refine tg_r (p2 := 134) (i := 148) (r := 215) rfl rfl I247 rfl rfl rfl ?_
                refine te_iload (p2 := 136) rfl rfl rfl ?_
                refine te_iload (p2 := 138) rfl rfl rfl ?_
                refine ts_i (p2 := 139) (i := 199) (n := 6) rfl rfl I247 rfl rfl rfl rfl (by decide) (by decide) (by omega) (by omega) (by omega) rfl (fun h248 I248 u248 => ?_)
                have f248 := fr_st (F := F_X12_nextOrder_6) 0 f247 u248 rfl (by decide) (by decide)
                refine te_iinc (p2 := 142) (x := 4) (y := 3) (lv2 := [(6, .int 3), (7, .int g1), (5, .int 3), (4, .int g1), (3, .int 3), (2, .int 1), (0, .ref 164), (1, .int 6)]) rfl rfl (by decide) rfl (by decide) rfl ?_
                refine te_iinc (p2 := 145) (x := 3) (y := 4) (lv2 := [(5, .int 4), (6, .int 3), (7, .int g1), (4, .int g1), (3, .int 3), (2, .int 1), (0, .ref 164), (1, .int 6)]) rfl rfl (by decide) rfl (by decide) rfl ?_
                refine te_goto rfl ?_
                refine te_iload (p2 := 102) rfl rfl rfl ?_
                refine te_iload (p2 := 104) rfl rfl rfl ?_
                refine tb_ge (p2 := 107) rfl rfl (show Int32.toInt 4 = 4 from rfl) (show Int32.toInt 3 = 3 from rfl) (fun c251 => ?_) (fun c251 => absurd c251 (by omega))
                refine te_iconst (p2 := 149) (x := 1) rfl rfl (by decide) ?_
                exact te_zret rfl rfl (by decide) ⟨I248, f248, _, rfl, Or.inr ⟨rfl, (by rw [pq_xe6, on6_6, (pq_of (k := 0) hg0 : pq_n h 199 0 = g0.toInt.toNat), (pq_of (k := 1) hg1 : pq_n h 199 1 = g1.toInt.toNat), (pq_of (k := 2) hg2 : pq_n h 199 2 = g2.toInt.toNat), (pq_of (k := 3) hg3 : pq_n h 199 3 = g3.toInt.toNat), (pq_of (k := 4) hg4 : pq_n h 199 4 = g4.toInt.toNat), (pq_of (k := 5) hg5 : pq_n h 199 5 = g5.toInt.toNat), (pq_of (k := 0) ((u248.2 _ _ (Or.inr (by decide))).trans ((u247.2 _ _ (Or.inr (by decide))).trans ((u241.2 _ _ (Or.inr (by decide))).trans ((u240.2 _ _ (Or.inr (by decide))).trans ((u234.2 _ _ (Or.inr (by decide))).trans ((u233.2 _ _ (Or.inr (by decide))).trans hg0)))))) : pq_n h248 199 0 = g0.toInt.toNat), (pq_of (k := 1) ((u248.2 _ _ (Or.inr (by decide))).trans ((u247.2 _ _ (Or.inr (by decide))).trans ((u241.2 _ _ (Or.inr (by decide))).trans ((u240.2 _ _ (Or.inr (by decide))).trans ((u234.2 _ _ (Or.inr (by decide))).trans u233.1))))) : pq_n h248 199 1 = g3.toInt.toNat), (pq_of (k := 2) ((u248.2 _ _ (Or.inr (by decide))).trans ((u247.2 _ _ (Or.inr (by decide))).trans ((u241.2 _ _ (Or.inr (by decide))).trans u240.1))) : pq_n h248 199 2 = g5.toInt.toNat), (pq_of (k := 3) ((u248.2 _ _ (Or.inr (by decide))).trans u247.1) : pq_n h248 199 3 = g4.toInt.toNat), (pq_of (k := 4) u248.1 : pq_n h248 199 4 = g1.toInt.toNat), (pq_of (k := 5) ((u248.2 _ _ (Or.inr (by decide))).trans ((u247.2 _ _ (Or.inr (by decide))).trans u241.1)) : pq_n h248 199 5 = g2.toInt.toNat)]; unfold pq_x6; rw [if_pos (by omega), if_pos (by omega), if_pos (by omega), if_neg (by omega), if_pos (by omega), if_pos (by omega), if_neg (by omega)]), g0, g3, g5, g4, g1, g2, ((u248.2 _ _ (Or.inr (by decide))).trans ((u247.2 _ _ (Or.inr (by decide))).trans ((u241.2 _ _ (Or.inr (by decide))).trans ((u240.2 _ _ (Or.inr (by decide))).trans ((u234.2 _ _ (Or.inr (by decide))).trans ((u233.2 _ _ (Or.inr (by decide))).trans hg0)))))), ((u248.2 _ _ (Or.inr (by decide))).trans ((u247.2 _ _ (Or.inr (by decide))).trans ((u241.2 _ _ (Or.inr (by decide))).trans ((u240.2 _ _ (Or.inr (by decide))).trans ((u234.2 _ _ (Or.inr (by decide))).trans u233.1))))), ((u248.2 _ _ (Or.inr (by decide))).trans ((u247.2 _ _ (Or.inr (by decide))).trans ((u241.2 _ _ (Or.inr (by decide))).trans u240.1))), ((u248.2 _ _ (Or.inr (by decide))).trans u247.1), u248.1, ((u248.2 _ _ (Or.inr (by decide))).trans ((u247.2 _ _ (Or.inr (by decide))).trans u241.1)), (by unfold prm; omega), (by unfold lexV; omega)⟩⟩
              · refine te_iinc (p2 := 59) (x := 3) (y := 2) (lv2 := [(3, .int 2), (2, .int 1), (0, .ref 164), (1, .int 6)]) rfl rfl (by decide) rfl (by decide) rfl ?_
                refine te_goto rfl ?_
                refine te_aload_n (p2 := 42) rfl rfl rfl ?_
                refine tg_r (p2 := 45) (i := 148) (r := 215) rfl rfl hI rfl rfl rfl ?_
                refine te_iload_n (p2 := 46) rfl rfl rfl ?_
                refine tl_e (p2 := 47) (i := 199) (n := 6) (t := 0) (Or.inl rfl) rfl rfl hI rfl rfl (by decide) (by decide) hg2 ?_
                refine te_aload_n (p2 := 48) rfl rfl rfl ?_
                refine tg_r (p2 := 51) (i := 148) (r := 215) rfl rfl hI rfl rfl rfl ?_
                refine te_iload_n (p2 := 52) rfl rfl rfl ?_
                refine tl_e (p2 := 53) (i := 199) (n := 6) (t := 0) (Or.inl rfl) rfl rfl hI rfl rfl (by decide) (by decide) hg1 ?_
                refine tb_ge (p2 := 56) rfl rfl rfl rfl (fun c255 => ?_) (fun c255 => ?_)
                · refine te_aload_n (p2 := 63) rfl rfl rfl ?_
                  refine tg_r (p2 := 66) (i := 148) (r := 215) rfl rfl hI rfl rfl rfl ?_
                  refine te_iload_n (p2 := 67) rfl rfl rfl ?_
                  refine tl_e (p2 := 68) (i := 199) (n := 6) (t := 0) (Or.inl rfl) rfl rfl hI rfl rfl (by decide) (by decide) hg1 ?_
                  refine te_istore (p2 := 70) (lv2 := [(4, .int g1), (3, .int 2), (2, .int 1), (0, .ref 164), (1, .int 6)]) rfl rfl (by decide) rfl ?_
                  refine te_aload_n (p2 := 71) rfl rfl rfl ?_
                  refine tg_r (p2 := 74) (i := 148) (r := 215) rfl rfl hI rfl rfl rfl ?_
                  refine te_iload_n (p2 := 75) rfl rfl rfl ?_
                  refine te_aload_n (p2 := 76) rfl rfl rfl ?_
                  refine tg_r (p2 := 79) (i := 148) (r := 215) rfl rfl hI rfl rfl rfl ?_
                  refine te_iload_n (p2 := 80) rfl rfl rfl ?_
                  refine tl_e (p2 := 81) (i := 199) (n := 6) (t := 0) (Or.inl rfl) rfl rfl hI rfl rfl (by decide) (by decide) hg2 ?_
                  refine ts_i (p2 := 82) (i := 199) (n := 6) rfl rfl hI rfl rfl rfl rfl (by decide) (by decide) (by omega) (by omega) (by omega) rfl (fun h258 I258 u258 => ?_)
                  have f258 := fr_st (F := F_X12_nextOrder_6) 0 f0 u258 rfl (by decide) (by decide)
                  refine te_aload_n (p2 := 83) rfl rfl rfl ?_
                  refine tg_r (p2 := 86) (i := 148) (r := 215) rfl rfl I258 rfl rfl rfl ?_
                  refine te_iload_n (p2 := 87) rfl rfl rfl ?_
                  refine te_iload (p2 := 89) rfl rfl rfl ?_
                  refine ts_i (p2 := 90) (i := 199) (n := 6) rfl rfl I258 rfl rfl rfl rfl (by decide) (by decide) (by omega) (by omega) (by omega) rfl (fun h259 I259 u259 => ?_)
                  have f259 := fr_st (F := F_X12_nextOrder_6) 0 f258 u259 rfl (by decide) (by decide)
                  refine te_iload_n (p2 := 91) rfl rfl rfl ?_
                  refine te_iconst (p2 := 92) (x := 1) rfl rfl (by decide) ?_
                  refine te_iadd (p2 := 93) (z := 2) rfl rfl (by decide) ?_
                  refine te_istore (p2 := 95) (lv2 := [(5, .int 2), (4, .int g1), (3, .int 2), (2, .int 1), (0, .ref 164), (1, .int 6)]) rfl rfl (by decide) rfl ?_
                  refine te_iload_n (p2 := 96) rfl rfl rfl ?_
                  refine te_iconst (p2 := 97) (x := 1) rfl rfl (by decide) ?_
                  refine te_isub (p2 := 98) (z := 5) rfl rfl (by decide) ?_
                  refine te_istore (p2 := 100) (lv2 := [(6, .int 5), (5, .int 2), (4, .int g1), (3, .int 2), (2, .int 1), (0, .ref 164), (1, .int 6)]) rfl rfl (by decide) rfl ?_
                  refine te_iload (p2 := 102) rfl rfl rfl ?_
                  refine te_iload (p2 := 104) rfl rfl rfl ?_
                  refine tb_ge (p2 := 107) rfl rfl (show Int32.toInt 2 = 2 from rfl) (show Int32.toInt 5 = 5 from rfl) (fun c262 => absurd c262 (by omega)) (fun c262 => ?_)
                  refine te_aload_n (p2 := 108) rfl rfl rfl ?_
                  refine tg_r (p2 := 111) (i := 148) (r := 215) rfl rfl I259 rfl rfl rfl ?_
                  refine te_iload (p2 := 113) rfl rfl rfl ?_
                  refine tl_e (p2 := 114) (i := 199) (n := 6) (t := 0) (Or.inl rfl) rfl rfl I259 rfl rfl (by decide) (by decide) u259.1 ?_
                  refine te_istore (p2 := 116) (lv2 := [(7, .int g1), (6, .int 5), (5, .int 2), (4, .int g1), (3, .int 2), (2, .int 1), (0, .ref 164), (1, .int 6)]) rfl rfl (by decide) rfl ?_
                  refine te_aload_n (p2 := 117) rfl rfl rfl ?_
                  refine tg_r (p2 := 120) (i := 148) (r := 215) rfl rfl I259 rfl rfl rfl ?_
                  refine te_iload (p2 := 122) rfl rfl rfl ?_
                  refine te_aload_n (p2 := 123) rfl rfl rfl ?_
                  refine tg_r (p2 := 126) (i := 148) (r := 215) rfl rfl I259 rfl rfl rfl ?_
                  refine te_iload (p2 := 128) rfl rfl rfl ?_
                  refine tl_e (p2 := 129) (i := 199) (n := 6) (t := 0) (Or.inl rfl) rfl rfl I259 rfl rfl (by decide) (by decide) ((u259.2 _ _ (Or.inr (by decide))).trans ((u258.2 _ _ (Or.inr (by decide))).trans hg5)) ?_
                  refine ts_i (p2 := 130) (i := 199) (n := 6) rfl rfl I259 rfl rfl rfl rfl (by decide) (by decide) (by omega) (by omega) (by omega) rfl (fun h265 I265 u265 => ?_)
                  have f265 := fr_st (F := F_X12_nextOrder_6) 0 f259 u265 rfl (by decide) (by decide)
                  refine te_aload_n (p2 := 131) rfl rfl rfl ?_
                  refine tg_r (p2 := 134) (i := 148) (r := 215) rfl rfl I265 rfl rfl rfl ?_
                  refine te_iload (p2 := 136) rfl rfl rfl ?_
                  refine te_iload (p2 := 138) rfl rfl rfl ?_
                  refine ts_i (p2 := 139) (i := 199) (n := 6) rfl rfl I265 rfl rfl rfl rfl (by decide) (by decide) (by omega) (by omega) (by omega) rfl (fun h266 I266 u266 => ?_)
                  have f266 := fr_st (F := F_X12_nextOrder_6) 0 f265 u266 rfl (by decide) (by decide)
                  refine te_iinc (p2 := 142) (x := 5) (y := 4) (lv2 := [(6, .int 4), (7, .int g1), (5, .int 2), (4, .int g1), (3, .int 2), (2, .int 1), (0, .ref 164), (1, .int 6)]) rfl rfl (by decide) rfl (by decide) rfl ?_
                  refine te_iinc (p2 := 145) (x := 2) (y := 3) (lv2 := [(5, .int 3), (6, .int 4), (7, .int g1), (4, .int g1), (3, .int 2), (2, .int 1), (0, .ref 164), (1, .int 6)]) rfl rfl (by decide) rfl (by decide) rfl ?_
                  refine te_goto rfl ?_
                  refine te_iload (p2 := 102) rfl rfl rfl ?_
                  refine te_iload (p2 := 104) rfl rfl rfl ?_
                  refine tb_ge (p2 := 107) rfl rfl (show Int32.toInt 3 = 3 from rfl) (show Int32.toInt 4 = 4 from rfl) (fun c269 => absurd c269 (by omega)) (fun c269 => ?_)
                  refine te_aload_n (p2 := 108) rfl rfl rfl ?_
                  refine tg_r (p2 := 111) (i := 148) (r := 215) rfl rfl I266 rfl rfl rfl ?_
                  refine te_iload (p2 := 113) rfl rfl rfl ?_
                  refine tl_e (p2 := 114) (i := 199) (n := 6) (t := 0) (Or.inl rfl) rfl rfl I266 rfl rfl (by decide) (by decide) ((u266.2 _ _ (Or.inr (by decide))).trans ((u265.2 _ _ (Or.inr (by decide))).trans ((u259.2 _ _ (Or.inr (by decide))).trans ((u258.2 _ _ (Or.inr (by decide))).trans hg3)))) ?_
                  refine te_istore (p2 := 116) (lv2 := [(7, .int g3), (5, .int 3), (6, .int 4), (4, .int g1), (3, .int 2), (2, .int 1), (0, .ref 164), (1, .int 6)]) rfl rfl (by decide) rfl ?_
                  refine te_aload_n (p2 := 117) rfl rfl rfl ?_
                  refine tg_r (p2 := 120) (i := 148) (r := 215) rfl rfl I266 rfl rfl rfl ?_
                  refine te_iload (p2 := 122) rfl rfl rfl ?_
                  refine te_aload_n (p2 := 123) rfl rfl rfl ?_
                  refine tg_r (p2 := 126) (i := 148) (r := 215) rfl rfl I266 rfl rfl rfl ?_
                  refine te_iload (p2 := 128) rfl rfl rfl ?_
                  refine tl_e (p2 := 129) (i := 199) (n := 6) (t := 0) (Or.inl rfl) rfl rfl I266 rfl rfl (by decide) (by decide) ((u266.2 _ _ (Or.inr (by decide))).trans ((u265.2 _ _ (Or.inr (by decide))).trans ((u259.2 _ _ (Or.inr (by decide))).trans ((u258.2 _ _ (Or.inr (by decide))).trans hg4)))) ?_
                  refine ts_i (p2 := 130) (i := 199) (n := 6) rfl rfl I266 rfl rfl rfl rfl (by decide) (by decide) (by omega) (by omega) (by omega) rfl (fun h272 I272 u272 => ?_)
                  have f272 := fr_st (F := F_X12_nextOrder_6) 0 f266 u272 rfl (by decide) (by decide)
                  refine te_aload_n (p2 := 131) rfl rfl rfl ?_
                  refine tg_r (p2 := 134) (i := 148) (r := 215) rfl rfl I272 rfl rfl rfl ?_
                  refine te_iload (p2 := 136) rfl rfl rfl ?_
                  refine te_iload (p2 := 138) rfl rfl rfl ?_
                  refine ts_i (p2 := 139) (i := 199) (n := 6) rfl rfl I272 rfl rfl rfl rfl (by decide) (by decide) (by omega) (by omega) (by omega) rfl (fun h273 I273 u273 => ?_)
                  have f273 := fr_st (F := F_X12_nextOrder_6) 0 f272 u273 rfl (by decide) (by decide)
                  refine te_iinc (p2 := 142) (x := 4) (y := 3) (lv2 := [(6, .int 3), (7, .int g3), (5, .int 3), (4, .int g1), (3, .int 2), (2, .int 1), (0, .ref 164), (1, .int 6)]) rfl rfl (by decide) rfl (by decide) rfl ?_
                  refine te_iinc (p2 := 145) (x := 3) (y := 4) (lv2 := [(5, .int 4), (6, .int 3), (7, .int g3), (4, .int g1), (3, .int 2), (2, .int 1), (0, .ref 164), (1, .int 6)]) rfl rfl (by decide) rfl (by decide) rfl ?_
                  refine te_goto rfl ?_
                  refine te_iload (p2 := 102) rfl rfl rfl ?_
                  refine te_iload (p2 := 104) rfl rfl rfl ?_
                  refine tb_ge (p2 := 107) rfl rfl (show Int32.toInt 4 = 4 from rfl) (show Int32.toInt 3 = 3 from rfl) (fun c276 => ?_) (fun c276 => absurd c276 (by omega))
                  refine te_iconst (p2 := 149) (x := 1) rfl rfl (by decide) ?_
                  exact te_zret rfl rfl (by decide) ⟨I273, f273, _, rfl, Or.inr ⟨rfl, (by rw [pq_xe6, on6_6, (pq_of (k := 0) hg0 : pq_n h 199 0 = g0.toInt.toNat), (pq_of (k := 1) hg1 : pq_n h 199 1 = g1.toInt.toNat), (pq_of (k := 2) hg2 : pq_n h 199 2 = g2.toInt.toNat), (pq_of (k := 3) hg3 : pq_n h 199 3 = g3.toInt.toNat), (pq_of (k := 4) hg4 : pq_n h 199 4 = g4.toInt.toNat), (pq_of (k := 5) hg5 : pq_n h 199 5 = g5.toInt.toNat), (pq_of (k := 0) ((u273.2 _ _ (Or.inr (by decide))).trans ((u272.2 _ _ (Or.inr (by decide))).trans ((u266.2 _ _ (Or.inr (by decide))).trans ((u265.2 _ _ (Or.inr (by decide))).trans ((u259.2 _ _ (Or.inr (by decide))).trans ((u258.2 _ _ (Or.inr (by decide))).trans hg0)))))) : pq_n h273 199 0 = g0.toInt.toNat), (pq_of (k := 1) ((u273.2 _ _ (Or.inr (by decide))).trans ((u272.2 _ _ (Or.inr (by decide))).trans ((u266.2 _ _ (Or.inr (by decide))).trans ((u265.2 _ _ (Or.inr (by decide))).trans ((u259.2 _ _ (Or.inr (by decide))).trans u258.1))))) : pq_n h273 199 1 = g2.toInt.toNat), (pq_of (k := 2) ((u273.2 _ _ (Or.inr (by decide))).trans ((u272.2 _ _ (Or.inr (by decide))).trans ((u266.2 _ _ (Or.inr (by decide))).trans u265.1))) : pq_n h273 199 2 = g5.toInt.toNat), (pq_of (k := 3) ((u273.2 _ _ (Or.inr (by decide))).trans u272.1) : pq_n h273 199 3 = g4.toInt.toNat), (pq_of (k := 4) u273.1 : pq_n h273 199 4 = g3.toInt.toNat), (pq_of (k := 5) ((u273.2 _ _ (Or.inr (by decide))).trans ((u272.2 _ _ (Or.inr (by decide))).trans u266.1)) : pq_n h273 199 5 = g1.toInt.toNat)]; unfold pq_x6; rw [if_pos (by omega), if_pos (by omega), if_pos (by omega), if_neg (by omega), if_pos (by omega), if_pos (by omega), if_pos (by omega), if_neg (by omega)]), g0, g2, g5, g4, g3, g1, ((u273.2 _ _ (Or.inr (by decide))).trans ((u272.2 _ _ (Or.inr (by decide))).trans ((u266.2 _ _ (Or.inr (by decide))).trans ((u265.2 _ _ (Or.inr (by decide))).trans ((u259.2 _ _ (Or.inr (by decide))).trans ((u258.2 _ _ (Or.inr (by decide))).trans hg0)))))), ((u273.2 _ _ (Or.inr (by decide))).trans ((u272.2 _ _ (Or.inr (by decide))).trans ((u266.2 _ _ (Or.inr (by decide))).trans ((u265.2 _ _ (Or.inr (by decide))).trans ((u259.2 _ _ (Or.inr (by decide))).trans u258.1))))), ((u273.2 _ _ (Or.inr (by decide))).trans ((u272.2 _ _ (Or.inr (by decide))).trans ((u266.2 _ _ (Or.inr (by decide))).trans u265.1))), ((u273.2 _ _ (Or.inr (by decide))).trans u272.1), u273.1, ((u273.2 _ _ (Or.inr (by decide))).trans ((u272.2 _ _ (Or.inr (by decide))).trans u266.1)), (by unfold prm; omega), (by unfold lexV; omega)⟩⟩
                · refine te_iinc (p2 := 59) (x := 2) (y := 1) (lv2 := [(3, .int 1), (2, .int 1), (0, .ref 164), (1, .int 6)]) rfl rfl (by decide) rfl (by decide) rfl ?_
                  refine te_goto rfl ?_
                  refine te_aload_n (p2 := 42) rfl rfl rfl ?_
                  refine tg_r (p2 := 45) (i := 148) (r := 215) rfl rfl hI rfl rfl rfl ?_
                  refine te_iload_n (p2 := 46) rfl rfl rfl ?_
                  refine tl_e (p2 := 47) (i := 199) (n := 6) (t := 0) (Or.inl rfl) rfl rfl hI rfl rfl (by decide) (by decide) hg1 ?_
                  refine te_aload_n (p2 := 48) rfl rfl rfl ?_
                  refine tg_r (p2 := 51) (i := 148) (r := 215) rfl rfl hI rfl rfl rfl ?_
                  refine te_iload_n (p2 := 52) rfl rfl rfl ?_
                  refine tl_e (p2 := 53) (i := 199) (n := 6) (t := 0) (Or.inl rfl) rfl rfl hI rfl rfl (by decide) (by decide) hg1 ?_
                  refine tb_ge (p2 := 56) rfl rfl rfl rfl (fun c280 => ?_) (fun c280 => absurd c280 (by omega))
                  refine te_aload_n (p2 := 63) rfl rfl rfl ?_
                  refine tg_r (p2 := 66) (i := 148) (r := 215) rfl rfl hI rfl rfl rfl ?_
                  refine te_iload_n (p2 := 67) rfl rfl rfl ?_
                  refine tl_e (p2 := 68) (i := 199) (n := 6) (t := 0) (Or.inl rfl) rfl rfl hI rfl rfl (by decide) (by decide) hg1 ?_
                  refine te_istore (p2 := 70) (lv2 := [(4, .int g1), (3, .int 1), (2, .int 1), (0, .ref 164), (1, .int 6)]) rfl rfl (by decide) rfl ?_
                  refine te_aload_n (p2 := 71) rfl rfl rfl ?_
                  refine tg_r (p2 := 74) (i := 148) (r := 215) rfl rfl hI rfl rfl rfl ?_
                  refine te_iload_n (p2 := 75) rfl rfl rfl ?_
                  refine te_aload_n (p2 := 76) rfl rfl rfl ?_
                  refine tg_r (p2 := 79) (i := 148) (r := 215) rfl rfl hI rfl rfl rfl ?_
                  refine te_iload_n (p2 := 80) rfl rfl rfl ?_
                  refine tl_e (p2 := 81) (i := 199) (n := 6) (t := 0) (Or.inl rfl) rfl rfl hI rfl rfl (by decide) (by decide) hg1 ?_
                  refine ts_i (p2 := 82) (i := 199) (n := 6) rfl rfl hI rfl rfl rfl rfl (by decide) (by decide) (by omega) (by omega) (by omega) rfl (fun h283 I283 u283 => ?_)
                  have f283 := fr_st (F := F_X12_nextOrder_6) 0 f0 u283 rfl (by decide) (by decide)
                  refine te_aload_n (p2 := 83) rfl rfl rfl ?_
                  refine tg_r (p2 := 86) (i := 148) (r := 215) rfl rfl I283 rfl rfl rfl ?_
                  refine te_iload_n (p2 := 87) rfl rfl rfl ?_
                  refine te_iload (p2 := 89) rfl rfl rfl ?_
                  refine ts_i (p2 := 90) (i := 199) (n := 6) rfl rfl I283 rfl rfl rfl rfl (by decide) (by decide) (by omega) (by omega) (by omega) rfl (fun h284 I284 u284 => ?_)
                  have f284 := fr_st (F := F_X12_nextOrder_6) 0 f283 u284 rfl (by decide) (by decide)
                  refine te_iload_n (p2 := 91) rfl rfl rfl ?_
                  refine te_iconst (p2 := 92) (x := 1) rfl rfl (by decide) ?_
                  refine te_iadd (p2 := 93) (z := 2) rfl rfl (by decide) ?_
                  refine te_istore (p2 := 95) (lv2 := [(5, .int 2), (4, .int g1), (3, .int 1), (2, .int 1), (0, .ref 164), (1, .int 6)]) rfl rfl (by decide) rfl ?_
                  refine te_iload_n (p2 := 96) rfl rfl rfl ?_
                  refine te_iconst (p2 := 97) (x := 1) rfl rfl (by decide) ?_
                  refine te_isub (p2 := 98) (z := 5) rfl rfl (by decide) ?_
                  refine te_istore (p2 := 100) (lv2 := [(6, .int 5), (5, .int 2), (4, .int g1), (3, .int 1), (2, .int 1), (0, .ref 164), (1, .int 6)]) rfl rfl (by decide) rfl ?_
                  refine te_iload (p2 := 102) rfl rfl rfl ?_
                  refine te_iload (p2 := 104) rfl rfl rfl ?_
                  refine tb_ge (p2 := 107) rfl rfl (show Int32.toInt 2 = 2 from rfl) (show Int32.toInt 5 = 5 from rfl) (fun c287 => absurd c287 (by omega)) (fun c287 => ?_)
                  refine te_aload_n (p2 := 108) rfl rfl rfl ?_
                  refine tg_r (p2 := 111) (i := 148) (r := 215) rfl rfl I284 rfl rfl rfl ?_
                  refine te_iload (p2 := 113) rfl rfl rfl ?_
                  refine tl_e (p2 := 114) (i := 199) (n := 6) (t := 0) (Or.inl rfl) rfl rfl I284 rfl rfl (by decide) (by decide) ((u284.2 _ _ (Or.inr (by decide))).trans ((u283.2 _ _ (Or.inr (by decide))).trans hg2)) ?_
                  refine te_istore (p2 := 116) (lv2 := [(7, .int g2), (6, .int 5), (5, .int 2), (4, .int g1), (3, .int 1), (2, .int 1), (0, .ref 164), (1, .int 6)]) rfl rfl (by decide) rfl ?_
                  refine te_aload_n (p2 := 117) rfl rfl rfl ?_
                  refine tg_r (p2 := 120) (i := 148) (r := 215) rfl rfl I284 rfl rfl rfl ?_
                  refine te_iload (p2 := 122) rfl rfl rfl ?_
                  refine te_aload_n (p2 := 123) rfl rfl rfl ?_
                  refine tg_r (p2 := 126) (i := 148) (r := 215) rfl rfl I284 rfl rfl rfl ?_
                  refine te_iload (p2 := 128) rfl rfl rfl ?_
                  refine tl_e (p2 := 129) (i := 199) (n := 6) (t := 0) (Or.inl rfl) rfl rfl I284 rfl rfl (by decide) (by decide) ((u284.2 _ _ (Or.inr (by decide))).trans ((u283.2 _ _ (Or.inr (by decide))).trans hg5)) ?_
                  refine ts_i (p2 := 130) (i := 199) (n := 6) rfl rfl I284 rfl rfl rfl rfl (by decide) (by decide) (by omega) (by omega) (by omega) rfl (fun h290 I290 u290 => ?_)
                  have f290 := fr_st (F := F_X12_nextOrder_6) 0 f284 u290 rfl (by decide) (by decide)
                  refine te_aload_n (p2 := 131) rfl rfl rfl ?_
                  refine tg_r (p2 := 134) (i := 148) (r := 215) rfl rfl I290 rfl rfl rfl ?_
                  refine te_iload (p2 := 136) rfl rfl rfl ?_
                  refine te_iload (p2 := 138) rfl rfl rfl ?_
                  refine ts_i (p2 := 139) (i := 199) (n := 6) rfl rfl I290 rfl rfl rfl rfl (by decide) (by decide) (by omega) (by omega) (by omega) rfl (fun h291 I291 u291 => ?_)
                  have f291 := fr_st (F := F_X12_nextOrder_6) 0 f290 u291 rfl (by decide) (by decide)
                  refine te_iinc (p2 := 142) (x := 5) (y := 4) (lv2 := [(6, .int 4), (7, .int g2), (5, .int 2), (4, .int g1), (3, .int 1), (2, .int 1), (0, .ref 164), (1, .int 6)]) rfl rfl (by decide) rfl (by decide) rfl ?_
                  refine te_iinc (p2 := 145) (x := 2) (y := 3) (lv2 := [(5, .int 3), (6, .int 4), (7, .int g2), (4, .int g1), (3, .int 1), (2, .int 1), (0, .ref 164), (1, .int 6)]) rfl rfl (by decide) rfl (by decide) rfl ?_
                  refine te_goto rfl ?_
                  refine te_iload (p2 := 102) rfl rfl rfl ?_
                  refine te_iload (p2 := 104) rfl rfl rfl ?_
                  refine tb_ge (p2 := 107) rfl rfl (show Int32.toInt 3 = 3 from rfl) (show Int32.toInt 4 = 4 from rfl) (fun c294 => absurd c294 (by omega)) (fun c294 => ?_)
                  refine te_aload_n (p2 := 108) rfl rfl rfl ?_
                  refine tg_r (p2 := 111) (i := 148) (r := 215) rfl rfl I291 rfl rfl rfl ?_
                  refine te_iload (p2 := 113) rfl rfl rfl ?_
                  refine tl_e (p2 := 114) (i := 199) (n := 6) (t := 0) (Or.inl rfl) rfl rfl I291 rfl rfl (by decide) (by decide) ((u291.2 _ _ (Or.inr (by decide))).trans ((u290.2 _ _ (Or.inr (by decide))).trans ((u284.2 _ _ (Or.inr (by decide))).trans ((u283.2 _ _ (Or.inr (by decide))).trans hg3)))) ?_
                  refine te_istore (p2 := 116) (lv2 := [(7, .int g3), (5, .int 3), (6, .int 4), (4, .int g1), (3, .int 1), (2, .int 1), (0, .ref 164), (1, .int 6)]) rfl rfl (by decide) rfl ?_
                  refine te_aload_n (p2 := 117) rfl rfl rfl ?_
                  refine tg_r (p2 := 120) (i := 148) (r := 215) rfl rfl I291 rfl rfl rfl ?_
                  refine te_iload (p2 := 122) rfl rfl rfl ?_
                  refine te_aload_n (p2 := 123) rfl rfl rfl ?_
                  refine tg_r (p2 := 126) (i := 148) (r := 215) rfl rfl I291 rfl rfl rfl ?_
                  refine te_iload (p2 := 128) rfl rfl rfl ?_
                  refine tl_e (p2 := 129) (i := 199) (n := 6) (t := 0) (Or.inl rfl) rfl rfl I291 rfl rfl (by decide) (by decide) ((u291.2 _ _ (Or.inr (by decide))).trans ((u290.2 _ _ (Or.inr (by decide))).trans ((u284.2 _ _ (Or.inr (by decide))).trans ((u283.2 _ _ (Or.inr (by decide))).trans hg4)))) ?_
                  refine ts_i (p2 := 130) (i := 199) (n := 6) rfl rfl I291 rfl rfl rfl rfl (by decide) (by decide) (by omega) (by omega) (by omega) rfl (fun h297 I297 u297 => ?_)
                  have f297 := fr_st (F := F_X12_nextOrder_6) 0 f291 u297 rfl (by decide) (by decide)
                  refine te_aload_n (p2 := 131) rfl rfl rfl ?_
                  refine tg_r (p2 := 134) (i := 148) (r := 215) rfl rfl I297 rfl rfl rfl ?_
                  refine te_iload (p2 := 136) rfl rfl rfl ?_
                  refine te_iload (p2 := 138) rfl rfl rfl ?_
                  refine ts_i (p2 := 139) (i := 199) (n := 6) rfl rfl I297 rfl rfl rfl rfl (by decide) (by decide) (by omega) (by omega) (by omega) rfl (fun h298 I298 u298 => ?_)
                  have f298 := fr_st (F := F_X12_nextOrder_6) 0 f297 u298 rfl (by decide) (by decide)
                  refine te_iinc (p2 := 142) (x := 4) (y := 3) (lv2 := [(6, .int 3), (7, .int g3), (5, .int 3), (4, .int g1), (3, .int 1), (2, .int 1), (0, .ref 164), (1, .int 6)]) rfl rfl (by decide) rfl (by decide) rfl ?_
                  refine te_iinc (p2 := 145) (x := 3) (y := 4) (lv2 := [(5, .int 4), (6, .int 3), (7, .int g3), (4, .int g1), (3, .int 1), (2, .int 1), (0, .ref 164), (1, .int 6)]) rfl rfl (by decide) rfl (by decide) rfl ?_
                  refine te_goto rfl ?_
                  refine te_iload (p2 := 102) rfl rfl rfl ?_
                  refine te_iload (p2 := 104) rfl rfl rfl ?_
                  refine tb_ge (p2 := 107) rfl rfl (show Int32.toInt 4 = 4 from rfl) (show Int32.toInt 3 = 3 from rfl) (fun c301 => ?_) (fun c301 => absurd c301 (by omega))
                  refine te_iconst (p2 := 149) (x := 1) rfl rfl (by decide) ?_
                  exact te_zret rfl rfl (by decide) ⟨I298, f298, _, rfl, Or.inr ⟨rfl, (by rw [pq_xe6, on6_6, (pq_of (k := 0) hg0 : pq_n h 199 0 = g0.toInt.toNat), (pq_of (k := 1) hg1 : pq_n h 199 1 = g1.toInt.toNat), (pq_of (k := 2) hg2 : pq_n h 199 2 = g2.toInt.toNat), (pq_of (k := 3) hg3 : pq_n h 199 3 = g3.toInt.toNat), (pq_of (k := 4) hg4 : pq_n h 199 4 = g4.toInt.toNat), (pq_of (k := 5) hg5 : pq_n h 199 5 = g5.toInt.toNat), (pq_of (k := 0) ((u298.2 _ _ (Or.inr (by decide))).trans ((u297.2 _ _ (Or.inr (by decide))).trans ((u291.2 _ _ (Or.inr (by decide))).trans ((u290.2 _ _ (Or.inr (by decide))).trans ((u284.2 _ _ (Or.inr (by decide))).trans ((u283.2 _ _ (Or.inr (by decide))).trans hg0)))))) : pq_n h298 199 0 = g0.toInt.toNat), (pq_of (k := 1) ((u298.2 _ _ (Or.inr (by decide))).trans ((u297.2 _ _ (Or.inr (by decide))).trans ((u291.2 _ _ (Or.inr (by decide))).trans ((u290.2 _ _ (Or.inr (by decide))).trans u284.1)))) : pq_n h298 199 1 = g1.toInt.toNat), (pq_of (k := 2) ((u298.2 _ _ (Or.inr (by decide))).trans ((u297.2 _ _ (Or.inr (by decide))).trans ((u291.2 _ _ (Or.inr (by decide))).trans u290.1))) : pq_n h298 199 2 = g5.toInt.toNat), (pq_of (k := 3) ((u298.2 _ _ (Or.inr (by decide))).trans u297.1) : pq_n h298 199 3 = g4.toInt.toNat), (pq_of (k := 4) u298.1 : pq_n h298 199 4 = g3.toInt.toNat), (pq_of (k := 5) ((u298.2 _ _ (Or.inr (by decide))).trans ((u297.2 _ _ (Or.inr (by decide))).trans u291.1)) : pq_n h298 199 5 = g2.toInt.toNat)]; unfold pq_x6; rw [if_pos (by omega), if_pos (by omega), if_pos (by omega), if_neg (by omega), if_pos (by omega), if_pos (by omega), if_pos (by omega), if_pos (by omega)]), g0, g1, g5, g4, g3, g2, ((u298.2 _ _ (Or.inr (by decide))).trans ((u297.2 _ _ (Or.inr (by decide))).trans ((u291.2 _ _ (Or.inr (by decide))).trans ((u290.2 _ _ (Or.inr (by decide))).trans ((u284.2 _ _ (Or.inr (by decide))).trans ((u283.2 _ _ (Or.inr (by decide))).trans hg0)))))), ((u298.2 _ _ (Or.inr (by decide))).trans ((u297.2 _ _ (Or.inr (by decide))).trans ((u291.2 _ _ (Or.inr (by decide))).trans ((u290.2 _ _ (Or.inr (by decide))).trans u284.1)))), ((u298.2 _ _ (Or.inr (by decide))).trans ((u297.2 _ _ (Or.inr (by decide))).trans ((u291.2 _ _ (Or.inr (by decide))).trans u290.1))), ((u298.2 _ _ (Or.inr (by decide))).trans u297.1), u298.1, ((u298.2 _ _ (Or.inr (by decide))).trans ((u297.2 _ _ (Or.inr (by decide))).trans u291.1)), (by unfold prm; omega), (by unfold lexV; omega)⟩⟩
        · refine te_iinc (p2 := 28) (x := 1) (y := 0) (lv2 := [(2, .int 0), (0, .ref 164), (1, .int 6)]) rfl rfl (by decide) rfl (by decide) rfl ?_
          refine te_goto rfl ?_
          refine te_iload_n (p2 := 5) rfl rfl rfl ?_
          refine tz_lt (p2 := 8) rfl rfl (show Int32.toInt 0 = 0 from rfl) (fun c303 => absurd c303 (by omega)) (fun c303 => ?_)
          refine te_aload_n (p2 := 9) rfl rfl rfl ?_
          refine tg_r (p2 := 12) (i := 148) (r := 215) rfl rfl hI rfl rfl rfl ?_
          refine te_iload_n (p2 := 13) rfl rfl rfl ?_
          refine tl_e (p2 := 14) (i := 199) (n := 6) (t := 0) (Or.inl rfl) rfl rfl hI rfl rfl (by decide) (by decide) hg0 ?_
          refine te_aload_n (p2 := 15) rfl rfl rfl ?_
          refine tg_r (p2 := 18) (i := 148) (r := 215) rfl rfl hI rfl rfl rfl ?_
          refine te_iload_n (p2 := 19) rfl rfl rfl ?_
          refine te_iconst (p2 := 20) (x := 1) rfl rfl (by decide) ?_
          refine te_iadd (p2 := 21) (z := 1) rfl rfl (by decide) ?_
          refine tl_e (p2 := 22) (i := 199) (n := 6) (t := 0) (Or.inl rfl) rfl rfl hI rfl rfl (by decide) (by decide) hg1 ?_
          refine tb_le (p2 := 25) rfl rfl rfl rfl (fun c307 => ?_) (fun c307 => ?_)
          · refine te_iload_n (p2 := 32) rfl rfl rfl ?_
            refine tz_ge (p2 := 35) rfl rfl (show Int32.toInt 0 = 0 from rfl) (fun c308 => ?_) (fun c308 => absurd c308 (by omega))
            refine te_iload_n (p2 := 38) rfl rfl rfl ?_
            refine te_iconst (p2 := 39) (x := 1) rfl rfl (by decide) ?_
            refine te_isub (p2 := 40) (z := 5) rfl rfl (by decide) ?_
            refine te_istore_n (p2 := 41) (lv2 := [(3, .int 5), (2, .int 0), (0, .ref 164), (1, .int 6)]) rfl rfl (by decide) rfl ?_
            refine te_aload_n (p2 := 42) rfl rfl rfl ?_
            refine tg_r (p2 := 45) (i := 148) (r := 215) rfl rfl hI rfl rfl rfl ?_
            refine te_iload_n (p2 := 46) rfl rfl rfl ?_
            refine tl_e (p2 := 47) (i := 199) (n := 6) (t := 0) (Or.inl rfl) rfl rfl hI rfl rfl (by decide) (by decide) hg5 ?_
            refine te_aload_n (p2 := 48) rfl rfl rfl ?_
            refine tg_r (p2 := 51) (i := 148) (r := 215) rfl rfl hI rfl rfl rfl ?_
            refine te_iload_n (p2 := 52) rfl rfl rfl ?_
            refine tl_e (p2 := 53) (i := 199) (n := 6) (t := 0) (Or.inl rfl) rfl rfl hI rfl rfl (by decide) (by decide) hg0 ?_
            refine tb_ge (p2 := 56) rfl rfl rfl rfl (fun c312 => ?_) (fun c312 => ?_)
            · refine te_aload_n (p2 := 63) rfl rfl rfl ?_
              refine tg_r (p2 := 66) (i := 148) (r := 215) rfl rfl hI rfl rfl rfl ?_
              refine te_iload_n (p2 := 67) rfl rfl rfl ?_
              refine tl_e (p2 := 68) (i := 199) (n := 6) (t := 0) (Or.inl rfl) rfl rfl hI rfl rfl (by decide) (by decide) hg0 ?_
              refine te_istore (p2 := 70) (lv2 := [(4, .int g0), (3, .int 5), (2, .int 0), (0, .ref 164), (1, .int 6)]) rfl rfl (by decide) rfl ?_
              refine te_aload_n (p2 := 71) rfl rfl rfl ?_
              refine tg_r (p2 := 74) (i := 148) (r := 215) rfl rfl hI rfl rfl rfl ?_
              refine te_iload_n (p2 := 75) rfl rfl rfl ?_
              refine te_aload_n (p2 := 76) rfl rfl rfl ?_
              refine tg_r (p2 := 79) (i := 148) (r := 215) rfl rfl hI rfl rfl rfl ?_
              refine te_iload_n (p2 := 80) rfl rfl rfl ?_
              refine tl_e (p2 := 81) (i := 199) (n := 6) (t := 0) (Or.inl rfl) rfl rfl hI rfl rfl (by decide) (by decide) hg5 ?_
              refine ts_i (p2 := 82) (i := 199) (n := 6) rfl rfl hI rfl rfl rfl rfl (by decide) (by decide) (by omega) (by omega) (by omega) rfl (fun h315 I315 u315 => ?_)
              have f315 := fr_st (F := F_X12_nextOrder_6) 0 f0 u315 rfl (by decide) (by decide)
              refine te_aload_n (p2 := 83) rfl rfl rfl ?_
              refine tg_r (p2 := 86) (i := 148) (r := 215) rfl rfl I315 rfl rfl rfl ?_
              refine te_iload_n (p2 := 87) rfl rfl rfl ?_
              refine te_iload (p2 := 89) rfl rfl rfl ?_
              refine ts_i (p2 := 90) (i := 199) (n := 6) rfl rfl I315 rfl rfl rfl rfl (by decide) (by decide) (by omega) (by omega) (by omega) rfl (fun h316 I316 u316 => ?_)
              have f316 := fr_st (F := F_X12_nextOrder_6) 0 f315 u316 rfl (by decide) (by decide)
              refine te_iload_n (p2 := 91) rfl rfl rfl ?_
              refine te_iconst (p2 := 92) (x := 1) rfl rfl (by decide) ?_
              refine te_iadd (p2 := 93) (z := 1) rfl rfl (by decide) ?_
              refine te_istore (p2 := 95) (lv2 := [(5, .int 1), (4, .int g0), (3, .int 5), (2, .int 0), (0, .ref 164), (1, .int 6)]) rfl rfl (by decide) rfl ?_
              refine te_iload_n (p2 := 96) rfl rfl rfl ?_
              refine te_iconst (p2 := 97) (x := 1) rfl rfl (by decide) ?_
              refine te_isub (p2 := 98) (z := 5) rfl rfl (by decide) ?_
              refine te_istore (p2 := 100) (lv2 := [(6, .int 5), (5, .int 1), (4, .int g0), (3, .int 5), (2, .int 0), (0, .ref 164), (1, .int 6)]) rfl rfl (by decide) rfl ?_
              refine te_iload (p2 := 102) rfl rfl rfl ?_
              refine te_iload (p2 := 104) rfl rfl rfl ?_
              refine tb_ge (p2 := 107) rfl rfl (show Int32.toInt 1 = 1 from rfl) (show Int32.toInt 5 = 5 from rfl) (fun c319 => absurd c319 (by omega)) (fun c319 => ?_)
              refine te_aload_n (p2 := 108) rfl rfl rfl ?_
              refine tg_r (p2 := 111) (i := 148) (r := 215) rfl rfl I316 rfl rfl rfl ?_
              refine te_iload (p2 := 113) rfl rfl rfl ?_
              refine tl_e (p2 := 114) (i := 199) (n := 6) (t := 0) (Or.inl rfl) rfl rfl I316 rfl rfl (by decide) (by decide) ((u316.2 _ _ (Or.inr (by decide))).trans ((u315.2 _ _ (Or.inr (by decide))).trans hg1)) ?_
              refine te_istore (p2 := 116) (lv2 := [(7, .int g1), (6, .int 5), (5, .int 1), (4, .int g0), (3, .int 5), (2, .int 0), (0, .ref 164), (1, .int 6)]) rfl rfl (by decide) rfl ?_
              refine te_aload_n (p2 := 117) rfl rfl rfl ?_
              refine tg_r (p2 := 120) (i := 148) (r := 215) rfl rfl I316 rfl rfl rfl ?_
              refine te_iload (p2 := 122) rfl rfl rfl ?_
              refine te_aload_n (p2 := 123) rfl rfl rfl ?_
              refine tg_r (p2 := 126) (i := 148) (r := 215) rfl rfl I316 rfl rfl rfl ?_
              refine te_iload (p2 := 128) rfl rfl rfl ?_
              refine tl_e (p2 := 129) (i := 199) (n := 6) (t := 0) (Or.inl rfl) rfl rfl I316 rfl rfl (by decide) (by decide) u316.1 ?_
              refine ts_i (p2 := 130) (i := 199) (n := 6) rfl rfl I316 rfl rfl rfl rfl (by decide) (by decide) (by omega) (by omega) (by omega) rfl (fun h322 I322 u322 => ?_)
              have f322 := fr_st (F := F_X12_nextOrder_6) 0 f316 u322 rfl (by decide) (by decide)
              refine te_aload_n (p2 := 131) rfl rfl rfl ?_
              refine tg_r (p2 := 134) (i := 148) (r := 215) rfl rfl I322 rfl rfl rfl ?_
              refine te_iload (p2 := 136) rfl rfl rfl ?_
              refine te_iload (p2 := 138) rfl rfl rfl ?_
              refine ts_i (p2 := 139) (i := 199) (n := 6) rfl rfl I322 rfl rfl rfl rfl (by decide) (by decide) (by omega) (by omega) (by omega) rfl (fun h323 I323 u323 => ?_)
              have f323 := fr_st (F := F_X12_nextOrder_6) 0 f322 u323 rfl (by decide) (by decide)
              refine te_iinc (p2 := 142) (x := 5) (y := 4) (lv2 := [(6, .int 4), (7, .int g1), (5, .int 1), (4, .int g0), (3, .int 5), (2, .int 0), (0, .ref 164), (1, .int 6)]) rfl rfl (by decide) rfl (by decide) rfl ?_
              refine te_iinc (p2 := 145) (x := 1) (y := 2) (lv2 := [(5, .int 2), (6, .int 4), (7, .int g1), (4, .int g0), (3, .int 5), (2, .int 0), (0, .ref 164), (1, .int 6)]) rfl rfl (by decide) rfl (by decide) rfl ?_
              refine te_goto rfl ?_
              refine te_iload (p2 := 102) rfl rfl rfl ?_
              refine te_iload (p2 := 104) rfl rfl rfl ?_
              refine tb_ge (p2 := 107) rfl rfl (show Int32.toInt 2 = 2 from rfl) (show Int32.toInt 4 = 4 from rfl) (fun c326 => absurd c326 (by omega)) (fun c326 => ?_)
              refine te_aload_n (p2 := 108) rfl rfl rfl ?_
              refine tg_r (p2 := 111) (i := 148) (r := 215) rfl rfl I323 rfl rfl rfl ?_
              refine te_iload (p2 := 113) rfl rfl rfl ?_
              refine tl_e (p2 := 114) (i := 199) (n := 6) (t := 0) (Or.inl rfl) rfl rfl I323 rfl rfl (by decide) (by decide) ((u323.2 _ _ (Or.inr (by decide))).trans ((u322.2 _ _ (Or.inr (by decide))).trans ((u316.2 _ _ (Or.inr (by decide))).trans ((u315.2 _ _ (Or.inr (by decide))).trans hg2)))) ?_
              refine te_istore (p2 := 116) (lv2 := [(7, .int g2), (5, .int 2), (6, .int 4), (4, .int g0), (3, .int 5), (2, .int 0), (0, .ref 164), (1, .int 6)]) rfl rfl (by decide) rfl ?_
              refine te_aload_n (p2 := 117) rfl rfl rfl ?_
              refine tg_r (p2 := 120) (i := 148) (r := 215) rfl rfl I323 rfl rfl rfl ?_
              refine te_iload (p2 := 122) rfl rfl rfl ?_
              refine te_aload_n (p2 := 123) rfl rfl rfl ?_
              refine tg_r (p2 := 126) (i := 148) (r := 215) rfl rfl I323 rfl rfl rfl ?_
              refine te_iload (p2 := 128) rfl rfl rfl ?_
              refine tl_e (p2 := 129) (i := 199) (n := 6) (t := 0) (Or.inl rfl) rfl rfl I323 rfl rfl (by decide) (by decide) ((u323.2 _ _ (Or.inr (by decide))).trans ((u322.2 _ _ (Or.inr (by decide))).trans ((u316.2 _ _ (Or.inr (by decide))).trans ((u315.2 _ _ (Or.inr (by decide))).trans hg4)))) ?_
              refine ts_i (p2 := 130) (i := 199) (n := 6) rfl rfl I323 rfl rfl rfl rfl (by decide) (by decide) (by omega) (by omega) (by omega) rfl (fun h329 I329 u329 => ?_)
              have f329 := fr_st (F := F_X12_nextOrder_6) 0 f323 u329 rfl (by decide) (by decide)
              refine te_aload_n (p2 := 131) rfl rfl rfl ?_
              refine tg_r (p2 := 134) (i := 148) (r := 215) rfl rfl I329 rfl rfl rfl ?_
              refine te_iload (p2 := 136) rfl rfl rfl ?_
              refine te_iload (p2 := 138) rfl rfl rfl ?_
              refine ts_i (p2 := 139) (i := 199) (n := 6) rfl rfl I329 rfl rfl rfl rfl (by decide) (by decide) (by omega) (by omega) (by omega) rfl (fun h330 I330 u330 => ?_)
              have f330 := fr_st (F := F_X12_nextOrder_6) 0 f329 u330 rfl (by decide) (by decide)
              refine te_iinc (p2 := 142) (x := 4) (y := 3) (lv2 := [(6, .int 3), (7, .int g2), (5, .int 2), (4, .int g0), (3, .int 5), (2, .int 0), (0, .ref 164), (1, .int 6)]) rfl rfl (by decide) rfl (by decide) rfl ?_
              refine te_iinc (p2 := 145) (x := 2) (y := 3) (lv2 := [(5, .int 3), (6, .int 3), (7, .int g2), (4, .int g0), (3, .int 5), (2, .int 0), (0, .ref 164), (1, .int 6)]) rfl rfl (by decide) rfl (by decide) rfl ?_
              refine te_goto rfl ?_
              refine te_iload (p2 := 102) rfl rfl rfl ?_
              refine te_iload (p2 := 104) rfl rfl rfl ?_
              refine tb_ge (p2 := 107) rfl rfl (show Int32.toInt 3 = 3 from rfl) (show Int32.toInt 3 = 3 from rfl) (fun c333 => ?_) (fun c333 => absurd c333 (by omega))
              refine te_iconst (p2 := 149) (x := 1) rfl rfl (by decide) ?_
              exact te_zret rfl rfl (by decide) ⟨I330, f330, _, rfl, Or.inr ⟨rfl, (by rw [pq_xe6, on6_6, (pq_of (k := 0) hg0 : pq_n h 199 0 = g0.toInt.toNat), (pq_of (k := 1) hg1 : pq_n h 199 1 = g1.toInt.toNat), (pq_of (k := 2) hg2 : pq_n h 199 2 = g2.toInt.toNat), (pq_of (k := 3) hg3 : pq_n h 199 3 = g3.toInt.toNat), (pq_of (k := 4) hg4 : pq_n h 199 4 = g4.toInt.toNat), (pq_of (k := 5) hg5 : pq_n h 199 5 = g5.toInt.toNat), (pq_of (k := 0) ((u330.2 _ _ (Or.inr (by decide))).trans ((u329.2 _ _ (Or.inr (by decide))).trans ((u323.2 _ _ (Or.inr (by decide))).trans ((u322.2 _ _ (Or.inr (by decide))).trans ((u316.2 _ _ (Or.inr (by decide))).trans u315.1))))) : pq_n h330 199 0 = g5.toInt.toNat), (pq_of (k := 1) ((u330.2 _ _ (Or.inr (by decide))).trans ((u329.2 _ _ (Or.inr (by decide))).trans ((u323.2 _ _ (Or.inr (by decide))).trans u322.1))) : pq_n h330 199 1 = g0.toInt.toNat), (pq_of (k := 2) ((u330.2 _ _ (Or.inr (by decide))).trans u329.1) : pq_n h330 199 2 = g4.toInt.toNat), (pq_of (k := 3) ((u330.2 _ _ (Or.inr (by decide))).trans ((u329.2 _ _ (Or.inr (by decide))).trans ((u323.2 _ _ (Or.inr (by decide))).trans ((u322.2 _ _ (Or.inr (by decide))).trans ((u316.2 _ _ (Or.inr (by decide))).trans ((u315.2 _ _ (Or.inr (by decide))).trans hg3)))))) : pq_n h330 199 3 = g3.toInt.toNat), (pq_of (k := 4) u330.1 : pq_n h330 199 4 = g2.toInt.toNat), (pq_of (k := 5) ((u330.2 _ _ (Or.inr (by decide))).trans ((u329.2 _ _ (Or.inr (by decide))).trans u323.1)) : pq_n h330 199 5 = g1.toInt.toNat)]; unfold pq_x6; rw [if_pos (by omega), if_pos (by omega), if_pos (by omega), if_pos (by omega), if_neg (by omega), if_neg (by omega)]), g5, g0, g4, g3, g2, g1, ((u330.2 _ _ (Or.inr (by decide))).trans ((u329.2 _ _ (Or.inr (by decide))).trans ((u323.2 _ _ (Or.inr (by decide))).trans ((u322.2 _ _ (Or.inr (by decide))).trans ((u316.2 _ _ (Or.inr (by decide))).trans u315.1))))), ((u330.2 _ _ (Or.inr (by decide))).trans ((u329.2 _ _ (Or.inr (by decide))).trans ((u323.2 _ _ (Or.inr (by decide))).trans u322.1))), ((u330.2 _ _ (Or.inr (by decide))).trans u329.1), ((u330.2 _ _ (Or.inr (by decide))).trans ((u329.2 _ _ (Or.inr (by decide))).trans ((u323.2 _ _ (Or.inr (by decide))).trans ((u322.2 _ _ (Or.inr (by decide))).trans ((u316.2 _ _ (Or.inr (by decide))).trans ((u315.2 _ _ (Or.inr (by decide))).trans hg3)))))), u330.1, ((u330.2 _ _ (Or.inr (by decide))).trans ((u329.2 _ _ (Or.inr (by decide))).trans u323.1)), (by unfold prm; omega), (by unfold lexV; omega)⟩⟩
            · refine te_iinc (p2 := 59) (x := 5) (y := 4) (lv2 := [(3, .int 4), (2, .int 0), (0, .ref 164), (1, .int 6)]) rfl rfl (by decide) rfl (by decide) rfl ?_
              refine te_goto rfl ?_
              refine te_aload_n (p2 := 42) rfl rfl rfl ?_
              refine tg_r (p2 := 45) (i := 148) (r := 215) rfl rfl hI rfl rfl rfl ?_
              refine te_iload_n (p2 := 46) rfl rfl rfl ?_
              refine tl_e (p2 := 47) (i := 199) (n := 6) (t := 0) (Or.inl rfl) rfl rfl hI rfl rfl (by decide) (by decide) hg4 ?_
              refine te_aload_n (p2 := 48) rfl rfl rfl ?_
              refine tg_r (p2 := 51) (i := 148) (r := 215) rfl rfl hI rfl rfl rfl ?_
              refine te_iload_n (p2 := 52) rfl rfl rfl ?_
              refine tl_e (p2 := 53) (i := 199) (n := 6) (t := 0) (Or.inl rfl) rfl rfl hI rfl rfl (by decide) (by decide) hg0 ?_
              refine tb_ge (p2 := 56) rfl rfl rfl rfl (fun c337 => ?_) (fun c337 => ?_)
              · refine te_aload_n (p2 := 63) rfl rfl rfl ?_
                refine tg_r (p2 := 66) (i := 148) (r := 215) rfl rfl hI rfl rfl rfl ?_
                refine te_iload_n (p2 := 67) rfl rfl rfl ?_
                refine tl_e (p2 := 68) (i := 199) (n := 6) (t := 0) (Or.inl rfl) rfl rfl hI rfl rfl (by decide) (by decide) hg0 ?_
                refine te_istore (p2 := 70) (lv2 := [(4, .int g0), (3, .int 4), (2, .int 0), (0, .ref 164), (1, .int 6)]) rfl rfl (by decide) rfl ?_
                refine te_aload_n (p2 := 71) rfl rfl rfl ?_
                refine tg_r (p2 := 74) (i := 148) (r := 215) rfl rfl hI rfl rfl rfl ?_
                refine te_iload_n (p2 := 75) rfl rfl rfl ?_
                refine te_aload_n (p2 := 76) rfl rfl rfl ?_
                refine tg_r (p2 := 79) (i := 148) (r := 215) rfl rfl hI rfl rfl rfl ?_
                refine te_iload_n (p2 := 80) rfl rfl rfl ?_
                refine tl_e (p2 := 81) (i := 199) (n := 6) (t := 0) (Or.inl rfl) rfl rfl hI rfl rfl (by decide) (by decide) hg4 ?_
                refine ts_i (p2 := 82) (i := 199) (n := 6) rfl rfl hI rfl rfl rfl rfl (by decide) (by decide) (by omega) (by omega) (by omega) rfl (fun h340 I340 u340 => ?_)
                have f340 := fr_st (F := F_X12_nextOrder_6) 0 f0 u340 rfl (by decide) (by decide)
                refine te_aload_n (p2 := 83) rfl rfl rfl ?_
                refine tg_r (p2 := 86) (i := 148) (r := 215) rfl rfl I340 rfl rfl rfl ?_
                refine te_iload_n (p2 := 87) rfl rfl rfl ?_
                refine te_iload (p2 := 89) rfl rfl rfl ?_
                refine ts_i (p2 := 90) (i := 199) (n := 6) rfl rfl I340 rfl rfl rfl rfl (by decide) (by decide) (by omega) (by omega) (by omega) rfl (fun h341 I341 u341 => ?_)
                have f341 := fr_st (F := F_X12_nextOrder_6) 0 f340 u341 rfl (by decide) (by decide)
                refine te_iload_n (p2 := 91) rfl rfl rfl ?_
                refine te_iconst (p2 := 92) (x := 1) rfl rfl (by decide) ?_
                refine te_iadd (p2 := 93) (z := 1) rfl rfl (by decide) ?_
                refine te_istore (p2 := 95) (lv2 := [(5, .int 1), (4, .int g0), (3, .int 4), (2, .int 0), (0, .ref 164), (1, .int 6)]) rfl rfl (by decide) rfl ?_
                refine te_iload_n (p2 := 96) rfl rfl rfl ?_
                refine te_iconst (p2 := 97) (x := 1) rfl rfl (by decide) ?_
                refine te_isub (p2 := 98) (z := 5) rfl rfl (by decide) ?_
                refine te_istore (p2 := 100) (lv2 := [(6, .int 5), (5, .int 1), (4, .int g0), (3, .int 4), (2, .int 0), (0, .ref 164), (1, .int 6)]) rfl rfl (by decide) rfl ?_
                refine te_iload (p2 := 102) rfl rfl rfl ?_
                refine te_iload (p2 := 104) rfl rfl rfl ?_
                refine tb_ge (p2 := 107) rfl rfl (show Int32.toInt 1 = 1 from rfl) (show Int32.toInt 5 = 5 from rfl) (fun c344 => absurd c344 (by omega)) (fun c344 => ?_)
                refine te_aload_n (p2 := 108) rfl rfl rfl ?_
                refine tg_r (p2 := 111) (i := 148) (r := 215) rfl rfl I341 rfl rfl rfl ?_
                refine te_iload (p2 := 113) rfl rfl rfl ?_
                refine tl_e (p2 := 114) (i := 199) (n := 6) (t := 0) (Or.inl rfl) rfl rfl I341 rfl rfl (by decide) (by decide) ((u341.2 _ _ (Or.inr (by decide))).trans ((u340.2 _ _ (Or.inr (by decide))).trans hg1)) ?_
                refine te_istore (p2 := 116) (lv2 := [(7, .int g1), (6, .int 5), (5, .int 1), (4, .int g0), (3, .int 4), (2, .int 0), (0, .ref 164), (1, .int 6)]) rfl rfl (by decide) rfl ?_
                refine te_aload_n (p2 := 117) rfl rfl rfl ?_
                refine tg_r (p2 := 120) (i := 148) (r := 215) rfl rfl I341 rfl rfl rfl ?_
                refine te_iload (p2 := 122) rfl rfl rfl ?_
                refine te_aload_n (p2 := 123) rfl rfl rfl ?_
                refine tg_r (p2 := 126) (i := 148) (r := 215) rfl rfl I341 rfl rfl rfl ?_
                refine te_iload (p2 := 128) rfl rfl rfl ?_
                refine tl_e (p2 := 129) (i := 199) (n := 6) (t := 0) (Or.inl rfl) rfl rfl I341 rfl rfl (by decide) (by decide) ((u341.2 _ _ (Or.inr (by decide))).trans ((u340.2 _ _ (Or.inr (by decide))).trans hg5)) ?_
                refine ts_i (p2 := 130) (i := 199) (n := 6) rfl rfl I341 rfl rfl rfl rfl (by decide) (by decide) (by omega) (by omega) (by omega) rfl (fun h347 I347 u347 => ?_)
                have f347 := fr_st (F := F_X12_nextOrder_6) 0 f341 u347 rfl (by decide) (by decide)
                refine te_aload_n (p2 := 131) rfl rfl rfl ?_
                refine tg_r (p2 := 134) (i := 148) (r := 215) rfl rfl I347 rfl rfl rfl ?_
                refine te_iload (p2 := 136) rfl rfl rfl ?_
                refine te_iload (p2 := 138) rfl rfl rfl ?_
                refine ts_i (p2 := 139) (i := 199) (n := 6) rfl rfl I347 rfl rfl rfl rfl (by decide) (by decide) (by omega) (by omega) (by omega) rfl (fun h348 I348 u348 => ?_)
                have f348 := fr_st (F := F_X12_nextOrder_6) 0 f347 u348 rfl (by decide) (by decide)
                refine te_iinc (p2 := 142) (x := 5) (y := 4) (lv2 := [(6, .int 4), (7, .int g1), (5, .int 1), (4, .int g0), (3, .int 4), (2, .int 0), (0, .ref 164), (1, .int 6)]) rfl rfl (by decide) rfl (by decide) rfl ?_
                refine te_iinc (p2 := 145) (x := 1) (y := 2) (lv2 := [(5, .int 2), (6, .int 4), (7, .int g1), (4, .int g0), (3, .int 4), (2, .int 0), (0, .ref 164), (1, .int 6)]) rfl rfl (by decide) rfl (by decide) rfl ?_
                refine te_goto rfl ?_
                refine te_iload (p2 := 102) rfl rfl rfl ?_
                refine te_iload (p2 := 104) rfl rfl rfl ?_
                refine tb_ge (p2 := 107) rfl rfl (show Int32.toInt 2 = 2 from rfl) (show Int32.toInt 4 = 4 from rfl) (fun c351 => absurd c351 (by omega)) (fun c351 => ?_)
                refine te_aload_n (p2 := 108) rfl rfl rfl ?_
                refine tg_r (p2 := 111) (i := 148) (r := 215) rfl rfl I348 rfl rfl rfl ?_
                refine te_iload (p2 := 113) rfl rfl rfl ?_
                refine tl_e (p2 := 114) (i := 199) (n := 6) (t := 0) (Or.inl rfl) rfl rfl I348 rfl rfl (by decide) (by decide) ((u348.2 _ _ (Or.inr (by decide))).trans ((u347.2 _ _ (Or.inr (by decide))).trans ((u341.2 _ _ (Or.inr (by decide))).trans ((u340.2 _ _ (Or.inr (by decide))).trans hg2)))) ?_
                refine te_istore (p2 := 116) (lv2 := [(7, .int g2), (5, .int 2), (6, .int 4), (4, .int g0), (3, .int 4), (2, .int 0), (0, .ref 164), (1, .int 6)]) rfl rfl (by decide) rfl ?_
                refine te_aload_n (p2 := 117) rfl rfl rfl ?_
                refine tg_r (p2 := 120) (i := 148) (r := 215) rfl rfl I348 rfl rfl rfl ?_
                refine te_iload (p2 := 122) rfl rfl rfl ?_
                refine te_aload_n (p2 := 123) rfl rfl rfl ?_
                refine tg_r (p2 := 126) (i := 148) (r := 215) rfl rfl I348 rfl rfl rfl ?_
                refine te_iload (p2 := 128) rfl rfl rfl ?_
                refine tl_e (p2 := 129) (i := 199) (n := 6) (t := 0) (Or.inl rfl) rfl rfl I348 rfl rfl (by decide) (by decide) ((u348.2 _ _ (Or.inr (by decide))).trans ((u347.2 _ _ (Or.inr (by decide))).trans u341.1)) ?_
                refine ts_i (p2 := 130) (i := 199) (n := 6) rfl rfl I348 rfl rfl rfl rfl (by decide) (by decide) (by omega) (by omega) (by omega) rfl (fun h354 I354 u354 => ?_)
                have f354 := fr_st (F := F_X12_nextOrder_6) 0 f348 u354 rfl (by decide) (by decide)
                refine te_aload_n (p2 := 131) rfl rfl rfl ?_
                refine tg_r (p2 := 134) (i := 148) (r := 215) rfl rfl I354 rfl rfl rfl ?_
                refine te_iload (p2 := 136) rfl rfl rfl ?_
                refine te_iload (p2 := 138) rfl rfl rfl ?_
                refine ts_i (p2 := 139) (i := 199) (n := 6) rfl rfl I354 rfl rfl rfl rfl (by decide) (by decide) (by omega) (by omega) (by omega) rfl (fun h355 I355 u355 => ?_)
                have f355 := fr_st (F := F_X12_nextOrder_6) 0 f354 u355 rfl (by decide) (by decide)
                refine te_iinc (p2 := 142) (x := 4) (y := 3) (lv2 := [(6, .int 3), (7, .int g2), (5, .int 2), (4, .int g0), (3, .int 4), (2, .int 0), (0, .ref 164), (1, .int 6)]) rfl rfl (by decide) rfl (by decide) rfl ?_
                refine te_iinc (p2 := 145) (x := 2) (y := 3) (lv2 := [(5, .int 3), (6, .int 3), (7, .int g2), (4, .int g0), (3, .int 4), (2, .int 0), (0, .ref 164), (1, .int 6)]) rfl rfl (by decide) rfl (by decide) rfl ?_
                refine te_goto rfl ?_
                refine te_iload (p2 := 102) rfl rfl rfl ?_
                refine te_iload (p2 := 104) rfl rfl rfl ?_
                refine tb_ge (p2 := 107) rfl rfl (show Int32.toInt 3 = 3 from rfl) (show Int32.toInt 3 = 3 from rfl) (fun c358 => ?_) (fun c358 => absurd c358 (by omega))
                refine te_iconst (p2 := 149) (x := 1) rfl rfl (by decide) ?_
                exact te_zret rfl rfl (by decide) ⟨I355, f355, _, rfl, Or.inr ⟨rfl, (by rw [pq_xe6, on6_6, (pq_of (k := 0) hg0 : pq_n h 199 0 = g0.toInt.toNat), (pq_of (k := 1) hg1 : pq_n h 199 1 = g1.toInt.toNat), (pq_of (k := 2) hg2 : pq_n h 199 2 = g2.toInt.toNat), (pq_of (k := 3) hg3 : pq_n h 199 3 = g3.toInt.toNat), (pq_of (k := 4) hg4 : pq_n h 199 4 = g4.toInt.toNat), (pq_of (k := 5) hg5 : pq_n h 199 5 = g5.toInt.toNat), (pq_of (k := 0) ((u355.2 _ _ (Or.inr (by decide))).trans ((u354.2 _ _ (Or.inr (by decide))).trans ((u348.2 _ _ (Or.inr (by decide))).trans ((u347.2 _ _ (Or.inr (by decide))).trans ((u341.2 _ _ (Or.inr (by decide))).trans u340.1))))) : pq_n h355 199 0 = g4.toInt.toNat), (pq_of (k := 1) ((u355.2 _ _ (Or.inr (by decide))).trans ((u354.2 _ _ (Or.inr (by decide))).trans ((u348.2 _ _ (Or.inr (by decide))).trans u347.1))) : pq_n h355 199 1 = g5.toInt.toNat), (pq_of (k := 2) ((u355.2 _ _ (Or.inr (by decide))).trans u354.1) : pq_n h355 199 2 = g0.toInt.toNat), (pq_of (k := 3) ((u355.2 _ _ (Or.inr (by decide))).trans ((u354.2 _ _ (Or.inr (by decide))).trans ((u348.2 _ _ (Or.inr (by decide))).trans ((u347.2 _ _ (Or.inr (by decide))).trans ((u341.2 _ _ (Or.inr (by decide))).trans ((u340.2 _ _ (Or.inr (by decide))).trans hg3)))))) : pq_n h355 199 3 = g3.toInt.toNat), (pq_of (k := 4) u355.1 : pq_n h355 199 4 = g2.toInt.toNat), (pq_of (k := 5) ((u355.2 _ _ (Or.inr (by decide))).trans ((u354.2 _ _ (Or.inr (by decide))).trans u348.1)) : pq_n h355 199 5 = g1.toInt.toNat)]; unfold pq_x6; rw [if_pos (by omega), if_pos (by omega), if_pos (by omega), if_pos (by omega), if_neg (by omega), if_pos (by omega), if_neg (by omega)]), g4, g5, g0, g3, g2, g1, ((u355.2 _ _ (Or.inr (by decide))).trans ((u354.2 _ _ (Or.inr (by decide))).trans ((u348.2 _ _ (Or.inr (by decide))).trans ((u347.2 _ _ (Or.inr (by decide))).trans ((u341.2 _ _ (Or.inr (by decide))).trans u340.1))))), ((u355.2 _ _ (Or.inr (by decide))).trans ((u354.2 _ _ (Or.inr (by decide))).trans ((u348.2 _ _ (Or.inr (by decide))).trans u347.1))), ((u355.2 _ _ (Or.inr (by decide))).trans u354.1), ((u355.2 _ _ (Or.inr (by decide))).trans ((u354.2 _ _ (Or.inr (by decide))).trans ((u348.2 _ _ (Or.inr (by decide))).trans ((u347.2 _ _ (Or.inr (by decide))).trans ((u341.2 _ _ (Or.inr (by decide))).trans ((u340.2 _ _ (Or.inr (by decide))).trans hg3)))))), u355.1, ((u355.2 _ _ (Or.inr (by decide))).trans ((u354.2 _ _ (Or.inr (by decide))).trans u348.1)), (by unfold prm; omega), (by unfold lexV; omega)⟩⟩
              · refine te_iinc (p2 := 59) (x := 4) (y := 3) (lv2 := [(3, .int 3), (2, .int 0), (0, .ref 164), (1, .int 6)]) rfl rfl (by decide) rfl (by decide) rfl ?_
                refine te_goto rfl ?_
                refine te_aload_n (p2 := 42) rfl rfl rfl ?_
                refine tg_r (p2 := 45) (i := 148) (r := 215) rfl rfl hI rfl rfl rfl ?_
                refine te_iload_n (p2 := 46) rfl rfl rfl ?_
                refine tl_e (p2 := 47) (i := 199) (n := 6) (t := 0) (Or.inl rfl) rfl rfl hI rfl rfl (by decide) (by decide) hg3 ?_
                refine te_aload_n (p2 := 48) rfl rfl rfl ?_
                refine tg_r (p2 := 51) (i := 148) (r := 215) rfl rfl hI rfl rfl rfl ?_
                refine te_iload_n (p2 := 52) rfl rfl rfl ?_
                refine tl_e (p2 := 53) (i := 199) (n := 6) (t := 0) (Or.inl rfl) rfl rfl hI rfl rfl (by decide) (by decide) hg0 ?_
                refine tb_ge (p2 := 56) rfl rfl rfl rfl (fun c362 => ?_) (fun c362 => ?_)
                · refine te_aload_n (p2 := 63) rfl rfl rfl ?_
                  refine tg_r (p2 := 66) (i := 148) (r := 215) rfl rfl hI rfl rfl rfl ?_
                  refine te_iload_n (p2 := 67) rfl rfl rfl ?_
                  refine tl_e (p2 := 68) (i := 199) (n := 6) (t := 0) (Or.inl rfl) rfl rfl hI rfl rfl (by decide) (by decide) hg0 ?_
                  refine te_istore (p2 := 70) (lv2 := [(4, .int g0), (3, .int 3), (2, .int 0), (0, .ref 164), (1, .int 6)]) rfl rfl (by decide) rfl ?_
                  refine te_aload_n (p2 := 71) rfl rfl rfl ?_
                  refine tg_r (p2 := 74) (i := 148) (r := 215) rfl rfl hI rfl rfl rfl ?_
                  refine te_iload_n (p2 := 75) rfl rfl rfl ?_
                  refine te_aload_n (p2 := 76) rfl rfl rfl ?_
                  refine tg_r (p2 := 79) (i := 148) (r := 215) rfl rfl hI rfl rfl rfl ?_
                  refine te_iload_n (p2 := 80) rfl rfl rfl ?_
                  refine tl_e (p2 := 81) (i := 199) (n := 6) (t := 0) (Or.inl rfl) rfl rfl hI rfl rfl (by decide) (by decide) hg3 ?_
                  refine ts_i (p2 := 82) (i := 199) (n := 6) rfl rfl hI rfl rfl rfl rfl (by decide) (by decide) (by omega) (by omega) (by omega) rfl (fun h365 I365 u365 => ?_)
                  have f365 := fr_st (F := F_X12_nextOrder_6) 0 f0 u365 rfl (by decide) (by decide)
                  refine te_aload_n (p2 := 83) rfl rfl rfl ?_
                  refine tg_r (p2 := 86) (i := 148) (r := 215) rfl rfl I365 rfl rfl rfl ?_
                  refine te_iload_n (p2 := 87) rfl rfl rfl ?_
                  refine te_iload (p2 := 89) rfl rfl rfl ?_
                  refine ts_i (p2 := 90) (i := 199) (n := 6) rfl rfl I365 rfl rfl rfl rfl (by decide) (by decide) (by omega) (by omega) (by omega) rfl (fun h366 I366 u366 => ?_)
                  have f366 := fr_st (F := F_X12_nextOrder_6) 0 f365 u366 rfl (by decide) (by decide)
                  refine te_iload_n (p2 := 91) rfl rfl rfl ?_
                  refine te_iconst (p2 := 92) (x := 1) rfl rfl (by decide) ?_
                  refine te_iadd (p2 := 93) (z := 1) rfl rfl (by decide) ?_
                  refine te_istore (p2 := 95) (lv2 := [(5, .int 1), (4, .int g0), (3, .int 3), (2, .int 0), (0, .ref 164), (1, .int 6)]) rfl rfl (by decide) rfl ?_
                  refine te_iload_n (p2 := 96) rfl rfl rfl ?_
                  refine te_iconst (p2 := 97) (x := 1) rfl rfl (by decide) ?_
                  refine te_isub (p2 := 98) (z := 5) rfl rfl (by decide) ?_
                  refine te_istore (p2 := 100) (lv2 := [(6, .int 5), (5, .int 1), (4, .int g0), (3, .int 3), (2, .int 0), (0, .ref 164), (1, .int 6)]) rfl rfl (by decide) rfl ?_
                  refine te_iload (p2 := 102) rfl rfl rfl ?_
                  refine te_iload (p2 := 104) rfl rfl rfl ?_
                  refine tb_ge (p2 := 107) rfl rfl (show Int32.toInt 1 = 1 from rfl) (show Int32.toInt 5 = 5 from rfl) (fun c369 => absurd c369 (by omega)) (fun c369 => ?_)
                  refine te_aload_n (p2 := 108) rfl rfl rfl ?_
                  refine tg_r (p2 := 111) (i := 148) (r := 215) rfl rfl I366 rfl rfl rfl ?_
                  refine te_iload (p2 := 113) rfl rfl rfl ?_
                  refine tl_e (p2 := 114) (i := 199) (n := 6) (t := 0) (Or.inl rfl) rfl rfl I366 rfl rfl (by decide) (by decide) ((u366.2 _ _ (Or.inr (by decide))).trans ((u365.2 _ _ (Or.inr (by decide))).trans hg1)) ?_
                  refine te_istore (p2 := 116) (lv2 := [(7, .int g1), (6, .int 5), (5, .int 1), (4, .int g0), (3, .int 3), (2, .int 0), (0, .ref 164), (1, .int 6)]) rfl rfl (by decide) rfl ?_
                  refine te_aload_n (p2 := 117) rfl rfl rfl ?_
                  refine tg_r (p2 := 120) (i := 148) (r := 215) rfl rfl I366 rfl rfl rfl ?_
                  refine te_iload (p2 := 122) rfl rfl rfl ?_
                  refine te_aload_n (p2 := 123) rfl rfl rfl ?_
                  refine tg_r (p2 := 126) (i := 148) (r := 215) rfl rfl I366 rfl rfl rfl ?_
                  refine te_iload (p2 := 128) rfl rfl rfl ?_
                  refine tl_e (p2 := 129) (i := 199) (n := 6) (t := 0) (Or.inl rfl) rfl rfl I366 rfl rfl (by decide) (by decide) ((u366.2 _ _ (Or.inr (by decide))).trans ((u365.2 _ _ (Or.inr (by decide))).trans hg5)) ?_
                  refine ts_i (p2 := 130) (i := 199) (n := 6) rfl rfl I366 rfl rfl rfl rfl (by decide) (by decide) (by omega) (by omega) (by omega) rfl (fun h372 I372 u372 => ?_)
                  have f372 := fr_st (F := F_X12_nextOrder_6) 0 f366 u372 rfl (by decide) (by decide)
                  refine te_aload_n (p2 := 131) rfl rfl rfl ?_
                  refine tg_r (p2 := 134) (i := 148) (r := 215) rfl rfl I372 rfl rfl rfl ?_
                  refine te_iload (p2 := 136) rfl rfl rfl ?_
                  refine te_iload (p2 := 138) rfl rfl rfl ?_
                  refine ts_i (p2 := 139) (i := 199) (n := 6) rfl rfl I372 rfl rfl rfl rfl (by decide) (by decide) (by omega) (by omega) (by omega) rfl (fun h373 I373 u373 => ?_)
                  have f373 := fr_st (F := F_X12_nextOrder_6) 0 f372 u373 rfl (by decide) (by decide)
                  refine te_iinc (p2 := 142) (x := 5) (y := 4) (lv2 := [(6, .int 4), (7, .int g1), (5, .int 1), (4, .int g0), (3, .int 3), (2, .int 0), (0, .ref 164), (1, .int 6)]) rfl rfl (by decide) rfl (by decide) rfl ?_
                  refine te_iinc (p2 := 145) (x := 1) (y := 2) (lv2 := [(5, .int 2), (6, .int 4), (7, .int g1), (4, .int g0), (3, .int 3), (2, .int 0), (0, .ref 164), (1, .int 6)]) rfl rfl (by decide) rfl (by decide) rfl ?_
                  refine te_goto rfl ?_
                  refine te_iload (p2 := 102) rfl rfl rfl ?_
                  refine te_iload (p2 := 104) rfl rfl rfl ?_
                  refine tb_ge (p2 := 107) rfl rfl (show Int32.toInt 2 = 2 from rfl) (show Int32.toInt 4 = 4 from rfl) (fun c376 => absurd c376 (by omega)) (fun c376 => ?_)
                  refine te_aload_n (p2 := 108) rfl rfl rfl ?_
                  refine tg_r (p2 := 111) (i := 148) (r := 215) rfl rfl I373 rfl rfl rfl ?_
                  refine te_iload (p2 := 113) rfl rfl rfl ?_
                  refine tl_e (p2 := 114) (i := 199) (n := 6) (t := 0) (Or.inl rfl) rfl rfl I373 rfl rfl (by decide) (by decide) ((u373.2 _ _ (Or.inr (by decide))).trans ((u372.2 _ _ (Or.inr (by decide))).trans ((u366.2 _ _ (Or.inr (by decide))).trans ((u365.2 _ _ (Or.inr (by decide))).trans hg2)))) ?_
                  refine te_istore (p2 := 116) (lv2 := [(7, .int g2), (5, .int 2), (6, .int 4), (4, .int g0), (3, .int 3), (2, .int 0), (0, .ref 164), (1, .int 6)]) rfl rfl (by decide) rfl ?_
                  refine te_aload_n (p2 := 117) rfl rfl rfl ?_
                  refine tg_r (p2 := 120) (i := 148) (r := 215) rfl rfl I373 rfl rfl rfl ?_
                  refine te_iload (p2 := 122) rfl rfl rfl ?_
                  refine te_aload_n (p2 := 123) rfl rfl rfl ?_
                  refine tg_r (p2 := 126) (i := 148) (r := 215) rfl rfl I373 rfl rfl rfl ?_
                  refine te_iload (p2 := 128) rfl rfl rfl ?_
                  refine tl_e (p2 := 129) (i := 199) (n := 6) (t := 0) (Or.inl rfl) rfl rfl I373 rfl rfl (by decide) (by decide) ((u373.2 _ _ (Or.inr (by decide))).trans ((u372.2 _ _ (Or.inr (by decide))).trans ((u366.2 _ _ (Or.inr (by decide))).trans ((u365.2 _ _ (Or.inr (by decide))).trans hg4)))) ?_
                  refine ts_i (p2 := 130) (i := 199) (n := 6) rfl rfl I373 rfl rfl rfl rfl (by decide) (by decide) (by omega) (by omega) (by omega) rfl (fun h379 I379 u379 => ?_)
                  have f379 := fr_st (F := F_X12_nextOrder_6) 0 f373 u379 rfl (by decide) (by decide)
                  refine te_aload_n (p2 := 131) rfl rfl rfl ?_
                  refine tg_r (p2 := 134) (i := 148) (r := 215) rfl rfl I379 rfl rfl rfl ?_
                  refine te_iload (p2 := 136) rfl rfl rfl ?_
                  refine te_iload (p2 := 138) rfl rfl rfl ?_
                  refine ts_i (p2 := 139) (i := 199) (n := 6) rfl rfl I379 rfl rfl rfl rfl (by decide) (by decide) (by omega) (by omega) (by omega) rfl (fun h380 I380 u380 => ?_)
                  have f380 := fr_st (F := F_X12_nextOrder_6) 0 f379 u380 rfl (by decide) (by decide)
                  refine te_iinc (p2 := 142) (x := 4) (y := 3) (lv2 := [(6, .int 3), (7, .int g2), (5, .int 2), (4, .int g0), (3, .int 3), (2, .int 0), (0, .ref 164), (1, .int 6)]) rfl rfl (by decide) rfl (by decide) rfl ?_
                  refine te_iinc (p2 := 145) (x := 2) (y := 3) (lv2 := [(5, .int 3), (6, .int 3), (7, .int g2), (4, .int g0), (3, .int 3), (2, .int 0), (0, .ref 164), (1, .int 6)]) rfl rfl (by decide) rfl (by decide) rfl ?_
                  refine te_goto rfl ?_
                  refine te_iload (p2 := 102) rfl rfl rfl ?_
                  refine te_iload (p2 := 104) rfl rfl rfl ?_
                  refine tb_ge (p2 := 107) rfl rfl (show Int32.toInt 3 = 3 from rfl) (show Int32.toInt 3 = 3 from rfl) (fun c383 => ?_) (fun c383 => absurd c383 (by omega))
                  refine te_iconst (p2 := 149) (x := 1) rfl rfl (by decide) ?_
                  exact te_zret rfl rfl (by decide) ⟨I380, f380, _, rfl, Or.inr ⟨rfl, (by rw [pq_xe6, on6_6, (pq_of (k := 0) hg0 : pq_n h 199 0 = g0.toInt.toNat), (pq_of (k := 1) hg1 : pq_n h 199 1 = g1.toInt.toNat), (pq_of (k := 2) hg2 : pq_n h 199 2 = g2.toInt.toNat), (pq_of (k := 3) hg3 : pq_n h 199 3 = g3.toInt.toNat), (pq_of (k := 4) hg4 : pq_n h 199 4 = g4.toInt.toNat), (pq_of (k := 5) hg5 : pq_n h 199 5 = g5.toInt.toNat), (pq_of (k := 0) ((u380.2 _ _ (Or.inr (by decide))).trans ((u379.2 _ _ (Or.inr (by decide))).trans ((u373.2 _ _ (Or.inr (by decide))).trans ((u372.2 _ _ (Or.inr (by decide))).trans ((u366.2 _ _ (Or.inr (by decide))).trans u365.1))))) : pq_n h380 199 0 = g3.toInt.toNat), (pq_of (k := 1) ((u380.2 _ _ (Or.inr (by decide))).trans ((u379.2 _ _ (Or.inr (by decide))).trans ((u373.2 _ _ (Or.inr (by decide))).trans u372.1))) : pq_n h380 199 1 = g5.toInt.toNat), (pq_of (k := 2) ((u380.2 _ _ (Or.inr (by decide))).trans u379.1) : pq_n h380 199 2 = g4.toInt.toNat), (pq_of (k := 3) ((u380.2 _ _ (Or.inr (by decide))).trans ((u379.2 _ _ (Or.inr (by decide))).trans ((u373.2 _ _ (Or.inr (by decide))).trans ((u372.2 _ _ (Or.inr (by decide))).trans u366.1)))) : pq_n h380 199 3 = g0.toInt.toNat), (pq_of (k := 4) u380.1 : pq_n h380 199 4 = g2.toInt.toNat), (pq_of (k := 5) ((u380.2 _ _ (Or.inr (by decide))).trans ((u379.2 _ _ (Or.inr (by decide))).trans u373.1)) : pq_n h380 199 5 = g1.toInt.toNat)]; unfold pq_x6; rw [if_pos (by omega), if_pos (by omega), if_pos (by omega), if_pos (by omega), if_neg (by omega), if_pos (by omega), if_pos (by omega), if_neg (by omega)]), g3, g5, g4, g0, g2, g1, ((u380.2 _ _ (Or.inr (by decide))).trans ((u379.2 _ _ (Or.inr (by decide))).trans ((u373.2 _ _ (Or.inr (by decide))).trans ((u372.2 _ _ (Or.inr (by decide))).trans ((u366.2 _ _ (Or.inr (by decide))).trans u365.1))))), ((u380.2 _ _ (Or.inr (by decide))).trans ((u379.2 _ _ (Or.inr (by decide))).trans ((u373.2 _ _ (Or.inr (by decide))).trans u372.1))), ((u380.2 _ _ (Or.inr (by decide))).trans u379.1), ((u380.2 _ _ (Or.inr (by decide))).trans ((u379.2 _ _ (Or.inr (by decide))).trans ((u373.2 _ _ (Or.inr (by decide))).trans ((u372.2 _ _ (Or.inr (by decide))).trans u366.1)))), u380.1, ((u380.2 _ _ (Or.inr (by decide))).trans ((u379.2 _ _ (Or.inr (by decide))).trans u373.1)), (by unfold prm; omega), (by unfold lexV; omega)⟩⟩
                · refine te_iinc (p2 := 59) (x := 3) (y := 2) (lv2 := [(3, .int 2), (2, .int 0), (0, .ref 164), (1, .int 6)]) rfl rfl (by decide) rfl (by decide) rfl ?_
                  refine te_goto rfl ?_
                  refine te_aload_n (p2 := 42) rfl rfl rfl ?_
                  refine tg_r (p2 := 45) (i := 148) (r := 215) rfl rfl hI rfl rfl rfl ?_
                  refine te_iload_n (p2 := 46) rfl rfl rfl ?_
                  refine tl_e (p2 := 47) (i := 199) (n := 6) (t := 0) (Or.inl rfl) rfl rfl hI rfl rfl (by decide) (by decide) hg2 ?_
                  refine te_aload_n (p2 := 48) rfl rfl rfl ?_
                  refine tg_r (p2 := 51) (i := 148) (r := 215) rfl rfl hI rfl rfl rfl ?_
                  refine te_iload_n (p2 := 52) rfl rfl rfl ?_
                  refine tl_e (p2 := 53) (i := 199) (n := 6) (t := 0) (Or.inl rfl) rfl rfl hI rfl rfl (by decide) (by decide) hg0 ?_
                  refine tb_ge (p2 := 56) rfl rfl rfl rfl (fun c387 => ?_) (fun c387 => ?_)
                  · refine te_aload_n (p2 := 63) rfl rfl rfl ?_
                    refine tg_r (p2 := 66) (i := 148) (r := 215) rfl rfl hI rfl rfl rfl ?_
                    refine te_iload_n (p2 := 67) rfl rfl rfl ?_
                    refine tl_e (p2 := 68) (i := 199) (n := 6) (t := 0) (Or.inl rfl) rfl rfl hI rfl rfl (by decide) (by decide) hg0 ?_
                    refine te_istore (p2 := 70) (lv2 := [(4, .int g0), (3, .int 2), (2, .int 0), (0, .ref 164), (1, .int 6)]) rfl rfl (by decide) rfl ?_
                    refine te_aload_n (p2 := 71) rfl rfl rfl ?_
                    refine tg_r (p2 := 74) (i := 148) (r := 215) rfl rfl hI rfl rfl rfl ?_
                    refine te_iload_n (p2 := 75) rfl rfl rfl ?_
                    refine te_aload_n (p2 := 76) rfl rfl rfl ?_
                    refine tg_r (p2 := 79) (i := 148) (r := 215) rfl rfl hI rfl rfl rfl ?_
                    refine te_iload_n (p2 := 80) rfl rfl rfl ?_
                    refine tl_e (p2 := 81) (i := 199) (n := 6) (t := 0) (Or.inl rfl) rfl rfl hI rfl rfl (by decide) (by decide) hg2 ?_
                    refine ts_i (p2 := 82) (i := 199) (n := 6) rfl rfl hI rfl rfl rfl rfl (by decide) (by decide) (by omega) (by omega) (by omega) rfl (fun h390 I390 u390 => ?_)
                    have f390 := fr_st (F := F_X12_nextOrder_6) 0 f0 u390 rfl (by decide) (by decide)
                    refine te_aload_n (p2 := 83) rfl rfl rfl ?_
                    refine tg_r (p2 := 86) (i := 148) (r := 215) rfl rfl I390 rfl rfl rfl ?_
                    refine te_iload_n (p2 := 87) rfl rfl rfl ?_
                    refine te_iload (p2 := 89) rfl rfl rfl ?_
                    refine ts_i (p2 := 90) (i := 199) (n := 6) rfl rfl I390 rfl rfl rfl rfl (by decide) (by decide) (by omega) (by omega) (by omega) rfl (fun h391 I391 u391 => ?_)
                    have f391 := fr_st (F := F_X12_nextOrder_6) 0 f390 u391 rfl (by decide) (by decide)
                    refine te_iload_n (p2 := 91) rfl rfl rfl ?_
                    refine te_iconst (p2 := 92) (x := 1) rfl rfl (by decide) ?_
                    refine te_iadd (p2 := 93) (z := 1) rfl rfl (by decide) ?_
                    refine te_istore (p2 := 95) (lv2 := [(5, .int 1), (4, .int g0), (3, .int 2), (2, .int 0), (0, .ref 164), (1, .int 6)]) rfl rfl (by decide) rfl ?_
                    refine te_iload_n (p2 := 96) rfl rfl rfl ?_
                    refine te_iconst (p2 := 97) (x := 1) rfl rfl (by decide) ?_
                    refine te_isub (p2 := 98) (z := 5) rfl rfl (by decide) ?_
                    refine te_istore (p2 := 100) (lv2 := [(6, .int 5), (5, .int 1), (4, .int g0), (3, .int 2), (2, .int 0), (0, .ref 164), (1, .int 6)]) rfl rfl (by decide) rfl ?_
                    refine te_iload (p2 := 102) rfl rfl rfl ?_
                    refine te_iload (p2 := 104) rfl rfl rfl ?_
                    refine tb_ge (p2 := 107) rfl rfl (show Int32.toInt 1 = 1 from rfl) (show Int32.toInt 5 = 5 from rfl) (fun c394 => absurd c394 (by omega)) (fun c394 => ?_)
                    refine te_aload_n (p2 := 108) rfl rfl rfl ?_
                    refine tg_r (p2 := 111) (i := 148) (r := 215) rfl rfl I391 rfl rfl rfl ?_
                    refine te_iload (p2 := 113) rfl rfl rfl ?_
                    refine tl_e (p2 := 114) (i := 199) (n := 6) (t := 0) (Or.inl rfl) rfl rfl I391 rfl rfl (by decide) (by decide) ((u391.2 _ _ (Or.inr (by decide))).trans ((u390.2 _ _ (Or.inr (by decide))).trans hg1)) ?_
                    refine te_istore (p2 := 116) (lv2 := [(7, .int g1), (6, .int 5), (5, .int 1), (4, .int g0), (3, .int 2), (2, .int 0), (0, .ref 164), (1, .int 6)]) rfl rfl (by decide) rfl ?_
                    refine te_aload_n (p2 := 117) rfl rfl rfl ?_
                    refine tg_r (p2 := 120) (i := 148) (r := 215) rfl rfl I391 rfl rfl rfl ?_
                    refine te_iload (p2 := 122) rfl rfl rfl ?_
                    refine te_aload_n (p2 := 123) rfl rfl rfl ?_
                    refine tg_r (p2 := 126) (i := 148) (r := 215) rfl rfl I391 rfl rfl rfl ?_
                    refine te_iload (p2 := 128) rfl rfl rfl ?_
                    refine tl_e (p2 := 129) (i := 199) (n := 6) (t := 0) (Or.inl rfl) rfl rfl I391 rfl rfl (by decide) (by decide) ((u391.2 _ _ (Or.inr (by decide))).trans ((u390.2 _ _ (Or.inr (by decide))).trans hg5)) ?_
                    refine ts_i (p2 := 130) (i := 199) (n := 6) rfl rfl I391 rfl rfl rfl rfl (by decide) (by decide) (by omega) (by omega) (by omega) rfl (fun h397 I397 u397 => ?_)
                    have f397 := fr_st (F := F_X12_nextOrder_6) 0 f391 u397 rfl (by decide) (by decide)
                    refine te_aload_n (p2 := 131) rfl rfl rfl ?_
                    refine tg_r (p2 := 134) (i := 148) (r := 215) rfl rfl I397 rfl rfl rfl ?_
                    refine te_iload (p2 := 136) rfl rfl rfl ?_
                    refine te_iload (p2 := 138) rfl rfl rfl ?_
                    refine ts_i (p2 := 139) (i := 199) (n := 6) rfl rfl I397 rfl rfl rfl rfl (by decide) (by decide) (by omega) (by omega) (by omega) rfl (fun h398 I398 u398 => ?_)
                    have f398 := fr_st (F := F_X12_nextOrder_6) 0 f397 u398 rfl (by decide) (by decide)
                    refine te_iinc (p2 := 142) (x := 5) (y := 4) (lv2 := [(6, .int 4), (7, .int g1), (5, .int 1), (4, .int g0), (3, .int 2), (2, .int 0), (0, .ref 164), (1, .int 6)]) rfl rfl (by decide) rfl (by decide) rfl ?_
                    refine te_iinc (p2 := 145) (x := 1) (y := 2) (lv2 := [(5, .int 2), (6, .int 4), (7, .int g1), (4, .int g0), (3, .int 2), (2, .int 0), (0, .ref 164), (1, .int 6)]) rfl rfl (by decide) rfl (by decide) rfl ?_
                    refine te_goto rfl ?_
                    refine te_iload (p2 := 102) rfl rfl rfl ?_
                    refine te_iload (p2 := 104) rfl rfl rfl ?_
                    refine tb_ge (p2 := 107) rfl rfl (show Int32.toInt 2 = 2 from rfl) (show Int32.toInt 4 = 4 from rfl) (fun c401 => absurd c401 (by omega)) (fun c401 => ?_)
                    refine te_aload_n (p2 := 108) rfl rfl rfl ?_
                    refine tg_r (p2 := 111) (i := 148) (r := 215) rfl rfl I398 rfl rfl rfl ?_
                    refine te_iload (p2 := 113) rfl rfl rfl ?_
                    refine tl_e (p2 := 114) (i := 199) (n := 6) (t := 0) (Or.inl rfl) rfl rfl I398 rfl rfl (by decide) (by decide) ((u398.2 _ _ (Or.inr (by decide))).trans ((u397.2 _ _ (Or.inr (by decide))).trans u391.1)) ?_
                    refine te_istore (p2 := 116) (lv2 := [(7, .int g0), (5, .int 2), (6, .int 4), (4, .int g0), (3, .int 2), (2, .int 0), (0, .ref 164), (1, .int 6)]) rfl rfl (by decide) rfl ?_
                    refine te_aload_n (p2 := 117) rfl rfl rfl ?_
                    refine tg_r (p2 := 120) (i := 148) (r := 215) rfl rfl I398 rfl rfl rfl ?_
                    refine te_iload (p2 := 122) rfl rfl rfl ?_
                    refine te_aload_n (p2 := 123) rfl rfl rfl ?_
                    refine tg_r (p2 := 126) (i := 148) (r := 215) rfl rfl I398 rfl rfl rfl ?_
                    refine te_iload (p2 := 128) rfl rfl rfl ?_
                    refine tl_e (p2 := 129) (i := 199) (n := 6) (t := 0) (Or.inl rfl) rfl rfl I398 rfl rfl (by decide) (by decide) ((u398.2 _ _ (Or.inr (by decide))).trans ((u397.2 _ _ (Or.inr (by decide))).trans ((u391.2 _ _ (Or.inr (by decide))).trans ((u390.2 _ _ (Or.inr (by decide))).trans hg4)))) ?_
                    refine ts_i (p2 := 130) (i := 199) (n := 6) rfl rfl I398 rfl rfl rfl rfl (by decide) (by decide) (by omega) (by omega) (by omega) rfl (fun h404 I404 u404 => ?_)
                    have f404 := fr_st (F := F_X12_nextOrder_6) 0 f398 u404 rfl (by decide) (by decide)
                    refine te_aload_n (p2 := 131) rfl rfl rfl ?_
                    refine tg_r (p2 := 134) (i := 148) (r := 215) rfl rfl I404 rfl rfl rfl ?_
                    refine te_iload (p2 := 136) rfl rfl rfl ?_
                    refine te_iload (p2 := 138) rfl rfl rfl ?_
                    refine ts_i (p2 := 139) (i := 199) (n := 6) rfl rfl I404 rfl rfl rfl rfl (by decide) (by decide) (by omega) (by omega) (by omega) rfl (fun h405 I405 u405 => ?_)
                    have f405 := fr_st (F := F_X12_nextOrder_6) 0 f404 u405 rfl (by decide) (by decide)
                    refine te_iinc (p2 := 142) (x := 4) (y := 3) (lv2 := [(6, .int 3), (7, .int g0), (5, .int 2), (4, .int g0), (3, .int 2), (2, .int 0), (0, .ref 164), (1, .int 6)]) rfl rfl (by decide) rfl (by decide) rfl ?_
                    refine te_iinc (p2 := 145) (x := 2) (y := 3) (lv2 := [(5, .int 3), (6, .int 3), (7, .int g0), (4, .int g0), (3, .int 2), (2, .int 0), (0, .ref 164), (1, .int 6)]) rfl rfl (by decide) rfl (by decide) rfl ?_
                    refine te_goto rfl ?_
                    refine te_iload (p2 := 102) rfl rfl rfl ?_
                    refine te_iload (p2 := 104) rfl rfl rfl ?_
                    refine tb_ge (p2 := 107) rfl rfl (show Int32.toInt 3 = 3 from rfl) (show Int32.toInt 3 = 3 from rfl) (fun c408 => ?_) (fun c408 => absurd c408 (by omega))
                    refine te_iconst (p2 := 149) (x := 1) rfl rfl (by decide) ?_
                    exact te_zret rfl rfl (by decide) ⟨I405, f405, _, rfl, Or.inr ⟨rfl, (by rw [pq_xe6, on6_6, (pq_of (k := 0) hg0 : pq_n h 199 0 = g0.toInt.toNat), (pq_of (k := 1) hg1 : pq_n h 199 1 = g1.toInt.toNat), (pq_of (k := 2) hg2 : pq_n h 199 2 = g2.toInt.toNat), (pq_of (k := 3) hg3 : pq_n h 199 3 = g3.toInt.toNat), (pq_of (k := 4) hg4 : pq_n h 199 4 = g4.toInt.toNat), (pq_of (k := 5) hg5 : pq_n h 199 5 = g5.toInt.toNat), (pq_of (k := 0) ((u405.2 _ _ (Or.inr (by decide))).trans ((u404.2 _ _ (Or.inr (by decide))).trans ((u398.2 _ _ (Or.inr (by decide))).trans ((u397.2 _ _ (Or.inr (by decide))).trans ((u391.2 _ _ (Or.inr (by decide))).trans u390.1))))) : pq_n h405 199 0 = g2.toInt.toNat), (pq_of (k := 1) ((u405.2 _ _ (Or.inr (by decide))).trans ((u404.2 _ _ (Or.inr (by decide))).trans ((u398.2 _ _ (Or.inr (by decide))).trans u397.1))) : pq_n h405 199 1 = g5.toInt.toNat), (pq_of (k := 2) ((u405.2 _ _ (Or.inr (by decide))).trans u404.1) : pq_n h405 199 2 = g4.toInt.toNat), (pq_of (k := 3) ((u405.2 _ _ (Or.inr (by decide))).trans ((u404.2 _ _ (Or.inr (by decide))).trans ((u398.2 _ _ (Or.inr (by decide))).trans ((u397.2 _ _ (Or.inr (by decide))).trans ((u391.2 _ _ (Or.inr (by decide))).trans ((u390.2 _ _ (Or.inr (by decide))).trans hg3)))))) : pq_n h405 199 3 = g3.toInt.toNat), (pq_of (k := 4) u405.1 : pq_n h405 199 4 = g0.toInt.toNat), (pq_of (k := 5) ((u405.2 _ _ (Or.inr (by decide))).trans ((u404.2 _ _ (Or.inr (by decide))).trans u398.1)) : pq_n h405 199 5 = g1.toInt.toNat)]; unfold pq_x6; rw [if_pos (by omega), if_pos (by omega), if_pos (by omega), if_pos (by omega), if_neg (by omega), if_pos (by omega), if_pos (by omega), if_pos (by omega), if_neg (by omega)]), g2, g5, g4, g3, g0, g1, ((u405.2 _ _ (Or.inr (by decide))).trans ((u404.2 _ _ (Or.inr (by decide))).trans ((u398.2 _ _ (Or.inr (by decide))).trans ((u397.2 _ _ (Or.inr (by decide))).trans ((u391.2 _ _ (Or.inr (by decide))).trans u390.1))))), ((u405.2 _ _ (Or.inr (by decide))).trans ((u404.2 _ _ (Or.inr (by decide))).trans ((u398.2 _ _ (Or.inr (by decide))).trans u397.1))), ((u405.2 _ _ (Or.inr (by decide))).trans u404.1), ((u405.2 _ _ (Or.inr (by decide))).trans ((u404.2 _ _ (Or.inr (by decide))).trans ((u398.2 _ _ (Or.inr (by decide))).trans ((u397.2 _ _ (Or.inr (by decide))).trans ((u391.2 _ _ (Or.inr (by decide))).trans ((u390.2 _ _ (Or.inr (by decide))).trans hg3)))))), u405.1, ((u405.2 _ _ (Or.inr (by decide))).trans ((u404.2 _ _ (Or.inr (by decide))).trans u398.1)), (by unfold prm; omega), (by unfold lexV; omega)⟩⟩
                  · refine te_iinc (p2 := 59) (x := 2) (y := 1) (lv2 := [(3, .int 1), (2, .int 0), (0, .ref 164), (1, .int 6)]) rfl rfl (by decide) rfl (by decide) rfl ?_
                    refine te_goto rfl ?_
                    refine te_aload_n (p2 := 42) rfl rfl rfl ?_
                    refine tg_r (p2 := 45) (i := 148) (r := 215) rfl rfl hI rfl rfl rfl ?_
                    refine te_iload_n (p2 := 46) rfl rfl rfl ?_
                    refine tl_e (p2 := 47) (i := 199) (n := 6) (t := 0) (Or.inl rfl) rfl rfl hI rfl rfl (by decide) (by decide) hg1 ?_
                    refine te_aload_n (p2 := 48) rfl rfl rfl ?_
                    refine tg_r (p2 := 51) (i := 148) (r := 215) rfl rfl hI rfl rfl rfl ?_
                    refine te_iload_n (p2 := 52) rfl rfl rfl ?_
                    refine tl_e (p2 := 53) (i := 199) (n := 6) (t := 0) (Or.inl rfl) rfl rfl hI rfl rfl (by decide) (by decide) hg0 ?_
                    refine tb_ge (p2 := 56) rfl rfl rfl rfl (fun c412 => ?_) (fun c412 => ?_)
                    · refine te_aload_n (p2 := 63) rfl rfl rfl ?_
                      refine tg_r (p2 := 66) (i := 148) (r := 215) rfl rfl hI rfl rfl rfl ?_
                      refine te_iload_n (p2 := 67) rfl rfl rfl ?_
                      refine tl_e (p2 := 68) (i := 199) (n := 6) (t := 0) (Or.inl rfl) rfl rfl hI rfl rfl (by decide) (by decide) hg0 ?_
                      refine te_istore (p2 := 70) (lv2 := [(4, .int g0), (3, .int 1), (2, .int 0), (0, .ref 164), (1, .int 6)]) rfl rfl (by decide) rfl ?_
                      refine te_aload_n (p2 := 71) rfl rfl rfl ?_
                      refine tg_r (p2 := 74) (i := 148) (r := 215) rfl rfl hI rfl rfl rfl ?_
                      refine te_iload_n (p2 := 75) rfl rfl rfl ?_
                      refine te_aload_n (p2 := 76) rfl rfl rfl ?_
                      refine tg_r (p2 := 79) (i := 148) (r := 215) rfl rfl hI rfl rfl rfl ?_
                      refine te_iload_n (p2 := 80) rfl rfl rfl ?_
                      refine tl_e (p2 := 81) (i := 199) (n := 6) (t := 0) (Or.inl rfl) rfl rfl hI rfl rfl (by decide) (by decide) hg1 ?_
                      refine ts_i (p2 := 82) (i := 199) (n := 6) rfl rfl hI rfl rfl rfl rfl (by decide) (by decide) (by omega) (by omega) (by omega) rfl (fun h415 I415 u415 => ?_)
                      have f415 := fr_st (F := F_X12_nextOrder_6) 0 f0 u415 rfl (by decide) (by decide)
                      refine te_aload_n (p2 := 83) rfl rfl rfl ?_
                      refine tg_r (p2 := 86) (i := 148) (r := 215) rfl rfl I415 rfl rfl rfl ?_
                      refine te_iload_n (p2 := 87) rfl rfl rfl ?_
                      refine te_iload (p2 := 89) rfl rfl rfl ?_
                      refine ts_i (p2 := 90) (i := 199) (n := 6) rfl rfl I415 rfl rfl rfl rfl (by decide) (by decide) (by omega) (by omega) (by omega) rfl (fun h416 I416 u416 => ?_)
                      have f416 := fr_st (F := F_X12_nextOrder_6) 0 f415 u416 rfl (by decide) (by decide)
                      refine te_iload_n (p2 := 91) rfl rfl rfl ?_
                      refine te_iconst (p2 := 92) (x := 1) rfl rfl (by decide) ?_
                      refine te_iadd (p2 := 93) (z := 1) rfl rfl (by decide) ?_
                      refine te_istore (p2 := 95) (lv2 := [(5, .int 1), (4, .int g0), (3, .int 1), (2, .int 0), (0, .ref 164), (1, .int 6)]) rfl rfl (by decide) rfl ?_
                      refine te_iload_n (p2 := 96) rfl rfl rfl ?_
                      refine te_iconst (p2 := 97) (x := 1) rfl rfl (by decide) ?_
                      refine te_isub (p2 := 98) (z := 5) rfl rfl (by decide) ?_
                      refine te_istore (p2 := 100) (lv2 := [(6, .int 5), (5, .int 1), (4, .int g0), (3, .int 1), (2, .int 0), (0, .ref 164), (1, .int 6)]) rfl rfl (by decide) rfl ?_
                      refine te_iload (p2 := 102) rfl rfl rfl ?_
                      refine te_iload (p2 := 104) rfl rfl rfl ?_
                      refine tb_ge (p2 := 107) rfl rfl (show Int32.toInt 1 = 1 from rfl) (show Int32.toInt 5 = 5 from rfl) (fun c419 => absurd c419 (by omega)) (fun c419 => ?_)
                      refine te_aload_n (p2 := 108) rfl rfl rfl ?_
                      refine tg_r (p2 := 111) (i := 148) (r := 215) rfl rfl I416 rfl rfl rfl ?_
                      refine te_iload (p2 := 113) rfl rfl rfl ?_
                      refine tl_e (p2 := 114) (i := 199) (n := 6) (t := 0) (Or.inl rfl) rfl rfl I416 rfl rfl (by decide) (by decide) u416.1 ?_
                      refine te_istore (p2 := 116) (lv2 := [(7, .int g0), (6, .int 5), (5, .int 1), (4, .int g0), (3, .int 1), (2, .int 0), (0, .ref 164), (1, .int 6)]) rfl rfl (by decide) rfl ?_
                      refine te_aload_n (p2 := 117) rfl rfl rfl ?_
                      refine tg_r (p2 := 120) (i := 148) (r := 215) rfl rfl I416 rfl rfl rfl ?_
                      refine te_iload (p2 := 122) rfl rfl rfl ?_
                      refine te_aload_n (p2 := 123) rfl rfl rfl ?_
                      refine tg_r (p2 := 126) (i := 148) (r := 215) rfl rfl I416 rfl rfl rfl ?_
                      refine te_iload (p2 := 128) rfl rfl rfl ?_
                      refine tl_e (p2 := 129) (i := 199) (n := 6) (t := 0) (Or.inl rfl) rfl rfl I416 rfl rfl (by decide) (by decide) ((u416.2 _ _ (Or.inr (by decide))).trans ((u415.2 _ _ (Or.inr (by decide))).trans hg5)) ?_
                      refine ts_i (p2 := 130) (i := 199) (n := 6) rfl rfl I416 rfl rfl rfl rfl (by decide) (by decide) (by omega) (by omega) (by omega) rfl (fun h422 I422 u422 => ?_)
                      have f422 := fr_st (F := F_X12_nextOrder_6) 0 f416 u422 rfl (by decide) (by decide)
                      refine te_aload_n (p2 := 131) rfl rfl rfl ?_
                      refine tg_r (p2 := 134) (i := 148) (r := 215) rfl rfl I422 rfl rfl rfl ?_
                      refine te_iload (p2 := 136) rfl rfl rfl ?_
                      refine te_iload (p2 := 138) rfl rfl rfl ?_
                      refine ts_i (p2 := 139) (i := 199) (n := 6) rfl rfl I422 rfl rfl rfl rfl (by decide) (by decide) (by omega) (by omega) (by omega) rfl (fun h423 I423 u423 => ?_)
                      have f423 := fr_st (F := F_X12_nextOrder_6) 0 f422 u423 rfl (by decide) (by decide)
                      refine te_iinc (p2 := 142) (x := 5) (y := 4) (lv2 := [(6, .int 4), (7, .int g0), (5, .int 1), (4, .int g0), (3, .int 1), (2, .int 0), (0, .ref 164), (1, .int 6)]) rfl rfl (by decide) rfl (by decide) rfl ?_
                      refine te_iinc (p2 := 145) (x := 1) (y := 2) (lv2 := [(5, .int 2), (6, .int 4), (7, .int g0), (4, .int g0), (3, .int 1), (2, .int 0), (0, .ref 164), (1, .int 6)]) rfl rfl (by decide) rfl (by decide) rfl ?_
                      refine te_goto rfl ?_
                      refine te_iload (p2 := 102) rfl rfl rfl ?_
                      refine te_iload (p2 := 104) rfl rfl rfl ?_
                      refine tb_ge (p2 := 107) rfl rfl (show Int32.toInt 2 = 2 from rfl) (show Int32.toInt 4 = 4 from rfl) (fun c426 => absurd c426 (by omega)) (fun c426 => ?_)
                      refine te_aload_n (p2 := 108) rfl rfl rfl ?_
                      refine tg_r (p2 := 111) (i := 148) (r := 215) rfl rfl I423 rfl rfl rfl ?_
                      refine te_iload (p2 := 113) rfl rfl rfl ?_
                      refine tl_e (p2 := 114) (i := 199) (n := 6) (t := 0) (Or.inl rfl) rfl rfl I423 rfl rfl (by decide) (by decide) ((u423.2 _ _ (Or.inr (by decide))).trans ((u422.2 _ _ (Or.inr (by decide))).trans ((u416.2 _ _ (Or.inr (by decide))).trans ((u415.2 _ _ (Or.inr (by decide))).trans hg2)))) ?_
                      refine te_istore (p2 := 116) (lv2 := [(7, .int g2), (5, .int 2), (6, .int 4), (4, .int g0), (3, .int 1), (2, .int 0), (0, .ref 164), (1, .int 6)]) rfl rfl (by decide) rfl ?_
                      refine te_aload_n (p2 := 117) rfl rfl rfl ?_
                      refine tg_r (p2 := 120) (i := 148) (r := 215) rfl rfl I423 rfl rfl rfl ?_
                      refine te_iload (p2 := 122) rfl rfl rfl ?_
                      refine te_aload_n (p2 := 123) rfl rfl rfl ?_
                      refine tg_r (p2 := 126) (i := 148) (r := 215) rfl rfl I423 rfl rfl rfl ?_
                      refine te_iload (p2 := 128) rfl rfl rfl ?_
                      refine tl_e (p2 := 129) (i := 199) (n := 6) (t := 0) (Or.inl rfl) rfl rfl I423 rfl rfl (by decide) (by decide) ((u423.2 _ _ (Or.inr (by decide))).trans ((u422.2 _ _ (Or.inr (by decide))).trans ((u416.2 _ _ (Or.inr (by decide))).trans ((u415.2 _ _ (Or.inr (by decide))).trans hg4)))) ?_
                      refine ts_i (p2 := 130) (i := 199) (n := 6) rfl rfl I423 rfl rfl rfl rfl (by decide) (by decide) (by omega) (by omega) (by omega) rfl (fun h429 I429 u429 => ?_)
                      have f429 := fr_st (F := F_X12_nextOrder_6) 0 f423 u429 rfl (by decide) (by decide)
                      refine te_aload_n (p2 := 131) rfl rfl rfl ?_
                      refine tg_r (p2 := 134) (i := 148) (r := 215) rfl rfl I429 rfl rfl rfl ?_
                      refine te_iload (p2 := 136) rfl rfl rfl ?_
                      refine te_iload (p2 := 138) rfl rfl rfl ?_
                      refine ts_i (p2 := 139) (i := 199) (n := 6) rfl rfl I429 rfl rfl rfl rfl (by decide) (by decide) (by omega) (by omega) (by omega) rfl (fun h430 I430 u430 => ?_)
                      have f430 := fr_st (F := F_X12_nextOrder_6) 0 f429 u430 rfl (by decide) (by decide)
                      refine te_iinc (p2 := 142) (x := 4) (y := 3) (lv2 := [(6, .int 3), (7, .int g2), (5, .int 2), (4, .int g0), (3, .int 1), (2, .int 0), (0, .ref 164), (1, .int 6)]) rfl rfl (by decide) rfl (by decide) rfl ?_
                      refine te_iinc (p2 := 145) (x := 2) (y := 3) (lv2 := [(5, .int 3), (6, .int 3), (7, .int g2), (4, .int g0), (3, .int 1), (2, .int 0), (0, .ref 164), (1, .int 6)]) rfl rfl (by decide) rfl (by decide) rfl ?_
                      refine te_goto rfl ?_
                      refine te_iload (p2 := 102) rfl rfl rfl ?_
                      refine te_iload (p2 := 104) rfl rfl rfl ?_
                      refine tb_ge (p2 := 107) rfl rfl (show Int32.toInt 3 = 3 from rfl) (show Int32.toInt 3 = 3 from rfl) (fun c433 => ?_) (fun c433 => absurd c433 (by omega))
                      refine te_iconst (p2 := 149) (x := 1) rfl rfl (by decide) ?_
                      exact te_zret rfl rfl (by decide) ⟨I430, f430, _, rfl, Or.inr ⟨rfl, (by rw [pq_xe6, on6_6, (pq_of (k := 0) hg0 : pq_n h 199 0 = g0.toInt.toNat), (pq_of (k := 1) hg1 : pq_n h 199 1 = g1.toInt.toNat), (pq_of (k := 2) hg2 : pq_n h 199 2 = g2.toInt.toNat), (pq_of (k := 3) hg3 : pq_n h 199 3 = g3.toInt.toNat), (pq_of (k := 4) hg4 : pq_n h 199 4 = g4.toInt.toNat), (pq_of (k := 5) hg5 : pq_n h 199 5 = g5.toInt.toNat), (pq_of (k := 0) ((u430.2 _ _ (Or.inr (by decide))).trans ((u429.2 _ _ (Or.inr (by decide))).trans ((u423.2 _ _ (Or.inr (by decide))).trans ((u422.2 _ _ (Or.inr (by decide))).trans ((u416.2 _ _ (Or.inr (by decide))).trans u415.1))))) : pq_n h430 199 0 = g1.toInt.toNat), (pq_of (k := 1) ((u430.2 _ _ (Or.inr (by decide))).trans ((u429.2 _ _ (Or.inr (by decide))).trans ((u423.2 _ _ (Or.inr (by decide))).trans u422.1))) : pq_n h430 199 1 = g5.toInt.toNat), (pq_of (k := 2) ((u430.2 _ _ (Or.inr (by decide))).trans u429.1) : pq_n h430 199 2 = g4.toInt.toNat), (pq_of (k := 3) ((u430.2 _ _ (Or.inr (by decide))).trans ((u429.2 _ _ (Or.inr (by decide))).trans ((u423.2 _ _ (Or.inr (by decide))).trans ((u422.2 _ _ (Or.inr (by decide))).trans ((u416.2 _ _ (Or.inr (by decide))).trans ((u415.2 _ _ (Or.inr (by decide))).trans hg3)))))) : pq_n h430 199 3 = g3.toInt.toNat), (pq_of (k := 4) u430.1 : pq_n h430 199 4 = g2.toInt.toNat), (pq_of (k := 5) ((u430.2 _ _ (Or.inr (by decide))).trans ((u429.2 _ _ (Or.inr (by decide))).trans u423.1)) : pq_n h430 199 5 = g0.toInt.toNat)]; unfold pq_x6; rw [if_pos (by omega), if_pos (by omega), if_pos (by omega), if_pos (by omega), if_neg (by omega), if_pos (by omega), if_pos (by omega), if_pos (by omega), if_pos (by omega), if_neg (by omega)]), g1, g5, g4, g3, g2, g0, ((u430.2 _ _ (Or.inr (by decide))).trans ((u429.2 _ _ (Or.inr (by decide))).trans ((u423.2 _ _ (Or.inr (by decide))).trans ((u422.2 _ _ (Or.inr (by decide))).trans ((u416.2 _ _ (Or.inr (by decide))).trans u415.1))))), ((u430.2 _ _ (Or.inr (by decide))).trans ((u429.2 _ _ (Or.inr (by decide))).trans ((u423.2 _ _ (Or.inr (by decide))).trans u422.1))), ((u430.2 _ _ (Or.inr (by decide))).trans u429.1), ((u430.2 _ _ (Or.inr (by decide))).trans ((u429.2 _ _ (Or.inr (by decide))).trans ((u423.2 _ _ (Or.inr (by decide))).trans ((u422.2 _ _ (Or.inr (by decide))).trans ((u416.2 _ _ (Or.inr (by decide))).trans ((u415.2 _ _ (Or.inr (by decide))).trans hg3)))))), u430.1, ((u430.2 _ _ (Or.inr (by decide))).trans ((u429.2 _ _ (Or.inr (by decide))).trans u423.1)), (by unfold prm; omega), (by unfold lexV; omega)⟩⟩
                    · refine te_iinc (p2 := 59) (x := 1) (y := 0) (lv2 := [(3, .int 0), (2, .int 0), (0, .ref 164), (1, .int 6)]) rfl rfl (by decide) rfl (by decide) rfl ?_
                      refine te_goto rfl ?_
                      refine te_aload_n (p2 := 42) rfl rfl rfl ?_
                      refine tg_r (p2 := 45) (i := 148) (r := 215) rfl rfl hI rfl rfl rfl ?_
                      refine te_iload_n (p2 := 46) rfl rfl rfl ?_
                      refine tl_e (p2 := 47) (i := 199) (n := 6) (t := 0) (Or.inl rfl) rfl rfl hI rfl rfl (by decide) (by decide) hg0 ?_
                      refine te_aload_n (p2 := 48) rfl rfl rfl ?_
                      refine tg_r (p2 := 51) (i := 148) (r := 215) rfl rfl hI rfl rfl rfl ?_
                      refine te_iload_n (p2 := 52) rfl rfl rfl ?_
                      refine tl_e (p2 := 53) (i := 199) (n := 6) (t := 0) (Or.inl rfl) rfl rfl hI rfl rfl (by decide) (by decide) hg0 ?_
                      refine tb_ge (p2 := 56) rfl rfl rfl rfl (fun c437 => ?_) (fun c437 => absurd c437 (by omega))
                      refine te_aload_n (p2 := 63) rfl rfl rfl ?_
                      refine tg_r (p2 := 66) (i := 148) (r := 215) rfl rfl hI rfl rfl rfl ?_
                      refine te_iload_n (p2 := 67) rfl rfl rfl ?_
                      refine tl_e (p2 := 68) (i := 199) (n := 6) (t := 0) (Or.inl rfl) rfl rfl hI rfl rfl (by decide) (by decide) hg0 ?_
                      refine te_istore (p2 := 70) (lv2 := [(4, .int g0), (3, .int 0), (2, .int 0), (0, .ref 164), (1, .int 6)]) rfl rfl (by decide) rfl ?_
                      refine te_aload_n (p2 := 71) rfl rfl rfl ?_
                      refine tg_r (p2 := 74) (i := 148) (r := 215) rfl rfl hI rfl rfl rfl ?_
                      refine te_iload_n (p2 := 75) rfl rfl rfl ?_
                      refine te_aload_n (p2 := 76) rfl rfl rfl ?_
                      refine tg_r (p2 := 79) (i := 148) (r := 215) rfl rfl hI rfl rfl rfl ?_
                      refine te_iload_n (p2 := 80) rfl rfl rfl ?_
                      refine tl_e (p2 := 81) (i := 199) (n := 6) (t := 0) (Or.inl rfl) rfl rfl hI rfl rfl (by decide) (by decide) hg0 ?_
                      refine ts_i (p2 := 82) (i := 199) (n := 6) rfl rfl hI rfl rfl rfl rfl (by decide) (by decide) (by omega) (by omega) (by omega) rfl (fun h440 I440 u440 => ?_)
                      have f440 := fr_st (F := F_X12_nextOrder_6) 0 f0 u440 rfl (by decide) (by decide)
                      refine te_aload_n (p2 := 83) rfl rfl rfl ?_
                      refine tg_r (p2 := 86) (i := 148) (r := 215) rfl rfl I440 rfl rfl rfl ?_
                      refine te_iload_n (p2 := 87) rfl rfl rfl ?_
                      refine te_iload (p2 := 89) rfl rfl rfl ?_
                      refine ts_i (p2 := 90) (i := 199) (n := 6) rfl rfl I440 rfl rfl rfl rfl (by decide) (by decide) (by omega) (by omega) (by omega) rfl (fun h441 I441 u441 => ?_)
                      have f441 := fr_st (F := F_X12_nextOrder_6) 0 f440 u441 rfl (by decide) (by decide)
                      refine te_iload_n (p2 := 91) rfl rfl rfl ?_
                      refine te_iconst (p2 := 92) (x := 1) rfl rfl (by decide) ?_
                      refine te_iadd (p2 := 93) (z := 1) rfl rfl (by decide) ?_
                      refine te_istore (p2 := 95) (lv2 := [(5, .int 1), (4, .int g0), (3, .int 0), (2, .int 0), (0, .ref 164), (1, .int 6)]) rfl rfl (by decide) rfl ?_
                      refine te_iload_n (p2 := 96) rfl rfl rfl ?_
                      refine te_iconst (p2 := 97) (x := 1) rfl rfl (by decide) ?_
                      refine te_isub (p2 := 98) (z := 5) rfl rfl (by decide) ?_
                      refine te_istore (p2 := 100) (lv2 := [(6, .int 5), (5, .int 1), (4, .int g0), (3, .int 0), (2, .int 0), (0, .ref 164), (1, .int 6)]) rfl rfl (by decide) rfl ?_
                      refine te_iload (p2 := 102) rfl rfl rfl ?_
                      refine te_iload (p2 := 104) rfl rfl rfl ?_
                      refine tb_ge (p2 := 107) rfl rfl (show Int32.toInt 1 = 1 from rfl) (show Int32.toInt 5 = 5 from rfl) (fun c444 => absurd c444 (by omega)) (fun c444 => ?_)
                      refine te_aload_n (p2 := 108) rfl rfl rfl ?_
                      refine tg_r (p2 := 111) (i := 148) (r := 215) rfl rfl I441 rfl rfl rfl ?_
                      refine te_iload (p2 := 113) rfl rfl rfl ?_
                      refine tl_e (p2 := 114) (i := 199) (n := 6) (t := 0) (Or.inl rfl) rfl rfl I441 rfl rfl (by decide) (by decide) ((u441.2 _ _ (Or.inr (by decide))).trans ((u440.2 _ _ (Or.inr (by decide))).trans hg1)) ?_
                      refine te_istore (p2 := 116) (lv2 := [(7, .int g1), (6, .int 5), (5, .int 1), (4, .int g0), (3, .int 0), (2, .int 0), (0, .ref 164), (1, .int 6)]) rfl rfl (by decide) rfl ?_
                      refine te_aload_n (p2 := 117) rfl rfl rfl ?_
                      refine tg_r (p2 := 120) (i := 148) (r := 215) rfl rfl I441 rfl rfl rfl ?_
                      refine te_iload (p2 := 122) rfl rfl rfl ?_
                      refine te_aload_n (p2 := 123) rfl rfl rfl ?_
                      refine tg_r (p2 := 126) (i := 148) (r := 215) rfl rfl I441 rfl rfl rfl ?_
                      refine te_iload (p2 := 128) rfl rfl rfl ?_
                      refine tl_e (p2 := 129) (i := 199) (n := 6) (t := 0) (Or.inl rfl) rfl rfl I441 rfl rfl (by decide) (by decide) ((u441.2 _ _ (Or.inr (by decide))).trans ((u440.2 _ _ (Or.inr (by decide))).trans hg5)) ?_
                      refine ts_i (p2 := 130) (i := 199) (n := 6) rfl rfl I441 rfl rfl rfl rfl (by decide) (by decide) (by omega) (by omega) (by omega) rfl (fun h447 I447 u447 => ?_)
                      have f447 := fr_st (F := F_X12_nextOrder_6) 0 f441 u447 rfl (by decide) (by decide)
                      refine te_aload_n (p2 := 131) rfl rfl rfl ?_
                      refine tg_r (p2 := 134) (i := 148) (r := 215) rfl rfl I447 rfl rfl rfl ?_
                      refine te_iload (p2 := 136) rfl rfl rfl ?_
                      refine te_iload (p2 := 138) rfl rfl rfl ?_
                      refine ts_i (p2 := 139) (i := 199) (n := 6) rfl rfl I447 rfl rfl rfl rfl (by decide) (by decide) (by omega) (by omega) (by omega) rfl (fun h448 I448 u448 => ?_)
                      have f448 := fr_st (F := F_X12_nextOrder_6) 0 f447 u448 rfl (by decide) (by decide)
                      refine te_iinc (p2 := 142) (x := 5) (y := 4) (lv2 := [(6, .int 4), (7, .int g1), (5, .int 1), (4, .int g0), (3, .int 0), (2, .int 0), (0, .ref 164), (1, .int 6)]) rfl rfl (by decide) rfl (by decide) rfl ?_
                      refine te_iinc (p2 := 145) (x := 1) (y := 2) (lv2 := [(5, .int 2), (6, .int 4), (7, .int g1), (4, .int g0), (3, .int 0), (2, .int 0), (0, .ref 164), (1, .int 6)]) rfl rfl (by decide) rfl (by decide) rfl ?_
                      refine te_goto rfl ?_
                      refine te_iload (p2 := 102) rfl rfl rfl ?_
                      refine te_iload (p2 := 104) rfl rfl rfl ?_
                      refine tb_ge (p2 := 107) rfl rfl (show Int32.toInt 2 = 2 from rfl) (show Int32.toInt 4 = 4 from rfl) (fun c451 => absurd c451 (by omega)) (fun c451 => ?_)
                      refine te_aload_n (p2 := 108) rfl rfl rfl ?_
                      refine tg_r (p2 := 111) (i := 148) (r := 215) rfl rfl I448 rfl rfl rfl ?_
                      refine te_iload (p2 := 113) rfl rfl rfl ?_
                      refine tl_e (p2 := 114) (i := 199) (n := 6) (t := 0) (Or.inl rfl) rfl rfl I448 rfl rfl (by decide) (by decide) ((u448.2 _ _ (Or.inr (by decide))).trans ((u447.2 _ _ (Or.inr (by decide))).trans ((u441.2 _ _ (Or.inr (by decide))).trans ((u440.2 _ _ (Or.inr (by decide))).trans hg2)))) ?_
                      refine te_istore (p2 := 116) (lv2 := [(7, .int g2), (5, .int 2), (6, .int 4), (4, .int g0), (3, .int 0), (2, .int 0), (0, .ref 164), (1, .int 6)]) rfl rfl (by decide) rfl ?_
                      refine te_aload_n (p2 := 117) rfl rfl rfl ?_
                      refine tg_r (p2 := 120) (i := 148) (r := 215) rfl rfl I448 rfl rfl rfl ?_
                      refine te_iload (p2 := 122) rfl rfl rfl ?_
                      refine te_aload_n (p2 := 123) rfl rfl rfl ?_
                      refine tg_r (p2 := 126) (i := 148) (r := 215) rfl rfl I448 rfl rfl rfl ?_
                      refine te_iload (p2 := 128) rfl rfl rfl ?_
                      refine tl_e (p2 := 129) (i := 199) (n := 6) (t := 0) (Or.inl rfl) rfl rfl I448 rfl rfl (by decide) (by decide) ((u448.2 _ _ (Or.inr (by decide))).trans ((u447.2 _ _ (Or.inr (by decide))).trans ((u441.2 _ _ (Or.inr (by decide))).trans ((u440.2 _ _ (Or.inr (by decide))).trans hg4)))) ?_
                      refine ts_i (p2 := 130) (i := 199) (n := 6) rfl rfl I448 rfl rfl rfl rfl (by decide) (by decide) (by omega) (by omega) (by omega) rfl (fun h454 I454 u454 => ?_)
                      have f454 := fr_st (F := F_X12_nextOrder_6) 0 f448 u454 rfl (by decide) (by decide)
                      refine te_aload_n (p2 := 131) rfl rfl rfl ?_
                      refine tg_r (p2 := 134) (i := 148) (r := 215) rfl rfl I454 rfl rfl rfl ?_
                      refine te_iload (p2 := 136) rfl rfl rfl ?_
                      refine te_iload (p2 := 138) rfl rfl rfl ?_
                      refine ts_i (p2 := 139) (i := 199) (n := 6) rfl rfl I454 rfl rfl rfl rfl (by decide) (by decide) (by omega) (by omega) (by omega) rfl (fun h455 I455 u455 => ?_)
                      have f455 := fr_st (F := F_X12_nextOrder_6) 0 f454 u455 rfl (by decide) (by decide)
                      refine te_iinc (p2 := 142) (x := 4) (y := 3) (lv2 := [(6, .int 3), (7, .int g2), (5, .int 2), (4, .int g0), (3, .int 0), (2, .int 0), (0, .ref 164), (1, .int 6)]) rfl rfl (by decide) rfl (by decide) rfl ?_
                      refine te_iinc (p2 := 145) (x := 2) (y := 3) (lv2 := [(5, .int 3), (6, .int 3), (7, .int g2), (4, .int g0), (3, .int 0), (2, .int 0), (0, .ref 164), (1, .int 6)]) rfl rfl (by decide) rfl (by decide) rfl ?_
                      refine te_goto rfl ?_
                      refine te_iload (p2 := 102) rfl rfl rfl ?_
                      refine te_iload (p2 := 104) rfl rfl rfl ?_
                      refine tb_ge (p2 := 107) rfl rfl (show Int32.toInt 3 = 3 from rfl) (show Int32.toInt 3 = 3 from rfl) (fun c458 => ?_) (fun c458 => absurd c458 (by omega))
                      refine te_iconst (p2 := 149) (x := 1) rfl rfl (by decide) ?_
                      exact te_zret rfl rfl (by decide) ⟨I455, f455, _, rfl, Or.inr ⟨rfl, (by rw [pq_xe6, on6_6, (pq_of (k := 0) hg0 : pq_n h 199 0 = g0.toInt.toNat), (pq_of (k := 1) hg1 : pq_n h 199 1 = g1.toInt.toNat), (pq_of (k := 2) hg2 : pq_n h 199 2 = g2.toInt.toNat), (pq_of (k := 3) hg3 : pq_n h 199 3 = g3.toInt.toNat), (pq_of (k := 4) hg4 : pq_n h 199 4 = g4.toInt.toNat), (pq_of (k := 5) hg5 : pq_n h 199 5 = g5.toInt.toNat), (pq_of (k := 0) ((u455.2 _ _ (Or.inr (by decide))).trans ((u454.2 _ _ (Or.inr (by decide))).trans ((u448.2 _ _ (Or.inr (by decide))).trans ((u447.2 _ _ (Or.inr (by decide))).trans u441.1)))) : pq_n h455 199 0 = g0.toInt.toNat), (pq_of (k := 1) ((u455.2 _ _ (Or.inr (by decide))).trans ((u454.2 _ _ (Or.inr (by decide))).trans ((u448.2 _ _ (Or.inr (by decide))).trans u447.1))) : pq_n h455 199 1 = g5.toInt.toNat), (pq_of (k := 2) ((u455.2 _ _ (Or.inr (by decide))).trans u454.1) : pq_n h455 199 2 = g4.toInt.toNat), (pq_of (k := 3) ((u455.2 _ _ (Or.inr (by decide))).trans ((u454.2 _ _ (Or.inr (by decide))).trans ((u448.2 _ _ (Or.inr (by decide))).trans ((u447.2 _ _ (Or.inr (by decide))).trans ((u441.2 _ _ (Or.inr (by decide))).trans ((u440.2 _ _ (Or.inr (by decide))).trans hg3)))))) : pq_n h455 199 3 = g3.toInt.toNat), (pq_of (k := 4) u455.1 : pq_n h455 199 4 = g2.toInt.toNat), (pq_of (k := 5) ((u455.2 _ _ (Or.inr (by decide))).trans ((u454.2 _ _ (Or.inr (by decide))).trans u448.1)) : pq_n h455 199 5 = g1.toInt.toNat)]; unfold pq_x6; rw [if_pos (by omega), if_pos (by omega), if_pos (by omega), if_pos (by omega), if_neg (by omega), if_pos (by omega), if_pos (by omega), if_pos (by omega), if_pos (by omega), if_pos (by omega)]), g0, g5, g4, g3, g2, g1, ((u455.2 _ _ (Or.inr (by decide))).trans ((u454.2 _ _ (Or.inr (by decide))).trans ((u448.2 _ _ (Or.inr (by decide))).trans ((u447.2 _ _ (Or.inr (by decide))).trans u441.1)))), ((u455.2 _ _ (Or.inr (by decide))).trans ((u454.2 _ _ (Or.inr (by decide))).trans ((u448.2 _ _ (Or.inr (by decide))).trans u447.1))), ((u455.2 _ _ (Or.inr (by decide))).trans u454.1), ((u455.2 _ _ (Or.inr (by decide))).trans ((u454.2 _ _ (Or.inr (by decide))).trans ((u448.2 _ _ (Or.inr (by decide))).trans ((u447.2 _ _ (Or.inr (by decide))).trans ((u441.2 _ _ (Or.inr (by decide))).trans ((u440.2 _ _ (Or.inr (by decide))).trans hg3)))))), u455.1, ((u455.2 _ _ (Or.inr (by decide))).trans ((u454.2 _ _ (Or.inr (by decide))).trans u448.1)), (by unfold prm; omega), (by unfold lexV; omega)⟩⟩
          · refine te_iinc (p2 := 28) (x := 0) (y := (-1)) (lv2 := [(2, .int (-1)), (0, .ref 164), (1, .int 6)]) rfl rfl (by decide) rfl (by decide) rfl ?_
            refine te_goto rfl ?_
            refine te_iload_n (p2 := 5) rfl rfl rfl ?_
            refine tz_lt (p2 := 8) rfl rfl (show Int32.toInt (-1) = (-1) from rfl) (fun c460 => ?_) (fun c460 => absurd c460 (by omega))
            refine te_iload_n (p2 := 32) rfl rfl rfl ?_
            refine tz_ge (p2 := 35) rfl rfl (show Int32.toInt (-1) = (-1) from rfl) (fun c461 => absurd c461 (by omega)) (fun c461 => ?_)
            refine te_iconst (p2 := 36) (x := 0) rfl rfl (by decide) ?_
            exact te_zret rfl rfl (by decide) ⟨hI, f0, _, rfl, Or.inl ⟨rfl, (by rw [pq_xe6, (pq_of (k := 0) hg0 : pq_n h 199 0 = g0.toInt.toNat), (pq_of (k := 1) hg1 : pq_n h 199 1 = g1.toInt.toNat), (pq_of (k := 2) hg2 : pq_n h 199 2 = g2.toInt.toNat), (pq_of (k := 3) hg3 : pq_n h 199 3 = g3.toInt.toNat), (pq_of (k := 4) hg4 : pq_n h 199 4 = g4.toInt.toNat), (pq_of (k := 5) hg5 : pq_n h 199 5 = g5.toInt.toNat)]; unfold pq_x6; rw [if_pos (by omega), if_pos (by omega), if_pos (by omega), if_pos (by omega), if_pos (by omega)])⟩⟩
set_option maxRecDepth 10000 in
set_option maxHeartbeats 2000000 in
theorem c_X12_nextOrder {n : Int32} {g0 g1 g2 g3 g4 g5 : Int32} {h : im_H} (hI : tI h) (n0 : 1 ≤ n.toInt) (n1 : n.toInt ≤ 6) (e0 : rd h 199 (Int32.toInt 0).toNat = some (.int g0)) (a0 : 0 ≤ g0.toInt) (b0 : g0.toInt ≤ 5) (e1 : rd h 199 (Int32.toInt 1).toNat = some (.int g1)) (a1 : 0 ≤ g1.toInt) (b1 : g1.toInt ≤ 5) (e2 : rd h 199 (Int32.toInt 2).toNat = some (.int g2)) (a2 : 0 ≤ g2.toInt) (b2 : g2.toInt ≤ 5) (e3 : rd h 199 (Int32.toInt 3).toNat = some (.int g3)) (a3 : 0 ≤ g3.toInt) (b3 : g3.toInt ≤ 5) (e4 : rd h 199 (Int32.toInt 4).toNat = some (.int g4)) (a4 : 0 ≤ g4.toInt) (b4 : g4.toInt ≤ 5) (e5 : rd h 199 (Int32.toInt 5).toNat = some (.int g5)) (a5 : 0 ≤ g5.toInt) (b5 : g5.toInt ≤ 5) (hp : prm n.toInt g0.toInt g1.toInt g2.toInt g3.toInt g4.toInt g5.toInt) : CaP 1 167 [.ref 164, .int n] h (fun v h2 => tI h2 ∧ fr [(199, 0, 5)] h h2 ∧ ∃ y : Int32, v = some (.int y) ∧ ((y = 0 ∧ pq_x n.toInt.toNat (on6 n.toInt.toNat (pq_n h 199)) = none) ∨ (y = 1 ∧ pq_x n.toInt.toNat (on6 n.toInt.toNat (pq_n h 199)) = some (on6 n.toInt.toNat (pq_n h2 199)) ∧ ∃ k0 k1 k2 k3 k4 k5 : Int32, rd h2 199 (Int32.toInt 0).toNat = some (.int k0) ∧ rd h2 199 (Int32.toInt 1).toNat = some (.int k1) ∧ rd h2 199 (Int32.toInt 2).toNat = some (.int k2) ∧ rd h2 199 (Int32.toInt 3).toNat = some (.int k3) ∧ rd h2 199 (Int32.toInt 4).toNat = some (.int k4) ∧ rd h2 199 (Int32.toInt 5).toNat = some (.int k5) ∧ prm n.toInt k0.toInt k1.toInt k2.toInt k3.toInt k4.toInt k5.toInt ∧ lexV g0.toInt g1.toInt g2.toInt g3.toInt g4.toInt g5.toInt < lexV k0.toInt k1.toInt k2.toInt k3.toInt k4.toInt k5.toInt))) := by
  rcases (show n.toInt = 1 ∨ n.toInt = 2 ∨ n.toInt = 3 ∨ n.toInt = 4 ∨ n.toInt = 5 ∨ n.toInt = 6 by omega) with hn | hn | hn | hn | hn | hn
  · obtain rfl : n = 1 := i32_ext hn
    rw [show (Int32.toInt 1).toNat = 1 from rfl]
    exact c_X12_nextOrder_1 hI e0 a0 b0 e1 a1 b1 e2 a2 b2 e3 a3 b3 e4 a4 b4 e5 a5 b5 hp
  · obtain rfl : n = 2 := i32_ext hn
    rw [show (Int32.toInt 2).toNat = 2 from rfl]
    exact c_X12_nextOrder_2 hI e0 a0 b0 e1 a1 b1 e2 a2 b2 e3 a3 b3 e4 a4 b4 e5 a5 b5 hp
  · obtain rfl : n = 3 := i32_ext hn
    rw [show (Int32.toInt 3).toNat = 3 from rfl]
    exact c_X12_nextOrder_3 hI e0 a0 b0 e1 a1 b1 e2 a2 b2 e3 a3 b3 e4 a4 b4 e5 a5 b5 hp
  · obtain rfl : n = 4 := i32_ext hn
    rw [show (Int32.toInt 4).toNat = 4 from rfl]
    exact c_X12_nextOrder_4 hI e0 a0 b0 e1 a1 b1 e2 a2 b2 e3 a3 b3 e4 a4 b4 e5 a5 b5 hp
  · obtain rfl : n = 5 := i32_ext hn
    rw [show (Int32.toInt 5).toNat = 5 from rfl]
    exact c_X12_nextOrder_5 hI e0 a0 b0 e1 a1 b1 e2 a2 b2 e3 a3 b3 e4 a4 b4 e5 a5 b5 hp
  · obtain rfl : n = 6 := i32_ext hn
    rw [show (Int32.toInt 6).toNat = 6 from rfl]
    exact c_X12_nextOrder_6 hI e0 a0 b0 e1 a1 b1 e2 a2 b2 e3 a3 b3 e4 a4 b4 e5 a5 b5 hp
