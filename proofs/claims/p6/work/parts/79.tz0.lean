def bec (s o : Nat) (h h2 : im_H) : Prop := (rd h2 s 0 = rd h o 0 ∧ rd h2 s 1 = rd h o 1 ∧ rd h2 s 2 = rd h o 2 ∧ rd h2 s 3 = rd h o 3 ∧ rd h2 s 4 = rd h o 4) ∧ ((∀ k : Nat, (k : Int) < 3 → rd h2 (s + 1) k = rd h (o + 1) k) ∧ (∀ k : Nat, (k : Int) < 100 → rd h2 (s + 2) k = rd h (o + 2) k) ∧ (∀ k : Nat, (k : Int) < 24 → rd h2 (s + 3) k = rd h (o + 3) k) ∧ (∀ k : Nat, (k : Int) < 24 → rd h2 (s + 4) k = rd h (o + 4) k) ∧ (∀ k : Nat, (k : Int) < 24 → rd h2 (s + 5) k = rd h (o + 5) k) ∧ (∀ k : Nat, (k : Int) < 24 → rd h2 (s + 6) k = rd h (o + 6) k) ∧ (∀ k : Nat, (k : Int) < 24 → rd h2 (s + 7) k = rd h (o + 7) k) ∧ (∀ k : Nat, (k : Int) < 16 → rd h2 (s + 8) k = rd h (o + 8) k) ∧ (∀ k : Nat, (k : Int) < 16 → rd h2 (s + 9) k = rd h (o + 9) k) ∧ (∀ k : Nat, (k : Int) < 12 → rd h2 (s + 10) k = rd h (o + 10) k) ∧ (∀ k : Nat, (k : Int) < 4 → rd h2 (s + 11) k = rd h (o + 11) k) ∧ (∀ k : Nat, (k : Int) < 4 → rd h2 (s + 12) k = rd h (o + 12) k) ∧ (∀ k : Nat, (k : Int) < 3 → rd h2 (s + 13) k = rd h (o + 13) k))
theorem bec_r {s o : Nat} {h h1 h2 : im_H} (B : bec s o h h1) (e : ∀ i k, s ≤ i → i ≤ s + 13 → rd h2 i k = rd h1 i k) : bec s o h h2 := by
  obtain ⟨⟨f0, f1, f2, f3, f4⟩, r0, r1, r2, r3, r4, r5, r6, r7, r8, r9, r10, r11, r12⟩ := B
  exact ⟨⟨(e _ _ (by omega) (by omega)).trans f0, (e _ _ (by omega) (by omega)).trans f1, (e _ _ (by omega) (by omega)).trans f2, (e _ _ (by omega) (by omega)).trans f3, (e _ _ (by omega) (by omega)).trans f4⟩, fun k hk => (e _ _ (by omega) (by omega)).trans (r0 k hk), fun k hk => (e _ _ (by omega) (by omega)).trans (r1 k hk), fun k hk => (e _ _ (by omega) (by omega)).trans (r2 k hk), fun k hk => (e _ _ (by omega) (by omega)).trans (r3 k hk), fun k hk => (e _ _ (by omega) (by omega)).trans (r4 k hk), fun k hk => (e _ _ (by omega) (by omega)).trans (r5 k hk), fun k hk => (e _ _ (by omega) (by omega)).trans (r6 k hk), fun k hk => (e _ _ (by omega) (by omega)).trans (r7 k hk), fun k hk => (e _ _ (by omega) (by omega)).trans (r8 k hk), fun k hk => (e _ _ (by omega) (by omega)).trans (r9 k hk), fun k hk => (e _ _ (by omega) (by omega)).trans (r10 k hk), fun k hk => (e _ _ (by omega) (by omega)).trans (r11 k hk), fun k hk => (e _ _ (by omega) (by omega)).trans (r12 k hk)⟩
set_option maxRecDepth 20000 in
set_option maxHeartbeats 4000000 in
theorem c_X9_become {s : Nat} {o : Nat} {h : im_H} (hI : tI h) (q_s : s = 23 ∨ s = 37 ∨ s = 51) (q_o : o = 23 ∨ o = 37 ∨ o = 51) : CaP 1 46 [.ref (16 + s), .ref (16 + o)] h (fun v h2 => tI h2 ∧ fr (F_X9_become s o) h h2 ∧ v = none ∧ bec s o h h2) := by
  refine cap_of (d := 0) (M := mX9_become) rfl (Nat.le_of_ble_eq_true rfl) ?_
  show EvP im_K0 0 mX9_become (0, [(0, .ref (16 + s)), (1, .ref (16 + o))], [], h) _
  have f0 : fr (F_X9_become s o) h h := fr_rf
  refine te_aload_n (p2 := 1) rfl rfl rfl ?_
  refine te_aload_n (p2 := 2) rfl rfl rfl ?_
  refine tg_i (p2 := 5) (i := o) rfl rfl hI rfl (by rcases q_o with rfl | rfl | rfl <;> rfl) (by rcases q_o with rfl | rfl | rfl <;> rfl) (fun y1 a1 b1 e1 => ?_)
  refine tp_i (p2 := 8) (i := s) rfl rfl hI rfl (by rcases q_s with rfl | rfl | rfl <;> rfl) (by decide) rfl rfl (by rcases q_s with rfl | rfl | rfl <;> rfl) (i32_lo _) (i32_hi _) (i32_ho _) (by rcases q_s with rfl | rfl | rfl <;> rfl) (fun h2 I2 u2 => ?_)
  have f2 := fr_st (F := (F_X9_become s o)) 13 f0 u2 rfl (by decide) (by decide)
  refine te_aload_n (p2 := 9) rfl rfl rfl ?_
  refine te_aload_n (p2 := 10) rfl rfl rfl ?_
  refine tg_i (p2 := 13) (i := o) rfl rfl I2 rfl (by rcases q_o with rfl | rfl | rfl <;> rfl) (by rcases q_o with rfl | rfl | rfl <;> rfl) (fun y3 a3 b3 e3 => ?_)
  refine tp_i (p2 := 16) (i := s) rfl rfl I2 rfl (by rcases q_s with rfl | rfl | rfl <;> rfl) (by decide) rfl rfl (by rcases q_s with rfl | rfl | rfl <;> rfl) (i32_lo _) (i32_hi _) (i32_ho _) (by rcases q_s with rfl | rfl | rfl <;> rfl) (fun h4 I4 u4 => ?_)
  have f4 := fr_st (F := (F_X9_become s o)) 13 f2 u4 rfl (by decide) (by decide)
  refine te_aload_n (p2 := 17) rfl rfl rfl ?_
  refine te_aload_n (p2 := 18) rfl rfl rfl ?_
  refine tg_i (p2 := 21) (i := o) rfl rfl I4 rfl (by rcases q_o with rfl | rfl | rfl <;> rfl) (by rcases q_o with rfl | rfl | rfl <;> rfl) (fun y5 a5 b5 e5 => ?_)
  refine tp_i (p2 := 24) (i := s) rfl rfl I4 rfl (by rcases q_s with rfl | rfl | rfl <;> rfl) (by decide) rfl rfl (by rcases q_s with rfl | rfl | rfl <;> rfl) (i32_lo _) (i32_hi _) (i32_ho _) (by rcases q_s with rfl | rfl | rfl <;> rfl) (fun h6 I6 u6 => ?_)
  have f6 := fr_st (F := (F_X9_become s o)) 13 f4 u6 rfl (by decide) (by decide)
  refine te_aload_n (p2 := 25) rfl rfl rfl ?_
  refine te_aload_n (p2 := 26) rfl rfl rfl ?_
  refine tg_i (p2 := 29) (i := o) rfl rfl I6 rfl (by rcases q_o with rfl | rfl | rfl <;> rfl) (by rcases q_o with rfl | rfl | rfl <;> rfl) (fun y7 a7 b7 e7 => ?_)
  refine tp_i (p2 := 32) (i := s) rfl rfl I6 rfl (by rcases q_s with rfl | rfl | rfl <;> rfl) (by decide) rfl rfl (by rcases q_s with rfl | rfl | rfl <;> rfl) (i32_lo _) (i32_hi _) (i32_ho _) (by rcases q_s with rfl | rfl | rfl <;> rfl) (fun h8 I8 u8 => ?_)
  have f8 := fr_st (F := (F_X9_become s o)) 13 f6 u8 rfl (by decide) (by decide)
  refine te_aload_n (p2 := 33) rfl rfl rfl ?_
  refine te_aload_n (p2 := 34) rfl rfl rfl ?_
  refine tg_i (p2 := 37) (i := o) rfl rfl I8 rfl (by rcases q_o with rfl | rfl | rfl <;> rfl) (by rcases q_o with rfl | rfl | rfl <;> rfl) (fun y9 a9 b9 e9 => ?_)
  refine tp_i (p2 := 40) (i := s) rfl rfl I8 rfl (by rcases q_s with rfl | rfl | rfl <;> rfl) (by decide) rfl rfl (by rcases q_s with rfl | rfl | rfl <;> rfl) (i32_lo _) (i32_hi _) (i32_ho _) (by rcases q_s with rfl | rfl | rfl <;> rfl) (fun h10 I10 u10 => ?_)
  have f10 := fr_st (F := (F_X9_become s o)) 13 f8 u10 rfl (by decide) (by decide)
  refine te_aload_n (p2 := 41) rfl rfl rfl ?_
  refine tg_r (p2 := 44) (i := o) (r := (16 + (o + 1))) rfl rfl I10 rfl (by rcases q_o with rfl | rfl | rfl <;> rfl) (by rcases q_o with rfl | rfl | rfl <;> rfl) ?_
  refine te_iconst (p2 := 45) (x := 0) rfl rfl (by decide) ?_
  refine te_aload_n (p2 := 46) rfl rfl rfl ?_
  refine tg_r (p2 := 49) (i := s) (r := (16 + (s + 1))) rfl rfl I10 rfl (by rcases q_s with rfl | rfl | rfl <;> rfl) (by rcases q_s with rfl | rfl | rfl <;> rfl) ?_
  refine te_iconst (p2 := 50) (x := 0) rfl rfl (by decide) ?_
  refine te_iconst (p2 := 51) (x := 3) rfl rfl (by decide) ?_
  refine tc_cp (p2 := 54) (i1 := (o + 1)) (i2 := (s + 1)) (n1 := 3) (n2 := 3) rfl rfl I10 rfl rfl (by rcases q_o with rfl | rfl | rfl <;> rfl) (by rcases q_s with rfl | rfl | rfl <;> rfl) (by rcases q_o with rfl | rfl | rfl <;> rfl) (by rcases q_s with rfl | rfl | rfl <;> rfl) rfl rfl (Or.inl rfl) (show Int32.toInt 0 = 0 from rfl) (show Int32.toInt 0 = 0 from rfl) (show Int32.toInt 3 = 3 from rfl) (by decide) (by decide) (by decide) (by decide) (by decide) rfl (by rcases q_s with rfl | rfl | rfl <;> rfl) (fun h11 I11 c11 u11 => ?_)
  have f11 := fr_cp (F := (F_X9_become s o)) (i := (s + 1)) (a := 0) (b := 2) f10 u11 (List.mem_of_getElem? (i := 0) rfl) (by decide) (by decide)
  refine te_aload_n (p2 := 55) rfl rfl rfl ?_
  refine tg_r (p2 := 58) (i := o) (r := (16 + (o + 2))) rfl rfl I11 rfl (by rcases q_o with rfl | rfl | rfl <;> rfl) (by rcases q_o with rfl | rfl | rfl <;> rfl) ?_
  refine te_iconst (p2 := 59) (x := 0) rfl rfl (by decide) ?_
  refine te_aload_n (p2 := 60) rfl rfl rfl ?_
  refine tg_r (p2 := 63) (i := s) (r := (16 + (s + 2))) rfl rfl I11 rfl (by rcases q_s with rfl | rfl | rfl <;> rfl) (by rcases q_s with rfl | rfl | rfl <;> rfl) ?_
  refine te_iconst (p2 := 64) (x := 0) rfl rfl (by decide) ?_
  refine te_bipush (p2 := 66) (x := 100) rfl rfl (by decide) ?_
  refine tc_cp (p2 := 69) (i1 := (o + 2)) (i2 := (s + 2)) (n1 := 100) (n2 := 100) rfl rfl I11 rfl rfl (by rcases q_o with rfl | rfl | rfl <;> rfl) (by rcases q_s with rfl | rfl | rfl <;> rfl) (by rcases q_o with rfl | rfl | rfl <;> rfl) (by rcases q_s with rfl | rfl | rfl <;> rfl) rfl rfl (Or.inl rfl) (show Int32.toInt 0 = 0 from rfl) (show Int32.toInt 0 = 0 from rfl) (show Int32.toInt 100 = 100 from rfl) (by decide) (by decide) (by decide) (by decide) (by decide) rfl (by rcases q_s with rfl | rfl | rfl <;> rfl) (fun h12 I12 c12 u12 => ?_)
  have f12 := fr_cp (F := (F_X9_become s o)) (i := (s + 2)) (a := 0) (b := 99) f11 u12 (List.mem_of_getElem? (i := 5) rfl) (by decide) (by decide)
  refine te_aload_n (p2 := 70) rfl rfl rfl ?_
  refine tg_r (p2 := 73) (i := o) (r := (16 + (o + 3))) rfl rfl I12 rfl (by rcases q_o with rfl | rfl | rfl <;> rfl) (by rcases q_o with rfl | rfl | rfl <;> rfl) ?_
  refine te_iconst (p2 := 74) (x := 0) rfl rfl (by decide) ?_
  refine te_aload_n (p2 := 75) rfl rfl rfl ?_
  refine tg_r (p2 := 78) (i := s) (r := (16 + (s + 3))) rfl rfl I12 rfl (by rcases q_s with rfl | rfl | rfl <;> rfl) (by rcases q_s with rfl | rfl | rfl <;> rfl) ?_
  refine te_iconst (p2 := 79) (x := 0) rfl rfl (by decide) ?_
  refine te_bipush (p2 := 81) (x := 24) rfl rfl (by decide) ?_
  refine tc_cp (p2 := 84) (i1 := (o + 3)) (i2 := (s + 3)) (n1 := 24) (n2 := 24) rfl rfl I12 rfl rfl (by rcases q_o with rfl | rfl | rfl <;> rfl) (by rcases q_s with rfl | rfl | rfl <;> rfl) (by rcases q_o with rfl | rfl | rfl <;> rfl) (by rcases q_s with rfl | rfl | rfl <;> rfl) rfl rfl (Or.inl rfl) (show Int32.toInt 0 = 0 from rfl) (show Int32.toInt 0 = 0 from rfl) (show Int32.toInt 24 = 24 from rfl) (by decide) (by decide) (by decide) (by decide) (by decide) rfl (by rcases q_s with rfl | rfl | rfl <;> rfl) (fun h13 I13 c13 u13 => ?_)
  have f13 := fr_cp (F := (F_X9_become s o)) (i := (s + 3)) (a := 0) (b := 23) f12 u13 (List.mem_of_getElem? (i := 6) rfl) (by decide) (by decide)
  refine te_aload_n (p2 := 85) rfl rfl rfl ?_
  refine tg_r (p2 := 88) (i := o) (r := (16 + (o + 4))) rfl rfl I13 rfl (by rcases q_o with rfl | rfl | rfl <;> rfl) (by rcases q_o with rfl | rfl | rfl <;> rfl) ?_
  refine te_iconst (p2 := 89) (x := 0) rfl rfl (by decide) ?_
  refine te_aload_n (p2 := 90) rfl rfl rfl ?_
  refine tg_r (p2 := 93) (i := s) (r := (16 + (s + 4))) rfl rfl I13 rfl (by rcases q_s with rfl | rfl | rfl <;> rfl) (by rcases q_s with rfl | rfl | rfl <;> rfl) ?_
  refine te_iconst (p2 := 94) (x := 0) rfl rfl (by decide) ?_
  refine te_bipush (p2 := 96) (x := 24) rfl rfl (by decide) ?_
  refine tc_cp (p2 := 99) (i1 := (o + 4)) (i2 := (s + 4)) (n1 := 24) (n2 := 24) rfl rfl I13 rfl rfl (by rcases q_o with rfl | rfl | rfl <;> rfl) (by rcases q_s with rfl | rfl | rfl <;> rfl) (by rcases q_o with rfl | rfl | rfl <;> rfl) (by rcases q_s with rfl | rfl | rfl <;> rfl) rfl rfl (Or.inl rfl) (show Int32.toInt 0 = 0 from rfl) (show Int32.toInt 0 = 0 from rfl) (show Int32.toInt 24 = 24 from rfl) (by decide) (by decide) (by decide) (by decide) (by decide) rfl (by rcases q_s with rfl | rfl | rfl <;> rfl) (fun h14 I14 c14 u14 => ?_)
  have f14 := fr_cp (F := (F_X9_become s o)) (i := (s + 4)) (a := 0) (b := 23) f13 u14 (List.mem_of_getElem? (i := 7) rfl) (by decide) (by decide)
  refine te_aload_n (p2 := 100) rfl rfl rfl ?_
  refine tg_r (p2 := 103) (i := o) (r := (16 + (o + 5))) rfl rfl I14 rfl (by rcases q_o with rfl | rfl | rfl <;> rfl) (by rcases q_o with rfl | rfl | rfl <;> rfl) ?_
  refine te_iconst (p2 := 104) (x := 0) rfl rfl (by decide) ?_
  refine te_aload_n (p2 := 105) rfl rfl rfl ?_
  refine tg_r (p2 := 108) (i := s) (r := (16 + (s + 5))) rfl rfl I14 rfl (by rcases q_s with rfl | rfl | rfl <;> rfl) (by rcases q_s with rfl | rfl | rfl <;> rfl) ?_
  refine te_iconst (p2 := 109) (x := 0) rfl rfl (by decide) ?_
  refine te_bipush (p2 := 111) (x := 24) rfl rfl (by decide) ?_
  refine tc_cp (p2 := 114) (i1 := (o + 5)) (i2 := (s + 5)) (n1 := 24) (n2 := 24) rfl rfl I14 rfl rfl (by rcases q_o with rfl | rfl | rfl <;> rfl) (by rcases q_s with rfl | rfl | rfl <;> rfl) (by rcases q_o with rfl | rfl | rfl <;> rfl) (by rcases q_s with rfl | rfl | rfl <;> rfl) rfl rfl (Or.inl rfl) (show Int32.toInt 0 = 0 from rfl) (show Int32.toInt 0 = 0 from rfl) (show Int32.toInt 24 = 24 from rfl) (by decide) (by decide) (by decide) (by decide) (by decide) rfl (by rcases q_s with rfl | rfl | rfl <;> rfl) (fun h15 I15 c15 u15 => ?_)
  have f15 := fr_cp (F := (F_X9_become s o)) (i := (s + 5)) (a := 0) (b := 23) f14 u15 (List.mem_of_getElem? (i := 8) rfl) (by decide) (by decide)
  refine te_aload_n (p2 := 115) rfl rfl rfl ?_
  refine tg_r (p2 := 118) (i := o) (r := (16 + (o + 6))) rfl rfl I15 rfl (by rcases q_o with rfl | rfl | rfl <;> rfl) (by rcases q_o with rfl | rfl | rfl <;> rfl) ?_
  refine te_iconst (p2 := 119) (x := 0) rfl rfl (by decide) ?_
  refine te_aload_n (p2 := 120) rfl rfl rfl ?_
  refine tg_r (p2 := 123) (i := s) (r := (16 + (s + 6))) rfl rfl I15 rfl (by rcases q_s with rfl | rfl | rfl <;> rfl) (by rcases q_s with rfl | rfl | rfl <;> rfl) ?_
  refine te_iconst (p2 := 124) (x := 0) rfl rfl (by decide) ?_
  refine te_bipush (p2 := 126) (x := 24) rfl rfl (by decide) ?_
  refine tc_cp (p2 := 129) (i1 := (o + 6)) (i2 := (s + 6)) (n1 := 24) (n2 := 24) rfl rfl I15 rfl rfl (by rcases q_o with rfl | rfl | rfl <;> rfl) (by rcases q_s with rfl | rfl | rfl <;> rfl) (by rcases q_o with rfl | rfl | rfl <;> rfl) (by rcases q_s with rfl | rfl | rfl <;> rfl) rfl rfl (Or.inl rfl) (show Int32.toInt 0 = 0 from rfl) (show Int32.toInt 0 = 0 from rfl) (show Int32.toInt 24 = 24 from rfl) (by decide) (by decide) (by decide) (by decide) (by decide) rfl (by rcases q_s with rfl | rfl | rfl <;> rfl) (fun h16 I16 c16 u16 => ?_)
  have f16 := fr_cp (F := (F_X9_become s o)) (i := (s + 6)) (a := 0) (b := 23) f15 u16 (List.mem_of_getElem? (i := 9) rfl) (by decide) (by decide)
  refine te_aload_n (p2 := 130) rfl rfl rfl ?_
  refine tg_r (p2 := 133) (i := o) (r := (16 + (o + 7))) rfl rfl I16 rfl (by rcases q_o with rfl | rfl | rfl <;> rfl) (by rcases q_o with rfl | rfl | rfl <;> rfl) ?_
  refine te_iconst (p2 := 134) (x := 0) rfl rfl (by decide) ?_
  refine te_aload_n (p2 := 135) rfl rfl rfl ?_
  refine tg_r (p2 := 138) (i := s) (r := (16 + (s + 7))) rfl rfl I16 rfl (by rcases q_s with rfl | rfl | rfl <;> rfl) (by rcases q_s with rfl | rfl | rfl <;> rfl) ?_
  refine te_iconst (p2 := 139) (x := 0) rfl rfl (by decide) ?_
  refine te_bipush (p2 := 141) (x := 24) rfl rfl (by decide) ?_
  refine tc_cp (p2 := 144) (i1 := (o + 7)) (i2 := (s + 7)) (n1 := 24) (n2 := 24) rfl rfl I16 rfl rfl (by rcases q_o with rfl | rfl | rfl <;> rfl) (by rcases q_s with rfl | rfl | rfl <;> rfl) (by rcases q_o with rfl | rfl | rfl <;> rfl) (by rcases q_s with rfl | rfl | rfl <;> rfl) rfl rfl (Or.inr ⟨rfl, rfl, rfl⟩) (show Int32.toInt 0 = 0 from rfl) (show Int32.toInt 0 = 0 from rfl) (show Int32.toInt 24 = 24 from rfl) (by decide) (by decide) (by decide) (by decide) (by decide) rfl (by rcases q_s with rfl | rfl | rfl <;> rfl) (fun h17 I17 c17 u17 => ?_)
  have f17 := fr_cp (F := (F_X9_become s o)) (i := (s + 7)) (a := 0) (b := 23) f16 u17 (List.mem_of_getElem? (i := 10) rfl) (by decide) (by decide)
  refine te_aload_n (p2 := 145) rfl rfl rfl ?_
  refine tg_r (p2 := 148) (i := o) (r := (16 + (o + 8))) rfl rfl I17 rfl (by rcases q_o with rfl | rfl | rfl <;> rfl) (by rcases q_o with rfl | rfl | rfl <;> rfl) ?_
  refine te_iconst (p2 := 149) (x := 0) rfl rfl (by decide) ?_
  refine te_aload_n (p2 := 150) rfl rfl rfl ?_
  refine tg_r (p2 := 153) (i := s) (r := (16 + (s + 8))) rfl rfl I17 rfl (by rcases q_s with rfl | rfl | rfl <;> rfl) (by rcases q_s with rfl | rfl | rfl <;> rfl) ?_
  refine te_iconst (p2 := 154) (x := 0) rfl rfl (by decide) ?_
  refine te_bipush (p2 := 156) (x := 16) rfl rfl (by decide) ?_
  refine tc_cp (p2 := 159) (i1 := (o + 8)) (i2 := (s + 8)) (n1 := 16) (n2 := 16) rfl rfl I17 rfl rfl (by rcases q_o with rfl | rfl | rfl <;> rfl) (by rcases q_s with rfl | rfl | rfl <;> rfl) (by rcases q_o with rfl | rfl | rfl <;> rfl) (by rcases q_s with rfl | rfl | rfl <;> rfl) rfl rfl (Or.inl rfl) (show Int32.toInt 0 = 0 from rfl) (show Int32.toInt 0 = 0 from rfl) (show Int32.toInt 16 = 16 from rfl) (by decide) (by decide) (by decide) (by decide) (by decide) rfl (by rcases q_s with rfl | rfl | rfl <;> rfl) (fun h18 I18 c18 u18 => ?_)
  have f18 := fr_cp (F := (F_X9_become s o)) (i := (s + 8)) (a := 0) (b := 15) f17 u18 (List.mem_of_getElem? (i := 11) rfl) (by decide) (by decide)
  refine te_aload_n (p2 := 160) rfl rfl rfl ?_
  refine tg_r (p2 := 163) (i := o) (r := (16 + (o + 9))) rfl rfl I18 rfl (by rcases q_o with rfl | rfl | rfl <;> rfl) (by rcases q_o with rfl | rfl | rfl <;> rfl) ?_
  refine te_iconst (p2 := 164) (x := 0) rfl rfl (by decide) ?_
  refine te_aload_n (p2 := 165) rfl rfl rfl ?_
  refine tg_r (p2 := 168) (i := s) (r := (16 + (s + 9))) rfl rfl I18 rfl (by rcases q_s with rfl | rfl | rfl <;> rfl) (by rcases q_s with rfl | rfl | rfl <;> rfl) ?_
  refine te_iconst (p2 := 169) (x := 0) rfl rfl (by decide) ?_
  refine te_bipush (p2 := 171) (x := 16) rfl rfl (by decide) ?_
  refine tc_cp (p2 := 174) (i1 := (o + 9)) (i2 := (s + 9)) (n1 := 16) (n2 := 16) rfl rfl I18 rfl rfl (by rcases q_o with rfl | rfl | rfl <;> rfl) (by rcases q_s with rfl | rfl | rfl <;> rfl) (by rcases q_o with rfl | rfl | rfl <;> rfl) (by rcases q_s with rfl | rfl | rfl <;> rfl) rfl rfl (Or.inr ⟨rfl, rfl, rfl⟩) (show Int32.toInt 0 = 0 from rfl) (show Int32.toInt 0 = 0 from rfl) (show Int32.toInt 16 = 16 from rfl) (by decide) (by decide) (by decide) (by decide) (by decide) rfl (by rcases q_s with rfl | rfl | rfl <;> rfl) (fun h19 I19 c19 u19 => ?_)
  have f19 := fr_cp (F := (F_X9_become s o)) (i := (s + 9)) (a := 0) (b := 15) f18 u19 (List.mem_of_getElem? (i := 12) rfl) (by decide) (by decide)
  refine te_aload_n (p2 := 175) rfl rfl rfl ?_
  refine tg_r (p2 := 178) (i := o) (r := (16 + (o + 10))) rfl rfl I19 rfl (by rcases q_o with rfl | rfl | rfl <;> rfl) (by rcases q_o with rfl | rfl | rfl <;> rfl) ?_
  refine te_iconst (p2 := 179) (x := 0) rfl rfl (by decide) ?_
  refine te_aload_n (p2 := 180) rfl rfl rfl ?_
  refine tg_r (p2 := 183) (i := s) (r := (16 + (s + 10))) rfl rfl I19 rfl (by rcases q_s with rfl | rfl | rfl <;> rfl) (by rcases q_s with rfl | rfl | rfl <;> rfl) ?_
  refine te_iconst (p2 := 184) (x := 0) rfl rfl (by decide) ?_
  refine te_bipush (p2 := 186) (x := 12) rfl rfl (by decide) ?_
  refine tc_cp (p2 := 189) (i1 := (o + 10)) (i2 := (s + 10)) (n1 := 12) (n2 := 12) rfl rfl I19 rfl rfl (by rcases q_o with rfl | rfl | rfl <;> rfl) (by rcases q_s with rfl | rfl | rfl <;> rfl) (by rcases q_o with rfl | rfl | rfl <;> rfl) (by rcases q_s with rfl | rfl | rfl <;> rfl) rfl rfl (Or.inr ⟨rfl, rfl, rfl⟩) (show Int32.toInt 0 = 0 from rfl) (show Int32.toInt 0 = 0 from rfl) (show Int32.toInt 12 = 12 from rfl) (by decide) (by decide) (by decide) (by decide) (by decide) rfl (by rcases q_s with rfl | rfl | rfl <;> rfl) (fun h20 I20 c20 u20 => ?_)
  have f20 := fr_cp (F := (F_X9_become s o)) (i := (s + 10)) (a := 0) (b := 11) f19 u20 (List.mem_of_getElem? (i := 1) rfl) (by decide) (by decide)
  refine te_aload_n (p2 := 190) rfl rfl rfl ?_
  refine tg_r (p2 := 193) (i := o) (r := (16 + (o + 11))) rfl rfl I20 rfl (by rcases q_o with rfl | rfl | rfl <;> rfl) (by rcases q_o with rfl | rfl | rfl <;> rfl) ?_
  refine te_iconst (p2 := 194) (x := 0) rfl rfl (by decide) ?_
  refine te_aload_n (p2 := 195) rfl rfl rfl ?_
  refine tg_r (p2 := 198) (i := s) (r := (16 + (s + 11))) rfl rfl I20 rfl (by rcases q_s with rfl | rfl | rfl <;> rfl) (by rcases q_s with rfl | rfl | rfl <;> rfl) ?_
  refine te_iconst (p2 := 199) (x := 0) rfl rfl (by decide) ?_
  refine te_iconst (p2 := 200) (x := 4) rfl rfl (by decide) ?_
  refine tc_cp (p2 := 203) (i1 := (o + 11)) (i2 := (s + 11)) (n1 := 4) (n2 := 4) rfl rfl I20 rfl rfl (by rcases q_o with rfl | rfl | rfl <;> rfl) (by rcases q_s with rfl | rfl | rfl <;> rfl) (by rcases q_o with rfl | rfl | rfl <;> rfl) (by rcases q_s with rfl | rfl | rfl <;> rfl) rfl rfl (Or.inl rfl) (show Int32.toInt 0 = 0 from rfl) (show Int32.toInt 0 = 0 from rfl) (show Int32.toInt 4 = 4 from rfl) (by decide) (by decide) (by decide) (by decide) (by decide) rfl (by rcases q_s with rfl | rfl | rfl <;> rfl) (fun h21 I21 c21 u21 => ?_)
  have f21 := fr_cp (F := (F_X9_become s o)) (i := (s + 11)) (a := 0) (b := 3) f20 u21 (List.mem_of_getElem? (i := 2) rfl) (by decide) (by decide)
  refine te_aload_n (p2 := 204) rfl rfl rfl ?_
  refine tg_r (p2 := 207) (i := o) (r := (16 + (o + 12))) rfl rfl I21 rfl (by rcases q_o with rfl | rfl | rfl <;> rfl) (by rcases q_o with rfl | rfl | rfl <;> rfl) ?_
  refine te_iconst (p2 := 208) (x := 0) rfl rfl (by decide) ?_
  refine te_aload_n (p2 := 209) rfl rfl rfl ?_
  refine tg_r (p2 := 212) (i := s) (r := (16 + (s + 12))) rfl rfl I21 rfl (by rcases q_s with rfl | rfl | rfl <;> rfl) (by rcases q_s with rfl | rfl | rfl <;> rfl) ?_
  refine te_iconst (p2 := 213) (x := 0) rfl rfl (by decide) ?_
  refine te_iconst (p2 := 214) (x := 4) rfl rfl (by decide) ?_
  refine tc_cp (p2 := 217) (i1 := (o + 12)) (i2 := (s + 12)) (n1 := 4) (n2 := 4) rfl rfl I21 rfl rfl (by rcases q_o with rfl | rfl | rfl <;> rfl) (by rcases q_s with rfl | rfl | rfl <;> rfl) (by rcases q_o with rfl | rfl | rfl <;> rfl) (by rcases q_s with rfl | rfl | rfl <;> rfl) rfl rfl (Or.inl rfl) (show Int32.toInt 0 = 0 from rfl) (show Int32.toInt 0 = 0 from rfl) (show Int32.toInt 4 = 4 from rfl) (by decide) (by decide) (by decide) (by decide) (by decide) rfl (by rcases q_s with rfl | rfl | rfl <;> rfl) (fun h22 I22 c22 u22 => ?_)
  have f22 := fr_cp (F := (F_X9_become s o)) (i := (s + 12)) (a := 0) (b := 3) f21 u22 (List.mem_of_getElem? (i := 3) rfl) (by decide) (by decide)
  refine te_aload_n (p2 := 218) rfl rfl rfl ?_
  refine tg_r (p2 := 221) (i := o) (r := (16 + (o + 13))) rfl rfl I22 rfl (by rcases q_o with rfl | rfl | rfl <;> rfl) (by rcases q_o with rfl | rfl | rfl <;> rfl) ?_
  refine te_iconst (p2 := 222) (x := 0) rfl rfl (by decide) ?_
  refine te_aload_n (p2 := 223) rfl rfl rfl ?_
  refine tg_r (p2 := 226) (i := s) (r := (16 + (s + 13))) rfl rfl I22 rfl (by rcases q_s with rfl | rfl | rfl <;> rfl) (by rcases q_s with rfl | rfl | rfl <;> rfl) ?_
  refine te_iconst (p2 := 227) (x := 0) rfl rfl (by decide) ?_
  refine te_iconst (p2 := 228) (x := 3) rfl rfl (by decide) ?_
  refine tc_cp (p2 := 231) (i1 := (o + 13)) (i2 := (s + 13)) (n1 := 3) (n2 := 3) rfl rfl I22 rfl rfl (by rcases q_o with rfl | rfl | rfl <;> rfl) (by rcases q_s with rfl | rfl | rfl <;> rfl) (by rcases q_o with rfl | rfl | rfl <;> rfl) (by rcases q_s with rfl | rfl | rfl <;> rfl) rfl rfl (Or.inl rfl) (show Int32.toInt 0 = 0 from rfl) (show Int32.toInt 0 = 0 from rfl) (show Int32.toInt 3 = 3 from rfl) (by decide) (by decide) (by decide) (by decide) (by decide) rfl (by rcases q_s with rfl | rfl | rfl <;> rfl) (fun h23 I23 c23 u23 => ?_)
  have f23 := fr_cp (F := (F_X9_become s o)) (i := (s + 13)) (a := 0) (b := 2) f22 u23 (List.mem_of_getElem? (i := 4) rfl) (by decide) (by decide)
  exact te_vret rfl rfl ⟨I23, f23, rfl, ⟨((u23 _ _ (Or.inl (by omega))).trans ((u22 _ _ (Or.inl (by omega))).trans ((u21 _ _ (Or.inl (by omega))).trans ((u20 _ _ (Or.inl (by omega))).trans ((u19 _ _ (Or.inl (by omega))).trans ((u18 _ _ (Or.inl (by omega))).trans ((u17 _ _ (Or.inl (by omega))).trans ((u16 _ _ (Or.inl (by omega))).trans ((u15 _ _ (Or.inl (by omega))).trans ((u14 _ _ (Or.inl (by omega))).trans ((u13 _ _ (Or.inl (by omega))).trans ((u12 _ _ (Or.inl (by omega))).trans ((u11 _ _ (Or.inl (by omega))).trans ((u10.2 _ _ (Or.inr (by decide))).trans ((u8.2 _ _ (Or.inr (by decide))).trans ((u6.2 _ _ (Or.inr (by decide))).trans ((u4.2 _ _ (Or.inr (by decide))).trans u2.1))))))))))))))))).trans e1.symm, (((u23 _ _ (Or.inl (by omega))).trans ((u22 _ _ (Or.inl (by omega))).trans ((u21 _ _ (Or.inl (by omega))).trans ((u20 _ _ (Or.inl (by omega))).trans ((u19 _ _ (Or.inl (by omega))).trans ((u18 _ _ (Or.inl (by omega))).trans ((u17 _ _ (Or.inl (by omega))).trans ((u16 _ _ (Or.inl (by omega))).trans ((u15 _ _ (Or.inl (by omega))).trans ((u14 _ _ (Or.inl (by omega))).trans ((u13 _ _ (Or.inl (by omega))).trans ((u12 _ _ (Or.inl (by omega))).trans ((u11 _ _ (Or.inl (by omega))).trans ((u10.2 _ _ (Or.inr (by decide))).trans ((u8.2 _ _ (Or.inr (by decide))).trans ((u6.2 _ _ (Or.inr (by decide))).trans u4.1)))))))))))))))).trans e3.symm).trans (u2.2 _ _ (Or.inr (by decide))), ((((u23 _ _ (Or.inl (by omega))).trans ((u22 _ _ (Or.inl (by omega))).trans ((u21 _ _ (Or.inl (by omega))).trans ((u20 _ _ (Or.inl (by omega))).trans ((u19 _ _ (Or.inl (by omega))).trans ((u18 _ _ (Or.inl (by omega))).trans ((u17 _ _ (Or.inl (by omega))).trans ((u16 _ _ (Or.inl (by omega))).trans ((u15 _ _ (Or.inl (by omega))).trans ((u14 _ _ (Or.inl (by omega))).trans ((u13 _ _ (Or.inl (by omega))).trans ((u12 _ _ (Or.inl (by omega))).trans ((u11 _ _ (Or.inl (by omega))).trans ((u10.2 _ _ (Or.inr (by decide))).trans ((u8.2 _ _ (Or.inr (by decide))).trans u6.1))))))))))))))).trans e5.symm).trans (u4.2 _ _ (Or.inr (by decide)))).trans (u2.2 _ _ (Or.inr (by decide))), (((((u23 _ _ (Or.inl (by omega))).trans ((u22 _ _ (Or.inl (by omega))).trans ((u21 _ _ (Or.inl (by omega))).trans ((u20 _ _ (Or.inl (by omega))).trans ((u19 _ _ (Or.inl (by omega))).trans ((u18 _ _ (Or.inl (by omega))).trans ((u17 _ _ (Or.inl (by omega))).trans ((u16 _ _ (Or.inl (by omega))).trans ((u15 _ _ (Or.inl (by omega))).trans ((u14 _ _ (Or.inl (by omega))).trans ((u13 _ _ (Or.inl (by omega))).trans ((u12 _ _ (Or.inl (by omega))).trans ((u11 _ _ (Or.inl (by omega))).trans ((u10.2 _ _ (Or.inr (by decide))).trans u8.1)))))))))))))).trans e7.symm).trans (u6.2 _ _ (Or.inr (by decide)))).trans (u4.2 _ _ (Or.inr (by decide)))).trans (u2.2 _ _ (Or.inr (by decide))), ((((((u23 _ _ (Or.inl (by omega))).trans ((u22 _ _ (Or.inl (by omega))).trans ((u21 _ _ (Or.inl (by omega))).trans ((u20 _ _ (Or.inl (by omega))).trans ((u19 _ _ (Or.inl (by omega))).trans ((u18 _ _ (Or.inl (by omega))).trans ((u17 _ _ (Or.inl (by omega))).trans ((u16 _ _ (Or.inl (by omega))).trans ((u15 _ _ (Or.inl (by omega))).trans ((u14 _ _ (Or.inl (by omega))).trans ((u13 _ _ (Or.inl (by omega))).trans ((u12 _ _ (Or.inl (by omega))).trans ((u11 _ _ (Or.inl (by omega))).trans u10.1))))))))))))).trans e9.symm).trans (u8.2 _ _ (Or.inr (by decide)))).trans (u6.2 _ _ (Or.inr (by decide)))).trans (u4.2 _ _ (Or.inr (by decide)))).trans (u2.2 _ _ (Or.inr (by decide)))⟩, (fun k hk => ((((((u23 _ _ (Or.inl (by omega))).trans ((u22 _ _ (Or.inl (by omega))).trans ((u21 _ _ (Or.inl (by omega))).trans ((u20 _ _ (Or.inl (by omega))).trans ((u19 _ _ (Or.inl (by omega))).trans ((u18 _ _ (Or.inl (by omega))).trans ((u17 _ _ (Or.inl (by omega))).trans ((u16 _ _ (Or.inl (by omega))).trans ((u15 _ _ (Or.inl (by omega))).trans ((u14 _ _ (Or.inl (by omega))).trans ((u13 _ _ (Or.inl (by omega))).trans ((u12 _ _ (Or.inl (by omega))).trans ((c11 k (by omega) (by omega)).trans (congrArg (fun t => rd h10 (o + 1) t) (show (0 : Int).toNat + (k - (0 : Int).toNat) = k by omega))))))))))))))).trans (u10.2 _ _ (Or.inl (by omega)))).trans (u8.2 _ _ (Or.inl (by omega)))).trans (u6.2 _ _ (Or.inl (by omega)))).trans (u4.2 _ _ (Or.inl (by omega)))).trans (u2.2 _ _ (Or.inl (by omega)))), (fun k hk => (((((((u23 _ _ (Or.inl (by omega))).trans ((u22 _ _ (Or.inl (by omega))).trans ((u21 _ _ (Or.inl (by omega))).trans ((u20 _ _ (Or.inl (by omega))).trans ((u19 _ _ (Or.inl (by omega))).trans ((u18 _ _ (Or.inl (by omega))).trans ((u17 _ _ (Or.inl (by omega))).trans ((u16 _ _ (Or.inl (by omega))).trans ((u15 _ _ (Or.inl (by omega))).trans ((u14 _ _ (Or.inl (by omega))).trans ((u13 _ _ (Or.inl (by omega))).trans ((c12 k (by omega) (by omega)).trans (congrArg (fun t => rd h11 (o + 2) t) (show (0 : Int).toNat + (k - (0 : Int).toNat) = k by omega)))))))))))))).trans (u11 _ _ (Or.inl (by omega)))).trans (u10.2 _ _ (Or.inl (by omega)))).trans (u8.2 _ _ (Or.inl (by omega)))).trans (u6.2 _ _ (Or.inl (by omega)))).trans (u4.2 _ _ (Or.inl (by omega)))).trans (u2.2 _ _ (Or.inl (by omega)))), (fun k hk => ((((((((u23 _ _ (Or.inl (by omega))).trans ((u22 _ _ (Or.inl (by omega))).trans ((u21 _ _ (Or.inl (by omega))).trans ((u20 _ _ (Or.inl (by omega))).trans ((u19 _ _ (Or.inl (by omega))).trans ((u18 _ _ (Or.inl (by omega))).trans ((u17 _ _ (Or.inl (by omega))).trans ((u16 _ _ (Or.inl (by omega))).trans ((u15 _ _ (Or.inl (by omega))).trans ((u14 _ _ (Or.inl (by omega))).trans ((c13 k (by omega) (by omega)).trans (congrArg (fun t => rd h12 (o + 3) t) (show (0 : Int).toNat + (k - (0 : Int).toNat) = k by omega))))))))))))).trans (u12 _ _ (Or.inl (by omega)))).trans (u11 _ _ (Or.inl (by omega)))).trans (u10.2 _ _ (Or.inl (by omega)))).trans (u8.2 _ _ (Or.inl (by omega)))).trans (u6.2 _ _ (Or.inl (by omega)))).trans (u4.2 _ _ (Or.inl (by omega)))).trans (u2.2 _ _ (Or.inl (by omega)))), (fun k hk => (((((((((u23 _ _ (Or.inl (by omega))).trans ((u22 _ _ (Or.inl (by omega))).trans ((u21 _ _ (Or.inl (by omega))).trans ((u20 _ _ (Or.inl (by omega))).trans ((u19 _ _ (Or.inl (by omega))).trans ((u18 _ _ (Or.inl (by omega))).trans ((u17 _ _ (Or.inl (by omega))).trans ((u16 _ _ (Or.inl (by omega))).trans ((u15 _ _ (Or.inl (by omega))).trans ((c14 k (by omega) (by omega)).trans (congrArg (fun t => rd h13 (o + 4) t) (show (0 : Int).toNat + (k - (0 : Int).toNat) = k by omega)))))))))))).trans (u13 _ _ (Or.inl (by omega)))).trans (u12 _ _ (Or.inl (by omega)))).trans (u11 _ _ (Or.inl (by omega)))).trans (u10.2 _ _ (Or.inl (by omega)))).trans (u8.2 _ _ (Or.inl (by omega)))).trans (u6.2 _ _ (Or.inl (by omega)))).trans (u4.2 _ _ (Or.inl (by omega)))).trans (u2.2 _ _ (Or.inl (by omega)))), (fun k hk => ((((((((((u23 _ _ (Or.inl (by omega))).trans ((u22 _ _ (Or.inl (by omega))).trans ((u21 _ _ (Or.inl (by omega))).trans ((u20 _ _ (Or.inl (by omega))).trans ((u19 _ _ (Or.inl (by omega))).trans ((u18 _ _ (Or.inl (by omega))).trans ((u17 _ _ (Or.inl (by omega))).trans ((u16 _ _ (Or.inl (by omega))).trans ((c15 k (by omega) (by omega)).trans (congrArg (fun t => rd h14 (o + 5) t) (show (0 : Int).toNat + (k - (0 : Int).toNat) = k by omega))))))))))).trans (u14 _ _ (Or.inl (by omega)))).trans (u13 _ _ (Or.inl (by omega)))).trans (u12 _ _ (Or.inl (by omega)))).trans (u11 _ _ (Or.inl (by omega)))).trans (u10.2 _ _ (Or.inl (by omega)))).trans (u8.2 _ _ (Or.inl (by omega)))).trans (u6.2 _ _ (Or.inl (by omega)))).trans (u4.2 _ _ (Or.inl (by omega)))).trans (u2.2 _ _ (Or.inl (by omega)))), (fun k hk => (((((((((((u23 _ _ (Or.inl (by omega))).trans ((u22 _ _ (Or.inl (by omega))).trans ((u21 _ _ (Or.inl (by omega))).trans ((u20 _ _ (Or.inl (by omega))).trans ((u19 _ _ (Or.inl (by omega))).trans ((u18 _ _ (Or.inl (by omega))).trans ((u17 _ _ (Or.inl (by omega))).trans ((c16 k (by omega) (by omega)).trans (congrArg (fun t => rd h15 (o + 6) t) (show (0 : Int).toNat + (k - (0 : Int).toNat) = k by omega)))))))))).trans (u15 _ _ (Or.inl (by omega)))).trans (u14 _ _ (Or.inl (by omega)))).trans (u13 _ _ (Or.inl (by omega)))).trans (u12 _ _ (Or.inl (by omega)))).trans (u11 _ _ (Or.inl (by omega)))).trans (u10.2 _ _ (Or.inl (by omega)))).trans (u8.2 _ _ (Or.inl (by omega)))).trans (u6.2 _ _ (Or.inl (by omega)))).trans (u4.2 _ _ (Or.inl (by omega)))).trans (u2.2 _ _ (Or.inl (by omega)))), (fun k hk => ((((((((((((u23 _ _ (Or.inl (by omega))).trans ((u22 _ _ (Or.inl (by omega))).trans ((u21 _ _ (Or.inl (by omega))).trans ((u20 _ _ (Or.inl (by omega))).trans ((u19 _ _ (Or.inl (by omega))).trans ((u18 _ _ (Or.inl (by omega))).trans ((c17 k (by omega) (by omega)).trans (congrArg (fun t => rd h16 (o + 7) t) (show (0 : Int).toNat + (k - (0 : Int).toNat) = k by omega))))))))).trans (u16 _ _ (Or.inl (by omega)))).trans (u15 _ _ (Or.inl (by omega)))).trans (u14 _ _ (Or.inl (by omega)))).trans (u13 _ _ (Or.inl (by omega)))).trans (u12 _ _ (Or.inl (by omega)))).trans (u11 _ _ (Or.inl (by omega)))).trans (u10.2 _ _ (Or.inl (by omega)))).trans (u8.2 _ _ (Or.inl (by omega)))).trans (u6.2 _ _ (Or.inl (by omega)))).trans (u4.2 _ _ (Or.inl (by omega)))).trans (u2.2 _ _ (Or.inl (by omega)))), (fun k hk => (((((((((((((u23 _ _ (Or.inl (by omega))).trans ((u22 _ _ (Or.inl (by omega))).trans ((u21 _ _ (Or.inl (by omega))).trans ((u20 _ _ (Or.inl (by omega))).trans ((u19 _ _ (Or.inl (by omega))).trans ((c18 k (by omega) (by omega)).trans (congrArg (fun t => rd h17 (o + 8) t) (show (0 : Int).toNat + (k - (0 : Int).toNat) = k by omega)))))))).trans (u17 _ _ (Or.inl (by omega)))).trans (u16 _ _ (Or.inl (by omega)))).trans (u15 _ _ (Or.inl (by omega)))).trans (u14 _ _ (Or.inl (by omega)))).trans (u13 _ _ (Or.inl (by omega)))).trans (u12 _ _ (Or.inl (by omega)))).trans (u11 _ _ (Or.inl (by omega)))).trans (u10.2 _ _ (Or.inl (by omega)))).trans (u8.2 _ _ (Or.inl (by omega)))).trans (u6.2 _ _ (Or.inl (by omega)))).trans (u4.2 _ _ (Or.inl (by omega)))).trans (u2.2 _ _ (Or.inl (by omega)))), (fun k hk => ((((((((((((((u23 _ _ (Or.inl (by omega))).trans ((u22 _ _ (Or.inl (by omega))).trans ((u21 _ _ (Or.inl (by omega))).trans ((u20 _ _ (Or.inl (by omega))).trans ((c19 k (by omega) (by omega)).trans (congrArg (fun t => rd h18 (o + 9) t) (show (0 : Int).toNat + (k - (0 : Int).toNat) = k by omega))))))).trans (u18 _ _ (Or.inl (by omega)))).trans (u17 _ _ (Or.inl (by omega)))).trans (u16 _ _ (Or.inl (by omega)))).trans (u15 _ _ (Or.inl (by omega)))).trans (u14 _ _ (Or.inl (by omega)))).trans (u13 _ _ (Or.inl (by omega)))).trans (u12 _ _ (Or.inl (by omega)))).trans (u11 _ _ (Or.inl (by omega)))).trans (u10.2 _ _ (Or.inl (by omega)))).trans (u8.2 _ _ (Or.inl (by omega)))).trans (u6.2 _ _ (Or.inl (by omega)))).trans (u4.2 _ _ (Or.inl (by omega)))).trans (u2.2 _ _ (Or.inl (by omega)))), (fun k hk => (((((((((((((((u23 _ _ (Or.inl (by omega))).trans ((u22 _ _ (Or.inl (by omega))).trans ((u21 _ _ (Or.inl (by omega))).trans ((c20 k (by omega) (by omega)).trans (congrArg (fun t => rd h19 (o + 10) t) (show (0 : Int).toNat + (k - (0 : Int).toNat) = k by omega)))))).trans (u19 _ _ (Or.inl (by omega)))).trans (u18 _ _ (Or.inl (by omega)))).trans (u17 _ _ (Or.inl (by omega)))).trans (u16 _ _ (Or.inl (by omega)))).trans (u15 _ _ (Or.inl (by omega)))).trans (u14 _ _ (Or.inl (by omega)))).trans (u13 _ _ (Or.inl (by omega)))).trans (u12 _ _ (Or.inl (by omega)))).trans (u11 _ _ (Or.inl (by omega)))).trans (u10.2 _ _ (Or.inl (by omega)))).trans (u8.2 _ _ (Or.inl (by omega)))).trans (u6.2 _ _ (Or.inl (by omega)))).trans (u4.2 _ _ (Or.inl (by omega)))).trans (u2.2 _ _ (Or.inl (by omega)))), (fun k hk => ((((((((((((((((u23 _ _ (Or.inl (by omega))).trans ((u22 _ _ (Or.inl (by omega))).trans ((c21 k (by omega) (by omega)).trans (congrArg (fun t => rd h20 (o + 11) t) (show (0 : Int).toNat + (k - (0 : Int).toNat) = k by omega))))).trans (u20 _ _ (Or.inl (by omega)))).trans (u19 _ _ (Or.inl (by omega)))).trans (u18 _ _ (Or.inl (by omega)))).trans (u17 _ _ (Or.inl (by omega)))).trans (u16 _ _ (Or.inl (by omega)))).trans (u15 _ _ (Or.inl (by omega)))).trans (u14 _ _ (Or.inl (by omega)))).trans (u13 _ _ (Or.inl (by omega)))).trans (u12 _ _ (Or.inl (by omega)))).trans (u11 _ _ (Or.inl (by omega)))).trans (u10.2 _ _ (Or.inl (by omega)))).trans (u8.2 _ _ (Or.inl (by omega)))).trans (u6.2 _ _ (Or.inl (by omega)))).trans (u4.2 _ _ (Or.inl (by omega)))).trans (u2.2 _ _ (Or.inl (by omega)))), (fun k hk => (((((((((((((((((u23 _ _ (Or.inl (by omega))).trans ((c22 k (by omega) (by omega)).trans (congrArg (fun t => rd h21 (o + 12) t) (show (0 : Int).toNat + (k - (0 : Int).toNat) = k by omega)))).trans (u21 _ _ (Or.inl (by omega)))).trans (u20 _ _ (Or.inl (by omega)))).trans (u19 _ _ (Or.inl (by omega)))).trans (u18 _ _ (Or.inl (by omega)))).trans (u17 _ _ (Or.inl (by omega)))).trans (u16 _ _ (Or.inl (by omega)))).trans (u15 _ _ (Or.inl (by omega)))).trans (u14 _ _ (Or.inl (by omega)))).trans (u13 _ _ (Or.inl (by omega)))).trans (u12 _ _ (Or.inl (by omega)))).trans (u11 _ _ (Or.inl (by omega)))).trans (u10.2 _ _ (Or.inl (by omega)))).trans (u8.2 _ _ (Or.inl (by omega)))).trans (u6.2 _ _ (Or.inl (by omega)))).trans (u4.2 _ _ (Or.inl (by omega)))).trans (u2.2 _ _ (Or.inl (by omega)))), (fun k hk => ((((((((((((((((((c23 k (by omega) (by omega)).trans (congrArg (fun t => rd h22 (o + 13) t) (show (0 : Int).toNat + (k - (0 : Int).toNat) = k by omega))).trans (u22 _ _ (Or.inl (by omega)))).trans (u21 _ _ (Or.inl (by omega)))).trans (u20 _ _ (Or.inl (by omega)))).trans (u19 _ _ (Or.inl (by omega)))).trans (u18 _ _ (Or.inl (by omega)))).trans (u17 _ _ (Or.inl (by omega)))).trans (u16 _ _ (Or.inl (by omega)))).trans (u15 _ _ (Or.inl (by omega)))).trans (u14 _ _ (Or.inl (by omega)))).trans (u13 _ _ (Or.inl (by omega)))).trans (u12 _ _ (Or.inl (by omega)))).trans (u11 _ _ (Or.inl (by omega)))).trans (u10.2 _ _ (Or.inl (by omega)))).trans (u8.2 _ _ (Or.inl (by omega)))).trans (u6.2 _ _ (Or.inl (by omega)))).trans (u4.2 _ _ (Or.inl (by omega)))).trans (u2.2 _ _ (Or.inl (by omega))))⟩
abbrev Q1_image (y : Int32) (h h2 : im_H) : Prop := rd h 23 0 = some (.int y) ∧ bec 51 23 h h2 ∧ rd h2 0 4 = some (.int 1)
set_option maxRecDepth 20000 in
set_option maxHeartbeats 4000000 in
theorem c_X11_image  {h : im_H} (hI : tI h)  : CaP 2 102 [.ref 16] h (fun v h2 => tI h2 ∧ fr F_X11_image h h2 ∧ ∃ y : Int32, v = some (.int y) ∧ Q1_image y h h2) := by
  refine cap_of (d := 1) (M := mX11_image) rfl (Nat.le_of_ble_eq_true rfl) ?_
  show EvP im_K0 1 mX11_image (0, [(0, .ref 16)], [], h) _
  have f0 : fr F_X11_image h h := fr_rf
  refine te_aload_n (p2 := 1) rfl rfl rfl ?_
  refine tg_r (p2 := 4) (i := 0) (r := 67) rfl rfl hI rfl rfl rfl ?_
  refine te_aload_n (p2 := 5) rfl rfl rfl ?_
  refine tg_r (p2 := 8) (i := 0) (r := 39) rfl rfl hI rfl rfl rfl ?_
  obtain ⟨v2, e2, y2, w2, a2, b2, _⟩ := hI.2.1 23 0 (.inl ((-2147483648), 2147483647, 9999999999)) rfl
  subst w2
  refine tc_V (p2 := 11) (i := 51) rfl rfl rfl rfl hI rfl rfl rfl (c_X9_become (s := 51) (o := 23) hI (by decide) (by decide)) (by decide) (fun v1 h1 hq1 => ?_)
  obtain ⟨I1, g1, w1, B1⟩ := hq1
  subst w1
  have f1 := fr_tr (F1 := (F_X9_become 51 23)) (F := F_X11_image) f0 g1 (by decide)
  show EvP _ _ _ (11, [(0, .ref 16)], [], h1) _
  refine te_aload_n (p2 := 12) rfl rfl rfl ?_
  refine te_iconst (p2 := 13) (x := 1) rfl rfl (by decide) ?_
  refine tp_i (p2 := 16) (i := 0) rfl rfl I1 rfl rfl (by decide) rfl rfl rfl (by decide) (by decide) (by decide) rfl (fun h3 I3 u3 => ?_)
  have f3 := fr_st (F := F_X11_image) 0 f1 u3 rfl (by decide) (by decide)
  refine te_aload_n (p2 := 17) rfl rfl rfl ?_
  refine tg_r (p2 := 20) (i := 0) (r := 39) rfl rfl I3 rfl rfl rfl ?_
  refine tg_e (p2 := 23) (i := 23) (v := .int y2) rfl rfl I3 rfl rfl ((u3.2 _ _ (Or.inl (by decide))).trans ((g1 _ _ rfl).trans e2)) ?_
  exact te_iret rfl rfl ⟨I3, f3, _, rfl, e2, (bec_r B1 (fun i k _ _ => u3.2 _ _ (Or.inl (by omega)))), u3.1⟩
abbrev Q1_back (y : Int32) (h h2 : im_H) : Prop := ∃ b : Int32, rd h 0 4 = some (.int b) ∧ ((b.toInt = 0 ∧ y = -3 ∧ h2 = h) ∨ (b.toInt ≠ 0 ∧ rd h 51 0 = some (.int y) ∧ bec 23 51 h h2))
set_option maxRecDepth 20000 in
set_option maxHeartbeats 4000000 in
theorem c_X11_back  {h : im_H} (hI : tI h)  : CaP 2 103 [.ref 16] h (fun v h2 => tI h2 ∧ fr F_X11_back h h2 ∧ ∃ y : Int32, v = some (.int y) ∧ Q1_back y h h2) := by
  refine cap_of (d := 1) (M := mX11_back) rfl (Nat.le_of_ble_eq_true rfl) ?_
  show EvP im_K0 1 mX11_back (0, [(0, .ref 16)], [], h) _
  have f0 : fr F_X11_back h h := fr_rf
  refine te_aload_n (p2 := 1) rfl rfl rfl ?_
  refine tg_i (p2 := 4) (i := 0) rfl rfl hI rfl rfl rfl (fun y1 a1 b1 e1 => ?_)
  refine tz_ne (p2 := 7) rfl rfl rfl (fun c2 => ?_) (fun c2 => ?_)
  · refine te_aload_n (p2 := 11) rfl rfl rfl ?_
    refine tg_r (p2 := 14) (i := 0) (r := 39) rfl rfl hI rfl rfl rfl ?_
    refine te_aload_n (p2 := 15) rfl rfl rfl ?_
    refine tg_r (p2 := 18) (i := 0) (r := 67) rfl rfl hI rfl rfl rfl ?_
    obtain ⟨v4, e4, y4, w4, a4, b4, _⟩ := hI.2.1 51 0 (.inl ((-2147483648), 2147483647, 9999999999)) rfl
    subst w4
    refine tc_V (p2 := 21) (i := 23) rfl rfl rfl rfl hI rfl rfl rfl (c_X9_become (s := 23) (o := 51) hI (by decide) (by decide)) (by decide) (fun v3 h3 hq3 => ?_)
    obtain ⟨I3, g3, w3, B3⟩ := hq3
    subst w3
    have f3 := fr_tr (F1 := (F_X9_become 23 51)) (F := F_X11_back) f0 g3 (by decide)
    show EvP _ _ _ (21, [(0, .ref 16)], [], h3) _
    refine te_aload_n (p2 := 22) rfl rfl rfl ?_
    refine tg_r (p2 := 25) (i := 0) (r := 39) rfl rfl I3 rfl rfl rfl ?_
    refine tg_e (p2 := 28) (i := 23) (v := .int y4) rfl rfl I3 rfl rfl (B3.1.1.trans e4) ?_
    exact te_iret rfl rfl ⟨I3, f3, _, rfl, y1, e1, Or.inr ⟨by omega, e4, B3⟩⟩
  · refine te_bipush (p2 := 9) (x := (-3)) rfl rfl (by decide) ?_
    exact te_iret rfl rfl ⟨hI, f0, _, rfl, y1, e1, Or.inl ⟨by omega, rfl, rfl⟩⟩
abbrev Q2_image (y : Int32) (h h2 : im_H) : Prop := rd h 149 105 = some (.int y) ∧ (∀ k : Nat, (k : Int) < 283 → rd h2 151 k = rd h 149 k) ∧ rd h2 148 3 = some (.int 1)
set_option maxRecDepth 20000 in
set_option maxHeartbeats 4000000 in
theorem c_X12_image  {h : im_H} (hI : tI h)  : CaP 1 189 [.ref 164] h (fun v h2 => tI h2 ∧ fr F_X12_image h h2 ∧ ∃ y : Int32, v = some (.int y) ∧ Q2_image y h h2) := by
  refine cap_of (d := 0) (M := mX12_image) rfl (Nat.le_of_ble_eq_true rfl) ?_
  show EvP im_K0 0 mX12_image (0, [(0, .ref 164)], [], h) _
  have f0 : fr F_X12_image h h := fr_rf
  refine te_iconst (p2 := 1) (x := 0) rfl rfl (by decide) ?_
  refine te_istore_n (p2 := 2) (lv2 := [(1, .int 0), (0, .ref 164)]) rfl rfl (by decide) rfl ?_
  have lp1 : ∀ (n1 : Nat) (v1_1 : Int32) (h1 : im_H), tI h1 → fr F_X12_image h h1 → 0 ≤ v1_1.toInt → v1_1.toInt ≤ 283 → (∀ k : Nat, (k : Int) < v1_1.toInt → rd h1 151 k = rd h 149 k) → 283 - v1_1.toInt < (n1 : Int) → EvP im_K0 0 mX12_image (2, [(0, .ref 164), (1, .int v1_1)], [], h1) (fun v h2 => tI h2 ∧ fr F_X12_image h h2 ∧ ∃ y : Int32, v = some (.int y) ∧ Q2_image y h h2) := by
    intro n1
    induction n1 with
    | zero => intro v1_1 h1 I1 f1 a1_1 b1_1 w1_0 m1; exfalso; omega
    | succ n1 ih1 =>
      intro v1_1 h1 I1 f1 a1_1 b1_1 w1_0 m1
      refine te_iload_n (p2 := 3) rfl rfl rfl ?_
      refine te_sipush (p2 := 6) (x := 283) rfl rfl (by decide) ?_
      refine tb_ge (p2 := 9) rfl rfl rfl (show Int32.toInt 283 = 283 from rfl) (fun c2 => ?_) (fun c2 => ?_)
      · refine te_aload_n (p2 := 28) rfl rfl rfl ?_
        refine te_iconst (p2 := 29) (x := 1) rfl rfl (by decide) ?_
        refine tp_i (p2 := 32) (i := 148) rfl rfl I1 rfl rfl (by decide) rfl rfl rfl (by decide) (by decide) (by decide) rfl (fun h3 I3 u3 => ?_)
        have f3 := fr_st (F := F_X12_image) 0 f1 u3 rfl (by decide) (by decide)
        refine te_aload_n (p2 := 33) rfl rfl rfl ?_
        refine tg_r (p2 := 36) (i := 148) (r := 165) rfl rfl I3 rfl rfl rfl ?_
        refine te_bipush (p2 := 38) (x := 105) rfl rfl (by decide) ?_
        refine tl_i (p2 := 39) (i := 149) (n := 283) rfl rfl I3 rfl rfl rfl rfl (by decide) (by decide) (fun y4 a4 b4 g4 e4 => ?_)
        exact te_iret rfl rfl ⟨I3, f3, _, rfl, ((f3 149 105 rfl).symm.trans e4), (fun k hk => (u3.2 _ _ (Or.inl (by decide))).trans (w1_0 k (by omega))), u3.1⟩
      · refine te_aload_n (p2 := 10) rfl rfl rfl ?_
        refine tg_r (p2 := 13) (i := 148) (r := 167) rfl rfl I1 rfl rfl rfl ?_
        refine te_iload_n (p2 := 14) rfl rfl rfl ?_
        refine te_aload_n (p2 := 15) rfl rfl rfl ?_
        refine tg_r (p2 := 18) (i := 148) (r := 165) rfl rfl I1 rfl rfl rfl ?_
        refine te_iload_n (p2 := 19) rfl rfl rfl ?_
        refine tl_i (p2 := 20) (i := 149) (n := 283) rfl rfl I1 rfl rfl rfl rfl (by omega) (by omega) (fun y5 a5 b5 g5 e5 => ?_)
        refine ts_i (p2 := 21) (i := 151) (n := 283) rfl rfl I1 rfl rfl rfl rfl (by omega) (by omega) (i32_lo _) (i32_hi _) (i32_ho _) rfl (fun h6 I6 u6 => ?_)
        have f6 := fr_st (F := F_X12_image) 1 f1 u6 rfl (by omega) (by omega)
        refine ar_inc (p2 := 24) (x := v1_1) rfl rfl (by decide) rfl (by decide) rfl (by omega) (by omega) (fun z7 e7 f7 => ?_)
        show EvP _ _ _ (24, [(1, .int z7), (0, .ref 164)], [], h6) _
        refine te_goto rfl ?_
        refine te_lv [(0, .ref 164), (1, .int z7)] rfl rfl ⟨rfl, rfl, trivial⟩ ?_
        exact ih1 z7 h6 I6 f6 (by omega) (by omega) (fun k hk => by (by_cases hc : k = v1_1.toInt.toNat); (· rw [hc]; exact u6.1.trans ((((u6.2 _ _ (Or.inl (by decide))).trans e5)).symm.trans (f6 149 _ rfl))); (· exact (u6.2 _ _ (Or.inr hc)).trans (w1_0 k (by omega)))) (by omega)
  refine te_lv [(0, .ref 164), (1, .int 0)] rfl rfl ⟨rfl, rfl, trivial⟩ ?_
  exact lp1 284 0 h hI f0 (by decide) (by decide) (fun k hk => by exfalso; have := (show Int32.toInt 0 = 0 from rfl); omega) (by have cc0 := (show Int32.toInt 0 = 0 from rfl); omega)
abbrev Q2_back (y : Int32) (h h2 : im_H) : Prop := ∃ b : Int32, rd h 148 3 = some (.int b) ∧ ((b.toInt = 0 ∧ y = -3 ∧ h2 = h) ∨ (b.toInt ≠ 0 ∧ rd h 151 105 = some (.int y) ∧ (∀ k : Nat, (k : Int) < 283 → rd h2 149 k = rd h 151 k)))
set_option maxRecDepth 20000 in
set_option maxHeartbeats 4000000 in
theorem c_X12_back  {h : im_H} (hI : tI h)  : CaP 1 190 [.ref 164] h (fun v h2 => tI h2 ∧ fr F_X12_back h h2 ∧ ∃ y : Int32, v = some (.int y) ∧ Q2_back y h h2) := by
  refine cap_of (d := 0) (M := mX12_back) rfl (Nat.le_of_ble_eq_true rfl) ?_
  show EvP im_K0 0 mX12_back (0, [(0, .ref 164)], [], h) _
  have f0 : fr F_X12_back h h := fr_rf
  refine te_aload_n (p2 := 1) rfl rfl rfl ?_
  refine tg_i (p2 := 4) (i := 148) rfl rfl hI rfl rfl rfl (fun y1 a1 b1 e1 => ?_)
  refine tz_ne (p2 := 7) rfl rfl rfl (fun c2 => ?_) (fun c2 => ?_)
  · refine te_iconst (p2 := 11) (x := 0) rfl rfl (by decide) ?_
    refine te_istore_n (p2 := 12) (lv2 := [(1, .int 0), (0, .ref 164)]) rfl rfl (by decide) rfl ?_
    have lp3 : ∀ (n3 : Nat) (v3_1 : Int32) (h3 : im_H), tI h3 → fr F_X12_back h h3 → 0 ≤ v3_1.toInt → v3_1.toInt ≤ 283 → (∀ k : Nat, (k : Int) < v3_1.toInt → rd h3 149 k = rd h 151 k) → 283 - v3_1.toInt < (n3 : Int) → EvP im_K0 0 mX12_back (12, [(0, .ref 164), (1, .int v3_1)], [], h3) (fun v h2 => tI h2 ∧ fr F_X12_back h h2 ∧ ∃ y : Int32, v = some (.int y) ∧ Q2_back y h h2) := by
      intro n3
      induction n3 with
      | zero => intro v3_1 h3 I3 f3 a3_1 b3_1 w3_0 m3; exfalso; omega
      | succ n3 ih3 =>
        intro v3_1 h3 I3 f3 a3_1 b3_1 w3_0 m3
        refine te_iload_n (p2 := 13) rfl rfl rfl ?_
        refine te_sipush (p2 := 16) (x := 283) rfl rfl (by decide) ?_
        refine tb_ge (p2 := 19) rfl rfl rfl (show Int32.toInt 283 = 283 from rfl) (fun c4 => ?_) (fun c4 => ?_)
        · refine te_aload_n (p2 := 38) rfl rfl rfl ?_
          refine tg_r (p2 := 41) (i := 148) (r := 165) rfl rfl I3 rfl rfl rfl ?_
          refine te_bipush (p2 := 43) (x := 105) rfl rfl (by decide) ?_
          refine tl_i (p2 := 44) (i := 149) (n := 283) rfl rfl I3 rfl rfl rfl rfl (by decide) (by decide) (fun y5 a5 b5 g5 e5 => ?_)
          exact te_iret rfl rfl ⟨I3, f3, _, rfl, y1, e1, Or.inr ⟨by omega, (w3_0 105 (by omega)).symm.trans e5, (fun k hk => w3_0 k (by omega))⟩⟩
        · refine te_aload_n (p2 := 20) rfl rfl rfl ?_
          refine tg_r (p2 := 23) (i := 148) (r := 165) rfl rfl I3 rfl rfl rfl ?_
          refine te_iload_n (p2 := 24) rfl rfl rfl ?_
          refine te_aload_n (p2 := 25) rfl rfl rfl ?_
          refine tg_r (p2 := 28) (i := 148) (r := 167) rfl rfl I3 rfl rfl rfl ?_
          refine te_iload_n (p2 := 29) rfl rfl rfl ?_
          refine tl_i (p2 := 30) (i := 151) (n := 283) rfl rfl I3 rfl rfl rfl rfl (by omega) (by omega) (fun y6 a6 b6 g6 e6 => ?_)
          refine ts_i (p2 := 31) (i := 149) (n := 283) rfl rfl I3 rfl rfl rfl rfl (by omega) (by omega) (i32_lo _) (i32_hi _) (i32_ho _) rfl (fun h7 I7 u7 => ?_)
          have f7 := fr_st (F := F_X12_back) 0 f3 u7 rfl (by omega) (by omega)
          refine ar_inc (p2 := 34) (x := v3_1) rfl rfl (by decide) rfl (by decide) rfl (by omega) (by omega) (fun z8 e8 f8 => ?_)
          show EvP _ _ _ (34, [(1, .int z8), (0, .ref 164)], [], h7) _
          refine te_goto rfl ?_
          refine te_lv [(0, .ref 164), (1, .int z8)] rfl rfl ⟨rfl, rfl, trivial⟩ ?_
          exact ih3 z8 h7 I7 f7 (by omega) (by omega) (fun k hk => by (by_cases hc : k = v3_1.toInt.toNat); (· rw [hc]; exact u7.1.trans ((((u7.2 _ _ (Or.inl (by decide))).trans e6)).symm.trans (f7 151 _ rfl))); (· exact (u7.2 _ _ (Or.inr hc)).trans (w3_0 k (by omega)))) (by omega)
    refine te_lv [(0, .ref 164), (1, .int 0)] rfl rfl ⟨rfl, rfl, trivial⟩ ?_
    exact lp3 284 0 h hI f0 (by decide) (by decide) (fun k hk => by exfalso; have := (show Int32.toInt 0 = 0 from rfl); omega) (by have cc0 := (show Int32.toInt 0 = 0 from rfl); omega)
  · refine te_bipush (p2 := 9) (x := (-3)) rfl rfl (by decide) ?_
    exact te_iret rfl rfl ⟨hI, f0, _, rfl, y1, e1, Or.inl ⟨by omega, rfl, rfl⟩⟩
set_option maxRecDepth 20000 in
set_option maxHeartbeats 4000000 in
theorem c_X12_lays {back : Int32} {h : im_H} (hI : tI h) (p_back0 : 0 ≤ back.toInt) (p_back1 : back.toInt ≤ 1) : CaP 1 186 [.ref 164, .int back] h (fun v h2 => tI h2 ∧ fr F_X12_lays h h2 ∧ v = none ∧ (back.toInt = 0 → (∀ k : Nat, (k : Int) < 283 → rd h2 150 k = rd h 149 k) ∧ ∀ k : Nat, rd h2 149 k = rd h 149 k) ∧ (back.toInt ≠ 0 → (∀ k : Nat, (k : Int) < 283 → rd h2 149 k = rd h 150 k) ∧ ∀ k : Nat, rd h2 150 k = rd h 150 k)) := by
  refine cap_of (d := 0) (M := mX12_lays) rfl (Nat.le_of_ble_eq_true rfl) ?_
  show EvP im_K0 0 mX12_lays (0, [(0, .ref 164), (1, .int back)], [], h) _
  have f0 : fr F_X12_lays h h := fr_rf
  refine te_iconst (p2 := 1) (x := 0) rfl rfl (by decide) ?_
  refine te_istore_n (p2 := 2) (lv2 := [(2, .int 0), (0, .ref 164), (1, .int back)]) rfl rfl (by decide) rfl ?_
  have lp1 : ∀ (n1 : Nat) (v1_2 : Int32) (h1 : im_H), tI h1 → fr F_X12_lays h h1 → 0 ≤ v1_2.toInt → v1_2.toInt ≤ 283 → ((back.toInt = 0 → (∀ k : Nat, (k : Int) < v1_2.toInt → rd h1 150 k = rd h 149 k) ∧ ∀ k : Nat, rd h1 149 k = rd h 149 k) ∧ (back.toInt ≠ 0 → (∀ k : Nat, (k : Int) < v1_2.toInt → rd h1 149 k = rd h 150 k) ∧ ∀ k : Nat, rd h1 150 k = rd h 150 k)) → 283 - v1_2.toInt < (n1 : Int) → EvP im_K0 0 mX12_lays (2, [(0, .ref 164), (1, .int back), (2, .int v1_2)], [], h1) (fun v h2 => tI h2 ∧ fr F_X12_lays h h2 ∧ v = none ∧ (back.toInt = 0 → (∀ k : Nat, (k : Int) < 283 → rd h2 150 k = rd h 149 k) ∧ ∀ k : Nat, rd h2 149 k = rd h 149 k) ∧ (back.toInt ≠ 0 → (∀ k : Nat, (k : Int) < 283 → rd h2 149 k = rd h 150 k) ∧ ∀ k : Nat, rd h2 150 k = rd h 150 k)) := by
    intro n1
    induction n1 with
    | zero => intro v1_2 h1 I1 f1 a1_2 b1_2 w1_0 m1; exfalso; omega
    | succ n1 ih1 =>
      intro v1_2 h1 I1 f1 a1_2 b1_2 w1_0 m1
      refine te_iload_n (p2 := 3) rfl rfl rfl ?_
      refine te_sipush (p2 := 6) (x := 283) rfl rfl (by decide) ?_
      refine tb_ge (p2 := 9) rfl rfl rfl (show Int32.toInt 283 = 283 from rfl) (fun c2 => ?_) (fun c2 => ?_)
      · exact te_vret rfl rfl ⟨I1, f1, rfl, ⟨fun hb => ⟨fun k hk => (w1_0.1 hb).1 k (by omega), (w1_0.1 hb).2⟩, fun hb => ⟨fun k hk => (w1_0.2 hb).1 k (by omega), (w1_0.2 hb).2⟩⟩⟩
      · refine te_iload_n (p2 := 10) rfl rfl rfl ?_
        refine tz_eq (p2 := 13) rfl rfl rfl (fun c3 => ?_) (fun c3 => ?_)
        · refine te_aload_n (p2 := 29) rfl rfl rfl ?_
          refine tg_r (p2 := 32) (i := 148) (r := 166) rfl rfl I1 rfl rfl rfl ?_
          refine te_iload_n (p2 := 33) rfl rfl rfl ?_
          refine te_aload_n (p2 := 34) rfl rfl rfl ?_
          refine tg_r (p2 := 37) (i := 148) (r := 165) rfl rfl I1 rfl rfl rfl ?_
          refine te_iload_n (p2 := 38) rfl rfl rfl ?_
          refine tl_i (p2 := 39) (i := 149) (n := 283) rfl rfl I1 rfl rfl rfl rfl (by omega) (by omega) (fun y4 a4 b4 g4 e4 => ?_)
          refine ts_i (p2 := 40) (i := 150) (n := 283) rfl rfl I1 rfl rfl rfl rfl (by omega) (by omega) (i32_lo _) (i32_hi _) (i32_ho _) rfl (fun h5 I5 u5 => ?_)
          have f5 := fr_st (F := F_X12_lays) 1 f1 u5 rfl (by omega) (by omega)
          refine ar_inc (p2 := 43) (x := v1_2) rfl rfl (by decide) rfl (by decide) rfl (by omega) (by omega) (fun z6 e6 f6 => ?_)
          show EvP _ _ _ (43, [(2, .int z6), (0, .ref 164), (1, .int back)], [], h5) _
          refine te_goto rfl ?_
          refine te_lv [(0, .ref 164), (1, .int back), (2, .int z6)] rfl rfl ⟨rfl, rfl, rfl, trivial⟩ ?_
          exact ih1 z6 h5 I5 f5 (by omega) (by omega) ⟨fun hb => ⟨fun k hk => by (by_cases hc : k = v1_2.toInt.toNat); (· rw [hc]; exact u5.1.trans ((((u5.2 _ _ (Or.inl (by decide))).trans e4)).symm.trans ((u5.2 _ _ (Or.inl (by decide))).trans ((w1_0.1 hb).2 _)))); (· exact (u5.2 _ _ (Or.inr hc)).trans ((w1_0.1 hb).1 k (by omega))), fun k => (u5.2 _ _ (Or.inl (by decide))).trans ((w1_0.1 hb).2 k)⟩, fun hb => absurd (by omega) hb⟩ (by omega)
        · refine te_aload_n (p2 := 14) rfl rfl rfl ?_
          refine tg_r (p2 := 17) (i := 148) (r := 165) rfl rfl I1 rfl rfl rfl ?_
          refine te_iload_n (p2 := 18) rfl rfl rfl ?_
          refine te_aload_n (p2 := 19) rfl rfl rfl ?_
          refine tg_r (p2 := 22) (i := 148) (r := 166) rfl rfl I1 rfl rfl rfl ?_
          refine te_iload_n (p2 := 23) rfl rfl rfl ?_
          refine tl_i (p2 := 24) (i := 150) (n := 283) rfl rfl I1 rfl rfl rfl rfl (by omega) (by omega) (fun y7 a7 b7 g7 e7 => ?_)
          refine ts_i (p2 := 25) (i := 149) (n := 283) rfl rfl I1 rfl rfl rfl rfl (by omega) (by omega) (i32_lo _) (i32_hi _) (i32_ho _) rfl (fun h8 I8 u8 => ?_)
          have f8 := fr_st (F := F_X12_lays) 0 f1 u8 rfl (by omega) (by omega)
          refine te_goto rfl ?_
          refine ar_inc (p2 := 43) (x := v1_2) rfl rfl (by decide) rfl (by decide) rfl (by omega) (by omega) (fun z9 e9 f9 => ?_)
          show EvP _ _ _ (43, [(2, .int z9), (0, .ref 164), (1, .int back)], [], h8) _
          refine te_goto rfl ?_
          refine te_lv [(0, .ref 164), (1, .int back), (2, .int z9)] rfl rfl ⟨rfl, rfl, rfl, trivial⟩ ?_
          exact ih1 z9 h8 I8 f8 (by omega) (by omega) ⟨fun hb => absurd hb (by omega), fun hb => ⟨fun k hk => by (by_cases hc : k = v1_2.toInt.toNat); (· rw [hc]; exact u8.1.trans ((((u8.2 _ _ (Or.inl (by decide))).trans e7)).symm.trans ((u8.2 _ _ (Or.inl (by decide))).trans ((w1_0.2 hb).2 _)))); (· exact (u8.2 _ _ (Or.inr hc)).trans ((w1_0.2 hb).1 k (by omega))), fun k => (u8.2 _ _ (Or.inl (by decide))).trans ((w1_0.2 hb).2 k)⟩⟩ (by omega)
  refine te_lv [(0, .ref 164), (1, .int back), (2, .int 0)] rfl rfl ⟨rfl, rfl, rfl, trivial⟩ ?_
  exact lp1 284 0 h hI f0 (by decide) (by decide) ⟨fun _ => ⟨(fun k hk => by exfalso; have := (show Int32.toInt 0 = 0 from rfl); omega), fun k => rfl⟩, fun _ => ⟨(fun k hk => by exfalso; have := (show Int32.toInt 0 = 0 from rfl); omega), fun k => rfl⟩⟩ (by have cc0 := (show Int32.toInt 0 = 0 from rfl); omega)
abbrev Q2_beside (x1 x2 : Int32) (y : Int64) (h h2 : im_H) : Prop := ∀ k : Nat, (k : Int) < 283 → rd h2 149 k = rd h 149 k
set_option maxRecDepth 20000 in
set_option maxHeartbeats 4000000 in
theorem c_X12_beside {x1 : Int32} {x2 : Int32} {h : im_H} (hI : tI h)  : CaP 9 187 [.ref 164, .int x1, .int x2] h (fun v h2 => tI h2 ∧ fr F_X12_beside h h2 ∧ ∃ y : Int64, v = some (.long y) ∧ Q2_beside x1 x2 y h h2) := by
  refine cap_of (d := 8) (M := mX12_beside) rfl (Nat.le_of_ble_eq_true rfl) ?_
  show EvP im_K0 8 mX12_beside (0, [(0, .ref 164), (1, .int x1), (2, .int x2)], [], h) _
  have f0 : fr F_X12_beside h h := fr_rf
  refine te_iload_n (p2 := 1) rfl rfl rfl ?_
  refine te_iconst (p2 := 2) (x := 1) rfl rfl (by decide) ?_
  refine te_bipush (p2 := 4) (x := 60) rfl rfl (by decide) ?_
  refine cS_pI (p2 := 7) rfl rfl rfl rfl (t_X12_in (n := x1) (a := 1) (b := 60) hI ) (by decide) (fun y1 r1 => ?_)
  rcases r1 with ⟨w1, c1⟩ | ⟨w1, c1⟩
  · subst w1
    have cc1_1 := (show Int32.toInt 1 = 1 from rfl)
    have cc1_2 := (show Int32.toInt 60 = 60 from rfl)
    refine tz_eq (p2 := 10) rfl rfl (show Int32.toInt 1 = 1 from rfl) (fun c2 => absurd c2 (by omega)) (fun c2 => ?_)
    refine te_iload_n (p2 := 11) rfl rfl rfl ?_
    refine te_iconst (p2 := 12) (x := 0) rfl rfl (by decide) ?_
    refine te_iconst (p2 := 13) (x := 3) rfl rfl (by decide) ?_
    refine cS_pI (p2 := 16) rfl rfl rfl rfl (t_X12_in (n := x2) (a := 0) (b := 3) hI ) (by decide) (fun y3 r3 => ?_)
    rcases r3 with ⟨w3, c3⟩ | ⟨w3, c3⟩
    · subst w3
      have cc3_1 := (show Int32.toInt 0 = 0 from rfl)
      have cc3_2 := (show Int32.toInt 3 = 3 from rfl)
      refine tz_eq (p2 := 19) rfl rfl (show Int32.toInt 1 = 1 from rfl) (fun c4 => absurd c4 (by omega)) (fun c4 => ?_)
      refine te_aload_n (p2 := 20) rfl rfl rfl ?_
      refine tg_r (p2 := 23) (i := 148) (r := 165) rfl rfl hI rfl rfl rfl ?_
      refine te_bipush (p2 := 25) (x := 105) rfl rfl (by decide) ?_
      refine tl_i (p2 := 26) (i := 149) (n := 283) rfl rfl hI rfl rfl rfl rfl (by decide) (by decide) (fun y5 a5 b5 g5 e5 => ?_)
      refine te_iload_n (p2 := 27) rfl rfl rfl ?_
      refine au_add (p2 := 28) rfl rfl (fun z6 e6 => ?_)
      refine te_sipush (p2 := 31) (x := 2000) rfl rfl (by decide) ?_
      refine tb_le (p2 := 34) rfl rfl rfl (show Int32.toInt 2000 = 2000 from rfl) (fun c7 => ?_) (fun c7 => ?_)
      · refine te_aload_n (p2 := 39) rfl rfl rfl ?_
        refine te_iconst (p2 := 40) (x := 0) rfl rfl (by decide) ?_
        refine tc_V (p2 := 43) (i := 148) rfl rfl rfl rfl hI rfl rfl rfl (c_X12_lays (back := 0) hI (by decide) (by decide)) (by decide) (fun v8 h8 hq8 => ?_)
        obtain ⟨I8, g8, w8, L8⟩ := hq8
        subst w8
        have f8 := fr_tr (F1 := F_X12_lays) (F := F_X12_beside) f0 g8 (by decide)
        show EvP _ _ _ (43, [(0, .ref 164), (1, .int x1), (2, .int x2)], [], h8) _
        refine te_iload_n (p2 := 44) rfl rfl rfl ?_
        refine te_iconst (p2 := 45) (x := 1) rfl rfl (by decide) ?_
        refine tb_ne (p2 := 48) rfl rfl rfl (show Int32.toInt 1 = 1 from rfl) (fun c9 => ?_) (fun c9 => ?_)
        · refine te_iload_n (p2 := 59) rfl rfl rfl ?_
          refine te_iconst (p2 := 60) (x := 2) rfl rfl (by decide) ?_
          refine tb_ne (p2 := 63) rfl rfl rfl (show Int32.toInt 2 = 2 from rfl) (fun c10 => ?_) (fun c10 => ?_)
          · refine te_iconst (p2 := 78) (x := 0) rfl rfl (by decide) ?_
            refine te_istore_n (p2 := 79) (lv2 := [(3, .int 0), (0, .ref 164), (1, .int x1), (2, .int x2)]) rfl rfl (by decide) rfl ?_
            refine te_iconst (p2 := 80) (x := 0) rfl rfl (by decide) ?_
            refine te_istore (p2 := 82) (lv2 := [(4, .int 0), (3, .int 0), (0, .ref 164), (1, .int x1), (2, .int x2)]) rfl rfl (by decide) rfl ?_
            have lp11 : ∀ (n11 : Nat) (v11_4 : Int32) (h11 : im_H), tI h11 → fr F_X12_beside h h11 → 0 ≤ v11_4.toInt → v11_4.toInt ≤ 60 → v11_4.toInt ≤ x1.toInt → (∀ k : Nat, (k : Int) < 283 → rd h11 150 k = rd h 149 k) → x1.toInt - v11_4.toInt < (n11 : Int) → EvP im_K0 8 mX12_beside (82, [(0, .ref 164), (1, .int x1), (2, .int x2), (3, .int 0), (4, .int v11_4)], [], h11) (fun v h2 => tI h2 ∧ fr F_X12_beside h h2 ∧ ∃ y : Int64, v = some (.long y) ∧ Q2_beside x1 x2 y h h2) := by
              intro n11
              induction n11 with
              | zero => intro v11_4 h11 I11 f11 a11_4 b11_4 l11_0 w11_0 m11; exfalso; omega
              | succ n11 ih11 =>
                intro v11_4 h11 I11 f11 a11_4 b11_4 l11_0 w11_0 m11
                refine te_iload (p2 := 84) rfl rfl rfl ?_
                refine te_iload_n (p2 := 85) rfl rfl rfl ?_
                refine tb_ge (p2 := 88) rfl rfl rfl rfl (fun c12 => ?_) (fun c12 => ?_)
                · refine te_iload_n (p2 := 99) rfl rfl rfl ?_
                  refine tz_ne (p2 := 102) rfl rfl rfl (fun c13 => ?_) (fun c13 => ?_)
                  · refine te_iload_n (p2 := 113) rfl rfl rfl ?_
                    refine te_iconst (p2 := 114) (x := 1) rfl rfl (by decide) ?_
                    refine tb_ne (p2 := 117) rfl rfl rfl (show Int32.toInt 1 = 1 from rfl) (fun c14 => ?_) (fun c14 => ?_)
                    · refine te_iload_n (p2 := 130) rfl rfl rfl ?_
                      refine te_iconst (p2 := 131) (x := 2) rfl rfl (by decide) ?_
                      refine tb_ne (p2 := 134) rfl rfl rfl (show Int32.toInt 2 = 2 from rfl) (fun c15 => ?_) (fun c15 => ?_)
                      · refine te_aload_n (p2 := 151) rfl rfl rfl ?_
                        refine te_sipush (p2 := 154) (x := 164) rfl rfl (by decide) ?_
                        refine te_aload_n (p2 := 155) rfl rfl rfl ?_
                        refine tg_i (p2 := 158) (i := 148) rfl rfl I11 rfl rfl rfl (fun y16 a16 b16 e16 => ?_)
                        refine cV_pI (p2 := 161) (i := 148) rfl rfl rfl rfl I11 rfl rfl rfl (t_X12_sum (frm := 164) (many := y16) I11 (by decide) (by decide) (by omega) (by omega) (by have cq1 := (show Int32.toInt 164 = 164 from rfl); omega)) (by decide) (fun y17 r17 => ?_)
                        refine te_istore (p2 := 163) (lv2 := [(4, .int y17), (0, .ref 164), (1, .int x1), (2, .int x2), (3, .int 0)]) rfl rfl (by decide) rfl ?_
                        refine te_aload_n (p2 := 164) rfl rfl rfl ?_
                        refine te_iconst (p2 := 165) (x := 1) rfl rfl (by decide) ?_
                        refine tc_V (p2 := 168) (i := 148) rfl rfl rfl rfl I11 rfl rfl rfl (c_X12_lays (back := 1) I11 (by decide) (by decide)) (by decide) (fun v18 h18 hq18 => ?_)
                        obtain ⟨I18, g18, w18, L18⟩ := hq18
                        subst w18
                        have f18 := fr_tr (F1 := F_X12_lays) (F := F_X12_beside) f11 g18 (by decide)
                        show EvP _ _ _ (168, [(4, .int y17), (0, .ref 164), (1, .int x1), (2, .int x2), (3, .int 0)], [], h18) _
                        refine te_iload (p2 := 170) rfl rfl rfl ?_
                        refine te_i2l (p2 := 171) (z := (Int32.toInt64 y17)) rfl rfl rfl ?_
                        exact te_lret rfl rfl ⟨I18, f18, _, rfl, (fun k hk => ((L18.2 (by decide)).1 k hk).trans (w11_0 k hk))⟩
                      · refine te_aload_n (p2 := 135) rfl rfl rfl ?_
                        refine te_sipush (p2 := 138) (x := 236) rfl rfl (by decide) ?_
                        refine te_aload_n (p2 := 139) rfl rfl rfl ?_
                        refine tg_i (p2 := 142) (i := 148) rfl rfl I11 rfl rfl rfl (fun y19 a19 b19 e19 => ?_)
                        refine cV_pI (p2 := 145) (i := 148) rfl rfl rfl rfl I11 rfl rfl rfl (t_X12_sum (frm := 236) (many := y19) I11 (by decide) (by decide) (by omega) (by omega) (by have cq1 := (show Int32.toInt 236 = 236 from rfl); omega)) (by decide) (fun y20 r20 => ?_)
                        refine te_iload_n (p2 := 146) rfl rfl rfl ?_
                        have n21_y20 := i32_lo y20
                        have o21_y20 := i32_hi y20
                        refine ar_sub (p2 := 147) rfl rfl rfl (show Int32.toInt 0 = 0 from rfl) (by omega) (by omega) (fun z21 e21 f21 => ?_)
                        refine te_goto rfl ?_
                        refine te_istore (p2 := 163) (lv2 := [(4, .int z21), (0, .ref 164), (1, .int x1), (2, .int x2), (3, .int 0)]) rfl rfl (by decide) rfl ?_
                        refine te_aload_n (p2 := 164) rfl rfl rfl ?_
                        refine te_iconst (p2 := 165) (x := 1) rfl rfl (by decide) ?_
                        refine tc_V (p2 := 168) (i := 148) rfl rfl rfl rfl I11 rfl rfl rfl (c_X12_lays (back := 1) I11 (by decide) (by decide)) (by decide) (fun v22 h22 hq22 => ?_)
                        obtain ⟨I22, g22, w22, L22⟩ := hq22
                        subst w22
                        have f22 := fr_tr (F1 := F_X12_lays) (F := F_X12_beside) f11 g22 (by decide)
                        show EvP _ _ _ (168, [(4, .int z21), (0, .ref 164), (1, .int x1), (2, .int x2), (3, .int 0)], [], h22) _
                        refine te_iload (p2 := 170) rfl rfl rfl ?_
                        refine te_i2l (p2 := 171) (z := (Int32.toInt64 z21)) rfl rfl rfl ?_
                        exact te_lret rfl rfl ⟨I22, f22, _, rfl, (fun k hk => ((L22.2 (by decide)).1 k hk).trans (w11_0 k hk))⟩
                    · refine te_aload_n (p2 := 118) rfl rfl rfl ?_
                      refine tg_r (p2 := 121) (i := 148) (r := 165) rfl rfl I11 rfl rfl rfl ?_
                      refine te_bipush (p2 := 123) (x := 100) rfl rfl (by decide) ?_
                      refine tl_i (p2 := 124) (i := 149) (n := 283) rfl rfl I11 rfl rfl rfl rfl (by decide) (by decide) (fun y23 a23 b23 g23 e23 => ?_)
                      refine te_iload_n (p2 := 125) rfl rfl rfl ?_
                      have n24_y23 := i32_lo y23
                      have o24_y23 := i32_hi y23
                      refine ar_sub (p2 := 126) rfl rfl rfl (show Int32.toInt 0 = 0 from rfl) (by omega) (by omega) (fun z24 e24 f24 => ?_)
                      refine te_goto rfl ?_
                      refine te_istore (p2 := 163) (lv2 := [(4, .int z24), (0, .ref 164), (1, .int x1), (2, .int x2), (3, .int 0)]) rfl rfl (by decide) rfl ?_
                      refine te_aload_n (p2 := 164) rfl rfl rfl ?_
                      refine te_iconst (p2 := 165) (x := 1) rfl rfl (by decide) ?_
                      refine tc_V (p2 := 168) (i := 148) rfl rfl rfl rfl I11 rfl rfl rfl (c_X12_lays (back := 1) I11 (by decide) (by decide)) (by decide) (fun v25 h25 hq25 => ?_)
                      obtain ⟨I25, g25, w25, L25⟩ := hq25
                      subst w25
                      have f25 := fr_tr (F1 := F_X12_lays) (F := F_X12_beside) f11 g25 (by decide)
                      show EvP _ _ _ (168, [(4, .int z24), (0, .ref 164), (1, .int x1), (2, .int x2), (3, .int 0)], [], h25) _
                      refine te_iload (p2 := 170) rfl rfl rfl ?_
                      refine te_i2l (p2 := 171) (z := (Int32.toInt64 z24)) rfl rfl rfl ?_
                      exact te_lret rfl rfl ⟨I25, f25, _, rfl, (fun k hk => ((L25.2 (by decide)).1 k hk).trans (w11_0 k hk))⟩
                  · refine te_aload_n (p2 := 103) rfl rfl rfl ?_
                    refine te_iconst (p2 := 104) (x := 0) rfl rfl (by decide) ?_
                    refine te_bipush (p2 := 106) (x := 100) rfl rfl (by decide) ?_
                    refine cV_pI (p2 := 109) (i := 148) rfl rfl rfl rfl I11 rfl rfl rfl (t_X12_sum (frm := 0) (many := 100) I11 (by decide) (by decide) (by decide) (by decide) (by have cq1 := (show Int32.toInt 0 = 0 from rfl); have cq2 := (show Int32.toInt 100 = 100 from rfl); omega)) (by decide) (fun y26 r26 => ?_)
                    refine te_goto rfl ?_
                    refine te_istore (p2 := 163) (lv2 := [(4, .int y26), (0, .ref 164), (1, .int x1), (2, .int x2), (3, .int 0)]) rfl rfl (by decide) rfl ?_
                    refine te_aload_n (p2 := 164) rfl rfl rfl ?_
                    refine te_iconst (p2 := 165) (x := 1) rfl rfl (by decide) ?_
                    refine tc_V (p2 := 168) (i := 148) rfl rfl rfl rfl I11 rfl rfl rfl (c_X12_lays (back := 1) I11 (by decide) (by decide)) (by decide) (fun v27 h27 hq27 => ?_)
                    obtain ⟨I27, g27, w27, L27⟩ := hq27
                    subst w27
                    have f27 := fr_tr (F1 := F_X12_lays) (F := F_X12_beside) f11 g27 (by decide)
                    show EvP _ _ _ (168, [(4, .int y26), (0, .ref 164), (1, .int x1), (2, .int x2), (3, .int 0)], [], h27) _
                    refine te_iload (p2 := 170) rfl rfl rfl ?_
                    refine te_i2l (p2 := 171) (z := (Int32.toInt64 y26)) rfl rfl rfl ?_
                    exact te_lret rfl rfl ⟨I27, f27, _, rfl, (fun k hk => ((L27.2 (by decide)).1 k hk).trans (w11_0 k hk))⟩
                · refine te_aload_n (p2 := 89) rfl rfl rfl ?_
                  refine cV_mV (p2 := 92) (i := 148) rfl rfl rfl rfl I11 rfl rfl rfl (t_X12_goes  I11 ) (by decide) (fun h28 I28 g28 => ?_)
                  have f28 := fr_tr (F1 := F_X12_goes) (F := F_X12_beside) f11 g28 (by decide)
                  refine ar_inc (p2 := 95) (x := v11_4) rfl rfl (by decide) rfl (by decide) rfl (by omega) (by omega) (fun z29 e29 f29 => ?_)
                  show EvP _ _ _ (95, [(4, .int z29), (0, .ref 164), (1, .int x1), (2, .int x2), (3, .int 0)], [], h28) _
                  refine te_goto rfl ?_
                  refine te_lv [(0, .ref 164), (1, .int x1), (2, .int x2), (3, .int 0), (4, .int z29)] rfl rfl ⟨rfl, rfl, rfl, rfl, rfl, trivial⟩ ?_
                  exact ih11 z29 h28 I28 f28 (by omega) (by omega) (by have cc0 := (show Int32.toInt 0 = 0 from rfl); omega) (fun k hk => (g28 150 _ rfl).trans (w11_0 k hk)) (by have cc0 := (show Int32.toInt 0 = 0 from rfl); omega)
            refine te_lv [(0, .ref 164), (1, .int x1), (2, .int x2), (3, .int 0), (4, .int 0)] rfl rfl ⟨rfl, rfl, rfl, rfl, rfl, trivial⟩ ?_
            exact lp11 61 0 h8 I8 f8 (by decide) (by decide) (by have cc0 := (show Int32.toInt 0 = 0 from rfl); omega) (L8.1 (by decide)).1 (by have cc0 := (show Int32.toInt 0 = 0 from rfl); omega)
          · refine te_aload_n (p2 := 64) rfl rfl rfl ?_
            refine te_sipush (p2 := 67) (x := 236) rfl rfl (by decide) ?_
            refine te_aload_n (p2 := 68) rfl rfl rfl ?_
            refine tg_i (p2 := 71) (i := 148) rfl rfl I8 rfl rfl rfl (fun y30 a30 b30 e30 => ?_)
            refine cV_pI (p2 := 74) (i := 148) rfl rfl rfl rfl I8 rfl rfl rfl (t_X12_sum (frm := 236) (many := y30) I8 (by decide) (by decide) (by omega) (by omega) (by have cq1 := (show Int32.toInt 236 = 236 from rfl); omega)) (by decide) (fun y31 r31 => ?_)
            refine te_goto rfl ?_
            refine te_istore_n (p2 := 79) (lv2 := [(3, .int y31), (0, .ref 164), (1, .int x1), (2, .int x2)]) rfl rfl (by decide) rfl ?_
            refine te_iconst (p2 := 80) (x := 0) rfl rfl (by decide) ?_
            refine te_istore (p2 := 82) (lv2 := [(4, .int 0), (3, .int y31), (0, .ref 164), (1, .int x1), (2, .int x2)]) rfl rfl (by decide) rfl ?_
            have lp32 : ∀ (n32 : Nat) (v32_4 : Int32) (h32 : im_H), tI h32 → fr F_X12_beside h h32 → 0 ≤ v32_4.toInt → v32_4.toInt ≤ 60 → v32_4.toInt ≤ x1.toInt → (∀ k : Nat, (k : Int) < 283 → rd h32 150 k = rd h 149 k) → x1.toInt - v32_4.toInt < (n32 : Int) → EvP im_K0 8 mX12_beside (82, [(0, .ref 164), (1, .int x1), (2, .int x2), (3, .int y31), (4, .int v32_4)], [], h32) (fun v h2 => tI h2 ∧ fr F_X12_beside h h2 ∧ ∃ y : Int64, v = some (.long y) ∧ Q2_beside x1 x2 y h h2) := by
              intro n32
              induction n32 with
              | zero => intro v32_4 h32 I32 f32 a32_4 b32_4 l32_0 w32_0 m32; exfalso; omega
              | succ n32 ih32 =>
                intro v32_4 h32 I32 f32 a32_4 b32_4 l32_0 w32_0 m32
                refine te_iload (p2 := 84) rfl rfl rfl ?_
                refine te_iload_n (p2 := 85) rfl rfl rfl ?_
                refine tb_ge (p2 := 88) rfl rfl rfl rfl (fun c33 => ?_) (fun c33 => ?_)
                · refine te_iload_n (p2 := 99) rfl rfl rfl ?_
                  refine tz_ne (p2 := 102) rfl rfl rfl (fun c34 => ?_) (fun c34 => absurd c34 (by omega))
                  refine te_iload_n (p2 := 113) rfl rfl rfl ?_
                  refine te_iconst (p2 := 114) (x := 1) rfl rfl (by decide) ?_
                  refine tb_ne (p2 := 117) rfl rfl rfl (show Int32.toInt 1 = 1 from rfl) (fun c35 => ?_) (fun c35 => absurd c35 (by omega))
                  refine te_iload_n (p2 := 130) rfl rfl rfl ?_
                  refine te_iconst (p2 := 131) (x := 2) rfl rfl (by decide) ?_
                  refine tb_ne (p2 := 134) rfl rfl rfl (show Int32.toInt 2 = 2 from rfl) (fun c36 => absurd c36 (by omega)) (fun c36 => ?_)
                  refine te_aload_n (p2 := 135) rfl rfl rfl ?_
                  refine te_sipush (p2 := 138) (x := 236) rfl rfl (by decide) ?_
                  refine te_aload_n (p2 := 139) rfl rfl rfl ?_
                  refine tg_i (p2 := 142) (i := 148) rfl rfl I32 rfl rfl rfl (fun y37 a37 b37 e37 => ?_)
                  refine cV_pI (p2 := 145) (i := 148) rfl rfl rfl rfl I32 rfl rfl rfl (t_X12_sum (frm := 236) (many := y37) I32 (by decide) (by decide) (by omega) (by omega) (by have cq1 := (show Int32.toInt 236 = 236 from rfl); omega)) (by decide) (fun y38 r38 => ?_)
                  refine te_iload_n (p2 := 146) rfl rfl rfl ?_
                  refine au_sub (p2 := 147) rfl rfl (fun z39 e39 => ?_)
                  refine te_goto rfl ?_
                  refine te_istore (p2 := 163) (lv2 := [(4, .int z39), (0, .ref 164), (1, .int x1), (2, .int x2), (3, .int y31)]) rfl rfl (by decide) rfl ?_
                  refine te_aload_n (p2 := 164) rfl rfl rfl ?_
                  refine te_iconst (p2 := 165) (x := 1) rfl rfl (by decide) ?_
                  refine tc_V (p2 := 168) (i := 148) rfl rfl rfl rfl I32 rfl rfl rfl (c_X12_lays (back := 1) I32 (by decide) (by decide)) (by decide) (fun v40 h40 hq40 => ?_)
                  obtain ⟨I40, g40, w40, L40⟩ := hq40
                  subst w40
                  have f40 := fr_tr (F1 := F_X12_lays) (F := F_X12_beside) f32 g40 (by decide)
                  show EvP _ _ _ (168, [(4, .int z39), (0, .ref 164), (1, .int x1), (2, .int x2), (3, .int y31)], [], h40) _
                  refine te_iload (p2 := 170) rfl rfl rfl ?_
                  refine te_i2l (p2 := 171) (z := (Int32.toInt64 z39)) rfl rfl rfl ?_
                  exact te_lret rfl rfl ⟨I40, f40, _, rfl, (fun k hk => ((L40.2 (by decide)).1 k hk).trans (w32_0 k hk))⟩
                · refine te_aload_n (p2 := 89) rfl rfl rfl ?_
                  refine cV_mV (p2 := 92) (i := 148) rfl rfl rfl rfl I32 rfl rfl rfl (t_X12_goes  I32 ) (by decide) (fun h41 I41 g41 => ?_)
                  have f41 := fr_tr (F1 := F_X12_goes) (F := F_X12_beside) f32 g41 (by decide)
                  refine ar_inc (p2 := 95) (x := v32_4) rfl rfl (by decide) rfl (by decide) rfl (by omega) (by omega) (fun z42 e42 f42 => ?_)
                  show EvP _ _ _ (95, [(4, .int z42), (0, .ref 164), (1, .int x1), (2, .int x2), (3, .int y31)], [], h41) _
                  refine te_goto rfl ?_
                  refine te_lv [(0, .ref 164), (1, .int x1), (2, .int x2), (3, .int y31), (4, .int z42)] rfl rfl ⟨rfl, rfl, rfl, rfl, rfl, trivial⟩ ?_
                  exact ih32 z42 h41 I41 f41 (by omega) (by omega) (by omega) (fun k hk => (g41 150 _ rfl).trans (w32_0 k hk)) (by omega)
            refine te_lv [(0, .ref 164), (1, .int x1), (2, .int x2), (3, .int y31), (4, .int 0)] rfl rfl ⟨rfl, rfl, rfl, rfl, rfl, trivial⟩ ?_
            exact lp32 61 0 h8 I8 f8 (by decide) (by decide) (by have cc0 := (show Int32.toInt 0 = 0 from rfl); omega) (L8.1 (by decide)).1 (by have cc0 := (show Int32.toInt 0 = 0 from rfl); omega)
        · refine te_aload_n (p2 := 49) rfl rfl rfl ?_
          refine tg_r (p2 := 52) (i := 148) (r := 165) rfl rfl I8 rfl rfl rfl ?_
          refine te_bipush (p2 := 54) (x := 100) rfl rfl (by decide) ?_
          refine tl_i (p2 := 55) (i := 149) (n := 283) rfl rfl I8 rfl rfl rfl rfl (by decide) (by decide) (fun y43 a43 b43 g43 e43 => ?_)
          refine te_goto rfl ?_
          refine te_istore_n (p2 := 79) (lv2 := [(3, .int y43), (0, .ref 164), (1, .int x1), (2, .int x2)]) rfl rfl (by decide) rfl ?_
          refine te_iconst (p2 := 80) (x := 0) rfl rfl (by decide) ?_
          refine te_istore (p2 := 82) (lv2 := [(4, .int 0), (3, .int y43), (0, .ref 164), (1, .int x1), (2, .int x2)]) rfl rfl (by decide) rfl ?_
          have lp44 : ∀ (n44 : Nat) (v44_4 : Int32) (h44 : im_H), tI h44 → fr F_X12_beside h h44 → 0 ≤ v44_4.toInt → v44_4.toInt ≤ 60 → v44_4.toInt ≤ x1.toInt → (∀ k : Nat, (k : Int) < 283 → rd h44 150 k = rd h 149 k) → x1.toInt - v44_4.toInt < (n44 : Int) → EvP im_K0 8 mX12_beside (82, [(0, .ref 164), (1, .int x1), (2, .int x2), (3, .int y43), (4, .int v44_4)], [], h44) (fun v h2 => tI h2 ∧ fr F_X12_beside h h2 ∧ ∃ y : Int64, v = some (.long y) ∧ Q2_beside x1 x2 y h h2) := by
            intro n44
            induction n44 with
            | zero => intro v44_4 h44 I44 f44 a44_4 b44_4 l44_0 w44_0 m44; exfalso; omega
            | succ n44 ih44 =>
              intro v44_4 h44 I44 f44 a44_4 b44_4 l44_0 w44_0 m44
              refine te_iload (p2 := 84) rfl rfl rfl ?_
              refine te_iload_n (p2 := 85) rfl rfl rfl ?_
              refine tb_ge (p2 := 88) rfl rfl rfl rfl (fun c45 => ?_) (fun c45 => ?_)
              · refine te_iload_n (p2 := 99) rfl rfl rfl ?_
                refine tz_ne (p2 := 102) rfl rfl rfl (fun c46 => ?_) (fun c46 => absurd c46 (by omega))
                refine te_iload_n (p2 := 113) rfl rfl rfl ?_
                refine te_iconst (p2 := 114) (x := 1) rfl rfl (by decide) ?_
                refine tb_ne (p2 := 117) rfl rfl rfl (show Int32.toInt 1 = 1 from rfl) (fun c47 => absurd c47 (by omega)) (fun c47 => ?_)
                refine te_aload_n (p2 := 118) rfl rfl rfl ?_
                refine tg_r (p2 := 121) (i := 148) (r := 165) rfl rfl I44 rfl rfl rfl ?_
                refine te_bipush (p2 := 123) (x := 100) rfl rfl (by decide) ?_
                refine tl_i (p2 := 124) (i := 149) (n := 283) rfl rfl I44 rfl rfl rfl rfl (by decide) (by decide) (fun y48 a48 b48 g48 e48 => ?_)
                refine te_iload_n (p2 := 125) rfl rfl rfl ?_
                refine au_sub (p2 := 126) rfl rfl (fun z49 e49 => ?_)
                refine te_goto rfl ?_
                refine te_istore (p2 := 163) (lv2 := [(4, .int z49), (0, .ref 164), (1, .int x1), (2, .int x2), (3, .int y43)]) rfl rfl (by decide) rfl ?_
                refine te_aload_n (p2 := 164) rfl rfl rfl ?_
                refine te_iconst (p2 := 165) (x := 1) rfl rfl (by decide) ?_
                refine tc_V (p2 := 168) (i := 148) rfl rfl rfl rfl I44 rfl rfl rfl (c_X12_lays (back := 1) I44 (by decide) (by decide)) (by decide) (fun v50 h50 hq50 => ?_)
                obtain ⟨I50, g50, w50, L50⟩ := hq50
                subst w50
                have f50 := fr_tr (F1 := F_X12_lays) (F := F_X12_beside) f44 g50 (by decide)
                show EvP _ _ _ (168, [(4, .int z49), (0, .ref 164), (1, .int x1), (2, .int x2), (3, .int y43)], [], h50) _
                refine te_iload (p2 := 170) rfl rfl rfl ?_
                refine te_i2l (p2 := 171) (z := (Int32.toInt64 z49)) rfl rfl rfl ?_
                exact te_lret rfl rfl ⟨I50, f50, _, rfl, (fun k hk => ((L50.2 (by decide)).1 k hk).trans (w44_0 k hk))⟩
              · refine te_aload_n (p2 := 89) rfl rfl rfl ?_
                refine cV_mV (p2 := 92) (i := 148) rfl rfl rfl rfl I44 rfl rfl rfl (t_X12_goes  I44 ) (by decide) (fun h51 I51 g51 => ?_)
                have f51 := fr_tr (F1 := F_X12_goes) (F := F_X12_beside) f44 g51 (by decide)
                refine ar_inc (p2 := 95) (x := v44_4) rfl rfl (by decide) rfl (by decide) rfl (by omega) (by omega) (fun z52 e52 f52 => ?_)
                show EvP _ _ _ (95, [(4, .int z52), (0, .ref 164), (1, .int x1), (2, .int x2), (3, .int y43)], [], h51) _
                refine te_goto rfl ?_
                refine te_lv [(0, .ref 164), (1, .int x1), (2, .int x2), (3, .int y43), (4, .int z52)] rfl rfl ⟨rfl, rfl, rfl, rfl, rfl, trivial⟩ ?_
                exact ih44 z52 h51 I51 f51 (by omega) (by omega) (by omega) (fun k hk => (g51 150 _ rfl).trans (w44_0 k hk)) (by omega)
          refine te_lv [(0, .ref 164), (1, .int x1), (2, .int x2), (3, .int y43), (4, .int 0)] rfl rfl ⟨rfl, rfl, rfl, rfl, rfl, trivial⟩ ?_
          exact lp44 61 0 h8 I8 f8 (by decide) (by decide) (by have cc0 := (show Int32.toInt 0 = 0 from rfl); omega) (L8.1 (by decide)).1 (by have cc0 := (show Int32.toInt 0 = 0 from rfl); omega)
      · refine te_ldc2 (p2 := 37) (x := (-4611686018427387904)) rfl rfl rfl ?_
        exact te_lret rfl rfl ⟨hI, f0, _, rfl, (fun k hk => rfl)⟩
    · subst w3
      have cc3_1 := (show Int32.toInt 0 = 0 from rfl)
      have cc3_2 := (show Int32.toInt 3 = 3 from rfl)
      refine tz_eq (p2 := 19) rfl rfl (show Int32.toInt 0 = 0 from rfl) (fun c53 => ?_) (fun c53 => absurd c53 (by omega))
      refine te_ldc2 (p2 := 37) (x := (-4611686018427387904)) rfl rfl rfl ?_
      exact te_lret rfl rfl ⟨hI, f0, _, rfl, (fun k hk => rfl)⟩
  · subst w1
    have cc1_1 := (show Int32.toInt 1 = 1 from rfl)
    have cc1_2 := (show Int32.toInt 60 = 60 from rfl)
    refine tz_eq (p2 := 10) rfl rfl (show Int32.toInt 0 = 0 from rfl) (fun c54 => ?_) (fun c54 => absurd c54 (by omega))
    refine te_ldc2 (p2 := 37) (x := (-4611686018427387904)) rfl rfl rfl ?_
    exact te_lret rfl rfl ⟨hI, f0, _, rfl, (fun k hk => rfl)⟩
abbrev Q1_beside (x1 x2 : Int32) (y : Int64) (h h2 : im_H) : Prop := True
set_option maxRecDepth 20000 in
set_option maxHeartbeats 4000000 in
theorem c_X11_beside {x1 : Int32} {x2 : Int32} {h : im_H} (hI : tI h)  : CaP 8 100 [.ref 16, .int x1, .int x2] h (fun v h2 => tI h2 ∧ fr F_X11_beside h h2 ∧ ∃ y : Int64, v = some (.long y) ∧ Q1_beside x1 x2 y h h2) := by
  refine cap_of (d := 7) (M := mX11_beside) rfl (Nat.le_of_ble_eq_true rfl) ?_
  show EvP im_K0 7 mX11_beside (0, [(0, .ref 16), (1, .int x1), (2, .int x2)], [], h) _
  have f0 : fr F_X11_beside h h := fr_rf
  refine te_iload_n (p2 := 1) rfl rfl rfl ?_
  refine te_iconst (p2 := 2) (x := 1) rfl rfl (by decide) ?_
  refine te_bipush (p2 := 4) (x := 60) rfl rfl (by decide) ?_
  refine cS_pI (p2 := 7) rfl rfl rfl rfl (t_X11_between (n := x1) (a := 1) (b := 60) hI ) (by decide) (fun y1 r1 => ?_)
  rcases r1 with ⟨w1, c1⟩ | ⟨w1, c1⟩
  · subst w1
    have cc1_1 := (show Int32.toInt 1 = 1 from rfl)
    have cc1_2 := (show Int32.toInt 60 = 60 from rfl)
    refine tz_eq (p2 := 10) rfl rfl (show Int32.toInt 1 = 1 from rfl) (fun c2 => absurd c2 (by omega)) (fun c2 => ?_)
    refine te_iload_n (p2 := 11) rfl rfl rfl ?_
    refine te_iconst (p2 := 12) (x := 4) rfl rfl (by decide) ?_
    refine cS_pI (p2 := 15) rfl rfl rfl rfl (t_X11_within (n := x2) (b := 4) hI ) (by decide) (fun y3 r3 => ?_)
    rcases r3 with ⟨w3, c3⟩ | ⟨w3, c3⟩
    · subst w3
      have cc3_1 := (show Int32.toInt 4 = 4 from rfl)
      refine tz_eq (p2 := 18) rfl rfl (show Int32.toInt 1 = 1 from rfl) (fun c4 => absurd c4 (by omega)) (fun c4 => ?_)
      refine te_aload_n (p2 := 19) rfl rfl rfl ?_
      refine tg_r (p2 := 22) (i := 0) (r := 39) rfl rfl hI rfl rfl rfl ?_
      refine tg_i (p2 := 25) (i := 23) rfl rfl hI rfl rfl rfl (fun y5 a5 b5 e5 => ?_)
      refine te_iload_n (p2 := 26) rfl rfl rfl ?_
      refine au_add (p2 := 27) rfl rfl (fun z6 e6 => ?_)
      refine te_sipush (p2 := 30) (x := 2000) rfl rfl (by decide) ?_
      refine tb_le (p2 := 33) rfl rfl rfl (show Int32.toInt 2000 = 2000 from rfl) (fun c7 => ?_) (fun c7 => ?_)
      · refine te_aload_n (p2 := 38) rfl rfl rfl ?_
        refine tg_r (p2 := 41) (i := 0) (r := 53) rfl rfl hI rfl rfl rfl ?_
        refine te_aload_n (p2 := 42) rfl rfl rfl ?_
        refine tg_r (p2 := 45) (i := 0) (r := 39) rfl rfl hI rfl rfl rfl ?_
        refine cV_mV (p2 := 48) (i := 37) rfl rfl rfl rfl hI rfl rfl rfl (t_X9_become (s := 37) (o := 23) hI (by decide) (by decide)) (by decide) (fun h8 I8 g8 => ?_)
        have f8 := fr_tr (F1 := (F_X9_become 37 23)) (F := F_X11_beside) f0 g8 (by decide)
        refine te_iconst (p2 := 49) (x := 0) rfl rfl (by decide) ?_
        refine te_istore_n (p2 := 50) (lv2 := [(3, .int 0), (0, .ref 16), (1, .int x1), (2, .int x2)]) rfl rfl (by decide) rfl ?_
        have lp9 : ∀ (n9 : Nat) (v9_3 : Int32) (h9 : im_H), tI h9 → fr F_X11_beside h h9 → 0 ≤ v9_3.toInt → v9_3.toInt ≤ 60 → v9_3.toInt ≤ x1.toInt → x1.toInt - v9_3.toInt < (n9 : Int) → EvP im_K0 7 mX11_beside (50, [(0, .ref 16), (1, .int x1), (2, .int x2), (3, .int v9_3)], [], h9) (fun v h2 => tI h2 ∧ fr F_X11_beside h h2 ∧ ∃ y : Int64, v = some (.long y) ∧ Q1_beside x1 x2 y h h2) := by
          intro n9
          induction n9 with
          | zero => intro v9_3 h9 I9 f9 a9_3 b9_3 l9_0 m9; exfalso; omega
          | succ n9 ih9 =>
            intro v9_3 h9 I9 f9 a9_3 b9_3 l9_0 m9
            refine te_iload_n (p2 := 51) rfl rfl rfl ?_
            refine te_iload_n (p2 := 52) rfl rfl rfl ?_
            refine tb_ge (p2 := 55) rfl rfl rfl rfl (fun c10 => ?_) (fun c10 => ?_)
            · refine te_iload_n (p2 := 73) rfl rfl rfl ?_
              by_cases c11 : x2.toInt = 0
              · refine te_tsIn (k := 0) (p2 := 100) rfl c11 (by decide) (by decide) rfl (by decide) ?_
                refine te_aload_n (p2 := 101) rfl rfl rfl ?_
                refine tg_r (p2 := 104) (i := 0) (r := 53) rfl rfl I9 rfl rfl rfl ?_
                refine cV_pI (p2 := 107) (i := 37) rfl rfl rfl rfl I9 rfl rfl rfl (t_X9_allLoads (s := 37) I9 (by decide)) (by decide) (fun y12 r12 => ?_)
                refine te_i2l (p2 := 108) (z := (Int32.toInt64 y12)) rfl rfl rfl ?_
                exact te_lret rfl rfl ⟨I9, f9, _, rfl, trivial⟩
              · by_cases c13 : x2.toInt = 1
                · refine te_tsIn (k := 1) (p2 := 109) rfl c13 (by decide) (by decide) rfl (by decide) ?_
                  refine te_aload_n (p2 := 110) rfl rfl rfl ?_
                  refine tg_r (p2 := 113) (i := 0) (r := 53) rfl rfl I9 rfl rfl rfl ?_
                  refine tg_r (p2 := 116) (i := 37) (r := 54) rfl rfl I9 rfl rfl rfl ?_
                  refine te_iconst (p2 := 117) (x := 0) rfl rfl (by decide) ?_
                  refine tl_i (p2 := 118) (i := 38) (n := 3) rfl rfl I9 rfl rfl rfl rfl (by decide) (by decide) (fun y14 a14 b14 g14 e14 => ?_)
                  refine te_aload_n (p2 := 119) rfl rfl rfl ?_
                  refine tg_r (p2 := 122) (i := 0) (r := 39) rfl rfl I9 rfl rfl rfl ?_
                  refine tg_r (p2 := 125) (i := 23) (r := 40) rfl rfl I9 rfl rfl rfl ?_
                  refine te_iconst (p2 := 126) (x := 0) rfl rfl (by decide) ?_
                  refine tl_i (p2 := 127) (i := 24) (n := 3) rfl rfl I9 rfl rfl rfl rfl (by decide) (by decide) (fun y15 a15 b15 g15 e15 => ?_)
                  refine au_sub (p2 := 128) rfl rfl (fun z16 e16 => ?_)
                  refine te_i2l (p2 := 129) (z := (Int32.toInt64 z16)) rfl rfl rfl ?_
                  exact te_lret rfl rfl ⟨I9, f9, _, rfl, trivial⟩
                · by_cases c17 : x2.toInt = 2
                  · refine te_tsIn (k := 2) (p2 := 130) rfl c17 (by decide) (by decide) rfl (by decide) ?_
                    refine te_aload_n (p2 := 131) rfl rfl rfl ?_
                    refine tg_r (p2 := 134) (i := 0) (r := 53) rfl rfl I9 rfl rfl rfl ?_
                    refine cV_pI (p2 := 137) (i := 37) rfl rfl rfl rfl I9 rfl rfl rfl (t_X9_allDead (s := 37) I9 (by decide)) (by decide) (fun y18 r18 => ?_)
                    refine te_aload_n (p2 := 138) rfl rfl rfl ?_
                    refine tg_r (p2 := 141) (i := 0) (r := 39) rfl rfl I9 rfl rfl rfl ?_
                    refine cV_pI (p2 := 144) (i := 23) rfl rfl rfl rfl I9 rfl rfl rfl (t_X9_allDead (s := 23) I9 (by decide)) (by decide) (fun y19 r19 => ?_)
                    refine au_sub (p2 := 145) rfl rfl (fun z20 e20 => ?_)
                    refine te_i2l (p2 := 146) (z := (Int32.toInt64 z20)) rfl rfl rfl ?_
                    exact te_lret rfl rfl ⟨I9, f9, _, rfl, trivial⟩
                  · refine te_tsOut (p2 := 147) rfl (by omega) (by decide) ?_
                    refine te_aload_n (p2 := 148) rfl rfl rfl ?_
                    refine tg_r (p2 := 151) (i := 0) (r := 53) rfl rfl I9 rfl rfl rfl ?_
                    refine cV_pI (p2 := 154) (i := 37) rfl rfl rfl rfl I9 rfl rfl rfl (t_X9_allHurt (s := 37) I9 (by decide)) (by decide) (fun y21 r21 => ?_)
                    refine te_i2l (p2 := 155) (z := (Int32.toInt64 y21)) rfl rfl rfl ?_
                    exact te_lret rfl rfl ⟨I9, f9, _, rfl, trivial⟩
            · refine te_aload_n (p2 := 56) rfl rfl rfl ?_
              refine tg_r (p2 := 59) (i := 0) (r := 17) rfl rfl I9 rfl rfl rfl ?_
              refine te_aload_n (p2 := 60) rfl rfl rfl ?_
              refine tg_r (p2 := 63) (i := 0) (r := 53) rfl rfl I9 rfl rfl rfl ?_
              refine cV_mV (p2 := 66) (i := 1) rfl rfl rfl rfl I9 rfl rfl rfl (t_X0_playDay (s := 37) I9 (by decide)) (by decide) (fun h22 I22 g22 => ?_)
              have f22 := fr_tr (F1 := (F_X0_playDay 37)) (F := F_X11_beside) f9 g22 (by decide)
              refine ar_inc (p2 := 69) (x := v9_3) rfl rfl (by decide) rfl (by decide) rfl (by omega) (by omega) (fun z23 e23 f23 => ?_)
              show EvP _ _ _ (69, [(3, .int z23), (0, .ref 16), (1, .int x1), (2, .int x2)], [], h22) _
              refine te_goto rfl ?_
              refine te_lv [(0, .ref 16), (1, .int x1), (2, .int x2), (3, .int z23)] rfl rfl ⟨rfl, rfl, rfl, rfl, trivial⟩ ?_
              exact ih9 z23 h22 I22 f22 (by omega) (by omega) (by omega) (by omega)
        refine te_lv [(0, .ref 16), (1, .int x1), (2, .int x2), (3, .int 0)] rfl rfl ⟨rfl, rfl, rfl, rfl, trivial⟩ ?_
        exact lp9 61 0 h8 I8 f8 (by decide) (by decide) (by have cc0 := (show Int32.toInt 0 = 0 from rfl); omega) (by have cc0 := (show Int32.toInt 0 = 0 from rfl); omega)
      · refine te_ldc2 (p2 := 36) (x := (-4611686018427387904)) rfl rfl rfl ?_
        exact te_lret rfl rfl ⟨hI, f0, _, rfl, trivial⟩
    · subst w3
      have cc3_1 := (show Int32.toInt 4 = 4 from rfl)
      refine tz_eq (p2 := 18) rfl rfl (show Int32.toInt 0 = 0 from rfl) (fun c24 => ?_) (fun c24 => absurd c24 (by omega))
      refine te_ldc2 (p2 := 36) (x := (-4611686018427387904)) rfl rfl rfl ?_
      exact te_lret rfl rfl ⟨hI, f0, _, rfl, trivial⟩
  · subst w1
    have cc1_1 := (show Int32.toInt 1 = 1 from rfl)
    have cc1_2 := (show Int32.toInt 60 = 60 from rfl)
    refine tz_eq (p2 := 10) rfl rfl (show Int32.toInt 0 = 0 from rfl) (fun c25 => ?_) (fun c25 => absurd c25 (by omega))
    refine te_ldc2 (p2 := 36) (x := (-4611686018427387904)) rfl rfl rfl ?_
    exact te_lret rfl rfl ⟨hI, f0, _, rfl, trivial⟩
abbrev Q2_clear (x1 x2 : Int32) (y : Int32) (h h2 : im_H) : Prop := ∀ k : Nat, (k : Int) < 283 → rd h2 149 k = rd h 149 k
set_option maxRecDepth 20000 in
set_option maxHeartbeats 4000000 in
theorem c_X12_clear {x1 : Int32} {x2 : Int32} {h : im_H} (hI : tI h)  : CaP 9 188 [.ref 164, .int x1, .int x2] h (fun v h2 => tI h2 ∧ fr F_X12_clear h h2 ∧ ∃ y : Int32, v = some (.int y) ∧ Q2_clear x1 x2 y h h2) := by
  refine cap_of (d := 8) (M := mX12_clear) rfl (Nat.le_of_ble_eq_true rfl) ?_
  show EvP im_K0 8 mX12_clear (0, [(0, .ref 164), (1, .int x1), (2, .int x2)], [], h) _
  have f0 : fr F_X12_clear h h := fr_rf
  refine te_iload_n (p2 := 1) rfl rfl rfl ?_
  refine cS_pI (p2 := 4) rfl rfl rfl rfl (t_X12_isCell (n := x1) hI ) (by decide) (fun y1 r1 => ?_)
  rcases r1 with ⟨w1, c1⟩ | ⟨w1, c1⟩
  · subst w1
    refine tz_ne (p2 := 7) rfl rfl (show Int32.toInt 1 = 1 from rfl) (fun c2 => ?_) (fun c2 => absurd c2 (by omega))
    refine te_iload_n (p2 := 10) rfl rfl rfl ?_
    refine te_iconst (p2 := 11) (x := 1) rfl rfl (by decide) ?_
    refine te_bipush (p2 := 13) (x := 60) rfl rfl (by decide) ?_
    refine cS_pI (p2 := 16) rfl rfl rfl rfl (t_X12_in (n := x2) (a := 1) (b := 60) hI ) (by decide) (fun y3 r3 => ?_)
    rcases r3 with ⟨w3, c3⟩ | ⟨w3, c3⟩
    · subst w3
      have cc3_1 := (show Int32.toInt 1 = 1 from rfl)
      have cc3_2 := (show Int32.toInt 60 = 60 from rfl)
      refine tz_ne (p2 := 19) rfl rfl (show Int32.toInt 1 = 1 from rfl) (fun c4 => ?_) (fun c4 => absurd c4 (by omega))
      refine te_aload_n (p2 := 23) rfl rfl rfl ?_
      refine te_iconst (p2 := 24) (x := 0) rfl rfl (by decide) ?_
      refine tc_V (p2 := 27) (i := 148) rfl rfl rfl rfl hI rfl rfl rfl (c_X12_lays (back := 0) hI (by decide) (by decide)) (by decide) (fun v5 h5 hq5 => ?_)
      obtain ⟨I5, g5, w5, L5⟩ := hq5
      subst w5
      have f5 := fr_tr (F1 := F_X12_lays) (F := F_X12_clear) f0 g5 (by decide)
      show EvP _ _ _ (27, [(0, .ref 164), (1, .int x1), (2, .int x2)], [], h5) _
      refine te_iconst (p2 := 28) (x := 0) rfl rfl (by decide) ?_
      refine te_istore_n (p2 := 29) (lv2 := [(3, .int 0), (0, .ref 164), (1, .int x1), (2, .int x2)]) rfl rfl (by decide) rfl ?_
      have lp6 : ∀ (n6 : Nat) (v6_3 : Int32) (h6 : im_H), tI h6 → fr F_X12_clear h h6 → 0 ≤ v6_3.toInt → v6_3.toInt ≤ 61 → (∀ k : Nat, (k : Int) < 283 → rd h6 150 k = rd h 149 k) → 61 - v6_3.toInt < (n6 : Int) → EvP im_K0 8 mX12_clear (29, [(0, .ref 164), (1, .int x1), (2, .int x2), (3, .int v6_3)], [], h6) (fun v h2 => tI h2 ∧ fr F_X12_clear h h2 ∧ ∃ y : Int32, v = some (.int y) ∧ Q2_clear x1 x2 y h h2) := by
        intro n6
        induction n6 with
        | zero => intro v6_3 h6 I6 f6 a6_3 b6_3 w6_0 m6; exfalso; omega
        | succ n6 ih6 =>
          intro v6_3 h6 I6 f6 a6_3 b6_3 w6_0 m6
          refine te_iload_n (p2 := 30) rfl rfl rfl ?_
          refine te_iload_n (p2 := 31) rfl rfl rfl ?_
          refine tb_gt (p2 := 34) rfl rfl rfl rfl (fun c7 => ?_) (fun c7 => ?_)
          · refine te_aload_n (p2 := 54) rfl rfl rfl ?_
            refine te_iconst (p2 := 55) (x := 1) rfl rfl (by decide) ?_
            refine tc_V (p2 := 58) (i := 148) rfl rfl rfl rfl I6 rfl rfl rfl (c_X12_lays (back := 1) I6 (by decide) (by decide)) (by decide) (fun v8 h8 hq8 => ?_)
            obtain ⟨I8, g8, w8, L8⟩ := hq8
            subst w8
            have f8 := fr_tr (F1 := F_X12_lays) (F := F_X12_clear) f6 g8 (by decide)
            show EvP _ _ _ (58, [(0, .ref 164), (1, .int x1), (2, .int x2), (3, .int v6_3)], [], h8) _
            refine te_iload_n (p2 := 59) rfl rfl rfl ?_
            refine te_iload_n (p2 := 60) rfl rfl rfl ?_
            refine tb_le (p2 := 63) rfl rfl rfl rfl (fun c9 => ?_) (fun c9 => ?_)
            · refine te_iload_n (p2 := 69) rfl rfl rfl ?_
              exact te_iret rfl rfl ⟨I8, f8, _, rfl, (fun k hk => ((L8.2 (by decide)).1 k hk).trans (w6_0 k hk))⟩
            · refine te_bipush (p2 := 65) (x := (-3)) rfl rfl (by decide) ?_
              refine te_goto rfl ?_
              exact te_iret rfl rfl ⟨I8, f8, _, rfl, (fun k hk => ((L8.2 (by decide)).1 k hk).trans (w6_0 k hk))⟩
          · refine te_aload_n (p2 := 35) rfl rfl rfl ?_
            refine tg_r (p2 := 38) (i := 148) (r := 165) rfl rfl I6 rfl rfl rfl ?_
            refine te_iload_n (p2 := 39) rfl rfl rfl ?_
            refine tl_i (p2 := 40) (i := 149) (n := 283) rfl rfl I6 rfl rfl rfl rfl (by omega) (by omega) (fun y10 a10 b10 g10 e10 => ?_)
            refine tz_le (p2 := 43) rfl rfl rfl (fun c11 => ?_) (fun c11 => ?_)
            · refine te_aload_n (p2 := 54) rfl rfl rfl ?_
              refine te_iconst (p2 := 55) (x := 1) rfl rfl (by decide) ?_
              refine tc_V (p2 := 58) (i := 148) rfl rfl rfl rfl I6 rfl rfl rfl (c_X12_lays (back := 1) I6 (by decide) (by decide)) (by decide) (fun v12 h12 hq12 => ?_)
              obtain ⟨I12, g12, w12, L12⟩ := hq12
              subst w12
              have f12 := fr_tr (F1 := F_X12_lays) (F := F_X12_clear) f6 g12 (by decide)
              show EvP _ _ _ (58, [(0, .ref 164), (1, .int x1), (2, .int x2), (3, .int v6_3)], [], h12) _
              refine te_iload_n (p2 := 59) rfl rfl rfl ?_
              refine te_iload_n (p2 := 60) rfl rfl rfl ?_
              refine tb_le (p2 := 63) rfl rfl rfl rfl (fun c13 => ?_) (fun c13 => ?_)
              · refine te_iload_n (p2 := 69) rfl rfl rfl ?_
                exact te_iret rfl rfl ⟨I12, f12, _, rfl, (fun k hk => ((L12.2 (by decide)).1 k hk).trans (w6_0 k hk))⟩
              · refine te_bipush (p2 := 65) (x := (-3)) rfl rfl (by decide) ?_
                refine te_goto rfl ?_
                exact te_iret rfl rfl ⟨I12, f12, _, rfl, (fun k hk => ((L12.2 (by decide)).1 k hk).trans (w6_0 k hk))⟩
            · refine te_aload_n (p2 := 44) rfl rfl rfl ?_
              refine cV_mV (p2 := 47) (i := 148) rfl rfl rfl rfl I6 rfl rfl rfl (t_X12_goes  I6 ) (by decide) (fun h14 I14 g14 => ?_)
              have f14 := fr_tr (F1 := F_X12_goes) (F := F_X12_clear) f6 g14 (by decide)
              refine ar_inc (p2 := 50) (x := v6_3) rfl rfl (by decide) rfl (by decide) rfl (by omega) (by omega) (fun z15 e15 f15 => ?_)
              show EvP _ _ _ (50, [(3, .int z15), (0, .ref 164), (1, .int x1), (2, .int x2)], [], h14) _
              refine te_goto rfl ?_
              refine te_lv [(0, .ref 164), (1, .int x1), (2, .int x2), (3, .int z15)] rfl rfl ⟨rfl, rfl, rfl, rfl, trivial⟩ ?_
              exact ih6 z15 h14 I14 f14 (by omega) (by omega) (fun k hk => (g14 150 _ rfl).trans (w6_0 k hk)) (by omega)
      refine te_lv [(0, .ref 164), (1, .int x1), (2, .int x2), (3, .int 0)] rfl rfl ⟨rfl, rfl, rfl, rfl, trivial⟩ ?_
      exact lp6 62 0 h5 I5 f5 (by decide) (by decide) (L5.1 (by decide)).1 (by have cc0 := (show Int32.toInt 0 = 0 from rfl); omega)
    · subst w3
      have cc3_1 := (show Int32.toInt 1 = 1 from rfl)
      have cc3_2 := (show Int32.toInt 60 = 60 from rfl)
      refine tz_ne (p2 := 19) rfl rfl (show Int32.toInt 0 = 0 from rfl) (fun c16 => absurd c16 (by omega)) (fun c16 => ?_)
      refine te_bipush (p2 := 21) (x := (-2)) rfl rfl (by decide) ?_
      exact te_iret rfl rfl ⟨hI, f0, _, rfl, (fun k hk => rfl)⟩
  · subst w1
    refine tz_ne (p2 := 7) rfl rfl (show Int32.toInt 0 = 0 from rfl) (fun c17 => absurd c17 (by omega)) (fun c17 => ?_)
    refine te_iconst (p2 := 8) (x := (-1)) rfl rfl (by decide) ?_
    exact te_iret rfl rfl ⟨hI, f0, _, rfl, (fun k hk => rfl)⟩
abbrev Q1_clear (x1 x2 : Int32) (y : Int32) (h h2 : im_H) : Prop := True
set_option maxRecDepth 20000 in
set_option maxHeartbeats 4000000 in
theorem c_X11_clear {x1 : Int32} {x2 : Int32} {h : im_H} (hI : tI h)  : CaP 8 101 [.ref 16, .int x1, .int x2] h (fun v h2 => tI h2 ∧ fr F_X11_clear h h2 ∧ ∃ y : Int32, v = some (.int y) ∧ Q1_clear x1 x2 y h h2) := by
  refine cap_of (d := 7) (M := mX11_clear) rfl (Nat.le_of_ble_eq_true rfl) ?_
  show EvP im_K0 7 mX11_clear (0, [(0, .ref 16), (1, .int x1), (2, .int x2)], [], h) _
  have f0 : fr F_X11_clear h h := fr_rf
  refine te_iload_n (p2 := 1) rfl rfl rfl ?_
  refine te_bipush (p2 := 3) (x := 100) rfl rfl (by decide) ?_
  refine cS_pI (p2 := 6) rfl rfl rfl rfl (t_X11_within (n := x1) (b := 100) hI ) (by decide) (fun y1 r1 => ?_)
  rcases r1 with ⟨w1, c1⟩ | ⟨w1, c1⟩
  · subst w1
    have cc1_1 := (show Int32.toInt 100 = 100 from rfl)
    refine tz_ne (p2 := 9) rfl rfl (show Int32.toInt 1 = 1 from rfl) (fun c2 => ?_) (fun c2 => absurd c2 (by omega))
    refine te_iload_n (p2 := 12) rfl rfl rfl ?_
    refine te_iconst (p2 := 13) (x := 1) rfl rfl (by decide) ?_
    refine te_bipush (p2 := 15) (x := 60) rfl rfl (by decide) ?_
    refine cS_pI (p2 := 18) rfl rfl rfl rfl (t_X11_between (n := x2) (a := 1) (b := 60) hI ) (by decide) (fun y3 r3 => ?_)
    rcases r3 with ⟨w3, c3⟩ | ⟨w3, c3⟩
    · subst w3
      have cc3_1 := (show Int32.toInt 1 = 1 from rfl)
      have cc3_2 := (show Int32.toInt 60 = 60 from rfl)
      refine tz_ne (p2 := 21) rfl rfl (show Int32.toInt 1 = 1 from rfl) (fun c4 => ?_) (fun c4 => absurd c4 (by omega))
      refine te_aload_n (p2 := 25) rfl rfl rfl ?_
      refine tg_r (p2 := 28) (i := 0) (r := 53) rfl rfl hI rfl rfl rfl ?_
      refine te_aload_n (p2 := 29) rfl rfl rfl ?_
      refine tg_r (p2 := 32) (i := 0) (r := 39) rfl rfl hI rfl rfl rfl ?_
      refine cV_mV (p2 := 35) (i := 37) rfl rfl rfl rfl hI rfl rfl rfl (t_X9_become (s := 37) (o := 23) hI (by decide) (by decide)) (by decide) (fun h5 I5 g5 => ?_)
      have f5 := fr_tr (F1 := (F_X9_become 37 23)) (F := F_X11_clear) f0 g5 (by decide)
      refine te_iconst (p2 := 36) (x := 0) rfl rfl (by decide) ?_
      refine te_istore_n (p2 := 37) (lv2 := [(3, .int 0), (0, .ref 16), (1, .int x1), (2, .int x2)]) rfl rfl (by decide) rfl ?_
      have lp6 : ∀ (n6 : Nat) (v6_3 : Int32) (h6 : im_H), tI h6 → fr F_X11_clear h h6 → 0 ≤ v6_3.toInt → v6_3.toInt ≤ 60 → v6_3.toInt ≤ x2.toInt → x2.toInt - v6_3.toInt < (n6 : Int) → EvP im_K0 7 mX11_clear (37, [(0, .ref 16), (1, .int x1), (2, .int x2), (3, .int v6_3)], [], h6) (fun v h2 => tI h2 ∧ fr F_X11_clear h h2 ∧ ∃ y : Int32, v = some (.int y) ∧ Q1_clear x1 x2 y h h2) := by
        intro n6
        induction n6 with
        | zero => intro v6_3 h6 I6 f6 a6_3 b6_3 l6_0 m6; exfalso; omega
        | succ n6 ih6 =>
          intro v6_3 h6 I6 f6 a6_3 b6_3 l6_0 m6
          refine te_iload_n (p2 := 38) rfl rfl rfl ?_
          refine te_iload_n (p2 := 39) rfl rfl rfl ?_
          refine tb_ge (p2 := 42) rfl rfl rfl rfl (fun c7 => ?_) (fun c7 => ?_)
          · refine te_aload_n (p2 := 74) rfl rfl rfl ?_
            refine tg_r (p2 := 77) (i := 0) (r := 53) rfl rfl I6 rfl rfl rfl ?_
            refine tg_r (p2 := 80) (i := 37) (r := 55) rfl rfl I6 rfl rfl rfl ?_
            refine te_iload_n (p2 := 81) rfl rfl rfl ?_
            refine tl_i (p2 := 82) (i := 39) (n := 100) rfl rfl I6 rfl rfl rfl rfl (by omega) (by omega) (fun y8 a8 b8 g8 e8 => ?_)
            refine tz_ne (p2 := 85) rfl rfl rfl (fun c9 => ?_) (fun c9 => ?_)
            · refine te_bipush (p2 := 91) (x := (-3)) rfl rfl (by decide) ?_
              exact te_iret rfl rfl ⟨I6, f6, _, rfl, trivial⟩
            · refine te_iload_n (p2 := 86) rfl rfl rfl ?_
              refine te_goto rfl ?_
              exact te_iret rfl rfl ⟨I6, f6, _, rfl, trivial⟩
          · refine te_aload_n (p2 := 43) rfl rfl rfl ?_
            refine tg_r (p2 := 46) (i := 0) (r := 53) rfl rfl I6 rfl rfl rfl ?_
            refine tg_r (p2 := 49) (i := 37) (r := 55) rfl rfl I6 rfl rfl rfl ?_
            refine te_iload_n (p2 := 50) rfl rfl rfl ?_
            refine tl_i (p2 := 51) (i := 39) (n := 100) rfl rfl I6 rfl rfl rfl rfl (by omega) (by omega) (fun y10 a10 b10 g10 e10 => ?_)
            refine tz_ne (p2 := 54) rfl rfl rfl (fun c11 => ?_) (fun c11 => ?_)
            · refine te_aload_n (p2 := 57) rfl rfl rfl ?_
              refine tg_r (p2 := 60) (i := 0) (r := 17) rfl rfl I6 rfl rfl rfl ?_
              refine te_aload_n (p2 := 61) rfl rfl rfl ?_
              refine tg_r (p2 := 64) (i := 0) (r := 53) rfl rfl I6 rfl rfl rfl ?_
              refine cV_mV (p2 := 67) (i := 1) rfl rfl rfl rfl I6 rfl rfl rfl (t_X0_playDay (s := 37) I6 (by decide)) (by decide) (fun h12 I12 g12 => ?_)
              have f12 := fr_tr (F1 := (F_X0_playDay 37)) (F := F_X11_clear) f6 g12 (by decide)
              refine ar_inc (p2 := 70) (x := v6_3) rfl rfl (by decide) rfl (by decide) rfl (by omega) (by omega) (fun z13 e13 f13 => ?_)
              show EvP _ _ _ (70, [(3, .int z13), (0, .ref 16), (1, .int x1), (2, .int x2)], [], h12) _
              refine te_goto rfl ?_
              refine te_lv [(0, .ref 16), (1, .int x1), (2, .int x2), (3, .int z13)] rfl rfl ⟨rfl, rfl, rfl, rfl, trivial⟩ ?_
              exact ih6 z13 h12 I12 f12 (by omega) (by omega) (by omega) (by omega)
            · refine te_iload_n (p2 := 55) rfl rfl rfl ?_
              exact te_iret rfl rfl ⟨I6, f6, _, rfl, trivial⟩
      refine te_lv [(0, .ref 16), (1, .int x1), (2, .int x2), (3, .int 0)] rfl rfl ⟨rfl, rfl, rfl, rfl, trivial⟩ ?_
      exact lp6 61 0 h5 I5 f5 (by decide) (by decide) (by have cc0 := (show Int32.toInt 0 = 0 from rfl); omega) (by have cc0 := (show Int32.toInt 0 = 0 from rfl); omega)
    · subst w3
      have cc3_1 := (show Int32.toInt 1 = 1 from rfl)
      have cc3_2 := (show Int32.toInt 60 = 60 from rfl)
      refine tz_ne (p2 := 21) rfl rfl (show Int32.toInt 0 = 0 from rfl) (fun c14 => absurd c14 (by omega)) (fun c14 => ?_)
      refine te_bipush (p2 := 23) (x := (-2)) rfl rfl (by decide) ?_
      exact te_iret rfl rfl ⟨hI, f0, _, rfl, trivial⟩
  · subst w1
    have cc1_1 := (show Int32.toInt 100 = 100 from rfl)
    refine tz_ne (p2 := 9) rfl rfl (show Int32.toInt 0 = 0 from rfl) (fun c15 => absurd c15 (by omega)) (fun c15 => ?_)
    refine te_iconst (p2 := 10) (x := (-1)) rfl rfl (by decide) ?_
    exact te_iret rfl rfl ⟨hI, f0, _, rfl, trivial⟩
def wT (x1 x2 p q : Int32) : Int32 := if (0 ≤ x1.toInt ∧ x1.toInt ≤ 9 ∧ 0 ≤ x2.toInt ∧ x2.toInt ≤ 9) then 10 * p + q else -2
abbrev Q1_weather (x1 x2 : Int32) (y : Int32) (h h2 : im_H) : Prop := ∃ p q : Int32, rd h 23 1 = some (.int p) ∧ rd h 23 2 = some (.int q) ∧ y = wT x1 x2 p q ∧ ((0 ≤ x1.toInt ∧ x1.toInt ≤ 9 ∧ 0 ≤ x2.toInt ∧ x2.toInt ≤ 9) → rd h2 23 1 = some (.int x1) ∧ rd h2 23 2 = some (.int x2)) ∧ (¬ (0 ≤ x1.toInt ∧ x1.toInt ≤ 9 ∧ 0 ≤ x2.toInt ∧ x2.toInt ≤ 9) → h2 = h)
set_option maxRecDepth 20000 in
set_option maxHeartbeats 4000000 in
theorem c_X11_weather {x1 : Int32} {x2 : Int32} {h : im_H} (hI : tI h)  : CaP 8 65 [.ref 16, .int x1, .int x2] h (fun v h2 => tI h2 ∧ fr F_X11_weather h h2 ∧ ∃ y : Int32, v = some (.int y) ∧ Q1_weather x1 x2 y h h2) := by
  refine cap_of (d := 7) (M := mX11_weather) rfl (Nat.le_of_ble_eq_true rfl) ?_
  show EvP im_K0 7 mX11_weather (0, [(0, .ref 16), (1, .int x1), (2, .int x2)], [], h) _
  have f0 : fr F_X11_weather h h := fr_rf
  refine te_iload_n (p2 := 1) rfl rfl rfl ?_
  refine te_bipush (p2 := 3) (x := 10) rfl rfl (by decide) ?_
  refine cS_pI (p2 := 6) rfl rfl rfl rfl (t_X11_within (n := x1) (b := 10) hI ) (by decide) (fun y1 r1 => ?_)
  rcases r1 with ⟨w1, c1⟩ | ⟨w1, c1⟩
  · subst w1
    have cc1_1 := (show Int32.toInt 10 = 10 from rfl)
    refine tz_eq (p2 := 9) rfl rfl (show Int32.toInt 1 = 1 from rfl) (fun c2 => absurd c2 (by omega)) (fun c2 => ?_)
    refine te_iload_n (p2 := 10) rfl rfl rfl ?_
    refine te_bipush (p2 := 12) (x := 10) rfl rfl (by decide) ?_
    refine cS_pI (p2 := 15) rfl rfl rfl rfl (t_X11_within (n := x2) (b := 10) hI ) (by decide) (fun y3 r3 => ?_)
    rcases r3 with ⟨w3, c3⟩ | ⟨w3, c3⟩
    · subst w3
      have cc3_1 := (show Int32.toInt 10 = 10 from rfl)
      refine tz_ne (p2 := 18) rfl rfl (show Int32.toInt 1 = 1 from rfl) (fun c4 => ?_) (fun c4 => absurd c4 (by omega))
      refine te_bipush (p2 := 23) (x := 10) rfl rfl (by decide) ?_
      refine te_aload_n (p2 := 24) rfl rfl rfl ?_
      refine tg_r (p2 := 27) (i := 0) (r := 39) rfl rfl hI rfl rfl rfl ?_
      refine tg_i (p2 := 30) (i := 23) rfl rfl hI rfl rfl rfl (fun y5 a5 b5 e5 => ?_)
      refine au_mul (p2 := 31) rfl rfl (fun z6 e6 => ?_)
      refine te_aload_n (p2 := 32) rfl rfl rfl ?_
      refine tg_r (p2 := 35) (i := 0) (r := 39) rfl rfl hI rfl rfl rfl ?_
      refine tg_i (p2 := 38) (i := 23) rfl rfl hI rfl rfl rfl (fun y7 a7 b7 e7 => ?_)
      refine au_add (p2 := 39) rfl rfl (fun z8 e8 => ?_)
      refine te_istore_n (p2 := 40) (lv2 := [(3, .int z8), (0, .ref 16), (1, .int x1), (2, .int x2)]) rfl rfl (by decide) rfl ?_
      refine te_aload_n (p2 := 41) rfl rfl rfl ?_
      refine tg_r (p2 := 44) (i := 0) (r := 39) rfl rfl hI rfl rfl rfl ?_
      refine te_iload_n (p2 := 45) rfl rfl rfl ?_
      refine tp_i (p2 := 48) (i := 23) rfl rfl hI rfl rfl (by decide) rfl rfl rfl (i32_lo _) (i32_hi _) (i32_ho _) rfl (fun h9 I9 u9 => ?_)
      have f9 := fr_st (F := F_X11_weather) 0 f0 u9 rfl (by decide) (by decide)
      refine te_aload_n (p2 := 49) rfl rfl rfl ?_
      refine tg_r (p2 := 52) (i := 0) (r := 39) rfl rfl I9 rfl rfl rfl ?_
      refine te_iload_n (p2 := 53) rfl rfl rfl ?_
      refine tp_i (p2 := 56) (i := 23) rfl rfl I9 rfl rfl (by decide) rfl rfl rfl (i32_lo _) (i32_hi _) (i32_ho _) rfl (fun h10 I10 u10 => ?_)
      have f10 := fr_st (F := F_X11_weather) 0 f9 u10 rfl (by decide) (by decide)
      refine te_iload_n (p2 := 57) rfl rfl rfl ?_
      exact te_iret rfl rfl ⟨I10, f10, _, rfl, y5, y7, e5, e7, (by unfold wT; rw [if_pos (by omega), e6, e8]), (fun _ => ⟨((u10.2 _ _ (Or.inr (by decide))).trans u9.1), u10.1⟩), (fun hk => absurd (by omega) hk)⟩
    · subst w3
      have cc3_1 := (show Int32.toInt 10 = 10 from rfl)
      refine tz_ne (p2 := 18) rfl rfl (show Int32.toInt 0 = 0 from rfl) (fun c11 => absurd c11 (by omega)) (fun c11 => ?_)
      refine te_bipush (p2 := 20) (x := (-2)) rfl rfl (by decide) ?_
      obtain ⟨v12, e12, y12, w12, a12, b12, _⟩ := hI.2.1 23 1 (.inl ((-2147483648), 2147483647, 9999999999)) rfl
      subst w12
      obtain ⟨v13, e13, y13, w13, a13, b13, _⟩ := hI.2.1 23 2 (.inl ((-2147483648), 2147483647, 9999999999)) rfl
      subst w13
      exact te_iret rfl rfl ⟨hI, f0, _, rfl, y12, y13, e12, e13, (by unfold wT; rw [if_neg (by omega)]), (fun hk => absurd hk (by omega)), (fun _ => rfl)⟩
  · subst w1
    have cc1_1 := (show Int32.toInt 10 = 10 from rfl)
    refine tz_eq (p2 := 9) rfl rfl (show Int32.toInt 0 = 0 from rfl) (fun c14 => ?_) (fun c14 => absurd c14 (by omega))
    refine te_bipush (p2 := 20) (x := (-2)) rfl rfl (by decide) ?_
    obtain ⟨v15, e15, y15, w15, a15, b15, _⟩ := hI.2.1 23 1 (.inl ((-2147483648), 2147483647, 9999999999)) rfl
    subst w15
    obtain ⟨v16, e16, y16, w16, a16, b16, _⟩ := hI.2.1 23 2 (.inl ((-2147483648), 2147483647, 9999999999)) rfl
    subst w16
    exact te_iret rfl rfl ⟨hI, f0, _, rfl, y15, y16, e15, e16, (by unfold wT; rw [if_neg (by omega)]), (fun hk => absurd hk (by omega)), (fun _ => rfl)⟩
abbrev Q2_weather (x1 x2 : Int32) (y : Int32) (h h2 : im_H) : Prop := ∃ p q : Int32, rd h 149 106 = some (.int p) ∧ rd h 149 107 = some (.int q) ∧ y = wT x1 x2 p q ∧ ((0 ≤ x1.toInt ∧ x1.toInt ≤ 9 ∧ 0 ≤ x2.toInt ∧ x2.toInt ≤ 9) → rd h2 149 106 = some (.int x1) ∧ rd h2 149 107 = some (.int x2)) ∧ (¬ (0 ≤ x1.toInt ∧ x1.toInt ≤ 9 ∧ 0 ≤ x2.toInt ∧ x2.toInt ≤ 9) → h2 = h)
set_option maxRecDepth 20000 in
set_option maxHeartbeats 4000000 in
theorem c_X12_weather {x1 : Int32} {x2 : Int32} {h : im_H} (hI : tI h)  : CaP 8 127 [.ref 164, .int x1, .int x2] h (fun v h2 => tI h2 ∧ fr F_X12_weather h h2 ∧ ∃ y : Int32, v = some (.int y) ∧ Q2_weather x1 x2 y h h2) := by
  refine cap_of (d := 7) (M := mX12_weather) rfl (Nat.le_of_ble_eq_true rfl) ?_
  show EvP im_K0 7 mX12_weather (0, [(0, .ref 164), (1, .int x1), (2, .int x2)], [], h) _
  have f0 : fr F_X12_weather h h := fr_rf
  refine te_iload_n (p2 := 1) rfl rfl rfl ?_
  refine te_iconst (p2 := 2) (x := 0) rfl rfl (by decide) ?_
  refine te_bipush (p2 := 4) (x := 9) rfl rfl (by decide) ?_
  refine cS_pI (p2 := 7) rfl rfl rfl rfl (t_X12_in (n := x1) (a := 0) (b := 9) hI ) (by decide) (fun y1 r1 => ?_)
  rcases r1 with ⟨w1, c1⟩ | ⟨w1, c1⟩
  · subst w1
    have cc1_1 := (show Int32.toInt 0 = 0 from rfl)
    have cc1_2 := (show Int32.toInt 9 = 9 from rfl)
    refine tz_eq (p2 := 10) rfl rfl (show Int32.toInt 1 = 1 from rfl) (fun c2 => absurd c2 (by omega)) (fun c2 => ?_)
    refine te_iload_n (p2 := 11) rfl rfl rfl ?_
    refine te_iconst (p2 := 12) (x := 0) rfl rfl (by decide) ?_
    refine te_bipush (p2 := 14) (x := 9) rfl rfl (by decide) ?_
    refine cS_pI (p2 := 17) rfl rfl rfl rfl (t_X12_in (n := x2) (a := 0) (b := 9) hI ) (by decide) (fun y3 r3 => ?_)
    rcases r3 with ⟨w3, c3⟩ | ⟨w3, c3⟩
    · subst w3
      have cc3_1 := (show Int32.toInt 0 = 0 from rfl)
      have cc3_2 := (show Int32.toInt 9 = 9 from rfl)
      refine tz_ne (p2 := 20) rfl rfl (show Int32.toInt 1 = 1 from rfl) (fun c4 => ?_) (fun c4 => absurd c4 (by omega))
      refine te_bipush (p2 := 25) (x := 10) rfl rfl (by decide) ?_
      refine te_aload_n (p2 := 26) rfl rfl rfl ?_
      refine tg_r (p2 := 29) (i := 148) (r := 165) rfl rfl hI rfl rfl rfl ?_
      refine te_bipush (p2 := 31) (x := 106) rfl rfl (by decide) ?_
      refine tl_i (p2 := 32) (i := 149) (n := 283) rfl rfl hI rfl rfl rfl rfl (by decide) (by decide) (fun y5 a5 b5 g5 e5 => ?_)
      refine au_mul (p2 := 33) rfl rfl (fun z6 e6 => ?_)
      refine te_aload_n (p2 := 34) rfl rfl rfl ?_
      refine tg_r (p2 := 37) (i := 148) (r := 165) rfl rfl hI rfl rfl rfl ?_
      refine te_bipush (p2 := 39) (x := 107) rfl rfl (by decide) ?_
      refine tl_i (p2 := 40) (i := 149) (n := 283) rfl rfl hI rfl rfl rfl rfl (by decide) (by decide) (fun y7 a7 b7 g7 e7 => ?_)
      refine au_add (p2 := 41) rfl rfl (fun z8 e8 => ?_)
      refine te_istore_n (p2 := 42) (lv2 := [(3, .int z8), (0, .ref 164), (1, .int x1), (2, .int x2)]) rfl rfl (by decide) rfl ?_
      refine te_aload_n (p2 := 43) rfl rfl rfl ?_
      refine tg_r (p2 := 46) (i := 148) (r := 165) rfl rfl hI rfl rfl rfl ?_
      refine te_bipush (p2 := 48) (x := 106) rfl rfl (by decide) ?_
      refine te_iload_n (p2 := 49) rfl rfl rfl ?_
      refine ts_i (p2 := 50) (i := 149) (n := 283) rfl rfl hI rfl rfl rfl rfl (by decide) (by decide) (i32_lo _) (i32_hi _) (i32_ho _) rfl (fun h9 I9 u9 => ?_)
      have f9 := fr_st (F := F_X12_weather) 0 f0 u9 rfl (by decide) (by decide)
      refine te_aload_n (p2 := 51) rfl rfl rfl ?_
      refine tg_r (p2 := 54) (i := 148) (r := 165) rfl rfl I9 rfl rfl rfl ?_
      refine te_bipush (p2 := 56) (x := 107) rfl rfl (by decide) ?_
      refine te_iload_n (p2 := 57) rfl rfl rfl ?_
      refine ts_i (p2 := 58) (i := 149) (n := 283) rfl rfl I9 rfl rfl rfl rfl (by decide) (by decide) (i32_lo _) (i32_hi _) (i32_ho _) rfl (fun h10 I10 u10 => ?_)
      have f10 := fr_st (F := F_X12_weather) 0 f9 u10 rfl (by decide) (by decide)
      refine te_iload_n (p2 := 59) rfl rfl rfl ?_
      exact te_iret rfl rfl ⟨I10, f10, _, rfl, y5, y7, e5, e7, (by unfold wT; rw [if_pos (by omega), e6, e8]), (fun _ => ⟨((u10.2 _ _ (Or.inr (by decide))).trans u9.1), u10.1⟩), (fun hk => absurd (by omega) hk)⟩
    · subst w3
      have cc3_1 := (show Int32.toInt 0 = 0 from rfl)
      have cc3_2 := (show Int32.toInt 9 = 9 from rfl)
      refine tz_ne (p2 := 20) rfl rfl (show Int32.toInt 0 = 0 from rfl) (fun c11 => absurd c11 (by omega)) (fun c11 => ?_)
      refine te_bipush (p2 := 22) (x := (-2)) rfl rfl (by decide) ?_
      obtain ⟨v12, e12, y12, w12, a12, b12, _⟩ := hI.2.1 149 (Int32.toInt 106).toNat (.inl ((-2147483648), 2147483647, 9999999999)) (tq_row rfl (by decide))
      subst w12
      obtain ⟨v13, e13, y13, w13, a13, b13, _⟩ := hI.2.1 149 (Int32.toInt 107).toNat (.inl ((-2147483648), 2147483647, 9999999999)) (tq_row rfl (by decide))
      subst w13
      exact te_iret rfl rfl ⟨hI, f0, _, rfl, y12, y13, e12, e13, (by unfold wT; rw [if_neg (by omega)]), (fun hk => absurd hk (by omega)), (fun _ => rfl)⟩
  · subst w1
    have cc1_1 := (show Int32.toInt 0 = 0 from rfl)
    have cc1_2 := (show Int32.toInt 9 = 9 from rfl)
    refine tz_eq (p2 := 10) rfl rfl (show Int32.toInt 0 = 0 from rfl) (fun c14 => ?_) (fun c14 => absurd c14 (by omega))
    refine te_bipush (p2 := 22) (x := (-2)) rfl rfl (by decide) ?_
    obtain ⟨v15, e15, y15, w15, a15, b15, _⟩ := hI.2.1 149 (Int32.toInt 106).toNat (.inl ((-2147483648), 2147483647, 9999999999)) (tq_row rfl (by decide))
    subst w15
    obtain ⟨v16, e16, y16, w16, a16, b16, _⟩ := hI.2.1 149 (Int32.toInt 107).toNat (.inl ((-2147483648), 2147483647, 9999999999)) (tq_row rfl (by decide))
    subst w16
    exact te_iret rfl rfl ⟨hI, f0, _, rfl, y15, y16, e15, e16, (by unfold wT; rw [if_neg (by omega)]), (fun hk => absurd hk (by omega)), (fun _ => rfl)⟩
