abbrev F_X9_become (s : Nat) (o : Nat) : List (Nat × Nat × Nat) := [((s + 1), 0, 2), ((s + 10), 0, 11), ((s + 11), 0, 3), ((s + 12), 0, 3), ((s + 13), 0, 2), ((s + 2), 0, 99), ((s + 3), 0, 23), ((s + 4), 0, 23), ((s + 5), 0, 23), ((s + 6), 0, 23), ((s + 7), 0, 23), ((s + 8), 0, 15), ((s + 9), 0, 15), (s, 0, 4)]
set_option maxRecDepth 20000 in
set_option maxHeartbeats 4000000 in
theorem t_X9_become {s : Nat} {o : Nat} {h : im_H} (hI : tI h) (q_s : s = 23 ∨ s = 37 ∨ s = 51) (q_o : o = 23 ∨ o = 37 ∨ o = 51) : CaP 1 46 [.ref (16 + s), .ref (16 + o)] h (mV h (F_X9_become s o)) := by
  refine cap_of (d := 0) (M := mX9_become) rfl (Nat.le_of_ble_eq_true rfl) ?_
  show EvP im_K0 0 mX9_become (0, [(0, .ref (16 + s)), (1, .ref (16 + o))], [], h) _
  have f0 : fr (F_X9_become s o) h h := fr_rf
  refine te_aload_n (p2 := 1) rfl rfl rfl ?_
  refine te_aload_n (p2 := 2) rfl rfl rfl ?_
  refine tg_i (p2 := 5) (i := o) rfl rfl hI rfl (by rcases q_o with rfl | rfl | rfl <;> rfl) (by rcases q_o with rfl | rfl | rfl <;> rfl) (fun y1 a1 b1 e1 => ?_)
  refine tp_i (p2 := 8) (i := s) rfl rfl hI rfl (by rcases q_s with rfl | rfl | rfl <;> rfl) (by decide) rfl rfl (by rcases q_s with rfl | rfl | rfl <;> rfl) (i32_lo _) (i32_hi _) (i32_ho _) (by rcases q_s with rfl | rfl | rfl <;> rfl) (fun h2 I2 u2 => ?_)
  have f2 := fr_st (F := (F_X9_become s o)) 13 f0 u2 rfl (by decide) (by decide)
  refine te_aload_n (p2 := 9) rfl rfl rfl ?_
  refine te_aload_n (p2 := 10) rfl rfl rfl ?_
  refine tg_i (p2 := 13) (i := o) rfl rfl I2 rfl (by rcases q_o with rfl | rfl | rfl <;> rfl) (by rcases q_o with rfl | rfl | rfl <;> rfl) (fun y3 a3 b3 e3 => ?_)
  refine tp_i (p2 := 16) (i := s) rfl rfl I2 rfl (by rcases q_s with rfl | rfl | rfl <;> rfl) (by decide) rfl rfl (by rcases q_s with rfl | rfl | rfl <;> rfl) (i32_lo _) (i32_hi _) (i32_ho _) (by rcases q_s with rfl | rfl | rfl <;> rfl) (fun h4 I4 u4 => ?_)
  have f4 := fr_st (F := (F_X9_become s o)) 13 f2 u4 rfl (by decide) (by decide)
  refine te_aload_n (p2 := 17) rfl rfl rfl ?_
  refine te_aload_n (p2 := 18) rfl rfl rfl ?_
  refine tg_i (p2 := 21) (i := o) rfl rfl I4 rfl (by rcases q_o with rfl | rfl | rfl <;> rfl) (by rcases q_o with rfl | rfl | rfl <;> rfl) (fun y5 a5 b5 e5 => ?_)
  refine tp_i (p2 := 24) (i := s) rfl rfl I4 rfl (by rcases q_s with rfl | rfl | rfl <;> rfl) (by decide) rfl rfl (by rcases q_s with rfl | rfl | rfl <;> rfl) (i32_lo _) (i32_hi _) (i32_ho _) (by rcases q_s with rfl | rfl | rfl <;> rfl) (fun h6 I6 u6 => ?_)
  have f6 := fr_st (F := (F_X9_become s o)) 13 f4 u6 rfl (by decide) (by decide)
  refine te_aload_n (p2 := 25) rfl rfl rfl ?_
  refine te_aload_n (p2 := 26) rfl rfl rfl ?_
  refine tg_i (p2 := 29) (i := o) rfl rfl I6 rfl (by rcases q_o with rfl | rfl | rfl <;> rfl) (by rcases q_o with rfl | rfl | rfl <;> rfl) (fun y7 a7 b7 e7 => ?_)
  refine tp_i (p2 := 32) (i := s) rfl rfl I6 rfl (by rcases q_s with rfl | rfl | rfl <;> rfl) (by decide) rfl rfl (by rcases q_s with rfl | rfl | rfl <;> rfl) (i32_lo _) (i32_hi _) (i32_ho _) (by rcases q_s with rfl | rfl | rfl <;> rfl) (fun h8 I8 u8 => ?_)
  have f8 := fr_st (F := (F_X9_become s o)) 13 f6 u8 rfl (by decide) (by decide)
  refine te_aload_n (p2 := 33) rfl rfl rfl ?_
  refine te_aload_n (p2 := 34) rfl rfl rfl ?_
  refine tg_i (p2 := 37) (i := o) rfl rfl I8 rfl (by rcases q_o with rfl | rfl | rfl <;> rfl) (by rcases q_o with rfl | rfl | rfl <;> rfl) (fun y9 a9 b9 e9 => ?_)
  refine tp_i (p2 := 40) (i := s) rfl rfl I8 rfl (by rcases q_s with rfl | rfl | rfl <;> rfl) (by decide) rfl rfl (by rcases q_s with rfl | rfl | rfl <;> rfl) (i32_lo _) (i32_hi _) (i32_ho _) (by rcases q_s with rfl | rfl | rfl <;> rfl) (fun h10 I10 u10 => ?_)
  have f10 := fr_st (F := (F_X9_become s o)) 13 f8 u10 rfl (by decide) (by decide)
  refine te_aload_n (p2 := 41) rfl rfl rfl ?_
  refine tg_r (p2 := 44) (i := o) (r := (16 + (o + 1))) rfl rfl I10 rfl (by rcases q_o with rfl | rfl | rfl <;> rfl) (by rcases q_o with rfl | rfl | rfl <;> rfl) ?_
  refine te_iconst (p2 := 45) (x := 0) rfl rfl (by decide) ?_
  refine te_aload_n (p2 := 46) rfl rfl rfl ?_
  refine tg_r (p2 := 49) (i := s) (r := (16 + (s + 1))) rfl rfl I10 rfl (by rcases q_s with rfl | rfl | rfl <;> rfl) (by rcases q_s with rfl | rfl | rfl <;> rfl) ?_
  refine te_iconst (p2 := 50) (x := 0) rfl rfl (by decide) ?_
  refine te_iconst (p2 := 51) (x := 3) rfl rfl (by decide) ?_
  refine tc_cp (p2 := 54) (i1 := (o + 1)) (i2 := (s + 1)) (n1 := 3) (n2 := 3) rfl rfl I10 rfl rfl (by rcases q_o with rfl | rfl | rfl <;> rfl) (by rcases q_s with rfl | rfl | rfl <;> rfl) (by rcases q_o with rfl | rfl | rfl <;> rfl) (by rcases q_s with rfl | rfl | rfl <;> rfl) rfl rfl (Or.inl rfl) (show Int32.toInt 0 = 0 from rfl) (show Int32.toInt 0 = 0 from rfl) (show Int32.toInt 3 = 3 from rfl) (by decide) (by decide) (by decide) (by decide) (by decide) rfl (by rcases q_s with rfl | rfl | rfl <;> rfl) (fun h11 I11 c11 u11 => ?_)
  have f11 := fr_cp (F := (F_X9_become s o)) (i := (s + 1)) (a := 0) (b := 2) f10 u11 (List.mem_of_getElem? (i := 0) rfl) (by decide) (by decide)
  refine te_aload_n (p2 := 55) rfl rfl rfl ?_
  refine tg_r (p2 := 58) (i := o) (r := (16 + (o + 2))) rfl rfl I11 rfl (by rcases q_o with rfl | rfl | rfl <;> rfl) (by rcases q_o with rfl | rfl | rfl <;> rfl) ?_
  refine te_iconst (p2 := 59) (x := 0) rfl rfl (by decide) ?_
  refine te_aload_n (p2 := 60) rfl rfl rfl ?_
  refine tg_r (p2 := 63) (i := s) (r := (16 + (s + 2))) rfl rfl I11 rfl (by rcases q_s with rfl | rfl | rfl <;> rfl) (by rcases q_s with rfl | rfl | rfl <;> rfl) ?_
  refine te_iconst (p2 := 64) (x := 0) rfl rfl (by decide) ?_
  refine te_bipush (p2 := 66) (x := 100) rfl rfl (by decide) ?_
  refine tc_cp (p2 := 69) (i1 := (o + 2)) (i2 := (s + 2)) (n1 := 100) (n2 := 100) rfl rfl I11 rfl rfl (by rcases q_o with rfl | rfl | rfl <;> rfl) (by rcases q_s with rfl | rfl | rfl <;> rfl) (by rcases q_o with rfl | rfl | rfl <;> rfl) (by rcases q_s with rfl | rfl | rfl <;> rfl) rfl rfl (Or.inl rfl) (show Int32.toInt 0 = 0 from rfl) (show Int32.toInt 0 = 0 from rfl) (show Int32.toInt 100 = 100 from rfl) (by decide) (by decide) (by decide) (by decide) (by decide) rfl (by rcases q_s with rfl | rfl | rfl <;> rfl) (fun h12 I12 c12 u12 => ?_)
  have f12 := fr_cp (F := (F_X9_become s o)) (i := (s + 2)) (a := 0) (b := 99) f11 u12 (List.mem_of_getElem? (i := 5) rfl) (by decide) (by decide)
  refine te_aload_n (p2 := 70) rfl rfl rfl ?_
  refine tg_r (p2 := 73) (i := o) (r := (16 + (o + 3))) rfl rfl I12 rfl (by rcases q_o with rfl | rfl | rfl <;> rfl) (by rcases q_o with rfl | rfl | rfl <;> rfl) ?_
  refine te_iconst (p2 := 74) (x := 0) rfl rfl (by decide) ?_
  refine te_aload_n (p2 := 75) rfl rfl rfl ?_
  refine tg_r (p2 := 78) (i := s) (r := (16 + (s + 3))) rfl rfl I12 rfl (by rcases q_s with rfl | rfl | rfl <;> rfl) (by rcases q_s with rfl | rfl | rfl <;> rfl) ?_
  refine te_iconst (p2 := 79) (x := 0) rfl rfl (by decide) ?_
  refine te_bipush (p2 := 81) (x := 24) rfl rfl (by decide) ?_
  refine tc_cp (p2 := 84) (i1 := (o + 3)) (i2 := (s + 3)) (n1 := 24) (n2 := 24) rfl rfl I12 rfl rfl (by rcases q_o with rfl | rfl | rfl <;> rfl) (by rcases q_s with rfl | rfl | rfl <;> rfl) (by rcases q_o with rfl | rfl | rfl <;> rfl) (by rcases q_s with rfl | rfl | rfl <;> rfl) rfl rfl (Or.inl rfl) (show Int32.toInt 0 = 0 from rfl) (show Int32.toInt 0 = 0 from rfl) (show Int32.toInt 24 = 24 from rfl) (by decide) (by decide) (by decide) (by decide) (by decide) rfl (by rcases q_s with rfl | rfl | rfl <;> rfl) (fun h13 I13 c13 u13 => ?_)
  have f13 := fr_cp (F := (F_X9_become s o)) (i := (s + 3)) (a := 0) (b := 23) f12 u13 (List.mem_of_getElem? (i := 6) rfl) (by decide) (by decide)
  refine te_aload_n (p2 := 85) rfl rfl rfl ?_
  refine tg_r (p2 := 88) (i := o) (r := (16 + (o + 4))) rfl rfl I13 rfl (by rcases q_o with rfl | rfl | rfl <;> rfl) (by rcases q_o with rfl | rfl | rfl <;> rfl) ?_
  refine te_iconst (p2 := 89) (x := 0) rfl rfl (by decide) ?_
  refine te_aload_n (p2 := 90) rfl rfl rfl ?_
  refine tg_r (p2 := 93) (i := s) (r := (16 + (s + 4))) rfl rfl I13 rfl (by rcases q_s with rfl | rfl | rfl <;> rfl) (by rcases q_s with rfl | rfl | rfl <;> rfl) ?_
  refine te_iconst (p2 := 94) (x := 0) rfl rfl (by decide) ?_
  refine te_bipush (p2 := 96) (x := 24) rfl rfl (by decide) ?_
  refine tc_cp (p2 := 99) (i1 := (o + 4)) (i2 := (s + 4)) (n1 := 24) (n2 := 24) rfl rfl I13 rfl rfl (by rcases q_o with rfl | rfl | rfl <;> rfl) (by rcases q_s with rfl | rfl | rfl <;> rfl) (by rcases q_o with rfl | rfl | rfl <;> rfl) (by rcases q_s with rfl | rfl | rfl <;> rfl) rfl rfl (Or.inl rfl) (show Int32.toInt 0 = 0 from rfl) (show Int32.toInt 0 = 0 from rfl) (show Int32.toInt 24 = 24 from rfl) (by decide) (by decide) (by decide) (by decide) (by decide) rfl (by rcases q_s with rfl | rfl | rfl <;> rfl) (fun h14 I14 c14 u14 => ?_)
  have f14 := fr_cp (F := (F_X9_become s o)) (i := (s + 4)) (a := 0) (b := 23) f13 u14 (List.mem_of_getElem? (i := 7) rfl) (by decide) (by decide)
  refine te_aload_n (p2 := 100) rfl rfl rfl ?_
  refine tg_r (p2 := 103) (i := o) (r := (16 + (o + 5))) rfl rfl I14 rfl (by rcases q_o with rfl | rfl | rfl <;> rfl) (by rcases q_o with rfl | rfl | rfl <;> rfl) ?_
  refine te_iconst (p2 := 104) (x := 0) rfl rfl (by decide) ?_
  refine te_aload_n (p2 := 105) rfl rfl rfl ?_
  refine tg_r (p2 := 108) (i := s) (r := (16 + (s + 5))) rfl rfl I14 rfl (by rcases q_s with rfl | rfl | rfl <;> rfl) (by rcases q_s with rfl | rfl | rfl <;> rfl) ?_
  refine te_iconst (p2 := 109) (x := 0) rfl rfl (by decide) ?_
  refine te_bipush (p2 := 111) (x := 24) rfl rfl (by decide) ?_
  refine tc_cp (p2 := 114) (i1 := (o + 5)) (i2 := (s + 5)) (n1 := 24) (n2 := 24) rfl rfl I14 rfl rfl (by rcases q_o with rfl | rfl | rfl <;> rfl) (by rcases q_s with rfl | rfl | rfl <;> rfl) (by rcases q_o with rfl | rfl | rfl <;> rfl) (by rcases q_s with rfl | rfl | rfl <;> rfl) rfl rfl (Or.inl rfl) (show Int32.toInt 0 = 0 from rfl) (show Int32.toInt 0 = 0 from rfl) (show Int32.toInt 24 = 24 from rfl) (by decide) (by decide) (by decide) (by decide) (by decide) rfl (by rcases q_s with rfl | rfl | rfl <;> rfl) (fun h15 I15 c15 u15 => ?_)
  have f15 := fr_cp (F := (F_X9_become s o)) (i := (s + 5)) (a := 0) (b := 23) f14 u15 (List.mem_of_getElem? (i := 8) rfl) (by decide) (by decide)
  refine te_aload_n (p2 := 115) rfl rfl rfl ?_
  refine tg_r (p2 := 118) (i := o) (r := (16 + (o + 6))) rfl rfl I15 rfl (by rcases q_o with rfl | rfl | rfl <;> rfl) (by rcases q_o with rfl | rfl | rfl <;> rfl) ?_
  refine te_iconst (p2 := 119) (x := 0) rfl rfl (by decide) ?_
  refine te_aload_n (p2 := 120) rfl rfl rfl ?_
  refine tg_r (p2 := 123) (i := s) (r := (16 + (s + 6))) rfl rfl I15 rfl (by rcases q_s with rfl | rfl | rfl <;> rfl) (by rcases q_s with rfl | rfl | rfl <;> rfl) ?_
  refine te_iconst (p2 := 124) (x := 0) rfl rfl (by decide) ?_
  refine te_bipush (p2 := 126) (x := 24) rfl rfl (by decide) ?_
  refine tc_cp (p2 := 129) (i1 := (o + 6)) (i2 := (s + 6)) (n1 := 24) (n2 := 24) rfl rfl I15 rfl rfl (by rcases q_o with rfl | rfl | rfl <;> rfl) (by rcases q_s with rfl | rfl | rfl <;> rfl) (by rcases q_o with rfl | rfl | rfl <;> rfl) (by rcases q_s with rfl | rfl | rfl <;> rfl) rfl rfl (Or.inl rfl) (show Int32.toInt 0 = 0 from rfl) (show Int32.toInt 0 = 0 from rfl) (show Int32.toInt 24 = 24 from rfl) (by decide) (by decide) (by decide) (by decide) (by decide) rfl (by rcases q_s with rfl | rfl | rfl <;> rfl) (fun h16 I16 c16 u16 => ?_)
  have f16 := fr_cp (F := (F_X9_become s o)) (i := (s + 6)) (a := 0) (b := 23) f15 u16 (List.mem_of_getElem? (i := 9) rfl) (by decide) (by decide)
  refine te_aload_n (p2 := 130) rfl rfl rfl ?_
  refine tg_r (p2 := 133) (i := o) (r := (16 + (o + 7))) rfl rfl I16 rfl (by rcases q_o with rfl | rfl | rfl <;> rfl) (by rcases q_o with rfl | rfl | rfl <;> rfl) ?_
  refine te_iconst (p2 := 134) (x := 0) rfl rfl (by decide) ?_
  refine te_aload_n (p2 := 135) rfl rfl rfl ?_
  refine tg_r (p2 := 138) (i := s) (r := (16 + (s + 7))) rfl rfl I16 rfl (by rcases q_s with rfl | rfl | rfl <;> rfl) (by rcases q_s with rfl | rfl | rfl <;> rfl) ?_
  refine te_iconst (p2 := 139) (x := 0) rfl rfl (by decide) ?_
  refine te_bipush (p2 := 141) (x := 24) rfl rfl (by decide) ?_
  refine tc_cp (p2 := 144) (i1 := (o + 7)) (i2 := (s + 7)) (n1 := 24) (n2 := 24) rfl rfl I16 rfl rfl (by rcases q_o with rfl | rfl | rfl <;> rfl) (by rcases q_s with rfl | rfl | rfl <;> rfl) (by rcases q_o with rfl | rfl | rfl <;> rfl) (by rcases q_s with rfl | rfl | rfl <;> rfl) rfl rfl (Or.inr ⟨rfl, rfl, rfl⟩) (show Int32.toInt 0 = 0 from rfl) (show Int32.toInt 0 = 0 from rfl) (show Int32.toInt 24 = 24 from rfl) (by decide) (by decide) (by decide) (by decide) (by decide) rfl (by rcases q_s with rfl | rfl | rfl <;> rfl) (fun h17 I17 c17 u17 => ?_)
  have f17 := fr_cp (F := (F_X9_become s o)) (i := (s + 7)) (a := 0) (b := 23) f16 u17 (List.mem_of_getElem? (i := 10) rfl) (by decide) (by decide)
  refine te_aload_n (p2 := 145) rfl rfl rfl ?_
  refine tg_r (p2 := 148) (i := o) (r := (16 + (o + 8))) rfl rfl I17 rfl (by rcases q_o with rfl | rfl | rfl <;> rfl) (by rcases q_o with rfl | rfl | rfl <;> rfl) ?_
  refine te_iconst (p2 := 149) (x := 0) rfl rfl (by decide) ?_
  refine te_aload_n (p2 := 150) rfl rfl rfl ?_
  refine tg_r (p2 := 153) (i := s) (r := (16 + (s + 8))) rfl rfl I17 rfl (by rcases q_s with rfl | rfl | rfl <;> rfl) (by rcases q_s with rfl | rfl | rfl <;> rfl) ?_
  refine te_iconst (p2 := 154) (x := 0) rfl rfl (by decide) ?_
  refine te_bipush (p2 := 156) (x := 16) rfl rfl (by decide) ?_
  refine tc_cp (p2 := 159) (i1 := (o + 8)) (i2 := (s + 8)) (n1 := 16) (n2 := 16) rfl rfl I17 rfl rfl (by rcases q_o with rfl | rfl | rfl <;> rfl) (by rcases q_s with rfl | rfl | rfl <;> rfl) (by rcases q_o with rfl | rfl | rfl <;> rfl) (by rcases q_s with rfl | rfl | rfl <;> rfl) rfl rfl (Or.inl rfl) (show Int32.toInt 0 = 0 from rfl) (show Int32.toInt 0 = 0 from rfl) (show Int32.toInt 16 = 16 from rfl) (by decide) (by decide) (by decide) (by decide) (by decide) rfl (by rcases q_s with rfl | rfl | rfl <;> rfl) (fun h18 I18 c18 u18 => ?_)
  have f18 := fr_cp (F := (F_X9_become s o)) (i := (s + 8)) (a := 0) (b := 15) f17 u18 (List.mem_of_getElem? (i := 11) rfl) (by decide) (by decide)
  refine te_aload_n (p2 := 160) rfl rfl rfl ?_
  refine tg_r (p2 := 163) (i := o) (r := (16 + (o + 9))) rfl rfl I18 rfl (by rcases q_o with rfl | rfl | rfl <;> rfl) (by rcases q_o with rfl | rfl | rfl <;> rfl) ?_
  refine te_iconst (p2 := 164) (x := 0) rfl rfl (by decide) ?_
  refine te_aload_n (p2 := 165) rfl rfl rfl ?_
  refine tg_r (p2 := 168) (i := s) (r := (16 + (s + 9))) rfl rfl I18 rfl (by rcases q_s with rfl | rfl | rfl <;> rfl) (by rcases q_s with rfl | rfl | rfl <;> rfl) ?_
  refine te_iconst (p2 := 169) (x := 0) rfl rfl (by decide) ?_
  refine te_bipush (p2 := 171) (x := 16) rfl rfl (by decide) ?_
  refine tc_cp (p2 := 174) (i1 := (o + 9)) (i2 := (s + 9)) (n1 := 16) (n2 := 16) rfl rfl I18 rfl rfl (by rcases q_o with rfl | rfl | rfl <;> rfl) (by rcases q_s with rfl | rfl | rfl <;> rfl) (by rcases q_o with rfl | rfl | rfl <;> rfl) (by rcases q_s with rfl | rfl | rfl <;> rfl) rfl rfl (Or.inr ⟨rfl, rfl, rfl⟩) (show Int32.toInt 0 = 0 from rfl) (show Int32.toInt 0 = 0 from rfl) (show Int32.toInt 16 = 16 from rfl) (by decide) (by decide) (by decide) (by decide) (by decide) rfl (by rcases q_s with rfl | rfl | rfl <;> rfl) (fun h19 I19 c19 u19 => ?_)
  have f19 := fr_cp (F := (F_X9_become s o)) (i := (s + 9)) (a := 0) (b := 15) f18 u19 (List.mem_of_getElem? (i := 12) rfl) (by decide) (by decide)
  refine te_aload_n (p2 := 175) rfl rfl rfl ?_
  refine tg_r (p2 := 178) (i := o) (r := (16 + (o + 10))) rfl rfl I19 rfl (by rcases q_o with rfl | rfl | rfl <;> rfl) (by rcases q_o with rfl | rfl | rfl <;> rfl) ?_
  refine te_iconst (p2 := 179) (x := 0) rfl rfl (by decide) ?_
  refine te_aload_n (p2 := 180) rfl rfl rfl ?_
  refine tg_r (p2 := 183) (i := s) (r := (16 + (s + 10))) rfl rfl I19 rfl (by rcases q_s with rfl | rfl | rfl <;> rfl) (by rcases q_s with rfl | rfl | rfl <;> rfl) ?_
  refine te_iconst (p2 := 184) (x := 0) rfl rfl (by decide) ?_
  refine te_bipush (p2 := 186) (x := 12) rfl rfl (by decide) ?_
  refine tc_cp (p2 := 189) (i1 := (o + 10)) (i2 := (s + 10)) (n1 := 12) (n2 := 12) rfl rfl I19 rfl rfl (by rcases q_o with rfl | rfl | rfl <;> rfl) (by rcases q_s with rfl | rfl | rfl <;> rfl) (by rcases q_o with rfl | rfl | rfl <;> rfl) (by rcases q_s with rfl | rfl | rfl <;> rfl) rfl rfl (Or.inr ⟨rfl, rfl, rfl⟩) (show Int32.toInt 0 = 0 from rfl) (show Int32.toInt 0 = 0 from rfl) (show Int32.toInt 12 = 12 from rfl) (by decide) (by decide) (by decide) (by decide) (by decide) rfl (by rcases q_s with rfl | rfl | rfl <;> rfl) (fun h20 I20 c20 u20 => ?_)
  have f20 := fr_cp (F := (F_X9_become s o)) (i := (s + 10)) (a := 0) (b := 11) f19 u20 (List.mem_of_getElem? (i := 1) rfl) (by decide) (by decide)
  refine te_aload_n (p2 := 190) rfl rfl rfl ?_
  refine tg_r (p2 := 193) (i := o) (r := (16 + (o + 11))) rfl rfl I20 rfl (by rcases q_o with rfl | rfl | rfl <;> rfl) (by rcases q_o with rfl | rfl | rfl <;> rfl) ?_
  refine te_iconst (p2 := 194) (x := 0) rfl rfl (by decide) ?_
  refine te_aload_n (p2 := 195) rfl rfl rfl ?_
  refine tg_r (p2 := 198) (i := s) (r := (16 + (s + 11))) rfl rfl I20 rfl (by rcases q_s with rfl | rfl | rfl <;> rfl) (by rcases q_s with rfl | rfl | rfl <;> rfl) ?_
  refine te_iconst (p2 := 199) (x := 0) rfl rfl (by decide) ?_
  refine te_iconst (p2 := 200) (x := 4) rfl rfl (by decide) ?_
  refine tc_cp (p2 := 203) (i1 := (o + 11)) (i2 := (s + 11)) (n1 := 4) (n2 := 4) rfl rfl I20 rfl rfl (by rcases q_o with rfl | rfl | rfl <;> rfl) (by rcases q_s with rfl | rfl | rfl <;> rfl) (by rcases q_o with rfl | rfl | rfl <;> rfl) (by rcases q_s with rfl | rfl | rfl <;> rfl) rfl rfl (Or.inl rfl) (show Int32.toInt 0 = 0 from rfl) (show Int32.toInt 0 = 0 from rfl) (show Int32.toInt 4 = 4 from rfl) (by decide) (by decide) (by decide) (by decide) (by decide) rfl (by rcases q_s with rfl | rfl | rfl <;> rfl) (fun h21 I21 c21 u21 => ?_)
  have f21 := fr_cp (F := (F_X9_become s o)) (i := (s + 11)) (a := 0) (b := 3) f20 u21 (List.mem_of_getElem? (i := 2) rfl) (by decide) (by decide)
  refine te_aload_n (p2 := 204) rfl rfl rfl ?_
  refine tg_r (p2 := 207) (i := o) (r := (16 + (o + 12))) rfl rfl I21 rfl (by rcases q_o with rfl | rfl | rfl <;> rfl) (by rcases q_o with rfl | rfl | rfl <;> rfl) ?_
  refine te_iconst (p2 := 208) (x := 0) rfl rfl (by decide) ?_
  refine te_aload_n (p2 := 209) rfl rfl rfl ?_
  refine tg_r (p2 := 212) (i := s) (r := (16 + (s + 12))) rfl rfl I21 rfl (by rcases q_s with rfl | rfl | rfl <;> rfl) (by rcases q_s with rfl | rfl | rfl <;> rfl) ?_
  refine te_iconst (p2 := 213) (x := 0) rfl rfl (by decide) ?_
  refine te_iconst (p2 := 214) (x := 4) rfl rfl (by decide) ?_
  refine tc_cp (p2 := 217) (i1 := (o + 12)) (i2 := (s + 12)) (n1 := 4) (n2 := 4) rfl rfl I21 rfl rfl (by rcases q_o with rfl | rfl | rfl <;> rfl) (by rcases q_s with rfl | rfl | rfl <;> rfl) (by rcases q_o with rfl | rfl | rfl <;> rfl) (by rcases q_s with rfl | rfl | rfl <;> rfl) rfl rfl (Or.inl rfl) (show Int32.toInt 0 = 0 from rfl) (show Int32.toInt 0 = 0 from rfl) (show Int32.toInt 4 = 4 from rfl) (by decide) (by decide) (by decide) (by decide) (by decide) rfl (by rcases q_s with rfl | rfl | rfl <;> rfl) (fun h22 I22 c22 u22 => ?_)
  have f22 := fr_cp (F := (F_X9_become s o)) (i := (s + 12)) (a := 0) (b := 3) f21 u22 (List.mem_of_getElem? (i := 3) rfl) (by decide) (by decide)
  refine te_aload_n (p2 := 218) rfl rfl rfl ?_
  refine tg_r (p2 := 221) (i := o) (r := (16 + (o + 13))) rfl rfl I22 rfl (by rcases q_o with rfl | rfl | rfl <;> rfl) (by rcases q_o with rfl | rfl | rfl <;> rfl) ?_
  refine te_iconst (p2 := 222) (x := 0) rfl rfl (by decide) ?_
  refine te_aload_n (p2 := 223) rfl rfl rfl ?_
  refine tg_r (p2 := 226) (i := s) (r := (16 + (s + 13))) rfl rfl I22 rfl (by rcases q_s with rfl | rfl | rfl <;> rfl) (by rcases q_s with rfl | rfl | rfl <;> rfl) ?_
  refine te_iconst (p2 := 227) (x := 0) rfl rfl (by decide) ?_
  refine te_iconst (p2 := 228) (x := 3) rfl rfl (by decide) ?_
  refine tc_cp (p2 := 231) (i1 := (o + 13)) (i2 := (s + 13)) (n1 := 3) (n2 := 3) rfl rfl I22 rfl rfl (by rcases q_o with rfl | rfl | rfl <;> rfl) (by rcases q_s with rfl | rfl | rfl <;> rfl) (by rcases q_o with rfl | rfl | rfl <;> rfl) (by rcases q_s with rfl | rfl | rfl <;> rfl) rfl rfl (Or.inl rfl) (show Int32.toInt 0 = 0 from rfl) (show Int32.toInt 0 = 0 from rfl) (show Int32.toInt 3 = 3 from rfl) (by decide) (by decide) (by decide) (by decide) (by decide) rfl (by rcases q_s with rfl | rfl | rfl <;> rfl) (fun h23 I23 c23 u23 => ?_)
  have f23 := fr_cp (F := (F_X9_become s o)) (i := (s + 13)) (a := 0) (b := 2) f22 u23 (List.mem_of_getElem? (i := 4) rfl) (by decide) (by decide)
  exact te_vret rfl rfl ⟨I23, f23, rfl⟩
abbrev F_X11_image : List (Nat × Nat × Nat) := [(0, 4, 4), (51, 0, 4), (52, 0, 2), (53, 0, 99), (54, 0, 23), (55, 0, 23), (56, 0, 23), (57, 0, 23), (58, 0, 23), (59, 0, 15), (60, 0, 15), (61, 0, 11), (62, 0, 3), (63, 0, 3), (64, 0, 2)]
set_option maxRecDepth 20000 in
set_option maxHeartbeats 4000000 in
theorem t_X11_image  {h : im_H} (hI : tI h)  : CaP 2 102 [.ref 16] h (mI h F_X11_image (fun _ => True)) := by
  refine cap_of (d := 1) (M := mX11_image) rfl (Nat.le_of_ble_eq_true rfl) ?_
  show EvP im_K0 1 mX11_image (0, [(0, .ref 16)], [], h) _
  have f0 : fr F_X11_image h h := fr_rf
  refine te_aload_n (p2 := 1) rfl rfl rfl ?_
  refine tg_r (p2 := 4) (i := 0) (r := 67) rfl rfl hI rfl rfl rfl ?_
  refine te_aload_n (p2 := 5) rfl rfl rfl ?_
  refine tg_r (p2 := 8) (i := 0) (r := 39) rfl rfl hI rfl rfl rfl ?_
  refine cV_mV (p2 := 11) (i := 51) rfl rfl rfl rfl hI rfl rfl rfl (t_X9_become (s := 51) (o := 23) hI (by decide) (by decide)) (by decide) (fun h1 I1 g1 => ?_)
  have f1 := fr_tr (F1 := (F_X9_become 51 23)) (F := F_X11_image) f0 g1 (by decide)
  refine te_aload_n (p2 := 12) rfl rfl rfl ?_
  refine te_iconst (p2 := 13) (x := 1) rfl rfl (by decide) ?_
  refine tp_i (p2 := 16) (i := 0) rfl rfl I1 rfl rfl (by decide) rfl rfl rfl (by decide) (by decide) (by decide) rfl (fun h2 I2 u2 => ?_)
  have f2 := fr_st (F := F_X11_image) 0 f1 u2 rfl (by decide) (by decide)
  refine te_aload_n (p2 := 17) rfl rfl rfl ?_
  refine tg_r (p2 := 20) (i := 0) (r := 39) rfl rfl I2 rfl rfl rfl ?_
  refine tg_i (p2 := 23) (i := 23) rfl rfl I2 rfl rfl rfl (fun y3 a3 b3 e3 => ?_)
  exact te_iret rfl rfl ⟨I2, f2, _, rfl, trivial⟩
abbrev F_X11_back : List (Nat × Nat × Nat) := [(23, 0, 4), (24, 0, 2), (25, 0, 99), (26, 0, 23), (27, 0, 23), (28, 0, 23), (29, 0, 23), (30, 0, 23), (31, 0, 15), (32, 0, 15), (33, 0, 11), (34, 0, 3), (35, 0, 3), (36, 0, 2)]
set_option maxRecDepth 20000 in
set_option maxHeartbeats 4000000 in
theorem t_X11_back  {h : im_H} (hI : tI h)  : CaP 2 103 [.ref 16] h (mI h F_X11_back (fun _ => True)) := by
  refine cap_of (d := 1) (M := mX11_back) rfl (Nat.le_of_ble_eq_true rfl) ?_
  show EvP im_K0 1 mX11_back (0, [(0, .ref 16)], [], h) _
  have f0 : fr F_X11_back h h := fr_rf
  refine te_aload_n (p2 := 1) rfl rfl rfl ?_
  refine tg_i (p2 := 4) (i := 0) rfl rfl hI rfl rfl rfl (fun y1 a1 b1 e1 => ?_)
  refine tz_ne (p2 := 7) rfl rfl rfl (fun c2 => ?_) (fun c2 => ?_)
  · refine te_aload_n (p2 := 11) rfl rfl rfl ?_
    refine tg_r (p2 := 14) (i := 0) (r := 39) rfl rfl hI rfl rfl rfl ?_
    refine te_aload_n (p2 := 15) rfl rfl rfl ?_
    refine tg_r (p2 := 18) (i := 0) (r := 67) rfl rfl hI rfl rfl rfl ?_
    refine cV_mV (p2 := 21) (i := 23) rfl rfl rfl rfl hI rfl rfl rfl (t_X9_become (s := 23) (o := 51) hI (by decide) (by decide)) (by decide) (fun h3 I3 g3 => ?_)
    have f3 := fr_tr (F1 := (F_X9_become 23 51)) (F := F_X11_back) f0 g3 (by decide)
    refine te_aload_n (p2 := 22) rfl rfl rfl ?_
    refine tg_r (p2 := 25) (i := 0) (r := 39) rfl rfl I3 rfl rfl rfl ?_
    refine tg_i (p2 := 28) (i := 23) rfl rfl I3 rfl rfl rfl (fun y4 a4 b4 e4 => ?_)
    exact te_iret rfl rfl ⟨I3, f3, _, rfl, trivial⟩
  · refine te_bipush (p2 := 9) (x := (-3)) rfl rfl (by decide) ?_
    exact te_iret rfl rfl ⟨hI, f0, _, rfl, trivial⟩
abbrev F_X11_beside : List (Nat × Nat × Nat) := [(11, 0, 7), (37, 0, 4), (38, 0, 2), (39, 0, 99), (40, 0, 23), (41, 0, 23), (42, 0, 23), (43, 0, 23), (44, 0, 23), (45, 0, 15), (46, 0, 15), (47, 0, 11), (48, 0, 3), (49, 0, 3), (50, 0, 2)]
set_option maxRecDepth 20000 in
set_option maxHeartbeats 4000000 in
theorem t_X11_beside {x1 : Int32} {x2 : Int32} {h : im_H} (hI : tI h)  : CaP 8 100 [.ref 16, .int x1, .int x2] h (mL h F_X11_beside) := by
  refine cap_of (d := 7) (M := mX11_beside) rfl (Nat.le_of_ble_eq_true rfl) ?_
  show EvP im_K0 7 mX11_beside (0, [(0, .ref 16), (1, .int x1), (2, .int x2)], [], h) _
  have f0 : fr F_X11_beside h h := fr_rf
  refine te_iload_n (p2 := 1) rfl rfl rfl ?_
  refine te_iconst (p2 := 2) (x := 1) rfl rfl (by decide) ?_
  refine te_bipush (p2 := 4) (x := 60) rfl rfl (by decide) ?_
  refine cS_pI (p2 := 7) rfl rfl rfl rfl (t_X11_between (n := x1) (a := 1) (b := 60) hI ) (by decide) (fun y1 r1 => ?_)
  rcases r1 with ⟨w1, c1⟩ | ⟨w1, c1⟩
  · subst w1
    have cc1_1 := (show Int32.toInt 1 = 1 from rfl)
    have cc1_2 := (show Int32.toInt 60 = 60 from rfl)
    refine tz_eq (p2 := 10) rfl rfl (show Int32.toInt 1 = 1 from rfl) (fun c2 => absurd c2 (by omega)) (fun c2 => ?_)
    refine te_iload_n (p2 := 11) rfl rfl rfl ?_
    refine te_iconst (p2 := 12) (x := 4) rfl rfl (by decide) ?_
    refine cS_pI (p2 := 15) rfl rfl rfl rfl (t_X11_within (n := x2) (b := 4) hI ) (by decide) (fun y3 r3 => ?_)
    rcases r3 with ⟨w3, c3⟩ | ⟨w3, c3⟩
    · subst w3
      have cc3_1 := (show Int32.toInt 4 = 4 from rfl)
      refine tz_eq (p2 := 18) rfl rfl (show Int32.toInt 1 = 1 from rfl) (fun c4 => absurd c4 (by omega)) (fun c4 => ?_)
      refine te_aload_n (p2 := 19) rfl rfl rfl ?_
      refine tg_r (p2 := 22) (i := 0) (r := 39) rfl rfl hI rfl rfl rfl ?_
      refine tg_i (p2 := 25) (i := 23) rfl rfl hI rfl rfl rfl (fun y5 a5 b5 e5 => ?_)
      refine te_iload_n (p2 := 26) rfl rfl rfl ?_
      refine au_add (p2 := 27) rfl rfl (fun z6 e6 => ?_)
      refine te_sipush (p2 := 30) (x := 2000) rfl rfl (by decide) ?_
      refine tb_le (p2 := 33) rfl rfl rfl (show Int32.toInt 2000 = 2000 from rfl) (fun c7 => ?_) (fun c7 => ?_)
      · refine te_aload_n (p2 := 38) rfl rfl rfl ?_
        refine tg_r (p2 := 41) (i := 0) (r := 53) rfl rfl hI rfl rfl rfl ?_
        refine te_aload_n (p2 := 42) rfl rfl rfl ?_
        refine tg_r (p2 := 45) (i := 0) (r := 39) rfl rfl hI rfl rfl rfl ?_
        refine cV_mV (p2 := 48) (i := 37) rfl rfl rfl rfl hI rfl rfl rfl (t_X9_become (s := 37) (o := 23) hI (by decide) (by decide)) (by decide) (fun h8 I8 g8 => ?_)
        have f8 := fr_tr (F1 := (F_X9_become 37 23)) (F := F_X11_beside) f0 g8 (by decide)
        refine te_iconst (p2 := 49) (x := 0) rfl rfl (by decide) ?_
        refine te_istore_n (p2 := 50) (lv2 := [(3, .int 0), (0, .ref 16), (1, .int x1), (2, .int x2)]) rfl rfl (by decide) rfl ?_
        have lp9 : ∀ (n9 : Nat) (v9_3 : Int32) (h9 : im_H), tI h9 → fr F_X11_beside h h9 → 0 ≤ v9_3.toInt → v9_3.toInt ≤ 60 → v9_3.toInt ≤ x1.toInt → x1.toInt - v9_3.toInt < (n9 : Int) → EvP im_K0 7 mX11_beside (50, [(0, .ref 16), (1, .int x1), (2, .int x2), (3, .int v9_3)], [], h9) (mL h F_X11_beside) := by
          intro n9
          induction n9 with
          | zero => intro v9_3 h9 I9 f9 a9_3 b9_3 l9_0 m9; exfalso; omega
          | succ n9 ih9 =>
            intro v9_3 h9 I9 f9 a9_3 b9_3 l9_0 m9
            refine te_iload_n (p2 := 51) rfl rfl rfl ?_
            refine te_iload_n (p2 := 52) rfl rfl rfl ?_
            refine tb_ge (p2 := 55) rfl rfl rfl rfl (fun c10 => ?_) (fun c10 => ?_)
            · refine te_iload_n (p2 := 73) rfl rfl rfl ?_
              by_cases c11 : x2.toInt = 0
              · refine te_tsIn (k := 0) (p2 := 100) rfl c11 (by decide) (by decide) rfl (by decide) ?_
                refine te_aload_n (p2 := 101) rfl rfl rfl ?_
                refine tg_r (p2 := 104) (i := 0) (r := 53) rfl rfl I9 rfl rfl rfl ?_
                refine cV_pI (p2 := 107) (i := 37) rfl rfl rfl rfl I9 rfl rfl rfl (t_X9_allLoads (s := 37) I9 (by decide)) (by decide) (fun y12 r12 => ?_)
                refine te_i2l (p2 := 108) (z := (Int32.toInt64 y12)) rfl rfl rfl ?_
                exact te_lret rfl rfl ⟨I9, f9, _, rfl⟩
              · by_cases c13 : x2.toInt = 1
                · refine te_tsIn (k := 1) (p2 := 109) rfl c13 (by decide) (by decide) rfl (by decide) ?_
                  refine te_aload_n (p2 := 110) rfl rfl rfl ?_
                  refine tg_r (p2 := 113) (i := 0) (r := 53) rfl rfl I9 rfl rfl rfl ?_
                  refine tg_r (p2 := 116) (i := 37) (r := 54) rfl rfl I9 rfl rfl rfl ?_
                  refine te_iconst (p2 := 117) (x := 0) rfl rfl (by decide) ?_
                  refine tl_i (p2 := 118) (i := 38) (n := 3) rfl rfl I9 rfl rfl rfl rfl (by decide) (by decide) (fun y14 a14 b14 g14 e14 => ?_)
                  refine te_aload_n (p2 := 119) rfl rfl rfl ?_
                  refine tg_r (p2 := 122) (i := 0) (r := 39) rfl rfl I9 rfl rfl rfl ?_
                  refine tg_r (p2 := 125) (i := 23) (r := 40) rfl rfl I9 rfl rfl rfl ?_
                  refine te_iconst (p2 := 126) (x := 0) rfl rfl (by decide) ?_
                  refine tl_i (p2 := 127) (i := 24) (n := 3) rfl rfl I9 rfl rfl rfl rfl (by decide) (by decide) (fun y15 a15 b15 g15 e15 => ?_)
                  refine au_sub (p2 := 128) rfl rfl (fun z16 e16 => ?_)
                  refine te_i2l (p2 := 129) (z := (Int32.toInt64 z16)) rfl rfl rfl ?_
                  exact te_lret rfl rfl ⟨I9, f9, _, rfl⟩
                · by_cases c17 : x2.toInt = 2
                  · refine te_tsIn (k := 2) (p2 := 130) rfl c17 (by decide) (by decide) rfl (by decide) ?_
                    refine te_aload_n (p2 := 131) rfl rfl rfl ?_
                    refine tg_r (p2 := 134) (i := 0) (r := 53) rfl rfl I9 rfl rfl rfl ?_
                    refine cV_pI (p2 := 137) (i := 37) rfl rfl rfl rfl I9 rfl rfl rfl (t_X9_allDead (s := 37) I9 (by decide)) (by decide) (fun y18 r18 => ?_)
                    refine te_aload_n (p2 := 138) rfl rfl rfl ?_
                    refine tg_r (p2 := 141) (i := 0) (r := 39) rfl rfl I9 rfl rfl rfl ?_
                    refine cV_pI (p2 := 144) (i := 23) rfl rfl rfl rfl I9 rfl rfl rfl (t_X9_allDead (s := 23) I9 (by decide)) (by decide) (fun y19 r19 => ?_)
                    refine au_sub (p2 := 145) rfl rfl (fun z20 e20 => ?_)
                    refine te_i2l (p2 := 146) (z := (Int32.toInt64 z20)) rfl rfl rfl ?_
                    exact te_lret rfl rfl ⟨I9, f9, _, rfl⟩
                  · refine te_tsOut (p2 := 147) rfl (by omega) (by decide) ?_
                    refine te_aload_n (p2 := 148) rfl rfl rfl ?_
                    refine tg_r (p2 := 151) (i := 0) (r := 53) rfl rfl I9 rfl rfl rfl ?_
                    refine cV_pI (p2 := 154) (i := 37) rfl rfl rfl rfl I9 rfl rfl rfl (t_X9_allHurt (s := 37) I9 (by decide)) (by decide) (fun y21 r21 => ?_)
                    refine te_i2l (p2 := 155) (z := (Int32.toInt64 y21)) rfl rfl rfl ?_
                    exact te_lret rfl rfl ⟨I9, f9, _, rfl⟩
            · refine te_aload_n (p2 := 56) rfl rfl rfl ?_
              refine tg_r (p2 := 59) (i := 0) (r := 17) rfl rfl I9 rfl rfl rfl ?_
              refine te_aload_n (p2 := 60) rfl rfl rfl ?_
              refine tg_r (p2 := 63) (i := 0) (r := 53) rfl rfl I9 rfl rfl rfl ?_
              refine cV_mV (p2 := 66) (i := 1) rfl rfl rfl rfl I9 rfl rfl rfl (t_X0_playDay (s := 37) I9 (by decide)) (by decide) (fun h22 I22 g22 => ?_)
              have f22 := fr_tr (F1 := (F_X0_playDay 37)) (F := F_X11_beside) f9 g22 (by decide)
              refine ar_inc (p2 := 69) (x := v9_3) rfl rfl (by decide) rfl (by decide) rfl (by omega) (by omega) (fun z23 e23 f23 => ?_)
              show EvP _ _ _ (69, [(3, .int z23), (0, .ref 16), (1, .int x1), (2, .int x2)], [], h22) _
              refine te_goto rfl ?_
              refine te_lv [(0, .ref 16), (1, .int x1), (2, .int x2), (3, .int z23)] rfl rfl ⟨rfl, rfl, rfl, rfl, trivial⟩ ?_
              exact ih9 z23 h22 I22 f22 (by omega) (by omega) (by omega) (by omega)
        refine te_lv [(0, .ref 16), (1, .int x1), (2, .int x2), (3, .int 0)] rfl rfl ⟨rfl, rfl, rfl, rfl, trivial⟩ ?_
        exact lp9 61 0 h8 I8 f8 (by decide) (by decide) (by have cc0 := (show Int32.toInt 0 = 0 from rfl); omega) (by have cc0 := (show Int32.toInt 0 = 0 from rfl); omega)
      · refine te_ldc2 (p2 := 36) (x := (-4611686018427387904)) rfl rfl rfl ?_
        exact te_lret rfl rfl ⟨hI, f0, _, rfl⟩
    · subst w3
      have cc3_1 := (show Int32.toInt 4 = 4 from rfl)
      refine tz_eq (p2 := 18) rfl rfl (show Int32.toInt 0 = 0 from rfl) (fun c24 => ?_) (fun c24 => absurd c24 (by omega))
      refine te_ldc2 (p2 := 36) (x := (-4611686018427387904)) rfl rfl rfl ?_
      exact te_lret rfl rfl ⟨hI, f0, _, rfl⟩
  · subst w1
    have cc1_1 := (show Int32.toInt 1 = 1 from rfl)
    have cc1_2 := (show Int32.toInt 60 = 60 from rfl)
    refine tz_eq (p2 := 10) rfl rfl (show Int32.toInt 0 = 0 from rfl) (fun c25 => ?_) (fun c25 => absurd c25 (by omega))
    refine te_ldc2 (p2 := 36) (x := (-4611686018427387904)) rfl rfl rfl ?_
    exact te_lret rfl rfl ⟨hI, f0, _, rfl⟩
abbrev F_X11_clear : List (Nat × Nat × Nat) := [(11, 0, 7), (37, 0, 4), (38, 0, 2), (39, 0, 99), (40, 0, 23), (41, 0, 23), (42, 0, 23), (43, 0, 23), (44, 0, 23), (45, 0, 15), (46, 0, 15), (47, 0, 11), (48, 0, 3), (49, 0, 3), (50, 0, 2)]
set_option maxRecDepth 20000 in
set_option maxHeartbeats 4000000 in
theorem t_X11_clear {x1 : Int32} {x2 : Int32} {h : im_H} (hI : tI h)  : CaP 8 101 [.ref 16, .int x1, .int x2] h (mI h F_X11_clear (fun _ => True)) := by
  refine cap_of (d := 7) (M := mX11_clear) rfl (Nat.le_of_ble_eq_true rfl) ?_
  show EvP im_K0 7 mX11_clear (0, [(0, .ref 16), (1, .int x1), (2, .int x2)], [], h) _
  have f0 : fr F_X11_clear h h := fr_rf
  refine te_iload_n (p2 := 1) rfl rfl rfl ?_
  refine te_bipush (p2 := 3) (x := 100) rfl rfl (by decide) ?_
  refine cS_pI (p2 := 6) rfl rfl rfl rfl (t_X11_within (n := x1) (b := 100) hI ) (by decide) (fun y1 r1 => ?_)
  rcases r1 with ⟨w1, c1⟩ | ⟨w1, c1⟩
  · subst w1
    have cc1_1 := (show Int32.toInt 100 = 100 from rfl)
    refine tz_ne (p2 := 9) rfl rfl (show Int32.toInt 1 = 1 from rfl) (fun c2 => ?_) (fun c2 => absurd c2 (by omega))
    refine te_iload_n (p2 := 12) rfl rfl rfl ?_
    refine te_iconst (p2 := 13) (x := 1) rfl rfl (by decide) ?_
    refine te_bipush (p2 := 15) (x := 60) rfl rfl (by decide) ?_
    refine cS_pI (p2 := 18) rfl rfl rfl rfl (t_X11_between (n := x2) (a := 1) (b := 60) hI ) (by decide) (fun y3 r3 => ?_)
    rcases r3 with ⟨w3, c3⟩ | ⟨w3, c3⟩
    · subst w3
      have cc3_1 := (show Int32.toInt 1 = 1 from rfl)
      have cc3_2 := (show Int32.toInt 60 = 60 from rfl)
      refine tz_ne (p2 := 21) rfl rfl (show Int32.toInt 1 = 1 from rfl) (fun c4 => ?_) (fun c4 => absurd c4 (by omega))
      refine te_aload_n (p2 := 25) rfl rfl rfl ?_
      refine tg_r (p2 := 28) (i := 0) (r := 53) rfl rfl hI rfl rfl rfl ?_
      refine te_aload_n (p2 := 29) rfl rfl rfl ?_
      refine tg_r (p2 := 32) (i := 0) (r := 39) rfl rfl hI rfl rfl rfl ?_
      refine cV_mV (p2 := 35) (i := 37) rfl rfl rfl rfl hI rfl rfl rfl (t_X9_become (s := 37) (o := 23) hI (by decide) (by decide)) (by decide) (fun h5 I5 g5 => ?_)
      have f5 := fr_tr (F1 := (F_X9_become 37 23)) (F := F_X11_clear) f0 g5 (by decide)
      refine te_iconst (p2 := 36) (x := 0) rfl rfl (by decide) ?_
      refine te_istore_n (p2 := 37) (lv2 := [(3, .int 0), (0, .ref 16), (1, .int x1), (2, .int x2)]) rfl rfl (by decide) rfl ?_
      have lp6 : ∀ (n6 : Nat) (v6_3 : Int32) (h6 : im_H), tI h6 → fr F_X11_clear h h6 → 0 ≤ v6_3.toInt → v6_3.toInt ≤ 60 → v6_3.toInt ≤ x2.toInt → x2.toInt - v6_3.toInt < (n6 : Int) → EvP im_K0 7 mX11_clear (37, [(0, .ref 16), (1, .int x1), (2, .int x2), (3, .int v6_3)], [], h6) (mI h F_X11_clear (fun _ => True)) := by
        intro n6
        induction n6 with
        | zero => intro v6_3 h6 I6 f6 a6_3 b6_3 l6_0 m6; exfalso; omega
        | succ n6 ih6 =>
          intro v6_3 h6 I6 f6 a6_3 b6_3 l6_0 m6
          refine te_iload_n (p2 := 38) rfl rfl rfl ?_
          refine te_iload_n (p2 := 39) rfl rfl rfl ?_
          refine tb_ge (p2 := 42) rfl rfl rfl rfl (fun c7 => ?_) (fun c7 => ?_)
          · refine te_aload_n (p2 := 74) rfl rfl rfl ?_
            refine tg_r (p2 := 77) (i := 0) (r := 53) rfl rfl I6 rfl rfl rfl ?_
            refine tg_r (p2 := 80) (i := 37) (r := 55) rfl rfl I6 rfl rfl rfl ?_
            refine te_iload_n (p2 := 81) rfl rfl rfl ?_
            refine tl_i (p2 := 82) (i := 39) (n := 100) rfl rfl I6 rfl rfl rfl rfl (by omega) (by omega) (fun y8 a8 b8 g8 e8 => ?_)
            refine tz_ne (p2 := 85) rfl rfl rfl (fun c9 => ?_) (fun c9 => ?_)
            · refine te_bipush (p2 := 91) (x := (-3)) rfl rfl (by decide) ?_
              exact te_iret rfl rfl ⟨I6, f6, _, rfl, trivial⟩
            · refine te_iload_n (p2 := 86) rfl rfl rfl ?_
              refine te_goto rfl ?_
              exact te_iret rfl rfl ⟨I6, f6, _, rfl, trivial⟩
          · refine te_aload_n (p2 := 43) rfl rfl rfl ?_
            refine tg_r (p2 := 46) (i := 0) (r := 53) rfl rfl I6 rfl rfl rfl ?_
            refine tg_r (p2 := 49) (i := 37) (r := 55) rfl rfl I6 rfl rfl rfl ?_
            refine te_iload_n (p2 := 50) rfl rfl rfl ?_
            refine tl_i (p2 := 51) (i := 39) (n := 100) rfl rfl I6 rfl rfl rfl rfl (by omega) (by omega) (fun y10 a10 b10 g10 e10 => ?_)
            refine tz_ne (p2 := 54) rfl rfl rfl (fun c11 => ?_) (fun c11 => ?_)
            · refine te_aload_n (p2 := 57) rfl rfl rfl ?_
              refine tg_r (p2 := 60) (i := 0) (r := 17) rfl rfl I6 rfl rfl rfl ?_
              refine te_aload_n (p2 := 61) rfl rfl rfl ?_
              refine tg_r (p2 := 64) (i := 0) (r := 53) rfl rfl I6 rfl rfl rfl ?_
              refine cV_mV (p2 := 67) (i := 1) rfl rfl rfl rfl I6 rfl rfl rfl (t_X0_playDay (s := 37) I6 (by decide)) (by decide) (fun h12 I12 g12 => ?_)
              have f12 := fr_tr (F1 := (F_X0_playDay 37)) (F := F_X11_clear) f6 g12 (by decide)
              refine ar_inc (p2 := 70) (x := v6_3) rfl rfl (by decide) rfl (by decide) rfl (by omega) (by omega) (fun z13 e13 f13 => ?_)
              show EvP _ _ _ (70, [(3, .int z13), (0, .ref 16), (1, .int x1), (2, .int x2)], [], h12) _
              refine te_goto rfl ?_
              refine te_lv [(0, .ref 16), (1, .int x1), (2, .int x2), (3, .int z13)] rfl rfl ⟨rfl, rfl, rfl, rfl, trivial⟩ ?_
              exact ih6 z13 h12 I12 f12 (by omega) (by omega) (by omega) (by omega)
            · refine te_iload_n (p2 := 55) rfl rfl rfl ?_
              exact te_iret rfl rfl ⟨I6, f6, _, rfl, trivial⟩
      refine te_lv [(0, .ref 16), (1, .int x1), (2, .int x2), (3, .int 0)] rfl rfl ⟨rfl, rfl, rfl, rfl, trivial⟩ ?_
      exact lp6 61 0 h5 I5 f5 (by decide) (by decide) (by have cc0 := (show Int32.toInt 0 = 0 from rfl); omega) (by have cc0 := (show Int32.toInt 0 = 0 from rfl); omega)
    · subst w3
      have cc3_1 := (show Int32.toInt 1 = 1 from rfl)
      have cc3_2 := (show Int32.toInt 60 = 60 from rfl)
      refine tz_ne (p2 := 21) rfl rfl (show Int32.toInt 0 = 0 from rfl) (fun c14 => absurd c14 (by omega)) (fun c14 => ?_)
      refine te_bipush (p2 := 23) (x := (-2)) rfl rfl (by decide) ?_
      exact te_iret rfl rfl ⟨hI, f0, _, rfl, trivial⟩
  · subst w1
    have cc1_1 := (show Int32.toInt 100 = 100 from rfl)
    refine tz_ne (p2 := 9) rfl rfl (show Int32.toInt 0 = 0 from rfl) (fun c15 => absurd c15 (by omega)) (fun c15 => ?_)
    refine te_iconst (p2 := 10) (x := (-1)) rfl rfl (by decide) ?_
    exact te_iret rfl rfl ⟨hI, f0, _, rfl, trivial⟩
abbrev F_J7_fill_53178 (q : Nat) : List (Nat × Nat × Nat) := [(q, 0, 39)]
set_option maxRecDepth 20000 in
set_option maxHeartbeats 4000000 in
theorem t_J7_fill_53178 {q : Nat} {v : Int32} {h : im_H} (hI : tI h) (q_q : q = 141 ∨ q = 143 ∨ q = 145 ∨ q = 147) : CaP 1 197 [.ref (16 + q), .int v] h (mV h (F_J7_fill_53178 q)) := by
  refine cap_of (d := 0) (M := mJ7_fill_53178) rfl (Nat.le_of_ble_eq_true rfl) ?_
  show EvP im_K0 0 mJ7_fill_53178 (0, [(0, .ref (16 + q)), (1, .int v)], [], h) _
  have f0 : fr (F_J7_fill_53178 q) h h := fr_rf
  refine te_iconst (p2 := 1) (x := 0) rfl rfl (by decide) ?_
  refine te_istore_n (p2 := 2) (lv2 := [(2, .int 0), (0, .ref (16 + q)), (1, .int v)]) rfl rfl (by decide) rfl ?_
  refine te_aload_n (p2 := 3) rfl rfl rfl ?_
  refine te_len (p2 := 4) (i := q) (n := 40) (t := 0) (Or.inl rfl) rfl rfl hI rfl (by rcases q_q with rfl | rfl | rfl | rfl <;> rfl) rfl ?_
  show EvP _ _ _ (4, [(2, .int 0), (0, .ref (16 + q)), (1, .int v)], [.int 40], h) _
  refine te_istore_n (p2 := 5) (lv2 := [(3, .int 40), (2, .int 0), (0, .ref (16 + q)), (1, .int v)]) rfl rfl (by decide) rfl ?_
  have lp1 : ∀ (n1 : Nat) (v1_2 : Int32) (h1 : im_H), tI h1 → fr (F_J7_fill_53178 q) h h1 → 0 ≤ v1_2.toInt → v1_2.toInt ≤ 40 → 40 - v1_2.toInt < (n1 : Int) → EvP im_K0 0 mJ7_fill_53178 (5, [(0, .ref (16 + q)), (1, .int v), (2, .int v1_2), (3, .int 40)], [], h1) (mV h (F_J7_fill_53178 q)) := by
    intro n1
    induction n1 with
    | zero => intro v1_2 h1 I1 f1 a1_2 b1_2 m1; exfalso; omega
    | succ n1 ih1 =>
      intro v1_2 h1 I1 f1 a1_2 b1_2 m1
      refine te_iload_n (p2 := 6) rfl rfl rfl ?_
      refine te_iload_n (p2 := 7) rfl rfl rfl ?_
      refine tb_ge (p2 := 10) rfl rfl rfl (show Int32.toInt 40 = 40 from rfl) (fun c2 => ?_) (fun c2 => ?_)
      · exact te_vret rfl rfl ⟨I1, f1, rfl⟩
      · refine te_aload_n (p2 := 11) rfl rfl rfl ?_
        refine te_iload_n (p2 := 12) rfl rfl rfl ?_
        refine te_iload_n (p2 := 13) rfl rfl rfl ?_
        refine ts_i (p2 := 14) (i := q) (n := 40) rfl rfl I1 rfl (by rcases q_q with rfl | rfl | rfl | rfl <;> rfl) (by rcases q_q with rfl | rfl | rfl | rfl <;> rfl) rfl (by omega) (by omega) (i32_lo _) (i32_hi _) (i32_ho _) (by rcases q_q with rfl | rfl | rfl | rfl <;> rfl) (fun h3 I3 u3 => ?_)
        have f3 := fr_st (F := (F_J7_fill_53178 q)) 0 f1 u3 rfl (by omega) (by omega)
        refine ar_inc (p2 := 17) (x := v1_2) rfl rfl (by decide) rfl (by decide) rfl (by omega) (by omega) (fun z4 e4 f4 => ?_)
        show EvP _ _ _ (17, [(2, .int z4), (0, .ref (16 + q)), (1, .int v), (3, .int 40)], [], h3) _
        refine te_goto rfl ?_
        refine te_lv [(0, .ref (16 + q)), (1, .int v), (2, .int z4), (3, .int 40)] rfl rfl ⟨rfl, rfl, rfl, rfl, trivial⟩ ?_
        exact ih1 z4 h3 I3 f3 (by omega) (by omega) (by have cc0 := (show Int32.toInt 40 = 40 from rfl); omega)
  refine te_lv [(0, .ref (16 + q)), (1, .int v), (2, .int 0), (3, .int 40)] rfl rfl ⟨rfl, rfl, rfl, rfl, trivial⟩ ?_
  exact lp1 41 0 h hI f0 (by decide) (by decide) (by have cc0 := (show Int32.toInt 0 = 0 from rfl); have cc1 := (show Int32.toInt 40 = 40 from rfl); omega)
abbrev F_X11_sheet : List (Nat × Nat × Nat) := [(140, 0, 1), (141, 0, 39), (142, 0, 1), (143, 0, 39), (144, 0, 1), (145, 0, 39), (146, 0, 1), (147, 0, 39)]
set_option maxRecDepth 20000 in
set_option maxHeartbeats 4000000 in
theorem t_X11_sheet {x1 : Int32} {x2 : Int32} {x3 : Int32} {h : im_H} (hI : tI h)  : CaP 3 104 [.ref 16, .int x1, .int x2, .int x3] h (mI h F_X11_sheet (fun _ => True)) := by
  refine cap_of (d := 2) (M := mX11_sheet) rfl (Nat.le_of_ble_eq_true rfl) ?_
  show EvP im_K0 2 mX11_sheet (0, [(0, .ref 16), (1, .int x1), (2, .int x2), (3, .int x3)], [], h) _
  have f0 : fr F_X11_sheet h h := fr_rf
  refine te_iload_n (p2 := 1) rfl rfl rfl ?_
  refine te_iconst (p2 := 2) (x := 4) rfl rfl (by decide) ?_
  refine cS_pI (p2 := 5) rfl rfl rfl rfl (t_X11_within (n := x1) (b := 4) hI ) (by decide) (fun y1 r1 => ?_)
  rcases r1 with ⟨w1, c1⟩ | ⟨w1, c1⟩
  · subst w1
    have cc1_1 := (show Int32.toInt 4 = 4 from rfl)
    refine tz_ne (p2 := 8) rfl rfl (show Int32.toInt 1 = 1 from rfl) (fun c2 => ?_) (fun c2 => absurd c2 (by omega))
    refine te_iload_n (p2 := 12) rfl rfl rfl ?_
    refine te_iconst (p2 := 13) (x := (-1)) rfl rfl (by decide) ?_
    refine tb_ne (p2 := 16) rfl rfl rfl (show Int32.toInt (-1) = (-1) from rfl) (fun c3 => ?_) (fun c3 => ?_)
    · refine te_iload_n (p2 := 29) rfl rfl rfl ?_
      refine te_iconst (p2 := 30) (x := 3) rfl rfl (by decide) ?_
      refine cS_pI (p2 := 33) rfl rfl rfl rfl (t_X11_within (n := x2) (b := 3) hI ) (by decide) (fun y4 r4 => ?_)
      rcases r4 with ⟨w4, c4⟩ | ⟨w4, c4⟩
      · subst w4
        have cc4_1 := (show Int32.toInt 3 = 3 from rfl)
        refine tz_eq (p2 := 36) rfl rfl (show Int32.toInt 1 = 1 from rfl) (fun c5 => absurd c5 (by omega)) (fun c5 => ?_)
        refine te_iload_n (p2 := 37) rfl rfl rfl ?_
        refine te_bipush (p2 := 39) (x := 40) rfl rfl (by decide) ?_
        refine tb_le (p2 := 42) rfl rfl rfl (show Int32.toInt 40 = 40 from rfl) (fun c6 => ?_) (fun c6 => ?_)
        · refine te_iload_n (p2 := 46) rfl rfl rfl ?_
          refine tz_ge (p2 := 49) rfl rfl rfl (fun c7 => ?_) (fun c7 => ?_)
          · refine te_aload_n (p2 := 53) rfl rfl rfl ?_
            refine tg_r (p2 := 56) (i := 0) (r := 113) rfl rfl hI rfl rfl rfl ?_
            refine te_iload_n (p2 := 57) rfl rfl rfl ?_
            refine tl_f (p2 := 58) (i := 97) (n := 4) (c0 := 140) (sp := 2) rfl rfl hI rfl rfl (by decide) rq_97 (by omega) (by omega) (fun o8 w8 => ?_)
            have q8 : o8 = 140 ∨ o8 = 142 ∨ o8 = 144 ∨ o8 = 146 := by omega
            refine te_iload_n (p2 := 59) rfl rfl rfl ?_
            refine tp_i (p2 := 62) (i := o8) rfl rfl hI rfl (by rcases q8 with rfl | rfl | rfl | rfl <;> rfl) (by decide) rfl rfl (by rcases q8 with rfl | rfl | rfl | rfl <;> rfl) (by omega) (by omega) (by omega) (by rcases q8 with rfl | rfl | rfl | rfl <;> rfl) (fun h9 I9 u9 => ?_)
            have f9 := fr_up (F := F_X11_sheet) (a := 0) (b := 1) f0 u9 (by rcases q8 with rfl | rfl | rfl | rfl <;> decide) (by decide) (by decide)
            refine te_aload_n (p2 := 63) rfl rfl rfl ?_
            refine tg_r (p2 := 66) (i := 0) (r := 113) rfl rfl I9 rfl rfl rfl ?_
            refine te_iload_n (p2 := 67) rfl rfl rfl ?_
            refine tl_f (p2 := 68) (i := 97) (n := 4) (c0 := 140) (sp := 2) rfl rfl I9 rfl rfl (by decide) rq_97 (by omega) (by omega) (fun o10 w10 => ?_)
            have q10 : o10 = 140 ∨ o10 = 142 ∨ o10 = 144 ∨ o10 = 146 := by omega
            refine te_iload_n (p2 := 69) rfl rfl rfl ?_
            refine tp_i (p2 := 72) (i := o10) rfl rfl I9 rfl (by rcases q10 with rfl | rfl | rfl | rfl <;> rfl) (by decide) rfl rfl (by rcases q10 with rfl | rfl | rfl | rfl <;> rfl) (by omega) (by omega) (by omega) (by rcases q10 with rfl | rfl | rfl | rfl <;> rfl) (fun h11 I11 u11 => ?_)
            have f11 := fr_up (F := F_X11_sheet) (a := 0) (b := 1) f9 u11 (by rcases q10 with rfl | rfl | rfl | rfl <;> decide) (by decide) (by decide)
            refine te_aload_n (p2 := 73) rfl rfl rfl ?_
            refine tg_r (p2 := 76) (i := 0) (r := 113) rfl rfl I11 rfl rfl rfl ?_
            refine te_iload_n (p2 := 77) rfl rfl rfl ?_
            refine tl_f (p2 := 78) (i := 97) (n := 4) (c0 := 140) (sp := 2) rfl rfl I11 rfl rfl (by decide) rq_97 (by omega) (by omega) (fun o12 w12 => ?_)
            have q12 : o12 = 140 ∨ o12 = 142 ∨ o12 = 144 ∨ o12 = 146 := by omega
            refine tg_r (p2 := 81) (i := o12) (r := (16 + (o12 + 1))) rfl rfl I11 rfl (by rcases q12 with rfl | rfl | rfl | rfl <;> rfl) (by rcases q12 with rfl | rfl | rfl | rfl <;> rfl) ?_
            refine te_iconst (p2 := 82) (x := 0) rfl rfl (by decide) ?_
            refine cS_mV (p2 := 85) rfl rfl rfl rfl (t_J7_fill_53178 (q := (o12 + 1)) (v := 0) I11 (by omega)) (by decide) (fun h13 I13 g13 => ?_)
            have f13 := fr_tr (F1 := (F_J7_fill_53178 (o12 + 1))) (F := F_X11_sheet) f11 g13 (by rcases q12 with rfl | rfl | rfl | rfl <;> decide)
            refine te_iconst (p2 := 86) (x := 1) rfl rfl (by decide) ?_
            exact te_iret rfl rfl ⟨I13, f13, _, rfl, trivial⟩
          · refine te_bipush (p2 := 51) (x := (-14)) rfl rfl (by decide) ?_
            exact te_iret rfl rfl ⟨hI, f0, _, rfl, trivial⟩
        · refine te_bipush (p2 := 44) (x := (-2)) rfl rfl (by decide) ?_
          exact te_iret rfl rfl ⟨hI, f0, _, rfl, trivial⟩
      · subst w4
        have cc4_1 := (show Int32.toInt 3 = 3 from rfl)
        refine tz_eq (p2 := 36) rfl rfl (show Int32.toInt 0 = 0 from rfl) (fun c14 => ?_) (fun c14 => absurd c14 (by omega))
        refine te_bipush (p2 := 44) (x := (-2)) rfl rfl (by decide) ?_
        exact te_iret rfl rfl ⟨hI, f0, _, rfl, trivial⟩
    · refine te_aload_n (p2 := 17) rfl rfl rfl ?_
      refine tg_r (p2 := 20) (i := 0) (r := 113) rfl rfl hI rfl rfl rfl ?_
      refine te_iload_n (p2 := 21) rfl rfl rfl ?_
      refine tl_f (p2 := 22) (i := 97) (n := 4) (c0 := 140) (sp := 2) rfl rfl hI rfl rfl (by decide) rq_97 (by omega) (by omega) (fun o15 w15 => ?_)
      have q15 : o15 = 140 ∨ o15 = 142 ∨ o15 = 144 ∨ o15 = 146 := by omega
      refine te_iconst (p2 := 23) (x := (-1)) rfl rfl (by decide) ?_
      refine tp_i (p2 := 26) (i := o15) rfl rfl hI rfl (by rcases q15 with rfl | rfl | rfl | rfl <;> rfl) (by decide) rfl rfl (by rcases q15 with rfl | rfl | rfl | rfl <;> rfl) (by decide) (by decide) (by decide) (by rcases q15 with rfl | rfl | rfl | rfl <;> rfl) (fun h16 I16 u16 => ?_)
      have f16 := fr_up (F := F_X11_sheet) (a := 0) (b := 1) f0 u16 (by rcases q15 with rfl | rfl | rfl | rfl <;> decide) (by decide) (by decide)
      refine te_iconst (p2 := 27) (x := 1) rfl rfl (by decide) ?_
      exact te_iret rfl rfl ⟨I16, f16, _, rfl, trivial⟩
  · subst w1
    have cc1_1 := (show Int32.toInt 4 = 4 from rfl)
    refine tz_ne (p2 := 8) rfl rfl (show Int32.toInt 0 = 0 from rfl) (fun c17 => absurd c17 (by omega)) (fun c17 => ?_)
    refine te_bipush (p2 := 10) (x := (-2)) rfl rfl (by decide) ?_
    exact te_iret rfl rfl ⟨hI, f0, _, rfl, trivial⟩
abbrev F_X11_copy : List (Nat × Nat × Nat) := [(141, 0, 39), (143, 0, 39), (145, 0, 39), (147, 0, 39)]
set_option maxRecDepth 20000 in
set_option maxHeartbeats 4000000 in
theorem t_X11_copy {x1 : Int32} {x2 : Int32} {x3 : Int32} {x4 : Int32} {x5 : Int32} {h : im_H} (hI : tI h)  : CaP 3 106 [.ref 16, .int x1, .int x2, .int x3, .int x4, .int x5] h (mI h F_X11_copy (fun _ => True)) := by
  refine cap_of (d := 2) (M := mX11_copy) rfl (Nat.le_of_ble_eq_true rfl) ?_
  show EvP im_K0 2 mX11_copy (0, [(0, .ref 16), (1, .int x1), (2, .int x2), (3, .int x3), (4, .int x4), (5, .int x5)], [], h) _
  have f0 : fr F_X11_copy h h := fr_rf
  refine te_iload_n (p2 := 1) rfl rfl rfl ?_
  refine te_iconst (p2 := 2) (x := 4) rfl rfl (by decide) ?_
  refine cS_pI (p2 := 5) rfl rfl rfl rfl (t_X11_within (n := x1) (b := 4) hI ) (by decide) (fun y1 r1 => ?_)
  rcases r1 with ⟨w1, c1⟩ | ⟨w1, c1⟩
  · subst w1
    have cc1_1 := (show Int32.toInt 4 = 4 from rfl)
    refine tz_eq (p2 := 8) rfl rfl (show Int32.toInt 1 = 1 from rfl) (fun c2 => absurd c2 (by omega)) (fun c2 => ?_)
    refine te_iload_n (p2 := 9) rfl rfl rfl ?_
    refine te_iconst (p2 := 10) (x := 4) rfl rfl (by decide) ?_
    refine cS_pI (p2 := 13) rfl rfl rfl rfl (t_X11_within (n := x3) (b := 4) hI ) (by decide) (fun y3 r3 => ?_)
    rcases r3 with ⟨w3, c3⟩ | ⟨w3, c3⟩
    · subst w3
      have cc3_1 := (show Int32.toInt 4 = 4 from rfl)
      refine tz_ne (p2 := 16) rfl rfl (show Int32.toInt 1 = 1 from rfl) (fun c4 => ?_) (fun c4 => absurd c4 (by omega))
      refine te_aload_n (p2 := 20) rfl rfl rfl ?_
      refine tg_r (p2 := 23) (i := 0) (r := 113) rfl rfl hI rfl rfl rfl ?_
      refine te_iload_n (p2 := 24) rfl rfl rfl ?_
      refine tl_f (p2 := 25) (i := 97) (n := 4) (c0 := 140) (sp := 2) rfl rfl hI rfl rfl (by decide) rq_97 (by omega) (by omega) (fun o5 w5 => ?_)
      have q5 : o5 = 140 ∨ o5 = 142 ∨ o5 = 144 ∨ o5 = 146 := by omega
      refine te_astore (p2 := 27) (lv2 := [(6, .ref (16 + o5)), (0, .ref 16), (1, .int x1), (2, .int x2), (3, .int x3), (4, .int x4), (5, .int x5)]) rfl rfl (by decide) rfl ?_
      refine te_aload_n (p2 := 28) rfl rfl rfl ?_
      refine tg_r (p2 := 31) (i := 0) (r := 113) rfl rfl hI rfl rfl rfl ?_
      refine te_iload_n (p2 := 32) rfl rfl rfl ?_
      refine tl_f (p2 := 33) (i := 97) (n := 4) (c0 := 140) (sp := 2) rfl rfl hI rfl rfl (by decide) rq_97 (by omega) (by omega) (fun o6 w6 => ?_)
      have q6 : o6 = 140 ∨ o6 = 142 ∨ o6 = 144 ∨ o6 = 146 := by omega
      refine te_astore (p2 := 35) (lv2 := [(7, .ref (16 + o6)), (6, .ref (16 + o5)), (0, .ref 16), (1, .int x1), (2, .int x2), (3, .int x3), (4, .int x4), (5, .int x5)]) rfl rfl (by decide) rfl ?_
      refine te_aload (p2 := 37) rfl rfl rfl ?_
      refine cV_pI (p2 := 40) (i := o5) rfl rfl rfl rfl hI rfl (by rcases q5 with rfl | rfl | rfl | rfl <;> rfl) rfl (t_X8_isMissing (s := o5) hI q5) (by decide) (fun y7 r7 => ?_)
      obtain ⟨a7, b7⟩ := r7
      refine tz_ne (p2 := 43) rfl rfl rfl (fun c8 => ?_) (fun c8 => ?_)
      · refine te_bipush (p2 := 53) (x := (-11)) rfl rfl (by decide) ?_
        exact te_iret rfl rfl ⟨hI, f0, _, rfl, trivial⟩
      · refine te_aload (p2 := 45) rfl rfl rfl ?_
        refine cV_pI (p2 := 48) (i := o6) rfl rfl rfl rfl hI rfl (by rcases q6 with rfl | rfl | rfl | rfl <;> rfl) rfl (t_X8_isMissing (s := o6) hI q6) (by decide) (fun y9 r9 => ?_)
        obtain ⟨a9, b9⟩ := r9
        refine tz_eq (p2 := 51) rfl rfl rfl (fun c10 => ?_) (fun c10 => ?_)
        · refine te_aload (p2 := 56) rfl rfl rfl ?_
          refine tg_i (p2 := 59) (i := o5) rfl rfl hI rfl (by rcases q5 with rfl | rfl | rfl | rfl <;> rfl) (by rcases q5 with rfl | rfl | rfl | rfl <;> rfl) (fun y11 a11 b11 e11 => ?_)
          refine te_aload (p2 := 61) rfl rfl rfl ?_
          refine tg_i (p2 := 64) (i := o6) rfl rfl hI rfl (by rcases q6 with rfl | rfl | rfl | rfl <;> rfl) (by rcases q6 with rfl | rfl | rfl | rfl <;> rfl) (fun y12 a12 b12 e12 => ?_)
          refine tb_eq (p2 := 67) rfl rfl rfl rfl (fun c13 => ?_) (fun c13 => ?_)
          · refine te_aload (p2 := 72) rfl rfl rfl ?_
            refine te_iload_n (p2 := 73) rfl rfl rfl ?_
            refine te_iload (p2 := 75) rfl rfl rfl ?_
            refine cV_pI (p2 := 78) (i := o5) rfl rfl rfl rfl hI rfl (by rcases q5 with rfl | rfl | rfl | rfl <;> rfl) rfl (t_X8_holds (s := o5) (i := x2) (n := x5) hI q5) (by decide) (fun y14 r14 => ?_)
            obtain ⟨p14, e14, a14, b14, r14⟩ := r14
            rcases r14 with ⟨w14, c14⟩ | ⟨w14, c14⟩
            · subst w14
              refine tz_eq (p2 := 81) rfl rfl (show Int32.toInt 1 = 1 from rfl) (fun c15 => absurd c15 (by omega)) (fun c15 => ?_)
              refine te_aload (p2 := 83) rfl rfl rfl ?_
              refine te_iload (p2 := 85) rfl rfl rfl ?_
              refine te_iload (p2 := 87) rfl rfl rfl ?_
              refine cV_pI (p2 := 90) (i := o6) rfl rfl rfl rfl hI rfl (by rcases q6 with rfl | rfl | rfl | rfl <;> rfl) rfl (t_X8_holds (s := o6) (i := x4) (n := x5) hI q6) (by decide) (fun y16 r16 => ?_)
              obtain ⟨p16, e16, a16, b16, r16⟩ := r16
              rcases r16 with ⟨w16, c16⟩ | ⟨w16, c16⟩
              · subst w16
                refine tz_ne (p2 := 93) rfl rfl (show Int32.toInt 1 = 1 from rfl) (fun c17 => ?_) (fun c17 => absurd c17 (by omega))
                refine te_aload (p2 := 98) rfl rfl rfl ?_
                refine tg_r (p2 := 101) (i := o5) (r := (16 + (o5 + 1))) rfl rfl hI rfl (by rcases q5 with rfl | rfl | rfl | rfl <;> rfl) (by rcases q5 with rfl | rfl | rfl | rfl <;> rfl) ?_
                refine te_iload_n (p2 := 102) rfl rfl rfl ?_
                refine te_aload (p2 := 104) rfl rfl rfl ?_
                refine tg_r (p2 := 107) (i := o6) (r := (16 + (o6 + 1))) rfl rfl hI rfl (by rcases q6 with rfl | rfl | rfl | rfl <;> rfl) (by rcases q6 with rfl | rfl | rfl | rfl <;> rfl) ?_
                refine te_iload (p2 := 109) rfl rfl rfl ?_
                refine te_iload (p2 := 111) rfl rfl rfl ?_
                refine tc_cp (p2 := 114) (i1 := (o5 + 1)) (i2 := (o6 + 1)) (n1 := 40) (n2 := 40) rfl rfl hI rfl rfl (by rcases q5 with rfl | rfl | rfl | rfl <;> rfl) (by rcases q6 with rfl | rfl | rfl | rfl <;> rfl) (by rcases q5 with rfl | rfl | rfl | rfl <;> rfl) (by rcases q6 with rfl | rfl | rfl | rfl <;> rfl) rfl rfl (Or.inl rfl) rfl rfl rfl (by omega) (by omega) (by omega) (by omega) (by omega) rfl (by rcases q6 with rfl | rfl | rfl | rfl <;> rfl) (fun h18 I18 c18 u18 => ?_)
                have f18 := fr_cp (F := F_X11_copy) (i := (o6 + 1)) (a := 0) (b := 39) f0 u18 (by rcases q6 with rfl | rfl | rfl | rfl <;> decide) (by omega) (by omega)
                refine te_iload (p2 := 116) rfl rfl rfl ?_
                exact te_iret rfl rfl ⟨I18, f18, _, rfl, trivial⟩
              · subst w16
                refine tz_ne (p2 := 93) rfl rfl (show Int32.toInt 0 = 0 from rfl) (fun c19 => absurd c19 (by omega)) (fun c19 => ?_)
                refine te_bipush (p2 := 95) (x := (-12)) rfl rfl (by decide) ?_
                exact te_iret rfl rfl ⟨hI, f0, _, rfl, trivial⟩
            · subst w14
              refine tz_eq (p2 := 81) rfl rfl (show Int32.toInt 0 = 0 from rfl) (fun c20 => ?_) (fun c20 => absurd c20 (by omega))
              refine te_bipush (p2 := 95) (x := (-12)) rfl rfl (by decide) ?_
              exact te_iret rfl rfl ⟨hI, f0, _, rfl, trivial⟩
          · refine te_bipush (p2 := 69) (x := (-13)) rfl rfl (by decide) ?_
            exact te_iret rfl rfl ⟨hI, f0, _, rfl, trivial⟩
        · refine te_bipush (p2 := 53) (x := (-11)) rfl rfl (by decide) ?_
          exact te_iret rfl rfl ⟨hI, f0, _, rfl, trivial⟩
    · subst w3
      have cc3_1 := (show Int32.toInt 4 = 4 from rfl)
      refine tz_ne (p2 := 16) rfl rfl (show Int32.toInt 0 = 0 from rfl) (fun c21 => absurd c21 (by omega)) (fun c21 => ?_)
      refine te_bipush (p2 := 18) (x := (-2)) rfl rfl (by decide) ?_
      exact te_iret rfl rfl ⟨hI, f0, _, rfl, trivial⟩
  · subst w1
    have cc1_1 := (show Int32.toInt 4 = 4 from rfl)
    refine tz_eq (p2 := 8) rfl rfl (show Int32.toInt 0 = 0 from rfl) (fun c22 => ?_) (fun c22 => absurd c22 (by omega))
    refine te_bipush (p2 := 18) (x := (-2)) rfl rfl (by decide) ?_
    exact te_iret rfl rfl ⟨hI, f0, _, rfl, trivial⟩
abbrev F_X11_personFrom : List (Nat × Nat × Nat) := [(1, 2, 2), (26, 0, 23), (3, 0, 23), (4, 0, 23), (5, 0, 23)]
set_option maxRecDepth 20000 in
set_option maxHeartbeats 4000000 in
theorem t_X11_personFrom {s : Nat} {i : Int32} {h : im_H} (hI : tI h) (q_s : s = 140 ∨ s = 142 ∨ s = 144 ∨ s = 146) (p_i0 : 0 ≤ i.toInt) (p_i1 : i.toInt ≤ 36) : CaP 9 108 [.ref 16, .ref (16 + s), .int i] h (mI h F_X11_personFrom (fun _ => True)) := by
  refine cap_of (d := 8) (M := mX11_personFrom) rfl (Nat.le_of_ble_eq_true rfl) ?_
  show EvP im_K0 8 mX11_personFrom (0, [(0, .ref 16), (1, .ref (16 + s)), (2, .int i)], [], h) _
  have f0 : fr F_X11_personFrom h h := fr_rf
  refine te_aload_n (p2 := 1) rfl rfl rfl ?_
  refine te_aload_n (p2 := 2) rfl rfl rfl ?_
  refine tg_r (p2 := 5) (i := s) (r := (16 + (s + 1))) rfl rfl hI rfl (by rcases q_s with rfl | rfl | rfl | rfl <;> rfl) (by rcases q_s with rfl | rfl | rfl | rfl <;> rfl) ?_
  refine te_iload_n (p2 := 6) rfl rfl rfl ?_
  refine tl_i (p2 := 7) (i := (s + 1)) (n := 40) rfl rfl hI rfl (by rcases q_s with rfl | rfl | rfl | rfl <;> rfl) (by rcases q_s with rfl | rfl | rfl | rfl <;> rfl) rfl (by omega) (by omega) (fun y1 a1 b1 g1 e1 => ?_)
  refine te_aload_n (p2 := 8) rfl rfl rfl ?_
  refine tg_r (p2 := 11) (i := s) (r := (16 + (s + 1))) rfl rfl hI rfl (by rcases q_s with rfl | rfl | rfl | rfl <;> rfl) (by rcases q_s with rfl | rfl | rfl | rfl <;> rfl) ?_
  refine te_iload_n (p2 := 12) rfl rfl rfl ?_
  refine te_iconst (p2 := 13) (x := 1) rfl rfl (by decide) ?_
  refine ar_add (p2 := 14) rfl rfl rfl (show Int32.toInt 1 = 1 from rfl) (by omega) (by omega) (fun z2 e2 f2 => ?_)
  refine tl_i (p2 := 15) (i := (s + 1)) (n := 40) rfl rfl hI rfl (by rcases q_s with rfl | rfl | rfl | rfl <;> rfl) (by rcases q_s with rfl | rfl | rfl | rfl <;> rfl) rfl (by omega) (by omega) (fun y3 a3 b3 g3 e3 => ?_)
  refine te_aload_n (p2 := 16) rfl rfl rfl ?_
  refine tg_r (p2 := 19) (i := s) (r := (16 + (s + 1))) rfl rfl hI rfl (by rcases q_s with rfl | rfl | rfl | rfl <;> rfl) (by rcases q_s with rfl | rfl | rfl | rfl <;> rfl) ?_
  refine te_iload_n (p2 := 20) rfl rfl rfl ?_
  refine te_iconst (p2 := 21) (x := 2) rfl rfl (by decide) ?_
  refine ar_add (p2 := 22) rfl rfl rfl (show Int32.toInt 2 = 2 from rfl) (by omega) (by omega) (fun z4 e4 f4 => ?_)
  refine tl_i (p2 := 23) (i := (s + 1)) (n := 40) rfl rfl hI rfl (by rcases q_s with rfl | rfl | rfl | rfl <;> rfl) (by rcases q_s with rfl | rfl | rfl | rfl <;> rfl) rfl (by omega) (by omega) (fun y5 a5 b5 g5 e5 => ?_)
  refine te_aload_n (p2 := 24) rfl rfl rfl ?_
  refine tg_r (p2 := 27) (i := s) (r := (16 + (s + 1))) rfl rfl hI rfl (by rcases q_s with rfl | rfl | rfl | rfl <;> rfl) (by rcases q_s with rfl | rfl | rfl | rfl <;> rfl) ?_
  refine te_iload_n (p2 := 28) rfl rfl rfl ?_
  refine te_iconst (p2 := 29) (x := 3) rfl rfl (by decide) ?_
  refine ar_add (p2 := 30) rfl rfl rfl (show Int32.toInt 3 = 3 from rfl) (by omega) (by omega) (fun z6 e6 f6 => ?_)
  refine tl_i (p2 := 31) (i := (s + 1)) (n := 40) rfl rfl hI rfl (by rcases q_s with rfl | rfl | rfl | rfl <;> rfl) (by rcases q_s with rfl | rfl | rfl | rfl <;> rfl) rfl (by omega) (by omega) (fun y7 a7 b7 g7 e7 => ?_)
  refine cV_mI (p2 := 34) (i := 0) rfl rfl rfl rfl hI rfl rfl rfl (t_X11_person (x1 := y1) (x2 := y3) (x3 := y5) (x4 := y7) hI ) (by decide) (fun y8 h8 I8 g8 r8 => ?_)
  have f8 := fr_tr (F1 := F_X11_person) (F := F_X11_personFrom) f0 g8 (by decide)
  exact te_iret rfl rfl ⟨I8, f8, _, rfl, trivial⟩
abbrev F_X11_people : List (Nat × Nat × Nat) := [(1, 2, 2), (26, 0, 23), (3, 0, 23), (4, 0, 23), (5, 0, 23)]
set_option maxRecDepth 20000 in
set_option maxHeartbeats 4000000 in
theorem t_X11_people {x1 : Int32} {x2 : Int32} {x3 : Int32} {x4 : Int32} {h : im_H} (hI : tI h)  : CaP 10 107 [.ref 16, .int x1, .int x2, .int x3, .int x4] h (mI h F_X11_people (fun _ => True)) := by
  refine cap_of (d := 9) (M := mX11_people) rfl (Nat.le_of_ble_eq_true rfl) ?_
  show EvP im_K0 9 mX11_people (0, [(0, .ref 16), (1, .int x1), (2, .int x2), (3, .int x3), (4, .int x4)], [], h) _
  have f0 : fr F_X11_people h h := fr_rf
  refine te_iload_n (p2 := 1) rfl rfl rfl ?_
  refine te_iconst (p2 := 2) (x := 4) rfl rfl (by decide) ?_
  refine cS_pI (p2 := 5) rfl rfl rfl rfl (t_X11_within (n := x1) (b := 4) hI ) (by decide) (fun y1 r1 => ?_)
  rcases r1 with ⟨w1, c1⟩ | ⟨w1, c1⟩
  · subst w1
    have cc1_1 := (show Int32.toInt 4 = 4 from rfl)
    refine tz_eq (p2 := 8) rfl rfl (show Int32.toInt 1 = 1 from rfl) (fun c2 => absurd c2 (by omega)) (fun c2 => ?_)
    refine te_iload_n (p2 := 9) rfl rfl rfl ?_
    refine te_iconst (p2 := 10) (x := 3) rfl rfl (by decide) ?_
    refine cS_pI (p2 := 13) rfl rfl rfl rfl (t_X11_within (n := x2) (b := 3) hI ) (by decide) (fun y3 r3 => ?_)
    rcases r3 with ⟨w3, c3⟩ | ⟨w3, c3⟩
    · subst w3
      have cc3_1 := (show Int32.toInt 3 = 3 from rfl)
      refine tz_eq (p2 := 16) rfl rfl (show Int32.toInt 1 = 1 from rfl) (fun c4 => absurd c4 (by omega)) (fun c4 => ?_)
      refine te_iload (p2 := 18) rfl rfl rfl ?_
      refine te_iconst (p2 := 19) (x := 0) rfl rfl (by decide) ?_
      refine te_bipush (p2 := 21) (x := 10) rfl rfl (by decide) ?_
      refine cS_pI (p2 := 24) rfl rfl rfl rfl (t_X11_between (n := x4) (a := 0) (b := 10) hI ) (by decide) (fun y5 r5 => ?_)
      rcases r5 with ⟨w5, c5⟩ | ⟨w5, c5⟩
      · subst w5
        have cc5_1 := (show Int32.toInt 0 = 0 from rfl)
        have cc5_2 := (show Int32.toInt 10 = 10 from rfl)
        refine tz_ne (p2 := 27) rfl rfl (show Int32.toInt 1 = 1 from rfl) (fun c6 => ?_) (fun c6 => absurd c6 (by omega))
        refine te_aload_n (p2 := 31) rfl rfl rfl ?_
        refine tg_r (p2 := 34) (i := 0) (r := 113) rfl rfl hI rfl rfl rfl ?_
        refine te_iload_n (p2 := 35) rfl rfl rfl ?_
        refine tl_f (p2 := 36) (i := 97) (n := 4) (c0 := 140) (sp := 2) rfl rfl hI rfl rfl (by decide) rq_97 (by omega) (by omega) (fun o7 w7 => ?_)
        have q7 : o7 = 140 ∨ o7 = 142 ∨ o7 = 144 ∨ o7 = 146 := by omega
        refine te_astore (p2 := 38) (lv2 := [(5, .ref (16 + o7)), (0, .ref 16), (1, .int x1), (2, .int x2), (3, .int x3), (4, .int x4)]) rfl rfl (by decide) rfl ?_
        refine te_aload (p2 := 40) rfl rfl rfl ?_
        refine cV_pI (p2 := 43) (i := o7) rfl rfl rfl rfl hI rfl (by rcases q7 with rfl | rfl | rfl | rfl <;> rfl) rfl (t_X8_isMissing (s := o7) hI q7) (by decide) (fun y8 r8 => ?_)
        obtain ⟨a8, b8⟩ := r8
        refine tz_eq (p2 := 46) rfl rfl rfl (fun c9 => ?_) (fun c9 => ?_)
        · refine te_aload (p2 := 51) rfl rfl rfl ?_
          refine tg_i (p2 := 54) (i := o7) rfl rfl hI rfl (by rcases q7 with rfl | rfl | rfl | rfl <;> rfl) (by rcases q7 with rfl | rfl | rfl | rfl <;> rfl) (fun y10 a10 b10 e10 => ?_)
          refine te_iload_n (p2 := 55) rfl rfl rfl ?_
          refine tb_eq (p2 := 58) rfl rfl rfl rfl (fun c11 => ?_) (fun c11 => ?_)
          · refine te_iconst (p2 := 62) (x := 0) rfl rfl (by decide) ?_
            refine te_istore (p2 := 64) (lv2 := [(6, .int 0), (5, .ref (16 + o7)), (0, .ref 16), (1, .int x1), (2, .int x2), (3, .int x3), (4, .int x4)]) rfl rfl (by decide) rfl ?_
            refine te_iconst (p2 := 65) (x := 1) rfl rfl (by decide) ?_
            refine te_istore (p2 := 67) (lv2 := [(7, .int 1), (6, .int 0), (5, .ref (16 + o7)), (0, .ref 16), (1, .int x1), (2, .int x2), (3, .int x3), (4, .int x4)]) rfl rfl (by decide) rfl ?_
            have lp12 : ∀ (n12 : Nat) (v12_6 v12_7 : Int32) (h12 : im_H), tI h12 → fr F_X11_people h h12 → 1 ≤ v12_7.toInt → v12_7.toInt ≤ 11 → 11 - v12_7.toInt < (n12 : Int) → EvP im_K0 9 mX11_people (67, [(0, .ref 16), (1, .int x1), (2, .int x2), (3, .int x3), (4, .int x4), (5, .ref (16 + o7)), (6, .int v12_6), (7, .int v12_7)], [], h12) (mI h F_X11_people (fun _ => True)) := by
              intro n12
              induction n12 with
              | zero => intro v12_6 v12_7 h12 I12 f12 a12_7 b12_7 m12; exfalso; omega
              | succ n12 ih12 =>
                intro v12_6 v12_7 h12 I12 f12 a12_7 b12_7 m12
                refine te_iload (p2 := 69) rfl rfl rfl ?_
                refine te_iload (p2 := 71) rfl rfl rfl ?_
                refine tb_gt (p2 := 74) rfl rfl rfl rfl (fun c13 => ?_) (fun c13 => ?_)
                · refine te_iload (p2 := 118) rfl rfl rfl ?_
                  exact te_iret rfl rfl ⟨I12, f12, _, rfl, trivial⟩
                · refine te_aload (p2 := 76) rfl rfl rfl ?_
                  refine te_iload_n (p2 := 77) rfl rfl rfl ?_
                  refine te_iconst (p2 := 78) (x := 4) rfl rfl (by decide) ?_
                  refine te_iload (p2 := 80) rfl rfl rfl ?_
                  refine ar_mul (p2 := 81) rfl rfl (show Int32.toInt 4 = 4 from rfl) rfl (by omega) (by omega) (fun z14 e14 f14 => ?_)
                  refine cV_pI (p2 := 84) (i := o7) rfl rfl rfl rfl I12 rfl (by rcases q7 with rfl | rfl | rfl | rfl <;> rfl) rfl (t_X8_holds (s := o7) (i := x3) (n := z14) I12 q7) (by decide) (fun y15 r15 => ?_)
                  obtain ⟨p15, e15, a15, b15, r15⟩ := r15
                  rcases r15 with ⟨w15, c15⟩ | ⟨w15, c15⟩
                  · subst w15
                    refine tz_ne (p2 := 87) rfl rfl (show Int32.toInt 1 = 1 from rfl) (fun c16 => ?_) (fun c16 => absurd c16 (by omega))
                    refine te_aload_n (p2 := 91) rfl rfl rfl ?_
                    refine te_aload (p2 := 93) rfl rfl rfl ?_
                    refine te_iload_n (p2 := 94) rfl rfl rfl ?_
                    refine te_iconst (p2 := 95) (x := 4) rfl rfl (by decide) ?_
                    refine te_iload (p2 := 97) rfl rfl rfl ?_
                    refine te_iconst (p2 := 98) (x := 1) rfl rfl (by decide) ?_
                    refine ar_sub (p2 := 99) rfl rfl rfl (show Int32.toInt 1 = 1 from rfl) (by omega) (by omega) (fun z17 e17 f17 => ?_)
                    refine ar_mul (p2 := 100) rfl rfl (show Int32.toInt 4 = 4 from rfl) rfl (by omega) (by omega) (fun z18 e18 f18 => ?_)
                    refine ar_add (p2 := 101) rfl rfl rfl rfl (by omega) (by omega) (fun z19 e19 f19 => ?_)
                    refine cV_mI (p2 := 104) (i := 0) rfl rfl rfl rfl I12 rfl rfl rfl (t_X11_personFrom (s := o7) (i := z19) I12 q7 (by omega) (by omega)) (by decide) (fun y20 h20 I20 g20 r20 => ?_)
                    have f20 := fr_tr (F1 := F_X11_personFrom) (F := F_X11_people) f12 g20 (by decide)
                    refine tz_lt (p2 := 107) rfl rfl rfl (fun c21 => ?_) (fun c21 => ?_)
                    · refine ar_inc (p2 := 113) (x := v12_7) rfl rfl (by decide) rfl (by decide) rfl (by omega) (by omega) (fun z22 e22 f22 => ?_)
                      show EvP _ _ _ (113, [(7, .int z22), (0, .ref 16), (1, .int x1), (2, .int x2), (3, .int x3), (4, .int x4), (5, .ref (16 + o7)), (6, .int v12_6)], [], h20) _
                      refine te_goto rfl ?_
                      refine te_lv [(0, .ref 16), (1, .int x1), (2, .int x2), (3, .int x3), (4, .int x4), (5, .ref (16 + o7)), (6, .int v12_6), (7, .int z22)] rfl rfl ⟨rfl, rfl, rfl, rfl, rfl, rfl, rfl, rfl, trivial⟩ ?_
                      exact ih12 v12_6 z22 h20 I20 f20 (by omega) (by omega) (by omega)
                    · refine au_inc (p2 := 110) (x := v12_6) rfl rfl (by decide) rfl (fun z23 e23 => ?_)
                      show EvP _ _ _ (110, [(6, .int z23), (0, .ref 16), (1, .int x1), (2, .int x2), (3, .int x3), (4, .int x4), (5, .ref (16 + o7)), (7, .int v12_7)], [], h20) _
                      refine ar_inc (p2 := 113) (x := v12_7) rfl rfl (by decide) rfl (by decide) rfl (by omega) (by omega) (fun z24 e24 f24 => ?_)
                      show EvP _ _ _ (113, [(7, .int z24), (6, .int z23), (0, .ref 16), (1, .int x1), (2, .int x2), (3, .int x3), (4, .int x4), (5, .ref (16 + o7))], [], h20) _
                      refine te_goto rfl ?_
                      refine te_lv [(0, .ref 16), (1, .int x1), (2, .int x2), (3, .int x3), (4, .int x4), (5, .ref (16 + o7)), (6, .int z23), (7, .int z24)] rfl rfl ⟨rfl, rfl, rfl, rfl, rfl, rfl, rfl, rfl, trivial⟩ ?_
                      exact ih12 z23 z24 h20 I20 f20 (by omega) (by omega) (by omega)
                  · subst w15
                    refine tz_ne (p2 := 87) rfl rfl (show Int32.toInt 0 = 0 from rfl) (fun c25 => absurd c25 (by omega)) (fun c25 => ?_)
                    refine te_bipush (p2 := 89) (x := (-12)) rfl rfl (by decide) ?_
                    exact te_iret rfl rfl ⟨I12, f12, _, rfl, trivial⟩
            refine te_lv [(0, .ref 16), (1, .int x1), (2, .int x2), (3, .int x3), (4, .int x4), (5, .ref (16 + o7)), (6, .int 0), (7, .int 1)] rfl rfl ⟨rfl, rfl, rfl, rfl, rfl, rfl, rfl, rfl, trivial⟩ ?_
            exact lp12 11 0 1 h hI f0 (by decide) (by decide) (by have cc0 := (show Int32.toInt 0 = 0 from rfl); have cc1 := (show Int32.toInt 1 = 1 from rfl); omega)
          · refine te_bipush (p2 := 60) (x := (-13)) rfl rfl (by decide) ?_
            exact te_iret rfl rfl ⟨hI, f0, _, rfl, trivial⟩
        · refine te_bipush (p2 := 48) (x := (-11)) rfl rfl (by decide) ?_
          exact te_iret rfl rfl ⟨hI, f0, _, rfl, trivial⟩
      · subst w5
        have cc5_1 := (show Int32.toInt 0 = 0 from rfl)
        have cc5_2 := (show Int32.toInt 10 = 10 from rfl)
        refine tz_ne (p2 := 27) rfl rfl (show Int32.toInt 0 = 0 from rfl) (fun c26 => absurd c26 (by omega)) (fun c26 => ?_)
        refine te_bipush (p2 := 29) (x := (-2)) rfl rfl (by decide) ?_
        exact te_iret rfl rfl ⟨hI, f0, _, rfl, trivial⟩
    · subst w3
      have cc3_1 := (show Int32.toInt 3 = 3 from rfl)
      refine tz_eq (p2 := 16) rfl rfl (show Int32.toInt 0 = 0 from rfl) (fun c27 => ?_) (fun c27 => absurd c27 (by omega))
      refine te_bipush (p2 := 29) (x := (-2)) rfl rfl (by decide) ?_
      exact te_iret rfl rfl ⟨hI, f0, _, rfl, trivial⟩
  · subst w1
    have cc1_1 := (show Int32.toInt 4 = 4 from rfl)
    refine tz_eq (p2 := 8) rfl rfl (show Int32.toInt 0 = 0 from rfl) (fun c28 => ?_) (fun c28 => absurd c28 (by omega))
    refine te_bipush (p2 := 29) (x := (-2)) rfl rfl (by decide) ?_
    exact te_iret rfl rfl ⟨hI, f0, _, rfl, trivial⟩
abbrev F_X12_people : List (Nat × Nat × Nat) := [(148, 10, 10), (149, 140, 163), (157, 0, 23), (158, 0, 23), (159, 0, 23)]
set_option maxRecDepth 20000 in
set_option maxHeartbeats 4000000 in
theorem t_X12_people {x1 : Int32} {x2 : Int32} {x3 : Int32} {x4 : Int32} {h : im_H} (hI : tI h)  : CaP 10 194 [.ref 164, .int x1, .int x2, .int x3, .int x4] h (mI h F_X12_people (fun _ => True)) := by
  refine cap_of (d := 9) (M := mX12_people) rfl (Nat.le_of_ble_eq_true rfl) ?_
  show EvP im_K0 9 mX12_people (0, [(0, .ref 164), (1, .int x1), (2, .int x2), (3, .int x3), (4, .int x4)], [], h) _
  have f0 : fr F_X12_people h h := fr_rf
  refine te_iload_n (p2 := 1) rfl rfl rfl ?_
  refine te_iconst (p2 := 2) (x := 0) rfl rfl (by decide) ?_
  refine te_iconst (p2 := 3) (x := 3) rfl rfl (by decide) ?_
  refine cS_pI (p2 := 6) rfl rfl rfl rfl (t_X12_in (n := x1) (a := 0) (b := 3) hI ) (by decide) (fun y1 r1 => ?_)
  rcases r1 with ⟨w1, c1⟩ | ⟨w1, c1⟩
  · subst w1
    have cc1_1 := (show Int32.toInt 0 = 0 from rfl)
    have cc1_2 := (show Int32.toInt 3 = 3 from rfl)
    refine tz_eq (p2 := 9) rfl rfl (show Int32.toInt 1 = 1 from rfl) (fun c2 => absurd c2 (by omega)) (fun c2 => ?_)
    refine te_iload_n (p2 := 10) rfl rfl rfl ?_
    refine te_iconst (p2 := 11) (x := 0) rfl rfl (by decide) ?_
    refine te_iconst (p2 := 12) (x := 2) rfl rfl (by decide) ?_
    refine cS_pI (p2 := 15) rfl rfl rfl rfl (t_X12_in (n := x2) (a := 0) (b := 2) hI ) (by decide) (fun y3 r3 => ?_)
    rcases r3 with ⟨w3, c3⟩ | ⟨w3, c3⟩
    · subst w3
      have cc3_1 := (show Int32.toInt 0 = 0 from rfl)
      have cc3_2 := (show Int32.toInt 2 = 2 from rfl)
      refine tz_eq (p2 := 18) rfl rfl (show Int32.toInt 1 = 1 from rfl) (fun c4 => absurd c4 (by omega)) (fun c4 => ?_)
      refine te_iload (p2 := 20) rfl rfl rfl ?_
      refine te_iconst (p2 := 21) (x := 0) rfl rfl (by decide) ?_
      refine te_bipush (p2 := 23) (x := 10) rfl rfl (by decide) ?_
      refine cS_pI (p2 := 26) rfl rfl rfl rfl (t_X12_in (n := x4) (a := 0) (b := 10) hI ) (by decide) (fun y5 r5 => ?_)
      rcases r5 with ⟨w5, c5⟩ | ⟨w5, c5⟩
      · subst w5
        have cc5_1 := (show Int32.toInt 0 = 0 from rfl)
        have cc5_2 := (show Int32.toInt 10 = 10 from rfl)
        refine tz_ne (p2 := 29) rfl rfl (show Int32.toInt 1 = 1 from rfl) (fun c6 => ?_) (fun c6 => absurd c6 (by omega))
        refine te_aload_n (p2 := 33) rfl rfl rfl ?_
        refine tg_r (p2 := 36) (i := 148) (r := 208) rfl rfl hI rfl rfl rfl ?_
        refine te_iload_n (p2 := 37) rfl rfl rfl ?_
        refine tl_i (p2 := 38) (i := 192) (n := 4) rfl rfl hI rfl rfl rfl rfl (by omega) (by omega) (fun y7 a7 b7 g7 e7 => ?_)
        refine te_iconst (p2 := 39) (x := (-1)) rfl rfl (by decide) ?_
        refine tb_ne (p2 := 42) rfl rfl rfl (show Int32.toInt (-1) = (-1) from rfl) (fun c8 => ?_) (fun c8 => ?_)
        · refine te_aload_n (p2 := 46) rfl rfl rfl ?_
          refine tg_r (p2 := 49) (i := 148) (r := 208) rfl rfl hI rfl rfl rfl ?_
          refine te_iload_n (p2 := 50) rfl rfl rfl ?_
          refine tl_e (p2 := 51) (i := 192) (n := 4) (t := 0) (Or.inl rfl) rfl rfl hI rfl rfl (by omega) (by omega) e7 ?_
          refine te_iload_n (p2 := 52) rfl rfl rfl ?_
          refine tb_eq (p2 := 55) rfl rfl rfl rfl (fun c10 => ?_) (fun c10 => ?_)
          · refine te_iconst (p2 := 59) (x := 0) rfl rfl (by decide) ?_
            refine te_istore (p2 := 61) (lv2 := [(5, .int 0), (0, .ref 164), (1, .int x1), (2, .int x2), (3, .int x3), (4, .int x4)]) rfl rfl (by decide) rfl ?_
            refine te_iconst (p2 := 62) (x := 0) rfl rfl (by decide) ?_
            refine te_istore (p2 := 64) (lv2 := [(6, .int 0), (5, .int 0), (0, .ref 164), (1, .int x1), (2, .int x2), (3, .int x3), (4, .int x4)]) rfl rfl (by decide) rfl ?_
            have lp11 : ∀ (n11 : Nat) (v11_5 v11_6 : Int32) (h11 : im_H), tI h11 → fr F_X12_people h h11 → 0 ≤ v11_6.toInt → v11_6.toInt ≤ 10 → 10 - v11_6.toInt < (n11 : Int) → EvP im_K0 9 mX12_people (64, [(0, .ref 164), (1, .int x1), (2, .int x2), (3, .int x3), (4, .int x4), (5, .int v11_5), (6, .int v11_6)], [], h11) (mI h F_X12_people (fun _ => True)) := by
              intro n11
              induction n11 with
              | zero => intro v11_5 v11_6 h11 I11 f11 a11_6 b11_6 m11; exfalso; omega
              | succ n11 ih11 =>
                intro v11_5 v11_6 h11 I11 f11 a11_6 b11_6 m11
                refine te_iload (p2 := 66) rfl rfl rfl ?_
                refine te_iload (p2 := 68) rfl rfl rfl ?_
                refine tb_ge (p2 := 71) rfl rfl rfl rfl (fun c12 => ?_) (fun c12 => ?_)
                · refine te_iload (p2 := 173) rfl rfl rfl ?_
                  exact te_iret rfl rfl ⟨I11, f11, _, rfl, trivial⟩
                · refine te_iload_n (p2 := 72) rfl rfl rfl ?_
                  refine te_iconst (p2 := 73) (x := 4) rfl rfl (by decide) ?_
                  refine te_iload (p2 := 75) rfl rfl rfl ?_
                  refine ar_mul (p2 := 76) rfl rfl (show Int32.toInt 4 = 4 from rfl) rfl (by omega) (by omega) (fun z13 e13 f13 => ?_)
                  refine au_add (p2 := 77) rfl rfl (fun z14 e14 => ?_)
                  refine te_istore (p2 := 79) (lv2 := [(7, .int z14), (0, .ref 164), (1, .int x1), (2, .int x2), (3, .int x3), (4, .int x4), (5, .int v11_5), (6, .int v11_6)]) rfl rfl (by decide) rfl ?_
                  refine te_iload_n (p2 := 80) rfl rfl rfl ?_
                  refine tz_lt (p2 := 83) rfl rfl rfl (fun c15 => ?_) (fun c15 => ?_)
                  · refine te_bipush (p2 := 104) (x := (-12)) rfl rfl (by decide) ?_
                    exact te_iret rfl rfl ⟨I11, f11, _, rfl, trivial⟩
                  · refine te_iload (p2 := 85) rfl rfl rfl ?_
                    refine te_iload_n (p2 := 86) rfl rfl rfl ?_
                    refine tb_lt (p2 := 89) rfl rfl rfl rfl (fun c16 => ?_) (fun c16 => ?_)
                    · refine te_bipush (p2 := 104) (x := (-12)) rfl rfl (by decide) ?_
                      exact te_iret rfl rfl ⟨I11, f11, _, rfl, trivial⟩
                    · refine te_iload (p2 := 91) rfl rfl rfl ?_
                      refine te_aload_n (p2 := 92) rfl rfl rfl ?_
                      refine tg_r (p2 := 95) (i := 148) (r := 209) rfl rfl I11 rfl rfl rfl ?_
                      refine te_iload_n (p2 := 96) rfl rfl rfl ?_
                      refine tl_i (p2 := 97) (i := 193) (n := 4) rfl rfl I11 rfl rfl rfl rfl (by omega) (by omega) (fun y17 a17 b17 g17 e17 => ?_)
                      refine te_iconst (p2 := 98) (x := 4) rfl rfl (by decide) ?_
                      refine ar_sub (p2 := 99) rfl rfl rfl (show Int32.toInt 4 = 4 from rfl) (by omega) (by omega) (fun z18 e18 f18 => ?_)
                      refine tb_le (p2 := 102) rfl rfl rfl rfl (fun c19 => ?_) (fun c19 => ?_)
                      · refine te_bipush (p2 := 107) (x := 40) rfl rfl (by decide) ?_
                        refine te_iload_n (p2 := 108) rfl rfl rfl ?_
                        refine ar_mul (p2 := 109) rfl rfl (show Int32.toInt 40 = 40 from rfl) rfl (by omega) (by omega) (fun z20 e20 f20 => ?_)
                        refine te_iload (p2 := 111) rfl rfl rfl ?_
                        refine ar_add (p2 := 112) rfl rfl rfl rfl (by omega) (by omega) (fun z21 e21 f21 => ?_)
                        refine te_istore (p2 := 114) (lv2 := [(8, .int z21), (7, .int z14), (0, .ref 164), (1, .int x1), (2, .int x2), (3, .int x3), (4, .int x4), (5, .int v11_5), (6, .int v11_6)]) rfl rfl (by decide) rfl ?_
                        refine te_iload (p2 := 116) rfl rfl rfl ?_
                        refine te_aload_n (p2 := 117) rfl rfl rfl ?_
                        refine te_aload_n (p2 := 118) rfl rfl rfl ?_
                        refine tg_r (p2 := 121) (i := 148) (r := 210) rfl rfl I11 rfl rfl rfl ?_
                        refine te_iload (p2 := 123) rfl rfl rfl ?_
                        refine tl_i (p2 := 124) (i := 194) (n := 160) rfl rfl I11 rfl rfl rfl rfl (by omega) (by omega) (fun y22 a22 b22 g22 e22 => ?_)
                        refine te_aload_n (p2 := 125) rfl rfl rfl ?_
                        refine tg_r (p2 := 128) (i := 148) (r := 210) rfl rfl I11 rfl rfl rfl ?_
                        refine te_iload (p2 := 130) rfl rfl rfl ?_
                        refine te_iconst (p2 := 131) (x := 1) rfl rfl (by decide) ?_
                        refine ar_add (p2 := 132) rfl rfl rfl (show Int32.toInt 1 = 1 from rfl) (by omega) (by omega) (fun z23 e23 f23 => ?_)
                        refine tl_i (p2 := 133) (i := 194) (n := 160) rfl rfl I11 rfl rfl rfl rfl (by omega) (by omega) (fun y24 a24 b24 g24 e24 => ?_)
                        refine te_aload_n (p2 := 134) rfl rfl rfl ?_
                        refine tg_r (p2 := 137) (i := 148) (r := 210) rfl rfl I11 rfl rfl rfl ?_
                        refine te_iload (p2 := 139) rfl rfl rfl ?_
                        refine te_iconst (p2 := 140) (x := 2) rfl rfl (by decide) ?_
                        refine ar_add (p2 := 141) rfl rfl rfl (show Int32.toInt 2 = 2 from rfl) (by omega) (by omega) (fun z25 e25 f25 => ?_)
                        refine tl_i (p2 := 142) (i := 194) (n := 160) rfl rfl I11 rfl rfl rfl rfl (by omega) (by omega) (fun y26 a26 b26 g26 e26 => ?_)
                        refine te_aload_n (p2 := 143) rfl rfl rfl ?_
                        refine tg_r (p2 := 146) (i := 148) (r := 210) rfl rfl I11 rfl rfl rfl ?_
                        refine te_iload (p2 := 148) rfl rfl rfl ?_
                        refine te_iconst (p2 := 149) (x := 3) rfl rfl (by decide) ?_
                        refine ar_add (p2 := 150) rfl rfl rfl (show Int32.toInt 3 = 3 from rfl) (by omega) (by omega) (fun z27 e27 f27 => ?_)
                        refine tl_i (p2 := 151) (i := 194) (n := 160) rfl rfl I11 rfl rfl rfl rfl (by omega) (by omega) (fun y28 a28 b28 g28 e28 => ?_)
                        refine cV_mI (p2 := 154) (i := 148) rfl rfl rfl rfl I11 rfl rfl rfl (t_X12_person (x1 := y22) (x2 := y24) (x3 := y26) (x4 := y28) I11 ) (by decide) (fun y29 h29 I29 g29 r29 => ?_)
                        have f29 := fr_tr (F1 := F_X12_person) (F := F_X12_people) f11 g29 (by decide)
                        refine tz_lt (p2 := 157) rfl rfl rfl (fun c30 => ?_) (fun c30 => ?_)
                        · refine te_iconst (p2 := 162) (x := 0) rfl rfl (by decide) ?_
                          have n31_v11_5 := i32_lo v11_5
                          have o31_v11_5 := i32_hi v11_5
                          refine ar_add (p2 := 163) rfl rfl rfl (show Int32.toInt 0 = 0 from rfl) (by omega) (by omega) (fun z31 e31 f31 => ?_)
                          refine te_istore (p2 := 165) (lv2 := [(5, .int z31), (8, .int z21), (7, .int z14), (0, .ref 164), (1, .int x1), (2, .int x2), (3, .int x3), (4, .int x4), (6, .int v11_6)]) rfl rfl (by decide) rfl ?_
                          refine ar_inc (p2 := 168) (x := v11_6) rfl rfl (by decide) rfl (by decide) rfl (by omega) (by omega) (fun z32 e32 f32 => ?_)
                          show EvP _ _ _ (168, [(6, .int z32), (5, .int z31), (8, .int z21), (7, .int z14), (0, .ref 164), (1, .int x1), (2, .int x2), (3, .int x3), (4, .int x4)], [], h29) _
                          refine te_goto rfl ?_
                          refine te_lv [(0, .ref 164), (1, .int x1), (2, .int x2), (3, .int x3), (4, .int x4), (5, .int z31), (6, .int z32)] rfl rfl ⟨rfl, rfl, rfl, rfl, rfl, rfl, rfl, trivial⟩ ?_
                          exact ih11 z31 z32 h29 I29 f29 (by omega) (by omega) (by omega)
                        · refine te_iconst (p2 := 158) (x := 1) rfl rfl (by decide) ?_
                          refine te_goto rfl ?_
                          refine au_add (p2 := 163) rfl rfl (fun z33 e33 => ?_)
                          refine te_istore (p2 := 165) (lv2 := [(5, .int z33), (8, .int z21), (7, .int z14), (0, .ref 164), (1, .int x1), (2, .int x2), (3, .int x3), (4, .int x4), (6, .int v11_6)]) rfl rfl (by decide) rfl ?_
                          refine ar_inc (p2 := 168) (x := v11_6) rfl rfl (by decide) rfl (by decide) rfl (by omega) (by omega) (fun z34 e34 f34 => ?_)
                          show EvP _ _ _ (168, [(6, .int z34), (5, .int z33), (8, .int z21), (7, .int z14), (0, .ref 164), (1, .int x1), (2, .int x2), (3, .int x3), (4, .int x4)], [], h29) _
                          refine te_goto rfl ?_
                          refine te_lv [(0, .ref 164), (1, .int x1), (2, .int x2), (3, .int x3), (4, .int x4), (5, .int z33), (6, .int z34)] rfl rfl ⟨rfl, rfl, rfl, rfl, rfl, rfl, rfl, trivial⟩ ?_
                          exact ih11 z33 z34 h29 I29 f29 (by omega) (by omega) (by omega)
                      · refine te_bipush (p2 := 104) (x := (-12)) rfl rfl (by decide) ?_
                        exact te_iret rfl rfl ⟨I11, f11, _, rfl, trivial⟩
            refine te_lv [(0, .ref 164), (1, .int x1), (2, .int x2), (3, .int x3), (4, .int x4), (5, .int 0), (6, .int 0)] rfl rfl ⟨rfl, rfl, rfl, rfl, rfl, rfl, rfl, trivial⟩ ?_
            exact lp11 11 0 0 h hI f0 (by decide) (by decide) (by have cc0 := (show Int32.toInt 0 = 0 from rfl); omega)
          · refine te_bipush (p2 := 57) (x := (-13)) rfl rfl (by decide) ?_
            exact te_iret rfl rfl ⟨hI, f0, _, rfl, trivial⟩
        · refine te_bipush (p2 := 44) (x := (-11)) rfl rfl (by decide) ?_
          exact te_iret rfl rfl ⟨hI, f0, _, rfl, trivial⟩
      · subst w5
        have cc5_1 := (show Int32.toInt 0 = 0 from rfl)
        have cc5_2 := (show Int32.toInt 10 = 10 from rfl)
        refine tz_ne (p2 := 29) rfl rfl (show Int32.toInt 0 = 0 from rfl) (fun c35 => absurd c35 (by omega)) (fun c35 => ?_)
        refine te_bipush (p2 := 31) (x := (-2)) rfl rfl (by decide) ?_
        exact te_iret rfl rfl ⟨hI, f0, _, rfl, trivial⟩
    · subst w3
      have cc3_1 := (show Int32.toInt 0 = 0 from rfl)
      have cc3_2 := (show Int32.toInt 2 = 2 from rfl)
      refine tz_eq (p2 := 18) rfl rfl (show Int32.toInt 0 = 0 from rfl) (fun c36 => ?_) (fun c36 => absurd c36 (by omega))
      refine te_bipush (p2 := 31) (x := (-2)) rfl rfl (by decide) ?_
      exact te_iret rfl rfl ⟨hI, f0, _, rfl, trivial⟩
  · subst w1
    have cc1_1 := (show Int32.toInt 0 = 0 from rfl)
    have cc1_2 := (show Int32.toInt 3 = 3 from rfl)
    refine tz_eq (p2 := 9) rfl rfl (show Int32.toInt 0 = 0 from rfl) (fun c37 => ?_) (fun c37 => absurd c37 (by omega))
    refine te_bipush (p2 := 31) (x := (-2)) rfl rfl (by decide) ?_
    exact te_iret rfl rfl ⟨hI, f0, _, rfl, trivial⟩
abbrev F_X12_copy : List (Nat × Nat × Nat) := [(194, 0, 159)]
set_option maxRecDepth 20000 in
set_option maxHeartbeats 4000000 in
theorem t_X12_copy {x1 : Int32} {x2 : Int32} {x3 : Int32} {x4 : Int32} {x5 : Int32} {h : im_H} (hI : tI h)  : CaP 3 193 [.ref 164, .int x1, .int x2, .int x3, .int x4, .int x5] h (mI h F_X12_copy (fun _ => True)) := by
  refine cap_of (d := 2) (M := mX12_copy) rfl (Nat.le_of_ble_eq_true rfl) ?_
  show EvP im_K0 2 mX12_copy (0, [(0, .ref 164), (1, .int x1), (2, .int x2), (3, .int x3), (4, .int x4), (5, .int x5)], [], h) _
  have f0 : fr F_X12_copy h h := fr_rf
  refine te_iload_n (p2 := 1) rfl rfl rfl ?_
  refine te_iconst (p2 := 2) (x := 0) rfl rfl (by decide) ?_
  refine te_iconst (p2 := 3) (x := 3) rfl rfl (by decide) ?_
  refine cS_pI (p2 := 6) rfl rfl rfl rfl (t_X12_in (n := x1) (a := 0) (b := 3) hI ) (by decide) (fun y1 r1 => ?_)
  rcases r1 with ⟨w1, c1⟩ | ⟨w1, c1⟩
  · subst w1
    have cc1_1 := (show Int32.toInt 0 = 0 from rfl)
    have cc1_2 := (show Int32.toInt 3 = 3 from rfl)
    refine tz_eq (p2 := 9) rfl rfl (show Int32.toInt 1 = 1 from rfl) (fun c2 => absurd c2 (by omega)) (fun c2 => ?_)
    refine te_iload_n (p2 := 10) rfl rfl rfl ?_
    refine te_iconst (p2 := 11) (x := 0) rfl rfl (by decide) ?_
    refine te_iconst (p2 := 12) (x := 3) rfl rfl (by decide) ?_
    refine cS_pI (p2 := 15) rfl rfl rfl rfl (t_X12_in (n := x3) (a := 0) (b := 3) hI ) (by decide) (fun y3 r3 => ?_)
    rcases r3 with ⟨w3, c3⟩ | ⟨w3, c3⟩
    · subst w3
      have cc3_1 := (show Int32.toInt 0 = 0 from rfl)
      have cc3_2 := (show Int32.toInt 3 = 3 from rfl)
      refine tz_ne (p2 := 18) rfl rfl (show Int32.toInt 1 = 1 from rfl) (fun c4 => ?_) (fun c4 => absurd c4 (by omega))
      refine te_aload_n (p2 := 22) rfl rfl rfl ?_
      refine tg_r (p2 := 25) (i := 148) (r := 208) rfl rfl hI rfl rfl rfl ?_
      refine te_iload_n (p2 := 26) rfl rfl rfl ?_
      refine tl_i (p2 := 27) (i := 192) (n := 4) rfl rfl hI rfl rfl rfl rfl (by omega) (by omega) (fun y5 a5 b5 g5 e5 => ?_)
      refine te_iconst (p2 := 28) (x := (-1)) rfl rfl (by decide) ?_
      refine tb_eq (p2 := 31) rfl rfl rfl (show Int32.toInt (-1) = (-1) from rfl) (fun c6 => ?_) (fun c6 => ?_)
      · refine te_bipush (p2 := 43) (x := (-11)) rfl rfl (by decide) ?_
        exact te_iret rfl rfl ⟨hI, f0, _, rfl, trivial⟩
      · refine te_aload_n (p2 := 32) rfl rfl rfl ?_
        refine tg_r (p2 := 35) (i := 148) (r := 208) rfl rfl hI rfl rfl rfl ?_
        refine te_iload_n (p2 := 36) rfl rfl rfl ?_
        refine tl_i (p2 := 37) (i := 192) (n := 4) rfl rfl hI rfl rfl rfl rfl (by omega) (by omega) (fun y7 a7 b7 g7 e7 => ?_)
        refine te_iconst (p2 := 38) (x := (-1)) rfl rfl (by decide) ?_
        refine tb_ne (p2 := 41) rfl rfl rfl (show Int32.toInt (-1) = (-1) from rfl) (fun c8 => ?_) (fun c8 => ?_)
        · refine te_aload_n (p2 := 45) rfl rfl rfl ?_
          refine tg_r (p2 := 48) (i := 148) (r := 208) rfl rfl hI rfl rfl rfl ?_
          refine te_iload_n (p2 := 49) rfl rfl rfl ?_
          refine tl_e (p2 := 50) (i := 192) (n := 4) (t := 0) (Or.inl rfl) rfl rfl hI rfl rfl (by omega) (by omega) e5 ?_
          refine te_aload_n (p2 := 51) rfl rfl rfl ?_
          refine tg_r (p2 := 54) (i := 148) (r := 208) rfl rfl hI rfl rfl rfl ?_
          refine te_iload_n (p2 := 55) rfl rfl rfl ?_
          refine tl_e (p2 := 56) (i := 192) (n := 4) (t := 0) (Or.inl rfl) rfl rfl hI rfl rfl (by omega) (by omega) e7 ?_
          refine tb_eq (p2 := 59) rfl rfl rfl rfl (fun c11 => ?_) (fun c11 => ?_)
          · refine te_iload (p2 := 64) rfl rfl rfl ?_
            refine tz_lt (p2 := 67) rfl rfl rfl (fun c12 => ?_) (fun c12 => ?_)
            · refine te_bipush (p2 := 126) (x := (-12)) rfl rfl (by decide) ?_
              exact te_iret rfl rfl ⟨hI, f0, _, rfl, trivial⟩
            · refine te_iload_n (p2 := 68) rfl rfl rfl ?_
              refine tz_lt (p2 := 71) rfl rfl rfl (fun c13 => ?_) (fun c13 => ?_)
              · refine te_bipush (p2 := 126) (x := (-12)) rfl rfl (by decide) ?_
                exact te_iret rfl rfl ⟨hI, f0, _, rfl, trivial⟩
              · refine te_iload (p2 := 73) rfl rfl rfl ?_
                refine tz_lt (p2 := 76) rfl rfl rfl (fun c14 => ?_) (fun c14 => ?_)
                · refine te_bipush (p2 := 126) (x := (-12)) rfl rfl (by decide) ?_
                  exact te_iret rfl rfl ⟨hI, f0, _, rfl, trivial⟩
                · refine te_iload_n (p2 := 77) rfl rfl rfl ?_
                  refine te_aload_n (p2 := 78) rfl rfl rfl ?_
                  refine tg_r (p2 := 81) (i := 148) (r := 209) rfl rfl hI rfl rfl rfl ?_
                  refine te_iload_n (p2 := 82) rfl rfl rfl ?_
                  refine tl_i (p2 := 83) (i := 193) (n := 4) rfl rfl hI rfl rfl rfl rfl (by omega) (by omega) (fun y15 a15 b15 g15 e15 => ?_)
                  refine tb_gt (p2 := 86) rfl rfl rfl rfl (fun c16 => ?_) (fun c16 => ?_)
                  · refine te_bipush (p2 := 126) (x := (-12)) rfl rfl (by decide) ?_
                    exact te_iret rfl rfl ⟨hI, f0, _, rfl, trivial⟩
                  · refine te_iload (p2 := 88) rfl rfl rfl ?_
                    refine te_aload_n (p2 := 89) rfl rfl rfl ?_
                    refine tg_r (p2 := 92) (i := 148) (r := 209) rfl rfl hI rfl rfl rfl ?_
                    refine te_iload_n (p2 := 93) rfl rfl rfl ?_
                    refine tl_i (p2 := 94) (i := 193) (n := 4) rfl rfl hI rfl rfl rfl rfl (by omega) (by omega) (fun y17 a17 b17 g17 e17 => ?_)
                    refine tb_gt (p2 := 97) rfl rfl rfl rfl (fun c18 => ?_) (fun c18 => ?_)
                    · refine te_bipush (p2 := 126) (x := (-12)) rfl rfl (by decide) ?_
                      exact te_iret rfl rfl ⟨hI, f0, _, rfl, trivial⟩
                    · refine te_iload (p2 := 99) rfl rfl rfl ?_
                      refine te_aload_n (p2 := 100) rfl rfl rfl ?_
                      refine tg_r (p2 := 103) (i := 148) (r := 209) rfl rfl hI rfl rfl rfl ?_
                      refine te_iload_n (p2 := 104) rfl rfl rfl ?_
                      refine tl_e (p2 := 105) (i := 193) (n := 4) (t := 0) (Or.inl rfl) rfl rfl hI rfl rfl (by omega) (by omega) e15 ?_
                      refine te_iload_n (p2 := 106) rfl rfl rfl ?_
                      refine ar_sub (p2 := 107) rfl rfl rfl rfl (by omega) (by omega) (fun z20 e20 f20 => ?_)
                      refine tb_gt (p2 := 110) rfl rfl rfl rfl (fun c21 => ?_) (fun c21 => ?_)
                      · refine te_bipush (p2 := 126) (x := (-12)) rfl rfl (by decide) ?_
                        exact te_iret rfl rfl ⟨hI, f0, _, rfl, trivial⟩
                      · refine te_iload (p2 := 112) rfl rfl rfl ?_
                        refine te_aload_n (p2 := 113) rfl rfl rfl ?_
                        refine tg_r (p2 := 116) (i := 148) (r := 209) rfl rfl hI rfl rfl rfl ?_
                        refine te_iload_n (p2 := 117) rfl rfl rfl ?_
                        refine tl_e (p2 := 118) (i := 193) (n := 4) (t := 0) (Or.inl rfl) rfl rfl hI rfl rfl (by omega) (by omega) e17 ?_
                        refine te_iload (p2 := 120) rfl rfl rfl ?_
                        refine ar_sub (p2 := 121) rfl rfl rfl rfl (by omega) (by omega) (fun z23 e23 f23 => ?_)
                        refine tb_le (p2 := 124) rfl rfl rfl rfl (fun c24 => ?_) (fun c24 => ?_)
                        · refine te_bipush (p2 := 129) (x := 40) rfl rfl (by decide) ?_
                          refine te_iload_n (p2 := 130) rfl rfl rfl ?_
                          refine ar_mul (p2 := 131) rfl rfl (show Int32.toInt 40 = 40 from rfl) rfl (by omega) (by omega) (fun z25 e25 f25 => ?_)
                          refine te_iload_n (p2 := 132) rfl rfl rfl ?_
                          refine ar_add (p2 := 133) rfl rfl rfl rfl (by omega) (by omega) (fun z26 e26 f26 => ?_)
                          refine te_istore (p2 := 135) (lv2 := [(6, .int z26), (0, .ref 164), (1, .int x1), (2, .int x2), (3, .int x3), (4, .int x4), (5, .int x5)]) rfl rfl (by decide) rfl ?_
                          refine te_bipush (p2 := 137) (x := 40) rfl rfl (by decide) ?_
                          refine te_iload_n (p2 := 138) rfl rfl rfl ?_
                          refine ar_mul (p2 := 139) rfl rfl (show Int32.toInt 40 = 40 from rfl) rfl (by omega) (by omega) (fun z27 e27 f27 => ?_)
                          refine te_iload (p2 := 141) rfl rfl rfl ?_
                          refine ar_add (p2 := 142) rfl rfl rfl rfl (by omega) (by omega) (fun z28 e28 f28 => ?_)
                          refine te_istore (p2 := 144) (lv2 := [(7, .int z28), (6, .int z26), (0, .ref 164), (1, .int x1), (2, .int x2), (3, .int x3), (4, .int x4), (5, .int x5)]) rfl rfl (by decide) rfl ?_
                          refine te_iconst (p2 := 145) (x := 0) rfl rfl (by decide) ?_
                          refine te_istore (p2 := 147) (lv2 := [(8, .int 0), (7, .int z28), (6, .int z26), (0, .ref 164), (1, .int x1), (2, .int x2), (3, .int x3), (4, .int x4), (5, .int x5)]) rfl rfl (by decide) rfl ?_
                          have lp29 : ∀ (n29 : Nat) (v29_8 : Int32) (h29 : im_H), tI h29 → fr F_X12_copy h h29 → 0 ≤ v29_8.toInt → v29_8.toInt ≤ 40 → v29_8.toInt ≤ x5.toInt → x5.toInt - v29_8.toInt < (n29 : Int) → EvP im_K0 2 mX12_copy (147, [(0, .ref 164), (1, .int x1), (2, .int x2), (3, .int x3), (4, .int x4), (5, .int x5), (6, .int z26), (7, .int z28), (8, .int v29_8)], [], h29) (mI h F_X12_copy (fun _ => True)) := by
                            intro n29
                            induction n29 with
                            | zero => intro v29_8 h29 I29 f29 a29_8 b29_8 l29_0 m29; exfalso; omega
                            | succ n29 ih29 =>
                              intro v29_8 h29 I29 f29 a29_8 b29_8 l29_0 m29
                              refine te_iload (p2 := 149) rfl rfl rfl ?_
                              refine te_iload (p2 := 151) rfl rfl rfl ?_
                              refine tb_ge (p2 := 154) rfl rfl rfl rfl (fun c30 => ?_) (fun c30 => ?_)
                              · refine te_iload (p2 := 203) rfl rfl rfl ?_
                                exact te_iret rfl rfl ⟨I29, f29, _, rfl, trivial⟩
                              · refine te_iload (p2 := 156) rfl rfl rfl ?_
                                refine te_iload (p2 := 158) rfl rfl rfl ?_
                                refine tb_ge (p2 := 161) rfl rfl rfl rfl (fun c31 => ?_) (fun c31 => ?_)
                                · refine te_iload (p2 := 173) rfl rfl rfl ?_
                                  refine te_istore (p2 := 175) (lv2 := [(9, .int v29_8), (0, .ref 164), (1, .int x1), (2, .int x2), (3, .int x3), (4, .int x4), (5, .int x5), (6, .int z26), (7, .int z28), (8, .int v29_8)]) rfl rfl (by decide) rfl ?_
                                  refine te_aload_n (p2 := 176) rfl rfl rfl ?_
                                  refine tg_r (p2 := 179) (i := 148) (r := 210) rfl rfl I29 rfl rfl rfl ?_
                                  refine te_iload (p2 := 181) rfl rfl rfl ?_
                                  refine te_iload (p2 := 183) rfl rfl rfl ?_
                                  refine ar_add (p2 := 184) rfl rfl rfl rfl (by omega) (by omega) (fun z32 e32 f32 => ?_)
                                  refine te_aload_n (p2 := 185) rfl rfl rfl ?_
                                  refine tg_r (p2 := 188) (i := 148) (r := 210) rfl rfl I29 rfl rfl rfl ?_
                                  refine te_iload (p2 := 190) rfl rfl rfl ?_
                                  refine te_iload (p2 := 192) rfl rfl rfl ?_
                                  refine ar_add (p2 := 193) rfl rfl rfl rfl (by omega) (by omega) (fun z33 e33 f33 => ?_)
                                  refine tl_i (p2 := 194) (i := 194) (n := 160) rfl rfl I29 rfl rfl rfl rfl (by omega) (by omega) (fun y34 a34 b34 g34 e34 => ?_)
                                  refine ts_i (p2 := 195) (i := 194) (n := 160) rfl rfl I29 rfl rfl rfl rfl (by omega) (by omega) (i32_lo _) (i32_hi _) (i32_ho _) rfl (fun h35 I35 u35 => ?_)
                                  have f35 := fr_st (F := F_X12_copy) 0 f29 u35 rfl (by omega) (by omega)
                                  refine ar_inc (p2 := 198) (x := v29_8) rfl rfl (by decide) rfl (by decide) rfl (by omega) (by omega) (fun z36 e36 f36 => ?_)
                                  show EvP _ _ _ (198, [(8, .int z36), (9, .int v29_8), (0, .ref 164), (1, .int x1), (2, .int x2), (3, .int x3), (4, .int x4), (5, .int x5), (6, .int z26), (7, .int z28)], [], h35) _
                                  refine te_goto rfl ?_
                                  refine te_lv [(0, .ref 164), (1, .int x1), (2, .int x2), (3, .int x3), (4, .int x4), (5, .int x5), (6, .int z26), (7, .int z28), (8, .int z36)] rfl rfl ⟨rfl, rfl, rfl, rfl, rfl, rfl, rfl, rfl, rfl, trivial⟩ ?_
                                  exact ih29 z36 h35 I35 f35 (by omega) (by omega) (by omega) (by omega)
                                · refine te_iload (p2 := 163) rfl rfl rfl ?_
                                  refine te_iconst (p2 := 164) (x := 1) rfl rfl (by decide) ?_
                                  refine ar_sub (p2 := 165) rfl rfl rfl (show Int32.toInt 1 = 1 from rfl) (by omega) (by omega) (fun z37 e37 f37 => ?_)
                                  refine te_iload (p2 := 167) rfl rfl rfl ?_
                                  refine ar_sub (p2 := 168) rfl rfl rfl rfl (by omega) (by omega) (fun z38 e38 f38 => ?_)
                                  refine te_goto rfl ?_
                                  refine te_istore (p2 := 175) (lv2 := [(9, .int z38), (0, .ref 164), (1, .int x1), (2, .int x2), (3, .int x3), (4, .int x4), (5, .int x5), (6, .int z26), (7, .int z28), (8, .int v29_8)]) rfl rfl (by decide) rfl ?_
                                  refine te_aload_n (p2 := 176) rfl rfl rfl ?_
                                  refine tg_r (p2 := 179) (i := 148) (r := 210) rfl rfl I29 rfl rfl rfl ?_
                                  refine te_iload (p2 := 181) rfl rfl rfl ?_
                                  refine te_iload (p2 := 183) rfl rfl rfl ?_
                                  refine ar_add (p2 := 184) rfl rfl rfl rfl (by omega) (by omega) (fun z39 e39 f39 => ?_)
                                  refine te_aload_n (p2 := 185) rfl rfl rfl ?_
                                  refine tg_r (p2 := 188) (i := 148) (r := 210) rfl rfl I29 rfl rfl rfl ?_
                                  refine te_iload (p2 := 190) rfl rfl rfl ?_
                                  refine te_iload (p2 := 192) rfl rfl rfl ?_
                                  refine ar_add (p2 := 193) rfl rfl rfl rfl (by omega) (by omega) (fun z40 e40 f40 => ?_)
                                  refine tl_i (p2 := 194) (i := 194) (n := 160) rfl rfl I29 rfl rfl rfl rfl (by omega) (by omega) (fun y41 a41 b41 g41 e41 => ?_)
                                  refine ts_i (p2 := 195) (i := 194) (n := 160) rfl rfl I29 rfl rfl rfl rfl (by omega) (by omega) (i32_lo _) (i32_hi _) (i32_ho _) rfl (fun h42 I42 u42 => ?_)
                                  have f42 := fr_st (F := F_X12_copy) 0 f29 u42 rfl (by omega) (by omega)
                                  refine ar_inc (p2 := 198) (x := v29_8) rfl rfl (by decide) rfl (by decide) rfl (by omega) (by omega) (fun z43 e43 f43 => ?_)
                                  show EvP _ _ _ (198, [(8, .int z43), (9, .int z38), (0, .ref 164), (1, .int x1), (2, .int x2), (3, .int x3), (4, .int x4), (5, .int x5), (6, .int z26), (7, .int z28)], [], h42) _
                                  refine te_goto rfl ?_
                                  refine te_lv [(0, .ref 164), (1, .int x1), (2, .int x2), (3, .int x3), (4, .int x4), (5, .int x5), (6, .int z26), (7, .int z28), (8, .int z43)] rfl rfl ⟨rfl, rfl, rfl, rfl, rfl, rfl, rfl, rfl, rfl, trivial⟩ ?_
                                  exact ih29 z43 h42 I42 f42 (by omega) (by omega) (by omega) (by omega)
                          refine te_lv [(0, .ref 164), (1, .int x1), (2, .int x2), (3, .int x3), (4, .int x4), (5, .int x5), (6, .int z26), (7, .int z28), (8, .int 0)] rfl rfl ⟨rfl, rfl, rfl, rfl, rfl, rfl, rfl, rfl, rfl, trivial⟩ ?_
                          exact lp29 41 0 h hI f0 (by decide) (by decide) (by have cc0 := (show Int32.toInt 0 = 0 from rfl); omega) (by have cc0 := (show Int32.toInt 0 = 0 from rfl); omega)
                        · refine te_bipush (p2 := 126) (x := (-12)) rfl rfl (by decide) ?_
                          exact te_iret rfl rfl ⟨hI, f0, _, rfl, trivial⟩
          · refine te_bipush (p2 := 61) (x := (-13)) rfl rfl (by decide) ?_
            exact te_iret rfl rfl ⟨hI, f0, _, rfl, trivial⟩
        · refine te_bipush (p2 := 43) (x := (-11)) rfl rfl (by decide) ?_
          exact te_iret rfl rfl ⟨hI, f0, _, rfl, trivial⟩
    · subst w3
      have cc3_1 := (show Int32.toInt 0 = 0 from rfl)
      have cc3_2 := (show Int32.toInt 3 = 3 from rfl)
      refine tz_ne (p2 := 18) rfl rfl (show Int32.toInt 0 = 0 from rfl) (fun c44 => absurd c44 (by omega)) (fun c44 => ?_)
      refine te_bipush (p2 := 20) (x := (-2)) rfl rfl (by decide) ?_
      exact te_iret rfl rfl ⟨hI, f0, _, rfl, trivial⟩
  · subst w1
    have cc1_1 := (show Int32.toInt 0 = 0 from rfl)
    have cc1_2 := (show Int32.toInt 3 = 3 from rfl)
    refine tz_eq (p2 := 9) rfl rfl (show Int32.toInt 0 = 0 from rfl) (fun c45 => ?_) (fun c45 => absurd c45 (by omega))
    refine te_bipush (p2 := 20) (x := (-2)) rfl rfl (by decide) ?_
    exact te_iret rfl rfl ⟨hI, f0, _, rfl, trivial⟩
abbrev F_X11_feed : List (Nat × Nat × Nat) := [(65, 1, 1), (66, 0, 159)]
set_option maxRecDepth 20000 in
set_option maxHeartbeats 4000000 in
theorem t_X11_feed {w : Int64} {n : Int32} {h : im_H} (hI : tI h)  : CaP 2 72 [.ref 16, .long w, .int n] h (mI h F_X11_feed (fun _ => True)) := by
  refine cap_of (d := 1) (M := mX11_feed) rfl (Nat.le_of_ble_eq_true rfl) ?_
  show EvP im_K0 1 mX11_feed (0, [(0, .ref 16), (1, .long w), (3, .int n)], [], h) _
  have f0 : fr F_X11_feed h h := fr_rf
  refine te_iload_n (p2 := 1) rfl rfl rfl ?_
  refine te_iconst (p2 := 2) (x := 1) rfl rfl (by decide) ?_
  refine te_bipush (p2 := 4) (x := 8) rfl rfl (by decide) ?_
  refine cS_pI (p2 := 7) rfl rfl rfl rfl (t_X11_between (n := n) (a := 1) (b := 8) hI ) (by decide) (fun y1 r1 => ?_)
  rcases r1 with ⟨w1, c1⟩ | ⟨w1, c1⟩
  · subst w1
    have cc1_1 := (show Int32.toInt 1 = 1 from rfl)
    have cc1_2 := (show Int32.toInt 8 = 8 from rfl)
    refine tz_ne (p2 := 10) rfl rfl (show Int32.toInt 1 = 1 from rfl) (fun c2 => ?_) (fun c2 => absurd c2 (by omega))
    refine te_aload_n (p2 := 14) rfl rfl rfl ?_
    refine tg_r (p2 := 17) (i := 0) (r := 81) rfl rfl hI rfl rfl rfl ?_
    refine tg_i (p2 := 20) (i := 65) rfl rfl hI rfl rfl rfl (fun y3 a3 b3 e3 => ?_)
    refine te_iload_n (p2 := 21) rfl rfl rfl ?_
    refine ar_add (p2 := 22) rfl rfl rfl rfl (by omega) (by omega) (fun z4 e4 f4 => ?_)
    refine te_sipush (p2 := 25) (x := 160) rfl rfl (by decide) ?_
    refine tb_le (p2 := 28) rfl rfl rfl (show Int32.toInt 160 = 160 from rfl) (fun c5 => ?_) (fun c5 => ?_)
    · refine te_iload_n (p2 := 32) rfl rfl rfl ?_
      refine te_iconst (p2 := 33) (x := 1) rfl rfl (by decide) ?_
      refine ar_sub (p2 := 34) rfl rfl rfl (show Int32.toInt 1 = 1 from rfl) (by omega) (by omega) (fun z6 e6 f6 => ?_)
      refine te_istore (p2 := 36) (lv2 := [(4, .int z6), (0, .ref 16), (1, .long w), (3, .int n)]) rfl rfl (by decide) rfl ?_
      have lp7 : ∀ (n7 : Nat) (v7_4 t7_t : Int32) (h7 : im_H), tI h7 → fr F_X11_feed h h7 → (-1) ≤ v7_4.toInt → v7_4.toInt ≤ 7 → rd h7 65 1 = some (.int t7_t) → 0 ≤ t7_t.toInt → t7_t.toInt ≤ 160 → t7_t.toInt + v7_4.toInt + 1 ≤ 160 → v7_4.toInt + 1 < (n7 : Int) → EvP im_K0 1 mX11_feed (36, [(0, .ref 16), (1, .long w), (3, .int n), (4, .int v7_4)], [], h7) (mI h F_X11_feed (fun _ => True)) := by
        intro n7
        induction n7 with
        | zero => intro v7_4 t7_t h7 I7 f7 a7_4 b7_4 v7_t va7_t vb7_t l7_0 m7; exfalso; omega
        | succ n7 ih7 =>
          intro v7_4 t7_t h7 I7 f7 a7_4 b7_4 v7_t va7_t vb7_t l7_0 m7
          refine te_iload (p2 := 38) rfl rfl rfl ?_
          refine tz_lt (p2 := 41) rfl rfl rfl (fun c8 => ?_) (fun c8 => ?_)
          · refine te_aload_n (p2 := 88) rfl rfl rfl ?_
            refine tg_r (p2 := 91) (i := 0) (r := 81) rfl rfl I7 rfl rfl rfl ?_
            refine tg_e (p2 := 94) (i := 65) (v := .int t7_t) rfl rfl I7 rfl rfl v7_t ?_
            exact te_iret rfl rfl ⟨I7, f7, _, rfl, trivial⟩
          · refine te_aload_n (p2 := 42) rfl rfl rfl ?_
            refine tg_r (p2 := 45) (i := 0) (r := 81) rfl rfl I7 rfl rfl rfl ?_
            refine tg_r (p2 := 48) (i := 65) (r := 82) rfl rfl I7 rfl rfl rfl ?_
            refine te_aload_n (p2 := 49) rfl rfl rfl ?_
            refine tg_r (p2 := 52) (i := 0) (r := 81) rfl rfl I7 rfl rfl rfl ?_
            refine tg_e (p2 := 55) (i := 65) (v := .int t7_t) rfl rfl I7 rfl rfl v7_t ?_
            refine te_lload_n (p2 := 56) rfl rfl rfl ?_
            refine te_bipush (p2 := 58) (x := 8) rfl rfl (by decide) ?_
            refine te_iload (p2 := 60) rfl rfl rfl ?_
            refine ar_mul (p2 := 61) rfl rfl (show Int32.toInt 8 = 8 from rfl) rfl (by omega) (by omega) (fun z9 e9 f9 => ?_)
            refine te_lshr (p2 := 62) (z := (w >>> (Int32.toInt64 z9 &&& 63))) rfl rfl rfl ?_
            obtain ⟨z10, e10⟩ : ∃ z, (Int64.toInt32 (w >>> (Int32.toInt64 z9 &&& 63))) = z := ⟨_, rfl⟩
            refine te_l2i (p2 := 63) rfl rfl e10 ?_
            refine te_sipush (p2 := 66) (x := 255) rfl rfl (by decide) ?_
            refine au_and (p2 := 67) rfl rfl (fun z11 e11 => ?_)
            refine ts_i (p2 := 68) (i := 66) (n := 160) rfl rfl I7 rfl rfl rfl rfl (by omega) (by omega) (i32_lo _) (i32_hi _) (i32_ho _) rfl (fun h12 I12 u12 => ?_)
            have f12 := fr_st (F := F_X11_feed) 1 f7 u12 rfl (by omega) (by omega)
            refine te_aload_n (p2 := 69) rfl rfl rfl ?_
            refine tg_r (p2 := 72) (i := 0) (r := 81) rfl rfl I12 rfl rfl rfl ?_
            refine te_dup (p2 := 73) rfl rfl rfl ?_
            refine tg_e (p2 := 76) (i := 65) (v := .int t7_t) rfl rfl I12 rfl rfl ((u12.2 _ _ (Or.inl (by decide))).trans v7_t) ?_
            refine te_iconst (p2 := 77) (x := 1) rfl rfl (by decide) ?_
            refine ar_add (p2 := 78) rfl rfl rfl (show Int32.toInt 1 = 1 from rfl) (by omega) (by omega) (fun z13 e13 f13 => ?_)
            refine tp_i (p2 := 81) (i := 65) rfl rfl I12 rfl rfl (by decide) rfl rfl rfl (by omega) (by omega) (by omega) rfl (fun h14 I14 u14 => ?_)
            have f14 := fr_st (F := F_X11_feed) 0 f12 u14 rfl (by decide) (by decide)
            refine ar_inc (p2 := 84) (x := v7_4) rfl rfl (by decide) rfl (by decide) rfl (by omega) (by omega) (fun z15 e15 f15 => ?_)
            show EvP _ _ _ (84, [(4, .int z15), (0, .ref 16), (1, .long w), (3, .int n)], [], h14) _
            refine te_goto rfl ?_
            refine te_lv [(0, .ref 16), (1, .long w), (3, .int n), (4, .int z15)] rfl rfl ⟨rfl, rfl, rfl, rfl, trivial⟩ ?_
            exact ih7 z15 z13 h14 I14 f14 (by omega) (by omega) u14.1 (by omega) (by omega) (by omega) (by omega)
      refine te_lv [(0, .ref 16), (1, .long w), (3, .int n), (4, .int z6)] rfl rfl ⟨rfl, rfl, rfl, rfl, trivial⟩ ?_
      exact lp7 9 z6 y3 h hI f0 (by omega) (by omega) e3 (by omega) (by omega) (by omega) (by omega)
    · refine te_bipush (p2 := 30) (x := (-4)) rfl rfl (by decide) ?_
      exact te_iret rfl rfl ⟨hI, f0, _, rfl, trivial⟩
  · subst w1
    have cc1_1 := (show Int32.toInt 1 = 1 from rfl)
    have cc1_2 := (show Int32.toInt 8 = 8 from rfl)
    refine tz_ne (p2 := 10) rfl rfl (show Int32.toInt 0 = 0 from rfl) (fun c16 => absurd c16 (by omega)) (fun c16 => ?_)
    refine te_bipush (p2 := 12) (x := (-2)) rfl rfl (by decide) ?_
    exact te_iret rfl rfl ⟨hI, f0, _, rfl, trivial⟩
abbrev F_X12_feed : List (Nat × Nat × Nat) := [(148, 45, 45), (184, 0, 159)]
set_option maxRecDepth 20000 in
set_option maxHeartbeats 4000000 in
theorem t_X12_feed {w : Int64} {n : Int32} {h : im_H} (hI : tI h)  : CaP 2 134 [.ref 164, .long w, .int n] h (mI h F_X12_feed (fun _ => True)) := by
  refine cap_of (d := 1) (M := mX12_feed) rfl (Nat.le_of_ble_eq_true rfl) ?_
  show EvP im_K0 1 mX12_feed (0, [(0, .ref 164), (1, .long w), (3, .int n)], [], h) _
  have f0 : fr F_X12_feed h h := fr_rf
  refine te_iload_n (p2 := 1) rfl rfl rfl ?_
  refine te_iconst (p2 := 2) (x := 1) rfl rfl (by decide) ?_
  refine te_bipush (p2 := 4) (x := 8) rfl rfl (by decide) ?_
  refine cS_pI (p2 := 7) rfl rfl rfl rfl (t_X12_in (n := n) (a := 1) (b := 8) hI ) (by decide) (fun y1 r1 => ?_)
  rcases r1 with ⟨w1, c1⟩ | ⟨w1, c1⟩
  · subst w1
    have cc1_1 := (show Int32.toInt 1 = 1 from rfl)
    have cc1_2 := (show Int32.toInt 8 = 8 from rfl)
    refine tz_ne (p2 := 10) rfl rfl (show Int32.toInt 1 = 1 from rfl) (fun c2 => ?_) (fun c2 => absurd c2 (by omega))
    refine te_aload_n (p2 := 14) rfl rfl rfl ?_
    refine tg_i (p2 := 17) (i := 148) rfl rfl hI rfl rfl rfl (fun y3 a3 b3 e3 => ?_)
    refine te_iload_n (p2 := 18) rfl rfl rfl ?_
    refine ar_add (p2 := 19) rfl rfl rfl rfl (by omega) (by omega) (fun z4 e4 f4 => ?_)
    refine te_sipush (p2 := 22) (x := 160) rfl rfl (by decide) ?_
    refine tb_le (p2 := 25) rfl rfl rfl (show Int32.toInt 160 = 160 from rfl) (fun c5 => ?_) (fun c5 => ?_)
    · refine te_iload_n (p2 := 29) rfl rfl rfl ?_
      refine te_iconst (p2 := 30) (x := 1) rfl rfl (by decide) ?_
      refine ar_sub (p2 := 31) rfl rfl rfl (show Int32.toInt 1 = 1 from rfl) (by omega) (by omega) (fun z6 e6 f6 => ?_)
      refine te_istore (p2 := 33) (lv2 := [(4, .int z6), (0, .ref 164), (1, .long w), (3, .int n)]) rfl rfl (by decide) rfl ?_
      have lp7 : ∀ (n7 : Nat) (v7_4 t7_t : Int32) (h7 : im_H), tI h7 → fr F_X12_feed h h7 → (-1) ≤ v7_4.toInt → v7_4.toInt ≤ 7 → rd h7 148 45 = some (.int t7_t) → 0 ≤ t7_t.toInt → t7_t.toInt ≤ 160 → t7_t.toInt + v7_4.toInt + 1 ≤ 160 → v7_4.toInt + 1 < (n7 : Int) → EvP im_K0 1 mX12_feed (33, [(0, .ref 164), (1, .long w), (3, .int n), (4, .int v7_4)], [], h7) (mI h F_X12_feed (fun _ => True)) := by
        intro n7
        induction n7 with
        | zero => intro v7_4 t7_t h7 I7 f7 a7_4 b7_4 v7_t va7_t vb7_t l7_0 m7; exfalso; omega
        | succ n7 ih7 =>
          intro v7_4 t7_t h7 I7 f7 a7_4 b7_4 v7_t va7_t vb7_t l7_0 m7
          refine te_iload (p2 := 35) rfl rfl rfl ?_
          refine tz_lt (p2 := 38) rfl rfl rfl (fun c8 => ?_) (fun c8 => ?_)
          · refine te_aload_n (p2 := 76) rfl rfl rfl ?_
            refine tg_e (p2 := 79) (i := 148) (v := .int t7_t) rfl rfl I7 rfl rfl v7_t ?_
            exact te_iret rfl rfl ⟨I7, f7, _, rfl, trivial⟩
          · refine te_aload_n (p2 := 39) rfl rfl rfl ?_
            refine tg_r (p2 := 42) (i := 148) (r := 200) rfl rfl I7 rfl rfl rfl ?_
            refine te_aload_n (p2 := 43) rfl rfl rfl ?_
            refine tg_e (p2 := 46) (i := 148) (v := .int t7_t) rfl rfl I7 rfl rfl v7_t ?_
            refine te_lload_n (p2 := 47) rfl rfl rfl ?_
            refine te_bipush (p2 := 49) (x := 8) rfl rfl (by decide) ?_
            refine te_iload (p2 := 51) rfl rfl rfl ?_
            refine ar_mul (p2 := 52) rfl rfl (show Int32.toInt 8 = 8 from rfl) rfl (by omega) (by omega) (fun z9 e9 f9 => ?_)
            refine te_lshr (p2 := 53) (z := (w >>> (Int32.toInt64 z9 &&& 63))) rfl rfl rfl ?_
            refine te_ldc2 (p2 := 56) (x := 255) rfl rfl rfl ?_
            refine te_land (p2 := 57) (z := ((w >>> (Int32.toInt64 z9 &&& 63)) &&& 255)) rfl rfl rfl ?_
            obtain ⟨z10, e10⟩ : ∃ z, (Int64.toInt32 ((w >>> (Int32.toInt64 z9 &&& 63)) &&& 255)) = z := ⟨_, rfl⟩
            refine te_l2i (p2 := 58) rfl rfl e10 ?_
            refine ts_i (p2 := 59) (i := 184) (n := 160) rfl rfl I7 rfl rfl rfl rfl (by omega) (by omega) (i32_lo _) (i32_hi _) (i32_ho _) rfl (fun h11 I11 u11 => ?_)
            have f11 := fr_st (F := F_X12_feed) 1 f7 u11 rfl (by omega) (by omega)
            refine te_aload_n (p2 := 60) rfl rfl rfl ?_
            refine te_dup (p2 := 61) rfl rfl rfl ?_
            refine tg_e (p2 := 64) (i := 148) (v := .int t7_t) rfl rfl I11 rfl rfl ((u11.2 _ _ (Or.inl (by decide))).trans v7_t) ?_
            refine te_iconst (p2 := 65) (x := 1) rfl rfl (by decide) ?_
            refine ar_add (p2 := 66) rfl rfl rfl (show Int32.toInt 1 = 1 from rfl) (by omega) (by omega) (fun z12 e12 f12 => ?_)
            refine tp_i (p2 := 69) (i := 148) rfl rfl I11 rfl rfl (by decide) rfl rfl rfl (by omega) (by omega) (by omega) rfl (fun h13 I13 u13 => ?_)
            have f13 := fr_st (F := F_X12_feed) 0 f11 u13 rfl (by decide) (by decide)
            refine ar_inc (p2 := 72) (x := v7_4) rfl rfl (by decide) rfl (by decide) rfl (by omega) (by omega) (fun z14 e14 f14 => ?_)
            show EvP _ _ _ (72, [(4, .int z14), (0, .ref 164), (1, .long w), (3, .int n)], [], h13) _
            refine te_goto rfl ?_
            refine te_lv [(0, .ref 164), (1, .long w), (3, .int n), (4, .int z14)] rfl rfl ⟨rfl, rfl, rfl, rfl, trivial⟩ ?_
            exact ih7 z14 z12 h13 I13 f13 (by omega) (by omega) u13.1 (by omega) (by omega) (by omega) (by omega)
      refine te_lv [(0, .ref 164), (1, .long w), (3, .int n), (4, .int z6)] rfl rfl ⟨rfl, rfl, rfl, rfl, trivial⟩ ?_
      exact lp7 9 z6 y3 h hI f0 (by omega) (by omega) e3 (by omega) (by omega) (by omega) (by omega)
    · refine te_bipush (p2 := 27) (x := (-4)) rfl rfl (by decide) ?_
      exact te_iret rfl rfl ⟨hI, f0, _, rfl, trivial⟩
  · subst w1
    have cc1_1 := (show Int32.toInt 1 = 1 from rfl)
    have cc1_2 := (show Int32.toInt 8 = 8 from rfl)
    refine tz_ne (p2 := 10) rfl rfl (show Int32.toInt 0 = 0 from rfl) (fun c15 => absurd c15 (by omega)) (fun c15 => ?_)
    refine te_bipush (p2 := 12) (x := (-2)) rfl rfl (by decide) ?_
    exact te_iret rfl rfl ⟨hI, f0, _, rfl, trivial⟩
abbrev F_X4_begin : List (Nat × Nat × Nat) := [(77, 0, 0), (79, 0, 9), (80, 0, 9), (81, 0, 9), (82, 0, 9), (83, 0, 9), (84, 0, 9), (85, 0, 9), (86, 0, 9), (87, 0, 7), (88, 0, 7), (89, 0, 7)]
set_option maxRecDepth 20000 in
set_option maxHeartbeats 4000000 in
theorem t_X4_begin {frm : Int32} {side : Int32} {most : Int32} {shells : Int32} {h : im_H} (hI : tI h) (p_frm0 : 0 ≤ frm.toInt) (p_frm1 : frm.toInt ≤ 99) (p_side0 : 0 ≤ side.toInt) (p_side1 : side.toInt ≤ 3) (p_most0 : 1 ≤ most.toInt) (p_most1 : most.toInt ≤ 10) (p_shells0 : 1 ≤ shells.toInt) (p_shells1 : shells.toInt ≤ 9) (hp0 : ∃ p : Int32, rd h 77 0 = some (.int p) ∧ 0 ≤ p.toInt ∧ p.toInt ≤ 7) : CaP 2 29 [.ref 93, .int frm, .int side, .int most, .int shells] h (mI h F_X4_begin (fun _ => True)) := by
  refine cap_of (d := 1) (M := mX4_begin) rfl (Nat.le_of_ble_eq_true rfl) ?_
  show EvP im_K0 1 mX4_begin (0, [(0, .ref 93), (1, .int frm), (2, .int side), (3, .int most), (4, .int shells)], [], h) _
  obtain ⟨pp0, ep0, ap0, bp0⟩ := hp0
  have f0 : fr F_X4_begin h h := fr_rf
  refine te_aload_n (p2 := 1) rfl rfl rfl ?_
  refine tg_e (p2 := 4) (i := 77) (v := .int pp0) rfl rfl hI rfl rfl ep0 ?_
  refine te_istore (p2 := 6) (lv2 := [(5, .int pp0), (0, .ref 93), (1, .int frm), (2, .int side), (3, .int most), (4, .int shells)]) rfl rfl (by decide) rfl ?_
  refine te_iload_n (p2 := 7) rfl rfl rfl ?_
  refine te_istore (p2 := 9) (lv2 := [(6, .int frm), (5, .int pp0), (0, .ref 93), (1, .int frm), (2, .int side), (3, .int most), (4, .int shells)]) rfl rfl (by decide) rfl ?_
  refine te_aload_n (p2 := 10) rfl rfl rfl ?_
  refine tg_r (p2 := 13) (i := 77) (r := 103) rfl rfl hI rfl rfl rfl ?_
  refine te_iload (p2 := 15) rfl rfl rfl ?_
  refine te_iconst (p2 := 16) (x := 0) rfl rfl (by decide) ?_
  refine ts_i (p2 := 17) (i := 87) (n := 8) rfl rfl hI rfl rfl rfl rfl (by omega) (by omega) (by decide) (by decide) (by decide) rfl (fun h1 I1 u1 => ?_)
  have f1 := fr_st (F := F_X4_begin) 9 f0 u1 rfl (by omega) (by omega)
  refine te_aload_n (p2 := 18) rfl rfl rfl ?_
  refine tg_r (p2 := 21) (i := 77) (r := 105) rfl rfl I1 rfl rfl rfl ?_
  refine te_iload (p2 := 23) rfl rfl rfl ?_
  refine te_iconst (p2 := 24) (x := 0) rfl rfl (by decide) ?_
  refine ts_i (p2 := 25) (i := 89) (n := 8) rfl rfl I1 rfl rfl rfl rfl (by omega) (by omega) (i32_lo _) (i32_hi _) (i32_ho _) rfl (fun h2 I2 u2 => ?_)
  have f2 := fr_st (F := F_X4_begin) 11 f1 u2 rfl (by omega) (by omega)
  refine te_iconst (p2 := 26) (x := 0) rfl rfl (by decide) ?_
  refine te_istore (p2 := 28) (lv2 := [(7, .int 0), (6, .int frm), (5, .int pp0), (0, .ref 93), (1, .int frm), (2, .int side), (3, .int most), (4, .int shells)]) rfl rfl (by decide) rfl ?_
  have lp3 : ∀ (n3 : Nat) (v3_6 v3_7 t3_t t3_c : Int32) (h3 : im_H), tI h3 → fr F_X4_begin h h3 → (-1) ≤ v3_6.toInt → v3_6.toInt ≤ 99 → 0 ≤ v3_7.toInt → v3_7.toInt ≤ 10 → rd h3 87 pp0.toInt.toNat = some (.int t3_t) → rd h3 77 0 = some (.int t3_c) → 0 ≤ t3_t.toInt → t3_t.toInt ≤ 10 → 0 ≤ t3_c.toInt → t3_c.toInt ≤ 8 → t3_t.toInt = v3_7.toInt → v3_7.toInt ≤ most.toInt → t3_c.toInt ≤ 7 → 10 - v3_7.toInt < (n3 : Int) → EvP im_K0 1 mX4_begin (28, [(0, .ref 93), (1, .int frm), (2, .int side), (3, .int most), (4, .int shells), (5, .int pp0), (6, .int v3_6), (7, .int v3_7)], [], h3) (mI h F_X4_begin (fun _ => True)) := by
    intro n3
    induction n3 with
    | zero => intro v3_6 v3_7 t3_t t3_c h3 I3 f3 a3_6 b3_6 a3_7 b3_7 v3_t v3_c va3_t vb3_t va3_c vb3_c l3_0 l3_1 l3_2 m3; exfalso; omega
    | succ n3 ih3 =>
      intro v3_6 v3_7 t3_t t3_c h3 I3 f3 a3_6 b3_6 a3_7 b3_7 v3_t v3_c va3_t vb3_t va3_c vb3_c l3_0 l3_1 l3_2 m3
      refine te_iload (p2 := 30) rfl rfl rfl ?_
      refine te_iload_n (p2 := 31) rfl rfl rfl ?_
      refine tb_ge (p2 := 34) rfl rfl rfl rfl (fun c4 => ?_) (fun c4 => ?_)
      · refine te_aload_n (p2 := 103) rfl rfl rfl ?_
        refine tg_r (p2 := 106) (i := 77) (r := 104) rfl rfl I3 rfl rfl rfl ?_
        refine te_iload (p2 := 108) rfl rfl rfl ?_
        refine te_iload (p2 := 110) rfl rfl rfl ?_
        refine ts_i (p2 := 111) (i := 88) (n := 8) rfl rfl I3 rfl rfl rfl rfl (by omega) (by omega) (by omega) (by omega) (by omega) rfl (fun h5 I5 u5 => ?_)
        have f5 := fr_st (F := F_X4_begin) 10 f3 u5 rfl (by omega) (by omega)
        refine te_aload_n (p2 := 112) rfl rfl rfl ?_
        refine te_dup (p2 := 113) rfl rfl rfl ?_
        refine tg_e (p2 := 116) (i := 77) (v := .int t3_c) rfl rfl I5 rfl rfl ((u5.2 _ _ (Or.inl (by decide))).trans v3_c) ?_
        refine te_iconst (p2 := 117) (x := 1) rfl rfl (by decide) ?_
        refine ar_add (p2 := 118) rfl rfl rfl (show Int32.toInt 1 = 1 from rfl) (by omega) (by omega) (fun z6 e6 f6 => ?_)
        refine tp_i (p2 := 121) (i := 77) rfl rfl I5 rfl rfl (by decide) rfl rfl rfl (by omega) (by omega) (by omega) rfl (fun h7 I7 u7 => ?_)
        have f7 := fr_st (F := F_X4_begin) 0 f5 u7 rfl (by decide) (by decide)
        refine te_iload (p2 := 123) rfl rfl rfl ?_
        exact te_iret rfl rfl ⟨I7, f7, _, rfl, trivial⟩
      · refine te_iload (p2 := 36) rfl rfl rfl ?_
        refine te_iconst (p2 := 37) (x := (-1)) rfl rfl (by decide) ?_
        refine tb_eq (p2 := 40) rfl rfl rfl (show Int32.toInt (-1) = (-1) from rfl) (fun c8 => ?_) (fun c8 => ?_)
        · refine te_aload_n (p2 := 103) rfl rfl rfl ?_
          refine tg_r (p2 := 106) (i := 77) (r := 104) rfl rfl I3 rfl rfl rfl ?_
          refine te_iload (p2 := 108) rfl rfl rfl ?_
          refine te_iload (p2 := 110) rfl rfl rfl ?_
          refine ts_i (p2 := 111) (i := 88) (n := 8) rfl rfl I3 rfl rfl rfl rfl (by omega) (by omega) (by omega) (by omega) (by omega) rfl (fun h9 I9 u9 => ?_)
          have f9 := fr_st (F := F_X4_begin) 10 f3 u9 rfl (by omega) (by omega)
          refine te_aload_n (p2 := 112) rfl rfl rfl ?_
          refine te_dup (p2 := 113) rfl rfl rfl ?_
          refine tg_e (p2 := 116) (i := 77) (v := .int t3_c) rfl rfl I9 rfl rfl ((u9.2 _ _ (Or.inl (by decide))).trans v3_c) ?_
          refine te_iconst (p2 := 117) (x := 1) rfl rfl (by decide) ?_
          refine ar_add (p2 := 118) rfl rfl rfl (show Int32.toInt 1 = 1 from rfl) (by omega) (by omega) (fun z10 e10 f10 => ?_)
          refine tp_i (p2 := 121) (i := 77) rfl rfl I9 rfl rfl (by decide) rfl rfl rfl (by omega) (by omega) (by omega) rfl (fun h11 I11 u11 => ?_)
          have f11 := fr_st (F := F_X4_begin) 0 f9 u11 rfl (by decide) (by decide)
          refine te_iload (p2 := 123) rfl rfl rfl ?_
          exact te_iret rfl rfl ⟨I11, f11, _, rfl, trivial⟩
        · refine te_aload_n (p2 := 41) rfl rfl rfl ?_
          refine tg_r (p2 := 44) (i := 77) (r := 94) rfl rfl I3 rfl rfl rfl ?_
          refine te_iload (p2 := 46) rfl rfl rfl ?_
          refine tl_f (p2 := 47) (i := 78) (n := 8) (c0 := 79) (sp := 1) rfl rfl I3 rfl rfl (by decide) rq_78 (by omega) (by omega) (fun o12 w12 => ?_)
          have q12 : o12 = 79 ∨ o12 = 80 ∨ o12 = 81 ∨ o12 = 82 ∨ o12 = 83 ∨ o12 = 84 ∨ o12 = 85 ∨ o12 = 86 := by omega
          refine te_iload (p2 := 49) rfl rfl rfl ?_
          refine te_iload (p2 := 51) rfl rfl rfl ?_
          refine ts_i (p2 := 52) (i := o12) (n := 10) rfl rfl I3 rfl (by rcases q12 with rfl | rfl | rfl | rfl | rfl | rfl | rfl | rfl <;> rfl) (by rcases q12 with rfl | rfl | rfl | rfl | rfl | rfl | rfl | rfl <;> rfl) rfl (by omega) (by omega) (by omega) (by omega) (by omega) (by rcases q12 with rfl | rfl | rfl | rfl | rfl | rfl | rfl | rfl <;> rfl) (fun h13 I13 u13 => ?_)
          have f13 := fr_up (F := F_X4_begin) (a := 0) (b := 9) f3 u13 (by rcases q12 with rfl | rfl | rfl | rfl | rfl | rfl | rfl | rfl <;> decide) (by omega) (by omega)
          refine te_aload_n (p2 := 53) rfl rfl rfl ?_
          refine tg_r (p2 := 56) (i := 77) (r := 103) rfl rfl I13 rfl rfl rfl ?_
          refine te_iload (p2 := 58) rfl rfl rfl ?_
          refine te_dup2 (p2 := 59) rfl rfl ⟨rfl, rfl⟩ ?_
          refine tl_e (p2 := 60) (i := 87) (n := 8) (t := 0) (Or.inl rfl) rfl rfl I13 rfl rfl (by omega) (by omega) ((u13.2 _ _ (Or.inl (by omega))).trans v3_t) ?_
          refine te_iconst (p2 := 61) (x := 1) rfl rfl (by decide) ?_
          refine ar_add (p2 := 62) rfl rfl rfl (show Int32.toInt 1 = 1 from rfl) (by omega) (by omega) (fun z15 e15 f15 => ?_)
          refine ts_i (p2 := 63) (i := 87) (n := 8) rfl rfl I13 rfl rfl rfl rfl (by omega) (by omega) (by omega) (by omega) (by omega) rfl (fun h16 I16 u16 => ?_)
          have f16 := fr_st (F := F_X4_begin) 9 f13 u16 rfl (by omega) (by omega)
          refine te_aload_n (p2 := 64) rfl rfl rfl ?_
          refine tg_r (p2 := 67) (i := 77) (r := 105) rfl rfl I16 rfl rfl rfl ?_
          refine te_iload (p2 := 69) rfl rfl rfl ?_
          refine te_dup2 (p2 := 70) rfl rfl ⟨rfl, rfl⟩ ?_
          refine tl_i (p2 := 71) (i := 89) (n := 8) rfl rfl I16 rfl rfl rfl rfl (by omega) (by omega) (fun y17 a17 b17 g17 e17 => ?_)
          refine te_aload_n (p2 := 72) rfl rfl rfl ?_
          refine tg_r (p2 := 75) (i := 77) (r := 106) rfl rfl I16 rfl rfl rfl ?_
          refine te_iload (p2 := 77) rfl rfl rfl ?_
          refine tl_b (p2 := 78) (i := 90) (n := 100) rfl rfl I16 rfl rfl rfl rfl (by omega) (by omega) (fun y18 a18 e18 => ?_)
          refine tz_eq (p2 := 81) rfl rfl rfl (fun c19 => ?_) (fun c19 => ?_)
          · refine te_iconst (p2 := 86) (x := 1) rfl rfl (by decide) ?_
            refine au_add (p2 := 87) rfl rfl (fun z20 e20 => ?_)
            refine ts_i (p2 := 88) (i := 89) (n := 8) rfl rfl I16 rfl rfl rfl rfl (by omega) (by omega) (i32_lo _) (i32_hi _) (i32_ho _) rfl (fun h21 I21 u21 => ?_)
            have f21 := fr_st (F := F_X4_begin) 11 f16 u21 rfl (by omega) (by omega)
            refine te_iload (p2 := 90) rfl rfl rfl ?_
            refine te_iload_n (p2 := 91) rfl rfl rfl ?_
            refine cS_pI (p2 := 94) rfl rfl rfl rfl (t_X11_cellOnSide (c := v3_6) (side := side) I21 (by omega) (by omega)) (by decide) (fun y22 r22 => ?_)
            obtain ⟨a22, b22, e22⟩ := r22
            refine te_istore (p2 := 96) (lv2 := [(6, .int y22), (0, .ref 93), (1, .int frm), (2, .int side), (3, .int most), (4, .int shells), (5, .int pp0), (7, .int v3_7)]) rfl rfl (by decide) rfl ?_
            refine ar_inc (p2 := 99) (x := v3_7) rfl rfl (by decide) rfl (by decide) rfl (by omega) (by omega) (fun z23 e23 f23 => ?_)
            show EvP _ _ _ (99, [(7, .int z23), (6, .int y22), (0, .ref 93), (1, .int frm), (2, .int side), (3, .int most), (4, .int shells), (5, .int pp0)], [], h21) _
            refine te_goto rfl ?_
            refine te_lv [(0, .ref 93), (1, .int frm), (2, .int side), (3, .int most), (4, .int shells), (5, .int pp0), (6, .int y22), (7, .int z23)] rfl rfl ⟨rfl, rfl, rfl, rfl, rfl, rfl, rfl, rfl, trivial⟩ ?_
            exact ih3 y22 z23 z15 t3_c h21 I21 f21 (by omega) (by omega) (by omega) (by omega) ((u21.2 _ _ (Or.inl (by decide))).trans u16.1) ((u21.2 _ _ (Or.inl (by decide))).trans ((u16.2 _ _ (Or.inl (by decide))).trans ((u13.2 _ _ (Or.inl (by omega))).trans v3_c))) (by omega) (by omega) (by omega) (by omega) (by omega) (by omega) (by omega) (by omega)
          · refine te_iconst (p2 := 82) (x := 0) rfl rfl (by decide) ?_
            refine te_goto rfl ?_
            have n24_y17 := i32_lo y17
            have o24_y17 := i32_hi y17
            refine ar_add (p2 := 87) rfl rfl rfl (show Int32.toInt 0 = 0 from rfl) (by omega) (by omega) (fun z24 e24 f24 => ?_)
            refine ts_i (p2 := 88) (i := 89) (n := 8) rfl rfl I16 rfl rfl rfl rfl (by omega) (by omega) (i32_lo _) (i32_hi _) (i32_ho _) rfl (fun h25 I25 u25 => ?_)
            have f25 := fr_st (F := F_X4_begin) 11 f16 u25 rfl (by omega) (by omega)
            refine te_iload (p2 := 90) rfl rfl rfl ?_
            refine te_iload_n (p2 := 91) rfl rfl rfl ?_
            refine cS_pI (p2 := 94) rfl rfl rfl rfl (t_X11_cellOnSide (c := v3_6) (side := side) I25 (by omega) (by omega)) (by decide) (fun y26 r26 => ?_)
            obtain ⟨a26, b26, e26⟩ := r26
            refine te_istore (p2 := 96) (lv2 := [(6, .int y26), (0, .ref 93), (1, .int frm), (2, .int side), (3, .int most), (4, .int shells), (5, .int pp0), (7, .int v3_7)]) rfl rfl (by decide) rfl ?_
            refine ar_inc (p2 := 99) (x := v3_7) rfl rfl (by decide) rfl (by decide) rfl (by omega) (by omega) (fun z27 e27 f27 => ?_)
            show EvP _ _ _ (99, [(7, .int z27), (6, .int y26), (0, .ref 93), (1, .int frm), (2, .int side), (3, .int most), (4, .int shells), (5, .int pp0)], [], h25) _
            refine te_goto rfl ?_
            refine te_lv [(0, .ref 93), (1, .int frm), (2, .int side), (3, .int most), (4, .int shells), (5, .int pp0), (6, .int y26), (7, .int z27)] rfl rfl ⟨rfl, rfl, rfl, rfl, rfl, rfl, rfl, rfl, trivial⟩ ?_
            exact ih3 y26 z27 z15 t3_c h25 I25 f25 (by omega) (by omega) (by omega) (by omega) ((u25.2 _ _ (Or.inl (by decide))).trans u16.1) ((u25.2 _ _ (Or.inl (by decide))).trans ((u16.2 _ _ (Or.inl (by decide))).trans ((u13.2 _ _ (Or.inl (by omega))).trans v3_c))) (by omega) (by omega) (by omega) (by omega) (by omega) (by omega) (by omega) (by omega)
  refine te_lv [(0, .ref 93), (1, .int frm), (2, .int side), (3, .int most), (4, .int shells), (5, .int pp0), (6, .int frm), (7, .int 0)] rfl rfl ⟨rfl, rfl, rfl, rfl, rfl, rfl, rfl, rfl, trivial⟩ ?_
  exact lp3 11 frm 0 0 pp0 h2 I2 f2 (by omega) (by omega) (by decide) (by decide) ((u2.2 _ _ (Or.inl (by decide))).trans u1.1) ((u2.2 _ _ (Or.inl (by decide))).trans ((u1.2 _ _ (Or.inl (by decide))).trans ep0)) (by decide) (by decide) (by omega) (by omega) (by have cc0 := (show Int32.toInt 0 = 0 from rfl); omega) (by have cc0 := (show Int32.toInt 0 = 0 from rfl); omega) (by have cc0 := (show Int32.toInt 0 = 0 from rfl); omega) (by have cc0 := (show Int32.toInt 0 = 0 from rfl); omega)
abbrev F_X11_raid : List (Nat × Nat × Nat) := [(77, 0, 0), (79, 0, 9), (80, 0, 9), (81, 0, 9), (82, 0, 9), (83, 0, 9), (84, 0, 9), (85, 0, 9), (86, 0, 9), (87, 0, 7), (88, 0, 7), (89, 0, 7)]
set_option maxRecDepth 20000 in
set_option maxHeartbeats 4000000 in
theorem t_X11_raid {x1 : Int32} {x2 : Int32} {x3 : Int32} {x4 : Int32} {h : im_H} (hI : tI h)  : CaP 3 92 [.ref 16, .int x1, .int x2, .int x3, .int x4] h (mI h F_X11_raid (fun _ => True)) := by
  refine cap_of (d := 2) (M := mX11_raid) rfl (Nat.le_of_ble_eq_true rfl) ?_
  show EvP im_K0 2 mX11_raid (0, [(0, .ref 16), (1, .int x1), (2, .int x2), (3, .int x3), (4, .int x4)], [], h) _
  have f0 : fr F_X11_raid h h := fr_rf
  refine te_iload_n (p2 := 1) rfl rfl rfl ?_
  refine te_bipush (p2 := 3) (x := 100) rfl rfl (by decide) ?_
  refine cS_pI (p2 := 6) rfl rfl rfl rfl (t_X11_within (n := x1) (b := 100) hI ) (by decide) (fun y1 r1 => ?_)
  rcases r1 with ⟨w1, c1⟩ | ⟨w1, c1⟩
  · subst w1
    have cc1_1 := (show Int32.toInt 100 = 100 from rfl)
    refine tz_ne (p2 := 9) rfl rfl (show Int32.toInt 1 = 1 from rfl) (fun c2 => ?_) (fun c2 => absurd c2 (by omega))
    refine te_iload_n (p2 := 12) rfl rfl rfl ?_
    refine te_iconst (p2 := 13) (x := 4) rfl rfl (by decide) ?_
    refine cS_pI (p2 := 16) rfl rfl rfl rfl (t_X11_within (n := x2) (b := 4) hI ) (by decide) (fun y3 r3 => ?_)
    rcases r3 with ⟨w3, c3⟩ | ⟨w3, c3⟩
    · subst w3
      have cc3_1 := (show Int32.toInt 4 = 4 from rfl)
      refine tz_eq (p2 := 19) rfl rfl (show Int32.toInt 1 = 1 from rfl) (fun c4 => absurd c4 (by omega)) (fun c4 => ?_)
      refine te_iload_n (p2 := 20) rfl rfl rfl ?_
      refine te_iconst (p2 := 21) (x := 1) rfl rfl (by decide) ?_
      refine te_bipush (p2 := 23) (x := 10) rfl rfl (by decide) ?_
      refine cS_pI (p2 := 26) rfl rfl rfl rfl (t_X11_between (n := x3) (a := 1) (b := 10) hI ) (by decide) (fun y5 r5 => ?_)
      rcases r5 with ⟨w5, c5⟩ | ⟨w5, c5⟩
      · subst w5
        have cc5_1 := (show Int32.toInt 1 = 1 from rfl)
        have cc5_2 := (show Int32.toInt 10 = 10 from rfl)
        refine tz_eq (p2 := 29) rfl rfl (show Int32.toInt 1 = 1 from rfl) (fun c6 => absurd c6 (by omega)) (fun c6 => ?_)
        refine te_iload (p2 := 31) rfl rfl rfl ?_
        refine te_iconst (p2 := 32) (x := 1) rfl rfl (by decide) ?_
        refine te_bipush (p2 := 34) (x := 9) rfl rfl (by decide) ?_
        refine cS_pI (p2 := 37) rfl rfl rfl rfl (t_X11_between (n := x4) (a := 1) (b := 9) hI ) (by decide) (fun y7 r7 => ?_)
        rcases r7 with ⟨w7, c7⟩ | ⟨w7, c7⟩
        · subst w7
          have cc7_1 := (show Int32.toInt 1 = 1 from rfl)
          have cc7_2 := (show Int32.toInt 9 = 9 from rfl)
          refine tz_ne (p2 := 40) rfl rfl (show Int32.toInt 1 = 1 from rfl) (fun c8 => ?_) (fun c8 => absurd c8 (by omega))
          refine te_aload_n (p2 := 44) rfl rfl rfl ?_
          refine tg_r (p2 := 47) (i := 0) (r := 93) rfl rfl hI rfl rfl rfl ?_
          refine tg_i (p2 := 50) (i := 77) rfl rfl hI rfl rfl rfl (fun y9 a9 b9 e9 => ?_)
          refine te_bipush (p2 := 52) (x := 8) rfl rfl (by decide) ?_
          refine tb_lt (p2 := 55) rfl rfl rfl (show Int32.toInt 8 = 8 from rfl) (fun c10 => ?_) (fun c10 => ?_)
          · refine te_aload_n (p2 := 59) rfl rfl rfl ?_
            refine tg_r (p2 := 62) (i := 0) (r := 93) rfl rfl hI rfl rfl rfl ?_
            refine te_iload_n (p2 := 63) rfl rfl rfl ?_
            refine te_iload_n (p2 := 64) rfl rfl rfl ?_
            refine te_iload_n (p2 := 65) rfl rfl rfl ?_
            refine te_iload (p2 := 67) rfl rfl rfl ?_
            refine cV_mI (p2 := 70) (i := 77) rfl rfl rfl rfl hI rfl rfl rfl (t_X4_begin (frm := x1) (side := x2) (most := x3) (shells := x4) hI (by omega) (by omega) (by omega) (by omega) (by omega) (by omega) (by omega) (by omega) ⟨y9, e9, by omega, by omega⟩) (by decide) (fun y11 h11 I11 g11 r11 => ?_)
            have f11 := fr_tr (F1 := F_X4_begin) (F := F_X11_raid) f0 g11 (by decide)
            exact te_iret rfl rfl ⟨I11, f11, _, rfl, trivial⟩
          · refine te_bipush (p2 := 57) (x := (-4)) rfl rfl (by decide) ?_
            exact te_iret rfl rfl ⟨hI, f0, _, rfl, trivial⟩
        · subst w7
          have cc7_1 := (show Int32.toInt 1 = 1 from rfl)
          have cc7_2 := (show Int32.toInt 9 = 9 from rfl)
          refine tz_ne (p2 := 40) rfl rfl (show Int32.toInt 0 = 0 from rfl) (fun c12 => absurd c12 (by omega)) (fun c12 => ?_)
          refine te_bipush (p2 := 42) (x := (-2)) rfl rfl (by decide) ?_
          exact te_iret rfl rfl ⟨hI, f0, _, rfl, trivial⟩
      · subst w5
        have cc5_1 := (show Int32.toInt 1 = 1 from rfl)
        have cc5_2 := (show Int32.toInt 10 = 10 from rfl)
        refine tz_eq (p2 := 29) rfl rfl (show Int32.toInt 0 = 0 from rfl) (fun c13 => ?_) (fun c13 => absurd c13 (by omega))
        refine te_bipush (p2 := 42) (x := (-2)) rfl rfl (by decide) ?_
        exact te_iret rfl rfl ⟨hI, f0, _, rfl, trivial⟩
    · subst w3
      have cc3_1 := (show Int32.toInt 4 = 4 from rfl)
      refine tz_eq (p2 := 19) rfl rfl (show Int32.toInt 0 = 0 from rfl) (fun c14 => ?_) (fun c14 => absurd c14 (by omega))
      refine te_bipush (p2 := 42) (x := (-2)) rfl rfl (by decide) ?_
      exact te_iret rfl rfl ⟨hI, f0, _, rfl, trivial⟩
  · subst w1
    have cc1_1 := (show Int32.toInt 100 = 100 from rfl)
    refine tz_ne (p2 := 9) rfl rfl (show Int32.toInt 0 = 0 from rfl) (fun c15 => absurd c15 (by omega)) (fun c15 => ?_)
    refine te_iconst (p2 := 10) (x := (-1)) rfl rfl (by decide) ?_
    exact te_iret rfl rfl ⟨hI, f0, _, rfl, trivial⟩
