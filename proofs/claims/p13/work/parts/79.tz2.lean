set_option maxRecDepth 10000 in
set_option maxHeartbeats 2000000 in
theorem lk_ops {l : List Int32} {n : Nat} {i : Int32} {h : im_H} {Q : Option Value → im_H → Prop} (hi : i.toInt = n) (hl : n + 6 ≤ l.length) (hb : l.length < 2147483648) (hI : tI h) (hr : rel h) (kx : ∀ h2, tI h2 → rel h2 → EvP (im_K1 l) 20 mL_law (1753, lwL i, [], h2) Q) : EvP (im_K1 l) 20 mL_law (27, lwL i, [], h) Q := by
  refine te_aload_n (p2 := 28) rfl rfl rfl ?_
  refine te_iload_n (p2 := 29) rfl rfl rfl ?_
  refine evp (fun r => st_isld (R := 5) (l := l) (x := l.getD n 0) rfl (by decide) rfl (in_at rfl (by omega) (by omega)) (by rw [clamp_of_toInt hi])) ?_
  show EvP _ _ _ (30, _, _, _) _
  refine te_bipush (p2 := 32) (x := 63) rfl rfl (by decide) ?_
  obtain ⟨z, hz⟩ : ∃ z, l.getD n 0 &&& 63 = z := ⟨_, rfl⟩
  refine te_iand (p2 := 33) (z := z) rfl rfl hz ?_
  by_cases e0 : z.toInt = 0
  · refine te_tsIn (k := 0) (p2 := 228) rfl e0 (by decide) (by decide) rfl (by decide) ?_
    exact lq_ruin hi hl hb hI (fun h1 h2 I2 g1 g2 => kx h2 I2 (⟨(R_T_fr (R_T_fr hr.1 g1 rfl rfl) g2 rfl rfl), (R_W_fr (R_W_fr hr.2.1 g1 (fun _ => rfl) (fun _ => rfl)) g2 (fun _ => rfl) (fun _ => rfl)), (R_C_fr (R_C_fr hr.2.2.1 g1 rfl rfl) g2 rfl rfl), (R_B_fr (R_B_fr hr.2.2.2.1 g1 (fun _ => rfl) (fun _ => rfl)) g2 (fun _ => rfl) (fun _ => rfl)), (R_R_fr (R_R_fr hr.2.2.2.2 g1 rfl rfl) g2 rfl rfl)⟩))
  by_cases e1 : z.toInt = 1
  · refine te_tsIn (k := 1) (p2 := 271) rfl e1 (by decide) (by decide) rfl (by decide) ?_
    exact lq_person hi hl hb hI (fun h1 h2 I2 g1 g2 => kx h2 I2 (⟨(R_T_fr (R_T_fr hr.1 g1 rfl rfl) g2 rfl rfl), (R_W_fr (R_W_fr hr.2.1 g1 (fun _ => rfl) (fun _ => rfl)) g2 (fun _ => rfl) (fun _ => rfl)), (R_C_fr (R_C_fr hr.2.2.1 g1 rfl rfl) g2 rfl rfl), (R_B_fr (R_B_fr hr.2.2.2.1 g1 (fun _ => rfl) (fun _ => rfl)) g2 (fun _ => rfl) (fun _ => rfl)), (R_R_fr (R_R_fr hr.2.2.2.2 g1 rfl rfl) g2 rfl rfl)⟩))
  by_cases e2 : z.toInt = 2
  · refine te_tsIn (k := 2) (p2 := 324) rfl e2 (by decide) (by decide) rfl (by decide) ?_
    exact lq_moves hi hl hb hI (fun h1 h2 I2 g1 g2 => kx h2 I2 (⟨(R_T_fr (R_T_fr hr.1 g1 rfl rfl) g2 rfl rfl), (R_W_fr (R_W_fr hr.2.1 g1 (fun _ => rfl) (fun _ => rfl)) g2 (fun _ => rfl) (fun _ => rfl)), (R_C_fr (R_C_fr hr.2.2.1 g1 rfl rfl) g2 rfl rfl), (R_B_fr (R_B_fr hr.2.2.2.1 g1 (fun _ => rfl) (fun _ => rfl)) g2 (fun _ => rfl) (fun _ => rfl)), (R_R_fr (R_R_fr hr.2.2.2.2 g1 rfl rfl) g2 rfl rfl)⟩))
  by_cases e3 : z.toInt = 3
  · refine te_tsIn (k := 3) (p2 := 357) rfl e3 (by decide) (by decide) rfl (by decide) ?_
    exact lq_wall hi hl hb hI (fun h1 h2 I2 g1 g2 => kx h2 I2 (⟨(R_T_fr (R_T_fr hr.1 g1 rfl rfl) g2 rfl rfl), (R_W_fr (R_W_fr hr.2.1 g1 (fun _ => rfl) (fun _ => rfl)) g2 (fun _ => rfl) (fun _ => rfl)), (R_C_fr (R_C_fr hr.2.2.1 g1 rfl rfl) g2 rfl rfl), (R_B_fr (R_B_fr hr.2.2.2.1 g1 (fun _ => rfl) (fun _ => rfl)) g2 (fun _ => rfl) (fun _ => rfl)), (R_R_fr (R_R_fr hr.2.2.2.2 g1 rfl rfl) g2 rfl rfl)⟩))
  by_cases e4 : z.toInt = 4
  · refine te_tsIn (k := 4) (p2 := 400) rfl e4 (by decide) (by decide) rfl (by decide) ?_
    exact lq_weather hi hl hb hI (fun h1 h2 I2 g1 g2 => kx h2 I2 (⟨(R_T_fr (R_T_fr hr.1 g1 rfl rfl) g2 rfl rfl), (R_W_fr (R_W_fr hr.2.1 g1 (fun _ => rfl) (fun _ => rfl)) g2 (fun _ => rfl) (fun _ => rfl)), (R_C_fr (R_C_fr hr.2.2.1 g1 rfl rfl) g2 rfl rfl), (R_B_fr (R_B_fr hr.2.2.2.1 g1 (fun _ => rfl) (fun _ => rfl)) g2 (fun _ => rfl) (fun _ => rfl)), (R_R_fr (R_R_fr hr.2.2.2.2 g1 rfl rfl) g2 rfl rfl)⟩))
  by_cases e5 : z.toInt = 5
  · refine te_tsIn (k := 5) (p2 := 433) rfl e5 (by decide) (by decide) rfl (by decide) ?_
    exact lq_tip hi hl hb hI (fun h1 h2 I2 g1 g2 => kx h2 I2 (⟨(R_T_fr (R_T_fr hr.1 g1 rfl rfl) g2 rfl rfl), (R_W_fr (R_W_fr hr.2.1 g1 (fun _ => rfl) (fun _ => rfl)) g2 (fun _ => rfl) (fun _ => rfl)), (R_C_fr (R_C_fr hr.2.2.1 g1 rfl rfl) g2 rfl rfl), (R_B_fr (R_B_fr hr.2.2.2.1 g1 (fun _ => rfl) (fun _ => rfl)) g2 (fun _ => rfl) (fun _ => rfl)), (R_R_fr (R_R_fr hr.2.2.2.2 g1 rfl rfl) g2 rfl rfl)⟩))
  by_cases e6 : z.toInt = 6
  · refine te_tsIn (k := 6) (p2 := 456) rfl e6 (by decide) (by decide) rfl (by decide) ?_
    exact lq_row hi hl hb hI (fun h1 h2 I2 g1 g2 => kx h2 I2 (⟨(R_T_fr (R_T_fr hr.1 g1 rfl rfl) g2 rfl rfl), (R_W_fr (R_W_fr hr.2.1 g1 (fun _ => rfl) (fun _ => rfl)) g2 (fun _ => rfl) (fun _ => rfl)), (R_C_fr (R_C_fr hr.2.2.1 g1 rfl rfl) g2 rfl rfl), (R_B_fr (R_B_fr hr.2.2.2.1 g1 (fun _ => rfl) (fun _ => rfl)) g2 (fun _ => rfl) (fun _ => rfl)), (R_R_fr (R_R_fr hr.2.2.2.2 g1 rfl rfl) g2 rfl rfl)⟩))
  by_cases e7 : z.toInt = 7
  · refine te_tsIn (k := 7) (p2 := 509) rfl e7 (by decide) (by decide) rfl (by decide) ?_
    exact lq_rail hi hl hb hI (fun h1 h2 I2 g1 g2 => kx h2 I2 (⟨(R_T_fr (R_T_fr hr.1 g1 rfl rfl) g2 rfl rfl), (R_W_fr (R_W_fr hr.2.1 g1 (fun _ => rfl) (fun _ => rfl)) g2 (fun _ => rfl) (fun _ => rfl)), (R_C_fr (R_C_fr hr.2.2.1 g1 rfl rfl) g2 rfl rfl), (R_B_fr (R_B_fr hr.2.2.2.1 g1 (fun _ => rfl) (fun _ => rfl)) g2 (fun _ => rfl) (fun _ => rfl)), (R_R_fr (R_R_fr hr.2.2.2.2 g1 rfl rfl) g2 rfl rfl)⟩))
  by_cases e8 : z.toInt = 8
  · refine te_tsIn (k := 8) (p2 := 552) rfl e8 (by decide) (by decide) rfl (by decide) ?_
    exact lq_room hi hl hb hI (fun h1 h2 I2 g1 g2 => kx h2 I2 (⟨(R_T_fr (R_T_fr hr.1 g1 rfl rfl) g2 rfl rfl), (R_W_fr (R_W_fr hr.2.1 g1 (fun _ => rfl) (fun _ => rfl)) g2 (fun _ => rfl) (fun _ => rfl)), (R_C_fr (R_C_fr hr.2.2.1 g1 rfl rfl) g2 rfl rfl), (R_B_fr (R_B_fr hr.2.2.2.1 g1 (fun _ => rfl) (fun _ => rfl)) g2 (fun _ => rfl) (fun _ => rfl)), (R_R_fr (R_R_fr hr.2.2.2.2 g1 rfl rfl) g2 rfl rfl)⟩))
  by_cases e9 : z.toInt = 9
  · refine te_tsIn (k := 9) (p2 := 605) rfl e9 (by decide) (by decide) rfl (by decide) ?_
    exact lq_feed hi hl hb hI hr kx
  by_cases e10 : z.toInt = 10
  · refine te_tsIn (k := 10) (p2 := 668) rfl e10 (by decide) (by decide) rfl (by decide) ?_
    exact lq_order hi hl hb hI hr kx
  by_cases e11 : z.toInt = 11
  · refine te_tsIn (k := 11) (p2 := 681) rfl e11 (by decide) (by decide) rfl (by decide) ?_
    exact lq_force hi hl hb hI hr kx
  by_cases e12 : z.toInt = 12
  · refine te_tsIn (k := 12) (p2 := 704) rfl e12 (by decide) (by decide) rfl (by decide) ?_
    exact lq_says hi hl hb hI (fun h1 h2 I2 g1 g2 => kx h2 I2 (⟨(R_T_fr (R_T_fr hr.1 g1 rfl rfl) g2 rfl rfl), (R_W_fr (R_W_fr hr.2.1 g1 (fun _ => rfl) (fun _ => rfl)) g2 (fun _ => rfl) (fun _ => rfl)), (R_C_fr (R_C_fr hr.2.2.1 g1 rfl rfl) g2 rfl rfl), (R_B_fr (R_B_fr hr.2.2.2.1 g1 (fun _ => rfl) (fun _ => rfl)) g2 (fun _ => rfl) (fun _ => rfl)), (R_R_fr (R_R_fr hr.2.2.2.2 g1 rfl rfl) g2 rfl rfl)⟩))
  by_cases e13 : z.toInt = 13
  · refine te_tsIn (k := 13) (p2 := 737) rfl e13 (by decide) (by decide) rfl (by decide) ?_
    exact lq_run hi hl hb hI (fun h1 h2 I2 g1 g2 => kx h2 I2 (⟨(R_T_fr (R_T_fr hr.1 g1 rfl rfl) g2 rfl rfl), (R_W_fr (R_W_fr hr.2.1 g1 (fun _ => rfl) (fun _ => rfl)) g2 (fun _ => rfl) (fun _ => rfl)), (R_C_fr (R_C_fr hr.2.2.1 g1 rfl rfl) g2 rfl rfl), (R_B_fr (R_B_fr hr.2.2.2.1 g1 (fun _ => rfl) (fun _ => rfl)) g2 (fun _ => rfl) (fun _ => rfl)), (R_R_fr (R_R_fr hr.2.2.2.2 g1 rfl rfl) g2 rfl rfl)⟩))
  by_cases e14 : z.toInt = 14
  · refine te_tsIn (k := 14) (p2 := 760) rfl e14 (by decide) (by decide) rfl (by decide) ?_
    exact lq_cellTold hi hl hb hI (fun h1 h2 I2 g1 g2 => kx h2 I2 (⟨(R_T_fr (R_T_fr hr.1 g1 rfl rfl) g2 rfl rfl), (R_W_fr (R_W_fr hr.2.1 g1 (fun _ => rfl) (fun _ => rfl)) g2 (fun _ => rfl) (fun _ => rfl)), (R_C_fr (R_C_fr hr.2.2.1 g1 rfl rfl) g2 rfl rfl), (R_B_fr (R_B_fr hr.2.2.2.1 g1 (fun _ => rfl) (fun _ => rfl)) g2 (fun _ => rfl) (fun _ => rfl)), (R_R_fr (R_R_fr hr.2.2.2.2 g1 rfl rfl) g2 rfl rfl)⟩))
  by_cases e15 : z.toInt = 15
  · refine te_tsIn (k := 15) (p2 := 793) rfl e15 (by decide) (by decide) rfl (by decide) ?_
    exact lq_kindTold hi hl hb hI (fun h1 h2 I2 g1 g2 => kx h2 I2 (⟨(R_T_fr (R_T_fr hr.1 g1 rfl rfl) g2 rfl rfl), (R_W_fr (R_W_fr hr.2.1 g1 (fun _ => rfl) (fun _ => rfl)) g2 (fun _ => rfl) (fun _ => rfl)), (R_C_fr (R_C_fr hr.2.2.1 g1 rfl rfl) g2 rfl rfl), (R_B_fr (R_B_fr hr.2.2.2.1 g1 (fun _ => rfl) (fun _ => rfl)) g2 (fun _ => rfl) (fun _ => rfl)), (R_R_fr (R_R_fr hr.2.2.2.2 g1 rfl rfl) g2 rfl rfl)⟩))
  by_cases e16 : z.toInt = 16
  · refine te_tsIn (k := 16) (p2 := 826) rfl e16 (by decide) (by decide) rfl (by decide) ?_
    exact lq_personTold hi hl hb hI (fun h1 h2 I2 g1 g2 => kx h2 I2 (⟨(R_T_fr (R_T_fr hr.1 g1 rfl rfl) g2 rfl rfl), (R_W_fr (R_W_fr hr.2.1 g1 (fun _ => rfl) (fun _ => rfl)) g2 (fun _ => rfl) (fun _ => rfl)), (R_C_fr (R_C_fr hr.2.2.1 g1 rfl rfl) g2 rfl rfl), (R_B_fr (R_B_fr hr.2.2.2.1 g1 (fun _ => rfl) (fun _ => rfl)) g2 (fun _ => rfl) (fun _ => rfl)), (R_R_fr (R_R_fr hr.2.2.2.2 g1 rfl rfl) g2 rfl rfl)⟩))
  by_cases e17 : z.toInt = 17
  · refine te_tsIn (k := 17) (p2 := 859) rfl e17 (by decide) (by decide) rfl (by decide) ?_
    exact lq_rowTold hi hl hb hI (fun h1 h2 I2 g1 g2 => kx h2 I2 (⟨(R_T_fr (R_T_fr hr.1 g1 rfl rfl) g2 rfl rfl), (R_W_fr (R_W_fr hr.2.1 g1 (fun _ => rfl) (fun _ => rfl)) g2 (fun _ => rfl) (fun _ => rfl)), (R_C_fr (R_C_fr hr.2.2.1 g1 rfl rfl) g2 rfl rfl), (R_B_fr (R_B_fr hr.2.2.2.1 g1 (fun _ => rfl) (fun _ => rfl)) g2 (fun _ => rfl) (fun _ => rfl)), (R_R_fr (R_R_fr hr.2.2.2.2 g1 rfl rfl) g2 rfl rfl)⟩))
  by_cases e18 : z.toInt = 18
  · refine te_tsIn (k := 18) (p2 := 892) rfl e18 (by decide) (by decide) rfl (by decide) ?_
    exact lq_railTold hi hl hb hI (fun h1 h2 I2 g1 g2 => kx h2 I2 (⟨(R_T_fr (R_T_fr hr.1 g1 rfl rfl) g2 rfl rfl), (R_W_fr (R_W_fr hr.2.1 g1 (fun _ => rfl) (fun _ => rfl)) g2 (fun _ => rfl) (fun _ => rfl)), (R_C_fr (R_C_fr hr.2.2.1 g1 rfl rfl) g2 rfl rfl), (R_B_fr (R_B_fr hr.2.2.2.1 g1 (fun _ => rfl) (fun _ => rfl)) g2 (fun _ => rfl) (fun _ => rfl)), (R_R_fr (R_R_fr hr.2.2.2.2 g1 rfl rfl) g2 rfl rfl)⟩))
  by_cases e19 : z.toInt = 19
  · refine te_tsIn (k := 19) (p2 := 925) rfl e19 (by decide) (by decide) rfl (by decide) ?_
    exact lq_wallTold hi hl hb hI (fun h1 h2 I2 g1 g2 => kx h2 I2 (⟨(R_T_fr (R_T_fr hr.1 g1 rfl rfl) g2 rfl rfl), (R_W_fr (R_W_fr hr.2.1 g1 (fun _ => rfl) (fun _ => rfl)) g2 (fun _ => rfl) (fun _ => rfl)), (R_C_fr (R_C_fr hr.2.2.1 g1 rfl rfl) g2 rfl rfl), (R_B_fr (R_B_fr hr.2.2.2.1 g1 (fun _ => rfl) (fun _ => rfl)) g2 (fun _ => rfl) (fun _ => rfl)), (R_R_fr (R_R_fr hr.2.2.2.2 g1 rfl rfl) g2 rfl rfl)⟩))
  by_cases e20 : z.toInt = 20
  · refine te_tsIn (k := 20) (p2 := 958) rfl e20 (by decide) (by decide) rfl (by decide) ?_
    exact lq_count hi hl hb hI (fun h1 h2 I2 g1 g2 => kx h2 I2 (⟨(R_T_fr (R_T_fr hr.1 g1 rfl rfl) g2 rfl rfl), (R_W_fr (R_W_fr hr.2.1 g1 (fun _ => rfl) (fun _ => rfl)) g2 (fun _ => rfl) (fun _ => rfl)), (R_C_fr (R_C_fr hr.2.2.1 g1 rfl rfl) g2 rfl rfl), (R_B_fr (R_B_fr hr.2.2.2.1 g1 (fun _ => rfl) (fun _ => rfl)) g2 (fun _ => rfl) (fun _ => rfl)), (R_R_fr (R_R_fr hr.2.2.2.2 g1 rfl rfl) g2 rfl rfl)⟩))
  by_cases e21 : z.toInt = 21
  · refine te_tsIn (k := 21) (p2 := 981) rfl e21 (by decide) (by decide) rfl (by decide) ?_
    exact lq_pull hi hl hb hI (fun h1 h2 I2 g1 g2 => kx h2 I2 (⟨(R_T_fr (R_T_fr hr.1 g1 rfl rfl) g2 rfl rfl), (R_W_fr (R_W_fr hr.2.1 g1 (fun _ => rfl) (fun _ => rfl)) g2 (fun _ => rfl) (fun _ => rfl)), (R_C_fr (R_C_fr hr.2.2.1 g1 rfl rfl) g2 rfl rfl), (R_B_fr (R_B_fr hr.2.2.2.1 g1 (fun _ => rfl) (fun _ => rfl)) g2 (fun _ => rfl) (fun _ => rfl)), (R_R_fr (R_R_fr hr.2.2.2.2 g1 rfl rfl) g2 rfl rfl)⟩))
  by_cases e22 : z.toInt = 22
  · refine te_tsIn (k := 22) (p2 := 1004) rfl e22 (by decide) (by decide) rfl (by decide) ?_
    exact lq_pulls hi hl hb hI (fun h1 h2 I2 g1 g2 => kx h2 I2 (⟨(R_T_fr (R_T_fr hr.1 g1 rfl rfl) g2 rfl rfl), (R_W_fr (R_W_fr hr.2.1 g1 (fun _ => rfl) (fun _ => rfl)) g2 (fun _ => rfl) (fun _ => rfl)), (R_C_fr (R_C_fr hr.2.2.1 g1 rfl rfl) g2 rfl rfl), (R_B_fr (R_B_fr hr.2.2.2.1 g1 (fun _ => rfl) (fun _ => rfl)) g2 (fun _ => rfl) (fun _ => rfl)), (R_R_fr (R_R_fr hr.2.2.2.2 g1 rfl rfl) g2 rfl rfl)⟩))
  by_cases e23 : z.toInt = 23
  · refine te_tsIn (k := 23) (p2 := 1027) rfl e23 (by decide) (by decide) rfl (by decide) ?_
    exact lq_pullTold hi hl hb hI (fun h1 h2 I2 g1 g2 => kx h2 I2 (⟨(R_T_fr (R_T_fr hr.1 g1 rfl rfl) g2 rfl rfl), (R_W_fr (R_W_fr hr.2.1 g1 (fun _ => rfl) (fun _ => rfl)) g2 (fun _ => rfl) (fun _ => rfl)), (R_C_fr (R_C_fr hr.2.2.1 g1 rfl rfl) g2 rfl rfl), (R_B_fr (R_B_fr hr.2.2.2.1 g1 (fun _ => rfl) (fun _ => rfl)) g2 (fun _ => rfl) (fun _ => rfl)), (R_R_fr (R_R_fr hr.2.2.2.2 g1 rfl rfl) g2 rfl rfl)⟩))
  by_cases e24 : z.toInt = 24
  · refine te_tsIn (k := 24) (p2 := 1050) rfl e24 (by decide) (by decide) rfl (by decide) ?_
    exact lq_mends hi hl hb hI (fun h1 h2 I2 g1 g2 => kx h2 I2 (⟨(R_T_fr (R_T_fr hr.1 g1 rfl rfl) g2 rfl rfl), (R_W_fr (R_W_fr hr.2.1 g1 (fun _ => rfl) (fun _ => rfl)) g2 (fun _ => rfl) (fun _ => rfl)), (R_C_fr (R_C_fr hr.2.2.1 g1 rfl rfl) g2 rfl rfl), (R_B_fr (R_B_fr hr.2.2.2.1 g1 (fun _ => rfl) (fun _ => rfl)) g2 (fun _ => rfl) (fun _ => rfl)), (R_R_fr (R_R_fr hr.2.2.2.2 g1 rfl rfl) g2 rfl rfl)⟩))
  by_cases e25 : z.toInt = 25
  · refine te_tsIn (k := 25) (p2 := 1073) rfl e25 (by decide) (by decide) rfl (by decide) ?_
    exact lq_mendTold hi hl hb hI (fun h1 h2 I2 g1 g2 => kx h2 I2 (⟨(R_T_fr (R_T_fr hr.1 g1 rfl rfl) g2 rfl rfl), (R_W_fr (R_W_fr hr.2.1 g1 (fun _ => rfl) (fun _ => rfl)) g2 (fun _ => rfl) (fun _ => rfl)), (R_C_fr (R_C_fr hr.2.2.1 g1 rfl rfl) g2 rfl rfl), (R_B_fr (R_B_fr hr.2.2.2.1 g1 (fun _ => rfl) (fun _ => rfl)) g2 (fun _ => rfl) (fun _ => rfl)), (R_R_fr (R_R_fr hr.2.2.2.2 g1 rfl rfl) g2 rfl rfl)⟩))
  by_cases e26 : z.toInt = 26
  · refine te_tsIn (k := 26) (p2 := 1086) rfl e26 (by decide) (by decide) rfl (by decide) ?_
    exact lq_mend hi hl hb hI (fun h1 h2 I2 g1 g2 => kx h2 I2 (⟨(R_T_fr (R_T_fr hr.1 g1 rfl rfl) g2 rfl rfl), (R_W_fr (R_W_fr hr.2.1 g1 (fun _ => rfl) (fun _ => rfl)) g2 (fun _ => rfl) (fun _ => rfl)), (R_C_fr (R_C_fr hr.2.2.1 g1 rfl rfl) g2 rfl rfl), (R_B_fr (R_B_fr hr.2.2.2.1 g1 (fun _ => rfl) (fun _ => rfl)) g2 (fun _ => rfl) (fun _ => rfl)), (R_R_fr (R_R_fr hr.2.2.2.2 g1 rfl rfl) g2 rfl rfl)⟩))
  by_cases e27 : z.toInt = 27
  · refine te_tsIn (k := 27) (p2 := 1109) rfl e27 (by decide) (by decide) rfl (by decide) ?_
    exact lq_roomTold hi hl hb hI (fun h1 h2 I2 g1 g2 => kx h2 I2 (⟨(R_T_fr (R_T_fr hr.1 g1 rfl rfl) g2 rfl rfl), (R_W_fr (R_W_fr hr.2.1 g1 (fun _ => rfl) (fun _ => rfl)) g2 (fun _ => rfl) (fun _ => rfl)), (R_C_fr (R_C_fr hr.2.2.1 g1 rfl rfl) g2 rfl rfl), (R_B_fr (R_B_fr hr.2.2.2.1 g1 (fun _ => rfl) (fun _ => rfl)) g2 (fun _ => rfl) (fun _ => rfl)), (R_R_fr (R_R_fr hr.2.2.2.2 g1 rfl rfl) g2 rfl rfl)⟩))
  by_cases e28 : z.toInt = 28
  · refine te_tsIn (k := 28) (p2 := 1142) rfl e28 (by decide) (by decide) rfl (by decide) ?_
    exact lq_raid hi hl hb hI (fun h1 h2 I2 g1 g2 => kx h2 I2 (⟨(R_T_fr (R_T_fr hr.1 g1 rfl rfl) g2 rfl rfl), (R_W_fr (R_W_fr hr.2.1 g1 (fun _ => rfl) (fun _ => rfl)) g2 (fun _ => rfl) (fun _ => rfl)), (R_C_fr (R_C_fr hr.2.2.1 g1 rfl rfl) g2 rfl rfl), (R_B_fr (R_B_fr hr.2.2.2.1 g1 (fun _ => rfl) (fun _ => rfl)) g2 (fun _ => rfl) (fun _ => rfl)), (R_R_fr (R_R_fr hr.2.2.2.2 g1 rfl rfl) g2 rfl rfl)⟩))
  by_cases e29 : z.toInt = 29
  · refine te_tsIn (k := 29) (p2 := 1195) rfl e29 (by decide) (by decide) rfl (by decide) ?_
    exact lq_probe hi hl hb hI (fun h1 h2 I2 g1 g2 => kx h2 I2 (⟨(R_T_fr (R_T_fr hr.1 g1 rfl rfl) g2 rfl rfl), (R_W_fr (R_W_fr hr.2.1 g1 (fun _ => rfl) (fun _ => rfl)) g2 (fun _ => rfl) (fun _ => rfl)), (R_C_fr (R_C_fr hr.2.2.1 g1 rfl rfl) g2 rfl rfl), (R_B_fr (R_B_fr hr.2.2.2.1 g1 (fun _ => rfl) (fun _ => rfl)) g2 (fun _ => rfl) (fun _ => rfl)), (R_R_fr (R_R_fr hr.2.2.2.2 g1 rfl rfl) g2 rfl rfl)⟩))
  by_cases e30 : z.toInt = 30
  · refine te_tsIn (k := 30) (p2 := 1228) rfl e30 (by decide) (by decide) rfl (by decide) ?_
    exact lq_likely hi hl hb hI (fun h1 h2 I2 g1 g2 => kx h2 I2 (⟨(R_T_fr (R_T_fr hr.1 g1 rfl rfl) g2 rfl rfl), (R_W_fr (R_W_fr hr.2.1 g1 (fun _ => rfl) (fun _ => rfl)) g2 (fun _ => rfl) (fun _ => rfl)), (R_C_fr (R_C_fr hr.2.2.1 g1 rfl rfl) g2 rfl rfl), (R_B_fr (R_B_fr hr.2.2.2.1 g1 (fun _ => rfl) (fun _ => rfl)) g2 (fun _ => rfl) (fun _ => rfl)), (R_R_fr (R_R_fr hr.2.2.2.2 g1 rfl rfl) g2 rfl rfl)⟩))
  by_cases e31 : z.toInt = 31
  · refine te_tsIn (k := 31) (p2 := 1261) rfl e31 (by decide) (by decide) rfl (by decide) ?_
    exact lq_next hi hl hb hI (fun h1 h2 I2 g1 g2 => kx h2 I2 (⟨(R_T_fr (R_T_fr hr.1 g1 rfl rfl) g2 rfl rfl), (R_W_fr (R_W_fr hr.2.1 g1 (fun _ => rfl) (fun _ => rfl)) g2 (fun _ => rfl) (fun _ => rfl)), (R_C_fr (R_C_fr hr.2.2.1 g1 rfl rfl) g2 rfl rfl), (R_B_fr (R_B_fr hr.2.2.2.1 g1 (fun _ => rfl) (fun _ => rfl)) g2 (fun _ => rfl) (fun _ => rfl)), (R_R_fr (R_R_fr hr.2.2.2.2 g1 rfl rfl) g2 rfl rfl)⟩))
  by_cases e32 : z.toInt = 32
  · refine te_tsIn (k := 32) (p2 := 1274) rfl e32 (by decide) (by decide) rfl (by decide) ?_
    exact lq_paper hi hl hb hI (fun h1 h2 I2 g1 g2 => kx h2 I2 (⟨(R_T_fr (R_T_fr hr.1 g1 rfl rfl) g2 rfl rfl), (R_W_fr (R_W_fr hr.2.1 g1 (fun _ => rfl) (fun _ => rfl)) g2 (fun _ => rfl) (fun _ => rfl)), (R_C_fr (R_C_fr hr.2.2.1 g1 rfl rfl) g2 rfl rfl), (R_B_fr (R_B_fr hr.2.2.2.1 g1 (fun _ => rfl) (fun _ => rfl)) g2 (fun _ => rfl) (fun _ => rfl)), (R_R_fr (R_R_fr hr.2.2.2.2 g1 rfl rfl) g2 rfl rfl)⟩))
  by_cases e33 : z.toInt = 33
  · refine te_tsIn (k := 33) (p2 := 1317) rfl e33 (by decide) (by decide) rfl (by decide) ?_
    exact lq_burn hi hl hb hI (fun h1 h2 I2 g1 g2 => kx h2 I2 (⟨(R_T_fr (R_T_fr hr.1 g1 rfl rfl) g2 rfl rfl), (R_W_fr (R_W_fr hr.2.1 g1 (fun _ => rfl) (fun _ => rfl)) g2 (fun _ => rfl) (fun _ => rfl)), (R_C_fr (R_C_fr hr.2.2.1 g1 rfl rfl) g2 rfl rfl), (R_B_fr (R_B_fr hr.2.2.2.1 g1 (fun _ => rfl) (fun _ => rfl)) g2 (fun _ => rfl) (fun _ => rfl)), (R_R_fr (R_R_fr hr.2.2.2.2 g1 rfl rfl) g2 rfl rfl)⟩))
  by_cases e34 : z.toInt = 34
  · refine te_tsIn (k := 34) (p2 := 1340) rfl e34 (by decide) (by decide) rfl (by decide) ?_
    exact lq_owner hi hl hb hI (fun h1 h2 I2 g1 g2 => kx h2 I2 (⟨(R_T_fr (R_T_fr hr.1 g1 rfl rfl) g2 rfl rfl), (R_W_fr (R_W_fr hr.2.1 g1 (fun _ => rfl) (fun _ => rfl)) g2 (fun _ => rfl) (fun _ => rfl)), (R_C_fr (R_C_fr hr.2.2.1 g1 rfl rfl) g2 rfl rfl), (R_B_fr (R_B_fr hr.2.2.2.1 g1 (fun _ => rfl) (fun _ => rfl)) g2 (fun _ => rfl) (fun _ => rfl)), (R_R_fr (R_R_fr hr.2.2.2.2 g1 rfl rfl) g2 rfl rfl)⟩))
  by_cases e35 : z.toInt = 35
  · refine te_tsIn (k := 35) (p2 := 1383) rfl e35 (by decide) (by decide) rfl (by decide) ?_
    exact lq_heirs hi hl hb hI (fun h1 h2 I2 g1 g2 => kx h2 I2 (⟨(R_T_fr (R_T_fr hr.1 g1 rfl rfl) g2 rfl rfl), (R_W_fr (R_W_fr hr.2.1 g1 (fun _ => rfl) (fun _ => rfl)) g2 (fun _ => rfl) (fun _ => rfl)), (R_C_fr (R_C_fr hr.2.2.1 g1 rfl rfl) g2 rfl rfl), (R_B_fr (R_B_fr hr.2.2.2.1 g1 (fun _ => rfl) (fun _ => rfl)) g2 (fun _ => rfl) (fun _ => rfl)), (R_R_fr (R_R_fr hr.2.2.2.2 g1 rfl rfl) g2 rfl rfl)⟩))
  by_cases e36 : z.toInt = 36
  · refine te_tsIn (k := 36) (p2 := 1426) rfl e36 (by decide) (by decide) rfl (by decide) ?_
    exact lq_beside hi hl hb hI (fun h1 h2 I2 g1 g2 => kx h2 I2 (⟨(R_T_fr (R_T_fr hr.1 g1 rfl rfl) g2 rfl rfl), (R_W_fr (R_W_fr hr.2.1 g1 (fun _ => rfl) (fun _ => rfl)) g2 (fun _ => rfl) (fun _ => rfl)), (R_C_fr (R_C_fr hr.2.2.1 g1 rfl rfl) g2 rfl rfl), (R_B_fr (R_B_fr hr.2.2.2.1 g1 (fun _ => rfl) (fun _ => rfl)) g2 (fun _ => rfl) (fun _ => rfl)), (R_R_fr (R_R_fr hr.2.2.2.2 g1 rfl rfl) g2 rfl rfl)⟩))
  by_cases e37 : z.toInt = 37
  · refine te_tsIn (k := 37) (p2 := 1459) rfl e37 (by decide) (by decide) rfl (by decide) ?_
    exact lq_clear hi hl hb hI (fun h1 h2 I2 g1 g2 => kx h2 I2 (⟨(R_T_fr (R_T_fr hr.1 g1 rfl rfl) g2 rfl rfl), (R_W_fr (R_W_fr hr.2.1 g1 (fun _ => rfl) (fun _ => rfl)) g2 (fun _ => rfl) (fun _ => rfl)), (R_C_fr (R_C_fr hr.2.2.1 g1 rfl rfl) g2 rfl rfl), (R_B_fr (R_B_fr hr.2.2.2.1 g1 (fun _ => rfl) (fun _ => rfl)) g2 (fun _ => rfl) (fun _ => rfl)), (R_R_fr (R_R_fr hr.2.2.2.2 g1 rfl rfl) g2 rfl rfl)⟩))
  by_cases e38 : z.toInt = 38
  · refine te_tsIn (k := 38) (p2 := 1492) rfl e38 (by decide) (by decide) rfl (by decide) ?_
    exact lq_image hi hl hb hI (fun h1 h2 I2 g1 g2 => kx h2 I2 (⟨(R_T_fr (R_T_fr hr.1 g1 rfl rfl) g2 rfl rfl), (R_W_fr (R_W_fr hr.2.1 g1 (fun _ => rfl) (fun _ => rfl)) g2 (fun _ => rfl) (fun _ => rfl)), (R_C_fr (R_C_fr hr.2.2.1 g1 rfl rfl) g2 rfl rfl), (R_B_fr (R_B_fr hr.2.2.2.1 g1 (fun _ => rfl) (fun _ => rfl)) g2 (fun _ => rfl) (fun _ => rfl)), (R_R_fr (R_R_fr hr.2.2.2.2 g1 rfl rfl) g2 rfl rfl)⟩))
  by_cases e39 : z.toInt = 39
  · refine te_tsIn (k := 39) (p2 := 1505) rfl e39 (by decide) (by decide) rfl (by decide) ?_
    exact lq_back hi hl hb hI (fun h1 h2 I2 g1 g2 => kx h2 I2 (⟨(R_T_fr (R_T_fr hr.1 g1 rfl rfl) g2 rfl rfl), (R_W_fr (R_W_fr hr.2.1 g1 (fun _ => rfl) (fun _ => rfl)) g2 (fun _ => rfl) (fun _ => rfl)), (R_C_fr (R_C_fr hr.2.2.1 g1 rfl rfl) g2 rfl rfl), (R_B_fr (R_B_fr hr.2.2.2.1 g1 (fun _ => rfl) (fun _ => rfl)) g2 (fun _ => rfl) (fun _ => rfl)), (R_R_fr (R_R_fr hr.2.2.2.2 g1 rfl rfl) g2 rfl rfl)⟩))
  by_cases e40 : z.toInt = 40
  · refine te_tsIn (k := 40) (p2 := 1518) rfl e40 (by decide) (by decide) rfl (by decide) ?_
    exact lq_sheet hi hl hb hI (fun h1 h2 I2 g1 g2 => kx h2 I2 (⟨(R_T_fr (R_T_fr hr.1 g1 rfl rfl) g2 rfl rfl), (R_W_fr (R_W_fr hr.2.1 g1 (fun _ => rfl) (fun _ => rfl)) g2 (fun _ => rfl) (fun _ => rfl)), (R_C_fr (R_C_fr hr.2.2.1 g1 rfl rfl) g2 rfl rfl), (R_B_fr (R_B_fr hr.2.2.2.1 g1 (fun _ => rfl) (fun _ => rfl)) g2 (fun _ => rfl) (fun _ => rfl)), (R_R_fr (R_R_fr hr.2.2.2.2 g1 rfl rfl) g2 rfl rfl)⟩))
  by_cases e41 : z.toInt = 41
  · refine te_tsIn (k := 41) (p2 := 1561) rfl e41 (by decide) (by decide) rfl (by decide) ?_
    exact lq_cell hi hl hb hI (fun h1 h2 I2 g1 g2 => kx h2 I2 (⟨(R_T_fr (R_T_fr hr.1 g1 rfl rfl) g2 rfl rfl), (R_W_fr (R_W_fr hr.2.1 g1 (fun _ => rfl) (fun _ => rfl)) g2 (fun _ => rfl) (fun _ => rfl)), (R_C_fr (R_C_fr hr.2.2.1 g1 rfl rfl) g2 rfl rfl), (R_B_fr (R_B_fr hr.2.2.2.1 g1 (fun _ => rfl) (fun _ => rfl)) g2 (fun _ => rfl) (fun _ => rfl)), (R_R_fr (R_R_fr hr.2.2.2.2 g1 rfl rfl) g2 rfl rfl)⟩))
  by_cases e42 : z.toInt = 42
  · refine te_tsIn (k := 42) (p2 := 1604) rfl e42 (by decide) (by decide) rfl (by decide) ?_
    exact lq_copy hi hl hb hI (fun h1 h2 I2 g1 g2 => kx h2 I2 (⟨(R_T_fr (R_T_fr hr.1 g1 rfl rfl) g2 rfl rfl), (R_W_fr (R_W_fr hr.2.1 g1 (fun _ => rfl) (fun _ => rfl)) g2 (fun _ => rfl) (fun _ => rfl)), (R_C_fr (R_C_fr hr.2.2.1 g1 rfl rfl) g2 rfl rfl), (R_B_fr (R_B_fr hr.2.2.2.1 g1 (fun _ => rfl) (fun _ => rfl)) g2 (fun _ => rfl) (fun _ => rfl)), (R_R_fr (R_R_fr hr.2.2.2.2 g1 rfl rfl) g2 rfl rfl)⟩))
  by_cases e43 : z.toInt = 43
  · refine te_tsIn (k := 43) (p2 := 1667) rfl e43 (by decide) (by decide) rfl (by decide) ?_
    exact lq_people hi hl hb hI (fun h1 h2 I2 g1 g2 => kx h2 I2 (⟨(R_T_fr (R_T_fr hr.1 g1 rfl rfl) g2 rfl rfl), (R_W_fr (R_W_fr hr.2.1 g1 (fun _ => rfl) (fun _ => rfl)) g2 (fun _ => rfl) (fun _ => rfl)), (R_C_fr (R_C_fr hr.2.2.1 g1 rfl rfl) g2 rfl rfl), (R_B_fr (R_B_fr hr.2.2.2.1 g1 (fun _ => rfl) (fun _ => rfl)) g2 (fun _ => rfl) (fun _ => rfl)), (R_R_fr (R_R_fr hr.2.2.2.2 g1 rfl rfl) g2 rfl rfl)⟩))
  by_cases e44 : z.toInt = 44
  · refine te_tsIn (k := 44) (p2 := 1720) rfl e44 (by decide) (by decide) rfl (by decide) ?_
    exact lq_taken hi hl hb hI (fun h1 h2 I2 g1 g2 => kx h2 I2 (⟨(R_T_fr (R_T_fr hr.1 g1 rfl rfl) g2 rfl rfl), (R_W_fr (R_W_fr hr.2.1 g1 (fun _ => rfl) (fun _ => rfl)) g2 (fun _ => rfl) (fun _ => rfl)), (R_C_fr (R_C_fr hr.2.2.1 g1 rfl rfl) g2 rfl rfl), (R_B_fr (R_B_fr hr.2.2.2.1 g1 (fun _ => rfl) (fun _ => rfl)) g2 (fun _ => rfl) (fun _ => rfl)), (R_R_fr (R_R_fr hr.2.2.2.2 g1 rfl rfl) g2 rfl rfl)⟩))
  exact te_tsOut (p2 := 1753) rfl (by omega) (by decide) (kx h hI hr)
set_option maxRecDepth 10000 in
set_option maxHeartbeats 2000000 in
theorem lk_head {l : List Int32} {i : Int32} {h : im_H} {Q : Option Value → im_H → Prop} {n : Nat} (hb : l.length < 2147483648) (hi : i.toInt = n) (k1 : (l.length : Int) < n + 6 → EvP (im_K1 l) 20 mL_law (1759, lwL i, [], h) Q) (k2 : ¬ (l.length : Int) < n + 6 → EvP (im_K1 l) 20 mL_law (27, lwL i, [], h) Q) : EvP (im_K1 l) 20 mL_law (18, lwL i, [], h) Q := by
  have e1 : Int32.toInt (Int32.ofNat l.length) = l.length := Int32.toInt_ofNat_of_lt hb
  have e2 : Int32.toInt (Int32.ofNat l.length - 6) = l.length - 6 := by rw [i32_subE (show Int32.toInt 6 = 6 from rfl) (by omega) (by omega), e1]
  refine te_iload_n (p2 := 19) rfl rfl rfl ?_
  refine te_aload_n (p2 := 20) rfl rfl rfl ?_
  refine te_slen (p2 := 21) (R := 5) (l := l) rfl rfl (by decide) rfl rfl ?_
  refine te_bipush (p2 := 23) (x := 6) rfl rfl (by decide) ?_
  refine te_isub (p2 := 24) (z := Int32.ofNat l.length - 6) rfl rfl rfl ?_
  exact tb_gt (p2 := 27) rfl rfl hi e2 (fun hc => k1 (by omega)) (fun hc => k2 (by omega))
set_option maxRecDepth 10000 in
set_option maxHeartbeats 2000000 in
theorem lk_loop {l : List Int32} (hb : l.length < 2147483648 - 6) : ∀ (m n : Nat) (i : Int32) (h : im_H), i.toInt = n → l.length < n + 6 * m → tI h → rel h → EvP (im_K1 l) 20 mL_law (18, lwL i, [], h) (fun v h2 => v = some (.int 1) ∧ tI h2) := by
  intro m
  induction m with
  | zero =>
    intro n i h hi hm hI hr
    refine lk_head (by omega) hi (fun _ => ?_) (fun hc => by exfalso; omega)
    refine te_iconst (p2 := 1760) (x := 1) rfl rfl (by decide) ?_
    exact te_zret rfl rfl (by decide) ⟨rfl, hI⟩
  | succ m ih =>
    intro n i h hi hm hI hr
    refine lk_head (by omega) hi (fun _ => ?_) (fun hc => ?_)
    · refine te_iconst (p2 := 1760) (x := 1) rfl rfl (by decide) ?_
      exact te_zret rfl rfl (by decide) ⟨rfl, hI⟩
    · refine lk_ops hi (by omega) (by omega) hI hr (fun h2 I2 r2 => ?_)
      refine ar_inc (p2 := 1756) (x := i) rfl rfl (by decide) rfl (by decide) hi (by omega) (by omega) (fun z e f => ?_)
      show EvP _ _ _ (1756, lwL z, [], h2) _
      refine te_goto rfl ?_
      exact ih (n + 6) z h2 (by rw [f]; omega) (by omega) I2 r2
set_option maxRecDepth 10000 in
set_option maxHeartbeats 2000000 in
theorem lk_in {l : List Int32} {Q : Option Value → im_H → Prop} (kx : EvP (im_K1 l) 20 mL_law (18, lwL 0, [], hh) Q) : EvP (im_K1 l) 20 mL_law (0, [(0, .ref 5)], [], []) Q := by
  refine te_new (p2 := 3) (tys := im_fty.getD 11 []) (R := 16) rfl rfl rfl rfl ?_
  refine te_dup (p2 := 4) rfl rfl rfl ?_
  refine evp (fun r => st_callI (R := 16) rfl rfl rfl rfl (ca_dec (d := 8) (by decide) init_X)) ?_
  show EvP _ _ _ (7, [(0, .ref 5)], [.ref 16], hX) _
  refine te_astore_n (p2 := 8) (lv2 := [(1, .ref 16), (0, .ref 5)]) rfl rfl (by decide) rfl ?_
  refine te_new (p2 := 11) (tys := im_fty.getD 12 []) (R := 164) rfl rfl rfl rfl ?_
  refine te_dup (p2 := 12) rfl rfl rfl ?_
  refine evp (fun r => st_callI (R := 164) rfl rfl rfl rfl (ca_dec (d := 8) (by decide) init_M)) ?_
  show EvP _ _ _ (15, [(1, .ref 16), (0, .ref 5)], [.ref 164], hh) _
  refine te_astore_n (p2 := 16) (lv2 := [(2, .ref 164), (1, .ref 16), (0, .ref 5)]) rfl rfl (by decide) rfl ?_
  refine te_iconst (p2 := 17) (x := 0) rfl rfl (by decide) ?_
  refine te_istore_n (p2 := 18) (lv2 := lwL 0) rfl rfl (by decide) rfl ?_
  exact kx
set_option maxRecDepth 20000 in
theorem rel_hh : rel hh := ⟨rfl, w_hh, rfl, b_hh, rfl⟩
theorem hh_small : hh.length ≤ 600000 ∧ im_sl hh ≤ 7302250 := by decide +kernel
theorem tS_hh : im_shs hh = tS := tI_hh.1
