theorem rel_mono {n : Nat} {h : im_H} (hr : rel n h) : rel (n + 6) h := by
  obtain ⟨A, Y, w, Z, H, M, O, T, W, B, S, U, K, L, E, J⟩ := hr
  exact ⟨A, Y, w, Z, H, M, O, T, W, B, S, U, K, L_mono L, E, J⟩
set_option maxRecDepth 10000 in
set_option maxHeartbeats 2000000 in
theorem lk_ops {l : List Int32} {n : Nat} {i : Int32} {h : im_H} {Q : Option Value → im_H → Prop} (hi : i.toInt = n) (hl : n + 6 ≤ l.length) (hb : l.length < 2147483648) (hI : tI h) (hN : l.length ≤ 3072) (hr : rel n h) (kx : ∀ h2, tI h2 → rel (n + 6) h2 → EvP (im_K1 l) 20 mL_law (1753, lwL i, [], h2) Q) : EvP (im_K1 l) 20 mL_law (27, lwL i, [], h) Q := by
  refine te_aload_n (p2 := 28) rfl rfl rfl ?_
  refine te_iload_n (p2 := 29) rfl rfl rfl ?_
  refine evp (fun r => st_isld (R := 5) (l := l) (x := l.getD n 0) rfl (by decide) rfl (in_at rfl (by omega) (by omega)) (by rw [clamp_of_toInt hi])) ?_
  show EvP _ _ _ (30, _, _, _) _
  refine te_bipush (p2 := 32) (x := 63) rfl rfl (by decide) ?_
  obtain ⟨z, hz⟩ : ∃ z, l.getD n 0 &&& 63 = z := ⟨_, rfl⟩
  refine te_iand (p2 := 33) (z := z) rfl rfl hz ?_
  by_cases e0 : z.toInt = 0
  · refine te_tsIn (k := 0) (p2 := 228) rfl e0 (by decide) (by decide) rfl (by decide) ?_
    exact lq_ruin hi hl hb hI hN hr kx
  by_cases e1 : z.toInt = 1
  · refine te_tsIn (k := 1) (p2 := 271) rfl e1 (by decide) (by decide) rfl (by decide) ?_
    exact lq_person hi hl hb hI hN hr kx
  by_cases e2 : z.toInt = 2
  · refine te_tsIn (k := 2) (p2 := 324) rfl e2 (by decide) (by decide) rfl (by decide) ?_
    exact lq_moves hi hl hb hI hN hr kx
  by_cases e3 : z.toInt = 3
  · refine te_tsIn (k := 3) (p2 := 357) rfl e3 (by decide) (by decide) rfl (by decide) ?_
    exact lq_wall hi hl hb hI hN hr kx
  by_cases e4 : z.toInt = 4
  · refine te_tsIn (k := 4) (p2 := 400) rfl e4 (by decide) (by decide) rfl (by decide) ?_
    exact lq_weather hi hl hb hI hN hr kx
  by_cases e5 : z.toInt = 5
  · refine te_tsIn (k := 5) (p2 := 433) rfl e5 (by decide) (by decide) rfl (by decide) ?_
    exact lq_tip hi hl hb hI hN hr kx
  by_cases e6 : z.toInt = 6
  · refine te_tsIn (k := 6) (p2 := 456) rfl e6 (by decide) (by decide) rfl (by decide) ?_
    exact lq_row hi hl hb hI hN hr kx
  by_cases e7 : z.toInt = 7
  · refine te_tsIn (k := 7) (p2 := 509) rfl e7 (by decide) (by decide) rfl (by decide) ?_
    exact lq_rail hi hl hb hI hN hr kx
  by_cases e8 : z.toInt = 8
  · refine te_tsIn (k := 8) (p2 := 552) rfl e8 (by decide) (by decide) rfl (by decide) ?_
    exact lq_room hi hl hb hI hN hr kx
  by_cases e9 : z.toInt = 9
  · refine te_tsIn (k := 9) (p2 := 605) rfl e9 (by decide) (by decide) rfl (by decide) ?_
    exact lq_feed hi hl hb hI hN hr kx
  by_cases e10 : z.toInt = 10
  · refine te_tsIn (k := 10) (p2 := 668) rfl e10 (by decide) (by decide) rfl (by decide) ?_
    exact lq_order hi hl hb hI hN hr kx
  by_cases e11 : z.toInt = 11
  · refine te_tsIn (k := 11) (p2 := 681) rfl e11 (by decide) (by decide) rfl (by decide) ?_
    exact lq_force hi hl hb hI hN hr kx
  by_cases e12 : z.toInt = 12
  · refine te_tsIn (k := 12) (p2 := 704) rfl e12 (by decide) (by decide) rfl (by decide) ?_
    exact lq_says hi hl hb hI (fun h1 h2 I2 g1 g2 => kx h2 I2 (by (obtain ⟨A, Y, w, Z, H, M, O, T, W, B, S, U, K, L, E, J⟩ := hr); exact ⟨(R_A_fr (R_A_fr A g1 (by decide) (by decide)) g2 (by decide) (by decide)), (R_Y_fr (R_Y_fr Y g1 (by decide) (by decide)) g2 (by decide) (by decide)), (R_w_fr (R_w_fr w g1 (by decide) (by decide)) g2 (by decide) (by decide)), (R_Z_fr (R_Z_fr Z g1 (by decide) (by decide)) g2 (by decide) (by decide)), (R_H_fr (R_H_fr H g1 rfl rfl) g2 rfl rfl), (R_M_fr (R_M_fr M g1 (by decide) (by decide)) g2 (by decide) (by decide)), (R_O_fr (R_O_fr O g1 (by decide)) g2 (by decide)), (R_T_fr (R_T_fr T g1 rfl rfl) g2 rfl rfl), (R_W_fr (R_W_fr W g1 (fun _ => rfl) (fun _ => rfl)) g2 (fun _ => rfl) (fun _ => rfl)), (R_B_fr (R_B_fr B g1 (fun _ => rfl) (fun _ => rfl)) g2 (fun _ => rfl) (fun _ => rfl)), (R_S_fr (R_S_fr S g1 (fun s b hs => c4 (P := fun s => inF F_X11_says (140 + 2 * s) b = false) rfl rfl rfl rfl s hs) (fun s b hs => c4 (P := fun s => inF F_X11_says (141 + 2 * s) b = false) rfl rfl rfl rfl s hs) (fun _ => rfl) (fun _ => rfl) (fun _ => rfl)) g2 (fun s b hs => c4 (P := fun s => inF F_X12_says (140 + 2 * s) b = false) rfl rfl rfl rfl s hs) (fun s b hs => c4 (P := fun s => inF F_X12_says (141 + 2 * s) b = false) rfl rfl rfl rfl s hs) (fun _ => rfl) (fun _ => rfl) (fun _ => rfl)), (R_U_fr (R_U_fr U g1 (by decide)) g2 (by decide)), (R_K_fr (R_K_fr K g1 (by decide)) g2 (by decide)), (L_mono (R_L_fr (R_L_fr L g1 (by decide) (by decide) (by decide) (by decide)) g2 (by decide) (by decide) (by decide) (by decide))), (R_E_fr (R_E_fr E g1 rfl rfl) g2 rfl rfl), (R_J_fr (R_J_fr J g1 (by decide)) g2 (by decide))⟩))
  by_cases e13 : z.toInt = 13
  · refine te_tsIn (k := 13) (p2 := 737) rfl e13 (by decide) (by decide) rfl (by decide) ?_
    exact lq_run hi hl hb hI hN hr kx
  by_cases e14 : z.toInt = 14
  · refine te_tsIn (k := 14) (p2 := 760) rfl e14 (by decide) (by decide) rfl (by decide) ?_
    exact lq_cellTold hi hl hb hI (fun h1 h2 I2 g1 g2 => kx h2 I2 (by (obtain ⟨A, Y, w, Z, H, M, O, T, W, B, S, U, K, L, E, J⟩ := hr); exact ⟨(R_A_fr (R_A_fr A g1 (by decide) (by decide)) g2 (by decide) (by decide)), (R_Y_fr (R_Y_fr Y g1 (by decide) (by decide)) g2 (by decide) (by decide)), (R_w_fr (R_w_fr w g1 (by decide) (by decide)) g2 (by decide) (by decide)), (R_Z_fr (R_Z_fr Z g1 (by decide) (by decide)) g2 (by decide) (by decide)), (R_H_fr (R_H_fr H g1 rfl rfl) g2 rfl rfl), (R_M_fr (R_M_fr M g1 (by decide) (by decide)) g2 (by decide) (by decide)), (R_O_fr (R_O_fr O g1 (by decide)) g2 (by decide)), (R_T_fr (R_T_fr T g1 rfl rfl) g2 rfl rfl), (R_W_fr (R_W_fr W g1 (fun _ => rfl) (fun _ => rfl)) g2 (fun _ => rfl) (fun _ => rfl)), (R_B_fr (R_B_fr B g1 (fun _ => rfl) (fun _ => rfl)) g2 (fun _ => rfl) (fun _ => rfl)), (R_S_fr (R_S_fr S g1 (fun s b hs => c4 (P := fun s => inF F_X11_cellTold (140 + 2 * s) b = false) rfl rfl rfl rfl s hs) (fun s b hs => c4 (P := fun s => inF F_X11_cellTold (141 + 2 * s) b = false) rfl rfl rfl rfl s hs) (fun _ => rfl) (fun _ => rfl) (fun _ => rfl)) g2 (fun s b hs => c4 (P := fun s => inF F_X12_cellTold (140 + 2 * s) b = false) rfl rfl rfl rfl s hs) (fun s b hs => c4 (P := fun s => inF F_X12_cellTold (141 + 2 * s) b = false) rfl rfl rfl rfl s hs) (fun _ => rfl) (fun _ => rfl) (fun _ => rfl)), (R_U_fr (R_U_fr U g1 (by decide)) g2 (by decide)), (R_K_fr (R_K_fr K g1 (by decide)) g2 (by decide)), (L_mono (R_L_fr (R_L_fr L g1 (by decide) (by decide) (by decide) (by decide)) g2 (by decide) (by decide) (by decide) (by decide))), (R_E_fr (R_E_fr E g1 rfl rfl) g2 rfl rfl), (R_J_fr (R_J_fr J g1 (by decide)) g2 (by decide))⟩))
  by_cases e15 : z.toInt = 15
  · refine te_tsIn (k := 15) (p2 := 793) rfl e15 (by decide) (by decide) rfl (by decide) ?_
    exact lq_kindTold hi hl hb hI (fun h1 h2 I2 g1 g2 => kx h2 I2 (by (obtain ⟨A, Y, w, Z, H, M, O, T, W, B, S, U, K, L, E, J⟩ := hr); exact ⟨(R_A_fr (R_A_fr A g1 (by decide) (by decide)) g2 (by decide) (by decide)), (R_Y_fr (R_Y_fr Y g1 (by decide) (by decide)) g2 (by decide) (by decide)), (R_w_fr (R_w_fr w g1 (by decide) (by decide)) g2 (by decide) (by decide)), (R_Z_fr (R_Z_fr Z g1 (by decide) (by decide)) g2 (by decide) (by decide)), (R_H_fr (R_H_fr H g1 rfl rfl) g2 rfl rfl), (R_M_fr (R_M_fr M g1 (by decide) (by decide)) g2 (by decide) (by decide)), (R_O_fr (R_O_fr O g1 (by decide)) g2 (by decide)), (R_T_fr (R_T_fr T g1 rfl rfl) g2 rfl rfl), (R_W_fr (R_W_fr W g1 (fun _ => rfl) (fun _ => rfl)) g2 (fun _ => rfl) (fun _ => rfl)), (R_B_fr (R_B_fr B g1 (fun _ => rfl) (fun _ => rfl)) g2 (fun _ => rfl) (fun _ => rfl)), (R_S_fr (R_S_fr S g1 (fun s b hs => c4 (P := fun s => inF F_X11_kindTold (140 + 2 * s) b = false) rfl rfl rfl rfl s hs) (fun s b hs => c4 (P := fun s => inF F_X11_kindTold (141 + 2 * s) b = false) rfl rfl rfl rfl s hs) (fun _ => rfl) (fun _ => rfl) (fun _ => rfl)) g2 (fun s b hs => c4 (P := fun s => inF F_X12_kindTold (140 + 2 * s) b = false) rfl rfl rfl rfl s hs) (fun s b hs => c4 (P := fun s => inF F_X12_kindTold (141 + 2 * s) b = false) rfl rfl rfl rfl s hs) (fun _ => rfl) (fun _ => rfl) (fun _ => rfl)), (R_U_fr (R_U_fr U g1 (by decide)) g2 (by decide)), (R_K_fr (R_K_fr K g1 (by decide)) g2 (by decide)), (L_mono (R_L_fr (R_L_fr L g1 (by decide) (by decide) (by decide) (by decide)) g2 (by decide) (by decide) (by decide) (by decide))), (R_E_fr (R_E_fr E g1 rfl rfl) g2 rfl rfl), (R_J_fr (R_J_fr J g1 (by decide)) g2 (by decide))⟩))
  by_cases e16 : z.toInt = 16
  · refine te_tsIn (k := 16) (p2 := 826) rfl e16 (by decide) (by decide) rfl (by decide) ?_
    exact lq_personTold hi hl hb hI (fun h1 h2 I2 g1 g2 => kx h2 I2 (by (obtain ⟨A, Y, w, Z, H, M, O, T, W, B, S, U, K, L, E, J⟩ := hr); exact ⟨(R_A_fr (R_A_fr A g1 (by decide) (by decide)) g2 (by decide) (by decide)), (R_Y_fr (R_Y_fr Y g1 (by decide) (by decide)) g2 (by decide) (by decide)), (R_w_fr (R_w_fr w g1 (by decide) (by decide)) g2 (by decide) (by decide)), (R_Z_fr (R_Z_fr Z g1 (by decide) (by decide)) g2 (by decide) (by decide)), (R_H_fr (R_H_fr H g1 rfl rfl) g2 rfl rfl), (R_M_fr (R_M_fr M g1 (by decide) (by decide)) g2 (by decide) (by decide)), (R_O_fr (R_O_fr O g1 (by decide)) g2 (by decide)), (R_T_fr (R_T_fr T g1 rfl rfl) g2 rfl rfl), (R_W_fr (R_W_fr W g1 (fun _ => rfl) (fun _ => rfl)) g2 (fun _ => rfl) (fun _ => rfl)), (R_B_fr (R_B_fr B g1 (fun _ => rfl) (fun _ => rfl)) g2 (fun _ => rfl) (fun _ => rfl)), (R_S_fr (R_S_fr S g1 (fun s b hs => c4 (P := fun s => inF F_X11_personTold (140 + 2 * s) b = false) rfl rfl rfl rfl s hs) (fun s b hs => c4 (P := fun s => inF F_X11_personTold (141 + 2 * s) b = false) rfl rfl rfl rfl s hs) (fun _ => rfl) (fun _ => rfl) (fun _ => rfl)) g2 (fun s b hs => c4 (P := fun s => inF F_X12_personTold (140 + 2 * s) b = false) rfl rfl rfl rfl s hs) (fun s b hs => c4 (P := fun s => inF F_X12_personTold (141 + 2 * s) b = false) rfl rfl rfl rfl s hs) (fun _ => rfl) (fun _ => rfl) (fun _ => rfl)), (R_U_fr (R_U_fr U g1 (by decide)) g2 (by decide)), (R_K_fr (R_K_fr K g1 (by decide)) g2 (by decide)), (L_mono (R_L_fr (R_L_fr L g1 (by decide) (by decide) (by decide) (by decide)) g2 (by decide) (by decide) (by decide) (by decide))), (R_E_fr (R_E_fr E g1 rfl rfl) g2 rfl rfl), (R_J_fr (R_J_fr J g1 (by decide)) g2 (by decide))⟩))
  by_cases e17 : z.toInt = 17
  · refine te_tsIn (k := 17) (p2 := 859) rfl e17 (by decide) (by decide) rfl (by decide) ?_
    exact lq_rowTold hi hl hb hI (fun h1 h2 I2 g1 g2 => kx h2 I2 (by (obtain ⟨A, Y, w, Z, H, M, O, T, W, B, S, U, K, L, E, J⟩ := hr); exact ⟨(R_A_fr (R_A_fr A g1 (by decide) (by decide)) g2 (by decide) (by decide)), (R_Y_fr (R_Y_fr Y g1 (by decide) (by decide)) g2 (by decide) (by decide)), (R_w_fr (R_w_fr w g1 (by decide) (by decide)) g2 (by decide) (by decide)), (R_Z_fr (R_Z_fr Z g1 (by decide) (by decide)) g2 (by decide) (by decide)), (R_H_fr (R_H_fr H g1 rfl rfl) g2 rfl rfl), (R_M_fr (R_M_fr M g1 (by decide) (by decide)) g2 (by decide) (by decide)), (R_O_fr (R_O_fr O g1 (by decide)) g2 (by decide)), (R_T_fr (R_T_fr T g1 rfl rfl) g2 rfl rfl), (R_W_fr (R_W_fr W g1 (fun _ => rfl) (fun _ => rfl)) g2 (fun _ => rfl) (fun _ => rfl)), (R_B_fr (R_B_fr B g1 (fun _ => rfl) (fun _ => rfl)) g2 (fun _ => rfl) (fun _ => rfl)), (R_S_fr (R_S_fr S g1 (fun s b hs => c4 (P := fun s => inF F_X11_rowTold (140 + 2 * s) b = false) rfl rfl rfl rfl s hs) (fun s b hs => c4 (P := fun s => inF F_X11_rowTold (141 + 2 * s) b = false) rfl rfl rfl rfl s hs) (fun _ => rfl) (fun _ => rfl) (fun _ => rfl)) g2 (fun s b hs => c4 (P := fun s => inF F_X12_rowTold (140 + 2 * s) b = false) rfl rfl rfl rfl s hs) (fun s b hs => c4 (P := fun s => inF F_X12_rowTold (141 + 2 * s) b = false) rfl rfl rfl rfl s hs) (fun _ => rfl) (fun _ => rfl) (fun _ => rfl)), (R_U_fr (R_U_fr U g1 (by decide)) g2 (by decide)), (R_K_fr (R_K_fr K g1 (by decide)) g2 (by decide)), (L_mono (R_L_fr (R_L_fr L g1 (by decide) (by decide) (by decide) (by decide)) g2 (by decide) (by decide) (by decide) (by decide))), (R_E_fr (R_E_fr E g1 rfl rfl) g2 rfl rfl), (R_J_fr (R_J_fr J g1 (by decide)) g2 (by decide))⟩))
  by_cases e18 : z.toInt = 18
  · refine te_tsIn (k := 18) (p2 := 892) rfl e18 (by decide) (by decide) rfl (by decide) ?_
    exact lq_railTold hi hl hb hI (fun h1 h2 I2 g1 g2 => kx h2 I2 (by (obtain ⟨A, Y, w, Z, H, M, O, T, W, B, S, U, K, L, E, J⟩ := hr); exact ⟨(R_A_fr (R_A_fr A g1 (by decide) (by decide)) g2 (by decide) (by decide)), (R_Y_fr (R_Y_fr Y g1 (by decide) (by decide)) g2 (by decide) (by decide)), (R_w_fr (R_w_fr w g1 (by decide) (by decide)) g2 (by decide) (by decide)), (R_Z_fr (R_Z_fr Z g1 (by decide) (by decide)) g2 (by decide) (by decide)), (R_H_fr (R_H_fr H g1 rfl rfl) g2 rfl rfl), (R_M_fr (R_M_fr M g1 (by decide) (by decide)) g2 (by decide) (by decide)), (R_O_fr (R_O_fr O g1 (by decide)) g2 (by decide)), (R_T_fr (R_T_fr T g1 rfl rfl) g2 rfl rfl), (R_W_fr (R_W_fr W g1 (fun _ => rfl) (fun _ => rfl)) g2 (fun _ => rfl) (fun _ => rfl)), (R_B_fr (R_B_fr B g1 (fun _ => rfl) (fun _ => rfl)) g2 (fun _ => rfl) (fun _ => rfl)), (R_S_fr (R_S_fr S g1 (fun s b hs => c4 (P := fun s => inF F_X11_railTold (140 + 2 * s) b = false) rfl rfl rfl rfl s hs) (fun s b hs => c4 (P := fun s => inF F_X11_railTold (141 + 2 * s) b = false) rfl rfl rfl rfl s hs) (fun _ => rfl) (fun _ => rfl) (fun _ => rfl)) g2 (fun s b hs => c4 (P := fun s => inF F_X12_railTold (140 + 2 * s) b = false) rfl rfl rfl rfl s hs) (fun s b hs => c4 (P := fun s => inF F_X12_railTold (141 + 2 * s) b = false) rfl rfl rfl rfl s hs) (fun _ => rfl) (fun _ => rfl) (fun _ => rfl)), (R_U_fr (R_U_fr U g1 (by decide)) g2 (by decide)), (R_K_fr (R_K_fr K g1 (by decide)) g2 (by decide)), (L_mono (R_L_fr (R_L_fr L g1 (by decide) (by decide) (by decide) (by decide)) g2 (by decide) (by decide) (by decide) (by decide))), (R_E_fr (R_E_fr E g1 rfl rfl) g2 rfl rfl), (R_J_fr (R_J_fr J g1 (by decide)) g2 (by decide))⟩))
  by_cases e19 : z.toInt = 19
  · refine te_tsIn (k := 19) (p2 := 925) rfl e19 (by decide) (by decide) rfl (by decide) ?_
    exact lq_wallTold hi hl hb hI (fun h1 h2 I2 g1 g2 => kx h2 I2 (by (obtain ⟨A, Y, w, Z, H, M, O, T, W, B, S, U, K, L, E, J⟩ := hr); exact ⟨(R_A_fr (R_A_fr A g1 (by decide) (by decide)) g2 (by decide) (by decide)), (R_Y_fr (R_Y_fr Y g1 (by decide) (by decide)) g2 (by decide) (by decide)), (R_w_fr (R_w_fr w g1 (by decide) (by decide)) g2 (by decide) (by decide)), (R_Z_fr (R_Z_fr Z g1 (by decide) (by decide)) g2 (by decide) (by decide)), (R_H_fr (R_H_fr H g1 rfl rfl) g2 rfl rfl), (R_M_fr (R_M_fr M g1 (by decide) (by decide)) g2 (by decide) (by decide)), (R_O_fr (R_O_fr O g1 (by decide)) g2 (by decide)), (R_T_fr (R_T_fr T g1 rfl rfl) g2 rfl rfl), (R_W_fr (R_W_fr W g1 (fun _ => rfl) (fun _ => rfl)) g2 (fun _ => rfl) (fun _ => rfl)), (R_B_fr (R_B_fr B g1 (fun _ => rfl) (fun _ => rfl)) g2 (fun _ => rfl) (fun _ => rfl)), (R_S_fr (R_S_fr S g1 (fun s b hs => c4 (P := fun s => inF F_X11_wallTold (140 + 2 * s) b = false) rfl rfl rfl rfl s hs) (fun s b hs => c4 (P := fun s => inF F_X11_wallTold (141 + 2 * s) b = false) rfl rfl rfl rfl s hs) (fun _ => rfl) (fun _ => rfl) (fun _ => rfl)) g2 (fun s b hs => c4 (P := fun s => inF F_X12_wallTold (140 + 2 * s) b = false) rfl rfl rfl rfl s hs) (fun s b hs => c4 (P := fun s => inF F_X12_wallTold (141 + 2 * s) b = false) rfl rfl rfl rfl s hs) (fun _ => rfl) (fun _ => rfl) (fun _ => rfl)), (R_U_fr (R_U_fr U g1 (by decide)) g2 (by decide)), (R_K_fr (R_K_fr K g1 (by decide)) g2 (by decide)), (L_mono (R_L_fr (R_L_fr L g1 (by decide) (by decide) (by decide) (by decide)) g2 (by decide) (by decide) (by decide) (by decide))), (R_E_fr (R_E_fr E g1 rfl rfl) g2 rfl rfl), (R_J_fr (R_J_fr J g1 (by decide)) g2 (by decide))⟩))
  by_cases e20 : z.toInt = 20
  · refine te_tsIn (k := 20) (p2 := 958) rfl e20 (by decide) (by decide) rfl (by decide) ?_
    exact lq_count hi hl hb hI (fun h1 h2 I2 g1 g2 => kx h2 I2 (by (obtain ⟨A, Y, w, Z, H, M, O, T, W, B, S, U, K, L, E, J⟩ := hr); exact ⟨(R_A_fr (R_A_fr A g1 (by decide) (by decide)) g2 (by decide) (by decide)), (R_Y_fr (R_Y_fr Y g1 (by decide) (by decide)) g2 (by decide) (by decide)), (R_w_fr (R_w_fr w g1 (by decide) (by decide)) g2 (by decide) (by decide)), (R_Z_fr (R_Z_fr Z g1 (by decide) (by decide)) g2 (by decide) (by decide)), (R_H_fr (R_H_fr H g1 rfl rfl) g2 rfl rfl), (R_M_fr (R_M_fr M g1 (by decide) (by decide)) g2 (by decide) (by decide)), (R_O_fr (R_O_fr O g1 (by decide)) g2 (by decide)), (R_T_fr (R_T_fr T g1 rfl rfl) g2 rfl rfl), (R_W_fr (R_W_fr W g1 (fun _ => rfl) (fun _ => rfl)) g2 (fun _ => rfl) (fun _ => rfl)), (R_B_fr (R_B_fr B g1 (fun _ => rfl) (fun _ => rfl)) g2 (fun _ => rfl) (fun _ => rfl)), (R_S_fr (R_S_fr S g1 (fun s b hs => c4 (P := fun s => inF F_X11_count (140 + 2 * s) b = false) rfl rfl rfl rfl s hs) (fun s b hs => c4 (P := fun s => inF F_X11_count (141 + 2 * s) b = false) rfl rfl rfl rfl s hs) (fun _ => rfl) (fun _ => rfl) (fun _ => rfl)) g2 (fun s b hs => c4 (P := fun s => inF F_X12_count (140 + 2 * s) b = false) rfl rfl rfl rfl s hs) (fun s b hs => c4 (P := fun s => inF F_X12_count (141 + 2 * s) b = false) rfl rfl rfl rfl s hs) (fun _ => rfl) (fun _ => rfl) (fun _ => rfl)), (R_U_fr (R_U_fr U g1 (by decide)) g2 (by decide)), (R_K_fr (R_K_fr K g1 (by decide)) g2 (by decide)), (L_mono (R_L_fr (R_L_fr L g1 (by decide) (by decide) (by decide) (by decide)) g2 (by decide) (by decide) (by decide) (by decide))), (R_E_fr (R_E_fr E g1 rfl rfl) g2 rfl rfl), (R_J_fr (R_J_fr J g1 (by decide)) g2 (by decide))⟩))
  by_cases e21 : z.toInt = 21
  · refine te_tsIn (k := 21) (p2 := 981) rfl e21 (by decide) (by decide) rfl (by decide) ?_
    exact lq_pull hi hl hb hI hN hr kx
  by_cases e22 : z.toInt = 22
  · refine te_tsIn (k := 22) (p2 := 1004) rfl e22 (by decide) (by decide) rfl (by decide) ?_
    exact lq_pulls hi hl hb hI hN hr kx
  by_cases e23 : z.toInt = 23
  · refine te_tsIn (k := 23) (p2 := 1027) rfl e23 (by decide) (by decide) rfl (by decide) ?_
    exact lq_pullTold hi hl hb hI (fun h1 h2 I2 g1 g2 => kx h2 I2 (by (obtain ⟨A, Y, w, Z, H, M, O, T, W, B, S, U, K, L, E, J⟩ := hr); exact ⟨(R_A_fr (R_A_fr A g1 (by decide) (by decide)) g2 (by decide) (by decide)), (R_Y_fr (R_Y_fr Y g1 (by decide) (by decide)) g2 (by decide) (by decide)), (R_w_fr (R_w_fr w g1 (by decide) (by decide)) g2 (by decide) (by decide)), (R_Z_fr (R_Z_fr Z g1 (by decide) (by decide)) g2 (by decide) (by decide)), (R_H_fr (R_H_fr H g1 rfl rfl) g2 rfl rfl), (R_M_fr (R_M_fr M g1 (by decide) (by decide)) g2 (by decide) (by decide)), (R_O_fr (R_O_fr O g1 (by decide)) g2 (by decide)), (R_T_fr (R_T_fr T g1 rfl rfl) g2 rfl rfl), (R_W_fr (R_W_fr W g1 (fun _ => rfl) (fun _ => rfl)) g2 (fun _ => rfl) (fun _ => rfl)), (R_B_fr (R_B_fr B g1 (fun _ => rfl) (fun _ => rfl)) g2 (fun _ => rfl) (fun _ => rfl)), (R_S_fr (R_S_fr S g1 (fun s b hs => c4 (P := fun s => inF F_X11_pullTold (140 + 2 * s) b = false) rfl rfl rfl rfl s hs) (fun s b hs => c4 (P := fun s => inF F_X11_pullTold (141 + 2 * s) b = false) rfl rfl rfl rfl s hs) (fun _ => rfl) (fun _ => rfl) (fun _ => rfl)) g2 (fun s b hs => c4 (P := fun s => inF F_X12_pullTold (140 + 2 * s) b = false) rfl rfl rfl rfl s hs) (fun s b hs => c4 (P := fun s => inF F_X12_pullTold (141 + 2 * s) b = false) rfl rfl rfl rfl s hs) (fun _ => rfl) (fun _ => rfl) (fun _ => rfl)), (R_U_fr (R_U_fr U g1 (by decide)) g2 (by decide)), (R_K_fr (R_K_fr K g1 (by decide)) g2 (by decide)), (L_mono (R_L_fr (R_L_fr L g1 (by decide) (by decide) (by decide) (by decide)) g2 (by decide) (by decide) (by decide) (by decide))), (R_E_fr (R_E_fr E g1 rfl rfl) g2 rfl rfl), (R_J_fr (R_J_fr J g1 (by decide)) g2 (by decide))⟩))
  by_cases e24 : z.toInt = 24
  · refine te_tsIn (k := 24) (p2 := 1050) rfl e24 (by decide) (by decide) rfl (by decide) ?_
    exact lq_mends hi hl hb hI hN hr kx
  by_cases e25 : z.toInt = 25
  · refine te_tsIn (k := 25) (p2 := 1073) rfl e25 (by decide) (by decide) rfl (by decide) ?_
    exact lq_mendTold hi hl hb hI hN hr kx
  by_cases e26 : z.toInt = 26
  · refine te_tsIn (k := 26) (p2 := 1086) rfl e26 (by decide) (by decide) rfl (by decide) ?_
    exact lq_mend hi hl hb hI hN hr kx
  by_cases e27 : z.toInt = 27
  · refine te_tsIn (k := 27) (p2 := 1109) rfl e27 (by decide) (by decide) rfl (by decide) ?_
    exact lq_roomTold hi hl hb hI (fun h1 h2 I2 g1 g2 => kx h2 I2 (by (obtain ⟨A, Y, w, Z, H, M, O, T, W, B, S, U, K, L, E, J⟩ := hr); exact ⟨(R_A_fr (R_A_fr A g1 (by decide) (by decide)) g2 (by decide) (by decide)), (R_Y_fr (R_Y_fr Y g1 (by decide) (by decide)) g2 (by decide) (by decide)), (R_w_fr (R_w_fr w g1 (by decide) (by decide)) g2 (by decide) (by decide)), (R_Z_fr (R_Z_fr Z g1 (by decide) (by decide)) g2 (by decide) (by decide)), (R_H_fr (R_H_fr H g1 rfl rfl) g2 rfl rfl), (R_M_fr (R_M_fr M g1 (by decide) (by decide)) g2 (by decide) (by decide)), (R_O_fr (R_O_fr O g1 (by decide)) g2 (by decide)), (R_T_fr (R_T_fr T g1 rfl rfl) g2 rfl rfl), (R_W_fr (R_W_fr W g1 (fun _ => rfl) (fun _ => rfl)) g2 (fun _ => rfl) (fun _ => rfl)), (R_B_fr (R_B_fr B g1 (fun _ => rfl) (fun _ => rfl)) g2 (fun _ => rfl) (fun _ => rfl)), (R_S_fr (R_S_fr S g1 (fun s b hs => c4 (P := fun s => inF F_X11_roomTold (140 + 2 * s) b = false) rfl rfl rfl rfl s hs) (fun s b hs => c4 (P := fun s => inF F_X11_roomTold (141 + 2 * s) b = false) rfl rfl rfl rfl s hs) (fun _ => rfl) (fun _ => rfl) (fun _ => rfl)) g2 (fun s b hs => c4 (P := fun s => inF F_X12_roomTold (140 + 2 * s) b = false) rfl rfl rfl rfl s hs) (fun s b hs => c4 (P := fun s => inF F_X12_roomTold (141 + 2 * s) b = false) rfl rfl rfl rfl s hs) (fun _ => rfl) (fun _ => rfl) (fun _ => rfl)), (R_U_fr (R_U_fr U g1 (by decide)) g2 (by decide)), (R_K_fr (R_K_fr K g1 (by decide)) g2 (by decide)), (L_mono (R_L_fr (R_L_fr L g1 (by decide) (by decide) (by decide) (by decide)) g2 (by decide) (by decide) (by decide) (by decide))), (R_E_fr (R_E_fr E g1 rfl rfl) g2 rfl rfl), (R_J_fr (R_J_fr J g1 (by decide)) g2 (by decide))⟩))
  by_cases e28 : z.toInt = 28
  · refine te_tsIn (k := 28) (p2 := 1142) rfl e28 (by decide) (by decide) rfl (by decide) ?_
    exact lq_raid hi hl hb hI (fun h1 h2 I2 g1 g2 => kx h2 I2 (by (obtain ⟨A, Y, w, Z, H, M, O, T, W, B, S, U, K, L, E, J⟩ := hr); exact ⟨(R_A_fr (R_A_fr A g1 (by decide) (by decide)) g2 (by decide) (by decide)), (R_Y_fr (R_Y_fr Y g1 (by decide) (by decide)) g2 (by decide) (by decide)), (R_w_fr (R_w_fr w g1 (by decide) (by decide)) g2 (by decide) (by decide)), (R_Z_fr (R_Z_fr Z g1 (by decide) (by decide)) g2 (by decide) (by decide)), (R_H_fr (R_H_fr H g1 rfl rfl) g2 rfl rfl), (R_M_fr (R_M_fr M g1 (by decide) (by decide)) g2 (by decide) (by decide)), (R_O_fr (R_O_fr O g1 (by decide)) g2 (by decide)), (R_T_fr (R_T_fr T g1 rfl rfl) g2 rfl rfl), (R_W_fr (R_W_fr W g1 (fun _ => rfl) (fun _ => rfl)) g2 (fun _ => rfl) (fun _ => rfl)), (R_B_fr (R_B_fr B g1 (fun _ => rfl) (fun _ => rfl)) g2 (fun _ => rfl) (fun _ => rfl)), (R_S_fr (R_S_fr S g1 (fun s b hs => c4 (P := fun s => inF F_X11_raid (140 + 2 * s) b = false) rfl rfl rfl rfl s hs) (fun s b hs => c4 (P := fun s => inF F_X11_raid (141 + 2 * s) b = false) rfl rfl rfl rfl s hs) (fun _ => rfl) (fun _ => rfl) (fun _ => rfl)) g2 (fun s b hs => c4 (P := fun s => inF F_X12_raid (140 + 2 * s) b = false) rfl rfl rfl rfl s hs) (fun s b hs => c4 (P := fun s => inF F_X12_raid (141 + 2 * s) b = false) rfl rfl rfl rfl s hs) (fun _ => rfl) (fun _ => rfl) (fun _ => rfl)), (R_U_fr (R_U_fr U g1 (by decide)) g2 (by decide)), (R_K_fr (R_K_fr K g1 (by decide)) g2 (by decide)), (L_mono (R_L_fr (R_L_fr L g1 (by decide) (by decide) (by decide) (by decide)) g2 (by decide) (by decide) (by decide) (by decide))), (R_E_fr (R_E_fr E g1 rfl rfl) g2 rfl rfl), (R_J_fr (R_J_fr J g1 (by decide)) g2 (by decide))⟩))
  by_cases e29 : z.toInt = 29
  · refine te_tsIn (k := 29) (p2 := 1195) rfl e29 (by decide) (by decide) rfl (by decide) ?_
    exact lq_probe hi hl hb hI (fun h1 h2 I2 g1 g2 => kx h2 I2 (by (obtain ⟨A, Y, w, Z, H, M, O, T, W, B, S, U, K, L, E, J⟩ := hr); exact ⟨(R_A_fr (R_A_fr A g1 (by decide) (by decide)) g2 (by decide) (by decide)), (R_Y_fr (R_Y_fr Y g1 (by decide) (by decide)) g2 (by decide) (by decide)), (R_w_fr (R_w_fr w g1 (by decide) (by decide)) g2 (by decide) (by decide)), (R_Z_fr (R_Z_fr Z g1 (by decide) (by decide)) g2 (by decide) (by decide)), (R_H_fr (R_H_fr H g1 rfl rfl) g2 rfl rfl), (R_M_fr (R_M_fr M g1 (by decide) (by decide)) g2 (by decide) (by decide)), (R_O_fr (R_O_fr O g1 (by decide)) g2 (by decide)), (R_T_fr (R_T_fr T g1 rfl rfl) g2 rfl rfl), (R_W_fr (R_W_fr W g1 (fun _ => rfl) (fun _ => rfl)) g2 (fun _ => rfl) (fun _ => rfl)), (R_B_fr (R_B_fr B g1 (fun _ => rfl) (fun _ => rfl)) g2 (fun _ => rfl) (fun _ => rfl)), (R_S_fr (R_S_fr S g1 (fun s b hs => c4 (P := fun s => inF F_X11_probe (140 + 2 * s) b = false) rfl rfl rfl rfl s hs) (fun s b hs => c4 (P := fun s => inF F_X11_probe (141 + 2 * s) b = false) rfl rfl rfl rfl s hs) (fun _ => rfl) (fun _ => rfl) (fun _ => rfl)) g2 (fun s b hs => c4 (P := fun s => inF F_X12_probe (140 + 2 * s) b = false) rfl rfl rfl rfl s hs) (fun s b hs => c4 (P := fun s => inF F_X12_probe (141 + 2 * s) b = false) rfl rfl rfl rfl s hs) (fun _ => rfl) (fun _ => rfl) (fun _ => rfl)), (R_U_fr (R_U_fr U g1 (by decide)) g2 (by decide)), (R_K_fr (R_K_fr K g1 (by decide)) g2 (by decide)), (L_mono (R_L_fr (R_L_fr L g1 (by decide) (by decide) (by decide) (by decide)) g2 (by decide) (by decide) (by decide) (by decide))), (R_E_fr (R_E_fr E g1 rfl rfl) g2 rfl rfl), (R_J_fr (R_J_fr J g1 (by decide)) g2 (by decide))⟩))
  by_cases e30 : z.toInt = 30
  · refine te_tsIn (k := 30) (p2 := 1228) rfl e30 (by decide) (by decide) rfl (by decide) ?_
    exact lq_likely hi hl hb hI (fun h1 h2 I2 g1 g2 => kx h2 I2 (by (obtain ⟨A, Y, w, Z, H, M, O, T, W, B, S, U, K, L, E, J⟩ := hr); exact ⟨(R_A_fr (R_A_fr A g1 (by decide) (by decide)) g2 (by decide) (by decide)), (R_Y_fr (R_Y_fr Y g1 (by decide) (by decide)) g2 (by decide) (by decide)), (R_w_fr (R_w_fr w g1 (by decide) (by decide)) g2 (by decide) (by decide)), (R_Z_fr (R_Z_fr Z g1 (by decide) (by decide)) g2 (by decide) (by decide)), (R_H_fr (R_H_fr H g1 rfl rfl) g2 rfl rfl), (R_M_fr (R_M_fr M g1 (by decide) (by decide)) g2 (by decide) (by decide)), (R_O_fr (R_O_fr O g1 (by decide)) g2 (by decide)), (R_T_fr (R_T_fr T g1 rfl rfl) g2 rfl rfl), (R_W_fr (R_W_fr W g1 (fun _ => rfl) (fun _ => rfl)) g2 (fun _ => rfl) (fun _ => rfl)), (R_B_fr (R_B_fr B g1 (fun _ => rfl) (fun _ => rfl)) g2 (fun _ => rfl) (fun _ => rfl)), (R_S_fr (R_S_fr S g1 (fun s b hs => c4 (P := fun s => inF F_X11_likely (140 + 2 * s) b = false) rfl rfl rfl rfl s hs) (fun s b hs => c4 (P := fun s => inF F_X11_likely (141 + 2 * s) b = false) rfl rfl rfl rfl s hs) (fun _ => rfl) (fun _ => rfl) (fun _ => rfl)) g2 (fun s b hs => c4 (P := fun s => inF F_X12_likely (140 + 2 * s) b = false) rfl rfl rfl rfl s hs) (fun s b hs => c4 (P := fun s => inF F_X12_likely (141 + 2 * s) b = false) rfl rfl rfl rfl s hs) (fun _ => rfl) (fun _ => rfl) (fun _ => rfl)), (R_U_fr (R_U_fr U g1 (by decide)) g2 (by decide)), (R_K_fr (R_K_fr K g1 (by decide)) g2 (by decide)), (L_mono (R_L_fr (R_L_fr L g1 (by decide) (by decide) (by decide) (by decide)) g2 (by decide) (by decide) (by decide) (by decide))), (R_E_fr (R_E_fr E g1 rfl rfl) g2 rfl rfl), (R_J_fr (R_J_fr J g1 (by decide)) g2 (by decide))⟩))
  by_cases e31 : z.toInt = 31
  · refine te_tsIn (k := 31) (p2 := 1261) rfl e31 (by decide) (by decide) rfl (by decide) ?_
    exact lq_next hi hl hb hI (fun h1 h2 I2 g1 g2 => kx h2 I2 (by (obtain ⟨A, Y, w, Z, H, M, O, T, W, B, S, U, K, L, E, J⟩ := hr); exact ⟨(R_A_fr (R_A_fr A g1 (by decide) (by decide)) g2 (by decide) (by decide)), (R_Y_fr (R_Y_fr Y g1 (by decide) (by decide)) g2 (by decide) (by decide)), (R_w_fr (R_w_fr w g1 (by decide) (by decide)) g2 (by decide) (by decide)), (R_Z_fr (R_Z_fr Z g1 (by decide) (by decide)) g2 (by decide) (by decide)), (R_H_fr (R_H_fr H g1 rfl rfl) g2 rfl rfl), (R_M_fr (R_M_fr M g1 (by decide) (by decide)) g2 (by decide) (by decide)), (R_O_fr (R_O_fr O g1 (by decide)) g2 (by decide)), (R_T_fr (R_T_fr T g1 rfl rfl) g2 rfl rfl), (R_W_fr (R_W_fr W g1 (fun _ => rfl) (fun _ => rfl)) g2 (fun _ => rfl) (fun _ => rfl)), (R_B_fr (R_B_fr B g1 (fun _ => rfl) (fun _ => rfl)) g2 (fun _ => rfl) (fun _ => rfl)), (R_S_fr (R_S_fr S g1 (fun s b hs => c4 (P := fun s => inF F_X11_next (140 + 2 * s) b = false) rfl rfl rfl rfl s hs) (fun s b hs => c4 (P := fun s => inF F_X11_next (141 + 2 * s) b = false) rfl rfl rfl rfl s hs) (fun _ => rfl) (fun _ => rfl) (fun _ => rfl)) g2 (fun s b hs => c4 (P := fun s => inF F_X12_next (140 + 2 * s) b = false) rfl rfl rfl rfl s hs) (fun s b hs => c4 (P := fun s => inF F_X12_next (141 + 2 * s) b = false) rfl rfl rfl rfl s hs) (fun _ => rfl) (fun _ => rfl) (fun _ => rfl)), (R_U_fr (R_U_fr U g1 (by decide)) g2 (by decide)), (R_K_fr (R_K_fr K g1 (by decide)) g2 (by decide)), (L_mono (R_L_fr (R_L_fr L g1 (by decide) (by decide) (by decide) (by decide)) g2 (by decide) (by decide) (by decide) (by decide))), (R_E_fr (R_E_fr E g1 rfl rfl) g2 rfl rfl), (R_J_fr (R_J_fr J g1 (by decide)) g2 (by decide))⟩))
  by_cases e32 : z.toInt = 32
  · refine te_tsIn (k := 32) (p2 := 1274) rfl e32 (by decide) (by decide) rfl (by decide) ?_
    exact lq_paper hi hl hb hI (fun h1 h2 I2 g1 g2 => kx h2 I2 (by (obtain ⟨A, Y, w, Z, H, M, O, T, W, B, S, U, K, L, E, J⟩ := hr); exact ⟨(R_A_fr (R_A_fr A g1 (by decide) (by decide)) g2 (by decide) (by decide)), (R_Y_fr (R_Y_fr Y g1 (by decide) (by decide)) g2 (by decide) (by decide)), (R_w_fr (R_w_fr w g1 (by decide) (by decide)) g2 (by decide) (by decide)), (R_Z_fr (R_Z_fr Z g1 (by decide) (by decide)) g2 (by decide) (by decide)), (R_H_fr (R_H_fr H g1 rfl rfl) g2 rfl rfl), (R_M_fr (R_M_fr M g1 (by decide) (by decide)) g2 (by decide) (by decide)), (R_O_fr (R_O_fr O g1 (by decide)) g2 (by decide)), (R_T_fr (R_T_fr T g1 rfl rfl) g2 rfl rfl), (R_W_fr (R_W_fr W g1 (fun _ => rfl) (fun _ => rfl)) g2 (fun _ => rfl) (fun _ => rfl)), (R_B_fr (R_B_fr B g1 (fun _ => rfl) (fun _ => rfl)) g2 (fun _ => rfl) (fun _ => rfl)), (R_S_fr (R_S_fr S g1 (fun s b hs => c4 (P := fun s => inF F_X11_paper (140 + 2 * s) b = false) rfl rfl rfl rfl s hs) (fun s b hs => c4 (P := fun s => inF F_X11_paper (141 + 2 * s) b = false) rfl rfl rfl rfl s hs) (fun _ => rfl) (fun _ => rfl) (fun _ => rfl)) g2 (fun s b hs => c4 (P := fun s => inF F_X12_paper (140 + 2 * s) b = false) rfl rfl rfl rfl s hs) (fun s b hs => c4 (P := fun s => inF F_X12_paper (141 + 2 * s) b = false) rfl rfl rfl rfl s hs) (fun _ => rfl) (fun _ => rfl) (fun _ => rfl)), (R_U_fr (R_U_fr U g1 (by decide)) g2 (by decide)), (R_K_fr (R_K_fr K g1 (by decide)) g2 (by decide)), (L_mono (R_L_fr (R_L_fr L g1 (by decide) (by decide) (by decide) (by decide)) g2 (by decide) (by decide) (by decide) (by decide))), (R_E_fr (R_E_fr E g1 rfl rfl) g2 rfl rfl), (R_J_fr (R_J_fr J g1 (by decide)) g2 (by decide))⟩))
  by_cases e33 : z.toInt = 33
  · refine te_tsIn (k := 33) (p2 := 1317) rfl e33 (by decide) (by decide) rfl (by decide) ?_
    exact lq_burn hi hl hb hI (fun h1 h2 I2 g1 g2 => kx h2 I2 (by (obtain ⟨A, Y, w, Z, H, M, O, T, W, B, S, U, K, L, E, J⟩ := hr); exact ⟨(R_A_fr (R_A_fr A g1 (by decide) (by decide)) g2 (by decide) (by decide)), (R_Y_fr (R_Y_fr Y g1 (by decide) (by decide)) g2 (by decide) (by decide)), (R_w_fr (R_w_fr w g1 (by decide) (by decide)) g2 (by decide) (by decide)), (R_Z_fr (R_Z_fr Z g1 (by decide) (by decide)) g2 (by decide) (by decide)), (R_H_fr (R_H_fr H g1 rfl rfl) g2 rfl rfl), (R_M_fr (R_M_fr M g1 (by decide) (by decide)) g2 (by decide) (by decide)), (R_O_fr (R_O_fr O g1 (by decide)) g2 (by decide)), (R_T_fr (R_T_fr T g1 rfl rfl) g2 rfl rfl), (R_W_fr (R_W_fr W g1 (fun _ => rfl) (fun _ => rfl)) g2 (fun _ => rfl) (fun _ => rfl)), (R_B_fr (R_B_fr B g1 (fun _ => rfl) (fun _ => rfl)) g2 (fun _ => rfl) (fun _ => rfl)), (R_S_fr (R_S_fr S g1 (fun s b hs => c4 (P := fun s => inF F_X11_burn (140 + 2 * s) b = false) rfl rfl rfl rfl s hs) (fun s b hs => c4 (P := fun s => inF F_X11_burn (141 + 2 * s) b = false) rfl rfl rfl rfl s hs) (fun _ => rfl) (fun _ => rfl) (fun _ => rfl)) g2 (fun s b hs => c4 (P := fun s => inF F_X12_burn (140 + 2 * s) b = false) rfl rfl rfl rfl s hs) (fun s b hs => c4 (P := fun s => inF F_X12_burn (141 + 2 * s) b = false) rfl rfl rfl rfl s hs) (fun _ => rfl) (fun _ => rfl) (fun _ => rfl)), (R_U_fr (R_U_fr U g1 (by decide)) g2 (by decide)), (R_K_fr (R_K_fr K g1 (by decide)) g2 (by decide)), (L_mono (R_L_fr (R_L_fr L g1 (by decide) (by decide) (by decide) (by decide)) g2 (by decide) (by decide) (by decide) (by decide))), (R_E_fr (R_E_fr E g1 rfl rfl) g2 rfl rfl), (R_J_fr (R_J_fr J g1 (by decide)) g2 (by decide))⟩))
  by_cases e34 : z.toInt = 34
  · refine te_tsIn (k := 34) (p2 := 1340) rfl e34 (by decide) (by decide) rfl (by decide) ?_
    exact lq_owner hi hl hb hI (fun h1 h2 I2 g1 g2 => kx h2 I2 (by (obtain ⟨A, Y, w, Z, H, M, O, T, W, B, S, U, K, L, E, J⟩ := hr); exact ⟨(R_A_fr (R_A_fr A g1 (by decide) (by decide)) g2 (by decide) (by decide)), (R_Y_fr (R_Y_fr Y g1 (by decide) (by decide)) g2 (by decide) (by decide)), (R_w_fr (R_w_fr w g1 (by decide) (by decide)) g2 (by decide) (by decide)), (R_Z_fr (R_Z_fr Z g1 (by decide) (by decide)) g2 (by decide) (by decide)), (R_H_fr (R_H_fr H g1 rfl rfl) g2 rfl rfl), (R_M_fr (R_M_fr M g1 (by decide) (by decide)) g2 (by decide) (by decide)), (R_O_fr (R_O_fr O g1 (by decide)) g2 (by decide)), (R_T_fr (R_T_fr T g1 rfl rfl) g2 rfl rfl), (R_W_fr (R_W_fr W g1 (fun _ => rfl) (fun _ => rfl)) g2 (fun _ => rfl) (fun _ => rfl)), (R_B_fr (R_B_fr B g1 (fun _ => rfl) (fun _ => rfl)) g2 (fun _ => rfl) (fun _ => rfl)), (R_S_fr (R_S_fr S g1 (fun s b hs => c4 (P := fun s => inF F_X11_owner (140 + 2 * s) b = false) rfl rfl rfl rfl s hs) (fun s b hs => c4 (P := fun s => inF F_X11_owner (141 + 2 * s) b = false) rfl rfl rfl rfl s hs) (fun _ => rfl) (fun _ => rfl) (fun _ => rfl)) g2 (fun s b hs => c4 (P := fun s => inF F_X12_owner (140 + 2 * s) b = false) rfl rfl rfl rfl s hs) (fun s b hs => c4 (P := fun s => inF F_X12_owner (141 + 2 * s) b = false) rfl rfl rfl rfl s hs) (fun _ => rfl) (fun _ => rfl) (fun _ => rfl)), (R_U_fr (R_U_fr U g1 (by decide)) g2 (by decide)), (R_K_fr (R_K_fr K g1 (by decide)) g2 (by decide)), (L_mono (R_L_fr (R_L_fr L g1 (by decide) (by decide) (by decide) (by decide)) g2 (by decide) (by decide) (by decide) (by decide))), (R_E_fr (R_E_fr E g1 rfl rfl) g2 rfl rfl), (R_J_fr (R_J_fr J g1 (by decide)) g2 (by decide))⟩))
  by_cases e35 : z.toInt = 35
  · refine te_tsIn (k := 35) (p2 := 1383) rfl e35 (by decide) (by decide) rfl (by decide) ?_
    exact lq_heirs hi hl hb hI (fun h1 h2 I2 g1 g2 => kx h2 I2 (by (obtain ⟨A, Y, w, Z, H, M, O, T, W, B, S, U, K, L, E, J⟩ := hr); exact ⟨(R_A_fr (R_A_fr A g1 (by decide) (by decide)) g2 (by decide) (by decide)), (R_Y_fr (R_Y_fr Y g1 (by decide) (by decide)) g2 (by decide) (by decide)), (R_w_fr (R_w_fr w g1 (by decide) (by decide)) g2 (by decide) (by decide)), (R_Z_fr (R_Z_fr Z g1 (by decide) (by decide)) g2 (by decide) (by decide)), (R_H_fr (R_H_fr H g1 rfl rfl) g2 rfl rfl), (R_M_fr (R_M_fr M g1 (by decide) (by decide)) g2 (by decide) (by decide)), (R_O_fr (R_O_fr O g1 (by decide)) g2 (by decide)), (R_T_fr (R_T_fr T g1 rfl rfl) g2 rfl rfl), (R_W_fr (R_W_fr W g1 (fun _ => rfl) (fun _ => rfl)) g2 (fun _ => rfl) (fun _ => rfl)), (R_B_fr (R_B_fr B g1 (fun _ => rfl) (fun _ => rfl)) g2 (fun _ => rfl) (fun _ => rfl)), (R_S_fr (R_S_fr S g1 (fun s b hs => c4 (P := fun s => inF F_X11_heirs (140 + 2 * s) b = false) rfl rfl rfl rfl s hs) (fun s b hs => c4 (P := fun s => inF F_X11_heirs (141 + 2 * s) b = false) rfl rfl rfl rfl s hs) (fun _ => rfl) (fun _ => rfl) (fun _ => rfl)) g2 (fun s b hs => c4 (P := fun s => inF F_X12_heirs (140 + 2 * s) b = false) rfl rfl rfl rfl s hs) (fun s b hs => c4 (P := fun s => inF F_X12_heirs (141 + 2 * s) b = false) rfl rfl rfl rfl s hs) (fun _ => rfl) (fun _ => rfl) (fun _ => rfl)), (R_U_fr (R_U_fr U g1 (by decide)) g2 (by decide)), (R_K_fr (R_K_fr K g1 (by decide)) g2 (by decide)), (L_mono (R_L_fr (R_L_fr L g1 (by decide) (by decide) (by decide) (by decide)) g2 (by decide) (by decide) (by decide) (by decide))), (R_E_fr (R_E_fr E g1 rfl rfl) g2 rfl rfl), (R_J_fr (R_J_fr J g1 (by decide)) g2 (by decide))⟩))
  by_cases e36 : z.toInt = 36
  · refine te_tsIn (k := 36) (p2 := 1426) rfl e36 (by decide) (by decide) rfl (by decide) ?_
    exact lq_beside hi hl hb hI hN hr kx
  by_cases e37 : z.toInt = 37
  · refine te_tsIn (k := 37) (p2 := 1459) rfl e37 (by decide) (by decide) rfl (by decide) ?_
    exact lq_clear hi hl hb hI hN hr kx
  by_cases e38 : z.toInt = 38
  · refine te_tsIn (k := 38) (p2 := 1492) rfl e38 (by decide) (by decide) rfl (by decide) ?_
    exact lq_image hi hl hb hI hN hr kx
  by_cases e39 : z.toInt = 39
  · refine te_tsIn (k := 39) (p2 := 1505) rfl e39 (by decide) (by decide) rfl (by decide) ?_
    exact lq_back hi hl hb hI hN hr kx
  by_cases e40 : z.toInt = 40
  · refine te_tsIn (k := 40) (p2 := 1518) rfl e40 (by decide) (by decide) rfl (by decide) ?_
    exact lq_sheet hi hl hb hI hN hr kx
  by_cases e41 : z.toInt = 41
  · refine te_tsIn (k := 41) (p2 := 1561) rfl e41 (by decide) (by decide) rfl (by decide) ?_
    exact lq_cell hi hl hb hI hN hr kx
  by_cases e42 : z.toInt = 42
  · refine te_tsIn (k := 42) (p2 := 1604) rfl e42 (by decide) (by decide) rfl (by decide) ?_
    exact lq_copy hi hl hb hI hN hr kx
  by_cases e43 : z.toInt = 43
  · refine te_tsIn (k := 43) (p2 := 1667) rfl e43 (by decide) (by decide) rfl (by decide) ?_
    exact lq_people hi hl hb hI hN hr kx
  by_cases e44 : z.toInt = 44
  · refine te_tsIn (k := 44) (p2 := 1720) rfl e44 (by decide) (by decide) rfl (by decide) ?_
    exact lq_taken hi hl hb hI (fun h1 h2 I2 g1 g2 => kx h2 I2 (by (obtain ⟨A, Y, w, Z, H, M, O, T, W, B, S, U, K, L, E, J⟩ := hr); exact ⟨(R_A_fr (R_A_fr A g1 (by decide) (by decide)) g2 (by decide) (by decide)), (R_Y_fr (R_Y_fr Y g1 (by decide) (by decide)) g2 (by decide) (by decide)), (R_w_fr (R_w_fr w g1 (by decide) (by decide)) g2 (by decide) (by decide)), (R_Z_fr (R_Z_fr Z g1 (by decide) (by decide)) g2 (by decide) (by decide)), (R_H_fr (R_H_fr H g1 rfl rfl) g2 rfl rfl), (R_M_fr (R_M_fr M g1 (by decide) (by decide)) g2 (by decide) (by decide)), (R_O_fr (R_O_fr O g1 (by decide)) g2 (by decide)), (R_T_fr (R_T_fr T g1 rfl rfl) g2 rfl rfl), (R_W_fr (R_W_fr W g1 (fun _ => rfl) (fun _ => rfl)) g2 (fun _ => rfl) (fun _ => rfl)), (R_B_fr (R_B_fr B g1 (fun _ => rfl) (fun _ => rfl)) g2 (fun _ => rfl) (fun _ => rfl)), (R_S_fr (R_S_fr S g1 (fun s b hs => c4 (P := fun s => inF F_X11_taken (140 + 2 * s) b = false) rfl rfl rfl rfl s hs) (fun s b hs => c4 (P := fun s => inF F_X11_taken (141 + 2 * s) b = false) rfl rfl rfl rfl s hs) (fun _ => rfl) (fun _ => rfl) (fun _ => rfl)) g2 (fun s b hs => c4 (P := fun s => inF F_X12_taken (140 + 2 * s) b = false) rfl rfl rfl rfl s hs) (fun s b hs => c4 (P := fun s => inF F_X12_taken (141 + 2 * s) b = false) rfl rfl rfl rfl s hs) (fun _ => rfl) (fun _ => rfl) (fun _ => rfl)), (R_U_fr (R_U_fr U g1 (by decide)) g2 (by decide)), (R_K_fr (R_K_fr K g1 (by decide)) g2 (by decide)), (L_mono (R_L_fr (R_L_fr L g1 (by decide) (by decide) (by decide) (by decide)) g2 (by decide) (by decide) (by decide) (by decide))), (R_E_fr (R_E_fr E g1 rfl rfl) g2 rfl rfl), (R_J_fr (R_J_fr J g1 (by decide)) g2 (by decide))⟩))
  exact te_tsOut (p2 := 1753) rfl (by omega) (by decide) (kx h hI (rel_mono hr))
set_option maxRecDepth 10000 in
set_option maxHeartbeats 2000000 in
theorem lk_head {l : List Int32} {i : Int32} {h : im_H} {Q : Option Value → im_H → Prop} {n : Nat} (hb : l.length < 2147483648) (hi : i.toInt = n) (k1 : (l.length : Int) < n + 6 → EvP (im_K1 l) 20 mL_law (1759, lwL i, [], h) Q) (k2 : ¬ (l.length : Int) < n + 6 → EvP (im_K1 l) 20 mL_law (27, lwL i, [], h) Q) : EvP (im_K1 l) 20 mL_law (18, lwL i, [], h) Q := by
  have e1 : Int32.toInt (Int32.ofNat l.length) = l.length := Int32.toInt_ofNat_of_lt hb
  have e2 : Int32.toInt (Int32.ofNat l.length - 6) = l.length - 6 := by rw [i32_subE (show Int32.toInt 6 = 6 from rfl) (by omega) (by omega), e1]
  refine te_iload_n (p2 := 19) rfl rfl rfl ?_
  refine te_aload_n (p2 := 20) rfl rfl rfl ?_
  refine te_slen (p2 := 21) (R := 5) (l := l) rfl rfl (by decide) rfl rfl ?_
  refine te_bipush (p2 := 23) (x := 6) rfl rfl (by decide) ?_
  refine te_isub (p2 := 24) (z := Int32.ofNat l.length - 6) rfl rfl rfl ?_
  exact tb_gt (p2 := 27) rfl rfl hi e2 (fun hc => k1 (by omega)) (fun hc => k2 (by omega))
set_option maxRecDepth 10000 in
set_option maxHeartbeats 2000000 in
theorem lk_loop {l : List Int32} (hN : l.length ≤ 3072) (hb : l.length < 2147483648 - 6) : ∀ (m n : Nat) (i : Int32) (h : im_H), i.toInt = n → l.length < n + 6 * m → tI h → rel n h → EvP (im_K1 l) 20 mL_law (18, lwL i, [], h) (fun v h2 => v = some (.int 1) ∧ tI h2) := by
  intro m
  induction m with
  | zero =>
    intro n i h hi hm hI hr
    refine lk_head (by omega) hi (fun _ => ?_) (fun hc => by exfalso; omega)
    refine te_iconst (p2 := 1760) (x := 1) rfl rfl (by decide) ?_
    exact te_zret rfl rfl (by decide) ⟨rfl, hI⟩
  | succ m ih =>
    intro n i h hi hm hI hr
    refine lk_head (by omega) hi (fun _ => ?_) (fun hc => ?_)
    · refine te_iconst (p2 := 1760) (x := 1) rfl rfl (by decide) ?_
      exact te_zret rfl rfl (by decide) ⟨rfl, hI⟩
    · refine lk_ops hi (by omega) (by omega) hI hN hr (fun h2 I2 r2 => ?_)
      refine ar_inc (p2 := 1756) (x := i) rfl rfl (by decide) rfl (by decide) hi (by omega) (by omega) (fun z e f => ?_)
      show EvP _ _ _ (1756, lwL z, [], h2) _
      refine te_goto rfl ?_
      exact ih (n + 6) z h2 (by rw [f]; omega) (by omega) I2 r2
set_option maxRecDepth 10000 in
set_option maxHeartbeats 2000000 in
theorem lk_in {l : List Int32} {Q : Option Value → im_H → Prop} (kx : EvP (im_K1 l) 20 mL_law (18, lwL 0, [], hh) Q) : EvP (im_K1 l) 20 mL_law (0, [(0, .ref 5)], [], []) Q := by
  refine te_new (p2 := 3) (tys := im_fty.getD 11 []) (R := 16) rfl rfl rfl rfl ?_
  refine te_dup (p2 := 4) rfl rfl rfl ?_
  refine evp (fun r => st_callI (R := 16) rfl rfl rfl rfl (ca_dec (d := 8) (by decide) init_X)) ?_
  show EvP _ _ _ (7, [(0, .ref 5)], [.ref 16], hX) _
  refine te_astore_n (p2 := 8) (lv2 := [(1, .ref 16), (0, .ref 5)]) rfl rfl (by decide) rfl ?_
  refine te_new (p2 := 11) (tys := im_fty.getD 12 []) (R := 164) rfl rfl rfl rfl ?_
  refine te_dup (p2 := 12) rfl rfl rfl ?_
  refine evp (fun r => st_callI (R := 164) rfl rfl rfl rfl (ca_dec (d := 8) (by decide) init_M)) ?_
  show EvP _ _ _ (15, [(1, .ref 16), (0, .ref 5)], [.ref 164], hh) _
  refine te_astore_n (p2 := 16) (lv2 := [(2, .ref 164), (1, .ref 16), (0, .ref 5)]) rfl rfl (by decide) rfl ?_
  refine te_iconst (p2 := 17) (x := 0) rfl rfl (by decide) ?_
  refine te_istore_n (p2 := 18) (lv2 := lwL 0) rfl rfl (by decide) rfl ?_
  exact kx
set_option maxRecDepth 20000 in
theorem hh_r1 : ∀ r, r < 4 → rv hh 161 r = 0 ∧ rv hh (12 + 2 * r) 1 = 0 ∧ rv hh (12 + 2 * r) 2 = rv hh 162 r ∧ rv hh (12 + 2 * r) 3 = rv hh 163 r ∧ ∀ i, i < 8 → rv hh (13 + 2 * r) i = rv hh 160 (8 * r + i) := by decide +kernel
set_option maxRecDepth 20000 in
theorem hh_r2 : ∀ r, r < 3 → rv hh 165 r = 0 ∧ rv hh (20 + r) 0 = 0 ∧ rv hh (20 + r) 1 = 0 ∧ rv hh 166 r = 0 := by decide +kernel
theorem hh_in {r p : Nat} (hr : r < 4) : ¬ inR hh r p := by
  rintro ⟨i, hi, _⟩
  rw [(hh_r1 r hr).1] at hi
  exact absurd hi (Nat.not_lt_zero i)
theorem u_hh : uniM hh := fun r r' p h1 h2 h3 ha => absurd ha (hh_in h1)
theorem hh_ro {p : Nat} : roR hh p 4 0 = -1 := by
  rw [roR_4]
  unfold fst4
  rw [if_neg (hh_in (by decide)), if_neg (hh_in (by decide)), if_neg (hh_in (by decide)), if_neg (hh_in (by decide))]
set_option maxRecDepth 20000 in
theorem hh_c1 : (∀ k, k < 100 → rv hh 2 k = rv hh 152 k) ∧ rv hh 1 1 = rv hh 148 9 ∧ rv hh 1 2 = rv hh 148 10 ∧ (∀ k, k < 24 → rv hh 3 k = rv hh 157 k ∧ rv hh 4 k = rv hh 158 k ∧ rv hh 5 k = rv hh 159 k ∧ rv hh 6 k = -1) ∧ rv hh 1 9 = rv hh 148 21 ∧ (∀ k, k < 16 → rv hh 9 k = rv hh 167 k ∧ rv hh 10 k = rv hh 168 k) := by decide +kernel
theorem a_hh : cX hh = cM hh := by
  obtain ⟨k1, k2, k3, k4, k5, k6⟩ := hh_c1
  have e6 : gd 24 (rv hh 6) = gd 24 (fun p => roR hh p 4 0) := gd_c (fun k hk => (k4 k hk).2.2.2.trans hh_ro.symm)
  have e1 : (fun r i => if r < 4 ∧ i < 8 then rv hh (13 + 2 * r) i else 0 : Nat → Nat → Int32) = fun r i => if r < 4 ∧ i < 8 then rv hh 160 (8 * r + i) else 0 := by
    funext r i
    by_cases hc : r < 4 ∧ i < 8
    · rw [if_pos hc, if_pos hc, (hh_r1 r hc.1).2.2.2.2 i hc.2]
    · rw [if_neg hc, if_neg hc]
  have e2 : (fun r => if r < 3 ∧ 2 ≤ (rv hh (20 + r) 0).toInt then rv hh (20 + r) 2 else 0 : Nat → Int32) = fun r => if r < 3 ∧ 2 ≤ (rv hh 165 r).toInt then rv hh 164 (12 * r) else 0 := by
    funext r
    by_cases hc : r < 3
    · rw [(hh_r2 r hc).1, (hh_r2 r hc).2.1, if_neg (fun q => absurd q.2 (by decide)), if_neg (fun q => absurd q.2 (by decide))]
    · rw [if_neg (fun q => hc q.1), if_neg (fun q => hc q.1)]
  have e3 : (fun r => if r < 3 ∧ 2 ≤ (rv hh (20 + r) 0).toInt then rv hh (20 + r) 3 else 0 : Nat → Int32) = fun r => if r < 3 ∧ 2 ≤ (rv hh 165 r).toInt then rv hh 164 (12 * r + ((rv hh 165 r).toInt.toNat - 1)) else 0 := by
    funext r
    by_cases hc : r < 3
    · rw [(hh_r2 r hc).1, (hh_r2 r hc).2.1, if_neg (fun q => absurd q.2 (by decide)), if_neg (fun q => absurd q.2 (by decide))]
    · rw [if_neg (fun q => hc q.1), if_neg (fun q => hc q.1)]
  unfold cX cM ctX ctM
  rw [gd_c k1, k2, k3, gd_c (fun k hk => (k4 k hk).1), gd_c (fun k hk => (k4 k hk).2.1), gd_c (fun k hk => (k4 k hk).2.2.1), e6, e1, gd_c (n := 4) (f := fun r => rv hh (12 + 2 * r) 1) (g := rv hh 161) (fun r hr => (hh_r1 r hr).2.1.trans (hh_r1 r hr).1.symm), gd_c (n := 4) (f := fun r => rv hh (12 + 2 * r) 2) (g := rv hh 162) (fun r hr => (hh_r1 r hr).2.2.1), gd_c (n := 4) (f := fun r => rv hh (12 + 2 * r) 3) (g := rv hh 163) (fun r hr => (hh_r1 r hr).2.2.2.1), gd_c (n := 3) (f := fun r => rv hh (20 + r) 0) (g := rv hh 165) (fun r hr => (hh_r2 r hr).2.1.trans (hh_r2 r hr).1.symm), gd_c (n := 3) (f := fun r => rv hh (20 + r) 1) (g := rv hh 166) (fun r hr => (hh_r2 r hr).2.2.1.trans (hh_r2 r hr).2.2.2.symm), e2, e3, k5, gd_c (fun k hk => (k6 k hk).1), gd_c (fun k hk => (k6 k hk).2)]
set_option maxRecDepth 20000 in
theorem hh_z : ∀ k, k < 283 → (rv hh 149 k = if 140 ≤ k ∧ k < 164 then -1 else 0) ∧ (rv hh 151 k = 0) := by decide +kernel
set_option maxRecDepth 20000 in
theorem hh_s : (∀ k, k < 5 → rv hh 23 k = 0) ∧ (∀ k, k < 100 → rv hh 25 k = 0) ∧ (∀ k, k < 24 → rv hh 26 k = -1 ∧ rv hh 27 k = 0 ∧ rv hh 28 k = 0 ∧ rv hh 30 k = 0) ∧ (∀ k, k < 16 → rv hh 31 k = 0 ∧ rv hh 32 k = 0) ∧ (∀ k, k < 12 → rv hh 33 k = 0) ∧ (∀ k, k < 4 → rv hh 34 k = 0 ∧ rv hh 35 k = 0) ∧ (∀ k, k < 3 → rv hh 36 k = 0 ∧ rv hh 24 k = 0) := by decide +kernel
theorem hh_m {k : Nat} (h : k < 140 ∨ (164 ≤ k ∧ k < 283)) : rv hh 149 k = 0 := by
  rw [(hh_z k (by omega)).1, if_neg (by omega)]
theorem y_hh : absX hh 23 = absM hh := by
  obtain ⟨s0, s1, s2, s3, s4, s5, s6⟩ := hh_s
  have em : mhu (rv hh (23 + 7)) (rv hh (23 + 4)) = mhu (rM hh 236) (rM hh 164) := by
    funext m
    unfold mhu rM
    by_cases hm : m < 24
    · rw [show rv hh (23 + 7) m = 0 from (s2 m hm).2.2.2, show rv hh (23 + 4) m = 0 from (s2 m hm).2.1, hh_m (by omega), hh_m (by omega)]
    · rw [if_neg (fun q => hm q.1), if_neg (fun q => hm q.1)]
  unfold absX absM
  rw [em, gd_c (n := 100) (g := rM hh 0) (fun k hk => (s1 k hk).trans (hh_m (k := 0 + k) (by omega)).symm), gd_c (n := 24) (f := rv hh (23 + 3)) (g := rM hh 140) (fun k hk => (s2 k hk).1.trans (show rv hh 149 (140 + k) = -1 from ((hh_z (140 + k) (by omega)).1).trans (if_pos (by omega))).symm), gd_c (n := 24) (f := rv hh (23 + 5)) (g := rM hh 188) (fun k hk => (s2 k hk).2.2.1.trans (hh_m (k := 188 + k) (by omega)).symm), gd_c (n := 24) (f := rv hh (23 + 7)) (g := rM hh 236) (fun k hk => (s2 k hk).2.2.2.trans (hh_m (k := 236 + k) (by omega)).symm), gd_c (n := 16) (f := rv hh (23 + 8)) (g := rM hh 124) (fun k hk => (s3 k hk).1.trans (hh_m (k := 124 + k) (by omega)).symm), gd_c (n := 16) (f := rv hh (23 + 9)) (g := rM hh 108) (fun k hk => (s3 k hk).2.trans (hh_m (k := 108 + k) (by omega)).symm), gd_c (n := 4) (f := rv hh (23 + 11)) (g := rM hh 272) (fun k hk => (s5 k hk).1.trans (hh_m (k := 272 + k) (by omega)).symm), gd_c (n := 4) (f := rv hh (23 + 12)) (g := rM hh 276) (fun k hk => (s5 k hk).2.trans (hh_m (k := 276 + k) (by omega)).symm), gd_c (n := 3) (f := rv hh (23 + 13)) (g := rM hh 280) (fun k hk => (s6 k hk).1.trans (hh_m (k := 280 + k) (by omega)).symm), gd_c (n := 3) (f := rv hh (23 + 1)) (g := rM hh 100) (fun k hk => (s6 k hk).2.trans (hh_m (k := 100 + k) (by omega)).symm), s0 0 (by decide), s0 1 (by decide), s0 2 (by decide), s0 3 (by decide), s0 4 (by decide), hh_m (k := 103) (by decide), hh_m (k := 104) (by decide), hh_m (k := 105) (by decide), hh_m (k := 106) (by decide), hh_m (k := 107) (by decide)]
theorem w_hh2 : wX hh 23 = wM hh 149 := gd_c (f := rv hh (23 + 10)) (g := fun k => rv hh 149 (260 + k)) (fun k hk => (hh_s.2.2.2.2.1 k hk).trans (hh_m (k := 260 + k) (by omega)).symm)
theorem gdP {n : Nat} {f : Nat → Int32} {P : Int32 → Prop} (h0 : P 0) (h : ∀ k, k < n → P (f k)) : ∀ k, P (gd n f k) := fun k => by
  unfold gd
  split
  · rename_i hk; exact h k hk
  · exact h0
theorem ok_z {c : Nat} (h : ∀ k, (k < 140 ∨ (164 ≤ k ∧ k < 283)) → rv hh c k = 0) : dyOK 0 (absC hh c) := by
  have z0 : (0 : Int) ≤ Int32.toInt 0 ∧ Int32.toInt 0 ≤ 0 := by decide
  refine ⟨gdP (P := fun x => 0 ≤ x.toInt ∧ x.toInt ≤ 0) z0 (fun k hk => by (show 0 ≤ (rv hh c (0 + k)).toInt ∧ (rv hh c (0 + k)).toInt ≤ 0); rw [h (0 + k) (by omega)]; exact z0), gdP (P := fun x => x.toInt = 0 ∨ x.toInt = 1) (Or.inl rfl) (fun k hk => by (show (rv hh c (236 + k)).toInt = 0 ∨ (rv hh c (236 + k)).toInt = 1); rw [h (236 + k) (by omega)]; exact Or.inl rfl), gdP (P := fun x => x.toInt = 0 ∨ x.toInt = 1) (Or.inl rfl) (fun k hk => by (show (rv hh c (108 + k)).toInt = 0 ∨ (rv hh c (108 + k)).toInt = 1); rw [h (108 + k) (by omega)]; exact Or.inl rfl), fun p => ?_, gdP (P := fun x => 0 ≤ x.toInt ∧ x.toInt ≤ 0) z0 (fun k hk => by (show 0 ≤ (rv hh c (100 + k)).toInt ∧ (rv hh c (100 + k)).toInt ≤ 0); rw [h (100 + k) (by omega)]; exact z0)⟩
  show 0 ≤ (mhu (rC hh c 236) (rC hh c 164) p).toInt ∧ (mhu (rC hh c 236) (rC hh c 164) p).toInt ≤ 8
  unfold mhu rC
  split
  · rename_i hp
    rw [h (164 + p) (by omega)]; decide
  · decide
set_option maxRecDepth 20000 in
theorem hh_k : (∀ k, k < 24 → rv hh 157 k = 0) ∧ (∀ k, k < 3 → rv hh 166 k = 0) ∧ (∀ k, k < 12 → rv hh 169 k = rv hh 73 k ∧ rv hh 170 k = 0 ∧ rv hh 171 k = 0 ∧ rv hh 172 k = rv hh 76 k ∧ rv hh 74 k = 0 ∧ rv hh 75 k = 0) ∧ rv hh 72 0 = rv hh 148 24 := by decide +kernel
theorem l_hh : R_L 0 hh := by
  obtain ⟨k1, k2, k3, k4⟩ := hh_k
  refine ⟨ok_z (fun k hk => hh_m hk), ok_z (fun k hk => (hh_z k (by omega)).2), ⟨?_, ?_⟩, fun k => ⟨?_, ?_⟩⟩
  · exact gdP (n := 24) (f := rv hh 157) (P := fun x => 0 ≤ x.toInt ∧ x.toInt ≤ 9) (by decide) (fun k hk => by rw [k1 k hk]; decide)
  · exact gdP (n := 3) (f := rv hh 166) (P := fun x => 0 ≤ x.toInt ∧ x.toInt ≤ 20) (by decide) (fun k hk => by rw [k2 k hk]; decide)
  · exact gdP (n := 12) (f := rv hh 170) (P := fun x => 0 ≤ x.toInt ∧ x.toInt ≤ 9999) (by decide) (fun k hk => by rw [(k3 k hk).2.1]; decide) k
  · exact gdP (n := 12) (f := rv hh 171) (P := fun x => 0 ≤ x.toInt ∧ x.toInt ≤ 999) (by decide) (fun k hk => by rw [(k3 k hk).2.2.1]; decide) k
theorem m_hh : rmX hh = rmM hh := by
  obtain ⟨k1, k2, k3, k4⟩ := hh_k
  unfold rmX rmM
  rw [k4, gd_c (n := 12) (f := rv hh 73) (g := rv hh 169) (fun k hk => (k3 k hk).1.symm), gd_c (n := 12) (f := rv hh 74) (g := rv hh 170) (fun k hk => (k3 k hk).2.2.2.2.1.trans (k3 k hk).2.1.symm), gd_c (n := 12) (f := rv hh 75) (g := rv hh 171) (fun k hk => (k3 k hk).2.2.2.2.2.trans (k3 k hk).2.2.1.symm), gd_c (n := 12) (f := rv hh 76) (g := rv hh 172) (fun k hk => (k3 k hk).2.2.2.1.symm)]
set_option maxRecDepth 20000 in
theorem o_hh : rulE hh := ⟨-1, 0, rfl, rfl, rfl, rfl, by decide, by decide, by decide, fun _ => rfl, fun q => absurd rfl q, fun q hq => absurd hq (by rw [show Int32.toInt 0 = 0 from rfl]; omega)⟩
set_option maxRecDepth 20000 in
theorem k_hh : tabM hh := ⟨fun k => rd_ia (t := 0) rfl, fun k => rd_ia (t := 0) rfl, fun k => rd_ia (t := 0) rfl, fun k => rd_ia (t := 0) rfl⟩
set_option maxRecDepth 20000 in
theorem w_hh : R_W hh := fun k => (rd_ia (t := 0) rfl).trans (rd_ia (t := 0) rfl).symm
set_option maxRecDepth 20000 in
theorem b_hh : R_B hh := ⟨fun k => (by
  unfold rd
  rw [show hh[195]? = some (.inl (2, .inr (.inl WL))) from rfl]
  rfl), fun k => rd_ia (t := 0) rfl⟩
theorem e_hh : R_E hh := rfl
theorem j_hh : R_J hh := fun k => gdP (n := 12) (f := rv hh 172) (P := fun x => 0 ≤ x.toInt ∧ x.toInt ≤ 99) (by decide) (fun k hk => by (rcases (show k = 0 ∨ k = 1 ∨ k = 2 ∨ k = 3 ∨ k = 4 ∨ k = 5 ∨ k = 6 ∨ k = 7 ∨ k = 8 ∨ k = 9 ∨ k = 10 ∨ k = 11 by omega) with rfl | rfl | rfl | rfl | rfl | rfl | rfl | rfl | rfl | rfl | rfl | rfl) <;> decide) k
set_option maxRecDepth 20000 in
theorem rel_hh : rel 0 hh := ⟨a_hh, y_hh, w_hh2, Or.inl rfl, rfl, m_hh, o_hh, rfl, w_hh, b_hh, by (intro s hs; rcases (show s = 0 ∨ s = 1 ∨ s = 2 ∨ s = 3 by omega) with rfl | rfl | rfl | rfl; all_goals exact ⟨rfl, fun q hq hn => absurd (show q.toInt = -1 from by (have e_ : (-1 : Int32) = q := int_inj (by rfl) hq); rw [← e_]; rfl) hn⟩), u_hh, k_hh, l_hh, e_hh, j_hh⟩
theorem hh_small : hh.length ≤ 600000 ∧ im_sl hh ≤ 7302250 := by decide +kernel
theorem tS_hh : im_shs hh = tS := tI_hh.1
