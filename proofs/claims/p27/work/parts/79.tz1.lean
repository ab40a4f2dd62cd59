def rel (n : Nat) (h : im_H) : Prop := R_A h ∧ R_Y h ∧ R_w h ∧ R_Z h ∧ R_H h ∧ R_M h ∧ R_O h ∧ R_T h ∧ R_W h ∧ R_B h ∧ R_S h ∧ R_U h ∧ R_K h ∧ R_L n h ∧ R_E h ∧ R_J h
set_option maxRecDepth 10000 in
set_option maxHeartbeats 2000000 in
theorem relc_ruin {nn : Nat} {h h1 h2 : im_H} {x1 x2 x3 : Int32} {y1 y2 : Int32} (hn : nn + 6 ≤ 3072) (hI : tI h) (I1 : tI h1) (I2 : tI h2) (hr : rel nn h) (g1 : fr F_X11_ruin h h1) (g2 : fr F_X12_ruin h1 h2) (r1 : Q1_ruin x1 x2 x3 y1 h h1) (r2 : Q2_ruin x1 x2 x3 y2 h1 h2) : rel (nn + 6) h2 := by
  obtain ⟨A, Y, w, Z, H, M, O, T, W, B, S, U, K, L, E, J⟩ := hr
  have A0 : cX h = cM h := A
  have Y0 : absX h 23 = absM h := Y
  have w0 : wX h 23 = wM h 149 := w
  have M0 : rmX h = rmM h := M
  have a : cM h1 = cM h := mc_fr2 g1 (by decide)
  have b : absM h1 = absM h := absM_fr g1 (by decide)
  have c : cX h2 = cX h1 := xc_fr2 g2 (by decide)
  have d : absX h2 23 = absX h1 23 := absX_fr g2 (by decide)
  obtain ⟨ye, A', Y'⟩ := jTY (f := ruin_f x1 x2 x3) A Y r1 r2 a b c d
  obtain ⟨m1, m2⟩ := jM (f := ruin_f x1 x2 x3) r2 a b
  have hB := ruin_B (x1 := x1) (x2 := x2) (x3 := x3) (by omega) L.1 L.2.2.1
  have L' : R_L (nn + 6) h2 := L_mk L (by rw [m2]; exact dy_mono hB.1 (by omega)) (by rw [m1]; exact hB.2) (show absI h2 = absI h from ((absC_fr g2 (by decide)).trans (absC_fr g1 (by decide)))) (by rw [rmM_fr g2 (by decide), rmM_fr g1 (by decide)]; exact L.2.2.2)
  exact ⟨A', Y', (R_w_fr (R_w_fr w g1 (by decide) (by decide)) g2 (by decide) (by decide)), (R_Z_fr (R_Z_fr Z g1 (by decide) (by decide)) g2 (by decide) (by decide)), (R_H_fr (R_H_fr H g1 rfl rfl) g2 rfl rfl), (R_M_fr (R_M_fr M g1 (by decide) (by decide)) g2 (by decide) (by decide)), (R_O_fr (R_O_fr O g1 (by decide)) g2 (by decide)), (R_T_fr (R_T_fr T g1 rfl rfl) g2 rfl rfl), (R_W_fr (R_W_fr W g1 (fun _ => rfl) (fun _ => rfl)) g2 (fun _ => rfl) (fun _ => rfl)), (R_B_fr (R_B_fr B g1 (fun _ => rfl) (fun _ => rfl)) g2 (fun _ => rfl) (fun _ => rfl)), (R_S_fr (R_S_fr S g1 (fun s b hs => c4 (P := fun s => inF F_X11_ruin (140 + 2 * s) b = false) rfl rfl rfl rfl s hs) (fun s b hs => c4 (P := fun s => inF F_X11_ruin (141 + 2 * s) b = false) rfl rfl rfl rfl s hs) (fun _ => rfl) (fun _ => rfl) (fun _ => rfl)) g2 (fun s b hs => c4 (P := fun s => inF F_X12_ruin (140 + 2 * s) b = false) rfl rfl rfl rfl s hs) (fun s b hs => c4 (P := fun s => inF F_X12_ruin (141 + 2 * s) b = false) rfl rfl rfl rfl s hs) (fun _ => rfl) (fun _ => rfl) (fun _ => rfl)), (R_U_fr (R_U_fr U g1 (by decide)) g2 (by decide)), (R_K_fr (R_K_fr K g1 (by decide)) g2 (by decide)), L', (R_E_fr (R_E_fr E g1 rfl rfl) g2 rfl rfl), (R_J_fr (R_J_fr J g1 (by decide)) g2 (by decide))⟩
set_option maxRecDepth 10000 in
set_option maxHeartbeats 2000000 in
theorem relc_person {nn : Nat} {h h1 h2 : im_H} {x1 x2 x3 x4 : Int32} {y1 y2 : Int32} (hn : nn + 6 ≤ 3072) (hI : tI h) (I1 : tI h1) (I2 : tI h2) (hr : rel nn h) (g1 : fr F_X11_person h h1) (g2 : fr F_X12_person h1 h2) (r1 : Q1_person x1 x2 x3 x4 y1 h h1) (r2 : Q2_person x1 x2 x3 x4 y2 h1 h2) : rel (nn + 6) h2 := by
  obtain ⟨A, Y, w, Z, H, M, O, T, W, B, S, U, K, L, E, J⟩ := hr
  have A0 : cX h = cM h := A
  have Y0 : absX h 23 = absM h := Y
  have w0 : wX h 23 = wM h 149 := w
  have M0 : rmX h = rmM h := M
  have a : cM h1 = cM h := mc_fr2 g1 (by decide)
  have b : absM h1 = absM h := absM_fr g1 (by decide)
  have c : cX h2 = cX h1 := xc_fr2 g2 (by decide)
  have d : absX h2 23 = absX h1 23 := absX_fr g2 (by decide)
  obtain ⟨ye, A', Y'⟩ := jTY (f := person_f x1 x2 x3 x4) A Y r1 r2 a b c d
  obtain ⟨m1, m2⟩ := jM (f := person_f x1 x2 x3 x4) r2 a b
  have hB := person_B (x1 := x1) (x2 := x2) (x3 := x3) (x4 := x4) L.1 L.2.2.1
  have L' : R_L (nn + 6) h2 := L_mk L (by rw [m2]; exact dy_mono hB.1 (by omega)) (by rw [m1]; exact hB.2) (show absI h2 = absI h from ((absC_fr g2 (by decide)).trans (absC_fr g1 (by decide)))) (by rw [rmM_fr g2 (by decide), rmM_fr g1 (by decide)]; exact L.2.2.2)
  exact ⟨A', Y', (R_w_fr (R_w_fr w g1 (by decide) (by decide)) g2 (by decide) (by decide)), (R_Z_fr (R_Z_fr Z g1 (by decide) (by decide)) g2 (by decide) (by decide)), (R_H_fr (R_H_fr H g1 rfl rfl) g2 rfl rfl), (R_M_fr (R_M_fr M g1 (by decide) (by decide)) g2 (by decide) (by decide)), (R_O_fr (R_O_fr O g1 (by decide)) g2 (by decide)), (R_T_fr (R_T_fr T g1 rfl rfl) g2 rfl rfl), (R_W_fr (R_W_fr W g1 (fun _ => rfl) (fun _ => rfl)) g2 (fun _ => rfl) (fun _ => rfl)), (R_B_fr (R_B_fr B g1 (fun _ => rfl) (fun _ => rfl)) g2 (fun _ => rfl) (fun _ => rfl)), (R_S_fr (R_S_fr S g1 (fun s b hs => c4 (P := fun s => inF F_X11_person (140 + 2 * s) b = false) rfl rfl rfl rfl s hs) (fun s b hs => c4 (P := fun s => inF F_X11_person (141 + 2 * s) b = false) rfl rfl rfl rfl s hs) (fun _ => rfl) (fun _ => rfl) (fun _ => rfl)) g2 (fun s b hs => c4 (P := fun s => inF F_X12_person (140 + 2 * s) b = false) rfl rfl rfl rfl s hs) (fun s b hs => c4 (P := fun s => inF F_X12_person (141 + 2 * s) b = false) rfl rfl rfl rfl s hs) (fun _ => rfl) (fun _ => rfl) (fun _ => rfl)), (R_U_fr (R_U_fr U g1 (by decide)) g2 (by decide)), (R_K_fr (R_K_fr K g1 (by decide)) g2 (by decide)), L', (R_E_fr (R_E_fr E g1 rfl rfl) g2 rfl rfl), (R_J_fr (R_J_fr J g1 (by decide)) g2 (by decide))⟩
set_option maxRecDepth 10000 in
set_option maxHeartbeats 2000000 in
theorem relc_moves {nn : Nat} {h h1 h2 : im_H} {x1 x2 : Int32} {y1 y2 : Int32} (hn : nn + 6 ≤ 3072) (hI : tI h) (I1 : tI h1) (I2 : tI h2) (hr : rel nn h) (g1 : fr F_X11_moves h h1) (g2 : fr F_X12_moves h1 h2) (r1 : Q1_moves x1 x2 y1 h h1) (r2 : Q2_moves x1 x2 y2 h1 h2) : rel (nn + 6) h2 := by
  obtain ⟨A, Y, w, Z, H, M, O, T, W, B, S, U, K, L, E, J⟩ := hr
  have A0 : cX h = cM h := A
  have Y0 : absX h 23 = absM h := Y
  have w0 : wX h 23 = wM h 149 := w
  have M0 : rmX h = rmM h := M
  have a : cM h1 = cM h := mc_fr2 g1 (by decide)
  have b : absM h1 = absM h := absM_fr g1 (by decide)
  have c : cX h2 = cX h1 := xc_fr2 g2 (by decide)
  have d : absX h2 23 = absX h1 23 := absX_fr g2 (by decide)
  obtain ⟨ye, A', Y'⟩ := jTY (f := moves_f x1 x2) A Y r1 r2 a b c d
  obtain ⟨m1, m2⟩ := jM (f := moves_f x1 x2) r2 a b
  have hB := moves_B (x1 := x1) (x2 := x2) L.1 L.2.2.1
  have L' : R_L (nn + 6) h2 := L_mk L (by rw [m2]; exact dy_mono hB.1 (by omega)) (by rw [m1]; exact hB.2) (show absI h2 = absI h from ((absC_fr g2 (by decide)).trans (absC_fr g1 (by decide)))) (by rw [rmM_fr g2 (by decide), rmM_fr g1 (by decide)]; exact L.2.2.2)
  exact ⟨A', Y', (R_w_fr (R_w_fr w g1 (by decide) (by decide)) g2 (by decide) (by decide)), (R_Z_fr (R_Z_fr Z g1 (by decide) (by decide)) g2 (by decide) (by decide)), (R_H_fr (R_H_fr H g1 rfl rfl) g2 rfl rfl), (R_M_fr (R_M_fr M g1 (by decide) (by decide)) g2 (by decide) (by decide)), (R_O_fr (R_O_fr O g1 (by decide)) g2 (by decide)), (R_T_fr (R_T_fr T g1 rfl rfl) g2 rfl rfl), (R_W_fr (R_W_fr W g1 (fun _ => rfl) (fun _ => rfl)) g2 (fun _ => rfl) (fun _ => rfl)), (R_B_fr (R_B_fr B g1 (fun _ => rfl) (fun _ => rfl)) g2 (fun _ => rfl) (fun _ => rfl)), (R_S_fr (R_S_fr S g1 (fun s b hs => c4 (P := fun s => inF F_X11_moves (140 + 2 * s) b = false) rfl rfl rfl rfl s hs) (fun s b hs => c4 (P := fun s => inF F_X11_moves (141 + 2 * s) b = false) rfl rfl rfl rfl s hs) (fun _ => rfl) (fun _ => rfl) (fun _ => rfl)) g2 (fun s b hs => c4 (P := fun s => inF F_X12_moves (140 + 2 * s) b = false) rfl rfl rfl rfl s hs) (fun s b hs => c4 (P := fun s => inF F_X12_moves (141 + 2 * s) b = false) rfl rfl rfl rfl s hs) (fun _ => rfl) (fun _ => rfl) (fun _ => rfl)), (R_U_fr (R_U_fr U g1 (by decide)) g2 (by decide)), (R_K_fr (R_K_fr K g1 (by decide)) g2 (by decide)), L', (R_E_fr (R_E_fr E g1 rfl rfl) g2 rfl rfl), (R_J_fr (R_J_fr J g1 (by decide)) g2 (by decide))⟩
set_option maxRecDepth 10000 in
set_option maxHeartbeats 2000000 in
theorem relc_wall {nn : Nat} {h h1 h2 : im_H} {x1 x2 x3 : Int32} {y1 y2 : Int32} (hn : nn + 6 ≤ 3072) (hI : tI h) (I1 : tI h1) (I2 : tI h2) (hr : rel nn h) (g1 : fr F_X11_wall h h1) (g2 : fr F_X12_wall h1 h2) (r1 : Q1_wall x1 x2 x3 y1 h h1) (r2 : Q2_wall x1 x2 x3 y2 h1 h2) : rel (nn + 6) h2 := by
  obtain ⟨A, Y, w, Z, H, M, O, T, W, B, S, U, K, L, E, J⟩ := hr
  have A0 : cX h = cM h := A
  have Y0 : absX h 23 = absM h := Y
  have w0 : wX h 23 = wM h 149 := w
  have M0 : rmX h = rmM h := M
  have a : cM h1 = cM h := mc_fr2 g1 (by decide)
  have b : absM h1 = absM h := absM_fr g1 (by decide)
  have c : cX h2 = cX h1 := xc_fr2 g2 (by decide)
  have d : absX h2 23 = absX h1 23 := absX_fr g2 (by decide)
  obtain ⟨ye, A', Y'⟩ := jTY (f := wall_f x1 x2 x3) A Y r1 r2 a b c d
  obtain ⟨m1, m2⟩ := jM (f := wall_f x1 x2 x3) r2 a b
  have hB := wall_B (x1 := x1) (x2 := x2) (x3 := x3) L.1 L.2.2.1
  have L' : R_L (nn + 6) h2 := L_mk L (by rw [m2]; exact dy_mono hB.1 (by omega)) (by rw [m1]; exact hB.2) (show absI h2 = absI h from ((absC_fr g2 (by decide)).trans (absC_fr g1 (by decide)))) (by rw [rmM_fr g2 (by decide), rmM_fr g1 (by decide)]; exact L.2.2.2)
  exact ⟨A', Y', (R_w_fr (R_w_fr w g1 (by decide) (by decide)) g2 (by decide) (by decide)), (R_Z_fr (R_Z_fr Z g1 (by decide) (by decide)) g2 (by decide) (by decide)), (R_H_fr (R_H_fr H g1 rfl rfl) g2 rfl rfl), (R_M_fr (R_M_fr M g1 (by decide) (by decide)) g2 (by decide) (by decide)), (R_O_fr (R_O_fr O g1 (by decide)) g2 (by decide)), (R_T_fr (R_T_fr T g1 rfl rfl) g2 rfl rfl), (R_W_fr (R_W_fr W g1 (fun _ => rfl) (fun _ => rfl)) g2 (fun _ => rfl) (fun _ => rfl)), (R_B_fr (R_B_fr B g1 (fun _ => rfl) (fun _ => rfl)) g2 (fun _ => rfl) (fun _ => rfl)), (R_S_fr (R_S_fr S g1 (fun s b hs => c4 (P := fun s => inF F_X11_wall (140 + 2 * s) b = false) rfl rfl rfl rfl s hs) (fun s b hs => c4 (P := fun s => inF F_X11_wall (141 + 2 * s) b = false) rfl rfl rfl rfl s hs) (fun _ => rfl) (fun _ => rfl) (fun _ => rfl)) g2 (fun s b hs => c4 (P := fun s => inF F_X12_wall (140 + 2 * s) b = false) rfl rfl rfl rfl s hs) (fun s b hs => c4 (P := fun s => inF F_X12_wall (141 + 2 * s) b = false) rfl rfl rfl rfl s hs) (fun _ => rfl) (fun _ => rfl) (fun _ => rfl)), (R_U_fr (R_U_fr U g1 (by decide)) g2 (by decide)), (R_K_fr (R_K_fr K g1 (by decide)) g2 (by decide)), L', (R_E_fr (R_E_fr E g1 rfl rfl) g2 rfl rfl), (R_J_fr (R_J_fr J g1 (by decide)) g2 (by decide))⟩
set_option maxRecDepth 10000 in
set_option maxHeartbeats 2000000 in
theorem relc_weather {nn : Nat} {h h1 h2 : im_H} {x1 x2 : Int32} {y1 y2 : Int32} (hn : nn + 6 ≤ 3072) (hI : tI h) (I1 : tI h1) (I2 : tI h2) (hr : rel nn h) (g1 : fr F_X11_weather h h1) (g2 : fr F_X12_weather h1 h2) (r1 : Q1_weather x1 x2 y1 h h1) (r2 : Q2_weather x1 x2 y2 h1 h2) : rel (nn + 6) h2 := by
  obtain ⟨A, Y, w, Z, H, M, O, T, W, B, S, U, K, L, E, J⟩ := hr
  have A0 : cX h = cM h := A
  have Y0 : absX h 23 = absM h := Y
  have w0 : wX h 23 = wM h 149 := w
  have M0 : rmX h = rmM h := M
  have a : cM h1 = cM h := mc_fr2 g1 (by decide)
  have b : absM h1 = absM h := absM_fr g1 (by decide)
  have c : cX h2 = cX h1 := xc_fr2 g2 (by decide)
  have d : absX h2 23 = absX h1 23 := absX_fr g2 (by decide)
  obtain ⟨ye, A', Y'⟩ := jTY (f := weather_f x1 x2) A Y r1 r2 a b c d
  obtain ⟨m1, m2⟩ := jM (f := weather_f x1 x2) r2 a b
  have hB := weather_B (x1 := x1) (x2 := x2) L.1 L.2.2.1
  have L' : R_L (nn + 6) h2 := L_mk L (by rw [m2]; exact dy_mono hB.1 (by omega)) (by rw [m1]; exact hB.2) (show absI h2 = absI h from ((absC_fr g2 (by decide)).trans (absC_fr g1 (by decide)))) (by rw [rmM_fr g2 (by decide), rmM_fr g1 (by decide)]; exact L.2.2.2)
  exact ⟨A', Y', (R_w_fr (R_w_fr w g1 (by decide) (by decide)) g2 (by decide) (by decide)), (R_Z_fr (R_Z_fr Z g1 (by decide) (by decide)) g2 (by decide) (by decide)), (R_H_fr (R_H_fr H g1 rfl rfl) g2 rfl rfl), (R_M_fr (R_M_fr M g1 (by decide) (by decide)) g2 (by decide) (by decide)), (R_O_fr (R_O_fr O g1 (by decide)) g2 (by decide)), (R_T_fr (R_T_fr T g1 rfl rfl) g2 rfl rfl), (R_W_fr (R_W_fr W g1 (fun _ => rfl) (fun _ => rfl)) g2 (fun _ => rfl) (fun _ => rfl)), (R_B_fr (R_B_fr B g1 (fun _ => rfl) (fun _ => rfl)) g2 (fun _ => rfl) (fun _ => rfl)), (R_S_fr (R_S_fr S g1 (fun s b hs => c4 (P := fun s => inF F_X11_weather (140 + 2 * s) b = false) rfl rfl rfl rfl s hs) (fun s b hs => c4 (P := fun s => inF F_X11_weather (141 + 2 * s) b = false) rfl rfl rfl rfl s hs) (fun _ => rfl) (fun _ => rfl) (fun _ => rfl)) g2 (fun s b hs => c4 (P := fun s => inF F_X12_weather (140 + 2 * s) b = false) rfl rfl rfl rfl s hs) (fun s b hs => c4 (P := fun s => inF F_X12_weather (141 + 2 * s) b = false) rfl rfl rfl rfl s hs) (fun _ => rfl) (fun _ => rfl) (fun _ => rfl)), (R_U_fr (R_U_fr U g1 (by decide)) g2 (by decide)), (R_K_fr (R_K_fr K g1 (by decide)) g2 (by decide)), L', (R_E_fr (R_E_fr E g1 rfl rfl) g2 rfl rfl), (R_J_fr (R_J_fr J g1 (by decide)) g2 (by decide))⟩
set_option maxRecDepth 10000 in
set_option maxHeartbeats 2000000 in
theorem relc_tip {nn : Nat} {h h1 h2 : im_H} {x1 : Int32} {y1 y2 : Int32} (hn : nn + 6 ≤ 3072) (hI : tI h) (I1 : tI h1) (I2 : tI h2) (hr : rel nn h) (g1 : fr F_X11_tip h h1) (g2 : fr F_X12_tip h1 h2) (r1 : Q1_tip x1 y1 h h1) (r2 : Q2_tip x1 y2 h1 h2) : rel (nn + 6) h2 := by
  obtain ⟨A, Y, w, Z, H, M, O, T, W, B, S, U, K, L, E, J⟩ := hr
  have A0 : cX h = cM h := A
  have Y0 : absX h 23 = absM h := Y
  have w0 : wX h 23 = wM h 149 := w
  have M0 : rmX h = rmM h := M
  have a : cM h1 = cM h := mc_fr2 g1 (by decide)
  have b : absM h1 = absM h := absM_fr g1 (by decide)
  have c : cX h2 = cX h1 := xc_fr2 g2 (by decide)
  have d : absX h2 23 = absX h1 23 := absX_fr g2 (by decide)
  obtain ⟨ye, A', Y'⟩ := jTY (f := tip_f x1) A Y r1 r2 a b c d
  obtain ⟨m1, m2⟩ := jM (f := tip_f x1) r2 a b
  have hB := tip_B (x1 := x1) L.1 L.2.2.1
  have L' : R_L (nn + 6) h2 := L_mk L (by rw [m2]; exact dy_mono hB.1 (by omega)) (by rw [m1]; exact hB.2) (show absI h2 = absI h from ((absC_fr g2 (by decide)).trans (absC_fr g1 (by decide)))) (by rw [rmM_fr g2 (by decide), rmM_fr g1 (by decide)]; exact L.2.2.2)
  exact ⟨A', Y', (R_w_fr (R_w_fr w g1 (by decide) (by decide)) g2 (by decide) (by decide)), (R_Z_fr (R_Z_fr Z g1 (by decide) (by decide)) g2 (by decide) (by decide)), (R_H_fr (R_H_fr H g1 rfl rfl) g2 rfl rfl), (R_M_fr (R_M_fr M g1 (by decide) (by decide)) g2 (by decide) (by decide)), (R_O_fr (R_O_fr O g1 (by decide)) g2 (by decide)), (R_T_fr (R_T_fr T g1 rfl rfl) g2 rfl rfl), (R_W_fr (R_W_fr W g1 (fun _ => rfl) (fun _ => rfl)) g2 (fun _ => rfl) (fun _ => rfl)), (R_B_fr (R_B_fr B g1 (fun _ => rfl) (fun _ => rfl)) g2 (fun _ => rfl) (fun _ => rfl)), (R_S_fr (R_S_fr S g1 (fun s b hs => c4 (P := fun s => inF F_X11_tip (140 + 2 * s) b = false) rfl rfl rfl rfl s hs) (fun s b hs => c4 (P := fun s => inF F_X11_tip (141 + 2 * s) b = false) rfl rfl rfl rfl s hs) (fun _ => rfl) (fun _ => rfl) (fun _ => rfl)) g2 (fun s b hs => c4 (P := fun s => inF F_X12_tip (140 + 2 * s) b = false) rfl rfl rfl rfl s hs) (fun s b hs => c4 (P := fun s => inF F_X12_tip (141 + 2 * s) b = false) rfl rfl rfl rfl s hs) (fun _ => rfl) (fun _ => rfl) (fun _ => rfl)), (R_U_fr (R_U_fr U g1 (by decide)) g2 (by decide)), (R_K_fr (R_K_fr K g1 (by decide)) g2 (by decide)), L', (R_E_fr (R_E_fr E g1 rfl rfl) g2 rfl rfl), (R_J_fr (R_J_fr J g1 (by decide)) g2 (by decide))⟩
set_option maxRecDepth 10000 in
set_option maxHeartbeats 2000000 in
theorem relc_row {nn : Nat} {h h1 h2 : im_H} {x1 x2 x3 x4 : Int32} {y1 y2 : Int32} (hn : nn + 6 ≤ 3072) (hI : tI h) (I1 : tI h1) (I2 : tI h2) (hr : rel nn h) (g1 : fr F_X11_row h h1) (g2 : fr F_X12_row h1 h2) (r1 : Q1_row x1 x2 x3 x4 y1 h h1) (r2 : Q2_row x1 x2 x3 x4 y2 h1 h2) : rel (nn + 6) h2 := by
  obtain ⟨A, Y, w, Z, H, M, O, T, W, B, S, U, K, L, E, J⟩ := hr
  have A0 : cX h = cM h := A
  have Y0 : absX h 23 = absM h := Y
  have w0 : wX h 23 = wM h 149 := w
  have M0 : rmX h = rmM h := M
  obtain ⟨r2, u2⟩ := r2 (R_U_fr U g1 (by decide))
  have r1 := r1.trans (row_eq (fun a b => sh_eq (x := x2) hI S (fun k => ⟨g1 _ _ rfl, g1 _ _ rfl, g1 _ _ rfl⟩) a b))
  have e : (y2, cM h2) = (y1, cX h1) := by rw [r2, mc_fr2 g1 (by decide), absM_fr g1 (by decide), ← A0, ← Y0, r1]
  obtain ⟨e1, e2⟩ := Prod.mk.inj e
  have m1 := congrArg Prod.snd r2
  rw [mc_fr2 g1 (by decide)] at m1
  have L' : R_L (nn + 6) h2 := L_mk L (by rw [absM_fr g2 (by decide), absM_fr g1 (by decide)]; exact dy_mono L.1 (by omega)) (by rw [show cM h2 = _ from m1]; exact row_B L.2.2.1) (show absI h2 = absI h from ((absC_fr g2 (by decide)).trans (absC_fr g1 (by decide)))) (by rw [rmM_fr g2 (by decide), rmM_fr g1 (by decide)]; exact L.2.2.2)
  exact ⟨((xc_fr2 g2 (by decide)).trans e2.symm), (R_Y_fr (R_Y_fr Y g1 (by decide) (by decide)) g2 (by decide) (by decide)), (R_w_fr (R_w_fr w g1 (by decide) (by decide)) g2 (by decide) (by decide)), (R_Z_fr (R_Z_fr Z g1 (by decide) (by decide)) g2 (by decide) (by decide)), (R_H_fr (R_H_fr H g1 rfl rfl) g2 rfl rfl), (R_M_fr (R_M_fr M g1 (by decide) (by decide)) g2 (by decide) (by decide)), (R_O_fr (R_O_fr O g1 (by decide)) g2 (by decide)), (R_T_fr (R_T_fr T g1 rfl rfl) g2 rfl rfl), (R_W_fr (R_W_fr W g1 (fun _ => rfl) (fun _ => rfl)) g2 (fun _ => rfl) (fun _ => rfl)), (R_B_fr (R_B_fr B g1 (fun _ => rfl) (fun _ => rfl)) g2 (fun _ => rfl) (fun _ => rfl)), (R_S_fr (R_S_fr S g1 (fun s b hs => c4 (P := fun s => inF F_X11_row (140 + 2 * s) b = false) rfl rfl rfl rfl s hs) (fun s b hs => c4 (P := fun s => inF F_X11_row (141 + 2 * s) b = false) rfl rfl rfl rfl s hs) (fun _ => rfl) (fun _ => rfl) (fun _ => rfl)) g2 (fun s b hs => c4 (P := fun s => inF F_X12_row (140 + 2 * s) b = false) rfl rfl rfl rfl s hs) (fun s b hs => c4 (P := fun s => inF F_X12_row (141 + 2 * s) b = false) rfl rfl rfl rfl s hs) (fun _ => rfl) (fun _ => rfl) (fun _ => rfl)), u2, (R_K_fr (R_K_fr K g1 (by decide)) g2 (by decide)), L', (R_E_fr (R_E_fr E g1 rfl rfl) g2 rfl rfl), (R_J_fr (R_J_fr J g1 (by decide)) g2 (by decide))⟩
set_option maxRecDepth 10000 in
set_option maxHeartbeats 2000000 in
theorem relc_rail {nn : Nat} {h h1 h2 : im_H} {x1 x2 x3 : Int32} {y1 y2 : Int32} (hn : nn + 6 ≤ 3072) (hI : tI h) (I1 : tI h1) (I2 : tI h2) (hr : rel nn h) (g1 : fr F_X11_rail h h1) (g2 : fr F_X12_rail h1 h2) (r1 : Q1_rail x1 x2 x3 y1 h h1) (r2 : Q2_rail x1 x2 x3 y2 h1 h2) : rel (nn + 6) h2 := by
  obtain ⟨A, Y, w, Z, H, M, O, T, W, B, S, U, K, L, E, J⟩ := hr
  have A0 : cX h = cM h := A
  have Y0 : absX h 23 = absM h := Y
  have w0 : wX h 23 = wM h 149 := w
  have M0 : rmX h = rmM h := M
  have ye := rail_join S g1 r1 r2
  have key : R_A h2 ∧ R_L (nn + 6) h2 := by
    by_cases hy : y1.toInt < 0
    · have e1 := r1.2.1 hy
      have e2 := r2.2.1 (ye ▸ hy)
      rw [e2, e1]
      exact ⟨A, L_mono L⟩
    · have c1 := r1.2.2 (by omega)
      have c2 := r2.2.2 (by rw [← ye]; omega)
      have hx : ∃ q z : Int32, (0 ≤ x2.toInt ∧ x2.toInt ≤ 3) ∧ rd h (140 + 2 * x2.toInt.toNat) 0 = some (.int q) ∧ q.toInt ≠ -1 ∧ 0 ≤ x3.toInt ∧ x3.toInt ≤ 20 := by
        rcases r1.1 with ⟨rg, q, z, s1, z1, c⟩ | ⟨_, e⟩
        · rcases c with ⟨_, e⟩ | ⟨hq, ok, _⟩ | ⟨_, _, e⟩
          · rw [e] at hy; exact absurd (by decide) hy
          · exact ⟨q, z, ⟨rg.2.2.1, rg.2.2.2⟩, s1, hq, ok.2.2.1, ok.2.2.2.1⟩
          · rw [e] at hy; exact absurd (by decide) hy
        · rw [e] at hy; exact absurd (by decide) hy
      obtain ⟨q, z, rg, s1, hq, h0, h20⟩ := hx
      have sh := sh_eq (x := x2) hI S (fun k => ⟨g1 _ _ rfl, g1 _ _ rfl, g1 _ _ rfl⟩) rg.1 rg.2
      have hf := (sh.2 (by rw [← sh.1, rv_of s1]; exact hq)).2
      rw [← ye, mc_fr2 g1 (by decide), ← hf] at c2
      refine ⟨?_, L_mk L (by rw [absM_fr g2 (by decide), absM_fr g1 (by decide)]; exact dy_mono L.1 (by omega)) (by rw [c2]; exact rail_B L.2.2.1 h0 h20) (show absI h2 = absI h from ((absC_fr g2 (by decide)).trans (absC_fr g1 (by decide)))) (by rw [rmM_fr g2 (by decide), rmM_fr g1 (by decide)]; exact L.2.2.2)⟩
      show cX h2 = cM h2
      rw [xc_fr2 g2 (by decide), c1, c2, A0]
  exact ⟨key.1, (R_Y_fr (R_Y_fr Y g1 (by decide) (by decide)) g2 (by decide) (by decide)), (R_w_fr (R_w_fr w g1 (by decide) (by decide)) g2 (by decide) (by decide)), (R_Z_fr (R_Z_fr Z g1 (by decide) (by decide)) g2 (by decide) (by decide)), (R_H_fr (R_H_fr H g1 rfl rfl) g2 rfl rfl), (R_M_fr (R_M_fr M g1 (by decide) (by decide)) g2 (by decide) (by decide)), (R_O_fr (R_O_fr O g1 (by decide)) g2 (by decide)), (R_T_fr (R_T_fr T g1 rfl rfl) g2 rfl rfl), (R_W_fr (R_W_fr W g1 (fun _ => rfl) (fun _ => rfl)) g2 (fun _ => rfl) (fun _ => rfl)), (R_B_fr (R_B_fr B g1 (fun _ => rfl) (fun _ => rfl)) g2 (fun _ => rfl) (fun _ => rfl)), (R_S_fr (R_S_fr S g1 (fun s b hs => c4 (P := fun s => inF F_X11_rail (140 + 2 * s) b = false) rfl rfl rfl rfl s hs) (fun s b hs => c4 (P := fun s => inF F_X11_rail (141 + 2 * s) b = false) rfl rfl rfl rfl s hs) (fun _ => rfl) (fun _ => rfl) (fun _ => rfl)) g2 (fun s b hs => c4 (P := fun s => inF F_X12_rail (140 + 2 * s) b = false) rfl rfl rfl rfl s hs) (fun s b hs => c4 (P := fun s => inF F_X12_rail (141 + 2 * s) b = false) rfl rfl rfl rfl s hs) (fun _ => rfl) (fun _ => rfl) (fun _ => rfl)), (R_U_fr (R_U_fr U g1 (by decide)) g2 (by decide)), (R_K_fr (R_K_fr K g1 (by decide)) g2 (by decide)), key.2, (R_E_fr (R_E_fr E g1 rfl rfl) g2 rfl rfl), (R_J_fr (R_J_fr J g1 (by decide)) g2 (by decide))⟩
set_option maxRecDepth 10000 in
set_option maxHeartbeats 2000000 in
theorem relc_room {nn : Nat} {h h1 h2 : im_H} {x1 x2 x3 x4 : Int32} {y1 y2 : Int32} (hn : nn + 6 ≤ 3072) (hI : tI h) (I1 : tI h1) (I2 : tI h2) (hr : rel nn h) (g1 : fr F_X11_room h h1) (g2 : fr F_X12_room h1 h2) (r1 : Q1_room x1 x2 x3 x4 y1 h h1) (r2 : Q2_room x1 x2 x3 x4 y2 h1 h2) : rel (nn + 6) h2 := by
  obtain ⟨A, Y, w, Z, H, M, O, T, W, B, S, U, K, L, E, J⟩ := hr
  have A0 : cX h = cM h := A
  have Y0 : absX h 23 = absM h := Y
  have w0 : wX h 23 = wM h 149 := w
  have M0 : rmX h = rmM h := M
  have a : rmM h1 = rmM h := rmM_fr g1 (by decide)
  have e : (y2, rmM h2) = (y1, rmX h1) := by rw [r2, a, ← M0, r1]
  have m : rmM h2 = (room_f x1 x2 x3 x4 (rmM h)).2 := by rw [← a]; exact congrArg Prod.snd r2
  have L' : R_L (nn + 6) h2 := L_mk L (by rw [absM_fr g2 (by decide), absM_fr g1 (by decide)]; exact dy_mono L.1 (by omega)) (by rw [mc_fr2 g2 (by decide), mc_fr2 g1 (by decide)]; exact L.2.2.1) (show absI h2 = absI h from ((absC_fr g2 (by decide)).trans (absC_fr g1 (by decide)))) (by rw [m]; exact room_B L.2.2.2)
  have J' : R_J h2 := by (intro k; rw [m]; exact room_J J k)
  exact ⟨(R_A_fr (R_A_fr A g1 (by decide) (by decide)) g2 (by decide) (by decide)), (R_Y_fr (R_Y_fr Y g1 (by decide) (by decide)) g2 (by decide) (by decide)), (R_w_fr (R_w_fr w g1 (by decide) (by decide)) g2 (by decide) (by decide)), (R_Z_fr (R_Z_fr Z g1 (by decide) (by decide)) g2 (by decide) (by decide)), (R_H_fr (R_H_fr H g1 rfl rfl) g2 rfl rfl), ((rmX_fr g2 (by decide)).trans (Prod.mk.inj e).2.symm), (R_O_fr (R_O_fr O g1 (by decide)) g2 (by decide)), (R_T_fr (R_T_fr T g1 rfl rfl) g2 rfl rfl), (R_W_fr (R_W_fr W g1 (fun _ => rfl) (fun _ => rfl)) g2 (fun _ => rfl) (fun _ => rfl)), (R_B_fr (R_B_fr B g1 (fun _ => rfl) (fun _ => rfl)) g2 (fun _ => rfl) (fun _ => rfl)), (R_S_fr (R_S_fr S g1 (fun s b hs => c4 (P := fun s => inF F_X11_room (140 + 2 * s) b = false) rfl rfl rfl rfl s hs) (fun s b hs => c4 (P := fun s => inF F_X11_room (141 + 2 * s) b = false) rfl rfl rfl rfl s hs) (fun _ => rfl) (fun _ => rfl) (fun _ => rfl)) g2 (fun s b hs => c4 (P := fun s => inF F_X12_room (140 + 2 * s) b = false) rfl rfl rfl rfl s hs) (fun s b hs => c4 (P := fun s => inF F_X12_room (141 + 2 * s) b = false) rfl rfl rfl rfl s hs) (fun _ => rfl) (fun _ => rfl) (fun _ => rfl)), (R_U_fr (R_U_fr U g1 (by decide)) g2 (by decide)), (R_K_fr (R_K_fr K g1 (by decide)) g2 (by decide)), L', (R_E_fr (R_E_fr E g1 rfl rfl) g2 rfl rfl), J'⟩
set_option maxRecDepth 10000 in
set_option maxHeartbeats 2000000 in
theorem relc_feed {nn : Nat} {h h1 h2 : im_H} {w : Int64} {n : Int32} {y1 y2 : Int32} (hn : nn + 6 ≤ 3072) (hI : tI h) (I1 : tI h1) (I2 : tI h2) (hr : rel nn h) (g1 : fr F_X11_feed h h1) (g2 : fr F_X12_feed h1 h2) (r1 : Q1_feed w n y1 h h1) (r2 : Q2_feed w n y2 h1 h2) : rel (nn + 6) h2 := by
  obtain ⟨A, Y, w, Z, H, M, O, T, W, B, S, U, K, L, E, J⟩ := hr
  have A0 : cX h = cM h := A
  have Y0 : absX h 23 = absM h := Y
  have w0 : wX h 23 = wM h 149 := w
  have M0 : rmX h = rmM h := M
  have j := feed_join T W g1 g2 r1 r2
  exact ⟨(R_A_fr (R_A_fr A g1 (by decide) (by decide)) g2 (by decide) (by decide)), (R_Y_fr (R_Y_fr Y g1 (by decide) (by decide)) g2 (by decide) (by decide)), (R_w_fr (R_w_fr w g1 (by decide) (by decide)) g2 (by decide) (by decide)), (R_Z_fr (R_Z_fr Z g1 (by decide) (by decide)) g2 (by decide) (by decide)), (R_H_fr (R_H_fr H g1 rfl rfl) g2 rfl rfl), (R_M_fr (R_M_fr M g1 (by decide) (by decide)) g2 (by decide) (by decide)), (R_O_fr (R_O_fr O g1 (by decide)) g2 (by decide)), j.2.1, j.2.2, (R_B_fr (R_B_fr B g1 (fun _ => rfl) (fun _ => rfl)) g2 (fun _ => rfl) (fun _ => rfl)), (R_S_fr (R_S_fr S g1 (fun s b hs => c4 (P := fun s => inF F_X11_feed (140 + 2 * s) b = false) rfl rfl rfl rfl s hs) (fun s b hs => c4 (P := fun s => inF F_X11_feed (141 + 2 * s) b = false) rfl rfl rfl rfl s hs) (fun _ => rfl) (fun _ => rfl) (fun _ => rfl)) g2 (fun s b hs => c4 (P := fun s => inF F_X12_feed (140 + 2 * s) b = false) rfl rfl rfl rfl s hs) (fun s b hs => c4 (P := fun s => inF F_X12_feed (141 + 2 * s) b = false) rfl rfl rfl rfl s hs) (fun _ => rfl) (fun _ => rfl) (fun _ => rfl)), (R_U_fr (R_U_fr U g1 (by decide)) g2 (by decide)), (R_K_fr (R_K_fr K g1 (by decide)) g2 (by decide)), (L_mono (R_L_fr (R_L_fr L g1 (by decide) (by decide) (by decide) (by decide)) g2 (by decide) (by decide) (by decide) (by decide))), (R_E_fr (R_E_fr E g1 rfl rfl) g2 rfl rfl), (R_J_fr (R_J_fr J g1 (by decide)) g2 (by decide))⟩
set_option maxRecDepth 10000 in
set_option maxHeartbeats 2000000 in
theorem relc_order {nn : Nat} {h h1 h2 : im_H} {y1 y2 : Int32} (hn : nn + 6 ≤ 3072) (hI : tI h) (I1 : tI h1) (I2 : tI h2) (hr : rel nn h) (g1 : fr F_X11_order h h1) (g2 : fr F_X12_order h1 h2) (r1 : Q1_order y1 h h1) (r2 : Q2_order y2 h1 h2) : rel (nn + 6) h2 := by
  obtain ⟨A, Y, w, Z, H, M, O, T, W, B, S, U, K, L, E, J⟩ := hr
  have A0 : cX h = cM h := A
  have Y0 : absX h 23 = absM h := Y
  have w0 : wX h 23 = wM h 149 := w
  have M0 : rmX h = rmM h := M
  have j := order_join T W (rul_C O).1 B g1 g2 r1 r2
  have o := order_rul hI I2 O T W B g1 g2 r1 r2
  exact ⟨(R_A_fr (R_A_fr A g1 (by decide) (by decide)) g2 (by decide) (by decide)), (R_Y_fr (R_Y_fr Y g1 (by decide) (by decide)) g2 (by decide) (by decide)), (R_w_fr (R_w_fr w g1 (by decide) (by decide)) g2 (by decide) (by decide)), (R_Z_fr (R_Z_fr Z g1 (by decide) (by decide)) g2 (by decide) (by decide)), (R_H_fr (R_H_fr H g1 rfl rfl) g2 rfl rfl), (R_M_fr (R_M_fr M g1 (by decide) (by decide)) g2 (by decide) (by decide)), o, j.2.1, (R_W_fr (R_W_fr W g1 (fun _ => rfl) (fun _ => rfl)) g2 (fun _ => rfl) (fun _ => rfl)), (R_B_fr (R_B_fr B g1 (fun _ => rfl) (fun _ => rfl)) g2 (fun _ => rfl) (fun _ => rfl)), (R_S_fr (R_S_fr S g1 (fun s b hs => c4 (P := fun s => inF F_X11_order (140 + 2 * s) b = false) rfl rfl rfl rfl s hs) (fun s b hs => c4 (P := fun s => inF F_X11_order (141 + 2 * s) b = false) rfl rfl rfl rfl s hs) (fun _ => rfl) (fun _ => rfl) (fun _ => rfl)) g2 (fun s b hs => c4 (P := fun s => inF F_X12_order (140 + 2 * s) b = false) rfl rfl rfl rfl s hs) (fun s b hs => c4 (P := fun s => inF F_X12_order (141 + 2 * s) b = false) rfl rfl rfl rfl s hs) (fun _ => rfl) (fun _ => rfl) (fun _ => rfl)), (R_U_fr (R_U_fr U g1 (by decide)) g2 (by decide)), (R_K_fr (R_K_fr K g1 (by decide)) g2 (by decide)), (L_mono (R_L_fr (R_L_fr L g1 (by decide) (by decide) (by decide) (by decide)) g2 (by decide) (by decide) (by decide) (by decide))), (R_E_fr (R_E_fr E g1 rfl rfl) g2 rfl rfl), (R_J_fr (R_J_fr J g1 (by decide)) g2 (by decide))⟩
set_option maxRecDepth 10000 in
set_option maxHeartbeats 2000000 in
theorem relc_force {nn : Nat} {h h1 h2 : im_H} {x1 : Int32} {y1 y2 : Int32} (hn : nn + 6 ≤ 3072) (hI : tI h) (I1 : tI h1) (I2 : tI h2) (hr : rel nn h) (g1 : fr F_X11_force h h1) (g2 : fr F_X12_force h1 h2) (r1 : Q1_force x1 y1 h h1) (r2 : Q2_force x1 y2 h1 h2) : rel (nn + 6) h2 := by
  obtain ⟨A, Y, w, Z, H, M, O, T, W, B, S, U, K, L, E, J⟩ := hr
  have A0 : cX h = cM h := A
  have Y0 : absX h 23 = absM h := Y
  have w0 : wX h 23 = wM h 149 := w
  have M0 : rmX h = rmM h := M
  have o := force_rul O g1 g2 r1 r2
  exact ⟨(R_A_fr (R_A_fr A g1 (by decide) (by decide)) g2 (by decide) (by decide)), (R_Y_fr (R_Y_fr Y g1 (by decide) (by decide)) g2 (by decide) (by decide)), (R_w_fr (R_w_fr w g1 (by decide) (by decide)) g2 (by decide) (by decide)), (R_Z_fr (R_Z_fr Z g1 (by decide) (by decide)) g2 (by decide) (by decide)), (R_H_fr (R_H_fr H g1 rfl rfl) g2 rfl rfl), (R_M_fr (R_M_fr M g1 (by decide) (by decide)) g2 (by decide) (by decide)), o, (R_T_fr (R_T_fr T g1 rfl rfl) g2 rfl rfl), (R_W_fr (R_W_fr W g1 (fun _ => rfl) (fun _ => rfl)) g2 (fun _ => rfl) (fun _ => rfl)), (R_B_fr (R_B_fr B g1 (fun _ => rfl) (fun _ => rfl)) g2 (fun _ => rfl) (fun _ => rfl)), (R_S_fr (R_S_fr S g1 (fun s b hs => c4 (P := fun s => inF F_X11_force (140 + 2 * s) b = false) rfl rfl rfl rfl s hs) (fun s b hs => c4 (P := fun s => inF F_X11_force (141 + 2 * s) b = false) rfl rfl rfl rfl s hs) (fun _ => rfl) (fun _ => rfl) (fun _ => rfl)) g2 (fun s b hs => c4 (P := fun s => inF F_X12_force (140 + 2 * s) b = false) rfl rfl rfl rfl s hs) (fun s b hs => c4 (P := fun s => inF F_X12_force (141 + 2 * s) b = false) rfl rfl rfl rfl s hs) (fun _ => rfl) (fun _ => rfl) (fun _ => rfl)), (R_U_fr (R_U_fr U g1 (by decide)) g2 (by decide)), (R_K_fr (R_K_fr K g1 (by decide)) g2 (by decide)), (L_mono (R_L_fr (R_L_fr L g1 (by decide) (by decide) (by decide) (by decide)) g2 (by decide) (by decide) (by decide) (by decide))), (R_E_fr (R_E_fr E g1 rfl rfl) g2 rfl rfl), (R_J_fr (R_J_fr J g1 (by decide)) g2 (by decide))⟩
set_option maxRecDepth 10000 in
set_option maxHeartbeats 2000000 in
theorem relc_run {nn : Nat} {h h1 h2 : im_H} {x1 : Int32} {y1 y2 : Int32} (hn : nn + 6 ≤ 3072) (hI : tI h) (I1 : tI h1) (I2 : tI h2) (hr : rel nn h) (g1 : fr F_X11_run h h1) (g2 : fr F_X12_run h1 h2) (r1 : Q1_run x1 y1 h h1) (r2 : Q2_run x1 y2 h1 h2) : rel (nn + 6) h2 := by
  obtain ⟨A, Y, w, Z, H, M, O, T, W, B, S, U, K, L, E, J⟩ := hr
  have A0 : cX h = cM h := A
  have Y0 : absX h 23 = absM h := Y
  have w0 : wX h 23 = wM h 149 := w
  have M0 : rmX h = rmM h := M
  have r2 : (y2, absM h2) = run_f x1 (ctM h1) (absM h1) := r2 (prem hn hI L O K g1 (by decide))
  have r1 : (y1, absX h1 23) = run_f x1 (ctX h) (absX h 23) := r1
  rw [ctM_lo g1 (by decide), absM_fr g1 (by decide)] at r2
  have m : absM h2 = (run_f x1 (ctM h) (absM h)).2 := congrArg Prod.snd r2
  have e : (y2, absM h2) = (y1, absX h1 23) := by rw [r2, ← ct_eq A O, ← Y0, r1]
  have L' : R_L (nn + 6) h2 := L_mk L (by rw [m]; exact dy_mono (run_B (ctok hI L O) (nw16 hI) (by omega) L.1) (by omega)) (by rw [mc_fr2 g2 (by decide), mc_fr2 g1 (by decide)]; exact L.2.2.1) (show absI h2 = absI h from ((absC_fr g2 (by decide)).trans (absC_fr g1 (by decide)))) (by rw [rmM_fr g2 (by decide), rmM_fr g1 (by decide)]; exact L.2.2.2)
  exact ⟨(R_A_fr (R_A_fr A g1 (by decide) (by decide)) g2 (by decide) (by decide)), ((absX_fr g2 (by decide)).trans (Prod.mk.inj e).2.symm), (R_w_fr (R_w_fr w g1 (by decide) (by decide)) g2 (by decide) (by decide)), (R_Z_fr (R_Z_fr Z g1 (by decide) (by decide)) g2 (by decide) (by decide)), (R_H_fr (R_H_fr H g1 rfl rfl) g2 rfl rfl), (R_M_fr (R_M_fr M g1 (by decide) (by decide)) g2 (by decide) (by decide)), (R_O_fr (R_O_fr O g1 (by decide)) g2 (by decide)), (R_T_fr (R_T_fr T g1 rfl rfl) g2 rfl rfl), (R_W_fr (R_W_fr W g1 (fun _ => rfl) (fun _ => rfl)) g2 (fun _ => rfl) (fun _ => rfl)), (R_B_fr (R_B_fr B g1 (fun _ => rfl) (fun _ => rfl)) g2 (fun _ => rfl) (fun _ => rfl)), (R_S_fr (R_S_fr S g1 (fun s b hs => c4 (P := fun s => inF F_X11_run (140 + 2 * s) b = false) rfl rfl rfl rfl s hs) (fun s b hs => c4 (P := fun s => inF F_X11_run (141 + 2 * s) b = false) rfl rfl rfl rfl s hs) (fun _ => rfl) (fun _ => rfl) (fun _ => rfl)) g2 (fun s b hs => c4 (P := fun s => inF F_X12_run (140 + 2 * s) b = false) rfl rfl rfl rfl s hs) (fun s b hs => c4 (P := fun s => inF F_X12_run (141 + 2 * s) b = false) rfl rfl rfl rfl s hs) (fun _ => rfl) (fun _ => rfl) (fun _ => rfl)), (R_U_fr (R_U_fr U g1 (by decide)) g2 (by decide)), (R_K_fr (R_K_fr K g1 (by decide)) g2 (by decide)), L', (R_E_fr (R_E_fr E g1 rfl rfl) g2 rfl rfl), (R_J_fr (R_J_fr J g1 (by decide)) g2 (by decide))⟩
set_option maxRecDepth 10000 in
set_option maxHeartbeats 2000000 in
theorem relc_pull {nn : Nat} {h h1 h2 : im_H} {x1 : Int32} {y1 y2 : Int32} (hn : nn + 6 ≤ 3072) (hI : tI h) (I1 : tI h1) (I2 : tI h2) (hr : rel nn h) (g1 : fr F_X11_pull h h1) (g2 : fr F_X12_pull h1 h2) (r1 : Q1_pull x1 y1 h h1) (r2 : Q2_pull x1 y2 h1 h2) : rel (nn + 6) h2 := by
  obtain ⟨A, Y, w, Z, H, M, O, T, W, B, S, U, K, L, E, J⟩ := hr
  have A0 : cX h = cM h := A
  have Y0 : absX h 23 = absM h := Y
  have w0 : wX h 23 = wM h 149 := w
  have M0 : rmX h = rmM h := M
  have r2 : absM h2 = pull_f x1 (ctM h1) (absM h1) := r2 (prem hn hI L O K g1 (by decide))
  have r1 : absX h1 23 = pull_f x1 (ctX h) (absX h 23) := r1
  rw [ctM_lo g1 (by decide), absM_fr g1 (by decide)] at r2
  have e : absM h2 = absX h1 23 := by rw [r2, ← ct_eq A O, ← Y0, r1]
  have L' : R_L (nn + 6) h2 := L_mk L (by rw [r2]; exact dy_mono (pull_B (by omega) L.1) (by omega)) (by rw [mc_fr2 g2 (by decide), mc_fr2 g1 (by decide)]; exact L.2.2.1) (show absI h2 = absI h from ((absC_fr g2 (by decide)).trans (absC_fr g1 (by decide)))) (by rw [rmM_fr g2 (by decide), rmM_fr g1 (by decide)]; exact L.2.2.2)
  exact ⟨(R_A_fr (R_A_fr A g1 (by decide) (by decide)) g2 (by decide) (by decide)), ((absX_fr g2 (by decide)).trans e.symm), (R_w_fr (R_w_fr w g1 (by decide) (by decide)) g2 (by decide) (by decide)), (R_Z_fr (R_Z_fr Z g1 (by decide) (by decide)) g2 (by decide) (by decide)), (R_H_fr (R_H_fr H g1 rfl rfl) g2 rfl rfl), (R_M_fr (R_M_fr M g1 (by decide) (by decide)) g2 (by decide) (by decide)), (R_O_fr (R_O_fr O g1 (by decide)) g2 (by decide)), (R_T_fr (R_T_fr T g1 rfl rfl) g2 rfl rfl), (R_W_fr (R_W_fr W g1 (fun _ => rfl) (fun _ => rfl)) g2 (fun _ => rfl) (fun _ => rfl)), (R_B_fr (R_B_fr B g1 (fun _ => rfl) (fun _ => rfl)) g2 (fun _ => rfl) (fun _ => rfl)), (R_S_fr (R_S_fr S g1 (fun s b hs => c4 (P := fun s => inF F_X11_pull (140 + 2 * s) b = false) rfl rfl rfl rfl s hs) (fun s b hs => c4 (P := fun s => inF F_X11_pull (141 + 2 * s) b = false) rfl rfl rfl rfl s hs) (fun _ => rfl) (fun _ => rfl) (fun _ => rfl)) g2 (fun s b hs => c4 (P := fun s => inF F_X12_pull (140 + 2 * s) b = false) rfl rfl rfl rfl s hs) (fun s b hs => c4 (P := fun s => inF F_X12_pull (141 + 2 * s) b = false) rfl rfl rfl rfl s hs) (fun _ => rfl) (fun _ => rfl) (fun _ => rfl)), (R_U_fr (R_U_fr U g1 (by decide)) g2 (by decide)), (R_K_fr (R_K_fr K g1 (by decide)) g2 (by decide)), L', (R_E_fr (R_E_fr E g1 rfl rfl) g2 rfl rfl), (R_J_fr (R_J_fr J g1 (by decide)) g2 (by decide))⟩
set_option maxRecDepth 10000 in
set_option maxHeartbeats 2000000 in
theorem relc_pulls {nn : Nat} {h h1 h2 : im_H} {x1 : Int32} {y1 y2 : Int32} (hn : nn + 6 ≤ 3072) (hI : tI h) (I1 : tI h1) (I2 : tI h2) (hr : rel nn h) (g1 : fr F_X11_pulls h h1) (g2 : fr F_X12_pulls h1 h2) (r1 : Q1_pulls x1 y1 h h1) (r2 : Q2_pulls x1 y2 h1 h2) : rel (nn + 6) h2 := by
  obtain ⟨A, Y, w, Z, H, M, O, T, W, B, S, U, K, L, E, J⟩ := hr
  have A0 : cX h = cM h := A
  have Y0 : absX h 23 = absM h := Y
  have w0 : wX h 23 = wM h 149 := w
  have M0 : rmX h = rmM h := M
  have m : absM h2 = absM h := (absC_e (c := 149) (d := 149) (fun k _ => r2 k)).trans (absM_fr g1 (by decide))
  have m2 : wM h2 149 = wM h 149 := (wC_e (c := 149) (d := 149) (fun k _ => r2 k)).trans (wC_fr g1 (by decide))
  have L' : R_L (nn + 6) h2 := L_mk L (by rw [m]; exact dy_mono L.1 (by omega)) (by rw [mc_fr2 g2 (by decide), mc_fr2 g1 (by decide)]; exact L.2.2.1) (show absI h2 = absI h from ((absC_fr g2 (by decide)).trans (absC_fr g1 (by decide)))) (by rw [rmM_fr g2 (by decide), rmM_fr g1 (by decide)]; exact L.2.2.2)
  exact ⟨(R_A_fr (R_A_fr A g1 (by decide) (by decide)) g2 (by decide) (by decide)), ((absX_fr g2 (by decide)).trans ((absX_fr g1 (by decide)).trans (Y0.trans m.symm))), ((wX_fr g2 (by decide)).trans ((wX_fr g1 (by decide)).trans (w0.trans m2.symm))), (R_Z_fr (R_Z_fr Z g1 (by decide) (by decide)) g2 (by decide) (by decide)), (R_H_fr (R_H_fr H g1 rfl rfl) g2 rfl rfl), (R_M_fr (R_M_fr M g1 (by decide) (by decide)) g2 (by decide) (by decide)), (R_O_fr (R_O_fr O g1 (by decide)) g2 (by decide)), (R_T_fr (R_T_fr T g1 rfl rfl) g2 rfl rfl), (R_W_fr (R_W_fr W g1 (fun _ => rfl) (fun _ => rfl)) g2 (fun _ => rfl) (fun _ => rfl)), (R_B_fr (R_B_fr B g1 (fun _ => rfl) (fun _ => rfl)) g2 (fun _ => rfl) (fun _ => rfl)), (R_S_fr (R_S_fr S g1 (fun s b hs => c4 (P := fun s => inF F_X11_pulls (140 + 2 * s) b = false) rfl rfl rfl rfl s hs) (fun s b hs => c4 (P := fun s => inF F_X11_pulls (141 + 2 * s) b = false) rfl rfl rfl rfl s hs) (fun _ => rfl) (fun _ => rfl) (fun _ => rfl)) g2 (fun s b hs => c4 (P := fun s => inF F_X12_pulls (140 + 2 * s) b = false) rfl rfl rfl rfl s hs) (fun s b hs => c4 (P := fun s => inF F_X12_pulls (141 + 2 * s) b = false) rfl rfl rfl rfl s hs) (fun _ => rfl) (fun _ => rfl) (fun _ => rfl)), (R_U_fr (R_U_fr U g1 (by decide)) g2 (by decide)), (R_K_fr (R_K_fr K g1 (by decide)) g2 (by decide)), L', (R_E_fr (R_E_fr E g1 rfl rfl) g2 rfl rfl), (R_J_fr (R_J_fr J g1 (by decide)) g2 (by decide))⟩
set_option maxRecDepth 10000 in
set_option maxHeartbeats 2000000 in
theorem relc_mends {nn : Nat} {h h1 h2 : im_H} {x1 : Int32} {y1 y2 : Int32} (hn : nn + 6 ≤ 3072) (hI : tI h) (I1 : tI h1) (I2 : tI h2) (hr : rel nn h) (g1 : fr F_X11_mends h h1) (g2 : fr F_X12_mends h1 h2) (r1 : Q1_mends x1 y1 h h1) (r2 : Q2_mends x1 y2 h1 h2) : rel (nn + 6) h2 := by
  obtain ⟨A, Y, w, Z, H, M, O, T, W, B, S, U, K, L, E, J⟩ := hr
  have A0 : cX h = cM h := A
  have Y0 : absX h 23 = absM h := Y
  have w0 : wX h 23 = wM h 149 := w
  have M0 : rmX h = rmM h := M
  have hR : rmC (rmM h) := fun i => ⟨(L.2.2.2 i).1, (L.2.2.2 i).2, J i⟩
  have r2 := r2 (by rw [rmM_fr g1 (by decide)]; exact hR)
  have r2 : D2_mends x1 y2 h1 h2 := r2
  obtain ⟨_, en, yn, wn, lo, hi, _⟩ := hI.2.1 148 24 (.inl (0, 12, 9999999999)) rfl
  subst wn
  have nn_ : (rmM h).n = yn := rv_of en
  have key : y1 = y2 ∧ rv h1 72 5 = rv h2 148 43 := by
    by_cases hc : 0 ≤ x1.toInt ∧ x1.toInt ≤ 12
    · have a := r1.1 hc
      have b := r2.1 hc
      rw [M0, w0, Y0] at a
      rw [rmM_fr g1 (by decide), show wM h1 149 = wM h 149 from wC_fr g1 (by decide), absM_fr g1 (by decide)] at b
      exact men_eq hR hc.1 (by rw [nn_]; exact lo) (by rw [nn_]; exact hi) (L.1.2.2.2.2 0).1 (L.1.2.2.2.2 1).1 a b
    · have a := r1.2 hc
      have b := r2.2 hc
      exact ⟨a.1.trans b.1.symm, a.2.trans ((rv_c E).trans ((rv_c (g1 148 43 rfl)).symm.trans b.2.symm))⟩
  have E' : R_E h2 := mn_rd I2 ((rv_c (g2 72 5 rfl)).trans key.2)
  exact ⟨(R_A_fr (R_A_fr A g1 (by decide) (by decide)) g2 (by decide) (by decide)), (R_Y_fr (R_Y_fr Y g1 (by decide) (by decide)) g2 (by decide) (by decide)), (R_w_fr (R_w_fr w g1 (by decide) (by decide)) g2 (by decide) (by decide)), (R_Z_fr (R_Z_fr Z g1 (by decide) (by decide)) g2 (by decide) (by decide)), (R_H_fr (R_H_fr H g1 rfl rfl) g2 rfl rfl), (R_M_fr (R_M_fr M g1 (by decide) (by decide)) g2 (by decide) (by decide)), (R_O_fr (R_O_fr O g1 (by decide)) g2 (by decide)), (R_T_fr (R_T_fr T g1 rfl rfl) g2 rfl rfl), (R_W_fr (R_W_fr W g1 (fun _ => rfl) (fun _ => rfl)) g2 (fun _ => rfl) (fun _ => rfl)), (R_B_fr (R_B_fr B g1 (fun _ => rfl) (fun _ => rfl)) g2 (fun _ => rfl) (fun _ => rfl)), (R_S_fr (R_S_fr S g1 (fun s b hs => c4 (P := fun s => inF F_X11_mends (140 + 2 * s) b = false) rfl rfl rfl rfl s hs) (fun s b hs => c4 (P := fun s => inF F_X11_mends (141 + 2 * s) b = false) rfl rfl rfl rfl s hs) (fun _ => rfl) (fun _ => rfl) (fun _ => rfl)) g2 (fun s b hs => c4 (P := fun s => inF F_X12_mends (140 + 2 * s) b = false) rfl rfl rfl rfl s hs) (fun s b hs => c4 (P := fun s => inF F_X12_mends (141 + 2 * s) b = false) rfl rfl rfl rfl s hs) (fun _ => rfl) (fun _ => rfl) (fun _ => rfl)), (R_U_fr (R_U_fr U g1 (by decide)) g2 (by decide)), (R_K_fr (R_K_fr K g1 (by decide)) g2 (by decide)), (L_mono (R_L_fr (R_L_fr L g1 (by decide) (by decide) (by decide) (by decide)) g2 (by decide) (by decide) (by decide) (by decide))), E', (R_J_fr (R_J_fr J g1 (by decide)) g2 (by decide))⟩
set_option maxRecDepth 10000 in
set_option maxHeartbeats 2000000 in
theorem relc_mendTold {nn : Nat} {h h1 h2 : im_H} {y1 y2 : Int32} (hn : nn + 6 ≤ 3072) (hI : tI h) (I1 : tI h1) (I2 : tI h2) (hr : rel nn h) (g1 : fr F_X11_mendTold h h1) (g2 : fr F_X12_mendTold h1 h2) (r1 : Q1_mendTold y1 h h1) (r2 : Q2_mendTold y2 h1 h2) : y1 = y2 ∧ rel (nn + 6) h2 := by
  obtain ⟨A, Y, w, Z, H, M, O, T, W, B, S, U, K, L, E, J⟩ := hr
  have A0 : cX h = cM h := A
  have Y0 : absX h 23 = absM h := Y
  have w0 : wX h 23 = wM h 149 := w
  have M0 : rmX h = rmM h := M
  exact ⟨(r1.trans ((rv_c E).trans ((rv_c (g1 148 43 rfl)).symm.trans r2.symm))), (R_A_fr (R_A_fr A g1 (by decide) (by decide)) g2 (by decide) (by decide)), (R_Y_fr (R_Y_fr Y g1 (by decide) (by decide)) g2 (by decide) (by decide)), (R_w_fr (R_w_fr w g1 (by decide) (by decide)) g2 (by decide) (by decide)), (R_Z_fr (R_Z_fr Z g1 (by decide) (by decide)) g2 (by decide) (by decide)), (R_H_fr (R_H_fr H g1 rfl rfl) g2 rfl rfl), (R_M_fr (R_M_fr M g1 (by decide) (by decide)) g2 (by decide) (by decide)), (R_O_fr (R_O_fr O g1 (by decide)) g2 (by decide)), (R_T_fr (R_T_fr T g1 rfl rfl) g2 rfl rfl), (R_W_fr (R_W_fr W g1 (fun _ => rfl) (fun _ => rfl)) g2 (fun _ => rfl) (fun _ => rfl)), (R_B_fr (R_B_fr B g1 (fun _ => rfl) (fun _ => rfl)) g2 (fun _ => rfl) (fun _ => rfl)), (R_S_fr (R_S_fr S g1 (fun s b hs => c4 (P := fun s => inF F_X11_mendTold (140 + 2 * s) b = false) rfl rfl rfl rfl s hs) (fun s b hs => c4 (P := fun s => inF F_X11_mendTold (141 + 2 * s) b = false) rfl rfl rfl rfl s hs) (fun _ => rfl) (fun _ => rfl) (fun _ => rfl)) g2 (fun s b hs => c4 (P := fun s => inF F_X12_mendTold (140 + 2 * s) b = false) rfl rfl rfl rfl s hs) (fun s b hs => c4 (P := fun s => inF F_X12_mendTold (141 + 2 * s) b = false) rfl rfl rfl rfl s hs) (fun _ => rfl) (fun _ => rfl) (fun _ => rfl)), (R_U_fr (R_U_fr U g1 (by decide)) g2 (by decide)), (R_K_fr (R_K_fr K g1 (by decide)) g2 (by decide)), (L_mono (R_L_fr (R_L_fr L g1 (by decide) (by decide) (by decide) (by decide)) g2 (by decide) (by decide) (by decide) (by decide))), (R_E_fr (R_E_fr E g1 rfl rfl) g2 rfl rfl), (R_J_fr (R_J_fr J g1 (by decide)) g2 (by decide))⟩
set_option maxRecDepth 10000 in
set_option maxHeartbeats 2000000 in
theorem relc_mend {nn : Nat} {h h1 h2 : im_H} {x1 : Int32} {y1 y2 : Int32} (hn : nn + 6 ≤ 3072) (hI : tI h) (I1 : tI h1) (I2 : tI h2) (hr : rel nn h) (g1 : fr F_X11_mend h h1) (g2 : fr F_X12_mend h1 h2) (r1 : Q1_mend x1 y1 h h1) (r2 : Q2_mend x1 y2 h1 h2) : rel (nn + 6) h2 := by
  obtain ⟨A, Y, w, Z, H, M, O, T, W, B, S, U, K, L, E, J⟩ := hr
  have A0 : cX h = cM h := A
  have Y0 : absX h 23 = absM h := Y
  have w0 : wX h 23 = wM h 149 := w
  have M0 : rmX h = rmM h := M
  have r2 : (y2, wM h2 149, absM h2) = mend_f x1 (rmM h1) (wM h1 149) (absM h1) := r2
  have r1 : (y1, wX h1 23, absX h1 23) = mend_f x1 (rmX h) (wX h 23) (absX h 23) := r1
  rw [rmM_fr g1 (by decide), wC_fr g1 (by decide), absM_fr g1 (by decide)] at r2
  have e : (y2, wM h2 149, absM h2) = (y1, wX h1 23, absX h1 23) := by rw [r2, ← M0, ← w0, ← Y0, r1]
  obtain ⟨e1, e2⟩ := Prod.mk.inj e
  obtain ⟨e3, e4⟩ := Prod.mk.inj e2
  have m : absM h2 = (mend_f x1 (rmM h) (wM h 149) (absM h)).2.2 := by rw [← r2]
  have L' : R_L (nn + 6) h2 := L_mk L (by rw [m]; exact dy_mono (mend_B L.1 L.2.2.2) (by omega)) (by rw [mc_fr2 g2 (by decide), mc_fr2 g1 (by decide)]; exact L.2.2.1) (show absI h2 = absI h from ((absC_fr g2 (by decide)).trans (absC_fr g1 (by decide)))) (by rw [rmM_fr g2 (by decide), rmM_fr g1 (by decide)]; exact L.2.2.2)
  exact ⟨(R_A_fr (R_A_fr A g1 (by decide) (by decide)) g2 (by decide) (by decide)), ((absX_fr g2 (by decide)).trans e4.symm), ((wX_fr g2 (by decide)).trans e3.symm), (R_Z_fr (R_Z_fr Z g1 (by decide) (by decide)) g2 (by decide) (by decide)), (R_H_fr (R_H_fr H g1 rfl rfl) g2 rfl rfl), (R_M_fr (R_M_fr M g1 (by decide) (by decide)) g2 (by decide) (by decide)), (R_O_fr (R_O_fr O g1 (by decide)) g2 (by decide)), (R_T_fr (R_T_fr T g1 rfl rfl) g2 rfl rfl), (R_W_fr (R_W_fr W g1 (fun _ => rfl) (fun _ => rfl)) g2 (fun _ => rfl) (fun _ => rfl)), (R_B_fr (R_B_fr B g1 (fun _ => rfl) (fun _ => rfl)) g2 (fun _ => rfl) (fun _ => rfl)), (R_S_fr (R_S_fr S g1 (fun s b hs => c4 (P := fun s => inF F_X11_mend (140 + 2 * s) b = false) rfl rfl rfl rfl s hs) (fun s b hs => c4 (P := fun s => inF F_X11_mend (141 + 2 * s) b = false) rfl rfl rfl rfl s hs) (fun _ => rfl) (fun _ => rfl) (fun _ => rfl)) g2 (fun s b hs => c4 (P := fun s => inF F_X12_mend (140 + 2 * s) b = false) rfl rfl rfl rfl s hs) (fun s b hs => c4 (P := fun s => inF F_X12_mend (141 + 2 * s) b = false) rfl rfl rfl rfl s hs) (fun _ => rfl) (fun _ => rfl) (fun _ => rfl)), (R_U_fr (R_U_fr U g1 (by decide)) g2 (by decide)), (R_K_fr (R_K_fr K g1 (by decide)) g2 (by decide)), L', (R_E_fr (R_E_fr E g1 rfl rfl) g2 rfl rfl), (R_J_fr (R_J_fr J g1 (by decide)) g2 (by decide))⟩
set_option maxRecDepth 10000 in
set_option maxHeartbeats 2000000 in
theorem relc_beside {nn : Nat} {h h1 h2 : im_H} {x1 x2 : Int32} {y1 y2 : Int64} (hn : nn + 6 ≤ 3072) (hI : tI h) (I1 : tI h1) (I2 : tI h2) (hr : rel nn h) (g1 : fr F_X11_beside h h1) (g2 : fr F_X12_beside h1 h2) (r1 : Q1_beside x1 x2 y1 h h1) (r2 : Q2_beside x1 x2 y2 h1 h2) : rel (nn + 6) h2 := by
  obtain ⟨A, Y, w, Z, H, M, O, T, W, B, S, U, K, L, E, J⟩ := hr
  have A0 : cX h = cM h := A
  have Y0 : absX h 23 = absM h := Y
  have w0 : wX h 23 = wM h 149 := w
  have M0 : rmX h = rmM h := M
  have m : absM h2 = absM h := (absC_e (c := 149) (d := 149) (fun k hk => r2 k hk)).trans (absM_fr g1 (by decide))
  have m2 : wM h2 149 = wM h 149 := (wC_e (c := 149) (d := 149) (fun k hk => r2 k hk)).trans (wC_fr g1 (by decide))
  have L' : R_L (nn + 6) h2 := L_mk L (by rw [m]; exact dy_mono L.1 (by omega)) (by rw [mc_fr2 g2 (by decide), mc_fr2 g1 (by decide)]; exact L.2.2.1) (show absI h2 = absI h from ((absC_fr g2 (by decide)).trans (absC_fr g1 (by decide)))) (by rw [rmM_fr g2 (by decide), rmM_fr g1 (by decide)]; exact L.2.2.2)
  exact ⟨(R_A_fr (R_A_fr A g1 (by decide) (by decide)) g2 (by decide) (by decide)), ((absX_fr g2 (by decide)).trans ((absX_fr g1 (by decide)).trans (Y0.trans m.symm))), ((wX_fr g2 (by decide)).trans ((wX_fr g1 (by decide)).trans (w0.trans m2.symm))), (R_Z_fr (R_Z_fr Z g1 (by decide) (by decide)) g2 (by decide) (by decide)), (R_H_fr (R_H_fr H g1 rfl rfl) g2 rfl rfl), (R_M_fr (R_M_fr M g1 (by decide) (by decide)) g2 (by decide) (by decide)), (R_O_fr (R_O_fr O g1 (by decide)) g2 (by decide)), (R_T_fr (R_T_fr T g1 rfl rfl) g2 rfl rfl), (R_W_fr (R_W_fr W g1 (fun _ => rfl) (fun _ => rfl)) g2 (fun _ => rfl) (fun _ => rfl)), (R_B_fr (R_B_fr B g1 (fun _ => rfl) (fun _ => rfl)) g2 (fun _ => rfl) (fun _ => rfl)), (R_S_fr (R_S_fr S g1 (fun s b hs => c4 (P := fun s => inF F_X11_beside (140 + 2 * s) b = false) rfl rfl rfl rfl s hs) (fun s b hs => c4 (P := fun s => inF F_X11_beside (141 + 2 * s) b = false) rfl rfl rfl rfl s hs) (fun _ => rfl) (fun _ => rfl) (fun _ => rfl)) g2 (fun s b hs => c4 (P := fun s => inF F_X12_beside (140 + 2 * s) b = false) rfl rfl rfl rfl s hs) (fun s b hs => c4 (P := fun s => inF F_X12_beside (141 + 2 * s) b = false) rfl rfl rfl rfl s hs) (fun _ => rfl) (fun _ => rfl) (fun _ => rfl)), (R_U_fr (R_U_fr U g1 (by decide)) g2 (by decide)), (R_K_fr (R_K_fr K g1 (by decide)) g2 (by decide)), L', (R_E_fr (R_E_fr E g1 rfl rfl) g2 rfl rfl), (R_J_fr (R_J_fr J g1 (by decide)) g2 (by decide))⟩
set_option maxRecDepth 10000 in
set_option maxHeartbeats 2000000 in
theorem relc_clear {nn : Nat} {h h1 h2 : im_H} {x1 x2 : Int32} {y1 y2 : Int32} (hn : nn + 6 ≤ 3072) (hI : tI h) (I1 : tI h1) (I2 : tI h2) (hr : rel nn h) (g1 : fr F_X11_clear h h1) (g2 : fr F_X12_clear h1 h2) (r1 : Q1_clear x1 x2 y1 h h1) (r2 : Q2_clear x1 x2 y2 h1 h2) : rel (nn + 6) h2 := by
  obtain ⟨A, Y, w, Z, H, M, O, T, W, B, S, U, K, L, E, J⟩ := hr
  have A0 : cX h = cM h := A
  have Y0 : absX h 23 = absM h := Y
  have w0 : wX h 23 = wM h 149 := w
  have M0 : rmX h = rmM h := M
  have m : absM h2 = absM h := (absC_e (c := 149) (d := 149) (fun k hk => r2 k hk)).trans (absM_fr g1 (by decide))
  have m2 : wM h2 149 = wM h 149 := (wC_e (c := 149) (d := 149) (fun k hk => r2 k hk)).trans (wC_fr g1 (by decide))
  have L' : R_L (nn + 6) h2 := L_mk L (by rw [m]; exact dy_mono L.1 (by omega)) (by rw [mc_fr2 g2 (by decide), mc_fr2 g1 (by decide)]; exact L.2.2.1) (show absI h2 = absI h from ((absC_fr g2 (by decide)).trans (absC_fr g1 (by decide)))) (by rw [rmM_fr g2 (by decide), rmM_fr g1 (by decide)]; exact L.2.2.2)
  exact ⟨(R_A_fr (R_A_fr A g1 (by decide) (by decide)) g2 (by decide) (by decide)), ((absX_fr g2 (by decide)).trans ((absX_fr g1 (by decide)).trans (Y0.trans m.symm))), ((wX_fr g2 (by decide)).trans ((wX_fr g1 (by decide)).trans (w0.trans m2.symm))), (R_Z_fr (R_Z_fr Z g1 (by decide) (by decide)) g2 (by decide) (by decide)), (R_H_fr (R_H_fr H g1 rfl rfl) g2 rfl rfl), (R_M_fr (R_M_fr M g1 (by decide) (by decide)) g2 (by decide) (by decide)), (R_O_fr (R_O_fr O g1 (by decide)) g2 (by decide)), (R_T_fr (R_T_fr T g1 rfl rfl) g2 rfl rfl), (R_W_fr (R_W_fr W g1 (fun _ => rfl) (fun _ => rfl)) g2 (fun _ => rfl) (fun _ => rfl)), (R_B_fr (R_B_fr B g1 (fun _ => rfl) (fun _ => rfl)) g2 (fun _ => rfl) (fun _ => rfl)), (R_S_fr (R_S_fr S g1 (fun s b hs => c4 (P := fun s => inF F_X11_clear (140 + 2 * s) b = false) rfl rfl rfl rfl s hs) (fun s b hs => c4 (P := fun s => inF F_X11_clear (141 + 2 * s) b = false) rfl rfl rfl rfl s hs) (fun _ => rfl) (fun _ => rfl) (fun _ => rfl)) g2 (fun s b hs => c4 (P := fun s => inF F_X12_clear (140 + 2 * s) b = false) rfl rfl rfl rfl s hs) (fun s b hs => c4 (P := fun s => inF F_X12_clear (141 + 2 * s) b = false) rfl rfl rfl rfl s hs) (fun _ => rfl) (fun _ => rfl) (fun _ => rfl)), (R_U_fr (R_U_fr U g1 (by decide)) g2 (by decide)), (R_K_fr (R_K_fr K g1 (by decide)) g2 (by decide)), L', (R_E_fr (R_E_fr E g1 rfl rfl) g2 rfl rfl), (R_J_fr (R_J_fr J g1 (by decide)) g2 (by decide))⟩
set_option maxRecDepth 10000 in
set_option maxHeartbeats 2000000 in
theorem relc_image {nn : Nat} {h h1 h2 : im_H} {y1 y2 : Int32} (hn : nn + 6 ≤ 3072) (hI : tI h) (I1 : tI h1) (I2 : tI h2) (hr : rel nn h) (g1 : fr F_X11_image h h1) (g2 : fr F_X12_image h1 h2) (r1 : Q1_image y1 h h1) (r2 : Q2_image y2 h1 h2) : rel (nn + 6) h2 := by
  obtain ⟨A, Y, w, Z, H, M, O, T, W, B, S, U, K, L, E, J⟩ := hr
  have A0 : cX h = cM h := A
  have Y0 : absX h 23 = absM h := Y
  have w0 : wX h 23 = wM h 149 := w
  have M0 : rmX h = rmM h := M
  obtain ⟨_, bx, m1⟩ := r1
  obtain ⟨_, C, m2⟩ := r2
  have cI : absI h2 = absM h := (absC_e (c := 151) (d := 149) C).trans (absM_fr g1 (by decide))
  have cw : wM h2 151 = wM h 149 := (wC_e (c := 151) (d := 149) C).trans (wC_fr g1 (by decide))
  have L' : R_L (nn + 6) h2 := ⟨(by rw [absM_fr g2 (by decide), absM_fr g1 (by decide)]; exact dy_mono L.1 (by omega)), by rw [cI]; exact dy_mono L.1 (by omega), (by rw [mc_fr2 g2 (by decide), mc_fr2 g1 (by decide)]; exact L.2.2.1), (by rw [rmM_fr g2 (by decide), rmM_fr g1 (by decide)]; exact L.2.2.2)⟩
  exact ⟨(R_A_fr (R_A_fr A g1 (by decide) (by decide)) g2 (by decide) (by decide)), (R_Y_fr (R_Y_fr Y g1 (by decide) (by decide)) g2 (by decide) (by decide)), (R_w_fr (R_w_fr w g1 (by decide) (by decide)) g2 (by decide) (by decide)), (Or.inr ⟨(absX_fr g2 (by decide)).trans ((bec_abs bx).1.trans (Y0.trans cI.symm)), (wX_fr g2 (by decide)).trans ((bec_abs bx).2.trans (w0.trans cw.symm))⟩), (((g2 0 4 rfl).trans m1).trans m2.symm), (R_M_fr (R_M_fr M g1 (by decide) (by decide)) g2 (by decide) (by decide)), (R_O_fr (R_O_fr O g1 (by decide)) g2 (by decide)), (R_T_fr (R_T_fr T g1 rfl rfl) g2 rfl rfl), (R_W_fr (R_W_fr W g1 (fun _ => rfl) (fun _ => rfl)) g2 (fun _ => rfl) (fun _ => rfl)), (R_B_fr (R_B_fr B g1 (fun _ => rfl) (fun _ => rfl)) g2 (fun _ => rfl) (fun _ => rfl)), (R_S_fr (R_S_fr S g1 (fun s b hs => c4 (P := fun s => inF F_X11_image (140 + 2 * s) b = false) rfl rfl rfl rfl s hs) (fun s b hs => c4 (P := fun s => inF F_X11_image (141 + 2 * s) b = false) rfl rfl rfl rfl s hs) (fun _ => rfl) (fun _ => rfl) (fun _ => rfl)) g2 (fun s b hs => c4 (P := fun s => inF F_X12_image (140 + 2 * s) b = false) rfl rfl rfl rfl s hs) (fun s b hs => c4 (P := fun s => inF F_X12_image (141 + 2 * s) b = false) rfl rfl rfl rfl s hs) (fun _ => rfl) (fun _ => rfl) (fun _ => rfl)), (R_U_fr (R_U_fr U g1 (by decide)) g2 (by decide)), (R_K_fr (R_K_fr K g1 (by decide)) g2 (by decide)), L', (R_E_fr (R_E_fr E g1 rfl rfl) g2 rfl rfl), (R_J_fr (R_J_fr J g1 (by decide)) g2 (by decide))⟩
set_option maxRecDepth 10000 in
set_option maxHeartbeats 2000000 in
theorem relc_back {nn : Nat} {h h1 h2 : im_H} {y1 y2 : Int32} (hn : nn + 6 ≤ 3072) (hI : tI h) (I1 : tI h1) (I2 : tI h2) (hr : rel nn h) (g1 : fr F_X11_back h h1) (g2 : fr F_X12_back h1 h2) (r1 : Q1_back y1 h h1) (r2 : Q2_back y2 h1 h2) : rel (nn + 6) h2 := by
  obtain ⟨A, Y, w, Z, H, M, O, T, W, B, S, U, K, L, E, J⟩ := hr
  have A0 : cX h = cM h := A
  have Y0 : absX h 23 = absM h := Y
  have w0 : wX h 23 = wM h 149 := w
  have M0 : rmX h = rmM h := M
  obtain ⟨b, e1, r1⟩ := r1
  obtain ⟨c, e2, r2⟩ := r2
  have e4 : b = c := int_inj e1 (H.trans ((g1 148 3 rfl).symm.trans e2))
  rw [← e4] at r2
  have key : R_Y h2 ∧ R_w h2 ∧ R_L (nn + 6) h2 := by
    rcases r1 with ⟨z1, _, w1⟩ | ⟨z1, _, bx⟩
    · rcases r2 with ⟨z2, _, w2⟩ | ⟨z2, _, C⟩
      · rw [w2, w1]; exact ⟨Y, w, L_mono L⟩
      · exact absurd z1 z2
    · rcases r2 with ⟨z2, _, w2⟩ | ⟨z2, _, C⟩
      · exact absurd z2 z1
      · have Z0 : absX h 51 = absI h ∧ wX h 51 = wM h 151 := Z.resolve_left (fun q => z1 (by rw [int_inj e1 q]; rfl))
        have cM_ : absM h2 = absI h := (absC_e (c := 149) (d := 151) C).trans (absC_fr g1 (by decide))
        have cw : wM h2 149 = wM h 151 := (wC_e (c := 149) (d := 151) C).trans (wC_fr g1 (by decide))
        exact ⟨(absX_fr g2 (by decide)).trans ((bec_abs bx).1.trans (Z0.1.trans cM_.symm)), (wX_fr g2 (by decide)).trans ((bec_abs bx).2.trans (Z0.2.trans cw.symm)), L_mk L (by rw [cM_]; exact dy_mono L.2.1 (by omega)) (by rw [mc_fr2 g2 (by decide), mc_fr2 g1 (by decide)]; exact L.2.2.1) (show absI h2 = absI h from ((absC_fr g2 (by decide)).trans (absC_fr g1 (by decide)))) (by rw [rmM_fr g2 (by decide), rmM_fr g1 (by decide)]; exact L.2.2.2)⟩
  exact ⟨(R_A_fr (R_A_fr A g1 (by decide) (by decide)) g2 (by decide) (by decide)), key.1, key.2.1, (R_Z_fr (R_Z_fr Z g1 (by decide) (by decide)) g2 (by decide) (by decide)), (R_H_fr (R_H_fr H g1 rfl rfl) g2 rfl rfl), (R_M_fr (R_M_fr M g1 (by decide) (by decide)) g2 (by decide) (by decide)), (R_O_fr (R_O_fr O g1 (by decide)) g2 (by decide)), (R_T_fr (R_T_fr T g1 rfl rfl) g2 rfl rfl), (R_W_fr (R_W_fr W g1 (fun _ => rfl) (fun _ => rfl)) g2 (fun _ => rfl) (fun _ => rfl)), (R_B_fr (R_B_fr B g1 (fun _ => rfl) (fun _ => rfl)) g2 (fun _ => rfl) (fun _ => rfl)), (R_S_fr (R_S_fr S g1 (fun s b hs => c4 (P := fun s => inF F_X11_back (140 + 2 * s) b = false) rfl rfl rfl rfl s hs) (fun s b hs => c4 (P := fun s => inF F_X11_back (141 + 2 * s) b = false) rfl rfl rfl rfl s hs) (fun _ => rfl) (fun _ => rfl) (fun _ => rfl)) g2 (fun s b hs => c4 (P := fun s => inF F_X12_back (140 + 2 * s) b = false) rfl rfl rfl rfl s hs) (fun s b hs => c4 (P := fun s => inF F_X12_back (141 + 2 * s) b = false) rfl rfl rfl rfl s hs) (fun _ => rfl) (fun _ => rfl) (fun _ => rfl)), (R_U_fr (R_U_fr U g1 (by decide)) g2 (by decide)), (R_K_fr (R_K_fr K g1 (by decide)) g2 (by decide)), key.2.2, (R_E_fr (R_E_fr E g1 rfl rfl) g2 rfl rfl), (R_J_fr (R_J_fr J g1 (by decide)) g2 (by decide))⟩
set_option maxRecDepth 10000 in
set_option maxHeartbeats 2000000 in
theorem relc_sheet {nn : Nat} {h h1 h2 : im_H} {x1 x2 x3 : Int32} {y1 y2 : Int32} (hn : nn + 6 ≤ 3072) (hI : tI h) (I1 : tI h1) (I2 : tI h2) (hr : rel nn h) (g1 : fr F_X11_sheet h h1) (g2 : fr F_X12_sheet h1 h2) (r1 : Q1_sheet x1 x2 x3 y1 h h1) (r2 : Q2_sheet x1 x2 x3 y2 h1 h2) : rel (nn + 6) h2 := by
  obtain ⟨A, Y, w, Z, H, M, O, T, W, B, S, U, K, L, E, J⟩ := hr
  have A0 : cX h = cM h := A
  have Y0 : absX h 23 = absM h := Y
  have w0 : wX h 23 = wM h 149 := w
  have M0 : rmX h = rmM h := M
  exact ⟨(R_A_fr (R_A_fr A g1 (by decide) (by decide)) g2 (by decide) (by decide)), (R_Y_fr (R_Y_fr Y g1 (by decide) (by decide)) g2 (by decide) (by decide)), (R_w_fr (R_w_fr w g1 (by decide) (by decide)) g2 (by decide) (by decide)), (R_Z_fr (R_Z_fr Z g1 (by decide) (by decide)) g2 (by decide) (by decide)), (R_H_fr (R_H_fr H g1 rfl rfl) g2 rfl rfl), (R_M_fr (R_M_fr M g1 (by decide) (by decide)) g2 (by decide) (by decide)), (R_O_fr (R_O_fr O g1 (by decide)) g2 (by decide)), (R_T_fr (R_T_fr T g1 rfl rfl) g2 rfl rfl), (R_W_fr (R_W_fr W g1 (fun _ => rfl) (fun _ => rfl)) g2 (fun _ => rfl) (fun _ => rfl)), (R_B_fr (R_B_fr B g1 (fun _ => rfl) (fun _ => rfl)) g2 (fun _ => rfl) (fun _ => rfl)), (sheet_join S g1 g2 r1 r2), (R_U_fr (R_U_fr U g1 (by decide)) g2 (by decide)), (R_K_fr (R_K_fr K g1 (by decide)) g2 (by decide)), (L_mono (R_L_fr (R_L_fr L g1 (by decide) (by decide) (by decide) (by decide)) g2 (by decide) (by decide) (by decide) (by decide))), (R_E_fr (R_E_fr E g1 rfl rfl) g2 rfl rfl), (R_J_fr (R_J_fr J g1 (by decide)) g2 (by decide))⟩
set_option maxRecDepth 10000 in
set_option maxHeartbeats 2000000 in
theorem relc_cell {nn : Nat} {h h1 h2 : im_H} {x1 x2 x3 : Int32} {y1 y2 : Int32} (hn : nn + 6 ≤ 3072) (hI : tI h) (I1 : tI h1) (I2 : tI h2) (hr : rel nn h) (g1 : fr F_X11_cell h h1) (g2 : fr F_X12_cell h1 h2) (r1 : Q1_cell x1 x2 x3 y1 h h1) (r2 : Q2_cell x1 x2 x3 y2 h1 h2) : rel (nn + 6) h2 := by
  obtain ⟨A, Y, w, Z, H, M, O, T, W, B, S, U, K, L, E, J⟩ := hr
  have A0 : cX h = cM h := A
  have Y0 : absX h 23 = absM h := Y
  have w0 : wX h 23 = wM h 149 := w
  have M0 : rmX h = rmM h := M
  exact ⟨(R_A_fr (R_A_fr A g1 (by decide) (by decide)) g2 (by decide) (by decide)), (R_Y_fr (R_Y_fr Y g1 (by decide) (by decide)) g2 (by decide) (by decide)), (R_w_fr (R_w_fr w g1 (by decide) (by decide)) g2 (by decide) (by decide)), (R_Z_fr (R_Z_fr Z g1 (by decide) (by decide)) g2 (by decide) (by decide)), (R_H_fr (R_H_fr H g1 rfl rfl) g2 rfl rfl), (R_M_fr (R_M_fr M g1 (by decide) (by decide)) g2 (by decide) (by decide)), (R_O_fr (R_O_fr O g1 (by decide)) g2 (by decide)), (R_T_fr (R_T_fr T g1 rfl rfl) g2 rfl rfl), (R_W_fr (R_W_fr W g1 (fun _ => rfl) (fun _ => rfl)) g2 (fun _ => rfl) (fun _ => rfl)), (R_B_fr (R_B_fr B g1 (fun _ => rfl) (fun _ => rfl)) g2 (fun _ => rfl) (fun _ => rfl)), ((cell_join S g1 g2 r1 r2).2), (R_U_fr (R_U_fr U g1 (by decide)) g2 (by decide)), (R_K_fr (R_K_fr K g1 (by decide)) g2 (by decide)), (L_mono (R_L_fr (R_L_fr L g1 (by decide) (by decide) (by decide) (by decide)) g2 (by decide) (by decide) (by decide) (by decide))), (R_E_fr (R_E_fr E g1 rfl rfl) g2 rfl rfl), (R_J_fr (R_J_fr J g1 (by decide)) g2 (by decide))⟩
set_option maxRecDepth 10000 in
set_option maxHeartbeats 2000000 in
theorem relc_copy {nn : Nat} {h h1 h2 : im_H} {x1 x2 x3 x4 x5 : Int32} {y1 y2 : Int32} (hn : nn + 6 ≤ 3072) (hI : tI h) (I1 : tI h1) (I2 : tI h2) (hr : rel nn h) (g1 : fr F_X11_copy h h1) (g2 : fr F_X12_copy h1 h2) (r1 : Q1_copy x1 x2 x3 x4 x5 y1 h h1) (r2 : Q2_copy x1 x2 x3 x4 x5 y2 h1 h2) : rel (nn + 6) h2 := by
  obtain ⟨A, Y, w, Z, H, M, O, T, W, B, S, U, K, L, E, J⟩ := hr
  have A0 : cX h = cM h := A
  have Y0 : absX h 23 = absM h := Y
  have w0 : wX h 23 = wM h 149 := w
  have M0 : rmX h = rmM h := M
  exact ⟨(R_A_fr (R_A_fr A g1 (by decide) (by decide)) g2 (by decide) (by decide)), (R_Y_fr (R_Y_fr Y g1 (by decide) (by decide)) g2 (by decide) (by decide)), (R_w_fr (R_w_fr w g1 (by decide) (by decide)) g2 (by decide) (by decide)), (R_Z_fr (R_Z_fr Z g1 (by decide) (by decide)) g2 (by decide) (by decide)), (R_H_fr (R_H_fr H g1 rfl rfl) g2 rfl rfl), (R_M_fr (R_M_fr M g1 (by decide) (by decide)) g2 (by decide) (by decide)), (R_O_fr (R_O_fr O g1 (by decide)) g2 (by decide)), (R_T_fr (R_T_fr T g1 rfl rfl) g2 rfl rfl), (R_W_fr (R_W_fr W g1 (fun _ => rfl) (fun _ => rfl)) g2 (fun _ => rfl) (fun _ => rfl)), (R_B_fr (R_B_fr B g1 (fun _ => rfl) (fun _ => rfl)) g2 (fun _ => rfl) (fun _ => rfl)), ((copy_join S g1 g2 r1 r2).2), (R_U_fr (R_U_fr U g1 (by decide)) g2 (by decide)), (R_K_fr (R_K_fr K g1 (by decide)) g2 (by decide)), (L_mono (R_L_fr (R_L_fr L g1 (by decide) (by decide) (by decide) (by decide)) g2 (by decide) (by decide) (by decide) (by decide))), (R_E_fr (R_E_fr E g1 rfl rfl) g2 rfl rfl), (R_J_fr (R_J_fr J g1 (by decide)) g2 (by decide))⟩
set_option maxRecDepth 10000 in
set_option maxHeartbeats 2000000 in
theorem relc_people {nn : Nat} {h h1 h2 : im_H} {x1 x2 x3 x4 : Int32} {y1 y2 : Int32} (hn : nn + 6 ≤ 3072) (hI : tI h) (I1 : tI h1) (I2 : tI h2) (hr : rel nn h) (g1 : fr F_X11_people h h1) (g2 : fr F_X12_people h1 h2) (r1 : Q1_people x1 x2 x3 x4 y1 h h1) (r2 : Q2_people x1 x2 x3 x4 y2 h1 h2) : rel (nn + 6) h2 := by
  obtain ⟨A, Y, w, Z, H, M, O, T, W, B, S, U, K, L, E, J⟩ := hr
  have A0 : cX h = cM h := A
  have Y0 : absX h 23 = absM h := Y
  have w0 : wX h 23 = wM h 149 := w
  have M0 : rmX h = rmM h := M
  have r1 := r1.trans (people_eq (fun a b => sh_eq (x := x1) hI S (fun k => ⟨g1 _ _ rfl, g1 _ _ rfl, g1 _ _ rfl⟩) a b))
  have a : cM h1 = cM h := mc_fr2 g1 (by decide)
  have b : absM h1 = absM h := absM_fr g1 (by decide)
  have c : cX h2 = cX h1 := xc_fr2 g2 (by decide)
  have d : absX h2 23 = absX h1 23 := absX_fr g2 (by decide)
  obtain ⟨ye, A', Y'⟩ := jTY (f := people_f x1 x2 x3 x4 (rv h1 192 x1.toInt.toNat) (rv h1 193 x1.toInt.toNat) (vl h1 194 (40 * x1.toInt.toNat))) A Y r1 r2 a b c d
  obtain ⟨m1, m2⟩ := jM (f := people_f x1 x2 x3 x4 (rv h1 192 x1.toInt.toNat) (rv h1 193 x1.toInt.toNat) (vl h1 194 (40 * x1.toInt.toNat))) r2 a b
  have hB := people_B (x1 := x1) (x2 := x2) (x3 := x3) (x4 := x4) (q := rv h1 192 x1.toInt.toNat) (z := rv h1 193 x1.toInt.toNat) (F := vl h1 194 (40 * x1.toInt.toNat)) L.1 L.2.2.1
  have L' : R_L (nn + 6) h2 := L_mk L (by rw [m2]; exact dy_mono hB.1 (by omega)) (by rw [m1]; exact hB.2) (show absI h2 = absI h from ((absC_fr g2 (by decide)).trans (absC_fr g1 (by decide)))) (by rw [rmM_fr g2 (by decide), rmM_fr g1 (by decide)]; exact L.2.2.2)
  exact ⟨A', Y', (R_w_fr (R_w_fr w g1 (by decide) (by decide)) g2 (by decide) (by decide)), (R_Z_fr (R_Z_fr Z g1 (by decide) (by decide)) g2 (by decide) (by decide)), (R_H_fr (R_H_fr H g1 rfl rfl) g2 rfl rfl), (R_M_fr (R_M_fr M g1 (by decide) (by decide)) g2 (by decide) (by decide)), (R_O_fr (R_O_fr O g1 (by decide)) g2 (by decide)), (R_T_fr (R_T_fr T g1 rfl rfl) g2 rfl rfl), (R_W_fr (R_W_fr W g1 (fun _ => rfl) (fun _ => rfl)) g2 (fun _ => rfl) (fun _ => rfl)), (R_B_fr (R_B_fr B g1 (fun _ => rfl) (fun _ => rfl)) g2 (fun _ => rfl) (fun _ => rfl)), (R_S_fr (R_S_fr S g1 (fun s b hs => c4 (P := fun s => inF F_X11_people (140 + 2 * s) b = false) rfl rfl rfl rfl s hs) (fun s b hs => c4 (P := fun s => inF F_X11_people (141 + 2 * s) b = false) rfl rfl rfl rfl s hs) (fun _ => rfl) (fun _ => rfl) (fun _ => rfl)) g2 (fun s b hs => c4 (P := fun s => inF F_X12_people (140 + 2 * s) b = false) rfl rfl rfl rfl s hs) (fun s b hs => c4 (P := fun s => inF F_X12_people (141 + 2 * s) b = false) rfl rfl rfl rfl s hs) (fun _ => rfl) (fun _ => rfl) (fun _ => rfl)), (R_U_fr (R_U_fr U g1 (by decide)) g2 (by decide)), (R_K_fr (R_K_fr K g1 (by decide)) g2 (by decide)), L', (R_E_fr (R_E_fr E g1 rfl rfl) g2 rfl rfl), (R_J_fr (R_J_fr J g1 (by decide)) g2 (by decide))⟩
/-! the law's rows, told by what the end meets -/
theorem cV_mL {K : im_K} {d : Nat} {M : im_M} {pc p2 : Nat} {lv : im_L} {st : List Value} {h : im_H} {Q : Option Value → im_H → Prop} {F : List (Nat × Nat × Nat)} {i n Rf idx j w z x d1 : Nat} {q : List Value × List Value} {rest : List Value} (ha : im_at M pc = some (.invokevirtual idx, [j, 0, w, z, x])) (hp : pc + 3 = p2) (ht : im_take w st = some q) (hq : q.2 = .ref Rf :: rest) (hI : tI h) (hR : Rf = 16 + i) (hs : tS[i]? = some (3, z, n)) (hc : im_cat rest = true) (hC : CaP d1 j (.ref Rf :: q.1) h (mL h F)) (hd : d1 ≤ d) (k : ∀ y h2, tI h2 → fr F h h2 → EvP K d M (p2, lv, .long y :: rest, h2) Q) : EvP K d M (pc, lv, st, h) Q :=
  tc_V ha hp ht hq hI hR hs hc hC hd (fun v h2 hq => by obtain ⟨e, f, y, rfl⟩ := hq; exact k y h2 e f)
theorem te_pop2 {K : im_K} {d : Nat} {M : im_M} {pc p2 : Nat} {lv : im_L} {st : List Value} {h : im_H} {Q : Option Value → im_H → Prop} {v : Value} (ha : im_at M pc = some (.pop2, [])) (hp : pc + 1 = p2) (hv : v.category = 2) (k : EvP K d M (p2, lv, st, h) Q) : EvP K d M (pc, lv, v :: st, h) Q := by
  subst hp
  refine evp (fun r => ev_step (st_at ha ?_)) k
  show (if v.category = 2 then im_nx (pc + 1) lv st h else none) = _
  rw [if_pos hv]
  rfl
theorem tw_rd {l : List Int32} {d pc p2 : Nat} {kk : Int} {i : Int32} {n : Nat} {st : List Value} {h : im_H} {Q : Option Value → im_H → Prop} (k : Nat) (a0 : im_at mL_law pc = some (.aload_n 0, [])) (a1 : im_at mL_law (pc + 1) = some (.iload_n 3, [])) (a2 : im_at mL_law (pc + 2) = some (.iconst kk, [])) (a3 : im_at mL_law (pc + 3) = some (.iadd, [])) (a4 : im_at mL_law (pc + 4) = some (.iaload, [])) (hp : pc + 5 = p2) (hk : (Int32.ofInt kk).toInt = k) (hi : i.toInt = n) (hl : n + k < l.length) (hb : l.length < 2147483648) (kx : EvP (im_K1 l) d mL_law (p2, lwL i, .int (l.getD (n + k) 0) :: st, h) Q) : EvP (im_K1 l) d mL_law (pc, lwL i, st, h) Q := evp (fun r => lw_rd k a0 a1 a2 a3 a4 hp hk hi hl hb) kx
set_option maxRecDepth 10000 in
set_option maxHeartbeats 2000000 in
theorem lq_ruin {l : List Int32} {n : Nat} {i : Int32} {h : im_H} {Q : Option Value → im_H → Prop} (hi : i.toInt = n) (hl : n + 6 ≤ l.length) (hb : l.length < 2147483648) (hI : tI h) (hN : l.length ≤ 3072) (hr : rel n h) (kx : ∀ h2, tI h2 → rel (n + 6) h2 → EvP (im_K1 l) 20 mL_law (1753, lwL i, [], h2) Q) : EvP (im_K1 l) 20 mL_law (228, lwL i, [], h) Q := by
  refine te_aload_n (p2 := 229) rfl rfl rfl ?_
  refine tw_rd (p2 := 234) 1 rfl rfl rfl rfl rfl rfl (by decide) hi (by omega) hb ?_
  refine tw_rd (p2 := 239) 2 rfl rfl rfl rfl rfl rfl (by decide) hi (by omega) hb ?_
  refine tw_rd (p2 := 244) 3 rfl rfl rfl rfl rfl rfl (by decide) hi (by omega) hb ?_
  refine tc_V (p2 := 247) (i := 0) rfl rfl rfl rfl hI rfl rfl rfl (c_X11_ruin (x1 := (l.getD (n + 1) 0)) (x2 := (l.getD (n + 2) 0)) (x3 := (l.getD (n + 3) 0)) hI) (by decide) (fun v1 h1 q1 => ?_)
  obtain ⟨I1, g1, y1, w1, r1⟩ := q1
  subst w1
  show EvP _ _ _ (247, lwL i, [.int y1], h1) _
  refine te_pop (p2 := 248) rfl rfl rfl ?_
  refine te_aload_n (p2 := 249) rfl rfl rfl ?_
  refine tw_rd (p2 := 254) 1 rfl rfl rfl rfl rfl rfl (by decide) hi (by omega) hb ?_
  refine tw_rd (p2 := 259) 2 rfl rfl rfl rfl rfl rfl (by decide) hi (by omega) hb ?_
  refine tw_rd (p2 := 264) 3 rfl rfl rfl rfl rfl rfl (by decide) hi (by omega) hb ?_
  refine tc_V (p2 := 267) (i := 148) rfl rfl rfl rfl I1 rfl rfl rfl (c_X12_ruin (x1 := (l.getD (n + 1) 0)) (x2 := (l.getD (n + 2) 0)) (x3 := (l.getD (n + 3) 0)) I1) (by decide) (fun v2 h2 q2 => ?_)
  obtain ⟨I2, g2, y2, w2, r2⟩ := q2
  subst w2
  show EvP _ _ _ (267, lwL i, [.int y2], h2) _
  refine te_pop (p2 := 268) rfl rfl rfl ?_
  refine te_goto rfl ?_
  exact kx h2 I2 (relc_ruin (nn := n) (x1 := (l.getD (n + 1) 0)) (x2 := (l.getD (n + 2) 0)) (x3 := (l.getD (n + 3) 0)) (y1 := y1) (y2 := y2) (by omega) hI I1 I2 hr g1 g2 r1 r2)
set_option maxRecDepth 10000 in
set_option maxHeartbeats 2000000 in
theorem lq_person {l : List Int32} {n : Nat} {i : Int32} {h : im_H} {Q : Option Value → im_H → Prop} (hi : i.toInt = n) (hl : n + 6 ≤ l.length) (hb : l.length < 2147483648) (hI : tI h) (hN : l.length ≤ 3072) (hr : rel n h) (kx : ∀ h2, tI h2 → rel (n + 6) h2 → EvP (im_K1 l) 20 mL_law (1753, lwL i, [], h2) Q) : EvP (im_K1 l) 20 mL_law (271, lwL i, [], h) Q := by
  refine te_aload_n (p2 := 272) rfl rfl rfl ?_
  refine tw_rd (p2 := 277) 1 rfl rfl rfl rfl rfl rfl (by decide) hi (by omega) hb ?_
  refine tw_rd (p2 := 282) 2 rfl rfl rfl rfl rfl rfl (by decide) hi (by omega) hb ?_
  refine tw_rd (p2 := 287) 3 rfl rfl rfl rfl rfl rfl (by decide) hi (by omega) hb ?_
  refine tw_rd (p2 := 292) 4 rfl rfl rfl rfl rfl rfl (by decide) hi (by omega) hb ?_
  refine tc_V (p2 := 295) (i := 0) rfl rfl rfl rfl hI rfl rfl rfl (c_X11_person (x1 := (l.getD (n + 1) 0)) (x2 := (l.getD (n + 2) 0)) (x3 := (l.getD (n + 3) 0)) (x4 := (l.getD (n + 4) 0)) hI) (by decide) (fun v1 h1 q1 => ?_)
  obtain ⟨I1, g1, y1, w1, r1⟩ := q1
  subst w1
  show EvP _ _ _ (295, lwL i, [.int y1], h1) _
  refine te_pop (p2 := 296) rfl rfl rfl ?_
  refine te_aload_n (p2 := 297) rfl rfl rfl ?_
  refine tw_rd (p2 := 302) 1 rfl rfl rfl rfl rfl rfl (by decide) hi (by omega) hb ?_
  refine tw_rd (p2 := 307) 2 rfl rfl rfl rfl rfl rfl (by decide) hi (by omega) hb ?_
  refine tw_rd (p2 := 312) 3 rfl rfl rfl rfl rfl rfl (by decide) hi (by omega) hb ?_
  refine tw_rd (p2 := 317) 4 rfl rfl rfl rfl rfl rfl (by decide) hi (by omega) hb ?_
  refine tc_V (p2 := 320) (i := 148) rfl rfl rfl rfl I1 rfl rfl rfl (c_X12_person (x1 := (l.getD (n + 1) 0)) (x2 := (l.getD (n + 2) 0)) (x3 := (l.getD (n + 3) 0)) (x4 := (l.getD (n + 4) 0)) I1) (by decide) (fun v2 h2 q2 => ?_)
  obtain ⟨I2, g2, y2, w2, r2⟩ := q2
  subst w2
  show EvP _ _ _ (320, lwL i, [.int y2], h2) _
  refine te_pop (p2 := 321) rfl rfl rfl ?_
  refine te_goto rfl ?_
  exact kx h2 I2 (relc_person (nn := n) (x1 := (l.getD (n + 1) 0)) (x2 := (l.getD (n + 2) 0)) (x3 := (l.getD (n + 3) 0)) (x4 := (l.getD (n + 4) 0)) (y1 := y1) (y2 := y2) (by omega) hI I1 I2 hr g1 g2 r1 r2)
set_option maxRecDepth 10000 in
set_option maxHeartbeats 2000000 in
theorem lq_moves {l : List Int32} {n : Nat} {i : Int32} {h : im_H} {Q : Option Value → im_H → Prop} (hi : i.toInt = n) (hl : n + 6 ≤ l.length) (hb : l.length < 2147483648) (hI : tI h) (hN : l.length ≤ 3072) (hr : rel n h) (kx : ∀ h2, tI h2 → rel (n + 6) h2 → EvP (im_K1 l) 20 mL_law (1753, lwL i, [], h2) Q) : EvP (im_K1 l) 20 mL_law (324, lwL i, [], h) Q := by
  refine te_aload_n (p2 := 325) rfl rfl rfl ?_
  refine tw_rd (p2 := 330) 1 rfl rfl rfl rfl rfl rfl (by decide) hi (by omega) hb ?_
  refine tw_rd (p2 := 335) 2 rfl rfl rfl rfl rfl rfl (by decide) hi (by omega) hb ?_
  refine tc_V (p2 := 338) (i := 0) rfl rfl rfl rfl hI rfl rfl rfl (c_X11_moves (x1 := (l.getD (n + 1) 0)) (x2 := (l.getD (n + 2) 0)) hI) (by decide) (fun v1 h1 q1 => ?_)
  obtain ⟨I1, g1, y1, w1, r1⟩ := q1
  subst w1
  show EvP _ _ _ (338, lwL i, [.int y1], h1) _
  refine te_pop (p2 := 339) rfl rfl rfl ?_
  refine te_aload_n (p2 := 340) rfl rfl rfl ?_
  refine tw_rd (p2 := 345) 1 rfl rfl rfl rfl rfl rfl (by decide) hi (by omega) hb ?_
  refine tw_rd (p2 := 350) 2 rfl rfl rfl rfl rfl rfl (by decide) hi (by omega) hb ?_
  refine tc_V (p2 := 353) (i := 148) rfl rfl rfl rfl I1 rfl rfl rfl (c_X12_moves (x1 := (l.getD (n + 1) 0)) (x2 := (l.getD (n + 2) 0)) I1) (by decide) (fun v2 h2 q2 => ?_)
  obtain ⟨I2, g2, y2, w2, r2⟩ := q2
  subst w2
  show EvP _ _ _ (353, lwL i, [.int y2], h2) _
  refine te_pop (p2 := 354) rfl rfl rfl ?_
  refine te_goto rfl ?_
  exact kx h2 I2 (relc_moves (nn := n) (x1 := (l.getD (n + 1) 0)) (x2 := (l.getD (n + 2) 0)) (y1 := y1) (y2 := y2) (by omega) hI I1 I2 hr g1 g2 r1 r2)
set_option maxRecDepth 10000 in
set_option maxHeartbeats 2000000 in
theorem lq_wall {l : List Int32} {n : Nat} {i : Int32} {h : im_H} {Q : Option Value → im_H → Prop} (hi : i.toInt = n) (hl : n + 6 ≤ l.length) (hb : l.length < 2147483648) (hI : tI h) (hN : l.length ≤ 3072) (hr : rel n h) (kx : ∀ h2, tI h2 → rel (n + 6) h2 → EvP (im_K1 l) 20 mL_law (1753, lwL i, [], h2) Q) : EvP (im_K1 l) 20 mL_law (357, lwL i, [], h) Q := by
  refine te_aload_n (p2 := 358) rfl rfl rfl ?_
  refine tw_rd (p2 := 363) 1 rfl rfl rfl rfl rfl rfl (by decide) hi (by omega) hb ?_
  refine tw_rd (p2 := 368) 2 rfl rfl rfl rfl rfl rfl (by decide) hi (by omega) hb ?_
  refine tw_rd (p2 := 373) 3 rfl rfl rfl rfl rfl rfl (by decide) hi (by omega) hb ?_
  refine tc_V (p2 := 376) (i := 0) rfl rfl rfl rfl hI rfl rfl rfl (c_X11_wall (x1 := (l.getD (n + 1) 0)) (x2 := (l.getD (n + 2) 0)) (x3 := (l.getD (n + 3) 0)) hI) (by decide) (fun v1 h1 q1 => ?_)
  obtain ⟨I1, g1, y1, w1, r1⟩ := q1
  subst w1
  show EvP _ _ _ (376, lwL i, [.int y1], h1) _
  refine te_pop (p2 := 377) rfl rfl rfl ?_
  refine te_aload_n (p2 := 378) rfl rfl rfl ?_
  refine tw_rd (p2 := 383) 1 rfl rfl rfl rfl rfl rfl (by decide) hi (by omega) hb ?_
  refine tw_rd (p2 := 388) 2 rfl rfl rfl rfl rfl rfl (by decide) hi (by omega) hb ?_
  refine tw_rd (p2 := 393) 3 rfl rfl rfl rfl rfl rfl (by decide) hi (by omega) hb ?_
  refine tc_V (p2 := 396) (i := 148) rfl rfl rfl rfl I1 rfl rfl rfl (c_X12_wall (x1 := (l.getD (n + 1) 0)) (x2 := (l.getD (n + 2) 0)) (x3 := (l.getD (n + 3) 0)) I1) (by decide) (fun v2 h2 q2 => ?_)
  obtain ⟨I2, g2, y2, w2, r2⟩ := q2
  subst w2
  show EvP _ _ _ (396, lwL i, [.int y2], h2) _
  refine te_pop (p2 := 397) rfl rfl rfl ?_
  refine te_goto rfl ?_
  exact kx h2 I2 (relc_wall (nn := n) (x1 := (l.getD (n + 1) 0)) (x2 := (l.getD (n + 2) 0)) (x3 := (l.getD (n + 3) 0)) (y1 := y1) (y2 := y2) (by omega) hI I1 I2 hr g1 g2 r1 r2)
set_option maxRecDepth 10000 in
set_option maxHeartbeats 2000000 in
theorem lq_weather {l : List Int32} {n : Nat} {i : Int32} {h : im_H} {Q : Option Value → im_H → Prop} (hi : i.toInt = n) (hl : n + 6 ≤ l.length) (hb : l.length < 2147483648) (hI : tI h) (hN : l.length ≤ 3072) (hr : rel n h) (kx : ∀ h2, tI h2 → rel (n + 6) h2 → EvP (im_K1 l) 20 mL_law (1753, lwL i, [], h2) Q) : EvP (im_K1 l) 20 mL_law (400, lwL i, [], h) Q := by
  refine te_aload_n (p2 := 401) rfl rfl rfl ?_
  refine tw_rd (p2 := 406) 1 rfl rfl rfl rfl rfl rfl (by decide) hi (by omega) hb ?_
  refine tw_rd (p2 := 411) 2 rfl rfl rfl rfl rfl rfl (by decide) hi (by omega) hb ?_
  refine tc_V (p2 := 414) (i := 0) rfl rfl rfl rfl hI rfl rfl rfl (c_X11_weather (x1 := (l.getD (n + 1) 0)) (x2 := (l.getD (n + 2) 0)) hI) (by decide) (fun v1 h1 q1 => ?_)
  obtain ⟨I1, g1, y1, w1, r1⟩ := q1
  subst w1
  show EvP _ _ _ (414, lwL i, [.int y1], h1) _
  refine te_pop (p2 := 415) rfl rfl rfl ?_
  refine te_aload_n (p2 := 416) rfl rfl rfl ?_
  refine tw_rd (p2 := 421) 1 rfl rfl rfl rfl rfl rfl (by decide) hi (by omega) hb ?_
  refine tw_rd (p2 := 426) 2 rfl rfl rfl rfl rfl rfl (by decide) hi (by omega) hb ?_
  refine tc_V (p2 := 429) (i := 148) rfl rfl rfl rfl I1 rfl rfl rfl (c_X12_weather (x1 := (l.getD (n + 1) 0)) (x2 := (l.getD (n + 2) 0)) I1) (by decide) (fun v2 h2 q2 => ?_)
  obtain ⟨I2, g2, y2, w2, r2⟩ := q2
  subst w2
  show EvP _ _ _ (429, lwL i, [.int y2], h2) _
  refine te_pop (p2 := 430) rfl rfl rfl ?_
  refine te_goto rfl ?_
  exact kx h2 I2 (relc_weather (nn := n) (x1 := (l.getD (n + 1) 0)) (x2 := (l.getD (n + 2) 0)) (y1 := y1) (y2 := y2) (by omega) hI I1 I2 hr g1 g2 r1 r2)
set_option maxRecDepth 10000 in
set_option maxHeartbeats 2000000 in
theorem lq_tip {l : List Int32} {n : Nat} {i : Int32} {h : im_H} {Q : Option Value → im_H → Prop} (hi : i.toInt = n) (hl : n + 6 ≤ l.length) (hb : l.length < 2147483648) (hI : tI h) (hN : l.length ≤ 3072) (hr : rel n h) (kx : ∀ h2, tI h2 → rel (n + 6) h2 → EvP (im_K1 l) 20 mL_law (1753, lwL i, [], h2) Q) : EvP (im_K1 l) 20 mL_law (433, lwL i, [], h) Q := by
  refine te_aload_n (p2 := 434) rfl rfl rfl ?_
  refine tw_rd (p2 := 439) 1 rfl rfl rfl rfl rfl rfl (by decide) hi (by omega) hb ?_
  refine tc_V (p2 := 442) (i := 0) rfl rfl rfl rfl hI rfl rfl rfl (c_X11_tip (x1 := (l.getD (n + 1) 0)) hI) (by decide) (fun v1 h1 q1 => ?_)
  obtain ⟨I1, g1, y1, w1, r1⟩ := q1
  subst w1
  show EvP _ _ _ (442, lwL i, [.int y1], h1) _
  refine te_pop (p2 := 443) rfl rfl rfl ?_
  refine te_aload_n (p2 := 444) rfl rfl rfl ?_
  refine tw_rd (p2 := 449) 1 rfl rfl rfl rfl rfl rfl (by decide) hi (by omega) hb ?_
  refine tc_V (p2 := 452) (i := 148) rfl rfl rfl rfl I1 rfl rfl rfl (c_X12_tip (x1 := (l.getD (n + 1) 0)) I1) (by decide) (fun v2 h2 q2 => ?_)
  obtain ⟨I2, g2, y2, w2, r2⟩ := q2
  subst w2
  show EvP _ _ _ (452, lwL i, [.int y2], h2) _
  refine te_pop (p2 := 453) rfl rfl rfl ?_
  refine te_goto rfl ?_
  exact kx h2 I2 (relc_tip (nn := n) (x1 := (l.getD (n + 1) 0)) (y1 := y1) (y2 := y2) (by omega) hI I1 I2 hr g1 g2 r1 r2)
set_option maxRecDepth 10000 in
set_option maxHeartbeats 2000000 in
theorem lq_row {l : List Int32} {n : Nat} {i : Int32} {h : im_H} {Q : Option Value → im_H → Prop} (hi : i.toInt = n) (hl : n + 6 ≤ l.length) (hb : l.length < 2147483648) (hI : tI h) (hN : l.length ≤ 3072) (hr : rel n h) (kx : ∀ h2, tI h2 → rel (n + 6) h2 → EvP (im_K1 l) 20 mL_law (1753, lwL i, [], h2) Q) : EvP (im_K1 l) 20 mL_law (456, lwL i, [], h) Q := by
  refine te_aload_n (p2 := 457) rfl rfl rfl ?_
  refine tw_rd (p2 := 462) 1 rfl rfl rfl rfl rfl rfl (by decide) hi (by omega) hb ?_
  refine tw_rd (p2 := 467) 2 rfl rfl rfl rfl rfl rfl (by decide) hi (by omega) hb ?_
  refine tw_rd (p2 := 472) 3 rfl rfl rfl rfl rfl rfl (by decide) hi (by omega) hb ?_
  refine tw_rd (p2 := 477) 4 rfl rfl rfl rfl rfl rfl (by decide) hi (by omega) hb ?_
  refine tc_V (p2 := 480) (i := 0) rfl rfl rfl rfl hI rfl rfl rfl (c_X11_row (x1 := (l.getD (n + 1) 0)) (x2 := (l.getD (n + 2) 0)) (x3 := (l.getD (n + 3) 0)) (x4 := (l.getD (n + 4) 0)) hI) (by decide) (fun v1 h1 q1 => ?_)
  obtain ⟨I1, g1, y1, w1, r1⟩ := q1
  subst w1
  show EvP _ _ _ (480, lwL i, [.int y1], h1) _
  refine te_pop (p2 := 481) rfl rfl rfl ?_
  refine te_aload_n (p2 := 482) rfl rfl rfl ?_
  refine tw_rd (p2 := 487) 1 rfl rfl rfl rfl rfl rfl (by decide) hi (by omega) hb ?_
  refine tw_rd (p2 := 492) 2 rfl rfl rfl rfl rfl rfl (by decide) hi (by omega) hb ?_
  refine tw_rd (p2 := 497) 3 rfl rfl rfl rfl rfl rfl (by decide) hi (by omega) hb ?_
  refine tw_rd (p2 := 502) 4 rfl rfl rfl rfl rfl rfl (by decide) hi (by omega) hb ?_
  refine tc_V (p2 := 505) (i := 148) rfl rfl rfl rfl I1 rfl rfl rfl (c_X12_row (x1 := (l.getD (n + 1) 0)) (x2 := (l.getD (n + 2) 0)) (x3 := (l.getD (n + 3) 0)) (x4 := (l.getD (n + 4) 0)) I1) (by decide) (fun v2 h2 q2 => ?_)
  obtain ⟨I2, g2, y2, w2, r2⟩ := q2
  subst w2
  show EvP _ _ _ (505, lwL i, [.int y2], h2) _
  refine te_pop (p2 := 506) rfl rfl rfl ?_
  refine te_goto rfl ?_
  exact kx h2 I2 (relc_row (nn := n) (x1 := (l.getD (n + 1) 0)) (x2 := (l.getD (n + 2) 0)) (x3 := (l.getD (n + 3) 0)) (x4 := (l.getD (n + 4) 0)) (y1 := y1) (y2 := y2) (by omega) hI I1 I2 hr g1 g2 r1 r2)
set_option maxRecDepth 10000 in
set_option maxHeartbeats 2000000 in
theorem lq_rail {l : List Int32} {n : Nat} {i : Int32} {h : im_H} {Q : Option Value → im_H → Prop} (hi : i.toInt = n) (hl : n + 6 ≤ l.length) (hb : l.length < 2147483648) (hI : tI h) (hN : l.length ≤ 3072) (hr : rel n h) (kx : ∀ h2, tI h2 → rel (n + 6) h2 → EvP (im_K1 l) 20 mL_law (1753, lwL i, [], h2) Q) : EvP (im_K1 l) 20 mL_law (509, lwL i, [], h) Q := by
  refine te_aload_n (p2 := 510) rfl rfl rfl ?_
  refine tw_rd (p2 := 515) 1 rfl rfl rfl rfl rfl rfl (by decide) hi (by omega) hb ?_
  refine tw_rd (p2 := 520) 2 rfl rfl rfl rfl rfl rfl (by decide) hi (by omega) hb ?_
  refine tw_rd (p2 := 525) 3 rfl rfl rfl rfl rfl rfl (by decide) hi (by omega) hb ?_
  refine tc_V (p2 := 528) (i := 0) rfl rfl rfl rfl hI rfl rfl rfl (c_X11_rail (x1 := (l.getD (n + 1) 0)) (x2 := (l.getD (n + 2) 0)) (x3 := (l.getD (n + 3) 0)) hI) (by decide) (fun v1 h1 q1 => ?_)
  obtain ⟨I1, g1, y1, w1, r1⟩ := q1
  subst w1
  show EvP _ _ _ (528, lwL i, [.int y1], h1) _
  refine te_pop (p2 := 529) rfl rfl rfl ?_
  refine te_aload_n (p2 := 530) rfl rfl rfl ?_
  refine tw_rd (p2 := 535) 1 rfl rfl rfl rfl rfl rfl (by decide) hi (by omega) hb ?_
  refine tw_rd (p2 := 540) 2 rfl rfl rfl rfl rfl rfl (by decide) hi (by omega) hb ?_
  refine tw_rd (p2 := 545) 3 rfl rfl rfl rfl rfl rfl (by decide) hi (by omega) hb ?_
  refine tc_V (p2 := 548) (i := 148) rfl rfl rfl rfl I1 rfl rfl rfl (c_X12_rail (x1 := (l.getD (n + 1) 0)) (x2 := (l.getD (n + 2) 0)) (x3 := (l.getD (n + 3) 0)) I1) (by decide) (fun v2 h2 q2 => ?_)
  obtain ⟨I2, g2, y2, w2, r2⟩ := q2
  subst w2
  show EvP _ _ _ (548, lwL i, [.int y2], h2) _
  refine te_pop (p2 := 549) rfl rfl rfl ?_
  refine te_goto rfl ?_
  exact kx h2 I2 (relc_rail (nn := n) (x1 := (l.getD (n + 1) 0)) (x2 := (l.getD (n + 2) 0)) (x3 := (l.getD (n + 3) 0)) (y1 := y1) (y2 := y2) (by omega) hI I1 I2 hr g1 g2 r1 r2)
set_option maxRecDepth 10000 in
set_option maxHeartbeats 2000000 in
theorem lq_room {l : List Int32} {n : Nat} {i : Int32} {h : im_H} {Q : Option Value → im_H → Prop} (hi : i.toInt = n) (hl : n + 6 ≤ l.length) (hb : l.length < 2147483648) (hI : tI h) (hN : l.length ≤ 3072) (hr : rel n h) (kx : ∀ h2, tI h2 → rel (n + 6) h2 → EvP (im_K1 l) 20 mL_law (1753, lwL i, [], h2) Q) : EvP (im_K1 l) 20 mL_law (552, lwL i, [], h) Q := by
  refine te_aload_n (p2 := 553) rfl rfl rfl ?_
  refine tw_rd (p2 := 558) 1 rfl rfl rfl rfl rfl rfl (by decide) hi (by omega) hb ?_
  refine tw_rd (p2 := 563) 2 rfl rfl rfl rfl rfl rfl (by decide) hi (by omega) hb ?_
  refine tw_rd (p2 := 568) 3 rfl rfl rfl rfl rfl rfl (by decide) hi (by omega) hb ?_
  refine tw_rd (p2 := 573) 4 rfl rfl rfl rfl rfl rfl (by decide) hi (by omega) hb ?_
  refine tc_V (p2 := 576) (i := 0) rfl rfl rfl rfl hI rfl rfl rfl (c_X11_room (x1 := (l.getD (n + 1) 0)) (x2 := (l.getD (n + 2) 0)) (x3 := (l.getD (n + 3) 0)) (x4 := (l.getD (n + 4) 0)) hI) (by decide) (fun v1 h1 q1 => ?_)
  obtain ⟨I1, g1, y1, w1, r1⟩ := q1
  subst w1
  show EvP _ _ _ (576, lwL i, [.int y1], h1) _
  refine te_pop (p2 := 577) rfl rfl rfl ?_
  refine te_aload_n (p2 := 578) rfl rfl rfl ?_
  refine tw_rd (p2 := 583) 1 rfl rfl rfl rfl rfl rfl (by decide) hi (by omega) hb ?_
  refine tw_rd (p2 := 588) 2 rfl rfl rfl rfl rfl rfl (by decide) hi (by omega) hb ?_
  refine tw_rd (p2 := 593) 3 rfl rfl rfl rfl rfl rfl (by decide) hi (by omega) hb ?_
  refine tw_rd (p2 := 598) 4 rfl rfl rfl rfl rfl rfl (by decide) hi (by omega) hb ?_
  refine tc_V (p2 := 601) (i := 148) rfl rfl rfl rfl I1 rfl rfl rfl (c_X12_room (x1 := (l.getD (n + 1) 0)) (x2 := (l.getD (n + 2) 0)) (x3 := (l.getD (n + 3) 0)) (x4 := (l.getD (n + 4) 0)) I1) (by decide) (fun v2 h2 q2 => ?_)
  obtain ⟨I2, g2, y2, w2, r2⟩ := q2
  subst w2
  show EvP _ _ _ (601, lwL i, [.int y2], h2) _
  refine te_pop (p2 := 602) rfl rfl rfl ?_
  refine te_goto rfl ?_
  exact kx h2 I2 (relc_room (nn := n) (x1 := (l.getD (n + 1) 0)) (x2 := (l.getD (n + 2) 0)) (x3 := (l.getD (n + 3) 0)) (x4 := (l.getD (n + 4) 0)) (y1 := y1) (y2 := y2) (by omega) hI I1 I2 hr g1 g2 r1 r2)
set_option maxRecDepth 10000 in
set_option maxHeartbeats 2000000 in
theorem lq_feed {l : List Int32} {n : Nat} {i : Int32} {h : im_H} {Q : Option Value → im_H → Prop} (hi : i.toInt = n) (hl : n + 6 ≤ l.length) (hb : l.length < 2147483648) (hI : tI h) (hN : l.length ≤ 3072) (hr : rel n h) (kx : ∀ h2, tI h2 → rel (n + 6) h2 → EvP (im_K1 l) 20 mL_law (1753, lwL i, [], h2) Q) : EvP (im_K1 l) 20 mL_law (605, lwL i, [], h) Q := by
  refine te_aload_n (p2 := 606) rfl rfl rfl ?_
  refine tw_rd (p2 := 611) 1 rfl rfl rfl rfl rfl rfl (by decide) hi (by omega) hb ?_
  refine te_i2l (p2 := 612) (z := (Int32.toInt64 (l.getD (n + 1) 0))) rfl rfl rfl ?_
  refine te_bipush (p2 := 614) (x := 32) rfl rfl (by decide) ?_
  refine te_lshl (p2 := 615) (z := ((Int32.toInt64 (l.getD (n + 1) 0)) <<< (Int32.toInt64 32 &&& 63))) rfl rfl rfl ?_
  refine tw_rd (p2 := 620) 2 rfl rfl rfl rfl rfl rfl (by decide) hi (by omega) hb ?_
  refine te_i2l (p2 := 621) (z := (Int32.toInt64 (l.getD (n + 2) 0))) rfl rfl rfl ?_
  refine te_ldc2 (p2 := 624) (x := 4294967295) rfl rfl rfl ?_
  refine te_land (p2 := 625) (z := ((Int32.toInt64 (l.getD (n + 2) 0)) &&& 4294967295)) rfl rfl rfl ?_
  refine te_lor (p2 := 626) (z := (((Int32.toInt64 (l.getD (n + 1) 0)) <<< (Int32.toInt64 32 &&& 63)) ||| ((Int32.toInt64 (l.getD (n + 2) 0)) &&& 4294967295))) rfl rfl rfl ?_
  refine tw_rd (p2 := 631) 3 rfl rfl rfl rfl rfl rfl (by decide) hi (by omega) hb ?_
  refine tc_V (p2 := 634) (i := 0) rfl rfl rfl rfl hI rfl rfl rfl (c_X11_feed (w := (((Int32.toInt64 (l.getD (n + 1) 0)) <<< (Int32.toInt64 32 &&& 63)) ||| ((Int32.toInt64 (l.getD (n + 2) 0)) &&& 4294967295))) (n := (l.getD (n + 3) 0)) hI) (by decide) (fun v1 h1 q1 => ?_)
  obtain ⟨I1, g1, y1, w1, r1⟩ := q1
  subst w1
  show EvP _ _ _ (634, lwL i, [.int y1], h1) _
  refine te_pop (p2 := 635) rfl rfl rfl ?_
  refine te_aload_n (p2 := 636) rfl rfl rfl ?_
  refine tw_rd (p2 := 641) 1 rfl rfl rfl rfl rfl rfl (by decide) hi (by omega) hb ?_
  refine te_i2l (p2 := 642) (z := (Int32.toInt64 (l.getD (n + 1) 0))) rfl rfl rfl ?_
  refine te_bipush (p2 := 644) (x := 32) rfl rfl (by decide) ?_
  refine te_lshl (p2 := 645) (z := ((Int32.toInt64 (l.getD (n + 1) 0)) <<< (Int32.toInt64 32 &&& 63))) rfl rfl rfl ?_
  refine tw_rd (p2 := 650) 2 rfl rfl rfl rfl rfl rfl (by decide) hi (by omega) hb ?_
  refine te_i2l (p2 := 651) (z := (Int32.toInt64 (l.getD (n + 2) 0))) rfl rfl rfl ?_
  refine te_ldc2 (p2 := 654) (x := 4294967295) rfl rfl rfl ?_
  refine te_land (p2 := 655) (z := ((Int32.toInt64 (l.getD (n + 2) 0)) &&& 4294967295)) rfl rfl rfl ?_
  refine te_lor (p2 := 656) (z := (((Int32.toInt64 (l.getD (n + 1) 0)) <<< (Int32.toInt64 32 &&& 63)) ||| ((Int32.toInt64 (l.getD (n + 2) 0)) &&& 4294967295))) rfl rfl rfl ?_
  refine tw_rd (p2 := 661) 3 rfl rfl rfl rfl rfl rfl (by decide) hi (by omega) hb ?_
  refine tc_V (p2 := 664) (i := 148) rfl rfl rfl rfl I1 rfl rfl rfl (c_X12_feed (w := (((Int32.toInt64 (l.getD (n + 1) 0)) <<< (Int32.toInt64 32 &&& 63)) ||| ((Int32.toInt64 (l.getD (n + 2) 0)) &&& 4294967295))) (n := (l.getD (n + 3) 0)) I1) (by decide) (fun v2 h2 q2 => ?_)
  obtain ⟨I2, g2, y2, w2, r2⟩ := q2
  subst w2
  show EvP _ _ _ (664, lwL i, [.int y2], h2) _
  refine te_pop (p2 := 665) rfl rfl rfl ?_
  refine te_goto rfl ?_
  exact kx h2 I2 (relc_feed (nn := n) (by omega) hI I1 I2  (y1 := y1) (y2 := y2) hr g1 g2 r1 r2)
set_option maxRecDepth 10000 in
set_option maxHeartbeats 2000000 in
theorem lq_order {l : List Int32} {n : Nat} {i : Int32} {h : im_H} {Q : Option Value → im_H → Prop} (hi : i.toInt = n) (hl : n + 6 ≤ l.length) (hb : l.length < 2147483648) (hI : tI h) (hN : l.length ≤ 3072) (hr : rel n h) (kx : ∀ h2, tI h2 → rel (n + 6) h2 → EvP (im_K1 l) 20 mL_law (1753, lwL i, [], h2) Q) : EvP (im_K1 l) 20 mL_law (668, lwL i, [], h) Q := by
  refine te_aload_n (p2 := 669) rfl rfl rfl ?_
  refine tc_V (p2 := 672) (i := 0) rfl rfl rfl rfl hI rfl rfl rfl (c_X11_order  hI) (by decide) (fun v1 h1 q1 => ?_)
  obtain ⟨I1, g1, y1, w1, r1⟩ := q1
  subst w1
  show EvP _ _ _ (672, lwL i, [.int y1], h1) _
  refine te_pop (p2 := 673) rfl rfl rfl ?_
  refine te_aload_n (p2 := 674) rfl rfl rfl ?_
  refine tc_V (p2 := 677) (i := 148) rfl rfl rfl rfl I1 rfl rfl rfl (c_X12_order  I1) (by decide) (fun v2 h2 q2 => ?_)
  obtain ⟨I2, g2, y2, w2, r2⟩ := q2
  subst w2
  show EvP _ _ _ (677, lwL i, [.int y2], h2) _
  refine te_pop (p2 := 678) rfl rfl rfl ?_
  refine te_goto rfl ?_
  exact kx h2 I2 (relc_order (nn := n) (by omega) hI I1 I2  (y1 := y1) (y2 := y2) hr g1 g2 r1 r2)
set_option maxRecDepth 10000 in
set_option maxHeartbeats 2000000 in
theorem lq_force {l : List Int32} {n : Nat} {i : Int32} {h : im_H} {Q : Option Value → im_H → Prop} (hi : i.toInt = n) (hl : n + 6 ≤ l.length) (hb : l.length < 2147483648) (hI : tI h) (hN : l.length ≤ 3072) (hr : rel n h) (kx : ∀ h2, tI h2 → rel (n + 6) h2 → EvP (im_K1 l) 20 mL_law (1753, lwL i, [], h2) Q) : EvP (im_K1 l) 20 mL_law (681, lwL i, [], h) Q := by
  refine te_aload_n (p2 := 682) rfl rfl rfl ?_
  refine tw_rd (p2 := 687) 1 rfl rfl rfl rfl rfl rfl (by decide) hi (by omega) hb ?_
  refine tc_V (p2 := 690) (i := 0) rfl rfl rfl rfl hI rfl rfl rfl (c_X11_force (x1 := (l.getD (n + 1) 0)) hI) (by decide) (fun v1 h1 q1 => ?_)
  obtain ⟨I1, g1, y1, w1, r1⟩ := q1
  subst w1
  show EvP _ _ _ (690, lwL i, [.int y1], h1) _
  refine te_pop (p2 := 691) rfl rfl rfl ?_
  refine te_aload_n (p2 := 692) rfl rfl rfl ?_
  refine tw_rd (p2 := 697) 1 rfl rfl rfl rfl rfl rfl (by decide) hi (by omega) hb ?_
  refine tc_V (p2 := 700) (i := 148) rfl rfl rfl rfl I1 rfl rfl rfl (c_X12_force (x1 := (l.getD (n + 1) 0)) I1) (by decide) (fun v2 h2 q2 => ?_)
  obtain ⟨I2, g2, y2, w2, r2⟩ := q2
  subst w2
  show EvP _ _ _ (700, lwL i, [.int y2], h2) _
  refine te_pop (p2 := 701) rfl rfl rfl ?_
  refine te_goto rfl ?_
  exact kx h2 I2 (relc_force (nn := n) (x1 := (l.getD (n + 1) 0)) (y1 := y1) (y2 := y2) (by omega) hI I1 I2 hr g1 g2 r1 r2)
set_option maxRecDepth 10000 in
set_option maxHeartbeats 2000000 in
theorem lq_says {l : List Int32} {n : Nat} {i : Int32} {h : im_H} {Q : Option Value → im_H → Prop} (hi : i.toInt = n) (hl : n + 6 ≤ l.length) (hb : l.length < 2147483648) (hI : tI h) (kx : ∀ h1 h2, tI h2 → fr F_X11_says h h1 → fr F_X12_says h1 h2 → EvP (im_K1 l) 20 mL_law (1753, lwL i, [], h2) Q) : EvP (im_K1 l) 20 mL_law (704, lwL i, [], h) Q := by
  refine te_aload_n (p2 := 705) rfl rfl rfl ?_
  refine tw_rd (p2 := 710) 1 rfl rfl rfl rfl rfl rfl (by decide) hi (by omega) hb ?_
  refine tw_rd (p2 := 715) 2 rfl rfl rfl rfl rfl rfl (by decide) hi (by omega) hb ?_
  refine cV_mI (p2 := 718) (i := 0) rfl rfl rfl rfl hI rfl rfl rfl (t_X11_says (x1 := (l.getD (n + 1) 0)) (x2 := (l.getD (n + 2) 0)) hI) (by decide) (fun y1 h1 I1 g1 r1 => ?_)
  refine te_pop (p2 := 719) rfl rfl rfl ?_
  refine te_aload_n (p2 := 720) rfl rfl rfl ?_
  refine tw_rd (p2 := 725) 1 rfl rfl rfl rfl rfl rfl (by decide) hi (by omega) hb ?_
  refine tw_rd (p2 := 730) 2 rfl rfl rfl rfl rfl rfl (by decide) hi (by omega) hb ?_
  refine cV_mI (p2 := 733) (i := 148) rfl rfl rfl rfl I1 rfl rfl rfl (t_X12_says (x1 := (l.getD (n + 1) 0)) (x2 := (l.getD (n + 2) 0)) I1) (by decide) (fun y2 h2 I2 g2 r2 => ?_)
  refine te_pop (p2 := 734) rfl rfl rfl ?_
  refine te_goto rfl ?_
  exact kx h1 h2 I2 g1 g2
set_option maxRecDepth 10000 in
set_option maxHeartbeats 2000000 in
theorem lq_run {l : List Int32} {n : Nat} {i : Int32} {h : im_H} {Q : Option Value → im_H → Prop} (hi : i.toInt = n) (hl : n + 6 ≤ l.length) (hb : l.length < 2147483648) (hI : tI h) (hN : l.length ≤ 3072) (hr : rel n h) (kx : ∀ h2, tI h2 → rel (n + 6) h2 → EvP (im_K1 l) 20 mL_law (1753, lwL i, [], h2) Q) : EvP (im_K1 l) 20 mL_law (737, lwL i, [], h) Q := by
  refine te_aload_n (p2 := 738) rfl rfl rfl ?_
  refine tw_rd (p2 := 743) 1 rfl rfl rfl rfl rfl rfl (by decide) hi (by omega) hb ?_
  refine tc_V (p2 := 746) (i := 0) rfl rfl rfl rfl hI rfl rfl rfl (c_X11_run (x1 := (l.getD (n + 1) 0)) hI) (by decide) (fun v1 h1 q1 => ?_)
  obtain ⟨I1, g1, y1, w1, r1⟩ := q1
  subst w1
  show EvP _ _ _ (746, lwL i, [.int y1], h1) _
  refine te_pop (p2 := 747) rfl rfl rfl ?_
  refine te_aload_n (p2 := 748) rfl rfl rfl ?_
  refine tw_rd (p2 := 753) 1 rfl rfl rfl rfl rfl rfl (by decide) hi (by omega) hb ?_
  refine tc_V (p2 := 756) (i := 148) rfl rfl rfl rfl I1 rfl rfl rfl (c_X12_run (x1 := (l.getD (n + 1) 0)) I1) (by decide) (fun v2 h2 q2 => ?_)
  obtain ⟨I2, g2, y2, w2, r2⟩ := q2
  subst w2
  show EvP _ _ _ (756, lwL i, [.int y2], h2) _
  refine te_pop (p2 := 757) rfl rfl rfl ?_
  refine te_goto rfl ?_
  exact kx h2 I2 (relc_run (nn := n) (x1 := (l.getD (n + 1) 0)) (y1 := y1) (y2 := y2) (by omega) hI I1 I2 hr g1 g2 r1 r2)
set_option maxRecDepth 10000 in
set_option maxHeartbeats 2000000 in
theorem lq_cellTold {l : List Int32} {n : Nat} {i : Int32} {h : im_H} {Q : Option Value → im_H → Prop} (hi : i.toInt = n) (hl : n + 6 ≤ l.length) (hb : l.length < 2147483648) (hI : tI h) (kx : ∀ h1 h2, tI h2 → fr F_X11_cellTold h h1 → fr F_X12_cellTold h1 h2 → EvP (im_K1 l) 20 mL_law (1753, lwL i, [], h2) Q) : EvP (im_K1 l) 20 mL_law (760, lwL i, [], h) Q := by
  refine te_aload_n (p2 := 761) rfl rfl rfl ?_
  refine tw_rd (p2 := 766) 1 rfl rfl rfl rfl rfl rfl (by decide) hi (by omega) hb ?_
  refine tw_rd (p2 := 771) 2 rfl rfl rfl rfl rfl rfl (by decide) hi (by omega) hb ?_
  refine cV_mI (p2 := 774) (i := 0) rfl rfl rfl rfl hI rfl rfl rfl (t_X11_cellTold (x1 := (l.getD (n + 1) 0)) (x2 := (l.getD (n + 2) 0)) hI) (by decide) (fun y1 h1 I1 g1 r1 => ?_)
  refine te_pop (p2 := 775) rfl rfl rfl ?_
  refine te_aload_n (p2 := 776) rfl rfl rfl ?_
  refine tw_rd (p2 := 781) 1 rfl rfl rfl rfl rfl rfl (by decide) hi (by omega) hb ?_
  refine tw_rd (p2 := 786) 2 rfl rfl rfl rfl rfl rfl (by decide) hi (by omega) hb ?_
  refine cV_mI (p2 := 789) (i := 148) rfl rfl rfl rfl I1 rfl rfl rfl (t_X12_cellTold (x1 := (l.getD (n + 1) 0)) (x2 := (l.getD (n + 2) 0)) I1) (by decide) (fun y2 h2 I2 g2 r2 => ?_)
  refine te_pop (p2 := 790) rfl rfl rfl ?_
  refine te_goto rfl ?_
  exact kx h1 h2 I2 g1 g2
set_option maxRecDepth 10000 in
set_option maxHeartbeats 2000000 in
theorem lq_kindTold {l : List Int32} {n : Nat} {i : Int32} {h : im_H} {Q : Option Value → im_H → Prop} (hi : i.toInt = n) (hl : n + 6 ≤ l.length) (hb : l.length < 2147483648) (hI : tI h) (kx : ∀ h1 h2, tI h2 → fr F_X11_kindTold h h1 → fr F_X12_kindTold h1 h2 → EvP (im_K1 l) 20 mL_law (1753, lwL i, [], h2) Q) : EvP (im_K1 l) 20 mL_law (793, lwL i, [], h) Q := by
  refine te_aload_n (p2 := 794) rfl rfl rfl ?_
  refine tw_rd (p2 := 799) 1 rfl rfl rfl rfl rfl rfl (by decide) hi (by omega) hb ?_
  refine tw_rd (p2 := 804) 2 rfl rfl rfl rfl rfl rfl (by decide) hi (by omega) hb ?_
  refine cV_mI (p2 := 807) (i := 0) rfl rfl rfl rfl hI rfl rfl rfl (t_X11_kindTold (x1 := (l.getD (n + 1) 0)) (x2 := (l.getD (n + 2) 0)) hI) (by decide) (fun y1 h1 I1 g1 r1 => ?_)
  refine te_pop (p2 := 808) rfl rfl rfl ?_
  refine te_aload_n (p2 := 809) rfl rfl rfl ?_
  refine tw_rd (p2 := 814) 1 rfl rfl rfl rfl rfl rfl (by decide) hi (by omega) hb ?_
  refine tw_rd (p2 := 819) 2 rfl rfl rfl rfl rfl rfl (by decide) hi (by omega) hb ?_
  refine cV_mI (p2 := 822) (i := 148) rfl rfl rfl rfl I1 rfl rfl rfl (t_X12_kindTold (x1 := (l.getD (n + 1) 0)) (x2 := (l.getD (n + 2) 0)) I1) (by decide) (fun y2 h2 I2 g2 r2 => ?_)
  refine te_pop (p2 := 823) rfl rfl rfl ?_
  refine te_goto rfl ?_
  exact kx h1 h2 I2 g1 g2
set_option maxRecDepth 10000 in
set_option maxHeartbeats 2000000 in
theorem lq_personTold {l : List Int32} {n : Nat} {i : Int32} {h : im_H} {Q : Option Value → im_H → Prop} (hi : i.toInt = n) (hl : n + 6 ≤ l.length) (hb : l.length < 2147483648) (hI : tI h) (kx : ∀ h1 h2, tI h2 → fr F_X11_personTold h h1 → fr F_X12_personTold h1 h2 → EvP (im_K1 l) 20 mL_law (1753, lwL i, [], h2) Q) : EvP (im_K1 l) 20 mL_law (826, lwL i, [], h) Q := by
  refine te_aload_n (p2 := 827) rfl rfl rfl ?_
  refine tw_rd (p2 := 832) 1 rfl rfl rfl rfl rfl rfl (by decide) hi (by omega) hb ?_
  refine tw_rd (p2 := 837) 2 rfl rfl rfl rfl rfl rfl (by decide) hi (by omega) hb ?_
  refine cV_mI (p2 := 840) (i := 0) rfl rfl rfl rfl hI rfl rfl rfl (t_X11_personTold (x1 := (l.getD (n + 1) 0)) (x2 := (l.getD (n + 2) 0)) hI) (by decide) (fun y1 h1 I1 g1 r1 => ?_)
  refine te_pop (p2 := 841) rfl rfl rfl ?_
  refine te_aload_n (p2 := 842) rfl rfl rfl ?_
  refine tw_rd (p2 := 847) 1 rfl rfl rfl rfl rfl rfl (by decide) hi (by omega) hb ?_
  refine tw_rd (p2 := 852) 2 rfl rfl rfl rfl rfl rfl (by decide) hi (by omega) hb ?_
  refine cV_mI (p2 := 855) (i := 148) rfl rfl rfl rfl I1 rfl rfl rfl (t_X12_personTold (x1 := (l.getD (n + 1) 0)) (x2 := (l.getD (n + 2) 0)) I1) (by decide) (fun y2 h2 I2 g2 r2 => ?_)
  refine te_pop (p2 := 856) rfl rfl rfl ?_
  refine te_goto rfl ?_
  exact kx h1 h2 I2 g1 g2
set_option maxRecDepth 10000 in
set_option maxHeartbeats 2000000 in
theorem lq_rowTold {l : List Int32} {n : Nat} {i : Int32} {h : im_H} {Q : Option Value → im_H → Prop} (hi : i.toInt = n) (hl : n + 6 ≤ l.length) (hb : l.length < 2147483648) (hI : tI h) (kx : ∀ h1 h2, tI h2 → fr F_X11_rowTold h h1 → fr F_X12_rowTold h1 h2 → EvP (im_K1 l) 20 mL_law (1753, lwL i, [], h2) Q) : EvP (im_K1 l) 20 mL_law (859, lwL i, [], h) Q := by
  refine te_aload_n (p2 := 860) rfl rfl rfl ?_
  refine tw_rd (p2 := 865) 1 rfl rfl rfl rfl rfl rfl (by decide) hi (by omega) hb ?_
  refine tw_rd (p2 := 870) 2 rfl rfl rfl rfl rfl rfl (by decide) hi (by omega) hb ?_
  refine cV_mI (p2 := 873) (i := 0) rfl rfl rfl rfl hI rfl rfl rfl (t_X11_rowTold (x1 := (l.getD (n + 1) 0)) (x2 := (l.getD (n + 2) 0)) hI) (by decide) (fun y1 h1 I1 g1 r1 => ?_)
  refine te_pop (p2 := 874) rfl rfl rfl ?_
  refine te_aload_n (p2 := 875) rfl rfl rfl ?_
  refine tw_rd (p2 := 880) 1 rfl rfl rfl rfl rfl rfl (by decide) hi (by omega) hb ?_
  refine tw_rd (p2 := 885) 2 rfl rfl rfl rfl rfl rfl (by decide) hi (by omega) hb ?_
  refine cV_mI (p2 := 888) (i := 148) rfl rfl rfl rfl I1 rfl rfl rfl (t_X12_rowTold (x1 := (l.getD (n + 1) 0)) (x2 := (l.getD (n + 2) 0)) I1) (by decide) (fun y2 h2 I2 g2 r2 => ?_)
  refine te_pop (p2 := 889) rfl rfl rfl ?_
  refine te_goto rfl ?_
  exact kx h1 h2 I2 g1 g2
set_option maxRecDepth 10000 in
set_option maxHeartbeats 2000000 in
theorem lq_railTold {l : List Int32} {n : Nat} {i : Int32} {h : im_H} {Q : Option Value → im_H → Prop} (hi : i.toInt = n) (hl : n + 6 ≤ l.length) (hb : l.length < 2147483648) (hI : tI h) (kx : ∀ h1 h2, tI h2 → fr F_X11_railTold h h1 → fr F_X12_railTold h1 h2 → EvP (im_K1 l) 20 mL_law (1753, lwL i, [], h2) Q) : EvP (im_K1 l) 20 mL_law (892, lwL i, [], h) Q := by
  refine te_aload_n (p2 := 893) rfl rfl rfl ?_
  refine tw_rd (p2 := 898) 1 rfl rfl rfl rfl rfl rfl (by decide) hi (by omega) hb ?_
  refine tw_rd (p2 := 903) 2 rfl rfl rfl rfl rfl rfl (by decide) hi (by omega) hb ?_
  refine cV_mI (p2 := 906) (i := 0) rfl rfl rfl rfl hI rfl rfl rfl (t_X11_railTold (x1 := (l.getD (n + 1) 0)) (x2 := (l.getD (n + 2) 0)) hI) (by decide) (fun y1 h1 I1 g1 r1 => ?_)
  refine te_pop (p2 := 907) rfl rfl rfl ?_
  refine te_aload_n (p2 := 908) rfl rfl rfl ?_
  refine tw_rd (p2 := 913) 1 rfl rfl rfl rfl rfl rfl (by decide) hi (by omega) hb ?_
  refine tw_rd (p2 := 918) 2 rfl rfl rfl rfl rfl rfl (by decide) hi (by omega) hb ?_
  refine cV_mI (p2 := 921) (i := 148) rfl rfl rfl rfl I1 rfl rfl rfl (t_X12_railTold (x1 := (l.getD (n + 1) 0)) (x2 := (l.getD (n + 2) 0)) I1) (by decide) (fun y2 h2 I2 g2 r2 => ?_)
  refine te_pop (p2 := 922) rfl rfl rfl ?_
  refine te_goto rfl ?_
  exact kx h1 h2 I2 g1 g2
set_option maxRecDepth 10000 in
set_option maxHeartbeats 2000000 in
theorem lq_wallTold {l : List Int32} {n : Nat} {i : Int32} {h : im_H} {Q : Option Value → im_H → Prop} (hi : i.toInt = n) (hl : n + 6 ≤ l.length) (hb : l.length < 2147483648) (hI : tI h) (kx : ∀ h1 h2, tI h2 → fr F_X11_wallTold h h1 → fr F_X12_wallTold h1 h2 → EvP (im_K1 l) 20 mL_law (1753, lwL i, [], h2) Q) : EvP (im_K1 l) 20 mL_law (925, lwL i, [], h) Q := by
  refine te_aload_n (p2 := 926) rfl rfl rfl ?_
  refine tw_rd (p2 := 931) 1 rfl rfl rfl rfl rfl rfl (by decide) hi (by omega) hb ?_
  refine tw_rd (p2 := 936) 2 rfl rfl rfl rfl rfl rfl (by decide) hi (by omega) hb ?_
  refine cV_mI (p2 := 939) (i := 0) rfl rfl rfl rfl hI rfl rfl rfl (t_X11_wallTold (x1 := (l.getD (n + 1) 0)) (x2 := (l.getD (n + 2) 0)) hI) (by decide) (fun y1 h1 I1 g1 r1 => ?_)
  refine te_pop (p2 := 940) rfl rfl rfl ?_
  refine te_aload_n (p2 := 941) rfl rfl rfl ?_
  refine tw_rd (p2 := 946) 1 rfl rfl rfl rfl rfl rfl (by decide) hi (by omega) hb ?_
  refine tw_rd (p2 := 951) 2 rfl rfl rfl rfl rfl rfl (by decide) hi (by omega) hb ?_
  refine cV_mI (p2 := 954) (i := 148) rfl rfl rfl rfl I1 rfl rfl rfl (t_X12_wallTold (x1 := (l.getD (n + 1) 0)) (x2 := (l.getD (n + 2) 0)) I1) (by decide) (fun y2 h2 I2 g2 r2 => ?_)
  refine te_pop (p2 := 955) rfl rfl rfl ?_
  refine te_goto rfl ?_
  exact kx h1 h2 I2 g1 g2
set_option maxRecDepth 10000 in
set_option maxHeartbeats 2000000 in
theorem lq_count {l : List Int32} {n : Nat} {i : Int32} {h : im_H} {Q : Option Value → im_H → Prop} (hi : i.toInt = n) (hl : n + 6 ≤ l.length) (hb : l.length < 2147483648) (hI : tI h) (kx : ∀ h1 h2, tI h2 → fr F_X11_count h h1 → fr F_X12_count h1 h2 → EvP (im_K1 l) 20 mL_law (1753, lwL i, [], h2) Q) : EvP (im_K1 l) 20 mL_law (958, lwL i, [], h) Q := by
  refine te_aload_n (p2 := 959) rfl rfl rfl ?_
  refine tw_rd (p2 := 964) 1 rfl rfl rfl rfl rfl rfl (by decide) hi (by omega) hb ?_
  refine cV_mI (p2 := 967) (i := 0) rfl rfl rfl rfl hI rfl rfl rfl (t_X11_count (x1 := (l.getD (n + 1) 0)) hI) (by decide) (fun y1 h1 I1 g1 r1 => ?_)
  refine te_pop (p2 := 968) rfl rfl rfl ?_
  refine te_aload_n (p2 := 969) rfl rfl rfl ?_
  refine tw_rd (p2 := 974) 1 rfl rfl rfl rfl rfl rfl (by decide) hi (by omega) hb ?_
  refine cV_mI (p2 := 977) (i := 148) rfl rfl rfl rfl I1 rfl rfl rfl (t_X12_count (x1 := (l.getD (n + 1) 0)) I1) (by decide) (fun y2 h2 I2 g2 r2 => ?_)
  refine te_pop (p2 := 978) rfl rfl rfl ?_
  refine te_goto rfl ?_
  exact kx h1 h2 I2 g1 g2
set_option maxRecDepth 10000 in
set_option maxHeartbeats 2000000 in
theorem lq_pull {l : List Int32} {n : Nat} {i : Int32} {h : im_H} {Q : Option Value → im_H → Prop} (hi : i.toInt = n) (hl : n + 6 ≤ l.length) (hb : l.length < 2147483648) (hI : tI h) (hN : l.length ≤ 3072) (hr : rel n h) (kx : ∀ h2, tI h2 → rel (n + 6) h2 → EvP (im_K1 l) 20 mL_law (1753, lwL i, [], h2) Q) : EvP (im_K1 l) 20 mL_law (981, lwL i, [], h) Q := by
  refine te_aload_n (p2 := 982) rfl rfl rfl ?_
  refine tw_rd (p2 := 987) 1 rfl rfl rfl rfl rfl rfl (by decide) hi (by omega) hb ?_
  refine tc_V (p2 := 990) (i := 0) rfl rfl rfl rfl hI rfl rfl rfl (c_X11_pull (x1 := (l.getD (n + 1) 0)) hI) (by decide) (fun v1 h1 q1 => ?_)
  obtain ⟨I1, g1, y1, w1, r1⟩ := q1
  subst w1
  show EvP _ _ _ (990, lwL i, [.int y1], h1) _
  refine te_pop (p2 := 991) rfl rfl rfl ?_
  refine te_aload_n (p2 := 992) rfl rfl rfl ?_
  refine tw_rd (p2 := 997) 1 rfl rfl rfl rfl rfl rfl (by decide) hi (by omega) hb ?_
  refine tc_V (p2 := 1000) (i := 148) rfl rfl rfl rfl I1 rfl rfl rfl (c_X12_pull (x1 := (l.getD (n + 1) 0)) I1) (by decide) (fun v2 h2 q2 => ?_)
  obtain ⟨I2, g2, y2, w2, r2⟩ := q2
  subst w2
  show EvP _ _ _ (1000, lwL i, [.int y2], h2) _
  refine te_pop (p2 := 1001) rfl rfl rfl ?_
  refine te_goto rfl ?_
  exact kx h2 I2 (relc_pull (nn := n) (x1 := (l.getD (n + 1) 0)) (y1 := y1) (y2 := y2) (by omega) hI I1 I2 hr g1 g2 r1 r2)
set_option maxRecDepth 10000 in
set_option maxHeartbeats 2000000 in
theorem lq_pulls {l : List Int32} {n : Nat} {i : Int32} {h : im_H} {Q : Option Value → im_H → Prop} (hi : i.toInt = n) (hl : n + 6 ≤ l.length) (hb : l.length < 2147483648) (hI : tI h) (hN : l.length ≤ 3072) (hr : rel n h) (kx : ∀ h2, tI h2 → rel (n + 6) h2 → EvP (im_K1 l) 20 mL_law (1753, lwL i, [], h2) Q) : EvP (im_K1 l) 20 mL_law (1004, lwL i, [], h) Q := by
  refine te_aload_n (p2 := 1005) rfl rfl rfl ?_
  refine tw_rd (p2 := 1010) 1 rfl rfl rfl rfl rfl rfl (by decide) hi (by omega) hb ?_
  refine tc_V (p2 := 1013) (i := 0) rfl rfl rfl rfl hI rfl rfl rfl (c_X11_pulls (x1 := (l.getD (n + 1) 0)) hI) (by decide) (fun v1 h1 q1 => ?_)
  obtain ⟨I1, g1, y1, w1, r1⟩ := q1
  subst w1
  show EvP _ _ _ (1013, lwL i, [.int y1], h1) _
  refine te_pop (p2 := 1014) rfl rfl rfl ?_
  refine te_aload_n (p2 := 1015) rfl rfl rfl ?_
  refine tw_rd (p2 := 1020) 1 rfl rfl rfl rfl rfl rfl (by decide) hi (by omega) hb ?_
  refine tc_V (p2 := 1023) (i := 148) rfl rfl rfl rfl I1 rfl rfl rfl (c_X12_pulls (x1 := (l.getD (n + 1) 0)) I1) (by decide) (fun v2 h2 q2 => ?_)
  obtain ⟨I2, g2, y2, w2, r2⟩ := q2
  subst w2
  show EvP _ _ _ (1023, lwL i, [.int y2], h2) _
  refine te_pop (p2 := 1024) rfl rfl rfl ?_
  refine te_goto rfl ?_
  exact kx h2 I2 (relc_pulls (nn := n) (x1 := (l.getD (n + 1) 0)) (y1 := y1) (y2 := y2) (by omega) hI I1 I2 hr g1 g2 r1 r2)
set_option maxRecDepth 10000 in
set_option maxHeartbeats 2000000 in
theorem lq_pullTold {l : List Int32} {n : Nat} {i : Int32} {h : im_H} {Q : Option Value → im_H → Prop} (hi : i.toInt = n) (hl : n + 6 ≤ l.length) (hb : l.length < 2147483648) (hI : tI h) (kx : ∀ h1 h2, tI h2 → fr F_X11_pullTold h h1 → fr F_X12_pullTold h1 h2 → EvP (im_K1 l) 20 mL_law (1753, lwL i, [], h2) Q) : EvP (im_K1 l) 20 mL_law (1027, lwL i, [], h) Q := by
  refine te_aload_n (p2 := 1028) rfl rfl rfl ?_
  refine tw_rd (p2 := 1033) 1 rfl rfl rfl rfl rfl rfl (by decide) hi (by omega) hb ?_
  refine cV_mI (p2 := 1036) (i := 0) rfl rfl rfl rfl hI rfl rfl rfl (t_X11_pullTold (x1 := (l.getD (n + 1) 0)) hI) (by decide) (fun y1 h1 I1 g1 r1 => ?_)
  refine te_pop (p2 := 1037) rfl rfl rfl ?_
  refine te_aload_n (p2 := 1038) rfl rfl rfl ?_
  refine tw_rd (p2 := 1043) 1 rfl rfl rfl rfl rfl rfl (by decide) hi (by omega) hb ?_
  refine cV_mI (p2 := 1046) (i := 148) rfl rfl rfl rfl I1 rfl rfl rfl (t_X12_pullTold (x1 := (l.getD (n + 1) 0)) I1) (by decide) (fun y2 h2 I2 g2 r2 => ?_)
  refine te_pop (p2 := 1047) rfl rfl rfl ?_
  refine te_goto rfl ?_
  exact kx h1 h2 I2 g1 g2
set_option maxRecDepth 10000 in
set_option maxHeartbeats 2000000 in
theorem lq_mends {l : List Int32} {n : Nat} {i : Int32} {h : im_H} {Q : Option Value → im_H → Prop} (hi : i.toInt = n) (hl : n + 6 ≤ l.length) (hb : l.length < 2147483648) (hI : tI h) (hN : l.length ≤ 3072) (hr : rel n h) (kx : ∀ h2, tI h2 → rel (n + 6) h2 → EvP (im_K1 l) 20 mL_law (1753, lwL i, [], h2) Q) : EvP (im_K1 l) 20 mL_law (1050, lwL i, [], h) Q := by
  refine te_aload_n (p2 := 1051) rfl rfl rfl ?_
  refine tw_rd (p2 := 1056) 1 rfl rfl rfl rfl rfl rfl (by decide) hi (by omega) hb ?_
  refine tc_V (p2 := 1059) (i := 0) rfl rfl rfl rfl hI rfl rfl rfl (c_X11_mends (x1 := (l.getD (n + 1) 0)) hI) (by decide) (fun v1 h1 q1 => ?_)
  obtain ⟨I1, g1, y1, w1, r1⟩ := q1
  subst w1
  show EvP _ _ _ (1059, lwL i, [.int y1], h1) _
  refine te_pop (p2 := 1060) rfl rfl rfl ?_
  refine te_aload_n (p2 := 1061) rfl rfl rfl ?_
  refine tw_rd (p2 := 1066) 1 rfl rfl rfl rfl rfl rfl (by decide) hi (by omega) hb ?_
  refine tc_V (p2 := 1069) (i := 148) rfl rfl rfl rfl I1 rfl rfl rfl (c_X12_mends (x1 := (l.getD (n + 1) 0)) I1) (by decide) (fun v2 h2 q2 => ?_)
  obtain ⟨I2, g2, y2, w2, r2⟩ := q2
  subst w2
  show EvP _ _ _ (1069, lwL i, [.int y2], h2) _
  refine te_pop (p2 := 1070) rfl rfl rfl ?_
  refine te_goto rfl ?_
  exact kx h2 I2 (relc_mends (nn := n) (x1 := (l.getD (n + 1) 0)) (y1 := y1) (y2 := y2) (by omega) hI I1 I2 hr g1 g2 r1 r2)
set_option maxRecDepth 10000 in
set_option maxHeartbeats 2000000 in
theorem lq_mendTold {l : List Int32} {n : Nat} {i : Int32} {h : im_H} {Q : Option Value → im_H → Prop} (hi : i.toInt = n) (hl : n + 6 ≤ l.length) (hb : l.length < 2147483648) (hI : tI h) (hN : l.length ≤ 3072) (hr : rel n h) (kx : ∀ h2, tI h2 → rel (n + 6) h2 → EvP (im_K1 l) 20 mL_law (1753, lwL i, [], h2) Q) : EvP (im_K1 l) 20 mL_law (1073, lwL i, [], h) Q := by
  refine te_aload_n (p2 := 1074) rfl rfl rfl ?_
  refine tc_V (p2 := 1077) (i := 0) rfl rfl rfl rfl hI rfl rfl rfl (c_X11_mendTold  hI) (by decide) (fun v1 h1 q1 => ?_)
  obtain ⟨I1, g1, y1, w1, r1⟩ := q1
  subst w1
  show EvP _ _ _ (1077, lwL i, [.int y1], h1) _
  refine te_aload_n (p2 := 1078) rfl rfl rfl ?_
  refine tc_V (p2 := 1081) (i := 148) rfl rfl rfl rfl I1 rfl rfl rfl (c_X12_mendTold  I1) (by decide) (fun v2 h2 q2 => ?_)
  obtain ⟨I2, g2, y2, w2, r2⟩ := q2
  subst w2
  show EvP _ _ _ (1081, lwL i, [.int y2, .int y1], h2) _
  obtain ⟨ye, hr2⟩ := relc_mendTold (nn := n) (by omega) hI I1 I2  (y1 := y1) (y2 := y2) hr g1 g2 r1 r2
  refine tb_eq (p2 := 1084) rfl rfl rfl rfl (fun _ => kx h2 I2 hr2) (fun hc => absurd (congrArg Int32.toInt ye) hc)
set_option maxRecDepth 10000 in
set_option maxHeartbeats 2000000 in
theorem lq_mend {l : List Int32} {n : Nat} {i : Int32} {h : im_H} {Q : Option Value → im_H → Prop} (hi : i.toInt = n) (hl : n + 6 ≤ l.length) (hb : l.length < 2147483648) (hI : tI h) (hN : l.length ≤ 3072) (hr : rel n h) (kx : ∀ h2, tI h2 → rel (n + 6) h2 → EvP (im_K1 l) 20 mL_law (1753, lwL i, [], h2) Q) : EvP (im_K1 l) 20 mL_law (1086, lwL i, [], h) Q := by
  refine te_aload_n (p2 := 1087) rfl rfl rfl ?_
  refine tw_rd (p2 := 1092) 1 rfl rfl rfl rfl rfl rfl (by decide) hi (by omega) hb ?_
  refine tc_V (p2 := 1095) (i := 0) rfl rfl rfl rfl hI rfl rfl rfl (c_X11_mend (x1 := (l.getD (n + 1) 0)) hI) (by decide) (fun v1 h1 q1 => ?_)
  obtain ⟨I1, g1, y1, w1, r1⟩ := q1
  subst w1
  show EvP _ _ _ (1095, lwL i, [.int y1], h1) _
  refine te_pop (p2 := 1096) rfl rfl rfl ?_
  refine te_aload_n (p2 := 1097) rfl rfl rfl ?_
  refine tw_rd (p2 := 1102) 1 rfl rfl rfl rfl rfl rfl (by decide) hi (by omega) hb ?_
  refine tc_V (p2 := 1105) (i := 148) rfl rfl rfl rfl I1 rfl rfl rfl (c_X12_mend (x1 := (l.getD (n + 1) 0)) I1) (by decide) (fun v2 h2 q2 => ?_)
  obtain ⟨I2, g2, y2, w2, r2⟩ := q2
  subst w2
  show EvP _ _ _ (1105, lwL i, [.int y2], h2) _
  refine te_pop (p2 := 1106) rfl rfl rfl ?_
  refine te_goto rfl ?_
  exact kx h2 I2 (relc_mend (nn := n) (x1 := (l.getD (n + 1) 0)) (y1 := y1) (y2 := y2) (by omega) hI I1 I2 hr g1 g2 r1 r2)
set_option maxRecDepth 10000 in
set_option maxHeartbeats 2000000 in
theorem lq_roomTold {l : List Int32} {n : Nat} {i : Int32} {h : im_H} {Q : Option Value → im_H → Prop} (hi : i.toInt = n) (hl : n + 6 ≤ l.length) (hb : l.length < 2147483648) (hI : tI h) (kx : ∀ h1 h2, tI h2 → fr F_X11_roomTold h h1 → fr F_X12_roomTold h1 h2 → EvP (im_K1 l) 20 mL_law (1753, lwL i, [], h2) Q) : EvP (im_K1 l) 20 mL_law (1109, lwL i, [], h) Q := by
  refine te_aload_n (p2 := 1110) rfl rfl rfl ?_
  refine tw_rd (p2 := 1115) 1 rfl rfl rfl rfl rfl rfl (by decide) hi (by omega) hb ?_
  refine tw_rd (p2 := 1120) 2 rfl rfl rfl rfl rfl rfl (by decide) hi (by omega) hb ?_
  refine cV_mI (p2 := 1123) (i := 0) rfl rfl rfl rfl hI rfl rfl rfl (t_X11_roomTold (x1 := (l.getD (n + 1) 0)) (x2 := (l.getD (n + 2) 0)) hI) (by decide) (fun y1 h1 I1 g1 r1 => ?_)
  refine te_pop (p2 := 1124) rfl rfl rfl ?_
  refine te_aload_n (p2 := 1125) rfl rfl rfl ?_
  refine tw_rd (p2 := 1130) 1 rfl rfl rfl rfl rfl rfl (by decide) hi (by omega) hb ?_
  refine tw_rd (p2 := 1135) 2 rfl rfl rfl rfl rfl rfl (by decide) hi (by omega) hb ?_
  refine cV_mI (p2 := 1138) (i := 148) rfl rfl rfl rfl I1 rfl rfl rfl (t_X12_roomTold (x1 := (l.getD (n + 1) 0)) (x2 := (l.getD (n + 2) 0)) I1) (by decide) (fun y2 h2 I2 g2 r2 => ?_)
  refine te_pop (p2 := 1139) rfl rfl rfl ?_
  refine te_goto rfl ?_
  exact kx h1 h2 I2 g1 g2
set_option maxRecDepth 10000 in
set_option maxHeartbeats 2000000 in
theorem lq_raid {l : List Int32} {n : Nat} {i : Int32} {h : im_H} {Q : Option Value → im_H → Prop} (hi : i.toInt = n) (hl : n + 6 ≤ l.length) (hb : l.length < 2147483648) (hI : tI h) (kx : ∀ h1 h2, tI h2 → fr F_X11_raid h h1 → fr F_X12_raid h1 h2 → EvP (im_K1 l) 20 mL_law (1753, lwL i, [], h2) Q) : EvP (im_K1 l) 20 mL_law (1142, lwL i, [], h) Q := by
  refine te_aload_n (p2 := 1143) rfl rfl rfl ?_
  refine tw_rd (p2 := 1148) 1 rfl rfl rfl rfl rfl rfl (by decide) hi (by omega) hb ?_
  refine tw_rd (p2 := 1153) 2 rfl rfl rfl rfl rfl rfl (by decide) hi (by omega) hb ?_
  refine tw_rd (p2 := 1158) 3 rfl rfl rfl rfl rfl rfl (by decide) hi (by omega) hb ?_
  refine tw_rd (p2 := 1163) 4 rfl rfl rfl rfl rfl rfl (by decide) hi (by omega) hb ?_
  refine cV_mI (p2 := 1166) (i := 0) rfl rfl rfl rfl hI rfl rfl rfl (t_X11_raid (x1 := (l.getD (n + 1) 0)) (x2 := (l.getD (n + 2) 0)) (x3 := (l.getD (n + 3) 0)) (x4 := (l.getD (n + 4) 0)) hI) (by decide) (fun y1 h1 I1 g1 r1 => ?_)
  refine te_pop (p2 := 1167) rfl rfl rfl ?_
  refine te_aload_n (p2 := 1168) rfl rfl rfl ?_
  refine tw_rd (p2 := 1173) 1 rfl rfl rfl rfl rfl rfl (by decide) hi (by omega) hb ?_
  refine tw_rd (p2 := 1178) 2 rfl rfl rfl rfl rfl rfl (by decide) hi (by omega) hb ?_
  refine tw_rd (p2 := 1183) 3 rfl rfl rfl rfl rfl rfl (by decide) hi (by omega) hb ?_
  refine tw_rd (p2 := 1188) 4 rfl rfl rfl rfl rfl rfl (by decide) hi (by omega) hb ?_
  refine cV_mI (p2 := 1191) (i := 148) rfl rfl rfl rfl I1 rfl rfl rfl (t_X12_raid (x1 := (l.getD (n + 1) 0)) (x2 := (l.getD (n + 2) 0)) (x3 := (l.getD (n + 3) 0)) (x4 := (l.getD (n + 4) 0)) I1) (by decide) (fun y2 h2 I2 g2 r2 => ?_)
  refine te_pop (p2 := 1192) rfl rfl rfl ?_
  refine te_goto rfl ?_
  exact kx h1 h2 I2 g1 g2
set_option maxRecDepth 10000 in
set_option maxHeartbeats 2000000 in
theorem lq_probe {l : List Int32} {n : Nat} {i : Int32} {h : im_H} {Q : Option Value → im_H → Prop} (hi : i.toInt = n) (hl : n + 6 ≤ l.length) (hb : l.length < 2147483648) (hI : tI h) (kx : ∀ h1 h2, tI h2 → fr F_X11_probe h h1 → fr F_X12_probe h1 h2 → EvP (im_K1 l) 20 mL_law (1753, lwL i, [], h2) Q) : EvP (im_K1 l) 20 mL_law (1195, lwL i, [], h) Q := by
  refine te_aload_n (p2 := 1196) rfl rfl rfl ?_
  refine tw_rd (p2 := 1201) 1 rfl rfl rfl rfl rfl rfl (by decide) hi (by omega) hb ?_
  refine tw_rd (p2 := 1206) 2 rfl rfl rfl rfl rfl rfl (by decide) hi (by omega) hb ?_
  refine cV_mI (p2 := 1209) (i := 0) rfl rfl rfl rfl hI rfl rfl rfl (t_X11_probe (x1 := (l.getD (n + 1) 0)) (x2 := (l.getD (n + 2) 0)) hI) (by decide) (fun y1 h1 I1 g1 r1 => ?_)
  refine te_pop (p2 := 1210) rfl rfl rfl ?_
  refine te_aload_n (p2 := 1211) rfl rfl rfl ?_
  refine tw_rd (p2 := 1216) 1 rfl rfl rfl rfl rfl rfl (by decide) hi (by omega) hb ?_
  refine tw_rd (p2 := 1221) 2 rfl rfl rfl rfl rfl rfl (by decide) hi (by omega) hb ?_
  refine cV_mI (p2 := 1224) (i := 148) rfl rfl rfl rfl I1 rfl rfl rfl (t_X12_probe (x1 := (l.getD (n + 1) 0)) (x2 := (l.getD (n + 2) 0)) I1) (by decide) (fun y2 h2 I2 g2 r2 => ?_)
  refine te_pop (p2 := 1225) rfl rfl rfl ?_
  refine te_goto rfl ?_
  exact kx h1 h2 I2 g1 g2
set_option maxRecDepth 10000 in
set_option maxHeartbeats 2000000 in
theorem lq_likely {l : List Int32} {n : Nat} {i : Int32} {h : im_H} {Q : Option Value → im_H → Prop} (hi : i.toInt = n) (hl : n + 6 ≤ l.length) (hb : l.length < 2147483648) (hI : tI h) (kx : ∀ h1 h2, tI h2 → fr F_X11_likely h h1 → fr F_X12_likely h1 h2 → EvP (im_K1 l) 20 mL_law (1753, lwL i, [], h2) Q) : EvP (im_K1 l) 20 mL_law (1228, lwL i, [], h) Q := by
  refine te_aload_n (p2 := 1229) rfl rfl rfl ?_
  refine tw_rd (p2 := 1234) 1 rfl rfl rfl rfl rfl rfl (by decide) hi (by omega) hb ?_
  refine tw_rd (p2 := 1239) 2 rfl rfl rfl rfl rfl rfl (by decide) hi (by omega) hb ?_
  refine cV_mL (p2 := 1242) (i := 0) rfl rfl rfl rfl hI rfl rfl rfl (t_X11_likely (x1 := (l.getD (n + 1) 0)) (x2 := (l.getD (n + 2) 0)) hI) (by decide) (fun y1 h1 I1 g1 => ?_)
  refine te_pop2 (p2 := 1243) rfl rfl rfl ?_
  refine te_aload_n (p2 := 1244) rfl rfl rfl ?_
  refine tw_rd (p2 := 1249) 1 rfl rfl rfl rfl rfl rfl (by decide) hi (by omega) hb ?_
  refine tw_rd (p2 := 1254) 2 rfl rfl rfl rfl rfl rfl (by decide) hi (by omega) hb ?_
  refine cV_mL (p2 := 1257) (i := 148) rfl rfl rfl rfl I1 rfl rfl rfl (t_X12_likely (x1 := (l.getD (n + 1) 0)) (x2 := (l.getD (n + 2) 0)) I1) (by decide) (fun y2 h2 I2 g2 => ?_)
  refine te_pop2 (p2 := 1258) rfl rfl rfl ?_
  refine te_goto rfl ?_
  exact kx h1 h2 I2 g1 g2
set_option maxRecDepth 10000 in
set_option maxHeartbeats 2000000 in
theorem lq_next {l : List Int32} {n : Nat} {i : Int32} {h : im_H} {Q : Option Value → im_H → Prop} (hi : i.toInt = n) (hl : n + 6 ≤ l.length) (hb : l.length < 2147483648) (hI : tI h) (kx : ∀ h1 h2, tI h2 → fr F_X11_next h h1 → fr F_X12_next h1 h2 → EvP (im_K1 l) 20 mL_law (1753, lwL i, [], h2) Q) : EvP (im_K1 l) 20 mL_law (1261, lwL i, [], h) Q := by
  refine te_aload_n (p2 := 1262) rfl rfl rfl ?_
  refine cV_mI (p2 := 1265) (i := 0) rfl rfl rfl rfl hI rfl rfl rfl (t_X11_next  hI) (by decide) (fun y1 h1 I1 g1 r1 => ?_)
  refine te_pop (p2 := 1266) rfl rfl rfl ?_
  refine te_aload_n (p2 := 1267) rfl rfl rfl ?_
  refine cV_mI (p2 := 1270) (i := 148) rfl rfl rfl rfl I1 rfl rfl rfl (t_X12_next  I1) (by decide) (fun y2 h2 I2 g2 r2 => ?_)
  refine te_pop (p2 := 1271) rfl rfl rfl ?_
  refine te_goto rfl ?_
  exact kx h1 h2 I2 g1 g2
set_option maxRecDepth 10000 in
set_option maxHeartbeats 2000000 in
theorem lq_paper {l : List Int32} {n : Nat} {i : Int32} {h : im_H} {Q : Option Value → im_H → Prop} (hi : i.toInt = n) (hl : n + 6 ≤ l.length) (hb : l.length < 2147483648) (hI : tI h) (kx : ∀ h1 h2, tI h2 → fr F_X11_paper h h1 → fr F_X12_paper h1 h2 → EvP (im_K1 l) 20 mL_law (1753, lwL i, [], h2) Q) : EvP (im_K1 l) 20 mL_law (1274, lwL i, [], h) Q := by
  refine te_aload_n (p2 := 1275) rfl rfl rfl ?_
  refine tw_rd (p2 := 1280) 1 rfl rfl rfl rfl rfl rfl (by decide) hi (by omega) hb ?_
  refine tw_rd (p2 := 1285) 2 rfl rfl rfl rfl rfl rfl (by decide) hi (by omega) hb ?_
  refine tw_rd (p2 := 1290) 3 rfl rfl rfl rfl rfl rfl (by decide) hi (by omega) hb ?_
  refine cV_mI (p2 := 1293) (i := 0) rfl rfl rfl rfl hI rfl rfl rfl (t_X11_paper (x1 := (l.getD (n + 1) 0)) (x2 := (l.getD (n + 2) 0)) (x3 := (l.getD (n + 3) 0)) hI) (by decide) (fun y1 h1 I1 g1 r1 => ?_)
  refine te_pop (p2 := 1294) rfl rfl rfl ?_
  refine te_aload_n (p2 := 1295) rfl rfl rfl ?_
  refine tw_rd (p2 := 1300) 1 rfl rfl rfl rfl rfl rfl (by decide) hi (by omega) hb ?_
  refine tw_rd (p2 := 1305) 2 rfl rfl rfl rfl rfl rfl (by decide) hi (by omega) hb ?_
  refine tw_rd (p2 := 1310) 3 rfl rfl rfl rfl rfl rfl (by decide) hi (by omega) hb ?_
  refine cV_mI (p2 := 1313) (i := 148) rfl rfl rfl rfl I1 rfl rfl rfl (t_X12_paper (x1 := (l.getD (n + 1) 0)) (x2 := (l.getD (n + 2) 0)) (x3 := (l.getD (n + 3) 0)) I1) (by decide) (fun y2 h2 I2 g2 r2 => ?_)
  refine te_pop (p2 := 1314) rfl rfl rfl ?_
  refine te_goto rfl ?_
  exact kx h1 h2 I2 g1 g2
set_option maxRecDepth 10000 in
set_option maxHeartbeats 2000000 in
theorem lq_burn {l : List Int32} {n : Nat} {i : Int32} {h : im_H} {Q : Option Value → im_H → Prop} (hi : i.toInt = n) (hl : n + 6 ≤ l.length) (hb : l.length < 2147483648) (hI : tI h) (kx : ∀ h1 h2, tI h2 → fr F_X11_burn h h1 → fr F_X12_burn h1 h2 → EvP (im_K1 l) 20 mL_law (1753, lwL i, [], h2) Q) : EvP (im_K1 l) 20 mL_law (1317, lwL i, [], h) Q := by
  refine te_aload_n (p2 := 1318) rfl rfl rfl ?_
  refine tw_rd (p2 := 1323) 1 rfl rfl rfl rfl rfl rfl (by decide) hi (by omega) hb ?_
  refine cV_mI (p2 := 1326) (i := 0) rfl rfl rfl rfl hI rfl rfl rfl (t_X11_burn (x1 := (l.getD (n + 1) 0)) hI) (by decide) (fun y1 h1 I1 g1 r1 => ?_)
  refine te_pop (p2 := 1327) rfl rfl rfl ?_
  refine te_aload_n (p2 := 1328) rfl rfl rfl ?_
  refine tw_rd (p2 := 1333) 1 rfl rfl rfl rfl rfl rfl (by decide) hi (by omega) hb ?_
  refine cV_mI (p2 := 1336) (i := 148) rfl rfl rfl rfl I1 rfl rfl rfl (t_X12_burn (x1 := (l.getD (n + 1) 0)) I1) (by decide) (fun y2 h2 I2 g2 r2 => ?_)
  refine te_pop (p2 := 1337) rfl rfl rfl ?_
  refine te_goto rfl ?_
  exact kx h1 h2 I2 g1 g2
set_option maxRecDepth 10000 in
set_option maxHeartbeats 2000000 in
theorem lq_owner {l : List Int32} {n : Nat} {i : Int32} {h : im_H} {Q : Option Value → im_H → Prop} (hi : i.toInt = n) (hl : n + 6 ≤ l.length) (hb : l.length < 2147483648) (hI : tI h) (kx : ∀ h1 h2, tI h2 → fr F_X11_owner h h1 → fr F_X12_owner h1 h2 → EvP (im_K1 l) 20 mL_law (1753, lwL i, [], h2) Q) : EvP (im_K1 l) 20 mL_law (1340, lwL i, [], h) Q := by
  refine te_aload_n (p2 := 1341) rfl rfl rfl ?_
  refine tw_rd (p2 := 1346) 1 rfl rfl rfl rfl rfl rfl (by decide) hi (by omega) hb ?_
  refine tw_rd (p2 := 1351) 2 rfl rfl rfl rfl rfl rfl (by decide) hi (by omega) hb ?_
  refine tw_rd (p2 := 1356) 3 rfl rfl rfl rfl rfl rfl (by decide) hi (by omega) hb ?_
  refine cV_mI (p2 := 1359) (i := 0) rfl rfl rfl rfl hI rfl rfl rfl (t_X11_owner (x1 := (l.getD (n + 1) 0)) (x2 := (l.getD (n + 2) 0)) (x3 := (l.getD (n + 3) 0)) hI) (by decide) (fun y1 h1 I1 g1 r1 => ?_)
  refine te_pop (p2 := 1360) rfl rfl rfl ?_
  refine te_aload_n (p2 := 1361) rfl rfl rfl ?_
  refine tw_rd (p2 := 1366) 1 rfl rfl rfl rfl rfl rfl (by decide) hi (by omega) hb ?_
  refine tw_rd (p2 := 1371) 2 rfl rfl rfl rfl rfl rfl (by decide) hi (by omega) hb ?_
  refine tw_rd (p2 := 1376) 3 rfl rfl rfl rfl rfl rfl (by decide) hi (by omega) hb ?_
  refine cV_mI (p2 := 1379) (i := 148) rfl rfl rfl rfl I1 rfl rfl rfl (t_X12_owner (x1 := (l.getD (n + 1) 0)) (x2 := (l.getD (n + 2) 0)) (x3 := (l.getD (n + 3) 0)) I1) (by decide) (fun y2 h2 I2 g2 r2 => ?_)
  refine te_pop (p2 := 1380) rfl rfl rfl ?_
  refine te_goto rfl ?_
  exact kx h1 h2 I2 g1 g2
set_option maxRecDepth 10000 in
set_option maxHeartbeats 2000000 in
theorem lq_heirs {l : List Int32} {n : Nat} {i : Int32} {h : im_H} {Q : Option Value → im_H → Prop} (hi : i.toInt = n) (hl : n + 6 ≤ l.length) (hb : l.length < 2147483648) (hI : tI h) (kx : ∀ h1 h2, tI h2 → fr F_X11_heirs h h1 → fr F_X12_heirs h1 h2 → EvP (im_K1 l) 20 mL_law (1753, lwL i, [], h2) Q) : EvP (im_K1 l) 20 mL_law (1383, lwL i, [], h) Q := by
  refine te_aload_n (p2 := 1384) rfl rfl rfl ?_
  refine tw_rd (p2 := 1389) 1 rfl rfl rfl rfl rfl rfl (by decide) hi (by omega) hb ?_
  refine tw_rd (p2 := 1394) 2 rfl rfl rfl rfl rfl rfl (by decide) hi (by omega) hb ?_
  refine tw_rd (p2 := 1399) 3 rfl rfl rfl rfl rfl rfl (by decide) hi (by omega) hb ?_
  refine cV_mI (p2 := 1402) (i := 0) rfl rfl rfl rfl hI rfl rfl rfl (t_X11_heirs (x1 := (l.getD (n + 1) 0)) (x2 := (l.getD (n + 2) 0)) (x3 := (l.getD (n + 3) 0)) hI) (by decide) (fun y1 h1 I1 g1 r1 => ?_)
  refine te_pop (p2 := 1403) rfl rfl rfl ?_
  refine te_aload_n (p2 := 1404) rfl rfl rfl ?_
  refine tw_rd (p2 := 1409) 1 rfl rfl rfl rfl rfl rfl (by decide) hi (by omega) hb ?_
  refine tw_rd (p2 := 1414) 2 rfl rfl rfl rfl rfl rfl (by decide) hi (by omega) hb ?_
  refine tw_rd (p2 := 1419) 3 rfl rfl rfl rfl rfl rfl (by decide) hi (by omega) hb ?_
  refine cV_mI (p2 := 1422) (i := 148) rfl rfl rfl rfl I1 rfl rfl rfl (t_X12_heirs (x1 := (l.getD (n + 1) 0)) (x2 := (l.getD (n + 2) 0)) (x3 := (l.getD (n + 3) 0)) I1) (by decide) (fun y2 h2 I2 g2 r2 => ?_)
  refine te_pop (p2 := 1423) rfl rfl rfl ?_
  refine te_goto rfl ?_
  exact kx h1 h2 I2 g1 g2
set_option maxRecDepth 10000 in
set_option maxHeartbeats 2000000 in
theorem lq_beside {l : List Int32} {n : Nat} {i : Int32} {h : im_H} {Q : Option Value → im_H → Prop} (hi : i.toInt = n) (hl : n + 6 ≤ l.length) (hb : l.length < 2147483648) (hI : tI h) (hN : l.length ≤ 3072) (hr : rel n h) (kx : ∀ h2, tI h2 → rel (n + 6) h2 → EvP (im_K1 l) 20 mL_law (1753, lwL i, [], h2) Q) : EvP (im_K1 l) 20 mL_law (1426, lwL i, [], h) Q := by
  refine te_aload_n (p2 := 1427) rfl rfl rfl ?_
  refine tw_rd (p2 := 1432) 1 rfl rfl rfl rfl rfl rfl (by decide) hi (by omega) hb ?_
  refine tw_rd (p2 := 1437) 2 rfl rfl rfl rfl rfl rfl (by decide) hi (by omega) hb ?_
  refine tc_V (p2 := 1440) (i := 0) rfl rfl rfl rfl hI rfl rfl rfl (c_X11_beside (x1 := (l.getD (n + 1) 0)) (x2 := (l.getD (n + 2) 0)) hI) (by decide) (fun v1 h1 q1 => ?_)
  obtain ⟨I1, g1, y1, w1, r1⟩ := q1
  subst w1
  show EvP _ _ _ (1440, lwL i, [.long y1], h1) _
  refine te_pop2 (p2 := 1441) rfl rfl rfl ?_
  refine te_aload_n (p2 := 1442) rfl rfl rfl ?_
  refine tw_rd (p2 := 1447) 1 rfl rfl rfl rfl rfl rfl (by decide) hi (by omega) hb ?_
  refine tw_rd (p2 := 1452) 2 rfl rfl rfl rfl rfl rfl (by decide) hi (by omega) hb ?_
  refine tc_V (p2 := 1455) (i := 148) rfl rfl rfl rfl I1 rfl rfl rfl (c_X12_beside (x1 := (l.getD (n + 1) 0)) (x2 := (l.getD (n + 2) 0)) I1) (by decide) (fun v2 h2 q2 => ?_)
  obtain ⟨I2, g2, y2, w2, r2⟩ := q2
  subst w2
  show EvP _ _ _ (1455, lwL i, [.long y2], h2) _
  refine te_pop2 (p2 := 1456) rfl rfl rfl ?_
  refine te_goto rfl ?_
  exact kx h2 I2 (relc_beside (nn := n) (x1 := (l.getD (n + 1) 0)) (x2 := (l.getD (n + 2) 0)) (y1 := y1) (y2 := y2) (by omega) hI I1 I2 hr g1 g2 r1 r2)
set_option maxRecDepth 10000 in
set_option maxHeartbeats 2000000 in
theorem lq_clear {l : List Int32} {n : Nat} {i : Int32} {h : im_H} {Q : Option Value → im_H → Prop} (hi : i.toInt = n) (hl : n + 6 ≤ l.length) (hb : l.length < 2147483648) (hI : tI h) (hN : l.length ≤ 3072) (hr : rel n h) (kx : ∀ h2, tI h2 → rel (n + 6) h2 → EvP (im_K1 l) 20 mL_law (1753, lwL i, [], h2) Q) : EvP (im_K1 l) 20 mL_law (1459, lwL i, [], h) Q := by
  refine te_aload_n (p2 := 1460) rfl rfl rfl ?_
  refine tw_rd (p2 := 1465) 1 rfl rfl rfl rfl rfl rfl (by decide) hi (by omega) hb ?_
  refine tw_rd (p2 := 1470) 2 rfl rfl rfl rfl rfl rfl (by decide) hi (by omega) hb ?_
  refine tc_V (p2 := 1473) (i := 0) rfl rfl rfl rfl hI rfl rfl rfl (c_X11_clear (x1 := (l.getD (n + 1) 0)) (x2 := (l.getD (n + 2) 0)) hI) (by decide) (fun v1 h1 q1 => ?_)
  obtain ⟨I1, g1, y1, w1, r1⟩ := q1
  subst w1
  show EvP _ _ _ (1473, lwL i, [.int y1], h1) _
  refine te_pop (p2 := 1474) rfl rfl rfl ?_
  refine te_aload_n (p2 := 1475) rfl rfl rfl ?_
  refine tw_rd (p2 := 1480) 1 rfl rfl rfl rfl rfl rfl (by decide) hi (by omega) hb ?_
  refine tw_rd (p2 := 1485) 2 rfl rfl rfl rfl rfl rfl (by decide) hi (by omega) hb ?_
  refine tc_V (p2 := 1488) (i := 148) rfl rfl rfl rfl I1 rfl rfl rfl (c_X12_clear (x1 := (l.getD (n + 1) 0)) (x2 := (l.getD (n + 2) 0)) I1) (by decide) (fun v2 h2 q2 => ?_)
  obtain ⟨I2, g2, y2, w2, r2⟩ := q2
  subst w2
  show EvP _ _ _ (1488, lwL i, [.int y2], h2) _
  refine te_pop (p2 := 1489) rfl rfl rfl ?_
  refine te_goto rfl ?_
  exact kx h2 I2 (relc_clear (nn := n) (x1 := (l.getD (n + 1) 0)) (x2 := (l.getD (n + 2) 0)) (y1 := y1) (y2 := y2) (by omega) hI I1 I2 hr g1 g2 r1 r2)
set_option maxRecDepth 10000 in
set_option maxHeartbeats 2000000 in
theorem lq_image {l : List Int32} {n : Nat} {i : Int32} {h : im_H} {Q : Option Value → im_H → Prop} (hi : i.toInt = n) (hl : n + 6 ≤ l.length) (hb : l.length < 2147483648) (hI : tI h) (hN : l.length ≤ 3072) (hr : rel n h) (kx : ∀ h2, tI h2 → rel (n + 6) h2 → EvP (im_K1 l) 20 mL_law (1753, lwL i, [], h2) Q) : EvP (im_K1 l) 20 mL_law (1492, lwL i, [], h) Q := by
  refine te_aload_n (p2 := 1493) rfl rfl rfl ?_
  refine tc_V (p2 := 1496) (i := 0) rfl rfl rfl rfl hI rfl rfl rfl (c_X11_image  hI) (by decide) (fun v1 h1 q1 => ?_)
  obtain ⟨I1, g1, y1, w1, r1⟩ := q1
  subst w1
  show EvP _ _ _ (1496, lwL i, [.int y1], h1) _
  refine te_pop (p2 := 1497) rfl rfl rfl ?_
  refine te_aload_n (p2 := 1498) rfl rfl rfl ?_
  refine tc_V (p2 := 1501) (i := 148) rfl rfl rfl rfl I1 rfl rfl rfl (c_X12_image  I1) (by decide) (fun v2 h2 q2 => ?_)
  obtain ⟨I2, g2, y2, w2, r2⟩ := q2
  subst w2
  show EvP _ _ _ (1501, lwL i, [.int y2], h2) _
  refine te_pop (p2 := 1502) rfl rfl rfl ?_
  refine te_goto rfl ?_
  exact kx h2 I2 (relc_image (nn := n) (by omega) hI I1 I2  (y1 := y1) (y2 := y2) hr g1 g2 r1 r2)
set_option maxRecDepth 10000 in
set_option maxHeartbeats 2000000 in
theorem lq_back {l : List Int32} {n : Nat} {i : Int32} {h : im_H} {Q : Option Value → im_H → Prop} (hi : i.toInt = n) (hl : n + 6 ≤ l.length) (hb : l.length < 2147483648) (hI : tI h) (hN : l.length ≤ 3072) (hr : rel n h) (kx : ∀ h2, tI h2 → rel (n + 6) h2 → EvP (im_K1 l) 20 mL_law (1753, lwL i, [], h2) Q) : EvP (im_K1 l) 20 mL_law (1505, lwL i, [], h) Q := by
  refine te_aload_n (p2 := 1506) rfl rfl rfl ?_
  refine tc_V (p2 := 1509) (i := 0) rfl rfl rfl rfl hI rfl rfl rfl (c_X11_back  hI) (by decide) (fun v1 h1 q1 => ?_)
  obtain ⟨I1, g1, y1, w1, r1⟩ := q1
  subst w1
  show EvP _ _ _ (1509, lwL i, [.int y1], h1) _
  refine te_pop (p2 := 1510) rfl rfl rfl ?_
  refine te_aload_n (p2 := 1511) rfl rfl rfl ?_
  refine tc_V (p2 := 1514) (i := 148) rfl rfl rfl rfl I1 rfl rfl rfl (c_X12_back  I1) (by decide) (fun v2 h2 q2 => ?_)
  obtain ⟨I2, g2, y2, w2, r2⟩ := q2
  subst w2
  show EvP _ _ _ (1514, lwL i, [.int y2], h2) _
  refine te_pop (p2 := 1515) rfl rfl rfl ?_
  refine te_goto rfl ?_
  exact kx h2 I2 (relc_back (nn := n) (by omega) hI I1 I2  (y1 := y1) (y2 := y2) hr g1 g2 r1 r2)
set_option maxRecDepth 10000 in
set_option maxHeartbeats 2000000 in
theorem lq_sheet {l : List Int32} {n : Nat} {i : Int32} {h : im_H} {Q : Option Value → im_H → Prop} (hi : i.toInt = n) (hl : n + 6 ≤ l.length) (hb : l.length < 2147483648) (hI : tI h) (hN : l.length ≤ 3072) (hr : rel n h) (kx : ∀ h2, tI h2 → rel (n + 6) h2 → EvP (im_K1 l) 20 mL_law (1753, lwL i, [], h2) Q) : EvP (im_K1 l) 20 mL_law (1518, lwL i, [], h) Q := by
  refine te_aload_n (p2 := 1519) rfl rfl rfl ?_
  refine tw_rd (p2 := 1524) 1 rfl rfl rfl rfl rfl rfl (by decide) hi (by omega) hb ?_
  refine tw_rd (p2 := 1529) 2 rfl rfl rfl rfl rfl rfl (by decide) hi (by omega) hb ?_
  refine tw_rd (p2 := 1534) 3 rfl rfl rfl rfl rfl rfl (by decide) hi (by omega) hb ?_
  refine tc_V (p2 := 1537) (i := 0) rfl rfl rfl rfl hI rfl rfl rfl (c_X11_sheet (x1 := (l.getD (n + 1) 0)) (x2 := (l.getD (n + 2) 0)) (x3 := (l.getD (n + 3) 0)) hI) (by decide) (fun v1 h1 q1 => ?_)
  obtain ⟨I1, g1, y1, w1, r1⟩ := q1
  subst w1
  show EvP _ _ _ (1537, lwL i, [.int y1], h1) _
  refine te_pop (p2 := 1538) rfl rfl rfl ?_
  refine te_aload_n (p2 := 1539) rfl rfl rfl ?_
  refine tw_rd (p2 := 1544) 1 rfl rfl rfl rfl rfl rfl (by decide) hi (by omega) hb ?_
  refine tw_rd (p2 := 1549) 2 rfl rfl rfl rfl rfl rfl (by decide) hi (by omega) hb ?_
  refine tw_rd (p2 := 1554) 3 rfl rfl rfl rfl rfl rfl (by decide) hi (by omega) hb ?_
  refine tc_V (p2 := 1557) (i := 148) rfl rfl rfl rfl I1 rfl rfl rfl (c_X12_sheet (x1 := (l.getD (n + 1) 0)) (x2 := (l.getD (n + 2) 0)) (x3 := (l.getD (n + 3) 0)) I1) (by decide) (fun v2 h2 q2 => ?_)
  obtain ⟨I2, g2, y2, w2, r2⟩ := q2
  subst w2
  show EvP _ _ _ (1557, lwL i, [.int y2], h2) _
  refine te_pop (p2 := 1558) rfl rfl rfl ?_
  refine te_goto rfl ?_
  exact kx h2 I2 (relc_sheet (nn := n) (x1 := (l.getD (n + 1) 0)) (x2 := (l.getD (n + 2) 0)) (x3 := (l.getD (n + 3) 0)) (y1 := y1) (y2 := y2) (by omega) hI I1 I2 hr g1 g2 r1 r2)
set_option maxRecDepth 10000 in
set_option maxHeartbeats 2000000 in
theorem lq_cell {l : List Int32} {n : Nat} {i : Int32} {h : im_H} {Q : Option Value → im_H → Prop} (hi : i.toInt = n) (hl : n + 6 ≤ l.length) (hb : l.length < 2147483648) (hI : tI h) (hN : l.length ≤ 3072) (hr : rel n h) (kx : ∀ h2, tI h2 → rel (n + 6) h2 → EvP (im_K1 l) 20 mL_law (1753, lwL i, [], h2) Q) : EvP (im_K1 l) 20 mL_law (1561, lwL i, [], h) Q := by
  refine te_aload_n (p2 := 1562) rfl rfl rfl ?_
  refine tw_rd (p2 := 1567) 1 rfl rfl rfl rfl rfl rfl (by decide) hi (by omega) hb ?_
  refine tw_rd (p2 := 1572) 2 rfl rfl rfl rfl rfl rfl (by decide) hi (by omega) hb ?_
  refine tw_rd (p2 := 1577) 3 rfl rfl rfl rfl rfl rfl (by decide) hi (by omega) hb ?_
  refine tc_V (p2 := 1580) (i := 0) rfl rfl rfl rfl hI rfl rfl rfl (c_X11_cell (x1 := (l.getD (n + 1) 0)) (x2 := (l.getD (n + 2) 0)) (x3 := (l.getD (n + 3) 0)) hI) (by decide) (fun v1 h1 q1 => ?_)
  obtain ⟨I1, g1, y1, w1, r1⟩ := q1
  subst w1
  show EvP _ _ _ (1580, lwL i, [.int y1], h1) _
  refine te_pop (p2 := 1581) rfl rfl rfl ?_
  refine te_aload_n (p2 := 1582) rfl rfl rfl ?_
  refine tw_rd (p2 := 1587) 1 rfl rfl rfl rfl rfl rfl (by decide) hi (by omega) hb ?_
  refine tw_rd (p2 := 1592) 2 rfl rfl rfl rfl rfl rfl (by decide) hi (by omega) hb ?_
  refine tw_rd (p2 := 1597) 3 rfl rfl rfl rfl rfl rfl (by decide) hi (by omega) hb ?_
  refine tc_V (p2 := 1600) (i := 148) rfl rfl rfl rfl I1 rfl rfl rfl (c_X12_cell (x1 := (l.getD (n + 1) 0)) (x2 := (l.getD (n + 2) 0)) (x3 := (l.getD (n + 3) 0)) I1) (by decide) (fun v2 h2 q2 => ?_)
  obtain ⟨I2, g2, y2, w2, r2⟩ := q2
  subst w2
  show EvP _ _ _ (1600, lwL i, [.int y2], h2) _
  refine te_pop (p2 := 1601) rfl rfl rfl ?_
  refine te_goto rfl ?_
  exact kx h2 I2 (relc_cell (nn := n) (x1 := (l.getD (n + 1) 0)) (x2 := (l.getD (n + 2) 0)) (x3 := (l.getD (n + 3) 0)) (y1 := y1) (y2 := y2) (by omega) hI I1 I2 hr g1 g2 r1 r2)
set_option maxRecDepth 10000 in
set_option maxHeartbeats 2000000 in
theorem lq_copy {l : List Int32} {n : Nat} {i : Int32} {h : im_H} {Q : Option Value → im_H → Prop} (hi : i.toInt = n) (hl : n + 6 ≤ l.length) (hb : l.length < 2147483648) (hI : tI h) (hN : l.length ≤ 3072) (hr : rel n h) (kx : ∀ h2, tI h2 → rel (n + 6) h2 → EvP (im_K1 l) 20 mL_law (1753, lwL i, [], h2) Q) : EvP (im_K1 l) 20 mL_law (1604, lwL i, [], h) Q := by
  refine te_aload_n (p2 := 1605) rfl rfl rfl ?_
  refine tw_rd (p2 := 1610) 1 rfl rfl rfl rfl rfl rfl (by decide) hi (by omega) hb ?_
  refine tw_rd (p2 := 1615) 2 rfl rfl rfl rfl rfl rfl (by decide) hi (by omega) hb ?_
  refine tw_rd (p2 := 1620) 3 rfl rfl rfl rfl rfl rfl (by decide) hi (by omega) hb ?_
  refine tw_rd (p2 := 1625) 4 rfl rfl rfl rfl rfl rfl (by decide) hi (by omega) hb ?_
  refine tw_rd (p2 := 1630) 5 rfl rfl rfl rfl rfl rfl (by decide) hi (by omega) hb ?_
  refine tc_V (p2 := 1633) (i := 0) rfl rfl rfl rfl hI rfl rfl rfl (c_X11_copy (x1 := (l.getD (n + 1) 0)) (x2 := (l.getD (n + 2) 0)) (x3 := (l.getD (n + 3) 0)) (x4 := (l.getD (n + 4) 0)) (x5 := (l.getD (n + 5) 0)) hI) (by decide) (fun v1 h1 q1 => ?_)
  obtain ⟨I1, g1, y1, w1, r1⟩ := q1
  subst w1
  show EvP _ _ _ (1633, lwL i, [.int y1], h1) _
  refine te_pop (p2 := 1634) rfl rfl rfl ?_
  refine te_aload_n (p2 := 1635) rfl rfl rfl ?_
  refine tw_rd (p2 := 1640) 1 rfl rfl rfl rfl rfl rfl (by decide) hi (by omega) hb ?_
  refine tw_rd (p2 := 1645) 2 rfl rfl rfl rfl rfl rfl (by decide) hi (by omega) hb ?_
  refine tw_rd (p2 := 1650) 3 rfl rfl rfl rfl rfl rfl (by decide) hi (by omega) hb ?_
  refine tw_rd (p2 := 1655) 4 rfl rfl rfl rfl rfl rfl (by decide) hi (by omega) hb ?_
  refine tw_rd (p2 := 1660) 5 rfl rfl rfl rfl rfl rfl (by decide) hi (by omega) hb ?_
  refine tc_V (p2 := 1663) (i := 148) rfl rfl rfl rfl I1 rfl rfl rfl (c_X12_copy (x1 := (l.getD (n + 1) 0)) (x2 := (l.getD (n + 2) 0)) (x3 := (l.getD (n + 3) 0)) (x4 := (l.getD (n + 4) 0)) (x5 := (l.getD (n + 5) 0)) I1) (by decide) (fun v2 h2 q2 => ?_)
  obtain ⟨I2, g2, y2, w2, r2⟩ := q2
  subst w2
  show EvP _ _ _ (1663, lwL i, [.int y2], h2) _
  refine te_pop (p2 := 1664) rfl rfl rfl ?_
  refine te_goto rfl ?_
  exact kx h2 I2 (relc_copy (nn := n) (x1 := (l.getD (n + 1) 0)) (x2 := (l.getD (n + 2) 0)) (x3 := (l.getD (n + 3) 0)) (x4 := (l.getD (n + 4) 0)) (x5 := (l.getD (n + 5) 0)) (y1 := y1) (y2 := y2) (by omega) hI I1 I2 hr g1 g2 r1 r2)
set_option maxRecDepth 10000 in
set_option maxHeartbeats 2000000 in
theorem lq_people {l : List Int32} {n : Nat} {i : Int32} {h : im_H} {Q : Option Value → im_H → Prop} (hi : i.toInt = n) (hl : n + 6 ≤ l.length) (hb : l.length < 2147483648) (hI : tI h) (hN : l.length ≤ 3072) (hr : rel n h) (kx : ∀ h2, tI h2 → rel (n + 6) h2 → EvP (im_K1 l) 20 mL_law (1753, lwL i, [], h2) Q) : EvP (im_K1 l) 20 mL_law (1667, lwL i, [], h) Q := by
  refine te_aload_n (p2 := 1668) rfl rfl rfl ?_
  refine tw_rd (p2 := 1673) 1 rfl rfl rfl rfl rfl rfl (by decide) hi (by omega) hb ?_
  refine tw_rd (p2 := 1678) 2 rfl rfl rfl rfl rfl rfl (by decide) hi (by omega) hb ?_
  refine tw_rd (p2 := 1683) 3 rfl rfl rfl rfl rfl rfl (by decide) hi (by omega) hb ?_
  refine tw_rd (p2 := 1688) 4 rfl rfl rfl rfl rfl rfl (by decide) hi (by omega) hb ?_
  refine tc_V (p2 := 1691) (i := 0) rfl rfl rfl rfl hI rfl rfl rfl (c_X11_people (x1 := (l.getD (n + 1) 0)) (x2 := (l.getD (n + 2) 0)) (x3 := (l.getD (n + 3) 0)) (x4 := (l.getD (n + 4) 0)) hI) (by decide) (fun v1 h1 q1 => ?_)
  obtain ⟨I1, g1, y1, w1, r1⟩ := q1
  subst w1
  show EvP _ _ _ (1691, lwL i, [.int y1], h1) _
  refine te_pop (p2 := 1692) rfl rfl rfl ?_
  refine te_aload_n (p2 := 1693) rfl rfl rfl ?_
  refine tw_rd (p2 := 1698) 1 rfl rfl rfl rfl rfl rfl (by decide) hi (by omega) hb ?_
  refine tw_rd (p2 := 1703) 2 rfl rfl rfl rfl rfl rfl (by decide) hi (by omega) hb ?_
  refine tw_rd (p2 := 1708) 3 rfl rfl rfl rfl rfl rfl (by decide) hi (by omega) hb ?_
  refine tw_rd (p2 := 1713) 4 rfl rfl rfl rfl rfl rfl (by decide) hi (by omega) hb ?_
  refine tc_V (p2 := 1716) (i := 148) rfl rfl rfl rfl I1 rfl rfl rfl (c_X12_people (x1 := (l.getD (n + 1) 0)) (x2 := (l.getD (n + 2) 0)) (x3 := (l.getD (n + 3) 0)) (x4 := (l.getD (n + 4) 0)) I1) (by decide) (fun v2 h2 q2 => ?_)
  obtain ⟨I2, g2, y2, w2, r2⟩ := q2
  subst w2
  show EvP _ _ _ (1716, lwL i, [.int y2], h2) _
  refine te_pop (p2 := 1717) rfl rfl rfl ?_
  refine te_goto rfl ?_
  exact kx h2 I2 (relc_people (nn := n) (x1 := (l.getD (n + 1) 0)) (x2 := (l.getD (n + 2) 0)) (x3 := (l.getD (n + 3) 0)) (x4 := (l.getD (n + 4) 0)) (y1 := y1) (y2 := y2) (by omega) hI I1 I2 hr g1 g2 r1 r2)
set_option maxRecDepth 10000 in
set_option maxHeartbeats 2000000 in
theorem lq_taken {l : List Int32} {n : Nat} {i : Int32} {h : im_H} {Q : Option Value → im_H → Prop} (hi : i.toInt = n) (hl : n + 6 ≤ l.length) (hb : l.length < 2147483648) (hI : tI h) (kx : ∀ h1 h2, tI h2 → fr F_X11_taken h h1 → fr F_X12_taken h1 h2 → EvP (im_K1 l) 20 mL_law (1753, lwL i, [], h2) Q) : EvP (im_K1 l) 20 mL_law (1720, lwL i, [], h) Q := by
  refine te_aload_n (p2 := 1721) rfl rfl rfl ?_
  refine tw_rd (p2 := 1726) 1 rfl rfl rfl rfl rfl rfl (by decide) hi (by omega) hb ?_
  refine tw_rd (p2 := 1731) 2 rfl rfl rfl rfl rfl rfl (by decide) hi (by omega) hb ?_
  refine cV_mI (p2 := 1734) (i := 0) rfl rfl rfl rfl hI rfl rfl rfl (t_X11_taken (x1 := (l.getD (n + 1) 0)) (x2 := (l.getD (n + 2) 0)) hI) (by decide) (fun y1 h1 I1 g1 r1 => ?_)
  refine te_pop (p2 := 1735) rfl rfl rfl ?_
  refine te_aload_n (p2 := 1736) rfl rfl rfl ?_
  refine tw_rd (p2 := 1741) 1 rfl rfl rfl rfl rfl rfl (by decide) hi (by omega) hb ?_
  refine tw_rd (p2 := 1746) 2 rfl rfl rfl rfl rfl rfl (by decide) hi (by omega) hb ?_
  refine cV_mI (p2 := 1749) (i := 148) rfl rfl rfl rfl I1 rfl rfl rfl (t_X12_taken (x1 := (l.getD (n + 1) 0)) (x2 := (l.getD (n + 2) 0)) I1) (by decide) (fun y2 h2 I2 g2 r2 => ?_)
  refine te_pop (p2 := 1750) rfl rfl rfl ?_
  refine te_goto rfl ?_
  exact kx h1 h2 I2 g1 g2
