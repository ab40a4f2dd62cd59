theorem hh_sh : (im_shs hh)[0]? = some (3, 11, 14) ∧ (im_shs hh)[148]? = some (3, 12, 66) := by decide +kernel
set_option maxRecDepth 10000 in
set_option maxHeartbeats 2000000 in
theorem ww_ruin {l : List Int32} (hl : 0 + 6 ≤ l.length) (hb : l.length < 2147483648) : ∃ h2 : im_H, im_shs h2 = im_shs hh ∧ ∀ r, Ev (im_K1 l) 20 mL_law (1755, lwL 0, [], h2) r → Ev (im_K1 l) 20 mL_law (228, lwL 0, [], hh) r := by
  obtain ⟨v, h1, h2, hX, hM⟩ := q_ruin ((l.getD (0 + 1) 0)) ((l.getD (0 + 2) 0)) ((l.getD (0 + 3) 0))
  obtain ⟨y, rfl⟩ := ca_int (M := mX11_ruin) rfl rfl hX
  have s1 := ca_sh (by decide) hX
  have s2 := ca_sh (by decide) hM
  simp only at s1 s2
  obtain ⟨f1, o1, _⟩ := sh_obj (h := hh) hh_sh.1
  obtain ⟨f2, o2, _⟩ := sh_obj (h := h1) (by rw [s1]; exact hh_sh.2)
  exact ⟨h2, s2.trans s1, fun r kx => lo_ruin (n := 0) rfl hl hb o1 o2 hX hM kx⟩
set_option maxRecDepth 10000 in
set_option maxHeartbeats 2000000 in
theorem ww_person {l : List Int32} (hl : 0 + 6 ≤ l.length) (hb : l.length < 2147483648) : ∃ h2 : im_H, im_shs h2 = im_shs hh ∧ ∀ r, Ev (im_K1 l) 20 mL_law (1755, lwL 0, [], h2) r → Ev (im_K1 l) 20 mL_law (271, lwL 0, [], hh) r := by
  obtain ⟨v, h1, h2, hX, hM⟩ := q_person ((l.getD (0 + 1) 0)) ((l.getD (0 + 2) 0)) ((l.getD (0 + 3) 0)) ((l.getD (0 + 4) 0))
  obtain ⟨y, rfl⟩ := ca_int (M := mX11_person) rfl rfl hX
  have s1 := ca_sh (by decide) hX
  have s2 := ca_sh (by decide) hM
  simp only at s1 s2
  obtain ⟨f1, o1, _⟩ := sh_obj (h := hh) hh_sh.1
  obtain ⟨f2, o2, _⟩ := sh_obj (h := h1) (by rw [s1]; exact hh_sh.2)
  exact ⟨h2, s2.trans s1, fun r kx => lo_person (n := 0) rfl hl hb o1 o2 hX hM kx⟩
set_option maxRecDepth 10000 in
set_option maxHeartbeats 2000000 in
theorem ww_moves {l : List Int32} (hl : 0 + 6 ≤ l.length) (hb : l.length < 2147483648) : ∃ h2 : im_H, im_shs h2 = im_shs hh ∧ ∀ r, Ev (im_K1 l) 20 mL_law (1755, lwL 0, [], h2) r → Ev (im_K1 l) 20 mL_law (324, lwL 0, [], hh) r := by
  obtain ⟨v, h1, h2, hX, hM⟩ := q_moves ((l.getD (0 + 1) 0)) ((l.getD (0 + 2) 0))
  obtain ⟨y, rfl⟩ := ca_int (M := mX11_moves) rfl rfl hX
  have s1 := ca_sh (by decide) hX
  have s2 := ca_sh (by decide) hM
  simp only at s1 s2
  obtain ⟨f1, o1, _⟩ := sh_obj (h := hh) hh_sh.1
  obtain ⟨f2, o2, _⟩ := sh_obj (h := h1) (by rw [s1]; exact hh_sh.2)
  exact ⟨h2, s2.trans s1, fun r kx => lo_moves (n := 0) rfl hl hb o1 o2 hX hM kx⟩
set_option maxRecDepth 10000 in
set_option maxHeartbeats 2000000 in
theorem ww_wall {l : List Int32} (hl : 0 + 6 ≤ l.length) (hb : l.length < 2147483648) : ∃ h2 : im_H, im_shs h2 = im_shs hh ∧ ∀ r, Ev (im_K1 l) 20 mL_law (1755, lwL 0, [], h2) r → Ev (im_K1 l) 20 mL_law (357, lwL 0, [], hh) r := by
  obtain ⟨v, h1, h2, hX, hM⟩ := q_wall ((l.getD (0 + 1) 0)) ((l.getD (0 + 2) 0)) ((l.getD (0 + 3) 0))
  obtain ⟨y, rfl⟩ := ca_int (M := mX11_wall) rfl rfl hX
  have s1 := ca_sh (by decide) hX
  have s2 := ca_sh (by decide) hM
  simp only at s1 s2
  obtain ⟨f1, o1, _⟩ := sh_obj (h := hh) hh_sh.1
  obtain ⟨f2, o2, _⟩ := sh_obj (h := h1) (by rw [s1]; exact hh_sh.2)
  exact ⟨h2, s2.trans s1, fun r kx => lo_wall (n := 0) rfl hl hb o1 o2 hX hM kx⟩
set_option maxRecDepth 10000 in
set_option maxHeartbeats 2000000 in
theorem ww_weather {l : List Int32} (hl : 0 + 6 ≤ l.length) (hb : l.length < 2147483648) : ∃ h2 : im_H, im_shs h2 = im_shs hh ∧ ∀ r, Ev (im_K1 l) 20 mL_law (1755, lwL 0, [], h2) r → Ev (im_K1 l) 20 mL_law (400, lwL 0, [], hh) r := by
  obtain ⟨v, h1, h2, hX, hM⟩ := q_weather ((l.getD (0 + 1) 0)) ((l.getD (0 + 2) 0))
  obtain ⟨y, rfl⟩ := ca_int (M := mX11_weather) rfl rfl hX
  have s1 := ca_sh (by decide) hX
  have s2 := ca_sh (by decide) hM
  simp only at s1 s2
  obtain ⟨f1, o1, _⟩ := sh_obj (h := hh) hh_sh.1
  obtain ⟨f2, o2, _⟩ := sh_obj (h := h1) (by rw [s1]; exact hh_sh.2)
  exact ⟨h2, s2.trans s1, fun r kx => lo_weather (n := 0) rfl hl hb o1 o2 hX hM kx⟩
set_option maxRecDepth 10000 in
set_option maxHeartbeats 2000000 in
theorem ww_tip {l : List Int32} (hl : 0 + 6 ≤ l.length) (hb : l.length < 2147483648) : ∃ h2 : im_H, im_shs h2 = im_shs hh ∧ ∀ r, Ev (im_K1 l) 20 mL_law (1755, lwL 0, [], h2) r → Ev (im_K1 l) 20 mL_law (433, lwL 0, [], hh) r := by
  obtain ⟨v, h1, h2, hX, hM⟩ := q_tip ((l.getD (0 + 1) 0))
  obtain ⟨y, rfl⟩ := ca_int (M := mX11_tip) rfl rfl hX
  have s1 := ca_sh (by decide) hX
  have s2 := ca_sh (by decide) hM
  simp only at s1 s2
  obtain ⟨f1, o1, _⟩ := sh_obj (h := hh) hh_sh.1
  obtain ⟨f2, o2, _⟩ := sh_obj (h := h1) (by rw [s1]; exact hh_sh.2)
  exact ⟨h2, s2.trans s1, fun r kx => lo_tip (n := 0) rfl hl hb o1 o2 hX hM kx⟩
set_option maxRecDepth 10000 in
set_option maxHeartbeats 2000000 in
theorem ww_row {l : List Int32} (hl : 0 + 6 ≤ l.length) (hb : l.length < 2147483648) : ∃ h2 : im_H, im_shs h2 = im_shs hh ∧ ∀ r, Ev (im_K1 l) 20 mL_law (1755, lwL 0, [], h2) r → Ev (im_K1 l) 20 mL_law (456, lwL 0, [], hh) r := by
  obtain ⟨v, h1, h2, hX, hM⟩ := q_row ((l.getD (0 + 1) 0)) ((l.getD (0 + 2) 0)) ((l.getD (0 + 3) 0)) ((l.getD (0 + 4) 0))
  obtain ⟨y, rfl⟩ := ca_int (M := mX11_row) rfl rfl hX
  have s1 := ca_sh (by decide) hX
  have s2 := ca_sh (by decide) hM
  simp only at s1 s2
  obtain ⟨f1, o1, _⟩ := sh_obj (h := hh) hh_sh.1
  obtain ⟨f2, o2, _⟩ := sh_obj (h := h1) (by rw [s1]; exact hh_sh.2)
  exact ⟨h2, s2.trans s1, fun r kx => lo_row (n := 0) rfl hl hb o1 o2 hX hM kx⟩
set_option maxRecDepth 10000 in
set_option maxHeartbeats 2000000 in
theorem ww_rail {l : List Int32} (hl : 0 + 6 ≤ l.length) (hb : l.length < 2147483648) : ∃ h2 : im_H, im_shs h2 = im_shs hh ∧ ∀ r, Ev (im_K1 l) 20 mL_law (1755, lwL 0, [], h2) r → Ev (im_K1 l) 20 mL_law (509, lwL 0, [], hh) r := by
  obtain ⟨v, h1, h2, hX, hM⟩ := q_rail ((l.getD (0 + 1) 0)) ((l.getD (0 + 2) 0)) ((l.getD (0 + 3) 0))
  obtain ⟨y, rfl⟩ := ca_int (M := mX11_rail) rfl rfl hX
  have s1 := ca_sh (by decide) hX
  have s2 := ca_sh (by decide) hM
  simp only at s1 s2
  obtain ⟨f1, o1, _⟩ := sh_obj (h := hh) hh_sh.1
  obtain ⟨f2, o2, _⟩ := sh_obj (h := h1) (by rw [s1]; exact hh_sh.2)
  exact ⟨h2, s2.trans s1, fun r kx => lo_rail (n := 0) rfl hl hb o1 o2 hX hM kx⟩
set_option maxRecDepth 10000 in
set_option maxHeartbeats 2000000 in
theorem ww_room {l : List Int32} (hl : 0 + 6 ≤ l.length) (hb : l.length < 2147483648) : ∃ h2 : im_H, im_shs h2 = im_shs hh ∧ ∀ r, Ev (im_K1 l) 20 mL_law (1755, lwL 0, [], h2) r → Ev (im_K1 l) 20 mL_law (552, lwL 0, [], hh) r := by
  obtain ⟨v, h1, h2, hX, hM⟩ := q_room ((l.getD (0 + 1) 0)) ((l.getD (0 + 2) 0)) ((l.getD (0 + 3) 0)) ((l.getD (0 + 4) 0))
  obtain ⟨y, rfl⟩ := ca_int (M := mX11_room) rfl rfl hX
  have s1 := ca_sh (by decide) hX
  have s2 := ca_sh (by decide) hM
  simp only at s1 s2
  obtain ⟨f1, o1, _⟩ := sh_obj (h := hh) hh_sh.1
  obtain ⟨f2, o2, _⟩ := sh_obj (h := h1) (by rw [s1]; exact hh_sh.2)
  exact ⟨h2, s2.trans s1, fun r kx => lo_room (n := 0) rfl hl hb o1 o2 hX hM kx⟩
set_option maxRecDepth 10000 in
set_option maxHeartbeats 2000000 in
theorem ww_feed {l : List Int32} (hl : 0 + 6 ≤ l.length) (hb : l.length < 2147483648) : ∃ h2 : im_H, im_shs h2 = im_shs hh ∧ ∀ r, Ev (im_K1 l) 20 mL_law (1755, lwL 0, [], h2) r → Ev (im_K1 l) 20 mL_law (605, lwL 0, [], hh) r := by
  obtain ⟨v, h1, h2, hX, hM⟩ := q_feed ((((Int32.toInt64 (l.getD (0 + 1) 0)) <<< (Int32.toInt64 32 &&& 63)) ||| ((Int32.toInt64 (l.getD (0 + 2) 0)) &&& 4294967295))) ((l.getD (0 + 3) 0))
  obtain ⟨y, rfl⟩ := ca_int (M := mX11_feed) rfl rfl hX
  have s1 := ca_sh (by decide) hX
  have s2 := ca_sh (by decide) hM
  simp only at s1 s2
  obtain ⟨f1, o1, _⟩ := sh_obj (h := hh) hh_sh.1
  obtain ⟨f2, o2, _⟩ := sh_obj (h := h1) (by rw [s1]; exact hh_sh.2)
  exact ⟨h2, s2.trans s1, fun r kx => lo_feed (n := 0) rfl hl hb o1 o2 hX hM kx⟩
set_option maxRecDepth 10000 in
set_option maxHeartbeats 2000000 in
theorem ww_order {l : List Int32} (hl : 0 + 6 ≤ l.length) (hb : l.length < 2147483648) : ∃ h2 : im_H, im_shs h2 = im_shs hh ∧ ∀ r, Ev (im_K1 l) 20 mL_law (1755, lwL 0, [], h2) r → Ev (im_K1 l) 20 mL_law (668, lwL 0, [], hh) r := by
  obtain ⟨v, h1, h2, hX, hM⟩ := q_order
  obtain ⟨y, rfl⟩ := ca_int (M := mX11_order) rfl rfl hX
  have s1 := ca_sh (by decide) hX
  have s2 := ca_sh (by decide) hM
  simp only at s1 s2
  obtain ⟨f1, o1, _⟩ := sh_obj (h := hh) hh_sh.1
  obtain ⟨f2, o2, _⟩ := sh_obj (h := h1) (by rw [s1]; exact hh_sh.2)
  exact ⟨h2, s2.trans s1, fun r kx => lo_order (n := 0) rfl hl hb o1 o2 hX hM kx⟩
set_option maxRecDepth 10000 in
set_option maxHeartbeats 2000000 in
theorem ww_force {l : List Int32} (hl : 0 + 6 ≤ l.length) (hb : l.length < 2147483648) : ∃ h2 : im_H, im_shs h2 = im_shs hh ∧ ∀ r, Ev (im_K1 l) 20 mL_law (1755, lwL 0, [], h2) r → Ev (im_K1 l) 20 mL_law (681, lwL 0, [], hh) r := by
  obtain ⟨v, h1, h2, hX, hM⟩ := q_force ((l.getD (0 + 1) 0))
  obtain ⟨y, rfl⟩ := ca_int (M := mX11_force) rfl rfl hX
  have s1 := ca_sh (by decide) hX
  have s2 := ca_sh (by decide) hM
  simp only at s1 s2
  obtain ⟨f1, o1, _⟩ := sh_obj (h := hh) hh_sh.1
  obtain ⟨f2, o2, _⟩ := sh_obj (h := h1) (by rw [s1]; exact hh_sh.2)
  exact ⟨h2, s2.trans s1, fun r kx => lo_force (n := 0) rfl hl hb o1 o2 hX hM kx⟩
set_option maxRecDepth 10000 in
set_option maxHeartbeats 2000000 in
theorem ww_says {l : List Int32} (hl : 0 + 6 ≤ l.length) (hb : l.length < 2147483648) : ∃ h2 : im_H, im_shs h2 = im_shs hh ∧ ∀ r, Ev (im_K1 l) 20 mL_law (1755, lwL 0, [], h2) r → Ev (im_K1 l) 20 mL_law (704, lwL 0, [], hh) r := by
  obtain ⟨v, h1, h2, hX, hM⟩ := q_says ((l.getD (0 + 1) 0)) ((l.getD (0 + 2) 0))
  obtain ⟨y, rfl⟩ := ca_int (M := mX11_says) rfl rfl hX
  have s1 := ca_sh (by decide) hX
  have s2 := ca_sh (by decide) hM
  simp only at s1 s2
  obtain ⟨f1, o1, _⟩ := sh_obj (h := hh) hh_sh.1
  obtain ⟨f2, o2, _⟩ := sh_obj (h := h1) (by rw [s1]; exact hh_sh.2)
  exact ⟨h2, s2.trans s1, fun r kx => lo_says (n := 0) rfl hl hb o1 o2 hX hM kx⟩
set_option maxRecDepth 10000 in
set_option maxHeartbeats 2000000 in
theorem ww_run {l : List Int32} (hl : 0 + 6 ≤ l.length) (hb : l.length < 2147483648) : ∃ h2 : im_H, im_shs h2 = im_shs hh ∧ ∀ r, Ev (im_K1 l) 20 mL_law (1755, lwL 0, [], h2) r → Ev (im_K1 l) 20 mL_law (737, lwL 0, [], hh) r := by
  obtain ⟨v, h1, h2, hX, hM⟩ := q_run ((l.getD (0 + 1) 0))
  obtain ⟨y, rfl⟩ := ca_int (M := mX11_run) rfl rfl hX
  have s1 := ca_sh (by decide) hX
  have s2 := ca_sh (by decide) hM
  simp only at s1 s2
  obtain ⟨f1, o1, _⟩ := sh_obj (h := hh) hh_sh.1
  obtain ⟨f2, o2, _⟩ := sh_obj (h := h1) (by rw [s1]; exact hh_sh.2)
  exact ⟨h2, s2.trans s1, fun r kx => lo_run (n := 0) rfl hl hb o1 o2 hX hM kx⟩
set_option maxRecDepth 10000 in
set_option maxHeartbeats 2000000 in
theorem ww_cellTold {l : List Int32} (hl : 0 + 6 ≤ l.length) (hb : l.length < 2147483648) : ∃ h2 : im_H, im_shs h2 = im_shs hh ∧ ∀ r, Ev (im_K1 l) 20 mL_law (1755, lwL 0, [], h2) r → Ev (im_K1 l) 20 mL_law (760, lwL 0, [], hh) r := by
  obtain ⟨v, h1, h2, hX, hM⟩ := q_cellTold ((l.getD (0 + 1) 0)) ((l.getD (0 + 2) 0))
  obtain ⟨y, rfl⟩ := ca_int (M := mX11_cellTold) rfl rfl hX
  have s1 := ca_sh (by decide) hX
  have s2 := ca_sh (by decide) hM
  simp only at s1 s2
  obtain ⟨f1, o1, _⟩ := sh_obj (h := hh) hh_sh.1
  obtain ⟨f2, o2, _⟩ := sh_obj (h := h1) (by rw [s1]; exact hh_sh.2)
  exact ⟨h2, s2.trans s1, fun r kx => lo_cellTold (n := 0) rfl hl hb o1 o2 hX hM kx⟩
set_option maxRecDepth 10000 in
set_option maxHeartbeats 2000000 in
theorem ww_kindTold {l : List Int32} (hl : 0 + 6 ≤ l.length) (hb : l.length < 2147483648) : ∃ h2 : im_H, im_shs h2 = im_shs hh ∧ ∀ r, Ev (im_K1 l) 20 mL_law (1755, lwL 0, [], h2) r → Ev (im_K1 l) 20 mL_law (793, lwL 0, [], hh) r := by
  obtain ⟨v, h1, h2, hX, hM⟩ := q_kindTold ((l.getD (0 + 1) 0)) ((l.getD (0 + 2) 0))
  obtain ⟨y, rfl⟩ := ca_int (M := mX11_kindTold) rfl rfl hX
  have s1 := ca_sh (by decide) hX
  have s2 := ca_sh (by decide) hM
  simp only at s1 s2
  obtain ⟨f1, o1, _⟩ := sh_obj (h := hh) hh_sh.1
  obtain ⟨f2, o2, _⟩ := sh_obj (h := h1) (by rw [s1]; exact hh_sh.2)
  exact ⟨h2, s2.trans s1, fun r kx => lo_kindTold (n := 0) rfl hl hb o1 o2 hX hM kx⟩
set_option maxRecDepth 10000 in
set_option maxHeartbeats 2000000 in
theorem ww_personTold {l : List Int32} (hl : 0 + 6 ≤ l.length) (hb : l.length < 2147483648) : ∃ h2 : im_H, im_shs h2 = im_shs hh ∧ ∀ r, Ev (im_K1 l) 20 mL_law (1755, lwL 0, [], h2) r → Ev (im_K1 l) 20 mL_law (826, lwL 0, [], hh) r := by
  obtain ⟨v, h1, h2, hX, hM⟩ := q_personTold ((l.getD (0 + 1) 0)) ((l.getD (0 + 2) 0))
  obtain ⟨y, rfl⟩ := ca_int (M := mX11_personTold) rfl rfl hX
  have s1 := ca_sh (by decide) hX
  have s2 := ca_sh (by decide) hM
  simp only at s1 s2
  obtain ⟨f1, o1, _⟩ := sh_obj (h := hh) hh_sh.1
  obtain ⟨f2, o2, _⟩ := sh_obj (h := h1) (by rw [s1]; exact hh_sh.2)
  exact ⟨h2, s2.trans s1, fun r kx => lo_personTold (n := 0) rfl hl hb o1 o2 hX hM kx⟩
set_option maxRecDepth 10000 in
set_option maxHeartbeats 2000000 in
theorem ww_rowTold {l : List Int32} (hl : 0 + 6 ≤ l.length) (hb : l.length < 2147483648) : ∃ h2 : im_H, im_shs h2 = im_shs hh ∧ ∀ r, Ev (im_K1 l) 20 mL_law (1755, lwL 0, [], h2) r → Ev (im_K1 l) 20 mL_law (859, lwL 0, [], hh) r := by
  obtain ⟨v, h1, h2, hX, hM⟩ := q_rowTold ((l.getD (0 + 1) 0)) ((l.getD (0 + 2) 0))
  obtain ⟨y, rfl⟩ := ca_int (M := mX11_rowTold) rfl rfl hX
  have s1 := ca_sh (by decide) hX
  have s2 := ca_sh (by decide) hM
  simp only at s1 s2
  obtain ⟨f1, o1, _⟩ := sh_obj (h := hh) hh_sh.1
  obtain ⟨f2, o2, _⟩ := sh_obj (h := h1) (by rw [s1]; exact hh_sh.2)
  exact ⟨h2, s2.trans s1, fun r kx => lo_rowTold (n := 0) rfl hl hb o1 o2 hX hM kx⟩
set_option maxRecDepth 10000 in
set_option maxHeartbeats 2000000 in
theorem ww_railTold {l : List Int32} (hl : 0 + 6 ≤ l.length) (hb : l.length < 2147483648) : ∃ h2 : im_H, im_shs h2 = im_shs hh ∧ ∀ r, Ev (im_K1 l) 20 mL_law (1755, lwL 0, [], h2) r → Ev (im_K1 l) 20 mL_law (892, lwL 0, [], hh) r := by
  obtain ⟨v, h1, h2, hX, hM⟩ := q_railTold ((l.getD (0 + 1) 0)) ((l.getD (0 + 2) 0))
  obtain ⟨y, rfl⟩ := ca_int (M := mX11_railTold) rfl rfl hX
  have s1 := ca_sh (by decide) hX
  have s2 := ca_sh (by decide) hM
  simp only at s1 s2
  obtain ⟨f1, o1, _⟩ := sh_obj (h := hh) hh_sh.1
  obtain ⟨f2, o2, _⟩ := sh_obj (h := h1) (by rw [s1]; exact hh_sh.2)
  exact ⟨h2, s2.trans s1, fun r kx => lo_railTold (n := 0) rfl hl hb o1 o2 hX hM kx⟩
set_option maxRecDepth 10000 in
set_option maxHeartbeats 2000000 in
theorem ww_wallTold {l : List Int32} (hl : 0 + 6 ≤ l.length) (hb : l.length < 2147483648) : ∃ h2 : im_H, im_shs h2 = im_shs hh ∧ ∀ r, Ev (im_K1 l) 20 mL_law (1755, lwL 0, [], h2) r → Ev (im_K1 l) 20 mL_law (925, lwL 0, [], hh) r := by
  obtain ⟨v, h1, h2, hX, hM⟩ := q_wallTold ((l.getD (0 + 1) 0)) ((l.getD (0 + 2) 0))
  obtain ⟨y, rfl⟩ := ca_int (M := mX11_wallTold) rfl rfl hX
  have s1 := ca_sh (by decide) hX
  have s2 := ca_sh (by decide) hM
  simp only at s1 s2
  obtain ⟨f1, o1, _⟩ := sh_obj (h := hh) hh_sh.1
  obtain ⟨f2, o2, _⟩ := sh_obj (h := h1) (by rw [s1]; exact hh_sh.2)
  exact ⟨h2, s2.trans s1, fun r kx => lo_wallTold (n := 0) rfl hl hb o1 o2 hX hM kx⟩
set_option maxRecDepth 10000 in
set_option maxHeartbeats 2000000 in
theorem ww_count {l : List Int32} (hl : 0 + 6 ≤ l.length) (hb : l.length < 2147483648) : ∃ h2 : im_H, im_shs h2 = im_shs hh ∧ ∀ r, Ev (im_K1 l) 20 mL_law (1755, lwL 0, [], h2) r → Ev (im_K1 l) 20 mL_law (958, lwL 0, [], hh) r := by
  obtain ⟨v, h1, h2, hX, hM⟩ := q_count ((l.getD (0 + 1) 0))
  obtain ⟨y, rfl⟩ := ca_int (M := mX11_count) rfl rfl hX
  have s1 := ca_sh (by decide) hX
  have s2 := ca_sh (by decide) hM
  simp only at s1 s2
  obtain ⟨f1, o1, _⟩ := sh_obj (h := hh) hh_sh.1
  obtain ⟨f2, o2, _⟩ := sh_obj (h := h1) (by rw [s1]; exact hh_sh.2)
  exact ⟨h2, s2.trans s1, fun r kx => lo_count (n := 0) rfl hl hb o1 o2 hX hM kx⟩
set_option maxRecDepth 10000 in
set_option maxHeartbeats 2000000 in
theorem ww_pull {l : List Int32} (hl : 0 + 6 ≤ l.length) (hb : l.length < 2147483648) : ∃ h2 : im_H, im_shs h2 = im_shs hh ∧ ∀ r, Ev (im_K1 l) 20 mL_law (1755, lwL 0, [], h2) r → Ev (im_K1 l) 20 mL_law (981, lwL 0, [], hh) r := by
  obtain ⟨v, h1, h2, hX, hM⟩ := q_pull ((l.getD (0 + 1) 0))
  obtain ⟨y, rfl⟩ := ca_int (M := mX11_pull) rfl rfl hX
  have s1 := ca_sh (by decide) hX
  have s2 := ca_sh (by decide) hM
  simp only at s1 s2
  obtain ⟨f1, o1, _⟩ := sh_obj (h := hh) hh_sh.1
  obtain ⟨f2, o2, _⟩ := sh_obj (h := h1) (by rw [s1]; exact hh_sh.2)
  exact ⟨h2, s2.trans s1, fun r kx => lo_pull (n := 0) rfl hl hb o1 o2 hX hM kx⟩
set_option maxRecDepth 10000 in
set_option maxHeartbeats 2000000 in
theorem ww_pulls {l : List Int32} (hl : 0 + 6 ≤ l.length) (hb : l.length < 2147483648) : ∃ h2 : im_H, im_shs h2 = im_shs hh ∧ ∀ r, Ev (im_K1 l) 20 mL_law (1755, lwL 0, [], h2) r → Ev (im_K1 l) 20 mL_law (1004, lwL 0, [], hh) r := by
  obtain ⟨v, h1, h2, hX, hM⟩ := q_pulls ((l.getD (0 + 1) 0))
  obtain ⟨y, rfl⟩ := ca_int (M := mX11_pulls) rfl rfl hX
  have s1 := ca_sh (by decide) hX
  have s2 := ca_sh (by decide) hM
  simp only at s1 s2
  obtain ⟨f1, o1, _⟩ := sh_obj (h := hh) hh_sh.1
  obtain ⟨f2, o2, _⟩ := sh_obj (h := h1) (by rw [s1]; exact hh_sh.2)
  exact ⟨h2, s2.trans s1, fun r kx => lo_pulls (n := 0) rfl hl hb o1 o2 hX hM kx⟩
set_option maxRecDepth 10000 in
set_option maxHeartbeats 2000000 in
theorem ww_pullTold {l : List Int32} (hl : 0 + 6 ≤ l.length) (hb : l.length < 2147483648) : ∃ h2 : im_H, im_shs h2 = im_shs hh ∧ ∀ r, Ev (im_K1 l) 20 mL_law (1755, lwL 0, [], h2) r → Ev (im_K1 l) 20 mL_law (1027, lwL 0, [], hh) r := by
  obtain ⟨v, h1, h2, hX, hM⟩ := q_pullTold ((l.getD (0 + 1) 0))
  obtain ⟨y, rfl⟩ := ca_int (M := mX11_pullTold) rfl rfl hX
  have s1 := ca_sh (by decide) hX
  have s2 := ca_sh (by decide) hM
  simp only at s1 s2
  obtain ⟨f1, o1, _⟩ := sh_obj (h := hh) hh_sh.1
  obtain ⟨f2, o2, _⟩ := sh_obj (h := h1) (by rw [s1]; exact hh_sh.2)
  exact ⟨h2, s2.trans s1, fun r kx => lo_pullTold (n := 0) rfl hl hb o1 o2 hX hM kx⟩
set_option maxRecDepth 10000 in
set_option maxHeartbeats 2000000 in
theorem ww_mends {l : List Int32} (hl : 0 + 6 ≤ l.length) (hb : l.length < 2147483648) : ∃ h2 : im_H, im_shs h2 = im_shs hh ∧ ∀ r, Ev (im_K1 l) 20 mL_law (1755, lwL 0, [], h2) r → Ev (im_K1 l) 20 mL_law (1050, lwL 0, [], hh) r := by
  obtain ⟨v, h1, h2, hX, hM⟩ := q_mends ((l.getD (0 + 1) 0))
  obtain ⟨y, rfl⟩ := ca_int (M := mX11_mends) rfl rfl hX
  have s1 := ca_sh (by decide) hX
  have s2 := ca_sh (by decide) hM
  simp only at s1 s2
  obtain ⟨f1, o1, _⟩ := sh_obj (h := hh) hh_sh.1
  obtain ⟨f2, o2, _⟩ := sh_obj (h := h1) (by rw [s1]; exact hh_sh.2)
  exact ⟨h2, s2.trans s1, fun r kx => lo_mends (n := 0) rfl hl hb o1 o2 hX hM kx⟩
set_option maxRecDepth 10000 in
set_option maxHeartbeats 2000000 in
theorem ww_mendTold {l : List Int32} (hl : 0 + 6 ≤ l.length) (hb : l.length < 2147483648) : ∃ h2 : im_H, im_shs h2 = im_shs hh ∧ ∀ r, Ev (im_K1 l) 20 mL_law (1755, lwL 0, [], h2) r → Ev (im_K1 l) 20 mL_law (1073, lwL 0, [], hh) r := by
  obtain ⟨v, h1, h2, hX, hM⟩ := q_mendTold
  obtain ⟨y, rfl⟩ := ca_int (M := mX11_mendTold) rfl rfl hX
  have s1 := ca_sh (by decide) hX
  have s2 := ca_sh (by decide) hM
  simp only at s1 s2
  obtain ⟨f1, o1, _⟩ := sh_obj (h := hh) hh_sh.1
  obtain ⟨f2, o2, _⟩ := sh_obj (h := h1) (by rw [s1]; exact hh_sh.2)
  exact ⟨h2, s2.trans s1, fun r kx => lo_mendTold (n := 0) rfl hl hb o1 o2 hX hM kx⟩
set_option maxRecDepth 10000 in
set_option maxHeartbeats 2000000 in
theorem ww_mend {l : List Int32} (hl : 0 + 6 ≤ l.length) (hb : l.length < 2147483648) : ∃ h2 : im_H, im_shs h2 = im_shs hh ∧ ∀ r, Ev (im_K1 l) 20 mL_law (1755, lwL 0, [], h2) r → Ev (im_K1 l) 20 mL_law (1086, lwL 0, [], hh) r := by
  obtain ⟨v, h1, h2, hX, hM⟩ := q_mend ((l.getD (0 + 1) 0))
  obtain ⟨y, rfl⟩ := ca_int (M := mX11_mend) rfl rfl hX
  have s1 := ca_sh (by decide) hX
  have s2 := ca_sh (by decide) hM
  simp only at s1 s2
  obtain ⟨f1, o1, _⟩ := sh_obj (h := hh) hh_sh.1
  obtain ⟨f2, o2, _⟩ := sh_obj (h := h1) (by rw [s1]; exact hh_sh.2)
  exact ⟨h2, s2.trans s1, fun r kx => lo_mend (n := 0) rfl hl hb o1 o2 hX hM kx⟩
set_option maxRecDepth 10000 in
set_option maxHeartbeats 2000000 in
theorem ww_roomTold {l : List Int32} (hl : 0 + 6 ≤ l.length) (hb : l.length < 2147483648) : ∃ h2 : im_H, im_shs h2 = im_shs hh ∧ ∀ r, Ev (im_K1 l) 20 mL_law (1755, lwL 0, [], h2) r → Ev (im_K1 l) 20 mL_law (1109, lwL 0, [], hh) r := by
  obtain ⟨v, h1, h2, hX, hM⟩ := q_roomTold ((l.getD (0 + 1) 0)) ((l.getD (0 + 2) 0))
  obtain ⟨y, rfl⟩ := ca_int (M := mX11_roomTold) rfl rfl hX
  have s1 := ca_sh (by decide) hX
  have s2 := ca_sh (by decide) hM
  simp only at s1 s2
  obtain ⟨f1, o1, _⟩ := sh_obj (h := hh) hh_sh.1
  obtain ⟨f2, o2, _⟩ := sh_obj (h := h1) (by rw [s1]; exact hh_sh.2)
  exact ⟨h2, s2.trans s1, fun r kx => lo_roomTold (n := 0) rfl hl hb o1 o2 hX hM kx⟩
set_option maxRecDepth 10000 in
set_option maxHeartbeats 2000000 in
theorem ww_raid {l : List Int32} (hl : 0 + 6 ≤ l.length) (hb : l.length < 2147483648) : ∃ h2 : im_H, im_shs h2 = im_shs hh ∧ ∀ r, Ev (im_K1 l) 20 mL_law (1755, lwL 0, [], h2) r → Ev (im_K1 l) 20 mL_law (1142, lwL 0, [], hh) r := by
  obtain ⟨v, h1, h2, hX, hM⟩ := q_raid ((l.getD (0 + 1) 0)) ((l.getD (0 + 2) 0)) ((l.getD (0 + 3) 0)) ((l.getD (0 + 4) 0))
  obtain ⟨y, rfl⟩ := ca_int (M := mX11_raid) rfl rfl hX
  have s1 := ca_sh (by decide) hX
  have s2 := ca_sh (by decide) hM
  simp only at s1 s2
  obtain ⟨f1, o1, _⟩ := sh_obj (h := hh) hh_sh.1
  obtain ⟨f2, o2, _⟩ := sh_obj (h := h1) (by rw [s1]; exact hh_sh.2)
  exact ⟨h2, s2.trans s1, fun r kx => lo_raid (n := 0) rfl hl hb o1 o2 hX hM kx⟩
set_option maxRecDepth 10000 in
set_option maxHeartbeats 2000000 in
theorem ww_probe {l : List Int32} (hl : 0 + 6 ≤ l.length) (hb : l.length < 2147483648) : ∃ h2 : im_H, im_shs h2 = im_shs hh ∧ ∀ r, Ev (im_K1 l) 20 mL_law (1755, lwL 0, [], h2) r → Ev (im_K1 l) 20 mL_law (1195, lwL 0, [], hh) r := by
  obtain ⟨v, h1, h2, hX, hM⟩ := q_probe ((l.getD (0 + 1) 0)) ((l.getD (0 + 2) 0))
  obtain ⟨y, rfl⟩ := ca_int (M := mX11_probe) rfl rfl hX
  have s1 := ca_sh (by decide) hX
  have s2 := ca_sh (by decide) hM
  simp only at s1 s2
  obtain ⟨f1, o1, _⟩ := sh_obj (h := hh) hh_sh.1
  obtain ⟨f2, o2, _⟩ := sh_obj (h := h1) (by rw [s1]; exact hh_sh.2)
  exact ⟨h2, s2.trans s1, fun r kx => lo_probe (n := 0) rfl hl hb o1 o2 hX hM kx⟩
set_option maxRecDepth 10000 in
set_option maxHeartbeats 2000000 in
theorem ww_likely {l : List Int32} (hl : 0 + 6 ≤ l.length) (hb : l.length < 2147483648) : ∃ h2 : im_H, im_shs h2 = im_shs hh ∧ ∀ r, Ev (im_K1 l) 20 mL_law (1755, lwL 0, [], h2) r → Ev (im_K1 l) 20 mL_law (1228, lwL 0, [], hh) r := by
  obtain ⟨v, h1, h2, hX, hM⟩ := q_likely ((l.getD (0 + 1) 0)) ((l.getD (0 + 2) 0))
  obtain ⟨y, rfl⟩ := ca_long (M := mX11_likely) rfl rfl hX
  have s1 := ca_sh (by decide) hX
  have s2 := ca_sh (by decide) hM
  simp only at s1 s2
  obtain ⟨f1, o1, _⟩ := sh_obj (h := hh) hh_sh.1
  obtain ⟨f2, o2, _⟩ := sh_obj (h := h1) (by rw [s1]; exact hh_sh.2)
  exact ⟨h2, s2.trans s1, fun r kx => lo_likely (n := 0) rfl hl hb o1 o2 hX hM kx⟩
set_option maxRecDepth 10000 in
set_option maxHeartbeats 2000000 in
theorem ww_next {l : List Int32} (hl : 0 + 6 ≤ l.length) (hb : l.length < 2147483648) : ∃ h2 : im_H, im_shs h2 = im_shs hh ∧ ∀ r, Ev (im_K1 l) 20 mL_law (1755, lwL 0, [], h2) r → Ev (im_K1 l) 20 mL_law (1262, lwL 0, [], hh) r := by
  obtain ⟨v, h1, h2, hX, hM⟩ := q_next
  obtain ⟨y, rfl⟩ := ca_int (M := mX11_next) rfl rfl hX
  have s1 := ca_sh (by decide) hX
  have s2 := ca_sh (by decide) hM
  simp only at s1 s2
  obtain ⟨f1, o1, _⟩ := sh_obj (h := hh) hh_sh.1
  obtain ⟨f2, o2, _⟩ := sh_obj (h := h1) (by rw [s1]; exact hh_sh.2)
  exact ⟨h2, s2.trans s1, fun r kx => lo_next (n := 0) rfl hl hb o1 o2 hX hM kx⟩
set_option maxRecDepth 10000 in
set_option maxHeartbeats 2000000 in
theorem ww_paper {l : List Int32} (hl : 0 + 6 ≤ l.length) (hb : l.length < 2147483648) : ∃ h2 : im_H, im_shs h2 = im_shs hh ∧ ∀ r, Ev (im_K1 l) 20 mL_law (1755, lwL 0, [], h2) r → Ev (im_K1 l) 20 mL_law (1275, lwL 0, [], hh) r := by
  obtain ⟨v, h1, h2, hX, hM⟩ := q_paper ((l.getD (0 + 1) 0)) ((l.getD (0 + 2) 0)) ((l.getD (0 + 3) 0))
  obtain ⟨y, rfl⟩ := ca_int (M := mX11_paper) rfl rfl hX
  have s1 := ca_sh (by decide) hX
  have s2 := ca_sh (by decide) hM
  simp only at s1 s2
  obtain ⟨f1, o1, _⟩ := sh_obj (h := hh) hh_sh.1
  obtain ⟨f2, o2, _⟩ := sh_obj (h := h1) (by rw [s1]; exact hh_sh.2)
  exact ⟨h2, s2.trans s1, fun r kx => lo_paper (n := 0) rfl hl hb o1 o2 hX hM kx⟩
set_option maxRecDepth 10000 in
set_option maxHeartbeats 2000000 in
theorem ww_burn {l : List Int32} (hl : 0 + 6 ≤ l.length) (hb : l.length < 2147483648) : ∃ h2 : im_H, im_shs h2 = im_shs hh ∧ ∀ r, Ev (im_K1 l) 20 mL_law (1755, lwL 0, [], h2) r → Ev (im_K1 l) 20 mL_law (1318, lwL 0, [], hh) r := by
  obtain ⟨v, h1, h2, hX, hM⟩ := q_burn ((l.getD (0 + 1) 0))
  obtain ⟨y, rfl⟩ := ca_int (M := mX11_burn) rfl rfl hX
  have s1 := ca_sh (by decide) hX
  have s2 := ca_sh (by decide) hM
  simp only at s1 s2
  obtain ⟨f1, o1, _⟩ := sh_obj (h := hh) hh_sh.1
  obtain ⟨f2, o2, _⟩ := sh_obj (h := h1) (by rw [s1]; exact hh_sh.2)
  exact ⟨h2, s2.trans s1, fun r kx => lo_burn (n := 0) rfl hl hb o1 o2 hX hM kx⟩
set_option maxRecDepth 10000 in
set_option maxHeartbeats 2000000 in
theorem ww_owner {l : List Int32} (hl : 0 + 6 ≤ l.length) (hb : l.length < 2147483648) : ∃ h2 : im_H, im_shs h2 = im_shs hh ∧ ∀ r, Ev (im_K1 l) 20 mL_law (1755, lwL 0, [], h2) r → Ev (im_K1 l) 20 mL_law (1341, lwL 0, [], hh) r := by
  obtain ⟨v, h1, h2, hX, hM⟩ := q_owner ((l.getD (0 + 1) 0)) ((l.getD (0 + 2) 0)) ((l.getD (0 + 3) 0))
  obtain ⟨y, rfl⟩ := ca_int (M := mX11_owner) rfl rfl hX
  have s1 := ca_sh (by decide) hX
  have s2 := ca_sh (by decide) hM
  simp only at s1 s2
  obtain ⟨f1, o1, _⟩ := sh_obj (h := hh) hh_sh.1
  obtain ⟨f2, o2, _⟩ := sh_obj (h := h1) (by rw [s1]; exact hh_sh.2)
  exact ⟨h2, s2.trans s1, fun r kx => lo_owner (n := 0) rfl hl hb o1 o2 hX hM kx⟩
set_option maxRecDepth 10000 in
set_option maxHeartbeats 2000000 in
theorem ww_heirs {l : List Int32} (hl : 0 + 6 ≤ l.length) (hb : l.length < 2147483648) : ∃ h2 : im_H, im_shs h2 = im_shs hh ∧ ∀ r, Ev (im_K1 l) 20 mL_law (1755, lwL 0, [], h2) r → Ev (im_K1 l) 20 mL_law (1384, lwL 0, [], hh) r := by
  obtain ⟨v, h1, h2, hX, hM⟩ := q_heirs ((l.getD (0 + 1) 0)) ((l.getD (0 + 2) 0)) ((l.getD (0 + 3) 0))
  obtain ⟨y, rfl⟩ := ca_int (M := mX11_heirs) rfl rfl hX
  have s1 := ca_sh (by decide) hX
  have s2 := ca_sh (by decide) hM
  simp only at s1 s2
  obtain ⟨f1, o1, _⟩ := sh_obj (h := hh) hh_sh.1
  obtain ⟨f2, o2, _⟩ := sh_obj (h := h1) (by rw [s1]; exact hh_sh.2)
  exact ⟨h2, s2.trans s1, fun r kx => lo_heirs (n := 0) rfl hl hb o1 o2 hX hM kx⟩
set_option maxRecDepth 10000 in
set_option maxHeartbeats 2000000 in
theorem ww_beside {l : List Int32} (hl : 0 + 6 ≤ l.length) (hb : l.length < 2147483648) : ∃ h2 : im_H, im_shs h2 = im_shs hh ∧ ∀ r, Ev (im_K1 l) 20 mL_law (1755, lwL 0, [], h2) r → Ev (im_K1 l) 20 mL_law (1427, lwL 0, [], hh) r := by
  obtain ⟨v, h1, h2, hX, hM⟩ := q_beside ((l.getD (0 + 1) 0)) ((l.getD (0 + 2) 0))
  obtain ⟨y, rfl⟩ := ca_long (M := mX11_beside) rfl rfl hX
  have s1 := ca_sh (by decide) hX
  have s2 := ca_sh (by decide) hM
  simp only at s1 s2
  obtain ⟨f1, o1, _⟩ := sh_obj (h := hh) hh_sh.1
  obtain ⟨f2, o2, _⟩ := sh_obj (h := h1) (by rw [s1]; exact hh_sh.2)
  exact ⟨h2, s2.trans s1, fun r kx => lo_beside (n := 0) rfl hl hb o1 o2 hX hM kx⟩
set_option maxRecDepth 10000 in
set_option maxHeartbeats 2000000 in
theorem ww_clear {l : List Int32} (hl : 0 + 6 ≤ l.length) (hb : l.length < 2147483648) : ∃ h2 : im_H, im_shs h2 = im_shs hh ∧ ∀ r, Ev (im_K1 l) 20 mL_law (1755, lwL 0, [], h2) r → Ev (im_K1 l) 20 mL_law (1461, lwL 0, [], hh) r := by
  obtain ⟨v, h1, h2, hX, hM⟩ := q_clear ((l.getD (0 + 1) 0)) ((l.getD (0 + 2) 0))
  obtain ⟨y, rfl⟩ := ca_int (M := mX11_clear) rfl rfl hX
  have s1 := ca_sh (by decide) hX
  have s2 := ca_sh (by decide) hM
  simp only at s1 s2
  obtain ⟨f1, o1, _⟩ := sh_obj (h := hh) hh_sh.1
  obtain ⟨f2, o2, _⟩ := sh_obj (h := h1) (by rw [s1]; exact hh_sh.2)
  exact ⟨h2, s2.trans s1, fun r kx => lo_clear (n := 0) rfl hl hb o1 o2 hX hM kx⟩
set_option maxRecDepth 10000 in
set_option maxHeartbeats 2000000 in
theorem ww_image {l : List Int32} (hl : 0 + 6 ≤ l.length) (hb : l.length < 2147483648) : ∃ h2 : im_H, im_shs h2 = im_shs hh ∧ ∀ r, Ev (im_K1 l) 20 mL_law (1755, lwL 0, [], h2) r → Ev (im_K1 l) 20 mL_law (1494, lwL 0, [], hh) r := by
  obtain ⟨v, h1, h2, hX, hM⟩ := q_image
  obtain ⟨y, rfl⟩ := ca_int (M := mX11_image) rfl rfl hX
  have s1 := ca_sh (by decide) hX
  have s2 := ca_sh (by decide) hM
  simp only at s1 s2
  obtain ⟨f1, o1, _⟩ := sh_obj (h := hh) hh_sh.1
  obtain ⟨f2, o2, _⟩ := sh_obj (h := h1) (by rw [s1]; exact hh_sh.2)
  exact ⟨h2, s2.trans s1, fun r kx => lo_image (n := 0) rfl hl hb o1 o2 hX hM kx⟩
set_option maxRecDepth 10000 in
set_option maxHeartbeats 2000000 in
theorem ww_back {l : List Int32} (hl : 0 + 6 ≤ l.length) (hb : l.length < 2147483648) : ∃ h2 : im_H, im_shs h2 = im_shs hh ∧ ∀ r, Ev (im_K1 l) 20 mL_law (1755, lwL 0, [], h2) r → Ev (im_K1 l) 20 mL_law (1507, lwL 0, [], hh) r := by
  obtain ⟨v, h1, h2, hX, hM⟩ := q_back
  obtain ⟨y, rfl⟩ := ca_int (M := mX11_back) rfl rfl hX
  have s1 := ca_sh (by decide) hX
  have s2 := ca_sh (by decide) hM
  simp only at s1 s2
  obtain ⟨f1, o1, _⟩ := sh_obj (h := hh) hh_sh.1
  obtain ⟨f2, o2, _⟩ := sh_obj (h := h1) (by rw [s1]; exact hh_sh.2)
  exact ⟨h2, s2.trans s1, fun r kx => lo_back (n := 0) rfl hl hb o1 o2 hX hM kx⟩
set_option maxRecDepth 10000 in
set_option maxHeartbeats 2000000 in
theorem ww_sheet {l : List Int32} (hl : 0 + 6 ≤ l.length) (hb : l.length < 2147483648) : ∃ h2 : im_H, im_shs h2 = im_shs hh ∧ ∀ r, Ev (im_K1 l) 20 mL_law (1755, lwL 0, [], h2) r → Ev (im_K1 l) 20 mL_law (1520, lwL 0, [], hh) r := by
  obtain ⟨v, h1, h2, hX, hM⟩ := q_sheet ((l.getD (0 + 1) 0)) ((l.getD (0 + 2) 0)) ((l.getD (0 + 3) 0))
  obtain ⟨y, rfl⟩ := ca_int (M := mX11_sheet) rfl rfl hX
  have s1 := ca_sh (by decide) hX
  have s2 := ca_sh (by decide) hM
  simp only at s1 s2
  obtain ⟨f1, o1, _⟩ := sh_obj (h := hh) hh_sh.1
  obtain ⟨f2, o2, _⟩ := sh_obj (h := h1) (by rw [s1]; exact hh_sh.2)
  exact ⟨h2, s2.trans s1, fun r kx => lo_sheet (n := 0) rfl hl hb o1 o2 hX hM kx⟩
set_option maxRecDepth 10000 in
set_option maxHeartbeats 2000000 in
theorem ww_cell {l : List Int32} (hl : 0 + 6 ≤ l.length) (hb : l.length < 2147483648) : ∃ h2 : im_H, im_shs h2 = im_shs hh ∧ ∀ r, Ev (im_K1 l) 20 mL_law (1755, lwL 0, [], h2) r → Ev (im_K1 l) 20 mL_law (1563, lwL 0, [], hh) r := by
  obtain ⟨v, h1, h2, hX, hM⟩ := q_cell ((l.getD (0 + 1) 0)) ((l.getD (0 + 2) 0)) ((l.getD (0 + 3) 0))
  obtain ⟨y, rfl⟩ := ca_int (M := mX11_cell) rfl rfl hX
  have s1 := ca_sh (by decide) hX
  have s2 := ca_sh (by decide) hM
  simp only at s1 s2
  obtain ⟨f1, o1, _⟩ := sh_obj (h := hh) hh_sh.1
  obtain ⟨f2, o2, _⟩ := sh_obj (h := h1) (by rw [s1]; exact hh_sh.2)
  exact ⟨h2, s2.trans s1, fun r kx => lo_cell (n := 0) rfl hl hb o1 o2 hX hM kx⟩
set_option maxRecDepth 10000 in
set_option maxHeartbeats 2000000 in
theorem ww_copy {l : List Int32} (hl : 0 + 6 ≤ l.length) (hb : l.length < 2147483648) : ∃ h2 : im_H, im_shs h2 = im_shs hh ∧ ∀ r, Ev (im_K1 l) 20 mL_law (1755, lwL 0, [], h2) r → Ev (im_K1 l) 20 mL_law (1606, lwL 0, [], hh) r := by
  obtain ⟨v, h1, h2, hX, hM⟩ := q_copy ((l.getD (0 + 1) 0)) ((l.getD (0 + 2) 0)) ((l.getD (0 + 3) 0)) ((l.getD (0 + 4) 0)) ((l.getD (0 + 5) 0))
  obtain ⟨y, rfl⟩ := ca_int (M := mX11_copy) rfl rfl hX
  have s1 := ca_sh (by decide) hX
  have s2 := ca_sh (by decide) hM
  simp only at s1 s2
  obtain ⟨f1, o1, _⟩ := sh_obj (h := hh) hh_sh.1
  obtain ⟨f2, o2, _⟩ := sh_obj (h := h1) (by rw [s1]; exact hh_sh.2)
  exact ⟨h2, s2.trans s1, fun r kx => lo_copy (n := 0) rfl hl hb o1 o2 hX hM kx⟩
set_option maxRecDepth 10000 in
set_option maxHeartbeats 2000000 in
theorem ww_people {l : List Int32} (hl : 0 + 6 ≤ l.length) (hb : l.length < 2147483648) : ∃ h2 : im_H, im_shs h2 = im_shs hh ∧ ∀ r, Ev (im_K1 l) 20 mL_law (1755, lwL 0, [], h2) r → Ev (im_K1 l) 20 mL_law (1669, lwL 0, [], hh) r := by
  obtain ⟨v, h1, h2, hX, hM⟩ := q_people ((l.getD (0 + 1) 0)) ((l.getD (0 + 2) 0)) ((l.getD (0 + 3) 0)) ((l.getD (0 + 4) 0))
  obtain ⟨y, rfl⟩ := ca_int (M := mX11_people) rfl rfl hX
  have s1 := ca_sh (by decide) hX
  have s2 := ca_sh (by decide) hM
  simp only at s1 s2
  obtain ⟨f1, o1, _⟩ := sh_obj (h := hh) hh_sh.1
  obtain ⟨f2, o2, _⟩ := sh_obj (h := h1) (by rw [s1]; exact hh_sh.2)
  exact ⟨h2, s2.trans s1, fun r kx => lo_people (n := 0) rfl hl hb o1 o2 hX hM kx⟩
set_option maxRecDepth 10000 in
set_option maxHeartbeats 2000000 in
theorem ww_taken {l : List Int32} (hl : 0 + 6 ≤ l.length) (hb : l.length < 2147483648) : ∃ h2 : im_H, im_shs h2 = im_shs hh ∧ ∀ r, Ev (im_K1 l) 20 mL_law (1755, lwL 0, [], h2) r → Ev (im_K1 l) 20 mL_law (1722, lwL 0, [], hh) r := by
  obtain ⟨v, h1, h2, hX, hM⟩ := q_taken ((l.getD (0 + 1) 0)) ((l.getD (0 + 2) 0))
  obtain ⟨y, rfl⟩ := ca_int (M := mX11_taken) rfl rfl hX
  have s1 := ca_sh (by decide) hX
  have s2 := ca_sh (by decide) hM
  simp only at s1 s2
  obtain ⟨f1, o1, _⟩ := sh_obj (h := hh) hh_sh.1
  obtain ⟨f2, o2, _⟩ := sh_obj (h := h1) (by rw [s1]; exact hh_sh.2)
  exact ⟨h2, s2.trans s1, fun r kx => lo_taken (n := 0) rfl hl hb o1 o2 hX hM kx⟩
