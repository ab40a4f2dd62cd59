/-! INSTRUCTIONS that read and write cells -/
theorem im_wl_in : ∀ l ∈ im_wl, ∀ w ∈ l, w ∈ lw_tbl := by
  intro l hl w hw
  simp only [im_wl, List.mem_cons, List.not_mem_nil, or_false] at hl
  unfold lw_tbl tables_1
  simp only [List.mem_append]
  rcases hl with rfl | rfl | rfl | rfl | rfl | rfl | rfl | rfl
  · exact Or.inl hw
  · exact Or.inr (Or.inl hw)
  · exact Or.inr (Or.inr (Or.inl hw))
  · exact Or.inr (Or.inr (Or.inr (Or.inl hw)))
  · exact Or.inr (Or.inr (Or.inr (Or.inr (Or.inl hw))))
  · exact Or.inr (Or.inr (Or.inr (Or.inr (Or.inr (Or.inl hw)))))
  · exact Or.inr (Or.inr (Or.inr (Or.inr (Or.inr (Or.inr (Or.inl hw))))))
  · exact Or.inr (Or.inr (Or.inr (Or.inr (Or.inr (Or.inr (Or.inr (hw)))))))
theorem im_twS {x : Nat} {w : Cond} (h : im_tw x w = true) : w ∈ im_ws := by
  simp only [im_tw, Bool.and_eq_true, decide_eq_true_eq] at h
  refine List.mem_filter.mpr ⟨?_, h.2⟩
  have h1 := List.mem_of_getElem? h.1
  cases hc : im_wl[x / 256]? with
  | none =>
    rw [List.getD_eq_getElem?_getD, hc] at h1
    cases h1
  | some l =>
    rw [List.getD_eq_getElem?_getD, hc] at h1
    exact im_wl_in l (List.mem_of_getElem? hc) w h1
def im_lp : List (List Nat) := [[377, 379, 381, 383, 385, 387, 389, 391, 393, 395, 397, 399, 401, 403], [690, 692, 694, 696, 698, 700, 702], [653, 655, 657, 659, 661, 663], [556, 558, 560, 562], [621, 623, 625, 627, 629, 631], [341, 343, 345, 347], [586, 588, 590, 592, 594, 596, 598, 600, 602], [314, 316, 318, 320], [720, 722, 724], [468, 470, 472, 474, 476, 478, 480, 482, 484, 486, 488, 490, 492, 494, 512, 514, 516, 518], [534, 536, 538], [741, 743, 745, 747, 749, 751, 769, 771, 773, 775, 777, 779, 781, 783], [1402, 1404, 1406, 1408, 1410, 1412, 1414, 1416, 1418, 1420, 1422, 1424, 1426, 1428, 1430, 1432, 1434, 1436, 1438, 1440, 1442, 1444, 1446, 1448, 1450, 1452, 1454, 1456, 1458, 1460, 1462, 1464, 1466, 1468, 1470, 1472, 1474, 1476, 1478, 1480, 1482, 1484, 1486, 1488, 1490, 1492, 1494, 1496, 1498, 1500, 1502, 1504, 1506, 1508, 1510, 1512, 1514, 1516, 1518, 1536, 1538, 1540, 1542, 1544, 1546, 1548]]
def im_tyf (ci k : Nat) : FieldType := (im_fty.getD ci []).getD k .int
def im_clsB (ci : Nat) : Bool := match vwCl[ci]? with
  | some r => decide ((im_fty.getD ci []).length = r.2.2) && (List.range r.2.2).all (fun k => decide (parseFieldDescriptor (r.2.1 k).2.2.1 = some (im_tyf ci k)) && im_tw ((im_lp.getD ci []).getD k 0) (u_lay r.1 r.2.1 k) && (List.range r.2.2).all (fun j => decide (k = j) || decide ((r.2.1 k).2.1 ≠ (r.2.1 j).2.1)))
  | none => false
theorem im_clsA : (List.range 12).all im_clsB = true := by decide +kernel
theorem im_clsM : im_clsB 12 = true := by decide +kernel
theorem im_cls_all {ci : Nat} {r : vw_C} (h : vwCl[ci]? = some r) : (im_fty.getD ci []).length = r.2.2 ∧ (∀ k, k < r.2.2 → parseFieldDescriptor (r.2.1 k).2.2.1 = some (im_tyf ci k)) ∧ (∀ w ∈ u_ws r.1 r.2.1 r.2.2, w ∈ im_ws) ∧ (∀ a, a < r.2.2 → ∀ b, b < r.2.2 → a ≠ b → (r.2.1 a).2.1 ≠ (r.2.1 b).2.1) := by
  have hl : ci < 13 := (List.getElem?_eq_some_iff.mp h).1
  have hB : im_clsB ci = true := by
    by_cases h12 : ci = 12
    · rw [h12]; exact im_clsM
    · exact List.all_eq_true.mp im_clsA ci (List.mem_range.mpr (by omega))
  unfold im_clsB at hB
  rw [h] at hB
  simp only [Bool.and_eq_true, List.all_eq_true, decide_eq_true_eq, List.mem_range, Bool.or_eq_true] at hB
  refine ⟨hB.1, fun k hk => (hB.2 k hk).1.1, fun w hw => ?_, fun a ha b hb hne => ?_⟩
  · obtain ⟨k, hk, rfl⟩ := List.mem_map.mp hw
    exact im_twS (hB.2 k (List.mem_range.mp hk)).1.2
  · rcases (hB.2 a ha).2 b hb with e | e
    · exact absurd e hne
    · exact e
