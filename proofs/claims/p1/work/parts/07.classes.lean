/-! INSTRUCTIONS that read and write cells -/
theorem im_twS {x : Nat} {w : Cond} (h : im_tw x w = true) : w ∈ im_ws := by
  simp only [im_tw, Bool.and_eq_true, decide_eq_true_eq] at h
  exact List.mem_filter.mpr ⟨List.mem_of_getElem? h.1, h.2⟩
def im_lp : List (List Nat) := [[155, 157, 159, 161, 163, 165, 167, 169, 171, 173, 175, 177, 179, 181], [452, 454, 456, 458, 460, 462, 464], [415, 417, 419, 421, 423, 425], [318, 320, 322, 324], [383, 385, 387, 389, 391, 393], [119, 121, 123, 125], [348, 350, 352, 354, 356, 358, 360, 362, 364], [92, 94, 96, 98], [482, 484, 486], [246, 248, 250, 252, 254, 256, 258, 260, 262, 264, 266, 268, 270, 272, 274, 276, 278, 280], [296, 298, 300], [503, 505, 507, 509, 511, 513, 515, 517, 519, 521, 523, 525, 527, 529], [1116, 1118, 1120, 1122, 1124, 1126, 1128, 1130, 1132, 1134, 1136, 1138, 1140, 1142, 1144, 1146, 1148, 1150, 1152, 1154, 1156, 1158, 1160, 1162, 1164, 1166, 1168, 1170, 1172, 1174, 1176, 1178, 1180, 1182, 1184, 1186, 1188, 1190, 1192, 1194, 1196, 1198, 1200, 1202, 1204, 1206, 1208, 1210, 1212, 1214, 1216, 1218, 1220, 1222, 1224, 1226, 1228, 1230, 1232, 1234, 1236, 1238, 1240, 1242, 1244, 1246]]
def im_tyf (ci k : Nat) : FieldType := (im_fty.getD ci []).getD k .int
def im_clsB (ci : Nat) : Bool := match vwCl[ci]? with
  | some r => decide ((im_fty.getD ci []).length = r.2.2) && (List.range r.2.2).all (fun k => decide (parseFieldDescriptor (r.2.1 k).2.2.1 = some (im_tyf ci k)) && im_tw ((im_lp.getD ci []).getD k 0) (u_lay r.1 r.2.1 k) && (List.range r.2.2).all (fun j => decide (k = j) || decide ((r.2.1 k).2.1 ≠ (r.2.1 j).2.1)))
  | none => false
theorem im_clsA : (List.range 12).all im_clsB = true := by decide +kernel
theorem im_clsM : im_clsB 12 = true := by decide +kernel
theorem im_cls_all {ci : Nat} {r : vw_C} (h : vwCl[ci]? = some r) : (im_fty.getD ci []).length = r.2.2 ∧ (∀ k, k < r.2.2 → parseFieldDescriptor (r.2.1 k).2.2.1 = some (im_tyf ci k)) ∧ (∀ w ∈ u_ws r.1 r.2.1 r.2.2, w ∈ im_ws) ∧ (∀ a, a < r.2.2 → ∀ b, b < r.2.2 → a ≠ b → (r.2.1 a).2.1 ≠ (r.2.1 b).2.1) := by
  have hl : ci < 13 := (List.getElem?_eq_some_iff.mp h).1
  have hB : im_clsB ci = true := by
    by_cases h12 : ci = 12
    · rw [h12]; exact im_clsM
    · exact List.all_eq_true.mp im_clsA ci (List.mem_range.mpr (by omega))
  unfold im_clsB at hB
  rw [h] at hB
  simp only [Bool.and_eq_true, List.all_eq_true, decide_eq_true_eq, List.mem_range, Bool.or_eq_true] at hB
  refine ⟨hB.1, fun k hk => (hB.2 k hk).1.1, fun w hw => ?_, fun a ha b hb hne => ?_⟩
  · obtain ⟨k, hk, rfl⟩ := List.mem_map.mp hw
    exact im_twS (hB.2 k (List.mem_range.mp hk)).1.2
  · rcases (hB.2 a ha).2 b hb with e | e
    · exact absurd e hne
    · exact e
