set_option maxRecDepth 10000 in
set_option maxHeartbeats 2000000 in
theorem law_one {l : List Int32} (hl : l.length = 6) : ∃ h2 : im_H, im_shs h2 = im_shs hh ∧ ∀ r, Ev (im_K1 l) 20 mL_law (1755, lwL 0, [], h2) r → Ev (im_K1 l) 20 mL_law (27, lwL 0, [], hh) r := by
  have hb : l.length < 2147483648 := by omega
  have h6 : 0 + 6 ≤ l.length := by omega
  have rd : ∀ {z : Int32} {r : Option Value × im_H}, l.getD 0 0 &&& 63 = z → Ev (im_K1 l) 20 mL_law (33, lwL 0, [.int z], hh) r → Ev (im_K1 l) 20 mL_law (27, lwL 0, [], hh) r := by
    intro z r hz kx
    refine sp_aload_n (p2 := 28) rfl rfl rfl ?_
    refine sp_iload_n (p2 := 29) rfl rfl rfl ?_
    refine st_isld (R := 5) (l := l) (x := l.getD 0 0) rfl (by decide) rfl (in_at rfl (by decide) (by rw [hl]; decide)) rfl ?_
    show Ev _ _ _ (30, _, _, _) _
    refine sp_bipush (p2 := 32) (x := 63) rfl rfl (by decide) ?_
    refine sp_iand (p2 := 33) (z := z) rfl rfl hz ?_
    exact kx
  generalize hz : l.getD 0 0 &&& 63 = z at rd
  have rd := fun r => rd (r := r) rfl
  by_cases e0 : z.toInt = 0
  · obtain ⟨h2, s, kk⟩ := ww_ruin h6 hb
    exact ⟨h2, s, fun r kx => rd r (sp_tsIn (k := 0) (p2 := 228) rfl e0 (by decide) (by decide) rfl (by decide) (kk r kx))⟩
  by_cases e1 : z.toInt = 1
  · obtain ⟨h2, s, kk⟩ := ww_person h6 hb
    exact ⟨h2, s, fun r kx => rd r (sp_tsIn (k := 1) (p2 := 271) rfl e1 (by decide) (by decide) rfl (by decide) (kk r kx))⟩
  by_cases e2 : z.toInt = 2
  · obtain ⟨h2, s, kk⟩ := ww_moves h6 hb
    exact ⟨h2, s, fun r kx => rd r (sp_tsIn (k := 2) (p2 := 324) rfl e2 (by decide) (by decide) rfl (by decide) (kk r kx))⟩
  by_cases e3 : z.toInt = 3
  · obtain ⟨h2, s, kk⟩ := ww_wall h6 hb
    exact ⟨h2, s, fun r kx => rd r (sp_tsIn (k := 3) (p2 := 357) rfl e3 (by decide) (by decide) rfl (by decide) (kk r kx))⟩
  by_cases e4 : z.toInt = 4
  · obtain ⟨h2, s, kk⟩ := ww_weather h6 hb
    exact ⟨h2, s, fun r kx => rd r (sp_tsIn (k := 4) (p2 := 400) rfl e4 (by decide) (by decide) rfl (by decide) (kk r kx))⟩
  by_cases e5 : z.toInt = 5
  · obtain ⟨h2, s, kk⟩ := ww_tip h6 hb
    exact ⟨h2, s, fun r kx => rd r (sp_tsIn (k := 5) (p2 := 433) rfl e5 (by decide) (by decide) rfl (by decide) (kk r kx))⟩
  by_cases e6 : z.toInt = 6
  · obtain ⟨h2, s, kk⟩ := ww_row h6 hb
    exact ⟨h2, s, fun r kx => rd r (sp_tsIn (k := 6) (p2 := 456) rfl e6 (by decide) (by decide) rfl (by decide) (kk r kx))⟩
  by_cases e7 : z.toInt = 7
  · obtain ⟨h2, s, kk⟩ := ww_rail h6 hb
    exact ⟨h2, s, fun r kx => rd r (sp_tsIn (k := 7) (p2 := 509) rfl e7 (by decide) (by decide) rfl (by decide) (kk r kx))⟩
  by_cases e8 : z.toInt = 8
  · obtain ⟨h2, s, kk⟩ := ww_room h6 hb
    exact ⟨h2, s, fun r kx => rd r (sp_tsIn (k := 8) (p2 := 552) rfl e8 (by decide) (by decide) rfl (by decide) (kk r kx))⟩
  by_cases e9 : z.toInt = 9
  · obtain ⟨h2, s, kk⟩ := ww_feed h6 hb
    exact ⟨h2, s, fun r kx => rd r (sp_tsIn (k := 9) (p2 := 605) rfl e9 (by decide) (by decide) rfl (by decide) (kk r kx))⟩
  by_cases e10 : z.toInt = 10
  · obtain ⟨h2, s, kk⟩ := ww_order h6 hb
    exact ⟨h2, s, fun r kx => rd r (sp_tsIn (k := 10) (p2 := 668) rfl e10 (by decide) (by decide) rfl (by decide) (kk r kx))⟩
  by_cases e11 : z.toInt = 11
  · obtain ⟨h2, s, kk⟩ := ww_force h6 hb
    exact ⟨h2, s, fun r kx => rd r (sp_tsIn (k := 11) (p2 := 681) rfl e11 (by decide) (by decide) rfl (by decide) (kk r kx))⟩
  by_cases e12 : z.toInt = 12
  · obtain ⟨h2, s, kk⟩ := ww_says h6 hb
    exact ⟨h2, s, fun r kx => rd r (sp_tsIn (k := 12) (p2 := 704) rfl e12 (by decide) (by decide) rfl (by decide) (kk r kx))⟩
  by_cases e13 : z.toInt = 13
  · obtain ⟨h2, s, kk⟩ := ww_run h6 hb
    exact ⟨h2, s, fun r kx => rd r (sp_tsIn (k := 13) (p2 := 737) rfl e13 (by decide) (by decide) rfl (by decide) (kk r kx))⟩
  by_cases e14 : z.toInt = 14
  · obtain ⟨h2, s, kk⟩ := ww_cellTold h6 hb
    exact ⟨h2, s, fun r kx => rd r (sp_tsIn (k := 14) (p2 := 760) rfl e14 (by decide) (by decide) rfl (by decide) (kk r kx))⟩
  by_cases e15 : z.toInt = 15
  · obtain ⟨h2, s, kk⟩ := ww_kindTold h6 hb
    exact ⟨h2, s, fun r kx => rd r (sp_tsIn (k := 15) (p2 := 793) rfl e15 (by decide) (by decide) rfl (by decide) (kk r kx))⟩
  by_cases e16 : z.toInt = 16
  · obtain ⟨h2, s, kk⟩ := ww_personTold h6 hb
    exact ⟨h2, s, fun r kx => rd r (sp_tsIn (k := 16) (p2 := 826) rfl e16 (by decide) (by decide) rfl (by decide) (kk r kx))⟩
  by_cases e17 : z.toInt = 17
  · obtain ⟨h2, s, kk⟩ := ww_rowTold h6 hb
    exact ⟨h2, s, fun r kx => rd r (sp_tsIn (k := 17) (p2 := 859) rfl e17 (by decide) (by decide) rfl (by decide) (kk r kx))⟩
  by_cases e18 : z.toInt = 18
  · obtain ⟨h2, s, kk⟩ := ww_railTold h6 hb
    exact ⟨h2, s, fun r kx => rd r (sp_tsIn (k := 18) (p2 := 892) rfl e18 (by decide) (by decide) rfl (by decide) (kk r kx))⟩
  by_cases e19 : z.toInt = 19
  · obtain ⟨h2, s, kk⟩ := ww_wallTold h6 hb
    exact ⟨h2, s, fun r kx => rd r (sp_tsIn (k := 19) (p2 := 925) rfl e19 (by decide) (by decide) rfl (by decide) (kk r kx))⟩
  by_cases e20 : z.toInt = 20
  · obtain ⟨h2, s, kk⟩ := ww_count h6 hb
    exact ⟨h2, s, fun r kx => rd r (sp_tsIn (k := 20) (p2 := 958) rfl e20 (by decide) (by decide) rfl (by decide) (kk r kx))⟩
  by_cases e21 : z.toInt = 21
  · obtain ⟨h2, s, kk⟩ := ww_pull h6 hb
    exact ⟨h2, s, fun r kx => rd r (sp_tsIn (k := 21) (p2 := 981) rfl e21 (by decide) (by decide) rfl (by decide) (kk r kx))⟩
  by_cases e22 : z.toInt = 22
  · obtain ⟨h2, s, kk⟩ := ww_pulls h6 hb
    exact ⟨h2, s, fun r kx => rd r (sp_tsIn (k := 22) (p2 := 1004) rfl e22 (by decide) (by decide) rfl (by decide) (kk r kx))⟩
  by_cases e23 : z.toInt = 23
  · obtain ⟨h2, s, kk⟩ := ww_pullTold h6 hb
    exact ⟨h2, s, fun r kx => rd r (sp_tsIn (k := 23) (p2 := 1027) rfl e23 (by decide) (by decide) rfl (by decide) (kk r kx))⟩
  by_cases e24 : z.toInt = 24
  · obtain ⟨h2, s, kk⟩ := ww_mends h6 hb
    exact ⟨h2, s, fun r kx => rd r (sp_tsIn (k := 24) (p2 := 1050) rfl e24 (by decide) (by decide) rfl (by decide) (kk r kx))⟩
  by_cases e25 : z.toInt = 25
  · obtain ⟨h2, s, kk⟩ := ww_mendTold h6 hb
    exact ⟨h2, s, fun r kx => rd r (sp_tsIn (k := 25) (p2 := 1073) rfl e25 (by decide) (by decide) rfl (by decide) (kk r kx))⟩
  by_cases e26 : z.toInt = 26
  · obtain ⟨h2, s, kk⟩ := ww_mend h6 hb
    exact ⟨h2, s, fun r kx => rd r (sp_tsIn (k := 26) (p2 := 1086) rfl e26 (by decide) (by decide) rfl (by decide) (kk r kx))⟩
  by_cases e27 : z.toInt = 27
  · obtain ⟨h2, s, kk⟩ := ww_roomTold h6 hb
    exact ⟨h2, s, fun r kx => rd r (sp_tsIn (k := 27) (p2 := 1109) rfl e27 (by decide) (by decide) rfl (by decide) (kk r kx))⟩
  by_cases e28 : z.toInt = 28
  · obtain ⟨h2, s, kk⟩ := ww_raid h6 hb
    exact ⟨h2, s, fun r kx => rd r (sp_tsIn (k := 28) (p2 := 1142) rfl e28 (by decide) (by decide) rfl (by decide) (kk r kx))⟩
  by_cases e29 : z.toInt = 29
  · obtain ⟨h2, s, kk⟩ := ww_probe h6 hb
    exact ⟨h2, s, fun r kx => rd r (sp_tsIn (k := 29) (p2 := 1195) rfl e29 (by decide) (by decide) rfl (by decide) (kk r kx))⟩
  by_cases e30 : z.toInt = 30
  · obtain ⟨h2, s, kk⟩ := ww_likely h6 hb
    exact ⟨h2, s, fun r kx => rd r (sp_tsIn (k := 30) (p2 := 1228) rfl e30 (by decide) (by decide) rfl (by decide) (kk r kx))⟩
  by_cases e31 : z.toInt = 31
  · obtain ⟨h2, s, kk⟩ := ww_next h6 hb
    exact ⟨h2, s, fun r kx => rd r (sp_tsIn (k := 31) (p2 := 1262) rfl e31 (by decide) (by decide) rfl (by decide) (kk r kx))⟩
  by_cases e32 : z.toInt = 32
  · obtain ⟨h2, s, kk⟩ := ww_paper h6 hb
    exact ⟨h2, s, fun r kx => rd r (sp_tsIn (k := 32) (p2 := 1275) rfl e32 (by decide) (by decide) rfl (by decide) (kk r kx))⟩
  by_cases e33 : z.toInt = 33
  · obtain ⟨h2, s, kk⟩ := ww_burn h6 hb
    exact ⟨h2, s, fun r kx => rd r (sp_tsIn (k := 33) (p2 := 1318) rfl e33 (by decide) (by decide) rfl (by decide) (kk r kx))⟩
  by_cases e34 : z.toInt = 34
  · obtain ⟨h2, s, kk⟩ := ww_owner h6 hb
    exact ⟨h2, s, fun r kx => rd r (sp_tsIn (k := 34) (p2 := 1341) rfl e34 (by decide) (by decide) rfl (by decide) (kk r kx))⟩
  by_cases e35 : z.toInt = 35
  · obtain ⟨h2, s, kk⟩ := ww_heirs h6 hb
    exact ⟨h2, s, fun r kx => rd r (sp_tsIn (k := 35) (p2 := 1384) rfl e35 (by decide) (by decide) rfl (by decide) (kk r kx))⟩
  by_cases e36 : z.toInt = 36
  · obtain ⟨h2, s, kk⟩ := ww_beside h6 hb
    exact ⟨h2, s, fun r kx => rd r (sp_tsIn (k := 36) (p2 := 1427) rfl e36 (by decide) (by decide) rfl (by decide) (kk r kx))⟩
  by_cases e37 : z.toInt = 37
  · obtain ⟨h2, s, kk⟩ := ww_clear h6 hb
    exact ⟨h2, s, fun r kx => rd r (sp_tsIn (k := 37) (p2 := 1461) rfl e37 (by decide) (by decide) rfl (by decide) (kk r kx))⟩
  by_cases e38 : z.toInt = 38
  · obtain ⟨h2, s, kk⟩ := ww_image h6 hb
    exact ⟨h2, s, fun r kx => rd r (sp_tsIn (k := 38) (p2 := 1494) rfl e38 (by decide) (by decide) rfl (by decide) (kk r kx))⟩
  by_cases e39 : z.toInt = 39
  · obtain ⟨h2, s, kk⟩ := ww_back h6 hb
    exact ⟨h2, s, fun r kx => rd r (sp_tsIn (k := 39) (p2 := 1507) rfl e39 (by decide) (by decide) rfl (by decide) (kk r kx))⟩
  by_cases e40 : z.toInt = 40
  · obtain ⟨h2, s, kk⟩ := ww_sheet h6 hb
    exact ⟨h2, s, fun r kx => rd r (sp_tsIn (k := 40) (p2 := 1520) rfl e40 (by decide) (by decide) rfl (by decide) (kk r kx))⟩
  by_cases e41 : z.toInt = 41
  · obtain ⟨h2, s, kk⟩ := ww_cell h6 hb
    exact ⟨h2, s, fun r kx => rd r (sp_tsIn (k := 41) (p2 := 1563) rfl e41 (by decide) (by decide) rfl (by decide) (kk r kx))⟩
  by_cases e42 : z.toInt = 42
  · obtain ⟨h2, s, kk⟩ := ww_copy h6 hb
    exact ⟨h2, s, fun r kx => rd r (sp_tsIn (k := 42) (p2 := 1606) rfl e42 (by decide) (by decide) rfl (by decide) (kk r kx))⟩
  by_cases e43 : z.toInt = 43
  · obtain ⟨h2, s, kk⟩ := ww_people h6 hb
    exact ⟨h2, s, fun r kx => rd r (sp_tsIn (k := 43) (p2 := 1669) rfl e43 (by decide) (by decide) rfl (by decide) (kk r kx))⟩
  by_cases e44 : z.toInt = 44
  · obtain ⟨h2, s, kk⟩ := ww_taken h6 hb
    exact ⟨h2, s, fun r kx => rd r (sp_tsIn (k := 44) (p2 := 1722) rfl e44 (by decide) (by decide) rfl (by decide) (kk r kx))⟩
  exact ⟨hh, rfl, fun r kx => rd r (sp_tsOut (p2 := 1755) rfl (by omega) (by decide) kx)⟩
set_option maxRecDepth 10000 in
set_option maxHeartbeats 2000000 in
theorem law_head {l : List Int32} {i : Int32} {h : im_H} {r : Option Value × im_H} {b : Bool} {n : Nat} (hb : l.length < 2147483648) (hi : i.toInt = n) (hc : b = decide ((l.length : Int) < n + 6)) (kx : Ev (im_K1 l) 20 mL_law (bif b then 1761 else 27, lwL i, [], h) r) : Ev (im_K1 l) 20 mL_law (18, lwL i, [], h) r := by
  have e1 : Int32.toInt (Int32.ofNat l.length) = l.length := Int32.toInt_ofNat_of_lt hb
  have e2 : Int32.toInt (Int32.ofNat l.length - 6) = l.length - 6 := by rw [i32_subE (show Int32.toInt 6 = 6 from rfl) (by omega) (by omega), e1]
  refine sp_iload_n (p2 := 19) rfl rfl rfl ?_
  refine sp_aload_n (p2 := 20) rfl rfl rfl ?_
  refine sp_slen (p2 := 21) (R := 5) (l := l) rfl rfl (by decide) rfl rfl ?_
  refine sp_bipush (p2 := 23) (x := 6) rfl rfl (by decide) ?_
  refine sp_isub (p2 := 24) (z := Int32.ofNat l.length - 6) rfl rfl rfl ?_
  refine st_icmp (b := b) rfl ?_ ?_
  · subst hc
    by_cases hd : (l.length : Int) < n + 6
    · rw [decide_eq_true hd]; exact cn_gt_T hi e2 (by omega)
    · rw [decide_eq_false hd]; exact cn_gt_F hi e2 (by omega)
  · exact kx
set_option maxRecDepth 10000 in
set_option maxHeartbeats 2000000 in
theorem law_end {l : List Int32} {i : Int32} {h : im_H} : Ev (im_K1 l) 20 mL_law (1761, lwL i, [], h) (some (.int 1), h) := by
  refine sp_iconst (p2 := 1762) (x := 1) rfl rfl (by decide) ?_
  exact sp_zret rfl rfl (by decide)
set_option maxRecDepth 10000 in
set_option maxHeartbeats 2000000 in
theorem law_in {l : List Int32} {r : Option Value × im_H} (kx : Ev (im_K1 l) 20 mL_law (18, lwL 0, [], hh) r) : Ev (im_K1 l) 20 mL_law (0, [(0, .ref 5)], [], []) r := by
  refine sp_new (p2 := 3) (tys := im_fty.getD 11 []) (R := 16) rfl rfl rfl rfl ?_
  refine sp_dup (p2 := 4) rfl rfl rfl ?_
  refine st_callI (R := 16) rfl rfl rfl rfl (ca_dec (d := 8) (by decide) init_X) ?_
  show Ev _ _ _ (7, [(0, .ref 5)], [.ref 16], hX) _
  refine sp_astore_n (p2 := 8) (lv2 := [(1, .ref 16), (0, .ref 5)]) rfl rfl (by decide) rfl ?_
  refine sp_new (p2 := 11) (tys := im_fty.getD 12 []) (R := 164) rfl rfl rfl rfl ?_
  refine sp_dup (p2 := 12) rfl rfl rfl ?_
  refine st_callI (R := 164) rfl rfl rfl rfl (ca_dec (d := 8) (by decide) init_M) ?_
  show Ev _ _ _ (15, [(1, .ref 16), (0, .ref 5)], [.ref 164], hh) _
  refine sp_astore_n (p2 := 16) (lv2 := [(2, .ref 164), (1, .ref 16), (0, .ref 5)]) rfl rfl (by decide) rfl ?_
  refine sp_iconst (p2 := 17) (x := 0) rfl rfl (by decide) ?_
  refine sp_istore_n (p2 := 18) (lv2 := lwL 0) rfl rfl (by decide) rfl ?_
  exact kx
set_option maxRecDepth 10000 in
set_option maxHeartbeats 2000000 in
theorem law_p1 {l : List Int32} (hl : l.length ≤ 6) : ∃ h2 : im_H, im_shs h2 = im_shs hh ∧ Ev (im_K1 l) 20 mL_law (0, [(0, .ref 5)], [], []) (some (.int 1), h2) := by
  by_cases h6 : l.length = 6
  · obtain ⟨h2, s, kk⟩ := law_one h6
    refine ⟨h2, s, law_in (law_head (b := false) (n := 0) (by omega) rfl (by rw [h6]; rfl) (kk _ ?_))⟩
    refine sp_iinc (p2 := 1758) (x := 0) (y := 6) (lv2 := lwL 6) rfl rfl (by decide) rfl (by decide) rfl ?_
    refine sp_goto rfl ?_
    exact law_head (b := true) (n := 6) (by omega) rfl (by rw [h6]; rfl) law_end
  · refine ⟨hh, rfl, law_in (law_head (b := true) (n := 0) (by omega) rfl ?_ law_end)⟩
    exact (decide_eq_true (by omega)).symm
theorem hh_small : hh.length ≤ 600000 ∧ im_sl hh ≤ 7302250 := by decide +kernel
