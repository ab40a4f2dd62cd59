set_option maxRecDepth 10000 in
set_option maxHeartbeats 2000000 in
theorem lo_ruin {l : List Int32} {d n : Nat} {i : Int32} {h h1 h2 : im_H} {r : Option Value × im_H} {y : Int32} {f1 f2 : List Value} (hi : i.toInt = n) (hl : n + 6 ≤ l.length) (hb : l.length < 2147483648) (o1 : im_obj h 16 11 = some f1) (o2 : im_obj h1 164 12 = some f2) (hX : Ca d 61 [.ref 16, .int (l.getD (n + 1) 0), .int (l.getD (n + 2) 0), .int (l.getD (n + 3) 0)] h (some (.int y), h1)) (hM : Ca d 123 [.ref 164, .int (l.getD (n + 1) 0), .int (l.getD (n + 2) 0), .int (l.getD (n + 3) 0)] h1 (some (.int y), h2)) (kx : Ev (im_K1 l) d mL_law (1755, lwL i, [], h2) r) : Ev (im_K1 l) d mL_law (228, lwL i, [], h) r := by
  refine sp_aload_n (p2 := 229) rfl rfl rfl ?_
  refine lw_rd (p2 := 234) 1 rfl rfl rfl rfl rfl rfl (by decide) hi (by omega) hb ?_
  refine lw_rd (p2 := 239) 2 rfl rfl rfl rfl rfl rfl (by decide) hi (by omega) hb ?_
  refine lw_rd (p2 := 244) 3 rfl rfl rfl rfl rfl rfl (by decide) hi (by omega) hb ?_
  refine st_callV (R := 16) rfl rfl rfl o1 rfl hX ?_
  show Ev _ _ _ (247, lwL i, [.int y], h1) _
  refine sp_aload_n (p2 := 248) rfl rfl rfl ?_
  refine lw_rd (p2 := 253) 1 rfl rfl rfl rfl rfl rfl (by decide) hi (by omega) hb ?_
  refine lw_rd (p2 := 258) 2 rfl rfl rfl rfl rfl rfl (by decide) hi (by omega) hb ?_
  refine lw_rd (p2 := 263) 3 rfl rfl rfl rfl rfl rfl (by decide) hi (by omega) hb ?_
  refine st_callV (R := 164) rfl rfl rfl o2 rfl hM ?_
  show Ev _ _ _ (266, lwL i, [.int y, .int y], h2) _
  refine st_icmp (b := true) rfl (decide_eq_true rfl) ?_
  exact kx
set_option maxRecDepth 10000 in
set_option maxHeartbeats 2000000 in
theorem lo_person {l : List Int32} {d n : Nat} {i : Int32} {h h1 h2 : im_H} {r : Option Value × im_H} {y : Int32} {f1 f2 : List Value} (hi : i.toInt = n) (hl : n + 6 ≤ l.length) (hb : l.length < 2147483648) (o1 : im_obj h 16 11 = some f1) (o2 : im_obj h1 164 12 = some f2) (hX : Ca d 62 [.ref 16, .int (l.getD (n + 1) 0), .int (l.getD (n + 2) 0), .int (l.getD (n + 3) 0), .int (l.getD (n + 4) 0)] h (some (.int y), h1)) (hM : Ca d 124 [.ref 164, .int (l.getD (n + 1) 0), .int (l.getD (n + 2) 0), .int (l.getD (n + 3) 0), .int (l.getD (n + 4) 0)] h1 (some (.int y), h2)) (kx : Ev (im_K1 l) d mL_law (1755, lwL i, [], h2) r) : Ev (im_K1 l) d mL_law (271, lwL i, [], h) r := by
  refine sp_aload_n (p2 := 272) rfl rfl rfl ?_
  refine lw_rd (p2 := 277) 1 rfl rfl rfl rfl rfl rfl (by decide) hi (by omega) hb ?_
  refine lw_rd (p2 := 282) 2 rfl rfl rfl rfl rfl rfl (by decide) hi (by omega) hb ?_
  refine lw_rd (p2 := 287) 3 rfl rfl rfl rfl rfl rfl (by decide) hi (by omega) hb ?_
  refine lw_rd (p2 := 292) 4 rfl rfl rfl rfl rfl rfl (by decide) hi (by omega) hb ?_
  refine st_callV (R := 16) rfl rfl rfl o1 rfl hX ?_
  show Ev _ _ _ (295, lwL i, [.int y], h1) _
  refine sp_aload_n (p2 := 296) rfl rfl rfl ?_
  refine lw_rd (p2 := 301) 1 rfl rfl rfl rfl rfl rfl (by decide) hi (by omega) hb ?_
  refine lw_rd (p2 := 306) 2 rfl rfl rfl rfl rfl rfl (by decide) hi (by omega) hb ?_
  refine lw_rd (p2 := 311) 3 rfl rfl rfl rfl rfl rfl (by decide) hi (by omega) hb ?_
  refine lw_rd (p2 := 316) 4 rfl rfl rfl rfl rfl rfl (by decide) hi (by omega) hb ?_
  refine st_callV (R := 164) rfl rfl rfl o2 rfl hM ?_
  show Ev _ _ _ (319, lwL i, [.int y, .int y], h2) _
  refine st_icmp (b := true) rfl (decide_eq_true rfl) ?_
  exact kx
set_option maxRecDepth 10000 in
set_option maxHeartbeats 2000000 in
theorem lo_moves {l : List Int32} {d n : Nat} {i : Int32} {h h1 h2 : im_H} {r : Option Value × im_H} {y : Int32} {f1 f2 : List Value} (hi : i.toInt = n) (hl : n + 6 ≤ l.length) (hb : l.length < 2147483648) (o1 : im_obj h 16 11 = some f1) (o2 : im_obj h1 164 12 = some f2) (hX : Ca d 63 [.ref 16, .int (l.getD (n + 1) 0), .int (l.getD (n + 2) 0)] h (some (.int y), h1)) (hM : Ca d 125 [.ref 164, .int (l.getD (n + 1) 0), .int (l.getD (n + 2) 0)] h1 (some (.int y), h2)) (kx : Ev (im_K1 l) d mL_law (1755, lwL i, [], h2) r) : Ev (im_K1 l) d mL_law (324, lwL i, [], h) r := by
  refine sp_aload_n (p2 := 325) rfl rfl rfl ?_
  refine lw_rd (p2 := 330) 1 rfl rfl rfl rfl rfl rfl (by decide) hi (by omega) hb ?_
  refine lw_rd (p2 := 335) 2 rfl rfl rfl rfl rfl rfl (by decide) hi (by omega) hb ?_
  refine st_callV (R := 16) rfl rfl rfl o1 rfl hX ?_
  show Ev _ _ _ (338, lwL i, [.int y], h1) _
  refine sp_aload_n (p2 := 339) rfl rfl rfl ?_
  refine lw_rd (p2 := 344) 1 rfl rfl rfl rfl rfl rfl (by decide) hi (by omega) hb ?_
  refine lw_rd (p2 := 349) 2 rfl rfl rfl rfl rfl rfl (by decide) hi (by omega) hb ?_
  refine st_callV (R := 164) rfl rfl rfl o2 rfl hM ?_
  show Ev _ _ _ (352, lwL i, [.int y, .int y], h2) _
  refine st_icmp (b := true) rfl (decide_eq_true rfl) ?_
  exact kx
set_option maxRecDepth 10000 in
set_option maxHeartbeats 2000000 in
theorem lo_wall {l : List Int32} {d n : Nat} {i : Int32} {h h1 h2 : im_H} {r : Option Value × im_H} {y : Int32} {f1 f2 : List Value} (hi : i.toInt = n) (hl : n + 6 ≤ l.length) (hb : l.length < 2147483648) (o1 : im_obj h 16 11 = some f1) (o2 : im_obj h1 164 12 = some f2) (hX : Ca d 64 [.ref 16, .int (l.getD (n + 1) 0), .int (l.getD (n + 2) 0), .int (l.getD (n + 3) 0)] h (some (.int y), h1)) (hM : Ca d 126 [.ref 164, .int (l.getD (n + 1) 0), .int (l.getD (n + 2) 0), .int (l.getD (n + 3) 0)] h1 (some (.int y), h2)) (kx : Ev (im_K1 l) d mL_law (1755, lwL i, [], h2) r) : Ev (im_K1 l) d mL_law (357, lwL i, [], h) r := by
  refine sp_aload_n (p2 := 358) rfl rfl rfl ?_
  refine lw_rd (p2 := 363) 1 rfl rfl rfl rfl rfl rfl (by decide) hi (by omega) hb ?_
  refine lw_rd (p2 := 368) 2 rfl rfl rfl rfl rfl rfl (by decide) hi (by omega) hb ?_
  refine lw_rd (p2 := 373) 3 rfl rfl rfl rfl rfl rfl (by decide) hi (by omega) hb ?_
  refine st_callV (R := 16) rfl rfl rfl o1 rfl hX ?_
  show Ev _ _ _ (376, lwL i, [.int y], h1) _
  refine sp_aload_n (p2 := 377) rfl rfl rfl ?_
  refine lw_rd (p2 := 382) 1 rfl rfl rfl rfl rfl rfl (by decide) hi (by omega) hb ?_
  refine lw_rd (p2 := 387) 2 rfl rfl rfl rfl rfl rfl (by decide) hi (by omega) hb ?_
  refine lw_rd (p2 := 392) 3 rfl rfl rfl rfl rfl rfl (by decide) hi (by omega) hb ?_
  refine st_callV (R := 164) rfl rfl rfl o2 rfl hM ?_
  show Ev _ _ _ (395, lwL i, [.int y, .int y], h2) _
  refine st_icmp (b := true) rfl (decide_eq_true rfl) ?_
  exact kx
set_option maxRecDepth 10000 in
set_option maxHeartbeats 2000000 in
theorem lo_weather {l : List Int32} {d n : Nat} {i : Int32} {h h1 h2 : im_H} {r : Option Value × im_H} {y : Int32} {f1 f2 : List Value} (hi : i.toInt = n) (hl : n + 6 ≤ l.length) (hb : l.length < 2147483648) (o1 : im_obj h 16 11 = some f1) (o2 : im_obj h1 164 12 = some f2) (hX : Ca d 65 [.ref 16, .int (l.getD (n + 1) 0), .int (l.getD (n + 2) 0)] h (some (.int y), h1)) (hM : Ca d 127 [.ref 164, .int (l.getD (n + 1) 0), .int (l.getD (n + 2) 0)] h1 (some (.int y), h2)) (kx : Ev (im_K1 l) d mL_law (1755, lwL i, [], h2) r) : Ev (im_K1 l) d mL_law (400, lwL i, [], h) r := by
  refine sp_aload_n (p2 := 401) rfl rfl rfl ?_
  refine lw_rd (p2 := 406) 1 rfl rfl rfl rfl rfl rfl (by decide) hi (by omega) hb ?_
  refine lw_rd (p2 := 411) 2 rfl rfl rfl rfl rfl rfl (by decide) hi (by omega) hb ?_
  refine st_callV (R := 16) rfl rfl rfl o1 rfl hX ?_
  show Ev _ _ _ (414, lwL i, [.int y], h1) _
  refine sp_aload_n (p2 := 415) rfl rfl rfl ?_
  refine lw_rd (p2 := 420) 1 rfl rfl rfl rfl rfl rfl (by decide) hi (by omega) hb ?_
  refine lw_rd (p2 := 425) 2 rfl rfl rfl rfl rfl rfl (by decide) hi (by omega) hb ?_
  refine st_callV (R := 164) rfl rfl rfl o2 rfl hM ?_
  show Ev _ _ _ (428, lwL i, [.int y, .int y], h2) _
  refine st_icmp (b := true) rfl (decide_eq_true rfl) ?_
  exact kx
set_option maxRecDepth 10000 in
set_option maxHeartbeats 2000000 in
theorem lo_tip {l : List Int32} {d n : Nat} {i : Int32} {h h1 h2 : im_H} {r : Option Value × im_H} {y : Int32} {f1 f2 : List Value} (hi : i.toInt = n) (hl : n + 6 ≤ l.length) (hb : l.length < 2147483648) (o1 : im_obj h 16 11 = some f1) (o2 : im_obj h1 164 12 = some f2) (hX : Ca d 66 [.ref 16, .int (l.getD (n + 1) 0)] h (some (.int y), h1)) (hM : Ca d 128 [.ref 164, .int (l.getD (n + 1) 0)] h1 (some (.int y), h2)) (kx : Ev (im_K1 l) d mL_law (1755, lwL i, [], h2) r) : Ev (im_K1 l) d mL_law (433, lwL i, [], h) r := by
  refine sp_aload_n (p2 := 434) rfl rfl rfl ?_
  refine lw_rd (p2 := 439) 1 rfl rfl rfl rfl rfl rfl (by decide) hi (by omega) hb ?_
  refine st_callV (R := 16) rfl rfl rfl o1 rfl hX ?_
  show Ev _ _ _ (442, lwL i, [.int y], h1) _
  refine sp_aload_n (p2 := 443) rfl rfl rfl ?_
  refine lw_rd (p2 := 448) 1 rfl rfl rfl rfl rfl rfl (by decide) hi (by omega) hb ?_
  refine st_callV (R := 164) rfl rfl rfl o2 rfl hM ?_
  show Ev _ _ _ (451, lwL i, [.int y, .int y], h2) _
  refine st_icmp (b := true) rfl (decide_eq_true rfl) ?_
  exact kx
set_option maxRecDepth 10000 in
set_option maxHeartbeats 2000000 in
theorem lo_row {l : List Int32} {d n : Nat} {i : Int32} {h h1 h2 : im_H} {r : Option Value × im_H} {y : Int32} {f1 f2 : List Value} (hi : i.toInt = n) (hl : n + 6 ≤ l.length) (hb : l.length < 2147483648) (o1 : im_obj h 16 11 = some f1) (o2 : im_obj h1 164 12 = some f2) (hX : Ca d 67 [.ref 16, .int (l.getD (n + 1) 0), .int (l.getD (n + 2) 0), .int (l.getD (n + 3) 0), .int (l.getD (n + 4) 0)] h (some (.int y), h1)) (hM : Ca d 131 [.ref 164, .int (l.getD (n + 1) 0), .int (l.getD (n + 2) 0), .int (l.getD (n + 3) 0), .int (l.getD (n + 4) 0)] h1 (some (.int y), h2)) (kx : Ev (im_K1 l) d mL_law (1755, lwL i, [], h2) r) : Ev (im_K1 l) d mL_law (456, lwL i, [], h) r := by
  refine sp_aload_n (p2 := 457) rfl rfl rfl ?_
  refine lw_rd (p2 := 462) 1 rfl rfl rfl rfl rfl rfl (by decide) hi (by omega) hb ?_
  refine lw_rd (p2 := 467) 2 rfl rfl rfl rfl rfl rfl (by decide) hi (by omega) hb ?_
  refine lw_rd (p2 := 472) 3 rfl rfl rfl rfl rfl rfl (by decide) hi (by omega) hb ?_
  refine lw_rd (p2 := 477) 4 rfl rfl rfl rfl rfl rfl (by decide) hi (by omega) hb ?_
  refine st_callV (R := 16) rfl rfl rfl o1 rfl hX ?_
  show Ev _ _ _ (480, lwL i, [.int y], h1) _
  refine sp_aload_n (p2 := 481) rfl rfl rfl ?_
  refine lw_rd (p2 := 486) 1 rfl rfl rfl rfl rfl rfl (by decide) hi (by omega) hb ?_
  refine lw_rd (p2 := 491) 2 rfl rfl rfl rfl rfl rfl (by decide) hi (by omega) hb ?_
  refine lw_rd (p2 := 496) 3 rfl rfl rfl rfl rfl rfl (by decide) hi (by omega) hb ?_
  refine lw_rd (p2 := 501) 4 rfl rfl rfl rfl rfl rfl (by decide) hi (by omega) hb ?_
  refine st_callV (R := 164) rfl rfl rfl o2 rfl hM ?_
  show Ev _ _ _ (504, lwL i, [.int y, .int y], h2) _
  refine st_icmp (b := true) rfl (decide_eq_true rfl) ?_
  exact kx
set_option maxRecDepth 10000 in
set_option maxHeartbeats 2000000 in
theorem lo_rail {l : List Int32} {d n : Nat} {i : Int32} {h h1 h2 : im_H} {r : Option Value × im_H} {y : Int32} {f1 f2 : List Value} (hi : i.toInt = n) (hl : n + 6 ≤ l.length) (hb : l.length < 2147483648) (o1 : im_obj h 16 11 = some f1) (o2 : im_obj h1 164 12 = some f2) (hX : Ca d 69 [.ref 16, .int (l.getD (n + 1) 0), .int (l.getD (n + 2) 0), .int (l.getD (n + 3) 0)] h (some (.int y), h1)) (hM : Ca d 132 [.ref 164, .int (l.getD (n + 1) 0), .int (l.getD (n + 2) 0), .int (l.getD (n + 3) 0)] h1 (some (.int y), h2)) (kx : Ev (im_K1 l) d mL_law (1755, lwL i, [], h2) r) : Ev (im_K1 l) d mL_law (509, lwL i, [], h) r := by
  refine sp_aload_n (p2 := 510) rfl rfl rfl ?_
  refine lw_rd (p2 := 515) 1 rfl rfl rfl rfl rfl rfl (by decide) hi (by omega) hb ?_
  refine lw_rd (p2 := 520) 2 rfl rfl rfl rfl rfl rfl (by decide) hi (by omega) hb ?_
  refine lw_rd (p2 := 525) 3 rfl rfl rfl rfl rfl rfl (by decide) hi (by omega) hb ?_
  refine st_callV (R := 16) rfl rfl rfl o1 rfl hX ?_
  show Ev _ _ _ (528, lwL i, [.int y], h1) _
  refine sp_aload_n (p2 := 529) rfl rfl rfl ?_
  refine lw_rd (p2 := 534) 1 rfl rfl rfl rfl rfl rfl (by decide) hi (by omega) hb ?_
  refine lw_rd (p2 := 539) 2 rfl rfl rfl rfl rfl rfl (by decide) hi (by omega) hb ?_
  refine lw_rd (p2 := 544) 3 rfl rfl rfl rfl rfl rfl (by decide) hi (by omega) hb ?_
  refine st_callV (R := 164) rfl rfl rfl o2 rfl hM ?_
  show Ev _ _ _ (547, lwL i, [.int y, .int y], h2) _
  refine st_icmp (b := true) rfl (decide_eq_true rfl) ?_
  exact kx
set_option maxRecDepth 10000 in
set_option maxHeartbeats 2000000 in
theorem lo_room {l : List Int32} {d n : Nat} {i : Int32} {h h1 h2 : im_H} {r : Option Value × im_H} {y : Int32} {f1 f2 : List Value} (hi : i.toInt = n) (hl : n + 6 ≤ l.length) (hb : l.length < 2147483648) (o1 : im_obj h 16 11 = some f1) (o2 : im_obj h1 164 12 = some f2) (hX : Ca d 71 [.ref 16, .int (l.getD (n + 1) 0), .int (l.getD (n + 2) 0), .int (l.getD (n + 3) 0), .int (l.getD (n + 4) 0)] h (some (.int y), h1)) (hM : Ca d 133 [.ref 164, .int (l.getD (n + 1) 0), .int (l.getD (n + 2) 0), .int (l.getD (n + 3) 0), .int (l.getD (n + 4) 0)] h1 (some (.int y), h2)) (kx : Ev (im_K1 l) d mL_law (1755, lwL i, [], h2) r) : Ev (im_K1 l) d mL_law (552, lwL i, [], h) r := by
  refine sp_aload_n (p2 := 553) rfl rfl rfl ?_
  refine lw_rd (p2 := 558) 1 rfl rfl rfl rfl rfl rfl (by decide) hi (by omega) hb ?_
  refine lw_rd (p2 := 563) 2 rfl rfl rfl rfl rfl rfl (by decide) hi (by omega) hb ?_
  refine lw_rd (p2 := 568) 3 rfl rfl rfl rfl rfl rfl (by decide) hi (by omega) hb ?_
  refine lw_rd (p2 := 573) 4 rfl rfl rfl rfl rfl rfl (by decide) hi (by omega) hb ?_
  refine st_callV (R := 16) rfl rfl rfl o1 rfl hX ?_
  show Ev _ _ _ (576, lwL i, [.int y], h1) _
  refine sp_aload_n (p2 := 577) rfl rfl rfl ?_
  refine lw_rd (p2 := 582) 1 rfl rfl rfl rfl rfl rfl (by decide) hi (by omega) hb ?_
  refine lw_rd (p2 := 587) 2 rfl rfl rfl rfl rfl rfl (by decide) hi (by omega) hb ?_
  refine lw_rd (p2 := 592) 3 rfl rfl rfl rfl rfl rfl (by decide) hi (by omega) hb ?_
  refine lw_rd (p2 := 597) 4 rfl rfl rfl rfl rfl rfl (by decide) hi (by omega) hb ?_
  refine st_callV (R := 164) rfl rfl rfl o2 rfl hM ?_
  show Ev _ _ _ (600, lwL i, [.int y, .int y], h2) _
  refine st_icmp (b := true) rfl (decide_eq_true rfl) ?_
  exact kx
set_option maxRecDepth 10000 in
set_option maxHeartbeats 2000000 in
theorem lo_feed {l : List Int32} {d n : Nat} {i : Int32} {h h1 h2 : im_H} {r : Option Value × im_H} {y : Int32} {f1 f2 : List Value} (hi : i.toInt = n) (hl : n + 6 ≤ l.length) (hb : l.length < 2147483648) (o1 : im_obj h 16 11 = some f1) (o2 : im_obj h1 164 12 = some f2) (hX : Ca d 72 [.ref 16, .long (((Int32.toInt64 (l.getD (n + 1) 0)) <<< (Int32.toInt64 32 &&& 63)) ||| ((Int32.toInt64 (l.getD (n + 2) 0)) &&& 4294967295)), .int (l.getD (n + 3) 0)] h (some (.int y), h1)) (hM : Ca d 134 [.ref 164, .long (((Int32.toInt64 (l.getD (n + 1) 0)) <<< (Int32.toInt64 32 &&& 63)) ||| ((Int32.toInt64 (l.getD (n + 2) 0)) &&& 4294967295)), .int (l.getD (n + 3) 0)] h1 (some (.int y), h2)) (kx : Ev (im_K1 l) d mL_law (1755, lwL i, [], h2) r) : Ev (im_K1 l) d mL_law (605, lwL i, [], h) r := by
  refine sp_aload_n (p2 := 606) rfl rfl rfl ?_
  refine lw_rd (p2 := 611) 1 rfl rfl rfl rfl rfl rfl (by decide) hi (by omega) hb ?_
  refine sp_i2l (p2 := 612) (z := (Int32.toInt64 (l.getD (n + 1) 0))) rfl rfl rfl ?_
  refine sp_bipush (p2 := 614) (x := 32) rfl rfl (by decide) ?_
  refine sp_lshl (p2 := 615) (z := ((Int32.toInt64 (l.getD (n + 1) 0)) <<< (Int32.toInt64 32 &&& 63))) rfl rfl rfl ?_
  refine lw_rd (p2 := 620) 2 rfl rfl rfl rfl rfl rfl (by decide) hi (by omega) hb ?_
  refine sp_i2l (p2 := 621) (z := (Int32.toInt64 (l.getD (n + 2) 0))) rfl rfl rfl ?_
  refine sp_ldc2 (p2 := 624) (x := 4294967295) rfl rfl rfl ?_
  refine sp_land (p2 := 625) (z := ((Int32.toInt64 (l.getD (n + 2) 0)) &&& 4294967295)) rfl rfl rfl ?_
  refine sp_lor (p2 := 626) (z := (((Int32.toInt64 (l.getD (n + 1) 0)) <<< (Int32.toInt64 32 &&& 63)) ||| ((Int32.toInt64 (l.getD (n + 2) 0)) &&& 4294967295))) rfl rfl rfl ?_
  refine lw_rd (p2 := 631) 3 rfl rfl rfl rfl rfl rfl (by decide) hi (by omega) hb ?_
  refine st_callV (R := 16) rfl rfl rfl o1 rfl hX ?_
  show Ev _ _ _ (634, lwL i, [.int y], h1) _
  refine sp_aload_n (p2 := 635) rfl rfl rfl ?_
  refine lw_rd (p2 := 640) 1 rfl rfl rfl rfl rfl rfl (by decide) hi (by omega) hb ?_
  refine sp_i2l (p2 := 641) (z := (Int32.toInt64 (l.getD (n + 1) 0))) rfl rfl rfl ?_
  refine sp_bipush (p2 := 643) (x := 32) rfl rfl (by decide) ?_
  refine sp_lshl (p2 := 644) (z := ((Int32.toInt64 (l.getD (n + 1) 0)) <<< (Int32.toInt64 32 &&& 63))) rfl rfl rfl ?_
  refine lw_rd (p2 := 649) 2 rfl rfl rfl rfl rfl rfl (by decide) hi (by omega) hb ?_
  refine sp_i2l (p2 := 650) (z := (Int32.toInt64 (l.getD (n + 2) 0))) rfl rfl rfl ?_
  refine sp_ldc2 (p2 := 653) (x := 4294967295) rfl rfl rfl ?_
  refine sp_land (p2 := 654) (z := ((Int32.toInt64 (l.getD (n + 2) 0)) &&& 4294967295)) rfl rfl rfl ?_
  refine sp_lor (p2 := 655) (z := (((Int32.toInt64 (l.getD (n + 1) 0)) <<< (Int32.toInt64 32 &&& 63)) ||| ((Int32.toInt64 (l.getD (n + 2) 0)) &&& 4294967295))) rfl rfl rfl ?_
  refine lw_rd (p2 := 660) 3 rfl rfl rfl rfl rfl rfl (by decide) hi (by omega) hb ?_
  refine st_callV (R := 164) rfl rfl rfl o2 rfl hM ?_
  show Ev _ _ _ (663, lwL i, [.int y, .int y], h2) _
  refine st_icmp (b := true) rfl (decide_eq_true rfl) ?_
  exact kx
set_option maxRecDepth 10000 in
set_option maxHeartbeats 2000000 in
theorem lo_order {l : List Int32} {d n : Nat} {i : Int32} {h h1 h2 : im_H} {r : Option Value × im_H} {y : Int32} {f1 f2 : List Value} (hi : i.toInt = n) (hl : n + 6 ≤ l.length) (hb : l.length < 2147483648) (o1 : im_obj h 16 11 = some f1) (o2 : im_obj h1 164 12 = some f2) (hX : Ca d 73 [.ref 16] h (some (.int y), h1)) (hM : Ca d 140 [.ref 164] h1 (some (.int y), h2)) (kx : Ev (im_K1 l) d mL_law (1755, lwL i, [], h2) r) : Ev (im_K1 l) d mL_law (668, lwL i, [], h) r := by
  refine sp_aload_n (p2 := 669) rfl rfl rfl ?_
  refine st_callV (R := 16) rfl rfl rfl o1 rfl hX ?_
  show Ev _ _ _ (672, lwL i, [.int y], h1) _
  refine sp_aload_n (p2 := 673) rfl rfl rfl ?_
  refine st_callV (R := 164) rfl rfl rfl o2 rfl hM ?_
  show Ev _ _ _ (676, lwL i, [.int y, .int y], h2) _
  refine st_icmp (b := true) rfl (decide_eq_true rfl) ?_
  exact kx
set_option maxRecDepth 10000 in
set_option maxHeartbeats 2000000 in
theorem lo_force {l : List Int32} {d n : Nat} {i : Int32} {h h1 h2 : im_H} {r : Option Value × im_H} {y : Int32} {f1 f2 : List Value} (hi : i.toInt = n) (hl : n + 6 ≤ l.length) (hb : l.length < 2147483648) (o1 : im_obj h 16 11 = some f1) (o2 : im_obj h1 164 12 = some f2) (hX : Ca d 74 [.ref 16, .int (l.getD (n + 1) 0)] h (some (.int y), h1)) (hM : Ca d 141 [.ref 164, .int (l.getD (n + 1) 0)] h1 (some (.int y), h2)) (kx : Ev (im_K1 l) d mL_law (1755, lwL i, [], h2) r) : Ev (im_K1 l) d mL_law (681, lwL i, [], h) r := by
  refine sp_aload_n (p2 := 682) rfl rfl rfl ?_
  refine lw_rd (p2 := 687) 1 rfl rfl rfl rfl rfl rfl (by decide) hi (by omega) hb ?_
  refine st_callV (R := 16) rfl rfl rfl o1 rfl hX ?_
  show Ev _ _ _ (690, lwL i, [.int y], h1) _
  refine sp_aload_n (p2 := 691) rfl rfl rfl ?_
  refine lw_rd (p2 := 696) 1 rfl rfl rfl rfl rfl rfl (by decide) hi (by omega) hb ?_
  refine st_callV (R := 164) rfl rfl rfl o2 rfl hM ?_
  show Ev _ _ _ (699, lwL i, [.int y, .int y], h2) _
  refine st_icmp (b := true) rfl (decide_eq_true rfl) ?_
  exact kx
set_option maxRecDepth 10000 in
set_option maxHeartbeats 2000000 in
theorem lo_says {l : List Int32} {d n : Nat} {i : Int32} {h h1 h2 : im_H} {r : Option Value × im_H} {y : Int32} {f1 f2 : List Value} (hi : i.toInt = n) (hl : n + 6 ≤ l.length) (hb : l.length < 2147483648) (o1 : im_obj h 16 11 = some f1) (o2 : im_obj h1 164 12 = some f2) (hX : Ca d 75 [.ref 16, .int (l.getD (n + 1) 0), .int (l.getD (n + 2) 0)] h (some (.int y), h1)) (hM : Ca d 145 [.ref 164, .int (l.getD (n + 1) 0), .int (l.getD (n + 2) 0)] h1 (some (.int y), h2)) (kx : Ev (im_K1 l) d mL_law (1755, lwL i, [], h2) r) : Ev (im_K1 l) d mL_law (704, lwL i, [], h) r := by
  refine sp_aload_n (p2 := 705) rfl rfl rfl ?_
  refine lw_rd (p2 := 710) 1 rfl rfl rfl rfl rfl rfl (by decide) hi (by omega) hb ?_
  refine lw_rd (p2 := 715) 2 rfl rfl rfl rfl rfl rfl (by decide) hi (by omega) hb ?_
  refine st_callV (R := 16) rfl rfl rfl o1 rfl hX ?_
  show Ev _ _ _ (718, lwL i, [.int y], h1) _
  refine sp_aload_n (p2 := 719) rfl rfl rfl ?_
  refine lw_rd (p2 := 724) 1 rfl rfl rfl rfl rfl rfl (by decide) hi (by omega) hb ?_
  refine lw_rd (p2 := 729) 2 rfl rfl rfl rfl rfl rfl (by decide) hi (by omega) hb ?_
  refine st_callV (R := 164) rfl rfl rfl o2 rfl hM ?_
  show Ev _ _ _ (732, lwL i, [.int y, .int y], h2) _
  refine st_icmp (b := true) rfl (decide_eq_true rfl) ?_
  exact kx
set_option maxRecDepth 10000 in
set_option maxHeartbeats 2000000 in
theorem lo_run {l : List Int32} {d n : Nat} {i : Int32} {h h1 h2 : im_H} {r : Option Value × im_H} {y : Int32} {f1 f2 : List Value} (hi : i.toInt = n) (hl : n + 6 ≤ l.length) (hb : l.length < 2147483648) (o1 : im_obj h 16 11 = some f1) (o2 : im_obj h1 164 12 = some f2) (hX : Ca d 76 [.ref 16, .int (l.getD (n + 1) 0)] h (some (.int y), h1)) (hM : Ca d 155 [.ref 164, .int (l.getD (n + 1) 0)] h1 (some (.int y), h2)) (kx : Ev (im_K1 l) d mL_law (1755, lwL i, [], h2) r) : Ev (im_K1 l) d mL_law (737, lwL i, [], h) r := by
  refine sp_aload_n (p2 := 738) rfl rfl rfl ?_
  refine lw_rd (p2 := 743) 1 rfl rfl rfl rfl rfl rfl (by decide) hi (by omega) hb ?_
  refine st_callV (R := 16) rfl rfl rfl o1 rfl hX ?_
  show Ev _ _ _ (746, lwL i, [.int y], h1) _
  refine sp_aload_n (p2 := 747) rfl rfl rfl ?_
  refine lw_rd (p2 := 752) 1 rfl rfl rfl rfl rfl rfl (by decide) hi (by omega) hb ?_
  refine st_callV (R := 164) rfl rfl rfl o2 rfl hM ?_
  show Ev _ _ _ (755, lwL i, [.int y, .int y], h2) _
  refine st_icmp (b := true) rfl (decide_eq_true rfl) ?_
  exact kx
set_option maxRecDepth 10000 in
set_option maxHeartbeats 2000000 in
theorem lo_cellTold {l : List Int32} {d n : Nat} {i : Int32} {h h1 h2 : im_H} {r : Option Value × im_H} {y : Int32} {f1 f2 : List Value} (hi : i.toInt = n) (hl : n + 6 ≤ l.length) (hb : l.length < 2147483648) (o1 : im_obj h 16 11 = some f1) (o2 : im_obj h1 164 12 = some f2) (hX : Ca d 77 [.ref 16, .int (l.getD (n + 1) 0), .int (l.getD (n + 2) 0)] h (some (.int y), h1)) (hM : Ca d 156 [.ref 164, .int (l.getD (n + 1) 0), .int (l.getD (n + 2) 0)] h1 (some (.int y), h2)) (kx : Ev (im_K1 l) d mL_law (1755, lwL i, [], h2) r) : Ev (im_K1 l) d mL_law (760, lwL i, [], h) r := by
  refine sp_aload_n (p2 := 761) rfl rfl rfl ?_
  refine lw_rd (p2 := 766) 1 rfl rfl rfl rfl rfl rfl (by decide) hi (by omega) hb ?_
  refine lw_rd (p2 := 771) 2 rfl rfl rfl rfl rfl rfl (by decide) hi (by omega) hb ?_
  refine st_callV (R := 16) rfl rfl rfl o1 rfl hX ?_
  show Ev _ _ _ (774, lwL i, [.int y], h1) _
  refine sp_aload_n (p2 := 775) rfl rfl rfl ?_
  refine lw_rd (p2 := 780) 1 rfl rfl rfl rfl rfl rfl (by decide) hi (by omega) hb ?_
  refine lw_rd (p2 := 785) 2 rfl rfl rfl rfl rfl rfl (by decide) hi (by omega) hb ?_
  refine st_callV (R := 164) rfl rfl rfl o2 rfl hM ?_
  show Ev _ _ _ (788, lwL i, [.int y, .int y], h2) _
  refine st_icmp (b := true) rfl (decide_eq_true rfl) ?_
  exact kx
set_option maxRecDepth 10000 in
set_option maxHeartbeats 2000000 in
theorem lo_kindTold {l : List Int32} {d n : Nat} {i : Int32} {h h1 h2 : im_H} {r : Option Value × im_H} {y : Int32} {f1 f2 : List Value} (hi : i.toInt = n) (hl : n + 6 ≤ l.length) (hb : l.length < 2147483648) (o1 : im_obj h 16 11 = some f1) (o2 : im_obj h1 164 12 = some f2) (hX : Ca d 78 [.ref 16, .int (l.getD (n + 1) 0), .int (l.getD (n + 2) 0)] h (some (.int y), h1)) (hM : Ca d 157 [.ref 164, .int (l.getD (n + 1) 0), .int (l.getD (n + 2) 0)] h1 (some (.int y), h2)) (kx : Ev (im_K1 l) d mL_law (1755, lwL i, [], h2) r) : Ev (im_K1 l) d mL_law (793, lwL i, [], h) r := by
  refine sp_aload_n (p2 := 794) rfl rfl rfl ?_
  refine lw_rd (p2 := 799) 1 rfl rfl rfl rfl rfl rfl (by decide) hi (by omega) hb ?_
  refine lw_rd (p2 := 804) 2 rfl rfl rfl rfl rfl rfl (by decide) hi (by omega) hb ?_
  refine st_callV (R := 16) rfl rfl rfl o1 rfl hX ?_
  show Ev _ _ _ (807, lwL i, [.int y], h1) _
  refine sp_aload_n (p2 := 808) rfl rfl rfl ?_
  refine lw_rd (p2 := 813) 1 rfl rfl rfl rfl rfl rfl (by decide) hi (by omega) hb ?_
  refine lw_rd (p2 := 818) 2 rfl rfl rfl rfl rfl rfl (by decide) hi (by omega) hb ?_
  refine st_callV (R := 164) rfl rfl rfl o2 rfl hM ?_
  show Ev _ _ _ (821, lwL i, [.int y, .int y], h2) _
  refine st_icmp (b := true) rfl (decide_eq_true rfl) ?_
  exact kx
set_option maxRecDepth 10000 in
set_option maxHeartbeats 2000000 in
theorem lo_personTold {l : List Int32} {d n : Nat} {i : Int32} {h h1 h2 : im_H} {r : Option Value × im_H} {y : Int32} {f1 f2 : List Value} (hi : i.toInt = n) (hl : n + 6 ≤ l.length) (hb : l.length < 2147483648) (o1 : im_obj h 16 11 = some f1) (o2 : im_obj h1 164 12 = some f2) (hX : Ca d 79 [.ref 16, .int (l.getD (n + 1) 0), .int (l.getD (n + 2) 0)] h (some (.int y), h1)) (hM : Ca d 158 [.ref 164, .int (l.getD (n + 1) 0), .int (l.getD (n + 2) 0)] h1 (some (.int y), h2)) (kx : Ev (im_K1 l) d mL_law (1755, lwL i, [], h2) r) : Ev (im_K1 l) d mL_law (826, lwL i, [], h) r := by
  refine sp_aload_n (p2 := 827) rfl rfl rfl ?_
  refine lw_rd (p2 := 832) 1 rfl rfl rfl rfl rfl rfl (by decide) hi (by omega) hb ?_
  refine lw_rd (p2 := 837) 2 rfl rfl rfl rfl rfl rfl (by decide) hi (by omega) hb ?_
  refine st_callV (R := 16) rfl rfl rfl o1 rfl hX ?_
  show Ev _ _ _ (840, lwL i, [.int y], h1) _
  refine sp_aload_n (p2 := 841) rfl rfl rfl ?_
  refine lw_rd (p2 := 846) 1 rfl rfl rfl rfl rfl rfl (by decide) hi (by omega) hb ?_
  refine lw_rd (p2 := 851) 2 rfl rfl rfl rfl rfl rfl (by decide) hi (by omega) hb ?_
  refine st_callV (R := 164) rfl rfl rfl o2 rfl hM ?_
  show Ev _ _ _ (854, lwL i, [.int y, .int y], h2) _
  refine st_icmp (b := true) rfl (decide_eq_true rfl) ?_
  exact kx
set_option maxRecDepth 10000 in
set_option maxHeartbeats 2000000 in
theorem lo_rowTold {l : List Int32} {d n : Nat} {i : Int32} {h h1 h2 : im_H} {r : Option Value × im_H} {y : Int32} {f1 f2 : List Value} (hi : i.toInt = n) (hl : n + 6 ≤ l.length) (hb : l.length < 2147483648) (o1 : im_obj h 16 11 = some f1) (o2 : im_obj h1 164 12 = some f2) (hX : Ca d 80 [.ref 16, .int (l.getD (n + 1) 0), .int (l.getD (n + 2) 0)] h (some (.int y), h1)) (hM : Ca d 159 [.ref 164, .int (l.getD (n + 1) 0), .int (l.getD (n + 2) 0)] h1 (some (.int y), h2)) (kx : Ev (im_K1 l) d mL_law (1755, lwL i, [], h2) r) : Ev (im_K1 l) d mL_law (859, lwL i, [], h) r := by
  refine sp_aload_n (p2 := 860) rfl rfl rfl ?_
  refine lw_rd (p2 := 865) 1 rfl rfl rfl rfl rfl rfl (by decide) hi (by omega) hb ?_
  refine lw_rd (p2 := 870) 2 rfl rfl rfl rfl rfl rfl (by decide) hi (by omega) hb ?_
  refine st_callV (R := 16) rfl rfl rfl o1 rfl hX ?_
  show Ev _ _ _ (873, lwL i, [.int y], h1) _
  refine sp_aload_n (p2 := 874) rfl rfl rfl ?_
  refine lw_rd (p2 := 879) 1 rfl rfl rfl rfl rfl rfl (by decide) hi (by omega) hb ?_
  refine lw_rd (p2 := 884) 2 rfl rfl rfl rfl rfl rfl (by decide) hi (by omega) hb ?_
  refine st_callV (R := 164) rfl rfl rfl o2 rfl hM ?_
  show Ev _ _ _ (887, lwL i, [.int y, .int y], h2) _
  refine st_icmp (b := true) rfl (decide_eq_true rfl) ?_
  exact kx
set_option maxRecDepth 10000 in
set_option maxHeartbeats 2000000 in
theorem lo_railTold {l : List Int32} {d n : Nat} {i : Int32} {h h1 h2 : im_H} {r : Option Value × im_H} {y : Int32} {f1 f2 : List Value} (hi : i.toInt = n) (hl : n + 6 ≤ l.length) (hb : l.length < 2147483648) (o1 : im_obj h 16 11 = some f1) (o2 : im_obj h1 164 12 = some f2) (hX : Ca d 81 [.ref 16, .int (l.getD (n + 1) 0), .int (l.getD (n + 2) 0)] h (some (.int y), h1)) (hM : Ca d 160 [.ref 164, .int (l.getD (n + 1) 0), .int (l.getD (n + 2) 0)] h1 (some (.int y), h2)) (kx : Ev (im_K1 l) d mL_law (1755, lwL i, [], h2) r) : Ev (im_K1 l) d mL_law (892, lwL i, [], h) r := by
  refine sp_aload_n (p2 := 893) rfl rfl rfl ?_
  refine lw_rd (p2 := 898) 1 rfl rfl rfl rfl rfl rfl (by decide) hi (by omega) hb ?_
  refine lw_rd (p2 := 903) 2 rfl rfl rfl rfl rfl rfl (by decide) hi (by omega) hb ?_
  refine st_callV (R := 16) rfl rfl rfl o1 rfl hX ?_
  show Ev _ _ _ (906, lwL i, [.int y], h1) _
  refine sp_aload_n (p2 := 907) rfl rfl rfl ?_
  refine lw_rd (p2 := 912) 1 rfl rfl rfl rfl rfl rfl (by decide) hi (by omega) hb ?_
  refine lw_rd (p2 := 917) 2 rfl rfl rfl rfl rfl rfl (by decide) hi (by omega) hb ?_
  refine st_callV (R := 164) rfl rfl rfl o2 rfl hM ?_
  show Ev _ _ _ (920, lwL i, [.int y, .int y], h2) _
  refine st_icmp (b := true) rfl (decide_eq_true rfl) ?_
  exact kx
set_option maxRecDepth 10000 in
set_option maxHeartbeats 2000000 in
theorem lo_wallTold {l : List Int32} {d n : Nat} {i : Int32} {h h1 h2 : im_H} {r : Option Value × im_H} {y : Int32} {f1 f2 : List Value} (hi : i.toInt = n) (hl : n + 6 ≤ l.length) (hb : l.length < 2147483648) (o1 : im_obj h 16 11 = some f1) (o2 : im_obj h1 164 12 = some f2) (hX : Ca d 82 [.ref 16, .int (l.getD (n + 1) 0), .int (l.getD (n + 2) 0)] h (some (.int y), h1)) (hM : Ca d 162 [.ref 164, .int (l.getD (n + 1) 0), .int (l.getD (n + 2) 0)] h1 (some (.int y), h2)) (kx : Ev (im_K1 l) d mL_law (1755, lwL i, [], h2) r) : Ev (im_K1 l) d mL_law (925, lwL i, [], h) r := by
  refine sp_aload_n (p2 := 926) rfl rfl rfl ?_
  refine lw_rd (p2 := 931) 1 rfl rfl rfl rfl rfl rfl (by decide) hi (by omega) hb ?_
  refine lw_rd (p2 := 936) 2 rfl rfl rfl rfl rfl rfl (by decide) hi (by omega) hb ?_
  refine st_callV (R := 16) rfl rfl rfl o1 rfl hX ?_
  show Ev _ _ _ (939, lwL i, [.int y], h1) _
  refine sp_aload_n (p2 := 940) rfl rfl rfl ?_
  refine lw_rd (p2 := 945) 1 rfl rfl rfl rfl rfl rfl (by decide) hi (by omega) hb ?_
  refine lw_rd (p2 := 950) 2 rfl rfl rfl rfl rfl rfl (by decide) hi (by omega) hb ?_
  refine st_callV (R := 164) rfl rfl rfl o2 rfl hM ?_
  show Ev _ _ _ (953, lwL i, [.int y, .int y], h2) _
  refine st_icmp (b := true) rfl (decide_eq_true rfl) ?_
  exact kx
set_option maxRecDepth 10000 in
set_option maxHeartbeats 2000000 in
theorem lo_count {l : List Int32} {d n : Nat} {i : Int32} {h h1 h2 : im_H} {r : Option Value × im_H} {y : Int32} {f1 f2 : List Value} (hi : i.toInt = n) (hl : n + 6 ≤ l.length) (hb : l.length < 2147483648) (o1 : im_obj h 16 11 = some f1) (o2 : im_obj h1 164 12 = some f2) (hX : Ca d 83 [.ref 16, .int (l.getD (n + 1) 0)] h (some (.int y), h1)) (hM : Ca d 164 [.ref 164, .int (l.getD (n + 1) 0)] h1 (some (.int y), h2)) (kx : Ev (im_K1 l) d mL_law (1755, lwL i, [], h2) r) : Ev (im_K1 l) d mL_law (958, lwL i, [], h) r := by
  refine sp_aload_n (p2 := 959) rfl rfl rfl ?_
  refine lw_rd (p2 := 964) 1 rfl rfl rfl rfl rfl rfl (by decide) hi (by omega) hb ?_
  refine st_callV (R := 16) rfl rfl rfl o1 rfl hX ?_
  show Ev _ _ _ (967, lwL i, [.int y], h1) _
  refine sp_aload_n (p2 := 968) rfl rfl rfl ?_
  refine lw_rd (p2 := 973) 1 rfl rfl rfl rfl rfl rfl (by decide) hi (by omega) hb ?_
  refine st_callV (R := 164) rfl rfl rfl o2 rfl hM ?_
  show Ev _ _ _ (976, lwL i, [.int y, .int y], h2) _
  refine st_icmp (b := true) rfl (decide_eq_true rfl) ?_
  exact kx
set_option maxRecDepth 10000 in
set_option maxHeartbeats 2000000 in
theorem lo_pull {l : List Int32} {d n : Nat} {i : Int32} {h h1 h2 : im_H} {r : Option Value × im_H} {y : Int32} {f1 f2 : List Value} (hi : i.toInt = n) (hl : n + 6 ≤ l.length) (hb : l.length < 2147483648) (o1 : im_obj h 16 11 = some f1) (o2 : im_obj h1 164 12 = some f2) (hX : Ca d 84 [.ref 16, .int (l.getD (n + 1) 0)] h (some (.int y), h1)) (hM : Ca d 165 [.ref 164, .int (l.getD (n + 1) 0)] h1 (some (.int y), h2)) (kx : Ev (im_K1 l) d mL_law (1755, lwL i, [], h2) r) : Ev (im_K1 l) d mL_law (981, lwL i, [], h) r := by
  refine sp_aload_n (p2 := 982) rfl rfl rfl ?_
  refine lw_rd (p2 := 987) 1 rfl rfl rfl rfl rfl rfl (by decide) hi (by omega) hb ?_
  refine st_callV (R := 16) rfl rfl rfl o1 rfl hX ?_
  show Ev _ _ _ (990, lwL i, [.int y], h1) _
  refine sp_aload_n (p2 := 991) rfl rfl rfl ?_
  refine lw_rd (p2 := 996) 1 rfl rfl rfl rfl rfl rfl (by decide) hi (by omega) hb ?_
  refine st_callV (R := 164) rfl rfl rfl o2 rfl hM ?_
  show Ev _ _ _ (999, lwL i, [.int y, .int y], h2) _
  refine st_icmp (b := true) rfl (decide_eq_true rfl) ?_
  exact kx
set_option maxRecDepth 10000 in
set_option maxHeartbeats 2000000 in
theorem lo_pulls {l : List Int32} {d n : Nat} {i : Int32} {h h1 h2 : im_H} {r : Option Value × im_H} {y : Int32} {f1 f2 : List Value} (hi : i.toInt = n) (hl : n + 6 ≤ l.length) (hb : l.length < 2147483648) (o1 : im_obj h 16 11 = some f1) (o2 : im_obj h1 164 12 = some f2) (hX : Ca d 85 [.ref 16, .int (l.getD (n + 1) 0)] h (some (.int y), h1)) (hM : Ca d 168 [.ref 164, .int (l.getD (n + 1) 0)] h1 (some (.int y), h2)) (kx : Ev (im_K1 l) d mL_law (1755, lwL i, [], h2) r) : Ev (im_K1 l) d mL_law (1004, lwL i, [], h) r := by
  refine sp_aload_n (p2 := 1005) rfl rfl rfl ?_
  refine lw_rd (p2 := 1010) 1 rfl rfl rfl rfl rfl rfl (by decide) hi (by omega) hb ?_
  refine st_callV (R := 16) rfl rfl rfl o1 rfl hX ?_
  show Ev _ _ _ (1013, lwL i, [.int y], h1) _
  refine sp_aload_n (p2 := 1014) rfl rfl rfl ?_
  refine lw_rd (p2 := 1019) 1 rfl rfl rfl rfl rfl rfl (by decide) hi (by omega) hb ?_
  refine st_callV (R := 164) rfl rfl rfl o2 rfl hM ?_
  show Ev _ _ _ (1022, lwL i, [.int y, .int y], h2) _
  refine st_icmp (b := true) rfl (decide_eq_true rfl) ?_
  exact kx
set_option maxRecDepth 10000 in
set_option maxHeartbeats 2000000 in
theorem lo_pullTold {l : List Int32} {d n : Nat} {i : Int32} {h h1 h2 : im_H} {r : Option Value × im_H} {y : Int32} {f1 f2 : List Value} (hi : i.toInt = n) (hl : n + 6 ≤ l.length) (hb : l.length < 2147483648) (o1 : im_obj h 16 11 = some f1) (o2 : im_obj h1 164 12 = some f2) (hX : Ca d 87 [.ref 16, .int (l.getD (n + 1) 0)] h (some (.int y), h1)) (hM : Ca d 169 [.ref 164, .int (l.getD (n + 1) 0)] h1 (some (.int y), h2)) (kx : Ev (im_K1 l) d mL_law (1755, lwL i, [], h2) r) : Ev (im_K1 l) d mL_law (1027, lwL i, [], h) r := by
  refine sp_aload_n (p2 := 1028) rfl rfl rfl ?_
  refine lw_rd (p2 := 1033) 1 rfl rfl rfl rfl rfl rfl (by decide) hi (by omega) hb ?_
  refine st_callV (R := 16) rfl rfl rfl o1 rfl hX ?_
  show Ev _ _ _ (1036, lwL i, [.int y], h1) _
  refine sp_aload_n (p2 := 1037) rfl rfl rfl ?_
  refine lw_rd (p2 := 1042) 1 rfl rfl rfl rfl rfl rfl (by decide) hi (by omega) hb ?_
  refine st_callV (R := 164) rfl rfl rfl o2 rfl hM ?_
  show Ev _ _ _ (1045, lwL i, [.int y, .int y], h2) _
  refine st_icmp (b := true) rfl (decide_eq_true rfl) ?_
  exact kx
set_option maxRecDepth 10000 in
set_option maxHeartbeats 2000000 in
theorem lo_mends {l : List Int32} {d n : Nat} {i : Int32} {h h1 h2 : im_H} {r : Option Value × im_H} {y : Int32} {f1 f2 : List Value} (hi : i.toInt = n) (hl : n + 6 ≤ l.length) (hb : l.length < 2147483648) (o1 : im_obj h 16 11 = some f1) (o2 : im_obj h1 164 12 = some f2) (hX : Ca d 88 [.ref 16, .int (l.getD (n + 1) 0)] h (some (.int y), h1)) (hM : Ca d 170 [.ref 164, .int (l.getD (n + 1) 0)] h1 (some (.int y), h2)) (kx : Ev (im_K1 l) d mL_law (1755, lwL i, [], h2) r) : Ev (im_K1 l) d mL_law (1050, lwL i, [], h) r := by
  refine sp_aload_n (p2 := 1051) rfl rfl rfl ?_
  refine lw_rd (p2 := 1056) 1 rfl rfl rfl rfl rfl rfl (by decide) hi (by omega) hb ?_
  refine st_callV (R := 16) rfl rfl rfl o1 rfl hX ?_
  show Ev _ _ _ (1059, lwL i, [.int y], h1) _
  refine sp_aload_n (p2 := 1060) rfl rfl rfl ?_
  refine lw_rd (p2 := 1065) 1 rfl rfl rfl rfl rfl rfl (by decide) hi (by omega) hb ?_
  refine st_callV (R := 164) rfl rfl rfl o2 rfl hM ?_
  show Ev _ _ _ (1068, lwL i, [.int y, .int y], h2) _
  refine st_icmp (b := true) rfl (decide_eq_true rfl) ?_
  exact kx
set_option maxRecDepth 10000 in
set_option maxHeartbeats 2000000 in
theorem lo_mendTold {l : List Int32} {d n : Nat} {i : Int32} {h h1 h2 : im_H} {r : Option Value × im_H} {y : Int32} {f1 f2 : List Value} (hi : i.toInt = n) (hl : n + 6 ≤ l.length) (hb : l.length < 2147483648) (o1 : im_obj h 16 11 = some f1) (o2 : im_obj h1 164 12 = some f2) (hX : Ca d 89 [.ref 16] h (some (.int y), h1)) (hM : Ca d 171 [.ref 164] h1 (some (.int y), h2)) (kx : Ev (im_K1 l) d mL_law (1755, lwL i, [], h2) r) : Ev (im_K1 l) d mL_law (1073, lwL i, [], h) r := by
  refine sp_aload_n (p2 := 1074) rfl rfl rfl ?_
  refine st_callV (R := 16) rfl rfl rfl o1 rfl hX ?_
  show Ev _ _ _ (1077, lwL i, [.int y], h1) _
  refine sp_aload_n (p2 := 1078) rfl rfl rfl ?_
  refine st_callV (R := 164) rfl rfl rfl o2 rfl hM ?_
  show Ev _ _ _ (1081, lwL i, [.int y, .int y], h2) _
  refine st_icmp (b := true) rfl (decide_eq_true rfl) ?_
  exact kx
set_option maxRecDepth 10000 in
set_option maxHeartbeats 2000000 in
theorem lo_mend {l : List Int32} {d n : Nat} {i : Int32} {h h1 h2 : im_H} {r : Option Value × im_H} {y : Int32} {f1 f2 : List Value} (hi : i.toInt = n) (hl : n + 6 ≤ l.length) (hb : l.length < 2147483648) (o1 : im_obj h 16 11 = some f1) (o2 : im_obj h1 164 12 = some f2) (hX : Ca d 90 [.ref 16, .int (l.getD (n + 1) 0)] h (some (.int y), h1)) (hM : Ca d 173 [.ref 164, .int (l.getD (n + 1) 0)] h1 (some (.int y), h2)) (kx : Ev (im_K1 l) d mL_law (1755, lwL i, [], h2) r) : Ev (im_K1 l) d mL_law (1086, lwL i, [], h) r := by
  refine sp_aload_n (p2 := 1087) rfl rfl rfl ?_
  refine lw_rd (p2 := 1092) 1 rfl rfl rfl rfl rfl rfl (by decide) hi (by omega) hb ?_
  refine st_callV (R := 16) rfl rfl rfl o1 rfl hX ?_
  show Ev _ _ _ (1095, lwL i, [.int y], h1) _
  refine sp_aload_n (p2 := 1096) rfl rfl rfl ?_
  refine lw_rd (p2 := 1101) 1 rfl rfl rfl rfl rfl rfl (by decide) hi (by omega) hb ?_
  refine st_callV (R := 164) rfl rfl rfl o2 rfl hM ?_
  show Ev _ _ _ (1104, lwL i, [.int y, .int y], h2) _
  refine st_icmp (b := true) rfl (decide_eq_true rfl) ?_
  exact kx
set_option maxRecDepth 10000 in
set_option maxHeartbeats 2000000 in
theorem lo_roomTold {l : List Int32} {d n : Nat} {i : Int32} {h h1 h2 : im_H} {r : Option Value × im_H} {y : Int32} {f1 f2 : List Value} (hi : i.toInt = n) (hl : n + 6 ≤ l.length) (hb : l.length < 2147483648) (o1 : im_obj h 16 11 = some f1) (o2 : im_obj h1 164 12 = some f2) (hX : Ca d 91 [.ref 16, .int (l.getD (n + 1) 0), .int (l.getD (n + 2) 0)] h (some (.int y), h1)) (hM : Ca d 174 [.ref 164, .int (l.getD (n + 1) 0), .int (l.getD (n + 2) 0)] h1 (some (.int y), h2)) (kx : Ev (im_K1 l) d mL_law (1755, lwL i, [], h2) r) : Ev (im_K1 l) d mL_law (1109, lwL i, [], h) r := by
  refine sp_aload_n (p2 := 1110) rfl rfl rfl ?_
  refine lw_rd (p2 := 1115) 1 rfl rfl rfl rfl rfl rfl (by decide) hi (by omega) hb ?_
  refine lw_rd (p2 := 1120) 2 rfl rfl rfl rfl rfl rfl (by decide) hi (by omega) hb ?_
  refine st_callV (R := 16) rfl rfl rfl o1 rfl hX ?_
  show Ev _ _ _ (1123, lwL i, [.int y], h1) _
  refine sp_aload_n (p2 := 1124) rfl rfl rfl ?_
  refine lw_rd (p2 := 1129) 1 rfl rfl rfl rfl rfl rfl (by decide) hi (by omega) hb ?_
  refine lw_rd (p2 := 1134) 2 rfl rfl rfl rfl rfl rfl (by decide) hi (by omega) hb ?_
  refine st_callV (R := 164) rfl rfl rfl o2 rfl hM ?_
  show Ev _ _ _ (1137, lwL i, [.int y, .int y], h2) _
  refine st_icmp (b := true) rfl (decide_eq_true rfl) ?_
  exact kx
set_option maxRecDepth 10000 in
set_option maxHeartbeats 2000000 in
theorem lo_raid {l : List Int32} {d n : Nat} {i : Int32} {h h1 h2 : im_H} {r : Option Value × im_H} {y : Int32} {f1 f2 : List Value} (hi : i.toInt = n) (hl : n + 6 ≤ l.length) (hb : l.length < 2147483648) (o1 : im_obj h 16 11 = some f1) (o2 : im_obj h1 164 12 = some f2) (hX : Ca d 92 [.ref 16, .int (l.getD (n + 1) 0), .int (l.getD (n + 2) 0), .int (l.getD (n + 3) 0), .int (l.getD (n + 4) 0)] h (some (.int y), h1)) (hM : Ca d 175 [.ref 164, .int (l.getD (n + 1) 0), .int (l.getD (n + 2) 0), .int (l.getD (n + 3) 0), .int (l.getD (n + 4) 0)] h1 (some (.int y), h2)) (kx : Ev (im_K1 l) d mL_law (1755, lwL i, [], h2) r) : Ev (im_K1 l) d mL_law (1142, lwL i, [], h) r := by
  refine sp_aload_n (p2 := 1143) rfl rfl rfl ?_
  refine lw_rd (p2 := 1148) 1 rfl rfl rfl rfl rfl rfl (by decide) hi (by omega) hb ?_
  refine lw_rd (p2 := 1153) 2 rfl rfl rfl rfl rfl rfl (by decide) hi (by omega) hb ?_
  refine lw_rd (p2 := 1158) 3 rfl rfl rfl rfl rfl rfl (by decide) hi (by omega) hb ?_
  refine lw_rd (p2 := 1163) 4 rfl rfl rfl rfl rfl rfl (by decide) hi (by omega) hb ?_
  refine st_callV (R := 16) rfl rfl rfl o1 rfl hX ?_
  show Ev _ _ _ (1166, lwL i, [.int y], h1) _
  refine sp_aload_n (p2 := 1167) rfl rfl rfl ?_
  refine lw_rd (p2 := 1172) 1 rfl rfl rfl rfl rfl rfl (by decide) hi (by omega) hb ?_
  refine lw_rd (p2 := 1177) 2 rfl rfl rfl rfl rfl rfl (by decide) hi (by omega) hb ?_
  refine lw_rd (p2 := 1182) 3 rfl rfl rfl rfl rfl rfl (by decide) hi (by omega) hb ?_
  refine lw_rd (p2 := 1187) 4 rfl rfl rfl rfl rfl rfl (by decide) hi (by omega) hb ?_
  refine st_callV (R := 164) rfl rfl rfl o2 rfl hM ?_
  show Ev _ _ _ (1190, lwL i, [.int y, .int y], h2) _
  refine st_icmp (b := true) rfl (decide_eq_true rfl) ?_
  exact kx
set_option maxRecDepth 10000 in
set_option maxHeartbeats 2000000 in
theorem lo_probe {l : List Int32} {d n : Nat} {i : Int32} {h h1 h2 : im_H} {r : Option Value × im_H} {y : Int32} {f1 f2 : List Value} (hi : i.toInt = n) (hl : n + 6 ≤ l.length) (hb : l.length < 2147483648) (o1 : im_obj h 16 11 = some f1) (o2 : im_obj h1 164 12 = some f2) (hX : Ca d 93 [.ref 16, .int (l.getD (n + 1) 0), .int (l.getD (n + 2) 0)] h (some (.int y), h1)) (hM : Ca d 178 [.ref 164, .int (l.getD (n + 1) 0), .int (l.getD (n + 2) 0)] h1 (some (.int y), h2)) (kx : Ev (im_K1 l) d mL_law (1755, lwL i, [], h2) r) : Ev (im_K1 l) d mL_law (1195, lwL i, [], h) r := by
  refine sp_aload_n (p2 := 1196) rfl rfl rfl ?_
  refine lw_rd (p2 := 1201) 1 rfl rfl rfl rfl rfl rfl (by decide) hi (by omega) hb ?_
  refine lw_rd (p2 := 1206) 2 rfl rfl rfl rfl rfl rfl (by decide) hi (by omega) hb ?_
  refine st_callV (R := 16) rfl rfl rfl o1 rfl hX ?_
  show Ev _ _ _ (1209, lwL i, [.int y], h1) _
  refine sp_aload_n (p2 := 1210) rfl rfl rfl ?_
  refine lw_rd (p2 := 1215) 1 rfl rfl rfl rfl rfl rfl (by decide) hi (by omega) hb ?_
  refine lw_rd (p2 := 1220) 2 rfl rfl rfl rfl rfl rfl (by decide) hi (by omega) hb ?_
  refine st_callV (R := 164) rfl rfl rfl o2 rfl hM ?_
  show Ev _ _ _ (1223, lwL i, [.int y, .int y], h2) _
  refine st_icmp (b := true) rfl (decide_eq_true rfl) ?_
  exact kx
set_option maxRecDepth 10000 in
set_option maxHeartbeats 2000000 in
theorem lo_likely {l : List Int32} {d n : Nat} {i : Int32} {h h1 h2 : im_H} {r : Option Value × im_H} {y : Int64} {f1 f2 : List Value} (hi : i.toInt = n) (hl : n + 6 ≤ l.length) (hb : l.length < 2147483648) (o1 : im_obj h 16 11 = some f1) (o2 : im_obj h1 164 12 = some f2) (hX : Ca d 94 [.ref 16, .int (l.getD (n + 1) 0), .int (l.getD (n + 2) 0)] h (some (.long y), h1)) (hM : Ca d 180 [.ref 164, .int (l.getD (n + 1) 0), .int (l.getD (n + 2) 0)] h1 (some (.long y), h2)) (kx : Ev (im_K1 l) d mL_law (1755, lwL i, [], h2) r) : Ev (im_K1 l) d mL_law (1228, lwL i, [], h) r := by
  refine sp_aload_n (p2 := 1229) rfl rfl rfl ?_
  refine lw_rd (p2 := 1234) 1 rfl rfl rfl rfl rfl rfl (by decide) hi (by omega) hb ?_
  refine lw_rd (p2 := 1239) 2 rfl rfl rfl rfl rfl rfl (by decide) hi (by omega) hb ?_
  refine st_callV (R := 16) rfl rfl rfl o1 rfl hX ?_
  show Ev _ _ _ (1242, lwL i, [.long y], h1) _
  refine sp_aload_n (p2 := 1243) rfl rfl rfl ?_
  refine lw_rd (p2 := 1248) 1 rfl rfl rfl rfl rfl rfl (by decide) hi (by omega) hb ?_
  refine lw_rd (p2 := 1253) 2 rfl rfl rfl rfl rfl rfl (by decide) hi (by omega) hb ?_
  refine st_callV (R := 164) rfl rfl rfl o2 rfl hM ?_
  show Ev _ _ _ (1256, lwL i, [.long y, .long y], h2) _
  refine sp_lcmp (p2 := 1257) (z := 0) rfl rfl (lg_cmp_self _) ?_
  refine st_ifc (b := true) rfl (by decide) ?_
  exact kx
set_option maxRecDepth 10000 in
set_option maxHeartbeats 2000000 in
theorem lo_next {l : List Int32} {d n : Nat} {i : Int32} {h h1 h2 : im_H} {r : Option Value × im_H} {y : Int32} {f1 f2 : List Value} (hi : i.toInt = n) (hl : n + 6 ≤ l.length) (hb : l.length < 2147483648) (o1 : im_obj h 16 11 = some f1) (o2 : im_obj h1 164 12 = some f2) (hX : Ca d 95 [.ref 16] h (some (.int y), h1)) (hM : Ca d 181 [.ref 164] h1 (some (.int y), h2)) (kx : Ev (im_K1 l) d mL_law (1755, lwL i, [], h2) r) : Ev (im_K1 l) d mL_law (1262, lwL i, [], h) r := by
  refine sp_aload_n (p2 := 1263) rfl rfl rfl ?_
  refine st_callV (R := 16) rfl rfl rfl o1 rfl hX ?_
  show Ev _ _ _ (1266, lwL i, [.int y], h1) _
  refine sp_aload_n (p2 := 1267) rfl rfl rfl ?_
  refine st_callV (R := 164) rfl rfl rfl o2 rfl hM ?_
  show Ev _ _ _ (1270, lwL i, [.int y, .int y], h2) _
  refine st_icmp (b := true) rfl (decide_eq_true rfl) ?_
  exact kx
set_option maxRecDepth 10000 in
set_option maxHeartbeats 2000000 in
theorem lo_paper {l : List Int32} {d n : Nat} {i : Int32} {h h1 h2 : im_H} {r : Option Value × im_H} {y : Int32} {f1 f2 : List Value} (hi : i.toInt = n) (hl : n + 6 ≤ l.length) (hb : l.length < 2147483648) (o1 : im_obj h 16 11 = some f1) (o2 : im_obj h1 164 12 = some f2) (hX : Ca d 96 [.ref 16, .int (l.getD (n + 1) 0), .int (l.getD (n + 2) 0), .int (l.getD (n + 3) 0)] h (some (.int y), h1)) (hM : Ca d 182 [.ref 164, .int (l.getD (n + 1) 0), .int (l.getD (n + 2) 0), .int (l.getD (n + 3) 0)] h1 (some (.int y), h2)) (kx : Ev (im_K1 l) d mL_law (1755, lwL i, [], h2) r) : Ev (im_K1 l) d mL_law (1275, lwL i, [], h) r := by
  refine sp_aload_n (p2 := 1276) rfl rfl rfl ?_
  refine lw_rd (p2 := 1281) 1 rfl rfl rfl rfl rfl rfl (by decide) hi (by omega) hb ?_
  refine lw_rd (p2 := 1286) 2 rfl rfl rfl rfl rfl rfl (by decide) hi (by omega) hb ?_
  refine lw_rd (p2 := 1291) 3 rfl rfl rfl rfl rfl rfl (by decide) hi (by omega) hb ?_
  refine st_callV (R := 16) rfl rfl rfl o1 rfl hX ?_
  show Ev _ _ _ (1294, lwL i, [.int y], h1) _
  refine sp_aload_n (p2 := 1295) rfl rfl rfl ?_
  refine lw_rd (p2 := 1300) 1 rfl rfl rfl rfl rfl rfl (by decide) hi (by omega) hb ?_
  refine lw_rd (p2 := 1305) 2 rfl rfl rfl rfl rfl rfl (by decide) hi (by omega) hb ?_
  refine lw_rd (p2 := 1310) 3 rfl rfl rfl rfl rfl rfl (by decide) hi (by omega) hb ?_
  refine st_callV (R := 164) rfl rfl rfl o2 rfl hM ?_
  show Ev _ _ _ (1313, lwL i, [.int y, .int y], h2) _
  refine st_icmp (b := true) rfl (decide_eq_true rfl) ?_
  exact kx
set_option maxRecDepth 10000 in
set_option maxHeartbeats 2000000 in
theorem lo_burn {l : List Int32} {d n : Nat} {i : Int32} {h h1 h2 : im_H} {r : Option Value × im_H} {y : Int32} {f1 f2 : List Value} (hi : i.toInt = n) (hl : n + 6 ≤ l.length) (hb : l.length < 2147483648) (o1 : im_obj h 16 11 = some f1) (o2 : im_obj h1 164 12 = some f2) (hX : Ca d 97 [.ref 16, .int (l.getD (n + 1) 0)] h (some (.int y), h1)) (hM : Ca d 183 [.ref 164, .int (l.getD (n + 1) 0)] h1 (some (.int y), h2)) (kx : Ev (im_K1 l) d mL_law (1755, lwL i, [], h2) r) : Ev (im_K1 l) d mL_law (1318, lwL i, [], h) r := by
  refine sp_aload_n (p2 := 1319) rfl rfl rfl ?_
  refine lw_rd (p2 := 1324) 1 rfl rfl rfl rfl rfl rfl (by decide) hi (by omega) hb ?_
  refine st_callV (R := 16) rfl rfl rfl o1 rfl hX ?_
  show Ev _ _ _ (1327, lwL i, [.int y], h1) _
  refine sp_aload_n (p2 := 1328) rfl rfl rfl ?_
  refine lw_rd (p2 := 1333) 1 rfl rfl rfl rfl rfl rfl (by decide) hi (by omega) hb ?_
  refine st_callV (R := 164) rfl rfl rfl o2 rfl hM ?_
  show Ev _ _ _ (1336, lwL i, [.int y, .int y], h2) _
  refine st_icmp (b := true) rfl (decide_eq_true rfl) ?_
  exact kx
set_option maxRecDepth 10000 in
set_option maxHeartbeats 2000000 in
theorem lo_owner {l : List Int32} {d n : Nat} {i : Int32} {h h1 h2 : im_H} {r : Option Value × im_H} {y : Int32} {f1 f2 : List Value} (hi : i.toInt = n) (hl : n + 6 ≤ l.length) (hb : l.length < 2147483648) (o1 : im_obj h 16 11 = some f1) (o2 : im_obj h1 164 12 = some f2) (hX : Ca d 98 [.ref 16, .int (l.getD (n + 1) 0), .int (l.getD (n + 2) 0), .int (l.getD (n + 3) 0)] h (some (.int y), h1)) (hM : Ca d 184 [.ref 164, .int (l.getD (n + 1) 0), .int (l.getD (n + 2) 0), .int (l.getD (n + 3) 0)] h1 (some (.int y), h2)) (kx : Ev (im_K1 l) d mL_law (1755, lwL i, [], h2) r) : Ev (im_K1 l) d mL_law (1341, lwL i, [], h) r := by
  refine sp_aload_n (p2 := 1342) rfl rfl rfl ?_
  refine lw_rd (p2 := 1347) 1 rfl rfl rfl rfl rfl rfl (by decide) hi (by omega) hb ?_
  refine lw_rd (p2 := 1352) 2 rfl rfl rfl rfl rfl rfl (by decide) hi (by omega) hb ?_
  refine lw_rd (p2 := 1357) 3 rfl rfl rfl rfl rfl rfl (by decide) hi (by omega) hb ?_
  refine st_callV (R := 16) rfl rfl rfl o1 rfl hX ?_
  show Ev _ _ _ (1360, lwL i, [.int y], h1) _
  refine sp_aload_n (p2 := 1361) rfl rfl rfl ?_
  refine lw_rd (p2 := 1366) 1 rfl rfl rfl rfl rfl rfl (by decide) hi (by omega) hb ?_
  refine lw_rd (p2 := 1371) 2 rfl rfl rfl rfl rfl rfl (by decide) hi (by omega) hb ?_
  refine lw_rd (p2 := 1376) 3 rfl rfl rfl rfl rfl rfl (by decide) hi (by omega) hb ?_
  refine st_callV (R := 164) rfl rfl rfl o2 rfl hM ?_
  show Ev _ _ _ (1379, lwL i, [.int y, .int y], h2) _
  refine st_icmp (b := true) rfl (decide_eq_true rfl) ?_
  exact kx
set_option maxRecDepth 10000 in
set_option maxHeartbeats 2000000 in
theorem lo_heirs {l : List Int32} {d n : Nat} {i : Int32} {h h1 h2 : im_H} {r : Option Value × im_H} {y : Int32} {f1 f2 : List Value} (hi : i.toInt = n) (hl : n + 6 ≤ l.length) (hb : l.length < 2147483648) (o1 : im_obj h 16 11 = some f1) (o2 : im_obj h1 164 12 = some f2) (hX : Ca d 99 [.ref 16, .int (l.getD (n + 1) 0), .int (l.getD (n + 2) 0), .int (l.getD (n + 3) 0)] h (some (.int y), h1)) (hM : Ca d 185 [.ref 164, .int (l.getD (n + 1) 0), .int (l.getD (n + 2) 0), .int (l.getD (n + 3) 0)] h1 (some (.int y), h2)) (kx : Ev (im_K1 l) d mL_law (1755, lwL i, [], h2) r) : Ev (im_K1 l) d mL_law (1384, lwL i, [], h) r := by
  refine sp_aload_n (p2 := 1385) rfl rfl rfl ?_
  refine lw_rd (p2 := 1390) 1 rfl rfl rfl rfl rfl rfl (by decide) hi (by omega) hb ?_
  refine lw_rd (p2 := 1395) 2 rfl rfl rfl rfl rfl rfl (by decide) hi (by omega) hb ?_
  refine lw_rd (p2 := 1400) 3 rfl rfl rfl rfl rfl rfl (by decide) hi (by omega) hb ?_
  refine st_callV (R := 16) rfl rfl rfl o1 rfl hX ?_
  show Ev _ _ _ (1403, lwL i, [.int y], h1) _
  refine sp_aload_n (p2 := 1404) rfl rfl rfl ?_
  refine lw_rd (p2 := 1409) 1 rfl rfl rfl rfl rfl rfl (by decide) hi (by omega) hb ?_
  refine lw_rd (p2 := 1414) 2 rfl rfl rfl rfl rfl rfl (by decide) hi (by omega) hb ?_
  refine lw_rd (p2 := 1419) 3 rfl rfl rfl rfl rfl rfl (by decide) hi (by omega) hb ?_
  refine st_callV (R := 164) rfl rfl rfl o2 rfl hM ?_
  show Ev _ _ _ (1422, lwL i, [.int y, .int y], h2) _
  refine st_icmp (b := true) rfl (decide_eq_true rfl) ?_
  exact kx
set_option maxRecDepth 10000 in
set_option maxHeartbeats 2000000 in
theorem lo_beside {l : List Int32} {d n : Nat} {i : Int32} {h h1 h2 : im_H} {r : Option Value × im_H} {y : Int64} {f1 f2 : List Value} (hi : i.toInt = n) (hl : n + 6 ≤ l.length) (hb : l.length < 2147483648) (o1 : im_obj h 16 11 = some f1) (o2 : im_obj h1 164 12 = some f2) (hX : Ca d 100 [.ref 16, .int (l.getD (n + 1) 0), .int (l.getD (n + 2) 0)] h (some (.long y), h1)) (hM : Ca d 187 [.ref 164, .int (l.getD (n + 1) 0), .int (l.getD (n + 2) 0)] h1 (some (.long y), h2)) (kx : Ev (im_K1 l) d mL_law (1755, lwL i, [], h2) r) : Ev (im_K1 l) d mL_law (1427, lwL i, [], h) r := by
  refine sp_aload_n (p2 := 1428) rfl rfl rfl ?_
  refine lw_rd (p2 := 1433) 1 rfl rfl rfl rfl rfl rfl (by decide) hi (by omega) hb ?_
  refine lw_rd (p2 := 1438) 2 rfl rfl rfl rfl rfl rfl (by decide) hi (by omega) hb ?_
  refine st_callV (R := 16) rfl rfl rfl o1 rfl hX ?_
  show Ev _ _ _ (1441, lwL i, [.long y], h1) _
  refine sp_aload_n (p2 := 1442) rfl rfl rfl ?_
  refine lw_rd (p2 := 1447) 1 rfl rfl rfl rfl rfl rfl (by decide) hi (by omega) hb ?_
  refine lw_rd (p2 := 1452) 2 rfl rfl rfl rfl rfl rfl (by decide) hi (by omega) hb ?_
  refine st_callV (R := 164) rfl rfl rfl o2 rfl hM ?_
  show Ev _ _ _ (1455, lwL i, [.long y, .long y], h2) _
  refine sp_lcmp (p2 := 1456) (z := 0) rfl rfl (lg_cmp_self _) ?_
  refine st_ifc (b := true) rfl (by decide) ?_
  exact kx
set_option maxRecDepth 10000 in
set_option maxHeartbeats 2000000 in
theorem lo_clear {l : List Int32} {d n : Nat} {i : Int32} {h h1 h2 : im_H} {r : Option Value × im_H} {y : Int32} {f1 f2 : List Value} (hi : i.toInt = n) (hl : n + 6 ≤ l.length) (hb : l.length < 2147483648) (o1 : im_obj h 16 11 = some f1) (o2 : im_obj h1 164 12 = some f2) (hX : Ca d 101 [.ref 16, .int (l.getD (n + 1) 0), .int (l.getD (n + 2) 0)] h (some (.int y), h1)) (hM : Ca d 188 [.ref 164, .int (l.getD (n + 1) 0), .int (l.getD (n + 2) 0)] h1 (some (.int y), h2)) (kx : Ev (im_K1 l) d mL_law (1755, lwL i, [], h2) r) : Ev (im_K1 l) d mL_law (1461, lwL i, [], h) r := by
  refine sp_aload_n (p2 := 1462) rfl rfl rfl ?_
  refine lw_rd (p2 := 1467) 1 rfl rfl rfl rfl rfl rfl (by decide) hi (by omega) hb ?_
  refine lw_rd (p2 := 1472) 2 rfl rfl rfl rfl rfl rfl (by decide) hi (by omega) hb ?_
  refine st_callV (R := 16) rfl rfl rfl o1 rfl hX ?_
  show Ev _ _ _ (1475, lwL i, [.int y], h1) _
  refine sp_aload_n (p2 := 1476) rfl rfl rfl ?_
  refine lw_rd (p2 := 1481) 1 rfl rfl rfl rfl rfl rfl (by decide) hi (by omega) hb ?_
  refine lw_rd (p2 := 1486) 2 rfl rfl rfl rfl rfl rfl (by decide) hi (by omega) hb ?_
  refine st_callV (R := 164) rfl rfl rfl o2 rfl hM ?_
  show Ev _ _ _ (1489, lwL i, [.int y, .int y], h2) _
  refine st_icmp (b := true) rfl (decide_eq_true rfl) ?_
  exact kx
set_option maxRecDepth 10000 in
set_option maxHeartbeats 2000000 in
theorem lo_image {l : List Int32} {d n : Nat} {i : Int32} {h h1 h2 : im_H} {r : Option Value × im_H} {y : Int32} {f1 f2 : List Value} (hi : i.toInt = n) (hl : n + 6 ≤ l.length) (hb : l.length < 2147483648) (o1 : im_obj h 16 11 = some f1) (o2 : im_obj h1 164 12 = some f2) (hX : Ca d 102 [.ref 16] h (some (.int y), h1)) (hM : Ca d 189 [.ref 164] h1 (some (.int y), h2)) (kx : Ev (im_K1 l) d mL_law (1755, lwL i, [], h2) r) : Ev (im_K1 l) d mL_law (1494, lwL i, [], h) r := by
  refine sp_aload_n (p2 := 1495) rfl rfl rfl ?_
  refine st_callV (R := 16) rfl rfl rfl o1 rfl hX ?_
  show Ev _ _ _ (1498, lwL i, [.int y], h1) _
  refine sp_aload_n (p2 := 1499) rfl rfl rfl ?_
  refine st_callV (R := 164) rfl rfl rfl o2 rfl hM ?_
  show Ev _ _ _ (1502, lwL i, [.int y, .int y], h2) _
  refine st_icmp (b := true) rfl (decide_eq_true rfl) ?_
  exact kx
set_option maxRecDepth 10000 in
set_option maxHeartbeats 2000000 in
theorem lo_back {l : List Int32} {d n : Nat} {i : Int32} {h h1 h2 : im_H} {r : Option Value × im_H} {y : Int32} {f1 f2 : List Value} (hi : i.toInt = n) (hl : n + 6 ≤ l.length) (hb : l.length < 2147483648) (o1 : im_obj h 16 11 = some f1) (o2 : im_obj h1 164 12 = some f2) (hX : Ca d 103 [.ref 16] h (some (.int y), h1)) (hM : Ca d 190 [.ref 164] h1 (some (.int y), h2)) (kx : Ev (im_K1 l) d mL_law (1755, lwL i, [], h2) r) : Ev (im_K1 l) d mL_law (1507, lwL i, [], h) r := by
  refine sp_aload_n (p2 := 1508) rfl rfl rfl ?_
  refine st_callV (R := 16) rfl rfl rfl o1 rfl hX ?_
  show Ev _ _ _ (1511, lwL i, [.int y], h1) _
  refine sp_aload_n (p2 := 1512) rfl rfl rfl ?_
  refine st_callV (R := 164) rfl rfl rfl o2 rfl hM ?_
  show Ev _ _ _ (1515, lwL i, [.int y, .int y], h2) _
  refine st_icmp (b := true) rfl (decide_eq_true rfl) ?_
  exact kx
set_option maxRecDepth 10000 in
set_option maxHeartbeats 2000000 in
theorem lo_sheet {l : List Int32} {d n : Nat} {i : Int32} {h h1 h2 : im_H} {r : Option Value × im_H} {y : Int32} {f1 f2 : List Value} (hi : i.toInt = n) (hl : n + 6 ≤ l.length) (hb : l.length < 2147483648) (o1 : im_obj h 16 11 = some f1) (o2 : im_obj h1 164 12 = some f2) (hX : Ca d 104 [.ref 16, .int (l.getD (n + 1) 0), .int (l.getD (n + 2) 0), .int (l.getD (n + 3) 0)] h (some (.int y), h1)) (hM : Ca d 191 [.ref 164, .int (l.getD (n + 1) 0), .int (l.getD (n + 2) 0), .int (l.getD (n + 3) 0)] h1 (some (.int y), h2)) (kx : Ev (im_K1 l) d mL_law (1755, lwL i, [], h2) r) : Ev (im_K1 l) d mL_law (1520, lwL i, [], h) r := by
  refine sp_aload_n (p2 := 1521) rfl rfl rfl ?_
  refine lw_rd (p2 := 1526) 1 rfl rfl rfl rfl rfl rfl (by decide) hi (by omega) hb ?_
  refine lw_rd (p2 := 1531) 2 rfl rfl rfl rfl rfl rfl (by decide) hi (by omega) hb ?_
  refine lw_rd (p2 := 1536) 3 rfl rfl rfl rfl rfl rfl (by decide) hi (by omega) hb ?_
  refine st_callV (R := 16) rfl rfl rfl o1 rfl hX ?_
  show Ev _ _ _ (1539, lwL i, [.int y], h1) _
  refine sp_aload_n (p2 := 1540) rfl rfl rfl ?_
  refine lw_rd (p2 := 1545) 1 rfl rfl rfl rfl rfl rfl (by decide) hi (by omega) hb ?_
  refine lw_rd (p2 := 1550) 2 rfl rfl rfl rfl rfl rfl (by decide) hi (by omega) hb ?_
  refine lw_rd (p2 := 1555) 3 rfl rfl rfl rfl rfl rfl (by decide) hi (by omega) hb ?_
  refine st_callV (R := 164) rfl rfl rfl o2 rfl hM ?_
  show Ev _ _ _ (1558, lwL i, [.int y, .int y], h2) _
  refine st_icmp (b := true) rfl (decide_eq_true rfl) ?_
  exact kx
set_option maxRecDepth 10000 in
set_option maxHeartbeats 2000000 in
theorem lo_cell {l : List Int32} {d n : Nat} {i : Int32} {h h1 h2 : im_H} {r : Option Value × im_H} {y : Int32} {f1 f2 : List Value} (hi : i.toInt = n) (hl : n + 6 ≤ l.length) (hb : l.length < 2147483648) (o1 : im_obj h 16 11 = some f1) (o2 : im_obj h1 164 12 = some f2) (hX : Ca d 105 [.ref 16, .int (l.getD (n + 1) 0), .int (l.getD (n + 2) 0), .int (l.getD (n + 3) 0)] h (some (.int y), h1)) (hM : Ca d 192 [.ref 164, .int (l.getD (n + 1) 0), .int (l.getD (n + 2) 0), .int (l.getD (n + 3) 0)] h1 (some (.int y), h2)) (kx : Ev (im_K1 l) d mL_law (1755, lwL i, [], h2) r) : Ev (im_K1 l) d mL_law (1563, lwL i, [], h) r := by
  refine sp_aload_n (p2 := 1564) rfl rfl rfl ?_
  refine lw_rd (p2 := 1569) 1 rfl rfl rfl rfl rfl rfl (by decide) hi (by omega) hb ?_
  refine lw_rd (p2 := 1574) 2 rfl rfl rfl rfl rfl rfl (by decide) hi (by omega) hb ?_
  refine lw_rd (p2 := 1579) 3 rfl rfl rfl rfl rfl rfl (by decide) hi (by omega) hb ?_
  refine st_callV (R := 16) rfl rfl rfl o1 rfl hX ?_
  show Ev _ _ _ (1582, lwL i, [.int y], h1) _
  refine sp_aload_n (p2 := 1583) rfl rfl rfl ?_
  refine lw_rd (p2 := 1588) 1 rfl rfl rfl rfl rfl rfl (by decide) hi (by omega) hb ?_
  refine lw_rd (p2 := 1593) 2 rfl rfl rfl rfl rfl rfl (by decide) hi (by omega) hb ?_
  refine lw_rd (p2 := 1598) 3 rfl rfl rfl rfl rfl rfl (by decide) hi (by omega) hb ?_
  refine st_callV (R := 164) rfl rfl rfl o2 rfl hM ?_
  show Ev _ _ _ (1601, lwL i, [.int y, .int y], h2) _
  refine st_icmp (b := true) rfl (decide_eq_true rfl) ?_
  exact kx
set_option maxRecDepth 10000 in
set_option maxHeartbeats 2000000 in
theorem lo_copy {l : List Int32} {d n : Nat} {i : Int32} {h h1 h2 : im_H} {r : Option Value × im_H} {y : Int32} {f1 f2 : List Value} (hi : i.toInt = n) (hl : n + 6 ≤ l.length) (hb : l.length < 2147483648) (o1 : im_obj h 16 11 = some f1) (o2 : im_obj h1 164 12 = some f2) (hX : Ca d 106 [.ref 16, .int (l.getD (n + 1) 0), .int (l.getD (n + 2) 0), .int (l.getD (n + 3) 0), .int (l.getD (n + 4) 0), .int (l.getD (n + 5) 0)] h (some (.int y), h1)) (hM : Ca d 193 [.ref 164, .int (l.getD (n + 1) 0), .int (l.getD (n + 2) 0), .int (l.getD (n + 3) 0), .int (l.getD (n + 4) 0), .int (l.getD (n + 5) 0)] h1 (some (.int y), h2)) (kx : Ev (im_K1 l) d mL_law (1755, lwL i, [], h2) r) : Ev (im_K1 l) d mL_law (1606, lwL i, [], h) r := by
  refine sp_aload_n (p2 := 1607) rfl rfl rfl ?_
  refine lw_rd (p2 := 1612) 1 rfl rfl rfl rfl rfl rfl (by decide) hi (by omega) hb ?_
  refine lw_rd (p2 := 1617) 2 rfl rfl rfl rfl rfl rfl (by decide) hi (by omega) hb ?_
  refine lw_rd (p2 := 1622) 3 rfl rfl rfl rfl rfl rfl (by decide) hi (by omega) hb ?_
  refine lw_rd (p2 := 1627) 4 rfl rfl rfl rfl rfl rfl (by decide) hi (by omega) hb ?_
  refine lw_rd (p2 := 1632) 5 rfl rfl rfl rfl rfl rfl (by decide) hi (by omega) hb ?_
  refine st_callV (R := 16) rfl rfl rfl o1 rfl hX ?_
  show Ev _ _ _ (1635, lwL i, [.int y], h1) _
  refine sp_aload_n (p2 := 1636) rfl rfl rfl ?_
  refine lw_rd (p2 := 1641) 1 rfl rfl rfl rfl rfl rfl (by decide) hi (by omega) hb ?_
  refine lw_rd (p2 := 1646) 2 rfl rfl rfl rfl rfl rfl (by decide) hi (by omega) hb ?_
  refine lw_rd (p2 := 1651) 3 rfl rfl rfl rfl rfl rfl (by decide) hi (by omega) hb ?_
  refine lw_rd (p2 := 1656) 4 rfl rfl rfl rfl rfl rfl (by decide) hi (by omega) hb ?_
  refine lw_rd (p2 := 1661) 5 rfl rfl rfl rfl rfl rfl (by decide) hi (by omega) hb ?_
  refine st_callV (R := 164) rfl rfl rfl o2 rfl hM ?_
  show Ev _ _ _ (1664, lwL i, [.int y, .int y], h2) _
  refine st_icmp (b := true) rfl (decide_eq_true rfl) ?_
  exact kx
set_option maxRecDepth 10000 in
set_option maxHeartbeats 2000000 in
theorem lo_people {l : List Int32} {d n : Nat} {i : Int32} {h h1 h2 : im_H} {r : Option Value × im_H} {y : Int32} {f1 f2 : List Value} (hi : i.toInt = n) (hl : n + 6 ≤ l.length) (hb : l.length < 2147483648) (o1 : im_obj h 16 11 = some f1) (o2 : im_obj h1 164 12 = some f2) (hX : Ca d 107 [.ref 16, .int (l.getD (n + 1) 0), .int (l.getD (n + 2) 0), .int (l.getD (n + 3) 0), .int (l.getD (n + 4) 0)] h (some (.int y), h1)) (hM : Ca d 194 [.ref 164, .int (l.getD (n + 1) 0), .int (l.getD (n + 2) 0), .int (l.getD (n + 3) 0), .int (l.getD (n + 4) 0)] h1 (some (.int y), h2)) (kx : Ev (im_K1 l) d mL_law (1755, lwL i, [], h2) r) : Ev (im_K1 l) d mL_law (1669, lwL i, [], h) r := by
  refine sp_aload_n (p2 := 1670) rfl rfl rfl ?_
  refine lw_rd (p2 := 1675) 1 rfl rfl rfl rfl rfl rfl (by decide) hi (by omega) hb ?_
  refine lw_rd (p2 := 1680) 2 rfl rfl rfl rfl rfl rfl (by decide) hi (by omega) hb ?_
  refine lw_rd (p2 := 1685) 3 rfl rfl rfl rfl rfl rfl (by decide) hi (by omega) hb ?_
  refine lw_rd (p2 := 1690) 4 rfl rfl rfl rfl rfl rfl (by decide) hi (by omega) hb ?_
  refine st_callV (R := 16) rfl rfl rfl o1 rfl hX ?_
  show Ev _ _ _ (1693, lwL i, [.int y], h1) _
  refine sp_aload_n (p2 := 1694) rfl rfl rfl ?_
  refine lw_rd (p2 := 1699) 1 rfl rfl rfl rfl rfl rfl (by decide) hi (by omega) hb ?_
  refine lw_rd (p2 := 1704) 2 rfl rfl rfl rfl rfl rfl (by decide) hi (by omega) hb ?_
  refine lw_rd (p2 := 1709) 3 rfl rfl rfl rfl rfl rfl (by decide) hi (by omega) hb ?_
  refine lw_rd (p2 := 1714) 4 rfl rfl rfl rfl rfl rfl (by decide) hi (by omega) hb ?_
  refine st_callV (R := 164) rfl rfl rfl o2 rfl hM ?_
  show Ev _ _ _ (1717, lwL i, [.int y, .int y], h2) _
  refine st_icmp (b := true) rfl (decide_eq_true rfl) ?_
  exact kx
set_option maxRecDepth 10000 in
set_option maxHeartbeats 2000000 in
theorem lo_taken {l : List Int32} {d n : Nat} {i : Int32} {h h1 h2 : im_H} {r : Option Value × im_H} {y : Int32} {f1 f2 : List Value} (hi : i.toInt = n) (hl : n + 6 ≤ l.length) (hb : l.length < 2147483648) (o1 : im_obj h 16 11 = some f1) (o2 : im_obj h1 164 12 = some f2) (hX : Ca d 109 [.ref 16, .int (l.getD (n + 1) 0), .int (l.getD (n + 2) 0)] h (some (.int y), h1)) (hM : Ca d 196 [.ref 164, .int (l.getD (n + 1) 0), .int (l.getD (n + 2) 0)] h1 (some (.int y), h2)) (kx : Ev (im_K1 l) d mL_law (1755, lwL i, [], h2) r) : Ev (im_K1 l) d mL_law (1722, lwL i, [], h) r := by
  refine sp_aload_n (p2 := 1723) rfl rfl rfl ?_
  refine lw_rd (p2 := 1728) 1 rfl rfl rfl rfl rfl rfl (by decide) hi (by omega) hb ?_
  refine lw_rd (p2 := 1733) 2 rfl rfl rfl rfl rfl rfl (by decide) hi (by omega) hb ?_
  refine st_callV (R := 16) rfl rfl rfl o1 rfl hX ?_
  show Ev _ _ _ (1736, lwL i, [.int y], h1) _
  refine sp_aload_n (p2 := 1737) rfl rfl rfl ?_
  refine lw_rd (p2 := 1742) 1 rfl rfl rfl rfl rfl rfl (by decide) hi (by omega) hb ?_
  refine lw_rd (p2 := 1747) 2 rfl rfl rfl rfl rfl rfl (by decide) hi (by omega) hb ?_
  refine st_callV (R := 164) rfl rfl rfl o2 rfl hM ?_
  show Ev _ _ _ (1750, lwL i, [.int y, .int y], h2) _
  refine st_icmp (b := true) rfl (decide_eq_true rfl) ?_
  exact kx
