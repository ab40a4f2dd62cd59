def roomTold_f (x1 x2 : Int32) (R : Rm) (w : Nat → Int32) : Int32 := if 0 ≤ x1.toInt ∧ x1.toInt < R.n.toInt then (if x2.toInt = 0 then R.ce x1.toInt.toNat else if x2.toInt = 1 then w x1.toInt.toNat else if x2.toInt = 2 then R.wo x1.toInt.toNat else -2) else -1
abbrev Q1_roomTold (x1 x2 : Int32) (y : Int32) (h h2 : im_H) : Prop := y = roomTold_f x1 x2 (rmX h) (wX h 23)
set_option maxRecDepth 20000 in
set_option maxHeartbeats 4000000 in
theorem c_X11_roomTold {x1 : Int32} {x2 : Int32} {h : im_H} (hI : tI h)  : CaP 8 91 [.ref 16, .int x1, .int x2] h (fun v h2 => tI h2 ∧ fr F_X11_roomTold h h2 ∧ ∃ y : Int32, v = some (.int y) ∧ Q1_roomTold x1 x2 y h h2) := by
  refine cap_of (d := 7) (M := mX11_roomTold) rfl (Nat.le_of_ble_eq_true rfl) ?_
  show EvP im_K0 7 mX11_roomTold (0, [(0, .ref 16), (1, .int x1), (2, .int x2)], [], h) _
  have f0 : fr F_X11_roomTold h h := fr_rf
  refine te_iload_n (p2 := 1) rfl rfl rfl ?_
  refine te_aload_n (p2 := 2) rfl rfl rfl ?_
  refine tg_r (p2 := 5) (i := 0) (r := 88) rfl rfl hI rfl rfl rfl ?_
  refine tg_i (p2 := 8) (i := 72) rfl rfl hI rfl rfl rfl (fun y1 a1 b1 e1 => ?_)
  refine cS_pI (p2 := 11) rfl rfl rfl rfl (t_X11_within (n := x1) (b := y1) hI ) (by decide) (fun y2 r2 => ?_)
  rcases r2 with ⟨w2, c2⟩ | ⟨w2, c2⟩
  · subst w2
    refine tz_ne (p2 := 14) rfl rfl (show Int32.toInt 1 = 1 from rfl) (fun c3 => ?_) (fun c3 => absurd c3 (by omega))
    refine te_iload_n (p2 := 17) rfl rfl rfl ?_
    by_cases c4 : x2.toInt = 0
    · refine te_tsIn (k := 0) (p2 := 44) rfl c4 (by decide) (by decide) rfl (by decide) ?_
      refine te_aload_n (p2 := 45) rfl rfl rfl ?_
      refine tg_r (p2 := 48) (i := 0) (r := 88) rfl rfl hI rfl rfl rfl ?_
      refine tg_r (p2 := 51) (i := 72) (r := 89) rfl rfl hI rfl rfl rfl ?_
      refine te_iload_n (p2 := 52) rfl rfl rfl ?_
      refine tl_i (p2 := 53) (i := 73) (n := 12) rfl rfl hI rfl rfl rfl rfl (by omega) (by omega) (fun y5 a5 b5 g5 e5 => ?_)
      exact te_iret rfl rfl ⟨hI, f0, _, rfl, (by show y5 = roomTold_f x1 x2 (rmX h) (wX h 23); unfold roomTold_f; rw [(show (rmX h).n = y1 from rv_of e1), (show (rmX h).ce x1.toInt.toNat = y5 from (gd_at (by omega)).trans (rv_of e5))]; (repeat' split) <;> first | (exfalso; omega) | (simp only [Dy.mk, Dy.ld, Dy.hm, Dy.hu, Dy.wk, Dy.de, Dy.st, Dy.up, Dy.rl, Dy.rs, Dy.ra, Dy.kp, Dy.du, Dy.ti, Dy.da, Dy.we, Dy.wi, Dy.s_ld, Dy.s_hm, Dy.s_hu, Dy.s_wk, Dy.s_de, Dy.s_st, Dy.s_up, Dy.s_rl, Dy.s_rs, Dy.s_ra, Dy.s_kp, Dy.s_du, Dy.s_ti, Dy.s_da, Dy.s_we, Dy.s_wi, Ct.mk, Ct.kd, Ct.tip, Ct.np, Ct.sg, Ct.ag, Ct.kn, Ct.ro, Ct.hd, Ct.hn, Ct.hf, Ct.ht, Ct.wn, Ct.cr, Ct.wf, Ct.wl, Ct.nw, Ct.wc, Ct.wt, Ct.sd, Ct.s_kd, Ct.s_tip, Ct.s_np, Ct.s_sg, Ct.s_ag, Ct.s_kn, Ct.s_ro, Ct.s_hd, Ct.s_hn, Ct.s_hf, Ct.s_ht, Ct.s_wn, Ct.s_cr, Ct.s_wf, Ct.s_wl, Ct.s_nw, Ct.s_wc, Ct.s_wt, Ct.s_sd, Rm.mk, Rm.n, Rm.ce, Rm.br, Rm.be, Rm.wo, Rm.s_n, Rm.s_ce, Rm.s_br, Rm.s_be, Rm.s_wo]; done) | rfl)⟩
    · by_cases c6 : x2.toInt = 1
      · refine te_tsIn (k := 1) (p2 := 54) rfl c6 (by decide) (by decide) rfl (by decide) ?_
        refine te_aload_n (p2 := 55) rfl rfl rfl ?_
        refine tg_r (p2 := 58) (i := 0) (r := 39) rfl rfl hI rfl rfl rfl ?_
        refine tg_r (p2 := 61) (i := 23) (r := 49) rfl rfl hI rfl rfl rfl ?_
        refine te_iload_n (p2 := 62) rfl rfl rfl ?_
        refine tl_b (p2 := 63) (i := 33) (n := 12) rfl rfl hI rfl rfl rfl rfl (by omega) (by omega) (fun y7 a7 e7 => ?_)
        refine tz_eq (p2 := 66) rfl rfl rfl (fun c8 => ?_) (fun c8 => ?_)
        · refine te_iconst (p2 := 71) (x := 0) rfl rfl (by decide) ?_
          exact te_iret rfl rfl ⟨hI, f0, _, rfl, (by show 0 = roomTold_f x1 x2 (rmX h) (wX h 23); (have c_ := (show Int32.toInt 0 = 0 from rfl)); unfold roomTold_f; rw [(show (rmX h).n = y1 from rv_of e1), (show (wX h 23) x1.toInt.toNat = 0 from (gd_at (by omega)).trans ((rv_of e7).trans (i32_ext (by omega))))]; (repeat' split) <;> first | (exfalso; omega) | (simp only [Dy.mk, Dy.ld, Dy.hm, Dy.hu, Dy.wk, Dy.de, Dy.st, Dy.up, Dy.rl, Dy.rs, Dy.ra, Dy.kp, Dy.du, Dy.ti, Dy.da, Dy.we, Dy.wi, Dy.s_ld, Dy.s_hm, Dy.s_hu, Dy.s_wk, Dy.s_de, Dy.s_st, Dy.s_up, Dy.s_rl, Dy.s_rs, Dy.s_ra, Dy.s_kp, Dy.s_du, Dy.s_ti, Dy.s_da, Dy.s_we, Dy.s_wi, Ct.mk, Ct.kd, Ct.tip, Ct.np, Ct.sg, Ct.ag, Ct.kn, Ct.ro, Ct.hd, Ct.hn, Ct.hf, Ct.ht, Ct.wn, Ct.cr, Ct.wf, Ct.wl, Ct.nw, Ct.wc, Ct.wt, Ct.sd, Ct.s_kd, Ct.s_tip, Ct.s_np, Ct.s_sg, Ct.s_ag, Ct.s_kn, Ct.s_ro, Ct.s_hd, Ct.s_hn, Ct.s_hf, Ct.s_ht, Ct.s_wn, Ct.s_cr, Ct.s_wf, Ct.s_wl, Ct.s_nw, Ct.s_wc, Ct.s_wt, Ct.s_sd, Rm.mk, Rm.n, Rm.ce, Rm.br, Rm.be, Rm.wo, Rm.s_n, Rm.s_ce, Rm.s_br, Rm.s_be, Rm.s_wo]; done) | rfl)⟩
        · refine te_iconst (p2 := 67) (x := 1) rfl rfl (by decide) ?_
          refine te_goto rfl ?_
          exact te_iret rfl rfl ⟨hI, f0, _, rfl, (by show 1 = roomTold_f x1 x2 (rmX h) (wX h 23); (have c_ := (show Int32.toInt 1 = 1 from rfl)); unfold roomTold_f; rw [(show (rmX h).n = y1 from rv_of e1), (show (wX h 23) x1.toInt.toNat = 1 from (gd_at (by omega)).trans ((rv_of e7).trans (i32_ext (by omega))))]; (repeat' split) <;> first | (exfalso; omega) | (simp only [Dy.mk, Dy.ld, Dy.hm, Dy.hu, Dy.wk, Dy.de, Dy.st, Dy.up, Dy.rl, Dy.rs, Dy.ra, Dy.kp, Dy.du, Dy.ti, Dy.da, Dy.we, Dy.wi, Dy.s_ld, Dy.s_hm, Dy.s_hu, Dy.s_wk, Dy.s_de, Dy.s_st, Dy.s_up, Dy.s_rl, Dy.s_rs, Dy.s_ra, Dy.s_kp, Dy.s_du, Dy.s_ti, Dy.s_da, Dy.s_we, Dy.s_wi, Ct.mk, Ct.kd, Ct.tip, Ct.np, Ct.sg, Ct.ag, Ct.kn, Ct.ro, Ct.hd, Ct.hn, Ct.hf, Ct.ht, Ct.wn, Ct.cr, Ct.wf, Ct.wl, Ct.nw, Ct.wc, Ct.wt, Ct.sd, Ct.s_kd, Ct.s_tip, Ct.s_np, Ct.s_sg, Ct.s_ag, Ct.s_kn, Ct.s_ro, Ct.s_hd, Ct.s_hn, Ct.s_hf, Ct.s_ht, Ct.s_wn, Ct.s_cr, Ct.s_wf, Ct.s_wl, Ct.s_nw, Ct.s_wc, Ct.s_wt, Ct.s_sd, Rm.mk, Rm.n, Rm.ce, Rm.br, Rm.be, Rm.wo, Rm.s_n, Rm.s_ce, Rm.s_br, Rm.s_be, Rm.s_wo]; done) | rfl)⟩
      · by_cases c9 : x2.toInt = 2
        · refine te_tsIn (k := 2) (p2 := 72) rfl c9 (by decide) (by decide) rfl (by decide) ?_
          refine te_aload_n (p2 := 73) rfl rfl rfl ?_
          refine tg_r (p2 := 76) (i := 0) (r := 88) rfl rfl hI rfl rfl rfl ?_
          refine tg_r (p2 := 79) (i := 72) (r := 92) rfl rfl hI rfl rfl rfl ?_
          refine te_iload_n (p2 := 80) rfl rfl rfl ?_
          refine tl_i (p2 := 81) (i := 76) (n := 12) rfl rfl hI rfl rfl rfl rfl (by omega) (by omega) (fun y10 a10 b10 g10 e10 => ?_)
          exact te_iret rfl rfl ⟨hI, f0, _, rfl, (by show y10 = roomTold_f x1 x2 (rmX h) (wX h 23); unfold roomTold_f; rw [(show (rmX h).n = y1 from rv_of e1), (show (rmX h).wo x1.toInt.toNat = y10 from (gd_at (by omega)).trans (rv_of e10))]; (repeat' split) <;> first | (exfalso; omega) | (simp only [Dy.mk, Dy.ld, Dy.hm, Dy.hu, Dy.wk, Dy.de, Dy.st, Dy.up, Dy.rl, Dy.rs, Dy.ra, Dy.kp, Dy.du, Dy.ti, Dy.da, Dy.we, Dy.wi, Dy.s_ld, Dy.s_hm, Dy.s_hu, Dy.s_wk, Dy.s_de, Dy.s_st, Dy.s_up, Dy.s_rl, Dy.s_rs, Dy.s_ra, Dy.s_kp, Dy.s_du, Dy.s_ti, Dy.s_da, Dy.s_we, Dy.s_wi, Ct.mk, Ct.kd, Ct.tip, Ct.np, Ct.sg, Ct.ag, Ct.kn, Ct.ro, Ct.hd, Ct.hn, Ct.hf, Ct.ht, Ct.wn, Ct.cr, Ct.wf, Ct.wl, Ct.nw, Ct.wc, Ct.wt, Ct.sd, Ct.s_kd, Ct.s_tip, Ct.s_np, Ct.s_sg, Ct.s_ag, Ct.s_kn, Ct.s_ro, Ct.s_hd, Ct.s_hn, Ct.s_hf, Ct.s_ht, Ct.s_wn, Ct.s_cr, Ct.s_wf, Ct.s_wl, Ct.s_nw, Ct.s_wc, Ct.s_wt, Ct.s_sd, Rm.mk, Rm.n, Rm.ce, Rm.br, Rm.be, Rm.wo, Rm.s_n, Rm.s_ce, Rm.s_br, Rm.s_be, Rm.s_wo]; done) | rfl)⟩
        · refine te_tsOut (p2 := 82) rfl (by omega) (by decide) ?_
          refine te_bipush (p2 := 84) (x := (-2)) rfl rfl (by decide) ?_
          exact te_iret rfl rfl ⟨hI, f0, _, rfl, (by show (-2) = roomTold_f x1 x2 (rmX h) (wX h 23); (have c_ := (show Int32.toInt (-2) = (-2) from rfl)); unfold roomTold_f; rw [(show (rmX h).n = y1 from rv_of e1)]; (repeat' split) <;> first | (exfalso; omega) | (simp only [Dy.mk, Dy.ld, Dy.hm, Dy.hu, Dy.wk, Dy.de, Dy.st, Dy.up, Dy.rl, Dy.rs, Dy.ra, Dy.kp, Dy.du, Dy.ti, Dy.da, Dy.we, Dy.wi, Dy.s_ld, Dy.s_hm, Dy.s_hu, Dy.s_wk, Dy.s_de, Dy.s_st, Dy.s_up, Dy.s_rl, Dy.s_rs, Dy.s_ra, Dy.s_kp, Dy.s_du, Dy.s_ti, Dy.s_da, Dy.s_we, Dy.s_wi, Ct.mk, Ct.kd, Ct.tip, Ct.np, Ct.sg, Ct.ag, Ct.kn, Ct.ro, Ct.hd, Ct.hn, Ct.hf, Ct.ht, Ct.wn, Ct.cr, Ct.wf, Ct.wl, Ct.nw, Ct.wc, Ct.wt, Ct.sd, Ct.s_kd, Ct.s_tip, Ct.s_np, Ct.s_sg, Ct.s_ag, Ct.s_kn, Ct.s_ro, Ct.s_hd, Ct.s_hn, Ct.s_hf, Ct.s_ht, Ct.s_wn, Ct.s_cr, Ct.s_wf, Ct.s_wl, Ct.s_nw, Ct.s_wc, Ct.s_wt, Ct.s_sd, Rm.mk, Rm.n, Rm.ce, Rm.br, Rm.be, Rm.wo, Rm.s_n, Rm.s_ce, Rm.s_br, Rm.s_be, Rm.s_wo]; done) | rfl)⟩
  · subst w2
    refine tz_ne (p2 := 14) rfl rfl (show Int32.toInt 0 = 0 from rfl) (fun c11 => absurd c11 (by omega)) (fun c11 => ?_)
    refine te_iconst (p2 := 15) (x := (-1)) rfl rfl (by decide) ?_
    exact te_iret rfl rfl ⟨hI, f0, _, rfl, (by show (-1) = roomTold_f x1 x2 (rmX h) (wX h 23); (have c_ := (show Int32.toInt (-1) = (-1) from rfl)); unfold roomTold_f; rw [(show (rmX h).n = y1 from rv_of e1)]; (repeat' split) <;> first | (exfalso; omega) | (simp only [Dy.mk, Dy.ld, Dy.hm, Dy.hu, Dy.wk, Dy.de, Dy.st, Dy.up, Dy.rl, Dy.rs, Dy.ra, Dy.kp, Dy.du, Dy.ti, Dy.da, Dy.we, Dy.wi, Dy.s_ld, Dy.s_hm, Dy.s_hu, Dy.s_wk, Dy.s_de, Dy.s_st, Dy.s_up, Dy.s_rl, Dy.s_rs, Dy.s_ra, Dy.s_kp, Dy.s_du, Dy.s_ti, Dy.s_da, Dy.s_we, Dy.s_wi, Ct.mk, Ct.kd, Ct.tip, Ct.np, Ct.sg, Ct.ag, Ct.kn, Ct.ro, Ct.hd, Ct.hn, Ct.hf, Ct.ht, Ct.wn, Ct.cr, Ct.wf, Ct.wl, Ct.nw, Ct.wc, Ct.wt, Ct.sd, Ct.s_kd, Ct.s_tip, Ct.s_np, Ct.s_sg, Ct.s_ag, Ct.s_kn, Ct.s_ro, Ct.s_hd, Ct.s_hn, Ct.s_hf, Ct.s_ht, Ct.s_wn, Ct.s_cr, Ct.s_wf, Ct.s_wl, Ct.s_nw, Ct.s_wc, Ct.s_wt, Ct.s_sd, Rm.mk, Rm.n, Rm.ce, Rm.br, Rm.be, Rm.wo, Rm.s_n, Rm.s_ce, Rm.s_br, Rm.s_be, Rm.s_wo]; done) | rfl)⟩
abbrev Q2_roomTold (x1 x2 : Int32) (y : Int32) (h h2 : im_H) : Prop := y = roomTold_f x1 x2 (rmM h) (wM h 149)
set_option maxRecDepth 20000 in
set_option maxHeartbeats 4000000 in
theorem c_X12_roomTold {x1 : Int32} {x2 : Int32} {h : im_H} (hI : tI h)  : CaP 8 174 [.ref 164, .int x1, .int x2] h (fun v h2 => tI h2 ∧ fr F_X12_roomTold h h2 ∧ ∃ y : Int32, v = some (.int y) ∧ Q2_roomTold x1 x2 y h h2) := by
  refine cap_of (d := 7) (M := mX12_roomTold) rfl (Nat.le_of_ble_eq_true rfl) ?_
  show EvP im_K0 7 mX12_roomTold (0, [(0, .ref 164), (1, .int x1), (2, .int x2)], [], h) _
  have f0 : fr F_X12_roomTold h h := fr_rf
  refine te_aload_n (p2 := 1) rfl rfl rfl ?_
  refine te_iload_n (p2 := 2) rfl rfl rfl ?_
  refine cV_pI (p2 := 5) (i := 148) rfl rfl rfl rfl hI rfl rfl rfl (t_X12_isRoom (k := x1) hI) (by decide) (fun y1 r1 => ?_)
  obtain ⟨p1, e1, a1, b1, r1⟩ := r1
  rcases r1 with ⟨w1, c1⟩ | ⟨w1, c1⟩
  · subst w1
    refine tz_ne (p2 := 8) rfl rfl (show Int32.toInt 1 = 1 from rfl) (fun c2 => ?_) (fun c2 => absurd c2 (by omega))
    refine te_iload_n (p2 := 11) rfl rfl rfl ?_
    refine tz_ne (p2 := 14) rfl rfl rfl (fun c3 => ?_) (fun c3 => ?_)
    · refine te_iload_n (p2 := 24) rfl rfl rfl ?_
      refine te_iconst (p2 := 25) (x := 1) rfl rfl (by decide) ?_
      refine tb_ne (p2 := 28) rfl rfl rfl (show Int32.toInt 1 = 1 from rfl) (fun c4 => ?_) (fun c4 => ?_)
      · refine te_iload_n (p2 := 42) rfl rfl rfl ?_
        refine te_iconst (p2 := 43) (x := 2) rfl rfl (by decide) ?_
        refine tb_ne (p2 := 46) rfl rfl rfl (show Int32.toInt 2 = 2 from rfl) (fun c5 => ?_) (fun c5 => ?_)
        · refine te_bipush (p2 := 57) (x := (-2)) rfl rfl (by decide) ?_
          exact te_iret rfl rfl ⟨hI, f0, _, rfl, (by show (-2) = roomTold_f x1 x2 (rmM h) (wM h 149); (have c_ := (show Int32.toInt (-2) = (-2) from rfl)); unfold roomTold_f; rw [(show (rmM h).n = p1 from rv_of e1)]; (repeat' split) <;> first | (exfalso; omega) | (simp only [Dy.mk, Dy.ld, Dy.hm, Dy.hu, Dy.wk, Dy.de, Dy.st, Dy.up, Dy.rl, Dy.rs, Dy.ra, Dy.kp, Dy.du, Dy.ti, Dy.da, Dy.we, Dy.wi, Dy.s_ld, Dy.s_hm, Dy.s_hu, Dy.s_wk, Dy.s_de, Dy.s_st, Dy.s_up, Dy.s_rl, Dy.s_rs, Dy.s_ra, Dy.s_kp, Dy.s_du, Dy.s_ti, Dy.s_da, Dy.s_we, Dy.s_wi, Ct.mk, Ct.kd, Ct.tip, Ct.np, Ct.sg, Ct.ag, Ct.kn, Ct.ro, Ct.hd, Ct.hn, Ct.hf, Ct.ht, Ct.wn, Ct.cr, Ct.wf, Ct.wl, Ct.nw, Ct.wc, Ct.wt, Ct.sd, Ct.s_kd, Ct.s_tip, Ct.s_np, Ct.s_sg, Ct.s_ag, Ct.s_kn, Ct.s_ro, Ct.s_hd, Ct.s_hn, Ct.s_hf, Ct.s_ht, Ct.s_wn, Ct.s_cr, Ct.s_wf, Ct.s_wl, Ct.s_nw, Ct.s_wc, Ct.s_wt, Ct.s_sd, Rm.mk, Rm.n, Rm.ce, Rm.br, Rm.be, Rm.wo, Rm.s_n, Rm.s_ce, Rm.s_br, Rm.s_be, Rm.s_wo]; done) | rfl)⟩
        · refine te_aload_n (p2 := 47) rfl rfl rfl ?_
          refine tg_r (p2 := 50) (i := 148) (r := 188) rfl rfl hI rfl rfl rfl ?_
          refine te_iload_n (p2 := 51) rfl rfl rfl ?_
          refine tl_i (p2 := 52) (i := 172) (n := 12) rfl rfl hI rfl rfl rfl rfl (by omega) (by omega) (fun y6 a6 b6 g6 e6 => ?_)
          refine te_goto rfl ?_
          exact te_iret rfl rfl ⟨hI, f0, _, rfl, (by show y6 = roomTold_f x1 x2 (rmM h) (wM h 149); unfold roomTold_f; rw [(show (rmM h).n = p1 from rv_of e1), (show (rmM h).wo x1.toInt.toNat = y6 from (gd_at (by omega)).trans (rv_of e6))]; (repeat' split) <;> first | (exfalso; omega) | (simp only [Dy.mk, Dy.ld, Dy.hm, Dy.hu, Dy.wk, Dy.de, Dy.st, Dy.up, Dy.rl, Dy.rs, Dy.ra, Dy.kp, Dy.du, Dy.ti, Dy.da, Dy.we, Dy.wi, Dy.s_ld, Dy.s_hm, Dy.s_hu, Dy.s_wk, Dy.s_de, Dy.s_st, Dy.s_up, Dy.s_rl, Dy.s_rs, Dy.s_ra, Dy.s_kp, Dy.s_du, Dy.s_ti, Dy.s_da, Dy.s_we, Dy.s_wi, Ct.mk, Ct.kd, Ct.tip, Ct.np, Ct.sg, Ct.ag, Ct.kn, Ct.ro, Ct.hd, Ct.hn, Ct.hf, Ct.ht, Ct.wn, Ct.cr, Ct.wf, Ct.wl, Ct.nw, Ct.wc, Ct.wt, Ct.sd, Ct.s_kd, Ct.s_tip, Ct.s_np, Ct.s_sg, Ct.s_ag, Ct.s_kn, Ct.s_ro, Ct.s_hd, Ct.s_hn, Ct.s_hf, Ct.s_ht, Ct.s_wn, Ct.s_cr, Ct.s_wf, Ct.s_wl, Ct.s_nw, Ct.s_wc, Ct.s_wt, Ct.s_sd, Rm.mk, Rm.n, Rm.ce, Rm.br, Rm.be, Rm.wo, Rm.s_n, Rm.s_ce, Rm.s_br, Rm.s_be, Rm.s_wo]; done) | rfl)⟩
      · refine te_aload_n (p2 := 29) rfl rfl rfl ?_
        refine tg_r (p2 := 32) (i := 148) (r := 165) rfl rfl hI rfl rfl rfl ?_
        refine te_sipush (p2 := 35) (x := 260) rfl rfl (by decide) ?_
        refine te_iload_n (p2 := 36) rfl rfl rfl ?_
        refine ar_add (p2 := 37) rfl rfl (show Int32.toInt 260 = 260 from rfl) rfl (by omega) (by omega) (fun z7 e7 f7 => ?_)
        refine tl_i (p2 := 38) (i := 149) (n := 283) rfl rfl hI rfl rfl rfl rfl (by omega) (by omega) (fun y8 a8 b8 g8 e8 => ?_)
        refine te_goto rfl ?_
        exact te_iret rfl rfl ⟨hI, f0, _, rfl, (by show y8 = roomTold_f x1 x2 (rmM h) (wM h 149); unfold roomTold_f; rw [(show (rmM h).n = p1 from rv_of e1), (show (wM h 149) x1.toInt.toNat = y8 from (gd_at (by omega)).trans (by show rv h 149 (260 + x1.toInt.toNat) = _; rw [show 260 + x1.toInt.toNat = z7.toInt.toNat by omega]; exact rv_of e8))]; (repeat' split) <;> first | (exfalso; omega) | (simp only [Dy.mk, Dy.ld, Dy.hm, Dy.hu, Dy.wk, Dy.de, Dy.st, Dy.up, Dy.rl, Dy.rs, Dy.ra, Dy.kp, Dy.du, Dy.ti, Dy.da, Dy.we, Dy.wi, Dy.s_ld, Dy.s_hm, Dy.s_hu, Dy.s_wk, Dy.s_de, Dy.s_st, Dy.s_up, Dy.s_rl, Dy.s_rs, Dy.s_ra, Dy.s_kp, Dy.s_du, Dy.s_ti, Dy.s_da, Dy.s_we, Dy.s_wi, Ct.mk, Ct.kd, Ct.tip, Ct.np, Ct.sg, Ct.ag, Ct.kn, Ct.ro, Ct.hd, Ct.hn, Ct.hf, Ct.ht, Ct.wn, Ct.cr, Ct.wf, Ct.wl, Ct.nw, Ct.wc, Ct.wt, Ct.sd, Ct.s_kd, Ct.s_tip, Ct.s_np, Ct.s_sg, Ct.s_ag, Ct.s_kn, Ct.s_ro, Ct.s_hd, Ct.s_hn, Ct.s_hf, Ct.s_ht, Ct.s_wn, Ct.s_cr, Ct.s_wf, Ct.s_wl, Ct.s_nw, Ct.s_wc, Ct.s_wt, Ct.s_sd, Rm.mk, Rm.n, Rm.ce, Rm.br, Rm.be, Rm.wo, Rm.s_n, Rm.s_ce, Rm.s_br, Rm.s_be, Rm.s_wo]; done) | rfl)⟩
    · refine te_aload_n (p2 := 15) rfl rfl rfl ?_
      refine tg_r (p2 := 18) (i := 148) (r := 185) rfl rfl hI rfl rfl rfl ?_
      refine te_iload_n (p2 := 19) rfl rfl rfl ?_
      refine tl_i (p2 := 20) (i := 169) (n := 12) rfl rfl hI rfl rfl rfl rfl (by omega) (by omega) (fun y9 a9 b9 g9 e9 => ?_)
      refine te_goto rfl ?_
      exact te_iret rfl rfl ⟨hI, f0, _, rfl, (by show y9 = roomTold_f x1 x2 (rmM h) (wM h 149); unfold roomTold_f; rw [(show (rmM h).n = p1 from rv_of e1), (show (rmM h).ce x1.toInt.toNat = y9 from (gd_at (by omega)).trans (rv_of e9))]; (repeat' split) <;> first | (exfalso; omega) | (simp only [Dy.mk, Dy.ld, Dy.hm, Dy.hu, Dy.wk, Dy.de, Dy.st, Dy.up, Dy.rl, Dy.rs, Dy.ra, Dy.kp, Dy.du, Dy.ti, Dy.da, Dy.we, Dy.wi, Dy.s_ld, Dy.s_hm, Dy.s_hu, Dy.s_wk, Dy.s_de, Dy.s_st, Dy.s_up, Dy.s_rl, Dy.s_rs, Dy.s_ra, Dy.s_kp, Dy.s_du, Dy.s_ti, Dy.s_da, Dy.s_we, Dy.s_wi, Ct.mk, Ct.kd, Ct.tip, Ct.np, Ct.sg, Ct.ag, Ct.kn, Ct.ro, Ct.hd, Ct.hn, Ct.hf, Ct.ht, Ct.wn, Ct.cr, Ct.wf, Ct.wl, Ct.nw, Ct.wc, Ct.wt, Ct.sd, Ct.s_kd, Ct.s_tip, Ct.s_np, Ct.s_sg, Ct.s_ag, Ct.s_kn, Ct.s_ro, Ct.s_hd, Ct.s_hn, Ct.s_hf, Ct.s_ht, Ct.s_wn, Ct.s_cr, Ct.s_wf, Ct.s_wl, Ct.s_nw, Ct.s_wc, Ct.s_wt, Ct.s_sd, Rm.mk, Rm.n, Rm.ce, Rm.br, Rm.be, Rm.wo, Rm.s_n, Rm.s_ce, Rm.s_br, Rm.s_be, Rm.s_wo]; done) | rfl)⟩
  · subst w1
    refine tz_ne (p2 := 8) rfl rfl (show Int32.toInt 0 = 0 from rfl) (fun c10 => absurd c10 (by omega)) (fun c10 => ?_)
    refine te_iconst (p2 := 9) (x := (-1)) rfl rfl (by decide) ?_
    exact te_iret rfl rfl ⟨hI, f0, _, rfl, (by show (-1) = roomTold_f x1 x2 (rmM h) (wM h 149); (have c_ := (show Int32.toInt (-1) = (-1) from rfl)); unfold roomTold_f; rw [(show (rmM h).n = p1 from rv_of e1)]; (repeat' split) <;> first | (exfalso; omega) | (simp only [Dy.mk, Dy.ld, Dy.hm, Dy.hu, Dy.wk, Dy.de, Dy.st, Dy.up, Dy.rl, Dy.rs, Dy.ra, Dy.kp, Dy.du, Dy.ti, Dy.da, Dy.we, Dy.wi, Dy.s_ld, Dy.s_hm, Dy.s_hu, Dy.s_wk, Dy.s_de, Dy.s_st, Dy.s_up, Dy.s_rl, Dy.s_rs, Dy.s_ra, Dy.s_kp, Dy.s_du, Dy.s_ti, Dy.s_da, Dy.s_we, Dy.s_wi, Ct.mk, Ct.kd, Ct.tip, Ct.np, Ct.sg, Ct.ag, Ct.kn, Ct.ro, Ct.hd, Ct.hn, Ct.hf, Ct.ht, Ct.wn, Ct.cr, Ct.wf, Ct.wl, Ct.nw, Ct.wc, Ct.wt, Ct.sd, Ct.s_kd, Ct.s_tip, Ct.s_np, Ct.s_sg, Ct.s_ag, Ct.s_kn, Ct.s_ro, Ct.s_hd, Ct.s_hn, Ct.s_hf, Ct.s_ht, Ct.s_wn, Ct.s_cr, Ct.s_wf, Ct.s_wl, Ct.s_nw, Ct.s_wc, Ct.s_wt, Ct.s_sd, Rm.mk, Rm.n, Rm.ce, Rm.br, Rm.be, Rm.wo, Rm.s_n, Rm.s_ce, Rm.s_br, Rm.s_be, Rm.s_wo]; done) | rfl)⟩
