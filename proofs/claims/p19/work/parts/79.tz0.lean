def rowTold_f (x1 x2 : Int32) (c : Ct) (A : Dy) : Int32 := if 0 ≤ x1.toInt ∧ x1.toInt ≤ 3 then (if x2.toInt = 0 then c.hn x1.toInt.toNat else if x2.toInt = 1 then A.rl x1.toInt.toNat else if x2.toInt = 2 then (if (c.hn x1.toInt.toNat).toInt = 0 then -1 else A.rs x1.toInt.toNat) else -2) else -5
abbrev Q1_rowTold (x1 x2 : Int32) (y : Int32) (h h2 : im_H) : Prop := y = rowTold_f x1 x2 (cX h) (absX h 23)
set_option maxRecDepth 20000 in
set_option maxHeartbeats 4000000 in
theorem c_X11_rowTold {x1 : Int32} {x2 : Int32} {h : im_H} (hI : tI h)  : CaP 8 80 [.ref 16, .int x1, .int x2] h (fun v h2 => tI h2 ∧ fr F_X11_rowTold h h2 ∧ ∃ y : Int32, v = some (.int y) ∧ Q1_rowTold x1 x2 y h h2) := by
  refine cap_of (d := 7) (M := mX11_rowTold) rfl (Nat.le_of_ble_eq_true rfl) ?_
  show EvP im_K0 7 mX11_rowTold (0, [(0, .ref 16), (1, .int x1), (2, .int x2)], [], h) _
  have f0 : fr F_X11_rowTold h h := fr_rf
  refine te_iload_n (p2 := 1) rfl rfl rfl ?_
  refine te_iconst (p2 := 2) (x := 4) rfl rfl (by decide) ?_
  refine cS_pI (p2 := 5) rfl rfl rfl rfl (t_X11_within (n := x1) (b := 4) hI ) (by decide) (fun y1 r1 => ?_)
  rcases r1 with ⟨w1, c1⟩ | ⟨w1, c1⟩
  · subst w1
    have cc1_1 := (show Int32.toInt 4 = 4 from rfl)
    refine tz_ne (p2 := 8) rfl rfl (show Int32.toInt 1 = 1 from rfl) (fun c2 => ?_) (fun c2 => absurd c2 (by omega))
    refine te_iload_n (p2 := 12) rfl rfl rfl ?_
    by_cases c3 : x2.toInt = 0
    · refine te_tsIn (k := 0) (p2 := 40) rfl c3 (by decide) (by decide) rfl (by decide) ?_
      refine te_aload_n (p2 := 41) rfl rfl rfl ?_
      refine tg_r (p2 := 44) (i := 0) (r := 17) rfl rfl hI rfl rfl rfl ?_
      refine tg_r (p2 := 47) (i := 1) (r := 23) rfl rfl hI rfl rfl rfl ?_
      refine te_iload_n (p2 := 48) rfl rfl rfl ?_
      refine tl_f (p2 := 49) (i := 7) (n := 4) (c0 := 12) (sp := 2) rfl rfl hI rfl rfl (by decide) rq_7 (by omega) (by omega) (fun o4 w4 => ?_)
      have q4 : o4 = 12 ∨ o4 = 14 ∨ o4 = 16 ∨ o4 = 18 := by omega
      refine tg_i (p2 := 52) (i := o4) rfl rfl hI rfl (by rcases q4 with rfl | rfl | rfl | rfl <;> rfl) (by rcases q4 with rfl | rfl | rfl | rfl <;> rfl) (fun y5 a5 b5 e5 => ?_)
      exact te_iret rfl rfl ⟨hI, f0, _, rfl, (by show y5 = rowTold_f x1 x2 (cX h) (absX h 23); unfold rowTold_f; rw [(show (cX h).hn x1.toInt.toNat = y5 from (gd_at (f := fun r => rv h (12 + 2 * r) 1) (by omega)).trans (by show rv h (12 + 2 * x1.toInt.toNat) 1 = _; rw [show 12 + 2 * x1.toInt.toNat = o4 by omega]; exact rv_of e5))]; (repeat' split) <;> first | (exfalso; omega) | (simp only [Dy.mk, Dy.ld, Dy.hm, Dy.hu, Dy.wk, Dy.de, Dy.st, Dy.up, Dy.rl, Dy.rs, Dy.ra, Dy.kp, Dy.du, Dy.ti, Dy.da, Dy.we, Dy.wi, Dy.s_ld, Dy.s_hm, Dy.s_hu, Dy.s_wk, Dy.s_de, Dy.s_st, Dy.s_up, Dy.s_rl, Dy.s_rs, Dy.s_ra, Dy.s_kp, Dy.s_du, Dy.s_ti, Dy.s_da, Dy.s_we, Dy.s_wi, Ct.mk, Ct.kd, Ct.tip, Ct.np, Ct.sg, Ct.ag, Ct.kn, Ct.ro, Ct.hd, Ct.hn, Ct.hf, Ct.ht, Ct.wn, Ct.cr, Ct.wf, Ct.wl, Ct.nw, Ct.wc, Ct.wt, Ct.sd, Ct.s_kd, Ct.s_tip, Ct.s_np, Ct.s_sg, Ct.s_ag, Ct.s_kn, Ct.s_ro, Ct.s_hd, Ct.s_hn, Ct.s_hf, Ct.s_ht, Ct.s_wn, Ct.s_cr, Ct.s_wf, Ct.s_wl, Ct.s_nw, Ct.s_wc, Ct.s_wt, Ct.s_sd, Rm.mk, Rm.n, Rm.ce, Rm.br, Rm.be, Rm.wo, Rm.s_n, Rm.s_ce, Rm.s_br, Rm.s_be, Rm.s_wo]; done) | rfl)⟩
    · by_cases c6 : x2.toInt = 1
      · refine te_tsIn (k := 1) (p2 := 53) rfl c6 (by decide) (by decide) rfl (by decide) ?_
        refine te_aload_n (p2 := 54) rfl rfl rfl ?_
        refine tg_r (p2 := 57) (i := 0) (r := 39) rfl rfl hI rfl rfl rfl ?_
        refine tg_r (p2 := 60) (i := 23) (r := 50) rfl rfl hI rfl rfl rfl ?_
        refine te_iload_n (p2 := 61) rfl rfl rfl ?_
        refine tl_i (p2 := 62) (i := 34) (n := 4) rfl rfl hI rfl rfl rfl rfl (by omega) (by omega) (fun y7 a7 b7 g7 e7 => ?_)
        exact te_iret rfl rfl ⟨hI, f0, _, rfl, (by show y7 = rowTold_f x1 x2 (cX h) (absX h 23); unfold rowTold_f; rw [(show (absX h 23).rl x1.toInt.toNat = y7 from (gd_at (by omega)).trans (rv_of e7))]; (repeat' split) <;> first | (exfalso; omega) | (simp only [Dy.mk, Dy.ld, Dy.hm, Dy.hu, Dy.wk, Dy.de, Dy.st, Dy.up, Dy.rl, Dy.rs, Dy.ra, Dy.kp, Dy.du, Dy.ti, Dy.da, Dy.we, Dy.wi, Dy.s_ld, Dy.s_hm, Dy.s_hu, Dy.s_wk, Dy.s_de, Dy.s_st, Dy.s_up, Dy.s_rl, Dy.s_rs, Dy.s_ra, Dy.s_kp, Dy.s_du, Dy.s_ti, Dy.s_da, Dy.s_we, Dy.s_wi, Ct.mk, Ct.kd, Ct.tip, Ct.np, Ct.sg, Ct.ag, Ct.kn, Ct.ro, Ct.hd, Ct.hn, Ct.hf, Ct.ht, Ct.wn, Ct.cr, Ct.wf, Ct.wl, Ct.nw, Ct.wc, Ct.wt, Ct.sd, Ct.s_kd, Ct.s_tip, Ct.s_np, Ct.s_sg, Ct.s_ag, Ct.s_kn, Ct.s_ro, Ct.s_hd, Ct.s_hn, Ct.s_hf, Ct.s_ht, Ct.s_wn, Ct.s_cr, Ct.s_wf, Ct.s_wl, Ct.s_nw, Ct.s_wc, Ct.s_wt, Ct.s_sd, Rm.mk, Rm.n, Rm.ce, Rm.br, Rm.be, Rm.wo, Rm.s_n, Rm.s_ce, Rm.s_br, Rm.s_be, Rm.s_wo]; done) | rfl)⟩
      · by_cases c8 : x2.toInt = 2
        · refine te_tsIn (k := 2) (p2 := 63) rfl c8 (by decide) (by decide) rfl (by decide) ?_
          refine te_aload_n (p2 := 64) rfl rfl rfl ?_
          refine tg_r (p2 := 67) (i := 0) (r := 17) rfl rfl hI rfl rfl rfl ?_
          refine tg_r (p2 := 70) (i := 1) (r := 23) rfl rfl hI rfl rfl rfl ?_
          refine te_iload_n (p2 := 71) rfl rfl rfl ?_
          refine tl_f (p2 := 72) (i := 7) (n := 4) (c0 := 12) (sp := 2) rfl rfl hI rfl rfl (by decide) rq_7 (by omega) (by omega) (fun o9 w9 => ?_)
          have q9 : o9 = 12 ∨ o9 = 14 ∨ o9 = 16 ∨ o9 = 18 := by omega
          refine tg_i (p2 := 75) (i := o9) rfl rfl hI rfl (by rcases q9 with rfl | rfl | rfl | rfl <;> rfl) (by rcases q9 with rfl | rfl | rfl | rfl <;> rfl) (fun y10 a10 b10 e10 => ?_)
          refine tz_ne (p2 := 78) rfl rfl rfl (fun c11 => ?_) (fun c11 => ?_)
          · refine te_aload_n (p2 := 83) rfl rfl rfl ?_
            refine tg_r (p2 := 86) (i := 0) (r := 39) rfl rfl hI rfl rfl rfl ?_
            refine tg_r (p2 := 89) (i := 23) (r := 51) rfl rfl hI rfl rfl rfl ?_
            refine te_iload_n (p2 := 90) rfl rfl rfl ?_
            refine tl_i (p2 := 91) (i := 35) (n := 4) rfl rfl hI rfl rfl rfl rfl (by omega) (by omega) (fun y12 a12 b12 g12 e12 => ?_)
            exact te_iret rfl rfl ⟨hI, f0, _, rfl, (by show y12 = rowTold_f x1 x2 (cX h) (absX h 23); unfold rowTold_f; rw [(show (cX h).hn x1.toInt.toNat = y10 from (gd_at (f := fun r => rv h (12 + 2 * r) 1) (by omega)).trans (by show rv h (12 + 2 * x1.toInt.toNat) 1 = _; rw [show 12 + 2 * x1.toInt.toNat = o9 by omega]; exact rv_of e10)), (show (absX h 23).rs x1.toInt.toNat = y12 from (gd_at (by omega)).trans (rv_of e12))]; (repeat' split) <;> first | (exfalso; omega) | (simp only [Dy.mk, Dy.ld, Dy.hm, Dy.hu, Dy.wk, Dy.de, Dy.st, Dy.up, Dy.rl, Dy.rs, Dy.ra, Dy.kp, Dy.du, Dy.ti, Dy.da, Dy.we, Dy.wi, Dy.s_ld, Dy.s_hm, Dy.s_hu, Dy.s_wk, Dy.s_de, Dy.s_st, Dy.s_up, Dy.s_rl, Dy.s_rs, Dy.s_ra, Dy.s_kp, Dy.s_du, Dy.s_ti, Dy.s_da, Dy.s_we, Dy.s_wi, Ct.mk, Ct.kd, Ct.tip, Ct.np, Ct.sg, Ct.ag, Ct.kn, Ct.ro, Ct.hd, Ct.hn, Ct.hf, Ct.ht, Ct.wn, Ct.cr, Ct.wf, Ct.wl, Ct.nw, Ct.wc, Ct.wt, Ct.sd, Ct.s_kd, Ct.s_tip, Ct.s_np, Ct.s_sg, Ct.s_ag, Ct.s_kn, Ct.s_ro, Ct.s_hd, Ct.s_hn, Ct.s_hf, Ct.s_ht, Ct.s_wn, Ct.s_cr, Ct.s_wf, Ct.s_wl, Ct.s_nw, Ct.s_wc, Ct.s_wt, Ct.s_sd, Rm.mk, Rm.n, Rm.ce, Rm.br, Rm.be, Rm.wo, Rm.s_n, Rm.s_ce, Rm.s_br, Rm.s_be, Rm.s_wo]; done) | rfl)⟩
          · refine te_iconst (p2 := 79) (x := (-1)) rfl rfl (by decide) ?_
            refine te_goto rfl ?_
            exact te_iret rfl rfl ⟨hI, f0, _, rfl, (by show (-1) = rowTold_f x1 x2 (cX h) (absX h 23); (have c_ := (show Int32.toInt (-1) = (-1) from rfl)); unfold rowTold_f; rw [(show (cX h).hn x1.toInt.toNat = y10 from (gd_at (f := fun r => rv h (12 + 2 * r) 1) (by omega)).trans (by show rv h (12 + 2 * x1.toInt.toNat) 1 = _; rw [show 12 + 2 * x1.toInt.toNat = o9 by omega]; exact rv_of e10))]; (repeat' split) <;> first | (exfalso; omega) | (simp only [Dy.mk, Dy.ld, Dy.hm, Dy.hu, Dy.wk, Dy.de, Dy.st, Dy.up, Dy.rl, Dy.rs, Dy.ra, Dy.kp, Dy.du, Dy.ti, Dy.da, Dy.we, Dy.wi, Dy.s_ld, Dy.s_hm, Dy.s_hu, Dy.s_wk, Dy.s_de, Dy.s_st, Dy.s_up, Dy.s_rl, Dy.s_rs, Dy.s_ra, Dy.s_kp, Dy.s_du, Dy.s_ti, Dy.s_da, Dy.s_we, Dy.s_wi, Ct.mk, Ct.kd, Ct.tip, Ct.np, Ct.sg, Ct.ag, Ct.kn, Ct.ro, Ct.hd, Ct.hn, Ct.hf, Ct.ht, Ct.wn, Ct.cr, Ct.wf, Ct.wl, Ct.nw, Ct.wc, Ct.wt, Ct.sd, Ct.s_kd, Ct.s_tip, Ct.s_np, Ct.s_sg, Ct.s_ag, Ct.s_kn, Ct.s_ro, Ct.s_hd, Ct.s_hn, Ct.s_hf, Ct.s_ht, Ct.s_wn, Ct.s_cr, Ct.s_wf, Ct.s_wl, Ct.s_nw, Ct.s_wc, Ct.s_wt, Ct.s_sd, Rm.mk, Rm.n, Rm.ce, Rm.br, Rm.be, Rm.wo, Rm.s_n, Rm.s_ce, Rm.s_br, Rm.s_be, Rm.s_wo]; done) | rfl)⟩
        · refine te_tsOut (p2 := 92) rfl (by omega) (by decide) ?_
          refine te_bipush (p2 := 94) (x := (-2)) rfl rfl (by decide) ?_
          exact te_iret rfl rfl ⟨hI, f0, _, rfl, (by show (-2) = rowTold_f x1 x2 (cX h) (absX h 23); (have c_ := (show Int32.toInt (-2) = (-2) from rfl)); unfold rowTold_f; (repeat' split) <;> first | (exfalso; omega) | (simp only [Dy.mk, Dy.ld, Dy.hm, Dy.hu, Dy.wk, Dy.de, Dy.st, Dy.up, Dy.rl, Dy.rs, Dy.ra, Dy.kp, Dy.du, Dy.ti, Dy.da, Dy.we, Dy.wi, Dy.s_ld, Dy.s_hm, Dy.s_hu, Dy.s_wk, Dy.s_de, Dy.s_st, Dy.s_up, Dy.s_rl, Dy.s_rs, Dy.s_ra, Dy.s_kp, Dy.s_du, Dy.s_ti, Dy.s_da, Dy.s_we, Dy.s_wi, Ct.mk, Ct.kd, Ct.tip, Ct.np, Ct.sg, Ct.ag, Ct.kn, Ct.ro, Ct.hd, Ct.hn, Ct.hf, Ct.ht, Ct.wn, Ct.cr, Ct.wf, Ct.wl, Ct.nw, Ct.wc, Ct.wt, Ct.sd, Ct.s_kd, Ct.s_tip, Ct.s_np, Ct.s_sg, Ct.s_ag, Ct.s_kn, Ct.s_ro, Ct.s_hd, Ct.s_hn, Ct.s_hf, Ct.s_ht, Ct.s_wn, Ct.s_cr, Ct.s_wf, Ct.s_wl, Ct.s_nw, Ct.s_wc, Ct.s_wt, Ct.s_sd, Rm.mk, Rm.n, Rm.ce, Rm.br, Rm.be, Rm.wo, Rm.s_n, Rm.s_ce, Rm.s_br, Rm.s_be, Rm.s_wo]; done) | rfl)⟩
  · subst w1
    have cc1_1 := (show Int32.toInt 4 = 4 from rfl)
    refine tz_ne (p2 := 8) rfl rfl (show Int32.toInt 0 = 0 from rfl) (fun c13 => absurd c13 (by omega)) (fun c13 => ?_)
    refine te_bipush (p2 := 10) (x := (-5)) rfl rfl (by decide) ?_
    exact te_iret rfl rfl ⟨hI, f0, _, rfl, (by show (-5) = rowTold_f x1 x2 (cX h) (absX h 23); (have c_ := (show Int32.toInt (-5) = (-5) from rfl)); unfold rowTold_f; (repeat' split) <;> first | (exfalso; omega) | (simp only [Dy.mk, Dy.ld, Dy.hm, Dy.hu, Dy.wk, Dy.de, Dy.st, Dy.up, Dy.rl, Dy.rs, Dy.ra, Dy.kp, Dy.du, Dy.ti, Dy.da, Dy.we, Dy.wi, Dy.s_ld, Dy.s_hm, Dy.s_hu, Dy.s_wk, Dy.s_de, Dy.s_st, Dy.s_up, Dy.s_rl, Dy.s_rs, Dy.s_ra, Dy.s_kp, Dy.s_du, Dy.s_ti, Dy.s_da, Dy.s_we, Dy.s_wi, Ct.mk, Ct.kd, Ct.tip, Ct.np, Ct.sg, Ct.ag, Ct.kn, Ct.ro, Ct.hd, Ct.hn, Ct.hf, Ct.ht, Ct.wn, Ct.cr, Ct.wf, Ct.wl, Ct.nw, Ct.wc, Ct.wt, Ct.sd, Ct.s_kd, Ct.s_tip, Ct.s_np, Ct.s_sg, Ct.s_ag, Ct.s_kn, Ct.s_ro, Ct.s_hd, Ct.s_hn, Ct.s_hf, Ct.s_ht, Ct.s_wn, Ct.s_cr, Ct.s_wf, Ct.s_wl, Ct.s_nw, Ct.s_wc, Ct.s_wt, Ct.s_sd, Rm.mk, Rm.n, Rm.ce, Rm.br, Rm.be, Rm.wo, Rm.s_n, Rm.s_ce, Rm.s_br, Rm.s_be, Rm.s_wo]; done) | rfl)⟩
abbrev Q2_rowTold (x1 x2 : Int32) (y : Int32) (h h2 : im_H) : Prop := y = rowTold_f x1 x2 (cM h) (absM h)
set_option maxRecDepth 20000 in
set_option maxHeartbeats 4000000 in
theorem c_X12_rowTold {x1 : Int32} {x2 : Int32} {h : im_H} (hI : tI h)  : CaP 8 159 [.ref 164, .int x1, .int x2] h (fun v h2 => tI h2 ∧ fr F_X12_rowTold h h2 ∧ ∃ y : Int32, v = some (.int y) ∧ Q2_rowTold x1 x2 y h h2) := by
  refine cap_of (d := 7) (M := mX12_rowTold) rfl (Nat.le_of_ble_eq_true rfl) ?_
  show EvP im_K0 7 mX12_rowTold (0, [(0, .ref 164), (1, .int x1), (2, .int x2)], [], h) _
  have f0 : fr F_X12_rowTold h h := fr_rf
  refine te_iload_n (p2 := 1) rfl rfl rfl ?_
  refine te_iconst (p2 := 2) (x := 0) rfl rfl (by decide) ?_
  refine te_iconst (p2 := 3) (x := 3) rfl rfl (by decide) ?_
  refine cS_pI (p2 := 6) rfl rfl rfl rfl (t_X12_in (n := x1) (a := 0) (b := 3) hI ) (by decide) (fun y1 r1 => ?_)
  rcases r1 with ⟨w1, c1⟩ | ⟨w1, c1⟩
  · subst w1
    have cc1_1 := (show Int32.toInt 0 = 0 from rfl)
    have cc1_2 := (show Int32.toInt 3 = 3 from rfl)
    refine tz_ne (p2 := 9) rfl rfl (show Int32.toInt 1 = 1 from rfl) (fun c2 => ?_) (fun c2 => absurd c2 (by omega))
    refine te_iload_n (p2 := 13) rfl rfl rfl ?_
    refine tz_ne (p2 := 16) rfl rfl rfl (fun c3 => ?_) (fun c3 => ?_)
    · refine te_iload_n (p2 := 26) rfl rfl rfl ?_
      refine te_iconst (p2 := 27) (x := 1) rfl rfl (by decide) ?_
      refine tb_ne (p2 := 30) rfl rfl rfl (show Int32.toInt 1 = 1 from rfl) (fun c4 => ?_) (fun c4 => ?_)
      · refine te_iload_n (p2 := 44) rfl rfl rfl ?_
        refine te_iconst (p2 := 45) (x := 2) rfl rfl (by decide) ?_
        refine tb_ne (p2 := 48) rfl rfl rfl (show Int32.toInt 2 = 2 from rfl) (fun c5 => ?_) (fun c5 => ?_)
        · refine te_bipush (p2 := 76) (x := (-2)) rfl rfl (by decide) ?_
          exact te_iret rfl rfl ⟨hI, f0, _, rfl, (by show (-2) = rowTold_f x1 x2 (cM h) (absM h); (have c_ := (show Int32.toInt (-2) = (-2) from rfl)); unfold rowTold_f; (repeat' split) <;> first | (exfalso; omega) | (simp only [Dy.mk, Dy.ld, Dy.hm, Dy.hu, Dy.wk, Dy.de, Dy.st, Dy.up, Dy.rl, Dy.rs, Dy.ra, Dy.kp, Dy.du, Dy.ti, Dy.da, Dy.we, Dy.wi, Dy.s_ld, Dy.s_hm, Dy.s_hu, Dy.s_wk, Dy.s_de, Dy.s_st, Dy.s_up, Dy.s_rl, Dy.s_rs, Dy.s_ra, Dy.s_kp, Dy.s_du, Dy.s_ti, Dy.s_da, Dy.s_we, Dy.s_wi, Ct.mk, Ct.kd, Ct.tip, Ct.np, Ct.sg, Ct.ag, Ct.kn, Ct.ro, Ct.hd, Ct.hn, Ct.hf, Ct.ht, Ct.wn, Ct.cr, Ct.wf, Ct.wl, Ct.nw, Ct.wc, Ct.wt, Ct.sd, Ct.s_kd, Ct.s_tip, Ct.s_np, Ct.s_sg, Ct.s_ag, Ct.s_kn, Ct.s_ro, Ct.s_hd, Ct.s_hn, Ct.s_hf, Ct.s_ht, Ct.s_wn, Ct.s_cr, Ct.s_wf, Ct.s_wl, Ct.s_nw, Ct.s_wc, Ct.s_wt, Ct.s_sd, Rm.mk, Rm.n, Rm.ce, Rm.br, Rm.be, Rm.wo, Rm.s_n, Rm.s_ce, Rm.s_br, Rm.s_be, Rm.s_wo]; done) | rfl)⟩
        · refine te_aload_n (p2 := 49) rfl rfl rfl ?_
          refine tg_r (p2 := 52) (i := 148) (r := 177) rfl rfl hI rfl rfl rfl ?_
          refine te_iload_n (p2 := 53) rfl rfl rfl ?_
          refine tl_i (p2 := 54) (i := 161) (n := 4) rfl rfl hI rfl rfl rfl rfl (by omega) (by omega) (fun y6 a6 b6 g6 e6 => ?_)
          refine tz_ne (p2 := 57) rfl rfl rfl (fun c7 => ?_) (fun c7 => ?_)
          · refine te_aload_n (p2 := 62) rfl rfl rfl ?_
            refine tg_r (p2 := 65) (i := 148) (r := 165) rfl rfl hI rfl rfl rfl ?_
            refine te_sipush (p2 := 68) (x := 276) rfl rfl (by decide) ?_
            refine te_iload_n (p2 := 69) rfl rfl rfl ?_
            refine ar_add (p2 := 70) rfl rfl (show Int32.toInt 276 = 276 from rfl) rfl (by omega) (by omega) (fun z8 e8 f8 => ?_)
            refine tl_i (p2 := 71) (i := 149) (n := 283) rfl rfl hI rfl rfl rfl rfl (by omega) (by omega) (fun y9 a9 b9 g9 e9 => ?_)
            refine te_goto rfl ?_
            exact te_iret rfl rfl ⟨hI, f0, _, rfl, (by show y9 = rowTold_f x1 x2 (cM h) (absM h); unfold rowTold_f; rw [(show (cM h).hn x1.toInt.toNat = y6 from (gd_at (by omega)).trans (rv_of e6)), (show (absM h).rs x1.toInt.toNat = y9 from (gd_at (by omega)).trans (by show rv h 149 (276 + x1.toInt.toNat) = _; rw [show 276 + x1.toInt.toNat = z8.toInt.toNat by omega]; exact rv_of e9))]; (repeat' split) <;> first | (exfalso; omega) | (simp only [Dy.mk, Dy.ld, Dy.hm, Dy.hu, Dy.wk, Dy.de, Dy.st, Dy.up, Dy.rl, Dy.rs, Dy.ra, Dy.kp, Dy.du, Dy.ti, Dy.da, Dy.we, Dy.wi, Dy.s_ld, Dy.s_hm, Dy.s_hu, Dy.s_wk, Dy.s_de, Dy.s_st, Dy.s_up, Dy.s_rl, Dy.s_rs, Dy.s_ra, Dy.s_kp, Dy.s_du, Dy.s_ti, Dy.s_da, Dy.s_we, Dy.s_wi, Ct.mk, Ct.kd, Ct.tip, Ct.np, Ct.sg, Ct.ag, Ct.kn, Ct.ro, Ct.hd, Ct.hn, Ct.hf, Ct.ht, Ct.wn, Ct.cr, Ct.wf, Ct.wl, Ct.nw, Ct.wc, Ct.wt, Ct.sd, Ct.s_kd, Ct.s_tip, Ct.s_np, Ct.s_sg, Ct.s_ag, Ct.s_kn, Ct.s_ro, Ct.s_hd, Ct.s_hn, Ct.s_hf, Ct.s_ht, Ct.s_wn, Ct.s_cr, Ct.s_wf, Ct.s_wl, Ct.s_nw, Ct.s_wc, Ct.s_wt, Ct.s_sd, Rm.mk, Rm.n, Rm.ce, Rm.br, Rm.be, Rm.wo, Rm.s_n, Rm.s_ce, Rm.s_br, Rm.s_be, Rm.s_wo]; done) | rfl)⟩
          · refine te_iconst (p2 := 58) (x := (-1)) rfl rfl (by decide) ?_
            refine te_goto rfl ?_
            exact te_iret rfl rfl ⟨hI, f0, _, rfl, (by show (-1) = rowTold_f x1 x2 (cM h) (absM h); (have c_ := (show Int32.toInt (-1) = (-1) from rfl)); unfold rowTold_f; rw [(show (cM h).hn x1.toInt.toNat = y6 from (gd_at (by omega)).trans (rv_of e6))]; (repeat' split) <;> first | (exfalso; omega) | (simp only [Dy.mk, Dy.ld, Dy.hm, Dy.hu, Dy.wk, Dy.de, Dy.st, Dy.up, Dy.rl, Dy.rs, Dy.ra, Dy.kp, Dy.du, Dy.ti, Dy.da, Dy.we, Dy.wi, Dy.s_ld, Dy.s_hm, Dy.s_hu, Dy.s_wk, Dy.s_de, Dy.s_st, Dy.s_up, Dy.s_rl, Dy.s_rs, Dy.s_ra, Dy.s_kp, Dy.s_du, Dy.s_ti, Dy.s_da, Dy.s_we, Dy.s_wi, Ct.mk, Ct.kd, Ct.tip, Ct.np, Ct.sg, Ct.ag, Ct.kn, Ct.ro, Ct.hd, Ct.hn, Ct.hf, Ct.ht, Ct.wn, Ct.cr, Ct.wf, Ct.wl, Ct.nw, Ct.wc, Ct.wt, Ct.sd, Ct.s_kd, Ct.s_tip, Ct.s_np, Ct.s_sg, Ct.s_ag, Ct.s_kn, Ct.s_ro, Ct.s_hd, Ct.s_hn, Ct.s_hf, Ct.s_ht, Ct.s_wn, Ct.s_cr, Ct.s_wf, Ct.s_wl, Ct.s_nw, Ct.s_wc, Ct.s_wt, Ct.s_sd, Rm.mk, Rm.n, Rm.ce, Rm.br, Rm.be, Rm.wo, Rm.s_n, Rm.s_ce, Rm.s_br, Rm.s_be, Rm.s_wo]; done) | rfl)⟩
      · refine te_aload_n (p2 := 31) rfl rfl rfl ?_
        refine tg_r (p2 := 34) (i := 148) (r := 165) rfl rfl hI rfl rfl rfl ?_
        refine te_sipush (p2 := 37) (x := 272) rfl rfl (by decide) ?_
        refine te_iload_n (p2 := 38) rfl rfl rfl ?_
        refine ar_add (p2 := 39) rfl rfl (show Int32.toInt 272 = 272 from rfl) rfl (by omega) (by omega) (fun z10 e10 f10 => ?_)
        refine tl_i (p2 := 40) (i := 149) (n := 283) rfl rfl hI rfl rfl rfl rfl (by omega) (by omega) (fun y11 a11 b11 g11 e11 => ?_)
        refine te_goto rfl ?_
        exact te_iret rfl rfl ⟨hI, f0, _, rfl, (by show y11 = rowTold_f x1 x2 (cM h) (absM h); unfold rowTold_f; rw [(show (absM h).rl x1.toInt.toNat = y11 from (gd_at (by omega)).trans (by show rv h 149 (272 + x1.toInt.toNat) = _; rw [show 272 + x1.toInt.toNat = z10.toInt.toNat by omega]; exact rv_of e11))]; (repeat' split) <;> first | (exfalso; omega) | (simp only [Dy.mk, Dy.ld, Dy.hm, Dy.hu, Dy.wk, Dy.de, Dy.st, Dy.up, Dy.rl, Dy.rs, Dy.ra, Dy.kp, Dy.du, Dy.ti, Dy.da, Dy.we, Dy.wi, Dy.s_ld, Dy.s_hm, Dy.s_hu, Dy.s_wk, Dy.s_de, Dy.s_st, Dy.s_up, Dy.s_rl, Dy.s_rs, Dy.s_ra, Dy.s_kp, Dy.s_du, Dy.s_ti, Dy.s_da, Dy.s_we, Dy.s_wi, Ct.mk, Ct.kd, Ct.tip, Ct.np, Ct.sg, Ct.ag, Ct.kn, Ct.ro, Ct.hd, Ct.hn, Ct.hf, Ct.ht, Ct.wn, Ct.cr, Ct.wf, Ct.wl, Ct.nw, Ct.wc, Ct.wt, Ct.sd, Ct.s_kd, Ct.s_tip, Ct.s_np, Ct.s_sg, Ct.s_ag, Ct.s_kn, Ct.s_ro, Ct.s_hd, Ct.s_hn, Ct.s_hf, Ct.s_ht, Ct.s_wn, Ct.s_cr, Ct.s_wf, Ct.s_wl, Ct.s_nw, Ct.s_wc, Ct.s_wt, Ct.s_sd, Rm.mk, Rm.n, Rm.ce, Rm.br, Rm.be, Rm.wo, Rm.s_n, Rm.s_ce, Rm.s_br, Rm.s_be, Rm.s_wo]; done) | rfl)⟩
    · refine te_aload_n (p2 := 17) rfl rfl rfl ?_
      refine tg_r (p2 := 20) (i := 148) (r := 177) rfl rfl hI rfl rfl rfl ?_
      refine te_iload_n (p2 := 21) rfl rfl rfl ?_
      refine tl_i (p2 := 22) (i := 161) (n := 4) rfl rfl hI rfl rfl rfl rfl (by omega) (by omega) (fun y12 a12 b12 g12 e12 => ?_)
      refine te_goto rfl ?_
      exact te_iret rfl rfl ⟨hI, f0, _, rfl, (by show y12 = rowTold_f x1 x2 (cM h) (absM h); unfold rowTold_f; rw [(show (cM h).hn x1.toInt.toNat = y12 from (gd_at (by omega)).trans (rv_of e12))]; (repeat' split) <;> first | (exfalso; omega) | (simp only [Dy.mk, Dy.ld, Dy.hm, Dy.hu, Dy.wk, Dy.de, Dy.st, Dy.up, Dy.rl, Dy.rs, Dy.ra, Dy.kp, Dy.du, Dy.ti, Dy.da, Dy.we, Dy.wi, Dy.s_ld, Dy.s_hm, Dy.s_hu, Dy.s_wk, Dy.s_de, Dy.s_st, Dy.s_up, Dy.s_rl, Dy.s_rs, Dy.s_ra, Dy.s_kp, Dy.s_du, Dy.s_ti, Dy.s_da, Dy.s_we, Dy.s_wi, Ct.mk, Ct.kd, Ct.tip, Ct.np, Ct.sg, Ct.ag, Ct.kn, Ct.ro, Ct.hd, Ct.hn, Ct.hf, Ct.ht, Ct.wn, Ct.cr, Ct.wf, Ct.wl, Ct.nw, Ct.wc, Ct.wt, Ct.sd, Ct.s_kd, Ct.s_tip, Ct.s_np, Ct.s_sg, Ct.s_ag, Ct.s_kn, Ct.s_ro, Ct.s_hd, Ct.s_hn, Ct.s_hf, Ct.s_ht, Ct.s_wn, Ct.s_cr, Ct.s_wf, Ct.s_wl, Ct.s_nw, Ct.s_wc, Ct.s_wt, Ct.s_sd, Rm.mk, Rm.n, Rm.ce, Rm.br, Rm.be, Rm.wo, Rm.s_n, Rm.s_ce, Rm.s_br, Rm.s_be, Rm.s_wo]; done) | rfl)⟩
  · subst w1
    have cc1_1 := (show Int32.toInt 0 = 0 from rfl)
    have cc1_2 := (show Int32.toInt 3 = 3 from rfl)
    refine tz_ne (p2 := 9) rfl rfl (show Int32.toInt 0 = 0 from rfl) (fun c13 => absurd c13 (by omega)) (fun c13 => ?_)
    refine te_bipush (p2 := 11) (x := (-5)) rfl rfl (by decide) ?_
    exact te_iret rfl rfl ⟨hI, f0, _, rfl, (by show (-5) = rowTold_f x1 x2 (cM h) (absM h); (have c_ := (show Int32.toInt (-5) = (-5) from rfl)); unfold rowTold_f; (repeat' split) <;> first | (exfalso; omega) | (simp only [Dy.mk, Dy.ld, Dy.hm, Dy.hu, Dy.wk, Dy.de, Dy.st, Dy.up, Dy.rl, Dy.rs, Dy.ra, Dy.kp, Dy.du, Dy.ti, Dy.da, Dy.we, Dy.wi, Dy.s_ld, Dy.s_hm, Dy.s_hu, Dy.s_wk, Dy.s_de, Dy.s_st, Dy.s_up, Dy.s_rl, Dy.s_rs, Dy.s_ra, Dy.s_kp, Dy.s_du, Dy.s_ti, Dy.s_da, Dy.s_we, Dy.s_wi, Ct.mk, Ct.kd, Ct.tip, Ct.np, Ct.sg, Ct.ag, Ct.kn, Ct.ro, Ct.hd, Ct.hn, Ct.hf, Ct.ht, Ct.wn, Ct.cr, Ct.wf, Ct.wl, Ct.nw, Ct.wc, Ct.wt, Ct.sd, Ct.s_kd, Ct.s_tip, Ct.s_np, Ct.s_sg, Ct.s_ag, Ct.s_kn, Ct.s_ro, Ct.s_hd, Ct.s_hn, Ct.s_hf, Ct.s_ht, Ct.s_wn, Ct.s_cr, Ct.s_wf, Ct.s_wl, Ct.s_nw, Ct.s_wc, Ct.s_wt, Ct.s_sd, Rm.mk, Rm.n, Rm.ce, Rm.br, Rm.be, Rm.wo, Rm.s_n, Rm.s_ce, Rm.s_br, Rm.s_be, Rm.s_wo]; done) | rfl)⟩
