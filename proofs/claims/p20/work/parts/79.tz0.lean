def railTold_f (x1 x2 : Int32) (c : Ct) (A : Dy) : Int32 := if 0 ≤ x1.toInt ∧ x1.toInt ≤ 2 then (if x2.toInt = 0 then c.wn x1.toInt.toNat else if x2.toInt = 1 then A.ra x1.toInt.toNat else -2) else -1
abbrev Q1_railTold (x1 x2 : Int32) (y : Int32) (h h2 : im_H) : Prop := y = railTold_f x1 x2 (cX h) (absX h 23)
set_option maxRecDepth 20000 in
set_option maxHeartbeats 4000000 in
theorem c_X11_railTold {x1 : Int32} {x2 : Int32} {h : im_H} (hI : tI h)  : CaP 8 81 [.ref 16, .int x1, .int x2] h (fun v h2 => tI h2 ∧ fr F_X11_railTold h h2 ∧ ∃ y : Int32, v = some (.int y) ∧ Q1_railTold x1 x2 y h h2) := by
  refine cap_of (d := 7) (M := mX11_railTold) rfl (Nat.le_of_ble_eq_true rfl) ?_
  show EvP im_K0 7 mX11_railTold (0, [(0, .ref 16), (1, .int x1), (2, .int x2)], [], h) _
  have f0 : fr F_X11_railTold h h := fr_rf
  refine te_iload_n (p2 := 1) rfl rfl rfl ?_
  refine te_iconst (p2 := 2) (x := 3) rfl rfl (by decide) ?_
  refine cS_pI (p2 := 5) rfl rfl rfl rfl (t_X11_within (n := x1) (b := 3) hI ) (by decide) (fun y1 r1 => ?_)
  rcases r1 with ⟨w1, c1⟩ | ⟨w1, c1⟩
  · subst w1
    have cc1_1 := (show Int32.toInt 3 = 3 from rfl)
    refine tz_ne (p2 := 8) rfl rfl (show Int32.toInt 1 = 1 from rfl) (fun c2 => ?_) (fun c2 => absurd c2 (by omega))
    refine te_iload_n (p2 := 11) rfl rfl rfl ?_
    by_cases c3 : x2.toInt = 0
    · refine te_ls (p2 := 36) (off := 25) rfl (by decide) (by rw [c3]; decide) (by decide) ?_
      refine te_aload_n (p2 := 37) rfl rfl rfl ?_
      refine tg_r (p2 := 40) (i := 0) (r := 17) rfl rfl hI rfl rfl rfl ?_
      refine tg_r (p2 := 43) (i := 1) (r := 24) rfl rfl hI rfl rfl rfl ?_
      refine te_iload_n (p2 := 44) rfl rfl rfl ?_
      refine tl_f (p2 := 45) (i := 8) (n := 3) (c0 := 20) (sp := 1) rfl rfl hI rfl rfl (by decide) rq_8 (by omega) (by omega) (fun o4 w4 => ?_)
      have q4 : o4 = 20 ∨ o4 = 21 ∨ o4 = 22 := by omega
      refine tg_i (p2 := 48) (i := o4) rfl rfl hI rfl (by rcases q4 with rfl | rfl | rfl <;> rfl) (by rcases q4 with rfl | rfl | rfl <;> rfl) (fun y5 a5 b5 e5 => ?_)
      exact te_iret rfl rfl ⟨hI, f0, _, rfl, (by show y5 = railTold_f x1 x2 (cX h) (absX h 23); unfold railTold_f; rw [(show (cX h).wn x1.toInt.toNat = y5 from (gd_at (f := fun r => rv h (20 + r) 0) (by omega)).trans (by show rv h (20 + x1.toInt.toNat) 0 = _; rw [show 20 + x1.toInt.toNat = o4 by omega]; exact rv_of e5))]; (repeat' split) <;> first | (exfalso; omega) | (simp only [Dy.mk, Dy.ld, Dy.hm, Dy.hu, Dy.wk, Dy.de, Dy.st, Dy.up, Dy.rl, Dy.rs, Dy.ra, Dy.kp, Dy.du, Dy.ti, Dy.da, Dy.we, Dy.wi, Dy.s_ld, Dy.s_hm, Dy.s_hu, Dy.s_wk, Dy.s_de, Dy.s_st, Dy.s_up, Dy.s_rl, Dy.s_rs, Dy.s_ra, Dy.s_kp, Dy.s_du, Dy.s_ti, Dy.s_da, Dy.s_we, Dy.s_wi, Ct.mk, Ct.kd, Ct.tip, Ct.np, Ct.sg, Ct.ag, Ct.kn, Ct.ro, Ct.hd, Ct.hn, Ct.hf, Ct.ht, Ct.wn, Ct.cr, Ct.wf, Ct.wl, Ct.nw, Ct.wc, Ct.wt, Ct.sd, Ct.s_kd, Ct.s_tip, Ct.s_np, Ct.s_sg, Ct.s_ag, Ct.s_kn, Ct.s_ro, Ct.s_hd, Ct.s_hn, Ct.s_hf, Ct.s_ht, Ct.s_wn, Ct.s_cr, Ct.s_wf, Ct.s_wl, Ct.s_nw, Ct.s_wc, Ct.s_wt, Ct.s_sd, Rm.mk, Rm.n, Rm.ce, Rm.br, Rm.be, Rm.wo, Rm.s_n, Rm.s_ce, Rm.s_br, Rm.s_be, Rm.s_wo]; done) | rfl)⟩
    · by_cases c6 : x2.toInt = 1
      · refine te_ls (p2 := 49) (off := 38) rfl (by decide) (by rw [c6]; decide) (by decide) ?_
        refine te_aload_n (p2 := 50) rfl rfl rfl ?_
        refine tg_r (p2 := 53) (i := 0) (r := 39) rfl rfl hI rfl rfl rfl ?_
        refine tg_r (p2 := 56) (i := 23) (r := 52) rfl rfl hI rfl rfl rfl ?_
        refine te_iload_n (p2 := 57) rfl rfl rfl ?_
        refine tl_i (p2 := 58) (i := 36) (n := 3) rfl rfl hI rfl rfl rfl rfl (by omega) (by omega) (fun y7 a7 b7 g7 e7 => ?_)
        exact te_iret rfl rfl ⟨hI, f0, _, rfl, (by show y7 = railTold_f x1 x2 (cX h) (absX h 23); unfold railTold_f; rw [(show (absX h 23).ra x1.toInt.toNat = y7 from (gd_at (by omega)).trans (rv_of e7))]; (repeat' split) <;> first | (exfalso; omega) | (simp only [Dy.mk, Dy.ld, Dy.hm, Dy.hu, Dy.wk, Dy.de, Dy.st, Dy.up, Dy.rl, Dy.rs, Dy.ra, Dy.kp, Dy.du, Dy.ti, Dy.da, Dy.we, Dy.wi, Dy.s_ld, Dy.s_hm, Dy.s_hu, Dy.s_wk, Dy.s_de, Dy.s_st, Dy.s_up, Dy.s_rl, Dy.s_rs, Dy.s_ra, Dy.s_kp, Dy.s_du, Dy.s_ti, Dy.s_da, Dy.s_we, Dy.s_wi, Ct.mk, Ct.kd, Ct.tip, Ct.np, Ct.sg, Ct.ag, Ct.kn, Ct.ro, Ct.hd, Ct.hn, Ct.hf, Ct.ht, Ct.wn, Ct.cr, Ct.wf, Ct.wl, Ct.nw, Ct.wc, Ct.wt, Ct.sd, Ct.s_kd, Ct.s_tip, Ct.s_np, Ct.s_sg, Ct.s_ag, Ct.s_kn, Ct.s_ro, Ct.s_hd, Ct.s_hn, Ct.s_hf, Ct.s_ht, Ct.s_wn, Ct.s_cr, Ct.s_wf, Ct.s_wl, Ct.s_nw, Ct.s_wc, Ct.s_wt, Ct.s_sd, Rm.mk, Rm.n, Rm.ce, Rm.br, Rm.be, Rm.wo, Rm.s_n, Rm.s_ce, Rm.s_br, Rm.s_be, Rm.s_wo]; done) | rfl)⟩
      · refine te_ls (p2 := 59) (off := 48) rfl (by decide) (ls_ne (by omega) (ls_ne (by omega) (ls_nil))) (by decide) ?_
        refine te_bipush (p2 := 61) (x := (-2)) rfl rfl (by decide) ?_
        exact te_iret rfl rfl ⟨hI, f0, _, rfl, (by show (-2) = railTold_f x1 x2 (cX h) (absX h 23); (have c_ := (show Int32.toInt (-2) = (-2) from rfl)); unfold railTold_f; (repeat' split) <;> first | (exfalso; omega) | (simp only [Dy.mk, Dy.ld, Dy.hm, Dy.hu, Dy.wk, Dy.de, Dy.st, Dy.up, Dy.rl, Dy.rs, Dy.ra, Dy.kp, Dy.du, Dy.ti, Dy.da, Dy.we, Dy.wi, Dy.s_ld, Dy.s_hm, Dy.s_hu, Dy.s_wk, Dy.s_de, Dy.s_st, Dy.s_up, Dy.s_rl, Dy.s_rs, Dy.s_ra, Dy.s_kp, Dy.s_du, Dy.s_ti, Dy.s_da, Dy.s_we, Dy.s_wi, Ct.mk, Ct.kd, Ct.tip, Ct.np, Ct.sg, Ct.ag, Ct.kn, Ct.ro, Ct.hd, Ct.hn, Ct.hf, Ct.ht, Ct.wn, Ct.cr, Ct.wf, Ct.wl, Ct.nw, Ct.wc, Ct.wt, Ct.sd, Ct.s_kd, Ct.s_tip, Ct.s_np, Ct.s_sg, Ct.s_ag, Ct.s_kn, Ct.s_ro, Ct.s_hd, Ct.s_hn, Ct.s_hf, Ct.s_ht, Ct.s_wn, Ct.s_cr, Ct.s_wf, Ct.s_wl, Ct.s_nw, Ct.s_wc, Ct.s_wt, Ct.s_sd, Rm.mk, Rm.n, Rm.ce, Rm.br, Rm.be, Rm.wo, Rm.s_n, Rm.s_ce, Rm.s_br, Rm.s_be, Rm.s_wo]; done) | rfl)⟩
  · subst w1
    have cc1_1 := (show Int32.toInt 3 = 3 from rfl)
    refine tz_ne (p2 := 8) rfl rfl (show Int32.toInt 0 = 0 from rfl) (fun c8 => absurd c8 (by omega)) (fun c8 => ?_)
    refine te_iconst (p2 := 9) (x := (-1)) rfl rfl (by decide) ?_
    exact te_iret rfl rfl ⟨hI, f0, _, rfl, (by show (-1) = railTold_f x1 x2 (cX h) (absX h 23); (have c_ := (show Int32.toInt (-1) = (-1) from rfl)); unfold railTold_f; (repeat' split) <;> first | (exfalso; omega) | (simp only [Dy.mk, Dy.ld, Dy.hm, Dy.hu, Dy.wk, Dy.de, Dy.st, Dy.up, Dy.rl, Dy.rs, Dy.ra, Dy.kp, Dy.du, Dy.ti, Dy.da, Dy.we, Dy.wi, Dy.s_ld, Dy.s_hm, Dy.s_hu, Dy.s_wk, Dy.s_de, Dy.s_st, Dy.s_up, Dy.s_rl, Dy.s_rs, Dy.s_ra, Dy.s_kp, Dy.s_du, Dy.s_ti, Dy.s_da, Dy.s_we, Dy.s_wi, Ct.mk, Ct.kd, Ct.tip, Ct.np, Ct.sg, Ct.ag, Ct.kn, Ct.ro, Ct.hd, Ct.hn, Ct.hf, Ct.ht, Ct.wn, Ct.cr, Ct.wf, Ct.wl, Ct.nw, Ct.wc, Ct.wt, Ct.sd, Ct.s_kd, Ct.s_tip, Ct.s_np, Ct.s_sg, Ct.s_ag, Ct.s_kn, Ct.s_ro, Ct.s_hd, Ct.s_hn, Ct.s_hf, Ct.s_ht, Ct.s_wn, Ct.s_cr, Ct.s_wf, Ct.s_wl, Ct.s_nw, Ct.s_wc, Ct.s_wt, Ct.s_sd, Rm.mk, Rm.n, Rm.ce, Rm.br, Rm.be, Rm.wo, Rm.s_n, Rm.s_ce, Rm.s_br, Rm.s_be, Rm.s_wo]; done) | rfl)⟩
abbrev Q2_railTold (x1 x2 : Int32) (y : Int32) (h h2 : im_H) : Prop := y = railTold_f x1 x2 (cM h) (absM h)
set_option maxRecDepth 20000 in
set_option maxHeartbeats 4000000 in
theorem c_X12_railTold {x1 : Int32} {x2 : Int32} {h : im_H} (hI : tI h)  : CaP 8 160 [.ref 164, .int x1, .int x2] h (fun v h2 => tI h2 ∧ fr F_X12_railTold h h2 ∧ ∃ y : Int32, v = some (.int y) ∧ Q2_railTold x1 x2 y h h2) := by
  refine cap_of (d := 7) (M := mX12_railTold) rfl (Nat.le_of_ble_eq_true rfl) ?_
  show EvP im_K0 7 mX12_railTold (0, [(0, .ref 164), (1, .int x1), (2, .int x2)], [], h) _
  have f0 : fr F_X12_railTold h h := fr_rf
  refine te_iload_n (p2 := 1) rfl rfl rfl ?_
  refine te_iconst (p2 := 2) (x := 0) rfl rfl (by decide) ?_
  refine te_iconst (p2 := 3) (x := 2) rfl rfl (by decide) ?_
  refine cS_pI (p2 := 6) rfl rfl rfl rfl (t_X12_in (n := x1) (a := 0) (b := 2) hI ) (by decide) (fun y1 r1 => ?_)
  rcases r1 with ⟨w1, c1⟩ | ⟨w1, c1⟩
  · subst w1
    have cc1_1 := (show Int32.toInt 0 = 0 from rfl)
    have cc1_2 := (show Int32.toInt 2 = 2 from rfl)
    refine tz_ne (p2 := 9) rfl rfl (show Int32.toInt 1 = 1 from rfl) (fun c2 => ?_) (fun c2 => absurd c2 (by omega))
    refine te_iload_n (p2 := 12) rfl rfl rfl ?_
    refine tz_ne (p2 := 15) rfl rfl rfl (fun c3 => ?_) (fun c3 => ?_)
    · refine te_iload_n (p2 := 25) rfl rfl rfl ?_
      refine te_iconst (p2 := 26) (x := 1) rfl rfl (by decide) ?_
      refine tb_ne (p2 := 29) rfl rfl rfl (show Int32.toInt 1 = 1 from rfl) (fun c4 => ?_) (fun c4 => ?_)
      · refine te_bipush (p2 := 44) (x := (-2)) rfl rfl (by decide) ?_
        exact te_iret rfl rfl ⟨hI, f0, _, rfl, (by show (-2) = railTold_f x1 x2 (cM h) (absM h); (have c_ := (show Int32.toInt (-2) = (-2) from rfl)); unfold railTold_f; (repeat' split) <;> first | (exfalso; omega) | (simp only [Dy.mk, Dy.ld, Dy.hm, Dy.hu, Dy.wk, Dy.de, Dy.st, Dy.up, Dy.rl, Dy.rs, Dy.ra, Dy.kp, Dy.du, Dy.ti, Dy.da, Dy.we, Dy.wi, Dy.s_ld, Dy.s_hm, Dy.s_hu, Dy.s_wk, Dy.s_de, Dy.s_st, Dy.s_up, Dy.s_rl, Dy.s_rs, Dy.s_ra, Dy.s_kp, Dy.s_du, Dy.s_ti, Dy.s_da, Dy.s_we, Dy.s_wi, Ct.mk, Ct.kd, Ct.tip, Ct.np, Ct.sg, Ct.ag, Ct.kn, Ct.ro, Ct.hd, Ct.hn, Ct.hf, Ct.ht, Ct.wn, Ct.cr, Ct.wf, Ct.wl, Ct.nw, Ct.wc, Ct.wt, Ct.sd, Ct.s_kd, Ct.s_tip, Ct.s_np, Ct.s_sg, Ct.s_ag, Ct.s_kn, Ct.s_ro, Ct.s_hd, Ct.s_hn, Ct.s_hf, Ct.s_ht, Ct.s_wn, Ct.s_cr, Ct.s_wf, Ct.s_wl, Ct.s_nw, Ct.s_wc, Ct.s_wt, Ct.s_sd, Rm.mk, Rm.n, Rm.ce, Rm.br, Rm.be, Rm.wo, Rm.s_n, Rm.s_ce, Rm.s_br, Rm.s_be, Rm.s_wo]; done) | rfl)⟩
      · refine te_aload_n (p2 := 30) rfl rfl rfl ?_
        refine tg_r (p2 := 33) (i := 148) (r := 165) rfl rfl hI rfl rfl rfl ?_
        refine te_sipush (p2 := 36) (x := 280) rfl rfl (by decide) ?_
        refine te_iload_n (p2 := 37) rfl rfl rfl ?_
        refine ar_add (p2 := 38) rfl rfl (show Int32.toInt 280 = 280 from rfl) rfl (by omega) (by omega) (fun z5 e5 f5 => ?_)
        refine tl_i (p2 := 39) (i := 149) (n := 283) rfl rfl hI rfl rfl rfl rfl (by omega) (by omega) (fun y6 a6 b6 g6 e6 => ?_)
        refine te_goto rfl ?_
        exact te_iret rfl rfl ⟨hI, f0, _, rfl, (by show y6 = railTold_f x1 x2 (cM h) (absM h); unfold railTold_f; rw [(show (absM h).ra x1.toInt.toNat = y6 from (gd_at (by omega)).trans (by show rv h 149 (280 + x1.toInt.toNat) = _; rw [show 280 + x1.toInt.toNat = z5.toInt.toNat by omega]; exact rv_of e6))]; (repeat' split) <;> first | (exfalso; omega) | (simp only [Dy.mk, Dy.ld, Dy.hm, Dy.hu, Dy.wk, Dy.de, Dy.st, Dy.up, Dy.rl, Dy.rs, Dy.ra, Dy.kp, Dy.du, Dy.ti, Dy.da, Dy.we, Dy.wi, Dy.s_ld, Dy.s_hm, Dy.s_hu, Dy.s_wk, Dy.s_de, Dy.s_st, Dy.s_up, Dy.s_rl, Dy.s_rs, Dy.s_ra, Dy.s_kp, Dy.s_du, Dy.s_ti, Dy.s_da, Dy.s_we, Dy.s_wi, Ct.mk, Ct.kd, Ct.tip, Ct.np, Ct.sg, Ct.ag, Ct.kn, Ct.ro, Ct.hd, Ct.hn, Ct.hf, Ct.ht, Ct.wn, Ct.cr, Ct.wf, Ct.wl, Ct.nw, Ct.wc, Ct.wt, Ct.sd, Ct.s_kd, Ct.s_tip, Ct.s_np, Ct.s_sg, Ct.s_ag, Ct.s_kn, Ct.s_ro, Ct.s_hd, Ct.s_hn, Ct.s_hf, Ct.s_ht, Ct.s_wn, Ct.s_cr, Ct.s_wf, Ct.s_wl, Ct.s_nw, Ct.s_wc, Ct.s_wt, Ct.s_sd, Rm.mk, Rm.n, Rm.ce, Rm.br, Rm.be, Rm.wo, Rm.s_n, Rm.s_ce, Rm.s_br, Rm.s_be, Rm.s_wo]; done) | rfl)⟩
    · refine te_aload_n (p2 := 16) rfl rfl rfl ?_
      refine tg_r (p2 := 19) (i := 148) (r := 181) rfl rfl hI rfl rfl rfl ?_
      refine te_iload_n (p2 := 20) rfl rfl rfl ?_
      refine tl_i (p2 := 21) (i := 165) (n := 3) rfl rfl hI rfl rfl rfl rfl (by omega) (by omega) (fun y7 a7 b7 g7 e7 => ?_)
      refine te_goto rfl ?_
      exact te_iret rfl rfl ⟨hI, f0, _, rfl, (by show y7 = railTold_f x1 x2 (cM h) (absM h); unfold railTold_f; rw [(show (cM h).wn x1.toInt.toNat = y7 from (gd_at (by omega)).trans (rv_of e7))]; (repeat' split) <;> first | (exfalso; omega) | (simp only [Dy.mk, Dy.ld, Dy.hm, Dy.hu, Dy.wk, Dy.de, Dy.st, Dy.up, Dy.rl, Dy.rs, Dy.ra, Dy.kp, Dy.du, Dy.ti, Dy.da, Dy.we, Dy.wi, Dy.s_ld, Dy.s_hm, Dy.s_hu, Dy.s_wk, Dy.s_de, Dy.s_st, Dy.s_up, Dy.s_rl, Dy.s_rs, Dy.s_ra, Dy.s_kp, Dy.s_du, Dy.s_ti, Dy.s_da, Dy.s_we, Dy.s_wi, Ct.mk, Ct.kd, Ct.tip, Ct.np, Ct.sg, Ct.ag, Ct.kn, Ct.ro, Ct.hd, Ct.hn, Ct.hf, Ct.ht, Ct.wn, Ct.cr, Ct.wf, Ct.wl, Ct.nw, Ct.wc, Ct.wt, Ct.sd, Ct.s_kd, Ct.s_tip, Ct.s_np, Ct.s_sg, Ct.s_ag, Ct.s_kn, Ct.s_ro, Ct.s_hd, Ct.s_hn, Ct.s_hf, Ct.s_ht, Ct.s_wn, Ct.s_cr, Ct.s_wf, Ct.s_wl, Ct.s_nw, Ct.s_wc, Ct.s_wt, Ct.s_sd, Rm.mk, Rm.n, Rm.ce, Rm.br, Rm.be, Rm.wo, Rm.s_n, Rm.s_ce, Rm.s_br, Rm.s_be, Rm.s_wo]; done) | rfl)⟩
  · subst w1
    have cc1_1 := (show Int32.toInt 0 = 0 from rfl)
    have cc1_2 := (show Int32.toInt 2 = 2 from rfl)
    refine tz_ne (p2 := 9) rfl rfl (show Int32.toInt 0 = 0 from rfl) (fun c8 => absurd c8 (by omega)) (fun c8 => ?_)
    refine te_iconst (p2 := 10) (x := (-1)) rfl rfl (by decide) ?_
    exact te_iret rfl rfl ⟨hI, f0, _, rfl, (by show (-1) = railTold_f x1 x2 (cM h) (absM h); (have c_ := (show Int32.toInt (-1) = (-1) from rfl)); unfold railTold_f; (repeat' split) <;> first | (exfalso; omega) | (simp only [Dy.mk, Dy.ld, Dy.hm, Dy.hu, Dy.wk, Dy.de, Dy.st, Dy.up, Dy.rl, Dy.rs, Dy.ra, Dy.kp, Dy.du, Dy.ti, Dy.da, Dy.we, Dy.wi, Dy.s_ld, Dy.s_hm, Dy.s_hu, Dy.s_wk, Dy.s_de, Dy.s_st, Dy.s_up, Dy.s_rl, Dy.s_rs, Dy.s_ra, Dy.s_kp, Dy.s_du, Dy.s_ti, Dy.s_da, Dy.s_we, Dy.s_wi, Ct.mk, Ct.kd, Ct.tip, Ct.np, Ct.sg, Ct.ag, Ct.kn, Ct.ro, Ct.hd, Ct.hn, Ct.hf, Ct.ht, Ct.wn, Ct.cr, Ct.wf, Ct.wl, Ct.nw, Ct.wc, Ct.wt, Ct.sd, Ct.s_kd, Ct.s_tip, Ct.s_np, Ct.s_sg, Ct.s_ag, Ct.s_kn, Ct.s_ro, Ct.s_hd, Ct.s_hn, Ct.s_hf, Ct.s_ht, Ct.s_wn, Ct.s_cr, Ct.s_wf, Ct.s_wl, Ct.s_nw, Ct.s_wc, Ct.s_wt, Ct.s_sd, Rm.mk, Rm.n, Rm.ce, Rm.br, Rm.be, Rm.wo, Rm.s_n, Rm.s_ce, Rm.s_br, Rm.s_be, Rm.s_wo]; done) | rfl)⟩
