def cellTold_f (x1 x2 : Int32) (c : Ct) (A : Dy) : Int32 := if 0 ≤ x1.toInt ∧ x1.toInt ≤ 99 then (if x2.toInt = 0 then A.ld x1.toInt.toNat else if x2.toInt = 1 then (if (c.kd x1.toInt.toNat).toInt = -1 then -5 else c.kd x1.toInt.toNat) else if x2.toInt = 2 then wkn c x1.toInt.toNat else -2) else -1
theorem wkX_n {h : im_H} {c : Nat} (hc : c < 100) : wkX h c = wkn (cX h) c := by
  unfold wkX wkn
  rw [show (cX h).kd c = rv h 2 c from gd_at hc]
  rfl
theorem wkM_n {h : im_H} {c : Nat} (T : tabM h) (hc : c < 100) : wkM h c = wkn (cM h) c := by
  unfold wkM wkn
  have eb : ∀ j, rv h 156 j = KK.getD j 0 := fun j => by
    unfold rv
    rw [T.2.2.2, List.getD_eq_getElem?_getD]
    cases KK[j]? <;> rfl
  rw [show (cM h).kd c = rv h 152 c from gd_at hc, eb]
abbrev Q1_cellTold (x1 x2 : Int32) (y : Int32) (h h2 : im_H) : Prop := y = cellTold_f x1 x2 (cX h) (absX h 23)
set_option maxRecDepth 20000 in
set_option maxHeartbeats 4000000 in
theorem c_X11_cellTold {x1 : Int32} {x2 : Int32} {h : im_H} (hI : tI h)  : CaP 8 77 [.ref 16, .int x1, .int x2] h (fun v h2 => tI h2 ∧ fr F_X11_cellTold h h2 ∧ ∃ y : Int32, v = some (.int y) ∧ Q1_cellTold x1 x2 y h h2) := by
  refine cap_of (d := 7) (M := mX11_cellTold) rfl (Nat.le_of_ble_eq_true rfl) ?_
  show EvP im_K0 7 mX11_cellTold (0, [(0, .ref 16), (1, .int x1), (2, .int x2)], [], h) _
  have f0 : fr F_X11_cellTold h h := fr_rf
  refine te_iload_n (p2 := 1) rfl rfl rfl ?_
  refine te_bipush (p2 := 3) (x := 100) rfl rfl (by decide) ?_
  refine cS_pI (p2 := 6) rfl rfl rfl rfl (t_X11_within (n := x1) (b := 100) hI ) (by decide) (fun y1 r1 => ?_)
  rcases r1 with ⟨w1, c1⟩ | ⟨w1, c1⟩
  · subst w1
    have cc1_1 := (show Int32.toInt 100 = 100 from rfl)
    refine tz_ne (p2 := 9) rfl rfl (show Int32.toInt 1 = 1 from rfl) (fun c2 => ?_) (fun c2 => absurd c2 (by omega))
    refine te_iload_n (p2 := 12) rfl rfl rfl ?_
    by_cases c3 : x2.toInt = 0
    · refine te_tsIn (k := 0) (p2 := 40) rfl c3 (by decide) (by decide) rfl (by decide) ?_
      refine te_aload_n (p2 := 41) rfl rfl rfl ?_
      refine tg_r (p2 := 44) (i := 0) (r := 39) rfl rfl hI rfl rfl rfl ?_
      refine tg_r (p2 := 47) (i := 23) (r := 41) rfl rfl hI rfl rfl rfl ?_
      refine te_iload_n (p2 := 48) rfl rfl rfl ?_
      refine tl_i (p2 := 49) (i := 25) (n := 100) rfl rfl hI rfl rfl rfl rfl (by omega) (by omega) (fun y4 a4 b4 g4 e4 => ?_)
      exact te_iret rfl rfl ⟨hI, f0, _, rfl, (by show y4 = cellTold_f x1 x2 (cX h) (absX h 23); unfold cellTold_f; rw [(show (absX h 23).ld x1.toInt.toNat = y4 from (aX_ld (by omega)).trans (rv_of e4))]; (repeat' split) <;> first | (exfalso; omega) | (simp only [Dy.mk, Dy.ld, Dy.hm, Dy.hu, Dy.wk, Dy.de, Dy.st, Dy.up, Dy.rl, Dy.rs, Dy.ra, Dy.kp, Dy.du, Dy.ti, Dy.da, Dy.we, Dy.wi, Dy.s_ld, Dy.s_hm, Dy.s_hu, Dy.s_wk, Dy.s_de, Dy.s_st, Dy.s_up, Dy.s_rl, Dy.s_rs, Dy.s_ra, Dy.s_kp, Dy.s_du, Dy.s_ti, Dy.s_da, Dy.s_we, Dy.s_wi, Ct.mk, Ct.kd, Ct.tip, Ct.np, Ct.sg, Ct.ag, Ct.kn, Ct.ro, Ct.hd, Ct.hn, Ct.hf, Ct.ht, Ct.wn, Ct.cr, Ct.wf, Ct.wl, Ct.nw, Ct.wc, Ct.wt, Ct.sd, Ct.s_kd, Ct.s_tip, Ct.s_np, Ct.s_sg, Ct.s_ag, Ct.s_kn, Ct.s_ro, Ct.s_hd, Ct.s_hn, Ct.s_hf, Ct.s_ht, Ct.s_wn, Ct.s_cr, Ct.s_wf, Ct.s_wl, Ct.s_nw, Ct.s_wc, Ct.s_wt, Ct.s_sd, Rm.mk, Rm.n, Rm.ce, Rm.br, Rm.be, Rm.wo, Rm.s_n, Rm.s_ce, Rm.s_br, Rm.s_be, Rm.s_wo]; done) | rfl)⟩
    · by_cases c5 : x2.toInt = 1
      · refine te_tsIn (k := 1) (p2 := 50) rfl c5 (by decide) (by decide) rfl (by decide) ?_
        refine te_aload_n (p2 := 51) rfl rfl rfl ?_
        refine tg_r (p2 := 54) (i := 0) (r := 17) rfl rfl hI rfl rfl rfl ?_
        refine tg_r (p2 := 57) (i := 1) (r := 18) rfl rfl hI rfl rfl rfl ?_
        refine te_iload_n (p2 := 58) rfl rfl rfl ?_
        refine tl_i (p2 := 59) (i := 2) (n := 100) rfl rfl hI rfl rfl rfl rfl (by omega) (by omega) (fun y6 a6 b6 g6 e6 => ?_)
        refine te_iconst (p2 := 60) (x := (-1)) rfl rfl (by decide) ?_
        refine tb_ne (p2 := 63) rfl rfl rfl (show Int32.toInt (-1) = (-1) from rfl) (fun c7 => ?_) (fun c7 => ?_)
        · refine te_aload_n (p2 := 69) rfl rfl rfl ?_
          refine tg_r (p2 := 72) (i := 0) (r := 17) rfl rfl hI rfl rfl rfl ?_
          refine tg_r (p2 := 75) (i := 1) (r := 18) rfl rfl hI rfl rfl rfl ?_
          refine te_iload_n (p2 := 76) rfl rfl rfl ?_
          refine tl_e (p2 := 77) (i := 2) (n := 100) (t := 0) (Or.inl rfl) rfl rfl hI rfl rfl (by omega) (by omega) e6 ?_
          exact te_iret rfl rfl ⟨hI, f0, _, rfl, (by show y6 = cellTold_f x1 x2 (cX h) (absX h 23); unfold cellTold_f; rw [(show (cX h).kd x1.toInt.toNat = y6 from (gd_at (by omega)).trans (rv_of e6))]; (repeat' split) <;> first | (exfalso; omega) | (simp only [Dy.mk, Dy.ld, Dy.hm, Dy.hu, Dy.wk, Dy.de, Dy.st, Dy.up, Dy.rl, Dy.rs, Dy.ra, Dy.kp, Dy.du, Dy.ti, Dy.da, Dy.we, Dy.wi, Dy.s_ld, Dy.s_hm, Dy.s_hu, Dy.s_wk, Dy.s_de, Dy.s_st, Dy.s_up, Dy.s_rl, Dy.s_rs, Dy.s_ra, Dy.s_kp, Dy.s_du, Dy.s_ti, Dy.s_da, Dy.s_we, Dy.s_wi, Ct.mk, Ct.kd, Ct.tip, Ct.np, Ct.sg, Ct.ag, Ct.kn, Ct.ro, Ct.hd, Ct.hn, Ct.hf, Ct.ht, Ct.wn, Ct.cr, Ct.wf, Ct.wl, Ct.nw, Ct.wc, Ct.wt, Ct.sd, Ct.s_kd, Ct.s_tip, Ct.s_np, Ct.s_sg, Ct.s_ag, Ct.s_kn, Ct.s_ro, Ct.s_hd, Ct.s_hn, Ct.s_hf, Ct.s_ht, Ct.s_wn, Ct.s_cr, Ct.s_wf, Ct.s_wl, Ct.s_nw, Ct.s_wc, Ct.s_wt, Ct.s_sd, Rm.mk, Rm.n, Rm.ce, Rm.br, Rm.be, Rm.wo, Rm.s_n, Rm.s_ce, Rm.s_br, Rm.s_be, Rm.s_wo]; done) | rfl)⟩
        · refine te_bipush (p2 := 65) (x := (-5)) rfl rfl (by decide) ?_
          refine te_goto rfl ?_
          exact te_iret rfl rfl ⟨hI, f0, _, rfl, (by show (-5) = cellTold_f x1 x2 (cX h) (absX h 23); (have c_ := (show Int32.toInt (-5) = (-5) from rfl)); unfold cellTold_f; rw [(show (cX h).kd x1.toInt.toNat = y6 from (gd_at (by omega)).trans (rv_of e6))]; (repeat' split) <;> first | (exfalso; omega) | (simp only [Dy.mk, Dy.ld, Dy.hm, Dy.hu, Dy.wk, Dy.de, Dy.st, Dy.up, Dy.rl, Dy.rs, Dy.ra, Dy.kp, Dy.du, Dy.ti, Dy.da, Dy.we, Dy.wi, Dy.s_ld, Dy.s_hm, Dy.s_hu, Dy.s_wk, Dy.s_de, Dy.s_st, Dy.s_up, Dy.s_rl, Dy.s_rs, Dy.s_ra, Dy.s_kp, Dy.s_du, Dy.s_ti, Dy.s_da, Dy.s_we, Dy.s_wi, Ct.mk, Ct.kd, Ct.tip, Ct.np, Ct.sg, Ct.ag, Ct.kn, Ct.ro, Ct.hd, Ct.hn, Ct.hf, Ct.ht, Ct.wn, Ct.cr, Ct.wf, Ct.wl, Ct.nw, Ct.wc, Ct.wt, Ct.sd, Ct.s_kd, Ct.s_tip, Ct.s_np, Ct.s_sg, Ct.s_ag, Ct.s_kn, Ct.s_ro, Ct.s_hd, Ct.s_hn, Ct.s_hf, Ct.s_ht, Ct.s_wn, Ct.s_cr, Ct.s_wf, Ct.s_wl, Ct.s_nw, Ct.s_wc, Ct.s_wt, Ct.s_sd, Rm.mk, Rm.n, Rm.ce, Rm.br, Rm.be, Rm.wo, Rm.s_n, Rm.s_ce, Rm.s_br, Rm.s_be, Rm.s_wo]; done) | rfl)⟩
      · by_cases c9 : x2.toInt = 2
        · refine te_tsIn (k := 2) (p2 := 78) rfl c9 (by decide) (by decide) rfl (by decide) ?_
          refine te_aload_n (p2 := 79) rfl rfl rfl ?_
          refine tg_r (p2 := 82) (i := 0) (r := 17) rfl rfl hI rfl rfl rfl ?_
          refine te_iload_n (p2 := 83) rfl rfl rfl ?_
          refine cV_pI (p2 := 86) (i := 1) rfl rfl rfl rfl hI rfl rfl rfl (c_X0_weakOf (c := x1) hI (by omega) (by omega)) (by decide) (fun y10 r10 => ?_)
          exact te_iret rfl rfl ⟨hI, f0, _, rfl, (by show y10 = cellTold_f x1 x2 (cX h) (absX h 23); unfold cellTold_f; rw [(show wkn (cX h) x1.toInt.toNat = y10 from (wkX_n (by omega)).symm.trans r10.symm)]; (repeat' split) <;> first | (exfalso; omega) | (simp only [Dy.mk, Dy.ld, Dy.hm, Dy.hu, Dy.wk, Dy.de, Dy.st, Dy.up, Dy.rl, Dy.rs, Dy.ra, Dy.kp, Dy.du, Dy.ti, Dy.da, Dy.we, Dy.wi, Dy.s_ld, Dy.s_hm, Dy.s_hu, Dy.s_wk, Dy.s_de, Dy.s_st, Dy.s_up, Dy.s_rl, Dy.s_rs, Dy.s_ra, Dy.s_kp, Dy.s_du, Dy.s_ti, Dy.s_da, Dy.s_we, Dy.s_wi, Ct.mk, Ct.kd, Ct.tip, Ct.np, Ct.sg, Ct.ag, Ct.kn, Ct.ro, Ct.hd, Ct.hn, Ct.hf, Ct.ht, Ct.wn, Ct.cr, Ct.wf, Ct.wl, Ct.nw, Ct.wc, Ct.wt, Ct.sd, Ct.s_kd, Ct.s_tip, Ct.s_np, Ct.s_sg, Ct.s_ag, Ct.s_kn, Ct.s_ro, Ct.s_hd, Ct.s_hn, Ct.s_hf, Ct.s_ht, Ct.s_wn, Ct.s_cr, Ct.s_wf, Ct.s_wl, Ct.s_nw, Ct.s_wc, Ct.s_wt, Ct.s_sd, Rm.mk, Rm.n, Rm.ce, Rm.br, Rm.be, Rm.wo, Rm.s_n, Rm.s_ce, Rm.s_br, Rm.s_be, Rm.s_wo]; done) | rfl)⟩
        · refine te_tsOut (p2 := 87) rfl (by omega) (by decide) ?_
          refine te_bipush (p2 := 89) (x := (-2)) rfl rfl (by decide) ?_
          exact te_iret rfl rfl ⟨hI, f0, _, rfl, (by show (-2) = cellTold_f x1 x2 (cX h) (absX h 23); (have c_ := (show Int32.toInt (-2) = (-2) from rfl)); unfold cellTold_f; (repeat' split) <;> first | (exfalso; omega) | (simp only [Dy.mk, Dy.ld, Dy.hm, Dy.hu, Dy.wk, Dy.de, Dy.st, Dy.up, Dy.rl, Dy.rs, Dy.ra, Dy.kp, Dy.du, Dy.ti, Dy.da, Dy.we, Dy.wi, Dy.s_ld, Dy.s_hm, Dy.s_hu, Dy.s_wk, Dy.s_de, Dy.s_st, Dy.s_up, Dy.s_rl, Dy.s_rs, Dy.s_ra, Dy.s_kp, Dy.s_du, Dy.s_ti, Dy.s_da, Dy.s_we, Dy.s_wi, Ct.mk, Ct.kd, Ct.tip, Ct.np, Ct.sg, Ct.ag, Ct.kn, Ct.ro, Ct.hd, Ct.hn, Ct.hf, Ct.ht, Ct.wn, Ct.cr, Ct.wf, Ct.wl, Ct.nw, Ct.wc, Ct.wt, Ct.sd, Ct.s_kd, Ct.s_tip, Ct.s_np, Ct.s_sg, Ct.s_ag, Ct.s_kn, Ct.s_ro, Ct.s_hd, Ct.s_hn, Ct.s_hf, Ct.s_ht, Ct.s_wn, Ct.s_cr, Ct.s_wf, Ct.s_wl, Ct.s_nw, Ct.s_wc, Ct.s_wt, Ct.s_sd, Rm.mk, Rm.n, Rm.ce, Rm.br, Rm.be, Rm.wo, Rm.s_n, Rm.s_ce, Rm.s_br, Rm.s_be, Rm.s_wo]; done) | rfl)⟩
  · subst w1
    have cc1_1 := (show Int32.toInt 100 = 100 from rfl)
    refine tz_ne (p2 := 9) rfl rfl (show Int32.toInt 0 = 0 from rfl) (fun c11 => absurd c11 (by omega)) (fun c11 => ?_)
    refine te_iconst (p2 := 10) (x := (-1)) rfl rfl (by decide) ?_
    exact te_iret rfl rfl ⟨hI, f0, _, rfl, (by show (-1) = cellTold_f x1 x2 (cX h) (absX h 23); (have c_ := (show Int32.toInt (-1) = (-1) from rfl)); unfold cellTold_f; (repeat' split) <;> first | (exfalso; omega) | (simp only [Dy.mk, Dy.ld, Dy.hm, Dy.hu, Dy.wk, Dy.de, Dy.st, Dy.up, Dy.rl, Dy.rs, Dy.ra, Dy.kp, Dy.du, Dy.ti, Dy.da, Dy.we, Dy.wi, Dy.s_ld, Dy.s_hm, Dy.s_hu, Dy.s_wk, Dy.s_de, Dy.s_st, Dy.s_up, Dy.s_rl, Dy.s_rs, Dy.s_ra, Dy.s_kp, Dy.s_du, Dy.s_ti, Dy.s_da, Dy.s_we, Dy.s_wi, Ct.mk, Ct.kd, Ct.tip, Ct.np, Ct.sg, Ct.ag, Ct.kn, Ct.ro, Ct.hd, Ct.hn, Ct.hf, Ct.ht, Ct.wn, Ct.cr, Ct.wf, Ct.wl, Ct.nw, Ct.wc, Ct.wt, Ct.sd, Ct.s_kd, Ct.s_tip, Ct.s_np, Ct.s_sg, Ct.s_ag, Ct.s_kn, Ct.s_ro, Ct.s_hd, Ct.s_hn, Ct.s_hf, Ct.s_ht, Ct.s_wn, Ct.s_cr, Ct.s_wf, Ct.s_wl, Ct.s_nw, Ct.s_wc, Ct.s_wt, Ct.s_sd, Rm.mk, Rm.n, Rm.ce, Rm.br, Rm.be, Rm.wo, Rm.s_n, Rm.s_ce, Rm.s_br, Rm.s_be, Rm.s_wo]; done) | rfl)⟩
abbrev Q2_cellTold (x1 x2 : Int32) (y : Int32) (h h2 : im_H) : Prop := tabM h → y = cellTold_f x1 x2 (cM h) (absM h)
set_option maxRecDepth 20000 in
set_option maxHeartbeats 4000000 in
theorem c_X12_cellTold {x1 : Int32} {x2 : Int32} {h : im_H} (hI : tI h)  : CaP 8 156 [.ref 164, .int x1, .int x2] h (fun v h2 => tI h2 ∧ fr F_X12_cellTold h h2 ∧ ∃ y : Int32, v = some (.int y) ∧ Q2_cellTold x1 x2 y h h2) := by
  refine cap_of (d := 7) (M := mX12_cellTold) rfl (Nat.le_of_ble_eq_true rfl) ?_
  show EvP im_K0 7 mX12_cellTold (0, [(0, .ref 164), (1, .int x1), (2, .int x2)], [], h) _
  have f0 : fr F_X12_cellTold h h := fr_rf
  refine te_iload_n (p2 := 1) rfl rfl rfl ?_
  refine cS_pI (p2 := 4) rfl rfl rfl rfl (t_X12_isCell (n := x1) hI ) (by decide) (fun y1 r1 => ?_)
  rcases r1 with ⟨w1, c1⟩ | ⟨w1, c1⟩
  · subst w1
    refine tz_ne (p2 := 7) rfl rfl (show Int32.toInt 1 = 1 from rfl) (fun c2 => ?_) (fun c2 => absurd c2 (by omega))
    refine te_iload_n (p2 := 10) rfl rfl rfl ?_
    refine tz_ne (p2 := 13) rfl rfl rfl (fun c3 => ?_) (fun c3 => ?_)
    · refine te_iload_n (p2 := 23) rfl rfl rfl ?_
      refine te_iconst (p2 := 24) (x := 1) rfl rfl (by decide) ?_
      refine tb_ne (p2 := 27) rfl rfl rfl (show Int32.toInt 1 = 1 from rfl) (fun c4 => ?_) (fun c4 => ?_)
      · refine te_iload_n (p2 := 52) rfl rfl rfl ?_
        refine te_iconst (p2 := 53) (x := 2) rfl rfl (by decide) ?_
        refine tb_ne (p2 := 56) rfl rfl rfl (show Int32.toInt 2 = 2 from rfl) (fun c5 => ?_) (fun c5 => ?_)
        · refine te_bipush (p2 := 66) (x := (-2)) rfl rfl (by decide) ?_
          exact te_iret rfl rfl ⟨hI, f0, _, rfl, (fun T => by show (-2) = cellTold_f x1 x2 (cM h) (absM h); (have c_ := (show Int32.toInt (-2) = (-2) from rfl)); unfold cellTold_f; (repeat' split) <;> first | (exfalso; omega) | (simp only [Dy.mk, Dy.ld, Dy.hm, Dy.hu, Dy.wk, Dy.de, Dy.st, Dy.up, Dy.rl, Dy.rs, Dy.ra, Dy.kp, Dy.du, Dy.ti, Dy.da, Dy.we, Dy.wi, Dy.s_ld, Dy.s_hm, Dy.s_hu, Dy.s_wk, Dy.s_de, Dy.s_st, Dy.s_up, Dy.s_rl, Dy.s_rs, Dy.s_ra, Dy.s_kp, Dy.s_du, Dy.s_ti, Dy.s_da, Dy.s_we, Dy.s_wi, Ct.mk, Ct.kd, Ct.tip, Ct.np, Ct.sg, Ct.ag, Ct.kn, Ct.ro, Ct.hd, Ct.hn, Ct.hf, Ct.ht, Ct.wn, Ct.cr, Ct.wf, Ct.wl, Ct.nw, Ct.wc, Ct.wt, Ct.sd, Ct.s_kd, Ct.s_tip, Ct.s_np, Ct.s_sg, Ct.s_ag, Ct.s_kn, Ct.s_ro, Ct.s_hd, Ct.s_hn, Ct.s_hf, Ct.s_ht, Ct.s_wn, Ct.s_cr, Ct.s_wf, Ct.s_wl, Ct.s_nw, Ct.s_wc, Ct.s_wt, Ct.s_sd, Rm.mk, Rm.n, Rm.ce, Rm.br, Rm.be, Rm.wo, Rm.s_n, Rm.s_ce, Rm.s_br, Rm.s_be, Rm.s_wo]; done) | rfl)⟩
        · refine te_aload_n (p2 := 57) rfl rfl rfl ?_
          refine te_iload_n (p2 := 58) rfl rfl rfl ?_
          refine cV_pI (p2 := 61) (i := 148) rfl rfl rfl rfl hI rfl rfl rfl (c_X12_weakOf (c := x1) hI (by omega) (by omega)) (by decide) (fun y6 r6 => ?_)
          refine te_goto rfl ?_
          exact te_iret rfl rfl ⟨hI, f0, _, rfl, (fun T => by show y6 = cellTold_f x1 x2 (cM h) (absM h); unfold cellTold_f; rw [(show wkn (cM h) x1.toInt.toNat = y6 from (wkM_n T (by omega)).symm.trans r6.symm)]; (repeat' split) <;> first | (exfalso; omega) | (simp only [Dy.mk, Dy.ld, Dy.hm, Dy.hu, Dy.wk, Dy.de, Dy.st, Dy.up, Dy.rl, Dy.rs, Dy.ra, Dy.kp, Dy.du, Dy.ti, Dy.da, Dy.we, Dy.wi, Dy.s_ld, Dy.s_hm, Dy.s_hu, Dy.s_wk, Dy.s_de, Dy.s_st, Dy.s_up, Dy.s_rl, Dy.s_rs, Dy.s_ra, Dy.s_kp, Dy.s_du, Dy.s_ti, Dy.s_da, Dy.s_we, Dy.s_wi, Ct.mk, Ct.kd, Ct.tip, Ct.np, Ct.sg, Ct.ag, Ct.kn, Ct.ro, Ct.hd, Ct.hn, Ct.hf, Ct.ht, Ct.wn, Ct.cr, Ct.wf, Ct.wl, Ct.nw, Ct.wc, Ct.wt, Ct.sd, Ct.s_kd, Ct.s_tip, Ct.s_np, Ct.s_sg, Ct.s_ag, Ct.s_kn, Ct.s_ro, Ct.s_hd, Ct.s_hn, Ct.s_hf, Ct.s_ht, Ct.s_wn, Ct.s_cr, Ct.s_wf, Ct.s_wl, Ct.s_nw, Ct.s_wc, Ct.s_wt, Ct.s_sd, Rm.mk, Rm.n, Rm.ce, Rm.br, Rm.be, Rm.wo, Rm.s_n, Rm.s_ce, Rm.s_br, Rm.s_be, Rm.s_wo]; done) | rfl)⟩
      · refine te_aload_n (p2 := 28) rfl rfl rfl ?_
        refine tg_r (p2 := 31) (i := 148) (r := 168) rfl rfl hI rfl rfl rfl ?_
        refine te_iload_n (p2 := 32) rfl rfl rfl ?_
        refine tl_i (p2 := 33) (i := 152) (n := 100) rfl rfl hI rfl rfl rfl rfl (by omega) (by omega) (fun y7 a7 b7 g7 e7 => ?_)
        refine te_iconst (p2 := 34) (x := (-1)) rfl rfl (by decide) ?_
        refine tb_ne (p2 := 37) rfl rfl rfl (show Int32.toInt (-1) = (-1) from rfl) (fun c8 => ?_) (fun c8 => ?_)
        · refine te_aload_n (p2 := 43) rfl rfl rfl ?_
          refine tg_r (p2 := 46) (i := 148) (r := 168) rfl rfl hI rfl rfl rfl ?_
          refine te_iload_n (p2 := 47) rfl rfl rfl ?_
          refine tl_e (p2 := 48) (i := 152) (n := 100) (t := 0) (Or.inl rfl) rfl rfl hI rfl rfl (by omega) (by omega) e7 ?_
          refine te_goto rfl ?_
          exact te_iret rfl rfl ⟨hI, f0, _, rfl, (fun T => by show y7 = cellTold_f x1 x2 (cM h) (absM h); unfold cellTold_f; rw [(show (cM h).kd x1.toInt.toNat = y7 from (gd_at (by omega)).trans (rv_of e7))]; (repeat' split) <;> first | (exfalso; omega) | (simp only [Dy.mk, Dy.ld, Dy.hm, Dy.hu, Dy.wk, Dy.de, Dy.st, Dy.up, Dy.rl, Dy.rs, Dy.ra, Dy.kp, Dy.du, Dy.ti, Dy.da, Dy.we, Dy.wi, Dy.s_ld, Dy.s_hm, Dy.s_hu, Dy.s_wk, Dy.s_de, Dy.s_st, Dy.s_up, Dy.s_rl, Dy.s_rs, Dy.s_ra, Dy.s_kp, Dy.s_du, Dy.s_ti, Dy.s_da, Dy.s_we, Dy.s_wi, Ct.mk, Ct.kd, Ct.tip, Ct.np, Ct.sg, Ct.ag, Ct.kn, Ct.ro, Ct.hd, Ct.hn, Ct.hf, Ct.ht, Ct.wn, Ct.cr, Ct.wf, Ct.wl, Ct.nw, Ct.wc, Ct.wt, Ct.sd, Ct.s_kd, Ct.s_tip, Ct.s_np, Ct.s_sg, Ct.s_ag, Ct.s_kn, Ct.s_ro, Ct.s_hd, Ct.s_hn, Ct.s_hf, Ct.s_ht, Ct.s_wn, Ct.s_cr, Ct.s_wf, Ct.s_wl, Ct.s_nw, Ct.s_wc, Ct.s_wt, Ct.s_sd, Rm.mk, Rm.n, Rm.ce, Rm.br, Rm.be, Rm.wo, Rm.s_n, Rm.s_ce, Rm.s_br, Rm.s_be, Rm.s_wo]; done) | rfl)⟩
        · refine te_bipush (p2 := 39) (x := (-5)) rfl rfl (by decide) ?_
          refine te_goto rfl ?_
          exact te_iret rfl rfl ⟨hI, f0, _, rfl, (fun T => by show (-5) = cellTold_f x1 x2 (cM h) (absM h); (have c_ := (show Int32.toInt (-5) = (-5) from rfl)); unfold cellTold_f; rw [(show (cM h).kd x1.toInt.toNat = y7 from (gd_at (by omega)).trans (rv_of e7))]; (repeat' split) <;> first | (exfalso; omega) | (simp only [Dy.mk, Dy.ld, Dy.hm, Dy.hu, Dy.wk, Dy.de, Dy.st, Dy.up, Dy.rl, Dy.rs, Dy.ra, Dy.kp, Dy.du, Dy.ti, Dy.da, Dy.we, Dy.wi, Dy.s_ld, Dy.s_hm, Dy.s_hu, Dy.s_wk, Dy.s_de, Dy.s_st, Dy.s_up, Dy.s_rl, Dy.s_rs, Dy.s_ra, Dy.s_kp, Dy.s_du, Dy.s_ti, Dy.s_da, Dy.s_we, Dy.s_wi, Ct.mk, Ct.kd, Ct.tip, Ct.np, Ct.sg, Ct.ag, Ct.kn, Ct.ro, Ct.hd, Ct.hn, Ct.hf, Ct.ht, Ct.wn, Ct.cr, Ct.wf, Ct.wl, Ct.nw, Ct.wc, Ct.wt, Ct.sd, Ct.s_kd, Ct.s_tip, Ct.s_np, Ct.s_sg, Ct.s_ag, Ct.s_kn, Ct.s_ro, Ct.s_hd, Ct.s_hn, Ct.s_hf, Ct.s_ht, Ct.s_wn, Ct.s_cr, Ct.s_wf, Ct.s_wl, Ct.s_nw, Ct.s_wc, Ct.s_wt, Ct.s_sd, Rm.mk, Rm.n, Rm.ce, Rm.br, Rm.be, Rm.wo, Rm.s_n, Rm.s_ce, Rm.s_br, Rm.s_be, Rm.s_wo]; done) | rfl)⟩
    · refine te_aload_n (p2 := 14) rfl rfl rfl ?_
      refine tg_r (p2 := 17) (i := 148) (r := 165) rfl rfl hI rfl rfl rfl ?_
      refine te_iload_n (p2 := 18) rfl rfl rfl ?_
      refine tl_i (p2 := 19) (i := 149) (n := 283) rfl rfl hI rfl rfl rfl rfl (by omega) (by omega) (fun y10 a10 b10 g10 e10 => ?_)
      refine te_goto rfl ?_
      exact te_iret rfl rfl ⟨hI, f0, _, rfl, (fun T => by show y10 = cellTold_f x1 x2 (cM h) (absM h); unfold cellTold_f; rw [(show (absM h).ld x1.toInt.toNat = y10 from (aM_ld (by omega)).trans (rv_of e10))]; (repeat' split) <;> first | (exfalso; omega) | (simp only [Dy.mk, Dy.ld, Dy.hm, Dy.hu, Dy.wk, Dy.de, Dy.st, Dy.up, Dy.rl, Dy.rs, Dy.ra, Dy.kp, Dy.du, Dy.ti, Dy.da, Dy.we, Dy.wi, Dy.s_ld, Dy.s_hm, Dy.s_hu, Dy.s_wk, Dy.s_de, Dy.s_st, Dy.s_up, Dy.s_rl, Dy.s_rs, Dy.s_ra, Dy.s_kp, Dy.s_du, Dy.s_ti, Dy.s_da, Dy.s_we, Dy.s_wi, Ct.mk, Ct.kd, Ct.tip, Ct.np, Ct.sg, Ct.ag, Ct.kn, Ct.ro, Ct.hd, Ct.hn, Ct.hf, Ct.ht, Ct.wn, Ct.cr, Ct.wf, Ct.wl, Ct.nw, Ct.wc, Ct.wt, Ct.sd, Ct.s_kd, Ct.s_tip, Ct.s_np, Ct.s_sg, Ct.s_ag, Ct.s_kn, Ct.s_ro, Ct.s_hd, Ct.s_hn, Ct.s_hf, Ct.s_ht, Ct.s_wn, Ct.s_cr, Ct.s_wf, Ct.s_wl, Ct.s_nw, Ct.s_wc, Ct.s_wt, Ct.s_sd, Rm.mk, Rm.n, Rm.ce, Rm.br, Rm.be, Rm.wo, Rm.s_n, Rm.s_ce, Rm.s_br, Rm.s_be, Rm.s_wo]; done) | rfl)⟩
  · subst w1
    refine tz_ne (p2 := 7) rfl rfl (show Int32.toInt 0 = 0 from rfl) (fun c11 => absurd c11 (by omega)) (fun c11 => ?_)
    refine te_iconst (p2 := 8) (x := (-1)) rfl rfl (by decide) ?_
    exact te_iret rfl rfl ⟨hI, f0, _, rfl, (fun T => by show (-1) = cellTold_f x1 x2 (cM h) (absM h); (have c_ := (show Int32.toInt (-1) = (-1) from rfl)); unfold cellTold_f; (repeat' split) <;> first | (exfalso; omega) | (simp only [Dy.mk, Dy.ld, Dy.hm, Dy.hu, Dy.wk, Dy.de, Dy.st, Dy.up, Dy.rl, Dy.rs, Dy.ra, Dy.kp, Dy.du, Dy.ti, Dy.da, Dy.we, Dy.wi, Dy.s_ld, Dy.s_hm, Dy.s_hu, Dy.s_wk, Dy.s_de, Dy.s_st, Dy.s_up, Dy.s_rl, Dy.s_rs, Dy.s_ra, Dy.s_kp, Dy.s_du, Dy.s_ti, Dy.s_da, Dy.s_we, Dy.s_wi, Ct.mk, Ct.kd, Ct.tip, Ct.np, Ct.sg, Ct.ag, Ct.kn, Ct.ro, Ct.hd, Ct.hn, Ct.hf, Ct.ht, Ct.wn, Ct.cr, Ct.wf, Ct.wl, Ct.nw, Ct.wc, Ct.wt, Ct.sd, Ct.s_kd, Ct.s_tip, Ct.s_np, Ct.s_sg, Ct.s_ag, Ct.s_kn, Ct.s_ro, Ct.s_hd, Ct.s_hn, Ct.s_hf, Ct.s_ht, Ct.s_wn, Ct.s_cr, Ct.s_wf, Ct.s_wl, Ct.s_nw, Ct.s_wc, Ct.s_wt, Ct.s_sd, Rm.mk, Rm.n, Rm.ce, Rm.br, Rm.be, Rm.wo, Rm.s_n, Rm.s_ce, Rm.s_br, Rm.s_be, Rm.s_wo]; done) | rfl)⟩
