abbrev R_T (h : im_H) : Prop := rd h 65 1 = rd h 148 45
theorem R_T_fr {F : List (Nat × Nat × Nat)} {h h2 : im_H} (hr : R_T h) (g : fr F h h2) (a0 : inF F 65 1 = false) (b0 : inF F 148 45 = false) : R_T h2 := (g _ _ a0).trans (hr.trans (g _ _ b0).symm)
def R_W (h : im_H) : Prop := ∀ k : Nat, rd h 66 k = rd h 184 k
theorem R_W_fr {F : List (Nat × Nat × Nat)} {h h2 : im_H} (hr : R_W h) (g : fr F h h2) (a : ∀ k, inF F 66 k = false) (b : ∀ k, inF F 184 k = false) : R_W h2 := fun k => (g _ _ (a k)).trans ((hr k).trans (g _ _ (b k)).symm)
abbrev R_C (h : im_H) : Prop := rd h 0 7 = rd h 148 46
theorem R_C_fr {F : List (Nat × Nat × Nat)} {h h2 : im_H} (hr : R_C h) (g : fr F h h2) (a0 : inF F 0 7 = false) (b0 : inF F 148 46 = false) : R_C h2 := (g _ _ a0).trans (hr.trans (g _ _ b0).symm)
def R_B (h : im_H) : Prop := tbl h
theorem R_B_fr {F : List (Nat × Nat × Nat)} {h h2 : im_H} (hr : R_B h) (g : fr F h h2) (a : ∀ k, inF F 195 k = false) (b : ∀ k, inF F 196 k = false) : R_B h2 := tbl_fr hr g a b
abbrev R_R (h : im_H) : Prop := rd h 0 8 = rd h 148 47
theorem R_R_fr {F : List (Nat × Nat × Nat)} {h h2 : im_H} (hr : R_R h) (g : fr F h h2) (a0 : inF F 0 8 = false) (b0 : inF F 148 47 = false) : R_R h2 := (g _ _ a0).trans (hr.trans (g _ _ b0).symm)
def rel (h : im_H) : Prop := R_T h ∧ R_W h ∧ R_C h ∧ R_B h ∧ R_R h
set_option maxRecDepth 20000 in
theorem w_hh : R_W hh := fun k => (rd_ia (t := 0) rfl).trans (rd_ia (t := 0) rfl).symm
set_option maxRecDepth 20000 in
theorem b_hh : R_B hh := ⟨fun k => (by
  unfold rd
  rw [show hh[195]? = some (.inl (2, .inr (.inl WL))) from rfl]
  rfl), fun k => rd_ia (t := 0) rfl⟩
theorem feed_join {h h1 h2 : im_H} {w : Int64} {n y1 y2 : Int32} (T : R_T h) (W : R_W h) (g1 : fr F_X11_feed h h1) (g2 : fr F_X12_feed h1 h2) (r1 : Q1_feed w n y1 h h1) (r2 : Q2_feed w n y2 h1 h2) : y1 = y2 ∧ R_T h2 ∧ R_W h2 := by
  obtain ⟨s, e1, k1, n1⟩ := r1
  obtain ⟨s2, e2, k2, n2⟩ := r2
  have j1 : s = s2 := int_inj e1 (T.trans ((g1 148 45 rfl).symm.trans e2))
  subst j1
  by_cases ok : (1 ≤ n.toInt ∧ n.toInt ≤ 8 ∧ s.toInt + n.toInt ≤ 160)
  · obtain ⟨a1, t1, b1, c1, d1⟩ := k1 ok
    obtain ⟨a2, t2, b2, c2, d2⟩ := k2 ok
    refine ⟨i32_ext (by omega), ?_, fun k => ?_⟩
    · have et : t1 = t2 := i32_ext (by omega)
      subst et
      exact ((g2 65 1 rfl).trans b1).trans b2.symm
    · by_cases hk : (s.toInt ≤ (k : Int) ∧ (k : Int) < s.toInt + (n.toInt - 1 - (-1)))
      · exact ((g2 66 k rfl).trans ((d1 k).1 hk)).trans ((congrArg (fun t => some (Value.int t)) (fd_eq _ _)).trans ((d2 k).1 hk).symm)
      · exact ((g2 66 k rfl).trans ((d1 k).2 hk)).trans ((W k).trans (((d2 k).2 hk).trans (g1 184 k rfl)).symm)
  · obtain ⟨a1, b1⟩ := n1 ok
    obtain ⟨a2, b2⟩ := n2 ok
    subst b1
    subst b2
    exact ⟨a1.trans a2.symm, T, W⟩
set_option maxRecDepth 10000 in
set_option maxHeartbeats 2000000 in
theorem relc_feed {h h1 h2 : im_H} {w : Int64} {n : Int32} {y1 y2 : Int32} (hr : rel h) (g1 : fr F_X11_feed h h1) (g2 : fr F_X12_feed h1 h2) (r1 : Q1_feed w n y1 h h1) (r2 : Q2_feed w n y2 h1 h2) : rel h2 :=
  ⟨(feed_join hr.1 hr.2.1 g1 g2 r1 r2).2.1, (feed_join hr.1 hr.2.1 g1 g2 r1 r2).2.2, (R_C_fr (R_C_fr hr.2.2.1 g1 rfl rfl) g2 rfl rfl), (R_B_fr (R_B_fr hr.2.2.2.1 g1 (fun _ => rfl) (fun _ => rfl)) g2 (fun _ => rfl) (fun _ => rfl)), (R_R_fr (R_R_fr hr.2.2.2.2 g1 rfl rfl) g2 rfl rfl)⟩
theorem BXM {h h1 : im_H} (T : R_T h) (W : R_W h) (a : rd h1 148 45 = rd h 148 45) (b : ∀ k, rd h1 184 k = rd h 184 k) : BM h1 = BX h ∧ rv h1 148 45 = rv h 65 1 := by
  have e1 : rv h1 148 45 = rv h 65 1 := by unfold rv; rw [a, T]
  have e2 : rv h1 184 = rv h 66 := funext fun k => by unfold rv; rw [b k, W k]
  unfold BM BX
  rw [e1, e2]
  exact ⟨rfl, rfl⟩
theorem order_join {h h1 h2 : im_H} {y1 y2 : Int32} (T : R_T h) (W : R_W h) (C : R_C h) (B : R_B h) (g1 : fr F_X11_order h h1) (g2 : fr F_X12_order h1 h2) (r1 : Q1_order y1 h h1) (r2 : Q2_order y2 h1 h2) : y1 = y2 ∧ R_T h2 ∧ R_C h2 := by
  obtain ⟨p, e1, _, _, r1⟩ := r1
  obtain ⟨q, e2, _, _, r2⟩ := r2 (R_B_fr B g1 (fun _ => rfl) (fun _ => rfl))
  have j1 : p = q := int_inj e1 (C.trans ((g1 148 46 rfl).symm.trans e2))
  subst j1
  obtain ⟨bm, bn⟩ := BXM T W (g1 148 45 rfl) (fun k => g1 184 k rfl)
  rw [bm, bn] at r2
  rcases r1 with ⟨a1, f1, n1⟩ | ⟨a1, t1, _, r1⟩
  · rcases r2 with ⟨_, f2, n2⟩ | ⟨a2, _⟩
    · subst n1; subst n2; exact ⟨f1.trans f2.symm, T, C⟩
    · exact absurd a1 a2
  · rcases r2 with ⟨a2, _⟩ | ⟨_, t2, _, _, r2⟩
    · exact absurd a2 a1
    · have hT : R_T h2 := ((g2 65 1 rfl).trans t1).trans t2.symm
      rcases r1 with ⟨b1, f1, c1, _⟩ | ⟨b1, f1, c1⟩
      · rcases r2 with ⟨_, f2, c2, _⟩ | ⟨b2, _⟩
        · exact ⟨f1.trans f2.symm, hT, ((g2 0 7 rfl).trans c1).trans c2.symm⟩
        · omega
      · rcases r2 with ⟨b2, _⟩ | ⟨_, f2, c2⟩
        · omega
        · exact ⟨i32_ext (f1.trans f2.symm), hT, ((g2 0 7 rfl).trans c1).trans c2.symm⟩
set_option maxRecDepth 10000 in
set_option maxHeartbeats 2000000 in
theorem relc_order {h h1 h2 : im_H} {y1 y2 : Int32} (hr : rel h) (g1 : fr F_X11_order h h1) (g2 : fr F_X12_order h1 h2) (r1 : Q1_order y1 h h1) (r2 : Q2_order y2 h1 h2) : rel h2 :=
  ⟨(order_join hr.1 hr.2.1 hr.2.2.1 hr.2.2.2.1 g1 g2 r1 r2).2.1, (R_W_fr (R_W_fr hr.2.1 g1 (fun _ => rfl) (fun _ => rfl)) g2 (fun _ => rfl) (fun _ => rfl)), (order_join hr.1 hr.2.1 hr.2.2.1 hr.2.2.2.1 g1 g2 r1 r2).2.2, (R_B_fr (R_B_fr hr.2.2.2.1 g1 (fun _ => rfl) (fun _ => rfl)) g2 (fun _ => rfl) (fun _ => rfl)), (R_R_fr (R_R_fr hr.2.2.2.2 g1 rfl rfl) g2 rfl rfl)⟩
theorem force_join {h h1 h2 : im_H} {x1 y1 y2 : Int32} (C : R_C h) (R : R_R h) (g1 : fr F_X11_force h h1) (g2 : fr F_X12_force h1 h2) (r1 : Q1_force x1 y1 h h1) (r2 : Q2_force x1 y2 h1 h2) : y1 = y2 ∧ R_R h2 := by
  obtain ⟨p, c, e1, e2, f1, n1⟩ := r1
  obtain ⟨p2, c2, d1, d2, f2, n2⟩ := r2
  have j1 : p = p2 := int_inj e1 (R.trans ((g1 148 47 rfl).symm.trans d1))
  have j2 : c = c2 := int_inj e2 (C.trans ((g1 148 46 rfl).symm.trans d2))
  subst j1
  subst j2
  exact ⟨f1.trans f2.symm, ((g2 0 8 rfl).trans n1).trans n2.symm⟩
set_option maxRecDepth 10000 in
set_option maxHeartbeats 2000000 in
theorem relc_force {h h1 h2 : im_H} {x1 : Int32} {y1 y2 : Int32} (hr : rel h) (g1 : fr F_X11_force h h1) (g2 : fr F_X12_force h1 h2) (r1 : Q1_force x1 y1 h h1) (r2 : Q2_force x1 y2 h1 h2) : y1 = y2 ∧ rel h2 :=
  ⟨(force_join hr.2.2.1 hr.2.2.2.2 g1 g2 r1 r2).1, ⟨(R_T_fr (R_T_fr hr.1 g1 rfl rfl) g2 rfl rfl), (R_W_fr (R_W_fr hr.2.1 g1 (fun _ => rfl) (fun _ => rfl)) g2 (fun _ => rfl) (fun _ => rfl)), (R_C_fr (R_C_fr hr.2.2.1 g1 rfl rfl) g2 rfl rfl), (R_B_fr (R_B_fr hr.2.2.2.1 g1 (fun _ => rfl) (fun _ => rfl)) g2 (fun _ => rfl) (fun _ => rfl)), (force_join hr.2.2.1 hr.2.2.2.2 g1 g2 r1 r2).2⟩⟩
/-! the law's rows, told by what the end meets -/
theorem cV_mL {K : im_K} {d : Nat} {M : im_M} {pc p2 : Nat} {lv : im_L} {st : List Value} {h : im_H} {Q : Option Value → im_H → Prop} {F : List (Nat × Nat × Nat)} {i n Rf idx j w z x d1 : Nat} {q : List Value × List Value} {rest : List Value} (ha : im_at M pc = some (.invokevirtual idx, [j, 0, w, z, x])) (hp : pc + 3 = p2) (ht : im_take w st = some q) (hq : q.2 = .ref Rf :: rest) (hI : tI h) (hR : Rf = 16 + i) (hs : tS[i]? = some (3, z, n)) (hc : im_cat rest = true) (hC : CaP d1 j (.ref Rf :: q.1) h (mL h F)) (hd : d1 ≤ d) (k : ∀ y h2, tI h2 → fr F h h2 → EvP K d M (p2, lv, .long y :: rest, h2) Q) : EvP K d M (pc, lv, st, h) Q :=
  tc_V ha hp ht hq hI hR hs hc hC hd (fun v h2 hq => by obtain ⟨e, f, y, rfl⟩ := hq; exact k y h2 e f)
theorem te_pop2 {K : im_K} {d : Nat} {M : im_M} {pc p2 : Nat} {lv : im_L} {st : List Value} {h : im_H} {Q : Option Value → im_H → Prop} {v : Value} (ha : im_at M pc = some (.pop2, [])) (hp : pc + 1 = p2) (hv : v.category = 2) (k : EvP K d M (p2, lv, st, h) Q) : EvP K d M (pc, lv, v :: st, h) Q := by
  subst hp
  refine evp (fun r => ev_step (st_at ha ?_)) k
  show (if v.category = 2 then im_nx (pc + 1) lv st h else none) = _
  rw [if_pos hv]
  rfl
theorem tw_rd {l : List Int32} {d pc p2 : Nat} {kk : Int} {i : Int32} {n : Nat} {st : List Value} {h : im_H} {Q : Option Value → im_H → Prop} (k : Nat) (a0 : im_at mL_law pc = some (.aload_n 0, [])) (a1 : im_at mL_law (pc + 1) = some (.iload_n 3, [])) (a2 : im_at mL_law (pc + 2) = some (.iconst kk, [])) (a3 : im_at mL_law (pc + 3) = some (.iadd, [])) (a4 : im_at mL_law (pc + 4) = some (.iaload, [])) (hp : pc + 5 = p2) (hk : (Int32.ofInt kk).toInt = k) (hi : i.toInt = n) (hl : n + k < l.length) (hb : l.length < 2147483648) (kx : EvP (im_K1 l) d mL_law (p2, lwL i, .int (l.getD (n + k) 0) :: st, h) Q) : EvP (im_K1 l) d mL_law (pc, lwL i, st, h) Q := evp (fun r => lw_rd k a0 a1 a2 a3 a4 hp hk hi hl hb) kx
set_option maxRecDepth 10000 in
set_option maxHeartbeats 2000000 in
theorem lq_ruin {l : List Int32} {n : Nat} {i : Int32} {h : im_H} {Q : Option Value → im_H → Prop} (hi : i.toInt = n) (hl : n + 6 ≤ l.length) (hb : l.length < 2147483648) (hI : tI h) (kx : ∀ h1 h2, tI h2 → fr F_X11_ruin h h1 → fr F_X12_ruin h1 h2 → EvP (im_K1 l) 20 mL_law (1753, lwL i, [], h2) Q) : EvP (im_K1 l) 20 mL_law (228, lwL i, [], h) Q := by
  refine te_aload_n (p2 := 229) rfl rfl rfl ?_
  refine tw_rd (p2 := 234) 1 rfl rfl rfl rfl rfl rfl (by decide) hi (by omega) hb ?_
  refine tw_rd (p2 := 239) 2 rfl rfl rfl rfl rfl rfl (by decide) hi (by omega) hb ?_
  refine tw_rd (p2 := 244) 3 rfl rfl rfl rfl rfl rfl (by decide) hi (by omega) hb ?_
  refine cV_mI (p2 := 247) (i := 0) rfl rfl rfl rfl hI rfl rfl rfl (t_X11_ruin (x1 := (l.getD (n + 1) 0)) (x2 := (l.getD (n + 2) 0)) (x3 := (l.getD (n + 3) 0)) hI) (by decide) (fun y1 h1 I1 g1 r1 => ?_)
  refine te_pop (p2 := 248) rfl rfl rfl ?_
  refine te_aload_n (p2 := 249) rfl rfl rfl ?_
  refine tw_rd (p2 := 254) 1 rfl rfl rfl rfl rfl rfl (by decide) hi (by omega) hb ?_
  refine tw_rd (p2 := 259) 2 rfl rfl rfl rfl rfl rfl (by decide) hi (by omega) hb ?_
  refine tw_rd (p2 := 264) 3 rfl rfl rfl rfl rfl rfl (by decide) hi (by omega) hb ?_
  refine cV_mI (p2 := 267) (i := 148) rfl rfl rfl rfl I1 rfl rfl rfl (t_X12_ruin (x1 := (l.getD (n + 1) 0)) (x2 := (l.getD (n + 2) 0)) (x3 := (l.getD (n + 3) 0)) I1) (by decide) (fun y2 h2 I2 g2 r2 => ?_)
  refine te_pop (p2 := 268) rfl rfl rfl ?_
  refine te_goto rfl ?_
  exact kx h1 h2 I2 g1 g2
set_option maxRecDepth 10000 in
set_option maxHeartbeats 2000000 in
theorem lq_person {l : List Int32} {n : Nat} {i : Int32} {h : im_H} {Q : Option Value → im_H → Prop} (hi : i.toInt = n) (hl : n + 6 ≤ l.length) (hb : l.length < 2147483648) (hI : tI h) (kx : ∀ h1 h2, tI h2 → fr F_X11_person h h1 → fr F_X12_person h1 h2 → EvP (im_K1 l) 20 mL_law (1753, lwL i, [], h2) Q) : EvP (im_K1 l) 20 mL_law (271, lwL i, [], h) Q := by
  refine te_aload_n (p2 := 272) rfl rfl rfl ?_
  refine tw_rd (p2 := 277) 1 rfl rfl rfl rfl rfl rfl (by decide) hi (by omega) hb ?_
  refine tw_rd (p2 := 282) 2 rfl rfl rfl rfl rfl rfl (by decide) hi (by omega) hb ?_
  refine tw_rd (p2 := 287) 3 rfl rfl rfl rfl rfl rfl (by decide) hi (by omega) hb ?_
  refine tw_rd (p2 := 292) 4 rfl rfl rfl rfl rfl rfl (by decide) hi (by omega) hb ?_
  refine cV_mI (p2 := 295) (i := 0) rfl rfl rfl rfl hI rfl rfl rfl (t_X11_person (x1 := (l.getD (n + 1) 0)) (x2 := (l.getD (n + 2) 0)) (x3 := (l.getD (n + 3) 0)) (x4 := (l.getD (n + 4) 0)) hI) (by decide) (fun y1 h1 I1 g1 r1 => ?_)
  refine te_pop (p2 := 296) rfl rfl rfl ?_
  refine te_aload_n (p2 := 297) rfl rfl rfl ?_
  refine tw_rd (p2 := 302) 1 rfl rfl rfl rfl rfl rfl (by decide) hi (by omega) hb ?_
  refine tw_rd (p2 := 307) 2 rfl rfl rfl rfl rfl rfl (by decide) hi (by omega) hb ?_
  refine tw_rd (p2 := 312) 3 rfl rfl rfl rfl rfl rfl (by decide) hi (by omega) hb ?_
  refine tw_rd (p2 := 317) 4 rfl rfl rfl rfl rfl rfl (by decide) hi (by omega) hb ?_
  refine cV_mI (p2 := 320) (i := 148) rfl rfl rfl rfl I1 rfl rfl rfl (t_X12_person (x1 := (l.getD (n + 1) 0)) (x2 := (l.getD (n + 2) 0)) (x3 := (l.getD (n + 3) 0)) (x4 := (l.getD (n + 4) 0)) I1) (by decide) (fun y2 h2 I2 g2 r2 => ?_)
  refine te_pop (p2 := 321) rfl rfl rfl ?_
  refine te_goto rfl ?_
  exact kx h1 h2 I2 g1 g2
set_option maxRecDepth 10000 in
set_option maxHeartbeats 2000000 in
theorem lq_moves {l : List Int32} {n : Nat} {i : Int32} {h : im_H} {Q : Option Value → im_H → Prop} (hi : i.toInt = n) (hl : n + 6 ≤ l.length) (hb : l.length < 2147483648) (hI : tI h) (kx : ∀ h1 h2, tI h2 → fr F_X11_moves h h1 → fr F_X12_moves h1 h2 → EvP (im_K1 l) 20 mL_law (1753, lwL i, [], h2) Q) : EvP (im_K1 l) 20 mL_law (324, lwL i, [], h) Q := by
  refine te_aload_n (p2 := 325) rfl rfl rfl ?_
  refine tw_rd (p2 := 330) 1 rfl rfl rfl rfl rfl rfl (by decide) hi (by omega) hb ?_
  refine tw_rd (p2 := 335) 2 rfl rfl rfl rfl rfl rfl (by decide) hi (by omega) hb ?_
  refine cV_mI (p2 := 338) (i := 0) rfl rfl rfl rfl hI rfl rfl rfl (t_X11_moves (x1 := (l.getD (n + 1) 0)) (x2 := (l.getD (n + 2) 0)) hI) (by decide) (fun y1 h1 I1 g1 r1 => ?_)
  refine te_pop (p2 := 339) rfl rfl rfl ?_
  refine te_aload_n (p2 := 340) rfl rfl rfl ?_
  refine tw_rd (p2 := 345) 1 rfl rfl rfl rfl rfl rfl (by decide) hi (by omega) hb ?_
  refine tw_rd (p2 := 350) 2 rfl rfl rfl rfl rfl rfl (by decide) hi (by omega) hb ?_
  refine cV_mI (p2 := 353) (i := 148) rfl rfl rfl rfl I1 rfl rfl rfl (t_X12_moves (x1 := (l.getD (n + 1) 0)) (x2 := (l.getD (n + 2) 0)) I1) (by decide) (fun y2 h2 I2 g2 r2 => ?_)
  refine te_pop (p2 := 354) rfl rfl rfl ?_
  refine te_goto rfl ?_
  exact kx h1 h2 I2 g1 g2
set_option maxRecDepth 10000 in
set_option maxHeartbeats 2000000 in
theorem lq_wall {l : List Int32} {n : Nat} {i : Int32} {h : im_H} {Q : Option Value → im_H → Prop} (hi : i.toInt = n) (hl : n + 6 ≤ l.length) (hb : l.length < 2147483648) (hI : tI h) (kx : ∀ h1 h2, tI h2 → fr F_X11_wall h h1 → fr F_X12_wall h1 h2 → EvP (im_K1 l) 20 mL_law (1753, lwL i, [], h2) Q) : EvP (im_K1 l) 20 mL_law (357, lwL i, [], h) Q := by
  refine te_aload_n (p2 := 358) rfl rfl rfl ?_
  refine tw_rd (p2 := 363) 1 rfl rfl rfl rfl rfl rfl (by decide) hi (by omega) hb ?_
  refine tw_rd (p2 := 368) 2 rfl rfl rfl rfl rfl rfl (by decide) hi (by omega) hb ?_
  refine tw_rd (p2 := 373) 3 rfl rfl rfl rfl rfl rfl (by decide) hi (by omega) hb ?_
  refine cV_mI (p2 := 376) (i := 0) rfl rfl rfl rfl hI rfl rfl rfl (t_X11_wall (x1 := (l.getD (n + 1) 0)) (x2 := (l.getD (n + 2) 0)) (x3 := (l.getD (n + 3) 0)) hI) (by decide) (fun y1 h1 I1 g1 r1 => ?_)
  refine te_pop (p2 := 377) rfl rfl rfl ?_
  refine te_aload_n (p2 := 378) rfl rfl rfl ?_
  refine tw_rd (p2 := 383) 1 rfl rfl rfl rfl rfl rfl (by decide) hi (by omega) hb ?_
  refine tw_rd (p2 := 388) 2 rfl rfl rfl rfl rfl rfl (by decide) hi (by omega) hb ?_
  refine tw_rd (p2 := 393) 3 rfl rfl rfl rfl rfl rfl (by decide) hi (by omega) hb ?_
  refine cV_mI (p2 := 396) (i := 148) rfl rfl rfl rfl I1 rfl rfl rfl (t_X12_wall (x1 := (l.getD (n + 1) 0)) (x2 := (l.getD (n + 2) 0)) (x3 := (l.getD (n + 3) 0)) I1) (by decide) (fun y2 h2 I2 g2 r2 => ?_)
  refine te_pop (p2 := 397) rfl rfl rfl ?_
  refine te_goto rfl ?_
  exact kx h1 h2 I2 g1 g2
set_option maxRecDepth 10000 in
set_option maxHeartbeats 2000000 in
theorem lq_weather {l : List Int32} {n : Nat} {i : Int32} {h : im_H} {Q : Option Value → im_H → Prop} (hi : i.toInt = n) (hl : n + 6 ≤ l.length) (hb : l.length < 2147483648) (hI : tI h) (kx : ∀ h1 h2, tI h2 → fr F_X11_weather h h1 → fr F_X12_weather h1 h2 → EvP (im_K1 l) 20 mL_law (1753, lwL i, [], h2) Q) : EvP (im_K1 l) 20 mL_law (400, lwL i, [], h) Q := by
  refine te_aload_n (p2 := 401) rfl rfl rfl ?_
  refine tw_rd (p2 := 406) 1 rfl rfl rfl rfl rfl rfl (by decide) hi (by omega) hb ?_
  refine tw_rd (p2 := 411) 2 rfl rfl rfl rfl rfl rfl (by decide) hi (by omega) hb ?_
  refine cV_mI (p2 := 414) (i := 0) rfl rfl rfl rfl hI rfl rfl rfl (t_X11_weather (x1 := (l.getD (n + 1) 0)) (x2 := (l.getD (n + 2) 0)) hI) (by decide) (fun y1 h1 I1 g1 r1 => ?_)
  refine te_pop (p2 := 415) rfl rfl rfl ?_
  refine te_aload_n (p2 := 416) rfl rfl rfl ?_
  refine tw_rd (p2 := 421) 1 rfl rfl rfl rfl rfl rfl (by decide) hi (by omega) hb ?_
  refine tw_rd (p2 := 426) 2 rfl rfl rfl rfl rfl rfl (by decide) hi (by omega) hb ?_
  refine cV_mI (p2 := 429) (i := 148) rfl rfl rfl rfl I1 rfl rfl rfl (t_X12_weather (x1 := (l.getD (n + 1) 0)) (x2 := (l.getD (n + 2) 0)) I1) (by decide) (fun y2 h2 I2 g2 r2 => ?_)
  refine te_pop (p2 := 430) rfl rfl rfl ?_
  refine te_goto rfl ?_
  exact kx h1 h2 I2 g1 g2
set_option maxRecDepth 10000 in
set_option maxHeartbeats 2000000 in
theorem lq_tip {l : List Int32} {n : Nat} {i : Int32} {h : im_H} {Q : Option Value → im_H → Prop} (hi : i.toInt = n) (hl : n + 6 ≤ l.length) (hb : l.length < 2147483648) (hI : tI h) (kx : ∀ h1 h2, tI h2 → fr F_X11_tip h h1 → fr F_X12_tip h1 h2 → EvP (im_K1 l) 20 mL_law (1753, lwL i, [], h2) Q) : EvP (im_K1 l) 20 mL_law (433, lwL i, [], h) Q := by
  refine te_aload_n (p2 := 434) rfl rfl rfl ?_
  refine tw_rd (p2 := 439) 1 rfl rfl rfl rfl rfl rfl (by decide) hi (by omega) hb ?_
  refine cV_mI (p2 := 442) (i := 0) rfl rfl rfl rfl hI rfl rfl rfl (t_X11_tip (x1 := (l.getD (n + 1) 0)) hI) (by decide) (fun y1 h1 I1 g1 r1 => ?_)
  refine te_pop (p2 := 443) rfl rfl rfl ?_
  refine te_aload_n (p2 := 444) rfl rfl rfl ?_
  refine tw_rd (p2 := 449) 1 rfl rfl rfl rfl rfl rfl (by decide) hi (by omega) hb ?_
  refine cV_mI (p2 := 452) (i := 148) rfl rfl rfl rfl I1 rfl rfl rfl (t_X12_tip (x1 := (l.getD (n + 1) 0)) I1) (by decide) (fun y2 h2 I2 g2 r2 => ?_)
  refine te_pop (p2 := 453) rfl rfl rfl ?_
  refine te_goto rfl ?_
  exact kx h1 h2 I2 g1 g2
set_option maxRecDepth 10000 in
set_option maxHeartbeats 2000000 in
theorem lq_row {l : List Int32} {n : Nat} {i : Int32} {h : im_H} {Q : Option Value → im_H → Prop} (hi : i.toInt = n) (hl : n + 6 ≤ l.length) (hb : l.length < 2147483648) (hI : tI h) (kx : ∀ h1 h2, tI h2 → fr F_X11_row h h1 → fr F_X12_row h1 h2 → EvP (im_K1 l) 20 mL_law (1753, lwL i, [], h2) Q) : EvP (im_K1 l) 20 mL_law (456, lwL i, [], h) Q := by
  refine te_aload_n (p2 := 457) rfl rfl rfl ?_
  refine tw_rd (p2 := 462) 1 rfl rfl rfl rfl rfl rfl (by decide) hi (by omega) hb ?_
  refine tw_rd (p2 := 467) 2 rfl rfl rfl rfl rfl rfl (by decide) hi (by omega) hb ?_
  refine tw_rd (p2 := 472) 3 rfl rfl rfl rfl rfl rfl (by decide) hi (by omega) hb ?_
  refine tw_rd (p2 := 477) 4 rfl rfl rfl rfl rfl rfl (by decide) hi (by omega) hb ?_
  refine cV_mI (p2 := 480) (i := 0) rfl rfl rfl rfl hI rfl rfl rfl (t_X11_row (x1 := (l.getD (n + 1) 0)) (x2 := (l.getD (n + 2) 0)) (x3 := (l.getD (n + 3) 0)) (x4 := (l.getD (n + 4) 0)) hI) (by decide) (fun y1 h1 I1 g1 r1 => ?_)
  refine te_pop (p2 := 481) rfl rfl rfl ?_
  refine te_aload_n (p2 := 482) rfl rfl rfl ?_
  refine tw_rd (p2 := 487) 1 rfl rfl rfl rfl rfl rfl (by decide) hi (by omega) hb ?_
  refine tw_rd (p2 := 492) 2 rfl rfl rfl rfl rfl rfl (by decide) hi (by omega) hb ?_
  refine tw_rd (p2 := 497) 3 rfl rfl rfl rfl rfl rfl (by decide) hi (by omega) hb ?_
  refine tw_rd (p2 := 502) 4 rfl rfl rfl rfl rfl rfl (by decide) hi (by omega) hb ?_
  refine cV_mI (p2 := 505) (i := 148) rfl rfl rfl rfl I1 rfl rfl rfl (t_X12_row (x1 := (l.getD (n + 1) 0)) (x2 := (l.getD (n + 2) 0)) (x3 := (l.getD (n + 3) 0)) (x4 := (l.getD (n + 4) 0)) I1) (by decide) (fun y2 h2 I2 g2 r2 => ?_)
  refine te_pop (p2 := 506) rfl rfl rfl ?_
  refine te_goto rfl ?_
  exact kx h1 h2 I2 g1 g2
set_option maxRecDepth 10000 in
set_option maxHeartbeats 2000000 in
theorem lq_rail {l : List Int32} {n : Nat} {i : Int32} {h : im_H} {Q : Option Value → im_H → Prop} (hi : i.toInt = n) (hl : n + 6 ≤ l.length) (hb : l.length < 2147483648) (hI : tI h) (kx : ∀ h1 h2, tI h2 → fr F_X11_rail h h1 → fr F_X12_rail h1 h2 → EvP (im_K1 l) 20 mL_law (1753, lwL i, [], h2) Q) : EvP (im_K1 l) 20 mL_law (509, lwL i, [], h) Q := by
  refine te_aload_n (p2 := 510) rfl rfl rfl ?_
  refine tw_rd (p2 := 515) 1 rfl rfl rfl rfl rfl rfl (by decide) hi (by omega) hb ?_
  refine tw_rd (p2 := 520) 2 rfl rfl rfl rfl rfl rfl (by decide) hi (by omega) hb ?_
  refine tw_rd (p2 := 525) 3 rfl rfl rfl rfl rfl rfl (by decide) hi (by omega) hb ?_
  refine cV_mI (p2 := 528) (i := 0) rfl rfl rfl rfl hI rfl rfl rfl (t_X11_rail (x1 := (l.getD (n + 1) 0)) (x2 := (l.getD (n + 2) 0)) (x3 := (l.getD (n + 3) 0)) hI) (by decide) (fun y1 h1 I1 g1 r1 => ?_)
  refine te_pop (p2 := 529) rfl rfl rfl ?_
  refine te_aload_n (p2 := 530) rfl rfl rfl ?_
  refine tw_rd (p2 := 535) 1 rfl rfl rfl rfl rfl rfl (by decide) hi (by omega) hb ?_
  refine tw_rd (p2 := 540) 2 rfl rfl rfl rfl rfl rfl (by decide) hi (by omega) hb ?_
  refine tw_rd (p2 := 545) 3 rfl rfl rfl rfl rfl rfl (by decide) hi (by omega) hb ?_
  refine cV_mI (p2 := 548) (i := 148) rfl rfl rfl rfl I1 rfl rfl rfl (t_X12_rail (x1 := (l.getD (n + 1) 0)) (x2 := (l.getD (n + 2) 0)) (x3 := (l.getD (n + 3) 0)) I1) (by decide) (fun y2 h2 I2 g2 r2 => ?_)
  refine te_pop (p2 := 549) rfl rfl rfl ?_
  refine te_goto rfl ?_
  exact kx h1 h2 I2 g1 g2
set_option maxRecDepth 10000 in
set_option maxHeartbeats 2000000 in
theorem lq_room {l : List Int32} {n : Nat} {i : Int32} {h : im_H} {Q : Option Value → im_H → Prop} (hi : i.toInt = n) (hl : n + 6 ≤ l.length) (hb : l.length < 2147483648) (hI : tI h) (kx : ∀ h1 h2, tI h2 → fr F_X11_room h h1 → fr F_X12_room h1 h2 → EvP (im_K1 l) 20 mL_law (1753, lwL i, [], h2) Q) : EvP (im_K1 l) 20 mL_law (552, lwL i, [], h) Q := by
  refine te_aload_n (p2 := 553) rfl rfl rfl ?_
  refine tw_rd (p2 := 558) 1 rfl rfl rfl rfl rfl rfl (by decide) hi (by omega) hb ?_
  refine tw_rd (p2 := 563) 2 rfl rfl rfl rfl rfl rfl (by decide) hi (by omega) hb ?_
  refine tw_rd (p2 := 568) 3 rfl rfl rfl rfl rfl rfl (by decide) hi (by omega) hb ?_
  refine tw_rd (p2 := 573) 4 rfl rfl rfl rfl rfl rfl (by decide) hi (by omega) hb ?_
  refine cV_mI (p2 := 576) (i := 0) rfl rfl rfl rfl hI rfl rfl rfl (t_X11_room (x1 := (l.getD (n + 1) 0)) (x2 := (l.getD (n + 2) 0)) (x3 := (l.getD (n + 3) 0)) (x4 := (l.getD (n + 4) 0)) hI) (by decide) (fun y1 h1 I1 g1 r1 => ?_)
  refine te_pop (p2 := 577) rfl rfl rfl ?_
  refine te_aload_n (p2 := 578) rfl rfl rfl ?_
  refine tw_rd (p2 := 583) 1 rfl rfl rfl rfl rfl rfl (by decide) hi (by omega) hb ?_
  refine tw_rd (p2 := 588) 2 rfl rfl rfl rfl rfl rfl (by decide) hi (by omega) hb ?_
  refine tw_rd (p2 := 593) 3 rfl rfl rfl rfl rfl rfl (by decide) hi (by omega) hb ?_
  refine tw_rd (p2 := 598) 4 rfl rfl rfl rfl rfl rfl (by decide) hi (by omega) hb ?_
  refine cV_mI (p2 := 601) (i := 148) rfl rfl rfl rfl I1 rfl rfl rfl (t_X12_room (x1 := (l.getD (n + 1) 0)) (x2 := (l.getD (n + 2) 0)) (x3 := (l.getD (n + 3) 0)) (x4 := (l.getD (n + 4) 0)) I1) (by decide) (fun y2 h2 I2 g2 r2 => ?_)
  refine te_pop (p2 := 602) rfl rfl rfl ?_
  refine te_goto rfl ?_
  exact kx h1 h2 I2 g1 g2
set_option maxRecDepth 10000 in
set_option maxHeartbeats 2000000 in
theorem lq_feed {l : List Int32} {n : Nat} {i : Int32} {h : im_H} {Q : Option Value → im_H → Prop} (hi : i.toInt = n) (hl : n + 6 ≤ l.length) (hb : l.length < 2147483648) (hI : tI h) (hr : rel h) (kx : ∀ h2, tI h2 → rel h2 → EvP (im_K1 l) 20 mL_law (1753, lwL i, [], h2) Q) : EvP (im_K1 l) 20 mL_law (605, lwL i, [], h) Q := by
  refine te_aload_n (p2 := 606) rfl rfl rfl ?_
  refine tw_rd (p2 := 611) 1 rfl rfl rfl rfl rfl rfl (by decide) hi (by omega) hb ?_
  refine te_i2l (p2 := 612) (z := (Int32.toInt64 (l.getD (n + 1) 0))) rfl rfl rfl ?_
  refine te_bipush (p2 := 614) (x := 32) rfl rfl (by decide) ?_
  refine te_lshl (p2 := 615) (z := ((Int32.toInt64 (l.getD (n + 1) 0)) <<< (Int32.toInt64 32 &&& 63))) rfl rfl rfl ?_
  refine tw_rd (p2 := 620) 2 rfl rfl rfl rfl rfl rfl (by decide) hi (by omega) hb ?_
  refine te_i2l (p2 := 621) (z := (Int32.toInt64 (l.getD (n + 2) 0))) rfl rfl rfl ?_
  refine te_ldc2 (p2 := 624) (x := 4294967295) rfl rfl rfl ?_
  refine te_land (p2 := 625) (z := ((Int32.toInt64 (l.getD (n + 2) 0)) &&& 4294967295)) rfl rfl rfl ?_
  refine te_lor (p2 := 626) (z := (((Int32.toInt64 (l.getD (n + 1) 0)) <<< (Int32.toInt64 32 &&& 63)) ||| ((Int32.toInt64 (l.getD (n + 2) 0)) &&& 4294967295))) rfl rfl rfl ?_
  refine tw_rd (p2 := 631) 3 rfl rfl rfl rfl rfl rfl (by decide) hi (by omega) hb ?_
  refine tc_V (p2 := 634) (i := 0) rfl rfl rfl rfl hI rfl rfl rfl (c_X11_feed (w := (((Int32.toInt64 (l.getD (n + 1) 0)) <<< (Int32.toInt64 32 &&& 63)) ||| ((Int32.toInt64 (l.getD (n + 2) 0)) &&& 4294967295))) (n := (l.getD (n + 3) 0)) hI) (by decide) (fun v1 h1 q1 => ?_)
  obtain ⟨I1, g1, y1, w1, r1⟩ := q1
  subst w1
  show EvP _ _ _ (634, lwL i, [.int y1], h1) _
  refine te_pop (p2 := 635) rfl rfl rfl ?_
  refine te_aload_n (p2 := 636) rfl rfl rfl ?_
  refine tw_rd (p2 := 641) 1 rfl rfl rfl rfl rfl rfl (by decide) hi (by omega) hb ?_
  refine te_i2l (p2 := 642) (z := (Int32.toInt64 (l.getD (n + 1) 0))) rfl rfl rfl ?_
  refine te_bipush (p2 := 644) (x := 32) rfl rfl (by decide) ?_
  refine te_lshl (p2 := 645) (z := ((Int32.toInt64 (l.getD (n + 1) 0)) <<< (Int32.toInt64 32 &&& 63))) rfl rfl rfl ?_
  refine tw_rd (p2 := 650) 2 rfl rfl rfl rfl rfl rfl (by decide) hi (by omega) hb ?_
  refine te_i2l (p2 := 651) (z := (Int32.toInt64 (l.getD (n + 2) 0))) rfl rfl rfl ?_
  refine te_ldc2 (p2 := 654) (x := 4294967295) rfl rfl rfl ?_
  refine te_land (p2 := 655) (z := ((Int32.toInt64 (l.getD (n + 2) 0)) &&& 4294967295)) rfl rfl rfl ?_
  refine te_lor (p2 := 656) (z := (((Int32.toInt64 (l.getD (n + 1) 0)) <<< (Int32.toInt64 32 &&& 63)) ||| ((Int32.toInt64 (l.getD (n + 2) 0)) &&& 4294967295))) rfl rfl rfl ?_
  refine tw_rd (p2 := 661) 3 rfl rfl rfl rfl rfl rfl (by decide) hi (by omega) hb ?_
  refine tc_V (p2 := 664) (i := 148) rfl rfl rfl rfl I1 rfl rfl rfl (c_X12_feed (w := (((Int32.toInt64 (l.getD (n + 1) 0)) <<< (Int32.toInt64 32 &&& 63)) ||| ((Int32.toInt64 (l.getD (n + 2) 0)) &&& 4294967295))) (n := (l.getD (n + 3) 0)) I1) (by decide) (fun v2 h2 q2 => ?_)
  obtain ⟨I2, g2, y2, w2, r2⟩ := q2
  subst w2
  show EvP _ _ _ (664, lwL i, [.int y2], h2) _
  refine te_pop (p2 := 665) rfl rfl rfl ?_
  refine te_goto rfl ?_
  exact kx h2 I2 (relc_feed  (y1 := y1) (y2 := y2) hr g1 g2 r1 r2)
set_option maxRecDepth 10000 in
set_option maxHeartbeats 2000000 in
theorem lq_order {l : List Int32} {n : Nat} {i : Int32} {h : im_H} {Q : Option Value → im_H → Prop} (hi : i.toInt = n) (hl : n + 6 ≤ l.length) (hb : l.length < 2147483648) (hI : tI h) (hr : rel h) (kx : ∀ h2, tI h2 → rel h2 → EvP (im_K1 l) 20 mL_law (1753, lwL i, [], h2) Q) : EvP (im_K1 l) 20 mL_law (668, lwL i, [], h) Q := by
  refine te_aload_n (p2 := 669) rfl rfl rfl ?_
  refine tc_V (p2 := 672) (i := 0) rfl rfl rfl rfl hI rfl rfl rfl (c_X11_order  hI) (by decide) (fun v1 h1 q1 => ?_)
  obtain ⟨I1, g1, y1, w1, r1⟩ := q1
  subst w1
  show EvP _ _ _ (672, lwL i, [.int y1], h1) _
  refine te_pop (p2 := 673) rfl rfl rfl ?_
  refine te_aload_n (p2 := 674) rfl rfl rfl ?_
  refine tc_V (p2 := 677) (i := 148) rfl rfl rfl rfl I1 rfl rfl rfl (c_X12_order  I1) (by decide) (fun v2 h2 q2 => ?_)
  obtain ⟨I2, g2, y2, w2, r2⟩ := q2
  subst w2
  show EvP _ _ _ (677, lwL i, [.int y2], h2) _
  refine te_pop (p2 := 678) rfl rfl rfl ?_
  refine te_goto rfl ?_
  exact kx h2 I2 (relc_order  (y1 := y1) (y2 := y2) hr g1 g2 r1 r2)
set_option maxRecDepth 10000 in
set_option maxHeartbeats 2000000 in
theorem lq_force {l : List Int32} {n : Nat} {i : Int32} {h : im_H} {Q : Option Value → im_H → Prop} (hi : i.toInt = n) (hl : n + 6 ≤ l.length) (hb : l.length < 2147483648) (hI : tI h) (hr : rel h) (kx : ∀ h2, tI h2 → rel h2 → EvP (im_K1 l) 20 mL_law (1753, lwL i, [], h2) Q) : EvP (im_K1 l) 20 mL_law (681, lwL i, [], h) Q := by
  refine te_aload_n (p2 := 682) rfl rfl rfl ?_
  refine tw_rd (p2 := 687) 1 rfl rfl rfl rfl rfl rfl (by decide) hi (by omega) hb ?_
  refine tc_V (p2 := 690) (i := 0) rfl rfl rfl rfl hI rfl rfl rfl (c_X11_force (x1 := (l.getD (n + 1) 0)) hI) (by decide) (fun v1 h1 q1 => ?_)
  obtain ⟨I1, g1, y1, w1, r1⟩ := q1
  subst w1
  show EvP _ _ _ (690, lwL i, [.int y1], h1) _
  refine te_aload_n (p2 := 691) rfl rfl rfl ?_
  refine tw_rd (p2 := 696) 1 rfl rfl rfl rfl rfl rfl (by decide) hi (by omega) hb ?_
  refine tc_V (p2 := 699) (i := 148) rfl rfl rfl rfl I1 rfl rfl rfl (c_X12_force (x1 := (l.getD (n + 1) 0)) I1) (by decide) (fun v2 h2 q2 => ?_)
  obtain ⟨I2, g2, y2, w2, r2⟩ := q2
  subst w2
  show EvP _ _ _ (699, lwL i, [.int y2, .int y1], h2) _
  obtain ⟨ye, hr2⟩ := relc_force (x1 := (l.getD (n + 1) 0)) (y1 := y1) (y2 := y2) hr g1 g2 r1 r2
  refine tb_eq (p2 := 702) rfl rfl rfl rfl (fun _ => kx h2 I2 hr2) (fun hc => absurd (congrArg Int32.toInt ye) hc)
set_option maxRecDepth 10000 in
set_option maxHeartbeats 2000000 in
theorem lq_says {l : List Int32} {n : Nat} {i : Int32} {h : im_H} {Q : Option Value → im_H → Prop} (hi : i.toInt = n) (hl : n + 6 ≤ l.length) (hb : l.length < 2147483648) (hI : tI h) (kx : ∀ h1 h2, tI h2 → fr F_X11_says h h1 → fr F_X12_says h1 h2 → EvP (im_K1 l) 20 mL_law (1753, lwL i, [], h2) Q) : EvP (im_K1 l) 20 mL_law (704, lwL i, [], h) Q := by
  refine te_aload_n (p2 := 705) rfl rfl rfl ?_
  refine tw_rd (p2 := 710) 1 rfl rfl rfl rfl rfl rfl (by decide) hi (by omega) hb ?_
  refine tw_rd (p2 := 715) 2 rfl rfl rfl rfl rfl rfl (by decide) hi (by omega) hb ?_
  refine cV_mI (p2 := 718) (i := 0) rfl rfl rfl rfl hI rfl rfl rfl (t_X11_says (x1 := (l.getD (n + 1) 0)) (x2 := (l.getD (n + 2) 0)) hI) (by decide) (fun y1 h1 I1 g1 r1 => ?_)
  refine te_pop (p2 := 719) rfl rfl rfl ?_
  refine te_aload_n (p2 := 720) rfl rfl rfl ?_
  refine tw_rd (p2 := 725) 1 rfl rfl rfl rfl rfl rfl (by decide) hi (by omega) hb ?_
  refine tw_rd (p2 := 730) 2 rfl rfl rfl rfl rfl rfl (by decide) hi (by omega) hb ?_
  refine cV_mI (p2 := 733) (i := 148) rfl rfl rfl rfl I1 rfl rfl rfl (t_X12_says (x1 := (l.getD (n + 1) 0)) (x2 := (l.getD (n + 2) 0)) I1) (by decide) (fun y2 h2 I2 g2 r2 => ?_)
  refine te_pop (p2 := 734) rfl rfl rfl ?_
  refine te_goto rfl ?_
  exact kx h1 h2 I2 g1 g2
set_option maxRecDepth 10000 in
set_option maxHeartbeats 2000000 in
theorem lq_run {l : List Int32} {n : Nat} {i : Int32} {h : im_H} {Q : Option Value → im_H → Prop} (hi : i.toInt = n) (hl : n + 6 ≤ l.length) (hb : l.length < 2147483648) (hI : tI h) (kx : ∀ h1 h2, tI h2 → fr F_X11_run h h1 → fr F_X12_run h1 h2 → EvP (im_K1 l) 20 mL_law (1753, lwL i, [], h2) Q) : EvP (im_K1 l) 20 mL_law (737, lwL i, [], h) Q := by
  refine te_aload_n (p2 := 738) rfl rfl rfl ?_
  refine tw_rd (p2 := 743) 1 rfl rfl rfl rfl rfl rfl (by decide) hi (by omega) hb ?_
  refine cV_mI (p2 := 746) (i := 0) rfl rfl rfl rfl hI rfl rfl rfl (t_X11_run (x1 := (l.getD (n + 1) 0)) hI) (by decide) (fun y1 h1 I1 g1 r1 => ?_)
  refine te_pop (p2 := 747) rfl rfl rfl ?_
  refine te_aload_n (p2 := 748) rfl rfl rfl ?_
  refine tw_rd (p2 := 753) 1 rfl rfl rfl rfl rfl rfl (by decide) hi (by omega) hb ?_
  refine cV_mI (p2 := 756) (i := 148) rfl rfl rfl rfl I1 rfl rfl rfl (t_X12_run (x1 := (l.getD (n + 1) 0)) I1) (by decide) (fun y2 h2 I2 g2 r2 => ?_)
  refine te_pop (p2 := 757) rfl rfl rfl ?_
  refine te_goto rfl ?_
  exact kx h1 h2 I2 g1 g2
set_option maxRecDepth 10000 in
set_option maxHeartbeats 2000000 in
theorem lq_cellTold {l : List Int32} {n : Nat} {i : Int32} {h : im_H} {Q : Option Value → im_H → Prop} (hi : i.toInt = n) (hl : n + 6 ≤ l.length) (hb : l.length < 2147483648) (hI : tI h) (kx : ∀ h1 h2, tI h2 → fr F_X11_cellTold h h1 → fr F_X12_cellTold h1 h2 → EvP (im_K1 l) 20 mL_law (1753, lwL i, [], h2) Q) : EvP (im_K1 l) 20 mL_law (760, lwL i, [], h) Q := by
  refine te_aload_n (p2 := 761) rfl rfl rfl ?_
  refine tw_rd (p2 := 766) 1 rfl rfl rfl rfl rfl rfl (by decide) hi (by omega) hb ?_
  refine tw_rd (p2 := 771) 2 rfl rfl rfl rfl rfl rfl (by decide) hi (by omega) hb ?_
  refine cV_mI (p2 := 774) (i := 0) rfl rfl rfl rfl hI rfl rfl rfl (t_X11_cellTold (x1 := (l.getD (n + 1) 0)) (x2 := (l.getD (n + 2) 0)) hI) (by decide) (fun y1 h1 I1 g1 r1 => ?_)
  refine te_pop (p2 := 775) rfl rfl rfl ?_
  refine te_aload_n (p2 := 776) rfl rfl rfl ?_
  refine tw_rd (p2 := 781) 1 rfl rfl rfl rfl rfl rfl (by decide) hi (by omega) hb ?_
  refine tw_rd (p2 := 786) 2 rfl rfl rfl rfl rfl rfl (by decide) hi (by omega) hb ?_
  refine cV_mI (p2 := 789) (i := 148) rfl rfl rfl rfl I1 rfl rfl rfl (t_X12_cellTold (x1 := (l.getD (n + 1) 0)) (x2 := (l.getD (n + 2) 0)) I1) (by decide) (fun y2 h2 I2 g2 r2 => ?_)
  refine te_pop (p2 := 790) rfl rfl rfl ?_
  refine te_goto rfl ?_
  exact kx h1 h2 I2 g1 g2
set_option maxRecDepth 10000 in
set_option maxHeartbeats 2000000 in
theorem lq_kindTold {l : List Int32} {n : Nat} {i : Int32} {h : im_H} {Q : Option Value → im_H → Prop} (hi : i.toInt = n) (hl : n + 6 ≤ l.length) (hb : l.length < 2147483648) (hI : tI h) (kx : ∀ h1 h2, tI h2 → fr F_X11_kindTold h h1 → fr F_X12_kindTold h1 h2 → EvP (im_K1 l) 20 mL_law (1753, lwL i, [], h2) Q) : EvP (im_K1 l) 20 mL_law (793, lwL i, [], h) Q := by
  refine te_aload_n (p2 := 794) rfl rfl rfl ?_
  refine tw_rd (p2 := 799) 1 rfl rfl rfl rfl rfl rfl (by decide) hi (by omega) hb ?_
  refine tw_rd (p2 := 804) 2 rfl rfl rfl rfl rfl rfl (by decide) hi (by omega) hb ?_
  refine cV_mI (p2 := 807) (i := 0) rfl rfl rfl rfl hI rfl rfl rfl (t_X11_kindTold (x1 := (l.getD (n + 1) 0)) (x2 := (l.getD (n + 2) 0)) hI) (by decide) (fun y1 h1 I1 g1 r1 => ?_)
  refine te_pop (p2 := 808) rfl rfl rfl ?_
  refine te_aload_n (p2 := 809) rfl rfl rfl ?_
  refine tw_rd (p2 := 814) 1 rfl rfl rfl rfl rfl rfl (by decide) hi (by omega) hb ?_
  refine tw_rd (p2 := 819) 2 rfl rfl rfl rfl rfl rfl (by decide) hi (by omega) hb ?_
  refine cV_mI (p2 := 822) (i := 148) rfl rfl rfl rfl I1 rfl rfl rfl (t_X12_kindTold (x1 := (l.getD (n + 1) 0)) (x2 := (l.getD (n + 2) 0)) I1) (by decide) (fun y2 h2 I2 g2 r2 => ?_)
  refine te_pop (p2 := 823) rfl rfl rfl ?_
  refine te_goto rfl ?_
  exact kx h1 h2 I2 g1 g2
set_option maxRecDepth 10000 in
set_option maxHeartbeats 2000000 in
theorem lq_personTold {l : List Int32} {n : Nat} {i : Int32} {h : im_H} {Q : Option Value → im_H → Prop} (hi : i.toInt = n) (hl : n + 6 ≤ l.length) (hb : l.length < 2147483648) (hI : tI h) (kx : ∀ h1 h2, tI h2 → fr F_X11_personTold h h1 → fr F_X12_personTold h1 h2 → EvP (im_K1 l) 20 mL_law (1753, lwL i, [], h2) Q) : EvP (im_K1 l) 20 mL_law (826, lwL i, [], h) Q := by
  refine te_aload_n (p2 := 827) rfl rfl rfl ?_
  refine tw_rd (p2 := 832) 1 rfl rfl rfl rfl rfl rfl (by decide) hi (by omega) hb ?_
  refine tw_rd (p2 := 837) 2 rfl rfl rfl rfl rfl rfl (by decide) hi (by omega) hb ?_
  refine cV_mI (p2 := 840) (i := 0) rfl rfl rfl rfl hI rfl rfl rfl (t_X11_personTold (x1 := (l.getD (n + 1) 0)) (x2 := (l.getD (n + 2) 0)) hI) (by decide) (fun y1 h1 I1 g1 r1 => ?_)
  refine te_pop (p2 := 841) rfl rfl rfl ?_
  refine te_aload_n (p2 := 842) rfl rfl rfl ?_
  refine tw_rd (p2 := 847) 1 rfl rfl rfl rfl rfl rfl (by decide) hi (by omega) hb ?_
  refine tw_rd (p2 := 852) 2 rfl rfl rfl rfl rfl rfl (by decide) hi (by omega) hb ?_
  refine cV_mI (p2 := 855) (i := 148) rfl rfl rfl rfl I1 rfl rfl rfl (t_X12_personTold (x1 := (l.getD (n + 1) 0)) (x2 := (l.getD (n + 2) 0)) I1) (by decide) (fun y2 h2 I2 g2 r2 => ?_)
  refine te_pop (p2 := 856) rfl rfl rfl ?_
  refine te_goto rfl ?_
  exact kx h1 h2 I2 g1 g2
set_option maxRecDepth 10000 in
set_option maxHeartbeats 2000000 in
theorem lq_rowTold {l : List Int32} {n : Nat} {i : Int32} {h : im_H} {Q : Option Value → im_H → Prop} (hi : i.toInt = n) (hl : n + 6 ≤ l.length) (hb : l.length < 2147483648) (hI : tI h) (kx : ∀ h1 h2, tI h2 → fr F_X11_rowTold h h1 → fr F_X12_rowTold h1 h2 → EvP (im_K1 l) 20 mL_law (1753, lwL i, [], h2) Q) : EvP (im_K1 l) 20 mL_law (859, lwL i, [], h) Q := by
  refine te_aload_n (p2 := 860) rfl rfl rfl ?_
  refine tw_rd (p2 := 865) 1 rfl rfl rfl rfl rfl rfl (by decide) hi (by omega) hb ?_
  refine tw_rd (p2 := 870) 2 rfl rfl rfl rfl rfl rfl (by decide) hi (by omega) hb ?_
  refine cV_mI (p2 := 873) (i := 0) rfl rfl rfl rfl hI rfl rfl rfl (t_X11_rowTold (x1 := (l.getD (n + 1) 0)) (x2 := (l.getD (n + 2) 0)) hI) (by decide) (fun y1 h1 I1 g1 r1 => ?_)
  refine te_pop (p2 := 874) rfl rfl rfl ?_
  refine te_aload_n (p2 := 875) rfl rfl rfl ?_
  refine tw_rd (p2 := 880) 1 rfl rfl rfl rfl rfl rfl (by decide) hi (by omega) hb ?_
  refine tw_rd (p2 := 885) 2 rfl rfl rfl rfl rfl rfl (by decide) hi (by omega) hb ?_
  refine cV_mI (p2 := 888) (i := 148) rfl rfl rfl rfl I1 rfl rfl rfl (t_X12_rowTold (x1 := (l.getD (n + 1) 0)) (x2 := (l.getD (n + 2) 0)) I1) (by decide) (fun y2 h2 I2 g2 r2 => ?_)
  refine te_pop (p2 := 889) rfl rfl rfl ?_
  refine te_goto rfl ?_
  exact kx h1 h2 I2 g1 g2
set_option maxRecDepth 10000 in
set_option maxHeartbeats 2000000 in
theorem lq_railTold {l : List Int32} {n : Nat} {i : Int32} {h : im_H} {Q : Option Value → im_H → Prop} (hi : i.toInt = n) (hl : n + 6 ≤ l.length) (hb : l.length < 2147483648) (hI : tI h) (kx : ∀ h1 h2, tI h2 → fr F_X11_railTold h h1 → fr F_X12_railTold h1 h2 → EvP (im_K1 l) 20 mL_law (1753, lwL i, [], h2) Q) : EvP (im_K1 l) 20 mL_law (892, lwL i, [], h) Q := by
  refine te_aload_n (p2 := 893) rfl rfl rfl ?_
  refine tw_rd (p2 := 898) 1 rfl rfl rfl rfl rfl rfl (by decide) hi (by omega) hb ?_
  refine tw_rd (p2 := 903) 2 rfl rfl rfl rfl rfl rfl (by decide) hi (by omega) hb ?_
  refine cV_mI (p2 := 906) (i := 0) rfl rfl rfl rfl hI rfl rfl rfl (t_X11_railTold (x1 := (l.getD (n + 1) 0)) (x2 := (l.getD (n + 2) 0)) hI) (by decide) (fun y1 h1 I1 g1 r1 => ?_)
  refine te_pop (p2 := 907) rfl rfl rfl ?_
  refine te_aload_n (p2 := 908) rfl rfl rfl ?_
  refine tw_rd (p2 := 913) 1 rfl rfl rfl rfl rfl rfl (by decide) hi (by omega) hb ?_
  refine tw_rd (p2 := 918) 2 rfl rfl rfl rfl rfl rfl (by decide) hi (by omega) hb ?_
  refine cV_mI (p2 := 921) (i := 148) rfl rfl rfl rfl I1 rfl rfl rfl (t_X12_railTold (x1 := (l.getD (n + 1) 0)) (x2 := (l.getD (n + 2) 0)) I1) (by decide) (fun y2 h2 I2 g2 r2 => ?_)
  refine te_pop (p2 := 922) rfl rfl rfl ?_
  refine te_goto rfl ?_
  exact kx h1 h2 I2 g1 g2
set_option maxRecDepth 10000 in
set_option maxHeartbeats 2000000 in
theorem lq_wallTold {l : List Int32} {n : Nat} {i : Int32} {h : im_H} {Q : Option Value → im_H → Prop} (hi : i.toInt = n) (hl : n + 6 ≤ l.length) (hb : l.length < 2147483648) (hI : tI h) (kx : ∀ h1 h2, tI h2 → fr F_X11_wallTold h h1 → fr F_X12_wallTold h1 h2 → EvP (im_K1 l) 20 mL_law (1753, lwL i, [], h2) Q) : EvP (im_K1 l) 20 mL_law (925, lwL i, [], h) Q := by
  refine te_aload_n (p2 := 926) rfl rfl rfl ?_
  refine tw_rd (p2 := 931) 1 rfl rfl rfl rfl rfl rfl (by decide) hi (by omega) hb ?_
  refine tw_rd (p2 := 936) 2 rfl rfl rfl rfl rfl rfl (by decide) hi (by omega) hb ?_
  refine cV_mI (p2 := 939) (i := 0) rfl rfl rfl rfl hI rfl rfl rfl (t_X11_wallTold (x1 := (l.getD (n + 1) 0)) (x2 := (l.getD (n + 2) 0)) hI) (by decide) (fun y1 h1 I1 g1 r1 => ?_)
  refine te_pop (p2 := 940) rfl rfl rfl ?_
  refine te_aload_n (p2 := 941) rfl rfl rfl ?_
  refine tw_rd (p2 := 946) 1 rfl rfl rfl rfl rfl rfl (by decide) hi (by omega) hb ?_
  refine tw_rd (p2 := 951) 2 rfl rfl rfl rfl rfl rfl (by decide) hi (by omega) hb ?_
  refine cV_mI (p2 := 954) (i := 148) rfl rfl rfl rfl I1 rfl rfl rfl (t_X12_wallTold (x1 := (l.getD (n + 1) 0)) (x2 := (l.getD (n + 2) 0)) I1) (by decide) (fun y2 h2 I2 g2 r2 => ?_)
  refine te_pop (p2 := 955) rfl rfl rfl ?_
  refine te_goto rfl ?_
  exact kx h1 h2 I2 g1 g2
set_option maxRecDepth 10000 in
set_option maxHeartbeats 2000000 in
theorem lq_count {l : List Int32} {n : Nat} {i : Int32} {h : im_H} {Q : Option Value → im_H → Prop} (hi : i.toInt = n) (hl : n + 6 ≤ l.length) (hb : l.length < 2147483648) (hI : tI h) (kx : ∀ h1 h2, tI h2 → fr F_X11_count h h1 → fr F_X12_count h1 h2 → EvP (im_K1 l) 20 mL_law (1753, lwL i, [], h2) Q) : EvP (im_K1 l) 20 mL_law (958, lwL i, [], h) Q := by
  refine te_aload_n (p2 := 959) rfl rfl rfl ?_
  refine tw_rd (p2 := 964) 1 rfl rfl rfl rfl rfl rfl (by decide) hi (by omega) hb ?_
  refine cV_mI (p2 := 967) (i := 0) rfl rfl rfl rfl hI rfl rfl rfl (t_X11_count (x1 := (l.getD (n + 1) 0)) hI) (by decide) (fun y1 h1 I1 g1 r1 => ?_)
  refine te_pop (p2 := 968) rfl rfl rfl ?_
  refine te_aload_n (p2 := 969) rfl rfl rfl ?_
  refine tw_rd (p2 := 974) 1 rfl rfl rfl rfl rfl rfl (by decide) hi (by omega) hb ?_
  refine cV_mI (p2 := 977) (i := 148) rfl rfl rfl rfl I1 rfl rfl rfl (t_X12_count (x1 := (l.getD (n + 1) 0)) I1) (by decide) (fun y2 h2 I2 g2 r2 => ?_)
  refine te_pop (p2 := 978) rfl rfl rfl ?_
  refine te_goto rfl ?_
  exact kx h1 h2 I2 g1 g2
set_option maxRecDepth 10000 in
set_option maxHeartbeats 2000000 in
theorem lq_pull {l : List Int32} {n : Nat} {i : Int32} {h : im_H} {Q : Option Value → im_H → Prop} (hi : i.toInt = n) (hl : n + 6 ≤ l.length) (hb : l.length < 2147483648) (hI : tI h) (kx : ∀ h1 h2, tI h2 → fr F_X11_pull h h1 → fr F_X12_pull h1 h2 → EvP (im_K1 l) 20 mL_law (1753, lwL i, [], h2) Q) : EvP (im_K1 l) 20 mL_law (981, lwL i, [], h) Q := by
  refine te_aload_n (p2 := 982) rfl rfl rfl ?_
  refine tw_rd (p2 := 987) 1 rfl rfl rfl rfl rfl rfl (by decide) hi (by omega) hb ?_
  refine cV_mI (p2 := 990) (i := 0) rfl rfl rfl rfl hI rfl rfl rfl (t_X11_pull (x1 := (l.getD (n + 1) 0)) hI) (by decide) (fun y1 h1 I1 g1 r1 => ?_)
  refine te_pop (p2 := 991) rfl rfl rfl ?_
  refine te_aload_n (p2 := 992) rfl rfl rfl ?_
  refine tw_rd (p2 := 997) 1 rfl rfl rfl rfl rfl rfl (by decide) hi (by omega) hb ?_
  refine cV_mI (p2 := 1000) (i := 148) rfl rfl rfl rfl I1 rfl rfl rfl (t_X12_pull (x1 := (l.getD (n + 1) 0)) I1) (by decide) (fun y2 h2 I2 g2 r2 => ?_)
  refine te_pop (p2 := 1001) rfl rfl rfl ?_
  refine te_goto rfl ?_
  exact kx h1 h2 I2 g1 g2
set_option maxRecDepth 10000 in
set_option maxHeartbeats 2000000 in
theorem lq_pulls {l : List Int32} {n : Nat} {i : Int32} {h : im_H} {Q : Option Value → im_H → Prop} (hi : i.toInt = n) (hl : n + 6 ≤ l.length) (hb : l.length < 2147483648) (hI : tI h) (kx : ∀ h1 h2, tI h2 → fr F_X11_pulls h h1 → fr F_X12_pulls h1 h2 → EvP (im_K1 l) 20 mL_law (1753, lwL i, [], h2) Q) : EvP (im_K1 l) 20 mL_law (1004, lwL i, [], h) Q := by
  refine te_aload_n (p2 := 1005) rfl rfl rfl ?_
  refine tw_rd (p2 := 1010) 1 rfl rfl rfl rfl rfl rfl (by decide) hi (by omega) hb ?_
  refine cV_mI (p2 := 1013) (i := 0) rfl rfl rfl rfl hI rfl rfl rfl (t_X11_pulls (x1 := (l.getD (n + 1) 0)) hI) (by decide) (fun y1 h1 I1 g1 r1 => ?_)
  refine te_pop (p2 := 1014) rfl rfl rfl ?_
  refine te_aload_n (p2 := 1015) rfl rfl rfl ?_
  refine tw_rd (p2 := 1020) 1 rfl rfl rfl rfl rfl rfl (by decide) hi (by omega) hb ?_
  refine cV_mI (p2 := 1023) (i := 148) rfl rfl rfl rfl I1 rfl rfl rfl (t_X12_pulls (x1 := (l.getD (n + 1) 0)) I1) (by decide) (fun y2 h2 I2 g2 r2 => ?_)
  refine te_pop (p2 := 1024) rfl rfl rfl ?_
  refine te_goto rfl ?_
  exact kx h1 h2 I2 g1 g2
set_option maxRecDepth 10000 in
set_option maxHeartbeats 2000000 in
theorem lq_pullTold {l : List Int32} {n : Nat} {i : Int32} {h : im_H} {Q : Option Value → im_H → Prop} (hi : i.toInt = n) (hl : n + 6 ≤ l.length) (hb : l.length < 2147483648) (hI : tI h) (kx : ∀ h1 h2, tI h2 → fr F_X11_pullTold h h1 → fr F_X12_pullTold h1 h2 → EvP (im_K1 l) 20 mL_law (1753, lwL i, [], h2) Q) : EvP (im_K1 l) 20 mL_law (1027, lwL i, [], h) Q := by
  refine te_aload_n (p2 := 1028) rfl rfl rfl ?_
  refine tw_rd (p2 := 1033) 1 rfl rfl rfl rfl rfl rfl (by decide) hi (by omega) hb ?_
  refine cV_mI (p2 := 1036) (i := 0) rfl rfl rfl rfl hI rfl rfl rfl (t_X11_pullTold (x1 := (l.getD (n + 1) 0)) hI) (by decide) (fun y1 h1 I1 g1 r1 => ?_)
  refine te_pop (p2 := 1037) rfl rfl rfl ?_
  refine te_aload_n (p2 := 1038) rfl rfl rfl ?_
  refine tw_rd (p2 := 1043) 1 rfl rfl rfl rfl rfl rfl (by decide) hi (by omega) hb ?_
  refine cV_mI (p2 := 1046) (i := 148) rfl rfl rfl rfl I1 rfl rfl rfl (t_X12_pullTold (x1 := (l.getD (n + 1) 0)) I1) (by decide) (fun y2 h2 I2 g2 r2 => ?_)
  refine te_pop (p2 := 1047) rfl rfl rfl ?_
  refine te_goto rfl ?_
  exact kx h1 h2 I2 g1 g2
set_option maxRecDepth 10000 in
set_option maxHeartbeats 2000000 in
theorem lq_mends {l : List Int32} {n : Nat} {i : Int32} {h : im_H} {Q : Option Value → im_H → Prop} (hi : i.toInt = n) (hl : n + 6 ≤ l.length) (hb : l.length < 2147483648) (hI : tI h) (kx : ∀ h1 h2, tI h2 → fr F_X11_mends h h1 → fr F_X12_mends h1 h2 → EvP (im_K1 l) 20 mL_law (1753, lwL i, [], h2) Q) : EvP (im_K1 l) 20 mL_law (1050, lwL i, [], h) Q := by
  refine te_aload_n (p2 := 1051) rfl rfl rfl ?_
  refine tw_rd (p2 := 1056) 1 rfl rfl rfl rfl rfl rfl (by decide) hi (by omega) hb ?_
  refine cV_mI (p2 := 1059) (i := 0) rfl rfl rfl rfl hI rfl rfl rfl (t_X11_mends (x1 := (l.getD (n + 1) 0)) hI) (by decide) (fun y1 h1 I1 g1 r1 => ?_)
  refine te_pop (p2 := 1060) rfl rfl rfl ?_
  refine te_aload_n (p2 := 1061) rfl rfl rfl ?_
  refine tw_rd (p2 := 1066) 1 rfl rfl rfl rfl rfl rfl (by decide) hi (by omega) hb ?_
  refine cV_mI (p2 := 1069) (i := 148) rfl rfl rfl rfl I1 rfl rfl rfl (t_X12_mends (x1 := (l.getD (n + 1) 0)) I1) (by decide) (fun y2 h2 I2 g2 r2 => ?_)
  refine te_pop (p2 := 1070) rfl rfl rfl ?_
  refine te_goto rfl ?_
  exact kx h1 h2 I2 g1 g2
set_option maxRecDepth 10000 in
set_option maxHeartbeats 2000000 in
theorem lq_mendTold {l : List Int32} {n : Nat} {i : Int32} {h : im_H} {Q : Option Value → im_H → Prop} (hi : i.toInt = n) (hl : n + 6 ≤ l.length) (hb : l.length < 2147483648) (hI : tI h) (kx : ∀ h1 h2, tI h2 → fr F_X11_mendTold h h1 → fr F_X12_mendTold h1 h2 → EvP (im_K1 l) 20 mL_law (1753, lwL i, [], h2) Q) : EvP (im_K1 l) 20 mL_law (1073, lwL i, [], h) Q := by
  refine te_aload_n (p2 := 1074) rfl rfl rfl ?_
  refine cV_mI (p2 := 1077) (i := 0) rfl rfl rfl rfl hI rfl rfl rfl (t_X11_mendTold  hI) (by decide) (fun y1 h1 I1 g1 r1 => ?_)
  refine te_pop (p2 := 1078) rfl rfl rfl ?_
  refine te_aload_n (p2 := 1079) rfl rfl rfl ?_
  refine cV_mI (p2 := 1082) (i := 148) rfl rfl rfl rfl I1 rfl rfl rfl (t_X12_mendTold  I1) (by decide) (fun y2 h2 I2 g2 r2 => ?_)
  refine te_pop (p2 := 1083) rfl rfl rfl ?_
  refine te_goto rfl ?_
  exact kx h1 h2 I2 g1 g2
set_option maxRecDepth 10000 in
set_option maxHeartbeats 2000000 in
theorem lq_mend {l : List Int32} {n : Nat} {i : Int32} {h : im_H} {Q : Option Value → im_H → Prop} (hi : i.toInt = n) (hl : n + 6 ≤ l.length) (hb : l.length < 2147483648) (hI : tI h) (kx : ∀ h1 h2, tI h2 → fr F_X11_mend h h1 → fr F_X12_mend h1 h2 → EvP (im_K1 l) 20 mL_law (1753, lwL i, [], h2) Q) : EvP (im_K1 l) 20 mL_law (1086, lwL i, [], h) Q := by
  refine te_aload_n (p2 := 1087) rfl rfl rfl ?_
  refine tw_rd (p2 := 1092) 1 rfl rfl rfl rfl rfl rfl (by decide) hi (by omega) hb ?_
  refine cV_mI (p2 := 1095) (i := 0) rfl rfl rfl rfl hI rfl rfl rfl (t_X11_mend (x1 := (l.getD (n + 1) 0)) hI) (by decide) (fun y1 h1 I1 g1 r1 => ?_)
  refine te_pop (p2 := 1096) rfl rfl rfl ?_
  refine te_aload_n (p2 := 1097) rfl rfl rfl ?_
  refine tw_rd (p2 := 1102) 1 rfl rfl rfl rfl rfl rfl (by decide) hi (by omega) hb ?_
  refine cV_mI (p2 := 1105) (i := 148) rfl rfl rfl rfl I1 rfl rfl rfl (t_X12_mend (x1 := (l.getD (n + 1) 0)) I1) (by decide) (fun y2 h2 I2 g2 r2 => ?_)
  refine te_pop (p2 := 1106) rfl rfl rfl ?_
  refine te_goto rfl ?_
  exact kx h1 h2 I2 g1 g2
set_option maxRecDepth 10000 in
set_option maxHeartbeats 2000000 in
theorem lq_roomTold {l : List Int32} {n : Nat} {i : Int32} {h : im_H} {Q : Option Value → im_H → Prop} (hi : i.toInt = n) (hl : n + 6 ≤ l.length) (hb : l.length < 2147483648) (hI : tI h) (kx : ∀ h1 h2, tI h2 → fr F_X11_roomTold h h1 → fr F_X12_roomTold h1 h2 → EvP (im_K1 l) 20 mL_law (1753, lwL i, [], h2) Q) : EvP (im_K1 l) 20 mL_law (1109, lwL i, [], h) Q := by
  refine te_aload_n (p2 := 1110) rfl rfl rfl ?_
  refine tw_rd (p2 := 1115) 1 rfl rfl rfl rfl rfl rfl (by decide) hi (by omega) hb ?_
  refine tw_rd (p2 := 1120) 2 rfl rfl rfl rfl rfl rfl (by decide) hi (by omega) hb ?_
  refine cV_mI (p2 := 1123) (i := 0) rfl rfl rfl rfl hI rfl rfl rfl (t_X11_roomTold (x1 := (l.getD (n + 1) 0)) (x2 := (l.getD (n + 2) 0)) hI) (by decide) (fun y1 h1 I1 g1 r1 => ?_)
  refine te_pop (p2 := 1124) rfl rfl rfl ?_
  refine te_aload_n (p2 := 1125) rfl rfl rfl ?_
  refine tw_rd (p2 := 1130) 1 rfl rfl rfl rfl rfl rfl (by decide) hi (by omega) hb ?_
  refine tw_rd (p2 := 1135) 2 rfl rfl rfl rfl rfl rfl (by decide) hi (by omega) hb ?_
  refine cV_mI (p2 := 1138) (i := 148) rfl rfl rfl rfl I1 rfl rfl rfl (t_X12_roomTold (x1 := (l.getD (n + 1) 0)) (x2 := (l.getD (n + 2) 0)) I1) (by decide) (fun y2 h2 I2 g2 r2 => ?_)
  refine te_pop (p2 := 1139) rfl rfl rfl ?_
  refine te_goto rfl ?_
  exact kx h1 h2 I2 g1 g2
set_option maxRecDepth 10000 in
set_option maxHeartbeats 2000000 in
theorem lq_raid {l : List Int32} {n : Nat} {i : Int32} {h : im_H} {Q : Option Value → im_H → Prop} (hi : i.toInt = n) (hl : n + 6 ≤ l.length) (hb : l.length < 2147483648) (hI : tI h) (kx : ∀ h1 h2, tI h2 → fr F_X11_raid h h1 → fr F_X12_raid h1 h2 → EvP (im_K1 l) 20 mL_law (1753, lwL i, [], h2) Q) : EvP (im_K1 l) 20 mL_law (1142, lwL i, [], h) Q := by
  refine te_aload_n (p2 := 1143) rfl rfl rfl ?_
  refine tw_rd (p2 := 1148) 1 rfl rfl rfl rfl rfl rfl (by decide) hi (by omega) hb ?_
  refine tw_rd (p2 := 1153) 2 rfl rfl rfl rfl rfl rfl (by decide) hi (by omega) hb ?_
  refine tw_rd (p2 := 1158) 3 rfl rfl rfl rfl rfl rfl (by decide) hi (by omega) hb ?_
  refine tw_rd (p2 := 1163) 4 rfl rfl rfl rfl rfl rfl (by decide) hi (by omega) hb ?_
  refine cV_mI (p2 := 1166) (i := 0) rfl rfl rfl rfl hI rfl rfl rfl (t_X11_raid (x1 := (l.getD (n + 1) 0)) (x2 := (l.getD (n + 2) 0)) (x3 := (l.getD (n + 3) 0)) (x4 := (l.getD (n + 4) 0)) hI) (by decide) (fun y1 h1 I1 g1 r1 => ?_)
  refine te_pop (p2 := 1167) rfl rfl rfl ?_
  refine te_aload_n (p2 := 1168) rfl rfl rfl ?_
  refine tw_rd (p2 := 1173) 1 rfl rfl rfl rfl rfl rfl (by decide) hi (by omega) hb ?_
  refine tw_rd (p2 := 1178) 2 rfl rfl rfl rfl rfl rfl (by decide) hi (by omega) hb ?_
  refine tw_rd (p2 := 1183) 3 rfl rfl rfl rfl rfl rfl (by decide) hi (by omega) hb ?_
  refine tw_rd (p2 := 1188) 4 rfl rfl rfl rfl rfl rfl (by decide) hi (by omega) hb ?_
  refine cV_mI (p2 := 1191) (i := 148) rfl rfl rfl rfl I1 rfl rfl rfl (t_X12_raid (x1 := (l.getD (n + 1) 0)) (x2 := (l.getD (n + 2) 0)) (x3 := (l.getD (n + 3) 0)) (x4 := (l.getD (n + 4) 0)) I1) (by decide) (fun y2 h2 I2 g2 r2 => ?_)
  refine te_pop (p2 := 1192) rfl rfl rfl ?_
  refine te_goto rfl ?_
  exact kx h1 h2 I2 g1 g2
set_option maxRecDepth 10000 in
set_option maxHeartbeats 2000000 in
theorem lq_probe {l : List Int32} {n : Nat} {i : Int32} {h : im_H} {Q : Option Value → im_H → Prop} (hi : i.toInt = n) (hl : n + 6 ≤ l.length) (hb : l.length < 2147483648) (hI : tI h) (kx : ∀ h1 h2, tI h2 → fr F_X11_probe h h1 → fr F_X12_probe h1 h2 → EvP (im_K1 l) 20 mL_law (1753, lwL i, [], h2) Q) : EvP (im_K1 l) 20 mL_law (1195, lwL i, [], h) Q := by
  refine te_aload_n (p2 := 1196) rfl rfl rfl ?_
  refine tw_rd (p2 := 1201) 1 rfl rfl rfl rfl rfl rfl (by decide) hi (by omega) hb ?_
  refine tw_rd (p2 := 1206) 2 rfl rfl rfl rfl rfl rfl (by decide) hi (by omega) hb ?_
  refine cV_mI (p2 := 1209) (i := 0) rfl rfl rfl rfl hI rfl rfl rfl (t_X11_probe (x1 := (l.getD (n + 1) 0)) (x2 := (l.getD (n + 2) 0)) hI) (by decide) (fun y1 h1 I1 g1 r1 => ?_)
  refine te_pop (p2 := 1210) rfl rfl rfl ?_
  refine te_aload_n (p2 := 1211) rfl rfl rfl ?_
  refine tw_rd (p2 := 1216) 1 rfl rfl rfl rfl rfl rfl (by decide) hi (by omega) hb ?_
  refine tw_rd (p2 := 1221) 2 rfl rfl rfl rfl rfl rfl (by decide) hi (by omega) hb ?_
  refine cV_mI (p2 := 1224) (i := 148) rfl rfl rfl rfl I1 rfl rfl rfl (t_X12_probe (x1 := (l.getD (n + 1) 0)) (x2 := (l.getD (n + 2) 0)) I1) (by decide) (fun y2 h2 I2 g2 r2 => ?_)
  refine te_pop (p2 := 1225) rfl rfl rfl ?_
  refine te_goto rfl ?_
  exact kx h1 h2 I2 g1 g2
set_option maxRecDepth 10000 in
set_option maxHeartbeats 2000000 in
theorem lq_likely {l : List Int32} {n : Nat} {i : Int32} {h : im_H} {Q : Option Value → im_H → Prop} (hi : i.toInt = n) (hl : n + 6 ≤ l.length) (hb : l.length < 2147483648) (hI : tI h) (kx : ∀ h1 h2, tI h2 → fr F_X11_likely h h1 → fr F_X12_likely h1 h2 → EvP (im_K1 l) 20 mL_law (1753, lwL i, [], h2) Q) : EvP (im_K1 l) 20 mL_law (1228, lwL i, [], h) Q := by
  refine te_aload_n (p2 := 1229) rfl rfl rfl ?_
  refine tw_rd (p2 := 1234) 1 rfl rfl rfl rfl rfl rfl (by decide) hi (by omega) hb ?_
  refine tw_rd (p2 := 1239) 2 rfl rfl rfl rfl rfl rfl (by decide) hi (by omega) hb ?_
  refine cV_mL (p2 := 1242) (i := 0) rfl rfl rfl rfl hI rfl rfl rfl (t_X11_likely (x1 := (l.getD (n + 1) 0)) (x2 := (l.getD (n + 2) 0)) hI) (by decide) (fun y1 h1 I1 g1 => ?_)
  refine te_pop2 (p2 := 1243) rfl rfl rfl ?_
  refine te_aload_n (p2 := 1244) rfl rfl rfl ?_
  refine tw_rd (p2 := 1249) 1 rfl rfl rfl rfl rfl rfl (by decide) hi (by omega) hb ?_
  refine tw_rd (p2 := 1254) 2 rfl rfl rfl rfl rfl rfl (by decide) hi (by omega) hb ?_
  refine cV_mL (p2 := 1257) (i := 148) rfl rfl rfl rfl I1 rfl rfl rfl (t_X12_likely (x1 := (l.getD (n + 1) 0)) (x2 := (l.getD (n + 2) 0)) I1) (by decide) (fun y2 h2 I2 g2 => ?_)
  refine te_pop2 (p2 := 1258) rfl rfl rfl ?_
  refine te_goto rfl ?_
  exact kx h1 h2 I2 g1 g2
set_option maxRecDepth 10000 in
set_option maxHeartbeats 2000000 in
theorem lq_next {l : List Int32} {n : Nat} {i : Int32} {h : im_H} {Q : Option Value → im_H → Prop} (hi : i.toInt = n) (hl : n + 6 ≤ l.length) (hb : l.length < 2147483648) (hI : tI h) (kx : ∀ h1 h2, tI h2 → fr F_X11_next h h1 → fr F_X12_next h1 h2 → EvP (im_K1 l) 20 mL_law (1753, lwL i, [], h2) Q) : EvP (im_K1 l) 20 mL_law (1261, lwL i, [], h) Q := by
  refine te_aload_n (p2 := 1262) rfl rfl rfl ?_
  refine cV_mI (p2 := 1265) (i := 0) rfl rfl rfl rfl hI rfl rfl rfl (t_X11_next  hI) (by decide) (fun y1 h1 I1 g1 r1 => ?_)
  refine te_pop (p2 := 1266) rfl rfl rfl ?_
  refine te_aload_n (p2 := 1267) rfl rfl rfl ?_
  refine cV_mI (p2 := 1270) (i := 148) rfl rfl rfl rfl I1 rfl rfl rfl (t_X12_next  I1) (by decide) (fun y2 h2 I2 g2 r2 => ?_)
  refine te_pop (p2 := 1271) rfl rfl rfl ?_
  refine te_goto rfl ?_
  exact kx h1 h2 I2 g1 g2
set_option maxRecDepth 10000 in
set_option maxHeartbeats 2000000 in
theorem lq_paper {l : List Int32} {n : Nat} {i : Int32} {h : im_H} {Q : Option Value → im_H → Prop} (hi : i.toInt = n) (hl : n + 6 ≤ l.length) (hb : l.length < 2147483648) (hI : tI h) (kx : ∀ h1 h2, tI h2 → fr F_X11_paper h h1 → fr F_X12_paper h1 h2 → EvP (im_K1 l) 20 mL_law (1753, lwL i, [], h2) Q) : EvP (im_K1 l) 20 mL_law (1274, lwL i, [], h) Q := by
  refine te_aload_n (p2 := 1275) rfl rfl rfl ?_
  refine tw_rd (p2 := 1280) 1 rfl rfl rfl rfl rfl rfl (by decide) hi (by omega) hb ?_
  refine tw_rd (p2 := 1285) 2 rfl rfl rfl rfl rfl rfl (by decide) hi (by omega) hb ?_
  refine tw_rd (p2 := 1290) 3 rfl rfl rfl rfl rfl rfl (by decide) hi (by omega) hb ?_
  refine cV_mI (p2 := 1293) (i := 0) rfl rfl rfl rfl hI rfl rfl rfl (t_X11_paper (x1 := (l.getD (n + 1) 0)) (x2 := (l.getD (n + 2) 0)) (x3 := (l.getD (n + 3) 0)) hI) (by decide) (fun y1 h1 I1 g1 r1 => ?_)
  refine te_pop (p2 := 1294) rfl rfl rfl ?_
  refine te_aload_n (p2 := 1295) rfl rfl rfl ?_
  refine tw_rd (p2 := 1300) 1 rfl rfl rfl rfl rfl rfl (by decide) hi (by omega) hb ?_
  refine tw_rd (p2 := 1305) 2 rfl rfl rfl rfl rfl rfl (by decide) hi (by omega) hb ?_
  refine tw_rd (p2 := 1310) 3 rfl rfl rfl rfl rfl rfl (by decide) hi (by omega) hb ?_
  refine cV_mI (p2 := 1313) (i := 148) rfl rfl rfl rfl I1 rfl rfl rfl (t_X12_paper (x1 := (l.getD (n + 1) 0)) (x2 := (l.getD (n + 2) 0)) (x3 := (l.getD (n + 3) 0)) I1) (by decide) (fun y2 h2 I2 g2 r2 => ?_)
  refine te_pop (p2 := 1314) rfl rfl rfl ?_
  refine te_goto rfl ?_
  exact kx h1 h2 I2 g1 g2
set_option maxRecDepth 10000 in
set_option maxHeartbeats 2000000 in
theorem lq_burn {l : List Int32} {n : Nat} {i : Int32} {h : im_H} {Q : Option Value → im_H → Prop} (hi : i.toInt = n) (hl : n + 6 ≤ l.length) (hb : l.length < 2147483648) (hI : tI h) (kx : ∀ h1 h2, tI h2 → fr F_X11_burn h h1 → fr F_X12_burn h1 h2 → EvP (im_K1 l) 20 mL_law (1753, lwL i, [], h2) Q) : EvP (im_K1 l) 20 mL_law (1317, lwL i, [], h) Q := by
  refine te_aload_n (p2 := 1318) rfl rfl rfl ?_
  refine tw_rd (p2 := 1323) 1 rfl rfl rfl rfl rfl rfl (by decide) hi (by omega) hb ?_
  refine cV_mI (p2 := 1326) (i := 0) rfl rfl rfl rfl hI rfl rfl rfl (t_X11_burn (x1 := (l.getD (n + 1) 0)) hI) (by decide) (fun y1 h1 I1 g1 r1 => ?_)
  refine te_pop (p2 := 1327) rfl rfl rfl ?_
  refine te_aload_n (p2 := 1328) rfl rfl rfl ?_
  refine tw_rd (p2 := 1333) 1 rfl rfl rfl rfl rfl rfl (by decide) hi (by omega) hb ?_
  refine cV_mI (p2 := 1336) (i := 148) rfl rfl rfl rfl I1 rfl rfl rfl (t_X12_burn (x1 := (l.getD (n + 1) 0)) I1) (by decide) (fun y2 h2 I2 g2 r2 => ?_)
  refine te_pop (p2 := 1337) rfl rfl rfl ?_
  refine te_goto rfl ?_
  exact kx h1 h2 I2 g1 g2
set_option maxRecDepth 10000 in
set_option maxHeartbeats 2000000 in
theorem lq_owner {l : List Int32} {n : Nat} {i : Int32} {h : im_H} {Q : Option Value → im_H → Prop} (hi : i.toInt = n) (hl : n + 6 ≤ l.length) (hb : l.length < 2147483648) (hI : tI h) (kx : ∀ h1 h2, tI h2 → fr F_X11_owner h h1 → fr F_X12_owner h1 h2 → EvP (im_K1 l) 20 mL_law (1753, lwL i, [], h2) Q) : EvP (im_K1 l) 20 mL_law (1340, lwL i, [], h) Q := by
  refine te_aload_n (p2 := 1341) rfl rfl rfl ?_
  refine tw_rd (p2 := 1346) 1 rfl rfl rfl rfl rfl rfl (by decide) hi (by omega) hb ?_
  refine tw_rd (p2 := 1351) 2 rfl rfl rfl rfl rfl rfl (by decide) hi (by omega) hb ?_
  refine tw_rd (p2 := 1356) 3 rfl rfl rfl rfl rfl rfl (by decide) hi (by omega) hb ?_
  refine cV_mI (p2 := 1359) (i := 0) rfl rfl rfl rfl hI rfl rfl rfl (t_X11_owner (x1 := (l.getD (n + 1) 0)) (x2 := (l.getD (n + 2) 0)) (x3 := (l.getD (n + 3) 0)) hI) (by decide) (fun y1 h1 I1 g1 r1 => ?_)
  refine te_pop (p2 := 1360) rfl rfl rfl ?_
  refine te_aload_n (p2 := 1361) rfl rfl rfl ?_
  refine tw_rd (p2 := 1366) 1 rfl rfl rfl rfl rfl rfl (by decide) hi (by omega) hb ?_
  refine tw_rd (p2 := 1371) 2 rfl rfl rfl rfl rfl rfl (by decide) hi (by omega) hb ?_
  refine tw_rd (p2 := 1376) 3 rfl rfl rfl rfl rfl rfl (by decide) hi (by omega) hb ?_
  refine cV_mI (p2 := 1379) (i := 148) rfl rfl rfl rfl I1 rfl rfl rfl (t_X12_owner (x1 := (l.getD (n + 1) 0)) (x2 := (l.getD (n + 2) 0)) (x3 := (l.getD (n + 3) 0)) I1) (by decide) (fun y2 h2 I2 g2 r2 => ?_)
  refine te_pop (p2 := 1380) rfl rfl rfl ?_
  refine te_goto rfl ?_
  exact kx h1 h2 I2 g1 g2
set_option maxRecDepth 10000 in
set_option maxHeartbeats 2000000 in
theorem lq_heirs {l : List Int32} {n : Nat} {i : Int32} {h : im_H} {Q : Option Value → im_H → Prop} (hi : i.toInt = n) (hl : n + 6 ≤ l.length) (hb : l.length < 2147483648) (hI : tI h) (kx : ∀ h1 h2, tI h2 → fr F_X11_heirs h h1 → fr F_X12_heirs h1 h2 → EvP (im_K1 l) 20 mL_law (1753, lwL i, [], h2) Q) : EvP (im_K1 l) 20 mL_law (1383, lwL i, [], h) Q := by
  refine te_aload_n (p2 := 1384) rfl rfl rfl ?_
  refine tw_rd (p2 := 1389) 1 rfl rfl rfl rfl rfl rfl (by decide) hi (by omega) hb ?_
  refine tw_rd (p2 := 1394) 2 rfl rfl rfl rfl rfl rfl (by decide) hi (by omega) hb ?_
  refine tw_rd (p2 := 1399) 3 rfl rfl rfl rfl rfl rfl (by decide) hi (by omega) hb ?_
  refine cV_mI (p2 := 1402) (i := 0) rfl rfl rfl rfl hI rfl rfl rfl (t_X11_heirs (x1 := (l.getD (n + 1) 0)) (x2 := (l.getD (n + 2) 0)) (x3 := (l.getD (n + 3) 0)) hI) (by decide) (fun y1 h1 I1 g1 r1 => ?_)
  refine te_pop (p2 := 1403) rfl rfl rfl ?_
  refine te_aload_n (p2 := 1404) rfl rfl rfl ?_
  refine tw_rd (p2 := 1409) 1 rfl rfl rfl rfl rfl rfl (by decide) hi (by omega) hb ?_
  refine tw_rd (p2 := 1414) 2 rfl rfl rfl rfl rfl rfl (by decide) hi (by omega) hb ?_
  refine tw_rd (p2 := 1419) 3 rfl rfl rfl rfl rfl rfl (by decide) hi (by omega) hb ?_
  refine cV_mI (p2 := 1422) (i := 148) rfl rfl rfl rfl I1 rfl rfl rfl (t_X12_heirs (x1 := (l.getD (n + 1) 0)) (x2 := (l.getD (n + 2) 0)) (x3 := (l.getD (n + 3) 0)) I1) (by decide) (fun y2 h2 I2 g2 r2 => ?_)
  refine te_pop (p2 := 1423) rfl rfl rfl ?_
  refine te_goto rfl ?_
  exact kx h1 h2 I2 g1 g2
set_option maxRecDepth 10000 in
set_option maxHeartbeats 2000000 in
theorem lq_beside {l : List Int32} {n : Nat} {i : Int32} {h : im_H} {Q : Option Value → im_H → Prop} (hi : i.toInt = n) (hl : n + 6 ≤ l.length) (hb : l.length < 2147483648) (hI : tI h) (kx : ∀ h1 h2, tI h2 → fr F_X11_beside h h1 → fr F_X12_beside h1 h2 → EvP (im_K1 l) 20 mL_law (1753, lwL i, [], h2) Q) : EvP (im_K1 l) 20 mL_law (1426, lwL i, [], h) Q := by
  refine te_aload_n (p2 := 1427) rfl rfl rfl ?_
  refine tw_rd (p2 := 1432) 1 rfl rfl rfl rfl rfl rfl (by decide) hi (by omega) hb ?_
  refine tw_rd (p2 := 1437) 2 rfl rfl rfl rfl rfl rfl (by decide) hi (by omega) hb ?_
  refine cV_mL (p2 := 1440) (i := 0) rfl rfl rfl rfl hI rfl rfl rfl (t_X11_beside (x1 := (l.getD (n + 1) 0)) (x2 := (l.getD (n + 2) 0)) hI) (by decide) (fun y1 h1 I1 g1 => ?_)
  refine te_pop2 (p2 := 1441) rfl rfl rfl ?_
  refine te_aload_n (p2 := 1442) rfl rfl rfl ?_
  refine tw_rd (p2 := 1447) 1 rfl rfl rfl rfl rfl rfl (by decide) hi (by omega) hb ?_
  refine tw_rd (p2 := 1452) 2 rfl rfl rfl rfl rfl rfl (by decide) hi (by omega) hb ?_
  refine cV_mL (p2 := 1455) (i := 148) rfl rfl rfl rfl I1 rfl rfl rfl (t_X12_beside (x1 := (l.getD (n + 1) 0)) (x2 := (l.getD (n + 2) 0)) I1) (by decide) (fun y2 h2 I2 g2 => ?_)
  refine te_pop2 (p2 := 1456) rfl rfl rfl ?_
  refine te_goto rfl ?_
  exact kx h1 h2 I2 g1 g2
set_option maxRecDepth 10000 in
set_option maxHeartbeats 2000000 in
theorem lq_clear {l : List Int32} {n : Nat} {i : Int32} {h : im_H} {Q : Option Value → im_H → Prop} (hi : i.toInt = n) (hl : n + 6 ≤ l.length) (hb : l.length < 2147483648) (hI : tI h) (kx : ∀ h1 h2, tI h2 → fr F_X11_clear h h1 → fr F_X12_clear h1 h2 → EvP (im_K1 l) 20 mL_law (1753, lwL i, [], h2) Q) : EvP (im_K1 l) 20 mL_law (1459, lwL i, [], h) Q := by
  refine te_aload_n (p2 := 1460) rfl rfl rfl ?_
  refine tw_rd (p2 := 1465) 1 rfl rfl rfl rfl rfl rfl (by decide) hi (by omega) hb ?_
  refine tw_rd (p2 := 1470) 2 rfl rfl rfl rfl rfl rfl (by decide) hi (by omega) hb ?_
  refine cV_mI (p2 := 1473) (i := 0) rfl rfl rfl rfl hI rfl rfl rfl (t_X11_clear (x1 := (l.getD (n + 1) 0)) (x2 := (l.getD (n + 2) 0)) hI) (by decide) (fun y1 h1 I1 g1 r1 => ?_)
  refine te_pop (p2 := 1474) rfl rfl rfl ?_
  refine te_aload_n (p2 := 1475) rfl rfl rfl ?_
  refine tw_rd (p2 := 1480) 1 rfl rfl rfl rfl rfl rfl (by decide) hi (by omega) hb ?_
  refine tw_rd (p2 := 1485) 2 rfl rfl rfl rfl rfl rfl (by decide) hi (by omega) hb ?_
  refine cV_mI (p2 := 1488) (i := 148) rfl rfl rfl rfl I1 rfl rfl rfl (t_X12_clear (x1 := (l.getD (n + 1) 0)) (x2 := (l.getD (n + 2) 0)) I1) (by decide) (fun y2 h2 I2 g2 r2 => ?_)
  refine te_pop (p2 := 1489) rfl rfl rfl ?_
  refine te_goto rfl ?_
  exact kx h1 h2 I2 g1 g2
set_option maxRecDepth 10000 in
set_option maxHeartbeats 2000000 in
theorem lq_image {l : List Int32} {n : Nat} {i : Int32} {h : im_H} {Q : Option Value → im_H → Prop} (hi : i.toInt = n) (hl : n + 6 ≤ l.length) (hb : l.length < 2147483648) (hI : tI h) (kx : ∀ h1 h2, tI h2 → fr F_X11_image h h1 → fr F_X12_image h1 h2 → EvP (im_K1 l) 20 mL_law (1753, lwL i, [], h2) Q) : EvP (im_K1 l) 20 mL_law (1492, lwL i, [], h) Q := by
  refine te_aload_n (p2 := 1493) rfl rfl rfl ?_
  refine cV_mI (p2 := 1496) (i := 0) rfl rfl rfl rfl hI rfl rfl rfl (t_X11_image  hI) (by decide) (fun y1 h1 I1 g1 r1 => ?_)
  refine te_pop (p2 := 1497) rfl rfl rfl ?_
  refine te_aload_n (p2 := 1498) rfl rfl rfl ?_
  refine cV_mI (p2 := 1501) (i := 148) rfl rfl rfl rfl I1 rfl rfl rfl (t_X12_image  I1) (by decide) (fun y2 h2 I2 g2 r2 => ?_)
  refine te_pop (p2 := 1502) rfl rfl rfl ?_
  refine te_goto rfl ?_
  exact kx h1 h2 I2 g1 g2
set_option maxRecDepth 10000 in
set_option maxHeartbeats 2000000 in
theorem lq_back {l : List Int32} {n : Nat} {i : Int32} {h : im_H} {Q : Option Value → im_H → Prop} (hi : i.toInt = n) (hl : n + 6 ≤ l.length) (hb : l.length < 2147483648) (hI : tI h) (kx : ∀ h1 h2, tI h2 → fr F_X11_back h h1 → fr F_X12_back h1 h2 → EvP (im_K1 l) 20 mL_law (1753, lwL i, [], h2) Q) : EvP (im_K1 l) 20 mL_law (1505, lwL i, [], h) Q := by
  refine te_aload_n (p2 := 1506) rfl rfl rfl ?_
  refine cV_mI (p2 := 1509) (i := 0) rfl rfl rfl rfl hI rfl rfl rfl (t_X11_back  hI) (by decide) (fun y1 h1 I1 g1 r1 => ?_)
  refine te_pop (p2 := 1510) rfl rfl rfl ?_
  refine te_aload_n (p2 := 1511) rfl rfl rfl ?_
  refine cV_mI (p2 := 1514) (i := 148) rfl rfl rfl rfl I1 rfl rfl rfl (t_X12_back  I1) (by decide) (fun y2 h2 I2 g2 r2 => ?_)
  refine te_pop (p2 := 1515) rfl rfl rfl ?_
  refine te_goto rfl ?_
  exact kx h1 h2 I2 g1 g2
set_option maxRecDepth 10000 in
set_option maxHeartbeats 2000000 in
theorem lq_sheet {l : List Int32} {n : Nat} {i : Int32} {h : im_H} {Q : Option Value → im_H → Prop} (hi : i.toInt = n) (hl : n + 6 ≤ l.length) (hb : l.length < 2147483648) (hI : tI h) (kx : ∀ h1 h2, tI h2 → fr F_X11_sheet h h1 → fr F_X12_sheet h1 h2 → EvP (im_K1 l) 20 mL_law (1753, lwL i, [], h2) Q) : EvP (im_K1 l) 20 mL_law (1518, lwL i, [], h) Q := by
  refine te_aload_n (p2 := 1519) rfl rfl rfl ?_
  refine tw_rd (p2 := 1524) 1 rfl rfl rfl rfl rfl rfl (by decide) hi (by omega) hb ?_
  refine tw_rd (p2 := 1529) 2 rfl rfl rfl rfl rfl rfl (by decide) hi (by omega) hb ?_
  refine tw_rd (p2 := 1534) 3 rfl rfl rfl rfl rfl rfl (by decide) hi (by omega) hb ?_
  refine cV_mI (p2 := 1537) (i := 0) rfl rfl rfl rfl hI rfl rfl rfl (t_X11_sheet (x1 := (l.getD (n + 1) 0)) (x2 := (l.getD (n + 2) 0)) (x3 := (l.getD (n + 3) 0)) hI) (by decide) (fun y1 h1 I1 g1 r1 => ?_)
  refine te_pop (p2 := 1538) rfl rfl rfl ?_
  refine te_aload_n (p2 := 1539) rfl rfl rfl ?_
  refine tw_rd (p2 := 1544) 1 rfl rfl rfl rfl rfl rfl (by decide) hi (by omega) hb ?_
  refine tw_rd (p2 := 1549) 2 rfl rfl rfl rfl rfl rfl (by decide) hi (by omega) hb ?_
  refine tw_rd (p2 := 1554) 3 rfl rfl rfl rfl rfl rfl (by decide) hi (by omega) hb ?_
  refine cV_mI (p2 := 1557) (i := 148) rfl rfl rfl rfl I1 rfl rfl rfl (t_X12_sheet (x1 := (l.getD (n + 1) 0)) (x2 := (l.getD (n + 2) 0)) (x3 := (l.getD (n + 3) 0)) I1) (by decide) (fun y2 h2 I2 g2 r2 => ?_)
  refine te_pop (p2 := 1558) rfl rfl rfl ?_
  refine te_goto rfl ?_
  exact kx h1 h2 I2 g1 g2
set_option maxRecDepth 10000 in
set_option maxHeartbeats 2000000 in
theorem lq_cell {l : List Int32} {n : Nat} {i : Int32} {h : im_H} {Q : Option Value → im_H → Prop} (hi : i.toInt = n) (hl : n + 6 ≤ l.length) (hb : l.length < 2147483648) (hI : tI h) (kx : ∀ h1 h2, tI h2 → fr F_X11_cell h h1 → fr F_X12_cell h1 h2 → EvP (im_K1 l) 20 mL_law (1753, lwL i, [], h2) Q) : EvP (im_K1 l) 20 mL_law (1561, lwL i, [], h) Q := by
  refine te_aload_n (p2 := 1562) rfl rfl rfl ?_
  refine tw_rd (p2 := 1567) 1 rfl rfl rfl rfl rfl rfl (by decide) hi (by omega) hb ?_
  refine tw_rd (p2 := 1572) 2 rfl rfl rfl rfl rfl rfl (by decide) hi (by omega) hb ?_
  refine tw_rd (p2 := 1577) 3 rfl rfl rfl rfl rfl rfl (by decide) hi (by omega) hb ?_
  refine cV_mI (p2 := 1580) (i := 0) rfl rfl rfl rfl hI rfl rfl rfl (t_X11_cell (x1 := (l.getD (n + 1) 0)) (x2 := (l.getD (n + 2) 0)) (x3 := (l.getD (n + 3) 0)) hI) (by decide) (fun y1 h1 I1 g1 r1 => ?_)
  refine te_pop (p2 := 1581) rfl rfl rfl ?_
  refine te_aload_n (p2 := 1582) rfl rfl rfl ?_
  refine tw_rd (p2 := 1587) 1 rfl rfl rfl rfl rfl rfl (by decide) hi (by omega) hb ?_
  refine tw_rd (p2 := 1592) 2 rfl rfl rfl rfl rfl rfl (by decide) hi (by omega) hb ?_
  refine tw_rd (p2 := 1597) 3 rfl rfl rfl rfl rfl rfl (by decide) hi (by omega) hb ?_
  refine cV_mI (p2 := 1600) (i := 148) rfl rfl rfl rfl I1 rfl rfl rfl (t_X12_cell (x1 := (l.getD (n + 1) 0)) (x2 := (l.getD (n + 2) 0)) (x3 := (l.getD (n + 3) 0)) I1) (by decide) (fun y2 h2 I2 g2 r2 => ?_)
  refine te_pop (p2 := 1601) rfl rfl rfl ?_
  refine te_goto rfl ?_
  exact kx h1 h2 I2 g1 g2
set_option maxRecDepth 10000 in
set_option maxHeartbeats 2000000 in
theorem lq_copy {l : List Int32} {n : Nat} {i : Int32} {h : im_H} {Q : Option Value → im_H → Prop} (hi : i.toInt = n) (hl : n + 6 ≤ l.length) (hb : l.length < 2147483648) (hI : tI h) (kx : ∀ h1 h2, tI h2 → fr F_X11_copy h h1 → fr F_X12_copy h1 h2 → EvP (im_K1 l) 20 mL_law (1753, lwL i, [], h2) Q) : EvP (im_K1 l) 20 mL_law (1604, lwL i, [], h) Q := by
  refine te_aload_n (p2 := 1605) rfl rfl rfl ?_
  refine tw_rd (p2 := 1610) 1 rfl rfl rfl rfl rfl rfl (by decide) hi (by omega) hb ?_
  refine tw_rd (p2 := 1615) 2 rfl rfl rfl rfl rfl rfl (by decide) hi (by omega) hb ?_
  refine tw_rd (p2 := 1620) 3 rfl rfl rfl rfl rfl rfl (by decide) hi (by omega) hb ?_
  refine tw_rd (p2 := 1625) 4 rfl rfl rfl rfl rfl rfl (by decide) hi (by omega) hb ?_
  refine tw_rd (p2 := 1630) 5 rfl rfl rfl rfl rfl rfl (by decide) hi (by omega) hb ?_
  refine cV_mI (p2 := 1633) (i := 0) rfl rfl rfl rfl hI rfl rfl rfl (t_X11_copy (x1 := (l.getD (n + 1) 0)) (x2 := (l.getD (n + 2) 0)) (x3 := (l.getD (n + 3) 0)) (x4 := (l.getD (n + 4) 0)) (x5 := (l.getD (n + 5) 0)) hI) (by decide) (fun y1 h1 I1 g1 r1 => ?_)
  refine te_pop (p2 := 1634) rfl rfl rfl ?_
  refine te_aload_n (p2 := 1635) rfl rfl rfl ?_
  refine tw_rd (p2 := 1640) 1 rfl rfl rfl rfl rfl rfl (by decide) hi (by omega) hb ?_
  refine tw_rd (p2 := 1645) 2 rfl rfl rfl rfl rfl rfl (by decide) hi (by omega) hb ?_
  refine tw_rd (p2 := 1650) 3 rfl rfl rfl rfl rfl rfl (by decide) hi (by omega) hb ?_
  refine tw_rd (p2 := 1655) 4 rfl rfl rfl rfl rfl rfl (by decide) hi (by omega) hb ?_
  refine tw_rd (p2 := 1660) 5 rfl rfl rfl rfl rfl rfl (by decide) hi (by omega) hb ?_
  refine cV_mI (p2 := 1663) (i := 148) rfl rfl rfl rfl I1 rfl rfl rfl (t_X12_copy (x1 := (l.getD (n + 1) 0)) (x2 := (l.getD (n + 2) 0)) (x3 := (l.getD (n + 3) 0)) (x4 := (l.getD (n + 4) 0)) (x5 := (l.getD (n + 5) 0)) I1) (by decide) (fun y2 h2 I2 g2 r2 => ?_)
  refine te_pop (p2 := 1664) rfl rfl rfl ?_
  refine te_goto rfl ?_
  exact kx h1 h2 I2 g1 g2
set_option maxRecDepth 10000 in
set_option maxHeartbeats 2000000 in
theorem lq_people {l : List Int32} {n : Nat} {i : Int32} {h : im_H} {Q : Option Value → im_H → Prop} (hi : i.toInt = n) (hl : n + 6 ≤ l.length) (hb : l.length < 2147483648) (hI : tI h) (kx : ∀ h1 h2, tI h2 → fr F_X11_people h h1 → fr F_X12_people h1 h2 → EvP (im_K1 l) 20 mL_law (1753, lwL i, [], h2) Q) : EvP (im_K1 l) 20 mL_law (1667, lwL i, [], h) Q := by
  refine te_aload_n (p2 := 1668) rfl rfl rfl ?_
  refine tw_rd (p2 := 1673) 1 rfl rfl rfl rfl rfl rfl (by decide) hi (by omega) hb ?_
  refine tw_rd (p2 := 1678) 2 rfl rfl rfl rfl rfl rfl (by decide) hi (by omega) hb ?_
  refine tw_rd (p2 := 1683) 3 rfl rfl rfl rfl rfl rfl (by decide) hi (by omega) hb ?_
  refine tw_rd (p2 := 1688) 4 rfl rfl rfl rfl rfl rfl (by decide) hi (by omega) hb ?_
  refine cV_mI (p2 := 1691) (i := 0) rfl rfl rfl rfl hI rfl rfl rfl (t_X11_people (x1 := (l.getD (n + 1) 0)) (x2 := (l.getD (n + 2) 0)) (x3 := (l.getD (n + 3) 0)) (x4 := (l.getD (n + 4) 0)) hI) (by decide) (fun y1 h1 I1 g1 r1 => ?_)
  refine te_pop (p2 := 1692) rfl rfl rfl ?_
  refine te_aload_n (p2 := 1693) rfl rfl rfl ?_
  refine tw_rd (p2 := 1698) 1 rfl rfl rfl rfl rfl rfl (by decide) hi (by omega) hb ?_
  refine tw_rd (p2 := 1703) 2 rfl rfl rfl rfl rfl rfl (by decide) hi (by omega) hb ?_
  refine tw_rd (p2 := 1708) 3 rfl rfl rfl rfl rfl rfl (by decide) hi (by omega) hb ?_
  refine tw_rd (p2 := 1713) 4 rfl rfl rfl rfl rfl rfl (by decide) hi (by omega) hb ?_
  refine cV_mI (p2 := 1716) (i := 148) rfl rfl rfl rfl I1 rfl rfl rfl (t_X12_people (x1 := (l.getD (n + 1) 0)) (x2 := (l.getD (n + 2) 0)) (x3 := (l.getD (n + 3) 0)) (x4 := (l.getD (n + 4) 0)) I1) (by decide) (fun y2 h2 I2 g2 r2 => ?_)
  refine te_pop (p2 := 1717) rfl rfl rfl ?_
  refine te_goto rfl ?_
  exact kx h1 h2 I2 g1 g2
set_option maxRecDepth 10000 in
set_option maxHeartbeats 2000000 in
theorem lq_taken {l : List Int32} {n : Nat} {i : Int32} {h : im_H} {Q : Option Value → im_H → Prop} (hi : i.toInt = n) (hl : n + 6 ≤ l.length) (hb : l.length < 2147483648) (hI : tI h) (kx : ∀ h1 h2, tI h2 → fr F_X11_taken h h1 → fr F_X12_taken h1 h2 → EvP (im_K1 l) 20 mL_law (1753, lwL i, [], h2) Q) : EvP (im_K1 l) 20 mL_law (1720, lwL i, [], h) Q := by
  refine te_aload_n (p2 := 1721) rfl rfl rfl ?_
  refine tw_rd (p2 := 1726) 1 rfl rfl rfl rfl rfl rfl (by decide) hi (by omega) hb ?_
  refine tw_rd (p2 := 1731) 2 rfl rfl rfl rfl rfl rfl (by decide) hi (by omega) hb ?_
  refine cV_mI (p2 := 1734) (i := 0) rfl rfl rfl rfl hI rfl rfl rfl (t_X11_taken (x1 := (l.getD (n + 1) 0)) (x2 := (l.getD (n + 2) 0)) hI) (by decide) (fun y1 h1 I1 g1 r1 => ?_)
  refine te_pop (p2 := 1735) rfl rfl rfl ?_
  refine te_aload_n (p2 := 1736) rfl rfl rfl ?_
  refine tw_rd (p2 := 1741) 1 rfl rfl rfl rfl rfl rfl (by decide) hi (by omega) hb ?_
  refine tw_rd (p2 := 1746) 2 rfl rfl rfl rfl rfl rfl (by decide) hi (by omega) hb ?_
  refine cV_mI (p2 := 1749) (i := 148) rfl rfl rfl rfl I1 rfl rfl rfl (t_X12_taken (x1 := (l.getD (n + 1) 0)) (x2 := (l.getD (n + 2) 0)) I1) (by decide) (fun y2 h2 I2 g2 r2 => ?_)
  refine te_pop (p2 := 1750) rfl rfl rfl ?_
  refine te_goto rfl ?_
  exact kx h1 h2 I2 g1 g2
