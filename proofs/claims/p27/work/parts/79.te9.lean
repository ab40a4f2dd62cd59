def R_A (h : im_H) : Prop := cX h = cM h
theorem R_A_fr {F : List (Nat × Nat × Nat)} {h h2 : im_H} (hr : R_A h) (g : fr F h h2) (a : ∀ q ∈ F, 22 < q.1 ∨ q.1 = 11 ∨ q.1 = 0 ∨ (q.1 = 1 ∧ 9 < q.2.1)) (b : ∀ q ∈ F, q.1 < 148 ∨ q.1 = 149 ∨ q.1 = 150 ∨ q.1 = 151 ∨ 168 < q.1 ∨ (q.1 = 148 ∧ (21 < q.2.1 ∨ q.2.2 < 9))) : R_A h2 := (xc_fr2 g a).trans (hr.trans (mc_fr2 g b).symm)
def R_Y (h : im_H) : Prop := absX h 23 = absM h
theorem R_Y_fr {F : List (Nat × Nat × Nat)} {h h2 : im_H} (hr : R_Y h) (g : fr F h h2) (a : ∀ q ∈ F, q.1 < 23 ∨ 23 + 14 ≤ q.1) (b : ∀ q ∈ F, q.1 ≠ 149) : R_Y h2 := (absX_fr g a).trans (hr.trans (absM_fr g b).symm)
def R_w (h : im_H) : Prop := wX h 23 = wM h 149
theorem R_w_fr {F : List (Nat × Nat × Nat)} {h h2 : im_H} (hr : R_w h) (g : fr F h h2) (a : ∀ q ∈ F, q.1 ≠ 23 + 10) (b : ∀ q ∈ F, q.1 ≠ 149 ∨ q.2.2 < 260 ∨ 271 < q.2.1) : R_w h2 := (wX_fr g a).trans (hr.trans (wM_fr g b).symm)
def R_Z (h : im_H) : Prop := rd h 0 4 = some (.int 0) ∨ (absX h 51 = absI h ∧ wX h 51 = wM h 151)
theorem R_Z_fr {F : List (Nat × Nat × Nat)} {h h2 : im_H} (hr : R_Z h) (g : fr F h h2) (a : ∀ q ∈ F, (q.1 < 51 ∨ 51 + 14 ≤ q.1) ∧ ¬ (q.1 = 0 ∧ q.2.1 ≤ 4 ∧ 4 ≤ q.2.2)) (b : ∀ q ∈ F, q.1 ≠ 151) : R_Z h2 := hr.elim (fun e => Or.inl ((g 0 4 (inF_no3 (fun q hq e => (a q hq).2 e))).trans e)) (fun e => Or.inr ⟨(absX_fr g (fun q hq => (a q hq).1)).trans (e.1.trans (absC_fr g b).symm), (wX_fr g (fun q hq => by have := a q hq; omega)).trans (e.2.trans (wC_fr g b).symm)⟩)
abbrev R_H (h : im_H) : Prop := rd h 0 4 = rd h 148 3
theorem R_H_fr {F : List (Nat × Nat × Nat)} {h h2 : im_H} (hr : R_H h) (g : fr F h h2) (a0 : inF F 0 4 = false) (b0 : inF F 148 3 = false) : R_H h2 := (g _ _ a0).trans (hr.trans (g _ _ b0).symm)
def R_M (h : im_H) : Prop := rmX h = rmM h
theorem R_M_fr {F : List (Nat × Nat × Nat)} {h h2 : im_H} (hr : R_M h) (g : fr F h h2) (a : ∀ q ∈ F, q.1 < 72 ∨ 76 < q.1 ∨ (q.1 = 72 ∧ 0 < q.2.1)) (b : ∀ q ∈ F, q.1 < 148 ∨ (148 < q.1 ∧ q.1 < 169) ∨ 172 < q.1 ∨ (q.1 = 148 ∧ (24 < q.2.1 ∨ q.2.2 < 24))) : R_M h2 := (rmX_fr g a).trans (hr.trans (rmM_fr g b).symm)
def R_O (h : im_H) : Prop := rulE h
theorem R_O_fr {F : List (Nat × Nat × Nat)} {h h2 : im_H} (hr : R_O h) (g : fr F h h2) (a : ∀ q ∈ F, ¬ (q.1 = 0 ∧ q.2.1 ≤ 8 ∧ 7 ≤ q.2.2) ∧ ¬ (q.1 = 1 ∧ q.2.1 ≤ 12 ∧ 12 ≤ q.2.2) ∧ ¬ (q.1 = 148 ∧ q.2.1 ≤ 47 ∧ 46 ≤ q.2.2) ∧ ¬ (98 ≤ q.1 ∧ q.1 < 140) ∧ ¬ (185 ≤ q.1 ∧ q.1 < 192)) : R_O h2 := rulE_e hr (fun i k hi => g _ _ (inF_no3 (fun q hq e => by have := a q hq; omega)))
abbrev R_T (h : im_H) : Prop := rd h 65 1 = rd h 148 45
theorem R_T_fr {F : List (Nat × Nat × Nat)} {h h2 : im_H} (hr : R_T h) (g : fr F h h2) (a0 : inF F 65 1 = false) (b0 : inF F 148 45 = false) : R_T h2 := (g _ _ a0).trans (hr.trans (g _ _ b0).symm)
def R_W (h : im_H) : Prop := ∀ k : Nat, rd h 66 k = rd h 184 k
theorem R_W_fr {F : List (Nat × Nat × Nat)} {h h2 : im_H} (hr : R_W h) (g : fr F h h2) (a : ∀ k, inF F 66 k = false) (b : ∀ k, inF F 184 k = false) : R_W h2 := fun k => (g _ _ (a k)).trans ((hr k).trans (g _ _ (b k)).symm)
def R_B (h : im_H) : Prop := tbl h
theorem R_B_fr {F : List (Nat × Nat × Nat)} {h h2 : im_H} (hr : R_B h) (g : fr F h h2) (a : ∀ k, inF F 195 k = false) (b : ∀ k, inF F 196 k = false) : R_B h2 := tbl_fr hr g a b
def R_S (h : im_H) : Prop := ∀ s : Nat, s < 4 → rd h (140 + 2 * s) 0 = rd h 192 s ∧ (∀ q : Int32, rd h 192 s = some (.int q) → q.toInt ≠ -1 → rd h (140 + 2 * s) 1 = rd h 193 s ∧ ∀ i : Nat, i < 40 → rd h (141 + 2 * s) i = rd h 194 (40 * s + i))
theorem c4 {P : Nat → Prop} (h0 : P 0) (h1 : P 1) (h2 : P 2) (h3 : P 3) : ∀ s, s < 4 → P s := by
  intro s hs
  rcases (show s = 0 ∨ s = 1 ∨ s = 2 ∨ s = 3 by omega) with rfl | rfl | rfl | rfl
  · exact h0
  · exact h1
  · exact h2
  · exact h3
theorem R_S_fr {F : List (Nat × Nat × Nat)} {h h2 : im_H} (hr : R_S h) (g : fr F h h2) (f1 : ∀ s b, s < 4 → inF F (140 + 2 * s) b = false) (f4 : ∀ s b, s < 4 → inF F (141 + 2 * s) b = false) (f2 : ∀ b, inF F 192 b = false) (f3 : ∀ b, inF F 193 b = false) (f5 : ∀ b, inF F 194 b = false) : R_S h2 := by
  intro s hs
  obtain ⟨a, b⟩ := hr s hs
  refine ⟨(g _ _ (f1 s 0 hs)).trans (a.trans (g _ _ (f2 s)).symm), fun q hq hn => ?_⟩
  obtain ⟨b1, b2⟩ := b q ((g _ _ (f2 s)).symm.trans hq) hn
  exact ⟨(g _ _ (f1 s 1 hs)).trans (b1.trans (g _ _ (f3 s)).symm), fun i hi => (g _ _ (f4 s i hs)).trans ((b2 i hi).trans (g _ _ (f5 _)).symm)⟩
def R_U (h : im_H) : Prop := uniM h
theorem R_U_fr {F : List (Nat × Nat × Nat)} {h h2 : im_H} (hr : R_U h) (g : fr F h h2) (a : ∀ q ∈ F, q.1 < 160 ∨ 161 < q.1) : R_U h2 := by
  have e : ∀ i, 160 ≤ i ∧ i ≤ 161 → rv h2 i = rv h i := fun i hi => funext fun k => by unfold rv; rw [g _ _ (inF_no (fun q hq e => by have := a q hq; omega))]
  intro r r' p h1 h3 h4
  unfold inR
  rw [e 160 (by decide), e 161 (by decide)]
  exact hr r r' p h1 h3 h4
def R_K (h : im_H) : Prop := tabM h
theorem R_K_fr {F : List (Nat × Nat × Nat)} {h h2 : im_H} (hr : R_K h) (g : fr F h h2) (a : ∀ q ∈ F, q.1 < 153 ∨ 156 < q.1) : R_K h2 := tabM_fr hr g a
def R_L (n : Nat) (h : im_H) : Prop := dyOK (100000 * (n : Int)) (absM h) ∧ dyOK (100000 * (n : Int)) (absI h) ∧ ctB (cM h) ∧ rmB (rmM h)
theorem R_L_fr {F : List (Nat × Nat × Nat)} {h h2 : im_H} {n : Nat} (hr : R_L n h) (g : fr F h h2) (a : ∀ q ∈ F, q.1 ≠ 149) (b : ∀ q ∈ F, q.1 ≠ 151) (c : ∀ q ∈ F, q.1 < 148 ∨ q.1 = 149 ∨ q.1 = 150 ∨ q.1 = 151 ∨ 168 < q.1 ∨ (q.1 = 148 ∧ (21 < q.2.1 ∨ q.2.2 < 9))) (d : ∀ q ∈ F, q.1 < 148 ∨ (148 < q.1 ∧ q.1 < 169) ∨ 172 < q.1 ∨ (q.1 = 148 ∧ (24 < q.2.1 ∨ q.2.2 < 24))) : R_L n h2 := ⟨by rw [absM_fr g a]; exact hr.1, by rw [show absI h2 = absI h from absC_fr g b]; exact hr.2.1, by rw [mc_fr2 g c]; exact hr.2.2.1, by rw [rmM_fr g d]; exact hr.2.2.2⟩
abbrev R_E (h : im_H) : Prop := rd h 72 5 = rd h 148 43
theorem R_E_fr {F : List (Nat × Nat × Nat)} {h h2 : im_H} (hr : R_E h) (g : fr F h h2) (a0 : inF F 72 5 = false) (b0 : inF F 148 43 = false) : R_E h2 := (g _ _ a0).trans (hr.trans (g _ _ b0).symm)
def R_J (h : im_H) : Prop := ∀ k, 0 ≤ ((rmM h).wo k).toInt ∧ ((rmM h).wo k).toInt ≤ 99
theorem R_J_fr {F : List (Nat × Nat × Nat)} {h h2 : im_H} (hr : R_J h) (g : fr F h h2) (a : ∀ q ∈ F, q.1 < 148 ∨ (148 < q.1 ∧ q.1 < 169) ∨ 172 < q.1 ∨ (q.1 = 148 ∧ (24 < q.2.1 ∨ q.2.2 < 24))) : R_J h2 := by
  intro k
  rw [rmM_fr g a]
  exact hr k
abbrev R_C (h : im_H) : Prop := rd h 0 7 = rd h 148 46
theorem R_C_fr {F : List (Nat × Nat × Nat)} {h h2 : im_H} (hr : R_C h) (g : fr F h h2) (a0 : inF F 0 7 = false) (b0 : inF F 148 46 = false) : R_C h2 := (g _ _ a0).trans (hr.trans (g _ _ b0).symm)
abbrev R_R (h : im_H) : Prop := rd h 0 8 = rd h 148 47
theorem R_R_fr {F : List (Nat × Nat × Nat)} {h h2 : im_H} (hr : R_R h) (g : fr F h h2) (a0 : inF F 0 8 = false) (b0 : inF F 148 47 = false) : R_R h2 := (g _ _ a0).trans (hr.trans (g _ _ b0).symm)
theorem L_mono {n : Nat} {h : im_H} (L : R_L n h) : R_L (n + 6) h := ⟨dy_mono L.1 (by omega), dy_mono L.2.1 (by omega), L.2.2.1, L.2.2.2⟩
theorem L_mk {n : Nat} {h h2 : im_H} (L : R_L n h) (e1 : dyOK (100000 * (n : Int) + 500000) (absM h2)) (e2 : ctB (cM h2)) (eI : absI h2 = absI h) (eR : rmB (rmM h2)) : R_L (n + 6) h2 := ⟨dy_mono e1 (by omega), by rw [eI]; exact dy_mono L.2.1 (by omega), e2, eR⟩
theorem jM {h1 h2 h : im_H} {y2 : Int32} {f : Ct → Dy → Int32 × Ct × Dy} (r2 : (y2, cM h2, absM h2) = f (cM h1) (absM h1)) (a : cM h1 = cM h) (b : absM h1 = absM h) : cM h2 = (f (cM h) (absM h)).2.1 ∧ absM h2 = (f (cM h) (absM h)).2.2 := by
  rw [a, b] at r2
  rw [← r2]
  exact ⟨rfl, rfl⟩
theorem ctM_lo {F : List (Nat × Nat × Nat)} {h H : im_H} (g : fr F h H) (a : ∀ q ∈ F, q.1 < 148) : ctM H = ctM h := ctM_e (fun i k hi => g _ _ (inF_no (fun q hq e => by have := a q hq; omega)))
theorem ct_eq {h : im_H} (A : R_A h) (O : R_O h) : ctX h = ctM h := by
  have e := (rul_sd O).1
  show Ct.mk (cX h).kd (cX h).tip (cX h).np (cX h).sg (cX h).ag (cX h).kn (cX h).ro (cX h).hd (cX h).hn (cX h).hf (cX h).ht (cX h).wn (cX h).cr (cX h).wf (cX h).wl (cX h).nw (cX h).wc (cX h).wt (sdX h) = _
  rw [show cX h = cM h from A, e]
  rfl
theorem ctok {h : im_H} (hI : tI h) {n : Nat} (L : R_L n h) (O : R_O h) : ctOK (ctM h) := ctOK_of hI L.2.2.1 (rul_sd O).2
theorem prem {h h1 : im_H} {n : Nat} {F : List (Nat × Nat × Nat)} (hn : n + 6 ≤ 3072) (hI : tI h) (L : R_L n h) (O : R_O h) (K : R_K h) (g : fr F h h1) (a : ∀ q ∈ F, q.1 < 148) : (tabM h1 ∧ ctOK (ctM h1) ∧ ∃ b, dyOK b (absM h1) ∧ b + 500000 ≤ 2147483647) := ⟨tabM_fr K g (fun q hq => by have := a q hq; omega), by rw [ctM_lo g a]; exact ctok hI L O, 100000 * (n : Int), by rw [absM_fr g (fun q hq => by have := a q hq; omega)]; exact L.1, by omega⟩
theorem sh_eq {h h1 : im_H} {x : Int32} (hI : tI h) (N : R_S h) (g : ∀ k, rd h1 192 k = rd h 192 k ∧ rd h1 193 k = rd h 193 k ∧ rd h1 194 k = rd h 194 k) (h0 : 0 ≤ x.toInt) (h3 : x.toInt ≤ 3) : rv h (140 + 2 * x.toInt.toNat) 0 = rv h1 192 x.toInt.toNat ∧ ((rv h1 192 x.toInt.toNat).toInt ≠ -1 → rv h (140 + 2 * x.toInt.toNat) 1 = rv h1 193 x.toInt.toNat ∧ vl h (141 + 2 * x.toInt.toNat) 0 = vl h1 194 (40 * x.toInt.toNat)) := by
  obtain ⟨a, b⟩ := N x.toInt.toNat (by omega)
  have e0 : rv h1 192 x.toInt.toNat = rv h 192 x.toInt.toNat := rv_c (g _).1
  refine ⟨by rw [e0]; exact rv_c a, fun hn => ?_⟩
  obtain ⟨_, e, y, w, _⟩ := hI.2.1 192 x.toInt.toNat (.inl (-1, 2, 9999999999)) (tq_row rfl (by omega))
  subst w
  rw [e0, rv_of e] at hn
  obtain ⟨c1, c2⟩ := b y e hn
  refine ⟨by rw [show rv h1 193 x.toInt.toNat = rv h 193 x.toInt.toNat from rv_c (g _).2.1]; exact rv_c c1, ?_⟩
  funext i
  unfold vl
  by_cases hi : i < 40
  · rw [if_pos hi, if_pos hi, Nat.zero_add, c2 i hi, (g _).2.2]
  · rw [if_neg hi, if_neg hi]
theorem people_eq {x1 x2 x3 x4 q q2 z z2 : Int32} {F F2 : Nat → Int32} {c : Ct} {A : Dy} (e : 0 ≤ x1.toInt → x1.toInt ≤ 3 → q = q2 ∧ (q2.toInt ≠ -1 → z = z2 ∧ F = F2)) : people_f x1 x2 x3 x4 q z F c A = people_f x1 x2 x3 x4 q2 z2 F2 c A := by
  unfold people_f
  by_cases h1 : 0 ≤ x1.toInt ∧ x1.toInt ≤ 3 ∧ 0 ≤ x2.toInt ∧ x2.toInt ≤ 2 ∧ 0 ≤ x4.toInt ∧ x4.toInt ≤ 10
  · obtain ⟨e1, e2⟩ := e h1.1 h1.2.1
    rw [if_pos h1, if_pos h1, e1]
    by_cases hq : q2.toInt = -1
    · rw [if_pos hq, if_pos hq]
    · obtain ⟨e3, e4⟩ := e2 hq
      rw [e3, e4]
  · rw [if_neg h1, if_neg h1]
theorem row_eq {x1 x2 x3 x4 q q2 z z2 : Int32} {F F2 : Nat → Int32} {c : Ct} {A : Dy} (e : 0 ≤ x2.toInt → x2.toInt ≤ 3 → q = q2 ∧ (q2.toInt ≠ -1 → z = z2 ∧ F = F2)) : row_f x1 x2 x3 x4 q z F c A = row_f x1 x2 x3 x4 q2 z2 F2 c A := by
  unfold row_f
  by_cases h1 : 0 ≤ x1.toInt ∧ x1.toInt ≤ 3 ∧ 0 ≤ x2.toInt ∧ x2.toInt ≤ 3 ∧ 0 ≤ x3.toInt ∧ x3.toInt ≤ 99 ∧ 0 ≤ x4.toInt ∧ x4.toInt ≤ 99
  · obtain ⟨e1, e2⟩ := e h1.2.2.1 h1.2.2.2.1
    rw [if_pos h1, if_pos h1, e1]
    by_cases hq : q2.toInt = -1
    · rw [if_pos hq, if_pos hq]
    · obtain ⟨e3, e4⟩ := e2 hq
      rw [e3, e4]
  · rw [if_neg h1, if_neg h1]
theorem row_B {x1 x2 x3 x4 q z : Int32} {F : Nat → Int32} {c : Ct} {A : Dy} (hc : ctB c) : ctB (row_f x1 x2 x3 x4 q z F c A).2 := by
  unfold row_f
  (repeat' split) <;> exact hc
theorem rail_B {x1 x3 z : Int32} {F : Nat → Int32} {c : Ct} (hc : ctB c) (h0 : 0 ≤ x3.toInt) (h1 : x3.toInt ≤ 20) : ctB (railC x1 x3 z F c) := ⟨hc.1, udt_B (P := fun x => 0 ≤ x.toInt ∧ x.toInt ≤ 20) hc.2 ⟨h0, h1⟩⟩
theorem feed_join {h h1 h2 : im_H} {w : Int64} {n y1 y2 : Int32} (T : R_T h) (W : R_W h) (g1 : fr F_X11_feed h h1) (g2 : fr F_X12_feed h1 h2) (r1 : Q1_feed w n y1 h h1) (r2 : Q2_feed w n y2 h1 h2) : y1 = y2 ∧ R_T h2 ∧ R_W h2 := by
  obtain ⟨s, e1, k1, n1⟩ := r1
  obtain ⟨s2, e2, k2, n2⟩ := r2
  have j1 : s = s2 := int_inj e1 (T.trans ((g1 148 45 rfl).symm.trans e2))
  subst j1
  by_cases ok : (1 ≤ n.toInt ∧ n.toInt ≤ 8 ∧ s.toInt + n.toInt ≤ 160)
  · obtain ⟨a1, t1, b1, c1, d1⟩ := k1 ok
    obtain ⟨a2, t2, b2, c2, d2⟩ := k2 ok
    refine ⟨i32_ext (by omega), ?_, fun k => ?_⟩
    · have et : t1 = t2 := i32_ext (by omega)
      subst et
      exact ((g2 65 1 rfl).trans b1).trans b2.symm
    · by_cases hk : (s.toInt ≤ (k : Int) ∧ (k : Int) < s.toInt + (n.toInt - 1 - (-1)))
      · exact ((g2 66 k rfl).trans ((d1 k).1 hk)).trans ((congrArg (fun t => some (Value.int t)) (fd_eq _ _)).trans ((d2 k).1 hk).symm)
      · exact ((g2 66 k rfl).trans ((d1 k).2 hk)).trans ((W k).trans (((d2 k).2 hk).trans (g1 184 k rfl)).symm)
  · obtain ⟨a1, b1⟩ := n1 ok
    obtain ⟨a2, b2⟩ := n2 ok
    subst b1
    subst b2
    exact ⟨a1.trans a2.symm, T, W⟩
theorem BXM {h h1 : im_H} (T : R_T h) (W : R_W h) (a : rd h1 148 45 = rd h 148 45) (b : ∀ k, rd h1 184 k = rd h 184 k) : BM h1 = BX h ∧ rv h1 148 45 = rv h 65 1 := by
  have e1 : rv h1 148 45 = rv h 65 1 := by unfold rv; rw [a, T]
  have e2 : rv h1 184 = rv h 66 := funext fun k => by unfold rv; rw [b k, W k]
  unfold BM BX
  rw [e1, e2]
  exact ⟨rfl, rfl⟩
theorem order_join {h h1 h2 : im_H} {y1 y2 : Int32} (T : R_T h) (W : R_W h) (C : R_C h) (B : R_B h) (g1 : fr F_X11_order h h1) (g2 : fr F_X12_order h1 h2) (r1 : Q1_order y1 h h1) (r2 : Q2_order y2 h1 h2) : y1 = y2 ∧ R_T h2 ∧ R_C h2 := by
  obtain ⟨p, e1, _, _, r1⟩ := r1
  obtain ⟨q, e2, _, _, r2⟩ := r2 (R_B_fr B g1 (fun _ => rfl) (fun _ => rfl))
  have j1 : p = q := int_inj e1 (C.trans ((g1 148 46 rfl).symm.trans e2))
  subst j1
  obtain ⟨bm, bn⟩ := BXM T W (g1 148 45 rfl) (fun k => g1 184 k rfl)
  rw [bm, bn] at r2
  rcases r1 with ⟨a1, f1, n1⟩ | ⟨a1, t1, _, r1⟩
  · rcases r2 with ⟨_, f2, n2⟩ | ⟨a2, _⟩
    · subst n1; subst n2; exact ⟨f1.trans f2.symm, T, C⟩
    · exact absurd a1 a2
  · rcases r2 with ⟨a2, _⟩ | ⟨_, t2, _, _, r2⟩
    · exact absurd a2 a1
    · have hT : R_T h2 := ((g2 65 1 rfl).trans t1).trans t2.symm
      rcases r1 with ⟨b1, f1, c1, _⟩ | ⟨b1, f1, c1⟩
      · rcases r2 with ⟨_, f2, c2, _⟩ | ⟨b2, _⟩
        · exact ⟨f1.trans f2.symm, hT, ((g2 0 7 rfl).trans c1).trans c2.symm⟩
        · omega
      · rcases r2 with ⟨b2, _⟩ | ⟨_, f2, c2⟩
        · omega
        · exact ⟨i32_ext (f1.trans f2.symm), hT, ((g2 0 7 rfl).trans c1).trans c2.symm⟩
theorem force_join {h h1 h2 : im_H} {x1 y1 y2 : Int32} (C : R_C h) (R : R_R h) (g1 : fr F_X11_force h h1) (g2 : fr F_X12_force h1 h2) (r1 : Q1_force x1 y1 h h1) (r2 : Q2_force x1 y2 h1 h2) : y1 = y2 ∧ R_R h2 := by
  have r1 := r1.1
  obtain ⟨p, c, e1, e2, f1, n1⟩ := r1
  obtain ⟨p2, c2, d1, d2, f2, n2⟩ := r2
  have j1 : p = p2 := int_inj e1 (R.trans ((g1 148 47 rfl).symm.trans d1))
  have j2 : c = c2 := int_inj e2 (C.trans ((g1 148 46 rfl).symm.trans d2))
  subst j1
  subst j2
  exact ⟨f1.trans f2.symm, ((g2 0 8 rfl).trans n1).trans n2.symm⟩
theorem vl_eq {h h1 : im_H} {x1 : Int32} {q : Int32} (N : R_S h) (hc : 0 ≤ x1.toInt ∧ x1.toInt ≤ 3) (g1 : ∀ k, rd h1 194 k = rd h 194 k) (hq : rd h 192 x1.toInt.toNat = some (.int q)) (hn : q.toInt ≠ -1) : vl h (141 + 2 * x1.toInt.toNat) 0 = vl h1 194 (40 * x1.toInt.toNat) := by
  funext i
  unfold vl
  by_cases hi : i < 40
  · rw [if_pos hi, if_pos hi, Nat.zero_add, ((N _ (by omega)).2 q hq hn).2 i hi, g1]
  · rw [if_neg hi, if_neg hi]
theorem rail_join {h h1 h2 : im_H} {x1 x2 x3 y1 y2 : Int32} (N : R_S h) (g1 : fr F_X11_rail h h1) (r1 : Q1_rail x1 x2 x3 y1 h h1) (r2 : Q2_rail x1 x2 x3 y2 h1 h2) : y1 = y2 := by
  have r1 := r1.1
  have r2 := r2.1
  rcases r1 with ⟨a, q, z, s1, z1, f1⟩ | ⟨a, f1⟩
  · rcases r2 with ⟨_, q2, z2, t1, t2, f2⟩ | ⟨a2, _⟩
    · obtain ⟨h3, h4⟩ := N x2.toInt.toNat (by omega)
      have k1 : rd h 192 x2.toInt.toNat = some (.int q2) := (g1 _ _ rfl).symm.trans t1
      have k2 : rd h 193 x2.toInt.toNat = some (.int z2) := (g1 _ _ rfl).symm.trans t2
      have j1 : q = q2 := int_inj (h3.symm.trans s1) k1
      rw [← j1] at f2 k1
      by_cases hq : q.toInt = -1
      · rcases f1 with ⟨_, f1⟩ | ⟨n, _⟩ | ⟨n, _⟩
        · rcases f2 with ⟨_, f2⟩ | ⟨n, _⟩ | ⟨n, _⟩
          · rw [f1, f2]
          · exact absurd hq n
          · exact absurd hq n
        · exact absurd hq n
        · exact absurd hq n
      · have j2 : z = z2 := int_inj ((h4 q k1 hq).1.symm.trans z1) k2
        have jf := vl_eq (x1 := x2) N ⟨a.2.2.1, a.2.2.2⟩ (fun k => g1 194 k rfl) k1 hq
        rw [← j2, ← jf] at f2
        rcases f1 with ⟨n, _⟩ | ⟨_, o1, f1⟩ | ⟨_, o1, f1⟩
        · exact absurd n hq
        · rcases f2 with ⟨n, _⟩ | ⟨_, o2, f2⟩ | ⟨_, o2, f2⟩
          · exact absurd n hq
          · rw [f1, f2]
          · exact absurd o1 o2
        · rcases f2 with ⟨n, _⟩ | ⟨_, o2, f2⟩ | ⟨_, o2, f2⟩
          · exact absurd n hq
          · exact absurd o2 o1
          · rw [f1, f2]
    · exact absurd a a2
  · rcases r2 with ⟨b, _⟩ | ⟨_, f2⟩
    · exact absurd b a
    · rw [f1, f2]
theorem rul_C {h : im_H} (O : R_O h) : R_C h ∧ R_R h := by
  obtain ⟨r, p, a1, a2, a3, a4, _⟩ := O
  exact ⟨a3.trans a4.symm, a1.trans a2.symm⟩
theorem order_rul {h h1 h2 : im_H} {y1 y2 : Int32} (hI : tI h) (I2 : tI h2) (O : R_O h) (T : R_T h) (W : R_W h) (B : R_B h) (g1 : fr F_X11_order h h1) (g2 : fr F_X12_order h1 h2) (r1 : Q1_order y1 h h1) (r2 : Q2_order y2 h1 h2) : R_O h2 := by
  obtain ⟨r, p, a1, a2, a3, a4, a5, a6, a7, a8, a9, a10⟩ := O
  obtain ⟨p1, e1, b1, b2, r1⟩ := r1
  obtain ⟨p2, e2, _, _, r2⟩ := r2 (R_B_fr B g1 (fun _ => rfl) (fun _ => rfl))
  obtain rfl : p1 = p := int_inj e1 a3
  obtain rfl : p2 = p1 := int_inj e2 ((g1 148 46 rfl).trans a4)
  obtain ⟨bm, bn⟩ := BXM T W (g1 148 45 rfl) (fun k => g1 184 k rfl)
  rw [bm, bn] at r2
  have c8 : rd h2 0 8 = some (.int r) := (g2 0 8 rfl).trans ((g1 0 8 rfl).trans a1)
  have c47 : rd h2 148 47 = some (.int r) := (g2 148 47 rfl).trans ((g1 148 47 rfl).trans a2)
  have c12 : rd h2 1 12 = rd h 1 12 := (g2 1 12 rfl).trans (g1 1 12 rfl)
  have ln : ∀ l, l < 8 → ∀ q : Nat, q < 6 → (rv h2 188 (8 * q + l)).toInt ≤ 3 := fun l hl q hq => by
    obtain ⟨_, e, y, w, _, b, _⟩ := I2.2.1 188 (8 * q + l) (.inl (0, 3, 9999999999)) (tq_row rfl (by omega))
    subst w
    rw [rv_of e]
    exact b
  rcases r1 with ⟨x1, _, n1⟩ | ⟨x1, _, k1, r1⟩
  · rcases r2 with ⟨_, _, n2⟩ | ⟨x2, _⟩
    · subst n1; subst n2; exact ⟨r, p2, a1, a2, a3, a4, a5, a6, a7, a8, a9, a10⟩
    · exact absurd x1 x2
  · rcases r2 with ⟨x2, _⟩ | ⟨_, _, k2, k3, r2⟩
    · exact absurd x2 x1
    · have old : ∀ q : Nat, (q : Int) < p2.toInt → ordE h2 q := by
        intro q hq
        obtain ⟨o1, o2⟩ := a10 q hq
        have hb : (rv h 185 q).toInt ≤ 8 := by
          obtain ⟨_, e, y, w, _, b, _⟩ := hI.2.1 185 q (.inl (0, 8, 9999999999)) (tq_row rfl (by omega))
          subst w
          rw [rv_of e]
          exact b
        have hb3 : ∀ l, l < 8 → (rv h 188 (8 * q + l)).toInt ≤ 3 := fun l hl => by
          obtain ⟨_, e, y, w, _, b, _⟩ := hI.2.1 188 (8 * q + l) (.inl (0, 3, 9999999999)) (tq_row rfl (by omega))
          subst w
          rw [rv_of e]
          exact b
        refine ordE_e (by omega) ⟨o1, o2⟩ (fun d k hd => ?_) ?_ (fun m h0 h1 => ?_) (fun m h0 h1 => ?_) hb hb3
        · exact (g2 _ _ (inF_no (fun x hx e => by (have := (show ∀ x ∈ F_X12_order, 148 ≤ x.1 by decide) x hx); omega))).trans (k1 q (by omega) (by omega) d hd k)
        · exact (k3 q (by omega)).trans (g1 185 q rfl)
        · obtain ⟨u1, u2, u3⟩ := k2.1 m (by omega)
          exact ⟨u1.trans (g1 186 m rfl), u2.trans (g1 187 m rfl), u3.trans (g1 188 m rfl)⟩
        · obtain ⟨u1, u2, u3⟩ := k2.2 m (by omega)
          exact ⟨u1.trans (g1 189 m rfl), u2.trans (g1 190 m rfl), u3.trans (g1 191 m rfl)⟩
      rcases r1 with ⟨b1, f1, c1, z1, l1⟩ | ⟨b1, f1, c1⟩
      · rcases r2 with ⟨_, f2, c2, z2, l2⟩ | ⟨b2, _⟩
        · have hp1 : (p2 + 1).toInt = p2.toInt + 1 := i32_addE (show Int32.toInt 1 = 1 from rfl) (by omega) (by omega)
          refine ⟨r, p2 + 1, c8, c47, (g2 0 7 rfl).trans c1, c2, a5, by omega, by omega, fun q => c12.trans (a8 q), fun q => c12.trans (a9 q), fun q hq => ?_⟩
          by_cases hc : (q : Int) < p2.toInt
          · exact old q hc
          · obtain rfl : q = p2.toInt.toNat := by omega
            have fx : ∀ d k, d < 7 → rd h2 (98 + 7 * p2.toInt.toNat + d) k = rd h1 (98 + 7 * p2.toInt.toNat + d) k := fun d k hd => g2 _ _ (inF_no (fun x hx e => by (have := (show ∀ x ∈ F_X12_order, 148 ≤ x.1 by decide) x hx); omega))
            obtain ⟨z, ez, nz⟩ := z1
            refine ordE_new b1 ⟨z, (fx 0 0 (by decide)).trans ez, nz⟩ (fun l hl => lnC_e (l1 l hl) ⟨fx 1 l (by decide), fx 2 l (by decide), fx 3 l (by decide)⟩ (fun m _ _ => ⟨fx 4 m (by decide), fx 5 m (by decide), fx 6 m (by decide)⟩) lnR_3) z2 l2 (fun l hl => or_ok 8 0 b1 l (Nat.zero_le l) hl)
        · omega
      · rcases r2 with ⟨b2, _⟩ | ⟨_, f2, c2⟩
        · omega
        · exact ⟨r, p2, c8, c47, (g2 0 7 rfl).trans c1, c2, a5, a6, a7, fun q => c12.trans (a8 q), fun q => c12.trans (a9 q), old⟩
theorem force_rul {h h1 h2 : im_H} {x1 y1 y2 : Int32} (O : R_O h) (g1 : fr F_X11_force h h1) (g2 : fr F_X12_force h1 h2) (r1 : Q1_force x1 y1 h h1) (r2 : Q2_force x1 y2 h1 h2) : R_O h2 := by
  have O0 := O
  obtain ⟨r, p, a1, a2, a3, a4, a5, a6, a7, a8, a9, a10⟩ := O
  obtain ⟨⟨p1, c1, e1, e2, f1, n1⟩, ex⟩ := r1
  obtain ⟨p2, c2, d1, d2, f2, n2⟩ := r2
  obtain rfl : p1 = r := int_inj e1 a1
  obtain rfl : c1 = p := int_inj e2 a3
  obtain rfl : p2 = p1 := int_inj d1 ((g1 148 47 rfl).trans a2)
  obtain rfl : c2 = c1 := int_inj d2 ((g1 148 46 rfl).trans a4)
  obtain ⟨q1, q2, q3⟩ := ex c2 e2
  have od : ∀ q : Nat, (q : Int) < c2.toInt → ordE h2 q := fun q hq => by
    have h9 := (R_O_fr (F := []) O0 (fun i k _ => rfl) (by decide) : R_O h)
    obtain ⟨o1, o2⟩ := a10 q hq
    have ev : ∀ i k, ((98 ≤ i ∧ i < 140) ∨ (185 ≤ i ∧ i < 192)) → rv h2 i k = rv h i k := fun i k hi => rv_q ((g2 _ _ (inF_no (fun x hx e => by (have := (show ∀ x ∈ F_X12_force, x.1 = 148 by decide) x hx); omega))).trans (g1 _ _ (inF_no (fun x hx e => by (have := (show ∀ x ∈ F_X11_force, x.1 < 2 by decide) x hx); omega))))
    refine ⟨by rw [ev _ _ (by omega), ev _ _ (by omega)]; exact o1, fun l hl => ?_⟩
    rw [ev 185 q (by omega)] at hl
    have h9 := o2 l hl
    unfold lnEq at h9 ⊢
    rw [ev 186 _ (by omega), ev 187 _ (by omega), ev 188 _ (by omega), ev (99 + 7 * q) _ (by omega), ev (100 + 7 * q) _ (by omega), ev (101 + 7 * q) _ (by omega)]
    refine ⟨h9.1, h9.2.1, h9.2.2.1, h9.2.2.2.1, fun t ht => ?_⟩
    rw [ev 189 _ (by omega), ev 190 _ (by omega), ev 191 _ (by omega), ev (102 + 7 * q) _ (by omega), ev (103 + 7 * q) _ (by omega), ev (104 + 7 * q) _ (by omega)]
    exact h9.2.2.2.2 t ht
  have c7 : rd h2 0 7 = some (.int c2) := (g2 0 7 rfl).trans ((g1 0 7 rfl).trans a3)
  have c46 : rd h2 148 46 = some (.int c2) := (g2 148 46 rfl).trans ((g1 148 46 rfl).trans a4)
  have c12 : rd h2 1 12 = rd h1 1 12 := g2 1 12 rfl
  by_cases ok : x1.toInt = -1 ∨ (0 ≤ x1.toInt ∧ x1.toInt < c2.toInt)
  · have eg : gFo x1 p2 c2 = x1 := if_pos ok
    rw [eg] at n1 n2
    exact ⟨x1, c2, (g2 0 8 rfl).trans n1, n2, c7, c46, by omega, by omega, a7, fun q => c12.trans (q1 q), fun q => c12.trans (q2 (by omega)), od⟩
  · have eg : gFo x1 p2 c2 = p2 := if_neg ok
    rw [eg] at n1 n2
    exact ⟨p2, c2, (g2 0 8 rfl).trans n1, n2, c7, c46, a5, a6, a7, fun q => c12.trans ((q3 ok).trans (a8 q)), fun q => c12.trans ((q3 ok).trans (a9 q)), od⟩
theorem sheet_join {h h1 h2 : im_H} {x1 x2 x3 y1 y2 : Int32} (N : R_S h) (g1 : fr F_X11_sheet h h1) (g2 : fr F_X12_sheet h1 h2) (r1 : Q1_sheet x1 x2 x3 y1 h h1) (r2 : Q2_sheet x1 x2 x3 y2 h1 h2) : R_S h2 := by
  have fx : ∀ s b, s < 4 → rd h2 (140 + 2 * s) b = rd h1 (140 + 2 * s) b := fun s b hs => g2 _ _ (c4 (P := fun s => inF F_X12_sheet (140 + 2 * s) b = false) rfl rfl rfl rfl s hs)
  have fn : ∀ s b, s < 4 → rd h2 (141 + 2 * s) b = rd h1 (141 + 2 * s) b := fun s b hs => g2 _ _ (c4 (P := fun s => inF F_X12_sheet (141 + 2 * s) b = false) rfl rfl rfl rfl s hs)
  have fm : ∀ k, rd h1 192 k = rd h 192 k ∧ rd h1 193 k = rd h 193 k ∧ rd h1 194 k = rd h 194 k := fun k => ⟨g1 _ _ rfl, g1 _ _ rfl, g1 _ _ rfl⟩
  obtain ⟨a1, a2, a3, a4, a5⟩ := r1
  obtain ⟨b1, b2, b3, b4, b5⟩ := r2
  intro s hs
  by_cases hk : s = x1.toInt.toNat ∧ okS x1 x2 x3
  · obtain ⟨rfl, ho⟩ := hk
    refine ⟨(fx _ 0 hs).trans ((a1 ho).trans (b1 ho).symm), fun q hq hn => ?_⟩
    have e := int_inj hq (b1 ho)
    rw [e] at hn
    exact ⟨(fx _ 1 hs).trans ((a2 ho hn).trans (b2 ho hn).symm), fun i hi => (fn _ i hs).trans ((a4 ho hn i hi).trans (b4 ho i hi).symm)⟩
  · have hn : s ≠ x1.toInt.toNat ∨ ¬ okS x1 x2 x3 := by
      by_cases h5 : s = x1.toInt.toNat
      · exact Or.inr (fun h6 => hk ⟨h5, h6⟩)
      · exact Or.inl h5
    obtain ⟨a, b⟩ := N s hs
    obtain ⟨m1, m2⟩ := b3 s hs hn
    refine ⟨(fx s 0 hs).trans ((a3 s 0 hs hn).trans (a.trans ((fm s).1.symm.trans m1.symm))), fun q hq hq2 => ?_⟩
    obtain ⟨c1, c2⟩ := b q ((fm s).1.symm.trans (m1.symm.trans hq)) hq2
    exact ⟨(fx s 1 hs).trans ((a3 s 1 hs hn).trans (c1.trans ((fm s).2.1.symm.trans m2.symm))), fun i hi => (fn s i hs).trans ((a5 s i hs hn).trans ((c2 i hi).trans ((fm _).2.2.symm.trans (b5 s i hs hi hn).symm)))⟩
theorem cell_join {h h1 h2 : im_H} {x1 x2 x3 y1 y2 : Int32} (N : R_S h) (g1 : fr F_X11_cell h h1) (g2 : fr F_X12_cell h1 h2) (r1 : Q1_cell x1 x2 x3 y1 h h1) (r2 : Q2_cell x1 x2 x3 y2 h1 h2) : y1 = y2 ∧ R_S h2 := by
  have fx : ∀ s b, s < 4 → rd h2 (140 + 2 * s) b = rd h1 (140 + 2 * s) b := fun s b hs => g2 _ _ (c4 (P := fun s => inF F_X12_cell (140 + 2 * s) b = false) rfl rfl rfl rfl s hs)
  have fn : ∀ s b, s < 4 → rd h2 (141 + 2 * s) b = rd h1 (141 + 2 * s) b := fun s b hs => g2 _ _ (c4 (P := fun s => inF F_X12_cell (141 + 2 * s) b = false) rfl rfl rfl rfl s hs)
  have fm : ∀ k, rd h1 192 k = rd h 192 k ∧ rd h1 193 k = rd h 193 k ∧ rd h1 194 k = rd h 194 k := fun k => ⟨g1 _ _ rfl, g1 _ _ rfl, g1 _ _ rfl⟩
  obtain ⟨r1, a1, a2⟩ := r1
  obtain ⟨r2, b1, b2⟩ := r2
  have ye : y1 = y2 := by
    rcases r1 with ⟨a, b, q, z, e1, e2, rfl⟩ | ⟨a, rfl⟩
    · rcases r2 with ⟨_, _, q2, z2, f1, f2, rfl⟩ | ⟨a2, rfl⟩
      · obtain ⟨h3, h4⟩ := N x1.toInt.toNat (by omega)
        have f3 : rd h 192 x1.toInt.toNat = some (.int q2) := (g1 _ _ rfl).symm.trans f1
        have f4 : rd h 193 x1.toInt.toNat = some (.int z2) := (g1 _ _ rfl).symm.trans f2
        have e3 := int_inj (h3.symm.trans e1) f3
        subst e3
        by_cases hq : q.toInt = -1
        · unfold clT; rw [if_pos hq, if_pos hq]
        · have e4 := int_inj ((h4 q f3 hq).1.symm.trans e2) f4
          rw [e4]
      · exact absurd ⟨a, b⟩ a2
    · rcases r2 with ⟨b, c, _⟩ | ⟨_, rfl⟩
      · exact absurd ⟨b, c⟩ a
      · rfl
  refine ⟨ye, ?_⟩
  intro s hs
  obtain ⟨a, b⟩ := N s hs
  have m1 : rd h2 192 s = rd h 192 s := (g2 _ _ rfl).trans (fm s).1
  have m2 : rd h2 193 s = rd h 193 s := (g2 _ _ rfl).trans (fm s).2.1
  have l1 : ∀ b, rd h2 (140 + 2 * s) b = rd h (140 + 2 * s) b := fun b => (fx s b hs).trans (g1 _ _ (c4 (P := fun s => inF F_X11_cell (140 + 2 * s) b = false) rfl rfl rfl rfl s hs))
  refine ⟨(l1 0).trans (a.trans m1.symm), fun q hq hn => ?_⟩
  have hq3 : rd h 192 s = some (.int q) := m1.symm.trans hq
  obtain ⟨c1, c2⟩ := b q hq3 hn
  refine ⟨(l1 1).trans (c1.trans m2.symm), fun i hi => ?_⟩
  by_cases hk : s = x1.toInt.toNat ∧ i = x2.toInt.toNat ∧ y1.toInt = 1
  · obtain ⟨rfl, rfl, hy⟩ := hk
    rw [fn _ _ hs, (a1 hy).2.2 q (a.trans hq3), (b1 (ye ▸ hy)).2.2 q ((fm _).1.trans hq3)]
  · rw [fn _ _ hs, a2 s i hs (by omega), b2 s i hs hi (by rw [← ye]; omega), c2 i hi, (fm _).2.2]
theorem copy_join {h h1 h2 : im_H} {x1 x2 x3 x4 x5 y1 y2 : Int32} (N : R_S h) (g1 : fr F_X11_copy h h1) (g2 : fr F_X12_copy h1 h2) (r1 : Q1_copy x1 x2 x3 x4 x5 y1 h h1) (r2 : Q2_copy x1 x2 x3 x4 x5 y2 h1 h2) : y1 = y2 ∧ R_S h2 := by
  have fx : ∀ s b, s < 4 → rd h2 (140 + 2 * s) b = rd h1 (140 + 2 * s) b := fun s b hs => g2 _ _ (c4 (P := fun s => inF F_X12_copy (140 + 2 * s) b = false) rfl rfl rfl rfl s hs)
  have fn : ∀ s b, s < 4 → rd h2 (141 + 2 * s) b = rd h1 (141 + 2 * s) b := fun s b hs => g2 _ _ (c4 (P := fun s => inF F_X12_copy (141 + 2 * s) b = false) rfl rfl rfl rfl s hs)
  have fm : ∀ k, rd h1 192 k = rd h 192 k ∧ rd h1 193 k = rd h 193 k ∧ rd h1 194 k = rd h 194 k := fun k => ⟨g1 _ _ rfl, g1 _ _ rfl, g1 _ _ rfl⟩
  obtain ⟨r1, a1, a2⟩ := r1
  obtain ⟨r2, b1, b2⟩ := r2
  have yq : y1 = y2 ∧ (0 ≤ y1.toInt → (0 ≤ x1.toInt ∧ x1.toInt ≤ 3 ∧ 0 ≤ x3.toInt ∧ x3.toInt ≤ 3) ∧ (∃ q : Int32, rd h 192 x1.toInt.toNat = some (.int q) ∧ q.toInt ≠ -1)) := by
    rcases r1 with ⟨a, q1, z1, q2, z2, e1, e2, e3, e4, rfl⟩ | ⟨a, rfl⟩
    · rcases r2 with ⟨_, p1, w1, p2, w2, f1, f2, f3, f4, rfl⟩ | ⟨a2, rfl⟩
      · obtain ⟨h3, h4⟩ := N x1.toInt.toNat (by omega)
        obtain ⟨h5, h6⟩ := N x3.toInt.toNat (by omega)
        have k1 : rd h 192 x1.toInt.toNat = some (.int p1) := (g1 _ _ rfl).symm.trans f1
        have k2 : rd h 193 x1.toInt.toNat = some (.int w1) := (g1 _ _ rfl).symm.trans f2
        have k3 : rd h 192 x3.toInt.toNat = some (.int p2) := (g1 _ _ rfl).symm.trans f3
        have k4 : rd h 193 x3.toInt.toNat = some (.int w2) := (g1 _ _ rfl).symm.trans f4
        have j1 : q1 = p1 := int_inj (h3.symm.trans e1) k1
        have j3 : q2 = p2 := int_inj (h5.symm.trans e3) k3
        rw [j1, j3]
        by_cases hq : p1.toInt = -1 ∨ p2.toInt = -1
        · unfold cpT; rw [if_pos hq, if_pos hq]; exact ⟨rfl, fun h9 => absurd h9 (by decide)⟩
        · have j2 : z1 = w1 := int_inj ((h4 p1 k1 (fun hh_ => hq (Or.inl hh_))).1.symm.trans e2) k2
          have j4 : z2 = w2 := int_inj ((h6 p2 k3 (fun hh_ => hq (Or.inr hh_))).1.symm.trans e4) k4
          rw [j2, j4]
          exact ⟨rfl, fun _ => ⟨a, p1, k1, fun hh_ => hq (Or.inl hh_)⟩⟩
      · exact absurd a a2
    · rcases r2 with ⟨b, _⟩ | ⟨_, rfl⟩
      · exact absurd b a
      · exact ⟨rfl, fun h9 => absurd h9 (by decide)⟩
  obtain ⟨ye, hp⟩ := yq
  refine ⟨ye, ?_⟩
  intro s hs
  obtain ⟨a, b⟩ := N s hs
  have m1 : rd h2 192 s = rd h 192 s := (g2 _ _ rfl).trans (fm s).1
  have m2 : rd h2 193 s = rd h 193 s := (g2 _ _ rfl).trans (fm s).2.1
  have l1 : ∀ b, rd h2 (140 + 2 * s) b = rd h (140 + 2 * s) b := fun b => (fx s b hs).trans (g1 _ _ (c4 (P := fun s => inF F_X11_copy (140 + 2 * s) b = false) rfl rfl rfl rfl s hs))
  refine ⟨(l1 0).trans (a.trans m1.symm), fun q hq hn => ?_⟩
  have hq3 : rd h 192 s = some (.int q) := m1.symm.trans hq
  obtain ⟨c1, c2⟩ := b q hq3 hn
  refine ⟨(l1 1).trans (c1.trans m2.symm), fun i hi => ?_⟩
  by_cases hk : s = x3.toInt.toNat ∧ (x4.toInt ≤ i ∧ (i : Int) < x4.toInt + x5.toInt) ∧ 0 ≤ y1.toInt
  · obtain ⟨rfl, hr_, hy⟩ := hk
    obtain ⟨v1, v2, v3, v4, v5⟩ := a1 hy
    obtain ⟨_, _, _, _, t5⟩ := b1 (ye ▸ hy)
    obtain ⟨rg, q0, hq0, hq1⟩ := hp hy
    obtain ⟨_, d2⟩ := N x1.toInt.toNat (by omega)
    rw [fn _ _ hs, v5 i hi hr_, t5 i hi hr_, (d2 q0 hq0 hq1).2 _ (by omega), (fm _).2.2]
  · rw [fn _ _ hs, a2 s i hs (by omega), b2 s i hs hi (by rw [← ye]; omega), c2 i hi, (fm _).2.2]
