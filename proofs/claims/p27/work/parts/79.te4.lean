noncomputable def cX (h : im_H) : Ct := (Ct.s_sd (ctX h) (fun _ _ => 0))
noncomputable def cM (h : im_H) : Ct := (Ct.s_sd (ctM h) (fun _ _ => 0))
theorem cX_of {h H : im_H} {kd : Nat → Int32} {tip : Int32} {np : Int32} {sg : Nat → Int32} {ag : Nat → Int32} {kn : Nat → Int32} {nw : Int32} {wc : Nat → Int32} {wt : Nat → Int32} (e : ∀ i k, (i = 6 ∨ (12 ≤ i ∧ i < 23)) → rd H i k = rd h i k) (hkd : gd 100 (rv H 2) = kd) (htip : rv H 1 1 = tip) (hnp : rv H 1 2 = np) (hsg : gd 24 (rv H 3) = sg) (hag : gd 24 (rv H 4) = ag) (hkn : gd 24 (rv H 5) = kn) (hnw : rv H 1 9 = nw) (hwc : gd 16 (rv H 9) = wc) (hwt : gd 16 (rv H 10) = wt) : cX H = (Ct.mk (kd) (tip) (np) (sg) (ag) (kn) (Ct.ro (cX h)) (Ct.hd (cX h)) (Ct.hn (cX h)) (Ct.hf (cX h)) (Ct.ht (cX h)) (Ct.wn (cX h)) (Ct.cr (cX h)) (Ct.wf (cX h)) (Ct.wl (cX h)) (nw) (wc) (wt) (Ct.sd (cX h))) := by
  have ev : ∀ i k, (i = 6 ∨ (12 ≤ i ∧ i < 23)) → rv H i k = rv h i k := fun i k hi => by unfold rv; rw [e i k hi]
  have e0 : gd 24 (rv H 6) = gd 24 (rv h 6) := gd_c (fun k _ => ev 6 k (by omega))
  have e1 : (fun r i => if r < 4 ∧ i < 8 then rv H (13 + 2 * r) i else 0 : Nat → Nat → Int32) = fun r i => if r < 4 ∧ i < 8 then rv h (13 + 2 * r) i else 0 := by
    funext r i
    by_cases hc : r < 4 ∧ i < 8
    · rw [if_pos hc, if_pos hc, ev _ _ (by omega)]
    · rw [if_neg hc, if_neg hc]
  have e2 : (fun r => if r < 3 ∧ 2 ≤ (rv H (20 + r) 0).toInt then rv H (20 + r) 2 else 0 : Nat → Int32) = fun r => if r < 3 ∧ 2 ≤ (rv h (20 + r) 0).toInt then rv h (20 + r) 2 else 0 := by
    funext r
    by_cases hc : r < 3
    · rw [ev (20 + r) 0 (by omega), ev (20 + r) 2 (by omega)]
    · rw [if_neg (fun q => hc q.1), if_neg (fun q => hc q.1)]
  have e3 : (fun r => if r < 3 ∧ 2 ≤ (rv H (20 + r) 0).toInt then rv H (20 + r) 3 else 0 : Nat → Int32) = fun r => if r < 3 ∧ 2 ≤ (rv h (20 + r) 0).toInt then rv h (20 + r) 3 else 0 := by
    funext r
    by_cases hc : r < 3
    · rw [ev (20 + r) 0 (by omega), ev (20 + r) 3 (by omega)]
    · rw [if_neg (fun q => hc q.1), if_neg (fun q => hc q.1)]
  unfold cX ctX
  rw [hkd, htip, hnp, hsg, hag, hkn, hnw, hwc, hwt, e0, e1, gd_c (n := 4) (g := fun r => rv h (12 + 2 * r) 1) (fun r hr => ev (12 + 2 * r) 1 (by omega)), gd_c (n := 4) (g := fun r => rv h (12 + 2 * r) 2) (fun r hr => ev (12 + 2 * r) 2 (by omega)), gd_c (n := 4) (g := fun r => rv h (12 + 2 * r) 3) (fun r hr => ev (12 + 2 * r) 3 (by omega)), gd_c (n := 3) (g := fun r => rv h (20 + r) 0) (fun r hr => ev (20 + r) 0 (by omega)), gd_c (n := 3) (g := fun r => rv h (20 + r) 1) (fun r hr => ev (20 + r) 1 (by omega)), e2, e3]
theorem cX_0 {h H : im_H} (e : ∀ i k, (i = 6 ∨ (12 ≤ i ∧ i < 23)) → rd H i k = rd h i k) (hkd : gd 100 (rv H 2) = gd 100 (rv h 2)) (htip : rv H 1 1 = rv h 1 1) (hnp : rv H 1 2 = rv h 1 2) (hsg : gd 24 (rv H 3) = gd 24 (rv h 3)) (hag : gd 24 (rv H 4) = gd 24 (rv h 4)) (hkn : gd 24 (rv H 5) = gd 24 (rv h 5)) (hnw : rv H 1 9 = rv h 1 9) (hwc : gd 16 (rv H 9) = gd 16 (rv h 9)) (hwt : gd 16 (rv H 10) = gd 16 (rv h 10)) : cX H = cX h := (cX_of (kd := (cX h).kd) (tip := (cX h).tip) (np := (cX h).np) (sg := (cX h).sg) (ag := (cX h).ag) (kn := (cX h).kn) (nw := (cX h).nw) (wc := (cX h).wc) (wt := (cX h).wt) e hkd htip hnp hsg hag hkn hnw hwc hwt).trans (Ct.eta' (cX h))
theorem xcu_kd {h h2 : im_H} {k : Nat} {z : Int32} (u : up h h2 2 k (.int z)) (hk : k < 100) : cX h2 = (Ct.s_kd (cX h) (udt (cX h).kd k z)) := cX_of (fun i j hi => u.2 _ _ (Or.inl (by omega))) (gd_up hk (rv_of u.1) (fun m hm => rv_ni u (Or.inr hm))) (rv_ni u (Or.inl (by decide))) (rv_ni u (Or.inl (by decide))) (congrArg (gd 24) (rv_f u (by decide))) (congrArg (gd 24) (rv_f u (by decide))) (congrArg (gd 24) (rv_f u (by decide))) (rv_ni u (Or.inl (by decide))) (congrArg (gd 16) (rv_f u (by decide))) (congrArg (gd 16) (rv_f u (by decide)))
theorem xcu_sg {h h2 : im_H} {k : Nat} {z : Int32} (u : up h h2 3 k (.int z)) (hk : k < 24) : cX h2 = (Ct.s_sg (cX h) (udt (cX h).sg k z)) := cX_of (fun i j hi => u.2 _ _ (Or.inl (by omega))) (congrArg (gd 100) (rv_f u (by decide))) (rv_ni u (Or.inl (by decide))) (rv_ni u (Or.inl (by decide))) (gd_up hk (rv_of u.1) (fun m hm => rv_ni u (Or.inr hm))) (congrArg (gd 24) (rv_f u (by decide))) (congrArg (gd 24) (rv_f u (by decide))) (rv_ni u (Or.inl (by decide))) (congrArg (gd 16) (rv_f u (by decide))) (congrArg (gd 16) (rv_f u (by decide)))
theorem xcu_ag {h h2 : im_H} {k : Nat} {z : Int32} (u : up h h2 4 k (.int z)) (hk : k < 24) : cX h2 = (Ct.s_ag (cX h) (udt (cX h).ag k z)) := cX_of (fun i j hi => u.2 _ _ (Or.inl (by omega))) (congrArg (gd 100) (rv_f u (by decide))) (rv_ni u (Or.inl (by decide))) (rv_ni u (Or.inl (by decide))) (congrArg (gd 24) (rv_f u (by decide))) (gd_up hk (rv_of u.1) (fun m hm => rv_ni u (Or.inr hm))) (congrArg (gd 24) (rv_f u (by decide))) (rv_ni u (Or.inl (by decide))) (congrArg (gd 16) (rv_f u (by decide))) (congrArg (gd 16) (rv_f u (by decide)))
theorem xcu_kn {h h2 : im_H} {k : Nat} {z : Int32} (u : up h h2 5 k (.int z)) (hk : k < 24) : cX h2 = (Ct.s_kn (cX h) (udt (cX h).kn k z)) := cX_of (fun i j hi => u.2 _ _ (Or.inl (by omega))) (congrArg (gd 100) (rv_f u (by decide))) (rv_ni u (Or.inl (by decide))) (rv_ni u (Or.inl (by decide))) (congrArg (gd 24) (rv_f u (by decide))) (congrArg (gd 24) (rv_f u (by decide))) (gd_up hk (rv_of u.1) (fun m hm => rv_ni u (Or.inr hm))) (rv_ni u (Or.inl (by decide))) (congrArg (gd 16) (rv_f u (by decide))) (congrArg (gd 16) (rv_f u (by decide)))
theorem xcu_wc {h h2 : im_H} {k : Nat} {z : Int32} (u : up h h2 9 k (.int z)) (hk : k < 16) : cX h2 = (Ct.s_wc (cX h) (udt (cX h).wc k z)) := cX_of (fun i j hi => u.2 _ _ (Or.inl (by omega))) (congrArg (gd 100) (rv_f u (by decide))) (rv_ni u (Or.inl (by decide))) (rv_ni u (Or.inl (by decide))) (congrArg (gd 24) (rv_f u (by decide))) (congrArg (gd 24) (rv_f u (by decide))) (congrArg (gd 24) (rv_f u (by decide))) (rv_ni u (Or.inl (by decide))) (gd_up hk (rv_of u.1) (fun m hm => rv_ni u (Or.inr hm))) (congrArg (gd 16) (rv_f u (by decide)))
theorem xcu_wt {h h2 : im_H} {k : Nat} {z : Int32} (u : up h h2 10 k (.int z)) (hk : k < 16) : cX h2 = (Ct.s_wt (cX h) (udt (cX h).wt k z)) := cX_of (fun i j hi => u.2 _ _ (Or.inl (by omega))) (congrArg (gd 100) (rv_f u (by decide))) (rv_ni u (Or.inl (by decide))) (rv_ni u (Or.inl (by decide))) (congrArg (gd 24) (rv_f u (by decide))) (congrArg (gd 24) (rv_f u (by decide))) (congrArg (gd 24) (rv_f u (by decide))) (rv_ni u (Or.inl (by decide))) (congrArg (gd 16) (rv_f u (by decide))) (gd_up hk (rv_of u.1) (fun m hm => rv_ni u (Or.inr hm)))
theorem xcu_tip {h h2 : im_H} {z : Int32} (u : up h h2 1 1 (.int z)) : cX h2 = (Ct.s_tip (cX h) (z)) := cX_of (fun i j hi => u.2 _ _ (Or.inl (by omega))) (congrArg (gd 100) (rv_f u (by decide))) (rv_of u.1) (rv_ni u (Or.inr (by decide))) (congrArg (gd 24) (rv_f u (by decide))) (congrArg (gd 24) (rv_f u (by decide))) (congrArg (gd 24) (rv_f u (by decide))) (rv_ni u (Or.inr (by decide))) (congrArg (gd 16) (rv_f u (by decide))) (congrArg (gd 16) (rv_f u (by decide)))
theorem xcu_np {h h2 : im_H} {z : Int32} (u : up h h2 1 2 (.int z)) : cX h2 = (Ct.s_np (cX h) (z)) := cX_of (fun i j hi => u.2 _ _ (Or.inl (by omega))) (congrArg (gd 100) (rv_f u (by decide))) (rv_ni u (Or.inr (by decide))) (rv_of u.1) (congrArg (gd 24) (rv_f u (by decide))) (congrArg (gd 24) (rv_f u (by decide))) (congrArg (gd 24) (rv_f u (by decide))) (rv_ni u (Or.inr (by decide))) (congrArg (gd 16) (rv_f u (by decide))) (congrArg (gd 16) (rv_f u (by decide)))
theorem xcu_nw {h h2 : im_H} {z : Int32} (u : up h h2 1 9 (.int z)) : cX h2 = (Ct.s_nw (cX h) (z)) := cX_of (fun i j hi => u.2 _ _ (Or.inl (by omega))) (congrArg (gd 100) (rv_f u (by decide))) (rv_ni u (Or.inr (by decide))) (rv_ni u (Or.inr (by decide))) (congrArg (gd 24) (rv_f u (by decide))) (congrArg (gd 24) (rv_f u (by decide))) (congrArg (gd 24) (rv_f u (by decide))) (rv_of u.1) (congrArg (gd 16) (rv_f u (by decide))) (congrArg (gd 16) (rv_f u (by decide)))
theorem xcu_o {h h2 : im_H} {i k : Nat} {v : Value} (u : up h h2 i k v) (hi : 22 < i) : cX h2 = cX h := cX_0 (fun j m hj => u.2 _ _ (Or.inl (by omega))) (congrArg (gd 100) (rv_f u (by omega))) (rv_ni u (Or.inl (by omega))) (rv_ni u (Or.inl (by omega))) (congrArg (gd 24) (rv_f u (by omega))) (congrArg (gd 24) (rv_f u (by omega))) (congrArg (gd 24) (rv_f u (by omega))) (rv_ni u (Or.inl (by omega))) (congrArg (gd 16) (rv_f u (by omega))) (congrArg (gd 16) (rv_f u (by omega)))
theorem cM_of {h H : im_H} {kd : Nat → Int32} {tip : Int32} {np : Int32} {sg : Nat → Int32} {ag : Nat → Int32} {kn : Nat → Int32} {nw : Int32} {wc : Nat → Int32} {wt : Nat → Int32} (e : ∀ i k, (160 ≤ i ∧ i < 167) → rd H i k = rd h i k) (hkd : gd 100 (rv H 152) = kd) (htip : rv H 148 9 = tip) (hnp : rv H 148 10 = np) (hsg : gd 24 (rv H 157) = sg) (hag : gd 24 (rv H 158) = ag) (hkn : gd 24 (rv H 159) = kn) (hnw : rv H 148 21 = nw) (hwc : gd 16 (rv H 167) = wc) (hwt : gd 16 (rv H 168) = wt) : cM H = (Ct.mk (kd) (tip) (np) (sg) (ag) (kn) (Ct.ro (cM h)) (Ct.hd (cM h)) (Ct.hn (cM h)) (Ct.hf (cM h)) (Ct.ht (cM h)) (Ct.wn (cM h)) (Ct.cr (cM h)) (Ct.wf (cM h)) (Ct.wl (cM h)) (nw) (wc) (wt) (Ct.sd (cM h))) := by
  have ef : ∀ i, (160 ≤ i ∧ i < 167) → rv H i = rv h i := fun i hi => funext fun k => by unfold rv; rw [e i k hi]
  have er : ∀ p n r, roR H p n r = roR h p n r := by
    intro p n
    induction n with
    | zero => intro r; rfl
    | succ n ih =>
      intro r
      unfold roR
      rw [ef 161 (by omega), ef 160 (by omega), ih]
  unfold cM ctM
  rw [hkd, htip, hnp, hsg, hag, hkn, hnw, hwc, hwt, ef 160 (by omega), ef 161 (by omega), ef 162 (by omega), ef 163 (by omega), ef 164 (by omega), ef 165 (by omega), ef 166 (by omega), show (fun p => roR H p 4 0) = fun p => roR h p 4 0 from funext fun p => er p 4 0]
theorem cM_0 {h H : im_H} (e : ∀ i k, (160 ≤ i ∧ i < 167) → rd H i k = rd h i k) (hkd : gd 100 (rv H 152) = gd 100 (rv h 152)) (htip : rv H 148 9 = rv h 148 9) (hnp : rv H 148 10 = rv h 148 10) (hsg : gd 24 (rv H 157) = gd 24 (rv h 157)) (hag : gd 24 (rv H 158) = gd 24 (rv h 158)) (hkn : gd 24 (rv H 159) = gd 24 (rv h 159)) (hnw : rv H 148 21 = rv h 148 21) (hwc : gd 16 (rv H 167) = gd 16 (rv h 167)) (hwt : gd 16 (rv H 168) = gd 16 (rv h 168)) : cM H = cM h := (cM_of (kd := (cM h).kd) (tip := (cM h).tip) (np := (cM h).np) (sg := (cM h).sg) (ag := (cM h).ag) (kn := (cM h).kn) (nw := (cM h).nw) (wc := (cM h).wc) (wt := (cM h).wt) e hkd htip hnp hsg hag hkn hnw hwc hwt).trans (Ct.eta' (cM h))
theorem mcu_kd {h h2 : im_H} {k : Nat} {z : Int32} (u : up h h2 152 k (.int z)) (hk : k < 100) : cM h2 = (Ct.s_kd (cM h) (udt (cM h).kd k z)) := cM_of (fun i j hi => u.2 _ _ (Or.inl (by omega))) (gd_up hk (rv_of u.1) (fun m hm => rv_ni u (Or.inr hm))) (rv_ni u (Or.inl (by decide))) (rv_ni u (Or.inl (by decide))) (congrArg (gd 24) (rv_f u (by decide))) (congrArg (gd 24) (rv_f u (by decide))) (congrArg (gd 24) (rv_f u (by decide))) (rv_ni u (Or.inl (by decide))) (congrArg (gd 16) (rv_f u (by decide))) (congrArg (gd 16) (rv_f u (by decide)))
theorem mcu_sg {h h2 : im_H} {k : Nat} {z : Int32} (u : up h h2 157 k (.int z)) (hk : k < 24) : cM h2 = (Ct.s_sg (cM h) (udt (cM h).sg k z)) := cM_of (fun i j hi => u.2 _ _ (Or.inl (by omega))) (congrArg (gd 100) (rv_f u (by decide))) (rv_ni u (Or.inl (by decide))) (rv_ni u (Or.inl (by decide))) (gd_up hk (rv_of u.1) (fun m hm => rv_ni u (Or.inr hm))) (congrArg (gd 24) (rv_f u (by decide))) (congrArg (gd 24) (rv_f u (by decide))) (rv_ni u (Or.inl (by decide))) (congrArg (gd 16) (rv_f u (by decide))) (congrArg (gd 16) (rv_f u (by decide)))
theorem mcu_ag {h h2 : im_H} {k : Nat} {z : Int32} (u : up h h2 158 k (.int z)) (hk : k < 24) : cM h2 = (Ct.s_ag (cM h) (udt (cM h).ag k z)) := cM_of (fun i j hi => u.2 _ _ (Or.inl (by omega))) (congrArg (gd 100) (rv_f u (by decide))) (rv_ni u (Or.inl (by decide))) (rv_ni u (Or.inl (by decide))) (congrArg (gd 24) (rv_f u (by decide))) (gd_up hk (rv_of u.1) (fun m hm => rv_ni u (Or.inr hm))) (congrArg (gd 24) (rv_f u (by decide))) (rv_ni u (Or.inl (by decide))) (congrArg (gd 16) (rv_f u (by decide))) (congrArg (gd 16) (rv_f u (by decide)))
theorem mcu_kn {h h2 : im_H} {k : Nat} {z : Int32} (u : up h h2 159 k (.int z)) (hk : k < 24) : cM h2 = (Ct.s_kn (cM h) (udt (cM h).kn k z)) := cM_of (fun i j hi => u.2 _ _ (Or.inl (by omega))) (congrArg (gd 100) (rv_f u (by decide))) (rv_ni u (Or.inl (by decide))) (rv_ni u (Or.inl (by decide))) (congrArg (gd 24) (rv_f u (by decide))) (congrArg (gd 24) (rv_f u (by decide))) (gd_up hk (rv_of u.1) (fun m hm => rv_ni u (Or.inr hm))) (rv_ni u (Or.inl (by decide))) (congrArg (gd 16) (rv_f u (by decide))) (congrArg (gd 16) (rv_f u (by decide)))
theorem mcu_wc {h h2 : im_H} {k : Nat} {z : Int32} (u : up h h2 167 k (.int z)) (hk : k < 16) : cM h2 = (Ct.s_wc (cM h) (udt (cM h).wc k z)) := cM_of (fun i j hi => u.2 _ _ (Or.inl (by omega))) (congrArg (gd 100) (rv_f u (by decide))) (rv_ni u (Or.inl (by decide))) (rv_ni u (Or.inl (by decide))) (congrArg (gd 24) (rv_f u (by decide))) (congrArg (gd 24) (rv_f u (by decide))) (congrArg (gd 24) (rv_f u (by decide))) (rv_ni u (Or.inl (by decide))) (gd_up hk (rv_of u.1) (fun m hm => rv_ni u (Or.inr hm))) (congrArg (gd 16) (rv_f u (by decide)))
theorem mcu_wt {h h2 : im_H} {k : Nat} {z : Int32} (u : up h h2 168 k (.int z)) (hk : k < 16) : cM h2 = (Ct.s_wt (cM h) (udt (cM h).wt k z)) := cM_of (fun i j hi => u.2 _ _ (Or.inl (by omega))) (congrArg (gd 100) (rv_f u (by decide))) (rv_ni u (Or.inl (by decide))) (rv_ni u (Or.inl (by decide))) (congrArg (gd 24) (rv_f u (by decide))) (congrArg (gd 24) (rv_f u (by decide))) (congrArg (gd 24) (rv_f u (by decide))) (rv_ni u (Or.inl (by decide))) (congrArg (gd 16) (rv_f u (by decide))) (gd_up hk (rv_of u.1) (fun m hm => rv_ni u (Or.inr hm)))
theorem mcu_tip {h h2 : im_H} {z : Int32} (u : up h h2 148 9 (.int z)) : cM h2 = (Ct.s_tip (cM h) (z)) := cM_of (fun i j hi => u.2 _ _ (Or.inl (by omega))) (congrArg (gd 100) (rv_f u (by decide))) (rv_of u.1) (rv_ni u (Or.inr (by decide))) (congrArg (gd 24) (rv_f u (by decide))) (congrArg (gd 24) (rv_f u (by decide))) (congrArg (gd 24) (rv_f u (by decide))) (rv_ni u (Or.inr (by decide))) (congrArg (gd 16) (rv_f u (by decide))) (congrArg (gd 16) (rv_f u (by decide)))
theorem mcu_np {h h2 : im_H} {z : Int32} (u : up h h2 148 10 (.int z)) : cM h2 = (Ct.s_np (cM h) (z)) := cM_of (fun i j hi => u.2 _ _ (Or.inl (by omega))) (congrArg (gd 100) (rv_f u (by decide))) (rv_ni u (Or.inr (by decide))) (rv_of u.1) (congrArg (gd 24) (rv_f u (by decide))) (congrArg (gd 24) (rv_f u (by decide))) (congrArg (gd 24) (rv_f u (by decide))) (rv_ni u (Or.inr (by decide))) (congrArg (gd 16) (rv_f u (by decide))) (congrArg (gd 16) (rv_f u (by decide)))
theorem mcu_nw {h h2 : im_H} {z : Int32} (u : up h h2 148 21 (.int z)) : cM h2 = (Ct.s_nw (cM h) (z)) := cM_of (fun i j hi => u.2 _ _ (Or.inl (by omega))) (congrArg (gd 100) (rv_f u (by decide))) (rv_ni u (Or.inr (by decide))) (rv_ni u (Or.inr (by decide))) (congrArg (gd 24) (rv_f u (by decide))) (congrArg (gd 24) (rv_f u (by decide))) (congrArg (gd 24) (rv_f u (by decide))) (rv_of u.1) (congrArg (gd 16) (rv_f u (by decide))) (congrArg (gd 16) (rv_f u (by decide)))
theorem mcu_o {h h2 : im_H} {i k : Nat} {v : Value} (u : up h h2 i k v) (hi : i = 149 ∨ i < 148 ∨ 168 < i) : cM h2 = cM h := cM_0 (fun j m hj => u.2 _ _ (Or.inl (by omega))) (congrArg (gd 100) (rv_f u (by omega))) (rv_ni u (Or.inl (by omega))) (rv_ni u (Or.inl (by omega))) (congrArg (gd 24) (rv_f u (by omega))) (congrArg (gd 24) (rv_f u (by omega))) (congrArg (gd 24) (rv_f u (by omega))) (rv_ni u (Or.inl (by omega))) (congrArg (gd 16) (rv_f u (by omega))) (congrArg (gd 16) (rv_f u (by omega)))
theorem xu_hm {h h2 : im_H} {s k : Nat} {z : Int32} (u : up h h2 (s + 3) k (.int z)) (hk : k < 24) : absX h2 s = (Dy.s_hm (absX h s) (udt (absX h s).hm k z)) := by
  have e : gd 24 (rv h2 (s + 3)) = udt (gd 24 (rv h (s + 3))) k z := gd_up hk (rv_of u.1) (fun m hm => rv_ni u (Or.inr hm))
  have es := rv_f u (show s ≠ s + 3 by omega)
  unfold absX
  rw [e, rv_f u (show s + 2 ≠ s + 3 by omega), rv_f u (show s + 4 ≠ s + 3 by omega), rv_f u (show s + 5 ≠ s + 3 by omega), rv_f u (show s + 7 ≠ s + 3 by omega), rv_f u (show s + 8 ≠ s + 3 by omega), rv_f u (show s + 9 ≠ s + 3 by omega), rv_f u (show s + 11 ≠ s + 3 by omega), rv_f u (show s + 12 ≠ s + 3 by omega), rv_f u (show s + 13 ≠ s + 3 by omega), rv_f u (show s + 1 ≠ s + 3 by omega), es]
theorem xu_o {h h2 : im_H} {s i k : Nat} {v : Value} (u : up h h2 i k v) (hi : i < s ∨ s + 13 < i) : absX h2 s = absX h s := by
  have es := rv_f u (show s ≠ i by omega)
  unfold absX
  rw [rv_f u (show s + 2 ≠ i by omega), rv_f u (show s + 3 ≠ i by omega), rv_f u (show s + 4 ≠ i by omega), rv_f u (show s + 5 ≠ i by omega), rv_f u (show s + 7 ≠ i by omega), rv_f u (show s + 8 ≠ i by omega), rv_f u (show s + 9 ≠ i by omega), rv_f u (show s + 11 ≠ i by omega), rv_f u (show s + 12 ≠ i by omega), rv_f u (show s + 13 ≠ i by omega), rv_f u (show s + 1 ≠ i by omega), es]
theorem mu_o {h h2 : im_H} {i k : Nat} {v : Value} (u : up h h2 i k v) (hi : i ≠ 149) : absM h2 = absM h := by
  have e : rv h2 149 = rv h 149 := rv_f u (fun q => hi q.symm)
  have er : ∀ o, rM h2 o = rM h o := fun o => by unfold rM; rw [e]
  unfold absM
  rw [er, er, er, er, er, er, er, er, er, er, er, e]
theorem mu_hm {h h2 : im_H} {i k : Nat} {z : Int32} (u : up h h2 149 k (.int z)) (hk : k = 140 + i) (hi : i < 24) : absM h2 = (Dy.s_hm (absM h) (udt (absM h).hm i z)) := by
  unfold absM
  rw [gM_u (o := 140) (n := 24) u hk hi, gM_n (o := 0) (n := 100) u (by omega), gM_n (o := 188) (n := 24) u (by omega), gM_n (o := 124) (n := 16) u (by omega), gM_n (o := 108) (n := 16) u (by omega), gM_n (o := 272) (n := 4) u (by omega), gM_n (o := 276) (n := 4) u (by omega), gM_n (o := 280) (n := 3) u (by omega), gM_n (o := 100) (n := 3) u (by omega), gM_n (o := 236) (n := 24) u (by omega), hM_n u (by omega), rv_ni u (show 149 ≠ 149 ∨ 103 ≠ k from Or.inr (by omega)), rv_ni u (show 149 ≠ 149 ∨ 104 ≠ k from Or.inr (by omega)), rv_ni u (show 149 ≠ 149 ∨ 105 ≠ k from Or.inr (by omega)), rv_ni u (show 149 ≠ 149 ∨ 106 ≠ k from Or.inr (by omega)), rv_ni u (show 149 ≠ 149 ∨ 107 ≠ k from Or.inr (by omega))]
theorem xc_fr {F : List (Nat × Nat × Nat)} {h H : im_H} (f : fr F h H) (a : ∀ q ∈ F, 22 < q.1 ∨ q.1 = 11 ∨ q.1 = 0) : cX H = cX h := by
  have e : ∀ i k, (i < 11 ∨ (11 < i ∧ i < 23)) → i ≠ 0 → rd H i k = rd h i k := fun i k hi h0 => f _ _ (inF_no (fun q hq e => by have := a q hq; omega))
  have ef : ∀ i, (i < 11 ∨ (11 < i ∧ i < 23)) → i ≠ 0 → rv H i = rv h i := fun i hi h0 => funext fun k => by unfold rv; rw [e i k hi h0]
  exact cX_0 (fun i k hi => e i k (by omega) (by omega)) (congrArg (gd 100) (ef 2 (by decide) (by decide))) (congrFun (ef 1 (by decide) (by decide)) _) (congrFun (ef 1 (by decide) (by decide)) _) (congrArg (gd 24) (ef 3 (by decide) (by decide))) (congrArg (gd 24) (ef 4 (by decide) (by decide))) (congrArg (gd 24) (ef 5 (by decide) (by decide))) (congrFun (ef 1 (by decide) (by decide)) _) (congrArg (gd 16) (ef 9 (by decide) (by decide))) (congrArg (gd 16) (ef 10 (by decide) (by decide)))
theorem mc_fr {F : List (Nat × Nat × Nat)} {h H : im_H} (f : fr F h H) (a : ∀ q ∈ F, q.1 < 148 ∨ q.1 = 149 ∨ q.1 = 150 ∨ q.1 = 151 ∨ 168 < q.1 ∨ (q.1 = 148 ∧ 21 < q.2.1)) : cM H = cM h := by
  have e : ∀ i k, ((i = 148 ∧ k < 22) ∨ (152 ≤ i ∧ i < 169)) → rd H i k = rd h i k := fun i k hi => f _ _ (inF_no2 (fun q hq e => by have := a q hq; omega))
  have ef : ∀ i, (152 ≤ i ∧ i < 169) → rv H i = rv h i := fun i hi => funext fun k => by unfold rv; rw [e i k (Or.inr hi)]
  have ep : ∀ k, k < 22 → rv H 148 k = rv h 148 k := fun k hk => by unfold rv; rw [e 148 k (Or.inl ⟨rfl, hk⟩)]
  exact cM_0 (fun i k hi => e i k (by omega)) (congrArg (gd 100) (ef 152 (by decide))) (ep 9 (by decide)) (ep 10 (by decide)) (congrArg (gd 24) (ef 157 (by decide))) (congrArg (gd 24) (ef 158 (by decide))) (congrArg (gd 24) (ef 159 (by decide))) (ep 21 (by decide)) (congrArg (gd 16) (ef 167 (by decide))) (congrArg (gd 16) (ef 168 (by decide)))
noncomputable def ruin_f (x1 x2 x3 : Int32) (c : Ct) (A : Dy) : Int32 × Ct × Dy := if (0 ≤ x1.toInt ∧ x1.toInt ≤ 99) then (if 0 ≤ x2.toInt ∧ x2.toInt ≤ 5 ∧ 0 ≤ x3.toInt ∧ x3.toInt ≤ 9999 then (A.ld x1.toInt.toNat, (Ct.s_kd c (udt c.kd x1.toInt.toNat x2)), (Dy.s_ld A (udt A.ld x1.toInt.toNat x3))) else (-2, c, A)) else (-1, c, A)
noncomputable def weather_f (x1 x2 : Int32) (c : Ct) (A : Dy) : Int32 × Ct × Dy := if 0 ≤ x1.toInt ∧ x1.toInt ≤ 9 ∧ 0 ≤ x2.toInt ∧ x2.toInt ≤ 9 then (10 * A.we + A.wi, c, (Dy.s_wi (Dy.s_we A (x1)) (x2))) else (-2, c, A)
noncomputable def tip_f (x1 : Int32) (c : Ct) (A : Dy) : Int32 × Ct × Dy := if -1 ≤ x1.toInt ∧ x1.toInt ≤ 99 then (c.tip, (Ct.s_tip c (x1)), A) else (-5, c, A)
noncomputable def moves_f (x1 x2 : Int32) (c : Ct) (A : Dy) : Int32 × Ct × Dy := if 0 ≤ x1.toInt ∧ x1.toInt < c.np.toInt ∧ (0 ≤ x2.toInt ∧ x2.toInt ≤ 99) then (if (A.de x1.toInt.toNat).toInt = 1 then (-3, c, A) else (A.hm x1.toInt.toNat, c, (Dy.s_hm A (udt A.hm x1.toInt.toNat x2)))) else (-1, c, A)
noncomputable def person_f (x1 x2 x3 x4 : Int32) (c : Ct) (A : Dy) : Int32 × Ct × Dy := if (0 ≤ x1.toInt ∧ x1.toInt ≤ 99) then (if 1 ≤ x2.toInt ∧ x2.toInt ≤ 9 ∧ 0 ≤ x3.toInt ∧ x3.toInt ≤ 99 ∧ 0 ≤ x4.toInt ∧ x4.toInt ≤ 9 then (if 24 ≤ c.np.toInt then (-4, c, A) else (c.np, (Ct.mk (Ct.kd c) (Ct.tip c) (c.np + 1) (udt c.sg c.np.toInt.toNat x2) (udt c.ag c.np.toInt.toNat x3) (udt c.kn c.np.toInt.toNat x4) (Ct.ro c) (Ct.hd c) (Ct.hn c) (Ct.hf c) (Ct.ht c) (Ct.wn c) (Ct.cr c) (Ct.wf c) (Ct.wl c) (Ct.nw c) (Ct.wc c) (Ct.wt c) (Ct.sd c)), (Dy.s_hm A (udt A.hm c.np.toInt.toNat x1)))) else (-2, c, A)) else (-1, c, A)
noncomputable def wall_f (x1 x2 x3 : Int32) (c : Ct) (A : Dy) : Int32 × Ct × Dy := if (0 ≤ x1.toInt ∧ x1.toInt ≤ 99) then (if 0 ≤ x2.toInt ∧ x2.toInt ≤ 3 ∧ 1 ≤ x3.toInt ∧ x3.toInt ≤ 99 then (if (nbr x1 x2).toInt = -1 then (-3, c, A) else if 16 ≤ c.nw.toInt then (-4, c, A) else (c.nw, (Ct.mk (Ct.kd c) (Ct.tip c) (Ct.np c) (Ct.sg c) (Ct.ag c) (Ct.kn c) (Ct.ro c) (Ct.hd c) (Ct.hn c) (Ct.hf c) (Ct.ht c) (Ct.wn c) (Ct.cr c) (Ct.wf c) (Ct.wl c) (c.nw + 1) (udt c.wc c.nw.toInt.toNat x1) (udt c.wt c.nw.toInt.toNat (nbr x1 x2)) (Ct.sd c)), (Dy.s_up (Dy.s_st A (udt A.st c.nw.toInt.toNat x3)) (udt A.up c.nw.toInt.toNat 1)))) else (-2, c, A)) else (-1, c, A)
abbrev Q1_ruin (x1 x2 x3 : Int32) (y : Int32) (h h2 : im_H) : Prop := (y, cX h2, absX h2 23) = ruin_f x1 x2 x3 (cX h) (absX h 23)
set_option maxRecDepth 20000 in
set_option maxHeartbeats 4000000 in
theorem c_X11_ruin {x1 : Int32} {x2 : Int32} {x3 : Int32} {h : im_H} (hI : tI h)  : CaP 8 61 [.ref 16, .int x1, .int x2, .int x3] h (fun v h2 => tI h2 ∧ fr F_X11_ruin h h2 ∧ ∃ y : Int32, v = some (.int y) ∧ Q1_ruin x1 x2 x3 y h h2) := by
  refine cap_of (d := 7) (M := mX11_ruin) rfl (Nat.le_of_ble_eq_true rfl) ?_
  show EvP im_K0 7 mX11_ruin (0, [(0, .ref 16), (1, .int x1), (2, .int x2), (3, .int x3)], [], h) _
  have f0 : fr F_X11_ruin h h := fr_rf
  refine te_iload_n (p2 := 1) rfl rfl rfl ?_
  refine te_bipush (p2 := 3) (x := 100) rfl rfl (by decide) ?_
  refine cS_pI (p2 := 6) rfl rfl rfl rfl (t_X11_within (n := x1) (b := 100) hI ) (by decide) (fun y1 r1 => ?_)
  rcases r1 with ⟨w1, c1⟩ | ⟨w1, c1⟩
  · subst w1
    have cc1_1 := (show Int32.toInt 100 = 100 from rfl)
    refine tz_ne (p2 := 9) rfl rfl (show Int32.toInt 1 = 1 from rfl) (fun c2 => ?_) (fun c2 => absurd c2 (by omega))
    refine te_iload_n (p2 := 12) rfl rfl rfl ?_
    refine te_bipush (p2 := 14) (x := 6) rfl rfl (by decide) ?_
    refine cS_pI (p2 := 17) rfl rfl rfl rfl (t_X11_within (n := x2) (b := 6) hI ) (by decide) (fun y3 r3 => ?_)
    rcases r3 with ⟨w3, c3⟩ | ⟨w3, c3⟩
    · subst w3
      have cc3_1 := (show Int32.toInt 6 = 6 from rfl)
      refine tz_eq (p2 := 20) rfl rfl (show Int32.toInt 1 = 1 from rfl) (fun c4 => absurd c4 (by omega)) (fun c4 => ?_)
      refine te_iload_n (p2 := 21) rfl rfl rfl ?_
      refine te_iconst (p2 := 22) (x := 0) rfl rfl (by decide) ?_
      refine te_sipush (p2 := 25) (x := 9999) rfl rfl (by decide) ?_
      refine cS_pI (p2 := 28) rfl rfl rfl rfl (t_X11_between (n := x3) (a := 0) (b := 9999) hI ) (by decide) (fun y5 r5 => ?_)
      rcases r5 with ⟨w5, c5⟩ | ⟨w5, c5⟩
      · subst w5
        have cc5_1 := (show Int32.toInt 0 = 0 from rfl)
        have cc5_2 := (show Int32.toInt 9999 = 9999 from rfl)
        refine tz_ne (p2 := 31) rfl rfl (show Int32.toInt 1 = 1 from rfl) (fun c6 => ?_) (fun c6 => absurd c6 (by omega))
        refine te_aload_n (p2 := 35) rfl rfl rfl ?_
        refine tg_r (p2 := 38) (i := 0) (r := 39) rfl rfl hI rfl rfl rfl ?_
        refine tg_r (p2 := 41) (i := 23) (r := 41) rfl rfl hI rfl rfl rfl ?_
        refine te_iload_n (p2 := 42) rfl rfl rfl ?_
        refine tl_i (p2 := 43) (i := 25) (n := 100) rfl rfl hI rfl rfl rfl rfl (by omega) (by omega) (fun y7 a7 b7 g7 e7 => ?_)
        refine te_istore (p2 := 45) (lv2 := [(4, .int y7), (0, .ref 16), (1, .int x1), (2, .int x2), (3, .int x3)]) rfl rfl (by decide) rfl ?_
        refine te_aload_n (p2 := 46) rfl rfl rfl ?_
        refine tg_r (p2 := 49) (i := 0) (r := 17) rfl rfl hI rfl rfl rfl ?_
        refine tg_r (p2 := 52) (i := 1) (r := 18) rfl rfl hI rfl rfl rfl ?_
        refine te_iload_n (p2 := 53) rfl rfl rfl ?_
        refine te_iload_n (p2 := 54) rfl rfl rfl ?_
        refine ts_i (p2 := 55) (i := 2) (n := 100) rfl rfl hI rfl rfl rfl rfl (by omega) (by omega) (by omega) (by omega) (by omega) rfl (fun h8 I8 u8 => ?_)
        have f8 := fr_st (F := F_X11_ruin) 0 f0 u8 rfl (by omega) (by omega)
        refine te_aload_n (p2 := 56) rfl rfl rfl ?_
        refine tg_r (p2 := 59) (i := 0) (r := 39) rfl rfl I8 rfl rfl rfl ?_
        refine tg_r (p2 := 62) (i := 23) (r := 41) rfl rfl I8 rfl rfl rfl ?_
        refine te_iload_n (p2 := 63) rfl rfl rfl ?_
        refine te_iload_n (p2 := 64) rfl rfl rfl ?_
        refine ts_i (p2 := 65) (i := 25) (n := 100) rfl rfl I8 rfl rfl rfl rfl (by omega) (by omega) (i32_lo _) (i32_hi _) (i32_ho _) rfl (fun h9 I9 u9 => ?_)
        have f9 := fr_st (F := F_X11_ruin) 1 f8 u9 rfl (by omega) (by omega)
        refine te_iload (p2 := 67) rfl rfl rfl ?_
        exact te_iret rfl rfl ⟨I9, f9, _, rfl, (by show (y7, cX h9, absX h9 23) = _; rw [xcu_o u9 (by decide), xcu_kd u8 (by omega), xu_ld (s := 23) u9 (by omega), xu_o (s := 23) u8 (by decide)]; unfold ruin_f; rw [(show (absX h 23).ld x1.toInt.toNat = y7 from (aX_ld (by omega)).trans (rv_of e7))]; (repeat' split) <;> first | (exfalso; omega) | (simp only [Dy.mk, Dy.ld, Dy.hm, Dy.hu, Dy.wk, Dy.de, Dy.st, Dy.up, Dy.rl, Dy.rs, Dy.ra, Dy.kp, Dy.du, Dy.ti, Dy.da, Dy.we, Dy.wi, Dy.s_ld, Dy.s_hm, Dy.s_hu, Dy.s_wk, Dy.s_de, Dy.s_st, Dy.s_up, Dy.s_rl, Dy.s_rs, Dy.s_ra, Dy.s_kp, Dy.s_du, Dy.s_ti, Dy.s_da, Dy.s_we, Dy.s_wi, Ct.mk, Ct.kd, Ct.tip, Ct.np, Ct.sg, Ct.ag, Ct.kn, Ct.ro, Ct.hd, Ct.hn, Ct.hf, Ct.ht, Ct.wn, Ct.cr, Ct.wf, Ct.wl, Ct.nw, Ct.wc, Ct.wt, Ct.sd, Ct.s_kd, Ct.s_tip, Ct.s_np, Ct.s_sg, Ct.s_ag, Ct.s_kn, Ct.s_ro, Ct.s_hd, Ct.s_hn, Ct.s_hf, Ct.s_ht, Ct.s_wn, Ct.s_cr, Ct.s_wf, Ct.s_wl, Ct.s_nw, Ct.s_wc, Ct.s_wt, Ct.s_sd]; done) | rfl)⟩
      · subst w5
        have cc5_1 := (show Int32.toInt 0 = 0 from rfl)
        have cc5_2 := (show Int32.toInt 9999 = 9999 from rfl)
        refine tz_ne (p2 := 31) rfl rfl (show Int32.toInt 0 = 0 from rfl) (fun c10 => absurd c10 (by omega)) (fun c10 => ?_)
        refine te_bipush (p2 := 33) (x := (-2)) rfl rfl (by decide) ?_
        exact te_iret rfl rfl ⟨hI, f0, _, rfl, (by show ((-2), cX h, absX h 23) = _; (have c0_ := (show Int32.toInt (-2) = (-2) from rfl)); unfold ruin_f; (repeat' split) <;> first | (exfalso; omega) | (simp only [Dy.mk, Dy.ld, Dy.hm, Dy.hu, Dy.wk, Dy.de, Dy.st, Dy.up, Dy.rl, Dy.rs, Dy.ra, Dy.kp, Dy.du, Dy.ti, Dy.da, Dy.we, Dy.wi, Dy.s_ld, Dy.s_hm, Dy.s_hu, Dy.s_wk, Dy.s_de, Dy.s_st, Dy.s_up, Dy.s_rl, Dy.s_rs, Dy.s_ra, Dy.s_kp, Dy.s_du, Dy.s_ti, Dy.s_da, Dy.s_we, Dy.s_wi, Ct.mk, Ct.kd, Ct.tip, Ct.np, Ct.sg, Ct.ag, Ct.kn, Ct.ro, Ct.hd, Ct.hn, Ct.hf, Ct.ht, Ct.wn, Ct.cr, Ct.wf, Ct.wl, Ct.nw, Ct.wc, Ct.wt, Ct.sd, Ct.s_kd, Ct.s_tip, Ct.s_np, Ct.s_sg, Ct.s_ag, Ct.s_kn, Ct.s_ro, Ct.s_hd, Ct.s_hn, Ct.s_hf, Ct.s_ht, Ct.s_wn, Ct.s_cr, Ct.s_wf, Ct.s_wl, Ct.s_nw, Ct.s_wc, Ct.s_wt, Ct.s_sd]; done) | rfl)⟩
    · subst w3
      have cc3_1 := (show Int32.toInt 6 = 6 from rfl)
      refine tz_eq (p2 := 20) rfl rfl (show Int32.toInt 0 = 0 from rfl) (fun c11 => ?_) (fun c11 => absurd c11 (by omega))
      refine te_bipush (p2 := 33) (x := (-2)) rfl rfl (by decide) ?_
      exact te_iret rfl rfl ⟨hI, f0, _, rfl, (by show ((-2), cX h, absX h 23) = _; (have c0_ := (show Int32.toInt (-2) = (-2) from rfl)); unfold ruin_f; (repeat' split) <;> first | (exfalso; omega) | (simp only [Dy.mk, Dy.ld, Dy.hm, Dy.hu, Dy.wk, Dy.de, Dy.st, Dy.up, Dy.rl, Dy.rs, Dy.ra, Dy.kp, Dy.du, Dy.ti, Dy.da, Dy.we, Dy.wi, Dy.s_ld, Dy.s_hm, Dy.s_hu, Dy.s_wk, Dy.s_de, Dy.s_st, Dy.s_up, Dy.s_rl, Dy.s_rs, Dy.s_ra, Dy.s_kp, Dy.s_du, Dy.s_ti, Dy.s_da, Dy.s_we, Dy.s_wi, Ct.mk, Ct.kd, Ct.tip, Ct.np, Ct.sg, Ct.ag, Ct.kn, Ct.ro, Ct.hd, Ct.hn, Ct.hf, Ct.ht, Ct.wn, Ct.cr, Ct.wf, Ct.wl, Ct.nw, Ct.wc, Ct.wt, Ct.sd, Ct.s_kd, Ct.s_tip, Ct.s_np, Ct.s_sg, Ct.s_ag, Ct.s_kn, Ct.s_ro, Ct.s_hd, Ct.s_hn, Ct.s_hf, Ct.s_ht, Ct.s_wn, Ct.s_cr, Ct.s_wf, Ct.s_wl, Ct.s_nw, Ct.s_wc, Ct.s_wt, Ct.s_sd]; done) | rfl)⟩
  · subst w1
    have cc1_1 := (show Int32.toInt 100 = 100 from rfl)
    refine tz_ne (p2 := 9) rfl rfl (show Int32.toInt 0 = 0 from rfl) (fun c12 => absurd c12 (by omega)) (fun c12 => ?_)
    refine te_iconst (p2 := 10) (x := (-1)) rfl rfl (by decide) ?_
    exact te_iret rfl rfl ⟨hI, f0, _, rfl, (by show ((-1), cX h, absX h 23) = _; (have c0_ := (show Int32.toInt (-1) = (-1) from rfl)); unfold ruin_f; (repeat' split) <;> first | (exfalso; omega) | (simp only [Dy.mk, Dy.ld, Dy.hm, Dy.hu, Dy.wk, Dy.de, Dy.st, Dy.up, Dy.rl, Dy.rs, Dy.ra, Dy.kp, Dy.du, Dy.ti, Dy.da, Dy.we, Dy.wi, Dy.s_ld, Dy.s_hm, Dy.s_hu, Dy.s_wk, Dy.s_de, Dy.s_st, Dy.s_up, Dy.s_rl, Dy.s_rs, Dy.s_ra, Dy.s_kp, Dy.s_du, Dy.s_ti, Dy.s_da, Dy.s_we, Dy.s_wi, Ct.mk, Ct.kd, Ct.tip, Ct.np, Ct.sg, Ct.ag, Ct.kn, Ct.ro, Ct.hd, Ct.hn, Ct.hf, Ct.ht, Ct.wn, Ct.cr, Ct.wf, Ct.wl, Ct.nw, Ct.wc, Ct.wt, Ct.sd, Ct.s_kd, Ct.s_tip, Ct.s_np, Ct.s_sg, Ct.s_ag, Ct.s_kn, Ct.s_ro, Ct.s_hd, Ct.s_hn, Ct.s_hf, Ct.s_ht, Ct.s_wn, Ct.s_cr, Ct.s_wf, Ct.s_wl, Ct.s_nw, Ct.s_wc, Ct.s_wt, Ct.s_sd]; done) | rfl)⟩
abbrev Q1_weather (x1 x2 : Int32) (y : Int32) (h h2 : im_H) : Prop := (y, cX h2, absX h2 23) = weather_f x1 x2 (cX h) (absX h 23)
set_option maxRecDepth 20000 in
set_option maxHeartbeats 4000000 in
theorem c_X11_weather {x1 : Int32} {x2 : Int32} {h : im_H} (hI : tI h)  : CaP 8 65 [.ref 16, .int x1, .int x2] h (fun v h2 => tI h2 ∧ fr F_X11_weather h h2 ∧ ∃ y : Int32, v = some (.int y) ∧ Q1_weather x1 x2 y h h2) := by
  refine cap_of (d := 7) (M := mX11_weather) rfl (Nat.le_of_ble_eq_true rfl) ?_
  show EvP im_K0 7 mX11_weather (0, [(0, .ref 16), (1, .int x1), (2, .int x2)], [], h) _
  have f0 : fr F_X11_weather h h := fr_rf
  refine te_iload_n (p2 := 1) rfl rfl rfl ?_
  refine te_bipush (p2 := 3) (x := 10) rfl rfl (by decide) ?_
  refine cS_pI (p2 := 6) rfl rfl rfl rfl (t_X11_within (n := x1) (b := 10) hI ) (by decide) (fun y1 r1 => ?_)
  rcases r1 with ⟨w1, c1⟩ | ⟨w1, c1⟩
  · subst w1
    have cc1_1 := (show Int32.toInt 10 = 10 from rfl)
    refine tz_eq (p2 := 9) rfl rfl (show Int32.toInt 1 = 1 from rfl) (fun c2 => absurd c2 (by omega)) (fun c2 => ?_)
    refine te_iload_n (p2 := 10) rfl rfl rfl ?_
    refine te_bipush (p2 := 12) (x := 10) rfl rfl (by decide) ?_
    refine cS_pI (p2 := 15) rfl rfl rfl rfl (t_X11_within (n := x2) (b := 10) hI ) (by decide) (fun y3 r3 => ?_)
    rcases r3 with ⟨w3, c3⟩ | ⟨w3, c3⟩
    · subst w3
      have cc3_1 := (show Int32.toInt 10 = 10 from rfl)
      refine tz_ne (p2 := 18) rfl rfl (show Int32.toInt 1 = 1 from rfl) (fun c4 => ?_) (fun c4 => absurd c4 (by omega))
      refine te_bipush (p2 := 23) (x := 10) rfl rfl (by decide) ?_
      refine te_aload_n (p2 := 24) rfl rfl rfl ?_
      refine tg_r (p2 := 27) (i := 0) (r := 39) rfl rfl hI rfl rfl rfl ?_
      refine tg_i (p2 := 30) (i := 23) rfl rfl hI rfl rfl rfl (fun y5 a5 b5 e5 => ?_)
      refine au_mul (p2 := 31) rfl rfl (fun z6 e6 => ?_)
      refine te_aload_n (p2 := 32) rfl rfl rfl ?_
      refine tg_r (p2 := 35) (i := 0) (r := 39) rfl rfl hI rfl rfl rfl ?_
      refine tg_i (p2 := 38) (i := 23) rfl rfl hI rfl rfl rfl (fun y7 a7 b7 e7 => ?_)
      refine au_add (p2 := 39) rfl rfl (fun z8 e8 => ?_)
      refine te_istore_n (p2 := 40) (lv2 := [(3, .int z8), (0, .ref 16), (1, .int x1), (2, .int x2)]) rfl rfl (by decide) rfl ?_
      refine te_aload_n (p2 := 41) rfl rfl rfl ?_
      refine tg_r (p2 := 44) (i := 0) (r := 39) rfl rfl hI rfl rfl rfl ?_
      refine te_iload_n (p2 := 45) rfl rfl rfl ?_
      refine tp_i (p2 := 48) (i := 23) rfl rfl hI rfl rfl (by decide) rfl rfl rfl (i32_lo _) (i32_hi _) (i32_ho _) rfl (fun h9 I9 u9 => ?_)
      have f9 := fr_st (F := F_X11_weather) 0 f0 u9 rfl (by decide) (by decide)
      refine te_aload_n (p2 := 49) rfl rfl rfl ?_
      refine tg_r (p2 := 52) (i := 0) (r := 39) rfl rfl I9 rfl rfl rfl ?_
      refine te_iload_n (p2 := 53) rfl rfl rfl ?_
      refine tp_i (p2 := 56) (i := 23) rfl rfl I9 rfl rfl (by decide) rfl rfl rfl (i32_lo _) (i32_hi _) (i32_ho _) rfl (fun h10 I10 u10 => ?_)
      have f10 := fr_st (F := F_X11_weather) 0 f9 u10 rfl (by decide) (by decide)
      refine te_iload_n (p2 := 57) rfl rfl rfl ?_
      exact te_iret rfl rfl ⟨I10, f10, _, rfl, (by show (z8, cX h10, absX h10 23) = _; rw [xcu_o u10 (by decide), xcu_o u9 (by decide), xu_wi u10, xu_we u9]; unfold weather_f; rw [(show (absX h 23).we = y5 from rv_of e5), (show (absX h 23).wi = y7 from rv_of e7), e6, e8]; (repeat' split) <;> first | (exfalso; omega) | (simp only [Dy.mk, Dy.ld, Dy.hm, Dy.hu, Dy.wk, Dy.de, Dy.st, Dy.up, Dy.rl, Dy.rs, Dy.ra, Dy.kp, Dy.du, Dy.ti, Dy.da, Dy.we, Dy.wi, Dy.s_ld, Dy.s_hm, Dy.s_hu, Dy.s_wk, Dy.s_de, Dy.s_st, Dy.s_up, Dy.s_rl, Dy.s_rs, Dy.s_ra, Dy.s_kp, Dy.s_du, Dy.s_ti, Dy.s_da, Dy.s_we, Dy.s_wi, Ct.mk, Ct.kd, Ct.tip, Ct.np, Ct.sg, Ct.ag, Ct.kn, Ct.ro, Ct.hd, Ct.hn, Ct.hf, Ct.ht, Ct.wn, Ct.cr, Ct.wf, Ct.wl, Ct.nw, Ct.wc, Ct.wt, Ct.sd, Ct.s_kd, Ct.s_tip, Ct.s_np, Ct.s_sg, Ct.s_ag, Ct.s_kn, Ct.s_ro, Ct.s_hd, Ct.s_hn, Ct.s_hf, Ct.s_ht, Ct.s_wn, Ct.s_cr, Ct.s_wf, Ct.s_wl, Ct.s_nw, Ct.s_wc, Ct.s_wt, Ct.s_sd]; done) | rfl)⟩
    · subst w3
      have cc3_1 := (show Int32.toInt 10 = 10 from rfl)
      refine tz_ne (p2 := 18) rfl rfl (show Int32.toInt 0 = 0 from rfl) (fun c11 => absurd c11 (by omega)) (fun c11 => ?_)
      refine te_bipush (p2 := 20) (x := (-2)) rfl rfl (by decide) ?_
      exact te_iret rfl rfl ⟨hI, f0, _, rfl, (by show ((-2), cX h, absX h 23) = _; (have c0_ := (show Int32.toInt (-2) = (-2) from rfl)); unfold weather_f; (repeat' split) <;> first | (exfalso; omega) | (simp only [Dy.mk, Dy.ld, Dy.hm, Dy.hu, Dy.wk, Dy.de, Dy.st, Dy.up, Dy.rl, Dy.rs, Dy.ra, Dy.kp, Dy.du, Dy.ti, Dy.da, Dy.we, Dy.wi, Dy.s_ld, Dy.s_hm, Dy.s_hu, Dy.s_wk, Dy.s_de, Dy.s_st, Dy.s_up, Dy.s_rl, Dy.s_rs, Dy.s_ra, Dy.s_kp, Dy.s_du, Dy.s_ti, Dy.s_da, Dy.s_we, Dy.s_wi, Ct.mk, Ct.kd, Ct.tip, Ct.np, Ct.sg, Ct.ag, Ct.kn, Ct.ro, Ct.hd, Ct.hn, Ct.hf, Ct.ht, Ct.wn, Ct.cr, Ct.wf, Ct.wl, Ct.nw, Ct.wc, Ct.wt, Ct.sd, Ct.s_kd, Ct.s_tip, Ct.s_np, Ct.s_sg, Ct.s_ag, Ct.s_kn, Ct.s_ro, Ct.s_hd, Ct.s_hn, Ct.s_hf, Ct.s_ht, Ct.s_wn, Ct.s_cr, Ct.s_wf, Ct.s_wl, Ct.s_nw, Ct.s_wc, Ct.s_wt, Ct.s_sd]; done) | rfl)⟩
  · subst w1
    have cc1_1 := (show Int32.toInt 10 = 10 from rfl)
    refine tz_eq (p2 := 9) rfl rfl (show Int32.toInt 0 = 0 from rfl) (fun c12 => ?_) (fun c12 => absurd c12 (by omega))
    refine te_bipush (p2 := 20) (x := (-2)) rfl rfl (by decide) ?_
    exact te_iret rfl rfl ⟨hI, f0, _, rfl, (by show ((-2), cX h, absX h 23) = _; (have c0_ := (show Int32.toInt (-2) = (-2) from rfl)); unfold weather_f; (repeat' split) <;> first | (exfalso; omega) | (simp only [Dy.mk, Dy.ld, Dy.hm, Dy.hu, Dy.wk, Dy.de, Dy.st, Dy.up, Dy.rl, Dy.rs, Dy.ra, Dy.kp, Dy.du, Dy.ti, Dy.da, Dy.we, Dy.wi, Dy.s_ld, Dy.s_hm, Dy.s_hu, Dy.s_wk, Dy.s_de, Dy.s_st, Dy.s_up, Dy.s_rl, Dy.s_rs, Dy.s_ra, Dy.s_kp, Dy.s_du, Dy.s_ti, Dy.s_da, Dy.s_we, Dy.s_wi, Ct.mk, Ct.kd, Ct.tip, Ct.np, Ct.sg, Ct.ag, Ct.kn, Ct.ro, Ct.hd, Ct.hn, Ct.hf, Ct.ht, Ct.wn, Ct.cr, Ct.wf, Ct.wl, Ct.nw, Ct.wc, Ct.wt, Ct.sd, Ct.s_kd, Ct.s_tip, Ct.s_np, Ct.s_sg, Ct.s_ag, Ct.s_kn, Ct.s_ro, Ct.s_hd, Ct.s_hn, Ct.s_hf, Ct.s_ht, Ct.s_wn, Ct.s_cr, Ct.s_wf, Ct.s_wl, Ct.s_nw, Ct.s_wc, Ct.s_wt, Ct.s_sd]; done) | rfl)⟩
abbrev Q1_tip (x1 : Int32) (y : Int32) (h h2 : im_H) : Prop := (y, cX h2, absX h2 23) = tip_f x1 (cX h) (absX h 23)
set_option maxRecDepth 20000 in
set_option maxHeartbeats 4000000 in
theorem c_X11_tip {x1 : Int32} {h : im_H} (hI : tI h)  : CaP 8 66 [.ref 16, .int x1] h (fun v h2 => tI h2 ∧ fr F_X11_tip h h2 ∧ ∃ y : Int32, v = some (.int y) ∧ Q1_tip x1 y h h2) := by
  refine cap_of (d := 7) (M := mX11_tip) rfl (Nat.le_of_ble_eq_true rfl) ?_
  show EvP im_K0 7 mX11_tip (0, [(0, .ref 16), (1, .int x1)], [], h) _
  have f0 : fr F_X11_tip h h := fr_rf
  refine te_iload_n (p2 := 1) rfl rfl rfl ?_
  refine te_iconst (p2 := 2) (x := (-1)) rfl rfl (by decide) ?_
  refine tb_eq (p2 := 5) rfl rfl rfl (show Int32.toInt (-1) = (-1) from rfl) (fun c1 => ?_) (fun c1 => ?_)
  · refine te_aload_n (p2 := 18) rfl rfl rfl ?_
    refine tg_r (p2 := 21) (i := 0) (r := 17) rfl rfl hI rfl rfl rfl ?_
    refine tg_i (p2 := 24) (i := 1) rfl rfl hI rfl rfl rfl (fun y2 a2 b2 e2 => ?_)
    refine te_istore_n (p2 := 25) (lv2 := [(2, .int y2), (0, .ref 16), (1, .int x1)]) rfl rfl (by decide) rfl ?_
    refine te_aload_n (p2 := 26) rfl rfl rfl ?_
    refine tg_r (p2 := 29) (i := 0) (r := 17) rfl rfl hI rfl rfl rfl ?_
    refine te_iload_n (p2 := 30) rfl rfl rfl ?_
    refine tp_i (p2 := 33) (i := 1) rfl rfl hI rfl rfl (by decide) rfl rfl rfl (by omega) (by omega) (by omega) rfl (fun h3 I3 u3 => ?_)
    have f3 := fr_st (F := F_X11_tip) 0 f0 u3 rfl (by decide) (by decide)
    refine te_iload_n (p2 := 34) rfl rfl rfl ?_
    exact te_iret rfl rfl ⟨I3, f3, _, rfl, (by show (y2, cX h3, absX h3 23) = _; rw [xcu_tip u3, xu_o (s := 23) u3 (by decide)]; unfold tip_f; rw [(show (cX h).tip = y2 from rv_of e2)]; (repeat' split) <;> first | (exfalso; omega) | (simp only [Dy.mk, Dy.ld, Dy.hm, Dy.hu, Dy.wk, Dy.de, Dy.st, Dy.up, Dy.rl, Dy.rs, Dy.ra, Dy.kp, Dy.du, Dy.ti, Dy.da, Dy.we, Dy.wi, Dy.s_ld, Dy.s_hm, Dy.s_hu, Dy.s_wk, Dy.s_de, Dy.s_st, Dy.s_up, Dy.s_rl, Dy.s_rs, Dy.s_ra, Dy.s_kp, Dy.s_du, Dy.s_ti, Dy.s_da, Dy.s_we, Dy.s_wi, Ct.mk, Ct.kd, Ct.tip, Ct.np, Ct.sg, Ct.ag, Ct.kn, Ct.ro, Ct.hd, Ct.hn, Ct.hf, Ct.ht, Ct.wn, Ct.cr, Ct.wf, Ct.wl, Ct.nw, Ct.wc, Ct.wt, Ct.sd, Ct.s_kd, Ct.s_tip, Ct.s_np, Ct.s_sg, Ct.s_ag, Ct.s_kn, Ct.s_ro, Ct.s_hd, Ct.s_hn, Ct.s_hf, Ct.s_ht, Ct.s_wn, Ct.s_cr, Ct.s_wf, Ct.s_wl, Ct.s_nw, Ct.s_wc, Ct.s_wt, Ct.s_sd]; done) | rfl)⟩
  · refine te_iload_n (p2 := 6) rfl rfl rfl ?_
    refine te_bipush (p2 := 8) (x := 100) rfl rfl (by decide) ?_
    refine cS_pI (p2 := 11) rfl rfl rfl rfl (t_X11_within (n := x1) (b := 100) hI ) (by decide) (fun y4 r4 => ?_)
    rcases r4 with ⟨w4, c4⟩ | ⟨w4, c4⟩
    · subst w4
      have cc4_1 := (show Int32.toInt 100 = 100 from rfl)
      refine tz_ne (p2 := 14) rfl rfl (show Int32.toInt 1 = 1 from rfl) (fun c5 => ?_) (fun c5 => absurd c5 (by omega))
      refine te_aload_n (p2 := 18) rfl rfl rfl ?_
      refine tg_r (p2 := 21) (i := 0) (r := 17) rfl rfl hI rfl rfl rfl ?_
      refine tg_i (p2 := 24) (i := 1) rfl rfl hI rfl rfl rfl (fun y6 a6 b6 e6 => ?_)
      refine te_istore_n (p2 := 25) (lv2 := [(2, .int y6), (0, .ref 16), (1, .int x1)]) rfl rfl (by decide) rfl ?_
      refine te_aload_n (p2 := 26) rfl rfl rfl ?_
      refine tg_r (p2 := 29) (i := 0) (r := 17) rfl rfl hI rfl rfl rfl ?_
      refine te_iload_n (p2 := 30) rfl rfl rfl ?_
      refine tp_i (p2 := 33) (i := 1) rfl rfl hI rfl rfl (by decide) rfl rfl rfl (by omega) (by omega) (by omega) rfl (fun h7 I7 u7 => ?_)
      have f7 := fr_st (F := F_X11_tip) 0 f0 u7 rfl (by decide) (by decide)
      refine te_iload_n (p2 := 34) rfl rfl rfl ?_
      exact te_iret rfl rfl ⟨I7, f7, _, rfl, (by show (y6, cX h7, absX h7 23) = _; rw [xcu_tip u7, xu_o (s := 23) u7 (by decide)]; unfold tip_f; rw [(show (cX h).tip = y6 from rv_of e6)]; (repeat' split) <;> first | (exfalso; omega) | (simp only [Dy.mk, Dy.ld, Dy.hm, Dy.hu, Dy.wk, Dy.de, Dy.st, Dy.up, Dy.rl, Dy.rs, Dy.ra, Dy.kp, Dy.du, Dy.ti, Dy.da, Dy.we, Dy.wi, Dy.s_ld, Dy.s_hm, Dy.s_hu, Dy.s_wk, Dy.s_de, Dy.s_st, Dy.s_up, Dy.s_rl, Dy.s_rs, Dy.s_ra, Dy.s_kp, Dy.s_du, Dy.s_ti, Dy.s_da, Dy.s_we, Dy.s_wi, Ct.mk, Ct.kd, Ct.tip, Ct.np, Ct.sg, Ct.ag, Ct.kn, Ct.ro, Ct.hd, Ct.hn, Ct.hf, Ct.ht, Ct.wn, Ct.cr, Ct.wf, Ct.wl, Ct.nw, Ct.wc, Ct.wt, Ct.sd, Ct.s_kd, Ct.s_tip, Ct.s_np, Ct.s_sg, Ct.s_ag, Ct.s_kn, Ct.s_ro, Ct.s_hd, Ct.s_hn, Ct.s_hf, Ct.s_ht, Ct.s_wn, Ct.s_cr, Ct.s_wf, Ct.s_wl, Ct.s_nw, Ct.s_wc, Ct.s_wt, Ct.s_sd]; done) | rfl)⟩
    · subst w4
      have cc4_1 := (show Int32.toInt 100 = 100 from rfl)
      refine tz_ne (p2 := 14) rfl rfl (show Int32.toInt 0 = 0 from rfl) (fun c8 => absurd c8 (by omega)) (fun c8 => ?_)
      refine te_bipush (p2 := 16) (x := (-5)) rfl rfl (by decide) ?_
      exact te_iret rfl rfl ⟨hI, f0, _, rfl, (by show ((-5), cX h, absX h 23) = _; (have c0_ := (show Int32.toInt (-5) = (-5) from rfl)); unfold tip_f; (repeat' split) <;> first | (exfalso; omega) | (simp only [Dy.mk, Dy.ld, Dy.hm, Dy.hu, Dy.wk, Dy.de, Dy.st, Dy.up, Dy.rl, Dy.rs, Dy.ra, Dy.kp, Dy.du, Dy.ti, Dy.da, Dy.we, Dy.wi, Dy.s_ld, Dy.s_hm, Dy.s_hu, Dy.s_wk, Dy.s_de, Dy.s_st, Dy.s_up, Dy.s_rl, Dy.s_rs, Dy.s_ra, Dy.s_kp, Dy.s_du, Dy.s_ti, Dy.s_da, Dy.s_we, Dy.s_wi, Ct.mk, Ct.kd, Ct.tip, Ct.np, Ct.sg, Ct.ag, Ct.kn, Ct.ro, Ct.hd, Ct.hn, Ct.hf, Ct.ht, Ct.wn, Ct.cr, Ct.wf, Ct.wl, Ct.nw, Ct.wc, Ct.wt, Ct.sd, Ct.s_kd, Ct.s_tip, Ct.s_np, Ct.s_sg, Ct.s_ag, Ct.s_kn, Ct.s_ro, Ct.s_hd, Ct.s_hn, Ct.s_hf, Ct.s_ht, Ct.s_wn, Ct.s_cr, Ct.s_wf, Ct.s_wl, Ct.s_nw, Ct.s_wc, Ct.s_wt, Ct.s_sd]; done) | rfl)⟩
abbrev Q1_moves (x1 x2 : Int32) (y : Int32) (h h2 : im_H) : Prop := (y, cX h2, absX h2 23) = moves_f x1 x2 (cX h) (absX h 23)
set_option maxRecDepth 20000 in
set_option maxHeartbeats 4000000 in
theorem c_X11_moves {x1 : Int32} {x2 : Int32} {h : im_H} (hI : tI h)  : CaP 8 63 [.ref 16, .int x1, .int x2] h (fun v h2 => tI h2 ∧ fr F_X11_moves h h2 ∧ ∃ y : Int32, v = some (.int y) ∧ Q1_moves x1 x2 y h h2) := by
  refine cap_of (d := 7) (M := mX11_moves) rfl (Nat.le_of_ble_eq_true rfl) ?_
  show EvP im_K0 7 mX11_moves (0, [(0, .ref 16), (1, .int x1), (2, .int x2)], [], h) _
  have f0 : fr F_X11_moves h h := fr_rf
  refine te_iload_n (p2 := 1) rfl rfl rfl ?_
  refine te_aload_n (p2 := 2) rfl rfl rfl ?_
  refine tg_r (p2 := 5) (i := 0) (r := 17) rfl rfl hI rfl rfl rfl ?_
  refine tg_i (p2 := 8) (i := 1) rfl rfl hI rfl rfl rfl (fun y1 a1 b1 e1 => ?_)
  refine cS_pI (p2 := 11) rfl rfl rfl rfl (t_X11_within (n := x1) (b := y1) hI ) (by decide) (fun y2 r2 => ?_)
  rcases r2 with ⟨w2, c2⟩ | ⟨w2, c2⟩
  · subst w2
    refine tz_eq (p2 := 14) rfl rfl (show Int32.toInt 1 = 1 from rfl) (fun c3 => absurd c3 (by omega)) (fun c3 => ?_)
    refine te_iload_n (p2 := 15) rfl rfl rfl ?_
    refine te_bipush (p2 := 17) (x := 100) rfl rfl (by decide) ?_
    refine cS_pI (p2 := 20) rfl rfl rfl rfl (t_X11_within (n := x2) (b := 100) hI ) (by decide) (fun y4 r4 => ?_)
    rcases r4 with ⟨w4, c4⟩ | ⟨w4, c4⟩
    · subst w4
      have cc4_1 := (show Int32.toInt 100 = 100 from rfl)
      refine tz_ne (p2 := 23) rfl rfl (show Int32.toInt 1 = 1 from rfl) (fun c5 => ?_) (fun c5 => absurd c5 (by omega))
      refine te_aload_n (p2 := 26) rfl rfl rfl ?_
      refine tg_r (p2 := 29) (i := 0) (r := 39) rfl rfl hI rfl rfl rfl ?_
      refine tg_r (p2 := 32) (i := 23) (r := 46) rfl rfl hI rfl rfl rfl ?_
      refine te_iload_n (p2 := 33) rfl rfl rfl ?_
      refine tl_b (p2 := 34) (i := 30) (n := 24) rfl rfl hI rfl rfl rfl rfl (by omega) (by omega) (fun y6 a6 e6 => ?_)
      refine tz_eq (p2 := 37) rfl rfl rfl (fun c7 => ?_) (fun c7 => ?_)
      · refine te_aload_n (p2 := 41) rfl rfl rfl ?_
        refine tg_r (p2 := 44) (i := 0) (r := 39) rfl rfl hI rfl rfl rfl ?_
        refine tg_r (p2 := 47) (i := 23) (r := 42) rfl rfl hI rfl rfl rfl ?_
        refine te_iload_n (p2 := 48) rfl rfl rfl ?_
        refine tl_i (p2 := 49) (i := 26) (n := 24) rfl rfl hI rfl rfl rfl rfl (by omega) (by omega) (fun y8 a8 b8 g8 e8 => ?_)
        refine te_istore_n (p2 := 50) (lv2 := [(3, .int y8), (0, .ref 16), (1, .int x1), (2, .int x2)]) rfl rfl (by decide) rfl ?_
        refine te_aload_n (p2 := 51) rfl rfl rfl ?_
        refine tg_r (p2 := 54) (i := 0) (r := 39) rfl rfl hI rfl rfl rfl ?_
        refine tg_r (p2 := 57) (i := 23) (r := 42) rfl rfl hI rfl rfl rfl ?_
        refine te_iload_n (p2 := 58) rfl rfl rfl ?_
        refine te_iload_n (p2 := 59) rfl rfl rfl ?_
        refine ts_i (p2 := 60) (i := 26) (n := 24) rfl rfl hI rfl rfl rfl rfl (by omega) (by omega) (i32_lo _) (i32_hi _) (i32_ho _) rfl (fun h9 I9 u9 => ?_)
        have f9 := fr_st (F := F_X11_moves) 0 f0 u9 rfl (by omega) (by omega)
        refine te_iload_n (p2 := 61) rfl rfl rfl ?_
        exact te_iret rfl rfl ⟨I9, f9, _, rfl, (by show (y8, cX h9, absX h9 23) = _; rw [xcu_o u9 (by decide), xu_hm (s := 23) u9 (by omega)]; unfold moves_f; rw [(show (cX h).np = y1 from rv_of e1), (show (absX h 23).de x1.toInt.toNat = y6 from (aX_de (by omega)).trans (rv_of e6)), (show (absX h 23).hm x1.toInt.toNat = y8 from (aX_hm (by omega)).trans (rv_of e8))]; (repeat' split) <;> first | (exfalso; omega) | (simp only [Dy.mk, Dy.ld, Dy.hm, Dy.hu, Dy.wk, Dy.de, Dy.st, Dy.up, Dy.rl, Dy.rs, Dy.ra, Dy.kp, Dy.du, Dy.ti, Dy.da, Dy.we, Dy.wi, Dy.s_ld, Dy.s_hm, Dy.s_hu, Dy.s_wk, Dy.s_de, Dy.s_st, Dy.s_up, Dy.s_rl, Dy.s_rs, Dy.s_ra, Dy.s_kp, Dy.s_du, Dy.s_ti, Dy.s_da, Dy.s_we, Dy.s_wi, Ct.mk, Ct.kd, Ct.tip, Ct.np, Ct.sg, Ct.ag, Ct.kn, Ct.ro, Ct.hd, Ct.hn, Ct.hf, Ct.ht, Ct.wn, Ct.cr, Ct.wf, Ct.wl, Ct.nw, Ct.wc, Ct.wt, Ct.sd, Ct.s_kd, Ct.s_tip, Ct.s_np, Ct.s_sg, Ct.s_ag, Ct.s_kn, Ct.s_ro, Ct.s_hd, Ct.s_hn, Ct.s_hf, Ct.s_ht, Ct.s_wn, Ct.s_cr, Ct.s_wf, Ct.s_wl, Ct.s_nw, Ct.s_wc, Ct.s_wt, Ct.s_sd]; done) | rfl)⟩
      · refine te_bipush (p2 := 39) (x := (-3)) rfl rfl (by decide) ?_
        exact te_iret rfl rfl ⟨hI, f0, _, rfl, (by show ((-3), cX h, absX h 23) = _; (have c0_ := (show Int32.toInt (-3) = (-3) from rfl)); unfold moves_f; rw [(show (cX h).np = y1 from rv_of e1), (show (absX h 23).de x1.toInt.toNat = y6 from (aX_de (by omega)).trans (rv_of e6))]; (repeat' split) <;> first | (exfalso; omega) | (simp only [Dy.mk, Dy.ld, Dy.hm, Dy.hu, Dy.wk, Dy.de, Dy.st, Dy.up, Dy.rl, Dy.rs, Dy.ra, Dy.kp, Dy.du, Dy.ti, Dy.da, Dy.we, Dy.wi, Dy.s_ld, Dy.s_hm, Dy.s_hu, Dy.s_wk, Dy.s_de, Dy.s_st, Dy.s_up, Dy.s_rl, Dy.s_rs, Dy.s_ra, Dy.s_kp, Dy.s_du, Dy.s_ti, Dy.s_da, Dy.s_we, Dy.s_wi, Ct.mk, Ct.kd, Ct.tip, Ct.np, Ct.sg, Ct.ag, Ct.kn, Ct.ro, Ct.hd, Ct.hn, Ct.hf, Ct.ht, Ct.wn, Ct.cr, Ct.wf, Ct.wl, Ct.nw, Ct.wc, Ct.wt, Ct.sd, Ct.s_kd, Ct.s_tip, Ct.s_np, Ct.s_sg, Ct.s_ag, Ct.s_kn, Ct.s_ro, Ct.s_hd, Ct.s_hn, Ct.s_hf, Ct.s_ht, Ct.s_wn, Ct.s_cr, Ct.s_wf, Ct.s_wl, Ct.s_nw, Ct.s_wc, Ct.s_wt, Ct.s_sd]; done) | rfl)⟩
    · subst w4
      have cc4_1 := (show Int32.toInt 100 = 100 from rfl)
      refine tz_ne (p2 := 23) rfl rfl (show Int32.toInt 0 = 0 from rfl) (fun c10 => absurd c10 (by omega)) (fun c10 => ?_)
      refine te_iconst (p2 := 24) (x := (-1)) rfl rfl (by decide) ?_
      exact te_iret rfl rfl ⟨hI, f0, _, rfl, (by show ((-1), cX h, absX h 23) = _; (have c0_ := (show Int32.toInt (-1) = (-1) from rfl)); unfold moves_f; rw [(show (cX h).np = y1 from rv_of e1)]; (repeat' split) <;> first | (exfalso; omega) | (simp only [Dy.mk, Dy.ld, Dy.hm, Dy.hu, Dy.wk, Dy.de, Dy.st, Dy.up, Dy.rl, Dy.rs, Dy.ra, Dy.kp, Dy.du, Dy.ti, Dy.da, Dy.we, Dy.wi, Dy.s_ld, Dy.s_hm, Dy.s_hu, Dy.s_wk, Dy.s_de, Dy.s_st, Dy.s_up, Dy.s_rl, Dy.s_rs, Dy.s_ra, Dy.s_kp, Dy.s_du, Dy.s_ti, Dy.s_da, Dy.s_we, Dy.s_wi, Ct.mk, Ct.kd, Ct.tip, Ct.np, Ct.sg, Ct.ag, Ct.kn, Ct.ro, Ct.hd, Ct.hn, Ct.hf, Ct.ht, Ct.wn, Ct.cr, Ct.wf, Ct.wl, Ct.nw, Ct.wc, Ct.wt, Ct.sd, Ct.s_kd, Ct.s_tip, Ct.s_np, Ct.s_sg, Ct.s_ag, Ct.s_kn, Ct.s_ro, Ct.s_hd, Ct.s_hn, Ct.s_hf, Ct.s_ht, Ct.s_wn, Ct.s_cr, Ct.s_wf, Ct.s_wl, Ct.s_nw, Ct.s_wc, Ct.s_wt, Ct.s_sd]; done) | rfl)⟩
  · subst w2
    refine tz_eq (p2 := 14) rfl rfl (show Int32.toInt 0 = 0 from rfl) (fun c11 => ?_) (fun c11 => absurd c11 (by omega))
    refine te_iconst (p2 := 24) (x := (-1)) rfl rfl (by decide) ?_
    exact te_iret rfl rfl ⟨hI, f0, _, rfl, (by show ((-1), cX h, absX h 23) = _; (have c0_ := (show Int32.toInt (-1) = (-1) from rfl)); unfold moves_f; rw [(show (cX h).np = y1 from rv_of e1)]; (repeat' split) <;> first | (exfalso; omega) | (simp only [Dy.mk, Dy.ld, Dy.hm, Dy.hu, Dy.wk, Dy.de, Dy.st, Dy.up, Dy.rl, Dy.rs, Dy.ra, Dy.kp, Dy.du, Dy.ti, Dy.da, Dy.we, Dy.wi, Dy.s_ld, Dy.s_hm, Dy.s_hu, Dy.s_wk, Dy.s_de, Dy.s_st, Dy.s_up, Dy.s_rl, Dy.s_rs, Dy.s_ra, Dy.s_kp, Dy.s_du, Dy.s_ti, Dy.s_da, Dy.s_we, Dy.s_wi, Ct.mk, Ct.kd, Ct.tip, Ct.np, Ct.sg, Ct.ag, Ct.kn, Ct.ro, Ct.hd, Ct.hn, Ct.hf, Ct.ht, Ct.wn, Ct.cr, Ct.wf, Ct.wl, Ct.nw, Ct.wc, Ct.wt, Ct.sd, Ct.s_kd, Ct.s_tip, Ct.s_np, Ct.s_sg, Ct.s_ag, Ct.s_kn, Ct.s_ro, Ct.s_hd, Ct.s_hn, Ct.s_hf, Ct.s_ht, Ct.s_wn, Ct.s_cr, Ct.s_wf, Ct.s_wl, Ct.s_nw, Ct.s_wc, Ct.s_wt, Ct.s_sd]; done) | rfl)⟩
abbrev Q1_person (x1 x2 x3 x4 : Int32) (y : Int32) (h h2 : im_H) : Prop := (y, cX h2, absX h2 23) = person_f x1 x2 x3 x4 (cX h) (absX h 23)
set_option maxRecDepth 20000 in
set_option maxHeartbeats 4000000 in
theorem c_X11_person {x1 : Int32} {x2 : Int32} {x3 : Int32} {x4 : Int32} {h : im_H} (hI : tI h)  : CaP 8 62 [.ref 16, .int x1, .int x2, .int x3, .int x4] h (fun v h2 => tI h2 ∧ fr F_X11_person h h2 ∧ ∃ y : Int32, v = some (.int y) ∧ Q1_person x1 x2 x3 x4 y h h2) := by
  refine cap_of (d := 7) (M := mX11_person) rfl (Nat.le_of_ble_eq_true rfl) ?_
  show EvP im_K0 7 mX11_person (0, [(0, .ref 16), (1, .int x1), (2, .int x2), (3, .int x3), (4, .int x4)], [], h) _
  have f0 : fr F_X11_person h h := fr_rf
  refine te_iload_n (p2 := 1) rfl rfl rfl ?_
  refine te_bipush (p2 := 3) (x := 100) rfl rfl (by decide) ?_
  refine cS_pI (p2 := 6) rfl rfl rfl rfl (t_X11_within (n := x1) (b := 100) hI ) (by decide) (fun y1 r1 => ?_)
  rcases r1 with ⟨w1, c1⟩ | ⟨w1, c1⟩
  · subst w1
    have cc1_1 := (show Int32.toInt 100 = 100 from rfl)
    refine tz_ne (p2 := 9) rfl rfl (show Int32.toInt 1 = 1 from rfl) (fun c2 => ?_) (fun c2 => absurd c2 (by omega))
    refine te_iload_n (p2 := 12) rfl rfl rfl ?_
    refine te_iconst (p2 := 13) (x := 1) rfl rfl (by decide) ?_
    refine te_bipush (p2 := 15) (x := 9) rfl rfl (by decide) ?_
    refine cS_pI (p2 := 18) rfl rfl rfl rfl (t_X11_between (n := x2) (a := 1) (b := 9) hI ) (by decide) (fun y3 r3 => ?_)
    rcases r3 with ⟨w3, c3⟩ | ⟨w3, c3⟩
    · subst w3
      have cc3_1 := (show Int32.toInt 1 = 1 from rfl)
      have cc3_2 := (show Int32.toInt 9 = 9 from rfl)
      refine tz_eq (p2 := 21) rfl rfl (show Int32.toInt 1 = 1 from rfl) (fun c4 => absurd c4 (by omega)) (fun c4 => ?_)
      refine te_iload_n (p2 := 22) rfl rfl rfl ?_
      refine te_iconst (p2 := 23) (x := 0) rfl rfl (by decide) ?_
      refine te_bipush (p2 := 25) (x := 99) rfl rfl (by decide) ?_
      refine cS_pI (p2 := 28) rfl rfl rfl rfl (t_X11_between (n := x3) (a := 0) (b := 99) hI ) (by decide) (fun y5 r5 => ?_)
      rcases r5 with ⟨w5, c5⟩ | ⟨w5, c5⟩
      · subst w5
        have cc5_1 := (show Int32.toInt 0 = 0 from rfl)
        have cc5_2 := (show Int32.toInt 99 = 99 from rfl)
        refine tz_eq (p2 := 31) rfl rfl (show Int32.toInt 1 = 1 from rfl) (fun c6 => absurd c6 (by omega)) (fun c6 => ?_)
        refine te_iload (p2 := 33) rfl rfl rfl ?_
        refine te_iconst (p2 := 34) (x := 0) rfl rfl (by decide) ?_
        refine te_bipush (p2 := 36) (x := 9) rfl rfl (by decide) ?_
        refine cS_pI (p2 := 39) rfl rfl rfl rfl (t_X11_between (n := x4) (a := 0) (b := 9) hI ) (by decide) (fun y7 r7 => ?_)
        rcases r7 with ⟨w7, c7⟩ | ⟨w7, c7⟩
        · subst w7
          have cc7_1 := (show Int32.toInt 0 = 0 from rfl)
          have cc7_2 := (show Int32.toInt 9 = 9 from rfl)
          refine tz_ne (p2 := 42) rfl rfl (show Int32.toInt 1 = 1 from rfl) (fun c8 => ?_) (fun c8 => absurd c8 (by omega))
          refine te_aload_n (p2 := 46) rfl rfl rfl ?_
          refine tg_r (p2 := 49) (i := 0) (r := 17) rfl rfl hI rfl rfl rfl ?_
          refine tg_i (p2 := 52) (i := 1) rfl rfl hI rfl rfl rfl (fun y9 a9 b9 e9 => ?_)
          refine te_bipush (p2 := 54) (x := 24) rfl rfl (by decide) ?_
          refine tb_lt (p2 := 57) rfl rfl rfl (show Int32.toInt 24 = 24 from rfl) (fun c10 => ?_) (fun c10 => ?_)
          · refine te_aload_n (p2 := 61) rfl rfl rfl ?_
            refine tg_r (p2 := 64) (i := 0) (r := 17) rfl rfl hI rfl rfl rfl ?_
            refine tg_e (p2 := 67) (i := 1) (v := .int y9) rfl rfl hI rfl rfl e9 ?_
            refine te_istore (p2 := 69) (lv2 := [(5, .int y9), (0, .ref 16), (1, .int x1), (2, .int x2), (3, .int x3), (4, .int x4)]) rfl rfl (by decide) rfl ?_
            refine te_aload_n (p2 := 70) rfl rfl rfl ?_
            refine tg_r (p2 := 73) (i := 0) (r := 17) rfl rfl hI rfl rfl rfl ?_
            refine tg_r (p2 := 76) (i := 1) (r := 19) rfl rfl hI rfl rfl rfl ?_
            refine te_iload (p2 := 78) rfl rfl rfl ?_
            refine te_iload_n (p2 := 79) rfl rfl rfl ?_
            refine ts_i (p2 := 80) (i := 3) (n := 24) rfl rfl hI rfl rfl rfl rfl (by omega) (by omega) (i32_lo _) (i32_hi _) (i32_ho _) rfl (fun h11 I11 u11 => ?_)
            have f11 := fr_st (F := F_X11_person) 2 f0 u11 rfl (by omega) (by omega)
            refine te_aload_n (p2 := 81) rfl rfl rfl ?_
            refine tg_r (p2 := 84) (i := 0) (r := 17) rfl rfl I11 rfl rfl rfl ?_
            refine tg_r (p2 := 87) (i := 1) (r := 20) rfl rfl I11 rfl rfl rfl ?_
            refine te_iload (p2 := 89) rfl rfl rfl ?_
            refine te_iload_n (p2 := 90) rfl rfl rfl ?_
            refine ts_i (p2 := 91) (i := 4) (n := 24) rfl rfl I11 rfl rfl rfl rfl (by omega) (by omega) (i32_lo _) (i32_hi _) (i32_ho _) rfl (fun h12 I12 u12 => ?_)
            have f12 := fr_st (F := F_X11_person) 3 f11 u12 rfl (by omega) (by omega)
            refine te_aload_n (p2 := 92) rfl rfl rfl ?_
            refine tg_r (p2 := 95) (i := 0) (r := 17) rfl rfl I12 rfl rfl rfl ?_
            refine tg_r (p2 := 98) (i := 1) (r := 21) rfl rfl I12 rfl rfl rfl ?_
            refine te_iload (p2 := 100) rfl rfl rfl ?_
            refine te_iload (p2 := 102) rfl rfl rfl ?_
            refine ts_i (p2 := 103) (i := 5) (n := 24) rfl rfl I12 rfl rfl rfl rfl (by omega) (by omega) (i32_lo _) (i32_hi _) (i32_ho _) rfl (fun h13 I13 u13 => ?_)
            have f13 := fr_st (F := F_X11_person) 4 f12 u13 rfl (by omega) (by omega)
            refine te_aload_n (p2 := 104) rfl rfl rfl ?_
            refine tg_r (p2 := 107) (i := 0) (r := 39) rfl rfl I13 rfl rfl rfl ?_
            refine tg_r (p2 := 110) (i := 23) (r := 42) rfl rfl I13 rfl rfl rfl ?_
            refine te_iload (p2 := 112) rfl rfl rfl ?_
            refine te_iload_n (p2 := 113) rfl rfl rfl ?_
            refine ts_i (p2 := 114) (i := 26) (n := 24) rfl rfl I13 rfl rfl rfl rfl (by omega) (by omega) (i32_lo _) (i32_hi _) (i32_ho _) rfl (fun h14 I14 u14 => ?_)
            have f14 := fr_st (F := F_X11_person) 1 f13 u14 rfl (by omega) (by omega)
            refine te_aload_n (p2 := 115) rfl rfl rfl ?_
            refine tg_r (p2 := 118) (i := 0) (r := 17) rfl rfl I14 rfl rfl rfl ?_
            refine te_dup (p2 := 119) rfl rfl rfl ?_
            refine tg_e (p2 := 122) (i := 1) (v := .int y9) rfl rfl I14 rfl rfl ((u14.2 _ _ (Or.inl (by decide))).trans ((u13.2 _ _ (Or.inl (by decide))).trans ((u12.2 _ _ (Or.inl (by decide))).trans ((u11.2 _ _ (Or.inl (by decide))).trans e9)))) ?_
            refine te_iconst (p2 := 123) (x := 1) rfl rfl (by decide) ?_
            refine ar_add (p2 := 124) rfl rfl rfl (show Int32.toInt 1 = 1 from rfl) (by omega) (by omega) (fun z15 e15 f15 => ?_)
            refine tp_i (p2 := 127) (i := 1) rfl rfl I14 rfl rfl (by decide) rfl rfl rfl (by omega) (by omega) (by omega) rfl (fun h16 I16 u16 => ?_)
            have f16 := fr_st (F := F_X11_person) 0 f14 u16 rfl (by decide) (by decide)
            refine te_iload (p2 := 129) rfl rfl rfl ?_
            exact te_iret rfl rfl ⟨I16, f16, _, rfl, (by show (y9, cX h16, absX h16 23) = _; rw [xcu_np u16, xcu_o u14 (by decide), xcu_kn u13 (by omega), xcu_ag u12 (by omega), xcu_sg u11 (by omega), xu_o (s := 23) u16 (by decide), xu_hm (s := 23) u14 (by omega), xu_o (s := 23) u13 (by decide), xu_o (s := 23) u12 (by decide), xu_o (s := 23) u11 (by decide)]; unfold person_f; rw [(show (cX h).np = y9 from rv_of e9), (show y9 + 1 = z15 from i32_ext (by rw [i32_addE (show Int32.toInt 1 = 1 from rfl) (by omega) (by omega)]; omega))]; (repeat' split) <;> first | (exfalso; omega) | (simp only [Dy.mk, Dy.ld, Dy.hm, Dy.hu, Dy.wk, Dy.de, Dy.st, Dy.up, Dy.rl, Dy.rs, Dy.ra, Dy.kp, Dy.du, Dy.ti, Dy.da, Dy.we, Dy.wi, Dy.s_ld, Dy.s_hm, Dy.s_hu, Dy.s_wk, Dy.s_de, Dy.s_st, Dy.s_up, Dy.s_rl, Dy.s_rs, Dy.s_ra, Dy.s_kp, Dy.s_du, Dy.s_ti, Dy.s_da, Dy.s_we, Dy.s_wi, Ct.mk, Ct.kd, Ct.tip, Ct.np, Ct.sg, Ct.ag, Ct.kn, Ct.ro, Ct.hd, Ct.hn, Ct.hf, Ct.ht, Ct.wn, Ct.cr, Ct.wf, Ct.wl, Ct.nw, Ct.wc, Ct.wt, Ct.sd, Ct.s_kd, Ct.s_tip, Ct.s_np, Ct.s_sg, Ct.s_ag, Ct.s_kn, Ct.s_ro, Ct.s_hd, Ct.s_hn, Ct.s_hf, Ct.s_ht, Ct.s_wn, Ct.s_cr, Ct.s_wf, Ct.s_wl, Ct.s_nw, Ct.s_wc, Ct.s_wt, Ct.s_sd]; done) | rfl)⟩
          · refine te_bipush (p2 := 59) (x := (-4)) rfl rfl (by decide) ?_
            exact te_iret rfl rfl ⟨hI, f0, _, rfl, (by show ((-4), cX h, absX h 23) = _; (have c0_ := (show Int32.toInt (-4) = (-4) from rfl)); unfold person_f; rw [(show (cX h).np = y9 from rv_of e9)]; (repeat' split) <;> first | (exfalso; omega) | (simp only [Dy.mk, Dy.ld, Dy.hm, Dy.hu, Dy.wk, Dy.de, Dy.st, Dy.up, Dy.rl, Dy.rs, Dy.ra, Dy.kp, Dy.du, Dy.ti, Dy.da, Dy.we, Dy.wi, Dy.s_ld, Dy.s_hm, Dy.s_hu, Dy.s_wk, Dy.s_de, Dy.s_st, Dy.s_up, Dy.s_rl, Dy.s_rs, Dy.s_ra, Dy.s_kp, Dy.s_du, Dy.s_ti, Dy.s_da, Dy.s_we, Dy.s_wi, Ct.mk, Ct.kd, Ct.tip, Ct.np, Ct.sg, Ct.ag, Ct.kn, Ct.ro, Ct.hd, Ct.hn, Ct.hf, Ct.ht, Ct.wn, Ct.cr, Ct.wf, Ct.wl, Ct.nw, Ct.wc, Ct.wt, Ct.sd, Ct.s_kd, Ct.s_tip, Ct.s_np, Ct.s_sg, Ct.s_ag, Ct.s_kn, Ct.s_ro, Ct.s_hd, Ct.s_hn, Ct.s_hf, Ct.s_ht, Ct.s_wn, Ct.s_cr, Ct.s_wf, Ct.s_wl, Ct.s_nw, Ct.s_wc, Ct.s_wt, Ct.s_sd]; done) | rfl)⟩
        · subst w7
          have cc7_1 := (show Int32.toInt 0 = 0 from rfl)
          have cc7_2 := (show Int32.toInt 9 = 9 from rfl)
          refine tz_ne (p2 := 42) rfl rfl (show Int32.toInt 0 = 0 from rfl) (fun c17 => absurd c17 (by omega)) (fun c17 => ?_)
          refine te_bipush (p2 := 44) (x := (-2)) rfl rfl (by decide) ?_
          obtain ⟨v18, e18, y18, w18, a18, b18, _⟩ := hI.2.1 1 2 (.inl (0, 24, 9999999999)) rfl
          subst w18
          exact te_iret rfl rfl ⟨hI, f0, _, rfl, (by show ((-2), cX h, absX h 23) = _; (have c0_ := (show Int32.toInt (-2) = (-2) from rfl)); unfold person_f; rw [(show (cX h).np = y18 from rv_of e18)]; (repeat' split) <;> first | (exfalso; omega) | (simp only [Dy.mk, Dy.ld, Dy.hm, Dy.hu, Dy.wk, Dy.de, Dy.st, Dy.up, Dy.rl, Dy.rs, Dy.ra, Dy.kp, Dy.du, Dy.ti, Dy.da, Dy.we, Dy.wi, Dy.s_ld, Dy.s_hm, Dy.s_hu, Dy.s_wk, Dy.s_de, Dy.s_st, Dy.s_up, Dy.s_rl, Dy.s_rs, Dy.s_ra, Dy.s_kp, Dy.s_du, Dy.s_ti, Dy.s_da, Dy.s_we, Dy.s_wi, Ct.mk, Ct.kd, Ct.tip, Ct.np, Ct.sg, Ct.ag, Ct.kn, Ct.ro, Ct.hd, Ct.hn, Ct.hf, Ct.ht, Ct.wn, Ct.cr, Ct.wf, Ct.wl, Ct.nw, Ct.wc, Ct.wt, Ct.sd, Ct.s_kd, Ct.s_tip, Ct.s_np, Ct.s_sg, Ct.s_ag, Ct.s_kn, Ct.s_ro, Ct.s_hd, Ct.s_hn, Ct.s_hf, Ct.s_ht, Ct.s_wn, Ct.s_cr, Ct.s_wf, Ct.s_wl, Ct.s_nw, Ct.s_wc, Ct.s_wt, Ct.s_sd]; done) | rfl)⟩
      · subst w5
        have cc5_1 := (show Int32.toInt 0 = 0 from rfl)
        have cc5_2 := (show Int32.toInt 99 = 99 from rfl)
        refine tz_eq (p2 := 31) rfl rfl (show Int32.toInt 0 = 0 from rfl) (fun c19 => ?_) (fun c19 => absurd c19 (by omega))
        refine te_bipush (p2 := 44) (x := (-2)) rfl rfl (by decide) ?_
        obtain ⟨v20, e20, y20, w20, a20, b20, _⟩ := hI.2.1 1 2 (.inl (0, 24, 9999999999)) rfl
        subst w20
        exact te_iret rfl rfl ⟨hI, f0, _, rfl, (by show ((-2), cX h, absX h 23) = _; (have c0_ := (show Int32.toInt (-2) = (-2) from rfl)); unfold person_f; rw [(show (cX h).np = y20 from rv_of e20)]; (repeat' split) <;> first | (exfalso; omega) | (simp only [Dy.mk, Dy.ld, Dy.hm, Dy.hu, Dy.wk, Dy.de, Dy.st, Dy.up, Dy.rl, Dy.rs, Dy.ra, Dy.kp, Dy.du, Dy.ti, Dy.da, Dy.we, Dy.wi, Dy.s_ld, Dy.s_hm, Dy.s_hu, Dy.s_wk, Dy.s_de, Dy.s_st, Dy.s_up, Dy.s_rl, Dy.s_rs, Dy.s_ra, Dy.s_kp, Dy.s_du, Dy.s_ti, Dy.s_da, Dy.s_we, Dy.s_wi, Ct.mk, Ct.kd, Ct.tip, Ct.np, Ct.sg, Ct.ag, Ct.kn, Ct.ro, Ct.hd, Ct.hn, Ct.hf, Ct.ht, Ct.wn, Ct.cr, Ct.wf, Ct.wl, Ct.nw, Ct.wc, Ct.wt, Ct.sd, Ct.s_kd, Ct.s_tip, Ct.s_np, Ct.s_sg, Ct.s_ag, Ct.s_kn, Ct.s_ro, Ct.s_hd, Ct.s_hn, Ct.s_hf, Ct.s_ht, Ct.s_wn, Ct.s_cr, Ct.s_wf, Ct.s_wl, Ct.s_nw, Ct.s_wc, Ct.s_wt, Ct.s_sd]; done) | rfl)⟩
    · subst w3
      have cc3_1 := (show Int32.toInt 1 = 1 from rfl)
      have cc3_2 := (show Int32.toInt 9 = 9 from rfl)
      refine tz_eq (p2 := 21) rfl rfl (show Int32.toInt 0 = 0 from rfl) (fun c21 => ?_) (fun c21 => absurd c21 (by omega))
      refine te_bipush (p2 := 44) (x := (-2)) rfl rfl (by decide) ?_
      obtain ⟨v22, e22, y22, w22, a22, b22, _⟩ := hI.2.1 1 2 (.inl (0, 24, 9999999999)) rfl
      subst w22
      exact te_iret rfl rfl ⟨hI, f0, _, rfl, (by show ((-2), cX h, absX h 23) = _; (have c0_ := (show Int32.toInt (-2) = (-2) from rfl)); unfold person_f; rw [(show (cX h).np = y22 from rv_of e22)]; (repeat' split) <;> first | (exfalso; omega) | (simp only [Dy.mk, Dy.ld, Dy.hm, Dy.hu, Dy.wk, Dy.de, Dy.st, Dy.up, Dy.rl, Dy.rs, Dy.ra, Dy.kp, Dy.du, Dy.ti, Dy.da, Dy.we, Dy.wi, Dy.s_ld, Dy.s_hm, Dy.s_hu, Dy.s_wk, Dy.s_de, Dy.s_st, Dy.s_up, Dy.s_rl, Dy.s_rs, Dy.s_ra, Dy.s_kp, Dy.s_du, Dy.s_ti, Dy.s_da, Dy.s_we, Dy.s_wi, Ct.mk, Ct.kd, Ct.tip, Ct.np, Ct.sg, Ct.ag, Ct.kn, Ct.ro, Ct.hd, Ct.hn, Ct.hf, Ct.ht, Ct.wn, Ct.cr, Ct.wf, Ct.wl, Ct.nw, Ct.wc, Ct.wt, Ct.sd, Ct.s_kd, Ct.s_tip, Ct.s_np, Ct.s_sg, Ct.s_ag, Ct.s_kn, Ct.s_ro, Ct.s_hd, Ct.s_hn, Ct.s_hf, Ct.s_ht, Ct.s_wn, Ct.s_cr, Ct.s_wf, Ct.s_wl, Ct.s_nw, Ct.s_wc, Ct.s_wt, Ct.s_sd]; done) | rfl)⟩
  · subst w1
    have cc1_1 := (show Int32.toInt 100 = 100 from rfl)
    refine tz_ne (p2 := 9) rfl rfl (show Int32.toInt 0 = 0 from rfl) (fun c23 => absurd c23 (by omega)) (fun c23 => ?_)
    refine te_iconst (p2 := 10) (x := (-1)) rfl rfl (by decide) ?_
    obtain ⟨v24, e24, y24, w24, a24, b24, _⟩ := hI.2.1 1 2 (.inl (0, 24, 9999999999)) rfl
    subst w24
    exact te_iret rfl rfl ⟨hI, f0, _, rfl, (by show ((-1), cX h, absX h 23) = _; (have c0_ := (show Int32.toInt (-1) = (-1) from rfl)); unfold person_f; rw [(show (cX h).np = y24 from rv_of e24)]; (repeat' split) <;> first | (exfalso; omega) | (simp only [Dy.mk, Dy.ld, Dy.hm, Dy.hu, Dy.wk, Dy.de, Dy.st, Dy.up, Dy.rl, Dy.rs, Dy.ra, Dy.kp, Dy.du, Dy.ti, Dy.da, Dy.we, Dy.wi, Dy.s_ld, Dy.s_hm, Dy.s_hu, Dy.s_wk, Dy.s_de, Dy.s_st, Dy.s_up, Dy.s_rl, Dy.s_rs, Dy.s_ra, Dy.s_kp, Dy.s_du, Dy.s_ti, Dy.s_da, Dy.s_we, Dy.s_wi, Ct.mk, Ct.kd, Ct.tip, Ct.np, Ct.sg, Ct.ag, Ct.kn, Ct.ro, Ct.hd, Ct.hn, Ct.hf, Ct.ht, Ct.wn, Ct.cr, Ct.wf, Ct.wl, Ct.nw, Ct.wc, Ct.wt, Ct.sd, Ct.s_kd, Ct.s_tip, Ct.s_np, Ct.s_sg, Ct.s_ag, Ct.s_kn, Ct.s_ro, Ct.s_hd, Ct.s_hn, Ct.s_hf, Ct.s_ht, Ct.s_wn, Ct.s_cr, Ct.s_wf, Ct.s_wl, Ct.s_nw, Ct.s_wc, Ct.s_wt, Ct.s_sd]; done) | rfl)⟩
abbrev Q1_wall (x1 x2 x3 : Int32) (y : Int32) (h h2 : im_H) : Prop := (y, cX h2, absX h2 23) = wall_f x1 x2 x3 (cX h) (absX h 23)
set_option maxRecDepth 20000 in
set_option maxHeartbeats 4000000 in
theorem c_X11_wall {x1 : Int32} {x2 : Int32} {x3 : Int32} {h : im_H} (hI : tI h)  : CaP 8 64 [.ref 16, .int x1, .int x2, .int x3] h (fun v h2 => tI h2 ∧ fr F_X11_wall h h2 ∧ ∃ y : Int32, v = some (.int y) ∧ Q1_wall x1 x2 x3 y h h2) := by
  refine cap_of (d := 7) (M := mX11_wall) rfl (Nat.le_of_ble_eq_true rfl) ?_
  show EvP im_K0 7 mX11_wall (0, [(0, .ref 16), (1, .int x1), (2, .int x2), (3, .int x3)], [], h) _
  have f0 : fr F_X11_wall h h := fr_rf
  refine te_iload_n (p2 := 1) rfl rfl rfl ?_
  refine te_bipush (p2 := 3) (x := 100) rfl rfl (by decide) ?_
  refine cS_pI (p2 := 6) rfl rfl rfl rfl (t_X11_within (n := x1) (b := 100) hI ) (by decide) (fun y1 r1 => ?_)
  rcases r1 with ⟨w1, c1⟩ | ⟨w1, c1⟩
  · subst w1
    have cc1_1 := (show Int32.toInt 100 = 100 from rfl)
    refine tz_ne (p2 := 9) rfl rfl (show Int32.toInt 1 = 1 from rfl) (fun c2 => ?_) (fun c2 => absurd c2 (by omega))
    refine te_iload_n (p2 := 12) rfl rfl rfl ?_
    refine te_iconst (p2 := 13) (x := 4) rfl rfl (by decide) ?_
    refine cS_pI (p2 := 16) rfl rfl rfl rfl (t_X11_within (n := x2) (b := 4) hI ) (by decide) (fun y3 r3 => ?_)
    rcases r3 with ⟨w3, c3⟩ | ⟨w3, c3⟩
    · subst w3
      have cc3_1 := (show Int32.toInt 4 = 4 from rfl)
      refine tz_eq (p2 := 19) rfl rfl (show Int32.toInt 1 = 1 from rfl) (fun c4 => absurd c4 (by omega)) (fun c4 => ?_)
      refine te_iload_n (p2 := 20) rfl rfl rfl ?_
      refine te_iconst (p2 := 21) (x := 1) rfl rfl (by decide) ?_
      refine te_bipush (p2 := 23) (x := 99) rfl rfl (by decide) ?_
      refine cS_pI (p2 := 26) rfl rfl rfl rfl (t_X11_between (n := x3) (a := 1) (b := 99) hI ) (by decide) (fun y5 r5 => ?_)
      rcases r5 with ⟨w5, c5⟩ | ⟨w5, c5⟩
      · subst w5
        have cc5_1 := (show Int32.toInt 1 = 1 from rfl)
        have cc5_2 := (show Int32.toInt 99 = 99 from rfl)
        refine tz_ne (p2 := 29) rfl rfl (show Int32.toInt 1 = 1 from rfl) (fun c6 => ?_) (fun c6 => absurd c6 (by omega))
        refine te_iload_n (p2 := 33) rfl rfl rfl ?_
        refine te_iload_n (p2 := 34) rfl rfl rfl ?_
        refine cS_pI (p2 := 37) rfl rfl rfl rfl (t_X11_cellOnSide (c := x1) (side := x2) hI (by omega) (by omega)) (by decide) (fun y7 r7 => ?_)
        obtain ⟨a7, b7, e7⟩ := r7
        refine te_istore (p2 := 39) (lv2 := [(4, .int y7), (0, .ref 16), (1, .int x1), (2, .int x2), (3, .int x3)]) rfl rfl (by decide) rfl ?_
        refine te_iload (p2 := 41) rfl rfl rfl ?_
        refine te_iconst (p2 := 42) (x := (-1)) rfl rfl (by decide) ?_
        refine tb_ne (p2 := 45) rfl rfl rfl (show Int32.toInt (-1) = (-1) from rfl) (fun c8 => ?_) (fun c8 => ?_)
        · refine te_aload_n (p2 := 49) rfl rfl rfl ?_
          refine tg_r (p2 := 52) (i := 0) (r := 17) rfl rfl hI rfl rfl rfl ?_
          refine tg_i (p2 := 55) (i := 1) rfl rfl hI rfl rfl rfl (fun y9 a9 b9 e9 => ?_)
          refine te_bipush (p2 := 57) (x := 16) rfl rfl (by decide) ?_
          refine tb_lt (p2 := 60) rfl rfl rfl (show Int32.toInt 16 = 16 from rfl) (fun c10 => ?_) (fun c10 => ?_)
          · refine te_aload_n (p2 := 64) rfl rfl rfl ?_
            refine tg_r (p2 := 67) (i := 0) (r := 17) rfl rfl hI rfl rfl rfl ?_
            refine tg_e (p2 := 70) (i := 1) (v := .int y9) rfl rfl hI rfl rfl e9 ?_
            refine te_istore (p2 := 72) (lv2 := [(5, .int y9), (4, .int y7), (0, .ref 16), (1, .int x1), (2, .int x2), (3, .int x3)]) rfl rfl (by decide) rfl ?_
            refine te_aload_n (p2 := 73) rfl rfl rfl ?_
            refine tg_r (p2 := 76) (i := 0) (r := 17) rfl rfl hI rfl rfl rfl ?_
            refine tg_r (p2 := 79) (i := 1) (r := 25) rfl rfl hI rfl rfl rfl ?_
            refine te_iload (p2 := 81) rfl rfl rfl ?_
            refine te_iload_n (p2 := 82) rfl rfl rfl ?_
            refine ts_i (p2 := 83) (i := 9) (n := 16) rfl rfl hI rfl rfl rfl rfl (by omega) (by omega) (by omega) (by omega) (by omega) rfl (fun h11 I11 u11 => ?_)
            have f11 := fr_st (F := F_X11_wall) 4 f0 u11 rfl (by omega) (by omega)
            refine te_aload_n (p2 := 84) rfl rfl rfl ?_
            refine tg_r (p2 := 87) (i := 0) (r := 17) rfl rfl I11 rfl rfl rfl ?_
            refine tg_r (p2 := 90) (i := 1) (r := 26) rfl rfl I11 rfl rfl rfl ?_
            refine te_iload (p2 := 92) rfl rfl rfl ?_
            refine te_iload (p2 := 94) rfl rfl rfl ?_
            refine ts_i (p2 := 95) (i := 10) (n := 16) rfl rfl I11 rfl rfl rfl rfl (by omega) (by omega) (by omega) (by omega) (by omega) rfl (fun h12 I12 u12 => ?_)
            have f12 := fr_st (F := F_X11_wall) 1 f11 u12 rfl (by omega) (by omega)
            refine te_aload_n (p2 := 96) rfl rfl rfl ?_
            refine tg_r (p2 := 99) (i := 0) (r := 39) rfl rfl I12 rfl rfl rfl ?_
            refine tg_r (p2 := 102) (i := 23) (r := 47) rfl rfl I12 rfl rfl rfl ?_
            refine te_iload (p2 := 104) rfl rfl rfl ?_
            refine te_iload_n (p2 := 105) rfl rfl rfl ?_
            refine ts_i (p2 := 106) (i := 31) (n := 16) rfl rfl I12 rfl rfl rfl rfl (by omega) (by omega) (i32_lo _) (i32_hi _) (i32_ho _) rfl (fun h13 I13 u13 => ?_)
            have f13 := fr_st (F := F_X11_wall) 2 f12 u13 rfl (by omega) (by omega)
            refine te_aload_n (p2 := 107) rfl rfl rfl ?_
            refine tg_r (p2 := 110) (i := 0) (r := 39) rfl rfl I13 rfl rfl rfl ?_
            refine tg_r (p2 := 113) (i := 23) (r := 48) rfl rfl I13 rfl rfl rfl ?_
            refine te_iload (p2 := 115) rfl rfl rfl ?_
            refine te_iconst (p2 := 116) (x := 1) rfl rfl (by decide) ?_
            refine ts_b (p2 := 117) (i := 32) (n := 16) rfl rfl I13 rfl rfl rfl rfl (by omega) (by omega) (by decide) (by decide) rfl (fun h14 I14 u14 => ?_)
            have f14 := fr_st (F := F_X11_wall) 3 f13 u14 rfl (by omega) (by omega)
            refine te_aload_n (p2 := 118) rfl rfl rfl ?_
            refine tg_r (p2 := 121) (i := 0) (r := 17) rfl rfl I14 rfl rfl rfl ?_
            refine te_dup (p2 := 122) rfl rfl rfl ?_
            refine tg_e (p2 := 125) (i := 1) (v := .int y9) rfl rfl I14 rfl rfl ((u14.2 _ _ (Or.inl (by decide))).trans ((u13.2 _ _ (Or.inl (by decide))).trans ((u12.2 _ _ (Or.inl (by decide))).trans ((u11.2 _ _ (Or.inl (by decide))).trans e9)))) ?_
            refine te_iconst (p2 := 126) (x := 1) rfl rfl (by decide) ?_
            refine ar_add (p2 := 127) rfl rfl rfl (show Int32.toInt 1 = 1 from rfl) (by omega) (by omega) (fun z15 e15 f15 => ?_)
            refine tp_i (p2 := 130) (i := 1) rfl rfl I14 rfl rfl (by decide) rfl rfl rfl (by omega) (by omega) (by omega) rfl (fun h16 I16 u16 => ?_)
            have f16 := fr_st (F := F_X11_wall) 0 f14 u16 rfl (by decide) (by decide)
            refine te_iload (p2 := 132) rfl rfl rfl ?_
            exact te_iret rfl rfl ⟨I16, f16, _, rfl, (by show (y9, cX h16, absX h16 23) = _; (have n0_ := congrArg Int32.toInt e7); rw [xcu_nw u16, xcu_o u14 (by decide), xcu_o u13 (by decide), xcu_wt u12 (by omega), xcu_wc u11 (by omega), xu_o (s := 23) u16 (by decide), xu_up (s := 23) u14 (by omega), xu_st (s := 23) u13 (by omega), xu_o (s := 23) u12 (by decide), xu_o (s := 23) u11 (by decide)]; unfold wall_f; rw [(show (cX h).nw = y9 from rv_of e9), (show y9 + 1 = z15 from i32_ext (by rw [i32_addE (show Int32.toInt 1 = 1 from rfl) (by omega) (by omega)]; omega)), (show nbr x1 x2 = _ from (e7).symm)]; (repeat' split) <;> first | (exfalso; omega) | (simp only [Dy.mk, Dy.ld, Dy.hm, Dy.hu, Dy.wk, Dy.de, Dy.st, Dy.up, Dy.rl, Dy.rs, Dy.ra, Dy.kp, Dy.du, Dy.ti, Dy.da, Dy.we, Dy.wi, Dy.s_ld, Dy.s_hm, Dy.s_hu, Dy.s_wk, Dy.s_de, Dy.s_st, Dy.s_up, Dy.s_rl, Dy.s_rs, Dy.s_ra, Dy.s_kp, Dy.s_du, Dy.s_ti, Dy.s_da, Dy.s_we, Dy.s_wi, Ct.mk, Ct.kd, Ct.tip, Ct.np, Ct.sg, Ct.ag, Ct.kn, Ct.ro, Ct.hd, Ct.hn, Ct.hf, Ct.ht, Ct.wn, Ct.cr, Ct.wf, Ct.wl, Ct.nw, Ct.wc, Ct.wt, Ct.sd, Ct.s_kd, Ct.s_tip, Ct.s_np, Ct.s_sg, Ct.s_ag, Ct.s_kn, Ct.s_ro, Ct.s_hd, Ct.s_hn, Ct.s_hf, Ct.s_ht, Ct.s_wn, Ct.s_cr, Ct.s_wf, Ct.s_wl, Ct.s_nw, Ct.s_wc, Ct.s_wt, Ct.s_sd]; done) | rfl)⟩
          · refine te_bipush (p2 := 62) (x := (-4)) rfl rfl (by decide) ?_
            exact te_iret rfl rfl ⟨hI, f0, _, rfl, (by show ((-4), cX h, absX h 23) = _; (have c0_ := (show Int32.toInt (-4) = (-4) from rfl)); (have n0_ := congrArg Int32.toInt e7); unfold wall_f; rw [(show (cX h).nw = y9 from rv_of e9)]; (repeat' split) <;> first | (exfalso; omega) | (simp only [Dy.mk, Dy.ld, Dy.hm, Dy.hu, Dy.wk, Dy.de, Dy.st, Dy.up, Dy.rl, Dy.rs, Dy.ra, Dy.kp, Dy.du, Dy.ti, Dy.da, Dy.we, Dy.wi, Dy.s_ld, Dy.s_hm, Dy.s_hu, Dy.s_wk, Dy.s_de, Dy.s_st, Dy.s_up, Dy.s_rl, Dy.s_rs, Dy.s_ra, Dy.s_kp, Dy.s_du, Dy.s_ti, Dy.s_da, Dy.s_we, Dy.s_wi, Ct.mk, Ct.kd, Ct.tip, Ct.np, Ct.sg, Ct.ag, Ct.kn, Ct.ro, Ct.hd, Ct.hn, Ct.hf, Ct.ht, Ct.wn, Ct.cr, Ct.wf, Ct.wl, Ct.nw, Ct.wc, Ct.wt, Ct.sd, Ct.s_kd, Ct.s_tip, Ct.s_np, Ct.s_sg, Ct.s_ag, Ct.s_kn, Ct.s_ro, Ct.s_hd, Ct.s_hn, Ct.s_hf, Ct.s_ht, Ct.s_wn, Ct.s_cr, Ct.s_wf, Ct.s_wl, Ct.s_nw, Ct.s_wc, Ct.s_wt, Ct.s_sd]; done) | rfl)⟩
        · refine te_bipush (p2 := 47) (x := (-3)) rfl rfl (by decide) ?_
          obtain ⟨v17, e17, y17, w17, a17, b17, _⟩ := hI.2.1 1 9 (.inl (0, 16, 9999999999)) rfl
          subst w17
          exact te_iret rfl rfl ⟨hI, f0, _, rfl, (by show ((-3), cX h, absX h 23) = _; (have c0_ := (show Int32.toInt (-3) = (-3) from rfl)); (have n0_ := congrArg Int32.toInt e7); unfold wall_f; rw [(show (cX h).nw = y17 from rv_of e17)]; (repeat' split) <;> first | (exfalso; omega) | (simp only [Dy.mk, Dy.ld, Dy.hm, Dy.hu, Dy.wk, Dy.de, Dy.st, Dy.up, Dy.rl, Dy.rs, Dy.ra, Dy.kp, Dy.du, Dy.ti, Dy.da, Dy.we, Dy.wi, Dy.s_ld, Dy.s_hm, Dy.s_hu, Dy.s_wk, Dy.s_de, Dy.s_st, Dy.s_up, Dy.s_rl, Dy.s_rs, Dy.s_ra, Dy.s_kp, Dy.s_du, Dy.s_ti, Dy.s_da, Dy.s_we, Dy.s_wi, Ct.mk, Ct.kd, Ct.tip, Ct.np, Ct.sg, Ct.ag, Ct.kn, Ct.ro, Ct.hd, Ct.hn, Ct.hf, Ct.ht, Ct.wn, Ct.cr, Ct.wf, Ct.wl, Ct.nw, Ct.wc, Ct.wt, Ct.sd, Ct.s_kd, Ct.s_tip, Ct.s_np, Ct.s_sg, Ct.s_ag, Ct.s_kn, Ct.s_ro, Ct.s_hd, Ct.s_hn, Ct.s_hf, Ct.s_ht, Ct.s_wn, Ct.s_cr, Ct.s_wf, Ct.s_wl, Ct.s_nw, Ct.s_wc, Ct.s_wt, Ct.s_sd]; done) | rfl)⟩
      · subst w5
        have cc5_1 := (show Int32.toInt 1 = 1 from rfl)
        have cc5_2 := (show Int32.toInt 99 = 99 from rfl)
        refine tz_ne (p2 := 29) rfl rfl (show Int32.toInt 0 = 0 from rfl) (fun c18 => absurd c18 (by omega)) (fun c18 => ?_)
        refine te_bipush (p2 := 31) (x := (-2)) rfl rfl (by decide) ?_
        obtain ⟨v19, e19, y19, w19, a19, b19, _⟩ := hI.2.1 1 9 (.inl (0, 16, 9999999999)) rfl
        subst w19
        exact te_iret rfl rfl ⟨hI, f0, _, rfl, (by show ((-2), cX h, absX h 23) = _; (have c0_ := (show Int32.toInt (-2) = (-2) from rfl)); unfold wall_f; rw [(show (cX h).nw = y19 from rv_of e19)]; (repeat' split) <;> first | (exfalso; omega) | (simp only [Dy.mk, Dy.ld, Dy.hm, Dy.hu, Dy.wk, Dy.de, Dy.st, Dy.up, Dy.rl, Dy.rs, Dy.ra, Dy.kp, Dy.du, Dy.ti, Dy.da, Dy.we, Dy.wi, Dy.s_ld, Dy.s_hm, Dy.s_hu, Dy.s_wk, Dy.s_de, Dy.s_st, Dy.s_up, Dy.s_rl, Dy.s_rs, Dy.s_ra, Dy.s_kp, Dy.s_du, Dy.s_ti, Dy.s_da, Dy.s_we, Dy.s_wi, Ct.mk, Ct.kd, Ct.tip, Ct.np, Ct.sg, Ct.ag, Ct.kn, Ct.ro, Ct.hd, Ct.hn, Ct.hf, Ct.ht, Ct.wn, Ct.cr, Ct.wf, Ct.wl, Ct.nw, Ct.wc, Ct.wt, Ct.sd, Ct.s_kd, Ct.s_tip, Ct.s_np, Ct.s_sg, Ct.s_ag, Ct.s_kn, Ct.s_ro, Ct.s_hd, Ct.s_hn, Ct.s_hf, Ct.s_ht, Ct.s_wn, Ct.s_cr, Ct.s_wf, Ct.s_wl, Ct.s_nw, Ct.s_wc, Ct.s_wt, Ct.s_sd]; done) | rfl)⟩
    · subst w3
      have cc3_1 := (show Int32.toInt 4 = 4 from rfl)
      refine tz_eq (p2 := 19) rfl rfl (show Int32.toInt 0 = 0 from rfl) (fun c20 => ?_) (fun c20 => absurd c20 (by omega))
      refine te_bipush (p2 := 31) (x := (-2)) rfl rfl (by decide) ?_
      obtain ⟨v21, e21, y21, w21, a21, b21, _⟩ := hI.2.1 1 9 (.inl (0, 16, 9999999999)) rfl
      subst w21
      exact te_iret rfl rfl ⟨hI, f0, _, rfl, (by show ((-2), cX h, absX h 23) = _; (have c0_ := (show Int32.toInt (-2) = (-2) from rfl)); unfold wall_f; rw [(show (cX h).nw = y21 from rv_of e21)]; (repeat' split) <;> first | (exfalso; omega) | (simp only [Dy.mk, Dy.ld, Dy.hm, Dy.hu, Dy.wk, Dy.de, Dy.st, Dy.up, Dy.rl, Dy.rs, Dy.ra, Dy.kp, Dy.du, Dy.ti, Dy.da, Dy.we, Dy.wi, Dy.s_ld, Dy.s_hm, Dy.s_hu, Dy.s_wk, Dy.s_de, Dy.s_st, Dy.s_up, Dy.s_rl, Dy.s_rs, Dy.s_ra, Dy.s_kp, Dy.s_du, Dy.s_ti, Dy.s_da, Dy.s_we, Dy.s_wi, Ct.mk, Ct.kd, Ct.tip, Ct.np, Ct.sg, Ct.ag, Ct.kn, Ct.ro, Ct.hd, Ct.hn, Ct.hf, Ct.ht, Ct.wn, Ct.cr, Ct.wf, Ct.wl, Ct.nw, Ct.wc, Ct.wt, Ct.sd, Ct.s_kd, Ct.s_tip, Ct.s_np, Ct.s_sg, Ct.s_ag, Ct.s_kn, Ct.s_ro, Ct.s_hd, Ct.s_hn, Ct.s_hf, Ct.s_ht, Ct.s_wn, Ct.s_cr, Ct.s_wf, Ct.s_wl, Ct.s_nw, Ct.s_wc, Ct.s_wt, Ct.s_sd]; done) | rfl)⟩
  · subst w1
    have cc1_1 := (show Int32.toInt 100 = 100 from rfl)
    refine tz_ne (p2 := 9) rfl rfl (show Int32.toInt 0 = 0 from rfl) (fun c22 => absurd c22 (by omega)) (fun c22 => ?_)
    refine te_iconst (p2 := 10) (x := (-1)) rfl rfl (by decide) ?_
    obtain ⟨v23, e23, y23, w23, a23, b23, _⟩ := hI.2.1 1 9 (.inl (0, 16, 9999999999)) rfl
    subst w23
    exact te_iret rfl rfl ⟨hI, f0, _, rfl, (by show ((-1), cX h, absX h 23) = _; (have c0_ := (show Int32.toInt (-1) = (-1) from rfl)); unfold wall_f; rw [(show (cX h).nw = y23 from rv_of e23)]; (repeat' split) <;> first | (exfalso; omega) | (simp only [Dy.mk, Dy.ld, Dy.hm, Dy.hu, Dy.wk, Dy.de, Dy.st, Dy.up, Dy.rl, Dy.rs, Dy.ra, Dy.kp, Dy.du, Dy.ti, Dy.da, Dy.we, Dy.wi, Dy.s_ld, Dy.s_hm, Dy.s_hu, Dy.s_wk, Dy.s_de, Dy.s_st, Dy.s_up, Dy.s_rl, Dy.s_rs, Dy.s_ra, Dy.s_kp, Dy.s_du, Dy.s_ti, Dy.s_da, Dy.s_we, Dy.s_wi, Ct.mk, Ct.kd, Ct.tip, Ct.np, Ct.sg, Ct.ag, Ct.kn, Ct.ro, Ct.hd, Ct.hn, Ct.hf, Ct.ht, Ct.wn, Ct.cr, Ct.wf, Ct.wl, Ct.nw, Ct.wc, Ct.wt, Ct.sd, Ct.s_kd, Ct.s_tip, Ct.s_np, Ct.s_sg, Ct.s_ag, Ct.s_kn, Ct.s_ro, Ct.s_hd, Ct.s_hn, Ct.s_hf, Ct.s_ht, Ct.s_wn, Ct.s_cr, Ct.s_wf, Ct.s_wl, Ct.s_nw, Ct.s_wc, Ct.s_wt, Ct.s_sd]; done) | rfl)⟩
abbrev Q2_ruin (x1 x2 x3 : Int32) (y : Int32) (h h2 : im_H) : Prop := (y, cM h2, absM h2) = ruin_f x1 x2 x3 (cM h) (absM h)
set_option maxRecDepth 20000 in
set_option maxHeartbeats 4000000 in
theorem c_X12_ruin {x1 : Int32} {x2 : Int32} {x3 : Int32} {h : im_H} (hI : tI h)  : CaP 8 123 [.ref 164, .int x1, .int x2, .int x3] h (fun v h2 => tI h2 ∧ fr F_X12_ruin h h2 ∧ ∃ y : Int32, v = some (.int y) ∧ Q2_ruin x1 x2 x3 y h h2) := by
  refine cap_of (d := 7) (M := mX12_ruin) rfl (Nat.le_of_ble_eq_true rfl) ?_
  show EvP im_K0 7 mX12_ruin (0, [(0, .ref 164), (1, .int x1), (2, .int x2), (3, .int x3)], [], h) _
  have f0 : fr F_X12_ruin h h := fr_rf
  refine te_iload_n (p2 := 1) rfl rfl rfl ?_
  refine cS_pI (p2 := 4) rfl rfl rfl rfl (t_X12_isCell (n := x1) hI ) (by decide) (fun y1 r1 => ?_)
  rcases r1 with ⟨w1, c1⟩ | ⟨w1, c1⟩
  · subst w1
    refine tz_ne (p2 := 7) rfl rfl (show Int32.toInt 1 = 1 from rfl) (fun c2 => ?_) (fun c2 => absurd c2 (by omega))
    refine te_iload_n (p2 := 10) rfl rfl rfl ?_
    refine te_iconst (p2 := 11) (x := 0) rfl rfl (by decide) ?_
    refine te_iconst (p2 := 12) (x := 5) rfl rfl (by decide) ?_
    refine cS_pI (p2 := 15) rfl rfl rfl rfl (t_X12_in (n := x2) (a := 0) (b := 5) hI ) (by decide) (fun y3 r3 => ?_)
    rcases r3 with ⟨w3, c3⟩ | ⟨w3, c3⟩
    · subst w3
      have cc3_1 := (show Int32.toInt 0 = 0 from rfl)
      have cc3_2 := (show Int32.toInt 5 = 5 from rfl)
      refine tz_eq (p2 := 18) rfl rfl (show Int32.toInt 1 = 1 from rfl) (fun c4 => absurd c4 (by omega)) (fun c4 => ?_)
      refine te_iload_n (p2 := 19) rfl rfl rfl ?_
      refine te_iconst (p2 := 20) (x := 0) rfl rfl (by decide) ?_
      refine te_sipush (p2 := 23) (x := 9999) rfl rfl (by decide) ?_
      refine cS_pI (p2 := 26) rfl rfl rfl rfl (t_X12_in (n := x3) (a := 0) (b := 9999) hI ) (by decide) (fun y5 r5 => ?_)
      rcases r5 with ⟨w5, c5⟩ | ⟨w5, c5⟩
      · subst w5
        have cc5_1 := (show Int32.toInt 0 = 0 from rfl)
        have cc5_2 := (show Int32.toInt 9999 = 9999 from rfl)
        refine tz_ne (p2 := 29) rfl rfl (show Int32.toInt 1 = 1 from rfl) (fun c6 => ?_) (fun c6 => absurd c6 (by omega))
        refine te_aload_n (p2 := 33) rfl rfl rfl ?_
        refine tg_r (p2 := 36) (i := 148) (r := 165) rfl rfl hI rfl rfl rfl ?_
        refine te_iload_n (p2 := 37) rfl rfl rfl ?_
        refine tl_i (p2 := 38) (i := 149) (n := 283) rfl rfl hI rfl rfl rfl rfl (by omega) (by omega) (fun y7 a7 b7 g7 e7 => ?_)
        refine te_istore (p2 := 40) (lv2 := [(4, .int y7), (0, .ref 164), (1, .int x1), (2, .int x2), (3, .int x3)]) rfl rfl (by decide) rfl ?_
        refine te_aload_n (p2 := 41) rfl rfl rfl ?_
        refine tg_r (p2 := 44) (i := 148) (r := 165) rfl rfl hI rfl rfl rfl ?_
        refine te_iload_n (p2 := 45) rfl rfl rfl ?_
        refine te_iload_n (p2 := 46) rfl rfl rfl ?_
        refine ts_i (p2 := 47) (i := 149) (n := 283) rfl rfl hI rfl rfl rfl rfl (by omega) (by omega) (i32_lo _) (i32_hi _) (i32_ho _) rfl (fun h8 I8 u8 => ?_)
        have f8 := fr_st (F := F_X12_ruin) 0 f0 u8 rfl (by omega) (by omega)
        refine te_aload_n (p2 := 48) rfl rfl rfl ?_
        refine tg_r (p2 := 51) (i := 148) (r := 168) rfl rfl I8 rfl rfl rfl ?_
        refine te_iload_n (p2 := 52) rfl rfl rfl ?_
        refine te_iload_n (p2 := 53) rfl rfl rfl ?_
        refine ts_i (p2 := 54) (i := 152) (n := 100) rfl rfl I8 rfl rfl rfl rfl (by omega) (by omega) (by omega) (by omega) (by omega) rfl (fun h9 I9 u9 => ?_)
        have f9 := fr_st (F := F_X12_ruin) 1 f8 u9 rfl (by omega) (by omega)
        refine te_iload (p2 := 56) rfl rfl rfl ?_
        exact te_iret rfl rfl ⟨I9, f9, _, rfl, (by show (y7, cM h9, absM h9) = _; rw [mcu_kd u9 (by omega), mcu_o u8 (by decide), mu_o u9 (by decide), mu_ld (i := x1.toInt.toNat) u8 (by omega) (by omega)]; unfold ruin_f; rw [(show (absM h).ld x1.toInt.toNat = y7 from (aM_ld (by omega)).trans (rv_of e7))]; (repeat' split) <;> first | (exfalso; omega) | (simp only [Dy.mk, Dy.ld, Dy.hm, Dy.hu, Dy.wk, Dy.de, Dy.st, Dy.up, Dy.rl, Dy.rs, Dy.ra, Dy.kp, Dy.du, Dy.ti, Dy.da, Dy.we, Dy.wi, Dy.s_ld, Dy.s_hm, Dy.s_hu, Dy.s_wk, Dy.s_de, Dy.s_st, Dy.s_up, Dy.s_rl, Dy.s_rs, Dy.s_ra, Dy.s_kp, Dy.s_du, Dy.s_ti, Dy.s_da, Dy.s_we, Dy.s_wi, Ct.mk, Ct.kd, Ct.tip, Ct.np, Ct.sg, Ct.ag, Ct.kn, Ct.ro, Ct.hd, Ct.hn, Ct.hf, Ct.ht, Ct.wn, Ct.cr, Ct.wf, Ct.wl, Ct.nw, Ct.wc, Ct.wt, Ct.sd, Ct.s_kd, Ct.s_tip, Ct.s_np, Ct.s_sg, Ct.s_ag, Ct.s_kn, Ct.s_ro, Ct.s_hd, Ct.s_hn, Ct.s_hf, Ct.s_ht, Ct.s_wn, Ct.s_cr, Ct.s_wf, Ct.s_wl, Ct.s_nw, Ct.s_wc, Ct.s_wt, Ct.s_sd]; done) | rfl)⟩
      · subst w5
        have cc5_1 := (show Int32.toInt 0 = 0 from rfl)
        have cc5_2 := (show Int32.toInt 9999 = 9999 from rfl)
        refine tz_ne (p2 := 29) rfl rfl (show Int32.toInt 0 = 0 from rfl) (fun c10 => absurd c10 (by omega)) (fun c10 => ?_)
        refine te_bipush (p2 := 31) (x := (-2)) rfl rfl (by decide) ?_
        exact te_iret rfl rfl ⟨hI, f0, _, rfl, (by show ((-2), cM h, absM h) = _; (have c0_ := (show Int32.toInt (-2) = (-2) from rfl)); unfold ruin_f; (repeat' split) <;> first | (exfalso; omega) | (simp only [Dy.mk, Dy.ld, Dy.hm, Dy.hu, Dy.wk, Dy.de, Dy.st, Dy.up, Dy.rl, Dy.rs, Dy.ra, Dy.kp, Dy.du, Dy.ti, Dy.da, Dy.we, Dy.wi, Dy.s_ld, Dy.s_hm, Dy.s_hu, Dy.s_wk, Dy.s_de, Dy.s_st, Dy.s_up, Dy.s_rl, Dy.s_rs, Dy.s_ra, Dy.s_kp, Dy.s_du, Dy.s_ti, Dy.s_da, Dy.s_we, Dy.s_wi, Ct.mk, Ct.kd, Ct.tip, Ct.np, Ct.sg, Ct.ag, Ct.kn, Ct.ro, Ct.hd, Ct.hn, Ct.hf, Ct.ht, Ct.wn, Ct.cr, Ct.wf, Ct.wl, Ct.nw, Ct.wc, Ct.wt, Ct.sd, Ct.s_kd, Ct.s_tip, Ct.s_np, Ct.s_sg, Ct.s_ag, Ct.s_kn, Ct.s_ro, Ct.s_hd, Ct.s_hn, Ct.s_hf, Ct.s_ht, Ct.s_wn, Ct.s_cr, Ct.s_wf, Ct.s_wl, Ct.s_nw, Ct.s_wc, Ct.s_wt, Ct.s_sd]; done) | rfl)⟩
    · subst w3
      have cc3_1 := (show Int32.toInt 0 = 0 from rfl)
      have cc3_2 := (show Int32.toInt 5 = 5 from rfl)
      refine tz_eq (p2 := 18) rfl rfl (show Int32.toInt 0 = 0 from rfl) (fun c11 => ?_) (fun c11 => absurd c11 (by omega))
      refine te_bipush (p2 := 31) (x := (-2)) rfl rfl (by decide) ?_
      exact te_iret rfl rfl ⟨hI, f0, _, rfl, (by show ((-2), cM h, absM h) = _; (have c0_ := (show Int32.toInt (-2) = (-2) from rfl)); unfold ruin_f; (repeat' split) <;> first | (exfalso; omega) | (simp only [Dy.mk, Dy.ld, Dy.hm, Dy.hu, Dy.wk, Dy.de, Dy.st, Dy.up, Dy.rl, Dy.rs, Dy.ra, Dy.kp, Dy.du, Dy.ti, Dy.da, Dy.we, Dy.wi, Dy.s_ld, Dy.s_hm, Dy.s_hu, Dy.s_wk, Dy.s_de, Dy.s_st, Dy.s_up, Dy.s_rl, Dy.s_rs, Dy.s_ra, Dy.s_kp, Dy.s_du, Dy.s_ti, Dy.s_da, Dy.s_we, Dy.s_wi, Ct.mk, Ct.kd, Ct.tip, Ct.np, Ct.sg, Ct.ag, Ct.kn, Ct.ro, Ct.hd, Ct.hn, Ct.hf, Ct.ht, Ct.wn, Ct.cr, Ct.wf, Ct.wl, Ct.nw, Ct.wc, Ct.wt, Ct.sd, Ct.s_kd, Ct.s_tip, Ct.s_np, Ct.s_sg, Ct.s_ag, Ct.s_kn, Ct.s_ro, Ct.s_hd, Ct.s_hn, Ct.s_hf, Ct.s_ht, Ct.s_wn, Ct.s_cr, Ct.s_wf, Ct.s_wl, Ct.s_nw, Ct.s_wc, Ct.s_wt, Ct.s_sd]; done) | rfl)⟩
  · subst w1
    refine tz_ne (p2 := 7) rfl rfl (show Int32.toInt 0 = 0 from rfl) (fun c12 => absurd c12 (by omega)) (fun c12 => ?_)
    refine te_iconst (p2 := 8) (x := (-1)) rfl rfl (by decide) ?_
    exact te_iret rfl rfl ⟨hI, f0, _, rfl, (by show ((-1), cM h, absM h) = _; (have c0_ := (show Int32.toInt (-1) = (-1) from rfl)); unfold ruin_f; (repeat' split) <;> first | (exfalso; omega) | (simp only [Dy.mk, Dy.ld, Dy.hm, Dy.hu, Dy.wk, Dy.de, Dy.st, Dy.up, Dy.rl, Dy.rs, Dy.ra, Dy.kp, Dy.du, Dy.ti, Dy.da, Dy.we, Dy.wi, Dy.s_ld, Dy.s_hm, Dy.s_hu, Dy.s_wk, Dy.s_de, Dy.s_st, Dy.s_up, Dy.s_rl, Dy.s_rs, Dy.s_ra, Dy.s_kp, Dy.s_du, Dy.s_ti, Dy.s_da, Dy.s_we, Dy.s_wi, Ct.mk, Ct.kd, Ct.tip, Ct.np, Ct.sg, Ct.ag, Ct.kn, Ct.ro, Ct.hd, Ct.hn, Ct.hf, Ct.ht, Ct.wn, Ct.cr, Ct.wf, Ct.wl, Ct.nw, Ct.wc, Ct.wt, Ct.sd, Ct.s_kd, Ct.s_tip, Ct.s_np, Ct.s_sg, Ct.s_ag, Ct.s_kn, Ct.s_ro, Ct.s_hd, Ct.s_hn, Ct.s_hf, Ct.s_ht, Ct.s_wn, Ct.s_cr, Ct.s_wf, Ct.s_wl, Ct.s_nw, Ct.s_wc, Ct.s_wt, Ct.s_sd]; done) | rfl)⟩
abbrev Q2_weather (x1 x2 : Int32) (y : Int32) (h h2 : im_H) : Prop := (y, cM h2, absM h2) = weather_f x1 x2 (cM h) (absM h)
set_option maxRecDepth 20000 in
set_option maxHeartbeats 4000000 in
theorem c_X12_weather {x1 : Int32} {x2 : Int32} {h : im_H} (hI : tI h)  : CaP 8 127 [.ref 164, .int x1, .int x2] h (fun v h2 => tI h2 ∧ fr F_X12_weather h h2 ∧ ∃ y : Int32, v = some (.int y) ∧ Q2_weather x1 x2 y h h2) := by
  refine cap_of (d := 7) (M := mX12_weather) rfl (Nat.le_of_ble_eq_true rfl) ?_
  show EvP im_K0 7 mX12_weather (0, [(0, .ref 164), (1, .int x1), (2, .int x2)], [], h) _
  have f0 : fr F_X12_weather h h := fr_rf
  refine te_iload_n (p2 := 1) rfl rfl rfl ?_
  refine te_iconst (p2 := 2) (x := 0) rfl rfl (by decide) ?_
  refine te_bipush (p2 := 4) (x := 9) rfl rfl (by decide) ?_
  refine cS_pI (p2 := 7) rfl rfl rfl rfl (t_X12_in (n := x1) (a := 0) (b := 9) hI ) (by decide) (fun y1 r1 => ?_)
  rcases r1 with ⟨w1, c1⟩ | ⟨w1, c1⟩
  · subst w1
    have cc1_1 := (show Int32.toInt 0 = 0 from rfl)
    have cc1_2 := (show Int32.toInt 9 = 9 from rfl)
    refine tz_eq (p2 := 10) rfl rfl (show Int32.toInt 1 = 1 from rfl) (fun c2 => absurd c2 (by omega)) (fun c2 => ?_)
    refine te_iload_n (p2 := 11) rfl rfl rfl ?_
    refine te_iconst (p2 := 12) (x := 0) rfl rfl (by decide) ?_
    refine te_bipush (p2 := 14) (x := 9) rfl rfl (by decide) ?_
    refine cS_pI (p2 := 17) rfl rfl rfl rfl (t_X12_in (n := x2) (a := 0) (b := 9) hI ) (by decide) (fun y3 r3 => ?_)
    rcases r3 with ⟨w3, c3⟩ | ⟨w3, c3⟩
    · subst w3
      have cc3_1 := (show Int32.toInt 0 = 0 from rfl)
      have cc3_2 := (show Int32.toInt 9 = 9 from rfl)
      refine tz_ne (p2 := 20) rfl rfl (show Int32.toInt 1 = 1 from rfl) (fun c4 => ?_) (fun c4 => absurd c4 (by omega))
      refine te_bipush (p2 := 25) (x := 10) rfl rfl (by decide) ?_
      refine te_aload_n (p2 := 26) rfl rfl rfl ?_
      refine tg_r (p2 := 29) (i := 148) (r := 165) rfl rfl hI rfl rfl rfl ?_
      refine te_bipush (p2 := 31) (x := 106) rfl rfl (by decide) ?_
      refine tl_i (p2 := 32) (i := 149) (n := 283) rfl rfl hI rfl rfl rfl rfl (by decide) (by decide) (fun y5 a5 b5 g5 e5 => ?_)
      refine au_mul (p2 := 33) rfl rfl (fun z6 e6 => ?_)
      refine te_aload_n (p2 := 34) rfl rfl rfl ?_
      refine tg_r (p2 := 37) (i := 148) (r := 165) rfl rfl hI rfl rfl rfl ?_
      refine te_bipush (p2 := 39) (x := 107) rfl rfl (by decide) ?_
      refine tl_i (p2 := 40) (i := 149) (n := 283) rfl rfl hI rfl rfl rfl rfl (by decide) (by decide) (fun y7 a7 b7 g7 e7 => ?_)
      refine au_add (p2 := 41) rfl rfl (fun z8 e8 => ?_)
      refine te_istore_n (p2 := 42) (lv2 := [(3, .int z8), (0, .ref 164), (1, .int x1), (2, .int x2)]) rfl rfl (by decide) rfl ?_
      refine te_aload_n (p2 := 43) rfl rfl rfl ?_
      refine tg_r (p2 := 46) (i := 148) (r := 165) rfl rfl hI rfl rfl rfl ?_
      refine te_bipush (p2 := 48) (x := 106) rfl rfl (by decide) ?_
      refine te_iload_n (p2 := 49) rfl rfl rfl ?_
      refine ts_i (p2 := 50) (i := 149) (n := 283) rfl rfl hI rfl rfl rfl rfl (by decide) (by decide) (i32_lo _) (i32_hi _) (i32_ho _) rfl (fun h9 I9 u9 => ?_)
      have f9 := fr_st (F := F_X12_weather) 0 f0 u9 rfl (by decide) (by decide)
      refine te_aload_n (p2 := 51) rfl rfl rfl ?_
      refine tg_r (p2 := 54) (i := 148) (r := 165) rfl rfl I9 rfl rfl rfl ?_
      refine te_bipush (p2 := 56) (x := 107) rfl rfl (by decide) ?_
      refine te_iload_n (p2 := 57) rfl rfl rfl ?_
      refine ts_i (p2 := 58) (i := 149) (n := 283) rfl rfl I9 rfl rfl rfl rfl (by decide) (by decide) (i32_lo _) (i32_hi _) (i32_ho _) rfl (fun h10 I10 u10 => ?_)
      have f10 := fr_st (F := F_X12_weather) 0 f9 u10 rfl (by decide) (by decide)
      refine te_iload_n (p2 := 59) rfl rfl rfl ?_
      exact te_iret rfl rfl ⟨I10, f10, _, rfl, (by show (z8, cM h10, absM h10) = _; rw [mcu_o u10 (by decide), mcu_o u9 (by decide), mu_wi u10, mu_we u9]; unfold weather_f; rw [(show (absM h).we = y5 from rv_of (k := 106) e5), (show (absM h).wi = y7 from rv_of (k := 107) e7), e6, e8]; (repeat' split) <;> first | (exfalso; omega) | (simp only [Dy.mk, Dy.ld, Dy.hm, Dy.hu, Dy.wk, Dy.de, Dy.st, Dy.up, Dy.rl, Dy.rs, Dy.ra, Dy.kp, Dy.du, Dy.ti, Dy.da, Dy.we, Dy.wi, Dy.s_ld, Dy.s_hm, Dy.s_hu, Dy.s_wk, Dy.s_de, Dy.s_st, Dy.s_up, Dy.s_rl, Dy.s_rs, Dy.s_ra, Dy.s_kp, Dy.s_du, Dy.s_ti, Dy.s_da, Dy.s_we, Dy.s_wi, Ct.mk, Ct.kd, Ct.tip, Ct.np, Ct.sg, Ct.ag, Ct.kn, Ct.ro, Ct.hd, Ct.hn, Ct.hf, Ct.ht, Ct.wn, Ct.cr, Ct.wf, Ct.wl, Ct.nw, Ct.wc, Ct.wt, Ct.sd, Ct.s_kd, Ct.s_tip, Ct.s_np, Ct.s_sg, Ct.s_ag, Ct.s_kn, Ct.s_ro, Ct.s_hd, Ct.s_hn, Ct.s_hf, Ct.s_ht, Ct.s_wn, Ct.s_cr, Ct.s_wf, Ct.s_wl, Ct.s_nw, Ct.s_wc, Ct.s_wt, Ct.s_sd]; done) | rfl)⟩
    · subst w3
      have cc3_1 := (show Int32.toInt 0 = 0 from rfl)
      have cc3_2 := (show Int32.toInt 9 = 9 from rfl)
      refine tz_ne (p2 := 20) rfl rfl (show Int32.toInt 0 = 0 from rfl) (fun c11 => absurd c11 (by omega)) (fun c11 => ?_)
      refine te_bipush (p2 := 22) (x := (-2)) rfl rfl (by decide) ?_
      exact te_iret rfl rfl ⟨hI, f0, _, rfl, (by show ((-2), cM h, absM h) = _; (have c0_ := (show Int32.toInt (-2) = (-2) from rfl)); unfold weather_f; (repeat' split) <;> first | (exfalso; omega) | (simp only [Dy.mk, Dy.ld, Dy.hm, Dy.hu, Dy.wk, Dy.de, Dy.st, Dy.up, Dy.rl, Dy.rs, Dy.ra, Dy.kp, Dy.du, Dy.ti, Dy.da, Dy.we, Dy.wi, Dy.s_ld, Dy.s_hm, Dy.s_hu, Dy.s_wk, Dy.s_de, Dy.s_st, Dy.s_up, Dy.s_rl, Dy.s_rs, Dy.s_ra, Dy.s_kp, Dy.s_du, Dy.s_ti, Dy.s_da, Dy.s_we, Dy.s_wi, Ct.mk, Ct.kd, Ct.tip, Ct.np, Ct.sg, Ct.ag, Ct.kn, Ct.ro, Ct.hd, Ct.hn, Ct.hf, Ct.ht, Ct.wn, Ct.cr, Ct.wf, Ct.wl, Ct.nw, Ct.wc, Ct.wt, Ct.sd, Ct.s_kd, Ct.s_tip, Ct.s_np, Ct.s_sg, Ct.s_ag, Ct.s_kn, Ct.s_ro, Ct.s_hd, Ct.s_hn, Ct.s_hf, Ct.s_ht, Ct.s_wn, Ct.s_cr, Ct.s_wf, Ct.s_wl, Ct.s_nw, Ct.s_wc, Ct.s_wt, Ct.s_sd]; done) | rfl)⟩
  · subst w1
    have cc1_1 := (show Int32.toInt 0 = 0 from rfl)
    have cc1_2 := (show Int32.toInt 9 = 9 from rfl)
    refine tz_eq (p2 := 10) rfl rfl (show Int32.toInt 0 = 0 from rfl) (fun c12 => ?_) (fun c12 => absurd c12 (by omega))
    refine te_bipush (p2 := 22) (x := (-2)) rfl rfl (by decide) ?_
    exact te_iret rfl rfl ⟨hI, f0, _, rfl, (by show ((-2), cM h, absM h) = _; (have c0_ := (show Int32.toInt (-2) = (-2) from rfl)); unfold weather_f; (repeat' split) <;> first | (exfalso; omega) | (simp only [Dy.mk, Dy.ld, Dy.hm, Dy.hu, Dy.wk, Dy.de, Dy.st, Dy.up, Dy.rl, Dy.rs, Dy.ra, Dy.kp, Dy.du, Dy.ti, Dy.da, Dy.we, Dy.wi, Dy.s_ld, Dy.s_hm, Dy.s_hu, Dy.s_wk, Dy.s_de, Dy.s_st, Dy.s_up, Dy.s_rl, Dy.s_rs, Dy.s_ra, Dy.s_kp, Dy.s_du, Dy.s_ti, Dy.s_da, Dy.s_we, Dy.s_wi, Ct.mk, Ct.kd, Ct.tip, Ct.np, Ct.sg, Ct.ag, Ct.kn, Ct.ro, Ct.hd, Ct.hn, Ct.hf, Ct.ht, Ct.wn, Ct.cr, Ct.wf, Ct.wl, Ct.nw, Ct.wc, Ct.wt, Ct.sd, Ct.s_kd, Ct.s_tip, Ct.s_np, Ct.s_sg, Ct.s_ag, Ct.s_kn, Ct.s_ro, Ct.s_hd, Ct.s_hn, Ct.s_hf, Ct.s_ht, Ct.s_wn, Ct.s_cr, Ct.s_wf, Ct.s_wl, Ct.s_nw, Ct.s_wc, Ct.s_wt, Ct.s_sd]; done) | rfl)⟩
abbrev Q2_tip (x1 : Int32) (y : Int32) (h h2 : im_H) : Prop := (y, cM h2, absM h2) = tip_f x1 (cM h) (absM h)
set_option maxRecDepth 20000 in
set_option maxHeartbeats 4000000 in
theorem c_X12_tip {x1 : Int32} {h : im_H} (hI : tI h)  : CaP 8 128 [.ref 164, .int x1] h (fun v h2 => tI h2 ∧ fr F_X12_tip h h2 ∧ ∃ y : Int32, v = some (.int y) ∧ Q2_tip x1 y h h2) := by
  refine cap_of (d := 7) (M := mX12_tip) rfl (Nat.le_of_ble_eq_true rfl) ?_
  show EvP im_K0 7 mX12_tip (0, [(0, .ref 164), (1, .int x1)], [], h) _
  have f0 : fr F_X12_tip h h := fr_rf
  refine te_iload_n (p2 := 1) rfl rfl rfl ?_
  refine te_iconst (p2 := 2) (x := (-1)) rfl rfl (by decide) ?_
  refine te_bipush (p2 := 4) (x := 99) rfl rfl (by decide) ?_
  refine cS_pI (p2 := 7) rfl rfl rfl rfl (t_X12_in (n := x1) (a := (-1)) (b := 99) hI ) (by decide) (fun y1 r1 => ?_)
  rcases r1 with ⟨w1, c1⟩ | ⟨w1, c1⟩
  · subst w1
    have cc1_1 := (show Int32.toInt (-1) = (-1) from rfl)
    have cc1_2 := (show Int32.toInt 99 = 99 from rfl)
    refine tz_ne (p2 := 10) rfl rfl (show Int32.toInt 1 = 1 from rfl) (fun c2 => ?_) (fun c2 => absurd c2 (by omega))
    refine te_aload_n (p2 := 14) rfl rfl rfl ?_
    refine tg_i (p2 := 17) (i := 148) rfl rfl hI rfl rfl rfl (fun y3 a3 b3 e3 => ?_)
    refine te_istore_n (p2 := 18) (lv2 := [(2, .int y3), (0, .ref 164), (1, .int x1)]) rfl rfl (by decide) rfl ?_
    refine te_aload_n (p2 := 19) rfl rfl rfl ?_
    refine te_iload_n (p2 := 20) rfl rfl rfl ?_
    refine tp_i (p2 := 23) (i := 148) rfl rfl hI rfl rfl (by decide) rfl rfl rfl (by omega) (by omega) (by omega) rfl (fun h4 I4 u4 => ?_)
    have f4 := fr_st (F := F_X12_tip) 0 f0 u4 rfl (by decide) (by decide)
    refine te_iload_n (p2 := 24) rfl rfl rfl ?_
    exact te_iret rfl rfl ⟨I4, f4, _, rfl, (by show (y3, cM h4, absM h4) = _; rw [mcu_tip u4, mu_o u4 (by decide)]; unfold tip_f; rw [(show (cM h).tip = y3 from rv_of e3)]; (repeat' split) <;> first | (exfalso; omega) | (simp only [Dy.mk, Dy.ld, Dy.hm, Dy.hu, Dy.wk, Dy.de, Dy.st, Dy.up, Dy.rl, Dy.rs, Dy.ra, Dy.kp, Dy.du, Dy.ti, Dy.da, Dy.we, Dy.wi, Dy.s_ld, Dy.s_hm, Dy.s_hu, Dy.s_wk, Dy.s_de, Dy.s_st, Dy.s_up, Dy.s_rl, Dy.s_rs, Dy.s_ra, Dy.s_kp, Dy.s_du, Dy.s_ti, Dy.s_da, Dy.s_we, Dy.s_wi, Ct.mk, Ct.kd, Ct.tip, Ct.np, Ct.sg, Ct.ag, Ct.kn, Ct.ro, Ct.hd, Ct.hn, Ct.hf, Ct.ht, Ct.wn, Ct.cr, Ct.wf, Ct.wl, Ct.nw, Ct.wc, Ct.wt, Ct.sd, Ct.s_kd, Ct.s_tip, Ct.s_np, Ct.s_sg, Ct.s_ag, Ct.s_kn, Ct.s_ro, Ct.s_hd, Ct.s_hn, Ct.s_hf, Ct.s_ht, Ct.s_wn, Ct.s_cr, Ct.s_wf, Ct.s_wl, Ct.s_nw, Ct.s_wc, Ct.s_wt, Ct.s_sd]; done) | rfl)⟩
  · subst w1
    have cc1_1 := (show Int32.toInt (-1) = (-1) from rfl)
    have cc1_2 := (show Int32.toInt 99 = 99 from rfl)
    refine tz_ne (p2 := 10) rfl rfl (show Int32.toInt 0 = 0 from rfl) (fun c5 => absurd c5 (by omega)) (fun c5 => ?_)
    refine te_bipush (p2 := 12) (x := (-5)) rfl rfl (by decide) ?_
    exact te_iret rfl rfl ⟨hI, f0, _, rfl, (by show ((-5), cM h, absM h) = _; (have c0_ := (show Int32.toInt (-5) = (-5) from rfl)); unfold tip_f; (repeat' split) <;> first | (exfalso; omega) | (simp only [Dy.mk, Dy.ld, Dy.hm, Dy.hu, Dy.wk, Dy.de, Dy.st, Dy.up, Dy.rl, Dy.rs, Dy.ra, Dy.kp, Dy.du, Dy.ti, Dy.da, Dy.we, Dy.wi, Dy.s_ld, Dy.s_hm, Dy.s_hu, Dy.s_wk, Dy.s_de, Dy.s_st, Dy.s_up, Dy.s_rl, Dy.s_rs, Dy.s_ra, Dy.s_kp, Dy.s_du, Dy.s_ti, Dy.s_da, Dy.s_we, Dy.s_wi, Ct.mk, Ct.kd, Ct.tip, Ct.np, Ct.sg, Ct.ag, Ct.kn, Ct.ro, Ct.hd, Ct.hn, Ct.hf, Ct.ht, Ct.wn, Ct.cr, Ct.wf, Ct.wl, Ct.nw, Ct.wc, Ct.wt, Ct.sd, Ct.s_kd, Ct.s_tip, Ct.s_np, Ct.s_sg, Ct.s_ag, Ct.s_kn, Ct.s_ro, Ct.s_hd, Ct.s_hn, Ct.s_hf, Ct.s_ht, Ct.s_wn, Ct.s_cr, Ct.s_wf, Ct.s_wl, Ct.s_nw, Ct.s_wc, Ct.s_wt, Ct.s_sd]; done) | rfl)⟩
abbrev Q2_moves (x1 x2 : Int32) (y : Int32) (h h2 : im_H) : Prop := (y, cM h2, absM h2) = moves_f x1 x2 (cM h) (absM h)
set_option maxRecDepth 20000 in
set_option maxHeartbeats 4000000 in
theorem c_X12_moves {x1 : Int32} {x2 : Int32} {h : im_H} (hI : tI h)  : CaP 8 125 [.ref 164, .int x1, .int x2] h (fun v h2 => tI h2 ∧ fr F_X12_moves h h2 ∧ ∃ y : Int32, v = some (.int y) ∧ Q2_moves x1 x2 y h h2) := by
  refine cap_of (d := 7) (M := mX12_moves) rfl (Nat.le_of_ble_eq_true rfl) ?_
  show EvP im_K0 7 mX12_moves (0, [(0, .ref 164), (1, .int x1), (2, .int x2)], [], h) _
  have f0 : fr F_X12_moves h h := fr_rf
  refine te_aload_n (p2 := 1) rfl rfl rfl ?_
  refine te_iload_n (p2 := 2) rfl rfl rfl ?_
  refine cV_pI (p2 := 5) (i := 148) rfl rfl rfl rfl hI rfl rfl rfl (t_X12_isPerson (k := x1) hI) (by decide) (fun y1 r1 => ?_)
  obtain ⟨p1, e1, a1, b1, r1⟩ := r1
  rcases r1 with ⟨w1, c1⟩ | ⟨w1, c1⟩
  · subst w1
    refine tz_eq (p2 := 8) rfl rfl (show Int32.toInt 1 = 1 from rfl) (fun c2 => absurd c2 (by omega)) (fun c2 => ?_)
    refine te_iload_n (p2 := 9) rfl rfl rfl ?_
    refine cS_pI (p2 := 12) rfl rfl rfl rfl (t_X12_isCell (n := x2) hI ) (by decide) (fun y3 r3 => ?_)
    rcases r3 with ⟨w3, c3⟩ | ⟨w3, c3⟩
    · subst w3
      refine tz_ne (p2 := 15) rfl rfl (show Int32.toInt 1 = 1 from rfl) (fun c4 => ?_) (fun c4 => absurd c4 (by omega))
      refine te_aload_n (p2 := 18) rfl rfl rfl ?_
      refine tg_r (p2 := 21) (i := 148) (r := 165) rfl rfl hI rfl rfl rfl ?_
      refine te_sipush (p2 := 24) (x := 236) rfl rfl (by decide) ?_
      refine te_iload_n (p2 := 25) rfl rfl rfl ?_
      refine ar_add (p2 := 26) rfl rfl (show Int32.toInt 236 = 236 from rfl) rfl (by omega) (by omega) (fun z5 e5 f5 => ?_)
      refine tl_i (p2 := 27) (i := 149) (n := 283) rfl rfl hI rfl rfl rfl rfl (by omega) (by omega) (fun y6 a6 b6 g6 e6 => ?_)
      refine te_iconst (p2 := 28) (x := 1) rfl rfl (by decide) ?_
      refine tb_ne (p2 := 31) rfl rfl rfl (show Int32.toInt 1 = 1 from rfl) (fun c7 => ?_) (fun c7 => ?_)
      · refine te_aload_n (p2 := 35) rfl rfl rfl ?_
        refine tg_r (p2 := 38) (i := 148) (r := 165) rfl rfl hI rfl rfl rfl ?_
        refine te_sipush (p2 := 41) (x := 140) rfl rfl (by decide) ?_
        refine te_iload_n (p2 := 42) rfl rfl rfl ?_
        refine ar_add (p2 := 43) rfl rfl (show Int32.toInt 140 = 140 from rfl) rfl (by omega) (by omega) (fun z8 e8 f8 => ?_)
        refine tl_i (p2 := 44) (i := 149) (n := 283) rfl rfl hI rfl rfl rfl rfl (by omega) (by omega) (fun y9 a9 b9 g9 e9 => ?_)
        refine te_istore_n (p2 := 45) (lv2 := [(3, .int y9), (0, .ref 164), (1, .int x1), (2, .int x2)]) rfl rfl (by decide) rfl ?_
        refine te_aload_n (p2 := 46) rfl rfl rfl ?_
        refine tg_r (p2 := 49) (i := 148) (r := 165) rfl rfl hI rfl rfl rfl ?_
        refine te_sipush (p2 := 52) (x := 140) rfl rfl (by decide) ?_
        refine te_iload_n (p2 := 53) rfl rfl rfl ?_
        refine ar_add (p2 := 54) rfl rfl (show Int32.toInt 140 = 140 from rfl) rfl (by omega) (by omega) (fun z10 e10 f10 => ?_)
        refine te_iload_n (p2 := 55) rfl rfl rfl ?_
        refine ts_i (p2 := 56) (i := 149) (n := 283) rfl rfl hI rfl rfl rfl rfl (by omega) (by omega) (i32_lo _) (i32_hi _) (i32_ho _) rfl (fun h11 I11 u11 => ?_)
        have f11 := fr_st (F := F_X12_moves) 0 f0 u11 rfl (by omega) (by omega)
        refine te_iload_n (p2 := 57) rfl rfl rfl ?_
        exact te_iret rfl rfl ⟨I11, f11, _, rfl, (by show (y9, cM h11, absM h11) = _; rw [mcu_o u11 (by decide), mu_hm (i := x1.toInt.toNat) u11 (by omega) (by omega)]; unfold moves_f; rw [(show (cM h).np = p1 from rv_of ((f11 148 10 rfl).symm.trans ((u11.2 _ _ (Or.inl (by decide))).trans e1))), (show (absM h).de x1.toInt.toNat = y6 from (aM_de (by omega)).trans (by rw [show 236 + x1.toInt.toNat = z5.toInt.toNat by omega]; exact rv_of e6)), (show (absM h).hm x1.toInt.toNat = y9 from (aM_hm (by omega)).trans (by rw [show 140 + x1.toInt.toNat = z8.toInt.toNat by omega]; exact rv_of e9))]; (repeat' split) <;> first | (exfalso; omega) | (simp only [Dy.mk, Dy.ld, Dy.hm, Dy.hu, Dy.wk, Dy.de, Dy.st, Dy.up, Dy.rl, Dy.rs, Dy.ra, Dy.kp, Dy.du, Dy.ti, Dy.da, Dy.we, Dy.wi, Dy.s_ld, Dy.s_hm, Dy.s_hu, Dy.s_wk, Dy.s_de, Dy.s_st, Dy.s_up, Dy.s_rl, Dy.s_rs, Dy.s_ra, Dy.s_kp, Dy.s_du, Dy.s_ti, Dy.s_da, Dy.s_we, Dy.s_wi, Ct.mk, Ct.kd, Ct.tip, Ct.np, Ct.sg, Ct.ag, Ct.kn, Ct.ro, Ct.hd, Ct.hn, Ct.hf, Ct.ht, Ct.wn, Ct.cr, Ct.wf, Ct.wl, Ct.nw, Ct.wc, Ct.wt, Ct.sd, Ct.s_kd, Ct.s_tip, Ct.s_np, Ct.s_sg, Ct.s_ag, Ct.s_kn, Ct.s_ro, Ct.s_hd, Ct.s_hn, Ct.s_hf, Ct.s_ht, Ct.s_wn, Ct.s_cr, Ct.s_wf, Ct.s_wl, Ct.s_nw, Ct.s_wc, Ct.s_wt, Ct.s_sd]; done) | rfl)⟩
      · refine te_bipush (p2 := 33) (x := (-3)) rfl rfl (by decide) ?_
        exact te_iret rfl rfl ⟨hI, f0, _, rfl, (by show ((-3), cM h, absM h) = _; (have c0_ := (show Int32.toInt (-3) = (-3) from rfl)); unfold moves_f; rw [(show (cM h).np = p1 from rv_of e1), (show (absM h).de x1.toInt.toNat = y6 from (aM_de (by omega)).trans (by rw [show 236 + x1.toInt.toNat = z5.toInt.toNat by omega]; exact rv_of e6))]; (repeat' split) <;> first | (exfalso; omega) | (simp only [Dy.mk, Dy.ld, Dy.hm, Dy.hu, Dy.wk, Dy.de, Dy.st, Dy.up, Dy.rl, Dy.rs, Dy.ra, Dy.kp, Dy.du, Dy.ti, Dy.da, Dy.we, Dy.wi, Dy.s_ld, Dy.s_hm, Dy.s_hu, Dy.s_wk, Dy.s_de, Dy.s_st, Dy.s_up, Dy.s_rl, Dy.s_rs, Dy.s_ra, Dy.s_kp, Dy.s_du, Dy.s_ti, Dy.s_da, Dy.s_we, Dy.s_wi, Ct.mk, Ct.kd, Ct.tip, Ct.np, Ct.sg, Ct.ag, Ct.kn, Ct.ro, Ct.hd, Ct.hn, Ct.hf, Ct.ht, Ct.wn, Ct.cr, Ct.wf, Ct.wl, Ct.nw, Ct.wc, Ct.wt, Ct.sd, Ct.s_kd, Ct.s_tip, Ct.s_np, Ct.s_sg, Ct.s_ag, Ct.s_kn, Ct.s_ro, Ct.s_hd, Ct.s_hn, Ct.s_hf, Ct.s_ht, Ct.s_wn, Ct.s_cr, Ct.s_wf, Ct.s_wl, Ct.s_nw, Ct.s_wc, Ct.s_wt, Ct.s_sd]; done) | rfl)⟩
    · subst w3
      refine tz_ne (p2 := 15) rfl rfl (show Int32.toInt 0 = 0 from rfl) (fun c12 => absurd c12 (by omega)) (fun c12 => ?_)
      refine te_iconst (p2 := 16) (x := (-1)) rfl rfl (by decide) ?_
      exact te_iret rfl rfl ⟨hI, f0, _, rfl, (by show ((-1), cM h, absM h) = _; (have c0_ := (show Int32.toInt (-1) = (-1) from rfl)); unfold moves_f; rw [(show (cM h).np = p1 from rv_of e1)]; (repeat' split) <;> first | (exfalso; omega) | (simp only [Dy.mk, Dy.ld, Dy.hm, Dy.hu, Dy.wk, Dy.de, Dy.st, Dy.up, Dy.rl, Dy.rs, Dy.ra, Dy.kp, Dy.du, Dy.ti, Dy.da, Dy.we, Dy.wi, Dy.s_ld, Dy.s_hm, Dy.s_hu, Dy.s_wk, Dy.s_de, Dy.s_st, Dy.s_up, Dy.s_rl, Dy.s_rs, Dy.s_ra, Dy.s_kp, Dy.s_du, Dy.s_ti, Dy.s_da, Dy.s_we, Dy.s_wi, Ct.mk, Ct.kd, Ct.tip, Ct.np, Ct.sg, Ct.ag, Ct.kn, Ct.ro, Ct.hd, Ct.hn, Ct.hf, Ct.ht, Ct.wn, Ct.cr, Ct.wf, Ct.wl, Ct.nw, Ct.wc, Ct.wt, Ct.sd, Ct.s_kd, Ct.s_tip, Ct.s_np, Ct.s_sg, Ct.s_ag, Ct.s_kn, Ct.s_ro, Ct.s_hd, Ct.s_hn, Ct.s_hf, Ct.s_ht, Ct.s_wn, Ct.s_cr, Ct.s_wf, Ct.s_wl, Ct.s_nw, Ct.s_wc, Ct.s_wt, Ct.s_sd]; done) | rfl)⟩
  · subst w1
    refine tz_eq (p2 := 8) rfl rfl (show Int32.toInt 0 = 0 from rfl) (fun c13 => ?_) (fun c13 => absurd c13 (by omega))
    refine te_iconst (p2 := 16) (x := (-1)) rfl rfl (by decide) ?_
    exact te_iret rfl rfl ⟨hI, f0, _, rfl, (by show ((-1), cM h, absM h) = _; (have c0_ := (show Int32.toInt (-1) = (-1) from rfl)); unfold moves_f; rw [(show (cM h).np = p1 from rv_of e1)]; (repeat' split) <;> first | (exfalso; omega) | (simp only [Dy.mk, Dy.ld, Dy.hm, Dy.hu, Dy.wk, Dy.de, Dy.st, Dy.up, Dy.rl, Dy.rs, Dy.ra, Dy.kp, Dy.du, Dy.ti, Dy.da, Dy.we, Dy.wi, Dy.s_ld, Dy.s_hm, Dy.s_hu, Dy.s_wk, Dy.s_de, Dy.s_st, Dy.s_up, Dy.s_rl, Dy.s_rs, Dy.s_ra, Dy.s_kp, Dy.s_du, Dy.s_ti, Dy.s_da, Dy.s_we, Dy.s_wi, Ct.mk, Ct.kd, Ct.tip, Ct.np, Ct.sg, Ct.ag, Ct.kn, Ct.ro, Ct.hd, Ct.hn, Ct.hf, Ct.ht, Ct.wn, Ct.cr, Ct.wf, Ct.wl, Ct.nw, Ct.wc, Ct.wt, Ct.sd, Ct.s_kd, Ct.s_tip, Ct.s_np, Ct.s_sg, Ct.s_ag, Ct.s_kn, Ct.s_ro, Ct.s_hd, Ct.s_hn, Ct.s_hf, Ct.s_ht, Ct.s_wn, Ct.s_cr, Ct.s_wf, Ct.s_wl, Ct.s_nw, Ct.s_wc, Ct.s_wt, Ct.s_sd]; done) | rfl)⟩
abbrev Q2_person (x1 x2 x3 x4 : Int32) (y : Int32) (h h2 : im_H) : Prop := (y, cM h2, absM h2) = person_f x1 x2 x3 x4 (cM h) (absM h)
set_option maxRecDepth 20000 in
set_option maxHeartbeats 4000000 in
theorem c_X12_person {x1 : Int32} {x2 : Int32} {x3 : Int32} {x4 : Int32} {h : im_H} (hI : tI h)  : CaP 8 124 [.ref 164, .int x1, .int x2, .int x3, .int x4] h (fun v h2 => tI h2 ∧ fr F_X12_person h h2 ∧ ∃ y : Int32, v = some (.int y) ∧ Q2_person x1 x2 x3 x4 y h h2) := by
  refine cap_of (d := 7) (M := mX12_person) rfl (Nat.le_of_ble_eq_true rfl) ?_
  show EvP im_K0 7 mX12_person (0, [(0, .ref 164), (1, .int x1), (2, .int x2), (3, .int x3), (4, .int x4)], [], h) _
  have f0 : fr F_X12_person h h := fr_rf
  refine te_iload_n (p2 := 1) rfl rfl rfl ?_
  refine cS_pI (p2 := 4) rfl rfl rfl rfl (t_X12_isCell (n := x1) hI ) (by decide) (fun y1 r1 => ?_)
  rcases r1 with ⟨w1, c1⟩ | ⟨w1, c1⟩
  · subst w1
    refine tz_ne (p2 := 7) rfl rfl (show Int32.toInt 1 = 1 from rfl) (fun c2 => ?_) (fun c2 => absurd c2 (by omega))
    refine te_iload_n (p2 := 10) rfl rfl rfl ?_
    refine te_iconst (p2 := 11) (x := 1) rfl rfl (by decide) ?_
    refine te_bipush (p2 := 13) (x := 9) rfl rfl (by decide) ?_
    refine cS_pI (p2 := 16) rfl rfl rfl rfl (t_X12_in (n := x2) (a := 1) (b := 9) hI ) (by decide) (fun y3 r3 => ?_)
    rcases r3 with ⟨w3, c3⟩ | ⟨w3, c3⟩
    · subst w3
      have cc3_1 := (show Int32.toInt 1 = 1 from rfl)
      have cc3_2 := (show Int32.toInt 9 = 9 from rfl)
      refine tz_eq (p2 := 19) rfl rfl (show Int32.toInt 1 = 1 from rfl) (fun c4 => absurd c4 (by omega)) (fun c4 => ?_)
      refine te_iload_n (p2 := 20) rfl rfl rfl ?_
      refine te_iconst (p2 := 21) (x := 0) rfl rfl (by decide) ?_
      refine te_bipush (p2 := 23) (x := 99) rfl rfl (by decide) ?_
      refine cS_pI (p2 := 26) rfl rfl rfl rfl (t_X12_in (n := x3) (a := 0) (b := 99) hI ) (by decide) (fun y5 r5 => ?_)
      rcases r5 with ⟨w5, c5⟩ | ⟨w5, c5⟩
      · subst w5
        have cc5_1 := (show Int32.toInt 0 = 0 from rfl)
        have cc5_2 := (show Int32.toInt 99 = 99 from rfl)
        refine tz_eq (p2 := 29) rfl rfl (show Int32.toInt 1 = 1 from rfl) (fun c6 => absurd c6 (by omega)) (fun c6 => ?_)
        refine te_iload (p2 := 31) rfl rfl rfl ?_
        refine te_iconst (p2 := 32) (x := 0) rfl rfl (by decide) ?_
        refine te_bipush (p2 := 34) (x := 9) rfl rfl (by decide) ?_
        refine cS_pI (p2 := 37) rfl rfl rfl rfl (t_X12_in (n := x4) (a := 0) (b := 9) hI ) (by decide) (fun y7 r7 => ?_)
        rcases r7 with ⟨w7, c7⟩ | ⟨w7, c7⟩
        · subst w7
          have cc7_1 := (show Int32.toInt 0 = 0 from rfl)
          have cc7_2 := (show Int32.toInt 9 = 9 from rfl)
          refine tz_ne (p2 := 40) rfl rfl (show Int32.toInt 1 = 1 from rfl) (fun c8 => ?_) (fun c8 => absurd c8 (by omega))
          refine te_aload_n (p2 := 44) rfl rfl rfl ?_
          refine tg_i (p2 := 47) (i := 148) rfl rfl hI rfl rfl rfl (fun y9 a9 b9 e9 => ?_)
          refine te_bipush (p2 := 49) (x := 24) rfl rfl (by decide) ?_
          refine tb_ne (p2 := 52) rfl rfl rfl (show Int32.toInt 24 = 24 from rfl) (fun c10 => ?_) (fun c10 => ?_)
          · refine te_aload_n (p2 := 56) rfl rfl rfl ?_
            refine tg_r (p2 := 59) (i := 148) (r := 173) rfl rfl hI rfl rfl rfl ?_
            refine te_aload_n (p2 := 60) rfl rfl rfl ?_
            refine tg_e (p2 := 63) (i := 148) (v := .int y9) rfl rfl hI rfl rfl e9 ?_
            refine te_iload_n (p2 := 64) rfl rfl rfl ?_
            refine ts_i (p2 := 65) (i := 157) (n := 24) rfl rfl hI rfl rfl rfl rfl (by omega) (by omega) (i32_lo _) (i32_hi _) (i32_ho _) rfl (fun h11 I11 u11 => ?_)
            have f11 := fr_st (F := F_X12_person) 2 f0 u11 rfl (by omega) (by omega)
            refine te_aload_n (p2 := 66) rfl rfl rfl ?_
            refine tg_r (p2 := 69) (i := 148) (r := 174) rfl rfl I11 rfl rfl rfl ?_
            refine te_aload_n (p2 := 70) rfl rfl rfl ?_
            refine tg_e (p2 := 73) (i := 148) (v := .int y9) rfl rfl I11 rfl rfl ((u11.2 _ _ (Or.inl (by decide))).trans e9) ?_
            refine te_iload_n (p2 := 74) rfl rfl rfl ?_
            refine ts_i (p2 := 75) (i := 158) (n := 24) rfl rfl I11 rfl rfl rfl rfl (by omega) (by omega) (i32_lo _) (i32_hi _) (i32_ho _) rfl (fun h12 I12 u12 => ?_)
            have f12 := fr_st (F := F_X12_person) 3 f11 u12 rfl (by omega) (by omega)
            refine te_aload_n (p2 := 76) rfl rfl rfl ?_
            refine tg_r (p2 := 79) (i := 148) (r := 175) rfl rfl I12 rfl rfl rfl ?_
            refine te_aload_n (p2 := 80) rfl rfl rfl ?_
            refine tg_e (p2 := 83) (i := 148) (v := .int y9) rfl rfl I12 rfl rfl ((u12.2 _ _ (Or.inl (by decide))).trans ((u11.2 _ _ (Or.inl (by decide))).trans e9)) ?_
            refine te_iload (p2 := 85) rfl rfl rfl ?_
            refine ts_i (p2 := 86) (i := 159) (n := 24) rfl rfl I12 rfl rfl rfl rfl (by omega) (by omega) (i32_lo _) (i32_hi _) (i32_ho _) rfl (fun h13 I13 u13 => ?_)
            have f13 := fr_st (F := F_X12_person) 4 f12 u13 rfl (by omega) (by omega)
            refine te_aload_n (p2 := 87) rfl rfl rfl ?_
            refine tg_r (p2 := 90) (i := 148) (r := 165) rfl rfl I13 rfl rfl rfl ?_
            refine te_sipush (p2 := 93) (x := 140) rfl rfl (by decide) ?_
            refine te_aload_n (p2 := 94) rfl rfl rfl ?_
            refine tg_e (p2 := 97) (i := 148) (v := .int y9) rfl rfl I13 rfl rfl ((u13.2 _ _ (Or.inl (by decide))).trans ((u12.2 _ _ (Or.inl (by decide))).trans ((u11.2 _ _ (Or.inl (by decide))).trans e9))) ?_
            refine ar_add (p2 := 98) rfl rfl (show Int32.toInt 140 = 140 from rfl) rfl (by omega) (by omega) (fun z14 e14 f14 => ?_)
            refine te_iload_n (p2 := 99) rfl rfl rfl ?_
            refine ts_i (p2 := 100) (i := 149) (n := 283) rfl rfl I13 rfl rfl rfl rfl (by omega) (by omega) (i32_lo _) (i32_hi _) (i32_ho _) rfl (fun h15 I15 u15 => ?_)
            have f15 := fr_st (F := F_X12_person) 1 f13 u15 rfl (by omega) (by omega)
            refine te_aload_n (p2 := 101) rfl rfl rfl ?_
            refine te_dup (p2 := 102) rfl rfl rfl ?_
            refine tg_e (p2 := 105) (i := 148) (v := .int y9) rfl rfl I15 rfl rfl ((u15.2 _ _ (Or.inl (by decide))).trans ((u13.2 _ _ (Or.inl (by decide))).trans ((u12.2 _ _ (Or.inl (by decide))).trans ((u11.2 _ _ (Or.inl (by decide))).trans e9)))) ?_
            refine te_iconst (p2 := 106) (x := 1) rfl rfl (by decide) ?_
            refine ar_add (p2 := 107) rfl rfl rfl (show Int32.toInt 1 = 1 from rfl) (by omega) (by omega) (fun z16 e16 f16 => ?_)
            refine tp_i (p2 := 110) (i := 148) rfl rfl I15 rfl rfl (by decide) rfl rfl rfl (by omega) (by omega) (by omega) rfl (fun h17 I17 u17 => ?_)
            have f17 := fr_st (F := F_X12_person) 0 f15 u17 rfl (by decide) (by decide)
            refine te_aload_n (p2 := 111) rfl rfl rfl ?_
            refine tg_e (p2 := 114) (i := 148) (v := .int z16) rfl rfl I17 rfl rfl u17.1 ?_
            refine te_iconst (p2 := 115) (x := 1) rfl rfl (by decide) ?_
            refine ar_sub (p2 := 116) rfl rfl rfl (show Int32.toInt 1 = 1 from rfl) (by omega) (by omega) (fun z18 e18 f18 => ?_)
            exact te_iret rfl rfl ⟨I17, f17, _, rfl, (by show (z18, cM h17, absM h17) = _; rw [mcu_np u17, mcu_o u15 (by decide), mcu_kn u13 (by omega), mcu_ag u12 (by omega), mcu_sg u11 (by omega), mu_o u17 (by decide), mu_hm (i := y9.toInt.toNat) u15 (by omega) (by omega), mu_o u13 (by decide), mu_o u12 (by decide), mu_o u11 (by decide)]; unfold person_f; rw [(show (cM h).np = y9 from rv_of e9), (show y9 + 1 = z16 from i32_ext (by rw [i32_addE (show Int32.toInt 1 = 1 from rfl) (by omega) (by omega)]; omega)), (show z18 = y9 from i32_ext (by omega))]; (repeat' split) <;> first | (exfalso; omega) | (simp only [Dy.mk, Dy.ld, Dy.hm, Dy.hu, Dy.wk, Dy.de, Dy.st, Dy.up, Dy.rl, Dy.rs, Dy.ra, Dy.kp, Dy.du, Dy.ti, Dy.da, Dy.we, Dy.wi, Dy.s_ld, Dy.s_hm, Dy.s_hu, Dy.s_wk, Dy.s_de, Dy.s_st, Dy.s_up, Dy.s_rl, Dy.s_rs, Dy.s_ra, Dy.s_kp, Dy.s_du, Dy.s_ti, Dy.s_da, Dy.s_we, Dy.s_wi, Ct.mk, Ct.kd, Ct.tip, Ct.np, Ct.sg, Ct.ag, Ct.kn, Ct.ro, Ct.hd, Ct.hn, Ct.hf, Ct.ht, Ct.wn, Ct.cr, Ct.wf, Ct.wl, Ct.nw, Ct.wc, Ct.wt, Ct.sd, Ct.s_kd, Ct.s_tip, Ct.s_np, Ct.s_sg, Ct.s_ag, Ct.s_kn, Ct.s_ro, Ct.s_hd, Ct.s_hn, Ct.s_hf, Ct.s_ht, Ct.s_wn, Ct.s_cr, Ct.s_wf, Ct.s_wl, Ct.s_nw, Ct.s_wc, Ct.s_wt, Ct.s_sd]; done) | rfl)⟩
          · refine te_bipush (p2 := 54) (x := (-4)) rfl rfl (by decide) ?_
            exact te_iret rfl rfl ⟨hI, f0, _, rfl, (by show ((-4), cM h, absM h) = _; (have c0_ := (show Int32.toInt (-4) = (-4) from rfl)); unfold person_f; rw [(show (cM h).np = y9 from rv_of e9)]; (repeat' split) <;> first | (exfalso; omega) | (simp only [Dy.mk, Dy.ld, Dy.hm, Dy.hu, Dy.wk, Dy.de, Dy.st, Dy.up, Dy.rl, Dy.rs, Dy.ra, Dy.kp, Dy.du, Dy.ti, Dy.da, Dy.we, Dy.wi, Dy.s_ld, Dy.s_hm, Dy.s_hu, Dy.s_wk, Dy.s_de, Dy.s_st, Dy.s_up, Dy.s_rl, Dy.s_rs, Dy.s_ra, Dy.s_kp, Dy.s_du, Dy.s_ti, Dy.s_da, Dy.s_we, Dy.s_wi, Ct.mk, Ct.kd, Ct.tip, Ct.np, Ct.sg, Ct.ag, Ct.kn, Ct.ro, Ct.hd, Ct.hn, Ct.hf, Ct.ht, Ct.wn, Ct.cr, Ct.wf, Ct.wl, Ct.nw, Ct.wc, Ct.wt, Ct.sd, Ct.s_kd, Ct.s_tip, Ct.s_np, Ct.s_sg, Ct.s_ag, Ct.s_kn, Ct.s_ro, Ct.s_hd, Ct.s_hn, Ct.s_hf, Ct.s_ht, Ct.s_wn, Ct.s_cr, Ct.s_wf, Ct.s_wl, Ct.s_nw, Ct.s_wc, Ct.s_wt, Ct.s_sd]; done) | rfl)⟩
        · subst w7
          have cc7_1 := (show Int32.toInt 0 = 0 from rfl)
          have cc7_2 := (show Int32.toInt 9 = 9 from rfl)
          refine tz_ne (p2 := 40) rfl rfl (show Int32.toInt 0 = 0 from rfl) (fun c19 => absurd c19 (by omega)) (fun c19 => ?_)
          refine te_bipush (p2 := 42) (x := (-2)) rfl rfl (by decide) ?_
          obtain ⟨v20, e20, y20, w20, a20, b20, _⟩ := hI.2.1 148 10 (.inl (0, 24, 9999999999)) rfl
          subst w20
          exact te_iret rfl rfl ⟨hI, f0, _, rfl, (by show ((-2), cM h, absM h) = _; (have c0_ := (show Int32.toInt (-2) = (-2) from rfl)); unfold person_f; rw [(show (cM h).np = y20 from rv_of e20)]; (repeat' split) <;> first | (exfalso; omega) | (simp only [Dy.mk, Dy.ld, Dy.hm, Dy.hu, Dy.wk, Dy.de, Dy.st, Dy.up, Dy.rl, Dy.rs, Dy.ra, Dy.kp, Dy.du, Dy.ti, Dy.da, Dy.we, Dy.wi, Dy.s_ld, Dy.s_hm, Dy.s_hu, Dy.s_wk, Dy.s_de, Dy.s_st, Dy.s_up, Dy.s_rl, Dy.s_rs, Dy.s_ra, Dy.s_kp, Dy.s_du, Dy.s_ti, Dy.s_da, Dy.s_we, Dy.s_wi, Ct.mk, Ct.kd, Ct.tip, Ct.np, Ct.sg, Ct.ag, Ct.kn, Ct.ro, Ct.hd, Ct.hn, Ct.hf, Ct.ht, Ct.wn, Ct.cr, Ct.wf, Ct.wl, Ct.nw, Ct.wc, Ct.wt, Ct.sd, Ct.s_kd, Ct.s_tip, Ct.s_np, Ct.s_sg, Ct.s_ag, Ct.s_kn, Ct.s_ro, Ct.s_hd, Ct.s_hn, Ct.s_hf, Ct.s_ht, Ct.s_wn, Ct.s_cr, Ct.s_wf, Ct.s_wl, Ct.s_nw, Ct.s_wc, Ct.s_wt, Ct.s_sd]; done) | rfl)⟩
      · subst w5
        have cc5_1 := (show Int32.toInt 0 = 0 from rfl)
        have cc5_2 := (show Int32.toInt 99 = 99 from rfl)
        refine tz_eq (p2 := 29) rfl rfl (show Int32.toInt 0 = 0 from rfl) (fun c21 => ?_) (fun c21 => absurd c21 (by omega))
        refine te_bipush (p2 := 42) (x := (-2)) rfl rfl (by decide) ?_
        obtain ⟨v22, e22, y22, w22, a22, b22, _⟩ := hI.2.1 148 10 (.inl (0, 24, 9999999999)) rfl
        subst w22
        exact te_iret rfl rfl ⟨hI, f0, _, rfl, (by show ((-2), cM h, absM h) = _; (have c0_ := (show Int32.toInt (-2) = (-2) from rfl)); unfold person_f; rw [(show (cM h).np = y22 from rv_of e22)]; (repeat' split) <;> first | (exfalso; omega) | (simp only [Dy.mk, Dy.ld, Dy.hm, Dy.hu, Dy.wk, Dy.de, Dy.st, Dy.up, Dy.rl, Dy.rs, Dy.ra, Dy.kp, Dy.du, Dy.ti, Dy.da, Dy.we, Dy.wi, Dy.s_ld, Dy.s_hm, Dy.s_hu, Dy.s_wk, Dy.s_de, Dy.s_st, Dy.s_up, Dy.s_rl, Dy.s_rs, Dy.s_ra, Dy.s_kp, Dy.s_du, Dy.s_ti, Dy.s_da, Dy.s_we, Dy.s_wi, Ct.mk, Ct.kd, Ct.tip, Ct.np, Ct.sg, Ct.ag, Ct.kn, Ct.ro, Ct.hd, Ct.hn, Ct.hf, Ct.ht, Ct.wn, Ct.cr, Ct.wf, Ct.wl, Ct.nw, Ct.wc, Ct.wt, Ct.sd, Ct.s_kd, Ct.s_tip, Ct.s_np, Ct.s_sg, Ct.s_ag, Ct.s_kn, Ct.s_ro, Ct.s_hd, Ct.s_hn, Ct.s_hf, Ct.s_ht, Ct.s_wn, Ct.s_cr, Ct.s_wf, Ct.s_wl, Ct.s_nw, Ct.s_wc, Ct.s_wt, Ct.s_sd]; done) | rfl)⟩
    · subst w3
      have cc3_1 := (show Int32.toInt 1 = 1 from rfl)
      have cc3_2 := (show Int32.toInt 9 = 9 from rfl)
      refine tz_eq (p2 := 19) rfl rfl (show Int32.toInt 0 = 0 from rfl) (fun c23 => ?_) (fun c23 => absurd c23 (by omega))
      refine te_bipush (p2 := 42) (x := (-2)) rfl rfl (by decide) ?_
      obtain ⟨v24, e24, y24, w24, a24, b24, _⟩ := hI.2.1 148 10 (.inl (0, 24, 9999999999)) rfl
      subst w24
      exact te_iret rfl rfl ⟨hI, f0, _, rfl, (by show ((-2), cM h, absM h) = _; (have c0_ := (show Int32.toInt (-2) = (-2) from rfl)); unfold person_f; rw [(show (cM h).np = y24 from rv_of e24)]; (repeat' split) <;> first | (exfalso; omega) | (simp only [Dy.mk, Dy.ld, Dy.hm, Dy.hu, Dy.wk, Dy.de, Dy.st, Dy.up, Dy.rl, Dy.rs, Dy.ra, Dy.kp, Dy.du, Dy.ti, Dy.da, Dy.we, Dy.wi, Dy.s_ld, Dy.s_hm, Dy.s_hu, Dy.s_wk, Dy.s_de, Dy.s_st, Dy.s_up, Dy.s_rl, Dy.s_rs, Dy.s_ra, Dy.s_kp, Dy.s_du, Dy.s_ti, Dy.s_da, Dy.s_we, Dy.s_wi, Ct.mk, Ct.kd, Ct.tip, Ct.np, Ct.sg, Ct.ag, Ct.kn, Ct.ro, Ct.hd, Ct.hn, Ct.hf, Ct.ht, Ct.wn, Ct.cr, Ct.wf, Ct.wl, Ct.nw, Ct.wc, Ct.wt, Ct.sd, Ct.s_kd, Ct.s_tip, Ct.s_np, Ct.s_sg, Ct.s_ag, Ct.s_kn, Ct.s_ro, Ct.s_hd, Ct.s_hn, Ct.s_hf, Ct.s_ht, Ct.s_wn, Ct.s_cr, Ct.s_wf, Ct.s_wl, Ct.s_nw, Ct.s_wc, Ct.s_wt, Ct.s_sd]; done) | rfl)⟩
  · subst w1
    refine tz_ne (p2 := 7) rfl rfl (show Int32.toInt 0 = 0 from rfl) (fun c25 => absurd c25 (by omega)) (fun c25 => ?_)
    refine te_iconst (p2 := 8) (x := (-1)) rfl rfl (by decide) ?_
    obtain ⟨v26, e26, y26, w26, a26, b26, _⟩ := hI.2.1 148 10 (.inl (0, 24, 9999999999)) rfl
    subst w26
    exact te_iret rfl rfl ⟨hI, f0, _, rfl, (by show ((-1), cM h, absM h) = _; (have c0_ := (show Int32.toInt (-1) = (-1) from rfl)); unfold person_f; rw [(show (cM h).np = y26 from rv_of e26)]; (repeat' split) <;> first | (exfalso; omega) | (simp only [Dy.mk, Dy.ld, Dy.hm, Dy.hu, Dy.wk, Dy.de, Dy.st, Dy.up, Dy.rl, Dy.rs, Dy.ra, Dy.kp, Dy.du, Dy.ti, Dy.da, Dy.we, Dy.wi, Dy.s_ld, Dy.s_hm, Dy.s_hu, Dy.s_wk, Dy.s_de, Dy.s_st, Dy.s_up, Dy.s_rl, Dy.s_rs, Dy.s_ra, Dy.s_kp, Dy.s_du, Dy.s_ti, Dy.s_da, Dy.s_we, Dy.s_wi, Ct.mk, Ct.kd, Ct.tip, Ct.np, Ct.sg, Ct.ag, Ct.kn, Ct.ro, Ct.hd, Ct.hn, Ct.hf, Ct.ht, Ct.wn, Ct.cr, Ct.wf, Ct.wl, Ct.nw, Ct.wc, Ct.wt, Ct.sd, Ct.s_kd, Ct.s_tip, Ct.s_np, Ct.s_sg, Ct.s_ag, Ct.s_kn, Ct.s_ro, Ct.s_hd, Ct.s_hn, Ct.s_hf, Ct.s_ht, Ct.s_wn, Ct.s_cr, Ct.s_wf, Ct.s_wl, Ct.s_nw, Ct.s_wc, Ct.s_wt, Ct.s_sd]; done) | rfl)⟩
abbrev Q2_wall (x1 x2 x3 : Int32) (y : Int32) (h h2 : im_H) : Prop := (y, cM h2, absM h2) = wall_f x1 x2 x3 (cM h) (absM h)
set_option maxRecDepth 20000 in
set_option maxHeartbeats 4000000 in
theorem c_X12_wall {x1 : Int32} {x2 : Int32} {x3 : Int32} {h : im_H} (hI : tI h)  : CaP 8 126 [.ref 164, .int x1, .int x2, .int x3] h (fun v h2 => tI h2 ∧ fr F_X12_wall h h2 ∧ ∃ y : Int32, v = some (.int y) ∧ Q2_wall x1 x2 x3 y h h2) := by
  refine cap_of (d := 7) (M := mX12_wall) rfl (Nat.le_of_ble_eq_true rfl) ?_
  show EvP im_K0 7 mX12_wall (0, [(0, .ref 164), (1, .int x1), (2, .int x2), (3, .int x3)], [], h) _
  have f0 : fr F_X12_wall h h := fr_rf
  refine te_iload_n (p2 := 1) rfl rfl rfl ?_
  refine cS_pI (p2 := 4) rfl rfl rfl rfl (t_X12_isCell (n := x1) hI ) (by decide) (fun y1 r1 => ?_)
  rcases r1 with ⟨w1, c1⟩ | ⟨w1, c1⟩
  · subst w1
    refine tz_ne (p2 := 7) rfl rfl (show Int32.toInt 1 = 1 from rfl) (fun c2 => ?_) (fun c2 => absurd c2 (by omega))
    refine te_iload_n (p2 := 10) rfl rfl rfl ?_
    refine te_iconst (p2 := 11) (x := 0) rfl rfl (by decide) ?_
    refine te_iconst (p2 := 12) (x := 3) rfl rfl (by decide) ?_
    refine cS_pI (p2 := 15) rfl rfl rfl rfl (t_X12_in (n := x2) (a := 0) (b := 3) hI ) (by decide) (fun y3 r3 => ?_)
    rcases r3 with ⟨w3, c3⟩ | ⟨w3, c3⟩
    · subst w3
      have cc3_1 := (show Int32.toInt 0 = 0 from rfl)
      have cc3_2 := (show Int32.toInt 3 = 3 from rfl)
      refine tz_eq (p2 := 18) rfl rfl (show Int32.toInt 1 = 1 from rfl) (fun c4 => absurd c4 (by omega)) (fun c4 => ?_)
      refine te_iload_n (p2 := 19) rfl rfl rfl ?_
      refine te_iconst (p2 := 20) (x := 1) rfl rfl (by decide) ?_
      refine te_bipush (p2 := 22) (x := 99) rfl rfl (by decide) ?_
      refine cS_pI (p2 := 25) rfl rfl rfl rfl (t_X12_in (n := x3) (a := 1) (b := 99) hI ) (by decide) (fun y5 r5 => ?_)
      rcases r5 with ⟨w5, c5⟩ | ⟨w5, c5⟩
      · subst w5
        have cc5_1 := (show Int32.toInt 1 = 1 from rfl)
        have cc5_2 := (show Int32.toInt 99 = 99 from rfl)
        refine tz_ne (p2 := 28) rfl rfl (show Int32.toInt 1 = 1 from rfl) (fun c6 => ?_) (fun c6 => absurd c6 (by omega))
        refine te_iload_n (p2 := 32) rfl rfl rfl ?_
        refine te_iload_n (p2 := 33) rfl rfl rfl ?_
        refine cS_pI (p2 := 36) rfl rfl rfl rfl (t_X12_nextTo (c := x1) (side := x2) hI (by omega) (by omega)) (by decide) (fun y7 r7 => ?_)
        obtain ⟨a7, b7, e7⟩ := r7
        refine te_iconst (p2 := 37) (x := (-1)) rfl rfl (by decide) ?_
        refine tb_ne (p2 := 40) rfl rfl rfl (show Int32.toInt (-1) = (-1) from rfl) (fun c8 => ?_) (fun c8 => ?_)
        · refine te_aload_n (p2 := 44) rfl rfl rfl ?_
          refine tg_i (p2 := 47) (i := 148) rfl rfl hI rfl rfl rfl (fun y9 a9 b9 e9 => ?_)
          refine te_bipush (p2 := 49) (x := 16) rfl rfl (by decide) ?_
          refine tb_ne (p2 := 52) rfl rfl rfl (show Int32.toInt 16 = 16 from rfl) (fun c10 => ?_) (fun c10 => ?_)
          · refine te_aload_n (p2 := 56) rfl rfl rfl ?_
            refine tg_r (p2 := 59) (i := 148) (r := 183) rfl rfl hI rfl rfl rfl ?_
            refine te_aload_n (p2 := 60) rfl rfl rfl ?_
            refine tg_e (p2 := 63) (i := 148) (v := .int y9) rfl rfl hI rfl rfl e9 ?_
            refine te_iload_n (p2 := 64) rfl rfl rfl ?_
            refine ts_i (p2 := 65) (i := 167) (n := 16) rfl rfl hI rfl rfl rfl rfl (by omega) (by omega) (by omega) (by omega) (by omega) rfl (fun h11 I11 u11 => ?_)
            have f11 := fr_st (F := F_X12_wall) 2 f0 u11 rfl (by omega) (by omega)
            refine te_aload_n (p2 := 66) rfl rfl rfl ?_
            refine tg_r (p2 := 69) (i := 148) (r := 184) rfl rfl I11 rfl rfl rfl ?_
            refine te_aload_n (p2 := 70) rfl rfl rfl ?_
            refine tg_e (p2 := 73) (i := 148) (v := .int y9) rfl rfl I11 rfl rfl ((u11.2 _ _ (Or.inl (by decide))).trans e9) ?_
            refine te_iload_n (p2 := 74) rfl rfl rfl ?_
            refine te_iload_n (p2 := 75) rfl rfl rfl ?_
            refine cS_pI (p2 := 78) rfl rfl rfl rfl (t_X12_nextTo (c := x1) (side := x2) I11 (by omega) (by omega)) (by decide) (fun y12 r12 => ?_)
            obtain ⟨a12, b12, e12⟩ := r12
            have w12 : y12 = y7 := e12.trans e7.symm
            subst w12
            refine ts_i (p2 := 79) (i := 168) (n := 16) rfl rfl I11 rfl rfl rfl rfl (by omega) (by omega) (by omega) (by omega) (by omega) rfl (fun h13 I13 u13 => ?_)
            have f13 := fr_st (F := F_X12_wall) 3 f11 u13 rfl (by omega) (by omega)
            refine te_aload_n (p2 := 80) rfl rfl rfl ?_
            refine tg_r (p2 := 83) (i := 148) (r := 165) rfl rfl I13 rfl rfl rfl ?_
            refine te_bipush (p2 := 85) (x := 108) rfl rfl (by decide) ?_
            refine te_aload_n (p2 := 86) rfl rfl rfl ?_
            refine tg_e (p2 := 89) (i := 148) (v := .int y9) rfl rfl I13 rfl rfl ((u13.2 _ _ (Or.inl (by decide))).trans ((u11.2 _ _ (Or.inl (by decide))).trans e9)) ?_
            refine ar_add (p2 := 90) rfl rfl (show Int32.toInt 108 = 108 from rfl) rfl (by omega) (by omega) (fun z14 e14 f14 => ?_)
            refine te_iconst (p2 := 91) (x := 1) rfl rfl (by decide) ?_
            refine ts_i (p2 := 92) (i := 149) (n := 283) rfl rfl I13 rfl rfl rfl rfl (by omega) (by omega) (i32_lo _) (i32_hi _) (i32_ho _) rfl (fun h15 I15 u15 => ?_)
            have f15 := fr_st (F := F_X12_wall) 1 f13 u15 rfl (by omega) (by omega)
            refine te_aload_n (p2 := 93) rfl rfl rfl ?_
            refine tg_r (p2 := 96) (i := 148) (r := 165) rfl rfl I15 rfl rfl rfl ?_
            refine te_bipush (p2 := 98) (x := 124) rfl rfl (by decide) ?_
            refine te_aload_n (p2 := 99) rfl rfl rfl ?_
            refine tg_e (p2 := 102) (i := 148) (v := .int y9) rfl rfl I15 rfl rfl ((u15.2 _ _ (Or.inl (by decide))).trans ((u13.2 _ _ (Or.inl (by decide))).trans ((u11.2 _ _ (Or.inl (by decide))).trans e9))) ?_
            refine ar_add (p2 := 103) rfl rfl (show Int32.toInt 124 = 124 from rfl) rfl (by omega) (by omega) (fun z16 e16 f16 => ?_)
            refine te_iload_n (p2 := 104) rfl rfl rfl ?_
            refine ts_i (p2 := 105) (i := 149) (n := 283) rfl rfl I15 rfl rfl rfl rfl (by omega) (by omega) (i32_lo _) (i32_hi _) (i32_ho _) rfl (fun h17 I17 u17 => ?_)
            have f17 := fr_st (F := F_X12_wall) 1 f15 u17 rfl (by omega) (by omega)
            refine te_aload_n (p2 := 106) rfl rfl rfl ?_
            refine te_dup (p2 := 107) rfl rfl rfl ?_
            refine tg_e (p2 := 110) (i := 148) (v := .int y9) rfl rfl I17 rfl rfl ((u17.2 _ _ (Or.inl (by decide))).trans ((u15.2 _ _ (Or.inl (by decide))).trans ((u13.2 _ _ (Or.inl (by decide))).trans ((u11.2 _ _ (Or.inl (by decide))).trans e9)))) ?_
            refine te_iconst (p2 := 111) (x := 1) rfl rfl (by decide) ?_
            refine ar_add (p2 := 112) rfl rfl rfl (show Int32.toInt 1 = 1 from rfl) (by omega) (by omega) (fun z18 e18 f18 => ?_)
            refine tp_i (p2 := 115) (i := 148) rfl rfl I17 rfl rfl (by decide) rfl rfl rfl (by omega) (by omega) (by omega) rfl (fun h19 I19 u19 => ?_)
            have f19 := fr_st (F := F_X12_wall) 0 f17 u19 rfl (by decide) (by decide)
            refine te_aload_n (p2 := 116) rfl rfl rfl ?_
            refine tg_e (p2 := 119) (i := 148) (v := .int z18) rfl rfl I19 rfl rfl u19.1 ?_
            refine te_iconst (p2 := 120) (x := 1) rfl rfl (by decide) ?_
            refine ar_sub (p2 := 121) rfl rfl rfl (show Int32.toInt 1 = 1 from rfl) (by omega) (by omega) (fun z20 e20 f20 => ?_)
            exact te_iret rfl rfl ⟨I19, f19, _, rfl, (by show (z20, cM h19, absM h19) = _; (have n0_ := congrArg Int32.toInt e7); rw [mcu_nw u19, mcu_o u17 (by decide), mcu_o u15 (by decide), mcu_wt u13 (by omega), mcu_wc u11 (by omega), mu_o u19 (by decide), mu_st (i := y9.toInt.toNat) u17 (by omega) (by omega), mu_up (i := y9.toInt.toNat) u15 (by omega) (by omega), mu_o u13 (by decide), mu_o u11 (by decide)]; unfold wall_f; rw [(show (cM h).nw = y9 from rv_of e9), (show y9 + 1 = z18 from i32_ext (by rw [i32_addE (show Int32.toInt 1 = 1 from rfl) (by omega) (by omega)]; omega)), (show z20 = y9 from i32_ext (by omega)), (show nbr x1 x2 = _ from (e7).symm)]; (repeat' split) <;> first | (exfalso; omega) | (simp only [Dy.mk, Dy.ld, Dy.hm, Dy.hu, Dy.wk, Dy.de, Dy.st, Dy.up, Dy.rl, Dy.rs, Dy.ra, Dy.kp, Dy.du, Dy.ti, Dy.da, Dy.we, Dy.wi, Dy.s_ld, Dy.s_hm, Dy.s_hu, Dy.s_wk, Dy.s_de, Dy.s_st, Dy.s_up, Dy.s_rl, Dy.s_rs, Dy.s_ra, Dy.s_kp, Dy.s_du, Dy.s_ti, Dy.s_da, Dy.s_we, Dy.s_wi, Ct.mk, Ct.kd, Ct.tip, Ct.np, Ct.sg, Ct.ag, Ct.kn, Ct.ro, Ct.hd, Ct.hn, Ct.hf, Ct.ht, Ct.wn, Ct.cr, Ct.wf, Ct.wl, Ct.nw, Ct.wc, Ct.wt, Ct.sd, Ct.s_kd, Ct.s_tip, Ct.s_np, Ct.s_sg, Ct.s_ag, Ct.s_kn, Ct.s_ro, Ct.s_hd, Ct.s_hn, Ct.s_hf, Ct.s_ht, Ct.s_wn, Ct.s_cr, Ct.s_wf, Ct.s_wl, Ct.s_nw, Ct.s_wc, Ct.s_wt, Ct.s_sd]; done) | rfl)⟩
          · refine te_bipush (p2 := 54) (x := (-4)) rfl rfl (by decide) ?_
            exact te_iret rfl rfl ⟨hI, f0, _, rfl, (by show ((-4), cM h, absM h) = _; (have c0_ := (show Int32.toInt (-4) = (-4) from rfl)); (have n0_ := congrArg Int32.toInt e7); unfold wall_f; rw [(show (cM h).nw = y9 from rv_of e9)]; (repeat' split) <;> first | (exfalso; omega) | (simp only [Dy.mk, Dy.ld, Dy.hm, Dy.hu, Dy.wk, Dy.de, Dy.st, Dy.up, Dy.rl, Dy.rs, Dy.ra, Dy.kp, Dy.du, Dy.ti, Dy.da, Dy.we, Dy.wi, Dy.s_ld, Dy.s_hm, Dy.s_hu, Dy.s_wk, Dy.s_de, Dy.s_st, Dy.s_up, Dy.s_rl, Dy.s_rs, Dy.s_ra, Dy.s_kp, Dy.s_du, Dy.s_ti, Dy.s_da, Dy.s_we, Dy.s_wi, Ct.mk, Ct.kd, Ct.tip, Ct.np, Ct.sg, Ct.ag, Ct.kn, Ct.ro, Ct.hd, Ct.hn, Ct.hf, Ct.ht, Ct.wn, Ct.cr, Ct.wf, Ct.wl, Ct.nw, Ct.wc, Ct.wt, Ct.sd, Ct.s_kd, Ct.s_tip, Ct.s_np, Ct.s_sg, Ct.s_ag, Ct.s_kn, Ct.s_ro, Ct.s_hd, Ct.s_hn, Ct.s_hf, Ct.s_ht, Ct.s_wn, Ct.s_cr, Ct.s_wf, Ct.s_wl, Ct.s_nw, Ct.s_wc, Ct.s_wt, Ct.s_sd]; done) | rfl)⟩
        · refine te_bipush (p2 := 42) (x := (-3)) rfl rfl (by decide) ?_
          obtain ⟨v21, e21, y21, w21, a21, b21, _⟩ := hI.2.1 148 21 (.inl (0, 16, 9999999999)) rfl
          subst w21
          exact te_iret rfl rfl ⟨hI, f0, _, rfl, (by show ((-3), cM h, absM h) = _; (have c0_ := (show Int32.toInt (-3) = (-3) from rfl)); (have n0_ := congrArg Int32.toInt e7); unfold wall_f; rw [(show (cM h).nw = y21 from rv_of e21)]; (repeat' split) <;> first | (exfalso; omega) | (simp only [Dy.mk, Dy.ld, Dy.hm, Dy.hu, Dy.wk, Dy.de, Dy.st, Dy.up, Dy.rl, Dy.rs, Dy.ra, Dy.kp, Dy.du, Dy.ti, Dy.da, Dy.we, Dy.wi, Dy.s_ld, Dy.s_hm, Dy.s_hu, Dy.s_wk, Dy.s_de, Dy.s_st, Dy.s_up, Dy.s_rl, Dy.s_rs, Dy.s_ra, Dy.s_kp, Dy.s_du, Dy.s_ti, Dy.s_da, Dy.s_we, Dy.s_wi, Ct.mk, Ct.kd, Ct.tip, Ct.np, Ct.sg, Ct.ag, Ct.kn, Ct.ro, Ct.hd, Ct.hn, Ct.hf, Ct.ht, Ct.wn, Ct.cr, Ct.wf, Ct.wl, Ct.nw, Ct.wc, Ct.wt, Ct.sd, Ct.s_kd, Ct.s_tip, Ct.s_np, Ct.s_sg, Ct.s_ag, Ct.s_kn, Ct.s_ro, Ct.s_hd, Ct.s_hn, Ct.s_hf, Ct.s_ht, Ct.s_wn, Ct.s_cr, Ct.s_wf, Ct.s_wl, Ct.s_nw, Ct.s_wc, Ct.s_wt, Ct.s_sd]; done) | rfl)⟩
      · subst w5
        have cc5_1 := (show Int32.toInt 1 = 1 from rfl)
        have cc5_2 := (show Int32.toInt 99 = 99 from rfl)
        refine tz_ne (p2 := 28) rfl rfl (show Int32.toInt 0 = 0 from rfl) (fun c22 => absurd c22 (by omega)) (fun c22 => ?_)
        refine te_bipush (p2 := 30) (x := (-2)) rfl rfl (by decide) ?_
        obtain ⟨v23, e23, y23, w23, a23, b23, _⟩ := hI.2.1 148 21 (.inl (0, 16, 9999999999)) rfl
        subst w23
        exact te_iret rfl rfl ⟨hI, f0, _, rfl, (by show ((-2), cM h, absM h) = _; (have c0_ := (show Int32.toInt (-2) = (-2) from rfl)); unfold wall_f; rw [(show (cM h).nw = y23 from rv_of e23)]; (repeat' split) <;> first | (exfalso; omega) | (simp only [Dy.mk, Dy.ld, Dy.hm, Dy.hu, Dy.wk, Dy.de, Dy.st, Dy.up, Dy.rl, Dy.rs, Dy.ra, Dy.kp, Dy.du, Dy.ti, Dy.da, Dy.we, Dy.wi, Dy.s_ld, Dy.s_hm, Dy.s_hu, Dy.s_wk, Dy.s_de, Dy.s_st, Dy.s_up, Dy.s_rl, Dy.s_rs, Dy.s_ra, Dy.s_kp, Dy.s_du, Dy.s_ti, Dy.s_da, Dy.s_we, Dy.s_wi, Ct.mk, Ct.kd, Ct.tip, Ct.np, Ct.sg, Ct.ag, Ct.kn, Ct.ro, Ct.hd, Ct.hn, Ct.hf, Ct.ht, Ct.wn, Ct.cr, Ct.wf, Ct.wl, Ct.nw, Ct.wc, Ct.wt, Ct.sd, Ct.s_kd, Ct.s_tip, Ct.s_np, Ct.s_sg, Ct.s_ag, Ct.s_kn, Ct.s_ro, Ct.s_hd, Ct.s_hn, Ct.s_hf, Ct.s_ht, Ct.s_wn, Ct.s_cr, Ct.s_wf, Ct.s_wl, Ct.s_nw, Ct.s_wc, Ct.s_wt, Ct.s_sd]; done) | rfl)⟩
    · subst w3
      have cc3_1 := (show Int32.toInt 0 = 0 from rfl)
      have cc3_2 := (show Int32.toInt 3 = 3 from rfl)
      refine tz_eq (p2 := 18) rfl rfl (show Int32.toInt 0 = 0 from rfl) (fun c24 => ?_) (fun c24 => absurd c24 (by omega))
      refine te_bipush (p2 := 30) (x := (-2)) rfl rfl (by decide) ?_
      obtain ⟨v25, e25, y25, w25, a25, b25, _⟩ := hI.2.1 148 21 (.inl (0, 16, 9999999999)) rfl
      subst w25
      exact te_iret rfl rfl ⟨hI, f0, _, rfl, (by show ((-2), cM h, absM h) = _; (have c0_ := (show Int32.toInt (-2) = (-2) from rfl)); unfold wall_f; rw [(show (cM h).nw = y25 from rv_of e25)]; (repeat' split) <;> first | (exfalso; omega) | (simp only [Dy.mk, Dy.ld, Dy.hm, Dy.hu, Dy.wk, Dy.de, Dy.st, Dy.up, Dy.rl, Dy.rs, Dy.ra, Dy.kp, Dy.du, Dy.ti, Dy.da, Dy.we, Dy.wi, Dy.s_ld, Dy.s_hm, Dy.s_hu, Dy.s_wk, Dy.s_de, Dy.s_st, Dy.s_up, Dy.s_rl, Dy.s_rs, Dy.s_ra, Dy.s_kp, Dy.s_du, Dy.s_ti, Dy.s_da, Dy.s_we, Dy.s_wi, Ct.mk, Ct.kd, Ct.tip, Ct.np, Ct.sg, Ct.ag, Ct.kn, Ct.ro, Ct.hd, Ct.hn, Ct.hf, Ct.ht, Ct.wn, Ct.cr, Ct.wf, Ct.wl, Ct.nw, Ct.wc, Ct.wt, Ct.sd, Ct.s_kd, Ct.s_tip, Ct.s_np, Ct.s_sg, Ct.s_ag, Ct.s_kn, Ct.s_ro, Ct.s_hd, Ct.s_hn, Ct.s_hf, Ct.s_ht, Ct.s_wn, Ct.s_cr, Ct.s_wf, Ct.s_wl, Ct.s_nw, Ct.s_wc, Ct.s_wt, Ct.s_sd]; done) | rfl)⟩
  · subst w1
    refine tz_ne (p2 := 7) rfl rfl (show Int32.toInt 0 = 0 from rfl) (fun c26 => absurd c26 (by omega)) (fun c26 => ?_)
    refine te_iconst (p2 := 8) (x := (-1)) rfl rfl (by decide) ?_
    obtain ⟨v27, e27, y27, w27, a27, b27, _⟩ := hI.2.1 148 21 (.inl (0, 16, 9999999999)) rfl
    subst w27
    exact te_iret rfl rfl ⟨hI, f0, _, rfl, (by show ((-1), cM h, absM h) = _; (have c0_ := (show Int32.toInt (-1) = (-1) from rfl)); unfold wall_f; rw [(show (cM h).nw = y27 from rv_of e27)]; (repeat' split) <;> first | (exfalso; omega) | (simp only [Dy.mk, Dy.ld, Dy.hm, Dy.hu, Dy.wk, Dy.de, Dy.st, Dy.up, Dy.rl, Dy.rs, Dy.ra, Dy.kp, Dy.du, Dy.ti, Dy.da, Dy.we, Dy.wi, Dy.s_ld, Dy.s_hm, Dy.s_hu, Dy.s_wk, Dy.s_de, Dy.s_st, Dy.s_up, Dy.s_rl, Dy.s_rs, Dy.s_ra, Dy.s_kp, Dy.s_du, Dy.s_ti, Dy.s_da, Dy.s_we, Dy.s_wi, Ct.mk, Ct.kd, Ct.tip, Ct.np, Ct.sg, Ct.ag, Ct.kn, Ct.ro, Ct.hd, Ct.hn, Ct.hf, Ct.ht, Ct.wn, Ct.cr, Ct.wf, Ct.wl, Ct.nw, Ct.wc, Ct.wt, Ct.sd, Ct.s_kd, Ct.s_tip, Ct.s_np, Ct.s_sg, Ct.s_ag, Ct.s_kn, Ct.s_ro, Ct.s_hd, Ct.s_hn, Ct.s_hf, Ct.s_ht, Ct.s_wn, Ct.s_cr, Ct.s_wf, Ct.s_wl, Ct.s_nw, Ct.s_wc, Ct.s_wt, Ct.s_sd]; done) | rfl)⟩
theorem dys_s {c : Ct} {A : Dy} {n : Nat} : dyF c (dysF c A n) = dysF c A (n + 1) := rfl
theorem dys_0 {c : Ct} {A : Dy} {n : Nat} (e : n = 0) : A = dysF c A n := by
  subst e
  rfl
def run_f (x1 : Int32) (c : Ct) (A : Dy) : Int32 × Dy := if 1 ≤ x1.toInt ∧ x1.toInt ≤ 60 then (if 2000 < (A.da + x1).toInt then (-4, A) else ((dysF c A x1.toInt.toNat).da, dysF c A x1.toInt.toNat)) else (-2, A)
def pull_f (x1 : Int32) (c : Ct) (A : Dy) : Dy := if 0 ≤ x1.toInt ∧ x1.toInt < c.nw.toInt then (if (A.up x1.toInt.toNat).toInt = 0 then A else faF c A x1.toInt.toNat) else A
abbrev Q1_run (x1 : Int32) (y : Int32) (h h2 : im_H) : Prop := (y, absX h2 23) = run_f x1 (ctX h) (absX h 23)
set_option maxRecDepth 20000 in
set_option maxHeartbeats 4000000 in
theorem c_X11_run {x1 : Int32} {h : im_H} (hI : tI h)  : CaP 8 76 [.ref 16, .int x1] h (fun v h2 => tI h2 ∧ fr F_X11_run h h2 ∧ ∃ y : Int32, v = some (.int y) ∧ Q1_run x1 y h h2) := by
  refine cap_of (d := 7) (M := mX11_run) rfl (Nat.le_of_ble_eq_true rfl) ?_
  show EvP im_K0 7 mX11_run (0, [(0, .ref 16), (1, .int x1)], [], h) _
  have f0 : fr F_X11_run h h := fr_rf
  refine te_iload_n (p2 := 1) rfl rfl rfl ?_
  refine te_iconst (p2 := 2) (x := 1) rfl rfl (by decide) ?_
  refine te_bipush (p2 := 4) (x := 60) rfl rfl (by decide) ?_
  refine cS_pI (p2 := 7) rfl rfl rfl rfl (t_X11_between (n := x1) (a := 1) (b := 60) hI ) (by decide) (fun y1 r1 => ?_)
  rcases r1 with ⟨w1, c1⟩ | ⟨w1, c1⟩
  · subst w1
    have cc1_1 := (show Int32.toInt 1 = 1 from rfl)
    have cc1_2 := (show Int32.toInt 60 = 60 from rfl)
    refine tz_ne (p2 := 10) rfl rfl (show Int32.toInt 1 = 1 from rfl) (fun c2 => ?_) (fun c2 => absurd c2 (by omega))
    refine te_aload_n (p2 := 14) rfl rfl rfl ?_
    refine tg_r (p2 := 17) (i := 0) (r := 39) rfl rfl hI rfl rfl rfl ?_
    refine tg_i (p2 := 20) (i := 23) rfl rfl hI rfl rfl rfl (fun y3 a3 b3 e3 => ?_)
    refine te_iload_n (p2 := 21) rfl rfl rfl ?_
    refine au_add (p2 := 22) rfl rfl (fun z4 e4 => ?_)
    refine te_sipush (p2 := 25) (x := 2000) rfl rfl (by decide) ?_
    refine tb_le (p2 := 28) rfl rfl rfl (show Int32.toInt 2000 = 2000 from rfl) (fun c5 => ?_) (fun c5 => ?_)
    · refine te_iconst (p2 := 32) (x := 0) rfl rfl (by decide) ?_
      refine te_istore_n (p2 := 33) (lv2 := [(2, .int 0), (0, .ref 16), (1, .int x1)]) rfl rfl (by decide) rfl ?_
      have lp6 : ∀ (n6 : Nat) (v6_2 : Int32) (h6 : im_H), tI h6 → fr F_X11_run h h6 → 0 ≤ v6_2.toInt → v6_2.toInt ≤ 60 → v6_2.toInt ≤ x1.toInt → (absX h6 23 = dysF (ctX h) (absX h 23) v6_2.toInt.toNat) → x1.toInt - v6_2.toInt < (n6 : Int) → EvP im_K0 7 mX11_run (33, [(0, .ref 16), (1, .int x1), (2, .int v6_2)], [], h6) (fun v h2 => tI h2 ∧ fr F_X11_run h h2 ∧ ∃ y : Int32, v = some (.int y) ∧ Q1_run x1 y h h2) := by
        intro n6
        induction n6 with
        | zero => intro v6_2 h6 I6 f6 a6_2 b6_2 l6_0 w6_0 m6; exfalso; omega
        | succ n6 ih6 =>
          intro v6_2 h6 I6 f6 a6_2 b6_2 l6_0 w6_0 m6
          refine te_iload_n (p2 := 34) rfl rfl rfl ?_
          refine te_iload_n (p2 := 35) rfl rfl rfl ?_
          refine tb_ge (p2 := 38) rfl rfl rfl rfl (fun c7 => ?_) (fun c7 => ?_)
          · refine te_aload_n (p2 := 56) rfl rfl rfl ?_
            refine tg_r (p2 := 59) (i := 0) (r := 39) rfl rfl I6 rfl rfl rfl ?_
            refine tg_i (p2 := 62) (i := 23) rfl rfl I6 rfl rfl rfl (fun y8 a8 b8 e8 => ?_)
            exact te_iret rfl rfl ⟨I6, f6, _, rfl, (by show (y8, absX h6 23) = _; unfold run_f; rw [if_pos (by omega), (show (absX h 23).da + x1 = z4 from (by rw [show (absX h 23).da = y3 from rv_of e3]; exact e4)), if_neg (by omega), show y8 = (absX h6 23).da from (rv_of e8).symm, w6_0, show v6_2.toInt.toNat = x1.toInt.toNat by omega])⟩
          · refine te_aload_n (p2 := 39) rfl rfl rfl ?_
            refine tg_r (p2 := 42) (i := 0) (r := 17) rfl rfl I6 rfl rfl rfl ?_
            refine te_aload_n (p2 := 43) rfl rfl rfl ?_
            refine tg_r (p2 := 46) (i := 0) (r := 39) rfl rfl I6 rfl rfl rfl ?_
            refine tc_V (p2 := 49) (i := 1) rfl rfl rfl rfl I6 rfl rfl rfl (d_X0_playDay (s := 23) I6 (by decide)) (by decide) (fun v9 h9 hq9 => ?_)
            obtain ⟨I9, g9, w9, Q9⟩ := hq9
            subst w9
            have f9 := fr_tr (F1 := (F_X0_playDay 23)) (F := F_X11_run) f6 g9 (by decide)
            show EvP _ _ _ (49, [(0, .ref 16), (1, .int x1), (2, .int v6_2)], [], h9) _
            refine ar_inc (p2 := 52) (x := v6_2) rfl rfl (by decide) rfl (by decide) rfl (by omega) (by omega) (fun z10 e10 f10 => ?_)
            show EvP _ _ _ (52, [(2, .int z10), (0, .ref 16), (1, .int x1)], [], h9) _
            refine te_goto rfl ?_
            refine te_lv [(0, .ref 16), (1, .int x1), (2, .int z10)] rfl rfl ⟨rfl, rfl, rfl, trivial⟩ ?_
            exact ih6 z10 h9 I9 f9 (by omega) (by omega) (by omega) (by rw [Q9, (show ctX h6 = ctX h from ctX_fr f6 rfl), w6_0, show z10.toInt.toNat = v6_2.toInt.toNat + 1 by omega]; exact dys_s) (by omega)
      refine te_lv [(0, .ref 16), (1, .int x1), (2, .int 0)] rfl rfl ⟨rfl, rfl, rfl, trivial⟩ ?_
      exact lp6 61 0 h hI f0 (by decide) (by decide) (by have cc0 := (show Int32.toInt 0 = 0 from rfl); omega) (dys_0 rfl) (by have cc0 := (show Int32.toInt 0 = 0 from rfl); omega)
    · refine te_bipush (p2 := 30) (x := (-4)) rfl rfl (by decide) ?_
      exact te_iret rfl rfl ⟨hI, f0, _, rfl, (by show ((-4), absX h 23) = _; unfold run_f; rw [if_pos (by omega), (show (absX h 23).da + x1 = z4 from (by rw [show (absX h 23).da = y3 from rv_of e3]; exact e4)), if_pos (by omega)])⟩
  · subst w1
    have cc1_1 := (show Int32.toInt 1 = 1 from rfl)
    have cc1_2 := (show Int32.toInt 60 = 60 from rfl)
    refine tz_ne (p2 := 10) rfl rfl (show Int32.toInt 0 = 0 from rfl) (fun c11 => absurd c11 (by omega)) (fun c11 => ?_)
    refine te_bipush (p2 := 12) (x := (-2)) rfl rfl (by decide) ?_
    exact te_iret rfl rfl ⟨hI, f0, _, rfl, (by show ((-2), absX h 23) = _; unfold run_f; rw [if_neg (by omega)])⟩
abbrev D2_run (x1 : Int32) (y : Int32) (h h2 : im_H) : Prop := (y, absM h2) = run_f x1 (ctM h) (absM h)
abbrev Q2_run (x1 : Int32) (y : Int32) (h h2 : im_H) : Prop := (tabM h ∧ ctOK (ctM h) ∧ ∃ b, dyOK b (absM h) ∧ b + 500000 ≤ 2147483647) → D2_run x1 y h h2
set_option maxRecDepth 20000 in
set_option maxHeartbeats 4000000 in
theorem d_X12_run {x1 : Int32} {h : im_H} (hI : tI h) (pr0 : (tabM h ∧ ctOK (ctM h) ∧ ∃ b, dyOK b (absM h) ∧ b + 500000 ≤ 2147483647)) : CaP 9 155 [.ref 164, .int x1] h (fun v h2 => tI h2 ∧ fr F_X12_run h h2 ∧ ∃ y : Int32, v = some (.int y) ∧ D2_run x1 y h h2) := by
  refine cap_of (d := 8) (M := mX12_run) rfl (Nat.le_of_ble_eq_true rfl) ?_
  show EvP im_K0 8 mX12_run (0, [(0, .ref 164), (1, .int x1)], [], h) _
  have f0 : fr F_X12_run h h := fr_rf
  refine te_iload_n (p2 := 1) rfl rfl rfl ?_
  obtain ⟨v1, e1, y1, w1, a1, b1, _⟩ := hI.2.1 148 21 (.inl (0, 16, 9999999999)) rfl
  subst w1
  have hnw : (ctM h).nw.toInt ≤ 16 := by (rw [show (ctM h).nw = y1 from rv_of e1]; omega)
  obtain ⟨b, ok, hb⟩ := pr0.2.2
  refine te_iconst (p2 := 2) (x := 1) rfl rfl (by decide) ?_
  refine te_bipush (p2 := 4) (x := 60) rfl rfl (by decide) ?_
  refine cS_pI (p2 := 7) rfl rfl rfl rfl (t_X12_in (n := x1) (a := 1) (b := 60) hI ) (by decide) (fun y2 r2 => ?_)
  rcases r2 with ⟨w2, c2⟩ | ⟨w2, c2⟩
  · subst w2
    have cc2_1 := (show Int32.toInt 1 = 1 from rfl)
    have cc2_2 := (show Int32.toInt 60 = 60 from rfl)
    refine tz_ne (p2 := 10) rfl rfl (show Int32.toInt 1 = 1 from rfl) (fun c3 => ?_) (fun c3 => absurd c3 (by omega))
    refine te_aload_n (p2 := 14) rfl rfl rfl ?_
    refine tg_r (p2 := 17) (i := 148) (r := 165) rfl rfl hI rfl rfl rfl ?_
    refine te_bipush (p2 := 19) (x := 105) rfl rfl (by decide) ?_
    refine tl_i (p2 := 20) (i := 149) (n := 283) rfl rfl hI rfl rfl rfl rfl (by decide) (by decide) (fun y4 a4 b4 g4 e4 => ?_)
    refine te_iload_n (p2 := 21) rfl rfl rfl ?_
    refine au_add (p2 := 22) rfl rfl (fun z5 e5 => ?_)
    refine te_sipush (p2 := 25) (x := 2000) rfl rfl (by decide) ?_
    refine tb_le (p2 := 28) rfl rfl rfl (show Int32.toInt 2000 = 2000 from rfl) (fun c6 => ?_) (fun c6 => ?_)
    · refine te_iconst (p2 := 32) (x := 0) rfl rfl (by decide) ?_
      refine te_istore_n (p2 := 33) (lv2 := [(2, .int 0), (0, .ref 164), (1, .int x1)]) rfl rfl (by decide) rfl ?_
      have lp7 : ∀ (n7 : Nat) (v7_2 : Int32) (h7 : im_H), tI h7 → fr F_X12_run h h7 → 0 ≤ v7_2.toInt → v7_2.toInt ≤ 60 → v7_2.toInt ≤ x1.toInt → (absM h7 = dysF (ctM h) (absM h) v7_2.toInt.toNat) → x1.toInt - v7_2.toInt < (n7 : Int) → EvP im_K0 8 mX12_run (33, [(0, .ref 164), (1, .int x1), (2, .int v7_2)], [], h7) (fun v h2 => tI h2 ∧ fr F_X12_run h h2 ∧ ∃ y : Int32, v = some (.int y) ∧ D2_run x1 y h h2) := by
        intro n7
        induction n7 with
        | zero => intro v7_2 h7 I7 f7 a7_2 b7_2 l7_0 w7_0 m7; exfalso; omega
        | succ n7 ih7 =>
          intro v7_2 h7 I7 f7 a7_2 b7_2 l7_0 w7_0 m7
          refine te_iload_n (p2 := 34) rfl rfl rfl ?_
          refine te_iload_n (p2 := 35) rfl rfl rfl ?_
          refine tb_ge (p2 := 38) rfl rfl rfl rfl (fun c8 => ?_) (fun c8 => ?_)
          · refine te_aload_n (p2 := 49) rfl rfl rfl ?_
            refine tg_r (p2 := 52) (i := 148) (r := 165) rfl rfl I7 rfl rfl rfl ?_
            refine te_bipush (p2 := 54) (x := 105) rfl rfl (by decide) ?_
            refine tl_i (p2 := 55) (i := 149) (n := 283) rfl rfl I7 rfl rfl rfl rfl (by decide) (by decide) (fun y9 a9 b9 g9 e9 => ?_)
            exact te_iret rfl rfl ⟨I7, f7, _, rfl, (by show (y9, absM h7) = _; unfold run_f; rw [if_pos (by omega), (show (absM h).da + x1 = z5 from (by rw [show (absM h).da = y4 from rv_of (k := 105) e4]; exact e5)), if_neg (by omega), show y9 = (absM h7).da from (rv_of (k := 105) e9).symm, w7_0, show v7_2.toInt.toNat = x1.toInt.toNat by omega])⟩
          · refine te_aload_n (p2 := 39) rfl rfl rfl ?_
            refine tc_V (p2 := 42) (i := 148) rfl rfl rfl rfl I7 rfl rfl rfl (d_X12_goes  I7  (tabM_fr pr0.1 f7 (fun q hq => by (have h9 := (show ∀ q ∈ F_X12_run, q.1 < 153 ∨ 156 < q.1 by decide)); exact h9 q hq)) (by rw [(show ctM h7 = ctM h from ctM_fr f7 rfl)]; exact pr0.2.1) ⟨_, by rw [w7_0]; exact das_B pr0.2.1 hnw ok v7_2.toInt.toNat (by omega), by omega⟩) (by decide) (fun v10 h10 hq10 => ?_)
            obtain ⟨I10, g10, w10, Q10⟩ := hq10
            subst w10
            have f10 := fr_tr (F1 := F_X12_goes) (F := F_X12_run) f7 g10 (by decide)
            show EvP _ _ _ (42, [(0, .ref 164), (1, .int x1), (2, .int v7_2)], [], h10) _
            refine ar_inc (p2 := 45) (x := v7_2) rfl rfl (by decide) rfl (by decide) rfl (by omega) (by omega) (fun z11 e11 f11 => ?_)
            show EvP _ _ _ (45, [(2, .int z11), (0, .ref 164), (1, .int x1)], [], h10) _
            refine te_goto rfl ?_
            refine te_lv [(0, .ref 164), (1, .int x1), (2, .int z11)] rfl rfl ⟨rfl, rfl, rfl, trivial⟩ ?_
            exact ih7 z11 h10 I10 f10 (by omega) (by omega) (by omega) (by rw [Q10, (show ctM h7 = ctM h from ctM_fr f7 rfl), w7_0, show z11.toInt.toNat = v7_2.toInt.toNat + 1 by omega]; exact dys_s) (by omega)
      refine te_lv [(0, .ref 164), (1, .int x1), (2, .int 0)] rfl rfl ⟨rfl, rfl, rfl, trivial⟩ ?_
      exact lp7 61 0 h hI f0 (by decide) (by decide) (by have cc0 := (show Int32.toInt 0 = 0 from rfl); omega) (dys_0 rfl) (by have cc0 := (show Int32.toInt 0 = 0 from rfl); omega)
    · refine te_bipush (p2 := 30) (x := (-4)) rfl rfl (by decide) ?_
      exact te_iret rfl rfl ⟨hI, f0, _, rfl, (by show ((-4), absM h) = _; unfold run_f; rw [if_pos (by omega), (show (absM h).da + x1 = z5 from (by rw [show (absM h).da = y4 from rv_of (k := 105) e4]; exact e5)), if_pos (by omega)])⟩
  · subst w2
    have cc2_1 := (show Int32.toInt 1 = 1 from rfl)
    have cc2_2 := (show Int32.toInt 60 = 60 from rfl)
    refine tz_ne (p2 := 10) rfl rfl (show Int32.toInt 0 = 0 from rfl) (fun c12 => absurd c12 (by omega)) (fun c12 => ?_)
    refine te_bipush (p2 := 12) (x := (-2)) rfl rfl (by decide) ?_
    exact te_iret rfl rfl ⟨hI, f0, _, rfl, (by show ((-2), absM h) = _; unfold run_f; rw [if_neg (by omega)])⟩
theorem c_X12_run {x1 : Int32} {h : im_H} (hI : tI h) : CaP 9 155 [.ref 164, .int x1] h (fun v h2 => tI h2 ∧ fr F_X12_run h h2 ∧ ∃ y : Int32, v = some (.int y) ∧ Q2_run x1 y h h2) := by
  by_cases hp : (tabM h ∧ ctOK (ctM h) ∧ ∃ b, dyOK b (absM h) ∧ b + 500000 ≤ 2147483647)
  · exact cap_imp (d_X12_run hI hp) (fun v h2 ⟨a, f, y, e, q⟩ => ⟨a, f, y, e, fun _ => q⟩)
  · exact cap_imp (t_X12_run hI) (fun v h2 ⟨a, f, y, e, _⟩ => ⟨a, f, y, e, fun q => absurd q hp⟩)
abbrev Q1_pull (x1 : Int32) (y : Int32) (h h2 : im_H) : Prop := absX h2 23 = pull_f x1 (ctX h) (absX h 23)
set_option maxRecDepth 20000 in
set_option maxHeartbeats 4000000 in
theorem c_X11_pull {x1 : Int32} {h : im_H} (hI : tI h)  : CaP 7 84 [.ref 16, .int x1] h (fun v h2 => tI h2 ∧ fr F_X11_pull h h2 ∧ ∃ y : Int32, v = some (.int y) ∧ Q1_pull x1 y h h2) := by
  refine cap_of (d := 6) (M := mX11_pull) rfl (Nat.le_of_ble_eq_true rfl) ?_
  show EvP im_K0 6 mX11_pull (0, [(0, .ref 16), (1, .int x1)], [], h) _
  have f0 : fr F_X11_pull h h := fr_rf
  refine te_iload_n (p2 := 1) rfl rfl rfl ?_
  refine te_aload_n (p2 := 2) rfl rfl rfl ?_
  refine tg_r (p2 := 5) (i := 0) (r := 17) rfl rfl hI rfl rfl rfl ?_
  refine tg_i (p2 := 8) (i := 1) rfl rfl hI rfl rfl rfl (fun y1 a1 b1 e1 => ?_)
  refine cS_pI (p2 := 11) rfl rfl rfl rfl (t_X11_within (n := x1) (b := y1) hI ) (by decide) (fun y2 r2 => ?_)
  rcases r2 with ⟨w2, c2⟩ | ⟨w2, c2⟩
  · subst w2
    refine tz_ne (p2 := 14) rfl rfl (show Int32.toInt 1 = 1 from rfl) (fun c3 => ?_) (fun c3 => absurd c3 (by omega))
    refine te_aload_n (p2 := 17) rfl rfl rfl ?_
    refine tg_r (p2 := 20) (i := 0) (r := 39) rfl rfl hI rfl rfl rfl ?_
    refine tg_r (p2 := 23) (i := 23) (r := 48) rfl rfl hI rfl rfl rfl ?_
    refine te_iload_n (p2 := 24) rfl rfl rfl ?_
    refine tl_b (p2 := 25) (i := 32) (n := 16) rfl rfl hI rfl rfl rfl rfl (by omega) (by omega) (fun y4 a4 e4 => ?_)
    refine tz_ne (p2 := 28) rfl rfl rfl (fun c5 => ?_) (fun c5 => ?_)
    · refine te_aload_n (p2 := 32) rfl rfl rfl ?_
      refine tg_r (p2 := 35) (i := 0) (r := 17) rfl rfl hI rfl rfl rfl ?_
      refine te_aload_n (p2 := 36) rfl rfl rfl ?_
      refine tg_r (p2 := 39) (i := 0) (r := 39) rfl rfl hI rfl rfl rfl ?_
      refine te_iload_n (p2 := 40) rfl rfl rfl ?_
      refine tc_V (p2 := 43) (i := 1) rfl rfl rfl rfl hI rfl rfl rfl (d_X0_fall (s := 23) (k := x1) hI (by decide) (by omega) (by omega)) (by decide) (fun v6 h6 hq6 => ?_)
      obtain ⟨I6, g6, y6, w6, Q6⟩ := hq6
      subst w6
      have f6 := fr_tr (F1 := (F_X0_fall 23)) (F := F_X11_pull) f0 g6 (by decide)
      show EvP _ _ _ (43, [(0, .ref 16), (1, .int x1)], [.int y6], h6) _
      exact te_iret rfl rfl ⟨I6, f6, _, rfl, (by show absX h6 23 = _; unfold pull_f; rw [(show (ctX h).nw = y1 from rv_of e1), if_pos (by omega), (show (absX h 23).up x1.toInt.toNat = y4 from (aX_up (by omega)).trans (rv_of e4)), if_neg (by omega)]; exact Q6)⟩
    · refine te_bipush (p2 := 30) (x := (-3)) rfl rfl (by decide) ?_
      exact te_iret rfl rfl ⟨hI, f0, _, rfl, (by show absX h 23 = _; unfold pull_f; rw [(show (ctX h).nw = y1 from rv_of e1), if_pos (by omega), (show (absX h 23).up x1.toInt.toNat = y4 from (aX_up (by omega)).trans (rv_of e4)), if_pos (by omega)])⟩
  · subst w2
    refine tz_ne (p2 := 14) rfl rfl (show Int32.toInt 0 = 0 from rfl) (fun c7 => absurd c7 (by omega)) (fun c7 => ?_)
    refine te_iconst (p2 := 15) (x := (-1)) rfl rfl (by decide) ?_
    exact te_iret rfl rfl ⟨hI, f0, _, rfl, (by show absX h 23 = _; unfold pull_f; rw [(show (ctX h).nw = y1 from rv_of e1), if_neg (by omega)])⟩
abbrev D2_pull (x1 : Int32) (y : Int32) (h h2 : im_H) : Prop := absM h2 = pull_f x1 (ctM h) (absM h)
abbrev Q2_pull (x1 : Int32) (y : Int32) (h h2 : im_H) : Prop := (tabM h ∧ ctOK (ctM h) ∧ ∃ b, dyOK b (absM h) ∧ b + 500000 ≤ 2147483647) → D2_pull x1 y h h2
set_option maxRecDepth 20000 in
set_option maxHeartbeats 4000000 in
theorem d_X12_pull {x1 : Int32} {h : im_H} (hI : tI h) (pr0 : (tabM h ∧ ctOK (ctM h) ∧ ∃ b, dyOK b (absM h) ∧ b + 500000 ≤ 2147483647)) : CaP 8 165 [.ref 164, .int x1] h (fun v h2 => tI h2 ∧ fr F_X12_pull h h2 ∧ ∃ y : Int32, v = some (.int y) ∧ D2_pull x1 y h h2) := by
  refine cap_of (d := 7) (M := mX12_pull) rfl (Nat.le_of_ble_eq_true rfl) ?_
  show EvP im_K0 7 mX12_pull (0, [(0, .ref 164), (1, .int x1)], [], h) _
  have f0 : fr F_X12_pull h h := fr_rf
  refine te_aload_n (p2 := 1) rfl rfl rfl ?_
  obtain ⟨b, ok, hb⟩ := pr0.2.2
  refine te_iload_n (p2 := 2) rfl rfl rfl ?_
  refine cV_pI (p2 := 5) (i := 148) rfl rfl rfl rfl hI rfl rfl rfl (t_X12_isWall (k := x1) hI) (by decide) (fun y1 r1 => ?_)
  obtain ⟨p1, e1, a1, b1, r1⟩ := r1
  rcases r1 with ⟨w1, c1⟩ | ⟨w1, c1⟩
  · subst w1
    refine tz_ne (p2 := 8) rfl rfl (show Int32.toInt 1 = 1 from rfl) (fun c2 => ?_) (fun c2 => absurd c2 (by omega))
    refine te_aload_n (p2 := 11) rfl rfl rfl ?_
    refine tg_r (p2 := 14) (i := 148) (r := 165) rfl rfl hI rfl rfl rfl ?_
    refine te_bipush (p2 := 16) (x := 108) rfl rfl (by decide) ?_
    refine te_iload_n (p2 := 17) rfl rfl rfl ?_
    refine ar_add (p2 := 18) rfl rfl (show Int32.toInt 108 = 108 from rfl) rfl (by omega) (by omega) (fun z3 e3 f3 => ?_)
    refine tl_i (p2 := 19) (i := 149) (n := 283) rfl rfl hI rfl rfl rfl rfl (by omega) (by omega) (fun y4 a4 b4 g4 e4 => ?_)
    refine tz_ne (p2 := 22) rfl rfl rfl (fun c5 => ?_) (fun c5 => ?_)
    · refine te_aload_n (p2 := 26) rfl rfl rfl ?_
      refine te_iload_n (p2 := 27) rfl rfl rfl ?_
      refine tc_V (p2 := 30) (i := 148) rfl rfl rfl rfl hI rfl rfl rfl (d_X12_falls (w := x1) hI (by omega) (by omega) ⟨b, ok, by omega⟩) (by decide) (fun v6 h6 hq6 => ?_)
      obtain ⟨I6, g6, w6, Q6⟩ := hq6
      subst w6
      have f6 := fr_tr (F1 := F_X12_falls) (F := F_X12_pull) f0 g6 (by decide)
      show EvP _ _ _ (30, [(0, .ref 164), (1, .int x1)], [], h6) _
      refine te_bipush (p2 := 32) (x := 100) rfl rfl (by decide) ?_
      refine te_aload_n (p2 := 33) rfl rfl rfl ?_
      refine tg_i (p2 := 36) (i := 148) rfl rfl I6 rfl rfl rfl (fun y7 a7 b7 e7 => ?_)
      refine au_mul (p2 := 37) rfl rfl (fun z8 e8 => ?_)
      refine te_aload_n (p2 := 38) rfl rfl rfl ?_
      refine tg_i (p2 := 41) (i := 148) rfl rfl I6 rfl rfl rfl (fun y9 a9 b9 e9 => ?_)
      refine au_add (p2 := 42) rfl rfl (fun z10 e10 => ?_)
      exact te_iret rfl rfl ⟨I6, f6, _, rfl, (by show absM h6 = _; unfold pull_f; rw [(show (ctM h).nw = p1 from rv_of ((f6 148 21 rfl).symm.trans ((g6 _ _ (by decide)).trans e1))), if_pos (by omega), (show (absM h).up x1.toInt.toNat = y4 from (aM_up (by omega)).trans (by rw [show 108 + x1.toInt.toNat = z3.toInt.toNat by omega]; exact rv_of e4)), if_neg (by omega)]; exact Q6)⟩
    · refine te_bipush (p2 := 24) (x := (-3)) rfl rfl (by decide) ?_
      exact te_iret rfl rfl ⟨hI, f0, _, rfl, (by show absM h = _; unfold pull_f; rw [(show (ctM h).nw = p1 from rv_of e1), if_pos (by omega), (show (absM h).up x1.toInt.toNat = y4 from (aM_up (by omega)).trans (by rw [show 108 + x1.toInt.toNat = z3.toInt.toNat by omega]; exact rv_of e4)), if_pos (by omega)])⟩
  · subst w1
    refine tz_ne (p2 := 8) rfl rfl (show Int32.toInt 0 = 0 from rfl) (fun c11 => absurd c11 (by omega)) (fun c11 => ?_)
    refine te_iconst (p2 := 9) (x := (-1)) rfl rfl (by decide) ?_
    exact te_iret rfl rfl ⟨hI, f0, _, rfl, (by show absM h = _; unfold pull_f; rw [(show (ctM h).nw = p1 from rv_of e1), if_neg (by omega)])⟩
theorem c_X12_pull {x1 : Int32} {h : im_H} (hI : tI h) : CaP 8 165 [.ref 164, .int x1] h (fun v h2 => tI h2 ∧ fr F_X12_pull h h2 ∧ ∃ y : Int32, v = some (.int y) ∧ Q2_pull x1 y h h2) := by
  by_cases hp : (tabM h ∧ ctOK (ctM h) ∧ ∃ b, dyOK b (absM h) ∧ b + 500000 ≤ 2147483647)
  · exact cap_imp (d_X12_pull hI hp) (fun v h2 ⟨a, f, y, e, q⟩ => ⟨a, f, y, e, fun _ => q⟩)
  · exact cap_imp (t_X12_pull hI) (fun v h2 ⟨a, f, y, e, _⟩ => ⟨a, f, y, e, fun q => absurd q hp⟩)
abbrev Rm : Type := Int32 × (Nat → Int32) × (Nat → Int32) × (Nat → Int32) × (Nat → Int32)
abbrev Rm.mk (n : Int32) (ce : Nat → Int32) (br : Nat → Int32) (be : Nat → Int32) (wo : Nat → Int32) : Rm := (n, ce, br, be, wo)
abbrev Rm.n (a : Rm) : Int32 := a.1
abbrev Rm.ce (a : Rm) : Nat → Int32 := a.2.1
abbrev Rm.br (a : Rm) : Nat → Int32 := a.2.2.1
abbrev Rm.be (a : Rm) : Nat → Int32 := a.2.2.2.1
abbrev Rm.wo (a : Rm) : Nat → Int32 := a.2.2.2.2
abbrev Rm.s_n (a : Rm) (x : Int32) : Rm := Rm.mk x (Rm.ce a) (Rm.br a) (Rm.be a) (Rm.wo a)
abbrev Rm.s_ce (a : Rm) (x : Nat → Int32) : Rm := Rm.mk (Rm.n a) x (Rm.br a) (Rm.be a) (Rm.wo a)
abbrev Rm.s_br (a : Rm) (x : Nat → Int32) : Rm := Rm.mk (Rm.n a) (Rm.ce a) x (Rm.be a) (Rm.wo a)
abbrev Rm.s_be (a : Rm) (x : Nat → Int32) : Rm := Rm.mk (Rm.n a) (Rm.ce a) (Rm.br a) x (Rm.wo a)
abbrev Rm.s_wo (a : Rm) (x : Nat → Int32) : Rm := Rm.mk (Rm.n a) (Rm.ce a) (Rm.br a) (Rm.be a) x
theorem Rm.eta' (a : Rm) : Rm.mk (Rm.n a) (Rm.ce a) (Rm.br a) (Rm.be a) (Rm.wo a) = a := rfl
def rmX (h : im_H) : Rm := (Rm.mk (rv h 72 0) (gd 12 (rv h 73)) (gd 12 (rv h 74)) (gd 12 (rv h 75)) (gd 12 (rv h 76)))
def rmM (h : im_H) : Rm := (Rm.mk (rv h 148 24) (gd 12 (rv h 169)) (gd 12 (rv h 170)) (gd 12 (rv h 171)) (gd 12 (rv h 172)))
def wX (h : im_H) (s : Nat) : Nat → Int32 := gd 12 (rv h (s + 10))
def wM (h : im_H) (c : Nat) : Nat → Int32 := gd 12 (fun k => rv h c (260 + k))
theorem xr_ce {h h2 : im_H} {k : Nat} {z : Int32} (u : up h h2 73 k (.int z)) (hk : k < 12) : rmX h2 = (Rm.s_ce (rmX h) (udt (rmX h).ce k z)) := by
  have e : gd 12 (rv h2 73) = udt (gd 12 (rv h 73)) k z := gd_up hk (rv_of u.1) (fun m hm => rv_ni u (Or.inr hm))
  unfold rmX
  rw [e, rv_f u (show 74 ≠ 73 by decide), rv_f u (show 75 ≠ 73 by decide), rv_f u (show 76 ≠ 73 by decide), rv_ni u (show 72 ≠ 73 ∨ _ from Or.inl (by decide))]
theorem xr_br {h h2 : im_H} {k : Nat} {z : Int32} (u : up h h2 74 k (.int z)) (hk : k < 12) : rmX h2 = (Rm.s_br (rmX h) (udt (rmX h).br k z)) := by
  have e : gd 12 (rv h2 74) = udt (gd 12 (rv h 74)) k z := gd_up hk (rv_of u.1) (fun m hm => rv_ni u (Or.inr hm))
  unfold rmX
  rw [e, rv_f u (show 73 ≠ 74 by decide), rv_f u (show 75 ≠ 74 by decide), rv_f u (show 76 ≠ 74 by decide), rv_ni u (show 72 ≠ 74 ∨ _ from Or.inl (by decide))]
theorem xr_be {h h2 : im_H} {k : Nat} {z : Int32} (u : up h h2 75 k (.int z)) (hk : k < 12) : rmX h2 = (Rm.s_be (rmX h) (udt (rmX h).be k z)) := by
  have e : gd 12 (rv h2 75) = udt (gd 12 (rv h 75)) k z := gd_up hk (rv_of u.1) (fun m hm => rv_ni u (Or.inr hm))
  unfold rmX
  rw [e, rv_f u (show 73 ≠ 75 by decide), rv_f u (show 74 ≠ 75 by decide), rv_f u (show 76 ≠ 75 by decide), rv_ni u (show 72 ≠ 75 ∨ _ from Or.inl (by decide))]
theorem xr_wo {h h2 : im_H} {k : Nat} {z : Int32} (u : up h h2 76 k (.int z)) (hk : k < 12) : rmX h2 = (Rm.s_wo (rmX h) (udt (rmX h).wo k z)) := by
  have e : gd 12 (rv h2 76) = udt (gd 12 (rv h 76)) k z := gd_up hk (rv_of u.1) (fun m hm => rv_ni u (Or.inr hm))
  unfold rmX
  rw [e, rv_f u (show 73 ≠ 76 by decide), rv_f u (show 74 ≠ 76 by decide), rv_f u (show 75 ≠ 76 by decide), rv_ni u (show 72 ≠ 76 ∨ _ from Or.inl (by decide))]
theorem xr_n {h h2 : im_H} {z : Int32} (u : up h h2 72 0 (.int z)) : rmX h2 = (Rm.s_n (rmX h) (z)) := by
  unfold rmX
  rw [rv_f u (show 73 ≠ 72 by decide), rv_f u (show 74 ≠ 72 by decide), rv_f u (show 75 ≠ 72 by decide), rv_f u (show 76 ≠ 72 by decide), rv_of u.1]
theorem mr_ce {h h2 : im_H} {k : Nat} {z : Int32} (u : up h h2 169 k (.int z)) (hk : k < 12) : rmM h2 = (Rm.s_ce (rmM h) (udt (rmM h).ce k z)) := by
  have e : gd 12 (rv h2 169) = udt (gd 12 (rv h 169)) k z := gd_up hk (rv_of u.1) (fun m hm => rv_ni u (Or.inr hm))
  unfold rmM
  rw [e, rv_f u (show 170 ≠ 169 by decide), rv_f u (show 171 ≠ 169 by decide), rv_f u (show 172 ≠ 169 by decide), rv_ni u (show 148 ≠ 169 ∨ _ from Or.inl (by decide))]
theorem mr_br {h h2 : im_H} {k : Nat} {z : Int32} (u : up h h2 170 k (.int z)) (hk : k < 12) : rmM h2 = (Rm.s_br (rmM h) (udt (rmM h).br k z)) := by
  have e : gd 12 (rv h2 170) = udt (gd 12 (rv h 170)) k z := gd_up hk (rv_of u.1) (fun m hm => rv_ni u (Or.inr hm))
  unfold rmM
  rw [e, rv_f u (show 169 ≠ 170 by decide), rv_f u (show 171 ≠ 170 by decide), rv_f u (show 172 ≠ 170 by decide), rv_ni u (show 148 ≠ 170 ∨ _ from Or.inl (by decide))]
theorem mr_be {h h2 : im_H} {k : Nat} {z : Int32} (u : up h h2 171 k (.int z)) (hk : k < 12) : rmM h2 = (Rm.s_be (rmM h) (udt (rmM h).be k z)) := by
  have e : gd 12 (rv h2 171) = udt (gd 12 (rv h 171)) k z := gd_up hk (rv_of u.1) (fun m hm => rv_ni u (Or.inr hm))
  unfold rmM
  rw [e, rv_f u (show 169 ≠ 171 by decide), rv_f u (show 170 ≠ 171 by decide), rv_f u (show 172 ≠ 171 by decide), rv_ni u (show 148 ≠ 171 ∨ _ from Or.inl (by decide))]
theorem mr_wo {h h2 : im_H} {k : Nat} {z : Int32} (u : up h h2 172 k (.int z)) (hk : k < 12) : rmM h2 = (Rm.s_wo (rmM h) (udt (rmM h).wo k z)) := by
  have e : gd 12 (rv h2 172) = udt (gd 12 (rv h 172)) k z := gd_up hk (rv_of u.1) (fun m hm => rv_ni u (Or.inr hm))
  unfold rmM
  rw [e, rv_f u (show 169 ≠ 172 by decide), rv_f u (show 170 ≠ 172 by decide), rv_f u (show 171 ≠ 172 by decide), rv_ni u (show 148 ≠ 172 ∨ _ from Or.inl (by decide))]
theorem mr_n {h h2 : im_H} {z : Int32} (u : up h h2 148 24 (.int z)) : rmM h2 = (Rm.s_n (rmM h) (z)) := by
  unfold rmM
  rw [rv_f u (show 169 ≠ 148 by decide), rv_f u (show 170 ≠ 148 by decide), rv_f u (show 171 ≠ 148 by decide), rv_f u (show 172 ≠ 148 by decide), rv_of u.1]
theorem rmX_fr {F : List (Nat × Nat × Nat)} {h H : im_H} (f : fr F h H) (a : ∀ q ∈ F, q.1 < 72 ∨ 76 < q.1 ∨ (q.1 = 72 ∧ 0 < q.2.1)) : rmX H = rmX h := by
  have ef : ∀ i, (73 ≤ i ∧ i ≤ 76) → rv H i = rv h i := fun i hi => funext fun k => by unfold rv; rw [f _ _ (inF_no (fun q hq e => by have := a q hq; omega))]
  have e0 : rv H 72 0 = rv h 72 0 := by unfold rv; rw [f _ _ (inF_no3 (fun q hq e => by have := a q hq; omega))]
  unfold rmX
  rw [ef 73 (by decide), ef 74 (by decide), ef 75 (by decide), ef 76 (by decide), e0]
theorem rmM_fr {F : List (Nat × Nat × Nat)} {h H : im_H} (f : fr F h H) (a : ∀ q ∈ F, q.1 < 148 ∨ (148 < q.1 ∧ q.1 < 169) ∨ 172 < q.1 ∨ (q.1 = 148 ∧ (24 < q.2.1 ∨ q.2.2 < 24))) : rmM H = rmM h := by
  have ef : ∀ i, (169 ≤ i ∧ i ≤ 172) → rv H i = rv h i := fun i hi => funext fun k => by unfold rv; rw [f _ _ (inF_no (fun q hq e => by have := a q hq; omega))]
  have e0 : rv H 148 24 = rv h 148 24 := by unfold rv; rw [f _ _ (inF_no3 (fun q hq e => by have := a q hq; omega))]
  unfold rmM
  rw [ef 169 (by decide), ef 170 (by decide), ef 171 (by decide), ef 172 (by decide), e0]
theorem wX_fr {F : List (Nat × Nat × Nat)} {h H : im_H} {s : Nat} (f : fr F h H) (a : ∀ q ∈ F, q.1 ≠ s + 10) : wX H s = wX h s := by
  unfold wX
  rw [show rv H (s + 10) = rv h (s + 10) from funext fun k => by unfold rv; rw [f _ _ (inF_no (fun q hq e => a q hq e))]]
theorem wM_fr {F : List (Nat × Nat × Nat)} {h H : im_H} {c : Nat} (f : fr F h H) (a : ∀ q ∈ F, q.1 ≠ c ∨ q.2.2 < 260 ∨ 271 < q.2.1) : wM H c = wM h c := gd_c (fun k hk => by
  show rv H c (260 + k) = rv h c (260 + k)
  unfold rv
  rw [f _ _ (inF_no3 (fun q hq e => by have := a q hq; omega))])
theorem wX_u {h h2 : im_H} {s k : Nat} {z : Int32} (u : up h h2 (s + 10) k (.int z)) (hk : k < 12) : wX h2 s = udt (wX h s) k z := gd_up hk (rv_of u.1) (fun m hm => rv_ni u (Or.inr hm))
theorem wX_o {h h2 : im_H} {s i k : Nat} {v : Value} (u : up h h2 i k v) (hi : i ≠ s + 10) : wX h2 s = wX h s := congrArg (gd 12) (rv_f u (fun q => hi q.symm))
theorem wM_u {h h2 : im_H} {i k : Nat} {z : Int32} (u : up h h2 149 k (.int z)) (hk : k = 260 + i) (hi : i < 12) : wM h2 149 = udt (wM h 149) i z := gd_up hi (by rw [← hk]; exact rv_of u.1) (fun m hm => rv_ni u (Or.inr (by omega)))
theorem wM_o {h h2 : im_H} {i k : Nat} {v : Value} (u : up h h2 i k v) (hi : i ≠ 149 ∨ k < 260) : wM h2 149 = wM h 149 := gd_c (fun m hm => rv_ni u (by omega))
theorem xu_wm {h h2 : im_H} {s k : Nat} {v : Value} (u : up h h2 (s + 10) k v) : absX h2 s = absX h s := by
  have es := rv_f u (show s ≠ s + 10 by omega)
  unfold absX
  rw [rv_f u (show s + 2 ≠ s + 10 by omega), rv_f u (show s + 3 ≠ s + 10 by omega), rv_f u (show s + 4 ≠ s + 10 by omega), rv_f u (show s + 5 ≠ s + 10 by omega), rv_f u (show s + 7 ≠ s + 10 by omega), rv_f u (show s + 8 ≠ s + 10 by omega), rv_f u (show s + 9 ≠ s + 10 by omega), rv_f u (show s + 11 ≠ s + 10 by omega), rv_f u (show s + 12 ≠ s + 10 by omega), rv_f u (show s + 13 ≠ s + 10 by omega), rv_f u (show s + 1 ≠ s + 10 by omega), es]
theorem mu_wm {h h2 : im_H} {k : Nat} {v : Value} (u : up h h2 149 k v) (hk : 260 ≤ k ∧ k < 272) : absM h2 = absM h := by
  unfold absM
  rw [gM_n (o := 0) (n := 100) u (by omega), gM_n (o := 140) (n := 24) u (by omega), gM_n (o := 188) (n := 24) u (by omega), gM_n (o := 124) (n := 16) u (by omega), gM_n (o := 108) (n := 16) u (by omega), gM_n (o := 272) (n := 4) u (by omega), gM_n (o := 276) (n := 4) u (by omega), gM_n (o := 280) (n := 3) u (by omega), gM_n (o := 100) (n := 3) u (by omega), gM_n (o := 236) (n := 24) u (by omega), hM_n u (by omega), rv_ni u (show 149 ≠ 149 ∨ 103 ≠ k from Or.inr (by omega)), rv_ni u (show 149 ≠ 149 ∨ 104 ≠ k from Or.inr (by omega)), rv_ni u (show 149 ≠ 149 ∨ 105 ≠ k from Or.inr (by omega)), rv_ni u (show 149 ≠ 149 ∨ 106 ≠ k from Or.inr (by omega)), rv_ni u (show 149 ≠ 149 ∨ 107 ≠ k from Or.inr (by omega))]
def room_f (x1 x2 x3 x4 : Int32) (R : Rm) : Int32 × Rm := if (0 ≤ x1.toInt ∧ x1.toInt ≤ 99) then (if 0 ≤ x2.toInt ∧ x2.toInt ≤ 9999 ∧ 0 ≤ x3.toInt ∧ x3.toInt ≤ 999 ∧ 1 ≤ x4.toInt ∧ x4.toInt ≤ 99 then (if 12 ≤ R.n.toInt then (-4, R) else (R.n, (Rm.mk (R.n + 1) (udt R.ce R.n.toInt.toNat x1) (udt R.br R.n.toInt.toNat x2) (udt R.be R.n.toInt.toNat x3) (udt R.wo R.n.toInt.toNat x4)))) else (-2, R)) else (-1, R)
def mend_f (x1 : Int32) (R : Rm) (w : Nat → Int32) (A : Dy) : Int32 × (Nat → Int32) × Dy := if 0 ≤ x1.toInt ∧ x1.toInt < R.n.toInt then (if (w x1.toInt.toNat).toInt = 1 then (-3, w, A) else if (A.kp 0).toInt < (R.br x1.toInt.toNat).toInt ∨ (A.kp 1).toInt < (R.be x1.toInt.toNat).toInt then (-6, w, A) else (A.kp 0 - R.br x1.toInt.toNat, udt w x1.toInt.toNat 1, (Dy.s_kp A (udt (udt A.kp 0 (A.kp 0 - R.br x1.toInt.toNat)) 1 (A.kp 1 - R.be x1.toInt.toNat))))) else (-1, w, A)
abbrev Q1_room (x1 x2 x3 x4 : Int32) (y : Int32) (h h2 : im_H) : Prop := (y, rmX h2) = room_f x1 x2 x3 x4 (rmX h)
set_option maxRecDepth 20000 in
set_option maxHeartbeats 4000000 in
theorem c_X11_room {x1 : Int32} {x2 : Int32} {x3 : Int32} {x4 : Int32} {h : im_H} (hI : tI h)  : CaP 8 71 [.ref 16, .int x1, .int x2, .int x3, .int x4] h (fun v h2 => tI h2 ∧ fr F_X11_room h h2 ∧ ∃ y : Int32, v = some (.int y) ∧ Q1_room x1 x2 x3 x4 y h h2) := by
  refine cap_of (d := 7) (M := mX11_room) rfl (Nat.le_of_ble_eq_true rfl) ?_
  show EvP im_K0 7 mX11_room (0, [(0, .ref 16), (1, .int x1), (2, .int x2), (3, .int x3), (4, .int x4)], [], h) _
  have f0 : fr F_X11_room h h := fr_rf
  refine te_iload_n (p2 := 1) rfl rfl rfl ?_
  refine te_bipush (p2 := 3) (x := 100) rfl rfl (by decide) ?_
  refine cS_pI (p2 := 6) rfl rfl rfl rfl (t_X11_within (n := x1) (b := 100) hI ) (by decide) (fun y1 r1 => ?_)
  rcases r1 with ⟨w1, c1⟩ | ⟨w1, c1⟩
  · subst w1
    have cc1_1 := (show Int32.toInt 100 = 100 from rfl)
    refine tz_ne (p2 := 9) rfl rfl (show Int32.toInt 1 = 1 from rfl) (fun c2 => ?_) (fun c2 => absurd c2 (by omega))
    refine te_iload_n (p2 := 12) rfl rfl rfl ?_
    refine te_iconst (p2 := 13) (x := 0) rfl rfl (by decide) ?_
    refine te_sipush (p2 := 16) (x := 9999) rfl rfl (by decide) ?_
    refine cS_pI (p2 := 19) rfl rfl rfl rfl (t_X11_between (n := x2) (a := 0) (b := 9999) hI ) (by decide) (fun y3 r3 => ?_)
    rcases r3 with ⟨w3, c3⟩ | ⟨w3, c3⟩
    · subst w3
      have cc3_1 := (show Int32.toInt 0 = 0 from rfl)
      have cc3_2 := (show Int32.toInt 9999 = 9999 from rfl)
      refine tz_eq (p2 := 22) rfl rfl (show Int32.toInt 1 = 1 from rfl) (fun c4 => absurd c4 (by omega)) (fun c4 => ?_)
      refine te_iload_n (p2 := 23) rfl rfl rfl ?_
      refine te_iconst (p2 := 24) (x := 0) rfl rfl (by decide) ?_
      refine te_sipush (p2 := 27) (x := 999) rfl rfl (by decide) ?_
      refine cS_pI (p2 := 30) rfl rfl rfl rfl (t_X11_between (n := x3) (a := 0) (b := 999) hI ) (by decide) (fun y5 r5 => ?_)
      rcases r5 with ⟨w5, c5⟩ | ⟨w5, c5⟩
      · subst w5
        have cc5_1 := (show Int32.toInt 0 = 0 from rfl)
        have cc5_2 := (show Int32.toInt 999 = 999 from rfl)
        refine tz_eq (p2 := 33) rfl rfl (show Int32.toInt 1 = 1 from rfl) (fun c6 => absurd c6 (by omega)) (fun c6 => ?_)
        refine te_iload (p2 := 35) rfl rfl rfl ?_
        refine te_iconst (p2 := 36) (x := 1) rfl rfl (by decide) ?_
        refine te_bipush (p2 := 38) (x := 99) rfl rfl (by decide) ?_
        refine cS_pI (p2 := 41) rfl rfl rfl rfl (t_X11_between (n := x4) (a := 1) (b := 99) hI ) (by decide) (fun y7 r7 => ?_)
        rcases r7 with ⟨w7, c7⟩ | ⟨w7, c7⟩
        · subst w7
          have cc7_1 := (show Int32.toInt 1 = 1 from rfl)
          have cc7_2 := (show Int32.toInt 99 = 99 from rfl)
          refine tz_ne (p2 := 44) rfl rfl (show Int32.toInt 1 = 1 from rfl) (fun c8 => ?_) (fun c8 => absurd c8 (by omega))
          refine te_aload_n (p2 := 48) rfl rfl rfl ?_
          refine tg_r (p2 := 51) (i := 0) (r := 88) rfl rfl hI rfl rfl rfl ?_
          refine tg_i (p2 := 54) (i := 72) rfl rfl hI rfl rfl rfl (fun y9 a9 b9 e9 => ?_)
          refine te_bipush (p2 := 56) (x := 12) rfl rfl (by decide) ?_
          refine tb_lt (p2 := 59) rfl rfl rfl (show Int32.toInt 12 = 12 from rfl) (fun c10 => ?_) (fun c10 => ?_)
          · refine te_aload_n (p2 := 63) rfl rfl rfl ?_
            refine tg_r (p2 := 66) (i := 0) (r := 88) rfl rfl hI rfl rfl rfl ?_
            refine tg_e (p2 := 69) (i := 72) (v := .int y9) rfl rfl hI rfl rfl e9 ?_
            refine te_istore (p2 := 71) (lv2 := [(5, .int y9), (0, .ref 16), (1, .int x1), (2, .int x2), (3, .int x3), (4, .int x4)]) rfl rfl (by decide) rfl ?_
            refine te_aload_n (p2 := 72) rfl rfl rfl ?_
            refine tg_r (p2 := 75) (i := 0) (r := 88) rfl rfl hI rfl rfl rfl ?_
            refine tg_r (p2 := 78) (i := 72) (r := 89) rfl rfl hI rfl rfl rfl ?_
            refine te_iload (p2 := 80) rfl rfl rfl ?_
            refine te_iload_n (p2 := 81) rfl rfl rfl ?_
            refine ts_i (p2 := 82) (i := 73) (n := 12) rfl rfl hI rfl rfl rfl rfl (by omega) (by omega) (i32_lo _) (i32_hi _) (i32_ho _) rfl (fun h11 I11 u11 => ?_)
            have f11 := fr_st (F := F_X11_room) 1 f0 u11 rfl (by omega) (by omega)
            refine te_aload_n (p2 := 83) rfl rfl rfl ?_
            refine tg_r (p2 := 86) (i := 0) (r := 88) rfl rfl I11 rfl rfl rfl ?_
            refine tg_r (p2 := 89) (i := 72) (r := 90) rfl rfl I11 rfl rfl rfl ?_
            refine te_iload (p2 := 91) rfl rfl rfl ?_
            refine te_iload_n (p2 := 92) rfl rfl rfl ?_
            refine ts_i (p2 := 93) (i := 74) (n := 12) rfl rfl I11 rfl rfl rfl rfl (by omega) (by omega) (i32_lo _) (i32_hi _) (i32_ho _) rfl (fun h12 I12 u12 => ?_)
            have f12 := fr_st (F := F_X11_room) 2 f11 u12 rfl (by omega) (by omega)
            refine te_aload_n (p2 := 94) rfl rfl rfl ?_
            refine tg_r (p2 := 97) (i := 0) (r := 88) rfl rfl I12 rfl rfl rfl ?_
            refine tg_r (p2 := 100) (i := 72) (r := 91) rfl rfl I12 rfl rfl rfl ?_
            refine te_iload (p2 := 102) rfl rfl rfl ?_
            refine te_iload_n (p2 := 103) rfl rfl rfl ?_
            refine ts_i (p2 := 104) (i := 75) (n := 12) rfl rfl I12 rfl rfl rfl rfl (by omega) (by omega) (i32_lo _) (i32_hi _) (i32_ho _) rfl (fun h13 I13 u13 => ?_)
            have f13 := fr_st (F := F_X11_room) 3 f12 u13 rfl (by omega) (by omega)
            refine te_aload_n (p2 := 105) rfl rfl rfl ?_
            refine tg_r (p2 := 108) (i := 0) (r := 88) rfl rfl I13 rfl rfl rfl ?_
            refine tg_r (p2 := 111) (i := 72) (r := 92) rfl rfl I13 rfl rfl rfl ?_
            refine te_iload (p2 := 113) rfl rfl rfl ?_
            refine te_iload (p2 := 115) rfl rfl rfl ?_
            refine ts_i (p2 := 116) (i := 76) (n := 12) rfl rfl I13 rfl rfl rfl rfl (by omega) (by omega) (i32_lo _) (i32_hi _) (i32_ho _) rfl (fun h14 I14 u14 => ?_)
            have f14 := fr_st (F := F_X11_room) 4 f13 u14 rfl (by omega) (by omega)
            refine te_aload_n (p2 := 117) rfl rfl rfl ?_
            refine tg_r (p2 := 120) (i := 0) (r := 88) rfl rfl I14 rfl rfl rfl ?_
            refine te_dup (p2 := 121) rfl rfl rfl ?_
            refine tg_e (p2 := 124) (i := 72) (v := .int y9) rfl rfl I14 rfl rfl ((u14.2 _ _ (Or.inl (by decide))).trans ((u13.2 _ _ (Or.inl (by decide))).trans ((u12.2 _ _ (Or.inl (by decide))).trans ((u11.2 _ _ (Or.inl (by decide))).trans e9)))) ?_
            refine te_iconst (p2 := 125) (x := 1) rfl rfl (by decide) ?_
            refine ar_add (p2 := 126) rfl rfl rfl (show Int32.toInt 1 = 1 from rfl) (by omega) (by omega) (fun z15 e15 f15 => ?_)
            refine tp_i (p2 := 129) (i := 72) rfl rfl I14 rfl rfl (by decide) rfl rfl rfl (by omega) (by omega) (by omega) rfl (fun h16 I16 u16 => ?_)
            have f16 := fr_st (F := F_X11_room) 0 f14 u16 rfl (by decide) (by decide)
            refine te_iload (p2 := 131) rfl rfl rfl ?_
            exact te_iret rfl rfl ⟨I16, f16, _, rfl, (by show (y9, rmX h16) = _; rw [xr_n u16, xr_wo u14 (by omega), xr_be u13 (by omega), xr_br u12 (by omega), xr_ce u11 (by omega)]; unfold room_f; rw [(show (rmX h).n = y9 from rv_of e9), (show y9 + 1 = z15 from i32_ext (by rw [i32_addE (show Int32.toInt 1 = 1 from rfl) (by omega) (by omega)]; omega))]; (repeat' split) <;> first | (exfalso; omega) | (simp only [Dy.mk, Dy.ld, Dy.hm, Dy.hu, Dy.wk, Dy.de, Dy.st, Dy.up, Dy.rl, Dy.rs, Dy.ra, Dy.kp, Dy.du, Dy.ti, Dy.da, Dy.we, Dy.wi, Dy.s_ld, Dy.s_hm, Dy.s_hu, Dy.s_wk, Dy.s_de, Dy.s_st, Dy.s_up, Dy.s_rl, Dy.s_rs, Dy.s_ra, Dy.s_kp, Dy.s_du, Dy.s_ti, Dy.s_da, Dy.s_we, Dy.s_wi, Ct.mk, Ct.kd, Ct.tip, Ct.np, Ct.sg, Ct.ag, Ct.kn, Ct.ro, Ct.hd, Ct.hn, Ct.hf, Ct.ht, Ct.wn, Ct.cr, Ct.wf, Ct.wl, Ct.nw, Ct.wc, Ct.wt, Ct.sd, Ct.s_kd, Ct.s_tip, Ct.s_np, Ct.s_sg, Ct.s_ag, Ct.s_kn, Ct.s_ro, Ct.s_hd, Ct.s_hn, Ct.s_hf, Ct.s_ht, Ct.s_wn, Ct.s_cr, Ct.s_wf, Ct.s_wl, Ct.s_nw, Ct.s_wc, Ct.s_wt, Ct.s_sd, Rm.mk, Rm.n, Rm.ce, Rm.br, Rm.be, Rm.wo, Rm.s_n, Rm.s_ce, Rm.s_br, Rm.s_be, Rm.s_wo]; done) | rfl)⟩
          · refine te_bipush (p2 := 61) (x := (-4)) rfl rfl (by decide) ?_
            exact te_iret rfl rfl ⟨hI, f0, _, rfl, (by show ((-4), rmX h) = _; (have c_ := (show Int32.toInt (-4) = (-4) from rfl)); unfold room_f; rw [(show (rmX h).n = y9 from rv_of e9)]; (repeat' split) <;> first | (exfalso; omega) | (simp only [Dy.mk, Dy.ld, Dy.hm, Dy.hu, Dy.wk, Dy.de, Dy.st, Dy.up, Dy.rl, Dy.rs, Dy.ra, Dy.kp, Dy.du, Dy.ti, Dy.da, Dy.we, Dy.wi, Dy.s_ld, Dy.s_hm, Dy.s_hu, Dy.s_wk, Dy.s_de, Dy.s_st, Dy.s_up, Dy.s_rl, Dy.s_rs, Dy.s_ra, Dy.s_kp, Dy.s_du, Dy.s_ti, Dy.s_da, Dy.s_we, Dy.s_wi, Ct.mk, Ct.kd, Ct.tip, Ct.np, Ct.sg, Ct.ag, Ct.kn, Ct.ro, Ct.hd, Ct.hn, Ct.hf, Ct.ht, Ct.wn, Ct.cr, Ct.wf, Ct.wl, Ct.nw, Ct.wc, Ct.wt, Ct.sd, Ct.s_kd, Ct.s_tip, Ct.s_np, Ct.s_sg, Ct.s_ag, Ct.s_kn, Ct.s_ro, Ct.s_hd, Ct.s_hn, Ct.s_hf, Ct.s_ht, Ct.s_wn, Ct.s_cr, Ct.s_wf, Ct.s_wl, Ct.s_nw, Ct.s_wc, Ct.s_wt, Ct.s_sd, Rm.mk, Rm.n, Rm.ce, Rm.br, Rm.be, Rm.wo, Rm.s_n, Rm.s_ce, Rm.s_br, Rm.s_be, Rm.s_wo]; done) | rfl)⟩
        · subst w7
          have cc7_1 := (show Int32.toInt 1 = 1 from rfl)
          have cc7_2 := (show Int32.toInt 99 = 99 from rfl)
          refine tz_ne (p2 := 44) rfl rfl (show Int32.toInt 0 = 0 from rfl) (fun c17 => absurd c17 (by omega)) (fun c17 => ?_)
          refine te_bipush (p2 := 46) (x := (-2)) rfl rfl (by decide) ?_
          obtain ⟨v18, e18, y18, w18, a18, b18, _⟩ := hI.2.1 72 0 (.inl (0, 12, 9999999999)) rfl
          subst w18
          exact te_iret rfl rfl ⟨hI, f0, _, rfl, (by show ((-2), rmX h) = _; (have c_ := (show Int32.toInt (-2) = (-2) from rfl)); unfold room_f; rw [(show (rmX h).n = y18 from rv_of e18)]; (repeat' split) <;> first | (exfalso; omega) | (simp only [Dy.mk, Dy.ld, Dy.hm, Dy.hu, Dy.wk, Dy.de, Dy.st, Dy.up, Dy.rl, Dy.rs, Dy.ra, Dy.kp, Dy.du, Dy.ti, Dy.da, Dy.we, Dy.wi, Dy.s_ld, Dy.s_hm, Dy.s_hu, Dy.s_wk, Dy.s_de, Dy.s_st, Dy.s_up, Dy.s_rl, Dy.s_rs, Dy.s_ra, Dy.s_kp, Dy.s_du, Dy.s_ti, Dy.s_da, Dy.s_we, Dy.s_wi, Ct.mk, Ct.kd, Ct.tip, Ct.np, Ct.sg, Ct.ag, Ct.kn, Ct.ro, Ct.hd, Ct.hn, Ct.hf, Ct.ht, Ct.wn, Ct.cr, Ct.wf, Ct.wl, Ct.nw, Ct.wc, Ct.wt, Ct.sd, Ct.s_kd, Ct.s_tip, Ct.s_np, Ct.s_sg, Ct.s_ag, Ct.s_kn, Ct.s_ro, Ct.s_hd, Ct.s_hn, Ct.s_hf, Ct.s_ht, Ct.s_wn, Ct.s_cr, Ct.s_wf, Ct.s_wl, Ct.s_nw, Ct.s_wc, Ct.s_wt, Ct.s_sd, Rm.mk, Rm.n, Rm.ce, Rm.br, Rm.be, Rm.wo, Rm.s_n, Rm.s_ce, Rm.s_br, Rm.s_be, Rm.s_wo]; done) | rfl)⟩
      · subst w5
        have cc5_1 := (show Int32.toInt 0 = 0 from rfl)
        have cc5_2 := (show Int32.toInt 999 = 999 from rfl)
        refine tz_eq (p2 := 33) rfl rfl (show Int32.toInt 0 = 0 from rfl) (fun c19 => ?_) (fun c19 => absurd c19 (by omega))
        refine te_bipush (p2 := 46) (x := (-2)) rfl rfl (by decide) ?_
        obtain ⟨v20, e20, y20, w20, a20, b20, _⟩ := hI.2.1 72 0 (.inl (0, 12, 9999999999)) rfl
        subst w20
        exact te_iret rfl rfl ⟨hI, f0, _, rfl, (by show ((-2), rmX h) = _; (have c_ := (show Int32.toInt (-2) = (-2) from rfl)); unfold room_f; rw [(show (rmX h).n = y20 from rv_of e20)]; (repeat' split) <;> first | (exfalso; omega) | (simp only [Dy.mk, Dy.ld, Dy.hm, Dy.hu, Dy.wk, Dy.de, Dy.st, Dy.up, Dy.rl, Dy.rs, Dy.ra, Dy.kp, Dy.du, Dy.ti, Dy.da, Dy.we, Dy.wi, Dy.s_ld, Dy.s_hm, Dy.s_hu, Dy.s_wk, Dy.s_de, Dy.s_st, Dy.s_up, Dy.s_rl, Dy.s_rs, Dy.s_ra, Dy.s_kp, Dy.s_du, Dy.s_ti, Dy.s_da, Dy.s_we, Dy.s_wi, Ct.mk, Ct.kd, Ct.tip, Ct.np, Ct.sg, Ct.ag, Ct.kn, Ct.ro, Ct.hd, Ct.hn, Ct.hf, Ct.ht, Ct.wn, Ct.cr, Ct.wf, Ct.wl, Ct.nw, Ct.wc, Ct.wt, Ct.sd, Ct.s_kd, Ct.s_tip, Ct.s_np, Ct.s_sg, Ct.s_ag, Ct.s_kn, Ct.s_ro, Ct.s_hd, Ct.s_hn, Ct.s_hf, Ct.s_ht, Ct.s_wn, Ct.s_cr, Ct.s_wf, Ct.s_wl, Ct.s_nw, Ct.s_wc, Ct.s_wt, Ct.s_sd, Rm.mk, Rm.n, Rm.ce, Rm.br, Rm.be, Rm.wo, Rm.s_n, Rm.s_ce, Rm.s_br, Rm.s_be, Rm.s_wo]; done) | rfl)⟩
    · subst w3
      have cc3_1 := (show Int32.toInt 0 = 0 from rfl)
      have cc3_2 := (show Int32.toInt 9999 = 9999 from rfl)
      refine tz_eq (p2 := 22) rfl rfl (show Int32.toInt 0 = 0 from rfl) (fun c21 => ?_) (fun c21 => absurd c21 (by omega))
      refine te_bipush (p2 := 46) (x := (-2)) rfl rfl (by decide) ?_
      obtain ⟨v22, e22, y22, w22, a22, b22, _⟩ := hI.2.1 72 0 (.inl (0, 12, 9999999999)) rfl
      subst w22
      exact te_iret rfl rfl ⟨hI, f0, _, rfl, (by show ((-2), rmX h) = _; (have c_ := (show Int32.toInt (-2) = (-2) from rfl)); unfold room_f; rw [(show (rmX h).n = y22 from rv_of e22)]; (repeat' split) <;> first | (exfalso; omega) | (simp only [Dy.mk, Dy.ld, Dy.hm, Dy.hu, Dy.wk, Dy.de, Dy.st, Dy.up, Dy.rl, Dy.rs, Dy.ra, Dy.kp, Dy.du, Dy.ti, Dy.da, Dy.we, Dy.wi, Dy.s_ld, Dy.s_hm, Dy.s_hu, Dy.s_wk, Dy.s_de, Dy.s_st, Dy.s_up, Dy.s_rl, Dy.s_rs, Dy.s_ra, Dy.s_kp, Dy.s_du, Dy.s_ti, Dy.s_da, Dy.s_we, Dy.s_wi, Ct.mk, Ct.kd, Ct.tip, Ct.np, Ct.sg, Ct.ag, Ct.kn, Ct.ro, Ct.hd, Ct.hn, Ct.hf, Ct.ht, Ct.wn, Ct.cr, Ct.wf, Ct.wl, Ct.nw, Ct.wc, Ct.wt, Ct.sd, Ct.s_kd, Ct.s_tip, Ct.s_np, Ct.s_sg, Ct.s_ag, Ct.s_kn, Ct.s_ro, Ct.s_hd, Ct.s_hn, Ct.s_hf, Ct.s_ht, Ct.s_wn, Ct.s_cr, Ct.s_wf, Ct.s_wl, Ct.s_nw, Ct.s_wc, Ct.s_wt, Ct.s_sd, Rm.mk, Rm.n, Rm.ce, Rm.br, Rm.be, Rm.wo, Rm.s_n, Rm.s_ce, Rm.s_br, Rm.s_be, Rm.s_wo]; done) | rfl)⟩
  · subst w1
    have cc1_1 := (show Int32.toInt 100 = 100 from rfl)
    refine tz_ne (p2 := 9) rfl rfl (show Int32.toInt 0 = 0 from rfl) (fun c23 => absurd c23 (by omega)) (fun c23 => ?_)
    refine te_iconst (p2 := 10) (x := (-1)) rfl rfl (by decide) ?_
    obtain ⟨v24, e24, y24, w24, a24, b24, _⟩ := hI.2.1 72 0 (.inl (0, 12, 9999999999)) rfl
    subst w24
    exact te_iret rfl rfl ⟨hI, f0, _, rfl, (by show ((-1), rmX h) = _; (have c_ := (show Int32.toInt (-1) = (-1) from rfl)); unfold room_f; rw [(show (rmX h).n = y24 from rv_of e24)]; (repeat' split) <;> first | (exfalso; omega) | (simp only [Dy.mk, Dy.ld, Dy.hm, Dy.hu, Dy.wk, Dy.de, Dy.st, Dy.up, Dy.rl, Dy.rs, Dy.ra, Dy.kp, Dy.du, Dy.ti, Dy.da, Dy.we, Dy.wi, Dy.s_ld, Dy.s_hm, Dy.s_hu, Dy.s_wk, Dy.s_de, Dy.s_st, Dy.s_up, Dy.s_rl, Dy.s_rs, Dy.s_ra, Dy.s_kp, Dy.s_du, Dy.s_ti, Dy.s_da, Dy.s_we, Dy.s_wi, Ct.mk, Ct.kd, Ct.tip, Ct.np, Ct.sg, Ct.ag, Ct.kn, Ct.ro, Ct.hd, Ct.hn, Ct.hf, Ct.ht, Ct.wn, Ct.cr, Ct.wf, Ct.wl, Ct.nw, Ct.wc, Ct.wt, Ct.sd, Ct.s_kd, Ct.s_tip, Ct.s_np, Ct.s_sg, Ct.s_ag, Ct.s_kn, Ct.s_ro, Ct.s_hd, Ct.s_hn, Ct.s_hf, Ct.s_ht, Ct.s_wn, Ct.s_cr, Ct.s_wf, Ct.s_wl, Ct.s_nw, Ct.s_wc, Ct.s_wt, Ct.s_sd, Rm.mk, Rm.n, Rm.ce, Rm.br, Rm.be, Rm.wo, Rm.s_n, Rm.s_ce, Rm.s_br, Rm.s_be, Rm.s_wo]; done) | rfl)⟩
abbrev Q1_mend (x1 : Int32) (y : Int32) (h h2 : im_H) : Prop := (y, wX h2 23, absX h2 23) = mend_f x1 (rmX h) (wX h 23) (absX h 23)
set_option maxRecDepth 20000 in
set_option maxHeartbeats 4000000 in
theorem c_X11_mend {x1 : Int32} {h : im_H} (hI : tI h)  : CaP 8 90 [.ref 16, .int x1] h (fun v h2 => tI h2 ∧ fr F_X11_mend h h2 ∧ ∃ y : Int32, v = some (.int y) ∧ Q1_mend x1 y h h2) := by
  refine cap_of (d := 7) (M := mX11_mend) rfl (Nat.le_of_ble_eq_true rfl) ?_
  show EvP im_K0 7 mX11_mend (0, [(0, .ref 16), (1, .int x1)], [], h) _
  have f0 : fr F_X11_mend h h := fr_rf
  refine te_iload_n (p2 := 1) rfl rfl rfl ?_
  refine te_aload_n (p2 := 2) rfl rfl rfl ?_
  refine tg_r (p2 := 5) (i := 0) (r := 88) rfl rfl hI rfl rfl rfl ?_
  refine tg_i (p2 := 8) (i := 72) rfl rfl hI rfl rfl rfl (fun y1 a1 b1 e1 => ?_)
  refine cS_pI (p2 := 11) rfl rfl rfl rfl (t_X11_within (n := x1) (b := y1) hI ) (by decide) (fun y2 r2 => ?_)
  rcases r2 with ⟨w2, c2⟩ | ⟨w2, c2⟩
  · subst w2
    refine tz_ne (p2 := 14) rfl rfl (show Int32.toInt 1 = 1 from rfl) (fun c3 => ?_) (fun c3 => absurd c3 (by omega))
    refine te_aload_n (p2 := 17) rfl rfl rfl ?_
    refine tg_r (p2 := 20) (i := 0) (r := 39) rfl rfl hI rfl rfl rfl ?_
    refine tg_r (p2 := 23) (i := 23) (r := 49) rfl rfl hI rfl rfl rfl ?_
    refine te_iload_n (p2 := 24) rfl rfl rfl ?_
    refine tl_b (p2 := 25) (i := 33) (n := 12) rfl rfl hI rfl rfl rfl rfl (by omega) (by omega) (fun y4 a4 e4 => ?_)
    refine tz_eq (p2 := 28) rfl rfl rfl (fun c5 => ?_) (fun c5 => ?_)
    · refine te_aload_n (p2 := 32) rfl rfl rfl ?_
      refine tg_r (p2 := 35) (i := 0) (r := 88) rfl rfl hI rfl rfl rfl ?_
      refine tg_r (p2 := 38) (i := 72) (r := 90) rfl rfl hI rfl rfl rfl ?_
      refine te_iload_n (p2 := 39) rfl rfl rfl ?_
      refine tl_i (p2 := 40) (i := 74) (n := 12) rfl rfl hI rfl rfl rfl rfl (by omega) (by omega) (fun y6 a6 b6 g6 e6 => ?_)
      refine te_aload_n (p2 := 41) rfl rfl rfl ?_
      refine tg_r (p2 := 44) (i := 0) (r := 39) rfl rfl hI rfl rfl rfl ?_
      refine tg_r (p2 := 47) (i := 23) (r := 40) rfl rfl hI rfl rfl rfl ?_
      refine te_iconst (p2 := 48) (x := 0) rfl rfl (by decide) ?_
      refine tl_i (p2 := 49) (i := 24) (n := 3) rfl rfl hI rfl rfl rfl rfl (by decide) (by decide) (fun y7 a7 b7 g7 e7 => ?_)
      refine tb_gt (p2 := 52) rfl rfl rfl rfl (fun c8 => ?_) (fun c8 => ?_)
      · refine te_bipush (p2 := 75) (x := (-6)) rfl rfl (by decide) ?_
        exact te_iret rfl rfl ⟨hI, f0, _, rfl, (by show ((-6), wX h 23, absX h 23) = _; (have c_ := (show Int32.toInt (-6) = (-6) from rfl)); unfold mend_f; rw [(show (rmX h).n = y1 from rv_of e1), if_pos (by omega), (show (wX h 23) x1.toInt.toNat = y4 from (gd_at (by omega)).trans (rv_of e4)), if_neg (by omega), (show (rmX h).br x1.toInt.toNat = y6 from (gd_at (by omega)).trans (rv_of e6)), (show (absX h 23).kp 0 = y7 from (aX_kp (by decide)).trans (rv_of (k := 0) e7)), if_pos (by omega)])⟩
      · refine te_aload_n (p2 := 53) rfl rfl rfl ?_
        refine tg_r (p2 := 56) (i := 0) (r := 88) rfl rfl hI rfl rfl rfl ?_
        refine tg_r (p2 := 59) (i := 72) (r := 91) rfl rfl hI rfl rfl rfl ?_
        refine te_iload_n (p2 := 60) rfl rfl rfl ?_
        refine tl_i (p2 := 61) (i := 75) (n := 12) rfl rfl hI rfl rfl rfl rfl (by omega) (by omega) (fun y9 a9 b9 g9 e9 => ?_)
        refine te_aload_n (p2 := 62) rfl rfl rfl ?_
        refine tg_r (p2 := 65) (i := 0) (r := 39) rfl rfl hI rfl rfl rfl ?_
        refine tg_r (p2 := 68) (i := 23) (r := 40) rfl rfl hI rfl rfl rfl ?_
        refine te_iconst (p2 := 69) (x := 1) rfl rfl (by decide) ?_
        refine tl_i (p2 := 70) (i := 24) (n := 3) rfl rfl hI rfl rfl rfl rfl (by decide) (by decide) (fun y10 a10 b10 g10 e10 => ?_)
        refine tb_le (p2 := 73) rfl rfl rfl rfl (fun c11 => ?_) (fun c11 => ?_)
        · refine te_aload_n (p2 := 77) rfl rfl rfl ?_
          refine tg_r (p2 := 80) (i := 0) (r := 39) rfl rfl hI rfl rfl rfl ?_
          refine tg_r (p2 := 83) (i := 23) (r := 40) rfl rfl hI rfl rfl rfl ?_
          refine te_iconst (p2 := 84) (x := 0) rfl rfl (by decide) ?_
          refine te_dup2 (p2 := 85) rfl rfl ⟨rfl, rfl⟩ ?_
          refine tl_e (p2 := 86) (i := 24) (n := 3) (t := 0) (Or.inl rfl) rfl rfl hI rfl rfl (by decide) (by decide) e7 ?_
          refine te_aload_n (p2 := 87) rfl rfl rfl ?_
          refine tg_r (p2 := 90) (i := 0) (r := 88) rfl rfl hI rfl rfl rfl ?_
          refine tg_r (p2 := 93) (i := 72) (r := 90) rfl rfl hI rfl rfl rfl ?_
          refine te_iload_n (p2 := 94) rfl rfl rfl ?_
          refine tl_e (p2 := 95) (i := 74) (n := 12) (t := 0) (Or.inl rfl) rfl rfl hI rfl rfl (by omega) (by omega) e6 ?_
          refine au_sub (p2 := 96) rfl rfl (fun z14 e14 => ?_)
          refine ts_i (p2 := 97) (i := 24) (n := 3) rfl rfl hI rfl rfl rfl rfl (by decide) (by decide) (i32_lo _) (i32_hi _) (i32_ho _) rfl (fun h15 I15 u15 => ?_)
          have f15 := fr_st (F := F_X11_mend) 0 f0 u15 rfl (by decide) (by decide)
          refine te_aload_n (p2 := 98) rfl rfl rfl ?_
          refine tg_r (p2 := 101) (i := 0) (r := 39) rfl rfl I15 rfl rfl rfl ?_
          refine tg_r (p2 := 104) (i := 23) (r := 40) rfl rfl I15 rfl rfl rfl ?_
          refine te_iconst (p2 := 105) (x := 1) rfl rfl (by decide) ?_
          refine te_dup2 (p2 := 106) rfl rfl ⟨rfl, rfl⟩ ?_
          refine tl_e (p2 := 107) (i := 24) (n := 3) (t := 0) (Or.inl rfl) rfl rfl I15 rfl rfl (by decide) (by decide) ((u15.2 _ _ (Or.inr (by decide))).trans e10) ?_
          refine te_aload_n (p2 := 108) rfl rfl rfl ?_
          refine tg_r (p2 := 111) (i := 0) (r := 88) rfl rfl I15 rfl rfl rfl ?_
          refine tg_r (p2 := 114) (i := 72) (r := 91) rfl rfl I15 rfl rfl rfl ?_
          refine te_iload_n (p2 := 115) rfl rfl rfl ?_
          refine tl_e (p2 := 116) (i := 75) (n := 12) (t := 0) (Or.inl rfl) rfl rfl I15 rfl rfl (by omega) (by omega) ((u15.2 _ _ (Or.inl (by decide))).trans e9) ?_
          refine au_sub (p2 := 117) rfl rfl (fun z18 e18 => ?_)
          refine ts_i (p2 := 118) (i := 24) (n := 3) rfl rfl I15 rfl rfl rfl rfl (by decide) (by decide) (i32_lo _) (i32_hi _) (i32_ho _) rfl (fun h19 I19 u19 => ?_)
          have f19 := fr_st (F := F_X11_mend) 0 f15 u19 rfl (by decide) (by decide)
          refine te_aload_n (p2 := 119) rfl rfl rfl ?_
          refine tg_r (p2 := 122) (i := 0) (r := 39) rfl rfl I19 rfl rfl rfl ?_
          refine tg_r (p2 := 125) (i := 23) (r := 49) rfl rfl I19 rfl rfl rfl ?_
          refine te_iload_n (p2 := 126) rfl rfl rfl ?_
          refine te_iconst (p2 := 127) (x := 1) rfl rfl (by decide) ?_
          refine ts_b (p2 := 128) (i := 33) (n := 12) rfl rfl I19 rfl rfl rfl rfl (by omega) (by omega) (by decide) (by decide) rfl (fun h20 I20 u20 => ?_)
          have f20 := fr_st (F := F_X11_mend) 1 f19 u20 rfl (by omega) (by omega)
          refine te_aload_n (p2 := 129) rfl rfl rfl ?_
          refine tg_r (p2 := 132) (i := 0) (r := 39) rfl rfl I20 rfl rfl rfl ?_
          refine tg_r (p2 := 135) (i := 23) (r := 40) rfl rfl I20 rfl rfl rfl ?_
          refine te_iconst (p2 := 136) (x := 0) rfl rfl (by decide) ?_
          refine tl_e (p2 := 137) (i := 24) (n := 3) (t := 0) (Or.inl rfl) rfl rfl I20 rfl rfl (by decide) (by decide) ((u20.2 _ _ (Or.inl (by decide))).trans ((u19.2 _ _ (Or.inr (by decide))).trans u15.1)) ?_
          exact te_iret rfl rfl ⟨I20, f20, _, rfl, (by show (z14, wX h20 23, absX h20 23) = _; rw [wX_u (s := 23) u20 (by omega), wX_o (s := 23) u19 (by decide), wX_o (s := 23) u15 (by decide), xu_wm (s := 23) u20, xu_kp (s := 23) u19 (by decide), xu_kp (s := 23) u15 (by decide)]; unfold mend_f; rw [(show (rmX h).n = y1 from rv_of e1), if_pos (by omega), (show (wX h 23) x1.toInt.toNat = y4 from (gd_at (by omega)).trans (rv_of e4)), if_neg (by omega), (show (rmX h).br x1.toInt.toNat = y6 from (gd_at (by omega)).trans (rv_of e6)), (show (absX h 23).kp 0 = y7 from (aX_kp (by decide)).trans (rv_of (k := 0) e7)), (show (rmX h).be x1.toInt.toNat = y9 from (gd_at (by omega)).trans (rv_of e9)), (show (absX h 23).kp 1 = y10 from (aX_kp (by decide)).trans (rv_of (k := 1) e10)), if_neg (by omega), e14, e18]; rfl)⟩
        · refine te_bipush (p2 := 75) (x := (-6)) rfl rfl (by decide) ?_
          exact te_iret rfl rfl ⟨hI, f0, _, rfl, (by show ((-6), wX h 23, absX h 23) = _; (have c_ := (show Int32.toInt (-6) = (-6) from rfl)); unfold mend_f; rw [(show (rmX h).n = y1 from rv_of e1), if_pos (by omega), (show (wX h 23) x1.toInt.toNat = y4 from (gd_at (by omega)).trans (rv_of e4)), if_neg (by omega), (show (rmX h).br x1.toInt.toNat = y6 from (gd_at (by omega)).trans (rv_of e6)), (show (absX h 23).kp 0 = y7 from (aX_kp (by decide)).trans (rv_of (k := 0) e7)), (show (rmX h).be x1.toInt.toNat = y9 from (gd_at (by omega)).trans (rv_of e9)), (show (absX h 23).kp 1 = y10 from (aX_kp (by decide)).trans (rv_of (k := 1) e10)), if_pos (by omega)])⟩
    · refine te_bipush (p2 := 30) (x := (-3)) rfl rfl (by decide) ?_
      exact te_iret rfl rfl ⟨hI, f0, _, rfl, (by show ((-3), wX h 23, absX h 23) = _; (have c_ := (show Int32.toInt (-3) = (-3) from rfl)); unfold mend_f; rw [(show (rmX h).n = y1 from rv_of e1), if_pos (by omega), (show (wX h 23) x1.toInt.toNat = y4 from (gd_at (by omega)).trans (rv_of e4)), if_pos (by omega)])⟩
  · subst w2
    refine tz_ne (p2 := 14) rfl rfl (show Int32.toInt 0 = 0 from rfl) (fun c22 => absurd c22 (by omega)) (fun c22 => ?_)
    refine te_iconst (p2 := 15) (x := (-1)) rfl rfl (by decide) ?_
    exact te_iret rfl rfl ⟨hI, f0, _, rfl, (by show ((-1), wX h 23, absX h 23) = _; (have c_ := (show Int32.toInt (-1) = (-1) from rfl)); unfold mend_f; rw [(show (rmX h).n = y1 from rv_of e1), if_neg (by omega)])⟩
abbrev Q2_room (x1 x2 x3 x4 : Int32) (y : Int32) (h h2 : im_H) : Prop := (y, rmM h2) = room_f x1 x2 x3 x4 (rmM h)
set_option maxRecDepth 20000 in
set_option maxHeartbeats 4000000 in
theorem c_X12_room {x1 : Int32} {x2 : Int32} {x3 : Int32} {x4 : Int32} {h : im_H} (hI : tI h)  : CaP 8 133 [.ref 164, .int x1, .int x2, .int x3, .int x4] h (fun v h2 => tI h2 ∧ fr F_X12_room h h2 ∧ ∃ y : Int32, v = some (.int y) ∧ Q2_room x1 x2 x3 x4 y h h2) := by
  refine cap_of (d := 7) (M := mX12_room) rfl (Nat.le_of_ble_eq_true rfl) ?_
  show EvP im_K0 7 mX12_room (0, [(0, .ref 164), (1, .int x1), (2, .int x2), (3, .int x3), (4, .int x4)], [], h) _
  have f0 : fr F_X12_room h h := fr_rf
  refine te_iload_n (p2 := 1) rfl rfl rfl ?_
  refine cS_pI (p2 := 4) rfl rfl rfl rfl (t_X12_isCell (n := x1) hI ) (by decide) (fun y1 r1 => ?_)
  rcases r1 with ⟨w1, c1⟩ | ⟨w1, c1⟩
  · subst w1
    refine tz_ne (p2 := 7) rfl rfl (show Int32.toInt 1 = 1 from rfl) (fun c2 => ?_) (fun c2 => absurd c2 (by omega))
    refine te_iload_n (p2 := 10) rfl rfl rfl ?_
    refine te_iconst (p2 := 11) (x := 0) rfl rfl (by decide) ?_
    refine te_sipush (p2 := 14) (x := 9999) rfl rfl (by decide) ?_
    refine cS_pI (p2 := 17) rfl rfl rfl rfl (t_X12_in (n := x2) (a := 0) (b := 9999) hI ) (by decide) (fun y3 r3 => ?_)
    rcases r3 with ⟨w3, c3⟩ | ⟨w3, c3⟩
    · subst w3
      have cc3_1 := (show Int32.toInt 0 = 0 from rfl)
      have cc3_2 := (show Int32.toInt 9999 = 9999 from rfl)
      refine tz_eq (p2 := 20) rfl rfl (show Int32.toInt 1 = 1 from rfl) (fun c4 => absurd c4 (by omega)) (fun c4 => ?_)
      refine te_iload_n (p2 := 21) rfl rfl rfl ?_
      refine te_iconst (p2 := 22) (x := 0) rfl rfl (by decide) ?_
      refine te_sipush (p2 := 25) (x := 999) rfl rfl (by decide) ?_
      refine cS_pI (p2 := 28) rfl rfl rfl rfl (t_X12_in (n := x3) (a := 0) (b := 999) hI ) (by decide) (fun y5 r5 => ?_)
      rcases r5 with ⟨w5, c5⟩ | ⟨w5, c5⟩
      · subst w5
        have cc5_1 := (show Int32.toInt 0 = 0 from rfl)
        have cc5_2 := (show Int32.toInt 999 = 999 from rfl)
        refine tz_eq (p2 := 31) rfl rfl (show Int32.toInt 1 = 1 from rfl) (fun c6 => absurd c6 (by omega)) (fun c6 => ?_)
        refine te_iload (p2 := 33) rfl rfl rfl ?_
        refine te_iconst (p2 := 34) (x := 1) rfl rfl (by decide) ?_
        refine te_bipush (p2 := 36) (x := 99) rfl rfl (by decide) ?_
        refine cS_pI (p2 := 39) rfl rfl rfl rfl (t_X12_in (n := x4) (a := 1) (b := 99) hI ) (by decide) (fun y7 r7 => ?_)
        rcases r7 with ⟨w7, c7⟩ | ⟨w7, c7⟩
        · subst w7
          have cc7_1 := (show Int32.toInt 1 = 1 from rfl)
          have cc7_2 := (show Int32.toInt 99 = 99 from rfl)
          refine tz_ne (p2 := 42) rfl rfl (show Int32.toInt 1 = 1 from rfl) (fun c8 => ?_) (fun c8 => absurd c8 (by omega))
          refine te_aload_n (p2 := 46) rfl rfl rfl ?_
          refine tg_i (p2 := 49) (i := 148) rfl rfl hI rfl rfl rfl (fun y9 a9 b9 e9 => ?_)
          refine te_bipush (p2 := 51) (x := 12) rfl rfl (by decide) ?_
          refine tb_ne (p2 := 54) rfl rfl rfl (show Int32.toInt 12 = 12 from rfl) (fun c10 => ?_) (fun c10 => ?_)
          · refine te_aload_n (p2 := 58) rfl rfl rfl ?_
            refine tg_r (p2 := 61) (i := 148) (r := 185) rfl rfl hI rfl rfl rfl ?_
            refine te_aload_n (p2 := 62) rfl rfl rfl ?_
            refine tg_e (p2 := 65) (i := 148) (v := .int y9) rfl rfl hI rfl rfl e9 ?_
            refine te_iload_n (p2 := 66) rfl rfl rfl ?_
            refine ts_i (p2 := 67) (i := 169) (n := 12) rfl rfl hI rfl rfl rfl rfl (by omega) (by omega) (i32_lo _) (i32_hi _) (i32_ho _) rfl (fun h11 I11 u11 => ?_)
            have f11 := fr_st (F := F_X12_room) 1 f0 u11 rfl (by omega) (by omega)
            refine te_aload_n (p2 := 68) rfl rfl rfl ?_
            refine tg_r (p2 := 71) (i := 148) (r := 186) rfl rfl I11 rfl rfl rfl ?_
            refine te_aload_n (p2 := 72) rfl rfl rfl ?_
            refine tg_e (p2 := 75) (i := 148) (v := .int y9) rfl rfl I11 rfl rfl ((u11.2 _ _ (Or.inl (by decide))).trans e9) ?_
            refine te_iload_n (p2 := 76) rfl rfl rfl ?_
            refine ts_i (p2 := 77) (i := 170) (n := 12) rfl rfl I11 rfl rfl rfl rfl (by omega) (by omega) (i32_lo _) (i32_hi _) (i32_ho _) rfl (fun h12 I12 u12 => ?_)
            have f12 := fr_st (F := F_X12_room) 2 f11 u12 rfl (by omega) (by omega)
            refine te_aload_n (p2 := 78) rfl rfl rfl ?_
            refine tg_r (p2 := 81) (i := 148) (r := 187) rfl rfl I12 rfl rfl rfl ?_
            refine te_aload_n (p2 := 82) rfl rfl rfl ?_
            refine tg_e (p2 := 85) (i := 148) (v := .int y9) rfl rfl I12 rfl rfl ((u12.2 _ _ (Or.inl (by decide))).trans ((u11.2 _ _ (Or.inl (by decide))).trans e9)) ?_
            refine te_iload_n (p2 := 86) rfl rfl rfl ?_
            refine ts_i (p2 := 87) (i := 171) (n := 12) rfl rfl I12 rfl rfl rfl rfl (by omega) (by omega) (i32_lo _) (i32_hi _) (i32_ho _) rfl (fun h13 I13 u13 => ?_)
            have f13 := fr_st (F := F_X12_room) 3 f12 u13 rfl (by omega) (by omega)
            refine te_aload_n (p2 := 88) rfl rfl rfl ?_
            refine tg_r (p2 := 91) (i := 148) (r := 188) rfl rfl I13 rfl rfl rfl ?_
            refine te_aload_n (p2 := 92) rfl rfl rfl ?_
            refine tg_e (p2 := 95) (i := 148) (v := .int y9) rfl rfl I13 rfl rfl ((u13.2 _ _ (Or.inl (by decide))).trans ((u12.2 _ _ (Or.inl (by decide))).trans ((u11.2 _ _ (Or.inl (by decide))).trans e9))) ?_
            refine te_iload (p2 := 97) rfl rfl rfl ?_
            refine ts_i (p2 := 98) (i := 172) (n := 12) rfl rfl I13 rfl rfl rfl rfl (by omega) (by omega) (i32_lo _) (i32_hi _) (i32_ho _) rfl (fun h14 I14 u14 => ?_)
            have f14 := fr_st (F := F_X12_room) 4 f13 u14 rfl (by omega) (by omega)
            refine te_aload_n (p2 := 99) rfl rfl rfl ?_
            refine te_dup (p2 := 100) rfl rfl rfl ?_
            refine tg_e (p2 := 103) (i := 148) (v := .int y9) rfl rfl I14 rfl rfl ((u14.2 _ _ (Or.inl (by decide))).trans ((u13.2 _ _ (Or.inl (by decide))).trans ((u12.2 _ _ (Or.inl (by decide))).trans ((u11.2 _ _ (Or.inl (by decide))).trans e9)))) ?_
            refine te_iconst (p2 := 104) (x := 1) rfl rfl (by decide) ?_
            refine ar_add (p2 := 105) rfl rfl rfl (show Int32.toInt 1 = 1 from rfl) (by omega) (by omega) (fun z15 e15 f15 => ?_)
            refine tp_i (p2 := 108) (i := 148) rfl rfl I14 rfl rfl (by decide) rfl rfl rfl (by omega) (by omega) (by omega) rfl (fun h16 I16 u16 => ?_)
            have f16 := fr_st (F := F_X12_room) 0 f14 u16 rfl (by decide) (by decide)
            refine te_aload_n (p2 := 109) rfl rfl rfl ?_
            refine tg_e (p2 := 112) (i := 148) (v := .int z15) rfl rfl I16 rfl rfl u16.1 ?_
            refine te_iconst (p2 := 113) (x := 1) rfl rfl (by decide) ?_
            refine ar_sub (p2 := 114) rfl rfl rfl (show Int32.toInt 1 = 1 from rfl) (by omega) (by omega) (fun z17 e17 f17 => ?_)
            exact te_iret rfl rfl ⟨I16, f16, _, rfl, (by show (z17, rmM h16) = _; rw [mr_n u16, mr_wo u14 (by omega), mr_be u13 (by omega), mr_br u12 (by omega), mr_ce u11 (by omega)]; unfold room_f; rw [(show (rmM h).n = y9 from rv_of e9), (show y9 + 1 = z15 from i32_ext (by rw [i32_addE (show Int32.toInt 1 = 1 from rfl) (by omega) (by omega)]; omega)), (show z17 = y9 from i32_ext (by omega))]; (repeat' split) <;> first | (exfalso; omega) | (simp only [Dy.mk, Dy.ld, Dy.hm, Dy.hu, Dy.wk, Dy.de, Dy.st, Dy.up, Dy.rl, Dy.rs, Dy.ra, Dy.kp, Dy.du, Dy.ti, Dy.da, Dy.we, Dy.wi, Dy.s_ld, Dy.s_hm, Dy.s_hu, Dy.s_wk, Dy.s_de, Dy.s_st, Dy.s_up, Dy.s_rl, Dy.s_rs, Dy.s_ra, Dy.s_kp, Dy.s_du, Dy.s_ti, Dy.s_da, Dy.s_we, Dy.s_wi, Ct.mk, Ct.kd, Ct.tip, Ct.np, Ct.sg, Ct.ag, Ct.kn, Ct.ro, Ct.hd, Ct.hn, Ct.hf, Ct.ht, Ct.wn, Ct.cr, Ct.wf, Ct.wl, Ct.nw, Ct.wc, Ct.wt, Ct.sd, Ct.s_kd, Ct.s_tip, Ct.s_np, Ct.s_sg, Ct.s_ag, Ct.s_kn, Ct.s_ro, Ct.s_hd, Ct.s_hn, Ct.s_hf, Ct.s_ht, Ct.s_wn, Ct.s_cr, Ct.s_wf, Ct.s_wl, Ct.s_nw, Ct.s_wc, Ct.s_wt, Ct.s_sd, Rm.mk, Rm.n, Rm.ce, Rm.br, Rm.be, Rm.wo, Rm.s_n, Rm.s_ce, Rm.s_br, Rm.s_be, Rm.s_wo]; done) | rfl)⟩
          · refine te_bipush (p2 := 56) (x := (-4)) rfl rfl (by decide) ?_
            exact te_iret rfl rfl ⟨hI, f0, _, rfl, (by show ((-4), rmM h) = _; (have c_ := (show Int32.toInt (-4) = (-4) from rfl)); unfold room_f; rw [(show (rmM h).n = y9 from rv_of e9)]; (repeat' split) <;> first | (exfalso; omega) | (simp only [Dy.mk, Dy.ld, Dy.hm, Dy.hu, Dy.wk, Dy.de, Dy.st, Dy.up, Dy.rl, Dy.rs, Dy.ra, Dy.kp, Dy.du, Dy.ti, Dy.da, Dy.we, Dy.wi, Dy.s_ld, Dy.s_hm, Dy.s_hu, Dy.s_wk, Dy.s_de, Dy.s_st, Dy.s_up, Dy.s_rl, Dy.s_rs, Dy.s_ra, Dy.s_kp, Dy.s_du, Dy.s_ti, Dy.s_da, Dy.s_we, Dy.s_wi, Ct.mk, Ct.kd, Ct.tip, Ct.np, Ct.sg, Ct.ag, Ct.kn, Ct.ro, Ct.hd, Ct.hn, Ct.hf, Ct.ht, Ct.wn, Ct.cr, Ct.wf, Ct.wl, Ct.nw, Ct.wc, Ct.wt, Ct.sd, Ct.s_kd, Ct.s_tip, Ct.s_np, Ct.s_sg, Ct.s_ag, Ct.s_kn, Ct.s_ro, Ct.s_hd, Ct.s_hn, Ct.s_hf, Ct.s_ht, Ct.s_wn, Ct.s_cr, Ct.s_wf, Ct.s_wl, Ct.s_nw, Ct.s_wc, Ct.s_wt, Ct.s_sd, Rm.mk, Rm.n, Rm.ce, Rm.br, Rm.be, Rm.wo, Rm.s_n, Rm.s_ce, Rm.s_br, Rm.s_be, Rm.s_wo]; done) | rfl)⟩
        · subst w7
          have cc7_1 := (show Int32.toInt 1 = 1 from rfl)
          have cc7_2 := (show Int32.toInt 99 = 99 from rfl)
          refine tz_ne (p2 := 42) rfl rfl (show Int32.toInt 0 = 0 from rfl) (fun c18 => absurd c18 (by omega)) (fun c18 => ?_)
          refine te_bipush (p2 := 44) (x := (-2)) rfl rfl (by decide) ?_
          obtain ⟨v19, e19, y19, w19, a19, b19, _⟩ := hI.2.1 148 24 (.inl (0, 12, 9999999999)) rfl
          subst w19
          exact te_iret rfl rfl ⟨hI, f0, _, rfl, (by show ((-2), rmM h) = _; (have c_ := (show Int32.toInt (-2) = (-2) from rfl)); unfold room_f; rw [(show (rmM h).n = y19 from rv_of e19)]; (repeat' split) <;> first | (exfalso; omega) | (simp only [Dy.mk, Dy.ld, Dy.hm, Dy.hu, Dy.wk, Dy.de, Dy.st, Dy.up, Dy.rl, Dy.rs, Dy.ra, Dy.kp, Dy.du, Dy.ti, Dy.da, Dy.we, Dy.wi, Dy.s_ld, Dy.s_hm, Dy.s_hu, Dy.s_wk, Dy.s_de, Dy.s_st, Dy.s_up, Dy.s_rl, Dy.s_rs, Dy.s_ra, Dy.s_kp, Dy.s_du, Dy.s_ti, Dy.s_da, Dy.s_we, Dy.s_wi, Ct.mk, Ct.kd, Ct.tip, Ct.np, Ct.sg, Ct.ag, Ct.kn, Ct.ro, Ct.hd, Ct.hn, Ct.hf, Ct.ht, Ct.wn, Ct.cr, Ct.wf, Ct.wl, Ct.nw, Ct.wc, Ct.wt, Ct.sd, Ct.s_kd, Ct.s_tip, Ct.s_np, Ct.s_sg, Ct.s_ag, Ct.s_kn, Ct.s_ro, Ct.s_hd, Ct.s_hn, Ct.s_hf, Ct.s_ht, Ct.s_wn, Ct.s_cr, Ct.s_wf, Ct.s_wl, Ct.s_nw, Ct.s_wc, Ct.s_wt, Ct.s_sd, Rm.mk, Rm.n, Rm.ce, Rm.br, Rm.be, Rm.wo, Rm.s_n, Rm.s_ce, Rm.s_br, Rm.s_be, Rm.s_wo]; done) | rfl)⟩
      · subst w5
        have cc5_1 := (show Int32.toInt 0 = 0 from rfl)
        have cc5_2 := (show Int32.toInt 999 = 999 from rfl)
        refine tz_eq (p2 := 31) rfl rfl (show Int32.toInt 0 = 0 from rfl) (fun c20 => ?_) (fun c20 => absurd c20 (by omega))
        refine te_bipush (p2 := 44) (x := (-2)) rfl rfl (by decide) ?_
        obtain ⟨v21, e21, y21, w21, a21, b21, _⟩ := hI.2.1 148 24 (.inl (0, 12, 9999999999)) rfl
        subst w21
        exact te_iret rfl rfl ⟨hI, f0, _, rfl, (by show ((-2), rmM h) = _; (have c_ := (show Int32.toInt (-2) = (-2) from rfl)); unfold room_f; rw [(show (rmM h).n = y21 from rv_of e21)]; (repeat' split) <;> first | (exfalso; omega) | (simp only [Dy.mk, Dy.ld, Dy.hm, Dy.hu, Dy.wk, Dy.de, Dy.st, Dy.up, Dy.rl, Dy.rs, Dy.ra, Dy.kp, Dy.du, Dy.ti, Dy.da, Dy.we, Dy.wi, Dy.s_ld, Dy.s_hm, Dy.s_hu, Dy.s_wk, Dy.s_de, Dy.s_st, Dy.s_up, Dy.s_rl, Dy.s_rs, Dy.s_ra, Dy.s_kp, Dy.s_du, Dy.s_ti, Dy.s_da, Dy.s_we, Dy.s_wi, Ct.mk, Ct.kd, Ct.tip, Ct.np, Ct.sg, Ct.ag, Ct.kn, Ct.ro, Ct.hd, Ct.hn, Ct.hf, Ct.ht, Ct.wn, Ct.cr, Ct.wf, Ct.wl, Ct.nw, Ct.wc, Ct.wt, Ct.sd, Ct.s_kd, Ct.s_tip, Ct.s_np, Ct.s_sg, Ct.s_ag, Ct.s_kn, Ct.s_ro, Ct.s_hd, Ct.s_hn, Ct.s_hf, Ct.s_ht, Ct.s_wn, Ct.s_cr, Ct.s_wf, Ct.s_wl, Ct.s_nw, Ct.s_wc, Ct.s_wt, Ct.s_sd, Rm.mk, Rm.n, Rm.ce, Rm.br, Rm.be, Rm.wo, Rm.s_n, Rm.s_ce, Rm.s_br, Rm.s_be, Rm.s_wo]; done) | rfl)⟩
    · subst w3
      have cc3_1 := (show Int32.toInt 0 = 0 from rfl)
      have cc3_2 := (show Int32.toInt 9999 = 9999 from rfl)
      refine tz_eq (p2 := 20) rfl rfl (show Int32.toInt 0 = 0 from rfl) (fun c22 => ?_) (fun c22 => absurd c22 (by omega))
      refine te_bipush (p2 := 44) (x := (-2)) rfl rfl (by decide) ?_
      obtain ⟨v23, e23, y23, w23, a23, b23, _⟩ := hI.2.1 148 24 (.inl (0, 12, 9999999999)) rfl
      subst w23
      exact te_iret rfl rfl ⟨hI, f0, _, rfl, (by show ((-2), rmM h) = _; (have c_ := (show Int32.toInt (-2) = (-2) from rfl)); unfold room_f; rw [(show (rmM h).n = y23 from rv_of e23)]; (repeat' split) <;> first | (exfalso; omega) | (simp only [Dy.mk, Dy.ld, Dy.hm, Dy.hu, Dy.wk, Dy.de, Dy.st, Dy.up, Dy.rl, Dy.rs, Dy.ra, Dy.kp, Dy.du, Dy.ti, Dy.da, Dy.we, Dy.wi, Dy.s_ld, Dy.s_hm, Dy.s_hu, Dy.s_wk, Dy.s_de, Dy.s_st, Dy.s_up, Dy.s_rl, Dy.s_rs, Dy.s_ra, Dy.s_kp, Dy.s_du, Dy.s_ti, Dy.s_da, Dy.s_we, Dy.s_wi, Ct.mk, Ct.kd, Ct.tip, Ct.np, Ct.sg, Ct.ag, Ct.kn, Ct.ro, Ct.hd, Ct.hn, Ct.hf, Ct.ht, Ct.wn, Ct.cr, Ct.wf, Ct.wl, Ct.nw, Ct.wc, Ct.wt, Ct.sd, Ct.s_kd, Ct.s_tip, Ct.s_np, Ct.s_sg, Ct.s_ag, Ct.s_kn, Ct.s_ro, Ct.s_hd, Ct.s_hn, Ct.s_hf, Ct.s_ht, Ct.s_wn, Ct.s_cr, Ct.s_wf, Ct.s_wl, Ct.s_nw, Ct.s_wc, Ct.s_wt, Ct.s_sd, Rm.mk, Rm.n, Rm.ce, Rm.br, Rm.be, Rm.wo, Rm.s_n, Rm.s_ce, Rm.s_br, Rm.s_be, Rm.s_wo]; done) | rfl)⟩
  · subst w1
    refine tz_ne (p2 := 7) rfl rfl (show Int32.toInt 0 = 0 from rfl) (fun c24 => absurd c24 (by omega)) (fun c24 => ?_)
    refine te_iconst (p2 := 8) (x := (-1)) rfl rfl (by decide) ?_
    obtain ⟨v25, e25, y25, w25, a25, b25, _⟩ := hI.2.1 148 24 (.inl (0, 12, 9999999999)) rfl
    subst w25
    exact te_iret rfl rfl ⟨hI, f0, _, rfl, (by show ((-1), rmM h) = _; (have c_ := (show Int32.toInt (-1) = (-1) from rfl)); unfold room_f; rw [(show (rmM h).n = y25 from rv_of e25)]; (repeat' split) <;> first | (exfalso; omega) | (simp only [Dy.mk, Dy.ld, Dy.hm, Dy.hu, Dy.wk, Dy.de, Dy.st, Dy.up, Dy.rl, Dy.rs, Dy.ra, Dy.kp, Dy.du, Dy.ti, Dy.da, Dy.we, Dy.wi, Dy.s_ld, Dy.s_hm, Dy.s_hu, Dy.s_wk, Dy.s_de, Dy.s_st, Dy.s_up, Dy.s_rl, Dy.s_rs, Dy.s_ra, Dy.s_kp, Dy.s_du, Dy.s_ti, Dy.s_da, Dy.s_we, Dy.s_wi, Ct.mk, Ct.kd, Ct.tip, Ct.np, Ct.sg, Ct.ag, Ct.kn, Ct.ro, Ct.hd, Ct.hn, Ct.hf, Ct.ht, Ct.wn, Ct.cr, Ct.wf, Ct.wl, Ct.nw, Ct.wc, Ct.wt, Ct.sd, Ct.s_kd, Ct.s_tip, Ct.s_np, Ct.s_sg, Ct.s_ag, Ct.s_kn, Ct.s_ro, Ct.s_hd, Ct.s_hn, Ct.s_hf, Ct.s_ht, Ct.s_wn, Ct.s_cr, Ct.s_wf, Ct.s_wl, Ct.s_nw, Ct.s_wc, Ct.s_wt, Ct.s_sd, Rm.mk, Rm.n, Rm.ce, Rm.br, Rm.be, Rm.wo, Rm.s_n, Rm.s_ce, Rm.s_br, Rm.s_be, Rm.s_wo]; done) | rfl)⟩
abbrev Q2_mend (x1 : Int32) (y : Int32) (h h2 : im_H) : Prop := (y, wM h2 149, absM h2) = mend_f x1 (rmM h) (wM h 149) (absM h)
set_option maxRecDepth 20000 in
set_option maxHeartbeats 4000000 in
theorem c_X12_mend {x1 : Int32} {h : im_H} (hI : tI h)  : CaP 8 173 [.ref 164, .int x1] h (fun v h2 => tI h2 ∧ fr F_X12_mend h h2 ∧ ∃ y : Int32, v = some (.int y) ∧ Q2_mend x1 y h h2) := by
  refine cap_of (d := 7) (M := mX12_mend) rfl (Nat.le_of_ble_eq_true rfl) ?_
  show EvP im_K0 7 mX12_mend (0, [(0, .ref 164), (1, .int x1)], [], h) _
  have f0 : fr F_X12_mend h h := fr_rf
  refine te_aload_n (p2 := 1) rfl rfl rfl ?_
  refine te_iload_n (p2 := 2) rfl rfl rfl ?_
  refine cV_pI (p2 := 5) (i := 148) rfl rfl rfl rfl hI rfl rfl rfl (t_X12_isRoom (k := x1) hI) (by decide) (fun y1 r1 => ?_)
  obtain ⟨p1, e1, a1, b1, r1⟩ := r1
  rcases r1 with ⟨w1, c1⟩ | ⟨w1, c1⟩
  · subst w1
    refine tz_ne (p2 := 8) rfl rfl (show Int32.toInt 1 = 1 from rfl) (fun c2 => ?_) (fun c2 => absurd c2 (by omega))
    refine te_aload_n (p2 := 11) rfl rfl rfl ?_
    refine tg_r (p2 := 14) (i := 148) (r := 165) rfl rfl hI rfl rfl rfl ?_
    refine te_sipush (p2 := 17) (x := 260) rfl rfl (by decide) ?_
    refine te_iload_n (p2 := 18) rfl rfl rfl ?_
    refine ar_add (p2 := 19) rfl rfl (show Int32.toInt 260 = 260 from rfl) rfl (by omega) (by omega) (fun z3 e3 f3 => ?_)
    refine tl_i (p2 := 20) (i := 149) (n := 283) rfl rfl hI rfl rfl rfl rfl (by omega) (by omega) (fun y4 a4 b4 g4 e4 => ?_)
    refine te_iconst (p2 := 21) (x := 1) rfl rfl (by decide) ?_
    refine tb_ne (p2 := 24) rfl rfl rfl (show Int32.toInt 1 = 1 from rfl) (fun c5 => ?_) (fun c5 => ?_)
    · refine te_aload_n (p2 := 28) rfl rfl rfl ?_
      refine tg_r (p2 := 31) (i := 148) (r := 186) rfl rfl hI rfl rfl rfl ?_
      refine te_iload_n (p2 := 32) rfl rfl rfl ?_
      refine tl_i (p2 := 33) (i := 170) (n := 12) rfl rfl hI rfl rfl rfl rfl (by omega) (by omega) (fun y6 a6 b6 g6 e6 => ?_)
      refine te_aload_n (p2 := 34) rfl rfl rfl ?_
      refine tg_r (p2 := 37) (i := 148) (r := 165) rfl rfl hI rfl rfl rfl ?_
      refine te_bipush (p2 := 39) (x := 100) rfl rfl (by decide) ?_
      refine tl_i (p2 := 40) (i := 149) (n := 283) rfl rfl hI rfl rfl rfl rfl (by decide) (by decide) (fun y7 a7 b7 g7 e7 => ?_)
      refine tb_gt (p2 := 43) rfl rfl rfl rfl (fun c8 => ?_) (fun c8 => ?_)
      · refine te_bipush (p2 := 61) (x := (-6)) rfl rfl (by decide) ?_
        exact te_iret rfl rfl ⟨hI, f0, _, rfl, (by show ((-6), wM h 149, absM h) = _; (have c_ := (show Int32.toInt (-6) = (-6) from rfl)); unfold mend_f; rw [(show (rmM h).n = p1 from rv_of e1), if_pos (by omega), (show (wM h 149) x1.toInt.toNat = y4 from (gd_at (by omega)).trans (by show rv h 149 (260 + x1.toInt.toNat) = _; rw [show 260 + x1.toInt.toNat = z3.toInt.toNat by omega]; exact rv_of e4)), if_neg (by omega), (show (rmM h).br x1.toInt.toNat = y6 from (gd_at (by omega)).trans (rv_of e6)), (show (absM h).kp 0 = y7 from (aM_kp (by decide)).trans (rv_of (k := 100) e7)), if_pos (by omega)])⟩
      · refine te_aload_n (p2 := 44) rfl rfl rfl ?_
        refine tg_r (p2 := 47) (i := 148) (r := 187) rfl rfl hI rfl rfl rfl ?_
        refine te_iload_n (p2 := 48) rfl rfl rfl ?_
        refine tl_i (p2 := 49) (i := 171) (n := 12) rfl rfl hI rfl rfl rfl rfl (by omega) (by omega) (fun y9 a9 b9 g9 e9 => ?_)
        refine te_aload_n (p2 := 50) rfl rfl rfl ?_
        refine tg_r (p2 := 53) (i := 148) (r := 165) rfl rfl hI rfl rfl rfl ?_
        refine te_bipush (p2 := 55) (x := 101) rfl rfl (by decide) ?_
        refine tl_i (p2 := 56) (i := 149) (n := 283) rfl rfl hI rfl rfl rfl rfl (by decide) (by decide) (fun y10 a10 b10 g10 e10 => ?_)
        refine tb_le (p2 := 59) rfl rfl rfl rfl (fun c11 => ?_) (fun c11 => ?_)
        · refine te_aload_n (p2 := 63) rfl rfl rfl ?_
          refine tg_r (p2 := 66) (i := 148) (r := 165) rfl rfl hI rfl rfl rfl ?_
          refine te_bipush (p2 := 68) (x := 100) rfl rfl (by decide) ?_
          refine te_dup2 (p2 := 69) rfl rfl ⟨rfl, rfl⟩ ?_
          refine tl_e (p2 := 70) (i := 149) (n := 283) (t := 0) (Or.inl rfl) rfl rfl hI rfl rfl (by decide) (by decide) e7 ?_
          refine te_aload_n (p2 := 71) rfl rfl rfl ?_
          refine tg_r (p2 := 74) (i := 148) (r := 186) rfl rfl hI rfl rfl rfl ?_
          refine te_iload_n (p2 := 75) rfl rfl rfl ?_
          refine tl_e (p2 := 76) (i := 170) (n := 12) (t := 0) (Or.inl rfl) rfl rfl hI rfl rfl (by omega) (by omega) e6 ?_
          refine au_sub (p2 := 77) rfl rfl (fun z14 e14 => ?_)
          refine ts_i (p2 := 78) (i := 149) (n := 283) rfl rfl hI rfl rfl rfl rfl (by decide) (by decide) (i32_lo _) (i32_hi _) (i32_ho _) rfl (fun h15 I15 u15 => ?_)
          have f15 := fr_st (F := F_X12_mend) 0 f0 u15 rfl (by decide) (by decide)
          refine te_aload_n (p2 := 79) rfl rfl rfl ?_
          refine tg_r (p2 := 82) (i := 148) (r := 165) rfl rfl I15 rfl rfl rfl ?_
          refine te_bipush (p2 := 84) (x := 101) rfl rfl (by decide) ?_
          refine te_dup2 (p2 := 85) rfl rfl ⟨rfl, rfl⟩ ?_
          refine tl_e (p2 := 86) (i := 149) (n := 283) (t := 0) (Or.inl rfl) rfl rfl I15 rfl rfl (by decide) (by decide) ((u15.2 _ _ (Or.inr (by decide))).trans e10) ?_
          refine te_aload_n (p2 := 87) rfl rfl rfl ?_
          refine tg_r (p2 := 90) (i := 148) (r := 187) rfl rfl I15 rfl rfl rfl ?_
          refine te_iload_n (p2 := 91) rfl rfl rfl ?_
          refine tl_e (p2 := 92) (i := 171) (n := 12) (t := 0) (Or.inl rfl) rfl rfl I15 rfl rfl (by omega) (by omega) ((u15.2 _ _ (Or.inl (by decide))).trans e9) ?_
          refine au_sub (p2 := 93) rfl rfl (fun z18 e18 => ?_)
          refine ts_i (p2 := 94) (i := 149) (n := 283) rfl rfl I15 rfl rfl rfl rfl (by decide) (by decide) (i32_lo _) (i32_hi _) (i32_ho _) rfl (fun h19 I19 u19 => ?_)
          have f19 := fr_st (F := F_X12_mend) 0 f15 u19 rfl (by decide) (by decide)
          refine te_aload_n (p2 := 95) rfl rfl rfl ?_
          refine tg_r (p2 := 98) (i := 148) (r := 165) rfl rfl I19 rfl rfl rfl ?_
          refine te_sipush (p2 := 101) (x := 260) rfl rfl (by decide) ?_
          refine te_iload_n (p2 := 102) rfl rfl rfl ?_
          refine ar_add (p2 := 103) rfl rfl (show Int32.toInt 260 = 260 from rfl) rfl (by omega) (by omega) (fun z20 e20 f20 => ?_)
          refine te_iconst (p2 := 104) (x := 1) rfl rfl (by decide) ?_
          refine ts_i (p2 := 105) (i := 149) (n := 283) rfl rfl I19 rfl rfl rfl rfl (by omega) (by omega) (i32_lo _) (i32_hi _) (i32_ho _) rfl (fun h21 I21 u21 => ?_)
          have f21 := fr_st (F := F_X12_mend) 1 f19 u21 rfl (by omega) (by omega)
          refine te_aload_n (p2 := 106) rfl rfl rfl ?_
          refine tg_r (p2 := 109) (i := 148) (r := 165) rfl rfl I21 rfl rfl rfl ?_
          refine te_bipush (p2 := 111) (x := 100) rfl rfl (by decide) ?_
          refine tl_e (p2 := 112) (i := 149) (n := 283) (t := 0) (Or.inl rfl) rfl rfl I21 rfl rfl (by decide) (by decide) ((u21.2 _ _ (Or.inr (by have hc_ := (show Int32.toInt 100 = 100 from rfl); omega))).trans ((u19.2 _ _ (Or.inr (by decide))).trans u15.1)) ?_
          exact te_iret rfl rfl ⟨I21, f21, _, rfl, (by show (z14, wM h21 149, absM h21) = _; rw [wM_u (i := x1.toInt.toNat) u21 (by omega) (by omega), wM_o u19 (by decide), wM_o u15 (by decide), mu_wm u21 (by omega), mu_kp (i := 1) u19 rfl (by decide), mu_kp (i := 0) u15 rfl (by decide)]; unfold mend_f; rw [(show (rmM h).n = p1 from rv_of ((f21 148 24 rfl).symm.trans ((u21.2 _ _ (Or.inl (by decide))).trans ((u19.2 _ _ (Or.inl (by decide))).trans ((u15.2 _ _ (Or.inl (by decide))).trans e1))))), if_pos (by omega), (show (wM h 149) x1.toInt.toNat = y4 from (gd_at (by omega)).trans (by show rv h 149 (260 + x1.toInt.toNat) = _; rw [show 260 + x1.toInt.toNat = z3.toInt.toNat by omega]; exact rv_of e4)), if_neg (by omega), (show (rmM h).br x1.toInt.toNat = y6 from (gd_at (by omega)).trans (rv_of e6)), (show (absM h).kp 0 = y7 from (aM_kp (by decide)).trans (rv_of (k := 100) e7)), (show (rmM h).be x1.toInt.toNat = y9 from (gd_at (by omega)).trans (rv_of e9)), (show (absM h).kp 1 = y10 from (aM_kp (by decide)).trans (rv_of (k := 101) e10)), if_neg (by omega), e14, e18])⟩
        · refine te_bipush (p2 := 61) (x := (-6)) rfl rfl (by decide) ?_
          exact te_iret rfl rfl ⟨hI, f0, _, rfl, (by show ((-6), wM h 149, absM h) = _; (have c_ := (show Int32.toInt (-6) = (-6) from rfl)); unfold mend_f; rw [(show (rmM h).n = p1 from rv_of e1), if_pos (by omega), (show (wM h 149) x1.toInt.toNat = y4 from (gd_at (by omega)).trans (by show rv h 149 (260 + x1.toInt.toNat) = _; rw [show 260 + x1.toInt.toNat = z3.toInt.toNat by omega]; exact rv_of e4)), if_neg (by omega), (show (rmM h).br x1.toInt.toNat = y6 from (gd_at (by omega)).trans (rv_of e6)), (show (absM h).kp 0 = y7 from (aM_kp (by decide)).trans (rv_of (k := 100) e7)), (show (rmM h).be x1.toInt.toNat = y9 from (gd_at (by omega)).trans (rv_of e9)), (show (absM h).kp 1 = y10 from (aM_kp (by decide)).trans (rv_of (k := 101) e10)), if_pos (by omega)])⟩
    · refine te_bipush (p2 := 26) (x := (-3)) rfl rfl (by decide) ?_
      exact te_iret rfl rfl ⟨hI, f0, _, rfl, (by show ((-3), wM h 149, absM h) = _; (have c_ := (show Int32.toInt (-3) = (-3) from rfl)); unfold mend_f; rw [(show (rmM h).n = p1 from rv_of e1), if_pos (by omega), (show (wM h 149) x1.toInt.toNat = y4 from (gd_at (by omega)).trans (by show rv h 149 (260 + x1.toInt.toNat) = _; rw [show 260 + x1.toInt.toNat = z3.toInt.toNat by omega]; exact rv_of e4)), if_pos (by omega)])⟩
  · subst w1
    refine tz_ne (p2 := 8) rfl rfl (show Int32.toInt 0 = 0 from rfl) (fun c23 => absurd c23 (by omega)) (fun c23 => ?_)
    refine te_iconst (p2 := 9) (x := (-1)) rfl rfl (by decide) ?_
    exact te_iret rfl rfl ⟨hI, f0, _, rfl, (by show ((-1), wM h 149, absM h) = _; (have c_ := (show Int32.toInt (-1) = (-1) from rfl)); unfold mend_f; rw [(show (rmM h).n = p1 from rv_of e1), if_neg (by omega)])⟩
