def bes (c o : Int32) : Prop := ∃ s : Int32, 0 ≤ s.toInt ∧ s.toInt < 4 ∧ nbr c s = o
def way (F : Nat → Int32) (z : Int) : Prop := ∀ i : Nat, (i : Int) < z → (0 ≤ (F i).toInt ∧ (F i).toInt ≤ 99) ∧ (0 < i → bes (F (i - 1)) (F i))
theorem way_0 {F : Nat → Int32} {z : Int} (h : z ≤ 0) : way F z := fun i hi => by exfalso; omega
theorem way_s {F : Nat → Int32} {z z2 : Int} {k : Nat} (w : way F z) (hk : (k : Int) = z) (h2 : z2 = z + 1) (hb : 0 ≤ (F k).toInt ∧ (F k).toInt ≤ 99) (hn : 0 < k → bes (F (k - 1)) (F k)) : way F z2 := by
  intro i hi
  by_cases hc : i = k
  · subst hc; exact ⟨hb, hn⟩
  · exact w i (by omega)
theorem way_le {F : Nat → Int32} {z z2 : Int} (w : way F z) (h : z2 ≤ z) : way F z2 := fun i hi => w i (by omega)
def okR (F : Nat → Int32) (x3 z : Int32) : Prop := z.toInt ≠ 1 ∧ z.toInt ≤ 12 ∧ 0 ≤ x3.toInt ∧ x3.toInt ≤ 20 ∧ way F z.toInt
noncomputable def barF (c : Ct) (A : Dy) (F : Nat → Int32) (r : Int32) : Nat → Nat → Int32
  | 0, _ => 0
  | m + 1, i => @ite _ (¬ (0 ≤ (F i).toInt ∧ (F i).toInt < c.np.toInt) ∨ (A.de (F i).toInt.toNat).toInt = 1 ∨ (∃ j, j < i ∧ F j = F i)) (Classical.propDecidable _) (-2) (if (c.ro (F i).toInt.toNat).toInt ≠ -1 ∧ (c.ro (F i).toInt.toNat).toInt ≠ r.toInt then -3 else barF c A F r m (i + 1))
theorem bar_b {c : Ct} {A : Dy} {F : Nat → Int32} {r : Int32} {m m2 i : Nat} (hm : m = m2 + 1) (h : ¬ (0 ≤ (F i).toInt ∧ (F i).toInt < c.np.toInt) ∨ (A.de (F i).toInt.toNat).toInt = 1 ∨ (∃ j, j < i ∧ F j = F i)) : barF c A F r m i = -2 := by
  subst hm
  exact if_pos h
theorem bar_s {c : Ct} {A : Dy} {F : Nat → Int32} {r : Int32} {m m2 i : Nat} (hm : m = m2 + 1) (h : ¬ (¬ (0 ≤ (F i).toInt ∧ (F i).toInt < c.np.toInt) ∨ (A.de (F i).toInt.toNat).toInt = 1 ∨ (∃ j, j < i ∧ F j = F i))) (h2 : (c.ro (F i).toInt.toNat).toInt ≠ -1 ∧ (c.ro (F i).toInt.toNat).toInt ≠ r.toInt) : barF c A F r m i = -3 := by
  subst hm
  exact (if_neg h).trans (if_pos h2)
theorem bar_n {c : Ct} {A : Dy} {F : Nat → Int32} {r : Int32} {m m2 i i2 : Nat} (hm : m = m2 + 1) (hi : i2 = i + 1) (h : ¬ (¬ (0 ≤ (F i).toInt ∧ (F i).toInt < c.np.toInt) ∨ (A.de (F i).toInt.toNat).toInt = 1 ∨ (∃ j, j < i ∧ F j = F i))) (h2 : ¬ ((c.ro (F i).toInt.toNat).toInt ≠ -1 ∧ (c.ro (F i).toInt.toNat).toInt ≠ r.toInt)) : barF c A F r m i = barF c A F r m2 i2 := by
  subst hm hi
  exact (if_neg h).trans (if_neg h2)
theorem bar_0 {c : Ct} {A : Dy} {F : Nat → Int32} {r : Int32} {m i : Nat} (hm : m = 0) : barF c A F r m i = 0 := by
  subst hm
  rfl
theorem bar_ok {c : Ct} {A : Dy} {F : Nat → Int32} {r : Int32} : ∀ (m i : Nat), barF c A F r m i = 0 → ∀ j, i ≤ j → j < i + m → (0 ≤ (F j).toInt ∧ (F j).toInt < c.np.toInt) ∧ (A.de (F j).toInt.toNat).toInt ≠ 1 ∧ ¬ ((c.ro (F j).toInt.toNat).toInt ≠ -1 ∧ (c.ro (F j).toInt.toNat).toInt ≠ r.toInt)
  | 0, i, _, j, h0, h1 => by omega
  | m + 1, i, h, j, h0, h1 => by
    by_cases hb : ¬ (0 ≤ (F i).toInt ∧ (F i).toInt < c.np.toInt) ∨ (A.de (F i).toInt.toNat).toInt = 1 ∨ (∃ j, j < i ∧ F j = F i)
    · rw [bar_b rfl hb] at h; exact absurd h (by decide)
    · by_cases hs : (c.ro (F i).toInt.toNat).toInt ≠ -1 ∧ (c.ro (F i).toInt.toNat).toInt ≠ r.toInt
      · rw [bar_s rfl hb hs] at h; exact absurd h (by decide)
      · rw [bar_n rfl rfl hb hs] at h
        by_cases hj : j = i
        · subst hj
          exact ⟨Classical.byContradiction (fun q => hb (Or.inl q)), fun q => hb (Or.inr (Or.inl q)), hs⟩
        · exact bar_ok m (i + 1) h j (by omega) (by omega)
noncomputable def rowC (x1 x3 x4 z : Int32) (F : Nat → Int32) (c : Ct) : Ct := (Ct.mk (Ct.kd c) (Ct.tip c) (Ct.np c) (Ct.sg c) (Ct.ag c) (Ct.kn c) (fun p => if p < 24 then (@ite _ (∃ i, i < z.toInt.toNat ∧ (F i).toInt = p) (Classical.propDecidable _) x1 (if (c.ro p).toInt = x1.toInt then -1 else c.ro p)) else 0) (fun r i => if r = x1.toInt.toNat ∧ i < z.toInt.toNat then F i else c.hd r i) (udt c.hn x1.toInt.toNat z) (udt c.hf x1.toInt.toNat x3) (udt c.ht x1.toInt.toNat x4) (Ct.wn c) (Ct.cr c) (Ct.wf c) (Ct.wl c) (Ct.nw c) (Ct.wc c) (Ct.wt c) (Ct.sd c))
noncomputable def row_f (x1 x2 x3 x4 q z : Int32) (F : Nat → Int32) (c : Ct) (A : Dy) : Int32 × Ct := if 0 ≤ x1.toInt ∧ x1.toInt ≤ 3 ∧ 0 ≤ x2.toInt ∧ x2.toInt ≤ 3 ∧ 0 ≤ x3.toInt ∧ x3.toInt ≤ 99 ∧ 0 ≤ x4.toInt ∧ x4.toInt ≤ 99 then (if q.toInt = -1 then (-11, c) else @ite _ (8 < z.toInt ∨ ¬ bes x3 x4) (Classical.propDecidable _) (-2, c) (if (barF c A F x1 z.toInt.toNat 0).toInt ≠ 0 then (barF c A F x1 z.toInt.toNat 0, c) else (z, rowC x1 x3 x4 z F c))) else (-1, c)
theorem cX_h {h H : im_H} (e : ∀ i k, (i = 1 ∨ i = 2 ∨ i = 3 ∨ i = 4 ∨ i = 5 ∨ i = 9 ∨ i = 10) → rd H i k = rd h i k) : cX H = (Ct.mk (Ct.kd (cX h)) (Ct.tip (cX h)) (Ct.np (cX h)) (Ct.sg (cX h)) (Ct.ag (cX h)) (Ct.kn (cX h)) ((cX H).ro) ((cX H).hd) ((cX H).hn) ((cX H).hf) ((cX H).ht) ((cX H).wn) ((cX H).cr) ((cX H).wf) ((cX H).wl) (Ct.nw (cX h)) (Ct.wc (cX h)) (Ct.wt (cX h)) (Ct.sd (cX h))) := by
  have ef : ∀ i, (i = 1 ∨ i = 2 ∨ i = 3 ∨ i = 4 ∨ i = 5 ∨ i = 9 ∨ i = 10) → rv H i = rv h i := fun i hi => funext fun k => by unfold rv; rw [e i k hi]
  have kkd : (cX H).kd = (cX h).kd := by (show gd 100 (rv H 2) = gd 100 (rv h 2); rw [ef 2 (by decide)])
  have ktip : (cX H).tip = (cX h).tip := by (show rv H 1 1 = rv h 1 1; rw [ef 1 (by decide)])
  have knp : (cX H).np = (cX h).np := by (show rv H 1 2 = rv h 1 2; rw [ef 1 (by decide)])
  have ksg : (cX H).sg = (cX h).sg := by (show gd 24 (rv H 3) = gd 24 (rv h 3); rw [ef 3 (by decide)])
  have kag : (cX H).ag = (cX h).ag := by (show gd 24 (rv H 4) = gd 24 (rv h 4); rw [ef 4 (by decide)])
  have kkn : (cX H).kn = (cX h).kn := by (show gd 24 (rv H 5) = gd 24 (rv h 5); rw [ef 5 (by decide)])
  have knw : (cX H).nw = (cX h).nw := by (show rv H 1 9 = rv h 1 9; rw [ef 1 (by decide)])
  have kwc : (cX H).wc = (cX h).wc := by (show gd 16 (rv H 9) = gd 16 (rv h 9); rw [ef 9 (by decide)])
  have kwt : (cX H).wt = (cX h).wt := by (show gd 16 (rv H 10) = gd 16 (rv h 10); rw [ef 10 (by decide)])
  have ksd : (cX H).sd = (cX h).sd := rfl
  refine (Ct.eta' (cX H)).symm.trans ?_
  rw [kkd, ktip, knp, ksg, kag, kkn, knw, kwc, kwt, ksd]
theorem cM_h {h H : im_H} (e : ∀ i k, (i = 148 ∨ i = 152 ∨ i = 157 ∨ i = 158 ∨ i = 159 ∨ i = 167 ∨ i = 168) → rd H i k = rd h i k) : cM H = (Ct.mk (Ct.kd (cM h)) (Ct.tip (cM h)) (Ct.np (cM h)) (Ct.sg (cM h)) (Ct.ag (cM h)) (Ct.kn (cM h)) ((cM H).ro) ((cM H).hd) ((cM H).hn) ((cM H).hf) ((cM H).ht) ((cM H).wn) ((cM H).cr) ((cM H).wf) ((cM H).wl) (Ct.nw (cM h)) (Ct.wc (cM h)) (Ct.wt (cM h)) (Ct.sd (cM h))) := by
  have ef : ∀ i, (i = 148 ∨ i = 152 ∨ i = 157 ∨ i = 158 ∨ i = 159 ∨ i = 167 ∨ i = 168) → rv H i = rv h i := fun i hi => funext fun k => by unfold rv; rw [e i k hi]
  have kkd : (cM H).kd = (cM h).kd := by (show gd 100 (rv H 152) = gd 100 (rv h 152); rw [ef 152 (by decide)])
  have ktip : (cM H).tip = (cM h).tip := by (show rv H 148 9 = rv h 148 9; rw [ef 148 (by decide)])
  have knp : (cM H).np = (cM h).np := by (show rv H 148 10 = rv h 148 10; rw [ef 148 (by decide)])
  have ksg : (cM H).sg = (cM h).sg := by (show gd 24 (rv H 157) = gd 24 (rv h 157); rw [ef 157 (by decide)])
  have kag : (cM H).ag = (cM h).ag := by (show gd 24 (rv H 158) = gd 24 (rv h 158); rw [ef 158 (by decide)])
  have kkn : (cM H).kn = (cM h).kn := by (show gd 24 (rv H 159) = gd 24 (rv h 159); rw [ef 159 (by decide)])
  have knw : (cM H).nw = (cM h).nw := by (show rv H 148 21 = rv h 148 21; rw [ef 148 (by decide)])
  have kwc : (cM H).wc = (cM h).wc := by (show gd 16 (rv H 167) = gd 16 (rv h 167); rw [ef 167 (by decide)])
  have kwt : (cM H).wt = (cM h).wt := by (show gd 16 (rv H 168) = gd 16 (rv h 168); rw [ef 168 (by decide)])
  have ksd : (cM H).sd = (cM h).sd := rfl
  refine (Ct.eta' (cM H)).symm.trans ?_
  rw [kkd, ktip, knp, ksg, kag, kkn, knw, kwc, kwt, ksd]
theorem rowX {h H : im_H} {x1 x3 x4 z : Int32} {F : Nat → Int32} (h0 : 0 ≤ x1.toInt) (h3 : x1.toInt ≤ 3) (hz : z.toInt ≤ 8)
    (e : ∀ i k, (i < 6 ∨ i = 9 ∨ i = 10 ∨ (20 ≤ i ∧ i < 23) ∨ (12 ≤ i ∧ i < 20 ∧ i ≠ 12 + 2 * x1.toInt.toNat ∧ i ≠ 13 + 2 * x1.toInt.toNat)) → rd H i k = rd h i k)
    (e1 : rv H (12 + 2 * x1.toInt.toNat) 1 = z) (e2 : rv H (12 + 2 * x1.toInt.toNat) 2 = x3) (e3 : rv H (12 + 2 * x1.toInt.toNat) 3 = x4)
    (ed : ∀ i : Nat, i < 8 → rv H (13 + 2 * x1.toInt.toNat) i = if i < z.toInt.toNat then F i else rv h (13 + 2 * x1.toInt.toNat) i)
    (eo : ∀ p : Nat, p < 24 → ((∃ i, i < z.toInt.toNat ∧ (F i).toInt = p) → rv H 6 p = x1) ∧ (¬ (∃ i, i < z.toInt.toNat ∧ (F i).toInt = p) → rv H 6 p = if (rv h 6 p).toInt = x1.toInt then -1 else rv h 6 p)) : cX H = rowC x1 x3 x4 z F (cX h) := by
  have ev : ∀ i k, (i < 6 ∨ i = 9 ∨ i = 10 ∨ (20 ≤ i ∧ i < 23) ∨ (12 ≤ i ∧ i < 20 ∧ i ≠ 12 + 2 * x1.toInt.toNat ∧ i ≠ 13 + 2 * x1.toInt.toNat)) → rv H i k = rv h i k := fun i k hi => by unfold rv; rw [e i k hi]
  rw [cX_h (h := h) (H := H) (fun i k hi => e i k (by omega))]
  have a1 : (cX H).ro = (rowC x1 x3 x4 z F (cX h)).ro := by
    funext p
    show gd 24 (rv H 6) p = ite (p < 24) _ _
    by_cases hp : p < 24
    · rw [gd_at hp, if_pos hp]
      have hr : (cX h).ro p = rv h 6 p := gd_at hp
      by_cases hc : ∃ i, i < z.toInt.toNat ∧ (F i).toInt = p
      · rw [if_pos hc]; exact (eo p hp).1 hc
      · rw [if_neg hc, hr]; exact (eo p hp).2 hc
    · rw [if_neg hp]; exact if_neg hp
  have a2 : (cX H).hd = (rowC x1 x3 x4 z F (cX h)).hd := by
    funext r i
    show (if r < 4 ∧ i < 8 then rv H (13 + 2 * r) i else 0 : Int32) = if r = x1.toInt.toNat ∧ i < z.toInt.toNat then F i else (if r < 4 ∧ i < 8 then rv h (13 + 2 * r) i else 0)
    by_cases hc : r = x1.toInt.toNat
    · subst hc
      by_cases hi : i < 8
      · rw [if_pos ⟨by omega, hi⟩, if_pos (c := _ ∧ i < 8) ⟨by omega, hi⟩, ed i hi]
        by_cases hz2 : i < z.toInt.toNat
        · rw [if_pos hz2, if_pos ⟨rfl, hz2⟩]
        · rw [if_neg hz2, if_neg (fun q => hz2 q.2)]
      · rw [if_neg (fun q => hi q.2), if_neg (fun q => absurd q.2 (by omega)), if_neg (fun q => hi q.2)]
    · rw [if_neg (c := r = x1.toInt.toNat ∧ i < z.toInt.toNat) (fun q => hc q.1)]
      by_cases hr : r < 4 ∧ i < 8
      · rw [if_pos hr, if_pos hr, ev _ _ (by omega)]
      · rw [if_neg hr, if_neg hr]
  have a3 : ∀ k : Nat, ∀ v : Int32, rv H (12 + 2 * x1.toInt.toNat) k = v → gd 4 (fun r => rv H (12 + 2 * r) k) = udt (gd 4 (fun r => rv h (12 + 2 * r) k)) x1.toInt.toNat v := fun k v hv => by
    funext r
    show (if r < 4 then rv H (12 + 2 * r) k else 0 : Int32) = if r = x1.toInt.toNat then v else (if r < 4 then rv h (12 + 2 * r) k else 0)
    by_cases hc : r = x1.toInt.toNat
    · subst hc; rw [if_pos (c := _ < 4) (by omega), if_pos rfl, hv]
    · rw [if_neg hc]
      by_cases hr : r < 4
      · rw [if_pos hr, if_pos hr, ev _ _ (by omega)]
      · rw [if_neg hr, if_neg hr]
  have b1 : (cX H).hn = (rowC x1 x3 x4 z F (cX h)).hn := a3 1 z e1
  have b2 : (cX H).hf = (rowC x1 x3 x4 z F (cX h)).hf := a3 2 x3 e2
  have b3 : (cX H).ht = (rowC x1 x3 x4 z F (cX h)).ht := a3 3 x4 e3
  have c1 : (cX H).wn = (cX h).wn := gd_c (fun r hr => ev (20 + r) 0 (by omega))
  have c2 : (cX H).cr = (cX h).cr := gd_c (fun r hr => ev (20 + r) 1 (by omega))
  have c3 : (cX H).wf = (cX h).wf := by
    funext r
    show (if r < 3 ∧ 2 ≤ (rv H (20 + r) 0).toInt then rv H (20 + r) 2 else 0 : Int32) = if r < 3 ∧ 2 ≤ (rv h (20 + r) 0).toInt then rv h (20 + r) 2 else 0
    by_cases hc : r < 3
    · rw [ev (20 + r) 0 (by omega), ev (20 + r) 2 (by omega)]
    · rw [if_neg (fun q => hc q.1), if_neg (fun q => hc q.1)]
  have c4 : (cX H).wl = (cX h).wl := by
    funext r
    show (if r < 3 ∧ 2 ≤ (rv H (20 + r) 0).toInt then rv H (20 + r) 3 else 0 : Int32) = if r < 3 ∧ 2 ≤ (rv h (20 + r) 0).toInt then rv h (20 + r) 3 else 0
    by_cases hc : r < 3
    · rw [ev (20 + r) 0 (by omega), ev (20 + r) 3 (by omega)]
    · rw [if_neg (fun q => hc q.1), if_neg (fun q => hc q.1)]
  rw [a1, a2, b1, b2, b3, c1, c2, c3, c4]
  rfl
set_option maxRecDepth 20000 in
set_option maxHeartbeats 4000000 in
theorem c_X8_hasAheadOf {s : Nat} {i : Int32} {number : Int32} {h : im_H} (hI : tI h) (q_s : s = 140 ∨ s = 142 ∨ s = 144 ∨ s = 146) (p_i0 : 0 ≤ i.toInt) (p_i1 : i.toInt ≤ 40) : CaP 1 44 [.ref (16 + s), .int i, .int number] h (pI h (fun y => (y = 1 ∧ (∃ j : Nat, j < i.toInt.toNat ∧ (vl h (s + 1) 0) j = number)) ∨ (y = 0 ∧ ¬ (∃ j : Nat, j < i.toInt.toNat ∧ (vl h (s + 1) 0) j = number)))) := by
  refine cap_of (d := 0) (M := mX8_hasAheadOf) rfl (Nat.le_of_ble_eq_true rfl) ?_
  show EvP im_K0 0 mX8_hasAheadOf (0, [(0, .ref (16 + s)), (1, .int i), (2, .int number)], [], h) _
  refine te_iconst (p2 := 1) (x := 0) rfl rfl (by decide) ?_
  refine te_istore_n (p2 := 2) (lv2 := [(3, .int 0), (0, .ref (16 + s)), (1, .int i), (2, .int number)]) rfl rfl (by decide) rfl ?_
  have lp1 : ∀ (n1 : Nat) (v1_3 : Int32) , 0 ≤ v1_3.toInt → v1_3.toInt ≤ 40 → v1_3.toInt ≤ i.toInt → (∀ j : Nat, j < v1_3.toInt.toNat → (vl h (s + 1) 0) j ≠ number) → i.toInt - v1_3.toInt < (n1 : Int) → EvP im_K0 0 mX8_hasAheadOf (2, [(0, .ref (16 + s)), (1, .int i), (2, .int number), (3, .int v1_3)], [], h) (pI h (fun y => (y = 1 ∧ (∃ j : Nat, j < i.toInt.toNat ∧ (vl h (s + 1) 0) j = number)) ∨ (y = 0 ∧ ¬ (∃ j : Nat, j < i.toInt.toNat ∧ (vl h (s + 1) 0) j = number)))) := by
    intro n1
    induction n1 with
    | zero => intro v1_3 a1_3 b1_3 l1_0 w1_0 m1; exfalso; omega
    | succ n1 ih1 =>
      intro v1_3 a1_3 b1_3 l1_0 w1_0 m1
      refine te_iload_n (p2 := 3) rfl rfl rfl ?_
      refine te_iload_n (p2 := 4) rfl rfl rfl ?_
      refine tb_ge (p2 := 7) rfl rfl rfl rfl (fun c2 => ?_) (fun c2 => ?_)
      · refine te_iconst (p2 := 26) (x := 0) rfl rfl (by decide) ?_
        exact te_zret rfl rfl (by decide) ⟨rfl, _, rfl, Or.inr ⟨rfl, fun ⟨j, hj, e⟩ => w1_0 j (by omega) e⟩⟩
      · refine te_aload_n (p2 := 8) rfl rfl rfl ?_
        refine tg_r (p2 := 11) (i := s) (r := (16 + (s + 1))) rfl rfl hI rfl (by rcases q_s with rfl | rfl | rfl | rfl <;> rfl) (by rcases q_s with rfl | rfl | rfl | rfl <;> rfl) ?_
        refine te_iload_n (p2 := 12) rfl rfl rfl ?_
        refine tl_i (p2 := 13) (i := (s + 1)) (n := 40) rfl rfl hI rfl (by rcases q_s with rfl | rfl | rfl | rfl <;> rfl) (by rcases q_s with rfl | rfl | rfl | rfl <;> rfl) rfl (by omega) (by omega) (fun y3 a3 b3 g3 e3 => ?_)
        refine te_iload_n (p2 := 14) rfl rfl rfl ?_
        refine tb_ne (p2 := 17) rfl rfl rfl rfl (fun c4 => ?_) (fun c4 => ?_)
        · refine ar_inc (p2 := 22) (x := v1_3) rfl rfl (by decide) rfl (by decide) rfl (by omega) (by omega) (fun z5 e5 f5 => ?_)
          show EvP _ _ _ (22, [(3, .int z5), (0, .ref (16 + s)), (1, .int i), (2, .int number)], [], h) _
          refine te_goto rfl ?_
          refine te_lv [(0, .ref (16 + s)), (1, .int i), (2, .int number), (3, .int z5)] rfl rfl ⟨rfl, rfl, rfl, rfl, trivial⟩ ?_
          exact ih1 z5 (by omega) (by omega) (by omega) (fun j hj q => by (by_cases hc : j = v1_3.toInt.toNat); (· rw [hc, (vl_of (c := s + 1) (o := 0) (i := v1_3.toInt.toNat) (by omega) (by rw [Nat.zero_add]; exact e3))] at q; exact absurd (congrArg Int32.toInt q) (by omega)); (· exact w1_0 j (by omega) q)) (by omega)
        · refine te_iconst (p2 := 18) (x := 1) rfl rfl (by decide) ?_
          exact te_zret rfl rfl (by decide) ⟨rfl, _, rfl, Or.inl ⟨rfl, v1_3.toInt.toNat, by omega, (by rw [(vl_of (c := s + 1) (o := 0) (i := v1_3.toInt.toNat) (by omega) (by rw [Nat.zero_add]; exact e3))]; exact i32_ext (by omega))⟩⟩
  refine te_lv [(0, .ref (16 + s)), (1, .int i), (2, .int number), (3, .int 0)] rfl rfl ⟨rfl, rfl, rfl, rfl, trivial⟩ ?_
  exact lp1 41 0 (by decide) (by decide) (by have cc0 := (show Int32.toInt 0 = 0 from rfl); omega) (fun j hj => absurd hj (Nat.not_lt_zero j)) (by have cc0 := (show Int32.toInt 0 = 0 from rfl); omega)
set_option maxRecDepth 20000 in
set_option maxHeartbeats 4000000 in
theorem c_X11_refusalOfHands {rr : Int32} {s : Nat} {h : im_H} (hI : tI h) (p_rr0 : 0 ≤ rr.toInt) (p_rr1 : rr.toInt ≤ 3) (q_s : s = 140 ∨ s = 142 ∨ s = 144 ∨ s = 146) : CaP 3 68 [.ref 16, .int rr, .ref (16 + s)] h (pI h (fun y => ((fun y => (y.toInt < 0) ∨ (y.toInt = 0 ∧ ∃ p : Int32, rd h s 1 = some (.int p) ∧ 0 ≤ p.toInt ∧ p.toInt ≤ 40 ∧ allB h (s + 1) 0 p.toInt 23)) y) ∧ y = barF (cX h) (absX h 23) (vl h (s + 1) 0) rr ((rv h s 1).toInt.toNat) 0)) := by
  refine cap_of (d := 2) (M := mX11_refusalOfHands) rfl (Nat.le_of_ble_eq_true rfl) ?_
  show EvP im_K0 2 mX11_refusalOfHands (0, [(0, .ref 16), (1, .int rr), (2, .ref (16 + s))], [], h) _
  refine te_iconst (p2 := 1) (x := 0) rfl rfl (by decide) ?_
  obtain ⟨v1, e1, y1, w1, a1, b1, _⟩ := hI.2.1 s 1 (.inl (0, 40, 9999999999)) (by rcases q_s with rfl | rfl | rfl | rfl <;> rfl)
  subst w1
  refine te_istore_n (p2 := 2) (lv2 := [(3, .int 0), (0, .ref 16), (1, .int rr), (2, .ref (16 + s))]) rfl rfl (by decide) rfl ?_
  have lp2 : ∀ (n2 : Nat) (v2_3 : Int32) , 0 ≤ v2_3.toInt → v2_3.toInt ≤ 40 → v2_3.toInt ≤ y1.toInt → allB h (s + 1) 0 v2_3.toInt 23 → (barF (cX h) (absX h 23) (vl h (s + 1) 0) rr ((rv h s 1).toInt.toNat - v2_3.toInt.toNat) v2_3.toInt.toNat = barF (cX h) (absX h 23) (vl h (s + 1) 0) rr ((rv h s 1).toInt.toNat) 0) → 40 - v2_3.toInt < (n2 : Int) → EvP im_K0 2 mX11_refusalOfHands (2, [(0, .ref 16), (1, .int rr), (2, .ref (16 + s)), (3, .int v2_3)], [], h) (pI h (fun y => ((fun y => (y.toInt < 0) ∨ (y.toInt = 0 ∧ ∃ p : Int32, rd h s 1 = some (.int p) ∧ 0 ≤ p.toInt ∧ p.toInt ≤ 40 ∧ allB h (s + 1) 0 p.toInt 23)) y) ∧ y = barF (cX h) (absX h 23) (vl h (s + 1) 0) rr ((rv h s 1).toInt.toNat) 0)) := by
    intro n2
    induction n2 with
    | zero => intro v2_3 a2_3 b2_3 l2_0 w2_0 w2_1 m2; exfalso; omega
    | succ n2 ih2 =>
      intro v2_3 a2_3 b2_3 l2_0 w2_0 w2_1 m2
      refine te_iload_n (p2 := 3) rfl rfl rfl ?_
      refine te_aload_n (p2 := 4) rfl rfl rfl ?_
      refine tg_e (p2 := 7) (i := s) (v := .int y1) rfl rfl hI rfl (by rcases q_s with rfl | rfl | rfl | rfl <;> rfl) e1 ?_
      refine tb_ge (p2 := 10) rfl rfl rfl rfl (fun c3 => ?_) (fun c3 => ?_)
      · refine te_iconst (p2 := 97) (x := 0) rfl rfl (by decide) ?_
        exact te_iret rfl rfl ⟨rfl, _, rfl, ⟨Or.inr ⟨by decide, y1, e1, by omega, by omega, allB_le w2_0 (by omega)⟩, (w2_1.symm.trans (bar_0 (by rw [rv_of e1]; omega))).symm⟩⟩
      · refine te_aload_n (p2 := 11) rfl rfl rfl ?_
        refine tg_r (p2 := 14) (i := s) (r := (16 + (s + 1))) rfl rfl hI rfl (by rcases q_s with rfl | rfl | rfl | rfl <;> rfl) (by rcases q_s with rfl | rfl | rfl | rfl <;> rfl) ?_
        refine te_iload_n (p2 := 15) rfl rfl rfl ?_
        refine tl_i (p2 := 16) (i := (s + 1)) (n := 40) rfl rfl hI rfl (by rcases q_s with rfl | rfl | rfl | rfl <;> rfl) (by rcases q_s with rfl | rfl | rfl | rfl <;> rfl) rfl (by omega) (by omega) (fun y4 a4 b4 g4 e4 => ?_)
        refine te_istore (p2 := 18) (lv2 := [(4, .int y4), (0, .ref 16), (1, .int rr), (2, .ref (16 + s)), (3, .int v2_3)]) rfl rfl (by decide) rfl ?_
        refine te_iload (p2 := 20) rfl rfl rfl ?_
        refine te_aload_n (p2 := 21) rfl rfl rfl ?_
        refine tg_r (p2 := 24) (i := 0) (r := 17) rfl rfl hI rfl rfl rfl ?_
        refine tg_i (p2 := 27) (i := 1) rfl rfl hI rfl rfl rfl (fun y5 a5 b5 e5 => ?_)
        refine cS_pI (p2 := 30) rfl rfl rfl rfl (t_X11_within (n := y4) (b := y5) hI ) (by decide) (fun y6 r6 => ?_)
        rcases r6 with ⟨w6, c6⟩ | ⟨w6, c6⟩
        · subst w6
          refine tz_eq (p2 := 33) rfl rfl (show Int32.toInt 1 = 1 from rfl) (fun c7 => absurd c7 (by omega)) (fun c7 => ?_)
          refine te_aload_n (p2 := 34) rfl rfl rfl ?_
          refine tg_r (p2 := 37) (i := 0) (r := 39) rfl rfl hI rfl rfl rfl ?_
          refine tg_r (p2 := 40) (i := 23) (r := 46) rfl rfl hI rfl rfl rfl ?_
          refine te_iload (p2 := 42) rfl rfl rfl ?_
          refine tl_b (p2 := 43) (i := 30) (n := 24) rfl rfl hI rfl rfl rfl rfl (by omega) (by omega) (fun y8 a8 e8 => ?_)
          refine tz_ne (p2 := 46) rfl rfl rfl (fun c9 => ?_) (fun c9 => ?_)
          · refine te_bipush (p2 := 58) (x := (-2)) rfl rfl (by decide) ?_
            exact te_iret rfl rfl ⟨rfl, _, rfl, ⟨Or.inl (by decide), (w2_1.symm.trans (bar_b (m2 := (rv h s 1).toInt.toNat - v2_3.toInt.toNat - 1) (by rw [rv_of e1]; omega) (Or.inr (Or.inl (by rw [(vl_of (c := s + 1) (o := 0) (i := v2_3.toInt.toNat) (by omega) (by rw [Nat.zero_add]; exact e4)), (show (absX h 23).de y4.toInt.toNat = y8 from (aX_de (by omega)).trans (rv_of e8))]; omega))))).symm⟩⟩
          · refine te_aload_n (p2 := 47) rfl rfl rfl ?_
            refine te_iload_n (p2 := 48) rfl rfl rfl ?_
            refine te_iload (p2 := 50) rfl rfl rfl ?_
            refine cV_pI (p2 := 53) (i := s) rfl rfl rfl rfl hI rfl (by rcases q_s with rfl | rfl | rfl | rfl <;> rfl) rfl (c_X8_hasAheadOf (s := s) (i := v2_3) (number := y4) hI q_s (by omega) (by omega)) (by decide) (fun y10 r10 => ?_)
            rcases r10 with ⟨w10_, ho10⟩ | ⟨w10_, ho10⟩
            · subst w10_
              refine tz_eq (p2 := 56) rfl rfl (show Int32.toInt 1 = 1 from rfl) (fun c11 => absurd c11 (by omega)) (fun c11 => ?_)
              refine te_bipush (p2 := 58) (x := (-2)) rfl rfl (by decide) ?_
              exact te_iret rfl rfl ⟨rfl, _, rfl, ⟨Or.inl (by decide), (w2_1.symm.trans (bar_b (m2 := (rv h s 1).toInt.toNat - v2_3.toInt.toNat - 1) (by rw [rv_of e1]; omega) (Or.inr (Or.inr (by rw [(vl_of (c := s + 1) (o := 0) (i := v2_3.toInt.toNat) (by omega) (by rw [Nat.zero_add]; exact e4))]; exact ho10))))).symm⟩⟩
            · subst w10_
              refine tz_eq (p2 := 56) rfl rfl (show Int32.toInt 0 = 0 from rfl) (fun c12 => ?_) (fun c12 => absurd c12 (by omega))
              refine te_aload_n (p2 := 60) rfl rfl rfl ?_
              refine tg_r (p2 := 63) (i := 0) (r := 17) rfl rfl hI rfl rfl rfl ?_
              refine tg_r (p2 := 66) (i := 1) (r := 22) rfl rfl hI rfl rfl rfl ?_
              refine te_iload (p2 := 68) rfl rfl rfl ?_
              refine tl_i (p2 := 69) (i := 6) (n := 24) rfl rfl hI rfl rfl rfl rfl (by omega) (by omega) (fun y13 a13 b13 g13 e13 => ?_)
              refine te_iconst (p2 := 70) (x := (-1)) rfl rfl (by decide) ?_
              refine tb_eq (p2 := 73) rfl rfl rfl (show Int32.toInt (-1) = (-1) from rfl) (fun c14 => ?_) (fun c14 => ?_)
              · refine ar_inc (p2 := 93) (x := v2_3) rfl rfl (by decide) rfl (by decide) rfl (by omega) (by omega) (fun z15 e15 f15 => ?_)
                show EvP _ _ _ (93, [(3, .int z15), (4, .int y4), (0, .ref 16), (1, .int rr), (2, .ref (16 + s))], [], h) _
                refine te_goto rfl ?_
                refine te_lv [(0, .ref 16), (1, .int rr), (2, .ref (16 + s)), (3, .int z15)] rfl rfl ⟨rfl, rfl, rfl, rfl, trivial⟩ ?_
                exact ih2 z15 (by omega) (by omega) (by omega) (allB_s (k := v2_3.toInt.toNat) w2_0 (by omega) f15 (by rw [Nat.zero_add]; exact e4) (by omega) (by omega)) (by rw [← w2_1]; exact (bar_n (by rw [rv_of e1]; omega) (by omega) (fun q => q.elim (fun a => a (by rw [(vl_of (c := s + 1) (o := 0) (i := v2_3.toInt.toNat) (by omega) (by rw [Nat.zero_add]; exact e4)), (show (cX h).np = y5 from rv_of e5)]; omega)) (fun q => q.elim (fun a => absurd a (by rw [(vl_of (c := s + 1) (o := 0) (i := v2_3.toInt.toNat) (by omega) (by rw [Nat.zero_add]; exact e4)), (show (absX h 23).de y4.toInt.toNat = y8 from (aX_de (by omega)).trans (rv_of e8))]; omega)) (fun a => ho10 (by rw [(vl_of (c := s + 1) (o := 0) (i := v2_3.toInt.toNat) (by omega) (by rw [Nat.zero_add]; exact e4))] at a; exact a)))) (fun q => absurd q (by rw [(vl_of (c := s + 1) (o := 0) (i := v2_3.toInt.toNat) (by omega) (by rw [Nat.zero_add]; exact e4)), (show (cX h).ro y4.toInt.toNat = y13 from (gd_at (by omega)).trans (rv_of e13))]; omega))).symm) (by omega)
              · refine te_aload_n (p2 := 74) rfl rfl rfl ?_
                refine tg_r (p2 := 77) (i := 0) (r := 17) rfl rfl hI rfl rfl rfl ?_
                refine tg_r (p2 := 80) (i := 1) (r := 22) rfl rfl hI rfl rfl rfl ?_
                refine te_iload (p2 := 82) rfl rfl rfl ?_
                refine tl_e (p2 := 83) (i := 6) (n := 24) (t := 0) (Or.inl rfl) rfl rfl hI rfl rfl (by omega) (by omega) e13 ?_
                refine te_iload_n (p2 := 84) rfl rfl rfl ?_
                refine tb_eq (p2 := 87) rfl rfl rfl rfl (fun c17 => ?_) (fun c17 => ?_)
                · refine ar_inc (p2 := 93) (x := v2_3) rfl rfl (by decide) rfl (by decide) rfl (by omega) (by omega) (fun z18 e18 f18 => ?_)
                  show EvP _ _ _ (93, [(3, .int z18), (4, .int y4), (0, .ref 16), (1, .int rr), (2, .ref (16 + s))], [], h) _
                  refine te_goto rfl ?_
                  refine te_lv [(0, .ref 16), (1, .int rr), (2, .ref (16 + s)), (3, .int z18)] rfl rfl ⟨rfl, rfl, rfl, rfl, trivial⟩ ?_
                  exact ih2 z18 (by omega) (by omega) (by omega) (allB_s (k := v2_3.toInt.toNat) w2_0 (by omega) f18 (by rw [Nat.zero_add]; exact e4) (by omega) (by omega)) (by rw [← w2_1]; exact (bar_n (by rw [rv_of e1]; omega) (by omega) (fun q => q.elim (fun a => a (by rw [(vl_of (c := s + 1) (o := 0) (i := v2_3.toInt.toNat) (by omega) (by rw [Nat.zero_add]; exact e4)), (show (cX h).np = y5 from rv_of e5)]; omega)) (fun q => q.elim (fun a => absurd a (by rw [(vl_of (c := s + 1) (o := 0) (i := v2_3.toInt.toNat) (by omega) (by rw [Nat.zero_add]; exact e4)), (show (absX h 23).de y4.toInt.toNat = y8 from (aX_de (by omega)).trans (rv_of e8))]; omega)) (fun a => ho10 (by rw [(vl_of (c := s + 1) (o := 0) (i := v2_3.toInt.toNat) (by omega) (by rw [Nat.zero_add]; exact e4))] at a; exact a)))) (fun q => absurd q (by rw [(vl_of (c := s + 1) (o := 0) (i := v2_3.toInt.toNat) (by omega) (by rw [Nat.zero_add]; exact e4)), (show (cX h).ro y4.toInt.toNat = y13 from (gd_at (by omega)).trans (rv_of e13))]; omega))).symm) (by omega)
                · refine te_bipush (p2 := 89) (x := (-3)) rfl rfl (by decide) ?_
                  exact te_iret rfl rfl ⟨rfl, _, rfl, ⟨Or.inl (by decide), (w2_1.symm.trans (bar_s (m2 := (rv h s 1).toInt.toNat - v2_3.toInt.toNat - 1) (by rw [rv_of e1]; omega) (fun q => q.elim (fun a => a (by rw [(vl_of (c := s + 1) (o := 0) (i := v2_3.toInt.toNat) (by omega) (by rw [Nat.zero_add]; exact e4)), (show (cX h).np = y5 from rv_of e5)]; omega)) (fun q => q.elim (fun a => absurd a (by rw [(vl_of (c := s + 1) (o := 0) (i := v2_3.toInt.toNat) (by omega) (by rw [Nat.zero_add]; exact e4)), (show (absX h 23).de y4.toInt.toNat = y8 from (aX_de (by omega)).trans (rv_of e8))]; omega)) (fun a => ho10 (by rw [(vl_of (c := s + 1) (o := 0) (i := v2_3.toInt.toNat) (by omega) (by rw [Nat.zero_add]; exact e4))] at a; exact a)))) (by rw [(vl_of (c := s + 1) (o := 0) (i := v2_3.toInt.toNat) (by omega) (by rw [Nat.zero_add]; exact e4)), (show (cX h).ro y4.toInt.toNat = y13 from (gd_at (by omega)).trans (rv_of e13))]; omega))).symm⟩⟩
        · subst w6
          refine tz_eq (p2 := 33) rfl rfl (show Int32.toInt 0 = 0 from rfl) (fun c19 => ?_) (fun c19 => absurd c19 (by omega))
          refine te_bipush (p2 := 58) (x := (-2)) rfl rfl (by decide) ?_
          exact te_iret rfl rfl ⟨rfl, _, rfl, ⟨Or.inl (by decide), (w2_1.symm.trans (bar_b (m2 := (rv h s 1).toInt.toNat - v2_3.toInt.toNat - 1) (by rw [rv_of e1]; omega) (Or.inl (by rw [(vl_of (c := s + 1) (o := 0) (i := v2_3.toInt.toNat) (by omega) (by rw [Nat.zero_add]; exact e4)), (show (cX h).np = y5 from rv_of e5)]; omega)))).symm⟩⟩
  refine te_lv [(0, .ref 16), (1, .int rr), (2, .ref (16 + s)), (3, .int 0)] rfl rfl ⟨rfl, rfl, rfl, rfl, trivial⟩ ?_
  exact lp2 41 0 (by decide) (by decide) (by have cc0 := (show Int32.toInt 0 = 0 from rfl); omega) (allB_0 (by decide)) rfl (by have cc0 := (show Int32.toInt 0 = 0 from rfl); omega)
set_option maxRecDepth 20000 in
set_option maxHeartbeats 4000000 in
theorem c_X0_setHands {rr : Int32} {s : Nat} {h : im_H} (hI : tI h) (p_rr0 : 0 ≤ rr.toInt) (p_rr1 : rr.toInt ≤ 3) (q_s : s = 140 ∨ s = 142 ∨ s = 144 ∨ s = 146) (pr0 : ∀ p : Int32, rd h s 1 = some (.int p) → allB h (s + 1) 0 p.toInt 23) (hp0 : ∃ p : Int32, rd h s 1 = some (.int p) ∧ 0 ≤ p.toInt ∧ p.toInt ≤ 8) : CaP 1 1 [.ref 17, .int rr, .ref (16 + s)] h (fun v h2 => tI h2 ∧ fr F_X0_setHands h h2 ∧ v = none ∧ ∃ z : Int32, rd h s 1 = some (.int z) ∧ (∀ j k : Nat, j ≠ 6 → j ≠ 13 + 2 * rr.toInt.toNat → (j ≠ 12 + 2 * rr.toInt.toNat ∨ k ≠ 1) → rd h2 j k = rd h j k) ∧ rd h2 (12 + 2 * rr.toInt.toNat) 1 = some (.int z) ∧ (∀ m : Nat, m < 8 → rv h2 (13 + 2 * rr.toInt.toNat) m = if m < z.toInt.toNat then (vl h (s + 1) 0) m else rv h (13 + 2 * rr.toInt.toNat) m) ∧ (∀ p : Nat, p < 24 → ((∃ j : Nat, j < z.toInt.toNat ∧ ((vl h (s + 1) 0) j).toInt = p) → rv h2 6 p = rr) ∧ (¬ (∃ j : Nat, j < z.toInt.toNat ∧ ((vl h (s + 1) 0) j).toInt = p) → rv h2 6 p = if (rv h 6 p).toInt = rr.toInt then -1 else rv h 6 p))) := by
  refine cap_of (d := 0) (M := mX0_setHands) rfl (Nat.le_of_ble_eq_true rfl) ?_
  show EvP im_K0 0 mX0_setHands (0, [(0, .ref 17), (1, .int rr), (2, .ref (16 + s))], [], h) _
  obtain ⟨pp0, ep0, ap0, bp0⟩ := hp0
  have f0 : fr F_X0_setHands h h := fr_rf
  refine te_iconst (p2 := 1) (x := 0) rfl rfl (by decide) ?_
  refine te_istore_n (p2 := 2) (lv2 := [(3, .int 0), (0, .ref 17), (1, .int rr), (2, .ref (16 + s))]) rfl rfl (by decide) rfl ?_
  have lp1 : ∀ (n1 : Nat) (v1_3 : Int32) (h1 : im_H), tI h1 → fr F_X0_setHands h h1 → 0 ≤ v1_3.toInt → v1_3.toInt ≤ 24 → (∀ j m : Nat, j ≠ 6 → rd h1 j m = rd h j m) → (∀ p : Nat, p < 24 → rv h1 6 p = if p < v1_3.toInt.toNat ∧ (rv h 6 p).toInt = rr.toInt then -1 else rv h 6 p) → 24 - v1_3.toInt < (n1 : Int) → EvP im_K0 0 mX0_setHands (2, [(0, .ref 17), (1, .int rr), (2, .ref (16 + s)), (3, .int v1_3)], [], h1) (fun v h2 => tI h2 ∧ fr F_X0_setHands h h2 ∧ v = none ∧ ∃ z : Int32, rd h s 1 = some (.int z) ∧ (∀ j k : Nat, j ≠ 6 → j ≠ 13 + 2 * rr.toInt.toNat → (j ≠ 12 + 2 * rr.toInt.toNat ∨ k ≠ 1) → rd h2 j k = rd h j k) ∧ rd h2 (12 + 2 * rr.toInt.toNat) 1 = some (.int z) ∧ (∀ m : Nat, m < 8 → rv h2 (13 + 2 * rr.toInt.toNat) m = if m < z.toInt.toNat then (vl h (s + 1) 0) m else rv h (13 + 2 * rr.toInt.toNat) m) ∧ (∀ p : Nat, p < 24 → ((∃ j : Nat, j < z.toInt.toNat ∧ ((vl h (s + 1) 0) j).toInt = p) → rv h2 6 p = rr) ∧ (¬ (∃ j : Nat, j < z.toInt.toNat ∧ ((vl h (s + 1) 0) j).toInt = p) → rv h2 6 p = if (rv h 6 p).toInt = rr.toInt then -1 else rv h 6 p))) := by
    intro n1
    induction n1 with
    | zero => intro v1_3 h1 I1 f1 a1_3 b1_3 w1_0 w1_1 m1; exfalso; omega
    | succ n1 ih1 =>
      intro v1_3 h1 I1 f1 a1_3 b1_3 w1_0 w1_1 m1
      refine te_iload_n (p2 := 3) rfl rfl rfl ?_
      refine te_bipush (p2 := 5) (x := 24) rfl rfl (by decide) ?_
      refine tb_ge (p2 := 8) rfl rfl rfl (show Int32.toInt 24 = 24 from rfl) (fun c2 => ?_) (fun c2 => ?_)
      · refine te_aload_n (p2 := 32) rfl rfl rfl ?_
        refine tg_r (p2 := 35) (i := 1) (r := 23) rfl rfl I1 rfl rfl rfl ?_
        refine te_iload_n (p2 := 36) rfl rfl rfl ?_
        refine tl_f (p2 := 37) (i := 7) (n := 4) (c0 := 12) (sp := 2) rfl rfl I1 rfl rfl (by decide) rq_7 (by omega) (by omega) (fun o3 w3 => ?_)
        have q3 : o3 = 12 ∨ o3 = 14 ∨ o3 = 16 ∨ o3 = 18 := by omega
        refine te_aload_n (p2 := 38) rfl rfl rfl ?_
        refine tg_e (p2 := 41) (i := s) (v := .int pp0) rfl rfl I1 rfl (by rcases q_s with rfl | rfl | rfl | rfl <;> rfl) ((f1 _ _ (by rcases q_s with rfl | rfl | rfl | rfl <;> rfl)).trans ep0) ?_
        refine tp_i (p2 := 44) (i := o3) rfl rfl I1 rfl (by rcases q3 with rfl | rfl | rfl | rfl <;> rfl) (by decide) rfl rfl (by rcases q3 with rfl | rfl | rfl | rfl <;> rfl) (by omega) (by omega) (by omega) (by rcases q3 with rfl | rfl | rfl | rfl <;> rfl) (fun h4 I4 u4 => ?_)
        have f4 := fr_up (F := F_X0_setHands) (a := 1) (b := 1) f1 u4 (by rcases q3 with rfl | rfl | rfl | rfl <;> decide) (by decide) (by decide)
        refine te_iconst (p2 := 45) (x := 0) rfl rfl (by decide) ?_
        refine te_istore_n (p2 := 46) (lv2 := [(3, .int 0), (0, .ref 17), (1, .int rr), (2, .ref (16 + s))]) rfl rfl (by decide) rfl ?_
        have lp5 : ∀ (n5 : Nat) (v5_3 : Int32) (h5 : im_H), tI h5 → fr F_X0_setHands h h5 → 0 ≤ v5_3.toInt → v5_3.toInt ≤ 8 → v5_3.toInt ≤ pp0.toInt → (∀ j k : Nat, j ≠ 6 → j ≠ 13 + 2 * rr.toInt.toNat → (j ≠ 12 + 2 * rr.toInt.toNat ∨ k ≠ 1) → rd h5 j k = rd h j k) → (rd h5 (12 + 2 * rr.toInt.toNat) 1 = some (.int pp0)) → (∀ m : Nat, m < 8 → rv h5 (13 + 2 * rr.toInt.toNat) m = if m < v5_3.toInt.toNat then (vl h (s + 1) 0) m else rv h (13 + 2 * rr.toInt.toNat) m) → (∀ p : Nat, p < 24 → ((∃ j : Nat, j < v5_3.toInt.toNat ∧ ((vl h (s + 1) 0) j).toInt = p) → rv h5 6 p = rr) ∧ (¬ (∃ j : Nat, j < v5_3.toInt.toNat ∧ ((vl h (s + 1) 0) j).toInt = p) → rv h5 6 p = if (rv h 6 p).toInt = rr.toInt then -1 else rv h 6 p)) → 8 - v5_3.toInt < (n5 : Int) → EvP im_K0 0 mX0_setHands (46, [(0, .ref 17), (1, .int rr), (2, .ref (16 + s)), (3, .int v5_3)], [], h5) (fun v h2 => tI h2 ∧ fr F_X0_setHands h h2 ∧ v = none ∧ ∃ z : Int32, rd h s 1 = some (.int z) ∧ (∀ j k : Nat, j ≠ 6 → j ≠ 13 + 2 * rr.toInt.toNat → (j ≠ 12 + 2 * rr.toInt.toNat ∨ k ≠ 1) → rd h2 j k = rd h j k) ∧ rd h2 (12 + 2 * rr.toInt.toNat) 1 = some (.int z) ∧ (∀ m : Nat, m < 8 → rv h2 (13 + 2 * rr.toInt.toNat) m = if m < z.toInt.toNat then (vl h (s + 1) 0) m else rv h (13 + 2 * rr.toInt.toNat) m) ∧ (∀ p : Nat, p < 24 → ((∃ j : Nat, j < z.toInt.toNat ∧ ((vl h (s + 1) 0) j).toInt = p) → rv h2 6 p = rr) ∧ (¬ (∃ j : Nat, j < z.toInt.toNat ∧ ((vl h (s + 1) 0) j).toInt = p) → rv h2 6 p = if (rv h 6 p).toInt = rr.toInt then -1 else rv h 6 p))) := by
          intro n5
          induction n5 with
          | zero => intro v5_3 h5 I5 f5 a5_3 b5_3 l5_0 w5_0 w5_1 w5_2 w5_3 m5; exfalso; omega
          | succ n5 ih5 =>
            intro v5_3 h5 I5 f5 a5_3 b5_3 l5_0 w5_0 w5_1 w5_2 w5_3 m5
            refine te_iload_n (p2 := 47) rfl rfl rfl ?_
            refine te_aload_n (p2 := 48) rfl rfl rfl ?_
            refine tg_e (p2 := 51) (i := s) (v := .int pp0) rfl rfl I5 rfl (by rcases q_s with rfl | rfl | rfl | rfl <;> rfl) ((f5 _ _ (by rcases q_s with rfl | rfl | rfl | rfl <;> rfl)).trans ep0) ?_
            refine tb_ge (p2 := 54) rfl rfl rfl rfl (fun c6 => ?_) (fun c6 => ?_)
            · exact te_vret rfl rfl ⟨I5, f5, rfl, pp0, ep0, w5_0, w5_1, (by rw [← (show v5_3.toInt.toNat = pp0.toInt.toNat by omega)]; exact w5_2), (by rw [← (show v5_3.toInt.toNat = pp0.toInt.toNat by omega)]; exact w5_3)⟩
            · refine te_aload_n (p2 := 55) rfl rfl rfl ?_
              refine tg_r (p2 := 58) (i := 1) (r := 23) rfl rfl I5 rfl rfl rfl ?_
              refine te_iload_n (p2 := 59) rfl rfl rfl ?_
              refine tl_f (p2 := 60) (i := 7) (n := 4) (c0 := 12) (sp := 2) rfl rfl I5 rfl rfl (by decide) rq_7 (by omega) (by omega) (fun o7 w7 => ?_)
              have q7 : o7 = 12 ∨ o7 = 14 ∨ o7 = 16 ∨ o7 = 18 := by omega
              refine tg_r (p2 := 63) (i := o7) (r := (16 + (o7 + 1))) rfl rfl I5 rfl (by rcases q7 with rfl | rfl | rfl | rfl <;> rfl) (by rcases q7 with rfl | rfl | rfl | rfl <;> rfl) ?_
              refine te_iload_n (p2 := 64) rfl rfl rfl ?_
              refine te_aload_n (p2 := 65) rfl rfl rfl ?_
              refine tg_r (p2 := 68) (i := s) (r := (16 + (s + 1))) rfl rfl I5 rfl (by rcases q_s with rfl | rfl | rfl | rfl <;> rfl) (by rcases q_s with rfl | rfl | rfl | rfl <;> rfl) ?_
              refine te_iload_n (p2 := 69) rfl rfl rfl ?_
              refine tl_i (p2 := 70) (i := (s + 1)) (n := 40) rfl rfl I5 rfl (by rcases q_s with rfl | rfl | rfl | rfl <;> rfl) (by rcases q_s with rfl | rfl | rfl | rfl <;> rfl) rfl (by omega) (by omega) (fun y8 a8 b8 g8 e8 => ?_)
              obtain ⟨a9, b9⟩ := allB_at (allB_fr (pr0 pp0 ep0) (fun q => f5 _ _ (by rcases q_s with rfl | rfl | rfl | rfl <;> rfl))) v5_3.toInt.toNat (by omega) (by rw [Nat.zero_add]) e8
              refine ts_i (p2 := 71) (i := (o7 + 1)) (n := 8) rfl rfl I5 rfl (by rcases q7 with rfl | rfl | rfl | rfl <;> rfl) (by rcases q7 with rfl | rfl | rfl | rfl <;> rfl) rfl (by omega) (by omega) (by omega) (by omega) (by omega) (by rcases q7 with rfl | rfl | rfl | rfl <;> rfl) (fun h10 I10 u10 => ?_)
              have f10 := fr_up (F := F_X0_setHands) (a := 0) (b := 7) f5 u10 (by rcases q7 with rfl | rfl | rfl | rfl <;> decide) (by omega) (by omega)
              refine te_aload_n (p2 := 72) rfl rfl rfl ?_
              refine tg_r (p2 := 75) (i := 1) (r := 22) rfl rfl I10 rfl rfl rfl ?_
              refine te_aload_n (p2 := 76) rfl rfl rfl ?_
              refine tg_r (p2 := 79) (i := s) (r := (16 + (s + 1))) rfl rfl I10 rfl (by rcases q_s with rfl | rfl | rfl | rfl <;> rfl) (by rcases q_s with rfl | rfl | rfl | rfl <;> rfl) ?_
              refine te_iload_n (p2 := 80) rfl rfl rfl ?_
              refine tl_e (p2 := 81) (i := (s + 1)) (n := 40) (t := 0) (Or.inl rfl) rfl rfl I10 rfl (by rcases q_s with rfl | rfl | rfl | rfl <;> rfl) (by omega) (by omega) ((u10.2 _ _ (Or.inl (by omega))).trans e8) ?_
              obtain ⟨a12, b12⟩ := allB_at (allB_fr (pr0 pp0 ep0) (fun q => f10 _ _ (by rcases q_s with rfl | rfl | rfl | rfl <;> rfl))) v5_3.toInt.toNat (by omega) (by rw [Nat.zero_add]) ((u10.2 _ _ (Or.inl (by omega))).trans e8)
              refine te_iload_n (p2 := 82) rfl rfl rfl ?_
              refine ts_i (p2 := 83) (i := 6) (n := 24) rfl rfl I10 rfl rfl rfl rfl (by omega) (by omega) (by omega) (by omega) (by omega) rfl (fun h13 I13 u13 => ?_)
              have f13 := fr_st (F := F_X0_setHands) 8 f10 u13 rfl (by omega) (by omega)
              refine ar_inc (p2 := 86) (x := v5_3) rfl rfl (by decide) rfl (by decide) rfl (by omega) (by omega) (fun z14 e14 f14 => ?_)
              show EvP _ _ _ (86, [(3, .int z14), (0, .ref 17), (1, .int rr), (2, .ref (16 + s))], [], h13) _
              refine te_goto rfl ?_
              refine te_lv [(0, .ref 17), (1, .int rr), (2, .ref (16 + s)), (3, .int z14)] rfl rfl ⟨rfl, rfl, rfl, rfl, trivial⟩ ?_
              exact ih5 z14 h13 I13 f13 (by omega) (by omega) (by omega) (fun j m h6 h13 h12 => (u13.2 _ _ (Or.inl h6)).trans ((u10.2 _ _ (Or.inl (by omega))).trans (w5_0 j m h6 h13 h12))) ((u13.2 _ _ (Or.inl (by omega))).trans ((u10.2 _ _ (Or.inl (by omega))).trans w5_1)) (fun m hm => by rw [rv_ni u13 (Or.inl (by omega))]; (by_cases hc : m = v5_3.toInt.toNat); (· rw [if_pos (by omega), hc, (show (vl h (s + 1) 0) v5_3.toInt.toNat = y8 from vl_of (c := s + 1) (o := 0) (i := v5_3.toInt.toNat) (by omega) (by rw [Nat.zero_add]; exact (f5 _ _ (by rcases q_s with rfl | rfl | rfl | rfl <;> rfl)).symm.trans e8)), show 13 + 2 * rr.toInt.toNat = (o7 + 1) by omega]; exact rv_of u10.1); (· rw [rv_ni u10 (Or.inr hc), w5_2 m hm]; (by_cases hq : m < v5_3.toInt.toNat); (· rw [if_pos hq, if_pos (by omega)]); (· rw [if_neg hq, if_neg (by omega)]))) (fun p hp => by (have hw := w5_3 p hp); (by_cases hc : p = y8.toInt.toNat); (· refine ⟨fun _ => by rw [hc]; exact rv_of u13.1, fun hn => absurd ⟨v5_3.toInt.toNat, by omega, by rw [(show (vl h (s + 1) 0) v5_3.toInt.toNat = y8 from vl_of (c := s + 1) (o := 0) (i := v5_3.toInt.toNat) (by omega) (by rw [Nat.zero_add]; exact (f5 _ _ (by rcases q_s with rfl | rfl | rfl | rfl <;> rfl)).symm.trans e8))]; omega⟩ hn⟩); (· rw [rv_ni u13 (Or.inr hc), rv_ni u10 (Or.inl (by omega))]; exact ⟨fun ⟨j, hj, ej⟩ => hw.1 ⟨j, (by (by_cases hjv : j = v5_3.toInt.toNat); (· rw [hjv, (show (vl h (s + 1) 0) v5_3.toInt.toNat = y8 from vl_of (c := s + 1) (o := 0) (i := v5_3.toInt.toNat) (by omega) (by rw [Nat.zero_add]; exact (f5 _ _ (by rcases q_s with rfl | rfl | rfl | rfl <;> rfl)).symm.trans e8))] at ej; exact absurd ej (by omega)); (· omega)), ej⟩, fun hn => hw.2 (fun ⟨j, hj, ej⟩ => hn ⟨j, by omega, ej⟩)⟩)) (by omega)
        refine te_lv [(0, .ref 17), (1, .int rr), (2, .ref (16 + s)), (3, .int 0)] rfl rfl ⟨rfl, rfl, rfl, rfl, trivial⟩ ?_
        exact lp5 9 0 h4 I4 f4 (by decide) (by decide) (by have cc0 := (show Int32.toInt 0 = 0 from rfl); omega) (fun j m h6 h13 h12 => (u4.2 _ _ (by omega)).trans (w1_0 j m h6)) (by rw [show 12 + 2 * rr.toInt.toNat = o3 by omega]; exact u4.1) (fun m hm => by rw [if_neg (show ¬ m < (Int32.toInt 0).toNat from Nat.not_lt_zero m), rv_ni u4 (Or.inl (by omega))]; exact rv_q (w1_0 _ _ (by omega))) (fun p hp => ⟨fun ⟨j, hj, _⟩ => absurd hj (Nat.not_lt_zero j), fun _ => by rw [rv_ni u4 (Or.inl (by omega)), w1_1 p hp]; (by_cases hq : (rv h 6 p).toInt = rr.toInt); (· rw [if_pos ⟨by omega, hq⟩, if_pos hq]); (· rw [if_neg (fun q => hq q.2), if_neg hq])⟩) (by have cc0 := (show Int32.toInt 0 = 0 from rfl); omega)
      · refine te_aload_n (p2 := 9) rfl rfl rfl ?_
        refine tg_r (p2 := 12) (i := 1) (r := 22) rfl rfl I1 rfl rfl rfl ?_
        refine te_iload_n (p2 := 13) rfl rfl rfl ?_
        refine tl_i (p2 := 14) (i := 6) (n := 24) rfl rfl I1 rfl rfl rfl rfl (by omega) (by omega) (fun y15 a15 b15 g15 e15 => ?_)
        refine te_iload_n (p2 := 15) rfl rfl rfl ?_
        refine tb_ne (p2 := 18) rfl rfl rfl rfl (fun c16 => ?_) (fun c16 => ?_)
        · refine ar_inc (p2 := 28) (x := v1_3) rfl rfl (by decide) rfl (by decide) rfl (by omega) (by omega) (fun z17 e17 f17 => ?_)
          show EvP _ _ _ (28, [(3, .int z17), (0, .ref 17), (1, .int rr), (2, .ref (16 + s))], [], h1) _
          refine te_goto rfl ?_
          refine te_lv [(0, .ref 17), (1, .int rr), (2, .ref (16 + s)), (3, .int z17)] rfl rfl ⟨rfl, rfl, rfl, rfl, trivial⟩ ?_
          exact ih1 z17 h1 I1 f1 (by omega) (by omega) w1_0 (fun p hp => by (by_cases hc : p = v1_3.toInt.toNat); (· (have h9 := w1_1 p hp); rw [if_neg (fun q => absurd q.1 (by omega))] at h9; (have hy : rv h 6 p = y15 := (by rw [← h9, hc]; exact rv_of e15)); rw [if_neg (fun q => absurd q.2 (by rw [hy]; omega))]; exact h9); (· rw [w1_1 p hp]; (by_cases hq : p < v1_3.toInt.toNat ∧ (rv h 6 p).toInt = rr.toInt); (· rw [if_pos hq, if_pos ⟨by omega, hq.2⟩]); (· rw [if_neg hq, if_neg (fun q => hq ⟨by omega, q.2⟩)]))) (by omega)
        · refine te_aload_n (p2 := 19) rfl rfl rfl ?_
          refine tg_r (p2 := 22) (i := 1) (r := 22) rfl rfl I1 rfl rfl rfl ?_
          refine te_iload_n (p2 := 23) rfl rfl rfl ?_
          refine te_iconst (p2 := 24) (x := (-1)) rfl rfl (by decide) ?_
          refine ts_i (p2 := 25) (i := 6) (n := 24) rfl rfl I1 rfl rfl rfl rfl (by omega) (by omega) (by decide) (by decide) (by decide) rfl (fun h18 I18 u18 => ?_)
          have f18 := fr_st (F := F_X0_setHands) 8 f1 u18 rfl (by omega) (by omega)
          refine ar_inc (p2 := 28) (x := v1_3) rfl rfl (by decide) rfl (by decide) rfl (by omega) (by omega) (fun z19 e19 f19 => ?_)
          show EvP _ _ _ (28, [(3, .int z19), (0, .ref 17), (1, .int rr), (2, .ref (16 + s))], [], h18) _
          refine te_goto rfl ?_
          refine te_lv [(0, .ref 17), (1, .int rr), (2, .ref (16 + s)), (3, .int z19)] rfl rfl ⟨rfl, rfl, rfl, rfl, trivial⟩ ?_
          exact ih1 z19 h18 I18 f18 (by omega) (by omega) (fun j m hj => (u18.2 _ _ (Or.inl hj)).trans (w1_0 j m hj)) (fun p hp => by (by_cases hc : p = v1_3.toInt.toNat); (· (have h9 := w1_1 p hp); rw [if_neg (fun q => absurd q.1 (by omega))] at h9; (have hy : rv h 6 p = y15 := (by rw [← h9, hc]; exact rv_of e15)); rw [if_pos ⟨by omega, by rw [hy]; omega⟩, hc]; exact rv_of u18.1); (· rw [rv_ni u18 (Or.inr hc), w1_1 p hp]; (by_cases hq : p < v1_3.toInt.toNat ∧ (rv h 6 p).toInt = rr.toInt); (· rw [if_pos hq, if_pos ⟨by omega, hq.2⟩]); (· rw [if_neg hq, if_neg (fun q => hq ⟨by omega, q.2⟩)]))) (by omega)
  refine te_lv [(0, .ref 17), (1, .int rr), (2, .ref (16 + s)), (3, .int 0)] rfl rfl ⟨rfl, rfl, rfl, rfl, trivial⟩ ?_
  exact lp1 25 0 h hI f0 (by decide) (by decide) (fun _ _ _ => rfl) (fun p hp => (if_neg (fun q => absurd q.1 (Nat.not_lt_zero p))).symm) (by have cc0 := (show Int32.toInt 0 = 0 from rfl); omega)
set_option maxRecDepth 20000 in
set_option maxHeartbeats 4000000 in
theorem c_X11_areBeside {c : Int32} {o : Int32} {h : im_H} (hI : tI h) (p_c0 : 0 ≤ c.toInt) (p_c1 : c.toInt ≤ 99) : CaP 2 113 [.int c, .int o] h (pI h (fun y => (y = 1 ∧ bes c o) ∨ (y = 0 ∧ ¬ (bes c o)))) := by
  refine cap_of (d := 1) (M := mX11_areBeside) rfl (Nat.le_of_ble_eq_true rfl) ?_
  show EvP im_K0 1 mX11_areBeside (0, [(0, .int c), (1, .int o)], [], h) _
  refine te_iconst (p2 := 1) (x := 0) rfl rfl (by decide) ?_
  refine te_istore_n (p2 := 2) (lv2 := [(2, .int 0), (0, .int c), (1, .int o)]) rfl rfl (by decide) rfl ?_
  have lp1 : ∀ (n1 : Nat) (v1_2 : Int32) , 0 ≤ v1_2.toInt → v1_2.toInt ≤ 4 → (∀ s : Int32, 0 ≤ s.toInt → s.toInt < v1_2.toInt → nbr c s ≠ o) → 4 - v1_2.toInt < (n1 : Int) → EvP im_K0 1 mX11_areBeside (2, [(0, .int c), (1, .int o), (2, .int v1_2)], [], h) (pI h (fun y => (y = 1 ∧ bes c o) ∨ (y = 0 ∧ ¬ (bes c o)))) := by
    intro n1
    induction n1 with
    | zero => intro v1_2 a1_2 b1_2 w1_0 m1; exfalso; omega
    | succ n1 ih1 =>
      intro v1_2 a1_2 b1_2 w1_0 m1
      refine te_iload_n (p2 := 3) rfl rfl rfl ?_
      refine te_iconst (p2 := 4) (x := 4) rfl rfl (by decide) ?_
      refine tb_ge (p2 := 7) rfl rfl rfl (show Int32.toInt 4 = 4 from rfl) (fun c2 => ?_) (fun c2 => ?_)
      · refine te_iconst (p2 := 25) (x := 0) rfl rfl (by decide) ?_
        exact te_zret rfl rfl (by decide) ⟨rfl, _, rfl, Or.inr ⟨rfl, fun ⟨s, a, b, e⟩ => w1_0 s a (by omega) e⟩⟩
      · refine te_iload_n (p2 := 8) rfl rfl rfl ?_
        refine te_iload_n (p2 := 9) rfl rfl rfl ?_
        refine cS_pI (p2 := 12) rfl rfl rfl rfl (t_X11_cellOnSide (c := c) (side := v1_2) hI (by omega) (by omega)) (by decide) (fun y3 r3 => ?_)
        obtain ⟨a3, b3, e3⟩ := r3
        refine te_iload_n (p2 := 13) rfl rfl rfl ?_
        refine tb_ne (p2 := 16) rfl rfl rfl rfl (fun c4 => ?_) (fun c4 => ?_)
        · refine ar_inc (p2 := 21) (x := v1_2) rfl rfl (by decide) rfl (by decide) rfl (by omega) (by omega) (fun z5 e5 f5 => ?_)
          show EvP _ _ _ (21, [(2, .int z5), (0, .int c), (1, .int o)], [], h) _
          refine te_goto rfl ?_
          refine te_lv [(0, .int c), (1, .int o), (2, .int z5)] rfl rfl ⟨rfl, rfl, rfl, trivial⟩ ?_
          exact ih1 z5 (by omega) (by omega) (fun s h0 h1 hn => by (by_cases hc : s.toInt = v1_2.toInt); (· have e1 : s = v1_2 := i32_ext hc; rw [e1] at hn; have e2 := congrArg Int32.toInt ((e3).trans hn); omega); (· exact w1_0 s h0 (by omega) hn)) (by omega)
        · refine te_iconst (p2 := 17) (x := 1) rfl rfl (by decide) ?_
          exact te_zret rfl rfl (by decide) ⟨rfl, _, rfl, Or.inl ⟨rfl, v1_2, by omega, by omega, (e3).symm.trans (i32_ext (by omega))⟩⟩
  refine te_lv [(0, .int c), (1, .int o), (2, .int 0)] rfl rfl ⟨rfl, rfl, rfl, trivial⟩ ?_
  exact lp1 5 0 (by decide) (by decide) (fun s h0 h1 => by exfalso; have := (show Int32.toInt 0 = 0 from rfl); omega) (by have cc0 := (show Int32.toInt 0 = 0 from rfl); omega)
set_option maxRecDepth 20000 in
set_option maxHeartbeats 4000000 in
theorem c_X12_areBeside {c : Int32} {o : Int32} {h : im_H} (hI : tI h) (p_c0 : 0 ≤ c.toInt) (p_c1 : c.toInt ≤ 99) : CaP 2 121 [.int c, .int o] h (pI h (fun y => (y = 1 ∧ bes c o) ∨ (y = 0 ∧ ¬ (bes c o)))) := by
  refine cap_of (d := 1) (M := mX12_areBeside) rfl (Nat.le_of_ble_eq_true rfl) ?_
  show EvP im_K0 1 mX12_areBeside (0, [(0, .int c), (1, .int o)], [], h) _
  refine te_iconst (p2 := 1) (x := 0) rfl rfl (by decide) ?_
  refine te_istore_n (p2 := 2) (lv2 := [(2, .int 0), (0, .int c), (1, .int o)]) rfl rfl (by decide) rfl ?_
  have lp1 : ∀ (n1 : Nat) (v1_2 : Int32) , 0 ≤ v1_2.toInt → v1_2.toInt ≤ 4 → (∀ s : Int32, 0 ≤ s.toInt → s.toInt < v1_2.toInt → nbr c s ≠ o) → 4 - v1_2.toInt < (n1 : Int) → EvP im_K0 1 mX12_areBeside (2, [(0, .int c), (1, .int o), (2, .int v1_2)], [], h) (pI h (fun y => (y = 1 ∧ bes c o) ∨ (y = 0 ∧ ¬ (bes c o)))) := by
    intro n1
    induction n1 with
    | zero => intro v1_2 a1_2 b1_2 w1_0 m1; exfalso; omega
    | succ n1 ih1 =>
      intro v1_2 a1_2 b1_2 w1_0 m1
      refine te_iload_n (p2 := 3) rfl rfl rfl ?_
      refine te_iconst (p2 := 4) (x := 4) rfl rfl (by decide) ?_
      refine tb_ge (p2 := 7) rfl rfl rfl (show Int32.toInt 4 = 4 from rfl) (fun c2 => ?_) (fun c2 => ?_)
      · refine te_iconst (p2 := 25) (x := 0) rfl rfl (by decide) ?_
        exact te_zret rfl rfl (by decide) ⟨rfl, _, rfl, Or.inr ⟨rfl, fun ⟨s, a, b, e⟩ => w1_0 s a (by omega) e⟩⟩
      · refine te_iload_n (p2 := 8) rfl rfl rfl ?_
        refine te_iload_n (p2 := 9) rfl rfl rfl ?_
        refine cS_pI (p2 := 12) rfl rfl rfl rfl (t_X12_nextTo (c := c) (side := v1_2) hI (by omega) (by omega)) (by decide) (fun y3 r3 => ?_)
        obtain ⟨a3, b3, e3⟩ := r3
        refine te_iload_n (p2 := 13) rfl rfl rfl ?_
        refine tb_ne (p2 := 16) rfl rfl rfl rfl (fun c4 => ?_) (fun c4 => ?_)
        · refine ar_inc (p2 := 21) (x := v1_2) rfl rfl (by decide) rfl (by decide) rfl (by omega) (by omega) (fun z5 e5 f5 => ?_)
          show EvP _ _ _ (21, [(2, .int z5), (0, .int c), (1, .int o)], [], h) _
          refine te_goto rfl ?_
          refine te_lv [(0, .int c), (1, .int o), (2, .int z5)] rfl rfl ⟨rfl, rfl, rfl, trivial⟩ ?_
          exact ih1 z5 (by omega) (by omega) (fun s h0 h1 hn => by (by_cases hc : s.toInt = v1_2.toInt); (· have e1 : s = v1_2 := i32_ext hc; rw [e1] at hn; have e2 := congrArg Int32.toInt ((e3).trans hn); omega); (· exact w1_0 s h0 (by omega) hn)) (by omega)
        · refine te_iconst (p2 := 17) (x := 1) rfl rfl (by decide) ?_
          exact te_zret rfl rfl (by decide) ⟨rfl, _, rfl, Or.inl ⟨rfl, v1_2, by omega, by omega, (e3).symm.trans (i32_ext (by omega))⟩⟩
  refine te_lv [(0, .int c), (1, .int o), (2, .int 0)] rfl rfl ⟨rfl, rfl, rfl, trivial⟩ ?_
  exact lp1 5 0 (by decide) (by decide) (fun s h0 h1 => by exfalso; have := (show Int32.toInt 0 = 0 from rfl); omega) (by have cc0 := (show Int32.toInt 0 = 0 from rfl); omega)
abbrev Q1_row (x1 x2 x3 x4 : Int32) (y : Int32) (h h2 : im_H) : Prop := (y, cX h2) = row_f x1 x2 x3 x4 (rv h (140 + 2 * x2.toInt.toNat) 0) (rv h (140 + 2 * x2.toInt.toNat) 1) (vl h (141 + 2 * x2.toInt.toNat) 0) (cX h) (absX h 23)
set_option maxRecDepth 20000 in
set_option maxHeartbeats 4000000 in
theorem c_X11_row {x1 : Int32} {x2 : Int32} {x3 : Int32} {x4 : Int32} {h : im_H} (hI : tI h)  : CaP 4 67 [.ref 16, .int x1, .int x2, .int x3, .int x4] h (fun v h2 => tI h2 ∧ fr F_X11_row h h2 ∧ ∃ y : Int32, v = some (.int y) ∧ Q1_row x1 x2 x3 x4 y h h2) := by
  refine cap_of (d := 3) (M := mX11_row) rfl (Nat.le_of_ble_eq_true rfl) ?_
  show EvP im_K0 3 mX11_row (0, [(0, .ref 16), (1, .int x1), (2, .int x2), (3, .int x3), (4, .int x4)], [], h) _
  have f0 : fr F_X11_row h h := fr_rf
  refine te_iload_n (p2 := 1) rfl rfl rfl ?_
  refine te_iconst (p2 := 2) (x := 4) rfl rfl (by decide) ?_
  refine cS_pI (p2 := 5) rfl rfl rfl rfl (t_X11_within (n := x1) (b := 4) hI ) (by decide) (fun y1 r1 => ?_)
  rcases r1 with ⟨w1, c1⟩ | ⟨w1, c1⟩
  · subst w1
    have cc1_1 := (show Int32.toInt 4 = 4 from rfl)
    refine tz_eq (p2 := 8) rfl rfl (show Int32.toInt 1 = 1 from rfl) (fun c2 => absurd c2 (by omega)) (fun c2 => ?_)
    refine te_iload_n (p2 := 9) rfl rfl rfl ?_
    refine te_iconst (p2 := 10) (x := 4) rfl rfl (by decide) ?_
    refine cS_pI (p2 := 13) rfl rfl rfl rfl (t_X11_within (n := x2) (b := 4) hI ) (by decide) (fun y3 r3 => ?_)
    rcases r3 with ⟨w3, c3⟩ | ⟨w3, c3⟩
    · subst w3
      have cc3_1 := (show Int32.toInt 4 = 4 from rfl)
      refine tz_eq (p2 := 16) rfl rfl (show Int32.toInt 1 = 1 from rfl) (fun c4 => absurd c4 (by omega)) (fun c4 => ?_)
      refine te_iload_n (p2 := 17) rfl rfl rfl ?_
      refine te_bipush (p2 := 19) (x := 100) rfl rfl (by decide) ?_
      refine cS_pI (p2 := 22) rfl rfl rfl rfl (t_X11_within (n := x3) (b := 100) hI ) (by decide) (fun y5 r5 => ?_)
      rcases r5 with ⟨w5, c5⟩ | ⟨w5, c5⟩
      · subst w5
        have cc5_1 := (show Int32.toInt 100 = 100 from rfl)
        refine tz_eq (p2 := 25) rfl rfl (show Int32.toInt 1 = 1 from rfl) (fun c6 => absurd c6 (by omega)) (fun c6 => ?_)
        refine te_iload (p2 := 27) rfl rfl rfl ?_
        refine te_bipush (p2 := 29) (x := 100) rfl rfl (by decide) ?_
        refine cS_pI (p2 := 32) rfl rfl rfl rfl (t_X11_within (n := x4) (b := 100) hI ) (by decide) (fun y7 r7 => ?_)
        rcases r7 with ⟨w7, c7⟩ | ⟨w7, c7⟩
        · subst w7
          have cc7_1 := (show Int32.toInt 100 = 100 from rfl)
          refine tz_ne (p2 := 35) rfl rfl (show Int32.toInt 1 = 1 from rfl) (fun c8 => ?_) (fun c8 => absurd c8 (by omega))
          refine te_aload_n (p2 := 38) rfl rfl rfl ?_
          refine tg_r (p2 := 41) (i := 0) (r := 113) rfl rfl hI rfl rfl rfl ?_
          refine te_iload_n (p2 := 42) rfl rfl rfl ?_
          refine tl_f (p2 := 43) (i := 97) (n := 4) (c0 := 140) (sp := 2) rfl rfl hI rfl rfl (by decide) rq_97 (by omega) (by omega) (fun o9 w9 => ?_)
          have q9 : o9 = 140 ∨ o9 = 142 ∨ o9 = 144 ∨ o9 = 146 := by omega
          refine te_astore (p2 := 45) (lv2 := [(5, .ref (16 + o9)), (0, .ref 16), (1, .int x1), (2, .int x2), (3, .int x3), (4, .int x4)]) rfl rfl (by decide) rfl ?_
          obtain ⟨v10, e10, y10, w10, a10, b10, _⟩ := hI.2.1 o9 0 (.inl ((-1), 2, 9999999999)) (by rcases q9 with rfl | rfl | rfl | rfl <;> rfl)
          subst w10
          obtain ⟨v11, e11, y11, w11, a11, b11, _⟩ := hI.2.1 o9 1 (.inl (0, 40, 9999999999)) (by rcases q9 with rfl | rfl | rfl | rfl <;> rfl)
          subst w11
          refine te_aload (p2 := 47) rfl rfl rfl ?_
          refine cV_pI (p2 := 50) (i := o9) rfl rfl rfl rfl hI rfl (by rcases q9 with rfl | rfl | rfl | rfl <;> rfl) rfl (c_X8_isMissing (s := o9) hI q9) (by decide) (fun y12 r12 => ?_)
          obtain ⟨p12, e12, r12⟩ := r12
          rcases r12 with ⟨w12_, c12⟩ | ⟨w12_, c12⟩
          · subst w12_
            refine tz_eq (p2 := 53) rfl rfl (show Int32.toInt 1 = 1 from rfl) (fun c13 => absurd c13 (by omega)) (fun c13 => ?_)
            refine te_bipush (p2 := 55) (x := (-11)) rfl rfl (by decide) ?_
            exact te_iret rfl rfl ⟨hI, f0, _, rfl, (by show ((-11), cX h) = _; unfold row_f; rw [if_pos (by omega), (show rv h (140 + 2 * x2.toInt.toNat) 0 = p12 from (by rw [show 140 + 2 * x2.toInt.toNat = o9 by omega]; exact rv_of e12)), (show rv h (140 + 2 * x2.toInt.toNat) 1 = y11 from (by rw [show 140 + 2 * x2.toInt.toNat = o9 by omega]; exact rv_of e11))]; rw [if_pos (by omega)])⟩
          · subst w12_
            refine tz_eq (p2 := 53) rfl rfl (show Int32.toInt 0 = 0 from rfl) (fun c14 => ?_) (fun c14 => absurd c14 (by omega))
            refine te_aload (p2 := 58) rfl rfl rfl ?_
            refine tg_e (p2 := 61) (i := o9) (v := .int y11) rfl rfl hI rfl (by rcases q9 with rfl | rfl | rfl | rfl <;> rfl) e11 ?_
            refine te_bipush (p2 := 63) (x := 8) rfl rfl (by decide) ?_
            refine tb_gt (p2 := 66) rfl rfl rfl (show Int32.toInt 8 = 8 from rfl) (fun c15 => ?_) (fun c15 => ?_)
            · refine te_bipush (p2 := 77) (x := (-2)) rfl rfl (by decide) ?_
              exact te_iret rfl rfl ⟨hI, f0, _, rfl, (by show ((-2), cX h) = _; unfold row_f; rw [if_pos (by omega), (show rv h (140 + 2 * x2.toInt.toNat) 0 = p12 from (by rw [show 140 + 2 * x2.toInt.toNat = o9 by omega]; exact rv_of e12)), (show rv h (140 + 2 * x2.toInt.toNat) 1 = y11 from (by rw [show 140 + 2 * x2.toInt.toNat = o9 by omega]; exact rv_of e11))]; rw [if_neg (by omega), if_pos (Or.inl (by omega))])⟩
            · refine te_iload_n (p2 := 67) rfl rfl rfl ?_
              refine te_iload (p2 := 69) rfl rfl rfl ?_
              refine cS_pI (p2 := 72) rfl rfl rfl rfl (c_X11_areBeside (c := x3) (o := x4) hI (by omega) (by omega)) (by decide) (fun y16 r16 => ?_)
              rcases r16 with ⟨w16_, c16⟩ | ⟨w16_, c16⟩
              · subst w16_
                refine tz_ne (p2 := 75) rfl rfl (show Int32.toInt 1 = 1 from rfl) (fun c17 => ?_) (fun c17 => absurd c17 (by omega))
                refine te_aload_n (p2 := 79) rfl rfl rfl ?_
                refine te_iload_n (p2 := 80) rfl rfl rfl ?_
                refine te_aload (p2 := 82) rfl rfl rfl ?_
                refine cV_pI (p2 := 85) (i := 0) rfl rfl rfl rfl hI rfl rfl rfl (c_X11_refusalOfHands (s := o9) (rr := x1) hI (by omega) (by omega) q9) (by decide) (fun y18 r18 => ?_)
                obtain ⟨r18, bq18⟩ := r18
                rcases r18 with r18 | ⟨r18, p18, e18, a18, b18, w18⟩
                · refine te_istore (p2 := 87) (lv2 := [(6, .int y18), (5, .ref (16 + o9)), (0, .ref 16), (1, .int x1), (2, .int x2), (3, .int x3), (4, .int x4)]) rfl rfl (by decide) rfl ?_
                  refine te_iload (p2 := 89) rfl rfl rfl ?_
                  refine tz_ge (p2 := 92) rfl rfl rfl (fun c19 => absurd c19 (by omega)) (fun c19 => ?_)
                  refine te_iload (p2 := 94) rfl rfl rfl ?_
                  exact te_iret rfl rfl ⟨hI, f0, _, rfl, (by show (y18, cX h) = _; unfold row_f; rw [if_pos (by omega), (show rv h (140 + 2 * x2.toInt.toNat) 0 = p12 from (by rw [show 140 + 2 * x2.toInt.toNat = o9 by omega]; exact rv_of e12)), (show rv h (140 + 2 * x2.toInt.toNat) 1 = y11 from (by rw [show 140 + 2 * x2.toInt.toNat = o9 by omega]; exact rv_of e11))]; rw [if_neg (by omega), if_neg (fun q => q.elim (fun a => absurd a (by omega)) (fun a => a c16)), (show barF (cX h) (absX h 23) (vl h (141 + 2 * x2.toInt.toNat) 0) x1 y11.toInt.toNat 0 = y18 from (by (have h9 := bq18); rw [rv_of e11] at h9; rw [show 141 + 2 * x2.toInt.toNat = o9 + 1 by omega]; exact h9.symm)), if_pos (by omega)])⟩
                · have x18 : p18 = y11 := int_inj e18 e11
                  rw [x18] at w18
                  refine te_istore (p2 := 87) (lv2 := [(6, .int y18), (5, .ref (16 + o9)), (0, .ref 16), (1, .int x1), (2, .int x2), (3, .int x3), (4, .int x4)]) rfl rfl (by decide) rfl ?_
                  refine te_iload (p2 := 89) rfl rfl rfl ?_
                  refine tz_ge (p2 := 92) rfl rfl rfl (fun c20 => ?_) (fun c20 => absurd c20 (by omega))
                  refine te_aload_n (p2 := 96) rfl rfl rfl ?_
                  refine tg_r (p2 := 99) (i := 0) (r := 17) rfl rfl hI rfl rfl rfl ?_
                  refine te_iload_n (p2 := 100) rfl rfl rfl ?_
                  refine te_aload (p2 := 102) rfl rfl rfl ?_
                  refine tc_V (p2 := 105) (i := 1) rfl rfl rfl rfl hI rfl rfl rfl (c_X0_setHands (s := o9) (rr := x1) hI (by omega) (by omega) q9 (fun p e => by rw [(int_inj e e11 : p = y11)]; exact w18) ⟨y11, e11, by omega, by omega⟩) (by decide) (fun v21 h21 hq21 => ?_)
                  obtain ⟨I21, g21, w21, z21, ez21, QA21, QB21, QC21, QD21⟩ := hq21
                  subst w21
                  rw [int_inj ez21 e11] at QB21 QC21 QD21
                  have f21 := fr_tr (F1 := F_X0_setHands) (F := F_X11_row) f0 g21 (by decide)
                  show EvP _ _ _ (105, [(6, .int y18), (5, .ref (16 + o9)), (0, .ref 16), (1, .int x1), (2, .int x2), (3, .int x3), (4, .int x4)], [], h21) _
                  refine te_aload_n (p2 := 106) rfl rfl rfl ?_
                  refine tg_r (p2 := 109) (i := 0) (r := 17) rfl rfl I21 rfl rfl rfl ?_
                  refine tg_r (p2 := 112) (i := 1) (r := 23) rfl rfl I21 rfl rfl rfl ?_
                  refine te_iload_n (p2 := 113) rfl rfl rfl ?_
                  refine tl_f (p2 := 114) (i := 7) (n := 4) (c0 := 12) (sp := 2) rfl rfl I21 rfl rfl (by decide) rq_7 (by omega) (by omega) (fun o22 w22 => ?_)
                  have q22 : o22 = 12 ∨ o22 = 14 ∨ o22 = 16 ∨ o22 = 18 := by omega
                  refine te_iload_n (p2 := 115) rfl rfl rfl ?_
                  refine tp_i (p2 := 118) (i := o22) rfl rfl I21 rfl (by rcases q22 with rfl | rfl | rfl | rfl <;> rfl) (by decide) rfl rfl (by rcases q22 with rfl | rfl | rfl | rfl <;> rfl) (by omega) (by omega) (by omega) (by rcases q22 with rfl | rfl | rfl | rfl <;> rfl) (fun h23 I23 u23 => ?_)
                  have f23 := fr_up (F := F_X11_row) (a := 1) (b := 3) f21 u23 (by rcases q22 with rfl | rfl | rfl | rfl <;> decide) (by decide) (by decide)
                  refine te_aload_n (p2 := 119) rfl rfl rfl ?_
                  refine tg_r (p2 := 122) (i := 0) (r := 17) rfl rfl I23 rfl rfl rfl ?_
                  refine tg_r (p2 := 125) (i := 1) (r := 23) rfl rfl I23 rfl rfl rfl ?_
                  refine te_iload_n (p2 := 126) rfl rfl rfl ?_
                  refine tl_f (p2 := 127) (i := 7) (n := 4) (c0 := 12) (sp := 2) rfl rfl I23 rfl rfl (by decide) rq_7 (by omega) (by omega) (fun o24 w24 => ?_)
                  have q24 : o24 = 12 ∨ o24 = 14 ∨ o24 = 16 ∨ o24 = 18 := by omega
                  refine te_iload (p2 := 129) rfl rfl rfl ?_
                  refine tp_i (p2 := 132) (i := o24) rfl rfl I23 rfl (by rcases q24 with rfl | rfl | rfl | rfl <;> rfl) (by decide) rfl rfl (by rcases q24 with rfl | rfl | rfl | rfl <;> rfl) (by omega) (by omega) (by omega) (by rcases q24 with rfl | rfl | rfl | rfl <;> rfl) (fun h25 I25 u25 => ?_)
                  have f25 := fr_up (F := F_X11_row) (a := 1) (b := 3) f23 u25 (by rcases q24 with rfl | rfl | rfl | rfl <;> decide) (by decide) (by decide)
                  refine te_aload (p2 := 134) rfl rfl rfl ?_
                  refine tg_e (p2 := 137) (i := o9) (v := .int y11) rfl rfl I25 rfl (by rcases q9 with rfl | rfl | rfl | rfl <;> rfl) ((u25.2 _ _ (Or.inl (by omega))).trans ((u23.2 _ _ (Or.inl (by omega))).trans ((g21 _ _ (by rcases q9 with rfl | rfl | rfl | rfl <;> rfl)).trans e11))) ?_
                  exact te_iret rfl rfl ⟨I25, f25, _, rfl, (by show (y11, cX h25) = _; unfold row_f; rw [if_pos (by omega), (show rv h (140 + 2 * x2.toInt.toNat) 0 = p12 from (by rw [show 140 + 2 * x2.toInt.toNat = o9 by omega]; exact rv_of e12)), (show rv h (140 + 2 * x2.toInt.toNat) 1 = y11 from (by rw [show 140 + 2 * x2.toInt.toNat = o9 by omega]; exact rv_of e11))]; rw [if_neg (by omega), if_neg (fun q => q.elim (fun a => absurd a (by omega)) (fun a => a c16)), (show barF (cX h) (absX h 23) (vl h (141 + 2 * x2.toInt.toNat) 0) x1 y11.toInt.toNat 0 = y18 from (by (have h9 := bq18); rw [rv_of e11] at h9; rw [show 141 + 2 * x2.toInt.toNat = o9 + 1 by omega]; exact h9.symm)), if_neg (fun q => q (by omega)), rowX (x1 := x1) (x3 := x3) (x4 := x4) (z := y11) (F := (vl h (141 + 2 * x2.toInt.toNat) 0)) (by omega) (by omega) (by omega) (fun i k hi => (u25.2 _ _ (Or.inl (by omega))).trans ((u23.2 _ _ (Or.inl (by omega))).trans (QA21 i k (by omega) (by omega) (by omega)))) (by rw [rv_ni u25 (Or.inr (by decide)), rv_ni u23 (Or.inr (by decide))]; exact rv_of QB21) (by rw [rv_ni u25 (Or.inr (by decide)), show 12 + 2 * x1.toInt.toNat = o22 by omega]; exact rv_of u23.1) (by rw [show 12 + 2 * x1.toInt.toNat = o24 by omega]; exact rv_of u25.1) (fun i hi => by rw [rv_ni u25 (Or.inl (by omega)), rv_ni u23 (Or.inl (by omega)), show 141 + 2 * x2.toInt.toNat = o9 + 1 by omega]; exact QC21 i hi) (fun p hp => by rw [rv_ni u25 (Or.inl (by omega)), rv_ni u23 (Or.inl (by omega)), show 141 + 2 * x2.toInt.toNat = o9 + 1 by omega]; exact QD21 p hp)])⟩
              · subst w16_
                refine tz_ne (p2 := 75) rfl rfl (show Int32.toInt 0 = 0 from rfl) (fun c26 => absurd c26 (by omega)) (fun c26 => ?_)
                refine te_bipush (p2 := 77) (x := (-2)) rfl rfl (by decide) ?_
                exact te_iret rfl rfl ⟨hI, f0, _, rfl, (by show ((-2), cX h) = _; unfold row_f; rw [if_pos (by omega), (show rv h (140 + 2 * x2.toInt.toNat) 0 = p12 from (by rw [show 140 + 2 * x2.toInt.toNat = o9 by omega]; exact rv_of e12)), (show rv h (140 + 2 * x2.toInt.toNat) 1 = y11 from (by rw [show 140 + 2 * x2.toInt.toNat = o9 by omega]; exact rv_of e11))]; rw [if_neg (by omega), if_pos (Or.inr c16)])⟩
        · subst w7
          have cc7_1 := (show Int32.toInt 100 = 100 from rfl)
          refine tz_ne (p2 := 35) rfl rfl (show Int32.toInt 0 = 0 from rfl) (fun c27 => absurd c27 (by omega)) (fun c27 => ?_)
          refine te_iconst (p2 := 36) (x := (-1)) rfl rfl (by decide) ?_
          exact te_iret rfl rfl ⟨hI, f0, _, rfl, (by show ((-1), cX h) = _; unfold row_f; rw [if_neg (by omega)])⟩
      · subst w5
        have cc5_1 := (show Int32.toInt 100 = 100 from rfl)
        refine tz_eq (p2 := 25) rfl rfl (show Int32.toInt 0 = 0 from rfl) (fun c28 => ?_) (fun c28 => absurd c28 (by omega))
        refine te_iconst (p2 := 36) (x := (-1)) rfl rfl (by decide) ?_
        exact te_iret rfl rfl ⟨hI, f0, _, rfl, (by show ((-1), cX h) = _; unfold row_f; rw [if_neg (by omega)])⟩
    · subst w3
      have cc3_1 := (show Int32.toInt 4 = 4 from rfl)
      refine tz_eq (p2 := 16) rfl rfl (show Int32.toInt 0 = 0 from rfl) (fun c29 => ?_) (fun c29 => absurd c29 (by omega))
      refine te_iconst (p2 := 36) (x := (-1)) rfl rfl (by decide) ?_
      exact te_iret rfl rfl ⟨hI, f0, _, rfl, (by show ((-1), cX h) = _; unfold row_f; rw [if_neg (by omega)])⟩
  · subst w1
    have cc1_1 := (show Int32.toInt 4 = 4 from rfl)
    refine tz_eq (p2 := 8) rfl rfl (show Int32.toInt 0 = 0 from rfl) (fun c30 => ?_) (fun c30 => absurd c30 (by omega))
    refine te_iconst (p2 := 36) (x := (-1)) rfl rfl (by decide) ?_
    exact te_iret rfl rfl ⟨hI, f0, _, rfl, (by show ((-1), cX h) = _; unfold row_f; rw [if_neg (by omega)])⟩
def inR (h : im_H) (r p : Nat) : Prop := ∃ i, i < (rv h 161 r).toInt.toNat ∧ (rv h 160 (8 * r + i)).toInt = p
def uniM (h : im_H) : Prop := ∀ r r' p : Nat, r < 4 → r' < 4 → r ≠ r' → inR h r p → ¬ inR h r' p
def othM (h : im_H) (row : Int) (p : Nat) : Prop := ∃ r : Nat, r < 4 ∧ (r : Int) ≠ row ∧ inR h r p
noncomputable def fst4 (a0 a1 a2 a3 : Prop) : Int32 := @ite _ a0 (Classical.propDecidable _) 0 (@ite _ a1 (Classical.propDecidable _) 1 (@ite _ a2 (Classical.propDecidable _) 2 (@ite _ a3 (Classical.propDecidable _) 3 (-1))))
theorem roR_4 {h : im_H} {p : Nat} : roR h p 4 0 = fst4 (inR h 0 p) (inR h 1 p) (inR h 2 p) (inR h 3 p) := by
  unfold fst4
  by_cases b0 : inR h 0 p
  · rw [if_pos b0]; exact roR_y b0
  · rw [if_neg b0]
    refine (roR_n b0).trans ?_
    by_cases b1 : inR h 1 p
    · rw [if_pos b1]; exact roR_y b1
    · rw [if_neg b1]
      refine (roR_n b1).trans ?_
      by_cases b2 : inR h 2 p
      · rw [if_pos b2]; exact roR_y b2
      · rw [if_neg b2]
        refine (roR_n b2).trans ?_
        by_cases b3 : inR h 3 p
        · rw [if_pos b3]; exact roR_y b3
        · rw [if_neg b3]
          exact roR_n b3
theorem fst4_0 {a0 a1 a2 a3 E : Prop} (h1 : E → ¬ a1 ∧ ¬ a2 ∧ ¬ a3) (u : (a0 → ¬ a1 ∧ ¬ a2 ∧ ¬ a3)) : fst4 E a1 a2 a3 = @ite _ E (Classical.propDecidable _) 0 (if (fst4 a0 a1 a2 a3).toInt = 0 then -1 else fst4 a0 a1 a2 a3) := by
  by_cases e : E <;> by_cases b0 : a0 <;> by_cases b1 : a1 <;> by_cases b2 : a2 <;> by_cases b3 : a3 <;> simp [fst4, e, b0, b1, b2, b3] at h1 u ⊢
theorem fst4_1 {a0 a1 a2 a3 E : Prop} (h1 : E → ¬ a0 ∧ ¬ a2 ∧ ¬ a3) (u : (a1 → ¬ a0 ∧ ¬ a2 ∧ ¬ a3)) : fst4 a0 E a2 a3 = @ite _ E (Classical.propDecidable _) 1 (if (fst4 a0 a1 a2 a3).toInt = 1 then -1 else fst4 a0 a1 a2 a3) := by
  by_cases e : E <;> by_cases b0 : a0 <;> by_cases b1 : a1 <;> by_cases b2 : a2 <;> by_cases b3 : a3 <;> simp [fst4, e, b0, b1, b2, b3] at h1 u ⊢
theorem fst4_2 {a0 a1 a2 a3 E : Prop} (h1 : E → ¬ a0 ∧ ¬ a1 ∧ ¬ a3) (u : (a2 → ¬ a0 ∧ ¬ a1 ∧ ¬ a3)) : fst4 a0 a1 E a3 = @ite _ E (Classical.propDecidable _) 2 (if (fst4 a0 a1 a2 a3).toInt = 2 then -1 else fst4 a0 a1 a2 a3) := by
  by_cases e : E <;> by_cases b0 : a0 <;> by_cases b1 : a1 <;> by_cases b2 : a2 <;> by_cases b3 : a3 <;> simp [fst4, e, b0, b1, b2, b3] at h1 u ⊢
theorem fst4_3 {a0 a1 a2 a3 E : Prop} (h1 : E → ¬ a0 ∧ ¬ a1 ∧ ¬ a2) (u : (a3 → ¬ a0 ∧ ¬ a1 ∧ ¬ a2)) : fst4 a0 a1 a2 E = @ite _ E (Classical.propDecidable _) 3 (if (fst4 a0 a1 a2 a3).toInt = 3 then -1 else fst4 a0 a1 a2 a3) := by
  by_cases e : E <;> by_cases b0 : a0 <;> by_cases b1 : a1 <;> by_cases b2 : a2 <;> by_cases b3 : a3 <;> simp [fst4, e, b0, b1, b2, b3] at h1 u ⊢
theorem oth_iff {h : im_H} {row : Int} {p : Nat} (u : uniM h) (h0 : 0 ≤ row) (h3 : row ≤ 3) : othM h row p ↔ ((roR h p 4 0).toInt ≠ -1 ∧ (roR h p 4 0).toInt ≠ row) := by
  have k : ∀ r r' : Nat, r < 4 → r' < 4 → r ≠ r' → inR h r p → ¬ inR h r' p := fun r r' a b c => u r r' p a b c
  have k01 := k 0 1 (by decide) (by decide) (by decide)
  have k02 := k 0 2 (by decide) (by decide) (by decide)
  have k03 := k 0 3 (by decide) (by decide) (by decide)
  have k12 := k 1 2 (by decide) (by decide) (by decide)
  have k13 := k 1 3 (by decide) (by decide) (by decide)
  have k23 := k 2 3 (by decide) (by decide) (by decide)
  have ho : othM h row p ↔ (((0 : Int) ≠ row ∧ inR h 0 p) ∨ ((1 : Int) ≠ row ∧ inR h 1 p) ∨ ((2 : Int) ≠ row ∧ inR h 2 p) ∨ ((3 : Int) ≠ row ∧ inR h 3 p)) := by
    constructor
    · rintro ⟨r, hr, hn, hi⟩
      rcases (show r = 0 ∨ r = 1 ∨ r = 2 ∨ r = 3 by omega) with rfl | rfl | rfl | rfl
      · exact Or.inl ⟨hn, hi⟩
      · exact Or.inr (Or.inl ⟨hn, hi⟩)
      · exact Or.inr (Or.inr (Or.inl ⟨hn, hi⟩))
      · exact Or.inr (Or.inr (Or.inr ⟨hn, hi⟩))
    · rintro (⟨a, b⟩ | ⟨a, b⟩ | ⟨a, b⟩ | ⟨a, b⟩)
      · exact ⟨0, by decide, a, b⟩
      · exact ⟨1, by decide, a, b⟩
      · exact ⟨2, by decide, a, b⟩
      · exact ⟨3, by decide, a, b⟩
  rw [ho, roR_4]
  have e0 := (show Int32.toInt 0 = 0 from rfl)
  have e1 := (show Int32.toInt 1 = 1 from rfl)
  have e2 := (show Int32.toInt 2 = 2 from rfl)
  have e3 := (show Int32.toInt 3 = 3 from rfl)
  have em := (show Int32.toInt (-1) = -1 from rfl)
  unfold fst4
  by_cases b0 : inR h 0 p
  · have := k01 b0; have := k02 b0; have := k03 b0
    rw [if_pos b0, e0]; simp [*]
  · by_cases b1 : inR h 1 p
    · have := k12 b1; have := k13 b1
      rw [if_neg b0, if_pos b1, e1]; simp [*]
    · by_cases b2 : inR h 2 p
      · have := k23 b2
        rw [if_neg b0, if_neg b1, if_pos b2, e2]; simp [*]
      · by_cases b3 : inR h 3 p
        · rw [if_neg b0, if_neg b1, if_neg b2, if_pos b3, e3]; simp [*]
        · rw [if_neg b0, if_neg b1, if_neg b2, if_neg b3, em]; simp [*]
noncomputable def barO (c : Ct) (A : Dy) (F : Nat → Int32) (O : Nat → Prop) : Nat → Nat → Int32
  | 0, _ => 0
  | m + 1, i => @ite _ (¬ (0 ≤ (F i).toInt ∧ (F i).toInt < c.np.toInt) ∨ (A.de (F i).toInt.toNat).toInt = 1 ∨ (∃ j, j < i ∧ F j = F i)) (Classical.propDecidable _) (-2) (@ite _ (O (F i).toInt.toNat) (Classical.propDecidable _) (-3) (barO c A F O m (i + 1)))
theorem baO_b {c : Ct} {A : Dy} {F : Nat → Int32} {O : Nat → Prop} {m m2 i : Nat} (hm : m = m2 + 1) (h : ¬ (0 ≤ (F i).toInt ∧ (F i).toInt < c.np.toInt) ∨ (A.de (F i).toInt.toNat).toInt = 1 ∨ (∃ j, j < i ∧ F j = F i)) : barO c A F O m i = -2 := by
  subst hm
  exact if_pos h
theorem baO_s {c : Ct} {A : Dy} {F : Nat → Int32} {O : Nat → Prop} {m m2 i : Nat} (hm : m = m2 + 1) (h : ¬ (¬ (0 ≤ (F i).toInt ∧ (F i).toInt < c.np.toInt) ∨ (A.de (F i).toInt.toNat).toInt = 1 ∨ (∃ j, j < i ∧ F j = F i))) (h2 : O (F i).toInt.toNat) : barO c A F O m i = -3 := by
  subst hm
  exact (if_neg h).trans (if_pos h2)
theorem baO_n {c : Ct} {A : Dy} {F : Nat → Int32} {O : Nat → Prop} {m m2 i i2 : Nat} (hm : m = m2 + 1) (hi : i2 = i + 1) (h : ¬ (¬ (0 ≤ (F i).toInt ∧ (F i).toInt < c.np.toInt) ∨ (A.de (F i).toInt.toNat).toInt = 1 ∨ (∃ j, j < i ∧ F j = F i))) (h2 : ¬ O (F i).toInt.toNat) : barO c A F O m i = barO c A F O m2 i2 := by
  subst hm hi
  exact (if_neg h).trans (if_neg h2)
theorem baO_0 {c : Ct} {A : Dy} {F : Nat → Int32} {O : Nat → Prop} {m i : Nat} (hm : m = 0) : barO c A F O m i = 0 := by
  subst hm
  rfl
theorem baO_F {c : Ct} {A : Dy} {F : Nat → Int32} {r : Int32} {O : Nat → Prop} (hn : c.np.toInt ≤ 24) (hO : ∀ p, p < 24 → (O p ↔ ((c.ro p).toInt ≠ -1 ∧ (c.ro p).toInt ≠ r.toInt))) : ∀ m i, barO c A F O m i = barF c A F r m i
  | 0, _ => rfl
  | m + 1, i => by
    by_cases hb : ¬ (0 ≤ (F i).toInt ∧ (F i).toInt < c.np.toInt) ∨ (A.de (F i).toInt.toNat).toInt = 1 ∨ (∃ j, j < i ∧ F j = F i)
    · rw [baO_b rfl hb, bar_b rfl hb]
    · have hv : 0 ≤ (F i).toInt ∧ (F i).toInt < c.np.toInt := Classical.byContradiction (fun q => hb (Or.inl q))
      have ho := hO (F i).toInt.toNat (by omega)
      by_cases hs : O (F i).toInt.toNat
      · rw [baO_s rfl hb hs, bar_s rfl hb (ho.mp hs)]
      · rw [baO_n rfl rfl hb hs, bar_n rfl rfl hb (fun q => hs (ho.mpr q)), baO_F hn hO m (i + 1)]
theorem rowM {h H : im_H} {x1 x3 x4 z : Int32} {F : Nat → Int32} (u : uniM h) (h0 : 0 ≤ x1.toInt) (h3 : x1.toInt ≤ 3) (hz0 : 0 ≤ z.toInt) (hz : z.toInt ≤ 8)
    (e : ∀ i k, (i = 148 ∨ i = 152 ∨ i = 157 ∨ i = 158 ∨ i = 159 ∨ (164 ≤ i ∧ i < 169)) → rd H i k = rd h i k)
    (ed : ∀ r i : Nat, r < 4 → i < 8 → rv H 160 (8 * r + i) = if r = x1.toInt.toNat ∧ i < z.toInt.toNat then F i else rv h 160 (8 * r + i))
    (e1 : ∀ r : Nat, r < 4 → rv H 161 r = (if r = x1.toInt.toNat then z else rv h 161 r) ∧ rv H 162 r = (if r = x1.toInt.toNat then x3 else rv h 162 r) ∧ rv H 163 r = (if r = x1.toInt.toNat then x4 else rv h 163 r))
    (hb : ∀ r : Nat, r < 4 → (rv h 161 r).toInt ≤ 8)
    (hF : ∀ j : Nat, j < z.toInt.toNat → ¬ othM h x1.toInt (F j).toInt.toNat ∧ 0 ≤ (F j).toInt) : cM H = rowC x1 x3 x4 z F (cM h) ∧ uniM H := by
  have i1 : ∀ r p : Nat, r < 4 → r ≠ x1.toInt.toNat → (inR H r p ↔ inR h r p) := by
    intro r p hr hn
    have ea := (e1 r hr).1
    rw [if_neg hn] at ea
    have hb8 := hb r hr
    constructor
    · rintro ⟨i, hi, ei⟩
      rw [ea] at hi
      rw [ed r i hr (by omega), if_neg (fun q => hn q.1)] at ei
      exact ⟨i, hi, ei⟩
    · rintro ⟨i, hi, ei⟩
      exact ⟨i, by rw [ea]; exact hi, by rw [ed r i hr (by omega), if_neg (fun q => hn q.1)]; exact ei⟩
  have i2 : ∀ p : Nat, inR H x1.toInt.toNat p ↔ ∃ i, i < z.toInt.toNat ∧ (F i).toInt = p := by
    intro p
    have ea := (e1 x1.toInt.toNat (by omega)).1
    rw [if_pos rfl] at ea
    constructor
    · rintro ⟨i, hi, ei⟩
      rw [ea] at hi
      rw [ed _ i (by omega) (by omega), if_pos ⟨rfl, hi⟩] at ei
      exact ⟨i, hi, ei⟩
    · rintro ⟨i, hi, ei⟩
      exact ⟨i, by rw [ea]; exact hi, by rw [ed _ i (by omega) (by omega), if_pos ⟨rfl, hi⟩]; exact ei⟩
  have no : ∀ p : Nat, (∃ i, i < z.toInt.toNat ∧ (F i).toInt = p) → ∀ r : Nat, r < 4 → r ≠ x1.toInt.toNat → ¬ inR h r p := by
    rintro p ⟨i, hi, ei⟩ r hr hn hq
    have h9 := hF i hi
    exact h9.1 ⟨r, hr, by omega, by rw [show (F i).toInt.toNat = p by omega]; exact hq⟩
  have hu : uniM H := by
    intro r r' p hr hr' hne ha hb'
    by_cases c1 : r = x1.toInt.toNat
    · subst c1
      exact no p ((i2 p).mp ha) r' hr' (fun q => hne q.symm) ((i1 r' p hr' (fun q => hne q.symm)).mp hb')
    · by_cases c2 : r' = x1.toInt.toNat
      · subst c2
        exact no p ((i2 p).mp hb') r hr c1 ((i1 r p hr c1).mp ha)
      · exact u r r' p hr hr' hne ((i1 r p hr c1).mp ha) ((i1 r' p hr' c2).mp hb')
  refine ⟨?_, hu⟩
  have ro : ∀ p : Nat, roR H p 4 0 = @ite _ (∃ i, i < z.toInt.toNat ∧ (F i).toInt = p) (Classical.propDecidable _) x1 (if (roR h p 4 0).toInt = x1.toInt then -1 else roR h p 4 0) := by
    intro p
    have kk : ∀ r r' : Nat, r < 4 → r' < 4 → r ≠ r' → inR h r p → ¬ inR h r' p := fun r r' a b c => u r r' p a b c
    rw [roR_4, roR_4]
    rcases (show x1.toInt = 0 ∨ x1.toInt = 1 ∨ x1.toInt = 2 ∨ x1.toInt = 3 by omega) with q | q | q | q
    · have ex : x1 = 0 := i32_ext (by rw [q]; rfl)
      subst ex
      rw [show inR H 0 p = _ from propext (i2 p), show inR H 1 p = _ from propext (i1 1 p (by decide) (by decide)), show inR H 2 p = _ from propext (i1 2 p (by decide) (by decide)), show inR H 3 p = _ from propext (i1 3 p (by decide) (by decide))]
      exact fst4_0 (fun E => ⟨no p E 1 (by decide) (by decide), no p E 2 (by decide) (by decide), no p E 3 (by decide) (by decide)⟩) (fun a => ⟨kk 0 1 (by decide) (by decide) (by decide) a, kk 0 2 (by decide) (by decide) (by decide) a, kk 0 3 (by decide) (by decide) (by decide) a⟩)
    · have ex : x1 = 1 := i32_ext (by rw [q]; rfl)
      subst ex
      rw [show inR H 0 p = _ from propext (i1 0 p (by decide) (by decide)), show inR H 1 p = _ from propext (i2 p), show inR H 2 p = _ from propext (i1 2 p (by decide) (by decide)), show inR H 3 p = _ from propext (i1 3 p (by decide) (by decide))]
      exact fst4_1 (fun E => ⟨no p E 0 (by decide) (by decide), no p E 2 (by decide) (by decide), no p E 3 (by decide) (by decide)⟩) (fun a => ⟨kk 1 0 (by decide) (by decide) (by decide) a, kk 1 2 (by decide) (by decide) (by decide) a, kk 1 3 (by decide) (by decide) (by decide) a⟩)
    · have ex : x1 = 2 := i32_ext (by rw [q]; rfl)
      subst ex
      rw [show inR H 0 p = _ from propext (i1 0 p (by decide) (by decide)), show inR H 1 p = _ from propext (i1 1 p (by decide) (by decide)), show inR H 2 p = _ from propext (i2 p), show inR H 3 p = _ from propext (i1 3 p (by decide) (by decide))]
      exact fst4_2 (fun E => ⟨no p E 0 (by decide) (by decide), no p E 1 (by decide) (by decide), no p E 3 (by decide) (by decide)⟩) (fun a => ⟨kk 2 0 (by decide) (by decide) (by decide) a, kk 2 1 (by decide) (by decide) (by decide) a, kk 2 3 (by decide) (by decide) (by decide) a⟩)
    · have ex : x1 = 3 := i32_ext (by rw [q]; rfl)
      subst ex
      rw [show inR H 0 p = _ from propext (i1 0 p (by decide) (by decide)), show inR H 1 p = _ from propext (i1 1 p (by decide) (by decide)), show inR H 2 p = _ from propext (i1 2 p (by decide) (by decide)), show inR H 3 p = _ from propext (i2 p)]
      exact fst4_3 (fun E => ⟨no p E 0 (by decide) (by decide), no p E 1 (by decide) (by decide), no p E 2 (by decide) (by decide)⟩) (fun a => ⟨kk 3 0 (by decide) (by decide) (by decide) a, kk 3 1 (by decide) (by decide) (by decide) a, kk 3 2 (by decide) (by decide) (by decide) a⟩)
  have ef : ∀ i k, (164 ≤ i ∧ i < 169) → rv H i k = rv h i k := fun i k hi => by unfold rv; rw [e i k (by omega)]
  rw [cM_h (h := h) (H := H) (fun i k hi => e i k (by omega))]
  have a1 : (cM H).ro = (rowC x1 x3 x4 z F (cM h)).ro := by
    funext p
    show gd 24 (fun p => roR H p 4 0) p = ite (p < 24) _ _
    by_cases hp : p < 24
    · rw [gd_at hp, if_pos hp, ro p]
      have hr : (cM h).ro p = roR h p 4 0 := gd_at (f := fun p => roR h p 4 0) hp
      rw [hr]
    · rw [if_neg hp]; exact if_neg hp
  have a2 : (cM H).hd = (rowC x1 x3 x4 z F (cM h)).hd := by
    funext r i
    show (if r < 4 ∧ i < 8 then rv H 160 (8 * r + i) else 0 : Int32) = if r = x1.toInt.toNat ∧ i < z.toInt.toNat then F i else (if r < 4 ∧ i < 8 then rv h 160 (8 * r + i) else 0)
    by_cases hr : r < 4 ∧ i < 8
    · rw [if_pos hr, if_pos (c := r < 4 ∧ i < 8) hr, ed r i hr.1 hr.2]
    · rw [if_neg hr, if_neg (c := r = x1.toInt.toNat ∧ i < z.toInt.toNat) (fun q => hr ⟨by omega, by omega⟩), if_neg hr]
  have a3 : ∀ (c : Nat) (v : Int32), (∀ r, r < 4 → rv H c r = if r = x1.toInt.toNat then v else rv h c r) → gd 4 (rv H c) = udt (gd 4 (rv h c)) x1.toInt.toNat v := fun c v hv => by
    funext r
    show (if r < 4 then rv H c r else 0 : Int32) = if r = x1.toInt.toNat then v else (if r < 4 then rv h c r else 0)
    by_cases hr : r < 4
    · rw [if_pos hr, if_pos (c := r < 4) hr, hv r hr]
    · rw [if_neg hr, if_neg (c := r = x1.toInt.toNat) (by omega), if_neg hr]
  have b1 : (cM H).hn = (rowC x1 x3 x4 z F (cM h)).hn := a3 161 z (fun r hr => (e1 r hr).1)
  have b2 : (cM H).hf = (rowC x1 x3 x4 z F (cM h)).hf := a3 162 x3 (fun r hr => (e1 r hr).2.1)
  have b3 : (cM H).ht = (rowC x1 x3 x4 z F (cM h)).ht := a3 163 x4 (fun r hr => (e1 r hr).2.2)
  have c1 : (cM H).wn = (cM h).wn := gd_c (fun r hr => ef 165 r (by decide))
  have c2 : (cM H).cr = (cM h).cr := gd_c (fun r hr => ef 166 r (by decide))
  have c3 : (cM H).wf = (cM h).wf := by
    funext r
    show (if r < 3 ∧ 2 ≤ (rv H 165 r).toInt then rv H 164 (12 * r) else 0 : Int32) = if r < 3 ∧ 2 ≤ (rv h 165 r).toInt then rv h 164 (12 * r) else 0
    rw [ef 165 r (by decide), ef 164 _ (by decide)]
  have c4 : (cM H).wl = (cM h).wl := by
    funext r
    show (if r < 3 ∧ 2 ≤ (rv H 165 r).toInt then rv H 164 (12 * r + ((rv H 165 r).toInt.toNat - 1)) else 0 : Int32) = if r < 3 ∧ 2 ≤ (rv h 165 r).toInt then rv h 164 (12 * r + ((rv h 165 r).toInt.toNat - 1)) else 0
    rw [ef 165 r (by decide), ef 164 _ (by decide)]
  rw [a1, a2, b1, b2, b3, c1, c2, c3, c4]
  rfl
set_option maxRecDepth 20000 in
set_option maxHeartbeats 4000000 in
theorem c_X12_isInOther {k : Int32} {row : Int32} {h : im_H} (hI : tI h)  : CaP 1 129 [.ref 164, .int k, .int row] h (pI h (fun y => 0 ≤ k.toInt → ((y = 1 ∧ othM h row.toInt k.toInt.toNat) ∨ (y = 0 ∧ ¬ othM h row.toInt k.toInt.toNat)))) := by
  refine cap_of (d := 0) (M := mX12_isInOther) rfl (Nat.le_of_ble_eq_true rfl) ?_
  show EvP im_K0 0 mX12_isInOther (0, [(0, .ref 164), (1, .int k), (2, .int row)], [], h) _
  refine te_iconst (p2 := 1) (x := 0) rfl rfl (by decide) ?_
  refine te_istore_n (p2 := 2) (lv2 := [(3, .int 0), (0, .ref 164), (1, .int k), (2, .int row)]) rfl rfl (by decide) rfl ?_
  have lp1 : ∀ (n1 : Nat) (v1_3 : Int32) , 0 ≤ v1_3.toInt → v1_3.toInt ≤ 4 → (0 ≤ k.toInt → ∀ r : Nat, r < v1_3.toInt.toNat → (r : Int) ≠ row.toInt → ¬ inR h r k.toInt.toNat) → 4 - v1_3.toInt < (n1 : Int) → EvP im_K0 0 mX12_isInOther (2, [(0, .ref 164), (1, .int k), (2, .int row), (3, .int v1_3)], [], h) (pI h (fun y => 0 ≤ k.toInt → ((y = 1 ∧ othM h row.toInt k.toInt.toNat) ∨ (y = 0 ∧ ¬ othM h row.toInt k.toInt.toNat)))) := by
    intro n1
    induction n1 with
    | zero => intro v1_3 a1_3 b1_3 w1_0 m1; exfalso; omega
    | succ n1 ih1 =>
      intro v1_3 a1_3 b1_3 w1_0 m1
      refine te_iload_n (p2 := 3) rfl rfl rfl ?_
      refine te_iconst (p2 := 4) (x := 4) rfl rfl (by decide) ?_
      refine tb_ge (p2 := 7) rfl rfl rfl (show Int32.toInt 4 = 4 from rfl) (fun c2 => ?_) (fun c2 => ?_)
      · refine te_iconst (p2 := 57) (x := 0) rfl rfl (by decide) ?_
        exact te_zret rfl rfl (by decide) ⟨rfl, _, rfl, (fun hk => Or.inr ⟨rfl, fun ⟨r, hr, hn, hi⟩ => w1_0 hk r (by omega) hn hi⟩)⟩
      · refine te_iconst (p2 := 8) (x := 0) rfl rfl (by decide) ?_
        refine te_istore (p2 := 10) (lv2 := [(4, .int 0), (0, .ref 164), (1, .int k), (2, .int row), (3, .int v1_3)]) rfl rfl (by decide) rfl ?_
        have lp3 : ∀ (n3 : Nat) (v3_4 : Int32) , 0 ≤ v3_4.toInt → v3_4.toInt ≤ 8 → (0 ≤ k.toInt → v1_3.toInt ≠ row.toInt → ∀ j : Nat, j < v3_4.toInt.toNat → (rv h 160 (8 * v1_3.toInt.toNat + j)).toInt ≠ (k.toInt.toNat : Int)) → 8 - v3_4.toInt < (n3 : Int) → EvP im_K0 0 mX12_isInOther (10, [(0, .ref 164), (1, .int k), (2, .int row), (3, .int v1_3), (4, .int v3_4)], [], h) (pI h (fun y => 0 ≤ k.toInt → ((y = 1 ∧ othM h row.toInt k.toInt.toNat) ∨ (y = 0 ∧ ¬ othM h row.toInt k.toInt.toNat)))) := by
          intro n3
          induction n3 with
          | zero => intro v3_4 a3_4 b3_4 w3_0 m3; exfalso; omega
          | succ n3 ih3 =>
            intro v3_4 a3_4 b3_4 w3_0 m3
            refine te_iload (p2 := 12) rfl rfl rfl ?_
            refine te_aload_n (p2 := 13) rfl rfl rfl ?_
            refine tg_r (p2 := 16) (i := 148) (r := 177) rfl rfl hI rfl rfl rfl ?_
            refine te_iload_n (p2 := 17) rfl rfl rfl ?_
            refine tl_i (p2 := 18) (i := 161) (n := 4) rfl rfl hI rfl rfl rfl rfl (by omega) (by omega) (fun y4 a4 b4 g4 e4 => ?_)
            refine tb_ge (p2 := 21) rfl rfl rfl rfl (fun c5 => ?_) (fun c5 => ?_)
            · refine ar_inc (p2 := 53) (x := v1_3) rfl rfl (by decide) rfl (by decide) rfl (by omega) (by omega) (fun z6 e6 f6 => ?_)
              show EvP _ _ _ (53, [(3, .int z6), (0, .ref 164), (1, .int k), (2, .int row), (4, .int v3_4)], [], h) _
              refine te_goto rfl ?_
              refine te_lv [(0, .ref 164), (1, .int k), (2, .int row), (3, .int z6)] rfl rfl ⟨rfl, rfl, rfl, rfl, trivial⟩ ?_
              exact ih1 z6 (by omega) (by omega) (fun hk r hr hn hi => by (by_cases hc : r = v1_3.toInt.toNat); (· subst hc; (obtain ⟨j, hj, ej⟩ := hi); rw [rv_of e4] at hj; exact absurd ej (w3_0 hk (by omega) j (by omega))); (· exact w1_0 hk r (by omega) hn hi)) (by omega)
            · refine te_iload_n (p2 := 22) rfl rfl rfl ?_
              refine te_iload_n (p2 := 23) rfl rfl rfl ?_
              refine tb_eq (p2 := 26) rfl rfl rfl rfl (fun c7 => ?_) (fun c7 => ?_)
              · refine ar_inc (p2 := 53) (x := v1_3) rfl rfl (by decide) rfl (by decide) rfl (by omega) (by omega) (fun z8 e8 f8 => ?_)
                show EvP _ _ _ (53, [(3, .int z8), (0, .ref 164), (1, .int k), (2, .int row), (4, .int v3_4)], [], h) _
                refine te_goto rfl ?_
                refine te_lv [(0, .ref 164), (1, .int k), (2, .int row), (3, .int z8)] rfl rfl ⟨rfl, rfl, rfl, rfl, trivial⟩ ?_
                exact ih1 z8 (by omega) (by omega) (fun hk r hr hn hi => by (by_cases hc : r = v1_3.toInt.toNat); (· subst hc; (obtain ⟨j, hj, ej⟩ := hi); rw [rv_of e4] at hj; exact absurd ej (w3_0 hk (by omega) j (by omega))); (· exact w1_0 hk r (by omega) hn hi)) (by omega)
              · refine te_aload_n (p2 := 27) rfl rfl rfl ?_
                refine tg_r (p2 := 30) (i := 148) (r := 176) rfl rfl hI rfl rfl rfl ?_
                refine te_bipush (p2 := 32) (x := 8) rfl rfl (by decide) ?_
                refine te_iload_n (p2 := 33) rfl rfl rfl ?_
                refine ar_mul (p2 := 34) rfl rfl (show Int32.toInt 8 = 8 from rfl) rfl (by omega) (by omega) (fun z9 e9 f9 => ?_)
                refine te_iload (p2 := 36) rfl rfl rfl ?_
                refine ar_add (p2 := 37) rfl rfl rfl rfl (by omega) (by omega) (fun z10 e10 f10 => ?_)
                refine tl_i (p2 := 38) (i := 160) (n := 32) rfl rfl hI rfl rfl rfl rfl (by omega) (by omega) (fun y11 a11 b11 g11 e11 => ?_)
                refine te_iload_n (p2 := 39) rfl rfl rfl ?_
                refine tb_ne (p2 := 42) rfl rfl rfl rfl (fun c12 => ?_) (fun c12 => ?_)
                · refine ar_inc (p2 := 47) (x := v3_4) rfl rfl (by decide) rfl (by decide) rfl (by omega) (by omega) (fun z13 e13 f13 => ?_)
                  show EvP _ _ _ (47, [(4, .int z13), (0, .ref 164), (1, .int k), (2, .int row), (3, .int v1_3)], [], h) _
                  refine te_goto rfl ?_
                  refine te_lv [(0, .ref 164), (1, .int k), (2, .int row), (3, .int v1_3), (4, .int z13)] rfl rfl ⟨rfl, rfl, rfl, rfl, rfl, trivial⟩ ?_
                  exact ih3 z13 (by omega) (by omega) (fun hk hn j hj => by (by_cases hc : j = v3_4.toInt.toNat); (· rw [hc, (show rv h 160 (8 * v1_3.toInt.toNat + v3_4.toInt.toNat) = y11 from (by rw [show 8 * v1_3.toInt.toNat + v3_4.toInt.toNat = z10.toInt.toNat by omega]; exact rv_of e11))]; omega); (· exact w3_0 hk hn j (by omega))) (by omega)
                · refine te_iconst (p2 := 43) (x := 1) rfl rfl (by decide) ?_
                  exact te_zret rfl rfl (by decide) ⟨rfl, _, rfl, (fun hk => Or.inl ⟨rfl, v1_3.toInt.toNat, by omega, by omega, v3_4.toInt.toNat, (by rw [rv_of e4]; omega), (by rw [(show rv h 160 (8 * v1_3.toInt.toNat + v3_4.toInt.toNat) = y11 from (by rw [show 8 * v1_3.toInt.toNat + v3_4.toInt.toNat = z10.toInt.toNat by omega]; exact rv_of e11))]; omega)⟩)⟩
        refine te_lv [(0, .ref 164), (1, .int k), (2, .int row), (3, .int v1_3), (4, .int 0)] rfl rfl ⟨rfl, rfl, rfl, rfl, rfl, trivial⟩ ?_
        exact lp3 9 0 (by decide) (by decide) (fun _ _ j hj => absurd hj (Nat.not_lt_zero j)) (by have cc0 := (show Int32.toInt 0 = 0 from rfl); omega)
  refine te_lv [(0, .ref 164), (1, .int k), (2, .int row), (3, .int 0)] rfl rfl ⟨rfl, rfl, rfl, rfl, trivial⟩ ?_
  exact lp1 5 0 (by decide) (by decide) (fun _ r hr => absurd hr (Nat.not_lt_zero r)) (by have cc0 := (show Int32.toInt 0 = 0 from rfl); omega)
set_option maxRecDepth 20000 in
set_option maxHeartbeats 4000000 in
theorem c_X12_barred {row : Int32} {s : Int32} {h : im_H} (hI : tI h) (p_row0 : 0 ≤ row.toInt) (p_row1 : row.toInt ≤ 3) (p_s0 : 0 ≤ s.toInt) (p_s1 : s.toInt ≤ 3) : CaP 3 130 [.ref 164, .int row, .int s] h (pI h (fun y => ((fun y => (y.toInt < 0) ∨ (y.toInt = 0 ∧ ∃ p : Int32, rd h 193 s.toInt.toNat = some (.int p) ∧ 0 ≤ p.toInt ∧ p.toInt ≤ 40 ∧ allB h 194 (40 * s.toInt.toNat) p.toInt 23)) y) ∧ y = barO (cM h) (absM h) (vl h 194 (40 * s.toInt.toNat)) (othM h row.toInt) ((rv h 193 s.toInt.toNat).toInt.toNat) 0)) := by
  refine cap_of (d := 2) (M := mX12_barred) rfl (Nat.le_of_ble_eq_true rfl) ?_
  show EvP im_K0 2 mX12_barred (0, [(0, .ref 164), (1, .int row), (2, .int s)], [], h) _
  refine te_iconst (p2 := 1) (x := 0) rfl rfl (by decide) ?_
  obtain ⟨v1, e1, y1, w1, a1, b1, _⟩ := hI.2.1 193 s.toInt.toNat (.inl (0, 40, 9999999999)) (tq_row rfl (by omega))
  subst w1
  refine te_istore_n (p2 := 2) (lv2 := [(3, .int 0), (0, .ref 164), (1, .int row), (2, .int s)]) rfl rfl (by decide) rfl ?_
  have lp2 : ∀ (n2 : Nat) (v2_3 : Int32) , 0 ≤ v2_3.toInt → v2_3.toInt ≤ 40 → v2_3.toInt ≤ y1.toInt → allB h 194 (40 * s.toInt.toNat) v2_3.toInt 23 → (barO (cM h) (absM h) (vl h 194 (40 * s.toInt.toNat)) (othM h row.toInt) ((rv h 193 s.toInt.toNat).toInt.toNat - v2_3.toInt.toNat) v2_3.toInt.toNat = barO (cM h) (absM h) (vl h 194 (40 * s.toInt.toNat)) (othM h row.toInt) ((rv h 193 s.toInt.toNat).toInt.toNat) 0) → 40 - v2_3.toInt < (n2 : Int) → EvP im_K0 2 mX12_barred (2, [(0, .ref 164), (1, .int row), (2, .int s), (3, .int v2_3)], [], h) (pI h (fun y => ((fun y => (y.toInt < 0) ∨ (y.toInt = 0 ∧ ∃ p : Int32, rd h 193 s.toInt.toNat = some (.int p) ∧ 0 ≤ p.toInt ∧ p.toInt ≤ 40 ∧ allB h 194 (40 * s.toInt.toNat) p.toInt 23)) y) ∧ y = barO (cM h) (absM h) (vl h 194 (40 * s.toInt.toNat)) (othM h row.toInt) ((rv h 193 s.toInt.toNat).toInt.toNat) 0)) := by
    intro n2
    induction n2 with
    | zero => intro v2_3 a2_3 b2_3 l2_0 w2_0 w2_1 m2; exfalso; omega
    | succ n2 ih2 =>
      intro v2_3 a2_3 b2_3 l2_0 w2_0 w2_1 m2
      refine te_iload_n (p2 := 3) rfl rfl rfl ?_
      refine te_aload_n (p2 := 4) rfl rfl rfl ?_
      refine tg_r (p2 := 7) (i := 148) (r := 209) rfl rfl hI rfl rfl rfl ?_
      refine te_iload_n (p2 := 8) rfl rfl rfl ?_
      refine tl_e (p2 := 9) (i := 193) (n := 4) (t := 0) (Or.inl rfl) rfl rfl hI rfl rfl (by omega) (by omega) e1 ?_
      refine tb_ge (p2 := 12) rfl rfl rfl rfl (fun c4 => ?_) (fun c4 => ?_)
      · refine te_iconst (p2 := 107) (x := 0) rfl rfl (by decide) ?_
        exact te_iret rfl rfl ⟨rfl, _, rfl, ⟨Or.inr ⟨by decide, y1, e1, by omega, by omega, allB_le w2_0 (by omega)⟩, (w2_1.symm.trans (baO_0 (by rw [rv_of e1]; omega))).symm⟩⟩
      · refine te_aload_n (p2 := 13) rfl rfl rfl ?_
        refine tg_r (p2 := 16) (i := 148) (r := 210) rfl rfl hI rfl rfl rfl ?_
        refine te_bipush (p2 := 18) (x := 40) rfl rfl (by decide) ?_
        refine te_iload_n (p2 := 19) rfl rfl rfl ?_
        refine ar_mul (p2 := 20) rfl rfl (show Int32.toInt 40 = 40 from rfl) rfl (by omega) (by omega) (fun z5 e5 f5 => ?_)
        refine te_iload_n (p2 := 21) rfl rfl rfl ?_
        refine ar_add (p2 := 22) rfl rfl rfl rfl (by omega) (by omega) (fun z6 e6 f6 => ?_)
        refine tl_i (p2 := 23) (i := 194) (n := 160) rfl rfl hI rfl rfl rfl rfl (by omega) (by omega) (fun y7 a7 b7 g7 e7 => ?_)
        refine te_istore (p2 := 25) (lv2 := [(4, .int y7), (0, .ref 164), (1, .int row), (2, .int s), (3, .int v2_3)]) rfl rfl (by decide) rfl ?_
        refine te_aload_n (p2 := 26) rfl rfl rfl ?_
        refine te_iload (p2 := 28) rfl rfl rfl ?_
        refine cV_pI (p2 := 31) (i := 148) rfl rfl rfl rfl hI rfl rfl rfl (t_X12_isPerson (k := y7) hI) (by decide) (fun y8 r8 => ?_)
        obtain ⟨p8, e8, a8, b8, r8⟩ := r8
        rcases r8 with ⟨w8, c8⟩ | ⟨w8, c8⟩
        · subst w8
          refine tz_eq (p2 := 34) rfl rfl (show Int32.toInt 1 = 1 from rfl) (fun c9 => absurd c9 (by omega)) (fun c9 => ?_)
          refine te_aload_n (p2 := 35) rfl rfl rfl ?_
          refine tg_r (p2 := 38) (i := 148) (r := 165) rfl rfl hI rfl rfl rfl ?_
          refine te_sipush (p2 := 41) (x := 236) rfl rfl (by decide) ?_
          refine te_iload (p2 := 43) rfl rfl rfl ?_
          refine ar_add (p2 := 44) rfl rfl (show Int32.toInt 236 = 236 from rfl) rfl (by omega) (by omega) (fun z10 e10 f10 => ?_)
          refine tl_i (p2 := 45) (i := 149) (n := 283) rfl rfl hI rfl rfl rfl rfl (by omega) (by omega) (fun y11 a11 b11 g11 e11 => ?_)
          refine te_iconst (p2 := 46) (x := 1) rfl rfl (by decide) ?_
          refine tb_ne (p2 := 49) rfl rfl rfl (show Int32.toInt 1 = 1 from rfl) (fun c12 => ?_) (fun c12 => ?_)
          · refine te_iconst (p2 := 53) (x := 0) rfl rfl (by decide) ?_
            refine te_istore (p2 := 55) (lv2 := [(5, .int 0), (4, .int y7), (0, .ref 164), (1, .int row), (2, .int s), (3, .int v2_3)]) rfl rfl (by decide) rfl ?_
            have lp13 : ∀ (n13 : Nat) (v13_5 : Int32) , 0 ≤ v13_5.toInt → v13_5.toInt ≤ 40 → (∀ j : Nat, j < v13_5.toInt.toNat → (vl h 194 (40 * s.toInt.toNat)) j ≠ y7) → 40 - v13_5.toInt < (n13 : Int) → EvP im_K0 2 mX12_barred (55, [(0, .ref 164), (1, .int row), (2, .int s), (3, .int v2_3), (4, .int y7), (5, .int v13_5)], [], h) (pI h (fun y => ((fun y => (y.toInt < 0) ∨ (y.toInt = 0 ∧ ∃ p : Int32, rd h 193 s.toInt.toNat = some (.int p) ∧ 0 ≤ p.toInt ∧ p.toInt ≤ 40 ∧ allB h 194 (40 * s.toInt.toNat) p.toInt 23)) y) ∧ y = barO (cM h) (absM h) (vl h 194 (40 * s.toInt.toNat)) (othM h row.toInt) ((rv h 193 s.toInt.toNat).toInt.toNat) 0)) := by
              intro n13
              induction n13 with
              | zero => intro v13_5 a13_5 b13_5 w13_0 m13; exfalso; omega
              | succ n13 ih13 =>
                intro v13_5 a13_5 b13_5 w13_0 m13
                refine te_iload (p2 := 57) rfl rfl rfl ?_
                refine te_iload_n (p2 := 58) rfl rfl rfl ?_
                refine tb_ge (p2 := 61) rfl rfl rfl rfl (fun c14 => ?_) (fun c14 => ?_)
                · refine te_aload_n (p2 := 88) rfl rfl rfl ?_
                  refine te_iload (p2 := 90) rfl rfl rfl ?_
                  refine te_iload_n (p2 := 91) rfl rfl rfl ?_
                  refine cV_pI (p2 := 94) (i := 148) rfl rfl rfl rfl hI rfl rfl rfl (c_X12_isInOther (k := y7) (row := row) hI ) (by decide) (fun y15 r15 => ?_)
                  rcases r15 (by omega) with ⟨w15_, ho15⟩ | ⟨w15_, ho15⟩
                  · subst w15_
                    refine tz_eq (p2 := 97) rfl rfl (show Int32.toInt 1 = 1 from rfl) (fun c16 => absurd c16 (by omega)) (fun c16 => ?_)
                    refine te_bipush (p2 := 99) (x := (-3)) rfl rfl (by decide) ?_
                    exact te_iret rfl rfl ⟨rfl, _, rfl, ⟨Or.inl (by decide), (w2_1.symm.trans (baO_s (m2 := (rv h 193 s.toInt.toNat).toInt.toNat - v2_3.toInt.toNat - 1) (by rw [rv_of e1]; omega) (fun q => q.elim (fun a => a (by rw [(show (vl h 194 (40 * s.toInt.toNat)) v2_3.toInt.toNat = y7 from vl_of (c := 194) (o := 40 * s.toInt.toNat) (i := v2_3.toInt.toNat) (by omega) (by rw [show 40 * s.toInt.toNat + v2_3.toInt.toNat = z6.toInt.toNat by omega]; exact e7)), (show (cM h).np = p8 from rv_of e8)]; omega)) (fun q => q.elim (fun a => absurd a (by rw [(show (vl h 194 (40 * s.toInt.toNat)) v2_3.toInt.toNat = y7 from vl_of (c := 194) (o := 40 * s.toInt.toNat) (i := v2_3.toInt.toNat) (by omega) (by rw [show 40 * s.toInt.toNat + v2_3.toInt.toNat = z6.toInt.toNat by omega]; exact e7)), (show (absM h).de y7.toInt.toNat = y11 from (aM_de (by omega)).trans (by rw [show 236 + y7.toInt.toNat = z10.toInt.toNat by omega]; exact rv_of e11))]; omega)) (fun ⟨j, hj, ej⟩ => w13_0 j (by omega) (by rw [(show (vl h 194 (40 * s.toInt.toNat)) v2_3.toInt.toNat = y7 from vl_of (c := 194) (o := 40 * s.toInt.toNat) (i := v2_3.toInt.toNat) (by omega) (by rw [show 40 * s.toInt.toNat + v2_3.toInt.toNat = z6.toInt.toNat by omega]; exact e7))] at ej; exact ej)))) (by rw [(show (vl h 194 (40 * s.toInt.toNat)) v2_3.toInt.toNat = y7 from vl_of (c := 194) (o := 40 * s.toInt.toNat) (i := v2_3.toInt.toNat) (by omega) (by rw [show 40 * s.toInt.toNat + v2_3.toInt.toNat = z6.toInt.toNat by omega]; exact e7))]; exact ho15))).symm⟩⟩
                  · subst w15_
                    refine tz_eq (p2 := 97) rfl rfl (show Int32.toInt 0 = 0 from rfl) (fun c17 => ?_) (fun c17 => absurd c17 (by omega))
                    refine ar_inc (p2 := 103) (x := v2_3) rfl rfl (by decide) rfl (by decide) rfl (by omega) (by omega) (fun z18 e18 f18 => ?_)
                    show EvP _ _ _ (103, [(3, .int z18), (0, .ref 164), (1, .int row), (2, .int s), (4, .int y7), (5, .int v13_5)], [], h) _
                    refine te_goto rfl ?_
                    refine te_lv [(0, .ref 164), (1, .int row), (2, .int s), (3, .int z18)] rfl rfl ⟨rfl, rfl, rfl, rfl, trivial⟩ ?_
                    exact ih2 z18 (by omega) (by omega) (by omega) (allB_s (k := v2_3.toInt.toNat) w2_0 (by omega) f18 (by rw [show 40 * s.toInt.toNat + v2_3.toInt.toNat = z6.toInt.toNat by omega]; exact e7) (by omega) (by omega)) (by rw [← w2_1]; exact (baO_n (by rw [rv_of e1]; omega) (by omega) (fun q => q.elim (fun a => a (by rw [(show (vl h 194 (40 * s.toInt.toNat)) v2_3.toInt.toNat = y7 from vl_of (c := 194) (o := 40 * s.toInt.toNat) (i := v2_3.toInt.toNat) (by omega) (by rw [show 40 * s.toInt.toNat + v2_3.toInt.toNat = z6.toInt.toNat by omega]; exact e7)), (show (cM h).np = p8 from rv_of e8)]; omega)) (fun q => q.elim (fun a => absurd a (by rw [(show (vl h 194 (40 * s.toInt.toNat)) v2_3.toInt.toNat = y7 from vl_of (c := 194) (o := 40 * s.toInt.toNat) (i := v2_3.toInt.toNat) (by omega) (by rw [show 40 * s.toInt.toNat + v2_3.toInt.toNat = z6.toInt.toNat by omega]; exact e7)), (show (absM h).de y7.toInt.toNat = y11 from (aM_de (by omega)).trans (by rw [show 236 + y7.toInt.toNat = z10.toInt.toNat by omega]; exact rv_of e11))]; omega)) (fun ⟨j, hj, ej⟩ => w13_0 j (by omega) (by rw [(show (vl h 194 (40 * s.toInt.toNat)) v2_3.toInt.toNat = y7 from vl_of (c := 194) (o := 40 * s.toInt.toNat) (i := v2_3.toInt.toNat) (by omega) (by rw [show 40 * s.toInt.toNat + v2_3.toInt.toNat = z6.toInt.toNat by omega]; exact e7))] at ej; exact ej)))) (by rw [(show (vl h 194 (40 * s.toInt.toNat)) v2_3.toInt.toNat = y7 from vl_of (c := 194) (o := 40 * s.toInt.toNat) (i := v2_3.toInt.toNat) (by omega) (by rw [show 40 * s.toInt.toNat + v2_3.toInt.toNat = z6.toInt.toNat by omega]; exact e7))]; exact ho15)).symm) (by omega)
                · refine te_aload_n (p2 := 62) rfl rfl rfl ?_
                  refine tg_r (p2 := 65) (i := 148) (r := 210) rfl rfl hI rfl rfl rfl ?_
                  refine te_bipush (p2 := 67) (x := 40) rfl rfl (by decide) ?_
                  refine te_iload_n (p2 := 68) rfl rfl rfl ?_
                  refine ar_mul (p2 := 69) rfl rfl (show Int32.toInt 40 = 40 from rfl) rfl (by omega) (by omega) (fun z19 e19 f19 => ?_)
                  refine te_iload (p2 := 71) rfl rfl rfl ?_
                  refine ar_add (p2 := 72) rfl rfl rfl rfl (by omega) (by omega) (fun z20 e20 f20 => ?_)
                  refine tl_i (p2 := 73) (i := 194) (n := 160) rfl rfl hI rfl rfl rfl rfl (by omega) (by omega) (fun y21 a21 b21 g21 e21 => ?_)
                  refine te_iload (p2 := 75) rfl rfl rfl ?_
                  refine tb_ne (p2 := 78) rfl rfl rfl rfl (fun c22 => ?_) (fun c22 => ?_)
                  · refine ar_inc (p2 := 84) (x := v13_5) rfl rfl (by decide) rfl (by decide) rfl (by omega) (by omega) (fun z23 e23 f23 => ?_)
                    show EvP _ _ _ (84, [(5, .int z23), (0, .ref 164), (1, .int row), (2, .int s), (3, .int v2_3), (4, .int y7)], [], h) _
                    refine te_goto rfl ?_
                    refine te_lv [(0, .ref 164), (1, .int row), (2, .int s), (3, .int v2_3), (4, .int y7), (5, .int z23)] rfl rfl ⟨rfl, rfl, rfl, rfl, rfl, rfl, trivial⟩ ?_
                    exact ih13 z23 (by omega) (by omega) (fun j hj q => by (by_cases hc : j = v13_5.toInt.toNat); (· rw [hc, (show (vl h 194 (40 * s.toInt.toNat)) v13_5.toInt.toNat = y21 from vl_of (c := 194) (o := 40 * s.toInt.toNat) (i := v13_5.toInt.toNat) (by omega) (by rw [show 40 * s.toInt.toNat + v13_5.toInt.toNat = z20.toInt.toNat by omega]; exact e21))] at q; exact absurd (congrArg Int32.toInt q) (by omega)); (· exact w13_0 j (by omega) q)) (by omega)
                  · refine te_bipush (p2 := 80) (x := (-2)) rfl rfl (by decide) ?_
                    exact te_iret rfl rfl ⟨rfl, _, rfl, ⟨Or.inl (by decide), (w2_1.symm.trans (baO_b (m2 := (rv h 193 s.toInt.toNat).toInt.toNat - v2_3.toInt.toNat - 1) (by rw [rv_of e1]; omega) (Or.inr (Or.inr ⟨v13_5.toInt.toNat, by omega, (by rw [(show (vl h 194 (40 * s.toInt.toNat)) v13_5.toInt.toNat = y21 from vl_of (c := 194) (o := 40 * s.toInt.toNat) (i := v13_5.toInt.toNat) (by omega) (by rw [show 40 * s.toInt.toNat + v13_5.toInt.toNat = z20.toInt.toNat by omega]; exact e21)), (show (vl h 194 (40 * s.toInt.toNat)) v2_3.toInt.toNat = y7 from vl_of (c := 194) (o := 40 * s.toInt.toNat) (i := v2_3.toInt.toNat) (by omega) (by rw [show 40 * s.toInt.toNat + v2_3.toInt.toNat = z6.toInt.toNat by omega]; exact e7))]; exact i32_ext (by omega))⟩)))).symm⟩⟩
            refine te_lv [(0, .ref 164), (1, .int row), (2, .int s), (3, .int v2_3), (4, .int y7), (5, .int 0)] rfl rfl ⟨rfl, rfl, rfl, rfl, rfl, rfl, trivial⟩ ?_
            exact lp13 41 0 (by decide) (by decide) (fun j hj => absurd hj (Nat.not_lt_zero j)) (by have cc0 := (show Int32.toInt 0 = 0 from rfl); omega)
          · refine te_bipush (p2 := 51) (x := (-2)) rfl rfl (by decide) ?_
            exact te_iret rfl rfl ⟨rfl, _, rfl, ⟨Or.inl (by decide), (w2_1.symm.trans (baO_b (m2 := (rv h 193 s.toInt.toNat).toInt.toNat - v2_3.toInt.toNat - 1) (by rw [rv_of e1]; omega) (Or.inr (Or.inl (by rw [(show (vl h 194 (40 * s.toInt.toNat)) v2_3.toInt.toNat = y7 from vl_of (c := 194) (o := 40 * s.toInt.toNat) (i := v2_3.toInt.toNat) (by omega) (by rw [show 40 * s.toInt.toNat + v2_3.toInt.toNat = z6.toInt.toNat by omega]; exact e7)), (show (absM h).de y7.toInt.toNat = y11 from (aM_de (by omega)).trans (by rw [show 236 + y7.toInt.toNat = z10.toInt.toNat by omega]; exact rv_of e11))]; omega))))).symm⟩⟩
        · subst w8
          refine tz_eq (p2 := 34) rfl rfl (show Int32.toInt 0 = 0 from rfl) (fun c24 => ?_) (fun c24 => absurd c24 (by omega))
          refine te_bipush (p2 := 51) (x := (-2)) rfl rfl (by decide) ?_
          exact te_iret rfl rfl ⟨rfl, _, rfl, ⟨Or.inl (by decide), (w2_1.symm.trans (baO_b (m2 := (rv h 193 s.toInt.toNat).toInt.toNat - v2_3.toInt.toNat - 1) (by rw [rv_of e1]; omega) (Or.inl (by rw [(show (vl h 194 (40 * s.toInt.toNat)) v2_3.toInt.toNat = y7 from vl_of (c := 194) (o := 40 * s.toInt.toNat) (i := v2_3.toInt.toNat) (by omega) (by rw [show 40 * s.toInt.toNat + v2_3.toInt.toNat = z6.toInt.toNat by omega]; exact e7)), (show (cM h).np = p8 from rv_of e8)]; omega)))).symm⟩⟩
  refine te_lv [(0, .ref 164), (1, .int row), (2, .int s), (3, .int 0)] rfl rfl ⟨rfl, rfl, rfl, rfl, trivial⟩ ?_
  exact lp2 41 0 (by decide) (by decide) (by have cc0 := (show Int32.toInt 0 = 0 from rfl); omega) (allB_0 (by decide)) rfl (by have cc0 := (show Int32.toInt 0 = 0 from rfl); omega)
abbrev D2_row (x1 x2 x3 x4 : Int32) (y : Int32) (h h2 : im_H) : Prop := (y, cM h2) = row_f x1 x2 x3 x4 (rv h 192 x2.toInt.toNat) (rv h 193 x2.toInt.toNat) (vl h 194 (40 * x2.toInt.toNat)) (cM h) (absM h) ∧ uniM h2
abbrev Q2_row (x1 x2 x3 x4 : Int32) (y : Int32) (h h2 : im_H) : Prop := uniM h → D2_row x1 x2 x3 x4 y h h2
set_option maxRecDepth 20000 in
set_option maxHeartbeats 4000000 in
theorem d_X12_row {x1 : Int32} {x2 : Int32} {x3 : Int32} {x4 : Int32} {h : im_H} (hI : tI h) (pr0 : uniM h) : CaP 4 131 [.ref 164, .int x1, .int x2, .int x3, .int x4] h (fun v h2 => tI h2 ∧ fr F_X12_row h h2 ∧ ∃ y : Int32, v = some (.int y) ∧ D2_row x1 x2 x3 x4 y h h2) := by
  refine cap_of (d := 3) (M := mX12_row) rfl (Nat.le_of_ble_eq_true rfl) ?_
  show EvP im_K0 3 mX12_row (0, [(0, .ref 164), (1, .int x1), (2, .int x2), (3, .int x3), (4, .int x4)], [], h) _
  have f0 : fr F_X12_row h h := fr_rf
  refine te_iload_n (p2 := 1) rfl rfl rfl ?_
  obtain ⟨v1, e1, y1, w1, a1, b1, _⟩ := hI.2.1 148 10 (.inl (0, 24, 9999999999)) rfl
  subst w1
  have hnp : (cM h).np.toInt ≤ 24 := by (rw [show (cM h).np = y1 from rv_of e1]; omega)
  have hb8 : ∀ r : Nat, r < 4 → (rv h 161 r).toInt ≤ 8 := fun r hr => by (obtain ⟨_, e_, x_, w_, _, b_, _⟩ := hI.2.1 161 r (.inl (0, 8, 9999999999)) (tq_row rfl (by omega)); subst w_; rw [rv_of e_]; exact b_)
  refine te_iconst (p2 := 2) (x := 0) rfl rfl (by decide) ?_
  refine te_iconst (p2 := 3) (x := 3) rfl rfl (by decide) ?_
  refine cS_pI (p2 := 6) rfl rfl rfl rfl (t_X12_in (n := x1) (a := 0) (b := 3) hI ) (by decide) (fun y2 r2 => ?_)
  rcases r2 with ⟨w2, c2⟩ | ⟨w2, c2⟩
  · subst w2
    have cc2_1 := (show Int32.toInt 0 = 0 from rfl)
    have cc2_2 := (show Int32.toInt 3 = 3 from rfl)
    refine tz_eq (p2 := 9) rfl rfl (show Int32.toInt 1 = 1 from rfl) (fun c3 => absurd c3 (by omega)) (fun c3 => ?_)
    refine te_iload_n (p2 := 10) rfl rfl rfl ?_
    refine te_iconst (p2 := 11) (x := 0) rfl rfl (by decide) ?_
    refine te_iconst (p2 := 12) (x := 3) rfl rfl (by decide) ?_
    refine cS_pI (p2 := 15) rfl rfl rfl rfl (t_X12_in (n := x2) (a := 0) (b := 3) hI ) (by decide) (fun y4 r4 => ?_)
    rcases r4 with ⟨w4, c4⟩ | ⟨w4, c4⟩
    · subst w4
      have cc4_1 := (show Int32.toInt 0 = 0 from rfl)
      have cc4_2 := (show Int32.toInt 3 = 3 from rfl)
      refine tz_eq (p2 := 18) rfl rfl (show Int32.toInt 1 = 1 from rfl) (fun c5 => absurd c5 (by omega)) (fun c5 => ?_)
      refine te_iload_n (p2 := 19) rfl rfl rfl ?_
      refine cS_pI (p2 := 22) rfl rfl rfl rfl (t_X12_isCell (n := x3) hI ) (by decide) (fun y6 r6 => ?_)
      rcases r6 with ⟨w6, c6⟩ | ⟨w6, c6⟩
      · subst w6
        refine tz_eq (p2 := 25) rfl rfl (show Int32.toInt 1 = 1 from rfl) (fun c7 => absurd c7 (by omega)) (fun c7 => ?_)
        refine te_iload (p2 := 27) rfl rfl rfl ?_
        refine cS_pI (p2 := 30) rfl rfl rfl rfl (t_X12_isCell (n := x4) hI ) (by decide) (fun y8 r8 => ?_)
        rcases r8 with ⟨w8, c8⟩ | ⟨w8, c8⟩
        · subst w8
          refine tz_ne (p2 := 33) rfl rfl (show Int32.toInt 1 = 1 from rfl) (fun c9 => ?_) (fun c9 => absurd c9 (by omega))
          refine te_aload_n (p2 := 36) rfl rfl rfl ?_
          have hoth : ∀ p : Nat, p < 24 → (othM h x1.toInt p ↔ (((cM h).ro p).toInt ≠ -1 ∧ ((cM h).ro p).toInt ≠ x1.toInt)) := fun p hp => by (rw [show (cM h).ro p = roR h p 4 0 from gd_at (f := fun p => roR h p 4 0) hp]; exact oth_iff pr0 (by omega) (by omega))
          obtain ⟨v10, e10, y10, w10, a10, b10, _⟩ := hI.2.1 192 x2.toInt.toNat (.inl ((-1), 2, 9999999999)) (tq_row rfl (by omega))
          subst w10
          obtain ⟨v11, e11, y11, w11, a11, b11, _⟩ := hI.2.1 193 x2.toInt.toNat (.inl (0, 40, 9999999999)) (tq_row rfl (by omega))
          subst w11
          refine tg_r (p2 := 39) (i := 148) (r := 208) rfl rfl hI rfl rfl rfl ?_
          refine te_iload_n (p2 := 40) rfl rfl rfl ?_
          refine tl_e (p2 := 41) (i := 192) (n := 4) (t := 0) (Or.inl rfl) rfl rfl hI rfl rfl (by omega) (by omega) e10 ?_
          refine te_iconst (p2 := 42) (x := (-1)) rfl rfl (by decide) ?_
          refine tb_ne (p2 := 45) rfl rfl rfl (show Int32.toInt (-1) = (-1) from rfl) (fun c13 => ?_) (fun c13 => ?_)
          · refine te_aload_n (p2 := 49) rfl rfl rfl ?_
            refine tg_r (p2 := 52) (i := 148) (r := 209) rfl rfl hI rfl rfl rfl ?_
            refine te_iload_n (p2 := 53) rfl rfl rfl ?_
            refine tl_e (p2 := 54) (i := 193) (n := 4) (t := 0) (Or.inl rfl) rfl rfl hI rfl rfl (by omega) (by omega) e11 ?_
            refine te_bipush (p2 := 56) (x := 8) rfl rfl (by decide) ?_
            refine tb_gt (p2 := 59) rfl rfl rfl (show Int32.toInt 8 = 8 from rfl) (fun c15 => ?_) (fun c15 => ?_)
            · refine te_bipush (p2 := 70) (x := (-2)) rfl rfl (by decide) ?_
              exact te_iret rfl rfl ⟨hI, f0, _, rfl, (by show ((-2), cM h) = _ ∧ uniM h; refine ⟨?_, pr0⟩; unfold row_f; rw [if_pos (by omega), rv_of e10, rv_of e11]; rw [if_neg (by omega), if_pos (Or.inl (by omega))])⟩
            · refine te_iload_n (p2 := 60) rfl rfl rfl ?_
              refine te_iload (p2 := 62) rfl rfl rfl ?_
              refine cS_pI (p2 := 65) rfl rfl rfl rfl (c_X12_areBeside (c := x3) (o := x4) hI (by omega) (by omega)) (by decide) (fun y16 r16 => ?_)
              rcases r16 with ⟨w16_, c16⟩ | ⟨w16_, c16⟩
              · subst w16_
                refine tz_ne (p2 := 68) rfl rfl (show Int32.toInt 1 = 1 from rfl) (fun c17 => ?_) (fun c17 => absurd c17 (by omega))
                refine te_aload_n (p2 := 72) rfl rfl rfl ?_
                refine te_iload_n (p2 := 73) rfl rfl rfl ?_
                refine te_iload_n (p2 := 74) rfl rfl rfl ?_
                refine cV_pI (p2 := 77) (i := 148) rfl rfl rfl rfl hI rfl rfl rfl (c_X12_barred (row := x1) (s := x2) hI (by omega) (by omega) (by omega) (by omega)) (by decide) (fun y18 r18 => ?_)
                obtain ⟨r18, bq18⟩ := r18
                rcases r18 with r18 | ⟨r18, p18, e18, a18, b18, w18⟩
                · refine te_istore (p2 := 79) (lv2 := [(5, .int y18), (0, .ref 164), (1, .int x1), (2, .int x2), (3, .int x3), (4, .int x4)]) rfl rfl (by decide) rfl ?_
                  refine te_iload (p2 := 81) rfl rfl rfl ?_
                  refine tz_eq (p2 := 84) rfl rfl rfl (fun c19 => absurd c19 (by omega)) (fun c19 => ?_)
                  refine te_iload (p2 := 86) rfl rfl rfl ?_
                  exact te_iret rfl rfl ⟨hI, f0, _, rfl, (by show (y18, cM h) = _ ∧ uniM h; refine ⟨?_, pr0⟩; unfold row_f; rw [if_pos (by omega), rv_of e10, rv_of e11]; rw [if_neg (by omega), if_neg (fun q => q.elim (fun a => absurd a (by omega)) (fun a => a c16)), (show barF (cM h) (absM h) (vl h 194 (40 * x2.toInt.toNat)) x1 y11.toInt.toNat 0 = y18 from (by (have h9 := bq18); rw [rv_of e11] at h9; rw [h9]; exact (baO_F hnp hoth _ _).symm)), if_pos (by omega)])⟩
                · have x18 : p18 = y11 := int_inj e18 e11
                  rw [x18] at w18
                  refine te_istore (p2 := 79) (lv2 := [(5, .int y18), (0, .ref 164), (1, .int x1), (2, .int x2), (3, .int x3), (4, .int x4)]) rfl rfl (by decide) rfl ?_
                  refine te_iload (p2 := 81) rfl rfl rfl ?_
                  refine tz_eq (p2 := 84) rfl rfl rfl (fun c20 => ?_) (fun c20 => absurd c20 (by omega))
                  refine te_iconst (p2 := 88) (x := 0) rfl rfl (by decide) ?_
                  refine te_istore (p2 := 90) (lv2 := [(6, .int 0), (5, .int y18), (0, .ref 164), (1, .int x1), (2, .int x2), (3, .int x3), (4, .int x4)]) rfl rfl (by decide) rfl ?_
                  have lp21 : ∀ (n21 : Nat) (v21_6 : Int32) (h21 : im_H), tI h21 → fr F_X12_row h h21 → 0 ≤ v21_6.toInt → v21_6.toInt ≤ 8 → v21_6.toInt ≤ y11.toInt → (∀ j m : Nat, j ≠ 160 → rd h21 j m = rd h j m) → (∀ r i : Nat, r < 4 → i < 8 → rv h21 160 (8 * r + i) = if r = x1.toInt.toNat ∧ i < v21_6.toInt.toNat then (vl h 194 (40 * x2.toInt.toNat)) i else rv h 160 (8 * r + i)) → 8 - v21_6.toInt < (n21 : Int) → EvP im_K0 3 mX12_row (90, [(0, .ref 164), (1, .int x1), (2, .int x2), (3, .int x3), (4, .int x4), (5, .int y18), (6, .int v21_6)], [], h21) (fun v h2 => tI h2 ∧ fr F_X12_row h h2 ∧ ∃ y : Int32, v = some (.int y) ∧ D2_row x1 x2 x3 x4 y h h2) := by
                    intro n21
                    induction n21 with
                    | zero => intro v21_6 h21 I21 f21 a21_6 b21_6 l21_0 w21_0 w21_1 m21; exfalso; omega
                    | succ n21 ih21 =>
                      intro v21_6 h21 I21 f21 a21_6 b21_6 l21_0 w21_0 w21_1 m21
                      refine te_iload (p2 := 92) rfl rfl rfl ?_
                      refine te_aload_n (p2 := 93) rfl rfl rfl ?_
                      refine tg_r (p2 := 96) (i := 148) (r := 209) rfl rfl I21 rfl rfl rfl ?_
                      refine te_iload_n (p2 := 97) rfl rfl rfl ?_
                      refine tl_e (p2 := 98) (i := 193) (n := 4) (t := 0) (Or.inl rfl) rfl rfl I21 rfl rfl (by omega) (by omega) ((f21 _ _ rfl).trans e11) ?_
                      refine tb_ge (p2 := 101) rfl rfl rfl rfl (fun c23 => ?_) (fun c23 => ?_)
                      · refine te_aload_n (p2 := 132) rfl rfl rfl ?_
                        refine tg_r (p2 := 135) (i := 148) (r := 177) rfl rfl I21 rfl rfl rfl ?_
                        refine te_iload_n (p2 := 136) rfl rfl rfl ?_
                        refine te_aload_n (p2 := 137) rfl rfl rfl ?_
                        refine tg_r (p2 := 140) (i := 148) (r := 209) rfl rfl I21 rfl rfl rfl ?_
                        refine te_iload_n (p2 := 141) rfl rfl rfl ?_
                        refine tl_e (p2 := 142) (i := 193) (n := 4) (t := 0) (Or.inl rfl) rfl rfl I21 rfl rfl (by omega) (by omega) ((f21 _ _ rfl).trans e11) ?_
                        refine ts_i (p2 := 143) (i := 161) (n := 4) rfl rfl I21 rfl rfl rfl rfl (by omega) (by omega) (by omega) (by omega) (by omega) rfl (fun h25 I25 u25 => ?_)
                        have f25 := fr_st (F := F_X12_row) 1 f21 u25 rfl (by omega) (by omega)
                        refine te_aload_n (p2 := 144) rfl rfl rfl ?_
                        refine tg_r (p2 := 147) (i := 148) (r := 178) rfl rfl I25 rfl rfl rfl ?_
                        refine te_iload_n (p2 := 148) rfl rfl rfl ?_
                        refine te_iload_n (p2 := 149) rfl rfl rfl ?_
                        refine ts_i (p2 := 150) (i := 162) (n := 4) rfl rfl I25 rfl rfl rfl rfl (by omega) (by omega) (by omega) (by omega) (by omega) rfl (fun h26 I26 u26 => ?_)
                        have f26 := fr_st (F := F_X12_row) 2 f25 u26 rfl (by omega) (by omega)
                        refine te_aload_n (p2 := 151) rfl rfl rfl ?_
                        refine tg_r (p2 := 154) (i := 148) (r := 179) rfl rfl I26 rfl rfl rfl ?_
                        refine te_iload_n (p2 := 155) rfl rfl rfl ?_
                        refine te_iload (p2 := 157) rfl rfl rfl ?_
                        refine ts_i (p2 := 158) (i := 163) (n := 4) rfl rfl I26 rfl rfl rfl rfl (by omega) (by omega) (by omega) (by omega) (by omega) rfl (fun h27 I27 u27 => ?_)
                        have f27 := fr_st (F := F_X12_row) 3 f26 u27 rfl (by omega) (by omega)
                        refine te_aload_n (p2 := 159) rfl rfl rfl ?_
                        refine tg_r (p2 := 162) (i := 148) (r := 209) rfl rfl I27 rfl rfl rfl ?_
                        refine te_iload_n (p2 := 163) rfl rfl rfl ?_
                        refine tl_e (p2 := 164) (i := 193) (n := 4) (t := 0) (Or.inl rfl) rfl rfl I27 rfl rfl (by omega) (by omega) ((u27.2 _ _ (Or.inl (by decide))).trans ((u26.2 _ _ (Or.inl (by decide))).trans ((u25.2 _ _ (Or.inl (by decide))).trans ((f21 _ _ rfl).trans e11)))) ?_
                        exact te_iret rfl rfl ⟨I27, f27, _, rfl, (by show (y11, cM h27) = _ ∧ uniM h27; (have hz9 : y11 = y11 := i32_ext (by omega)); (have hR := rowM (x1 := x1) (x3 := x3) (x4 := x4) (z := y11) (F := (vl h 194 (40 * x2.toInt.toNat))) (H := h27) pr0 (by omega) (by omega) (by omega) (by omega) (fun i k hi => (u27.2 _ _ (Or.inl (by omega))).trans ((u26.2 _ _ (Or.inl (by omega))).trans ((u25.2 _ _ (Or.inl (by omega))).trans (w21_0 i k (by omega))))) (fun r i hr hi => by rw [rv_ni u27 (Or.inl (by decide)), rv_ni u26 (Or.inl (by decide)), rv_ni u25 (Or.inl (by decide)), ← (show v21_6.toInt.toNat = y11.toInt.toNat by omega)]; exact w21_1 r i hr hi) (fun r hr => ⟨(by (by_cases hc : r = x1.toInt.toNat); (· rw [if_pos hc, hc, rv_ni u27 (Or.inl (by decide)), rv_ni u26 (Or.inl (by decide))]; exact rv_of u25.1); (· rw [if_neg hc, rv_ni u27 (Or.inl (by decide)), rv_ni u26 (Or.inl (by decide)), rv_ni u25 (Or.inr hc)]; exact rv_q (w21_0 _ _ (by decide)))), (by (by_cases hc : r = x1.toInt.toNat); (· rw [if_pos hc, hc, rv_ni u27 (Or.inl (by decide))]; exact rv_of u26.1); (· rw [if_neg hc, rv_ni u27 (Or.inl (by decide)), rv_ni u26 (Or.inr hc), rv_ni u25 (Or.inl (by decide))]; exact rv_q (w21_0 _ _ (by decide)))), (by (by_cases hc : r = x1.toInt.toNat); (· rw [if_pos hc, hc]; exact rv_of u27.1); (· rw [if_neg hc, rv_ni u27 (Or.inr hc), rv_ni u26 (Or.inl (by decide)), rv_ni u25 (Or.inl (by decide))]; exact rv_q (w21_0 _ _ (by decide))))⟩) hb8 (fun j hj => by (have hb0 := (show barF (cM h) (absM h) (vl h 194 (40 * x2.toInt.toNat)) x1 y11.toInt.toNat 0 = y18 from (by (have h9 := bq18); rw [rv_of e11] at h9; rw [h9]; exact (baO_F hnp hoth _ _).symm))); (have h9 := bar_ok _ _ (hb0.trans (i32_ext (by rw [show Int32.toInt 0 = 0 from rfl]; omega))) j (Nat.zero_le j) (by omega)); exact ⟨fun q => h9.2.2 ((hoth _ (by omega)).mp q), h9.1.1⟩)); refine ⟨?_, hR.2⟩; unfold row_f; rw [if_pos (by omega), rv_of e10, rv_of e11]; rw [if_neg (by omega), if_neg (fun q => q.elim (fun a => absurd a (by omega)) (fun a => a c16)), (show barF (cM h) (absM h) (vl h 194 (40 * x2.toInt.toNat)) x1 y11.toInt.toNat 0 = y18 from (by (have h9 := bq18); rw [rv_of e11] at h9; rw [h9]; exact (baO_F hnp hoth _ _).symm)), if_neg (fun q => q (by omega)), hR.1])⟩
                      · refine te_aload_n (p2 := 102) rfl rfl rfl ?_
                        refine tg_r (p2 := 105) (i := 148) (r := 176) rfl rfl I21 rfl rfl rfl ?_
                        refine te_bipush (p2 := 107) (x := 8) rfl rfl (by decide) ?_
                        refine te_iload_n (p2 := 108) rfl rfl rfl ?_
                        refine ar_mul (p2 := 109) rfl rfl (show Int32.toInt 8 = 8 from rfl) rfl (by omega) (by omega) (fun z29 e29 f29 => ?_)
                        refine te_iload (p2 := 111) rfl rfl rfl ?_
                        refine ar_add (p2 := 112) rfl rfl rfl rfl (by omega) (by omega) (fun z30 e30 f30 => ?_)
                        refine te_aload_n (p2 := 113) rfl rfl rfl ?_
                        refine tg_r (p2 := 116) (i := 148) (r := 210) rfl rfl I21 rfl rfl rfl ?_
                        refine te_bipush (p2 := 118) (x := 40) rfl rfl (by decide) ?_
                        refine te_iload_n (p2 := 119) rfl rfl rfl ?_
                        refine ar_mul (p2 := 120) rfl rfl (show Int32.toInt 40 = 40 from rfl) rfl (by omega) (by omega) (fun z31 e31 f31 => ?_)
                        refine te_iload (p2 := 122) rfl rfl rfl ?_
                        refine ar_add (p2 := 123) rfl rfl rfl rfl (by omega) (by omega) (fun z32 e32 f32 => ?_)
                        refine tl_i (p2 := 124) (i := 194) (n := 160) rfl rfl I21 rfl rfl rfl rfl (by omega) (by omega) (fun y33 a33 b33 g33 e33 => ?_)
                        obtain ⟨a34, b34⟩ := allB_at (allB_fr w18 (fun q => f21 _ _ rfl)) v21_6.toInt.toNat (by omega) (by omega) e33
                        refine ts_i (p2 := 125) (i := 160) (n := 32) rfl rfl I21 rfl rfl rfl rfl (by omega) (by omega) (by omega) (by omega) (by omega) rfl (fun h35 I35 u35 => ?_)
                        have f35 := fr_st (F := F_X12_row) 0 f21 u35 rfl (by omega) (by omega)
                        refine ar_inc (p2 := 128) (x := v21_6) rfl rfl (by decide) rfl (by decide) rfl (by omega) (by omega) (fun z36 e36 f36 => ?_)
                        show EvP _ _ _ (128, [(6, .int z36), (0, .ref 164), (1, .int x1), (2, .int x2), (3, .int x3), (4, .int x4), (5, .int y18)], [], h35) _
                        refine te_goto rfl ?_
                        refine te_lv [(0, .ref 164), (1, .int x1), (2, .int x2), (3, .int x3), (4, .int x4), (5, .int y18), (6, .int z36)] rfl rfl ⟨rfl, rfl, rfl, rfl, rfl, rfl, rfl, trivial⟩ ?_
                        exact ih21 z36 h35 I35 f35 (by omega) (by omega) (by omega) (fun j m hj => (u35.2 _ _ (Or.inl hj)).trans (w21_0 j m hj)) (fun r i hr hi => by (by_cases hc : r = x1.toInt.toNat ∧ i = v21_6.toInt.toNat); (· rw [if_pos ⟨hc.1, by omega⟩, hc.1, hc.2, show 8 * x1.toInt.toNat + v21_6.toInt.toNat = z30.toInt.toNat by omega, rv_of u35.1]; exact ((show (vl h 194 (40 * x2.toInt.toNat)) v21_6.toInt.toNat = y33 from vl_of (c := 194) (o := 40 * x2.toInt.toNat) (i := v21_6.toInt.toNat) (by omega) (by rw [show 40 * x2.toInt.toNat + v21_6.toInt.toNat = z32.toInt.toNat by omega]; exact (f21 _ _ rfl).symm.trans e33))).symm); (· rw [rv_ni u35 (Or.inr (by omega)), w21_1 r i hr hi]; (by_cases hq : r = x1.toInt.toNat ∧ i < v21_6.toInt.toNat); (· rw [if_pos hq, if_pos ⟨hq.1, by omega⟩]); (· rw [if_neg hq, if_neg (by omega)]))) (by omega)
                  refine te_lv [(0, .ref 164), (1, .int x1), (2, .int x2), (3, .int x3), (4, .int x4), (5, .int y18), (6, .int 0)] rfl rfl ⟨rfl, rfl, rfl, rfl, rfl, rfl, rfl, trivial⟩ ?_
                  exact lp21 9 0 h hI f0 (by decide) (by decide) (by have cc0 := (show Int32.toInt 0 = 0 from rfl); omega) (fun _ _ _ => rfl) (fun r i _ _ => (if_neg (fun q => absurd q.2 (Nat.not_lt_zero i))).symm) (by have cc0 := (show Int32.toInt 0 = 0 from rfl); omega)
              · subst w16_
                refine tz_ne (p2 := 68) rfl rfl (show Int32.toInt 0 = 0 from rfl) (fun c37 => absurd c37 (by omega)) (fun c37 => ?_)
                refine te_bipush (p2 := 70) (x := (-2)) rfl rfl (by decide) ?_
                exact te_iret rfl rfl ⟨hI, f0, _, rfl, (by show ((-2), cM h) = _ ∧ uniM h; refine ⟨?_, pr0⟩; unfold row_f; rw [if_pos (by omega), rv_of e10, rv_of e11]; rw [if_neg (by omega), if_pos (Or.inr c16)])⟩
          · refine te_bipush (p2 := 47) (x := (-11)) rfl rfl (by decide) ?_
            exact te_iret rfl rfl ⟨hI, f0, _, rfl, (by show ((-11), cM h) = _ ∧ uniM h; refine ⟨?_, pr0⟩; unfold row_f; rw [if_pos (by omega), rv_of e10, rv_of e11]; rw [if_pos (by omega)])⟩
        · subst w8
          refine tz_ne (p2 := 33) rfl rfl (show Int32.toInt 0 = 0 from rfl) (fun c38 => absurd c38 (by omega)) (fun c38 => ?_)
          refine te_iconst (p2 := 34) (x := (-1)) rfl rfl (by decide) ?_
          exact te_iret rfl rfl ⟨hI, f0, _, rfl, (by show ((-1), cM h) = _ ∧ uniM h; refine ⟨?_, pr0⟩; unfold row_f; rw [if_neg (by omega)])⟩
      · subst w6
        refine tz_eq (p2 := 25) rfl rfl (show Int32.toInt 0 = 0 from rfl) (fun c39 => ?_) (fun c39 => absurd c39 (by omega))
        refine te_iconst (p2 := 34) (x := (-1)) rfl rfl (by decide) ?_
        exact te_iret rfl rfl ⟨hI, f0, _, rfl, (by show ((-1), cM h) = _ ∧ uniM h; refine ⟨?_, pr0⟩; unfold row_f; rw [if_neg (by omega)])⟩
    · subst w4
      have cc4_1 := (show Int32.toInt 0 = 0 from rfl)
      have cc4_2 := (show Int32.toInt 3 = 3 from rfl)
      refine tz_eq (p2 := 18) rfl rfl (show Int32.toInt 0 = 0 from rfl) (fun c40 => ?_) (fun c40 => absurd c40 (by omega))
      refine te_iconst (p2 := 34) (x := (-1)) rfl rfl (by decide) ?_
      exact te_iret rfl rfl ⟨hI, f0, _, rfl, (by show ((-1), cM h) = _ ∧ uniM h; refine ⟨?_, pr0⟩; unfold row_f; rw [if_neg (by omega)])⟩
  · subst w2
    have cc2_1 := (show Int32.toInt 0 = 0 from rfl)
    have cc2_2 := (show Int32.toInt 3 = 3 from rfl)
    refine tz_eq (p2 := 9) rfl rfl (show Int32.toInt 0 = 0 from rfl) (fun c41 => ?_) (fun c41 => absurd c41 (by omega))
    refine te_iconst (p2 := 34) (x := (-1)) rfl rfl (by decide) ?_
    exact te_iret rfl rfl ⟨hI, f0, _, rfl, (by show ((-1), cM h) = _ ∧ uniM h; refine ⟨?_, pr0⟩; unfold row_f; rw [if_neg (by omega)])⟩
theorem c_X12_row {x1 : Int32} {x2 : Int32} {x3 : Int32} {x4 : Int32} {h : im_H} (hI : tI h) : CaP 4 131 [.ref 164, .int x1, .int x2, .int x3, .int x4] h (fun v h2 => tI h2 ∧ fr F_X12_row h h2 ∧ ∃ y : Int32, v = some (.int y) ∧ Q2_row x1 x2 x3 x4 y h h2) := by
  by_cases hp : uniM h
  · exact cap_imp (d_X12_row hI hp) (fun v h2 ⟨a, f, y, e, q⟩ => ⟨a, f, y, e, fun _ => q⟩)
  · exact cap_imp (t_X12_row hI) (fun v h2 ⟨a, f, y, e, _⟩ => ⟨a, f, y, e, fun q => absurd q hp⟩)
def railC (x1 x3 z : Int32) (F : Nat → Int32) (c : Ct) : Ct := (Ct.mk (Ct.kd c) (Ct.tip c) (Ct.np c) (Ct.sg c) (Ct.ag c) (Ct.kn c) (Ct.ro c) (Ct.hd c) (Ct.hn c) (Ct.hf c) (Ct.ht c) (udt c.wn x1.toInt.toNat z) (udt c.cr x1.toInt.toNat x3) (udt c.wf x1.toInt.toNat (if 2 ≤ z.toInt then F 0 else 0)) (udt c.wl x1.toInt.toNat (if 2 ≤ z.toInt then F (z.toInt.toNat - 1) else 0)) (Ct.nw c) (Ct.wc c) (Ct.wt c) (Ct.sd c))
theorem railX {h H : im_H} {x1 x3 z : Int32} {F : Nat → Int32} (h0 : 0 ≤ x1.toInt) (h3 : x1.toInt ≤ 2)
    (e : ∀ i k, (i < 11 ∨ (12 ≤ i ∧ i < 23 ∧ i ≠ 20 + x1.toInt.toNat)) → rd H i k = rd h i k)
    (e0 : rv H (20 + x1.toInt.toNat) 0 = z) (e1 : rv H (20 + x1.toInt.toNat) 1 = x3)
    (e2 : 2 ≤ z.toInt → rv H (20 + x1.toInt.toNat) 2 = F 0 ∧ rv H (20 + x1.toInt.toNat) 3 = F (z.toInt.toNat - 1)) : cX H = railC x1 x3 z F (cX h) := by
  have ev : ∀ i k, (i < 11 ∨ (12 ≤ i ∧ i < 23 ∧ i ≠ 20 + x1.toInt.toNat)) → rv H i k = rv h i k := fun i k hi => by unfold rv; rw [e i k hi]
  rw [cX_h (h := h) (H := H) (fun i k hi => e i k (by omega))]
  have a1 : (cX H).ro = (cX h).ro := gd_c (fun k _ => ev 6 k (by omega))
  have a2 : (cX H).hd = (cX h).hd := by
    funext r i
    show (if r < 4 ∧ i < 8 then rv H (13 + 2 * r) i else 0 : Int32) = if r < 4 ∧ i < 8 then rv h (13 + 2 * r) i else 0
    by_cases hc : r < 4 ∧ i < 8
    · rw [if_pos hc, if_pos hc, ev _ _ (by omega)]
    · rw [if_neg hc, if_neg hc]
  have b1 : (cX H).hn = (cX h).hn := gd_c (fun r hr => ev (12 + 2 * r) 1 (by omega))
  have b2 : (cX H).hf = (cX h).hf := gd_c (fun r hr => ev (12 + 2 * r) 2 (by omega))
  have b3 : (cX H).ht = (cX h).ht := gd_c (fun r hr => ev (12 + 2 * r) 3 (by omega))
  have a3 : ∀ k : Nat, ∀ v : Int32, rv H (20 + x1.toInt.toNat) k = v → gd 3 (fun r => rv H (20 + r) k) = udt (gd 3 (fun r => rv h (20 + r) k)) x1.toInt.toNat v := fun k v hv => by
    funext r
    show (if r < 3 then rv H (20 + r) k else 0 : Int32) = if r = x1.toInt.toNat then v else (if r < 3 then rv h (20 + r) k else 0)
    by_cases hc : r = x1.toInt.toNat
    · subst hc; rw [if_pos (c := _ < 3) (by omega), if_pos rfl, hv]
    · rw [if_neg hc]
      by_cases hr : r < 3
      · rw [if_pos hr, if_pos hr, ev _ _ (by omega)]
      · rw [if_neg hr, if_neg hr]
  have a4 : ∀ k : Nat, ∀ v : Int32, (2 ≤ z.toInt → rv H (20 + x1.toInt.toNat) k = v) → (fun r => if r < 3 ∧ 2 ≤ (rv H (20 + r) 0).toInt then rv H (20 + r) k else 0 : Nat → Int32) = udt (fun r => if r < 3 ∧ 2 ≤ (rv h (20 + r) 0).toInt then rv h (20 + r) k else 0) x1.toInt.toNat (if 2 ≤ z.toInt then v else 0) := fun k v hv => by
    funext r
    show (if r < 3 ∧ 2 ≤ (rv H (20 + r) 0).toInt then rv H (20 + r) k else 0 : Int32) = if r = x1.toInt.toNat then (if 2 ≤ z.toInt then v else 0) else (if r < 3 ∧ 2 ≤ (rv h (20 + r) 0).toInt then rv h (20 + r) k else 0)
    by_cases hc : r = x1.toInt.toNat
    · subst hc
      rw [if_pos (c := _ = _) rfl, e0]
      by_cases hz : 2 ≤ z.toInt
      · rw [if_pos (c := _ ∧ _) ⟨by omega, hz⟩, if_pos hz, hv hz]
      · rw [if_neg (fun q => hz q.2), if_neg hz]
    · rw [if_neg (c := r = x1.toInt.toNat) hc]
      by_cases hr : r < 3
      · rw [ev (20 + r) 0 (by omega), ev (20 + r) k (by omega)]
      · rw [if_neg (fun q => hr q.1), if_neg (fun q => hr q.1)]
  have c1 : (cX H).wn = (railC x1 x3 z F (cX h)).wn := a3 0 z e0
  have c2 : (cX H).cr = (railC x1 x3 z F (cX h)).cr := a3 1 x3 e1
  have c3 : (cX H).wf = (railC x1 x3 z F (cX h)).wf := a4 2 (F 0) (fun hz => (e2 hz).1)
  have c4 : (cX H).wl = (railC x1 x3 z F (cX h)).wl := a4 3 (F (z.toInt.toNat - 1)) (fun hz => (e2 hz).2)
  rw [a1, a2, b1, b2, b3, c1, c2, c3, c4]
  rfl
theorem railM {h H : im_H} {x1 x3 z : Int32} {F : Nat → Int32} (h0 : 0 ≤ x1.toInt) (h3 : x1.toInt ≤ 2) (hz : z.toInt ≤ 12)
    (e : ∀ i k, i ≠ 164 → i ≠ 165 → i ≠ 166 → rd H i k = rd h i k)
    (ew : ∀ r i : Nat, r < 3 → i < 12 → rv H 164 (12 * r + i) = if r = x1.toInt.toNat ∧ i < z.toInt.toNat then F i else rv h 164 (12 * r + i))
    (e1 : ∀ r : Nat, r < 3 → rv H 165 r = (if r = x1.toInt.toNat then z else rv h 165 r) ∧ rv H 166 r = (if r = x1.toInt.toNat then x3 else rv h 166 r))
    (hb : ∀ r : Nat, r < 3 → (rv h 165 r).toInt ≤ 12) : cM H = railC x1 x3 z F (cM h) := by
  have ef : ∀ i, i ≠ 164 → i ≠ 165 → i ≠ 166 → rv H i = rv h i := fun i a b c => funext fun k => by unfold rv; rw [e i k a b c]
  rw [cM_h (h := h) (H := H) (fun i k hi => e i k (by omega) (by omega) (by omega))]
  have er : ∀ p n r, roR H p n r = roR h p n r := by
    intro p n
    induction n with
    | zero => intro r; rfl
    | succ n ih =>
      intro r
      unfold roR
      rw [ef 161 (by decide) (by decide) (by decide), ef 160 (by decide) (by decide) (by decide), ih]
  have a1 : (cM H).ro = (cM h).ro := gd_c (f := fun p => roR H p 4 0) (g := fun p => roR h p 4 0) (fun p _ => er p 4 0)
  have a2 : (cM H).hd = (cM h).hd := by
    funext r i
    show (if r < 4 ∧ i < 8 then rv H 160 (8 * r + i) else 0 : Int32) = if r < 4 ∧ i < 8 then rv h 160 (8 * r + i) else 0
    rw [ef 160 (by decide) (by decide) (by decide)]
  have b1 : (cM H).hn = (cM h).hn := congrArg (gd 4) (ef 161 (by decide) (by decide) (by decide))
  have b2 : (cM H).hf = (cM h).hf := congrArg (gd 4) (ef 162 (by decide) (by decide) (by decide))
  have b3 : (cM H).ht = (cM h).ht := congrArg (gd 4) (ef 163 (by decide) (by decide) (by decide))
  have a3 : ∀ (c : Nat) (v : Int32), (∀ r, r < 3 → rv H c r = if r = x1.toInt.toNat then v else rv h c r) → gd 3 (rv H c) = udt (gd 3 (rv h c)) x1.toInt.toNat v := fun c v hv => by
    funext r
    show (if r < 3 then rv H c r else 0 : Int32) = if r = x1.toInt.toNat then v else (if r < 3 then rv h c r else 0)
    by_cases hr : r < 3
    · rw [if_pos hr, if_pos (c := r < 3) hr, hv r hr]
    · rw [if_neg hr, if_neg (c := r = x1.toInt.toNat) (by omega), if_neg hr]
  have c1 : (cM H).wn = (railC x1 x3 z F (cM h)).wn := a3 165 z (fun r hr => (e1 r hr).1)
  have c2 : (cM H).cr = (railC x1 x3 z F (cM h)).cr := a3 166 x3 (fun r hr => (e1 r hr).2)
  have c3 : (cM H).wf = (railC x1 x3 z F (cM h)).wf := by
    funext r
    show (if r < 3 ∧ 2 ≤ (rv H 165 r).toInt then rv H 164 (12 * r) else 0 : Int32) = if r = x1.toInt.toNat then (if 2 ≤ z.toInt then F 0 else 0) else (if r < 3 ∧ 2 ≤ (rv h 165 r).toInt then rv h 164 (12 * r) else 0)
    by_cases hr : r < 3
    · have q := (e1 r hr).1
      have w := ew r 0 hr (by decide)
      rw [Nat.add_zero] at w
      by_cases hc : r = x1.toInt.toNat
      · rw [if_pos hc] at q
        rw [q, if_pos (c := r = x1.toInt.toNat) hc]
        by_cases h2 : 2 ≤ z.toInt
        · rw [if_pos (c := _ ∧ _) ⟨hr, h2⟩, if_pos h2, w, if_pos ⟨hc, by omega⟩]
        · rw [if_neg (fun q => h2 q.2), if_neg h2]
      · rw [if_neg hc] at q
        rw [q, if_neg (c := r = x1.toInt.toNat) hc, w, if_neg (c := r = x1.toInt.toNat ∧ _) (fun q => hc q.1)]
    · rw [if_neg (fun q => hr q.1), if_neg (c := r = x1.toInt.toNat) (by omega), if_neg (fun q => hr q.1)]
  have c4 : (cM H).wl = (railC x1 x3 z F (cM h)).wl := by
    funext r
    show (if r < 3 ∧ 2 ≤ (rv H 165 r).toInt then rv H 164 (12 * r + ((rv H 165 r).toInt.toNat - 1)) else 0 : Int32) = if r = x1.toInt.toNat then (if 2 ≤ z.toInt then F (z.toInt.toNat - 1) else 0) else (if r < 3 ∧ 2 ≤ (rv h 165 r).toInt then rv h 164 (12 * r + ((rv h 165 r).toInt.toNat - 1)) else 0)
    by_cases hr : r < 3
    · have q := (e1 r hr).1
      have hb2 := hb r hr
      by_cases hc : r = x1.toInt.toNat
      · rw [if_pos hc] at q
        rw [q, if_pos (c := r = x1.toInt.toNat) hc]
        by_cases h2 : 2 ≤ z.toInt
        · rw [if_pos (c := _ ∧ _) ⟨hr, h2⟩, if_pos h2, ew r _ hr (by omega), if_pos ⟨hc, by omega⟩]
        · rw [if_neg (fun q => h2 q.2), if_neg h2]
      · rw [if_neg hc] at q
        rw [q, if_neg (c := r = x1.toInt.toNat) hc]
        by_cases h2 : 2 ≤ (rv h 165 r).toInt
        · rw [ew r _ hr (by omega), if_neg (c := r = x1.toInt.toNat ∧ _) (fun q => hc q.1)]
        · rw [if_neg (fun q => h2 q.2), if_neg (fun q => h2 q.2)]
    · rw [if_neg (fun q => hr q.1), if_neg (c := r = x1.toInt.toNat) (by omega), if_neg (fun q => hr q.1)]
  rw [a1, a2, b1, b2, b3, c1, c2, c3, c4]
  rfl
set_option maxRecDepth 20000 in
set_option maxHeartbeats 4000000 in
theorem c_X11_isWay {s : Nat} {h : im_H} (hI : tI h) (q_s : s = 140 ∨ s = 142 ∨ s = 144 ∨ s = 146) : CaP 3 70 [.ref (16 + s)] h (pI h (fun y => ∃ p : Int32, rd h s 1 = some (.int p) ∧ 0 ≤ p.toInt ∧ p.toInt ≤ 40 ∧ ((y = 0 ∧ ¬ way (vl h (s + 1) 0) p.toInt) ∨ (y = 1 ∧ allB h (s + 1) 0 p.toInt 99 ∧ way (vl h (s + 1) 0) p.toInt)))) := by
  refine cap_of (d := 2) (M := mX11_isWay) rfl (Nat.le_of_ble_eq_true rfl) ?_
  show EvP im_K0 2 mX11_isWay (0, [(0, .ref (16 + s))], [], h) _
  refine te_iconst (p2 := 1) (x := 0) rfl rfl (by decide) ?_
  refine te_istore_n (p2 := 2) (lv2 := [(1, .int 0), (0, .ref (16 + s))]) rfl rfl (by decide) rfl ?_
  have lp1 : ∀ (n1 : Nat) (v1_1 : Int32) , 0 ≤ v1_1.toInt → v1_1.toInt ≤ 40 → allB h (s + 1) 0 v1_1.toInt 99 → way (vl h (s + 1) 0) v1_1.toInt → 40 - v1_1.toInt < (n1 : Int) → EvP im_K0 2 mX11_isWay (2, [(0, .ref (16 + s)), (1, .int v1_1)], [], h) (pI h (fun y => ∃ p : Int32, rd h s 1 = some (.int p) ∧ 0 ≤ p.toInt ∧ p.toInt ≤ 40 ∧ ((y = 0 ∧ ¬ way (vl h (s + 1) 0) p.toInt) ∨ (y = 1 ∧ allB h (s + 1) 0 p.toInt 99 ∧ way (vl h (s + 1) 0) p.toInt)))) := by
    intro n1
    induction n1 with
    | zero => intro v1_1 a1_1 b1_1 w1_0 w1_1 m1; exfalso; omega
    | succ n1 ih1 =>
      intro v1_1 a1_1 b1_1 w1_0 w1_1 m1
      refine te_iload_n (p2 := 3) rfl rfl rfl ?_
      refine te_aload_n (p2 := 4) rfl rfl rfl ?_
      refine tg_i (p2 := 7) (i := s) rfl rfl hI rfl (by rcases q_s with rfl | rfl | rfl | rfl <;> rfl) (by rcases q_s with rfl | rfl | rfl | rfl <;> rfl) (fun y2 a2 b2 e2 => ?_)
      refine tb_ge (p2 := 10) rfl rfl rfl rfl (fun c3 => ?_) (fun c3 => ?_)
      · refine te_iconst (p2 := 59) (x := 1) rfl rfl (by decide) ?_
        exact te_zret rfl rfl (by decide) ⟨rfl, _, rfl, y2, e2, by omega, by omega, Or.inr ⟨rfl, allB_le w1_0 (by omega), way_le w1_1 (by omega)⟩⟩
      · refine te_aload_n (p2 := 11) rfl rfl rfl ?_
        refine tg_r (p2 := 14) (i := s) (r := (16 + (s + 1))) rfl rfl hI rfl (by rcases q_s with rfl | rfl | rfl | rfl <;> rfl) (by rcases q_s with rfl | rfl | rfl | rfl <;> rfl) ?_
        refine te_iload_n (p2 := 15) rfl rfl rfl ?_
        refine tl_i (p2 := 16) (i := (s + 1)) (n := 40) rfl rfl hI rfl (by rcases q_s with rfl | rfl | rfl | rfl <;> rfl) (by rcases q_s with rfl | rfl | rfl | rfl <;> rfl) rfl (by omega) (by omega) (fun y4 a4 b4 g4 e4 => ?_)
        refine te_bipush (p2 := 18) (x := 100) rfl rfl (by decide) ?_
        refine cS_pI (p2 := 21) rfl rfl rfl rfl (t_X11_within (n := y4) (b := 100) hI ) (by decide) (fun y5 r5 => ?_)
        rcases r5 with ⟨w5, c5⟩ | ⟨w5, c5⟩
        · subst w5
          have cc5_1 := (show Int32.toInt 100 = 100 from rfl)
          refine tz_ne (p2 := 24) rfl rfl (show Int32.toInt 1 = 1 from rfl) (fun c6 => ?_) (fun c6 => absurd c6 (by omega))
          refine te_iload_n (p2 := 27) rfl rfl rfl ?_
          refine tz_le (p2 := 30) rfl rfl rfl (fun c7 => ?_) (fun c7 => ?_)
          · refine ar_inc (p2 := 55) (x := v1_1) rfl rfl (by decide) rfl (by decide) rfl (by omega) (by omega) (fun z8 e8 f8 => ?_)
            show EvP _ _ _ (55, [(1, .int z8), (0, .ref (16 + s))], [], h) _
            refine te_goto rfl ?_
            refine te_lv [(0, .ref (16 + s)), (1, .int z8)] rfl rfl ⟨rfl, rfl, trivial⟩ ?_
            exact ih1 z8 (by omega) (by omega) (allB_s (k := v1_1.toInt.toNat) w1_0 (by omega) f8 (by rw [Nat.zero_add]; exact e4) (by omega) (by omega)) (way_s (k := v1_1.toInt.toNat) w1_1 (by omega) f8 (by rw [(vl_of (c := s + 1) (o := 0) (i := v1_1.toInt.toNat) (by omega) (by rw [Nat.zero_add]; exact e4))]; omega) (fun h9 => by exfalso; omega)) (by omega)
          · refine te_aload_n (p2 := 31) rfl rfl rfl ?_
            refine tg_r (p2 := 34) (i := s) (r := (16 + (s + 1))) rfl rfl hI rfl (by rcases q_s with rfl | rfl | rfl | rfl <;> rfl) (by rcases q_s with rfl | rfl | rfl | rfl <;> rfl) ?_
            refine te_iload_n (p2 := 35) rfl rfl rfl ?_
            refine te_iconst (p2 := 36) (x := 1) rfl rfl (by decide) ?_
            refine ar_sub (p2 := 37) rfl rfl rfl (show Int32.toInt 1 = 1 from rfl) (by omega) (by omega) (fun z9 e9 f9 => ?_)
            refine tl_i (p2 := 38) (i := (s + 1)) (n := 40) rfl rfl hI rfl (by rcases q_s with rfl | rfl | rfl | rfl <;> rfl) (by rcases q_s with rfl | rfl | rfl | rfl <;> rfl) rfl (by omega) (by omega) (fun y10 a10 b10 g10 e10 => ?_)
            obtain ⟨a11, b11⟩ := allB_at w1_0 (v1_1.toInt - 1).toNat (by omega) (by omega) e10
            refine te_aload_n (p2 := 39) rfl rfl rfl ?_
            refine tg_r (p2 := 42) (i := s) (r := (16 + (s + 1))) rfl rfl hI rfl (by rcases q_s with rfl | rfl | rfl | rfl <;> rfl) (by rcases q_s with rfl | rfl | rfl | rfl <;> rfl) ?_
            refine te_iload_n (p2 := 43) rfl rfl rfl ?_
            refine tl_e (p2 := 44) (i := (s + 1)) (n := 40) (t := 0) (Or.inl rfl) rfl rfl hI rfl (by rcases q_s with rfl | rfl | rfl | rfl <;> rfl) (by omega) (by omega) e4 ?_
            refine cS_pI (p2 := 47) rfl rfl rfl rfl (c_X11_areBeside (c := y10) (o := y4) hI (by omega) (by omega)) (by decide) (fun y13 r13 => ?_)
            rcases r13 with ⟨w13_, c13⟩ | ⟨w13_, c13⟩
            · subst w13_
              refine tz_ne (p2 := 50) rfl rfl (show Int32.toInt 1 = 1 from rfl) (fun c14 => ?_) (fun c14 => absurd c14 (by omega))
              refine ar_inc (p2 := 55) (x := v1_1) rfl rfl (by decide) rfl (by decide) rfl (by omega) (by omega) (fun z15 e15 f15 => ?_)
              show EvP _ _ _ (55, [(1, .int z15), (0, .ref (16 + s))], [], h) _
              refine te_goto rfl ?_
              refine te_lv [(0, .ref (16 + s)), (1, .int z15)] rfl rfl ⟨rfl, rfl, trivial⟩ ?_
              exact ih1 z15 (by omega) (by omega) (allB_s (k := v1_1.toInt.toNat) w1_0 (by omega) f15 (by rw [Nat.zero_add]; exact e4) (by omega) (by omega)) (way_s (k := v1_1.toInt.toNat) w1_1 (by omega) f15 (by rw [(vl_of (c := s + 1) (o := 0) (i := v1_1.toInt.toNat) (by omega) (by rw [Nat.zero_add]; exact e4))]; omega) (fun _ => by rw [(vl_of (c := s + 1) (o := 0) (i := v1_1.toInt.toNat - 1) (by omega) (by rw [Nat.zero_add, show v1_1.toInt.toNat - 1 = z9.toInt.toNat by omega]; exact e10) : vl h (s + 1) 0 (v1_1.toInt.toNat - 1) = y10), (vl_of (c := s + 1) (o := 0) (i := v1_1.toInt.toNat) (by omega) (by rw [Nat.zero_add]; exact e4))]; exact c13)) (by omega)
            · subst w13_
              refine tz_ne (p2 := 50) rfl rfl (show Int32.toInt 0 = 0 from rfl) (fun c16 => absurd c16 (by omega)) (fun c16 => ?_)
              refine te_iconst (p2 := 51) (x := 0) rfl rfl (by decide) ?_
              exact te_zret rfl rfl (by decide) ⟨rfl, _, rfl, y2, e2, by omega, by omega, Or.inl ⟨rfl, (fun hw => by (have h9 := (hw v1_1.toInt.toNat (by omega)).2 (by omega)); rw [(vl_of (c := s + 1) (o := 0) (i := v1_1.toInt.toNat - 1) (by omega) (by rw [Nat.zero_add, show v1_1.toInt.toNat - 1 = z9.toInt.toNat by omega]; exact e10) : vl h (s + 1) 0 (v1_1.toInt.toNat - 1) = y10), (vl_of (c := s + 1) (o := 0) (i := v1_1.toInt.toNat) (by omega) (by rw [Nat.zero_add]; exact e4))] at h9; exact c13 h9)⟩⟩
        · subst w5
          have cc5_1 := (show Int32.toInt 100 = 100 from rfl)
          refine tz_ne (p2 := 24) rfl rfl (show Int32.toInt 0 = 0 from rfl) (fun c17 => absurd c17 (by omega)) (fun c17 => ?_)
          refine te_iconst (p2 := 25) (x := 0) rfl rfl (by decide) ?_
          exact te_zret rfl rfl (by decide) ⟨rfl, _, rfl, y2, e2, by omega, by omega, Or.inl ⟨rfl, (fun hw => by (have h9 := (hw v1_1.toInt.toNat (by omega)).1); rw [(vl_of (c := s + 1) (o := 0) (i := v1_1.toInt.toNat) (by omega) (by rw [Nat.zero_add]; exact e4))] at h9; omega)⟩⟩
  refine te_lv [(0, .ref (16 + s)), (1, .int 0)] rfl rfl ⟨rfl, rfl, trivial⟩ ?_
  exact lp1 41 0 (by decide) (by decide) (allB_0 (by decide)) (way_0 (by decide)) (by have cc0 := (show Int32.toInt 0 = 0 from rfl); omega)
abbrev Q1_rail (x1 x2 x3 : Int32) (y : Int32) (h h2 : im_H) : Prop := (((0 ≤ x1.toInt ∧ x1.toInt ≤ 2 ∧ 0 ≤ x2.toInt ∧ x2.toInt ≤ 3) ∧ ∃ q z : Int32, rd h (140 + 2 * x2.toInt.toNat) 0 = some (.int q) ∧ rd h (140 + 2 * x2.toInt.toNat) 1 = some (.int z) ∧ ((q.toInt = -1 ∧ y = -11) ∨ (q.toInt ≠ -1 ∧ okR (vl h (141 + 2 * x2.toInt.toNat) 0) x3 z ∧ y = z) ∨ (q.toInt ≠ -1 ∧ ¬ okR (vl h (141 + 2 * x2.toInt.toNat) 0) x3 z ∧ y = -2))) ∨ (¬ (0 ≤ x1.toInt ∧ x1.toInt ≤ 2 ∧ 0 ≤ x2.toInt ∧ x2.toInt ≤ 3) ∧ y = -1)) ∧ (y.toInt < 0 → h2 = h) ∧ (0 ≤ y.toInt → cX h2 = railC x1 x3 y (vl h (141 + 2 * x2.toInt.toNat) 0) (cX h))
set_option maxRecDepth 20000 in
set_option maxHeartbeats 4000000 in
theorem c_X11_rail {x1 : Int32} {x2 : Int32} {x3 : Int32} {h : im_H} (hI : tI h)  : CaP 4 69 [.ref 16, .int x1, .int x2, .int x3] h (fun v h2 => tI h2 ∧ fr F_X11_rail h h2 ∧ ∃ y : Int32, v = some (.int y) ∧ Q1_rail x1 x2 x3 y h h2) := by
  refine cap_of (d := 3) (M := mX11_rail) rfl (Nat.le_of_ble_eq_true rfl) ?_
  show EvP im_K0 3 mX11_rail (0, [(0, .ref 16), (1, .int x1), (2, .int x2), (3, .int x3)], [], h) _
  have f0 : fr F_X11_rail h h := fr_rf
  refine te_iload_n (p2 := 1) rfl rfl rfl ?_
  refine te_iconst (p2 := 2) (x := 3) rfl rfl (by decide) ?_
  refine cS_pI (p2 := 5) rfl rfl rfl rfl (t_X11_within (n := x1) (b := 3) hI ) (by decide) (fun y1 r1 => ?_)
  rcases r1 with ⟨w1, c1⟩ | ⟨w1, c1⟩
  · subst w1
    have cc1_1 := (show Int32.toInt 3 = 3 from rfl)
    refine tz_eq (p2 := 8) rfl rfl (show Int32.toInt 1 = 1 from rfl) (fun c2 => absurd c2 (by omega)) (fun c2 => ?_)
    refine te_iload_n (p2 := 9) rfl rfl rfl ?_
    refine te_iconst (p2 := 10) (x := 4) rfl rfl (by decide) ?_
    refine cS_pI (p2 := 13) rfl rfl rfl rfl (t_X11_within (n := x2) (b := 4) hI ) (by decide) (fun y3 r3 => ?_)
    rcases r3 with ⟨w3, c3⟩ | ⟨w3, c3⟩
    · subst w3
      have cc3_1 := (show Int32.toInt 4 = 4 from rfl)
      refine tz_ne (p2 := 16) rfl rfl (show Int32.toInt 1 = 1 from rfl) (fun c4 => ?_) (fun c4 => absurd c4 (by omega))
      refine te_aload_n (p2 := 19) rfl rfl rfl ?_
      refine tg_r (p2 := 22) (i := 0) (r := 113) rfl rfl hI rfl rfl rfl ?_
      refine te_iload_n (p2 := 23) rfl rfl rfl ?_
      refine tl_f (p2 := 24) (i := 97) (n := 4) (c0 := 140) (sp := 2) rfl rfl hI rfl rfl (by decide) rq_97 (by omega) (by omega) (fun o5 w5 => ?_)
      have q5 : o5 = 140 ∨ o5 = 142 ∨ o5 = 144 ∨ o5 = 146 := by omega
      refine te_astore (p2 := 26) (lv2 := [(4, .ref (16 + o5)), (0, .ref 16), (1, .int x1), (2, .int x2), (3, .int x3)]) rfl rfl (by decide) rfl ?_
      refine te_aload (p2 := 28) rfl rfl rfl ?_
      refine cV_pI (p2 := 31) (i := o5) rfl rfl rfl rfl hI rfl (by rcases q5 with rfl | rfl | rfl | rfl <;> rfl) rfl (c_X8_isMissing (s := o5) hI q5) (by decide) (fun y6 r6 => ?_)
      obtain ⟨p6, e6, r6⟩ := r6
      rcases r6 with ⟨w6_, c6⟩ | ⟨w6_, c6⟩
      · subst w6_
        refine tz_eq (p2 := 34) rfl rfl (show Int32.toInt 1 = 1 from rfl) (fun c7 => absurd c7 (by omega)) (fun c7 => ?_)
        refine te_bipush (p2 := 36) (x := (-11)) rfl rfl (by decide) ?_
        obtain ⟨v8, e8, y8, w8, a8, b8, _⟩ := hI.2.1 o5 1 (.inl (0, 40, 9999999999)) (by rcases q5 with rfl | rfl | rfl | rfl <;> rfl)
        subst w8
        exact te_iret rfl rfl ⟨hI, f0, _, rfl, (Or.inl ⟨by omega, p6, y8, (by rw [← w5]; exact e6), (by rw [← w5]; exact e8), Or.inl ⟨by omega, rfl⟩⟩), (fun _ => rfl), (fun q => absurd q (by decide))⟩
      · subst w6_
        refine tz_eq (p2 := 34) rfl rfl (show Int32.toInt 0 = 0 from rfl) (fun c9 => ?_) (fun c9 => absurd c9 (by omega))
        refine te_aload (p2 := 39) rfl rfl rfl ?_
        refine tg_i (p2 := 42) (i := o5) rfl rfl hI rfl (by rcases q5 with rfl | rfl | rfl | rfl <;> rfl) (by rcases q5 with rfl | rfl | rfl | rfl <;> rfl) (fun y10 a10 b10 e10 => ?_)
        refine te_iconst (p2 := 43) (x := 1) rfl rfl (by decide) ?_
        refine tb_eq (p2 := 46) rfl rfl rfl (show Int32.toInt 1 = 1 from rfl) (fun c11 => ?_) (fun c11 => ?_)
        · refine te_bipush (p2 := 76) (x := (-2)) rfl rfl (by decide) ?_
          exact te_iret rfl rfl ⟨hI, f0, _, rfl, (Or.inl ⟨by omega, p6, y10, (by rw [← w5]; exact e6), (by rw [← w5]; exact e10), Or.inr (Or.inr ⟨by omega, (fun ho => by (obtain ⟨h5, h6, h7, h8, _⟩ := ho); omega), rfl⟩)⟩), (fun _ => rfl), (fun q => absurd q (by decide))⟩
        · refine te_aload (p2 := 48) rfl rfl rfl ?_
          refine tg_e (p2 := 51) (i := o5) (v := .int y10) rfl rfl hI rfl (by rcases q5 with rfl | rfl | rfl | rfl <;> rfl) e10 ?_
          refine te_bipush (p2 := 53) (x := 12) rfl rfl (by decide) ?_
          refine tb_gt (p2 := 56) rfl rfl rfl (show Int32.toInt 12 = 12 from rfl) (fun c12 => ?_) (fun c12 => ?_)
          · refine te_bipush (p2 := 76) (x := (-2)) rfl rfl (by decide) ?_
            exact te_iret rfl rfl ⟨hI, f0, _, rfl, (Or.inl ⟨by omega, p6, y10, (by rw [← w5]; exact e6), (by rw [← w5]; exact e10), Or.inr (Or.inr ⟨by omega, (fun ho => by (obtain ⟨h5, h6, h7, h8, _⟩ := ho); omega), rfl⟩)⟩), (fun _ => rfl), (fun q => absurd q (by decide))⟩
          · refine te_iload_n (p2 := 57) rfl rfl rfl ?_
            refine te_iconst (p2 := 58) (x := 0) rfl rfl (by decide) ?_
            refine te_bipush (p2 := 60) (x := 20) rfl rfl (by decide) ?_
            refine cS_pI (p2 := 63) rfl rfl rfl rfl (t_X11_between (n := x3) (a := 0) (b := 20) hI ) (by decide) (fun y13 r13 => ?_)
            rcases r13 with ⟨w13, c13⟩ | ⟨w13, c13⟩
            · subst w13
              have cc13_1 := (show Int32.toInt 0 = 0 from rfl)
              have cc13_2 := (show Int32.toInt 20 = 20 from rfl)
              refine tz_eq (p2 := 66) rfl rfl (show Int32.toInt 1 = 1 from rfl) (fun c14 => absurd c14 (by omega)) (fun c14 => ?_)
              refine te_aload (p2 := 68) rfl rfl rfl ?_
              refine cS_pI (p2 := 71) rfl rfl rfl rfl (c_X11_isWay (s := o5) hI q5) (by decide) (fun y15 r15 => ?_)
              obtain ⟨p15, e15, a15, b15, r15⟩ := r15
              have x15 : p15 = y10 := int_inj e15 e10
              rw [x15] at r15
              rcases r15 with ⟨w15_, nw15⟩ | ⟨w15_, w15, nw15⟩
              · subst w15_
                refine tz_ne (p2 := 74) rfl rfl (show Int32.toInt 0 = 0 from rfl) (fun c16 => absurd c16 (by omega)) (fun c16 => ?_)
                refine te_bipush (p2 := 76) (x := (-2)) rfl rfl (by decide) ?_
                exact te_iret rfl rfl ⟨hI, f0, _, rfl, (Or.inl ⟨by omega, p6, y10, (by rw [← w5]; exact e6), (by rw [← w5]; exact e10), Or.inr (Or.inr ⟨by omega, (fun ho => absurd ho.2.2.2.2 (by rw [show 141 + 2 * x2.toInt.toNat = o5 + 1 by omega]; exact nw15)), rfl⟩)⟩), (fun _ => rfl), (fun q => absurd q (by decide))⟩
              · subst w15_
                refine tz_ne (p2 := 74) rfl rfl (show Int32.toInt 1 = 1 from rfl) (fun c17 => ?_) (fun c17 => absurd c17 (by omega))
                refine te_aload_n (p2 := 78) rfl rfl rfl ?_
                refine tg_r (p2 := 81) (i := 0) (r := 17) rfl rfl hI rfl rfl rfl ?_
                refine tg_r (p2 := 84) (i := 1) (r := 24) rfl rfl hI rfl rfl rfl ?_
                refine te_iload_n (p2 := 85) rfl rfl rfl ?_
                refine tl_f (p2 := 86) (i := 8) (n := 3) (c0 := 20) (sp := 1) rfl rfl hI rfl rfl (by decide) rq_8 (by omega) (by omega) (fun o18 w18 => ?_)
                have q18 : o18 = 20 ∨ o18 = 21 ∨ o18 = 22 := by omega
                refine te_astore (p2 := 88) (lv2 := [(5, .ref (16 + o18)), (4, .ref (16 + o5)), (0, .ref 16), (1, .int x1), (2, .int x2), (3, .int x3)]) rfl rfl (by decide) rfl ?_
                refine te_aload (p2 := 90) rfl rfl rfl ?_
                refine te_aload (p2 := 92) rfl rfl rfl ?_
                refine tg_e (p2 := 95) (i := o5) (v := .int y10) rfl rfl hI rfl (by rcases q5 with rfl | rfl | rfl | rfl <;> rfl) e10 ?_
                refine tp_i (p2 := 98) (i := o18) rfl rfl hI rfl (by rcases q18 with rfl | rfl | rfl <;> rfl) (by decide) rfl rfl (by rcases q18 with rfl | rfl | rfl <;> rfl) (by omega) (by omega) (by omega) (by rcases q18 with rfl | rfl | rfl <;> rfl) (fun h19 I19 u19 => ?_)
                have f19 := fr_up (F := F_X11_rail) (a := 0) (b := 3) f0 u19 (by rcases q18 with rfl | rfl | rfl <;> decide) (by decide) (by decide)
                refine te_aload (p2 := 100) rfl rfl rfl ?_
                refine te_iload_n (p2 := 101) rfl rfl rfl ?_
                refine tp_i (p2 := 104) (i := o18) rfl rfl I19 rfl (by rcases q18 with rfl | rfl | rfl <;> rfl) (by decide) rfl rfl (by rcases q18 with rfl | rfl | rfl <;> rfl) (i32_lo _) (i32_hi _) (i32_ho _) (by rcases q18 with rfl | rfl | rfl <;> rfl) (fun h20 I20 u20 => ?_)
                have f20 := fr_up (F := F_X11_rail) (a := 0) (b := 3) f19 u20 (by rcases q18 with rfl | rfl | rfl <;> decide) (by decide) (by decide)
                refine te_aload (p2 := 106) rfl rfl rfl ?_
                refine tg_e (p2 := 109) (i := o5) (v := .int y10) rfl rfl I20 rfl (by rcases q5 with rfl | rfl | rfl | rfl <;> rfl) ((u20.2 _ _ (Or.inl (by omega))).trans ((u19.2 _ _ (Or.inl (by omega))).trans e10)) ?_
                refine tz_le (p2 := 112) rfl rfl rfl (fun c21 => ?_) (fun c21 => ?_)
                · refine te_aload (p2 := 144) rfl rfl rfl ?_
                  refine tg_e (p2 := 147) (i := o5) (v := .int y10) rfl rfl I20 rfl (by rcases q5 with rfl | rfl | rfl | rfl <;> rfl) ((u20.2 _ _ (Or.inl (by omega))).trans ((u19.2 _ _ (Or.inl (by omega))).trans e10)) ?_
                  exact te_iret rfl rfl ⟨I20, f20, _, rfl, (Or.inl ⟨by omega, p6, y10, (by rw [← w5]; exact e6), (by rw [← w5]; exact e10), Or.inr (Or.inl ⟨by omega, ⟨by omega, by omega, by omega, by omega, (by rw [show 141 + 2 * x2.toInt.toNat = o5 + 1 by omega]; exact nw15)⟩, rfl⟩)⟩), (fun q => absurd q (by omega)), (fun _ => railX (by omega) (by omega) (fun i k hi => ((u20.2 _ _ (Or.inl (by omega))).trans (u19.2 _ _ (Or.inl (by omega))))) (by rw [show 20 + x1.toInt.toNat = o18 by omega]; exact rv_of ((u20.2 _ _ (Or.inr (by decide))).trans u19.1)) (by rw [show 20 + x1.toInt.toNat = o18 by omega]; exact rv_of u20.1) (fun hz => absurd hz (by omega)))⟩
                · refine te_aload (p2 := 114) rfl rfl rfl ?_
                  refine te_aload (p2 := 116) rfl rfl rfl ?_
                  refine tg_r (p2 := 119) (i := o5) (r := (16 + (o5 + 1))) rfl rfl I20 rfl (by rcases q5 with rfl | rfl | rfl | rfl <;> rfl) (by rcases q5 with rfl | rfl | rfl | rfl <;> rfl) ?_
                  refine te_iconst (p2 := 120) (x := 0) rfl rfl (by decide) ?_
                  refine tl_i (p2 := 121) (i := (o5 + 1)) (n := 40) rfl rfl I20 rfl (by rcases q5 with rfl | rfl | rfl | rfl <;> rfl) (by rcases q5 with rfl | rfl | rfl | rfl <;> rfl) rfl (by decide) (by decide) (fun y22 a22 b22 g22 e22 => ?_)
                  obtain ⟨a23, b23⟩ := allB_at (allB_fr w15 (fun q => f20 _ _ (by rcases q5 with rfl | rfl | rfl | rfl <;> rfl))) (Int32.toInt 0).toNat (by have := (show Int32.toInt 0 = 0 from rfl); omega) (by rw [Nat.zero_add]) e22
                  refine tp_i (p2 := 124) (i := o18) rfl rfl I20 rfl (by rcases q18 with rfl | rfl | rfl <;> rfl) (by decide) rfl rfl (by rcases q18 with rfl | rfl | rfl <;> rfl) (by omega) (by omega) (by omega) (by rcases q18 with rfl | rfl | rfl <;> rfl) (fun h24 I24 u24 => ?_)
                  have f24 := fr_up (F := F_X11_rail) (a := 0) (b := 3) f20 u24 (by rcases q18 with rfl | rfl | rfl <;> decide) (by decide) (by decide)
                  refine te_aload (p2 := 126) rfl rfl rfl ?_
                  refine te_aload (p2 := 128) rfl rfl rfl ?_
                  refine tg_r (p2 := 131) (i := o5) (r := (16 + (o5 + 1))) rfl rfl I24 rfl (by rcases q5 with rfl | rfl | rfl | rfl <;> rfl) (by rcases q5 with rfl | rfl | rfl | rfl <;> rfl) ?_
                  refine te_aload (p2 := 133) rfl rfl rfl ?_
                  refine tg_e (p2 := 136) (i := o5) (v := .int y10) rfl rfl I24 rfl (by rcases q5 with rfl | rfl | rfl | rfl <;> rfl) ((u24.2 _ _ (Or.inl (by omega))).trans ((u20.2 _ _ (Or.inl (by omega))).trans ((u19.2 _ _ (Or.inl (by omega))).trans e10))) ?_
                  refine te_iconst (p2 := 137) (x := 1) rfl rfl (by decide) ?_
                  refine ar_sub (p2 := 138) rfl rfl rfl (show Int32.toInt 1 = 1 from rfl) (by omega) (by omega) (fun z25 e25 f25 => ?_)
                  refine tl_i (p2 := 139) (i := (o5 + 1)) (n := 40) rfl rfl I24 rfl (by rcases q5 with rfl | rfl | rfl | rfl <;> rfl) (by rcases q5 with rfl | rfl | rfl | rfl <;> rfl) rfl (by omega) (by omega) (fun y26 a26 b26 g26 e26 => ?_)
                  obtain ⟨a27, b27⟩ := allB_at (allB_fr w15 (fun q => f24 _ _ (by rcases q5 with rfl | rfl | rfl | rfl <;> rfl))) z25.toInt.toNat (by omega) (by rw [Nat.zero_add]) e26
                  refine tp_i (p2 := 142) (i := o18) rfl rfl I24 rfl (by rcases q18 with rfl | rfl | rfl <;> rfl) (by decide) rfl rfl (by rcases q18 with rfl | rfl | rfl <;> rfl) (by omega) (by omega) (by omega) (by rcases q18 with rfl | rfl | rfl <;> rfl) (fun h28 I28 u28 => ?_)
                  have f28 := fr_up (F := F_X11_rail) (a := 0) (b := 3) f24 u28 (by rcases q18 with rfl | rfl | rfl <;> decide) (by decide) (by decide)
                  refine te_aload (p2 := 144) rfl rfl rfl ?_
                  refine tg_e (p2 := 147) (i := o5) (v := .int y10) rfl rfl I28 rfl (by rcases q5 with rfl | rfl | rfl | rfl <;> rfl) ((u28.2 _ _ (Or.inl (by omega))).trans ((u24.2 _ _ (Or.inl (by omega))).trans ((u20.2 _ _ (Or.inl (by omega))).trans ((u19.2 _ _ (Or.inl (by omega))).trans e10)))) ?_
                  exact te_iret rfl rfl ⟨I28, f28, _, rfl, (Or.inl ⟨by omega, p6, y10, (by rw [← w5]; exact e6), (by rw [← w5]; exact e10), Or.inr (Or.inl ⟨by omega, ⟨by omega, by omega, by omega, by omega, (by rw [show 141 + 2 * x2.toInt.toNat = o5 + 1 by omega]; exact nw15)⟩, rfl⟩)⟩), (fun q => absurd q (by omega)), (fun _ => railX (by omega) (by omega) (fun i k hi => ((u28.2 _ _ (Or.inl (by omega))).trans ((u24.2 _ _ (Or.inl (by omega))).trans ((u20.2 _ _ (Or.inl (by omega))).trans (u19.2 _ _ (Or.inl (by omega))))))) (by rw [show 20 + x1.toInt.toNat = o18 by omega]; exact rv_of ((u28.2 _ _ (Or.inr (by decide))).trans ((u24.2 _ _ (Or.inr (by decide))).trans ((u20.2 _ _ (Or.inr (by decide))).trans u19.1)))) (by rw [show 20 + x1.toInt.toNat = o18 by omega]; exact rv_of ((u28.2 _ _ (Or.inr (by decide))).trans ((u24.2 _ _ (Or.inr (by decide))).trans u20.1))) (fun hz => ⟨by rw [show 20 + x1.toInt.toNat = o18 by omega, (show (vl h (141 + 2 * x2.toInt.toNat) 0) 0 = y22 from vl_of (c := 141 + 2 * x2.toInt.toNat) (o := 0) (i := 0) (by decide) (by rw [show 141 + 2 * x2.toInt.toNat = o5 + 1 by omega]; exact (f20 _ _ (by rcases q5 with rfl | rfl | rfl | rfl <;> rfl)).symm.trans e22))]; exact rv_of ((u28.2 _ _ (Or.inr (by decide))).trans u24.1), by rw [show 20 + x1.toInt.toNat = o18 by omega, (show (vl h (141 + 2 * x2.toInt.toNat) 0) (y10.toInt.toNat - 1) = y26 from vl_of (c := 141 + 2 * x2.toInt.toNat) (o := 0) (i := y10.toInt.toNat - 1) (by omega) (by rw [show 141 + 2 * x2.toInt.toNat = o5 + 1 by omega, Nat.zero_add, show y10.toInt.toNat - 1 = z25.toInt.toNat by omega]; exact (f24 _ _ (by rcases q5 with rfl | rfl | rfl | rfl <;> rfl)).symm.trans e26))]; exact rv_of u28.1⟩))⟩
            · subst w13
              have cc13_1 := (show Int32.toInt 0 = 0 from rfl)
              have cc13_2 := (show Int32.toInt 20 = 20 from rfl)
              refine tz_eq (p2 := 66) rfl rfl (show Int32.toInt 0 = 0 from rfl) (fun c29 => ?_) (fun c29 => absurd c29 (by omega))
              refine te_bipush (p2 := 76) (x := (-2)) rfl rfl (by decide) ?_
              exact te_iret rfl rfl ⟨hI, f0, _, rfl, (Or.inl ⟨by omega, p6, y10, (by rw [← w5]; exact e6), (by rw [← w5]; exact e10), Or.inr (Or.inr ⟨by omega, (fun ho => by (obtain ⟨h5, h6, h7, h8, _⟩ := ho); omega), rfl⟩)⟩), (fun _ => rfl), (fun q => absurd q (by decide))⟩
    · subst w3
      have cc3_1 := (show Int32.toInt 4 = 4 from rfl)
      refine tz_ne (p2 := 16) rfl rfl (show Int32.toInt 0 = 0 from rfl) (fun c30 => absurd c30 (by omega)) (fun c30 => ?_)
      refine te_iconst (p2 := 17) (x := (-1)) rfl rfl (by decide) ?_
      exact te_iret rfl rfl ⟨hI, f0, _, rfl, (Or.inr ⟨by omega, rfl⟩), (fun _ => rfl), (fun q => absurd q (by decide))⟩
  · subst w1
    have cc1_1 := (show Int32.toInt 3 = 3 from rfl)
    refine tz_eq (p2 := 8) rfl rfl (show Int32.toInt 0 = 0 from rfl) (fun c31 => ?_) (fun c31 => absurd c31 (by omega))
    refine te_iconst (p2 := 17) (x := (-1)) rfl rfl (by decide) ?_
    exact te_iret rfl rfl ⟨hI, f0, _, rfl, (Or.inr ⟨by omega, rfl⟩), (fun _ => rfl), (fun q => absurd q (by decide))⟩
abbrev Q2_rail (x1 x2 x3 : Int32) (y : Int32) (h h2 : im_H) : Prop := (((0 ≤ x1.toInt ∧ x1.toInt ≤ 2 ∧ 0 ≤ x2.toInt ∧ x2.toInt ≤ 3) ∧ ∃ q z : Int32, rd h 192 x2.toInt.toNat = some (.int q) ∧ rd h 193 x2.toInt.toNat = some (.int z) ∧ ((q.toInt = -1 ∧ y = -11) ∨ (q.toInt ≠ -1 ∧ okR (vl h 194 (40 * x2.toInt.toNat)) x3 z ∧ y = z) ∨ (q.toInt ≠ -1 ∧ ¬ okR (vl h 194 (40 * x2.toInt.toNat)) x3 z ∧ y = -2))) ∨ (¬ (0 ≤ x1.toInt ∧ x1.toInt ≤ 2 ∧ 0 ≤ x2.toInt ∧ x2.toInt ≤ 3) ∧ y = -1)) ∧ (y.toInt < 0 → h2 = h) ∧ (0 ≤ y.toInt → cM h2 = railC x1 x3 y (vl h 194 (40 * x2.toInt.toNat)) (cM h))
set_option maxRecDepth 20000 in
set_option maxHeartbeats 4000000 in
theorem c_X12_rail {x1 : Int32} {x2 : Int32} {x3 : Int32} {h : im_H} (hI : tI h)  : CaP 4 132 [.ref 164, .int x1, .int x2, .int x3] h (fun v h2 => tI h2 ∧ fr F_X12_rail h h2 ∧ ∃ y : Int32, v = some (.int y) ∧ Q2_rail x1 x2 x3 y h h2) := by
  refine cap_of (d := 3) (M := mX12_rail) rfl (Nat.le_of_ble_eq_true rfl) ?_
  show EvP im_K0 3 mX12_rail (0, [(0, .ref 164), (1, .int x1), (2, .int x2), (3, .int x3)], [], h) _
  have f0 : fr F_X12_rail h h := fr_rf
  refine te_iload_n (p2 := 1) rfl rfl rfl ?_
  have hb12 : ∀ r : Nat, r < 3 → (rv h 165 r).toInt ≤ 12 := fun r hr => by (obtain ⟨_, e_, x_, w_, _, b_, _⟩ := hI.2.1 165 r (.inl (0, 12, 1)) (tq_row rfl (by omega)); subst w_; rw [rv_of e_]; exact b_)
  refine te_iconst (p2 := 2) (x := 0) rfl rfl (by decide) ?_
  refine te_iconst (p2 := 3) (x := 2) rfl rfl (by decide) ?_
  refine cS_pI (p2 := 6) rfl rfl rfl rfl (t_X12_in (n := x1) (a := 0) (b := 2) hI ) (by decide) (fun y1 r1 => ?_)
  rcases r1 with ⟨w1, c1⟩ | ⟨w1, c1⟩
  · subst w1
    have cc1_1 := (show Int32.toInt 0 = 0 from rfl)
    have cc1_2 := (show Int32.toInt 2 = 2 from rfl)
    refine tz_eq (p2 := 9) rfl rfl (show Int32.toInt 1 = 1 from rfl) (fun c2 => absurd c2 (by omega)) (fun c2 => ?_)
    refine te_iload_n (p2 := 10) rfl rfl rfl ?_
    refine te_iconst (p2 := 11) (x := 0) rfl rfl (by decide) ?_
    refine te_iconst (p2 := 12) (x := 3) rfl rfl (by decide) ?_
    refine cS_pI (p2 := 15) rfl rfl rfl rfl (t_X12_in (n := x2) (a := 0) (b := 3) hI ) (by decide) (fun y3 r3 => ?_)
    rcases r3 with ⟨w3, c3⟩ | ⟨w3, c3⟩
    · subst w3
      have cc3_1 := (show Int32.toInt 0 = 0 from rfl)
      have cc3_2 := (show Int32.toInt 3 = 3 from rfl)
      refine tz_ne (p2 := 18) rfl rfl (show Int32.toInt 1 = 1 from rfl) (fun c4 => ?_) (fun c4 => absurd c4 (by omega))
      refine te_aload_n (p2 := 21) rfl rfl rfl ?_
      refine tg_r (p2 := 24) (i := 148) (r := 208) rfl rfl hI rfl rfl rfl ?_
      refine te_iload_n (p2 := 25) rfl rfl rfl ?_
      refine tl_i (p2 := 26) (i := 192) (n := 4) rfl rfl hI rfl rfl rfl rfl (by omega) (by omega) (fun y5 a5 b5 g5 e5 => ?_)
      refine te_iconst (p2 := 27) (x := (-1)) rfl rfl (by decide) ?_
      refine tb_ne (p2 := 30) rfl rfl rfl (show Int32.toInt (-1) = (-1) from rfl) (fun c6 => ?_) (fun c6 => ?_)
      · refine te_aload_n (p2 := 34) rfl rfl rfl ?_
        refine tg_r (p2 := 37) (i := 148) (r := 209) rfl rfl hI rfl rfl rfl ?_
        refine te_iload_n (p2 := 38) rfl rfl rfl ?_
        refine tl_i (p2 := 39) (i := 193) (n := 4) rfl rfl hI rfl rfl rfl rfl (by omega) (by omega) (fun y7 a7 b7 g7 e7 => ?_)
        refine te_iconst (p2 := 40) (x := 0) rfl rfl (by decide) ?_
        refine te_bipush (p2 := 42) (x := 12) rfl rfl (by decide) ?_
        refine cS_pI (p2 := 45) rfl rfl rfl rfl (t_X12_in (n := y7) (a := 0) (b := 12) hI ) (by decide) (fun y8 r8 => ?_)
        rcases r8 with ⟨w8, c8⟩ | ⟨w8, c8⟩
        · subst w8
          have cc8_1 := (show Int32.toInt 0 = 0 from rfl)
          have cc8_2 := (show Int32.toInt 12 = 12 from rfl)
          refine tz_eq (p2 := 48) rfl rfl (show Int32.toInt 1 = 1 from rfl) (fun c9 => absurd c9 (by omega)) (fun c9 => ?_)
          refine te_aload_n (p2 := 49) rfl rfl rfl ?_
          refine tg_r (p2 := 52) (i := 148) (r := 209) rfl rfl hI rfl rfl rfl ?_
          refine te_iload_n (p2 := 53) rfl rfl rfl ?_
          refine tl_e (p2 := 54) (i := 193) (n := 4) (t := 0) (Or.inl rfl) rfl rfl hI rfl rfl (by omega) (by omega) e7 ?_
          refine te_iconst (p2 := 55) (x := 1) rfl rfl (by decide) ?_
          refine tb_eq (p2 := 58) rfl rfl rfl (show Int32.toInt 1 = 1 from rfl) (fun c11 => ?_) (fun c11 => ?_)
          · refine te_iconst (p2 := 73) (x := 0) rfl rfl (by decide) ?_
            refine te_istore (p2 := 75) (lv2 := [(4, .int 0), (0, .ref 164), (1, .int x1), (2, .int x2), (3, .int x3)]) rfl rfl (by decide) rfl ?_
            refine te_iconst (p2 := 76) (x := 0) rfl rfl (by decide) ?_
            refine te_istore (p2 := 78) (lv2 := [(5, .int 0), (4, .int 0), (0, .ref 164), (1, .int x1), (2, .int x2), (3, .int x3)]) rfl rfl (by decide) rfl ?_
            have lp12 : ∀ (n12 : Nat) (v12_4 v12_5 : Int32) , 0 ≤ v12_4.toInt → v12_4.toInt ≤ 0 → 0 ≤ v12_5.toInt → v12_5.toInt ≤ 40 → 40 - v12_5.toInt < (n12 : Int) → EvP im_K0 3 mX12_rail (78, [(0, .ref 164), (1, .int x1), (2, .int x2), (3, .int x3), (4, .int v12_4), (5, .int v12_5)], [], h) (fun v h2 => tI h2 ∧ fr F_X12_rail h h2 ∧ ∃ y : Int32, v = some (.int y) ∧ Q2_rail x1 x2 x3 y h h2) := by
              intro n12
              induction n12 with
              | zero => intro v12_4 v12_5 a12_4 b12_4 a12_5 b12_5 m12; exfalso; omega
              | succ n12 ih12 =>
                intro v12_4 v12_5 a12_4 b12_4 a12_5 b12_5 m12
                refine te_iload (p2 := 80) rfl rfl rfl ?_
                refine te_aload_n (p2 := 81) rfl rfl rfl ?_
                refine tg_r (p2 := 84) (i := 148) (r := 209) rfl rfl hI rfl rfl rfl ?_
                refine te_iload_n (p2 := 85) rfl rfl rfl ?_
                refine tl_e (p2 := 86) (i := 193) (n := 4) (t := 0) (Or.inl rfl) rfl rfl hI rfl rfl (by omega) (by omega) e7 ?_
                refine tb_ge (p2 := 89) rfl rfl rfl rfl (fun c14 => ?_) (fun c14 => ?_)
                · refine te_iload (p2 := 173) rfl rfl rfl ?_
                  refine tz_ne (p2 := 176) rfl rfl rfl (fun c15 => absurd c15 (by omega)) (fun c15 => ?_)
                  refine te_bipush (p2 := 178) (x := (-2)) rfl rfl (by decide) ?_
                  exact te_iret rfl rfl ⟨hI, f0, _, rfl, (Or.inl ⟨by omega, y5, y7, e5, e7, Or.inr (Or.inr ⟨by omega, (fun ho => by (obtain ⟨h5, h6, h7, h8, _⟩ := ho); omega), rfl⟩)⟩), (fun _ => rfl), (fun q => absurd q (by decide))⟩
                · refine te_iload (p2 := 91) rfl rfl rfl ?_
                  refine tz_eq (p2 := 94) rfl rfl rfl (fun c16 => ?_) (fun c16 => absurd c16 (by omega))
                  refine te_iload (p2 := 173) rfl rfl rfl ?_
                  refine tz_ne (p2 := 176) rfl rfl rfl (fun c17 => absurd c17 (by omega)) (fun c17 => ?_)
                  refine te_bipush (p2 := 178) (x := (-2)) rfl rfl (by decide) ?_
                  exact te_iret rfl rfl ⟨hI, f0, _, rfl, (Or.inl ⟨by omega, y5, y7, e5, e7, Or.inr (Or.inr ⟨by omega, (fun ho => by (obtain ⟨h5, h6, h7, h8, _⟩ := ho); omega), rfl⟩)⟩), (fun _ => rfl), (fun q => absurd q (by decide))⟩
            refine te_lv [(0, .ref 164), (1, .int x1), (2, .int x2), (3, .int x3), (4, .int 0), (5, .int 0)] rfl rfl ⟨rfl, rfl, rfl, rfl, rfl, rfl, trivial⟩ ?_
            exact lp12 41 0 0 (by decide) (by decide) (by decide) (by decide) (by have cc0 := (show Int32.toInt 0 = 0 from rfl); omega)
          · refine te_iload_n (p2 := 59) rfl rfl rfl ?_
            refine te_iconst (p2 := 60) (x := 0) rfl rfl (by decide) ?_
            refine te_bipush (p2 := 62) (x := 20) rfl rfl (by decide) ?_
            refine cS_pI (p2 := 65) rfl rfl rfl rfl (t_X12_in (n := x3) (a := 0) (b := 20) hI ) (by decide) (fun y18 r18 => ?_)
            rcases r18 with ⟨w18, c18⟩ | ⟨w18, c18⟩
            · subst w18
              have cc18_1 := (show Int32.toInt 0 = 0 from rfl)
              have cc18_2 := (show Int32.toInt 20 = 20 from rfl)
              refine tz_eq (p2 := 68) rfl rfl (show Int32.toInt 1 = 1 from rfl) (fun c19 => absurd c19 (by omega)) (fun c19 => ?_)
              refine te_iconst (p2 := 69) (x := 1) rfl rfl (by decide) ?_
              refine te_goto rfl ?_
              refine te_istore (p2 := 75) (lv2 := [(4, .int 1), (0, .ref 164), (1, .int x1), (2, .int x2), (3, .int x3)]) rfl rfl (by decide) rfl ?_
              refine te_iconst (p2 := 76) (x := 0) rfl rfl (by decide) ?_
              refine te_istore (p2 := 78) (lv2 := [(5, .int 0), (4, .int 1), (0, .ref 164), (1, .int x1), (2, .int x2), (3, .int x3)]) rfl rfl (by decide) rfl ?_
              have lp20 : ∀ (n20 : Nat) (v20_4 v20_5 : Int32) , 0 ≤ v20_4.toInt → v20_4.toInt ≤ 1 → 0 ≤ v20_5.toInt → v20_5.toInt ≤ 40 → (v20_4.toInt = 1 → allB h 194 (40 * x2.toInt.toNat) v20_5.toInt 99) → ((v20_4.toInt = 1 ∧ way (vl h 194 (40 * x2.toInt.toNat)) v20_5.toInt) ∨ (v20_4.toInt = 0 ∧ ¬ way (vl h 194 (40 * x2.toInt.toNat)) y7.toInt)) → 40 - v20_5.toInt < (n20 : Int) → EvP im_K0 3 mX12_rail (78, [(0, .ref 164), (1, .int x1), (2, .int x2), (3, .int x3), (4, .int v20_4), (5, .int v20_5)], [], h) (fun v h2 => tI h2 ∧ fr F_X12_rail h h2 ∧ ∃ y : Int32, v = some (.int y) ∧ Q2_rail x1 x2 x3 y h h2) := by
                intro n20
                induction n20 with
                | zero => intro v20_4 v20_5 a20_4 b20_4 a20_5 b20_5 w20_0 w20_1 m20; exfalso; omega
                | succ n20 ih20 =>
                  intro v20_4 v20_5 a20_4 b20_4 a20_5 b20_5 w20_0 w20_1 m20
                  refine te_iload (p2 := 80) rfl rfl rfl ?_
                  refine te_aload_n (p2 := 81) rfl rfl rfl ?_
                  refine tg_r (p2 := 84) (i := 148) (r := 209) rfl rfl hI rfl rfl rfl ?_
                  refine te_iload_n (p2 := 85) rfl rfl rfl ?_
                  refine tl_e (p2 := 86) (i := 193) (n := 4) (t := 0) (Or.inl rfl) rfl rfl hI rfl rfl (by omega) (by omega) e7 ?_
                  refine tb_ge (p2 := 89) rfl rfl rfl rfl (fun c22 => ?_) (fun c22 => ?_)
                  · refine te_iload (p2 := 173) rfl rfl rfl ?_
                    refine tz_ne (p2 := 176) rfl rfl rfl (fun c23 => ?_) (fun c23 => ?_)
                    · refine te_iconst (p2 := 180) (x := 0) rfl rfl (by decide) ?_
                      refine te_istore (p2 := 182) (lv2 := [(5, .int 0), (0, .ref 164), (1, .int x1), (2, .int x2), (3, .int x3), (4, .int v20_4)]) rfl rfl (by decide) rfl ?_
                      have lp24 : ∀ (n24 : Nat) (v24_5 : Int32) (h24 : im_H), tI h24 → fr F_X12_rail h h24 → 0 ≤ v24_5.toInt → v24_5.toInt ≤ 12 → v24_5.toInt ≤ y7.toInt → (∀ j m : Nat, j ≠ 164 → rd h24 j m = rd h j m) → (∀ r i : Nat, r < 3 → i < 12 → rv h24 164 (12 * r + i) = if r = x1.toInt.toNat ∧ i < v24_5.toInt.toNat then (vl h 194 (40 * x2.toInt.toNat)) i else rv h 164 (12 * r + i)) → 12 - v24_5.toInt < (n24 : Int) → EvP im_K0 3 mX12_rail (182, [(0, .ref 164), (1, .int x1), (2, .int x2), (3, .int x3), (4, .int v20_4), (5, .int v24_5)], [], h24) (fun v h2 => tI h2 ∧ fr F_X12_rail h h2 ∧ ∃ y : Int32, v = some (.int y) ∧ Q2_rail x1 x2 x3 y h h2) := by
                        intro n24
                        induction n24 with
                        | zero => intro v24_5 h24 I24 f24 a24_5 b24_5 l24_0 w24_0 w24_1 m24; exfalso; omega
                        | succ n24 ih24 =>
                          intro v24_5 h24 I24 f24 a24_5 b24_5 l24_0 w24_0 w24_1 m24
                          refine te_iload (p2 := 184) rfl rfl rfl ?_
                          refine te_aload_n (p2 := 185) rfl rfl rfl ?_
                          refine tg_r (p2 := 188) (i := 148) (r := 209) rfl rfl I24 rfl rfl rfl ?_
                          refine te_iload_n (p2 := 189) rfl rfl rfl ?_
                          refine tl_e (p2 := 190) (i := 193) (n := 4) (t := 0) (Or.inl rfl) rfl rfl I24 rfl rfl (by omega) (by omega) ((f24 _ _ rfl).trans e7) ?_
                          refine tb_ge (p2 := 193) rfl rfl rfl rfl (fun c26 => ?_) (fun c26 => ?_)
                          · refine te_aload_n (p2 := 224) rfl rfl rfl ?_
                            refine tg_r (p2 := 227) (i := 148) (r := 181) rfl rfl I24 rfl rfl rfl ?_
                            refine te_iload_n (p2 := 228) rfl rfl rfl ?_
                            refine te_aload_n (p2 := 229) rfl rfl rfl ?_
                            refine tg_r (p2 := 232) (i := 148) (r := 209) rfl rfl I24 rfl rfl rfl ?_
                            refine te_iload_n (p2 := 233) rfl rfl rfl ?_
                            refine tl_e (p2 := 234) (i := 193) (n := 4) (t := 0) (Or.inl rfl) rfl rfl I24 rfl rfl (by omega) (by omega) ((f24 _ _ rfl).trans e7) ?_
                            refine ts_i (p2 := 235) (i := 165) (n := 3) rfl rfl I24 rfl rfl rfl rfl (by omega) (by omega) (by omega) (by omega) (by omega) rfl (fun h28 I28 u28 => ?_)
                            have f28 := fr_st (F := F_X12_rail) 1 f24 u28 rfl (by omega) (by omega)
                            refine te_aload_n (p2 := 236) rfl rfl rfl ?_
                            refine tg_r (p2 := 239) (i := 148) (r := 182) rfl rfl I28 rfl rfl rfl ?_
                            refine te_iload_n (p2 := 240) rfl rfl rfl ?_
                            refine te_iload_n (p2 := 241) rfl rfl rfl ?_
                            refine ts_i (p2 := 242) (i := 166) (n := 3) rfl rfl I28 rfl rfl rfl rfl (by omega) (by omega) (i32_lo _) (i32_hi _) (i32_ho _) rfl (fun h29 I29 u29 => ?_)
                            have f29 := fr_st (F := F_X12_rail) 2 f28 u29 rfl (by omega) (by omega)
                            refine te_aload_n (p2 := 243) rfl rfl rfl ?_
                            refine tg_r (p2 := 246) (i := 148) (r := 209) rfl rfl I29 rfl rfl rfl ?_
                            refine te_iload_n (p2 := 247) rfl rfl rfl ?_
                            refine tl_e (p2 := 248) (i := 193) (n := 4) (t := 0) (Or.inl rfl) rfl rfl I29 rfl rfl (by omega) (by omega) ((u29.2 _ _ (Or.inl (by decide))).trans ((u28.2 _ _ (Or.inl (by decide))).trans ((f24 _ _ rfl).trans e7))) ?_
                            exact te_iret rfl rfl ⟨I29, f29, _, rfl, (Or.inl ⟨by omega, y5, y7, e5, e7, Or.inr (Or.inl ⟨by omega, ⟨by omega, by omega, by omega, by omega, way_le (w20_1.resolve_right (fun h9 => absurd h9.1 (by omega))).2 (by omega)⟩, rfl⟩)⟩), (fun q => absurd q (by omega)), (fun _ => railM (by omega) (by omega) (by omega) (fun i k a b c => (u29.2 _ _ (Or.inl c)).trans ((u28.2 _ _ (Or.inl b)).trans (w24_0 i k a))) (fun r i hr hi => by rw [rv_ni u29 (Or.inl (by decide)), rv_ni u28 (Or.inl (by decide)), ← (show v24_5.toInt.toNat = y7.toInt.toNat by omega)]; exact w24_1 r i hr hi) (fun r hr => ⟨by (by_cases hc : r = x1.toInt.toNat); (· rw [if_pos hc, hc, rv_ni u29 (Or.inl (by decide)), show y7 = y7 from i32_ext (by omega)]; exact rv_of u28.1); (· rw [if_neg hc, rv_ni u29 (Or.inl (by decide)), rv_ni u28 (Or.inr hc)]; exact rv_q (w24_0 _ _ (by decide))), by (by_cases hc : r = x1.toInt.toNat); (· rw [if_pos hc, hc]; exact rv_of u29.1); (· rw [if_neg hc, rv_ni u29 (Or.inr hc), rv_ni u28 (Or.inl (by decide))]; exact rv_q (w24_0 _ _ (by decide)))⟩) hb12)⟩
                          · refine te_aload_n (p2 := 194) rfl rfl rfl ?_
                            refine tg_r (p2 := 197) (i := 148) (r := 180) rfl rfl I24 rfl rfl rfl ?_
                            refine te_bipush (p2 := 199) (x := 12) rfl rfl (by decide) ?_
                            refine te_iload_n (p2 := 200) rfl rfl rfl ?_
                            refine ar_mul (p2 := 201) rfl rfl (show Int32.toInt 12 = 12 from rfl) rfl (by omega) (by omega) (fun z31 e31 f31 => ?_)
                            refine te_iload (p2 := 203) rfl rfl rfl ?_
                            refine ar_add (p2 := 204) rfl rfl rfl rfl (by omega) (by omega) (fun z32 e32 f32 => ?_)
                            refine te_aload_n (p2 := 205) rfl rfl rfl ?_
                            refine tg_r (p2 := 208) (i := 148) (r := 210) rfl rfl I24 rfl rfl rfl ?_
                            refine te_bipush (p2 := 210) (x := 40) rfl rfl (by decide) ?_
                            refine te_iload_n (p2 := 211) rfl rfl rfl ?_
                            refine ar_mul (p2 := 212) rfl rfl (show Int32.toInt 40 = 40 from rfl) rfl (by omega) (by omega) (fun z33 e33 f33 => ?_)
                            refine te_iload (p2 := 214) rfl rfl rfl ?_
                            refine ar_add (p2 := 215) rfl rfl rfl rfl (by omega) (by omega) (fun z34 e34 f34 => ?_)
                            refine tl_i (p2 := 216) (i := 194) (n := 160) rfl rfl I24 rfl rfl rfl rfl (by omega) (by omega) (fun y35 a35 b35 g35 e35 => ?_)
                            obtain ⟨a36, b36⟩ := allB_at (allB_fr (w20_0 (by omega)) (fun q => f24 _ _ rfl)) v24_5.toInt.toNat (by omega) (by omega) e35
                            refine ts_i (p2 := 217) (i := 164) (n := 36) rfl rfl I24 rfl rfl rfl rfl (by omega) (by omega) (by omega) (by omega) (by omega) rfl (fun h37 I37 u37 => ?_)
                            have f37 := fr_st (F := F_X12_rail) 0 f24 u37 rfl (by omega) (by omega)
                            refine ar_inc (p2 := 220) (x := v24_5) rfl rfl (by decide) rfl (by decide) rfl (by omega) (by omega) (fun z38 e38 f38 => ?_)
                            show EvP _ _ _ (220, [(5, .int z38), (0, .ref 164), (1, .int x1), (2, .int x2), (3, .int x3), (4, .int v20_4)], [], h37) _
                            refine te_goto rfl ?_
                            refine te_lv [(0, .ref 164), (1, .int x1), (2, .int x2), (3, .int x3), (4, .int v20_4), (5, .int z38)] rfl rfl ⟨rfl, rfl, rfl, rfl, rfl, rfl, trivial⟩ ?_
                            exact ih24 z38 h37 I37 f37 (by omega) (by omega) (by omega) (fun j m hj => (u37.2 _ _ (Or.inl hj)).trans (w24_0 j m hj)) (fun r i hr hi => by (by_cases hc : r = x1.toInt.toNat ∧ i = v24_5.toInt.toNat); (· rw [if_pos ⟨hc.1, by omega⟩, hc.1, hc.2, show 12 * x1.toInt.toNat + v24_5.toInt.toNat = z32.toInt.toNat by omega, rv_of u37.1]; exact ((show (vl h 194 (40 * x2.toInt.toNat)) v24_5.toInt.toNat = y35 from vl_of (c := 194) (o := 40 * x2.toInt.toNat) (i := v24_5.toInt.toNat) (by omega) (by rw [show 40 * x2.toInt.toNat + v24_5.toInt.toNat = z34.toInt.toNat by omega]; exact (f24 _ _ rfl).symm.trans e35))).symm); (· rw [rv_ni u37 (Or.inr (by omega)), w24_1 r i hr hi]; (by_cases hq : r = x1.toInt.toNat ∧ i < v24_5.toInt.toNat); (· rw [if_pos hq, if_pos ⟨hq.1, by omega⟩]); (· rw [if_neg hq, if_neg (by omega)]))) (by omega)
                      refine te_lv [(0, .ref 164), (1, .int x1), (2, .int x2), (3, .int x3), (4, .int v20_4), (5, .int 0)] rfl rfl ⟨rfl, rfl, rfl, rfl, rfl, rfl, trivial⟩ ?_
                      exact lp24 13 0 h hI f0 (by decide) (by decide) (by have cc0 := (show Int32.toInt 0 = 0 from rfl); omega) (fun _ _ _ => rfl) (fun r i _ _ => (if_neg (fun q => absurd q.2 (Nat.not_lt_zero i))).symm) (by have cc0 := (show Int32.toInt 0 = 0 from rfl); omega)
                    · refine te_bipush (p2 := 178) (x := (-2)) rfl rfl (by decide) ?_
                      exact te_iret rfl rfl ⟨hI, f0, _, rfl, (Or.inl ⟨by omega, y5, y7, e5, e7, Or.inr (Or.inr ⟨by omega, (fun ho => (w20_1.resolve_left (fun h9 => absurd h9.1 (by omega))).2 ho.2.2.2.2), rfl⟩)⟩), (fun _ => rfl), (fun q => absurd q (by decide))⟩
                  · refine te_iload (p2 := 91) rfl rfl rfl ?_
                    refine tz_eq (p2 := 94) rfl rfl rfl (fun c39 => ?_) (fun c39 => ?_)
                    · refine te_iload (p2 := 173) rfl rfl rfl ?_
                      refine tz_ne (p2 := 176) rfl rfl rfl (fun c40 => absurd c40 (by omega)) (fun c40 => ?_)
                      refine te_bipush (p2 := 178) (x := (-2)) rfl rfl (by decide) ?_
                      exact te_iret rfl rfl ⟨hI, f0, _, rfl, (Or.inl ⟨by omega, y5, y7, e5, e7, Or.inr (Or.inr ⟨by omega, (fun ho => (w20_1.resolve_left (fun h9 => absurd h9.1 (by omega))).2 ho.2.2.2.2), rfl⟩)⟩), (fun _ => rfl), (fun q => absurd q (by decide))⟩
                    · refine te_aload_n (p2 := 95) rfl rfl rfl ?_
                      refine tg_r (p2 := 98) (i := 148) (r := 210) rfl rfl hI rfl rfl rfl ?_
                      refine te_bipush (p2 := 100) (x := 40) rfl rfl (by decide) ?_
                      refine te_iload_n (p2 := 101) rfl rfl rfl ?_
                      refine ar_mul (p2 := 102) rfl rfl (show Int32.toInt 40 = 40 from rfl) rfl (by omega) (by omega) (fun z41 e41 f41 => ?_)
                      refine te_iload (p2 := 104) rfl rfl rfl ?_
                      refine ar_add (p2 := 105) rfl rfl rfl rfl (by omega) (by omega) (fun z42 e42 f42 => ?_)
                      refine tl_i (p2 := 106) (i := 194) (n := 160) rfl rfl hI rfl rfl rfl rfl (by omega) (by omega) (fun y43 a43 b43 g43 e43 => ?_)
                      refine cS_pI (p2 := 109) rfl rfl rfl rfl (t_X12_isCell (n := y43) hI ) (by decide) (fun y44 r44 => ?_)
                      rcases r44 with ⟨w44, c44⟩ | ⟨w44, c44⟩
                      · subst w44
                        refine tz_eq (p2 := 112) rfl rfl (show Int32.toInt 1 = 1 from rfl) (fun c45 => absurd c45 (by omega)) (fun c45 => ?_)
                        refine te_iload (p2 := 114) rfl rfl rfl ?_
                        refine tz_eq (p2 := 117) rfl rfl rfl (fun c46 => ?_) (fun c46 => ?_)
                        · refine te_iconst (p2 := 159) (x := 1) rfl rfl (by decide) ?_
                          refine te_goto rfl ?_
                          refine te_istore (p2 := 165) (lv2 := [(4, .int 1), (0, .ref 164), (1, .int x1), (2, .int x2), (3, .int x3), (5, .int v20_5)]) rfl rfl (by decide) rfl ?_
                          refine ar_inc (p2 := 168) (x := v20_5) rfl rfl (by decide) rfl (by decide) rfl (by omega) (by omega) (fun z47 e47 f47 => ?_)
                          show EvP _ _ _ (168, [(5, .int z47), (4, .int 1), (0, .ref 164), (1, .int x1), (2, .int x2), (3, .int x3)], [], h) _
                          refine te_goto rfl ?_
                          refine te_lv [(0, .ref 164), (1, .int x1), (2, .int x2), (3, .int x3), (4, .int 1), (5, .int z47)] rfl rfl ⟨rfl, rfl, rfl, rfl, rfl, rfl, trivial⟩ ?_
                          exact ih20 1 z47 (by decide) (by decide) (by omega) (by omega) (fun _ => allB_s (k := v20_5.toInt.toNat) (w20_0 (by omega)) (by omega) f47 (by rw [show 40 * x2.toInt.toNat + v20_5.toInt.toNat = z42.toInt.toNat by omega]; exact e43) (by omega) (by omega)) (Or.inl ⟨by decide, way_s (k := v20_5.toInt.toNat) ((w20_1.resolve_right (fun h9 => absurd h9.1 (by omega))).2) (by omega) f47 (by rw [(vl_of (c := 194) (o := 40 * x2.toInt.toNat) (i := v20_5.toInt.toNat) (by omega) (by rw [show 40 * x2.toInt.toNat + v20_5.toInt.toNat = z42.toInt.toNat by omega]; exact e43) : vl h 194 (40 * x2.toInt.toNat) v20_5.toInt.toNat = y43)]; omega) (fun h9 => by exfalso; omega)⟩) (by have cc0 := (show Int32.toInt 1 = 1 from rfl); omega)
                        · refine te_aload_n (p2 := 118) rfl rfl rfl ?_
                          refine tg_r (p2 := 121) (i := 148) (r := 210) rfl rfl hI rfl rfl rfl ?_
                          refine te_bipush (p2 := 123) (x := 40) rfl rfl (by decide) ?_
                          refine te_iload_n (p2 := 124) rfl rfl rfl ?_
                          refine ar_mul (p2 := 125) rfl rfl (show Int32.toInt 40 = 40 from rfl) rfl (by omega) (by omega) (fun z48 e48 f48 => ?_)
                          refine te_iload (p2 := 127) rfl rfl rfl ?_
                          refine tz_ne (p2 := 130) rfl rfl rfl (fun c49 => ?_) (fun c49 => absurd c49 (by omega))
                          refine te_iload (p2 := 136) rfl rfl rfl ?_
                          refine te_iconst (p2 := 137) (x := 1) rfl rfl (by decide) ?_
                          refine ar_sub (p2 := 138) rfl rfl rfl (show Int32.toInt 1 = 1 from rfl) (by omega) (by omega) (fun z50 e50 f50 => ?_)
                          refine ar_add (p2 := 139) rfl rfl rfl rfl (by omega) (by omega) (fun z51 e51 f51 => ?_)
                          refine tl_i (p2 := 140) (i := 194) (n := 160) rfl rfl hI rfl rfl rfl rfl (by omega) (by omega) (fun y52 a52 b52 g52 e52 => ?_)
                          obtain ⟨a53, b53⟩ := allB_at (w20_0 (by omega)) (v20_5.toInt - 1).toNat (by omega) (by omega) e52
                          refine te_aload_n (p2 := 141) rfl rfl rfl ?_
                          refine tg_r (p2 := 144) (i := 148) (r := 210) rfl rfl hI rfl rfl rfl ?_
                          refine te_bipush (p2 := 146) (x := 40) rfl rfl (by decide) ?_
                          refine te_iload_n (p2 := 147) rfl rfl rfl ?_
                          refine ar_mul (p2 := 148) rfl rfl (show Int32.toInt 40 = 40 from rfl) rfl (by omega) (by omega) (fun z54 e54 f54 => ?_)
                          refine te_iload (p2 := 150) rfl rfl rfl ?_
                          refine ar_add (p2 := 151) rfl rfl rfl rfl (by omega) (by omega) (fun z55 e55 f55 => ?_)
                          refine tl_i (p2 := 152) (i := 194) (n := 160) rfl rfl hI rfl rfl rfl rfl (by omega) (by omega) (fun y56 a56 b56 g56 e56 => ?_)
                          refine cS_pI (p2 := 155) rfl rfl rfl rfl (c_X12_areBeside (c := y52) (o := y56) hI (by omega) (by omega)) (by decide) (fun y57 r57 => ?_)
                          rcases r57 with ⟨w57_, c57⟩ | ⟨w57_, c57⟩
                          · subst w57_
                            refine tz_eq (p2 := 158) rfl rfl (show Int32.toInt 1 = 1 from rfl) (fun c58 => absurd c58 (by omega)) (fun c58 => ?_)
                            refine te_iconst (p2 := 159) (x := 1) rfl rfl (by decide) ?_
                            refine te_goto rfl ?_
                            refine te_istore (p2 := 165) (lv2 := [(4, .int 1), (0, .ref 164), (1, .int x1), (2, .int x2), (3, .int x3), (5, .int v20_5)]) rfl rfl (by decide) rfl ?_
                            refine ar_inc (p2 := 168) (x := v20_5) rfl rfl (by decide) rfl (by decide) rfl (by omega) (by omega) (fun z59 e59 f59 => ?_)
                            show EvP _ _ _ (168, [(5, .int z59), (4, .int 1), (0, .ref 164), (1, .int x1), (2, .int x2), (3, .int x3)], [], h) _
                            refine te_goto rfl ?_
                            refine te_lv [(0, .ref 164), (1, .int x1), (2, .int x2), (3, .int x3), (4, .int 1), (5, .int z59)] rfl rfl ⟨rfl, rfl, rfl, rfl, rfl, rfl, trivial⟩ ?_
                            exact ih20 1 z59 (by decide) (by decide) (by omega) (by omega) (fun _ => allB_s (k := v20_5.toInt.toNat) (w20_0 (by omega)) (by omega) f59 (by rw [show 40 * x2.toInt.toNat + v20_5.toInt.toNat = z42.toInt.toNat by omega]; exact e43) (by omega) (by omega)) (Or.inl ⟨by decide, way_s (k := v20_5.toInt.toNat) ((w20_1.resolve_right (fun h9 => absurd h9.1 (by omega))).2) (by omega) f59 (by rw [(vl_of (c := 194) (o := 40 * x2.toInt.toNat) (i := v20_5.toInt.toNat) (by omega) (by rw [show 40 * x2.toInt.toNat + v20_5.toInt.toNat = z42.toInt.toNat by omega]; exact e43) : vl h 194 (40 * x2.toInt.toNat) v20_5.toInt.toNat = y43)]; omega) (fun _ => by rw [(vl_of (c := 194) (o := 40 * x2.toInt.toNat) (i := v20_5.toInt.toNat - 1) (by omega) (by rw [show 40 * x2.toInt.toNat + (v20_5.toInt.toNat - 1) = z51.toInt.toNat by omega]; exact e52) : vl h 194 (40 * x2.toInt.toNat) (v20_5.toInt.toNat - 1) = y52), (vl_of (c := 194) (o := 40 * x2.toInt.toNat) (i := v20_5.toInt.toNat) (by omega) (by rw [show 40 * x2.toInt.toNat + v20_5.toInt.toNat = z55.toInt.toNat by omega]; exact e56) : vl h 194 (40 * x2.toInt.toNat) v20_5.toInt.toNat = y56)]; exact c57)⟩) (by have cc0 := (show Int32.toInt 1 = 1 from rfl); omega)
                          · subst w57_
                            refine tz_eq (p2 := 158) rfl rfl (show Int32.toInt 0 = 0 from rfl) (fun c60 => ?_) (fun c60 => absurd c60 (by omega))
                            refine te_iconst (p2 := 163) (x := 0) rfl rfl (by decide) ?_
                            refine te_istore (p2 := 165) (lv2 := [(4, .int 0), (0, .ref 164), (1, .int x1), (2, .int x2), (3, .int x3), (5, .int v20_5)]) rfl rfl (by decide) rfl ?_
                            refine ar_inc (p2 := 168) (x := v20_5) rfl rfl (by decide) rfl (by decide) rfl (by omega) (by omega) (fun z61 e61 f61 => ?_)
                            show EvP _ _ _ (168, [(5, .int z61), (4, .int 0), (0, .ref 164), (1, .int x1), (2, .int x2), (3, .int x3)], [], h) _
                            refine te_goto rfl ?_
                            refine te_lv [(0, .ref 164), (1, .int x1), (2, .int x2), (3, .int x3), (4, .int 0), (5, .int z61)] rfl rfl ⟨rfl, rfl, rfl, rfl, rfl, rfl, trivial⟩ ?_
                            exact ih20 0 z61 (by decide) (by decide) (by omega) (by omega) (fun e => absurd e (by decide)) (Or.inr ⟨by decide, (fun hw => by (have h9 := (hw v20_5.toInt.toNat (by omega)).2 (by omega)); rw [(vl_of (c := 194) (o := 40 * x2.toInt.toNat) (i := v20_5.toInt.toNat - 1) (by omega) (by rw [show 40 * x2.toInt.toNat + (v20_5.toInt.toNat - 1) = z51.toInt.toNat by omega]; exact e52) : vl h 194 (40 * x2.toInt.toNat) (v20_5.toInt.toNat - 1) = y52), (vl_of (c := 194) (o := 40 * x2.toInt.toNat) (i := v20_5.toInt.toNat) (by omega) (by rw [show 40 * x2.toInt.toNat + v20_5.toInt.toNat = z55.toInt.toNat by omega]; exact e56) : vl h 194 (40 * x2.toInt.toNat) v20_5.toInt.toNat = y56)] at h9; exact c57 h9)⟩) (by have cc0 := (show Int32.toInt 0 = 0 from rfl); omega)
                      · subst w44
                        refine tz_eq (p2 := 112) rfl rfl (show Int32.toInt 0 = 0 from rfl) (fun c62 => ?_) (fun c62 => absurd c62 (by omega))
                        refine te_iconst (p2 := 163) (x := 0) rfl rfl (by decide) ?_
                        refine te_istore (p2 := 165) (lv2 := [(4, .int 0), (0, .ref 164), (1, .int x1), (2, .int x2), (3, .int x3), (5, .int v20_5)]) rfl rfl (by decide) rfl ?_
                        refine ar_inc (p2 := 168) (x := v20_5) rfl rfl (by decide) rfl (by decide) rfl (by omega) (by omega) (fun z63 e63 f63 => ?_)
                        show EvP _ _ _ (168, [(5, .int z63), (4, .int 0), (0, .ref 164), (1, .int x1), (2, .int x2), (3, .int x3)], [], h) _
                        refine te_goto rfl ?_
                        refine te_lv [(0, .ref 164), (1, .int x1), (2, .int x2), (3, .int x3), (4, .int 0), (5, .int z63)] rfl rfl ⟨rfl, rfl, rfl, rfl, rfl, rfl, trivial⟩ ?_
                        exact ih20 0 z63 (by decide) (by decide) (by omega) (by omega) (fun e => absurd e (by decide)) (Or.inr ⟨by decide, (fun hw => by (have h9 := (hw v20_5.toInt.toNat (by omega)).1); rw [(vl_of (c := 194) (o := 40 * x2.toInt.toNat) (i := v20_5.toInt.toNat) (by omega) (by rw [show 40 * x2.toInt.toNat + v20_5.toInt.toNat = z42.toInt.toNat by omega]; exact e43) : vl h 194 (40 * x2.toInt.toNat) v20_5.toInt.toNat = y43)] at h9; omega)⟩) (by have cc0 := (show Int32.toInt 0 = 0 from rfl); omega)
              refine te_lv [(0, .ref 164), (1, .int x1), (2, .int x2), (3, .int x3), (4, .int 1), (5, .int 0)] rfl rfl ⟨rfl, rfl, rfl, rfl, rfl, rfl, trivial⟩ ?_
              exact lp20 41 1 0 (by decide) (by decide) (by decide) (by decide) (fun _ => allB_0 (by decide)) (Or.inl ⟨by decide, way_0 (by decide)⟩) (by have cc0 := (show Int32.toInt 1 = 1 from rfl); have cc1 := (show Int32.toInt 0 = 0 from rfl); omega)
            · subst w18
              have cc18_1 := (show Int32.toInt 0 = 0 from rfl)
              have cc18_2 := (show Int32.toInt 20 = 20 from rfl)
              refine tz_eq (p2 := 68) rfl rfl (show Int32.toInt 0 = 0 from rfl) (fun c64 => ?_) (fun c64 => absurd c64 (by omega))
              refine te_iconst (p2 := 73) (x := 0) rfl rfl (by decide) ?_
              refine te_istore (p2 := 75) (lv2 := [(4, .int 0), (0, .ref 164), (1, .int x1), (2, .int x2), (3, .int x3)]) rfl rfl (by decide) rfl ?_
              refine te_iconst (p2 := 76) (x := 0) rfl rfl (by decide) ?_
              refine te_istore (p2 := 78) (lv2 := [(5, .int 0), (4, .int 0), (0, .ref 164), (1, .int x1), (2, .int x2), (3, .int x3)]) rfl rfl (by decide) rfl ?_
              have lp65 : ∀ (n65 : Nat) (v65_4 v65_5 : Int32) , 0 ≤ v65_4.toInt → v65_4.toInt ≤ 0 → 0 ≤ v65_5.toInt → v65_5.toInt ≤ 40 → 40 - v65_5.toInt < (n65 : Int) → EvP im_K0 3 mX12_rail (78, [(0, .ref 164), (1, .int x1), (2, .int x2), (3, .int x3), (4, .int v65_4), (5, .int v65_5)], [], h) (fun v h2 => tI h2 ∧ fr F_X12_rail h h2 ∧ ∃ y : Int32, v = some (.int y) ∧ Q2_rail x1 x2 x3 y h h2) := by
                intro n65
                induction n65 with
                | zero => intro v65_4 v65_5 a65_4 b65_4 a65_5 b65_5 m65; exfalso; omega
                | succ n65 ih65 =>
                  intro v65_4 v65_5 a65_4 b65_4 a65_5 b65_5 m65
                  refine te_iload (p2 := 80) rfl rfl rfl ?_
                  refine te_aload_n (p2 := 81) rfl rfl rfl ?_
                  refine tg_r (p2 := 84) (i := 148) (r := 209) rfl rfl hI rfl rfl rfl ?_
                  refine te_iload_n (p2 := 85) rfl rfl rfl ?_
                  refine tl_e (p2 := 86) (i := 193) (n := 4) (t := 0) (Or.inl rfl) rfl rfl hI rfl rfl (by omega) (by omega) e7 ?_
                  refine tb_ge (p2 := 89) rfl rfl rfl rfl (fun c67 => ?_) (fun c67 => ?_)
                  · refine te_iload (p2 := 173) rfl rfl rfl ?_
                    refine tz_ne (p2 := 176) rfl rfl rfl (fun c68 => absurd c68 (by omega)) (fun c68 => ?_)
                    refine te_bipush (p2 := 178) (x := (-2)) rfl rfl (by decide) ?_
                    exact te_iret rfl rfl ⟨hI, f0, _, rfl, (Or.inl ⟨by omega, y5, y7, e5, e7, Or.inr (Or.inr ⟨by omega, (fun ho => by (obtain ⟨h5, h6, h7, h8, _⟩ := ho); omega), rfl⟩)⟩), (fun _ => rfl), (fun q => absurd q (by decide))⟩
                  · refine te_iload (p2 := 91) rfl rfl rfl ?_
                    refine tz_eq (p2 := 94) rfl rfl rfl (fun c69 => ?_) (fun c69 => absurd c69 (by omega))
                    refine te_iload (p2 := 173) rfl rfl rfl ?_
                    refine tz_ne (p2 := 176) rfl rfl rfl (fun c70 => absurd c70 (by omega)) (fun c70 => ?_)
                    refine te_bipush (p2 := 178) (x := (-2)) rfl rfl (by decide) ?_
                    exact te_iret rfl rfl ⟨hI, f0, _, rfl, (Or.inl ⟨by omega, y5, y7, e5, e7, Or.inr (Or.inr ⟨by omega, (fun ho => by (obtain ⟨h5, h6, h7, h8, _⟩ := ho); omega), rfl⟩)⟩), (fun _ => rfl), (fun q => absurd q (by decide))⟩
              refine te_lv [(0, .ref 164), (1, .int x1), (2, .int x2), (3, .int x3), (4, .int 0), (5, .int 0)] rfl rfl ⟨rfl, rfl, rfl, rfl, rfl, rfl, trivial⟩ ?_
              exact lp65 41 0 0 (by decide) (by decide) (by decide) (by decide) (by have cc0 := (show Int32.toInt 0 = 0 from rfl); omega)
        · subst w8
          have cc8_1 := (show Int32.toInt 0 = 0 from rfl)
          have cc8_2 := (show Int32.toInt 12 = 12 from rfl)
          refine tz_eq (p2 := 48) rfl rfl (show Int32.toInt 0 = 0 from rfl) (fun c71 => ?_) (fun c71 => absurd c71 (by omega))
          refine te_iconst (p2 := 73) (x := 0) rfl rfl (by decide) ?_
          refine te_istore (p2 := 75) (lv2 := [(4, .int 0), (0, .ref 164), (1, .int x1), (2, .int x2), (3, .int x3)]) rfl rfl (by decide) rfl ?_
          refine te_iconst (p2 := 76) (x := 0) rfl rfl (by decide) ?_
          refine te_istore (p2 := 78) (lv2 := [(5, .int 0), (4, .int 0), (0, .ref 164), (1, .int x1), (2, .int x2), (3, .int x3)]) rfl rfl (by decide) rfl ?_
          have lp72 : ∀ (n72 : Nat) (v72_4 v72_5 : Int32) , 0 ≤ v72_4.toInt → v72_4.toInt ≤ 0 → 0 ≤ v72_5.toInt → v72_5.toInt ≤ 40 → 40 - v72_5.toInt < (n72 : Int) → EvP im_K0 3 mX12_rail (78, [(0, .ref 164), (1, .int x1), (2, .int x2), (3, .int x3), (4, .int v72_4), (5, .int v72_5)], [], h) (fun v h2 => tI h2 ∧ fr F_X12_rail h h2 ∧ ∃ y : Int32, v = some (.int y) ∧ Q2_rail x1 x2 x3 y h h2) := by
            intro n72
            induction n72 with
            | zero => intro v72_4 v72_5 a72_4 b72_4 a72_5 b72_5 m72; exfalso; omega
            | succ n72 ih72 =>
              intro v72_4 v72_5 a72_4 b72_4 a72_5 b72_5 m72
              refine te_iload (p2 := 80) rfl rfl rfl ?_
              refine te_aload_n (p2 := 81) rfl rfl rfl ?_
              refine tg_r (p2 := 84) (i := 148) (r := 209) rfl rfl hI rfl rfl rfl ?_
              refine te_iload_n (p2 := 85) rfl rfl rfl ?_
              refine tl_e (p2 := 86) (i := 193) (n := 4) (t := 0) (Or.inl rfl) rfl rfl hI rfl rfl (by omega) (by omega) e7 ?_
              refine tb_ge (p2 := 89) rfl rfl rfl rfl (fun c74 => ?_) (fun c74 => ?_)
              · refine te_iload (p2 := 173) rfl rfl rfl ?_
                refine tz_ne (p2 := 176) rfl rfl rfl (fun c75 => absurd c75 (by omega)) (fun c75 => ?_)
                refine te_bipush (p2 := 178) (x := (-2)) rfl rfl (by decide) ?_
                exact te_iret rfl rfl ⟨hI, f0, _, rfl, (Or.inl ⟨by omega, y5, y7, e5, e7, Or.inr (Or.inr ⟨by omega, (fun ho => by (obtain ⟨h5, h6, h7, h8, _⟩ := ho); omega), rfl⟩)⟩), (fun _ => rfl), (fun q => absurd q (by decide))⟩
              · refine te_iload (p2 := 91) rfl rfl rfl ?_
                refine tz_eq (p2 := 94) rfl rfl rfl (fun c76 => ?_) (fun c76 => absurd c76 (by omega))
                refine te_iload (p2 := 173) rfl rfl rfl ?_
                refine tz_ne (p2 := 176) rfl rfl rfl (fun c77 => absurd c77 (by omega)) (fun c77 => ?_)
                refine te_bipush (p2 := 178) (x := (-2)) rfl rfl (by decide) ?_
                exact te_iret rfl rfl ⟨hI, f0, _, rfl, (Or.inl ⟨by omega, y5, y7, e5, e7, Or.inr (Or.inr ⟨by omega, (fun ho => by (obtain ⟨h5, h6, h7, h8, _⟩ := ho); omega), rfl⟩)⟩), (fun _ => rfl), (fun q => absurd q (by decide))⟩
          refine te_lv [(0, .ref 164), (1, .int x1), (2, .int x2), (3, .int x3), (4, .int 0), (5, .int 0)] rfl rfl ⟨rfl, rfl, rfl, rfl, rfl, rfl, trivial⟩ ?_
          exact lp72 41 0 0 (by decide) (by decide) (by decide) (by decide) (by have cc0 := (show Int32.toInt 0 = 0 from rfl); omega)
      · refine te_bipush (p2 := 32) (x := (-11)) rfl rfl (by decide) ?_
        obtain ⟨v78, e78, y78, w78, a78, b78, _⟩ := hI.2.1 193 x2.toInt.toNat (.inl (0, 40, 9999999999)) (tq_row rfl (by omega))
        subst w78
        exact te_iret rfl rfl ⟨hI, f0, _, rfl, (Or.inl ⟨by omega, y5, y78, e5, e78, Or.inl ⟨by omega, rfl⟩⟩), (fun _ => rfl), (fun q => absurd q (by decide))⟩
    · subst w3
      have cc3_1 := (show Int32.toInt 0 = 0 from rfl)
      have cc3_2 := (show Int32.toInt 3 = 3 from rfl)
      refine tz_ne (p2 := 18) rfl rfl (show Int32.toInt 0 = 0 from rfl) (fun c79 => absurd c79 (by omega)) (fun c79 => ?_)
      refine te_iconst (p2 := 19) (x := (-1)) rfl rfl (by decide) ?_
      exact te_iret rfl rfl ⟨hI, f0, _, rfl, (Or.inr ⟨by omega, rfl⟩), (fun _ => rfl), (fun q => absurd q (by decide))⟩
  · subst w1
    have cc1_1 := (show Int32.toInt 0 = 0 from rfl)
    have cc1_2 := (show Int32.toInt 2 = 2 from rfl)
    refine tz_eq (p2 := 9) rfl rfl (show Int32.toInt 0 = 0 from rfl) (fun c80 => ?_) (fun c80 => absurd c80 (by omega))
    refine te_iconst (p2 := 19) (x := (-1)) rfl rfl (by decide) ?_
    exact te_iret rfl rfl ⟨hI, f0, _, rfl, (Or.inr ⟨by omega, rfl⟩), (fun _ => rfl), (fun q => absurd q (by decide))⟩
