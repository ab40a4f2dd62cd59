theorem pq_vl {h H : im_H} {c o : Nat} (e : ∀ k, rd H c k = rd h c k) : vl H c o = vl h c o := funext fun i => by
  unfold vl
  rw [e]
/-- the walls of a sheet may be pulled -/
def pq_g (c : Ct) (A : Dy) (F : Nat → Int32) (n : Nat) : Prop := ∀ i, i < n → (0 ≤ (F i).toInt ∧ (F i).toInt < c.nw.toInt) ∧ (A.up (F i).toInt.toNat).toInt = 1 ∧ ∀ j, j < i → F j ≠ F i
theorem pq_g0 {c : Ct} {A : Dy} {F : Nat → Int32} {n : Nat} (hn : n = 0) : pq_g c A F n := fun i hi => by omega
theorem pq_gs {c : Ct} {A : Dy} {F : Nat → Int32} {k k2 : Nat} (w : pq_g c A F k) (hk : k2 = k + 1) (h : (0 ≤ (F k).toInt ∧ (F k).toInt < c.nw.toInt) ∧ (A.up (F k).toInt.toNat).toInt = 1 ∧ ∀ j, j < k → F j ≠ F k) : pq_g c A F k2 := by
  subst hk
  intro i hi
  by_cases hc : i = k
  · subst hc; exact h
  · exact w i (by omega)
theorem pq_gn {c : Ct} {A : Dy} {F : Nat → Int32} {k n : Nat} (hk : k < n) (h : ¬ ((0 ≤ (F k).toInt ∧ (F k).toInt < c.nw.toInt) ∧ (A.up (F k).toInt.toNat).toInt = 1 ∧ ∀ j, j < k → F j ≠ F k)) : ¬ pq_g c A F n := fun g => h (g k hk)
/-- the wall of place j is down by now when m days have worn it -/
def pq_fl (c : Ct) (A : Dy) (F : Nat → Int32) (j m : Nat) : Prop := pq_e (A.st (F j).toInt.toNat) (A.we * wkn c (c.wc (F j).toInt.toNat).toInt.toNat / 10) (3 * A.wi) m
noncomputable def pul_f (x1 q z : Int32) (F : Nat → Int32) (c : Ct) (A : Dy) : Int × Option O6 := if 0 ≤ x1.toInt ∧ x1.toInt ≤ 3 then (if q.toInt = -1 then (-11, none) else @ite _ ((1 ≤ z.toInt ∧ z.toInt ≤ 6) ∧ pq_g c A F z.toInt.toNat) (Classical.propDecidable _) ((pq_t (pq_fl c A F) z.toInt.toNat).1, some (pq_t (pq_fl c A F) z.toInt.toNat).2) (-2, none)) else (-1, none)
def pul_n (o : Option O6) (z old : Int32) : Int32 := o.elim old (fun _ => z)
def pul_r (o : Option O6) (z : Int32) (F old : Nat → Int32) (k : Nat) : Int32 := o.elim (old k) (fun p => if k < z.toInt.toNat then F (o6at p k) else old k)
/-- what pulls answers and keeps -/
def pul_Q (R : Int × Option O6) (z : Int32) (F : Nat → Int32) (y n0 n1 : Int32) (r0 r1 : Nat → Int32) : Prop := y.toInt = R.1 ∧ n1 = pul_n R.2 z n0 ∧ ∀ k, k < 6 → r1 k = pul_r R.2 z F r0 k
theorem pul_1 {x1 q z y n0 n1 : Int32} {F r0 r1 : Nat → Int32} {c : Ct} {A : Dy} (h : ¬ (0 ≤ x1.toInt ∧ x1.toInt ≤ 3)) (hy : y.toInt = -1) (hn : n1 = n0) (hr : ∀ k, k < 6 → r1 k = r0 k) : pul_Q (pul_f x1 q z F c A) z F y n0 n1 r0 r1 := by
  rw [show pul_f x1 q z F c A = (-1, none) from if_neg h]
  exact ⟨hy, hn, hr⟩
theorem pul_2 {x1 q z y n0 n1 : Int32} {F r0 r1 : Nat → Int32} {c : Ct} {A : Dy} (h : 0 ≤ x1.toInt ∧ x1.toInt ≤ 3) (hq : q.toInt = -1) (hy : y.toInt = -11) (hn : n1 = n0) (hr : ∀ k, k < 6 → r1 k = r0 k) : pul_Q (pul_f x1 q z F c A) z F y n0 n1 r0 r1 := by
  rw [show pul_f x1 q z F c A = (-11, none) from (if_pos h).trans (if_pos hq)]
  exact ⟨hy, hn, hr⟩
theorem pul_3 {x1 q z y n0 n1 : Int32} {F r0 r1 : Nat → Int32} {c : Ct} {A : Dy} (h : 0 ≤ x1.toInt ∧ x1.toInt ≤ 3) (hq : ¬ q.toInt = -1) (hg : ¬ ((1 ≤ z.toInt ∧ z.toInt ≤ 6) ∧ pq_g c A F z.toInt.toNat)) (hy : y.toInt = -2) (hn : n1 = n0) (hr : ∀ k, k < 6 → r1 k = r0 k) : pul_Q (pul_f x1 q z F c A) z F y n0 n1 r0 r1 := by
  rw [show pul_f x1 q z F c A = (-2, none) from (if_pos h).trans ((if_neg hq).trans (if_neg hg))]
  exact ⟨hy, hn, hr⟩
theorem pul_4 {x1 q z y n0 n1 : Int32} {F r0 r1 : Nat → Int32} {c : Ct} {A : Dy} {T : Int × O6} (h : 0 ≤ x1.toInt ∧ x1.toInt ≤ 3) (hq : ¬ q.toInt = -1) (hg : (1 ≤ z.toInt ∧ z.toInt ≤ 6) ∧ pq_g c A F z.toInt.toNat) (hT : T = pq_t (pq_fl c A F) z.toInt.toNat) (hy : y.toInt = T.1) (hn : n1 = z) (hr : ∀ k, k < 6 → r1 k = if k < z.toInt.toNat then F (o6at T.2 k) else r0 k) : pul_Q (pul_f x1 q z F c A) z F y n0 n1 r0 r1 := by
  subst hT
  rw [show pul_f x1 q z F c A = ((pq_t (pq_fl c A F) z.toInt.toNat).1, some (pq_t (pq_fl c A F) z.toInt.toNat).2) from (if_pos h).trans ((if_neg hq).trans (if_pos hg))]
  exact ⟨hy, hn, hr⟩
theorem pul_eq {x1 q q2 z z2 : Int32} {F F2 : Nat → Int32} {c : Ct} {A : Dy} (e : 0 ≤ x1.toInt → x1.toInt ≤ 3 → q = q2 ∧ (q2.toInt ≠ -1 → z = z2 ∧ F = F2)) : pul_f x1 q z F c A = pul_f x1 q2 z2 F2 c A ∧ (∀ p, (pul_f x1 q z F c A).2 = some p → z = z2 ∧ F = F2) := by
  unfold pul_f
  by_cases h1 : 0 ≤ x1.toInt ∧ x1.toInt ≤ 3
  · obtain ⟨e1, e2⟩ := e h1.1 h1.2
    rw [if_pos h1, if_pos h1, e1]
    by_cases hq : q2.toInt = -1
    · rw [if_pos hq, if_pos hq]
      exact ⟨rfl, fun p hp => by (have hp2 : (none : Option O6) = some p := hp); cases hp2⟩
    · obtain ⟨e3, e4⟩ := e2 hq
      rw [e3, e4]
      exact ⟨rfl, fun _ _ => ⟨rfl, rfl⟩⟩
  · rw [if_neg h1, if_neg h1]
    exact ⟨rfl, fun p hp => by (have hp2 : (none : Option O6) = some p := hp); cases hp2⟩
theorem pul_j {R R2 : Int × Option O6} {z z2 y y2 n0 n1 m0 m1 : Int32} {F F2 r0 r1 s0 s1 : Nat → Int32} (a : pul_Q R z F y n0 n1 r0 r1) (b : pul_Q R2 z2 F2 y2 m0 m1 s0 s1) (e : R = R2) (ez : ∀ p, R.2 = some p → z = z2 ∧ F = F2) (en : n0 = m0) (er : ∀ k, k < 6 → r0 k = s0 k) : y = y2 ∧ n1 = m1 ∧ ∀ k, k < 6 → r1 k = s1 k := by
  subst e en
  obtain ⟨a1, a2, a3⟩ := a
  obtain ⟨b1, b2, b3⟩ := b
  refine ⟨i32_ext (a1.trans b1.symm), ?_, fun k hk => ?_⟩
  · rw [a2, b2]
    cases hR : R.2 with
    | none => rfl
    | some p => exact (ez p hR).1
  · rw [a3 k hk, b3 k hk]
    cases hR : R.2 with
    | none => exact er k hk
    | some p =>
      obtain ⟨e1, e2⟩ := ez p hR
      subst e1 e2
      show (if k < z.toInt.toNat then F (o6at p k) else r0 k) = if k < z.toInt.toNat then F (o6at p k) else s0 k
      rw [er k hk]
theorem pq_kX {h : im_H} {c : Nat} (hc : c < 100) : wkX h c = wkn (cX h) c := by
  unfold wkX wkn
  rw [show (cX h).kd c = rv h 2 c from gd_at hc]
  rfl
theorem pq_kM {h : im_H} {c : Nat} (T : tabM h) (hc : c < 100) : wkM h c = wkn (cM h) c := by
  unfold wkM wkn
  have eb : ∀ j, rv h 156 j = KK.getD j 0 := fun j => by
    unfold rv
    rw [T.2.2.2, List.getD_eq_getElem?_getD]
    cases KK[j]? <;> rfl
  rw [show (cM h).kd c = rv h 152 c from gd_at hc, eb]
theorem pq_wX {h : im_H} {k : Nat} (hI : tI h) (hk : k < 16) : wrX h 23 k = (absX h 23).we * wkn (cX h) ((cX h).wc k).toInt.toNat / 10 := by
  obtain ⟨_, e, y, w, a, b, _⟩ := hI.2.1 9 k (.inl (0, 99, 9999999999)) (tq_row rfl (by omega))
  subst w
  unfold wrX
  rw [show (cX h).wc k = y from (gd_at hk).trans (rv_of e), rv_of e, pq_kX (by omega)]
  rfl
theorem pq_wM {h : im_H} {k : Nat} (hI : tI h) (T : tabM h) (hk : k < 16) : wrM h k = (absM h).we * wkn (cM h) ((cM h).wc k).toInt.toNat / 10 := by
  obtain ⟨_, e, y, w, a, b, _⟩ := hI.2.1 167 k (.inl (0, 99, 9999999999)) (tq_row rfl (by omega))
  subst w
  unfold wrM
  rw [show (cM h).wc k = y from (gd_at hk).trans (rv_of e), rv_of e, pq_kM T (by omega)]
  rfl
theorem pq_flX {h H : im_H} {F : Nat → Int32} {j m : Nat} {w : Int32} (hI : tI h) (e : ∀ j k, j ≠ 71 → rd H j k = rd h j k) (hf : F j = w) (h0 : 0 ≤ w.toInt) (h1 : w.toInt ≤ 15) : pq_e (rv H (23 + 8) w.toInt.toNat) (wrX H 23 w.toInt.toNat) (3 * rv H 23 2) m ↔ pq_fl (cX h) (absX h 23) F j m := by
  have e1 : rv H (23 + 8) w.toInt.toNat = (absX h 23).st w.toInt.toNat := (pq_rq (e _ _ (by decide))).trans (aX_st (by omega)).symm
  have e3 : wrX H 23 w.toInt.toNat = wrX h 23 w.toInt.toNat := by
    unfold wrX wkX
    rw [pq_rq (e 9 _ (by decide)), pq_rq (e 23 1 (by decide)), pq_rq (e 2 _ (by decide))]
  have e2 := e3.trans (pq_wX hI (show w.toInt.toNat < 16 by omega))
  have e4 : rv H 23 2 = (absX h 23).wi := pq_rq (e 23 2 (by decide))
  unfold pq_fl
  rw [hf, ← e1, ← e2, ← e4]
set_option maxRecDepth 20000 in
set_option maxHeartbeats 4000000 in
theorem c_X3_keep {s : Nat} {h : im_H} (hI : tI h) (q_s : s = 140 ∨ s = 142 ∨ s = 144 ∨ s = 146) : CaP 1 25 [.ref 84, .ref (16 + s)] h (fun v h2 => tI h2 ∧ fr F_X3_keep h h2 ∧ v = none ∧ (∀ k : Nat, rv h2 69 k = if k < (rv h 68 0).toInt.toNat then (vl h (s + 1) 0) (pq_n h 70 k) else rv h 69 k)) := by
  refine cap_of (d := 0) (M := mX3_keep) rfl (Nat.le_of_ble_eq_true rfl) ?_
  show EvP im_K0 0 mX3_keep (0, [(0, .ref 84), (1, .ref (16 + s))], [], h) _
  have f0 : fr F_X3_keep h h := fr_rf
  refine te_iconst (p2 := 1) (x := 0) rfl rfl (by decide) ?_
  obtain ⟨v1, e1, y1, w1, a1, b1, _⟩ := hI.2.1 68 0 (.inl (0, 6, 9999999999)) rfl
  subst w1
  refine te_istore_n (p2 := 2) (lv2 := [(2, .int 0), (0, .ref 84), (1, .ref (16 + s))]) rfl rfl (by decide) rfl ?_
  have lp2 : ∀ (n2 : Nat) (v2_2 : Int32) (h2 : im_H), tI h2 → fr F_X3_keep h h2 → 0 ≤ v2_2.toInt → v2_2.toInt ≤ 6 → v2_2.toInt ≤ y1.toInt → (∀ k : Nat, rv h2 69 k = if k < v2_2.toInt.toNat then (vl h (s + 1) 0) (pq_n h 70 k) else rv h 69 k) → 6 - v2_2.toInt < (n2 : Int) → EvP im_K0 0 mX3_keep (2, [(0, .ref 84), (1, .ref (16 + s)), (2, .int v2_2)], [], h2) (fun v h2 => tI h2 ∧ fr F_X3_keep h h2 ∧ v = none ∧ (∀ k : Nat, rv h2 69 k = if k < (rv h 68 0).toInt.toNat then (vl h (s + 1) 0) (pq_n h 70 k) else rv h 69 k)) := by
    intro n2
    induction n2 with
    | zero => intro v2_2 h2 I2 f2 a2_2 b2_2 l2_0 w2_0 m2; exfalso; omega
    | succ n2 ih2 =>
      intro v2_2 h2 I2 f2 a2_2 b2_2 l2_0 w2_0 m2
      refine te_iload_n (p2 := 3) rfl rfl rfl ?_
      refine te_aload_n (p2 := 4) rfl rfl rfl ?_
      refine tg_e (p2 := 7) (i := 68) (v := .int y1) rfl rfl I2 rfl rfl ((f2 _ _ rfl).trans e1) ?_
      refine tb_ge (p2 := 10) rfl rfl rfl rfl (fun c3 => ?_) (fun c3 => ?_)
      · exact te_vret rfl rfl ⟨I2, f2, rfl, (fun k => by rw [w2_0 k, show (rv h 68 0).toInt.toNat = v2_2.toInt.toNat from (by rw [rv_of e1]; omega)])⟩
      · refine te_aload_n (p2 := 11) rfl rfl rfl ?_
        refine tg_r (p2 := 14) (i := 68) (r := 85) rfl rfl I2 rfl rfl rfl ?_
        refine te_iload_n (p2 := 15) rfl rfl rfl ?_
        refine te_aload_n (p2 := 16) rfl rfl rfl ?_
        refine tg_r (p2 := 19) (i := s) (r := (16 + (s + 1))) rfl rfl I2 rfl (by rcases q_s with rfl | rfl | rfl | rfl <;> rfl) (by rcases q_s with rfl | rfl | rfl | rfl <;> rfl) ?_
        refine te_aload_n (p2 := 20) rfl rfl rfl ?_
        refine tg_r (p2 := 23) (i := 68) (r := 86) rfl rfl I2 rfl rfl rfl ?_
        refine te_iload_n (p2 := 24) rfl rfl rfl ?_
        refine tl_i (p2 := 25) (i := 70) (n := 6) rfl rfl I2 rfl rfl rfl rfl (by omega) (by omega) (fun y4 a4 b4 g4 e4 => ?_)
        refine tl_i (p2 := 26) (i := (s + 1)) (n := 40) rfl rfl I2 rfl (by rcases q_s with rfl | rfl | rfl | rfl <;> rfl) (by rcases q_s with rfl | rfl | rfl | rfl <;> rfl) rfl (by omega) (by omega) (fun y5 a5 b5 g5 e5 => ?_)
        refine ts_i (p2 := 27) (i := 69) (n := 6) rfl rfl I2 rfl rfl rfl rfl (by omega) (by omega) (i32_lo _) (i32_hi _) (i32_ho _) rfl (fun h6 I6 u6 => ?_)
        have f6 := fr_st (F := F_X3_keep) 0 f2 u6 rfl (by omega) (by omega)
        refine ar_inc (p2 := 30) (x := v2_2) rfl rfl (by decide) rfl (by decide) rfl (by omega) (by omega) (fun z7 e7 f7 => ?_)
        show EvP _ _ _ (30, [(2, .int z7), (0, .ref 84), (1, .ref (16 + s))], [], h6) _
        refine te_goto rfl ?_
        refine te_lv [(0, .ref 84), (1, .ref (16 + s)), (2, .int z7)] rfl rfl ⟨rfl, rfl, rfl, trivial⟩ ?_
        exact ih2 z7 h6 I6 f6 (by omega) (by omega) (by omega) (fun k => by (by_cases hc : k = v2_2.toInt.toNat); (· rw [if_pos (by omega), hc, (show pq_n h 70 v2_2.toInt.toNat = y4.toInt.toNat from pq_of ((f6 70 _ rfl).symm.trans ((u6.2 _ _ (Or.inl (by decide))).trans e4))), (show (vl h (s + 1) 0) y4.toInt.toNat = y5 from vl_of (c := s + 1) (o := 0) (i := y4.toInt.toNat) (by omega) (by rw [Nat.zero_add]; exact (f2 _ _ (by rcases q_s with rfl | rfl | rfl | rfl <;> rfl)).symm.trans e5))]; exact rv_of u6.1); (· rw [rv_ni u6 (Or.inr hc), w2_0 k]; (by_cases hq : k < v2_2.toInt.toNat); (· rw [if_pos hq, if_pos (by omega)]); (· rw [if_neg hq, if_neg (by omega)]))) (by omega)
  refine te_lv [(0, .ref 84), (1, .ref (16 + s)), (2, .int 0)] rfl rfl ⟨rfl, rfl, rfl, trivial⟩ ?_
  exact lp2 7 0 h hI f0 (by decide) (by decide) (by have cc0 := (show Int32.toInt 0 = 0 from rfl); omega) (fun k => (if_neg (show ¬ k < (Int32.toInt 0).toNat from Nat.not_lt_zero k)).symm) (by have cc0 := (show Int32.toInt 0 = 0 from rfl); omega)
set_option maxRecDepth 20000 in
set_option maxHeartbeats 4000000 in
theorem c_X0_daysUntilFall {s : Nat} {k : Int32} {h : im_H} (hI : tI h) (q_s : s = 23 ∨ s = 37 ∨ s = 51) (p_k0 : 0 ≤ k.toInt) (p_k1 : k.toInt ≤ 15) : CaP 3 16 [.ref 17, .ref (16 + s), .int k] h (pI h (fun y => (1 ≤ y.toInt ∧ y.toInt ≤ 7) ∧ ∀ m : Nat, m ≤ 6 → (y.toInt ≤ (m : Int) ↔ pq_e (rv h (s + 8) k.toInt.toNat) (wrX h s k.toInt.toNat) (3 * rv h s 2) m))) := by
  refine cap_of (d := 2) (M := mX0_daysUntilFall) rfl (Nat.le_of_ble_eq_true rfl) ?_
  show EvP im_K0 2 mX0_daysUntilFall (0, [(0, .ref 17), (1, .ref (16 + s)), (2, .int k)], [], h) _
  refine te_iconst (p2 := 1) (x := 1) rfl rfl (by decide) ?_
  refine te_istore_n (p2 := 2) (lv2 := [(3, .int 1), (0, .ref 17), (1, .ref (16 + s)), (2, .int k)]) rfl rfl (by decide) rfl ?_
  have lp1 : ∀ (n1 : Nat) (v1_3 : Int32) , 1 ≤ v1_3.toInt → v1_3.toInt ≤ 7 → (¬ pq_e (rv h (s + 8) k.toInt.toNat) (wrX h s k.toInt.toNat) (3 * rv h s 2) (v1_3.toInt.toNat - 1)) → 7 - v1_3.toInt < (n1 : Int) → EvP im_K0 2 mX0_daysUntilFall (2, [(0, .ref 17), (1, .ref (16 + s)), (2, .int k), (3, .int v1_3)], [], h) (pI h (fun y => (1 ≤ y.toInt ∧ y.toInt ≤ 7) ∧ ∀ m : Nat, m ≤ 6 → (y.toInt ≤ (m : Int) ↔ pq_e (rv h (s + 8) k.toInt.toNat) (wrX h s k.toInt.toNat) (3 * rv h s 2) m))) := by
    intro n1
    induction n1 with
    | zero => intro v1_3 a1_3 b1_3 w1_0 m1; exfalso; omega
    | succ n1 ih1 =>
      intro v1_3 a1_3 b1_3 w1_0 m1
      refine te_iload_n (p2 := 3) rfl rfl rfl ?_
      refine te_bipush (p2 := 5) (x := 6) rfl rfl (by decide) ?_
      refine tb_gt (p2 := 8) rfl rfl rfl (show Int32.toInt 6 = 6 from rfl) (fun c2 => ?_) (fun c2 => ?_)
      · refine te_bipush (p2 := 42) (x := 7) rfl rfl (by decide) ?_
        exact te_iret rfl rfl ⟨rfl, _, rfl, ⟨by decide, by decide⟩, pq_r (k := 7) rfl (fun q => w1_0 (by rw [show v1_3.toInt.toNat - 1 = 6 by omega]; exact q)) (Or.inr rfl)⟩
      · refine te_aload_n (p2 := 9) rfl rfl rfl ?_
        refine tg_r (p2 := 12) (i := s) (r := (16 + (s + 8))) rfl rfl hI rfl (by rcases q_s with rfl | rfl | rfl <;> rfl) (by rcases q_s with rfl | rfl | rfl <;> rfl) ?_
        refine te_iload_n (p2 := 13) rfl rfl rfl ?_
        refine tl_i (p2 := 14) (i := (s + 8)) (n := 16) rfl rfl hI rfl (by rcases q_s with rfl | rfl | rfl <;> rfl) (by rcases q_s with rfl | rfl | rfl <;> rfl) rfl (by omega) (by omega) (fun y3 a3 b3 g3 e3 => ?_)
        refine te_iload_n (p2 := 15) rfl rfl rfl ?_
        refine te_aload_n (p2 := 16) rfl rfl rfl ?_
        refine te_aload_n (p2 := 17) rfl rfl rfl ?_
        refine te_iload_n (p2 := 18) rfl rfl rfl ?_
        refine cV_pI (p2 := 21) (i := 1) rfl rfl rfl rfl hI rfl rfl rfl (c_X0_wearOf (s := s) (k := k) hI q_s (by omega) (by omega)) (by decide) (fun y4 r4 => ?_)
        refine au_mul (p2 := 22) rfl rfl (fun z5 e5 => ?_)
        refine au_sub (p2 := 23) rfl rfl (fun z6 e6 => ?_)
        refine te_iconst (p2 := 24) (x := 3) rfl rfl (by decide) ?_
        refine te_aload_n (p2 := 25) rfl rfl rfl ?_
        refine tg_i (p2 := 28) (i := s) rfl rfl hI rfl (by rcases q_s with rfl | rfl | rfl <;> rfl) (by rcases q_s with rfl | rfl | rfl <;> rfl) (fun y7 a7 b7 e7 => ?_)
        refine au_mul (p2 := 29) rfl rfl (fun z8 e8 => ?_)
        refine tb_gt (p2 := 32) rfl rfl rfl rfl (fun c9 => ?_) (fun c9 => ?_)
        · refine ar_inc (p2 := 37) (x := v1_3) rfl rfl (by decide) rfl (by decide) rfl (by omega) (by omega) (fun z10 e10 f10 => ?_)
          show EvP _ _ _ (37, [(3, .int z10), (0, .ref 17), (1, .ref (16 + s)), (2, .int k)], [], h) _
          refine te_goto rfl ?_
          refine te_lv [(0, .ref 17), (1, .ref (16 + s)), (2, .int k), (3, .int z10)] rfl rfl ⟨rfl, rfl, rfl, rfl, trivial⟩ ?_
          exact ih1 z10 (by omega) (by omega) (by rw [show z10.toInt.toNat - 1 = v1_3.toInt.toNat by omega]; exact pq_en (rv_of e3) r4.symm (show (3 * rv h s 2) = z8 from (by rw [rv_of e7]; exact e8)) (by omega) w1_0 e5 e6 (by omega)) (by omega)
        · refine te_iload_n (p2 := 33) rfl rfl rfl ?_
          exact te_iret rfl rfl ⟨rfl, _, rfl, ⟨by omega, by omega⟩, pq_r (k := v1_3.toInt.toNat) (by omega) w1_0 (Or.inl (pq_ey (rv_of e3) r4.symm (show (3 * rv h s 2) = z8 from (by rw [rv_of e7]; exact e8)) (by omega) e5 e6 (by omega)))⟩
  refine te_lv [(0, .ref 17), (1, .ref (16 + s)), (2, .int k), (3, .int 1)] rfl rfl ⟨rfl, rfl, rfl, rfl, trivial⟩ ?_
  exact lp1 8 1 (by decide) (by decide) (pq_e0 (by decide)) (by have cc0 := (show Int32.toInt 1 = 1 from rfl); omega)
set_option maxRecDepth 20000 in
set_option maxHeartbeats 4000000 in
theorem c_X11_areWallsToPull {s : Nat} {h : im_H} (hI : tI h) (q_s : s = 140 ∨ s = 142 ∨ s = 144 ∨ s = 146) : CaP 3 86 [.ref 16, .ref (16 + s)] h (pI h (fun y => ((fun y => (y.toInt = 0) ∨ (y.toInt = 1 ∧ ∃ p : Int32, rd h s 1 = some (.int p) ∧ 0 ≤ p.toInt ∧ p.toInt ≤ 40 ∧ allB h (s + 1) 0 p.toInt 15)) y) ∧ ((y.toInt = 1 ∧ pq_g (cX h) (absX h 23) (vl h (s + 1) 0) (rv h s 1).toInt.toNat) ∨ (y.toInt = 0 ∧ ¬ pq_g (cX h) (absX h 23) (vl h (s + 1) 0) (rv h s 1).toInt.toNat)))) := by
  refine cap_of (d := 2) (M := mX11_areWallsToPull) rfl (Nat.le_of_ble_eq_true rfl) ?_
  show EvP im_K0 2 mX11_areWallsToPull (0, [(0, .ref 16), (1, .ref (16 + s))], [], h) _
  refine te_iconst (p2 := 1) (x := 0) rfl rfl (by decide) ?_
  obtain ⟨v1, e1, y1, w1, a1, b1, _⟩ := hI.2.1 s 1 (.inl (0, 40, 9999999999)) (by rcases q_s with rfl | rfl | rfl | rfl <;> rfl)
  subst w1
  refine te_istore_n (p2 := 2) (lv2 := [(2, .int 0), (0, .ref 16), (1, .ref (16 + s))]) rfl rfl (by decide) rfl ?_
  have lp2 : ∀ (n2 : Nat) (v2_2 : Int32) , 0 ≤ v2_2.toInt → v2_2.toInt ≤ 40 → v2_2.toInt ≤ y1.toInt → allB h (s + 1) 0 v2_2.toInt 15 → (pq_g (cX h) (absX h 23) (vl h (s + 1) 0) v2_2.toInt.toNat) → 40 - v2_2.toInt < (n2 : Int) → EvP im_K0 2 mX11_areWallsToPull (2, [(0, .ref 16), (1, .ref (16 + s)), (2, .int v2_2)], [], h) (pI h (fun y => ((fun y => (y.toInt = 0) ∨ (y.toInt = 1 ∧ ∃ p : Int32, rd h s 1 = some (.int p) ∧ 0 ≤ p.toInt ∧ p.toInt ≤ 40 ∧ allB h (s + 1) 0 p.toInt 15)) y) ∧ ((y.toInt = 1 ∧ pq_g (cX h) (absX h 23) (vl h (s + 1) 0) (rv h s 1).toInt.toNat) ∨ (y.toInt = 0 ∧ ¬ pq_g (cX h) (absX h 23) (vl h (s + 1) 0) (rv h s 1).toInt.toNat)))) := by
    intro n2
    induction n2 with
    | zero => intro v2_2 a2_2 b2_2 l2_0 w2_0 w2_1 m2; exfalso; omega
    | succ n2 ih2 =>
      intro v2_2 a2_2 b2_2 l2_0 w2_0 w2_1 m2
      refine te_iload_n (p2 := 3) rfl rfl rfl ?_
      refine te_aload_n (p2 := 4) rfl rfl rfl ?_
      refine tg_e (p2 := 7) (i := s) (v := .int y1) rfl rfl hI rfl (by rcases q_s with rfl | rfl | rfl | rfl <;> rfl) e1 ?_
      refine tb_ge (p2 := 10) rfl rfl rfl rfl (fun c3 => ?_) (fun c3 => ?_)
      · refine te_iconst (p2 := 61) (x := 1) rfl rfl (by decide) ?_
        exact te_zret rfl rfl (by decide) ⟨rfl, _, rfl, ⟨Or.inr ⟨by decide, y1, e1, by omega, by omega, allB_le w2_0 (by omega)⟩, Or.inl ⟨by decide, (by rw [show (rv h s 1).toInt.toNat = v2_2.toInt.toNat from (by rw [rv_of e1]; omega)]; exact w2_1)⟩⟩⟩
      · refine te_aload_n (p2 := 11) rfl rfl rfl ?_
        refine tg_r (p2 := 14) (i := s) (r := (16 + (s + 1))) rfl rfl hI rfl (by rcases q_s with rfl | rfl | rfl | rfl <;> rfl) (by rcases q_s with rfl | rfl | rfl | rfl <;> rfl) ?_
        refine te_iload_n (p2 := 15) rfl rfl rfl ?_
        refine tl_i (p2 := 16) (i := (s + 1)) (n := 40) rfl rfl hI rfl (by rcases q_s with rfl | rfl | rfl | rfl <;> rfl) (by rcases q_s with rfl | rfl | rfl | rfl <;> rfl) rfl (by omega) (by omega) (fun y4 a4 b4 g4 e4 => ?_)
        refine te_istore_n (p2 := 17) (lv2 := [(3, .int y4), (0, .ref 16), (1, .ref (16 + s)), (2, .int v2_2)]) rfl rfl (by decide) rfl ?_
        refine te_iload_n (p2 := 18) rfl rfl rfl ?_
        refine te_aload_n (p2 := 19) rfl rfl rfl ?_
        refine tg_r (p2 := 22) (i := 0) (r := 17) rfl rfl hI rfl rfl rfl ?_
        refine tg_i (p2 := 25) (i := 1) rfl rfl hI rfl rfl rfl (fun y5 a5 b5 e5 => ?_)
        refine cS_pI (p2 := 28) rfl rfl rfl rfl (t_X11_within (n := y4) (b := y5) hI ) (by decide) (fun y6 r6 => ?_)
        rcases r6 with ⟨w6, c6⟩ | ⟨w6, c6⟩
        · subst w6
          refine tz_eq (p2 := 31) rfl rfl (show Int32.toInt 1 = 1 from rfl) (fun c7 => absurd c7 (by omega)) (fun c7 => ?_)
          refine te_aload_n (p2 := 32) rfl rfl rfl ?_
          refine tg_r (p2 := 35) (i := 0) (r := 39) rfl rfl hI rfl rfl rfl ?_
          refine tg_r (p2 := 38) (i := 23) (r := 48) rfl rfl hI rfl rfl rfl ?_
          refine te_iload_n (p2 := 39) rfl rfl rfl ?_
          refine tl_b (p2 := 40) (i := 32) (n := 16) rfl rfl hI rfl rfl rfl rfl (by omega) (by omega) (fun y8 a8 e8 => ?_)
          refine tz_eq (p2 := 43) rfl rfl rfl (fun c9 => ?_) (fun c9 => ?_)
          · refine te_iconst (p2 := 53) (x := 0) rfl rfl (by decide) ?_
            exact te_zret rfl rfl (by decide) ⟨rfl, _, rfl, ⟨Or.inl (by decide), Or.inr ⟨by decide, pq_gn (k := v2_2.toInt.toNat) (by rw [rv_of e1]; omega) (by rw [(vl_of (c := s + 1) (o := 0) (i := v2_2.toInt.toNat) (by omega) (by rw [Nat.zero_add]; exact e4)), (show (cX h).nw = y5 from rv_of e5), (show (absX h 23).up y4.toInt.toNat = y8 from (aX_up (by omega)).trans (rv_of e8))]; exact fun q => absurd q.2.1 (by omega))⟩⟩⟩
          · refine te_aload_n (p2 := 44) rfl rfl rfl ?_
            refine te_iload_n (p2 := 45) rfl rfl rfl ?_
            refine te_iload_n (p2 := 46) rfl rfl rfl ?_
            refine cV_pI (p2 := 49) (i := s) rfl rfl rfl rfl hI rfl (by rcases q_s with rfl | rfl | rfl | rfl <;> rfl) rfl (c_X8_hasAheadOf (s := s) (i := v2_2) (number := y4) hI q_s (by omega) (by omega)) (by decide) (fun y10 r10 => ?_)
            rcases r10 with ⟨w10_, ho10⟩ | ⟨w10_, ho10⟩
            · subst w10_
              refine tz_eq (p2 := 52) rfl rfl (show Int32.toInt 1 = 1 from rfl) (fun c11 => absurd c11 (by omega)) (fun c11 => ?_)
              refine te_iconst (p2 := 53) (x := 0) rfl rfl (by decide) ?_
              exact te_zret rfl rfl (by decide) ⟨rfl, _, rfl, ⟨Or.inl (by decide), Or.inr ⟨by decide, pq_gn (k := v2_2.toInt.toNat) (by rw [rv_of e1]; omega) (by rw [(vl_of (c := s + 1) (o := 0) (i := v2_2.toInt.toNat) (by omega) (by rw [Nat.zero_add]; exact e4)), (show (cX h).nw = y5 from rv_of e5), (show (absX h 23).up y4.toInt.toNat = y8 from (aX_up (by omega)).trans (rv_of e8))]; exact fun q => (by (obtain ⟨j, hj, ej⟩ := ho10); exact q.2.2 j hj ej))⟩⟩⟩
            · subst w10_
              refine tz_eq (p2 := 52) rfl rfl (show Int32.toInt 0 = 0 from rfl) (fun c12 => ?_) (fun c12 => absurd c12 (by omega))
              refine ar_inc (p2 := 57) (x := v2_2) rfl rfl (by decide) rfl (by decide) rfl (by omega) (by omega) (fun z13 e13 f13 => ?_)
              show EvP _ _ _ (57, [(2, .int z13), (3, .int y4), (0, .ref 16), (1, .ref (16 + s))], [], h) _
              refine te_goto rfl ?_
              refine te_lv [(0, .ref 16), (1, .ref (16 + s)), (2, .int z13)] rfl rfl ⟨rfl, rfl, rfl, trivial⟩ ?_
              exact ih2 z13 (by omega) (by omega) (by omega) (allB_s (k := v2_2.toInt.toNat) w2_0 (by omega) f13 (by rw [Nat.zero_add]; exact e4) (by omega) (by omega)) (pq_gs w2_1 (by omega) (by rw [(vl_of (c := s + 1) (o := 0) (i := v2_2.toInt.toNat) (by omega) (by rw [Nat.zero_add]; exact e4)), (show (cX h).nw = y5 from rv_of e5), (show (absX h 23).up y4.toInt.toNat = y8 from (aX_up (by omega)).trans (rv_of e8))]; exact ⟨⟨by omega, by omega⟩, by omega, fun j hj q => ho10 ⟨j, hj, q⟩⟩)) (by omega)
        · subst w6
          refine tz_eq (p2 := 31) rfl rfl (show Int32.toInt 0 = 0 from rfl) (fun c14 => ?_) (fun c14 => absurd c14 (by omega))
          refine te_iconst (p2 := 53) (x := 0) rfl rfl (by decide) ?_
          exact te_zret rfl rfl (by decide) ⟨rfl, _, rfl, ⟨Or.inl (by decide), Or.inr ⟨by decide, pq_gn (k := v2_2.toInt.toNat) (by rw [rv_of e1]; omega) (by rw [(vl_of (c := s + 1) (o := 0) (i := v2_2.toInt.toNat) (by omega) (by rw [Nat.zero_add]; exact e4)), (show (cX h).nw = y5 from rv_of e5)]; exact fun q => absurd q.1 (by omega))⟩⟩⟩
  refine te_lv [(0, .ref 16), (1, .ref (16 + s)), (2, .int 0)] rfl rfl ⟨rfl, rfl, rfl, trivial⟩ ?_
  exact lp2 41 0 (by decide) (by decide) (by have cc0 := (show Int32.toInt 0 = 0 from rfl); omega) (allB_0 (by decide)) (pq_g0 (by decide)) (by have cc0 := (show Int32.toInt 0 = 0 from rfl); omega)
