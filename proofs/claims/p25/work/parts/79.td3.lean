theorem pq_rq {h h2 : im_H} {i k : Nat} (e : rd h2 i k = rd h i k) : rv h2 i k = rv h i k := by
  unfold rv
  rw [e]
def pq_n (h : im_H) (c : Nat) : Nat → Nat := fun k => (rv h c k).toInt.toNat
theorem pq_of {h : im_H} {c k : Nat} {y : Int32} (e : rd h c k = some (.int y)) : pq_n h c k = y.toInt.toNat := congrArg (fun x : Int32 => x.toInt.toNat) (rv_of e)
theorem pq_k {h H : im_H} {c k : Nat} (e : rd H c k = rd h c k) : pq_n H c k = pq_n h c k := congrArg (fun x : Int32 => x.toInt.toNat) (pq_rq e)
theorem pq_on {h H : im_H} {c n : Nat} (e : ∀ k, rd H c k = rd h c k) : on6 n (pq_n H c) = on6 n (pq_n h c) := on6_c (fun k _ => pq_k (e k))
theorem pq_rv {h H : im_H} {c : Nat} (e : ∀ k, rd H c k = rd h c k) : rv H c = rv h c := funext fun k => pq_rq (e k)
theorem tn_ne {a b : Int} (ha : 0 ≤ a) (hb : 0 ≤ b) (h : a ≠ b) : a.toNat ≠ b.toNat := by omega
theorem pq_prm {h : im_H} {n : Int} {t0 t1 t2 t3 t4 t5 : Int32} (hp : prm n t0.toInt t1.toInt t2.toInt t3.toInt t4.toInt t5.toInt) (h6 : n ≤ 6) (e0 : rd h 199 (Int32.toInt 0).toNat = some (.int t0)) (e1 : rd h 199 (Int32.toInt 1).toNat = some (.int t1)) (e2 : rd h 199 (Int32.toInt 2).toNat = some (.int t2)) (e3 : rd h 199 (Int32.toInt 3).toNat = some (.int t3)) (e4 : rd h 199 (Int32.toInt 4).toNat = some (.int t4)) (e5 : rd h 199 (Int32.toInt 5).toNat = some (.int t5)) : ∀ m : Nat, (m : Int) < n → (pq_n h 199 m : Int) < n ∧ ∀ k, k < m → pq_n h 199 k ≠ pq_n h 199 m := by
  unfold prm at hp
  obtain ⟨q0, q1, q2, q3, q4, q5⟩ := hp
  have r0 : pq_n h 199 0 = t0.toInt.toNat := pq_of e0
  have r1 : pq_n h 199 1 = t1.toInt.toNat := pq_of e1
  have r2 : pq_n h 199 2 = t2.toInt.toNat := pq_of e2
  have r3 : pq_n h 199 3 = t3.toInt.toNat := pq_of e3
  have r4 : pq_n h 199 4 = t4.toInt.toNat := pq_of e4
  have r5 : pq_n h 199 5 = t5.toInt.toNat := pq_of e5
  intro m hm
  rcases (show m = 0 ∨ m = 1 ∨ m = 2 ∨ m = 3 ∨ m = 4 ∨ m = 5 by omega) with rfl | rfl | rfl | rfl | rfl | rfl
  · obtain ⟨z0, l0⟩ := q0 (by omega)
    clear q0 q1 q2 q3 q4 q5
    refine ⟨by rw [r0]; omega, fun k hk => ?_⟩
    omega
  · obtain ⟨z1, l1, n0⟩ := q1 (by omega)
    have z0 := (q0 (by omega)).1
    clear q0 q1 q2 q3 q4 q5
    refine ⟨by rw [r1]; omega, fun k hk => ?_⟩
    obtain rfl : k = 0 := by omega
    rw [r0, r1]
    exact tn_ne z0 z1 n0
  · obtain ⟨z2, l2, n0, n1⟩ := q2 (by omega)
    have z0 := (q0 (by omega)).1
    have z1 := (q1 (by omega)).1
    clear q0 q1 q2 q3 q4 q5
    refine ⟨by rw [r2]; omega, fun k hk => ?_⟩
    rcases (show k = 0 ∨ k = 1 by omega) with rfl | rfl
    · rw [r0, r2]
      exact tn_ne z0 z2 n0
    · rw [r1, r2]
      exact tn_ne z1 z2 n1
  · obtain ⟨z3, l3, n0, n1, n2⟩ := q3 (by omega)
    have z0 := (q0 (by omega)).1
    have z1 := (q1 (by omega)).1
    have z2 := (q2 (by omega)).1
    clear q0 q1 q2 q3 q4 q5
    refine ⟨by rw [r3]; omega, fun k hk => ?_⟩
    rcases (show k = 0 ∨ k = 1 ∨ k = 2 by omega) with rfl | rfl | rfl
    · rw [r0, r3]
      exact tn_ne z0 z3 n0
    · rw [r1, r3]
      exact tn_ne z1 z3 n1
    · rw [r2, r3]
      exact tn_ne z2 z3 n2
  · obtain ⟨z4, l4, n0, n1, n2, n3⟩ := q4 (by omega)
    have z0 := (q0 (by omega)).1
    have z1 := (q1 (by omega)).1
    have z2 := (q2 (by omega)).1
    have z3 := (q3 (by omega)).1
    clear q0 q1 q2 q3 q4 q5
    refine ⟨by rw [r4]; omega, fun k hk => ?_⟩
    rcases (show k = 0 ∨ k = 1 ∨ k = 2 ∨ k = 3 by omega) with rfl | rfl | rfl | rfl
    · rw [r0, r4]
      exact tn_ne z0 z4 n0
    · rw [r1, r4]
      exact tn_ne z1 z4 n1
    · rw [r2, r4]
      exact tn_ne z2 z4 n2
    · rw [r3, r4]
      exact tn_ne z3 z4 n3
  · obtain ⟨z5, l5, n0, n1, n2, n3, n4⟩ := q5 (by omega)
    have z0 := (q0 (by omega)).1
    have z1 := (q1 (by omega)).1
    have z2 := (q2 (by omega)).1
    have z3 := (q3 (by omega)).1
    have z4 := (q4 (by omega)).1
    clear q0 q1 q2 q3 q4 q5
    refine ⟨by rw [r5]; omega, fun k hk => ?_⟩
    rcases (show k = 0 ∨ k = 1 ∨ k = 2 ∨ k = 3 ∨ k = 4 by omega) with rfl | rfl | rfl | rfl | rfl
    · rw [r0, r5]
      exact tn_ne z0 z5 n0
    · rw [r1, r5]
      exact tn_ne z1 z5 n1
    · rw [r2, r5]
      exact tn_ne z2 z5 n2
    · rw [r3, r5]
      exact tn_ne z3 z5 n3
    · rw [r4, r5]
      exact tn_ne z4 z5 n4
set_option maxRecDepth 20000 in
set_option maxHeartbeats 4000000 in
theorem c_X3_swap {i : Int32} {j : Int32} {h : im_H} (hI : tI h) (p_i0 : 0 ≤ i.toInt) (p_i1 : i.toInt ≤ 5) (p_j0 : 0 ≤ j.toInt) (p_j1 : j.toInt ≤ 5) : CaP 1 27 [.ref 84, .int i, .int j] h (fun v h2 => tI h2 ∧ fr F_X3_swap h h2 ∧ v = none ∧ (∀ a b : Int32, rd h 70 i.toInt.toNat = some (.int a) → rd h 70 j.toInt.toNat = some (.int b) → rd h2 70 i.toInt.toNat = some (.int b) ∧ rd h2 70 j.toInt.toNat = some (.int a)) ∧ ∀ m : Nat, m ≠ i.toInt.toNat → m ≠ j.toInt.toNat → rd h2 70 m = rd h 70 m) := by
  refine cap_of (d := 0) (M := mX3_swap) rfl (Nat.le_of_ble_eq_true rfl) ?_
  show EvP im_K0 0 mX3_swap (0, [(0, .ref 84), (1, .int i), (2, .int j)], [], h) _
  have f0 : fr F_X3_swap h h := fr_rf
  refine te_aload_n (p2 := 1) rfl rfl rfl ?_
  refine tg_r (p2 := 4) (i := 68) (r := 86) rfl rfl hI rfl rfl rfl ?_
  refine te_iload_n (p2 := 5) rfl rfl rfl ?_
  refine tl_i (p2 := 6) (i := 70) (n := 6) rfl rfl hI rfl rfl rfl rfl (by omega) (by omega) (fun y1 a1 b1 g1 e1 => ?_)
  refine te_istore_n (p2 := 7) (lv2 := [(3, .int y1), (0, .ref 84), (1, .int i), (2, .int j)]) rfl rfl (by decide) rfl ?_
  refine te_aload_n (p2 := 8) rfl rfl rfl ?_
  refine tg_r (p2 := 11) (i := 68) (r := 86) rfl rfl hI rfl rfl rfl ?_
  refine te_iload_n (p2 := 12) rfl rfl rfl ?_
  refine te_aload_n (p2 := 13) rfl rfl rfl ?_
  refine tg_r (p2 := 16) (i := 68) (r := 86) rfl rfl hI rfl rfl rfl ?_
  refine te_iload_n (p2 := 17) rfl rfl rfl ?_
  refine tl_i (p2 := 18) (i := 70) (n := 6) rfl rfl hI rfl rfl rfl rfl (by omega) (by omega) (fun y2 a2 b2 g2 e2 => ?_)
  refine ts_i (p2 := 19) (i := 70) (n := 6) rfl rfl hI rfl rfl rfl rfl (by omega) (by omega) (by omega) (by omega) (by omega) rfl (fun h3 I3 u3 => ?_)
  have f3 := fr_st (F := F_X3_swap) 0 f0 u3 rfl (by omega) (by omega)
  refine te_aload_n (p2 := 20) rfl rfl rfl ?_
  refine tg_r (p2 := 23) (i := 68) (r := 86) rfl rfl I3 rfl rfl rfl ?_
  refine te_iload_n (p2 := 24) rfl rfl rfl ?_
  refine te_iload_n (p2 := 25) rfl rfl rfl ?_
  refine ts_i (p2 := 26) (i := 70) (n := 6) rfl rfl I3 rfl rfl rfl rfl (by omega) (by omega) (by omega) (by omega) (by omega) rfl (fun h4 I4 u4 => ?_)
  have f4 := fr_st (F := F_X3_swap) 0 f3 u4 rfl (by omega) (by omega)
  exact te_vret rfl rfl ⟨I4, f4, rfl, (fun a b ea eb => by rw [int_inj ea e1, int_inj eb e2]; refine ⟨?_, u4.1⟩; (by_cases hc : i.toInt.toNat = j.toInt.toNat); (· rw [hc]; exact u4.1.trans (congrArg (fun t => some (Value.int t)) (int_inj e1 (show rd h 70 i.toInt.toNat = some (.int y2) from (by rw [hc]; exact e2))))); (· exact (u4.2 _ _ (Or.inr hc)).trans u3.1)), (fun m hi hj => (u4.2 _ _ (Or.inr hj)).trans (u3.2 _ _ (Or.inr hi)))⟩
set_option maxRecDepth 20000 in
set_option maxHeartbeats 4000000 in
theorem c_X3_countLate  {h : im_H} (hI : tI h)  : CaP 1 24 [.ref 84] h (pI h (fun y => (0 ≤ y.toInt ∧ y.toInt ≤ 6) ∧ y.toInt = pq_l (fun j m => (rv h 71 j).toInt ≤ (m : Int)) (rv h 68 0).toInt.toNat (on6 (rv h 68 0).toInt.toNat (pq_n h 70)))) := by
  refine cap_of (d := 0) (M := mX3_countLate) rfl (Nat.le_of_ble_eq_true rfl) ?_
  show EvP im_K0 0 mX3_countLate (0, [(0, .ref 84)], [], h) _
  refine te_iconst (p2 := 1) (x := 0) rfl rfl (by decide) ?_
  obtain ⟨v1, e1, y1, w1, a1, b1, _⟩ := hI.2.1 68 0 (.inl (0, 6, 9999999999)) rfl
  subst w1
  refine te_istore_n (p2 := 2) (lv2 := [(1, .int 0), (0, .ref 84)]) rfl rfl (by decide) rfl ?_
  refine te_iconst (p2 := 3) (x := 0) rfl rfl (by decide) ?_
  refine te_istore_n (p2 := 4) (lv2 := [(2, .int 0), (1, .int 0), (0, .ref 84)]) rfl rfl (by decide) rfl ?_
  have lp2 : ∀ (n2 : Nat) (v2_1 v2_2 : Int32) , 0 ≤ v2_1.toInt → v2_1.toInt ≤ 6 → 0 ≤ v2_2.toInt → v2_2.toInt ≤ 6 → v2_1.toInt ≤ v2_2.toInt → v2_2.toInt ≤ y1.toInt → (v2_1.toInt = pq_c (fun m => (rv h 71 (pq_n h 70 m)).toInt ≤ (m : Int)) v2_2.toInt.toNat) → 6 - v2_2.toInt < (n2 : Int) → EvP im_K0 0 mX3_countLate (4, [(0, .ref 84), (1, .int v2_1), (2, .int v2_2)], [], h) (pI h (fun y => (0 ≤ y.toInt ∧ y.toInt ≤ 6) ∧ y.toInt = pq_l (fun j m => (rv h 71 j).toInt ≤ (m : Int)) (rv h 68 0).toInt.toNat (on6 (rv h 68 0).toInt.toNat (pq_n h 70)))) := by
    intro n2
    induction n2 with
    | zero => intro v2_1 v2_2 a2_1 b2_1 a2_2 b2_2 l2_0 l2_1 w2_0 m2; exfalso; omega
    | succ n2 ih2 =>
      intro v2_1 v2_2 a2_1 b2_1 a2_2 b2_2 l2_0 l2_1 w2_0 m2
      refine te_iload_n (p2 := 5) rfl rfl rfl ?_
      refine te_aload_n (p2 := 6) rfl rfl rfl ?_
      refine tg_e (p2 := 9) (i := 68) (v := .int y1) rfl rfl hI rfl rfl e1 ?_
      refine tb_ge (p2 := 12) rfl rfl rfl rfl (fun c3 => ?_) (fun c3 => ?_)
      · refine te_iload_n (p2 := 42) rfl rfl rfl ?_
        exact te_iret rfl rfl ⟨rfl, _, rfl, ⟨by omega, by omega⟩, (by rw [show (rv h 68 0).toInt.toNat = v2_2.toInt.toNat from (by rw [rv_of e1]; omega)]; exact w2_0.trans (pq_cc _ (fun i hi => by show (rv h 71 (pq_n h 70 i)).toInt ≤ (i : Int) ↔ (rv h 71 (o6at (on6 v2_2.toInt.toNat (pq_n h 70)) i)).toInt ≤ (i : Int); rw [on6_at (by omega) hi])))⟩
      · refine te_iload_n (p2 := 13) rfl rfl rfl ?_
        refine te_aload_n (p2 := 14) rfl rfl rfl ?_
        refine tg_r (p2 := 17) (i := 68) (r := 87) rfl rfl hI rfl rfl rfl ?_
        refine te_aload_n (p2 := 18) rfl rfl rfl ?_
        refine tg_r (p2 := 21) (i := 68) (r := 86) rfl rfl hI rfl rfl rfl ?_
        refine te_iload_n (p2 := 22) rfl rfl rfl ?_
        refine tl_i (p2 := 23) (i := 70) (n := 6) rfl rfl hI rfl rfl rfl rfl (by omega) (by omega) (fun y4 a4 b4 g4 e4 => ?_)
        refine tl_i (p2 := 24) (i := 71) (n := 6) rfl rfl hI rfl rfl rfl rfl (by omega) (by omega) (fun y5 a5 b5 g5 e5 => ?_)
        refine te_iload_n (p2 := 25) rfl rfl rfl ?_
        refine tb_gt (p2 := 28) rfl rfl rfl rfl (fun c6 => ?_) (fun c6 => ?_)
        · refine te_iconst (p2 := 33) (x := 0) rfl rfl (by decide) ?_
          refine ar_add (p2 := 34) rfl rfl rfl (show Int32.toInt 0 = 0 from rfl) (by omega) (by omega) (fun z7 e7 f7 => ?_)
          refine te_istore_n (p2 := 35) (lv2 := [(1, .int z7), (0, .ref 84), (2, .int v2_2)]) rfl rfl (by decide) rfl ?_
          refine ar_inc (p2 := 38) (x := v2_2) rfl rfl (by decide) rfl (by decide) rfl (by omega) (by omega) (fun z8 e8 f8 => ?_)
          show EvP _ _ _ (38, [(2, .int z8), (1, .int z7), (0, .ref 84)], [], h) _
          refine te_goto rfl ?_
          refine te_lv [(0, .ref 84), (1, .int z7), (2, .int z8)] rfl rfl ⟨rfl, rfl, rfl, trivial⟩ ?_
          exact ih2 z7 z8 (by omega) (by omega) (by omega) (by omega) (by omega) (by omega) (pq_cs w2_0 (by omega) (Or.inr ⟨(show ¬ ((rv h 71 (pq_n h 70 v2_2.toInt.toNat)).toInt ≤ ((v2_2.toInt.toNat : Nat) : Int)) from (by rw [pq_of e4, rv_of e5]; omega)), by omega⟩)) (by omega)
        · refine te_iconst (p2 := 29) (x := 1) rfl rfl (by decide) ?_
          refine te_goto rfl ?_
          refine ar_add (p2 := 34) rfl rfl rfl (show Int32.toInt 1 = 1 from rfl) (by omega) (by omega) (fun z9 e9 f9 => ?_)
          refine te_istore_n (p2 := 35) (lv2 := [(1, .int z9), (0, .ref 84), (2, .int v2_2)]) rfl rfl (by decide) rfl ?_
          refine ar_inc (p2 := 38) (x := v2_2) rfl rfl (by decide) rfl (by decide) rfl (by omega) (by omega) (fun z10 e10 f10 => ?_)
          show EvP _ _ _ (38, [(2, .int z10), (1, .int z9), (0, .ref 84)], [], h) _
          refine te_goto rfl ?_
          refine te_lv [(0, .ref 84), (1, .int z9), (2, .int z10)] rfl rfl ⟨rfl, rfl, rfl, trivial⟩ ?_
          exact ih2 z9 z10 (by omega) (by omega) (by omega) (by omega) (by omega) (by omega) (pq_cs w2_0 (by omega) (Or.inl ⟨(show ((rv h 71 (pq_n h 70 v2_2.toInt.toNat)).toInt ≤ ((v2_2.toInt.toNat : Nat) : Int)) from (by rw [pq_of e4, rv_of e5]; omega)), by omega⟩)) (by omega)
  refine te_lv [(0, .ref 84), (1, .int 0), (2, .int 0)] rfl rfl ⟨rfl, rfl, rfl, trivial⟩ ?_
  exact lp2 7 0 0 (by decide) (by decide) (by decide) (by decide) (by have cc0 := (show Int32.toInt 0 = 0 from rfl); omega) (by have cc0 := (show Int32.toInt 0 = 0 from rfl); omega) rfl (by have cc0 := (show Int32.toInt 0 = 0 from rfl); omega)
set_option maxRecDepth 20000 in
set_option maxHeartbeats 4000000 in
theorem c_X3_goOn_1 {g0 : Int32} {g1 : Int32} {g2 : Int32} {g3 : Int32} {g4 : Int32} {g5 : Int32} {h : im_H} (hI : tI h) (hg0 : rd h 70 (Int32.toInt 0).toNat = some (.int g0)) (ga0 : 0 ≤ g0.toInt) (gb0 : g0.toInt ≤ 5) (hg1 : rd h 70 (Int32.toInt 1).toNat = some (.int g1)) (ga1 : 0 ≤ g1.toInt) (gb1 : g1.toInt ≤ 5) (hg2 : rd h 70 (Int32.toInt 2).toNat = some (.int g2)) (ga2 : 0 ≤ g2.toInt) (gb2 : g2.toInt ≤ 5) (hg3 : rd h 70 (Int32.toInt 3).toNat = some (.int g3)) (ga3 : 0 ≤ g3.toInt) (gb3 : g3.toInt ≤ 5) (hg4 : rd h 70 (Int32.toInt 4).toNat = some (.int g4)) (ga4 : 0 ≤ g4.toInt) (gb4 : g4.toInt ≤ 5) (hg5 : rd h 70 (Int32.toInt 5).toNat = some (.int g5)) (ga5 : 0 ≤ g5.toInt) (gb5 : g5.toInt ≤ 5) (pr0 : rd h 68 0 = some (.int 1)) : CaP 2 26 [.ref 84] h (fun v h2 => tI h2 ∧ fr F_X3_goOn h h2 ∧ ∃ y : Int32, v = some (.int y) ∧ ((y = 0 ∧ pq_x 1 (on6 1 (pq_n h 70)) = none) ∨ (y = 1 ∧ pq_x 1 (on6 1 (pq_n h 70)) = some (on6 1 (pq_n h2 70))))) := by
  refine cap_of (d := 1) (M := mX3_goOn) rfl (Nat.le_of_ble_eq_true rfl) ?_
  show EvP im_K0 1 mX3_goOn (0, [(0, .ref 84)], [], h) _
  have f0 : fr F_X3_goOn h h := fr_rf
  refine te_aload_n (p2 := 1) rfl rfl rfl ?_
  refine tg_e (p2 := 4) (i := 68) (v := .int 1) rfl rfl hI rfl rfl pr0 ?_
  refine te_iconst (p2 := 5) (x := 2) rfl rfl (by decide) ?_
  refine te_isub (p2 := 6) (z := (-1)) rfl rfl (by decide) ?_
  refine te_istore_n (p2 := 7) (lv2 := [(1, .int (-1)), (0, .ref 84)]) rfl rfl (by decide) rfl ?_
  refine te_iload_n (p2 := 8) rfl rfl rfl ?_
  refine tz_lt (p2 := 11) rfl rfl (show Int32.toInt (-1) = (-1) from rfl) (fun c2 => ?_) (fun c2 => absurd c2 (by omega))
  refine te_iload_n (p2 := 35) rfl rfl rfl ?_
  refine tz_ge (p2 := 38) rfl rfl (show Int32.toInt (-1) = (-1) from rfl) (fun c3 => absurd c3 (by omega)) (fun c3 => ?_)
  refine te_iconst (p2 := 39) (x := 0) rfl rfl (by decide) ?_
  exact te_zret rfl rfl (by decide) ⟨hI, f0, _, rfl, Or.inl ⟨rfl, pq_xe1⟩⟩
set_option maxRecDepth 20000 in
set_option maxHeartbeats 4000000 in
theorem c_X3_goOn_2 {g0 : Int32} {g1 : Int32} {g2 : Int32} {g3 : Int32} {g4 : Int32} {g5 : Int32} {h : im_H} (hI : tI h) (hg0 : rd h 70 (Int32.toInt 0).toNat = some (.int g0)) (ga0 : 0 ≤ g0.toInt) (gb0 : g0.toInt ≤ 5) (hg1 : rd h 70 (Int32.toInt 1).toNat = some (.int g1)) (ga1 : 0 ≤ g1.toInt) (gb1 : g1.toInt ≤ 5) (hg2 : rd h 70 (Int32.toInt 2).toNat = some (.int g2)) (ga2 : 0 ≤ g2.toInt) (gb2 : g2.toInt ≤ 5) (hg3 : rd h 70 (Int32.toInt 3).toNat = some (.int g3)) (ga3 : 0 ≤ g3.toInt) (gb3 : g3.toInt ≤ 5) (hg4 : rd h 70 (Int32.toInt 4).toNat = some (.int g4)) (ga4 : 0 ≤ g4.toInt) (gb4 : g4.toInt ≤ 5) (hg5 : rd h 70 (Int32.toInt 5).toNat = some (.int g5)) (ga5 : 0 ≤ g5.toInt) (gb5 : g5.toInt ≤ 5) (pr0 : rd h 68 0 = some (.int 2)) : CaP 2 26 [.ref 84] h (fun v h2 => tI h2 ∧ fr F_X3_goOn h h2 ∧ ∃ y : Int32, v = some (.int y) ∧ ((y = 0 ∧ pq_x 2 (on6 2 (pq_n h 70)) = none) ∨ (y = 1 ∧ pq_x 2 (on6 2 (pq_n h 70)) = some (on6 2 (pq_n h2 70))))) := by
  refine cap_of (d := 1) (M := mX3_goOn) rfl (Nat.le_of_ble_eq_true rfl) ?_
  show EvP im_K0 1 mX3_goOn (0, [(0, .ref 84)], [], h) _
  have f0 : fr F_X3_goOn h h := fr_rf
  refine te_aload_n (p2 := 1) rfl rfl rfl ?_
  refine tg_e (p2 := 4) (i := 68) (v := .int 2) rfl rfl hI rfl rfl pr0 ?_
  refine te_iconst (p2 := 5) (x := 2) rfl rfl (by decide) ?_
  refine te_isub (p2 := 6) (z := 0) rfl rfl (by decide) ?_
  refine te_istore_n (p2 := 7) (lv2 := [(1, .int 0), (0, .ref 84)]) rfl rfl (by decide) rfl ?_
  refine te_iload_n (p2 := 8) rfl rfl rfl ?_
  refine tz_lt (p2 := 11) rfl rfl (show Int32.toInt 0 = 0 from rfl) (fun c2 => absurd c2 (by omega)) (fun c2 => ?_)
  refine te_aload_n (p2 := 12) rfl rfl rfl ?_
  refine tg_r (p2 := 15) (i := 68) (r := 86) rfl rfl hI rfl rfl rfl ?_
  refine te_iload_n (p2 := 16) rfl rfl rfl ?_
  refine tl_e (p2 := 17) (i := 70) (n := 6) (t := 0) (Or.inl rfl) rfl rfl hI rfl rfl (by decide) (by decide) hg0 ?_
  refine te_aload_n (p2 := 18) rfl rfl rfl ?_
  refine tg_r (p2 := 21) (i := 68) (r := 86) rfl rfl hI rfl rfl rfl ?_
  refine te_iload_n (p2 := 22) rfl rfl rfl ?_
  refine te_iconst (p2 := 23) (x := 1) rfl rfl (by decide) ?_
  refine te_iadd (p2 := 24) (z := 1) rfl rfl (by decide) ?_
  refine tl_e (p2 := 25) (i := 70) (n := 6) (t := 0) (Or.inl rfl) rfl rfl hI rfl rfl (by decide) (by decide) hg1 ?_
  refine tb_le (p2 := 28) rfl rfl rfl rfl (fun c6 => ?_) (fun c6 => ?_)
  · refine te_iload_n (p2 := 35) rfl rfl rfl ?_
    refine tz_ge (p2 := 38) rfl rfl (show Int32.toInt 0 = 0 from rfl) (fun c7 => ?_) (fun c7 => absurd c7 (by omega))
    refine te_aload_n (p2 := 41) rfl rfl rfl ?_
    refine tg_e (p2 := 44) (i := 68) (v := .int 2) rfl rfl hI rfl rfl pr0 ?_
    refine te_iconst (p2 := 45) (x := 1) rfl rfl (by decide) ?_
    refine te_isub (p2 := 46) (z := 1) rfl rfl (by decide) ?_
    refine te_istore_n (p2 := 47) (lv2 := [(2, .int 1), (1, .int 0), (0, .ref 84)]) rfl rfl (by decide) rfl ?_
    refine te_iload_n (p2 := 48) rfl rfl rfl ?_
    refine te_iload_n (p2 := 49) rfl rfl rfl ?_
    refine tb_le (p2 := 52) rfl rfl (show Int32.toInt 1 = 1 from rfl) (show Int32.toInt 0 = 0 from rfl) (fun c9 => absurd c9 (by omega)) (fun c9 => ?_)
    refine te_aload_n (p2 := 53) rfl rfl rfl ?_
    refine tg_r (p2 := 56) (i := 68) (r := 86) rfl rfl hI rfl rfl rfl ?_
    refine te_iload_n (p2 := 57) rfl rfl rfl ?_
    refine tl_e (p2 := 58) (i := 70) (n := 6) (t := 0) (Or.inl rfl) rfl rfl hI rfl rfl (by decide) (by decide) hg1 ?_
    refine te_aload_n (p2 := 59) rfl rfl rfl ?_
    refine tg_r (p2 := 62) (i := 68) (r := 86) rfl rfl hI rfl rfl rfl ?_
    refine te_iload_n (p2 := 63) rfl rfl rfl ?_
    refine tl_e (p2 := 64) (i := 70) (n := 6) (t := 0) (Or.inl rfl) rfl rfl hI rfl rfl (by decide) (by decide) hg0 ?_
    refine tb_ge (p2 := 67) rfl rfl rfl rfl (fun c12 => ?_) (fun c12 => ?_)
    · refine te_aload_n (p2 := 74) rfl rfl rfl ?_
      refine te_iload_n (p2 := 75) rfl rfl rfl ?_
      refine te_iload_n (p2 := 76) rfl rfl rfl ?_
      refine tc_V (p2 := 79) (i := 68) rfl rfl rfl rfl hI rfl rfl rfl (c_X3_swap (i := 0) (j := 1) hI (by decide) (by decide) (by decide) (by decide)) (by decide) (fun v13 h13 hq13 => ?_)
      obtain ⟨I13, g13, w13, Qa13, Qb13⟩ := hq13
      subst w13
      have f13 := fr_tr (F1 := F_X3_swap) (F := F_X3_goOn) f0 g13 (by decide)
      have s13 := Qa13 _ _ hg0 hg1
      show EvP _ _ _ (79, [(2, .int 1), (1, .int 0), (0, .ref 84)], [], h13) _
      refine te_iload_n (p2 := 80) rfl rfl rfl ?_
      refine te_iconst (p2 := 81) (x := 1) rfl rfl (by decide) ?_
      refine te_iadd (p2 := 82) (z := 1) rfl rfl (by decide) ?_
      refine te_istore_n (p2 := 83) (lv2 := [(3, .int 1), (2, .int 1), (1, .int 0), (0, .ref 84)]) rfl rfl (by decide) rfl ?_
      refine te_aload_n (p2 := 84) rfl rfl rfl ?_
      refine tg_e (p2 := 87) (i := 68) (v := .int 2) rfl rfl I13 rfl rfl ((g13 _ _ (by decide)).trans pr0) ?_
      refine te_iconst (p2 := 88) (x := 1) rfl rfl (by decide) ?_
      refine te_isub (p2 := 89) (z := 1) rfl rfl (by decide) ?_
      refine te_istore (p2 := 91) (lv2 := [(4, .int 1), (3, .int 1), (2, .int 1), (1, .int 0), (0, .ref 84)]) rfl rfl (by decide) rfl ?_
      refine te_iload_n (p2 := 92) rfl rfl rfl ?_
      refine te_iload (p2 := 94) rfl rfl rfl ?_
      refine tb_ge (p2 := 97) rfl rfl (show Int32.toInt 1 = 1 from rfl) (show Int32.toInt 1 = 1 from rfl) (fun c16 => ?_) (fun c16 => absurd c16 (by omega))
      refine te_iconst (p2 := 114) (x := 1) rfl rfl (by decide) ?_
      exact te_zret rfl rfl (by decide) ⟨I13, f13, _, rfl, Or.inr ⟨rfl, (by rw [pq_xe2, on6_2, (pq_of (k := 0) hg0 : pq_n h 70 0 = g0.toInt.toNat), (pq_of (k := 1) hg1 : pq_n h 70 1 = g1.toInt.toNat), (pq_of (k := 0) s13.1 : pq_n h13 70 0 = g1.toInt.toNat), (pq_of (k := 1) s13.2 : pq_n h13 70 1 = g0.toInt.toNat)]; unfold pq_x2; rw [if_neg (by omega), if_neg (by omega)])⟩⟩
    · refine te_iinc (p2 := 70) (x := 1) (y := 0) (lv2 := [(2, .int 0), (1, .int 0), (0, .ref 84)]) rfl rfl (by decide) rfl (by decide) rfl ?_
      refine te_goto rfl ?_
      refine te_iload_n (p2 := 48) rfl rfl rfl ?_
      refine te_iload_n (p2 := 49) rfl rfl rfl ?_
      refine tb_le (p2 := 52) rfl rfl (show Int32.toInt 0 = 0 from rfl) (show Int32.toInt 0 = 0 from rfl) (fun c18 => ?_) (fun c18 => absurd c18 (by omega))
      refine te_aload_n (p2 := 74) rfl rfl rfl ?_
      refine te_iload_n (p2 := 75) rfl rfl rfl ?_
      refine te_iload_n (p2 := 76) rfl rfl rfl ?_
      refine tc_V (p2 := 79) (i := 68) rfl rfl rfl rfl hI rfl rfl rfl (c_X3_swap (i := 0) (j := 0) hI (by decide) (by decide) (by decide) (by decide)) (by decide) (fun v19 h19 hq19 => ?_)
      obtain ⟨I19, g19, w19, Qa19, Qb19⟩ := hq19
      subst w19
      have f19 := fr_tr (F1 := F_X3_swap) (F := F_X3_goOn) f0 g19 (by decide)
      have s19 := Qa19 _ _ hg0 hg0
      show EvP _ _ _ (79, [(2, .int 0), (1, .int 0), (0, .ref 84)], [], h19) _
      refine te_iload_n (p2 := 80) rfl rfl rfl ?_
      refine te_iconst (p2 := 81) (x := 1) rfl rfl (by decide) ?_
      refine te_iadd (p2 := 82) (z := 1) rfl rfl (by decide) ?_
      refine te_istore_n (p2 := 83) (lv2 := [(3, .int 1), (2, .int 0), (1, .int 0), (0, .ref 84)]) rfl rfl (by decide) rfl ?_
      refine te_aload_n (p2 := 84) rfl rfl rfl ?_
      refine tg_e (p2 := 87) (i := 68) (v := .int 2) rfl rfl I19 rfl rfl ((g19 _ _ (by decide)).trans pr0) ?_
      refine te_iconst (p2 := 88) (x := 1) rfl rfl (by decide) ?_
      refine te_isub (p2 := 89) (z := 1) rfl rfl (by decide) ?_
      refine te_istore (p2 := 91) (lv2 := [(4, .int 1), (3, .int 1), (2, .int 0), (1, .int 0), (0, .ref 84)]) rfl rfl (by decide) rfl ?_
      refine te_iload_n (p2 := 92) rfl rfl rfl ?_
      refine te_iload (p2 := 94) rfl rfl rfl ?_
      refine tb_ge (p2 := 97) rfl rfl (show Int32.toInt 1 = 1 from rfl) (show Int32.toInt 1 = 1 from rfl) (fun c22 => ?_) (fun c22 => absurd c22 (by omega))
      refine te_iconst (p2 := 114) (x := 1) rfl rfl (by decide) ?_
      exact te_zret rfl rfl (by decide) ⟨I19, f19, _, rfl, Or.inr ⟨rfl, (by rw [pq_xe2, on6_2, (pq_of (k := 0) hg0 : pq_n h 70 0 = g0.toInt.toNat), (pq_of (k := 1) hg1 : pq_n h 70 1 = g1.toInt.toNat), (pq_of (k := 0) s19.2 : pq_n h19 70 0 = g0.toInt.toNat), (pq_of (k := 1) ((Qb19 (Int32.toInt 1).toNat (by decide) (by decide)).trans hg1) : pq_n h19 70 1 = g1.toInt.toNat)]; unfold pq_x2; rw [if_neg (by omega), if_pos (by omega)])⟩⟩
  · refine te_iinc (p2 := 31) (x := 0) (y := (-1)) (lv2 := [(1, .int (-1)), (0, .ref 84)]) rfl rfl (by decide) rfl (by decide) rfl ?_
    refine te_goto rfl ?_
    refine te_iload_n (p2 := 8) rfl rfl rfl ?_
    refine tz_lt (p2 := 11) rfl rfl (show Int32.toInt (-1) = (-1) from rfl) (fun c24 => ?_) (fun c24 => absurd c24 (by omega))
    refine te_iload_n (p2 := 35) rfl rfl rfl ?_
    refine tz_ge (p2 := 38) rfl rfl (show Int32.toInt (-1) = (-1) from rfl) (fun c25 => absurd c25 (by omega)) (fun c25 => ?_)
    refine te_iconst (p2 := 39) (x := 0) rfl rfl (by decide) ?_
    exact te_zret rfl rfl (by decide) ⟨hI, f0, _, rfl, Or.inl ⟨rfl, (by rw [pq_xe2, (pq_of (k := 0) hg0 : pq_n h 70 0 = g0.toInt.toNat), (pq_of (k := 1) hg1 : pq_n h 70 1 = g1.toInt.toNat)]; unfold pq_x2; rw [if_pos (by omega)])⟩⟩
set_option maxRecDepth 20000 in
set_option maxHeartbeats 4000000 in
theorem c_X3_goOn_3 {g0 : Int32} {g1 : Int32} {g2 : Int32} {g3 : Int32} {g4 : Int32} {g5 : Int32} {h : im_H} (hI : tI h) (hg0 : rd h 70 (Int32.toInt 0).toNat = some (.int g0)) (ga0 : 0 ≤ g0.toInt) (gb0 : g0.toInt ≤ 5) (hg1 : rd h 70 (Int32.toInt 1).toNat = some (.int g1)) (ga1 : 0 ≤ g1.toInt) (gb1 : g1.toInt ≤ 5) (hg2 : rd h 70 (Int32.toInt 2).toNat = some (.int g2)) (ga2 : 0 ≤ g2.toInt) (gb2 : g2.toInt ≤ 5) (hg3 : rd h 70 (Int32.toInt 3).toNat = some (.int g3)) (ga3 : 0 ≤ g3.toInt) (gb3 : g3.toInt ≤ 5) (hg4 : rd h 70 (Int32.toInt 4).toNat = some (.int g4)) (ga4 : 0 ≤ g4.toInt) (gb4 : g4.toInt ≤ 5) (hg5 : rd h 70 (Int32.toInt 5).toNat = some (.int g5)) (ga5 : 0 ≤ g5.toInt) (gb5 : g5.toInt ≤ 5) (pr0 : rd h 68 0 = some (.int 3)) : CaP 2 26 [.ref 84] h (fun v h2 => tI h2 ∧ fr F_X3_goOn h h2 ∧ ∃ y : Int32, v = some (.int y) ∧ ((y = 0 ∧ pq_x 3 (on6 3 (pq_n h 70)) = none) ∨ (y = 1 ∧ pq_x 3 (on6 3 (pq_n h 70)) = some (on6 3 (pq_n h2 70))))) := by
  refine cap_of (d := 1) (M := mX3_goOn) rfl (Nat.le_of_ble_eq_true rfl) ?_
  show EvP im_K0 1 mX3_goOn (0, [(0, .ref 84)], [], h) _
  have f0 : fr F_X3_goOn h h := fr_rf
  refine te_aload_n (p2 := 1) rfl rfl rfl ?_
  refine tg_e (p2 := 4) (i := 68) (v := .int 3) rfl rfl hI rfl rfl pr0 ?_
  refine te_iconst (p2 := 5) (x := 2) rfl rfl (by decide) ?_
  refine te_isub (p2 := 6) (z := 1) rfl rfl (by decide) ?_
  refine te_istore_n (p2 := 7) (lv2 := [(1, .int 1), (0, .ref 84)]) rfl rfl (by decide) rfl ?_
  refine te_iload_n (p2 := 8) rfl rfl rfl ?_
  refine tz_lt (p2 := 11) rfl rfl (show Int32.toInt 1 = 1 from rfl) (fun c2 => absurd c2 (by omega)) (fun c2 => ?_)
  refine te_aload_n (p2 := 12) rfl rfl rfl ?_
  refine tg_r (p2 := 15) (i := 68) (r := 86) rfl rfl hI rfl rfl rfl ?_
  refine te_iload_n (p2 := 16) rfl rfl rfl ?_
  refine tl_e (p2 := 17) (i := 70) (n := 6) (t := 0) (Or.inl rfl) rfl rfl hI rfl rfl (by decide) (by decide) hg1 ?_
  refine te_aload_n (p2 := 18) rfl rfl rfl ?_
  refine tg_r (p2 := 21) (i := 68) (r := 86) rfl rfl hI rfl rfl rfl ?_
  refine te_iload_n (p2 := 22) rfl rfl rfl ?_
  refine te_iconst (p2 := 23) (x := 1) rfl rfl (by decide) ?_
  refine te_iadd (p2 := 24) (z := 2) rfl rfl (by decide) ?_
  refine tl_e (p2 := 25) (i := 70) (n := 6) (t := 0) (Or.inl rfl) rfl rfl hI rfl rfl (by decide) (by decide) hg2 ?_
  refine tb_le (p2 := 28) rfl rfl rfl rfl (fun c6 => ?_) (fun c6 => ?_)
  · refine te_iload_n (p2 := 35) rfl rfl rfl ?_
    refine tz_ge (p2 := 38) rfl rfl (show Int32.toInt 1 = 1 from rfl) (fun c7 => ?_) (fun c7 => absurd c7 (by omega))
    refine te_aload_n (p2 := 41) rfl rfl rfl ?_
    refine tg_e (p2 := 44) (i := 68) (v := .int 3) rfl rfl hI rfl rfl pr0 ?_
    refine te_iconst (p2 := 45) (x := 1) rfl rfl (by decide) ?_
    refine te_isub (p2 := 46) (z := 2) rfl rfl (by decide) ?_
    refine te_istore_n (p2 := 47) (lv2 := [(2, .int 2), (1, .int 1), (0, .ref 84)]) rfl rfl (by decide) rfl ?_
    refine te_iload_n (p2 := 48) rfl rfl rfl ?_
    refine te_iload_n (p2 := 49) rfl rfl rfl ?_
    refine tb_le (p2 := 52) rfl rfl (show Int32.toInt 2 = 2 from rfl) (show Int32.toInt 1 = 1 from rfl) (fun c9 => absurd c9 (by omega)) (fun c9 => ?_)
    refine te_aload_n (p2 := 53) rfl rfl rfl ?_
    refine tg_r (p2 := 56) (i := 68) (r := 86) rfl rfl hI rfl rfl rfl ?_
    refine te_iload_n (p2 := 57) rfl rfl rfl ?_
    refine tl_e (p2 := 58) (i := 70) (n := 6) (t := 0) (Or.inl rfl) rfl rfl hI rfl rfl (by decide) (by decide) hg2 ?_
    refine te_aload_n (p2 := 59) rfl rfl rfl ?_
    refine tg_r (p2 := 62) (i := 68) (r := 86) rfl rfl hI rfl rfl rfl ?_
    refine te_iload_n (p2 := 63) rfl rfl rfl ?_
    refine tl_e (p2 := 64) (i := 70) (n := 6) (t := 0) (Or.inl rfl) rfl rfl hI rfl rfl (by decide) (by decide) hg1 ?_
    refine tb_ge (p2 := 67) rfl rfl rfl rfl (fun c12 => ?_) (fun c12 => ?_)
    · refine te_aload_n (p2 := 74) rfl rfl rfl ?_
      refine te_iload_n (p2 := 75) rfl rfl rfl ?_
      refine te_iload_n (p2 := 76) rfl rfl rfl ?_
      refine tc_V (p2 := 79) (i := 68) rfl rfl rfl rfl hI rfl rfl rfl (c_X3_swap (i := 1) (j := 2) hI (by decide) (by decide) (by decide) (by decide)) (by decide) (fun v13 h13 hq13 => ?_)
      obtain ⟨I13, g13, w13, Qa13, Qb13⟩ := hq13
      subst w13
      have f13 := fr_tr (F1 := F_X3_swap) (F := F_X3_goOn) f0 g13 (by decide)
      have s13 := Qa13 _ _ hg1 hg2
      show EvP _ _ _ (79, [(2, .int 2), (1, .int 1), (0, .ref 84)], [], h13) _
      refine te_iload_n (p2 := 80) rfl rfl rfl ?_
      refine te_iconst (p2 := 81) (x := 1) rfl rfl (by decide) ?_
      refine te_iadd (p2 := 82) (z := 2) rfl rfl (by decide) ?_
      refine te_istore_n (p2 := 83) (lv2 := [(3, .int 2), (2, .int 2), (1, .int 1), (0, .ref 84)]) rfl rfl (by decide) rfl ?_
      refine te_aload_n (p2 := 84) rfl rfl rfl ?_
      refine tg_e (p2 := 87) (i := 68) (v := .int 3) rfl rfl I13 rfl rfl ((g13 _ _ (by decide)).trans pr0) ?_
      refine te_iconst (p2 := 88) (x := 1) rfl rfl (by decide) ?_
      refine te_isub (p2 := 89) (z := 2) rfl rfl (by decide) ?_
      refine te_istore (p2 := 91) (lv2 := [(4, .int 2), (3, .int 2), (2, .int 2), (1, .int 1), (0, .ref 84)]) rfl rfl (by decide) rfl ?_
      refine te_iload_n (p2 := 92) rfl rfl rfl ?_
      refine te_iload (p2 := 94) rfl rfl rfl ?_
      refine tb_ge (p2 := 97) rfl rfl (show Int32.toInt 2 = 2 from rfl) (show Int32.toInt 2 = 2 from rfl) (fun c16 => ?_) (fun c16 => absurd c16 (by omega))
      refine te_iconst (p2 := 114) (x := 1) rfl rfl (by decide) ?_
      exact te_zret rfl rfl (by decide) ⟨I13, f13, _, rfl, Or.inr ⟨rfl, (by rw [pq_xe3, on6_3, (pq_of (k := 0) hg0 : pq_n h 70 0 = g0.toInt.toNat), (pq_of (k := 1) hg1 : pq_n h 70 1 = g1.toInt.toNat), (pq_of (k := 2) hg2 : pq_n h 70 2 = g2.toInt.toNat), (pq_of (k := 0) ((Qb13 (Int32.toInt 0).toNat (by decide) (by decide)).trans hg0) : pq_n h13 70 0 = g0.toInt.toNat), (pq_of (k := 1) s13.1 : pq_n h13 70 1 = g2.toInt.toNat), (pq_of (k := 2) s13.2 : pq_n h13 70 2 = g1.toInt.toNat)]; unfold pq_x3; rw [if_neg (by omega), if_neg (by omega)])⟩⟩
    · refine te_iinc (p2 := 70) (x := 2) (y := 1) (lv2 := [(2, .int 1), (1, .int 1), (0, .ref 84)]) rfl rfl (by decide) rfl (by decide) rfl ?_
      refine te_goto rfl ?_
      refine te_iload_n (p2 := 48) rfl rfl rfl ?_
      refine te_iload_n (p2 := 49) rfl rfl rfl ?_
      refine tb_le (p2 := 52) rfl rfl (show Int32.toInt 1 = 1 from rfl) (show Int32.toInt 1 = 1 from rfl) (fun c18 => ?_) (fun c18 => absurd c18 (by omega))
      refine te_aload_n (p2 := 74) rfl rfl rfl ?_
      refine te_iload_n (p2 := 75) rfl rfl rfl ?_
      refine te_iload_n (p2 := 76) rfl rfl rfl ?_
      refine tc_V (p2 := 79) (i := 68) rfl rfl rfl rfl hI rfl rfl rfl (c_X3_swap (i := 1) (j := 1) hI (by decide) (by decide) (by decide) (by decide)) (by decide) (fun v19 h19 hq19 => ?_)
      obtain ⟨I19, g19, w19, Qa19, Qb19⟩ := hq19
      subst w19
      have f19 := fr_tr (F1 := F_X3_swap) (F := F_X3_goOn) f0 g19 (by decide)
      have s19 := Qa19 _ _ hg1 hg1
      show EvP _ _ _ (79, [(2, .int 1), (1, .int 1), (0, .ref 84)], [], h19) _
      refine te_iload_n (p2 := 80) rfl rfl rfl ?_
      refine te_iconst (p2 := 81) (x := 1) rfl rfl (by decide) ?_
      refine te_iadd (p2 := 82) (z := 2) rfl rfl (by decide) ?_
      refine te_istore_n (p2 := 83) (lv2 := [(3, .int 2), (2, .int 1), (1, .int 1), (0, .ref 84)]) rfl rfl (by decide) rfl ?_
      refine te_aload_n (p2 := 84) rfl rfl rfl ?_
      refine tg_e (p2 := 87) (i := 68) (v := .int 3) rfl rfl I19 rfl rfl ((g19 _ _ (by decide)).trans pr0) ?_
      refine te_iconst (p2 := 88) (x := 1) rfl rfl (by decide) ?_
      refine te_isub (p2 := 89) (z := 2) rfl rfl (by decide) ?_
      refine te_istore (p2 := 91) (lv2 := [(4, .int 2), (3, .int 2), (2, .int 1), (1, .int 1), (0, .ref 84)]) rfl rfl (by decide) rfl ?_
      refine te_iload_n (p2 := 92) rfl rfl rfl ?_
      refine te_iload (p2 := 94) rfl rfl rfl ?_
      refine tb_ge (p2 := 97) rfl rfl (show Int32.toInt 2 = 2 from rfl) (show Int32.toInt 2 = 2 from rfl) (fun c22 => ?_) (fun c22 => absurd c22 (by omega))
      refine te_iconst (p2 := 114) (x := 1) rfl rfl (by decide) ?_
      exact te_zret rfl rfl (by decide) ⟨I19, f19, _, rfl, Or.inr ⟨rfl, (by rw [pq_xe3, on6_3, (pq_of (k := 0) hg0 : pq_n h 70 0 = g0.toInt.toNat), (pq_of (k := 1) hg1 : pq_n h 70 1 = g1.toInt.toNat), (pq_of (k := 2) hg2 : pq_n h 70 2 = g2.toInt.toNat), (pq_of (k := 0) ((Qb19 (Int32.toInt 0).toNat (by decide) (by decide)).trans hg0) : pq_n h19 70 0 = g0.toInt.toNat), (pq_of (k := 1) s19.2 : pq_n h19 70 1 = g1.toInt.toNat), (pq_of (k := 2) ((Qb19 (Int32.toInt 2).toNat (by decide) (by decide)).trans hg2) : pq_n h19 70 2 = g2.toInt.toNat)]; unfold pq_x3; rw [if_neg (by omega), if_pos (by omega)])⟩⟩
  · refine te_iinc (p2 := 31) (x := 1) (y := 0) (lv2 := [(1, .int 0), (0, .ref 84)]) rfl rfl (by decide) rfl (by decide) rfl ?_
    refine te_goto rfl ?_
    refine te_iload_n (p2 := 8) rfl rfl rfl ?_
    refine tz_lt (p2 := 11) rfl rfl (show Int32.toInt 0 = 0 from rfl) (fun c24 => absurd c24 (by omega)) (fun c24 => ?_)
    refine te_aload_n (p2 := 12) rfl rfl rfl ?_
    refine tg_r (p2 := 15) (i := 68) (r := 86) rfl rfl hI rfl rfl rfl ?_
    refine te_iload_n (p2 := 16) rfl rfl rfl ?_
    refine tl_e (p2 := 17) (i := 70) (n := 6) (t := 0) (Or.inl rfl) rfl rfl hI rfl rfl (by decide) (by decide) hg0 ?_
    refine te_aload_n (p2 := 18) rfl rfl rfl ?_
    refine tg_r (p2 := 21) (i := 68) (r := 86) rfl rfl hI rfl rfl rfl ?_
    refine te_iload_n (p2 := 22) rfl rfl rfl ?_
    refine te_iconst (p2 := 23) (x := 1) rfl rfl (by decide) ?_
    refine te_iadd (p2 := 24) (z := 1) rfl rfl (by decide) ?_
    refine tl_e (p2 := 25) (i := 70) (n := 6) (t := 0) (Or.inl rfl) rfl rfl hI rfl rfl (by decide) (by decide) hg1 ?_
    refine tb_le (p2 := 28) rfl rfl rfl rfl (fun c28 => ?_) (fun c28 => ?_)
    · refine te_iload_n (p2 := 35) rfl rfl rfl ?_
      refine tz_ge (p2 := 38) rfl rfl (show Int32.toInt 0 = 0 from rfl) (fun c29 => ?_) (fun c29 => absurd c29 (by omega))
      refine te_aload_n (p2 := 41) rfl rfl rfl ?_
      refine tg_e (p2 := 44) (i := 68) (v := .int 3) rfl rfl hI rfl rfl pr0 ?_
      refine te_iconst (p2 := 45) (x := 1) rfl rfl (by decide) ?_
      refine te_isub (p2 := 46) (z := 2) rfl rfl (by decide) ?_
      refine te_istore_n (p2 := 47) (lv2 := [(2, .int 2), (1, .int 0), (0, .ref 84)]) rfl rfl (by decide) rfl ?_
      refine te_iload_n (p2 := 48) rfl rfl rfl ?_
      refine te_iload_n (p2 := 49) rfl rfl rfl ?_
      refine tb_le (p2 := 52) rfl rfl (show Int32.toInt 2 = 2 from rfl) (show Int32.toInt 0 = 0 from rfl) (fun c31 => absurd c31 (by omega)) (fun c31 => ?_)
      refine te_aload_n (p2 := 53) rfl rfl rfl ?_
      refine tg_r (p2 := 56) (i := 68) (r := 86) rfl rfl hI rfl rfl rfl ?_
      refine te_iload_n (p2 := 57) rfl rfl rfl ?_
      refine tl_e (p2 := 58) (i := 70) (n := 6) (t := 0) (Or.inl rfl) rfl rfl hI rfl rfl (by decide) (by decide) hg2 ?_
      refine te_aload_n (p2 := 59) rfl rfl rfl ?_
      refine tg_r (p2 := 62) (i := 68) (r := 86) rfl rfl hI rfl rfl rfl ?_
      refine te_iload_n (p2 := 63) rfl rfl rfl ?_
      refine tl_e (p2 := 64) (i := 70) (n := 6) (t := 0) (Or.inl rfl) rfl rfl hI rfl rfl (by decide) (by decide) hg0 ?_
      refine tb_ge (p2 := 67) rfl rfl rfl rfl (fun c34 => ?_) (fun c34 => ?_)
      · refine te_aload_n (p2 := 74) rfl rfl rfl ?_
        refine te_iload_n (p2 := 75) rfl rfl rfl ?_
        refine te_iload_n (p2 := 76) rfl rfl rfl ?_
        refine tc_V (p2 := 79) (i := 68) rfl rfl rfl rfl hI rfl rfl rfl (c_X3_swap (i := 0) (j := 2) hI (by decide) (by decide) (by decide) (by decide)) (by decide) (fun v35 h35 hq35 => ?_)
        obtain ⟨I35, g35, w35, Qa35, Qb35⟩ := hq35
        subst w35
        have f35 := fr_tr (F1 := F_X3_swap) (F := F_X3_goOn) f0 g35 (by decide)
        have s35 := Qa35 _ _ hg0 hg2
        show EvP _ _ _ (79, [(2, .int 2), (1, .int 0), (0, .ref 84)], [], h35) _
        refine te_iload_n (p2 := 80) rfl rfl rfl ?_
        refine te_iconst (p2 := 81) (x := 1) rfl rfl (by decide) ?_
        refine te_iadd (p2 := 82) (z := 1) rfl rfl (by decide) ?_
        refine te_istore_n (p2 := 83) (lv2 := [(3, .int 1), (2, .int 2), (1, .int 0), (0, .ref 84)]) rfl rfl (by decide) rfl ?_
        refine te_aload_n (p2 := 84) rfl rfl rfl ?_
        refine tg_e (p2 := 87) (i := 68) (v := .int 3) rfl rfl I35 rfl rfl ((g35 _ _ (by decide)).trans pr0) ?_
        refine te_iconst (p2 := 88) (x := 1) rfl rfl (by decide) ?_
        refine te_isub (p2 := 89) (z := 2) rfl rfl (by decide) ?_
        refine te_istore (p2 := 91) (lv2 := [(4, .int 2), (3, .int 1), (2, .int 2), (1, .int 0), (0, .ref 84)]) rfl rfl (by decide) rfl ?_
        refine te_iload_n (p2 := 92) rfl rfl rfl ?_
        refine te_iload (p2 := 94) rfl rfl rfl ?_
        refine tb_ge (p2 := 97) rfl rfl (show Int32.toInt 1 = 1 from rfl) (show Int32.toInt 2 = 2 from rfl) (fun c38 => absurd c38 (by omega)) (fun c38 => ?_)
        refine te_aload_n (p2 := 98) rfl rfl rfl ?_
        refine te_iload_n (p2 := 99) rfl rfl rfl ?_
        refine te_iload (p2 := 101) rfl rfl rfl ?_
        refine tc_V (p2 := 104) (i := 68) rfl rfl rfl rfl I35 rfl rfl rfl (c_X3_swap (i := 1) (j := 2) I35 (by decide) (by decide) (by decide) (by decide)) (by decide) (fun v39 h39 hq39 => ?_)
        obtain ⟨I39, g39, w39, Qa39, Qb39⟩ := hq39
        subst w39
        have f39 := fr_tr (F1 := F_X3_swap) (F := F_X3_goOn) f35 g39 (by decide)
        have s39 := Qa39 _ _ ((Qb35 (Int32.toInt 1).toNat (by decide) (by decide)).trans hg1) s35.2
        show EvP _ _ _ (104, [(4, .int 2), (3, .int 1), (2, .int 2), (1, .int 0), (0, .ref 84)], [], h39) _
        refine te_iinc (p2 := 107) (x := 1) (y := 2) (lv2 := [(3, .int 2), (4, .int 2), (2, .int 2), (1, .int 0), (0, .ref 84)]) rfl rfl (by decide) rfl (by decide) rfl ?_
        refine te_iinc (p2 := 110) (x := 2) (y := 1) (lv2 := [(4, .int 1), (3, .int 2), (2, .int 2), (1, .int 0), (0, .ref 84)]) rfl rfl (by decide) rfl (by decide) rfl ?_
        refine te_goto rfl ?_
        refine te_iload_n (p2 := 92) rfl rfl rfl ?_
        refine te_iload (p2 := 94) rfl rfl rfl ?_
        refine tb_ge (p2 := 97) rfl rfl (show Int32.toInt 2 = 2 from rfl) (show Int32.toInt 1 = 1 from rfl) (fun c42 => ?_) (fun c42 => absurd c42 (by omega))
        refine te_iconst (p2 := 114) (x := 1) rfl rfl (by decide) ?_
        exact te_zret rfl rfl (by decide) ⟨I39, f39, _, rfl, Or.inr ⟨rfl, (by rw [pq_xe3, on6_3, (pq_of (k := 0) hg0 : pq_n h 70 0 = g0.toInt.toNat), (pq_of (k := 1) hg1 : pq_n h 70 1 = g1.toInt.toNat), (pq_of (k := 2) hg2 : pq_n h 70 2 = g2.toInt.toNat), (pq_of (k := 0) ((Qb39 (Int32.toInt 0).toNat (by decide) (by decide)).trans s35.1) : pq_n h39 70 0 = g2.toInt.toNat), (pq_of (k := 1) s39.1 : pq_n h39 70 1 = g0.toInt.toNat), (pq_of (k := 2) s39.2 : pq_n h39 70 2 = g1.toInt.toNat)]; unfold pq_x3; rw [if_pos (by omega), if_neg (by omega), if_neg (by omega)])⟩⟩
      · refine te_iinc (p2 := 70) (x := 2) (y := 1) (lv2 := [(2, .int 1), (1, .int 0), (0, .ref 84)]) rfl rfl (by decide) rfl (by decide) rfl ?_
        refine te_goto rfl ?_
        refine te_iload_n (p2 := 48) rfl rfl rfl ?_
        refine te_iload_n (p2 := 49) rfl rfl rfl ?_
        refine tb_le (p2 := 52) rfl rfl (show Int32.toInt 1 = 1 from rfl) (show Int32.toInt 0 = 0 from rfl) (fun c44 => absurd c44 (by omega)) (fun c44 => ?_)
        refine te_aload_n (p2 := 53) rfl rfl rfl ?_
        refine tg_r (p2 := 56) (i := 68) (r := 86) rfl rfl hI rfl rfl rfl ?_
        refine te_iload_n (p2 := 57) rfl rfl rfl ?_
        refine tl_e (p2 := 58) (i := 70) (n := 6) (t := 0) (Or.inl rfl) rfl rfl hI rfl rfl (by decide) (by decide) hg1 ?_
        refine te_aload_n (p2 := 59) rfl rfl rfl ?_
        refine tg_r (p2 := 62) (i := 68) (r := 86) rfl rfl hI rfl rfl rfl ?_
        refine te_iload_n (p2 := 63) rfl rfl rfl ?_
        refine tl_e (p2 := 64) (i := 70) (n := 6) (t := 0) (Or.inl rfl) rfl rfl hI rfl rfl (by decide) (by decide) hg0 ?_
        refine tb_ge (p2 := 67) rfl rfl rfl rfl (fun c47 => ?_) (fun c47 => ?_)
        · refine te_aload_n (p2 := 74) rfl rfl rfl ?_
          refine te_iload_n (p2 := 75) rfl rfl rfl ?_
          refine te_iload_n (p2 := 76) rfl rfl rfl ?_
          refine tc_V (p2 := 79) (i := 68) rfl rfl rfl rfl hI rfl rfl rfl (c_X3_swap (i := 0) (j := 1) hI (by decide) (by decide) (by decide) (by decide)) (by decide) (fun v48 h48 hq48 => ?_)
          obtain ⟨I48, g48, w48, Qa48, Qb48⟩ := hq48
          subst w48
          have f48 := fr_tr (F1 := F_X3_swap) (F := F_X3_goOn) f0 g48 (by decide)
          have s48 := Qa48 _ _ hg0 hg1
          show EvP _ _ _ (79, [(2, .int 1), (1, .int 0), (0, .ref 84)], [], h48) _
          refine te_iload_n (p2 := 80) rfl rfl rfl ?_
          refine te_iconst (p2 := 81) (x := 1) rfl rfl (by decide) ?_
          refine te_iadd (p2 := 82) (z := 1) rfl rfl (by decide) ?_
          refine te_istore_n (p2 := 83) (lv2 := [(3, .int 1), (2, .int 1), (1, .int 0), (0, .ref 84)]) rfl rfl (by decide) rfl ?_
          refine te_aload_n (p2 := 84) rfl rfl rfl ?_
          refine tg_e (p2 := 87) (i := 68) (v := .int 3) rfl rfl I48 rfl rfl ((g48 _ _ (by decide)).trans pr0) ?_
          refine te_iconst (p2 := 88) (x := 1) rfl rfl (by decide) ?_
          refine te_isub (p2 := 89) (z := 2) rfl rfl (by decide) ?_
          refine te_istore (p2 := 91) (lv2 := [(4, .int 2), (3, .int 1), (2, .int 1), (1, .int 0), (0, .ref 84)]) rfl rfl (by decide) rfl ?_
          refine te_iload_n (p2 := 92) rfl rfl rfl ?_
          refine te_iload (p2 := 94) rfl rfl rfl ?_
          refine tb_ge (p2 := 97) rfl rfl (show Int32.toInt 1 = 1 from rfl) (show Int32.toInt 2 = 2 from rfl) (fun c51 => absurd c51 (by omega)) (fun c51 => ?_)
          refine te_aload_n (p2 := 98) rfl rfl rfl ?_
          refine te_iload_n (p2 := 99) rfl rfl rfl ?_
          refine te_iload (p2 := 101) rfl rfl rfl ?_
          refine tc_V (p2 := 104) (i := 68) rfl rfl rfl rfl I48 rfl rfl rfl (c_X3_swap (i := 1) (j := 2) I48 (by decide) (by decide) (by decide) (by decide)) (by decide) (fun v52 h52 hq52 => ?_)
          obtain ⟨I52, g52, w52, Qa52, Qb52⟩ := hq52
          subst w52
          have f52 := fr_tr (F1 := F_X3_swap) (F := F_X3_goOn) f48 g52 (by decide)
          have s52 := Qa52 _ _ s48.2 ((Qb48 (Int32.toInt 2).toNat (by decide) (by decide)).trans hg2)
          show EvP _ _ _ (104, [(4, .int 2), (3, .int 1), (2, .int 1), (1, .int 0), (0, .ref 84)], [], h52) _
          refine te_iinc (p2 := 107) (x := 1) (y := 2) (lv2 := [(3, .int 2), (4, .int 2), (2, .int 1), (1, .int 0), (0, .ref 84)]) rfl rfl (by decide) rfl (by decide) rfl ?_
          refine te_iinc (p2 := 110) (x := 2) (y := 1) (lv2 := [(4, .int 1), (3, .int 2), (2, .int 1), (1, .int 0), (0, .ref 84)]) rfl rfl (by decide) rfl (by decide) rfl ?_
          refine te_goto rfl ?_
          refine te_iload_n (p2 := 92) rfl rfl rfl ?_
          refine te_iload (p2 := 94) rfl rfl rfl ?_
          refine tb_ge (p2 := 97) rfl rfl (show Int32.toInt 2 = 2 from rfl) (show Int32.toInt 1 = 1 from rfl) (fun c55 => ?_) (fun c55 => absurd c55 (by omega))
          refine te_iconst (p2 := 114) (x := 1) rfl rfl (by decide) ?_
          exact te_zret rfl rfl (by decide) ⟨I52, f52, _, rfl, Or.inr ⟨rfl, (by rw [pq_xe3, on6_3, (pq_of (k := 0) hg0 : pq_n h 70 0 = g0.toInt.toNat), (pq_of (k := 1) hg1 : pq_n h 70 1 = g1.toInt.toNat), (pq_of (k := 2) hg2 : pq_n h 70 2 = g2.toInt.toNat), (pq_of (k := 0) ((Qb52 (Int32.toInt 0).toNat (by decide) (by decide)).trans s48.1) : pq_n h52 70 0 = g1.toInt.toNat), (pq_of (k := 1) s52.1 : pq_n h52 70 1 = g2.toInt.toNat), (pq_of (k := 2) s52.2 : pq_n h52 70 2 = g0.toInt.toNat)]; unfold pq_x3; rw [if_pos (by omega), if_neg (by omega), if_pos (by omega), if_neg (by omega)])⟩⟩
        · refine te_iinc (p2 := 70) (x := 1) (y := 0) (lv2 := [(2, .int 0), (1, .int 0), (0, .ref 84)]) rfl rfl (by decide) rfl (by decide) rfl ?_
          refine te_goto rfl ?_
          refine te_iload_n (p2 := 48) rfl rfl rfl ?_
          refine te_iload_n (p2 := 49) rfl rfl rfl ?_
          refine tb_le (p2 := 52) rfl rfl (show Int32.toInt 0 = 0 from rfl) (show Int32.toInt 0 = 0 from rfl) (fun c57 => ?_) (fun c57 => absurd c57 (by omega))
          refine te_aload_n (p2 := 74) rfl rfl rfl ?_
          refine te_iload_n (p2 := 75) rfl rfl rfl ?_
          refine te_iload_n (p2 := 76) rfl rfl rfl ?_
          refine tc_V (p2 := 79) (i := 68) rfl rfl rfl rfl hI rfl rfl rfl (c_X3_swap (i := 0) (j := 0) hI (by decide) (by decide) (by decide) (by decide)) (by decide) (fun v58 h58 hq58 => ?_)
          obtain ⟨I58, g58, w58, Qa58, Qb58⟩ := hq58
          subst w58
          have f58 := fr_tr (F1 := F_X3_swap) (F := F_X3_goOn) f0 g58 (by decide)
          have s58 := Qa58 _ _ hg0 hg0
          show EvP _ _ _ (79, [(2, .int 0), (1, .int 0), (0, .ref 84)], [], h58) _
          refine te_iload_n (p2 := 80) rfl rfl rfl ?_
          refine te_iconst (p2 := 81) (x := 1) rfl rfl (by decide) ?_
          refine te_iadd (p2 := 82) (z := 1) rfl rfl (by decide) ?_
          refine te_istore_n (p2 := 83) (lv2 := [(3, .int 1), (2, .int 0), (1, .int 0), (0, .ref 84)]) rfl rfl (by decide) rfl ?_
          refine te_aload_n (p2 := 84) rfl rfl rfl ?_
          refine tg_e (p2 := 87) (i := 68) (v := .int 3) rfl rfl I58 rfl rfl ((g58 _ _ (by decide)).trans pr0) ?_
          refine te_iconst (p2 := 88) (x := 1) rfl rfl (by decide) ?_
          refine te_isub (p2 := 89) (z := 2) rfl rfl (by decide) ?_
          refine te_istore (p2 := 91) (lv2 := [(4, .int 2), (3, .int 1), (2, .int 0), (1, .int 0), (0, .ref 84)]) rfl rfl (by decide) rfl ?_
          refine te_iload_n (p2 := 92) rfl rfl rfl ?_
          refine te_iload (p2 := 94) rfl rfl rfl ?_
          refine tb_ge (p2 := 97) rfl rfl (show Int32.toInt 1 = 1 from rfl) (show Int32.toInt 2 = 2 from rfl) (fun c61 => absurd c61 (by omega)) (fun c61 => ?_)
          refine te_aload_n (p2 := 98) rfl rfl rfl ?_
          refine te_iload_n (p2 := 99) rfl rfl rfl ?_
          refine te_iload (p2 := 101) rfl rfl rfl ?_
          refine tc_V (p2 := 104) (i := 68) rfl rfl rfl rfl I58 rfl rfl rfl (c_X3_swap (i := 1) (j := 2) I58 (by decide) (by decide) (by decide) (by decide)) (by decide) (fun v62 h62 hq62 => ?_)
          obtain ⟨I62, g62, w62, Qa62, Qb62⟩ := hq62
          subst w62
          have f62 := fr_tr (F1 := F_X3_swap) (F := F_X3_goOn) f58 g62 (by decide)
          have s62 := Qa62 _ _ ((Qb58 (Int32.toInt 1).toNat (by decide) (by decide)).trans hg1) ((Qb58 (Int32.toInt 2).toNat (by decide) (by decide)).trans hg2)
          show EvP _ _ _ (104, [(4, .int 2), (3, .int 1), (2, .int 0), (1, .int 0), (0, .ref 84)], [], h62) _
          refine te_iinc (p2 := 107) (x := 1) (y := 2) (lv2 := [(3, .int 2), (4, .int 2), (2, .int 0), (1, .int 0), (0, .ref 84)]) rfl rfl (by decide) rfl (by decide) rfl ?_
          refine te_iinc (p2 := 110) (x := 2) (y := 1) (lv2 := [(4, .int 1), (3, .int 2), (2, .int 0), (1, .int 0), (0, .ref 84)]) rfl rfl (by decide) rfl (by decide) rfl ?_
          refine te_goto rfl ?_
          refine te_iload_n (p2 := 92) rfl rfl rfl ?_
          refine te_iload (p2 := 94) rfl rfl rfl ?_
          refine tb_ge (p2 := 97) rfl rfl (show Int32.toInt 2 = 2 from rfl) (show Int32.toInt 1 = 1 from rfl) (fun c65 => ?_) (fun c65 => absurd c65 (by omega))
          refine te_iconst (p2 := 114) (x := 1) rfl rfl (by decide) ?_
          exact te_zret rfl rfl (by decide) ⟨I62, f62, _, rfl, Or.inr ⟨rfl, (by rw [pq_xe3, on6_3, (pq_of (k := 0) hg0 : pq_n h 70 0 = g0.toInt.toNat), (pq_of (k := 1) hg1 : pq_n h 70 1 = g1.toInt.toNat), (pq_of (k := 2) hg2 : pq_n h 70 2 = g2.toInt.toNat), (pq_of (k := 0) ((Qb62 (Int32.toInt 0).toNat (by decide) (by decide)).trans s58.2) : pq_n h62 70 0 = g0.toInt.toNat), (pq_of (k := 1) s62.1 : pq_n h62 70 1 = g2.toInt.toNat), (pq_of (k := 2) s62.2 : pq_n h62 70 2 = g1.toInt.toNat)]; unfold pq_x3; rw [if_pos (by omega), if_neg (by omega), if_pos (by omega), if_pos (by omega)])⟩⟩
    · refine te_iinc (p2 := 31) (x := 0) (y := (-1)) (lv2 := [(1, .int (-1)), (0, .ref 84)]) rfl rfl (by decide) rfl (by decide) rfl ?_
      refine te_goto rfl ?_
      refine te_iload_n (p2 := 8) rfl rfl rfl ?_
      refine tz_lt (p2 := 11) rfl rfl (show Int32.toInt (-1) = (-1) from rfl) (fun c67 => ?_) (fun c67 => absurd c67 (by omega))
      refine te_iload_n (p2 := 35) rfl rfl rfl ?_
      refine tz_ge (p2 := 38) rfl rfl (show Int32.toInt (-1) = (-1) from rfl) (fun c68 => absurd c68 (by omega)) (fun c68 => ?_)
      refine te_iconst (p2 := 39) (x := 0) rfl rfl (by decide) ?_
      exact te_zret rfl rfl (by decide) ⟨hI, f0, _, rfl, Or.inl ⟨rfl, (by rw [pq_xe3, (pq_of (k := 0) hg0 : pq_n h 70 0 = g0.toInt.toNat), (pq_of (k := 1) hg1 : pq_n h 70 1 = g1.toInt.toNat), (pq_of (k := 2) hg2 : pq_n h 70 2 = g2.toInt.toNat)]; unfold pq_x3; rw [if_pos (by omega), if_pos (by omega)])⟩⟩
set_option maxRecDepth 20000 in
set_option maxHeartbeats 4000000 in
theorem c_X3_goOn_4 {g0 : Int32} {g1 : Int32} {g2 : Int32} {g3 : Int32} {g4 : Int32} {g5 : Int32} {h : im_H} (hI : tI h) (hg0 : rd h 70 (Int32.toInt 0).toNat = some (.int g0)) (ga0 : 0 ≤ g0.toInt) (gb0 : g0.toInt ≤ 5) (hg1 : rd h 70 (Int32.toInt 1).toNat = some (.int g1)) (ga1 : 0 ≤ g1.toInt) (gb1 : g1.toInt ≤ 5) (hg2 : rd h 70 (Int32.toInt 2).toNat = some (.int g2)) (ga2 : 0 ≤ g2.toInt) (gb2 : g2.toInt ≤ 5) (hg3 : rd h 70 (Int32.toInt 3).toNat = some (.int g3)) (ga3 : 0 ≤ g3.toInt) (gb3 : g3.toInt ≤ 5) (hg4 : rd h 70 (Int32.toInt 4).toNat = some (.int g4)) (ga4 : 0 ≤ g4.toInt) (gb4 : g4.toInt ≤ 5) (hg5 : rd h 70 (Int32.toInt 5).toNat = some (.int g5)) (ga5 : 0 ≤ g5.toInt) (gb5 : g5.toInt ≤ 5) (pr0 : rd h 68 0 = some (.int 4)) : CaP 2 26 [.ref 84] h (fun v h2 => tI h2 ∧ fr F_X3_goOn h h2 ∧ ∃ y : Int32, v = some (.int y) ∧ ((y = 0 ∧ pq_x 4 (on6 4 (pq_n h 70)) = none) ∨ (y = 1 ∧ pq_x 4 (on6 4 (pq_n h 70)) = some (on6 4 (pq_n h2 70))))) := by
  refine cap_of (d := 1) (M := mX3_goOn) rfl (Nat.le_of_ble_eq_true rfl) ?_
  show EvP im_K0 1 mX3_goOn (0, [(0, .ref 84)], [], h) _
  have f0 : fr F_X3_goOn h h := fr_rf
  refine te_aload_n (p2 := 1) rfl rfl rfl ?_
  refine tg_e (p2 := 4) (i := 68) (v := .int 4) rfl rfl hI rfl rfl pr0 ?_
  refine te_iconst (p2 := 5) (x := 2) rfl rfl (by decide) ?_
  refine te_isub (p2 := 6) (z := 2) rfl rfl (by decide) ?_
  refine te_istore_n (p2 := 7) (lv2 := [(1, .int 2), (0, .ref 84)]) rfl rfl (by decide) rfl ?_
  refine te_iload_n (p2 := 8) rfl rfl rfl ?_
  refine tz_lt (p2 := 11) rfl rfl (show Int32.toInt 2 = 2 from rfl) (fun c2 => absurd c2 (by omega)) (fun c2 => ?_)
  refine te_aload_n (p2 := 12) rfl rfl rfl ?_
  refine tg_r (p2 := 15) (i := 68) (r := 86) rfl rfl hI rfl rfl rfl ?_
  refine te_iload_n (p2 := 16) rfl rfl rfl ?_
  refine tl_e (p2 := 17) (i := 70) (n := 6) (t := 0) (Or.inl rfl) rfl rfl hI rfl rfl (by decide) (by decide) hg2 ?_
  refine te_aload_n (p2 := 18) rfl rfl rfl ?_
  refine tg_r (p2 := 21) (i := 68) (r := 86) rfl rfl hI rfl rfl rfl ?_
  refine te_iload_n (p2 := 22) rfl rfl rfl ?_
  refine te_iconst (p2 := 23) (x := 1) rfl rfl (by decide) ?_
  refine te_iadd (p2 := 24) (z := 3) rfl rfl (by decide) ?_
  refine tl_e (p2 := 25) (i := 70) (n := 6) (t := 0) (Or.inl rfl) rfl rfl hI rfl rfl (by decide) (by decide) hg3 ?_
  refine tb_le (p2 := 28) rfl rfl rfl rfl (fun c6 => ?_) (fun c6 => ?_)
  · refine te_iload_n (p2 := 35) rfl rfl rfl ?_
    refine tz_ge (p2 := 38) rfl rfl (show Int32.toInt 2 = 2 from rfl) (fun c7 => ?_) (fun c7 => absurd c7 (by omega))
    refine te_aload_n (p2 := 41) rfl rfl rfl ?_
    refine tg_e (p2 := 44) (i := 68) (v := .int 4) rfl rfl hI rfl rfl pr0 ?_
    refine te_iconst (p2 := 45) (x := 1) rfl rfl (by decide) ?_
    refine te_isub (p2 := 46) (z := 3) rfl rfl (by decide) ?_
    refine te_istore_n (p2 := 47) (lv2 := [(2, .int 3), (1, .int 2), (0, .ref 84)]) rfl rfl (by decide) rfl ?_
    refine te_iload_n (p2 := 48) rfl rfl rfl ?_
    refine te_iload_n (p2 := 49) rfl rfl rfl ?_
    refine tb_le (p2 := 52) rfl rfl (show Int32.toInt 3 = 3 from rfl) (show Int32.toInt 2 = 2 from rfl) (fun c9 => absurd c9 (by omega)) (fun c9 => ?_)
    refine te_aload_n (p2 := 53) rfl rfl rfl ?_
    refine tg_r (p2 := 56) (i := 68) (r := 86) rfl rfl hI rfl rfl rfl ?_
    refine te_iload_n (p2 := 57) rfl rfl rfl ?_
    refine tl_e (p2 := 58) (i := 70) (n := 6) (t := 0) (Or.inl rfl) rfl rfl hI rfl rfl (by decide) (by decide) hg3 ?_
    refine te_aload_n (p2 := 59) rfl rfl rfl ?_
    refine tg_r (p2 := 62) (i := 68) (r := 86) rfl rfl hI rfl rfl rfl ?_
    refine te_iload_n (p2 := 63) rfl rfl rfl ?_
    refine tl_e (p2 := 64) (i := 70) (n := 6) (t := 0) (Or.inl rfl) rfl rfl hI rfl rfl (by decide) (by decide) hg2 ?_
    refine tb_ge (p2 := 67) rfl rfl rfl rfl (fun c12 => ?_) (fun c12 => ?_)
    · refine te_aload_n (p2 := 74) rfl rfl rfl ?_
      refine te_iload_n (p2 := 75) rfl rfl rfl ?_
      refine te_iload_n (p2 := 76) rfl rfl rfl ?_
      refine tc_V (p2 := 79) (i := 68) rfl rfl rfl rfl hI rfl rfl rfl (c_X3_swap (i := 2) (j := 3) hI (by decide) (by decide) (by decide) (by decide)) (by decide) (fun v13 h13 hq13 => ?_)
      obtain ⟨I13, g13, w13, Qa13, Qb13⟩ := hq13
      subst w13
      have f13 := fr_tr (F1 := F_X3_swap) (F := F_X3_goOn) f0 g13 (by decide)
      have s13 := Qa13 _ _ hg2 hg3
      show EvP _ _ _ (79, [(2, .int 3), (1, .int 2), (0, .ref 84)], [], h13) _
      refine te_iload_n (p2 := 80) rfl rfl rfl ?_
      refine te_iconst (p2 := 81) (x := 1) rfl rfl (by decide) ?_
      refine te_iadd (p2 := 82) (z := 3) rfl rfl (by decide) ?_
      refine te_istore_n (p2 := 83) (lv2 := [(3, .int 3), (2, .int 3), (1, .int 2), (0, .ref 84)]) rfl rfl (by decide) rfl ?_
      refine te_aload_n (p2 := 84) rfl rfl rfl ?_
      refine tg_e (p2 := 87) (i := 68) (v := .int 4) rfl rfl I13 rfl rfl ((g13 _ _ (by decide)).trans pr0) ?_
      refine te_iconst (p2 := 88) (x := 1) rfl rfl (by decide) ?_
      refine te_isub (p2 := 89) (z := 3) rfl rfl (by decide) ?_
      refine te_istore (p2 := 91) (lv2 := [(4, .int 3), (3, .int 3), (2, .int 3), (1, .int 2), (0, .ref 84)]) rfl rfl (by decide) rfl ?_
      refine te_iload_n (p2 := 92) rfl rfl rfl ?_
      refine te_iload (p2 := 94) rfl rfl rfl ?_
      refine tb_ge (p2 := 97) rfl rfl (show Int32.toInt 3 = 3 from rfl) (show Int32.toInt 3 = 3 from rfl) (fun c16 => ?_) (fun c16 => absurd c16 (by omega))
      refine te_iconst (p2 := 114) (x := 1) rfl rfl (by decide) ?_
      exact te_zret rfl rfl (by decide) ⟨I13, f13, _, rfl, Or.inr ⟨rfl, (by rw [pq_xe4, on6_4, (pq_of (k := 0) hg0 : pq_n h 70 0 = g0.toInt.toNat), (pq_of (k := 1) hg1 : pq_n h 70 1 = g1.toInt.toNat), (pq_of (k := 2) hg2 : pq_n h 70 2 = g2.toInt.toNat), (pq_of (k := 3) hg3 : pq_n h 70 3 = g3.toInt.toNat), (pq_of (k := 0) ((Qb13 (Int32.toInt 0).toNat (by decide) (by decide)).trans hg0) : pq_n h13 70 0 = g0.toInt.toNat), (pq_of (k := 1) ((Qb13 (Int32.toInt 1).toNat (by decide) (by decide)).trans hg1) : pq_n h13 70 1 = g1.toInt.toNat), (pq_of (k := 2) s13.1 : pq_n h13 70 2 = g3.toInt.toNat), (pq_of (k := 3) s13.2 : pq_n h13 70 3 = g2.toInt.toNat)]; unfold pq_x4; rw [if_neg (by omega), if_neg (by omega)])⟩⟩
    · refine te_iinc (p2 := 70) (x := 3) (y := 2) (lv2 := [(2, .int 2), (1, .int 2), (0, .ref 84)]) rfl rfl (by decide) rfl (by decide) rfl ?_
      refine te_goto rfl ?_
      refine te_iload_n (p2 := 48) rfl rfl rfl ?_
      refine te_iload_n (p2 := 49) rfl rfl rfl ?_
      refine tb_le (p2 := 52) rfl rfl (show Int32.toInt 2 = 2 from rfl) (show Int32.toInt 2 = 2 from rfl) (fun c18 => ?_) (fun c18 => absurd c18 (by omega))
      refine te_aload_n (p2 := 74) rfl rfl rfl ?_
      refine te_iload_n (p2 := 75) rfl rfl rfl ?_
      refine te_iload_n (p2 := 76) rfl rfl rfl ?_
      refine tc_V (p2 := 79) (i := 68) rfl rfl rfl rfl hI rfl rfl rfl (c_X3_swap (i := 2) (j := 2) hI (by decide) (by decide) (by decide) (by decide)) (by decide) (fun v19 h19 hq19 => ?_)
      obtain ⟨I19, g19, w19, Qa19, Qb19⟩ := hq19
      subst w19
      have f19 := fr_tr (F1 := F_X3_swap) (F := F_X3_goOn) f0 g19 (by decide)
      have s19 := Qa19 _ _ hg2 hg2
      show EvP _ _ _ (79, [(2, .int 2), (1, .int 2), (0, .ref 84)], [], h19) _
      refine te_iload_n (p2 := 80) rfl rfl rfl ?_
      refine te_iconst (p2 := 81) (x := 1) rfl rfl (by decide) ?_
      refine te_iadd (p2 := 82) (z := 3) rfl rfl (by decide) ?_
      refine te_istore_n (p2 := 83) (lv2 := [(3, .int 3), (2, .int 2), (1, .int 2), (0, .ref 84)]) rfl rfl (by decide) rfl ?_
      refine te_aload_n (p2 := 84) rfl rfl rfl ?_
      refine tg_e (p2 := 87) (i := 68) (v := .int 4) rfl rfl I19 rfl rfl ((g19 _ _ (by decide)).trans pr0) ?_
      refine te_iconst (p2 := 88) (x := 1) rfl rfl (by decide) ?_
      refine te_isub (p2 := 89) (z := 3) rfl rfl (by decide) ?_
      refine te_istore (p2 := 91) (lv2 := [(4, .int 3), (3, .int 3), (2, .int 2), (1, .int 2), (0, .ref 84)]) rfl rfl (by decide) rfl ?_
      refine te_iload_n (p2 := 92) rfl rfl rfl ?_
      refine te_iload (p2 := 94) rfl rfl rfl ?_
      refine tb_ge (p2 := 97) rfl rfl (show Int32.toInt 3 = 3 from rfl) (show Int32.toInt 3 = 3 from rfl) (fun c22 => ?_) (fun c22 => absurd c22 (by omega))
      refine te_iconst (p2 := 114) (x := 1) rfl rfl (by decide) ?_
      exact te_zret rfl rfl (by decide) ⟨I19, f19, _, rfl, Or.inr ⟨rfl, (by rw [pq_xe4, on6_4, (pq_of (k := 0) hg0 : pq_n h 70 0 = g0.toInt.toNat), (pq_of (k := 1) hg1 : pq_n h 70 1 = g1.toInt.toNat), (pq_of (k := 2) hg2 : pq_n h 70 2 = g2.toInt.toNat), (pq_of (k := 3) hg3 : pq_n h 70 3 = g3.toInt.toNat), (pq_of (k := 0) ((Qb19 (Int32.toInt 0).toNat (by decide) (by decide)).trans hg0) : pq_n h19 70 0 = g0.toInt.toNat), (pq_of (k := 1) ((Qb19 (Int32.toInt 1).toNat (by decide) (by decide)).trans hg1) : pq_n h19 70 1 = g1.toInt.toNat), (pq_of (k := 2) s19.2 : pq_n h19 70 2 = g2.toInt.toNat), (pq_of (k := 3) ((Qb19 (Int32.toInt 3).toNat (by decide) (by decide)).trans hg3) : pq_n h19 70 3 = g3.toInt.toNat)]; unfold pq_x4; rw [if_neg (by omega), if_pos (by omega)])⟩⟩
  · refine te_iinc (p2 := 31) (x := 2) (y := 1) (lv2 := [(1, .int 1), (0, .ref 84)]) rfl rfl (by decide) rfl (by decide) rfl ?_
    refine te_goto rfl ?_
    refine te_iload_n (p2 := 8) rfl rfl rfl ?_
    refine tz_lt (p2 := 11) rfl rfl (show Int32.toInt 1 = 1 from rfl) (fun c24 => absurd c24 (by omega)) (fun c24 => ?_)
    refine te_aload_n (p2 := 12) rfl rfl rfl ?_
    refine tg_r (p2 := 15) (i := 68) (r := 86) rfl rfl hI rfl rfl rfl ?_
    refine te_iload_n (p2 := 16) rfl rfl rfl ?_
    refine tl_e (p2 := 17) (i := 70) (n := 6) (t := 0) (Or.inl rfl) rfl rfl hI rfl rfl (by decide) (by decide) hg1 ?_
    refine te_aload_n (p2 := 18) rfl rfl rfl ?_
    refine tg_r (p2 := 21) (i := 68) (r := 86) rfl rfl hI rfl rfl rfl ?_
    refine te_iload_n (p2 := 22) rfl rfl rfl ?_
    refine te_iconst (p2 := 23) (x := 1) rfl rfl (by decide) ?_
    refine te_iadd (p2 := 24) (z := 2) rfl rfl (by decide) ?_
    refine tl_e (p2 := 25) (i := 70) (n := 6) (t := 0) (Or.inl rfl) rfl rfl hI rfl rfl (by decide) (by decide) hg2 ?_
    refine tb_le (p2 := 28) rfl rfl rfl rfl (fun c28 => ?_) (fun c28 => ?_)
    · refine te_iload_n (p2 := 35) rfl rfl rfl ?_
      refine tz_ge (p2 := 38) rfl rfl (show Int32.toInt 1 = 1 from rfl) (fun c29 => ?_) (fun c29 => absurd c29 (by omega))
      refine te_aload_n (p2 := 41) rfl rfl rfl ?_
      refine tg_e (p2 := 44) (i := 68) (v := .int 4) rfl rfl hI rfl rfl pr0 ?_
      refine te_iconst (p2 := 45) (x := 1) rfl rfl (by decide) ?_
      refine te_isub (p2 := 46) (z := 3) rfl rfl (by decide) ?_
      refine te_istore_n (p2 := 47) (lv2 := [(2, .int 3), (1, .int 1), (0, .ref 84)]) rfl rfl (by decide) rfl ?_
      refine te_iload_n (p2 := 48) rfl rfl rfl ?_
      refine te_iload_n (p2 := 49) rfl rfl rfl ?_
      refine tb_le (p2 := 52) rfl rfl (show Int32.toInt 3 = 3 from rfl) (show Int32.toInt 1 = 1 from rfl) (fun c31 => absurd c31 (by omega)) (fun c31 => ?_)
      refine te_aload_n (p2 := 53) rfl rfl rfl ?_
      refine tg_r (p2 := 56) (i := 68) (r := 86) rfl rfl hI rfl rfl rfl ?_
      refine te_iload_n (p2 := 57) rfl rfl rfl ?_
      refine tl_e (p2 := 58) (i := 70) (n := 6) (t := 0) (Or.inl rfl) rfl rfl hI rfl rfl (by decide) (by decide) hg3 ?_
      refine te_aload_n (p2 := 59) rfl rfl rfl ?_
      refine tg_r (p2 := 62) (i := 68) (r := 86) rfl rfl hI rfl rfl rfl ?_
      refine te_iload_n (p2 := 63) rfl rfl rfl ?_
      refine tl_e (p2 := 64) (i := 70) (n := 6) (t := 0) (Or.inl rfl) rfl rfl hI rfl rfl (by decide) (by decide) hg1 ?_
      refine tb_ge (p2 := 67) rfl rfl rfl rfl (fun c34 => ?_) (fun c34 => ?_)
      · refine te_aload_n (p2 := 74) rfl rfl rfl ?_
        refine te_iload_n (p2 := 75) rfl rfl rfl ?_
        refine te_iload_n (p2 := 76) rfl rfl rfl ?_
        refine tc_V (p2 := 79) (i := 68) rfl rfl rfl rfl hI rfl rfl rfl (c_X3_swap (i := 1) (j := 3) hI (by decide) (by decide) (by decide) (by decide)) (by decide) (fun v35 h35 hq35 => ?_)
        obtain ⟨I35, g35, w35, Qa35, Qb35⟩ := hq35
        subst w35
        have f35 := fr_tr (F1 := F_X3_swap) (F := F_X3_goOn) f0 g35 (by decide)
        have s35 := Qa35 _ _ hg1 hg3
        show EvP _ _ _ (79, [(2, .int 3), (1, .int 1), (0, .ref 84)], [], h35) _
        refine te_iload_n (p2 := 80) rfl rfl rfl ?_
        refine te_iconst (p2 := 81) (x := 1) rfl rfl (by decide) ?_
        refine te_iadd (p2 := 82) (z := 2) rfl rfl (by decide) ?_
        refine te_istore_n (p2 := 83) (lv2 := [(3, .int 2), (2, .int 3), (1, .int 1), (0, .ref 84)]) rfl rfl (by decide) rfl ?_
        refine te_aload_n (p2 := 84) rfl rfl rfl ?_
        refine tg_e (p2 := 87) (i := 68) (v := .int 4) rfl rfl I35 rfl rfl ((g35 _ _ (by decide)).trans pr0) ?_
        refine te_iconst (p2 := 88) (x := 1) rfl rfl (by decide) ?_
        refine te_isub (p2 := 89) (z := 3) rfl rfl (by decide) ?_
        refine te_istore (p2 := 91) (lv2 := [(4, .int 3), (3, .int 2), (2, .int 3), (1, .int 1), (0, .ref 84)]) rfl rfl (by decide) rfl ?_
        refine te_iload_n (p2 := 92) rfl rfl rfl ?_
        refine te_iload (p2 := 94) rfl rfl rfl ?_
        refine tb_ge (p2 := 97) rfl rfl (show Int32.toInt 2 = 2 from rfl) (show Int32.toInt 3 = 3 from rfl) (fun c38 => absurd c38 (by omega)) (fun c38 => ?_)
        refine te_aload_n (p2 := 98) rfl rfl rfl ?_
        refine te_iload_n (p2 := 99) rfl rfl rfl ?_
        refine te_iload (p2 := 101) rfl rfl rfl ?_
        refine tc_V (p2 := 104) (i := 68) rfl rfl rfl rfl I35 rfl rfl rfl (c_X3_swap (i := 2) (j := 3) I35 (by decide) (by decide) (by decide) (by decide)) (by decide) (fun v39 h39 hq39 => ?_)
        obtain ⟨I39, g39, w39, Qa39, Qb39⟩ := hq39
        subst w39
        have f39 := fr_tr (F1 := F_X3_swap) (F := F_X3_goOn) f35 g39 (by decide)
        have s39 := Qa39 _ _ ((Qb35 (Int32.toInt 2).toNat (by decide) (by decide)).trans hg2) s35.2
        show EvP _ _ _ (104, [(4, .int 3), (3, .int 2), (2, .int 3), (1, .int 1), (0, .ref 84)], [], h39) _
        refine te_iinc (p2 := 107) (x := 2) (y := 3) (lv2 := [(3, .int 3), (4, .int 3), (2, .int 3), (1, .int 1), (0, .ref 84)]) rfl rfl (by decide) rfl (by decide) rfl ?_
        refine te_iinc (p2 := 110) (x := 3) (y := 2) (lv2 := [(4, .int 2), (3, .int 3), (2, .int 3), (1, .int 1), (0, .ref 84)]) rfl rfl (by decide) rfl (by decide) rfl ?_
        refine te_goto rfl ?_
        refine te_iload_n (p2 := 92) rfl rfl rfl ?_
        refine te_iload (p2 := 94) rfl rfl rfl ?_
        refine tb_ge (p2 := 97) rfl rfl (show Int32.toInt 3 = 3 from rfl) (show Int32.toInt 2 = 2 from rfl) (fun c42 => ?_) (fun c42 => absurd c42 (by omega))
        refine te_iconst (p2 := 114) (x := 1) rfl rfl (by decide) ?_
        exact te_zret rfl rfl (by decide) ⟨I39, f39, _, rfl, Or.inr ⟨rfl, (by rw [pq_xe4, on6_4, (pq_of (k := 0) hg0 : pq_n h 70 0 = g0.toInt.toNat), (pq_of (k := 1) hg1 : pq_n h 70 1 = g1.toInt.toNat), (pq_of (k := 2) hg2 : pq_n h 70 2 = g2.toInt.toNat), (pq_of (k := 3) hg3 : pq_n h 70 3 = g3.toInt.toNat), (pq_of (k := 0) ((Qb39 (Int32.toInt 0).toNat (by decide) (by decide)).trans ((Qb35 (Int32.toInt 0).toNat (by decide) (by decide)).trans hg0)) : pq_n h39 70 0 = g0.toInt.toNat), (pq_of (k := 1) ((Qb39 (Int32.toInt 1).toNat (by decide) (by decide)).trans s35.1) : pq_n h39 70 1 = g3.toInt.toNat), (pq_of (k := 2) s39.1 : pq_n h39 70 2 = g1.toInt.toNat), (pq_of (k := 3) s39.2 : pq_n h39 70 3 = g2.toInt.toNat)]; unfold pq_x4; rw [if_pos (by omega), if_neg (by omega), if_neg (by omega)])⟩⟩
      · refine te_iinc (p2 := 70) (x := 3) (y := 2) (lv2 := [(2, .int 2), (1, .int 1), (0, .ref 84)]) rfl rfl (by decide) rfl (by decide) rfl ?_
        refine te_goto rfl ?_
        refine te_iload_n (p2 := 48) rfl rfl rfl ?_
        refine te_iload_n (p2 := 49) rfl rfl rfl ?_
        refine tb_le (p2 := 52) rfl rfl (show Int32.toInt 2 = 2 from rfl) (show Int32.toInt 1 = 1 from rfl) (fun c44 => absurd c44 (by omega)) (fun c44 => ?_)
        refine te_aload_n (p2 := 53) rfl rfl rfl ?_
        refine tg_r (p2 := 56) (i := 68) (r := 86) rfl rfl hI rfl rfl rfl ?_
        refine te_iload_n (p2 := 57) rfl rfl rfl ?_
        refine tl_e (p2 := 58) (i := 70) (n := 6) (t := 0) (Or.inl rfl) rfl rfl hI rfl rfl (by decide) (by decide) hg2 ?_
        refine te_aload_n (p2 := 59) rfl rfl rfl ?_
        refine tg_r (p2 := 62) (i := 68) (r := 86) rfl rfl hI rfl rfl rfl ?_
        refine te_iload_n (p2 := 63) rfl rfl rfl ?_
        refine tl_e (p2 := 64) (i := 70) (n := 6) (t := 0) (Or.inl rfl) rfl rfl hI rfl rfl (by decide) (by decide) hg1 ?_
        refine tb_ge (p2 := 67) rfl rfl rfl rfl (fun c47 => ?_) (fun c47 => ?_)
        · refine te_aload_n (p2 := 74) rfl rfl rfl ?_
          refine te_iload_n (p2 := 75) rfl rfl rfl ?_
          refine te_iload_n (p2 := 76) rfl rfl rfl ?_
          refine tc_V (p2 := 79) (i := 68) rfl rfl rfl rfl hI rfl rfl rfl (c_X3_swap (i := 1) (j := 2) hI (by decide) (by decide) (by decide) (by decide)) (by decide) (fun v48 h48 hq48 => ?_)
          obtain ⟨I48, g48, w48, Qa48, Qb48⟩ := hq48
          subst w48
          have f48 := fr_tr (F1 := F_X3_swap) (F := F_X3_goOn) f0 g48 (by decide)
          have s48 := Qa48 _ _ hg1 hg2
          show EvP _ _ _ (79, [(2, .int 2), (1, .int 1), (0, .ref 84)], [], h48) _
          refine te_iload_n (p2 := 80) rfl rfl rfl ?_
          refine te_iconst (p2 := 81) (x := 1) rfl rfl (by decide) ?_
          refine te_iadd (p2 := 82) (z := 2) rfl rfl (by decide) ?_
          refine te_istore_n (p2 := 83) (lv2 := [(3, .int 2), (2, .int 2), (1, .int 1), (0, .ref 84)]) rfl rfl (by decide) rfl ?_
          refine te_aload_n (p2 := 84) rfl rfl rfl ?_
          refine tg_e (p2 := 87) (i := 68) (v := .int 4) rfl rfl I48 rfl rfl ((g48 _ _ (by decide)).trans pr0) ?_
          refine te_iconst (p2 := 88) (x := 1) rfl rfl (by decide) ?_
          refine te_isub (p2 := 89) (z := 3) rfl rfl (by decide) ?_
          refine te_istore (p2 := 91) (lv2 := [(4, .int 3), (3, .int 2), (2, .int 2), (1, .int 1), (0, .ref 84)]) rfl rfl (by decide) rfl ?_
          refine te_iload_n (p2 := 92) rfl rfl rfl ?_
          refine te_iload (p2 := 94) rfl rfl rfl ?_
          refine tb_ge (p2 := 97) rfl rfl (show Int32.toInt 2 = 2 from rfl) (show Int32.toInt 3 = 3 from rfl) (fun c51 => absurd c51 (by omega)) (fun c51 => ?_)
          refine te_aload_n (p2 := 98) rfl rfl rfl ?_
          refine te_iload_n (p2 := 99) rfl rfl rfl ?_
          refine te_iload (p2 := 101) rfl rfl rfl ?_
          refine tc_V (p2 := 104) (i := 68) rfl rfl rfl rfl I48 rfl rfl rfl (c_X3_swap (i := 2) (j := 3) I48 (by decide) (by decide) (by decide) (by decide)) (by decide) (fun v52 h52 hq52 => ?_)
          obtain ⟨I52, g52, w52, Qa52, Qb52⟩ := hq52
          subst w52
          have f52 := fr_tr (F1 := F_X3_swap) (F := F_X3_goOn) f48 g52 (by decide)
          have s52 := Qa52 _ _ s48.2 ((Qb48 (Int32.toInt 3).toNat (by decide) (by decide)).trans hg3)
          show EvP _ _ _ (104, [(4, .int 3), (3, .int 2), (2, .int 2), (1, .int 1), (0, .ref 84)], [], h52) _
          refine te_iinc (p2 := 107) (x := 2) (y := 3) (lv2 := [(3, .int 3), (4, .int 3), (2, .int 2), (1, .int 1), (0, .ref 84)]) rfl rfl (by decide) rfl (by decide) rfl ?_
          refine te_iinc (p2 := 110) (x := 3) (y := 2) (lv2 := [(4, .int 2), (3, .int 3), (2, .int 2), (1, .int 1), (0, .ref 84)]) rfl rfl (by decide) rfl (by decide) rfl ?_
          refine te_goto rfl ?_
          refine te_iload_n (p2 := 92) rfl rfl rfl ?_
          refine te_iload (p2 := 94) rfl rfl rfl ?_
          refine tb_ge (p2 := 97) rfl rfl (show Int32.toInt 3 = 3 from rfl) (show Int32.toInt 2 = 2 from rfl) (fun c55 => ?_) (fun c55 => absurd c55 (by omega))
          refine te_iconst (p2 := 114) (x := 1) rfl rfl (by decide) ?_
          exact te_zret rfl rfl (by decide) ⟨I52, f52, _, rfl, Or.inr ⟨rfl, (by rw [pq_xe4, on6_4, (pq_of (k := 0) hg0 : pq_n h 70 0 = g0.toInt.toNat), (pq_of (k := 1) hg1 : pq_n h 70 1 = g1.toInt.toNat), (pq_of (k := 2) hg2 : pq_n h 70 2 = g2.toInt.toNat), (pq_of (k := 3) hg3 : pq_n h 70 3 = g3.toInt.toNat), (pq_of (k := 0) ((Qb52 (Int32.toInt 0).toNat (by decide) (by decide)).trans ((Qb48 (Int32.toInt 0).toNat (by decide) (by decide)).trans hg0)) : pq_n h52 70 0 = g0.toInt.toNat), (pq_of (k := 1) ((Qb52 (Int32.toInt 1).toNat (by decide) (by decide)).trans s48.1) : pq_n h52 70 1 = g2.toInt.toNat), (pq_of (k := 2) s52.1 : pq_n h52 70 2 = g3.toInt.toNat), (pq_of (k := 3) s52.2 : pq_n h52 70 3 = g1.toInt.toNat)]; unfold pq_x4; rw [if_pos (by omega), if_neg (by omega), if_pos (by omega), if_neg (by omega)])⟩⟩
        · refine te_iinc (p2 := 70) (x := 2) (y := 1) (lv2 := [(2, .int 1), (1, .int 1), (0, .ref 84)]) rfl rfl (by decide) rfl (by decide) rfl ?_
          refine te_goto rfl ?_
          refine te_iload_n (p2 := 48) rfl rfl rfl ?_
          refine te_iload_n (p2 := 49) rfl rfl rfl ?_
          refine tb_le (p2 := 52) rfl rfl (show Int32.toInt 1 = 1 from rfl) (show Int32.toInt 1 = 1 from rfl) (fun c57 => ?_) (fun c57 => absurd c57 (by omega))
          refine te_aload_n (p2 := 74) rfl rfl rfl ?_
          refine te_iload_n (p2 := 75) rfl rfl rfl ?_
          refine te_iload_n (p2 := 76) rfl rfl rfl ?_
          refine tc_V (p2 := 79) (i := 68) rfl rfl rfl rfl hI rfl rfl rfl (c_X3_swap (i := 1) (j := 1) hI (by decide) (by decide) (by decide) (by decide)) (by decide) (fun v58 h58 hq58 => ?_)
          obtain ⟨I58, g58, w58, Qa58, Qb58⟩ := hq58
          subst w58
          have f58 := fr_tr (F1 := F_X3_swap) (F := F_X3_goOn) f0 g58 (by decide)
          have s58 := Qa58 _ _ hg1 hg1
          show EvP _ _ _ (79, [(2, .int 1), (1, .int 1), (0, .ref 84)], [], h58) _
          refine te_iload_n (p2 := 80) rfl rfl rfl ?_
          refine te_iconst (p2 := 81) (x := 1) rfl rfl (by decide) ?_
          refine te_iadd (p2 := 82) (z := 2) rfl rfl (by decide) ?_
          refine te_istore_n (p2 := 83) (lv2 := [(3, .int 2), (2, .int 1), (1, .int 1), (0, .ref 84)]) rfl rfl (by decide) rfl ?_
          refine te_aload_n (p2 := 84) rfl rfl rfl ?_
          refine tg_e (p2 := 87) (i := 68) (v := .int 4) rfl rfl I58 rfl rfl ((g58 _ _ (by decide)).trans pr0) ?_
          refine te_iconst (p2 := 88) (x := 1) rfl rfl (by decide) ?_
          refine te_isub (p2 := 89) (z := 3) rfl rfl (by decide) ?_
          refine te_istore (p2 := 91) (lv2 := [(4, .int 3), (3, .int 2), (2, .int 1), (1, .int 1), (0, .ref 84)]) rfl rfl (by decide) rfl ?_
          refine te_iload_n (p2 := 92) rfl rfl rfl ?_
          refine te_iload (p2 := 94) rfl rfl rfl ?_
          refine tb_ge (p2 := 97) rfl rfl (show Int32.toInt 2 = 2 from rfl) (show Int32.toInt 3 = 3 from rfl) (fun c61 => absurd c61 (by omega)) (fun c61 => ?_)
          refine te_aload_n (p2 := 98) rfl rfl rfl ?_
          refine te_iload_n (p2 := 99) rfl rfl rfl ?_
          refine te_iload (p2 := 101) rfl rfl rfl ?_
          refine tc_V (p2 := 104) (i := 68) rfl rfl rfl rfl I58 rfl rfl rfl (c_X3_swap (i := 2) (j := 3) I58 (by decide) (by decide) (by decide) (by decide)) (by decide) (fun v62 h62 hq62 => ?_)
          obtain ⟨I62, g62, w62, Qa62, Qb62⟩ := hq62
          subst w62
          have f62 := fr_tr (F1 := F_X3_swap) (F := F_X3_goOn) f58 g62 (by decide)
          have s62 := Qa62 _ _ ((Qb58 (Int32.toInt 2).toNat (by decide) (by decide)).trans hg2) ((Qb58 (Int32.toInt 3).toNat (by decide) (by decide)).trans hg3)
          show EvP _ _ _ (104, [(4, .int 3), (3, .int 2), (2, .int 1), (1, .int 1), (0, .ref 84)], [], h62) _
          refine te_iinc (p2 := 107) (x := 2) (y := 3) (lv2 := [(3, .int 3), (4, .int 3), (2, .int 1), (1, .int 1), (0, .ref 84)]) rfl rfl (by decide) rfl (by decide) rfl ?_
          refine te_iinc (p2 := 110) (x := 3) (y := 2) (lv2 := [(4, .int 2), (3, .int 3), (2, .int 1), (1, .int 1), (0, .ref 84)]) rfl rfl (by decide) rfl (by decide) rfl ?_
          refine te_goto rfl ?_
          refine te_iload_n (p2 := 92) rfl rfl rfl ?_
          refine te_iload (p2 := 94) rfl rfl rfl ?_
          refine tb_ge (p2 := 97) rfl rfl (show Int32.toInt 3 = 3 from rfl) (show Int32.toInt 2 = 2 from rfl) (fun c65 => ?_) (fun c65 => absurd c65 (by omega))
          refine te_iconst (p2 := 114) (x := 1) rfl rfl (by decide) ?_
          exact te_zret rfl rfl (by decide) ⟨I62, f62, _, rfl, Or.inr ⟨rfl, (by rw [pq_xe4, on6_4, (pq_of (k := 0) hg0 : pq_n h 70 0 = g0.toInt.toNat), (pq_of (k := 1) hg1 : pq_n h 70 1 = g1.toInt.toNat), (pq_of (k := 2) hg2 : pq_n h 70 2 = g2.toInt.toNat), (pq_of (k := 3) hg3 : pq_n h 70 3 = g3.toInt.toNat), (pq_of (k := 0) ((Qb62 (Int32.toInt 0).toNat (by decide) (by decide)).trans ((Qb58 (Int32.toInt 0).toNat (by decide) (by decide)).trans hg0)) : pq_n h62 70 0 = g0.toInt.toNat), (pq_of (k := 1) ((Qb62 (Int32.toInt 1).toNat (by decide) (by decide)).trans s58.2) : pq_n h62 70 1 = g1.toInt.toNat), (pq_of (k := 2) s62.1 : pq_n h62 70 2 = g3.toInt.toNat), (pq_of (k := 3) s62.2 : pq_n h62 70 3 = g2.toInt.toNat)]; unfold pq_x4; rw [if_pos (by omega), if_neg (by omega), if_pos (by omega), if_pos (by omega)])⟩⟩
    · refine te_iinc (p2 := 31) (x := 1) (y := 0) (lv2 := [(1, .int 0), (0, .ref 84)]) rfl rfl (by decide) rfl (by decide) rfl ?_
      refine te_goto rfl ?_
      refine te_iload_n (p2 := 8) rfl rfl rfl ?_
      refine tz_lt (p2 := 11) rfl rfl (show Int32.toInt 0 = 0 from rfl) (fun c67 => absurd c67 (by omega)) (fun c67 => ?_)
      refine te_aload_n (p2 := 12) rfl rfl rfl ?_
      refine tg_r (p2 := 15) (i := 68) (r := 86) rfl rfl hI rfl rfl rfl ?_
      refine te_iload_n (p2 := 16) rfl rfl rfl ?_
      refine tl_e (p2 := 17) (i := 70) (n := 6) (t := 0) (Or.inl rfl) rfl rfl hI rfl rfl (by decide) (by decide) hg0 ?_
      refine te_aload_n (p2 := 18) rfl rfl rfl ?_
      refine tg_r (p2 := 21) (i := 68) (r := 86) rfl rfl hI rfl rfl rfl ?_
      refine te_iload_n (p2 := 22) rfl rfl rfl ?_
      refine te_iconst (p2 := 23) (x := 1) rfl rfl (by decide) ?_
      refine te_iadd (p2 := 24) (z := 1) rfl rfl (by decide) ?_
      refine tl_e (p2 := 25) (i := 70) (n := 6) (t := 0) (Or.inl rfl) rfl rfl hI rfl rfl (by decide) (by decide) hg1 ?_
      refine tb_le (p2 := 28) rfl rfl rfl rfl (fun c71 => ?_) (fun c71 => ?_)
      · refine te_iload_n (p2 := 35) rfl rfl rfl ?_
        refine tz_ge (p2 := 38) rfl rfl (show Int32.toInt 0 = 0 from rfl) (fun c72 => ?_) (fun c72 => absurd c72 (by omega))
        refine te_aload_n (p2 := 41) rfl rfl rfl ?_
        refine tg_e (p2 := 44) (i := 68) (v := .int 4) rfl rfl hI rfl rfl pr0 ?_
        refine te_iconst (p2 := 45) (x := 1) rfl rfl (by decide) ?_
        refine te_isub (p2 := 46) (z := 3) rfl rfl (by decide) ?_
        refine te_istore_n (p2 := 47) (lv2 := [(2, .int 3), (1, .int 0), (0, .ref 84)]) rfl rfl (by decide) rfl ?_
        refine te_iload_n (p2 := 48) rfl rfl rfl ?_
        refine te_iload_n (p2 := 49) rfl rfl rfl ?_
        refine tb_le (p2 := 52) rfl rfl (show Int32.toInt 3 = 3 from rfl) (show Int32.toInt 0 = 0 from rfl) (fun c74 => absurd c74 (by omega)) (fun c74 => ?_)
        refine te_aload_n (p2 := 53) rfl rfl rfl ?_
        refine tg_r (p2 := 56) (i := 68) (r := 86) rfl rfl hI rfl rfl rfl ?_
        refine te_iload_n (p2 := 57) rfl rfl rfl ?_
        refine tl_e (p2 := 58) (i := 70) (n := 6) (t := 0) (Or.inl rfl) rfl rfl hI rfl rfl (by decide) (by decide) hg3 ?_
        refine te_aload_n (p2 := 59) rfl rfl rfl ?_
        refine tg_r (p2 := 62) (i := 68) (r := 86) rfl rfl hI rfl rfl rfl ?_
        refine te_iload_n (p2 := 63) rfl rfl rfl ?_
        refine tl_e (p2 := 64) (i := 70) (n := 6) (t := 0) (Or.inl rfl) rfl rfl hI rfl rfl (by decide) (by decide) hg0 ?_
        refine tb_ge (p2 := 67) rfl rfl rfl rfl (fun c77 => ?_) (fun c77 => ?_)
        · refine te_aload_n (p2 := 74) rfl rfl rfl ?_
          refine te_iload_n (p2 := 75) rfl rfl rfl ?_
          refine te_iload_n (p2 := 76) rfl rfl rfl ?_
          refine tc_V (p2 := 79) (i := 68) rfl rfl rfl rfl hI rfl rfl rfl (c_X3_swap (i := 0) (j := 3) hI (by decide) (by decide) (by decide) (by decide)) (by decide) (fun v78 h78 hq78 => ?_)
          obtain ⟨I78, g78, w78, Qa78, Qb78⟩ := hq78
          subst w78
          have f78 := fr_tr (F1 := F_X3_swap) (F := F_X3_goOn) f0 g78 (by decide)
          have s78 := Qa78 _ _ hg0 hg3
          show EvP _ _ _ (79, [(2, .int 3), (1, .int 0), (0, .ref 84)], [], h78) _
          refine te_iload_n (p2 := 80) rfl rfl rfl ?_
          refine te_iconst (p2 := 81) (x := 1) rfl rfl (by decide) ?_
          refine te_iadd (p2 := 82) (z := 1) rfl rfl (by decide) ?_
          refine te_istore_n (p2 := 83) (lv2 := [(3, .int 1), (2, .int 3), (1, .int 0), (0, .ref 84)]) rfl rfl (by decide) rfl ?_
          refine te_aload_n (p2 := 84) rfl rfl rfl ?_
          refine tg_e (p2 := 87) (i := 68) (v := .int 4) rfl rfl I78 rfl rfl ((g78 _ _ (by decide)).trans pr0) ?_
          refine te_iconst (p2 := 88) (x := 1) rfl rfl (by decide) ?_
          refine te_isub (p2 := 89) (z := 3) rfl rfl (by decide) ?_
          refine te_istore (p2 := 91) (lv2 := [(4, .int 3), (3, .int 1), (2, .int 3), (1, .int 0), (0, .ref 84)]) rfl rfl (by decide) rfl ?_
          refine te_iload_n (p2 := 92) rfl rfl rfl ?_
          refine te_iload (p2 := 94) rfl rfl rfl ?_
          refine tb_ge (p2 := 97) rfl rfl (show Int32.toInt 1 = 1 from rfl) (show Int32.toInt 3 = 3 from rfl) (fun c81 => absurd c81 (by omega)) (fun c81 => ?_)
          refine te_aload_n (p2 := 98) rfl rfl rfl ?_
          refine te_iload_n (p2 := 99) rfl rfl rfl ?_
          refine te_iload (p2 := 101) rfl rfl rfl ?_
          refine tc_V (p2 := 104) (i := 68) rfl rfl rfl rfl I78 rfl rfl rfl (c_X3_swap (i := 1) (j := 3) I78 (by decide) (by decide) (by decide) (by decide)) (by decide) (fun v82 h82 hq82 => ?_)
          obtain ⟨I82, g82, w82, Qa82, Qb82⟩ := hq82
          subst w82
          have f82 := fr_tr (F1 := F_X3_swap) (F := F_X3_goOn) f78 g82 (by decide)
          have s82 := Qa82 _ _ ((Qb78 (Int32.toInt 1).toNat (by decide) (by decide)).trans hg1) s78.2
          show EvP _ _ _ (104, [(4, .int 3), (3, .int 1), (2, .int 3), (1, .int 0), (0, .ref 84)], [], h82) _
          refine te_iinc (p2 := 107) (x := 1) (y := 2) (lv2 := [(3, .int 2), (4, .int 3), (2, .int 3), (1, .int 0), (0, .ref 84)]) rfl rfl (by decide) rfl (by decide) rfl ?_
          refine te_iinc (p2 := 110) (x := 3) (y := 2) (lv2 := [(4, .int 2), (3, .int 2), (2, .int 3), (1, .int 0), (0, .ref 84)]) rfl rfl (by decide) rfl (by decide) rfl ?_
          refine te_goto rfl ?_
          refine te_iload_n (p2 := 92) rfl rfl rfl ?_
          refine te_iload (p2 := 94) rfl rfl rfl ?_
          refine tb_ge (p2 := 97) rfl rfl (show Int32.toInt 2 = 2 from rfl) (show Int32.toInt 2 = 2 from rfl) (fun c85 => ?_) (fun c85 => absurd c85 (by omega))
          refine te_iconst (p2 := 114) (x := 1) rfl rfl (by decide) ?_
          exact te_zret rfl rfl (by decide) ⟨I82, f82, _, rfl, Or.inr ⟨rfl, (by rw [pq_xe4, on6_4, (pq_of (k := 0) hg0 : pq_n h 70 0 = g0.toInt.toNat), (pq_of (k := 1) hg1 : pq_n h 70 1 = g1.toInt.toNat), (pq_of (k := 2) hg2 : pq_n h 70 2 = g2.toInt.toNat), (pq_of (k := 3) hg3 : pq_n h 70 3 = g3.toInt.toNat), (pq_of (k := 0) ((Qb82 (Int32.toInt 0).toNat (by decide) (by decide)).trans s78.1) : pq_n h82 70 0 = g3.toInt.toNat), (pq_of (k := 1) s82.1 : pq_n h82 70 1 = g0.toInt.toNat), (pq_of (k := 2) ((Qb82 (Int32.toInt 2).toNat (by decide) (by decide)).trans ((Qb78 (Int32.toInt 2).toNat (by decide) (by decide)).trans hg2)) : pq_n h82 70 2 = g2.toInt.toNat), (pq_of (k := 3) s82.2 : pq_n h82 70 3 = g1.toInt.toNat)]; unfold pq_x4; rw [if_pos (by omega), if_pos (by omega), if_neg (by omega), if_neg (by omega)])⟩⟩
        · refine te_iinc (p2 := 70) (x := 3) (y := 2) (lv2 := [(2, .int 2), (1, .int 0), (0, .ref 84)]) rfl rfl (by decide) rfl (by decide) rfl ?_
          refine te_goto rfl ?_
          refine te_iload_n (p2 := 48) rfl rfl rfl ?_
          refine te_iload_n (p2 := 49) rfl rfl rfl ?_
          refine tb_le (p2 := 52) rfl rfl (show Int32.toInt 2 = 2 from rfl) (show Int32.toInt 0 = 0 from rfl) (fun c87 => absurd c87 (by omega)) (fun c87 => ?_)
          refine te_aload_n (p2 := 53) rfl rfl rfl ?_
          refine tg_r (p2 := 56) (i := 68) (r := 86) rfl rfl hI rfl rfl rfl ?_
          refine te_iload_n (p2 := 57) rfl rfl rfl ?_
          refine tl_e (p2 := 58) (i := 70) (n := 6) (t := 0) (Or.inl rfl) rfl rfl hI rfl rfl (by decide) (by decide) hg2 ?_
          refine te_aload_n (p2 := 59) rfl rfl rfl ?_
          refine tg_r (p2 := 62) (i := 68) (r := 86) rfl rfl hI rfl rfl rfl ?_
          refine te_iload_n (p2 := 63) rfl rfl rfl ?_
          refine tl_e (p2 := 64) (i := 70) (n := 6) (t := 0) (Or.inl rfl) rfl rfl hI rfl rfl (by decide) (by decide) hg0 ?_
          refine tb_ge (p2 := 67) rfl rfl rfl rfl (fun c90 => ?_) (fun c90 => ?_)
          · refine te_aload_n (p2 := 74) rfl rfl rfl ?_
            refine te_iload_n (p2 := 75) rfl rfl rfl ?_
            refine te_iload_n (p2 := 76) rfl rfl rfl ?_
            refine tc_V (p2 := 79) (i := 68) rfl rfl rfl rfl hI rfl rfl rfl (c_X3_swap (i := 0) (j := 2) hI (by decide) (by decide) (by decide) (by decide)) (by decide) (fun v91 h91 hq91 => ?_)
            obtain ⟨I91, g91, w91, Qa91, Qb91⟩ := hq91
            subst w91
            have f91 := fr_tr (F1 := F_X3_swap) (F := F_X3_goOn) f0 g91 (by decide)
            have s91 := Qa91 _ _ hg0 hg2
            show EvP _ _ _ (79, [(2, .int 2), (1, .int 0), (0, .ref 84)], [], h91) _
            refine te_iload_n (p2 := 80) rfl rfl rfl ?_
            refine te_iconst (p2 := 81) (x := 1) rfl rfl (by decide) ?_
            refine te_iadd (p2 := 82) (z := 1) rfl rfl (by decide) ?_
            refine te_istore_n (p2 := 83) (lv2 := [(3, .int 1), (2, .int 2), (1, .int 0), (0, .ref 84)]) rfl rfl (by decide) rfl ?_
            refine te_aload_n (p2 := 84) rfl rfl rfl ?_
            refine tg_e (p2 := 87) (i := 68) (v := .int 4) rfl rfl I91 rfl rfl ((g91 _ _ (by decide)).trans pr0) ?_
            refine te_iconst (p2 := 88) (x := 1) rfl rfl (by decide) ?_
            refine te_isub (p2 := 89) (z := 3) rfl rfl (by decide) ?_
            refine te_istore (p2 := 91) (lv2 := [(4, .int 3), (3, .int 1), (2, .int 2), (1, .int 0), (0, .ref 84)]) rfl rfl (by decide) rfl ?_
            refine te_iload_n (p2 := 92) rfl rfl rfl ?_
            refine te_iload (p2 := 94) rfl rfl rfl ?_
            refine tb_ge (p2 := 97) rfl rfl (show Int32.toInt 1 = 1 from rfl) (show Int32.toInt 3 = 3 from rfl) (fun c94 => absurd c94 (by omega)) (fun c94 => ?_)
            refine te_aload_n (p2 := 98) rfl rfl rfl ?_
            refine te_iload_n (p2 := 99) rfl rfl rfl ?_
            refine te_iload (p2 := 101) rfl rfl rfl ?_
            refine tc_V (p2 := 104) (i := 68) rfl rfl rfl rfl I91 rfl rfl rfl (c_X3_swap (i := 1) (j := 3) I91 (by decide) (by decide) (by decide) (by decide)) (by decide) (fun v95 h95 hq95 => ?_)
            obtain ⟨I95, g95, w95, Qa95, Qb95⟩ := hq95
            subst w95
            have f95 := fr_tr (F1 := F_X3_swap) (F := F_X3_goOn) f91 g95 (by decide)
            have s95 := Qa95 _ _ ((Qb91 (Int32.toInt 1).toNat (by decide) (by decide)).trans hg1) ((Qb91 (Int32.toInt 3).toNat (by decide) (by decide)).trans hg3)
            show EvP _ _ _ (104, [(4, .int 3), (3, .int 1), (2, .int 2), (1, .int 0), (0, .ref 84)], [], h95) _
            refine te_iinc (p2 := 107) (x := 1) (y := 2) (lv2 := [(3, .int 2), (4, .int 3), (2, .int 2), (1, .int 0), (0, .ref 84)]) rfl rfl (by decide) rfl (by decide) rfl ?_
            refine te_iinc (p2 := 110) (x := 3) (y := 2) (lv2 := [(4, .int 2), (3, .int 2), (2, .int 2), (1, .int 0), (0, .ref 84)]) rfl rfl (by decide) rfl (by decide) rfl ?_
            refine te_goto rfl ?_
            refine te_iload_n (p2 := 92) rfl rfl rfl ?_
            refine te_iload (p2 := 94) rfl rfl rfl ?_
            refine tb_ge (p2 := 97) rfl rfl (show Int32.toInt 2 = 2 from rfl) (show Int32.toInt 2 = 2 from rfl) (fun c98 => ?_) (fun c98 => absurd c98 (by omega))
            refine te_iconst (p2 := 114) (x := 1) rfl rfl (by decide) ?_
            exact te_zret rfl rfl (by decide) ⟨I95, f95, _, rfl, Or.inr ⟨rfl, (by rw [pq_xe4, on6_4, (pq_of (k := 0) hg0 : pq_n h 70 0 = g0.toInt.toNat), (pq_of (k := 1) hg1 : pq_n h 70 1 = g1.toInt.toNat), (pq_of (k := 2) hg2 : pq_n h 70 2 = g2.toInt.toNat), (pq_of (k := 3) hg3 : pq_n h 70 3 = g3.toInt.toNat), (pq_of (k := 0) ((Qb95 (Int32.toInt 0).toNat (by decide) (by decide)).trans s91.1) : pq_n h95 70 0 = g2.toInt.toNat), (pq_of (k := 1) s95.1 : pq_n h95 70 1 = g3.toInt.toNat), (pq_of (k := 2) ((Qb95 (Int32.toInt 2).toNat (by decide) (by decide)).trans s91.2) : pq_n h95 70 2 = g0.toInt.toNat), (pq_of (k := 3) s95.2 : pq_n h95 70 3 = g1.toInt.toNat)]; unfold pq_x4; rw [if_pos (by omega), if_pos (by omega), if_neg (by omega), if_pos (by omega), if_neg (by omega)])⟩⟩
          · refine te_iinc (p2 := 70) (x := 2) (y := 1) (lv2 := [(2, .int 1), (1, .int 0), (0, .ref 84)]) rfl rfl (by decide) rfl (by decide) rfl ?_
            refine te_goto rfl ?_
            refine te_iload_n (p2 := 48) rfl rfl rfl ?_
            refine te_iload_n (p2 := 49) rfl rfl rfl ?_
            refine tb_le (p2 := 52) rfl rfl (show Int32.toInt 1 = 1 from rfl) (show Int32.toInt 0 = 0 from rfl) (fun c100 => absurd c100 (by omega)) (fun c100 => ?_)
            refine te_aload_n (p2 := 53) rfl rfl rfl ?_
            refine tg_r (p2 := 56) (i := 68) (r := 86) rfl rfl hI rfl rfl rfl ?_
            refine te_iload_n (p2 := 57) rfl rfl rfl ?_
            refine tl_e (p2 := 58) (i := 70) (n := 6) (t := 0) (Or.inl rfl) rfl rfl hI rfl rfl (by decide) (by decide) hg1 ?_
            refine te_aload_n (p2 := 59) rfl rfl rfl ?_
            refine tg_r (p2 := 62) (i := 68) (r := 86) rfl rfl hI rfl rfl rfl ?_
            refine te_iload_n (p2 := 63) rfl rfl rfl ?_
            refine tl_e (p2 := 64) (i := 70) (n := 6) (t := 0) (Or.inl rfl) rfl rfl hI rfl rfl (by decide) (by decide) hg0 ?_
            refine tb_ge (p2 := 67) rfl rfl rfl rfl (fun c103 => ?_) (fun c103 => ?_)
            · refine te_aload_n (p2 := 74) rfl rfl rfl ?_
              refine te_iload_n (p2 := 75) rfl rfl rfl ?_
              refine te_iload_n (p2 := 76) rfl rfl rfl ?_
              refine tc_V (p2 := 79) (i := 68) rfl rfl rfl rfl hI rfl rfl rfl (c_X3_swap (i := 0) (j := 1) hI (by decide) (by decide) (by decide) (by decide)) (by decide) (fun v104 h104 hq104 => ?_)
              obtain ⟨I104, g104, w104, Qa104, Qb104⟩ := hq104
              subst w104
              have f104 := fr_tr (F1 := F_X3_swap) (F := F_X3_goOn) f0 g104 (by decide)
              have s104 := Qa104 _ _ hg0 hg1
              show EvP _ _ _ (79, [(2, .int 1), (1, .int 0), (0, .ref 84)], [], h104) _
              refine te_iload_n (p2 := 80) rfl rfl rfl ?_
              refine te_iconst (p2 := 81) (x := 1) rfl rfl (by decide) ?_
              refine te_iadd (p2 := 82) (z := 1) rfl rfl (by decide) ?_
              refine te_istore_n (p2 := 83) (lv2 := [(3, .int 1), (2, .int 1), (1, .int 0), (0, .ref 84)]) rfl rfl (by decide) rfl ?_
              refine te_aload_n (p2 := 84) rfl rfl rfl ?_
              refine tg_e (p2 := 87) (i := 68) (v := .int 4) rfl rfl I104 rfl rfl ((g104 _ _ (by decide)).trans pr0) ?_
              refine te_iconst (p2 := 88) (x := 1) rfl rfl (by decide) ?_
              refine te_isub (p2 := 89) (z := 3) rfl rfl (by decide) ?_
              refine te_istore (p2 := 91) (lv2 := [(4, .int 3), (3, .int 1), (2, .int 1), (1, .int 0), (0, .ref 84)]) rfl rfl (by decide) rfl ?_
              refine te_iload_n (p2 := 92) rfl rfl rfl ?_
              refine te_iload (p2 := 94) rfl rfl rfl ?_
              refine tb_ge (p2 := 97) rfl rfl (show Int32.toInt 1 = 1 from rfl) (show Int32.toInt 3 = 3 from rfl) (fun c107 => absurd c107 (by omega)) (fun c107 => ?_)
              refine te_aload_n (p2 := 98) rfl rfl rfl ?_
              refine te_iload_n (p2 := 99) rfl rfl rfl ?_
              refine te_iload (p2 := 101) rfl rfl rfl ?_
              refine tc_V (p2 := 104) (i := 68) rfl rfl rfl rfl I104 rfl rfl rfl (c_X3_swap (i := 1) (j := 3) I104 (by decide) (by decide) (by decide) (by decide)) (by decide) (fun v108 h108 hq108 => ?_)
              obtain ⟨I108, g108, w108, Qa108, Qb108⟩ := hq108
              subst w108
              have f108 := fr_tr (F1 := F_X3_swap) (F := F_X3_goOn) f104 g108 (by decide)
              have s108 := Qa108 _ _ s104.2 ((Qb104 (Int32.toInt 3).toNat (by decide) (by decide)).trans hg3)
              show EvP _ _ _ (104, [(4, .int 3), (3, .int 1), (2, .int 1), (1, .int 0), (0, .ref 84)], [], h108) _
              refine te_iinc (p2 := 107) (x := 1) (y := 2) (lv2 := [(3, .int 2), (4, .int 3), (2, .int 1), (1, .int 0), (0, .ref 84)]) rfl rfl (by decide) rfl (by decide) rfl ?_
              refine te_iinc (p2 := 110) (x := 3) (y := 2) (lv2 := [(4, .int 2), (3, .int 2), (2, .int 1), (1, .int 0), (0, .ref 84)]) rfl rfl (by decide) rfl (by decide) rfl ?_
              refine te_goto rfl ?_
              refine te_iload_n (p2 := 92) rfl rfl rfl ?_
              refine te_iload (p2 := 94) rfl rfl rfl ?_
              refine tb_ge (p2 := 97) rfl rfl (show Int32.toInt 2 = 2 from rfl) (show Int32.toInt 2 = 2 from rfl) (fun c111 => ?_) (fun c111 => absurd c111 (by omega))
              refine te_iconst (p2 := 114) (x := 1) rfl rfl (by decide) ?_
              exact te_zret rfl rfl (by decide) ⟨I108, f108, _, rfl, Or.inr ⟨rfl, (by rw [pq_xe4, on6_4, (pq_of (k := 0) hg0 : pq_n h 70 0 = g0.toInt.toNat), (pq_of (k := 1) hg1 : pq_n h 70 1 = g1.toInt.toNat), (pq_of (k := 2) hg2 : pq_n h 70 2 = g2.toInt.toNat), (pq_of (k := 3) hg3 : pq_n h 70 3 = g3.toInt.toNat), (pq_of (k := 0) ((Qb108 (Int32.toInt 0).toNat (by decide) (by decide)).trans s104.1) : pq_n h108 70 0 = g1.toInt.toNat), (pq_of (k := 1) s108.1 : pq_n h108 70 1 = g3.toInt.toNat), (pq_of (k := 2) ((Qb108 (Int32.toInt 2).toNat (by decide) (by decide)).trans ((Qb104 (Int32.toInt 2).toNat (by decide) (by decide)).trans hg2)) : pq_n h108 70 2 = g2.toInt.toNat), (pq_of (k := 3) s108.2 : pq_n h108 70 3 = g0.toInt.toNat)]; unfold pq_x4; rw [if_pos (by omega), if_pos (by omega), if_neg (by omega), if_pos (by omega), if_pos (by omega), if_neg (by omega)])⟩⟩
            · refine te_iinc (p2 := 70) (x := 1) (y := 0) (lv2 := [(2, .int 0), (1, .int 0), (0, .ref 84)]) rfl rfl (by decide) rfl (by decide) rfl ?_
              refine te_goto rfl ?_
              refine te_iload_n (p2 := 48) rfl rfl rfl ?_
              refine te_iload_n (p2 := 49) rfl rfl rfl ?_
              refine tb_le (p2 := 52) rfl rfl (show Int32.toInt 0 = 0 from rfl) (show Int32.toInt 0 = 0 from rfl) (fun c113 => ?_) (fun c113 => absurd c113 (by omega))
              refine te_aload_n (p2 := 74) rfl rfl rfl ?_
              refine te_iload_n (p2 := 75) rfl rfl rfl ?_
              refine te_iload_n (p2 := 76) rfl rfl rfl ?_
              refine tc_V (p2 := 79) (i := 68) rfl rfl rfl rfl hI rfl rfl rfl (c_X3_swap (i := 0) (j := 0) hI (by decide) (by decide) (by decide) (by decide)) (by decide) (fun v114 h114 hq114 => ?_)
              obtain ⟨I114, g114, w114, Qa114, Qb114⟩ := hq114
              subst w114
              have f114 := fr_tr (F1 := F_X3_swap) (F := F_X3_goOn) f0 g114 (by decide)
              have s114 := Qa114 _ _ hg0 hg0
              show EvP _ _ _ (79, [(2, .int 0), (1, .int 0), (0, .ref 84)], [], h114) _
              refine te_iload_n (p2 := 80) rfl rfl rfl ?_
              refine te_iconst (p2 := 81) (x := 1) rfl rfl (by decide) ?_
              refine te_iadd (p2 := 82) (z := 1) rfl rfl (by decide) ?_
              refine te_istore_n (p2 := 83) (lv2 := [(3, .int 1), (2, .int 0), (1, .int 0), (0, .ref 84)]) rfl rfl (by decide) rfl ?_
              refine te_aload_n (p2 := 84) rfl rfl rfl ?_
              refine tg_e (p2 := 87) (i := 68) (v := .int 4) rfl rfl I114 rfl rfl ((g114 _ _ (by decide)).trans pr0) ?_
              refine te_iconst (p2 := 88) (x := 1) rfl rfl (by decide) ?_
              refine te_isub (p2 := 89) (z := 3) rfl rfl (by decide) ?_
              refine te_istore (p2 := 91) (lv2 := [(4, .int 3), (3, .int 1), (2, .int 0), (1, .int 0), (0, .ref 84)]) rfl rfl (by decide) rfl ?_
              refine te_iload_n (p2 := 92) rfl rfl rfl ?_
              refine te_iload (p2 := 94) rfl rfl rfl ?_
              refine tb_ge (p2 := 97) rfl rfl (show Int32.toInt 1 = 1 from rfl) (show Int32.toInt 3 = 3 from rfl) (fun c117 => absurd c117 (by omega)) (fun c117 => ?_)
              refine te_aload_n (p2 := 98) rfl rfl rfl ?_
              refine te_iload_n (p2 := 99) rfl rfl rfl ?_
              refine te_iload (p2 := 101) rfl rfl rfl ?_
              refine tc_V (p2 := 104) (i := 68) rfl rfl rfl rfl I114 rfl rfl rfl (c_X3_swap (i := 1) (j := 3) I114 (by decide) (by decide) (by decide) (by decide)) (by decide) (fun v118 h118 hq118 => ?_)
              obtain ⟨I118, g118, w118, Qa118, Qb118⟩ := hq118
              subst w118
              have f118 := fr_tr (F1 := F_X3_swap) (F := F_X3_goOn) f114 g118 (by decide)
              have s118 := Qa118 _ _ ((Qb114 (Int32.toInt 1).toNat (by decide) (by decide)).trans hg1) ((Qb114 (Int32.toInt 3).toNat (by decide) (by decide)).trans hg3)
              show EvP _ _ _ (104, [(4, .int 3), (3, .int 1), (2, .int 0), (1, .int 0), (0, .ref 84)], [], h118) _
              refine te_iinc (p2 := 107) (x := 1) (y := 2) (lv2 := [(3, .int 2), (4, .int 3), (2, .int 0), (1, .int 0), (0, .ref 84)]) rfl rfl (by decide) rfl (by decide) rfl ?_
              refine te_iinc (p2 := 110) (x := 3) (y := 2) (lv2 := [(4, .int 2), (3, .int 2), (2, .int 0), (1, .int 0), (0, .ref 84)]) rfl rfl (by decide) rfl (by decide) rfl ?_
              refine te_goto rfl ?_
              refine te_iload_n (p2 := 92) rfl rfl rfl ?_
              refine te_iload (p2 := 94) rfl rfl rfl ?_
              refine tb_ge (p2 := 97) rfl rfl (show Int32.toInt 2 = 2 from rfl) (show Int32.toInt 2 = 2 from rfl) (fun c121 => ?_) (fun c121 => absurd c121 (by omega))
              refine te_iconst (p2 := 114) (x := 1) rfl rfl (by decide) ?_
              exact te_zret rfl rfl (by decide) ⟨I118, f118, _, rfl, Or.inr ⟨rfl, (by rw [pq_xe4, on6_4, (pq_of (k := 0) hg0 : pq_n h 70 0 = g0.toInt.toNat), (pq_of (k := 1) hg1 : pq_n h 70 1 = g1.toInt.toNat), (pq_of (k := 2) hg2 : pq_n h 70 2 = g2.toInt.toNat), (pq_of (k := 3) hg3 : pq_n h 70 3 = g3.toInt.toNat), (pq_of (k := 0) ((Qb118 (Int32.toInt 0).toNat (by decide) (by decide)).trans s114.2) : pq_n h118 70 0 = g0.toInt.toNat), (pq_of (k := 1) s118.1 : pq_n h118 70 1 = g3.toInt.toNat), (pq_of (k := 2) ((Qb118 (Int32.toInt 2).toNat (by decide) (by decide)).trans ((Qb114 (Int32.toInt 2).toNat (by decide) (by decide)).trans hg2)) : pq_n h118 70 2 = g2.toInt.toNat), (pq_of (k := 3) s118.2 : pq_n h118 70 3 = g1.toInt.toNat)]; unfold pq_x4; rw [if_pos (by omega), if_pos (by omega), if_neg (by omega), if_pos (by omega), if_pos (by omega), if_pos (by omega)])⟩⟩
      · refine te_iinc (p2 := 31) (x := 0) (y := (-1)) (lv2 := [(1, .int (-1)), (0, .ref 84)]) rfl rfl (by decide) rfl (by decide) rfl ?_
        refine te_goto rfl ?_
        refine te_iload_n (p2 := 8) rfl rfl rfl ?_
        refine tz_lt (p2 := 11) rfl rfl (show Int32.toInt (-1) = (-1) from rfl) (fun c123 => ?_) (fun c123 => absurd c123 (by omega))
        refine te_iload_n (p2 := 35) rfl rfl rfl ?_
        refine tz_ge (p2 := 38) rfl rfl (show Int32.toInt (-1) = (-1) from rfl) (fun c124 => absurd c124 (by omega)) (fun c124 => ?_)
        refine te_iconst (p2 := 39) (x := 0) rfl rfl (by decide) ?_
        exact te_zret rfl rfl (by decide) ⟨hI, f0, _, rfl, Or.inl ⟨rfl, (by rw [pq_xe4, (pq_of (k := 0) hg0 : pq_n h 70 0 = g0.toInt.toNat), (pq_of (k := 1) hg1 : pq_n h 70 1 = g1.toInt.toNat), (pq_of (k := 2) hg2 : pq_n h 70 2 = g2.toInt.toNat), (pq_of (k := 3) hg3 : pq_n h 70 3 = g3.toInt.toNat)]; unfold pq_x4; rw [if_pos (by omega), if_pos (by omega), if_pos (by omega)])⟩⟩
set_option maxRecDepth 20000 in
set_option maxHeartbeats 4000000 in
theorem c_X3_goOn_5 {g0 : Int32} {g1 : Int32} {g2 : Int32} {g3 : Int32} {g4 : Int32} {g5 : Int32} {h : im_H} (hI : tI h) (hg0 : rd h 70 (Int32.toInt 0).toNat = some (.int g0)) (ga0 : 0 ≤ g0.toInt) (gb0 : g0.toInt ≤ 5) (hg1 : rd h 70 (Int32.toInt 1).toNat = some (.int g1)) (ga1 : 0 ≤ g1.toInt) (gb1 : g1.toInt ≤ 5) (hg2 : rd h 70 (Int32.toInt 2).toNat = some (.int g2)) (ga2 : 0 ≤ g2.toInt) (gb2 : g2.toInt ≤ 5) (hg3 : rd h 70 (Int32.toInt 3).toNat = some (.int g3)) (ga3 : 0 ≤ g3.toInt) (gb3 : g3.toInt ≤ 5) (hg4 : rd h 70 (Int32.toInt 4).toNat = some (.int g4)) (ga4 : 0 ≤ g4.toInt) (gb4 : g4.toInt ≤ 5) (hg5 : rd h 70 (Int32.toInt 5).toNat = some (.int g5)) (ga5 : 0 ≤ g5.toInt) (gb5 : g5.toInt ≤ 5) (pr0 : rd h 68 0 = some (.int 5)) : CaP 2 26 [.ref 84] h (fun v h2 => tI h2 ∧ fr F_X3_goOn h h2 ∧ ∃ y : Int32, v = some (.int y) ∧ ((y = 0 ∧ pq_x 5 (on6 5 (pq_n h 70)) = none) ∨ (y = 1 ∧ pq_x 5 (on6 5 (pq_n h 70)) = some (on6 5 (pq_n h2 70))))) := by
  refine cap_of (d := 1) (M := mX3_goOn) rfl (Nat.le_of_ble_eq_true rfl) ?_
  show EvP im_K0 1 mX3_goOn (0, [(0, .ref 84)], [], h) _
  have f0 : fr F_X3_goOn h h := fr_rf
  refine te_aload_n (p2 := 1) rfl rfl rfl ?_
  refine tg_e (p2 := 4) (i := 68) (v := .int 5) rfl rfl hI rfl rfl pr0 ?_
  refine te_iconst (p2 := 5) (x := 2) rfl rfl (by decide) ?_
  refine te_isub (p2 := 6) (z := 3) rfl rfl (by decide) ?_
  refine te_istore_n (p2 := 7) (lv2 := [(1, .int 3), (0, .ref 84)]) rfl rfl (by decide) rfl ?_
  refine te_iload_n (p2 := 8) rfl rfl rfl ?_
  refine tz_lt (p2 := 11) rfl rfl (show Int32.toInt 3 = 3 from rfl) (fun c2 => absurd c2 (by omega)) (fun c2 => ?_)
  refine te_aload_n (p2 := 12) rfl rfl rfl ?_
  refine tg_r (p2 := 15) (i := 68) (r := 86) rfl rfl hI rfl rfl rfl ?_
  refine te_iload_n (p2 := 16) rfl rfl rfl ?_
  refine tl_e (p2 := 17) (i := 70) (n := 6) (t := 0) (Or.inl rfl) rfl rfl hI rfl rfl (by decide) (by decide) hg3 ?_
  refine te_aload_n (p2 := 18) rfl rfl rfl ?_
  refine tg_r (p2 := 21) (i := 68) (r := 86) rfl rfl hI rfl rfl rfl ?_
  refine te_iload_n (p2 := 22) rfl rfl rfl ?_
  refine te_iconst (p2 := 23) (x := 1) rfl rfl (by decide) ?_
  refine te_iadd (p2 := 24) (z := 4) rfl rfl (by decide) ?_
  refine tl_e (p2 := 25) (i := 70) (n := 6) (t := 0) (Or.inl rfl) rfl rfl hI rfl rfl (by decide) (by decide) hg4 ?_
  refine tb_le (p2 := 28) rfl rfl rfl rfl (fun c6 => ?_) (fun c6 => ?_)
  · refine te_iload_n (p2 := 35) rfl rfl rfl ?_
    refine tz_ge (p2 := 38) rfl rfl (show Int32.toInt 3 = 3 from rfl) (fun c7 => ?_) (fun c7 => absurd c7 (by omega))
    refine te_aload_n (p2 := 41) rfl rfl rfl ?_
    refine tg_e (p2 := 44) (i := 68) (v := .int 5) rfl rfl hI rfl rfl pr0 ?_
    refine te_iconst (p2 := 45) (x := 1) rfl rfl (by decide) ?_
    refine te_isub (p2 := 46) (z := 4) rfl rfl (by decide) ?_
    refine te_istore_n (p2 := 47) (lv2 := [(2, .int 4), (1, .int 3), (0, .ref 84)]) rfl rfl (by decide) rfl ?_
    refine te_iload_n (p2 := 48) rfl rfl rfl ?_
    refine te_iload_n (p2 := 49) rfl rfl rfl ?_
    refine tb_le (p2 := 52) rfl rfl (show Int32.toInt 4 = 4 from rfl) (show Int32.toInt 3 = 3 from rfl) (fun c9 => absurd c9 (by omega)) (fun c9 => ?_)
    refine te_aload_n (p2 := 53) rfl rfl rfl ?_
    refine tg_r (p2 := 56) (i := 68) (r := 86) rfl rfl hI rfl rfl rfl ?_
    refine te_iload_n (p2 := 57) rfl rfl rfl ?_
    refine tl_e (p2 := 58) (i := 70) (n := 6) (t := 0) (Or.inl rfl) rfl rfl hI rfl rfl (by decide) (by decide) hg4 ?_
    refine te_aload_n (p2 := 59) rfl rfl rfl ?_
    refine tg_r (p2 := 62) (i := 68) (r := 86) rfl rfl hI rfl rfl rfl ?_
    refine te_iload_n (p2 := 63) rfl rfl rfl ?_
    refine tl_e (p2 := 64) (i := 70) (n := 6) (t := 0) (Or.inl rfl) rfl rfl hI rfl rfl (by decide) (by decide) hg3 ?_
    refine tb_ge (p2 := 67) rfl rfl rfl rfl (fun c12 => ?_) (fun c12 => ?_)
    · refine te_aload_n (p2 := 74) rfl rfl rfl ?_
      refine te_iload_n (p2 := 75) rfl rfl rfl ?_
      refine te_iload_n (p2 := 76) rfl rfl rfl ?_
      refine tc_V (p2 := 79) (i := 68) rfl rfl rfl rfl hI rfl rfl rfl (c_X3_swap (i := 3) (j := 4) hI (by decide) (by decide) (by decide) (by decide)) (by decide) (fun v13 h13 hq13 => ?_)
      obtain ⟨I13, g13, w13, Qa13, Qb13⟩ := hq13
      subst w13
      have f13 := fr_tr (F1 := F_X3_swap) (F := F_X3_goOn) f0 g13 (by decide)
      have s13 := Qa13 _ _ hg3 hg4
      show EvP _ _ _ (79, [(2, .int 4), (1, .int 3), (0, .ref 84)], [], h13) _
      refine te_iload_n (p2 := 80) rfl rfl rfl ?_
      refine te_iconst (p2 := 81) (x := 1) rfl rfl (by decide) ?_
      refine te_iadd (p2 := 82) (z := 4) rfl rfl (by decide) ?_
      refine te_istore_n (p2 := 83) (lv2 := [(3, .int 4), (2, .int 4), (1, .int 3), (0, .ref 84)]) rfl rfl (by decide) rfl ?_
      refine te_aload_n (p2 := 84) rfl rfl rfl ?_
      refine tg_e (p2 := 87) (i := 68) (v := .int 5) rfl rfl I13 rfl rfl ((g13 _ _ (by decide)).trans pr0) ?_
      refine te_iconst (p2 := 88) (x := 1) rfl rfl (by decide) ?_
      refine te_isub (p2 := 89) (z := 4) rfl rfl (by decide) ?_
      refine te_istore (p2 := 91) (lv2 := [(4, .int 4), (3, .int 4), (2, .int 4), (1, .int 3), (0, .ref 84)]) rfl rfl (by decide) rfl ?_
      refine te_iload_n (p2 := 92) rfl rfl rfl ?_
      refine te_iload (p2 := 94) rfl rfl rfl ?_
      refine tb_ge (p2 := 97) rfl rfl (show Int32.toInt 4 = 4 from rfl) (show Int32.toInt 4 = 4 from rfl) (fun c16 => ?_) (fun c16 => absurd c16 (by omega))
      refine te_iconst (p2 := 114) (x := 1) rfl rfl (by decide) ?_
      exact te_zret rfl rfl (by decide) ⟨I13, f13, _, rfl, Or.inr ⟨rfl, (by rw [pq_xe5, on6_5, (pq_of (k := 0) hg0 : pq_n h 70 0 = g0.toInt.toNat), (pq_of (k := 1) hg1 : pq_n h 70 1 = g1.toInt.toNat), (pq_of (k := 2) hg2 : pq_n h 70 2 = g2.toInt.toNat), (pq_of (k := 3) hg3 : pq_n h 70 3 = g3.toInt.toNat), (pq_of (k := 4) hg4 : pq_n h 70 4 = g4.toInt.toNat), (pq_of (k := 0) ((Qb13 (Int32.toInt 0).toNat (by decide) (by decide)).trans hg0) : pq_n h13 70 0 = g0.toInt.toNat), (pq_of (k := 1) ((Qb13 (Int32.toInt 1).toNat (by decide) (by decide)).trans hg1) : pq_n h13 70 1 = g1.toInt.toNat), (pq_of (k := 2) ((Qb13 (Int32.toInt 2).toNat (by decide) (by decide)).trans hg2) : pq_n h13 70 2 = g2.toInt.toNat), (pq_of (k := 3) s13.1 : pq_n h13 70 3 = g4.toInt.toNat), (pq_of (k := 4) s13.2 : pq_n h13 70 4 = g3.toInt.toNat)]; unfold pq_x5; rw [if_neg (by omega), if_neg (by omega)])⟩⟩
    · refine te_iinc (p2 := 70) (x := 4) (y := 3) (lv2 := [(2, .int 3), (1, .int 3), (0, .ref 84)]) rfl rfl (by decide) rfl (by decide) rfl ?_
      refine te_goto rfl ?_
      refine te_iload_n (p2 := 48) rfl rfl rfl ?_
      refine te_iload_n (p2 := 49) rfl rfl rfl ?_
      refine tb_le (p2 := 52) rfl rfl (show Int32.toInt 3 = 3 from rfl) (show Int32.toInt 3 = 3 from rfl) (fun c18 => ?_) (fun c18 => absurd c18 (by omega))
      refine te_aload_n (p2 := 74) rfl rfl rfl ?_
      refine te_iload_n (p2 := 75) rfl rfl rfl ?_
      refine te_iload_n (p2 := 76) rfl rfl rfl ?_
      refine tc_V (p2 := 79) (i := 68) rfl rfl rfl rfl hI rfl rfl rfl (c_X3_swap (i := 3) (j := 3) hI (by decide) (by decide) (by decide) (by decide)) (by decide) (fun v19 h19 hq19 => ?_)
      obtain ⟨I19, g19, w19, Qa19, Qb19⟩ := hq19
      subst w19
      have f19 := fr_tr (F1 := F_X3_swap) (F := F_X3_goOn) f0 g19 (by decide)
      have s19 := Qa19 _ _ hg3 hg3
      show EvP _ _ _ (79, [(2, .int 3), (1, .int 3), (0, .ref 84)], [], h19) _
      refine te_iload_n (p2 := 80) rfl rfl rfl ?_
      refine te_iconst (p2 := 81) (x := 1) rfl rfl (by decide) ?_
      refine te_iadd (p2 := 82) (z := 4) rfl rfl (by decide) ?_
      refine te_istore_n (p2 := 83) (lv2 := [(3, .int 4), (2, .int 3), (1, .int 3), (0, .ref 84)]) rfl rfl (by decide) rfl ?_
      refine te_aload_n (p2 := 84) rfl rfl rfl ?_
      refine tg_e (p2 := 87) (i := 68) (v := .int 5) rfl rfl I19 rfl rfl ((g19 _ _ (by decide)).trans pr0) ?_
      refine te_iconst (p2 := 88) (x := 1) rfl rfl (by decide) ?_
      refine te_isub (p2 := 89) (z := 4) rfl rfl (by decide) ?_
      refine te_istore (p2 := 91) (lv2 := [(4, .int 4), (3, .int 4), (2, .int 3), (1, .int 3), (0, .ref 84)]) rfl rfl (by decide) rfl ?_
      refine te_iload_n (p2 := 92) rfl rfl rfl ?_
      refine te_iload (p2 := 94) rfl rfl rfl ?_
      refine tb_ge (p2 := 97) rfl rfl (show Int32.toInt 4 = 4 from rfl) (show Int32.toInt 4 = 4 from rfl) (fun c22 => ?_) (fun c22 => absurd c22 (by omega))
      refine te_iconst (p2 := 114) (x := 1) rfl rfl (by decide) ?_
      exact te_zret rfl rfl (by decide) ⟨I19, f19, _, rfl, Or.inr ⟨rfl, (by rw [pq_xe5, on6_5, (pq_of (k := 0) hg0 : pq_n h 70 0 = g0.toInt.toNat), (pq_of (k := 1) hg1 : pq_n h 70 1 = g1.toInt.toNat), (pq_of (k := 2) hg2 : pq_n h 70 2 = g2.toInt.toNat), (pq_of (k := 3) hg3 : pq_n h 70 3 = g3.toInt.toNat), (pq_of (k := 4) hg4 : pq_n h 70 4 = g4.toInt.toNat), (pq_of (k := 0) ((Qb19 (Int32.toInt 0).toNat (by decide) (by decide)).trans hg0) : pq_n h19 70 0 = g0.toInt.toNat), (pq_of (k := 1) ((Qb19 (Int32.toInt 1).toNat (by decide) (by decide)).trans hg1) : pq_n h19 70 1 = g1.toInt.toNat), (pq_of (k := 2) ((Qb19 (Int32.toInt 2).toNat (by decide) (by decide)).trans hg2) : pq_n h19 70 2 = g2.toInt.toNat), (pq_of (k := 3) s19.2 : pq_n h19 70 3 = g3.toInt.toNat), (pq_of (k := 4) ((Qb19 (Int32.toInt 4).toNat (by decide) (by decide)).trans hg4) : pq_n h19 70 4 = g4.toInt.toNat)]; unfold pq_x5; rw [if_neg (by omega), if_pos (by omega)])⟩⟩
  · refine te_iinc (p2 := 31) (x := 3) (y := 2) (lv2 := [(1, .int 2), (0, .ref 84)]) rfl rfl (by decide) rfl (by decide) rfl ?_
    refine te_goto rfl ?_
    refine te_iload_n (p2 := 8) rfl rfl rfl ?_
    refine tz_lt (p2 := 11) rfl rfl (show Int32.toInt 2 = 2 from rfl) (fun c24 => absurd c24 (by omega)) (fun c24 => ?_)
    refine te_aload_n (p2 := 12) rfl rfl rfl ?_
    refine tg_r (p2 := 15) (i := 68) (r := 86) rfl rfl hI rfl rfl rfl ?_
    refine te_iload_n (p2 := 16) rfl rfl rfl ?_
    refine tl_e (p2 := 17) (i := 70) (n := 6) (t := 0) (Or.inl rfl) rfl rfl hI rfl rfl (by decide) (by decide) hg2 ?_
    refine te_aload_n (p2 := 18) rfl rfl rfl ?_
    refine tg_r (p2 := 21) (i := 68) (r := 86) rfl rfl hI rfl rfl rfl ?_
    refine te_iload_n (p2 := 22) rfl rfl rfl ?_
    refine te_iconst (p2 := 23) (x := 1) rfl rfl (by decide) ?_
    refine te_iadd (p2 := 24) (z := 3) rfl rfl (by decide) ?_
    refine tl_e (p2 := 25) (i := 70) (n := 6) (t := 0) (Or.inl rfl) rfl rfl hI rfl rfl (by decide) (by decide) hg3 ?_
    refine tb_le (p2 := 28) rfl rfl rfl rfl (fun c28 => ?_) (fun c28 => ?_)
    · refine te_iload_n (p2 := 35) rfl rfl rfl ?_
      refine tz_ge (p2 := 38) rfl rfl (show Int32.toInt 2 = 2 from rfl) (fun c29 => ?_) (fun c29 => absurd c29 (by omega))
      refine te_aload_n (p2 := 41) rfl rfl rfl ?_
      refine tg_e (p2 := 44) (i := 68) (v := .int 5) rfl rfl hI rfl rfl pr0 ?_
      refine te_iconst (p2 := 45) (x := 1) rfl rfl (by decide) ?_
      refine te_isub (p2 := 46) (z := 4) rfl rfl (by decide) ?_
      refine te_istore_n (p2 := 47) (lv2 := [(2, .int 4), (1, .int 2), (0, .ref 84)]) rfl rfl (by decide) rfl ?_
      refine te_iload_n (p2 := 48) rfl rfl rfl ?_
      refine te_iload_n (p2 := 49) rfl rfl rfl ?_
      refine tb_le (p2 := 52) rfl rfl (show Int32.toInt 4 = 4 from rfl) (show Int32.toInt 2 = 2 from rfl) (fun c31 => absurd c31 (by omega)) (fun c31 => ?_)
      refine te_aload_n (p2 := 53) rfl rfl rfl ?_
      refine tg_r (p2 := 56) (i := 68) (r := 86) rfl rfl hI rfl rfl rfl ?_
      refine te_iload_n (p2 := 57) rfl rfl rfl ?_
      refine tl_e (p2 := 58) (i := 70) (n := 6) (t := 0) (Or.inl rfl) rfl rfl hI rfl rfl (by decide) (by decide) hg4 ?_
      refine te_aload_n (p2 := 59) rfl rfl rfl ?_
      refine tg_r (p2 := 62) (i := 68) (r := 86) rfl rfl hI rfl rfl rfl ?_
      refine te_iload_n (p2 := 63) rfl rfl rfl ?_
      refine tl_e (p2 := 64) (i := 70) (n := 6) (t := 0) (Or.inl rfl) rfl rfl hI rfl rfl (by decide) (by decide) hg2 ?_
      refine tb_ge (p2 := 67) rfl rfl rfl rfl (fun c34 => ?_) (fun c34 => ?_)
      · refine te_aload_n (p2 := 74) rfl rfl rfl ?_
        refine te_iload_n (p2 := 75) rfl rfl rfl ?_
        refine te_iload_n (p2 := 76) rfl rfl rfl ?_
        refine tc_V (p2 := 79) (i := 68) rfl rfl rfl rfl hI rfl rfl rfl (c_X3_swap (i := 2) (j := 4) hI (by decide) (by decide) (by decide) (by decide)) (by decide) (fun v35 h35 hq35 => ?_)
        obtain ⟨I35, g35, w35, Qa35, Qb35⟩ := hq35
        subst w35
        have f35 := fr_tr (F1 := F_X3_swap) (F := F_X3_goOn) f0 g35 (by decide)
        have s35 := Qa35 _ _ hg2 hg4
        show EvP _ _ _ (79, [(2, .int 4), (1, .int 2), (0, .ref 84)], [], h35) _
        refine te_iload_n (p2 := 80) rfl rfl rfl ?_
        refine te_iconst (p2 := 81) (x := 1) rfl rfl (by decide) ?_
        refine te_iadd (p2 := 82) (z := 3) rfl rfl (by decide) ?_
        refine te_istore_n (p2 := 83) (lv2 := [(3, .int 3), (2, .int 4), (1, .int 2), (0, .ref 84)]) rfl rfl (by decide) rfl ?_
        refine te_aload_n (p2 := 84) rfl rfl rfl ?_
        refine tg_e (p2 := 87) (i := 68) (v := .int 5) rfl rfl I35 rfl rfl ((g35 _ _ (by decide)).trans pr0) ?_
        refine te_iconst (p2 := 88) (x := 1) rfl rfl (by decide) ?_
        refine te_isub (p2 := 89) (z := 4) rfl rfl (by decide) ?_
        refine te_istore (p2 := 91) (lv2 := [(4, .int 4), (3, .int 3), (2, .int 4), (1, .int 2), (0, .ref 84)]) rfl rfl (by decide) rfl ?_
        refine te_iload_n (p2 := 92) rfl rfl rfl ?_
        refine te_iload (p2 := 94) rfl rfl rfl ?_
        refine tb_ge (p2 := 97) rfl rfl (show Int32.toInt 3 = 3 from rfl) (show Int32.toInt 4 = 4 from rfl) (fun c38 => absurd c38 (by omega)) (fun c38 => ?_)
        refine te_aload_n (p2 := 98) rfl rfl rfl ?_
        refine te_iload_n (p2 := 99) rfl rfl rfl ?_
        refine te_iload (p2 := 101) rfl rfl rfl ?_
        refine tc_V (p2 := 104) (i := 68) rfl rfl rfl rfl I35 rfl rfl rfl (c_X3_swap (i := 3) (j := 4) I35 (by decide) (by decide) (by decide) (by decide)) (by decide) (fun v39 h39 hq39 => ?_)
        obtain ⟨I39, g39, w39, Qa39, Qb39⟩ := hq39
        subst w39
        have f39 := fr_tr (F1 := F_X3_swap) (F := F_X3_goOn) f35 g39 (by decide)
        have s39 := Qa39 _ _ ((Qb35 (Int32.toInt 3).toNat (by decide) (by decide)).trans hg3) s35.2
        show EvP _ _ _ (104, [(4, .int 4), (3, .int 3), (2, .int 4), (1, .int 2), (0, .ref 84)], [], h39) _
        refine te_iinc (p2 := 107) (x := 3) (y := 4) (lv2 := [(3, .int 4), (4, .int 4), (2, .int 4), (1, .int 2), (0, .ref 84)]) rfl rfl (by decide) rfl (by decide) rfl ?_
        refine te_iinc (p2 := 110) (x := 4) (y := 3) (lv2 := [(4, .int 3), (3, .int 4), (2, .int 4), (1, .int 2), (0, .ref 84)]) rfl rfl (by decide) rfl (by decide) rfl ?_
        refine te_goto rfl ?_
        refine te_iload_n (p2 := 92) rfl rfl rfl ?_
        refine te_iload (p2 := 94) rfl rfl rfl ?_
        refine tb_ge (p2 := 97) rfl rfl (show Int32.toInt 4 = 4 from rfl) (show Int32.toInt 3 = 3 from rfl) (fun c42 => ?_) (fun c42 => absurd c42 (by omega))
        refine te_iconst (p2 := 114) (x := 1) rfl rfl (by decide) ?_
        exact te_zret rfl rfl (by decide) ⟨I39, f39, _, rfl, Or.inr ⟨rfl, (by rw [pq_xe5, on6_5, (pq_of (k := 0) hg0 : pq_n h 70 0 = g0.toInt.toNat), (pq_of (k := 1) hg1 : pq_n h 70 1 = g1.toInt.toNat), (pq_of (k := 2) hg2 : pq_n h 70 2 = g2.toInt.toNat), (pq_of (k := 3) hg3 : pq_n h 70 3 = g3.toInt.toNat), (pq_of (k := 4) hg4 : pq_n h 70 4 = g4.toInt.toNat), (pq_of (k := 0) ((Qb39 (Int32.toInt 0).toNat (by decide) (by decide)).trans ((Qb35 (Int32.toInt 0).toNat (by decide) (by decide)).trans hg0)) : pq_n h39 70 0 = g0.toInt.toNat), (pq_of (k := 1) ((Qb39 (Int32.toInt 1).toNat (by decide) (by decide)).trans ((Qb35 (Int32.toInt 1).toNat (by decide) (by decide)).trans hg1)) : pq_n h39 70 1 = g1.toInt.toNat), (pq_of (k := 2) ((Qb39 (Int32.toInt 2).toNat (by decide) (by decide)).trans s35.1) : pq_n h39 70 2 = g4.toInt.toNat), (pq_of (k := 3) s39.1 : pq_n h39 70 3 = g2.toInt.toNat), (pq_of (k := 4) s39.2 : pq_n h39 70 4 = g3.toInt.toNat)]; unfold pq_x5; rw [if_pos (by omega), if_neg (by omega), if_neg (by omega)])⟩⟩
      · refine te_iinc (p2 := 70) (x := 4) (y := 3) (lv2 := [(2, .int 3), (1, .int 2), (0, .ref 84)]) rfl rfl (by decide) rfl (by decide) rfl ?_
        refine te_goto rfl ?_
        refine te_iload_n (p2 := 48) rfl rfl rfl ?_
        refine te_iload_n (p2 := 49) rfl rfl rfl ?_
        refine tb_le (p2 := 52) rfl rfl (show Int32.toInt 3 = 3 from rfl) (show Int32.toInt 2 = 2 from rfl) (fun c44 => absurd c44 (by omega)) (fun c44 => ?_)
        refine te_aload_n (p2 := 53) rfl rfl rfl ?_
        refine tg_r (p2 := 56) (i := 68) (r := 86) rfl rfl hI rfl rfl rfl ?_
        refine te_iload_n (p2 := 57) rfl rfl rfl ?_
        refine tl_e (p2 := 58) (i := 70) (n := 6) (t := 0) (Or.inl rfl) rfl rfl hI rfl rfl (by decide) (by decide) hg3 ?_
        refine te_aload_n (p2 := 59) rfl rfl rfl ?_
        refine tg_r (p2 := 62) (i := 68) (r := 86) rfl rfl hI rfl rfl rfl ?_
        refine te_iload_n (p2 := 63) rfl rfl rfl ?_
        refine tl_e (p2 := 64) (i := 70) (n := 6) (t := 0) (Or.inl rfl) rfl rfl hI rfl rfl (by decide) (by decide) hg2 ?_
        refine tb_ge (p2 := 67) rfl rfl rfl rfl (fun c47 => ?_) (fun c47 => ?_)
        · refine te_aload_n (p2 := 74) rfl rfl rfl ?_
          refine te_iload_n (p2 := 75) rfl rfl rfl ?_
          refine te_iload_n (p2 := 76) rfl rfl rfl ?_
          refine tc_V (p2 := 79) (i := 68) rfl rfl rfl rfl hI rfl rfl rfl (c_X3_swap (i := 2) (j := 3) hI (by decide) (by decide) (by decide) (by decide)) (by decide) (fun v48 h48 hq48 => ?_)
          obtain ⟨I48, g48, w48, Qa48, Qb48⟩ := hq48
          subst w48
          have f48 := fr_tr (F1 := F_X3_swap) (F := F_X3_goOn) f0 g48 (by decide)
          have s48 := Qa48 _ _ hg2 hg3
          show EvP _ _ _ (79, [(2, .int 3), (1, .int 2), (0, .ref 84)], [], h48) _
          refine te_iload_n (p2 := 80) rfl rfl rfl ?_
          refine te_iconst (p2 := 81) (x := 1) rfl rfl (by decide) ?_
          refine te_iadd (p2 := 82) (z := 3) rfl rfl (by decide) ?_
          refine te_istore_n (p2 := 83) (lv2 := [(3, .int 3), (2, .int 3), (1, .int 2), (0, .ref 84)]) rfl rfl (by decide) rfl ?_
          refine te_aload_n (p2 := 84) rfl rfl rfl ?_
          refine tg_e (p2 := 87) (i := 68) (v := .int 5) rfl rfl I48 rfl rfl ((g48 _ _ (by decide)).trans pr0) ?_
          refine te_iconst (p2 := 88) (x := 1) rfl rfl (by decide) ?_
          refine te_isub (p2 := 89) (z := 4) rfl rfl (by decide) ?_
          refine te_istore (p2 := 91) (lv2 := [(4, .int 4), (3, .int 3), (2, .int 3), (1, .int 2), (0, .ref 84)]) rfl rfl (by decide) rfl ?_
          refine te_iload_n (p2 := 92) rfl rfl rfl ?_
          refine te_iload (p2 := 94) rfl rfl rfl ?_
          refine tb_ge (p2 := 97) rfl rfl (show Int32.toInt 3 = 3 from rfl) (show Int32.toInt 4 = 4 from rfl) (fun c51 => absurd c51 (by omega)) (fun c51 => ?_)
          refine te_aload_n (p2 := 98) rfl rfl rfl ?_
          refine te_iload_n (p2 := 99) rfl rfl rfl ?_
          refine te_iload (p2 := 101) rfl rfl rfl ?_
          refine tc_V (p2 := 104) (i := 68) rfl rfl rfl rfl I48 rfl rfl rfl (c_X3_swap (i := 3) (j := 4) I48 (by decide) (by decide) (by decide) (by decide)) (by decide) (fun v52 h52 hq52 => ?_)
          obtain ⟨I52, g52, w52, Qa52, Qb52⟩ := hq52
          subst w52
          have f52 := fr_tr (F1 := F_X3_swap) (F := F_X3_goOn) f48 g52 (by decide)
          have s52 := Qa52 _ _ s48.2 ((Qb48 (Int32.toInt 4).toNat (by decide) (by decide)).trans hg4)
          show EvP _ _ _ (104, [(4, .int 4), (3, .int 3), (2, .int 3), (1, .int 2), (0, .ref 84)], [], h52) _
          refine te_iinc (p2 := 107) (x := 3) (y := 4) (lv2 := [(3, .int 4), (4, .int 4), (2, .int 3), (1, .int 2), (0, .ref 84)]) rfl rfl (by decide) rfl (by decide) rfl ?_
          refine te_iinc (p2 := 110) (x := 4) (y := 3) (lv2 := [(4, .int 3), (3, .int 4), (2, .int 3), (1, .int 2), (0, .ref 84)]) rfl rfl (by decide) rfl (by decide) rfl ?_
          refine te_goto rfl ?_
          refine te_iload_n (p2 := 92) rfl rfl rfl ?_
          refine te_iload (p2 := 94) rfl rfl rfl ?_
          refine tb_ge (p2 := 97) rfl rfl (show Int32.toInt 4 = 4 from rfl) (show Int32.toInt 3 = 3 from rfl) (fun c55 => ?_) (fun c55 => absurd c55 (by omega))
          refine te_iconst (p2 := 114) (x := 1) rfl rfl (by decide) ?_
          exact te_zret rfl rfl (by decide) ⟨I52, f52, _, rfl, Or.inr ⟨rfl, (by rw [pq_xe5, on6_5, (pq_of (k := 0) hg0 : pq_n h 70 0 = g0.toInt.toNat), (pq_of (k := 1) hg1 : pq_n h 70 1 = g1.toInt.toNat), (pq_of (k := 2) hg2 : pq_n h 70 2 = g2.toInt.toNat), (pq_of (k := 3) hg3 : pq_n h 70 3 = g3.toInt.toNat), (pq_of (k := 4) hg4 : pq_n h 70 4 = g4.toInt.toNat), (pq_of (k := 0) ((Qb52 (Int32.toInt 0).toNat (by decide) (by decide)).trans ((Qb48 (Int32.toInt 0).toNat (by decide) (by decide)).trans hg0)) : pq_n h52 70 0 = g0.toInt.toNat), (pq_of (k := 1) ((Qb52 (Int32.toInt 1).toNat (by decide) (by decide)).trans ((Qb48 (Int32.toInt 1).toNat (by decide) (by decide)).trans hg1)) : pq_n h52 70 1 = g1.toInt.toNat), (pq_of (k := 2) ((Qb52 (Int32.toInt 2).toNat (by decide) (by decide)).trans s48.1) : pq_n h52 70 2 = g3.toInt.toNat), (pq_of (k := 3) s52.1 : pq_n h52 70 3 = g4.toInt.toNat), (pq_of (k := 4) s52.2 : pq_n h52 70 4 = g2.toInt.toNat)]; unfold pq_x5; rw [if_pos (by omega), if_neg (by omega), if_pos (by omega), if_neg (by omega)])⟩⟩
        · refine te_iinc (p2 := 70) (x := 3) (y := 2) (lv2 := [(2, .int 2), (1, .int 2), (0, .ref 84)]) rfl rfl (by decide) rfl (by decide) rfl ?_
          refine te_goto rfl ?_
          refine te_iload_n (p2 := 48) rfl rfl rfl ?_
          refine te_iload_n (p2 := 49) rfl rfl rfl ?_
          refine tb_le (p2 := 52) rfl rfl (show Int32.toInt 2 = 2 from rfl) (show Int32.toInt 2 = 2 from rfl) (fun c57 => ?_) (fun c57 => absurd c57 (by omega))
          refine te_aload_n (p2 := 74) rfl rfl rfl ?_
          refine te_iload_n (p2 := 75) rfl rfl rfl ?_
          refine te_iload_n (p2 := 76) rfl rfl rfl ?_
          refine tc_V (p2 := 79) (i := 68) rfl rfl rfl rfl hI rfl rfl rfl (c_X3_swap (i := 2) (j := 2) hI (by decide) (by decide) (by decide) (by decide)) (by decide) (fun v58 h58 hq58 => ?_)
          obtain ⟨I58, g58, w58, Qa58, Qb58⟩ := hq58
          subst w58
          have f58 := fr_tr (F1 := F_X3_swap) (F := F_X3_goOn) f0 g58 (by decide)
          have s58 := Qa58 _ _ hg2 hg2
          show EvP _ _ _ (79, [(2, .int 2), (1, .int 2), (0, .ref 84)], [], h58) _
          refine te_iload_n (p2 := 80) rfl rfl rfl ?_
          refine te_iconst (p2 := 81) (x := 1) rfl rfl (by decide) ?_
          refine te_iadd (p2 := 82) (z := 3) rfl rfl (by decide) ?_
          refine te_istore_n (p2 := 83) (lv2 := [(3, .int 3), (2, .int 2), (1, .int 2), (0, .ref 84)]) rfl rfl (by decide) rfl ?_
          refine te_aload_n (p2 := 84) rfl rfl rfl ?_
          refine tg_e (p2 := 87) (i := 68) (v := .int 5) rfl rfl I58 rfl rfl ((g58 _ _ (by decide)).trans pr0) ?_
          refine te_iconst (p2 := 88) (x := 1) rfl rfl (by decide) ?_
          refine te_isub (p2 := 89) (z := 4) rfl rfl (by decide) ?_
          refine te_istore (p2 := 91) (lv2 := [(4, .int 4), (3, .int 3), (2, .int 2), (1, .int 2), (0, .ref 84)]) rfl rfl (by decide) rfl ?_
          refine te_iload_n (p2 := 92) rfl rfl rfl ?_
          refine te_iload (p2 := 94) rfl rfl rfl ?_
          refine tb_ge (p2 := 97) rfl rfl (show Int32.toInt 3 = 3 from rfl) (show Int32.toInt 4 = 4 from rfl) (fun c61 => absurd c61 (by omega)) (fun c61 => ?_)
          refine te_aload_n (p2 := 98) rfl rfl rfl ?_
          refine te_iload_n (p2 := 99) rfl rfl rfl ?_
          refine te_iload (p2 := 101) rfl rfl rfl ?_
          refine tc_V (p2 := 104) (i := 68) rfl rfl rfl rfl I58 rfl rfl rfl (c_X3_swap (i := 3) (j := 4) I58 (by decide) (by decide) (by decide) (by decide)) (by decide) (fun v62 h62 hq62 => ?_)
          obtain ⟨I62, g62, w62, Qa62, Qb62⟩ := hq62
          subst w62
          have f62 := fr_tr (F1 := F_X3_swap) (F := F_X3_goOn) f58 g62 (by decide)
          have s62 := Qa62 _ _ ((Qb58 (Int32.toInt 3).toNat (by decide) (by decide)).trans hg3) ((Qb58 (Int32.toInt 4).toNat (by decide) (by decide)).trans hg4)
          show EvP _ _ _ (104, [(4, .int 4), (3, .int 3), (2, .int 2), (1, .int 2), (0, .ref 84)], [], h62) _
          refine te_iinc (p2 := 107) (x := 3) (y := 4) (lv2 := [(3, .int 4), (4, .int 4), (2, .int 2), (1, .int 2), (0, .ref 84)]) rfl rfl (by decide) rfl (by decide) rfl ?_
          refine te_iinc (p2 := 110) (x := 4) (y := 3) (lv2 := [(4, .int 3), (3, .int 4), (2, .int 2), (1, .int 2), (0, .ref 84)]) rfl rfl (by decide) rfl (by decide) rfl ?_
          refine te_goto rfl ?_
          refine te_iload_n (p2 := 92) rfl rfl rfl ?_
          refine te_iload (p2 := 94) rfl rfl rfl ?_
          refine tb_ge (p2 := 97) rfl rfl (show Int32.toInt 4 = 4 from rfl) (show Int32.toInt 3 = 3 from rfl) (fun c65 => ?_) (fun c65 => absurd c65 (by omega))
          refine te_iconst (p2 := 114) (x := 1) rfl rfl (by decide) ?_
          exact te_zret rfl rfl (by decide) ⟨I62, f62, _, rfl, Or.inr ⟨rfl, (by rw [pq_xe5, on6_5, (pq_of (k := 0) hg0 : pq_n h 70 0 = g0.toInt.toNat), (pq_of (k := 1) hg1 : pq_n h 70 1 = g1.toInt.toNat), (pq_of (k := 2) hg2 : pq_n h 70 2 = g2.toInt.toNat), (pq_of (k := 3) hg3 : pq_n h 70 3 = g3.toInt.toNat), (pq_of (k := 4) hg4 : pq_n h 70 4 = g4.toInt.toNat), (pq_of (k := 0) ((Qb62 (Int32.toInt 0).toNat (by decide) (by decide)).trans ((Qb58 (Int32.toInt 0).toNat (by decide) (by decide)).trans hg0)) : pq_n h62 70 0 = g0.toInt.toNat), (pq_of (k := 1) ((Qb62 (Int32.toInt 1).toNat (by decide) (by decide)).trans ((Qb58 (Int32.toInt 1).toNat (by decide) (by decide)).trans hg1)) : pq_n h62 70 1 = g1.toInt.toNat), (pq_of (k := 2) ((Qb62 (Int32.toInt 2).toNat (by decide) (by decide)).trans s58.2) : pq_n h62 70 2 = g2.toInt.toNat), (pq_of (k := 3) s62.1 : pq_n h62 70 3 = g4.toInt.toNat), (pq_of (k := 4) s62.2 : pq_n h62 70 4 = g3.toInt.toNat)]; unfold pq_x5; rw [if_pos (by omega), if_neg (by omega), if_pos (by omega), if_pos (by omega)])⟩⟩
    · refine te_iinc (p2 := 31) (x := 2) (y := 1) (lv2 := [(1, .int 1), (0, .ref 84)]) rfl rfl (by decide) rfl (by decide) rfl ?_
      refine te_goto rfl ?_
      refine te_iload_n (p2 := 8) rfl rfl rfl ?_
      refine tz_lt (p2 := 11) rfl rfl (show Int32.toInt 1 = 1 from rfl) (fun c67 => absurd c67 (by omega)) (fun c67 => ?_)
      refine te_aload_n (p2 := 12) rfl rfl rfl ?_
      refine tg_r (p2 := 15) (i := 68) (r := 86) rfl rfl hI rfl rfl rfl ?_
      refine te_iload_n (p2 := 16) rfl rfl rfl ?_
      refine tl_e (p2 := 17) (i := 70) (n := 6) (t := 0) (Or.inl rfl) rfl rfl hI rfl rfl (by decide) (by decide) hg1 ?_
      refine te_aload_n (p2 := 18) rfl rfl rfl ?_
      refine tg_r (p2 := 21) (i := 68) (r := 86) rfl rfl hI rfl rfl rfl ?_
      refine te_iload_n (p2 := 22) rfl rfl rfl ?_
      refine te_iconst (p2 := 23) (x := 1) rfl rfl (by decide) ?_
      refine te_iadd (p2 := 24) (z := 2) rfl rfl (by decide) ?_
      refine tl_e (p2 := 25) (i := 70) (n := 6) (t := 0) (Or.inl rfl) rfl rfl hI rfl rfl (by decide) (by decide) hg2 ?_
      refine tb_le (p2 := 28) rfl rfl rfl rfl (fun c71 => ?_) (fun c71 => ?_)
      · refine te_iload_n (p2 := 35) rfl rfl rfl ?_
        refine tz_ge (p2 := 38) rfl rfl (show Int32.toInt 1 = 1 from rfl) (fun c72 => ?_) (fun c72 => absurd c72 (by omega))
        refine te_aload_n (p2 := 41) rfl rfl rfl ?_
        refine tg_e (p2 := 44) (i := 68) (v := .int 5) rfl rfl hI rfl rfl pr0 ?_
        refine te_iconst (p2 := 45) (x := 1) rfl rfl (by decide) ?_
        refine te_isub (p2 := 46) (z := 4) rfl rfl (by decide) ?_
        refine te_istore_n (p2 := 47) (lv2 := [(2, .int 4), (1, .int 1), (0, .ref 84)]) rfl rfl (by decide) rfl ?_
        refine te_iload_n (p2 := 48) rfl rfl rfl ?_
        refine te_iload_n (p2 := 49) rfl rfl rfl ?_
        refine tb_le (p2 := 52) rfl rfl (show Int32.toInt 4 = 4 from rfl) (show Int32.toInt 1 = 1 from rfl) (fun c74 => absurd c74 (by omega)) (fun c74 => ?_)
        refine te_aload_n (p2 := 53) rfl rfl rfl ?_
        refine tg_r (p2 := 56) (i := 68) (r := 86) rfl rfl hI rfl rfl rfl ?_
        refine te_iload_n (p2 := 57) rfl rfl rfl ?_
        refine tl_e (p2 := 58) (i := 70) (n := 6) (t := 0) (Or.inl rfl) rfl rfl hI rfl rfl (by decide) (by decide) hg4 ?_
        refine te_aload_n (p2 := 59) rfl rfl rfl ?_
        refine tg_r (p2 := 62) (i := 68) (r := 86) rfl rfl hI rfl rfl rfl ?_
        refine te_iload_n (p2 := 63) rfl rfl rfl ?_
        refine tl_e (p2 := 64) (i := 70) (n := 6) (t := 0) (Or.inl rfl) rfl rfl hI rfl rfl (by decide) (by decide) hg1 ?_
        refine tb_ge (p2 := 67) rfl rfl rfl rfl (fun c77 => ?_) (fun c77 => ?_)
        · refine te_aload_n (p2 := 74) rfl rfl rfl ?_
          refine te_iload_n (p2 := 75) rfl rfl rfl ?_
          refine te_iload_n (p2 := 76) rfl rfl rfl ?_
          refine tc_V (p2 := 79) (i := 68) rfl rfl rfl rfl hI rfl rfl rfl (c_X3_swap (i := 1) (j := 4) hI (by decide) (by decide) (by decide) (by decide)) (by decide) (fun v78 h78 hq78 => ?_)
          obtain ⟨I78, g78, w78, Qa78, Qb78⟩ := hq78
          subst w78
          have f78 := fr_tr (F1 := F_X3_swap) (F := F_X3_goOn) f0 g78 (by decide)
          have s78 := Qa78 _ _ hg1 hg4
          show EvP _ _ _ (79, [(2, .int 4), (1, .int 1), (0, .ref 84)], [], h78) _
          refine te_iload_n (p2 := 80) rfl rfl rfl ?_
          refine te_iconst (p2 := 81) (x := 1) rfl rfl (by decide) ?_
          refine te_iadd (p2 := 82) (z := 2) rfl rfl (by decide) ?_
          refine te_istore_n (p2 := 83) (lv2 := [(3, .int 2), (2, .int 4), (1, .int 1), (0, .ref 84)]) rfl rfl (by decide) rfl ?_
          refine te_aload_n (p2 := 84) rfl rfl rfl ?_
          refine tg_e (p2 := 87) (i := 68) (v := .int 5) rfl rfl I78 rfl rfl ((g78 _ _ (by decide)).trans pr0) ?_
          refine te_iconst (p2 := 88) (x := 1) rfl rfl (by decide) ?_
          refine te_isub (p2 := 89) (z := 4) rfl rfl (by decide) ?_
          refine te_istore (p2 := 91) (lv2 := [(4, .int 4), (3, .int 2), (2, .int 4), (1, .int 1), (0, .ref 84)]) rfl rfl (by decide) rfl ?_
          refine te_iload_n (p2 := 92) rfl rfl rfl ?_
          refine te_iload (p2 := 94) rfl rfl rfl ?_
          refine tb_ge (p2 := 97) rfl rfl (show Int32.toInt 2 = 2 from rfl) (show Int32.toInt 4 = 4 from rfl) (fun c81 => absurd c81 (by omega)) (fun c81 => ?_)
          refine te_aload_n (p2 := 98) rfl rfl rfl ?_
          refine te_iload_n (p2 := 99) rfl rfl rfl ?_
          refine te_iload (p2 := 101) rfl rfl rfl ?_
          refine tc_V (p2 := 104) (i := 68) rfl rfl rfl rfl I78 rfl rfl rfl (c_X3_swap (i := 2) (j := 4) I78 (by decide) (by decide) (by decide) (by decide)) (by decide) (fun v82 h82 hq82 => ?_)
          obtain ⟨I82, g82, w82, Qa82, Qb82⟩ := hq82
          subst w82
          have f82 := fr_tr (F1 := F_X3_swap) (F := F_X3_goOn) f78 g82 (by decide)
          have s82 := Qa82 _ _ ((Qb78 (Int32.toInt 2).toNat (by decide) (by decide)).trans hg2) s78.2
          show EvP _ _ _ (104, [(4, .int 4), (3, .int 2), (2, .int 4), (1, .int 1), (0, .ref 84)], [], h82) _
          refine te_iinc (p2 := 107) (x := 2) (y := 3) (lv2 := [(3, .int 3), (4, .int 4), (2, .int 4), (1, .int 1), (0, .ref 84)]) rfl rfl (by decide) rfl (by decide) rfl ?_
          refine te_iinc (p2 := 110) (x := 4) (y := 3) (lv2 := [(4, .int 3), (3, .int 3), (2, .int 4), (1, .int 1), (0, .ref 84)]) rfl rfl (by decide) rfl (by decide) rfl ?_
          refine te_goto rfl ?_
          refine te_iload_n (p2 := 92) rfl rfl rfl ?_
          refine te_iload (p2 := 94) rfl rfl rfl ?_
          refine tb_ge (p2 := 97) rfl rfl (show Int32.toInt 3 = 3 from rfl) (show Int32.toInt 3 = 3 from rfl) (fun c85 => ?_) (fun c85 => absurd c85 (by omega))
          refine te_iconst (p2 := 114) (x := 1) rfl rfl (by decide) ?_
          exact te_zret rfl rfl (by decide) ⟨I82, f82, _, rfl, Or.inr ⟨rfl, (by rw [pq_xe5, on6_5, (pq_of (k := 0) hg0 : pq_n h 70 0 = g0.toInt.toNat), (pq_of (k := 1) hg1 : pq_n h 70 1 = g1.toInt.toNat), (pq_of (k := 2) hg2 : pq_n h 70 2 = g2.toInt.toNat), (pq_of (k := 3) hg3 : pq_n h 70 3 = g3.toInt.toNat), (pq_of (k := 4) hg4 : pq_n h 70 4 = g4.toInt.toNat), (pq_of (k := 0) ((Qb82 (Int32.toInt 0).toNat (by decide) (by decide)).trans ((Qb78 (Int32.toInt 0).toNat (by decide) (by decide)).trans hg0)) : pq_n h82 70 0 = g0.toInt.toNat), (pq_of (k := 1) ((Qb82 (Int32.toInt 1).toNat (by decide) (by decide)).trans s78.1) : pq_n h82 70 1 = g4.toInt.toNat), (pq_of (k := 2) s82.1 : pq_n h82 70 2 = g1.toInt.toNat), (pq_of (k := 3) ((Qb82 (Int32.toInt 3).toNat (by decide) (by decide)).trans ((Qb78 (Int32.toInt 3).toNat (by decide) (by decide)).trans hg3)) : pq_n h82 70 3 = g3.toInt.toNat), (pq_of (k := 4) s82.2 : pq_n h82 70 4 = g2.toInt.toNat)]; unfold pq_x5; rw [if_pos (by omega), if_pos (by omega), if_neg (by omega), if_neg (by omega)])⟩⟩
        · refine te_iinc (p2 := 70) (x := 4) (y := 3) (lv2 := [(2, .int 3), (1, .int 1), (0, .ref 84)]) rfl rfl (by decide) rfl (by decide) rfl ?_
          refine te_goto rfl ?_
          refine te_iload_n (p2 := 48) rfl rfl rfl ?_
          refine te_iload_n (p2 := 49) rfl rfl rfl ?_
          refine tb_le (p2 := 52) rfl rfl (show Int32.toInt 3 = 3 from rfl) (show Int32.toInt 1 = 1 from rfl) (fun c87 => absurd c87 (by omega)) (fun c87 => ?_)
          refine te_aload_n (p2 := 53) rfl rfl rfl ?_
          refine tg_r (p2 := 56) (i := 68) (r := 86) rfl rfl hI rfl rfl rfl ?_
          refine te_iload_n (p2 := 57) rfl rfl rfl ?_
          refine tl_e (p2 := 58) (i := 70) (n := 6) (t := 0) (Or.inl rfl) rfl rfl hI rfl rfl (by decide) (by decide) hg3 ?_
          refine te_aload_n (p2 := 59) rfl rfl rfl ?_
          refine tg_r (p2 := 62) (i := 68) (r := 86) rfl rfl hI rfl rfl rfl ?_
          refine te_iload_n (p2 := 63) rfl rfl rfl ?_
          refine tl_e (p2 := 64) (i := 70) (n := 6) (t := 0) (Or.inl rfl) rfl rfl hI rfl rfl (by decide) (by decide) hg1 ?_
          refine tb_ge (p2 := 67) rfl rfl rfl rfl (fun c90 => ?_) (fun c90 => ?_)
          · refine te_aload_n (p2 := 74) rfl rfl rfl ?_
            refine te_iload_n (p2 := 75) rfl rfl rfl ?_
            refine te_iload_n (p2 := 76) rfl rfl rfl ?_
            refine tc_V (p2 := 79) (i := 68) rfl rfl rfl rfl hI rfl rfl rfl (c_X3_swap (i := 1) (j := 3) hI (by decide) (by decide) (by decide) (by decide)) (by decide) (fun v91 h91 hq91 => ?_)
            obtain ⟨I91, g91, w91, Qa91, Qb91⟩ := hq91
            subst w91
            have f91 := fr_tr (F1 := F_X3_swap) (F := F_X3_goOn) f0 g91 (by decide)
            have s91 := Qa91 _ _ hg1 hg3
            show EvP _ _ _ (79, [(2, .int 3), (1, .int 1), (0, .ref 84)], [], h91) _
            refine te_iload_n (p2 := 80) rfl rfl rfl ?_
            refine te_iconst (p2 := 81) (x := 1) rfl rfl (by decide) ?_
            refine te_iadd (p2 := 82) (z := 2) rfl rfl (by decide) ?_
            refine te_istore_n (p2 := 83) (lv2 := [(3, .int 2), (2, .int 3), (1, .int 1), (0, .ref 84)]) rfl rfl (by decide) rfl ?_
            refine te_aload_n (p2 := 84) rfl rfl rfl ?_
            refine tg_e (p2 := 87) (i := 68) (v := .int 5) rfl rfl I91 rfl rfl ((g91 _ _ (by decide)).trans pr0) ?_
            refine te_iconst (p2 := 88) (x := 1) rfl rfl (by decide) ?_
            refine te_isub (p2 := 89) (z := 4) rfl rfl (by decide) ?_
            refine te_istore (p2 := 91) (lv2 := [(4, .int 4), (3, .int 2), (2, .int 3), (1, .int 1), (0, .ref 84)]) rfl rfl (by decide) rfl ?_
            refine te_iload_n (p2 := 92) rfl rfl rfl ?_
            refine te_iload (p2 := 94) rfl rfl rfl ?_
            refine tb_ge (p2 := 97) rfl rfl (show Int32.toInt 2 = 2 from rfl) (show Int32.toInt 4 = 4 from rfl) (fun c94 => absurd c94 (by omega)) (fun c94 => ?_)
            refine te_aload_n (p2 := 98) rfl rfl rfl ?_
            refine te_iload_n (p2 := 99) rfl rfl rfl ?_
            refine te_iload (p2 := 101) rfl rfl rfl ?_
            refine tc_V (p2 := 104) (i := 68) rfl rfl rfl rfl I91 rfl rfl rfl (c_X3_swap (i := 2) (j := 4) I91 (by decide) (by decide) (by decide) (by decide)) (by decide) (fun v95 h95 hq95 => ?_)
            obtain ⟨I95, g95, w95, Qa95, Qb95⟩ := hq95
            subst w95
            have f95 := fr_tr (F1 := F_X3_swap) (F := F_X3_goOn) f91 g95 (by decide)
            have s95 := Qa95 _ _ ((Qb91 (Int32.toInt 2).toNat (by decide) (by decide)).trans hg2) ((Qb91 (Int32.toInt 4).toNat (by decide) (by decide)).trans hg4)
            show EvP _ _ _ (104, [(4, .int 4), (3, .int 2), (2, .int 3), (1, .int 1), (0, .ref 84)], [], h95) _
            refine te_iinc (p2 := 107) (x := 2) (y := 3) (lv2 := [(3, .int 3), (4, .int 4), (2, .int 3), (1, .int 1), (0, .ref 84)]) rfl rfl (by decide) rfl (by decide) rfl ?_
            refine te_iinc (p2 := 110) (x := 4) (y := 3) (lv2 := [(4, .int 3), (3, .int 3), (2, .int 3), (1, .int 1), (0, .ref 84)]) rfl rfl (by decide) rfl (by decide) rfl ?_
            refine te_goto rfl ?_
            refine te_iload_n (p2 := 92) rfl rfl rfl ?_
            refine te_iload (p2 := 94) rfl rfl rfl ?_
            refine tb_ge (p2 := 97) rfl rfl (show Int32.toInt 3 = 3 from rfl) (show Int32.toInt 3 = 3 from rfl) (fun c98 => ?_) (fun c98 => absurd c98 (by omega))
            refine te_iconst (p2 := 114) (x := 1) rfl rfl (by decide) ?_
            exact te_zret rfl rfl (by decide) ⟨I95, f95, _, rfl, Or.inr ⟨rfl, (by rw [pq_xe5, on6_5, (pq_of (k := 0) hg0 : pq_n h 70 0 = g0.toInt.toNat), (pq_of (k := 1) hg1 : pq_n h 70 1 = g1.toInt.toNat), (pq_of (k := 2) hg2 : pq_n h 70 2 = g2.toInt.toNat), (pq_of (k := 3) hg3 : pq_n h 70 3 = g3.toInt.toNat), (pq_of (k := 4) hg4 : pq_n h 70 4 = g4.toInt.toNat), (pq_of (k := 0) ((Qb95 (Int32.toInt 0).toNat (by decide) (by decide)).trans ((Qb91 (Int32.toInt 0).toNat (by decide) (by decide)).trans hg0)) : pq_n h95 70 0 = g0.toInt.toNat), (pq_of (k := 1) ((Qb95 (Int32.toInt 1).toNat (by decide) (by decide)).trans s91.1) : pq_n h95 70 1 = g3.toInt.toNat), (pq_of (k := 2) s95.1 : pq_n h95 70 2 = g4.toInt.toNat), (pq_of (k := 3) ((Qb95 (Int32.toInt 3).toNat (by decide) (by decide)).trans s91.2) : pq_n h95 70 3 = g1.toInt.toNat), (pq_of (k := 4) s95.2 : pq_n h95 70 4 = g2.toInt.toNat)]; unfold pq_x5; rw [if_pos (by omega), if_pos (by omega), if_neg (by omega), if_pos (by omega), if_neg (by omega)])⟩⟩
          · refine te_iinc (p2 := 70) (x := 3) (y := 2) (lv2 := [(2, .int 2), (1, .int 1), (0, .ref 84)]) rfl rfl (by decide) rfl (by decide) rfl ?_
            refine te_goto rfl ?_
            refine te_iload_n (p2 := 48) rfl rfl rfl ?_
            refine te_iload_n (p2 := 49) rfl rfl rfl ?_
            refine tb_le (p2 := 52) rfl rfl (show Int32.toInt 2 = 2 from rfl) (show Int32.toInt 1 = 1 from rfl) (fun c100 => absurd c100 (by omega)) (fun c100 => ?_)
            refine te_aload_n (p2 := 53) rfl rfl rfl ?_
            refine tg_r (p2 := 56) (i := 68) (r := 86) rfl rfl hI rfl rfl rfl ?_
            refine te_iload_n (p2 := 57) rfl rfl rfl ?_
            refine tl_e (p2 := 58) (i := 70) (n := 6) (t := 0) (Or.inl rfl) rfl rfl hI rfl rfl (by decide) (by decide) hg2 ?_
            refine te_aload_n (p2 := 59) rfl rfl rfl ?_
            refine tg_r (p2 := 62) (i := 68) (r := 86) rfl rfl hI rfl rfl rfl ?_
            refine te_iload_n (p2 := 63) rfl rfl rfl ?_
            refine tl_e (p2 := 64) (i := 70) (n := 6) (t := 0) (Or.inl rfl) rfl rfl hI rfl rfl (by decide) (by decide) hg1 ?_
            refine tb_ge (p2 := 67) rfl rfl rfl rfl (fun c103 => ?_) (fun c103 => ?_)
            · refine te_aload_n (p2 := 74) rfl rfl rfl ?_
              refine te_iload_n (p2 := 75) rfl rfl rfl ?_
              refine te_iload_n (p2 := 76) rfl rfl rfl ?_
              refine tc_V (p2 := 79) (i := 68) rfl rfl rfl rfl hI rfl rfl rfl (c_X3_swap (i := 1) (j := 2) hI (by decide) (by decide) (by decide) (by decide)) (by decide) (fun v104 h104 hq104 => ?_)
              obtain ⟨I104, g104, w104, Qa104, Qb104⟩ := hq104
              subst w104
              have f104 := fr_tr (F1 := F_X3_swap) (F := F_X3_goOn) f0 g104 (by decide)
              have s104 := Qa104 _ _ hg1 hg2
              show EvP _ _ _ (79, [(2, .int 2), (1, .int 1), (0, .ref 84)], [], h104) _
              refine te_iload_n (p2 := 80) rfl rfl rfl ?_
              refine te_iconst (p2 := 81) (x := 1) rfl rfl (by decide) ?_
              refine te_iadd (p2 := 82) (z := 2) rfl rfl (by decide) ?_
              refine te_istore_n (p2 := 83) (lv2 := [(3, .int 2), (2, .int 2), (1, .int 1), (0, .ref 84)]) rfl rfl (by decide) rfl ?_
              refine te_aload_n (p2 := 84) rfl rfl rfl ?_
              refine tg_e (p2 := 87) (i := 68) (v := .int 5) rfl rfl I104 rfl rfl ((g104 _ _ (by decide)).trans pr0) ?_
              refine te_iconst (p2 := 88) (x := 1) rfl rfl (by decide) ?_
              refine te_isub (p2 := 89) (z := 4) rfl rfl (by decide) ?_
              refine te_istore (p2 := 91) (lv2 := [(4, .int 4), (3, .int 2), (2, .int 2), (1, .int 1), (0, .ref 84)]) rfl rfl (by decide) rfl ?_
              refine te_iload_n (p2 := 92) rfl rfl rfl ?_
              refine te_iload (p2 := 94) rfl rfl rfl ?_
              refine tb_ge (p2 := 97) rfl rfl (show Int32.toInt 2 = 2 from rfl) (show Int32.toInt 4 = 4 from rfl) (fun c107 => absurd c107 (by omega)) (fun c107 => ?_)
              refine te_aload_n (p2 := 98) rfl rfl rfl ?_
              refine te_iload_n (p2 := 99) rfl rfl rfl ?_
              refine te_iload (p2 := 101) rfl rfl rfl ?_
              refine tc_V (p2 := 104) (i := 68) rfl rfl rfl rfl I104 rfl rfl rfl (c_X3_swap (i := 2) (j := 4) I104 (by decide) (by decide) (by decide) (by decide)) (by decide) (fun v108 h108 hq108 => ?_)
              obtain ⟨I108, g108, w108, Qa108, Qb108⟩ := hq108
              subst w108
              have f108 := fr_tr (F1 := F_X3_swap) (F := F_X3_goOn) f104 g108 (by decide)
              have s108 := Qa108 _ _ s104.2 ((Qb104 (Int32.toInt 4).toNat (by decide) (by decide)).trans hg4)
              show EvP _ _ _ (104, [(4, .int 4), (3, .int 2), (2, .int 2), (1, .int 1), (0, .ref 84)], [], h108) _
              refine te_iinc (p2 := 107) (x := 2) (y := 3) (lv2 := [(3, .int 3), (4, .int 4), (2, .int 2), (1, .int 1), (0, .ref 84)]) rfl rfl (by decide) rfl (by decide) rfl ?_
              refine te_iinc (p2 := 110) (x := 4) (y := 3) (lv2 := [(4, .int 3), (3, .int 3), (2, .int 2), (1, .int 1), (0, .ref 84)]) rfl rfl (by decide) rfl (by decide) rfl ?_
              refine te_goto rfl ?_
              refine te_iload_n (p2 := 92) rfl rfl rfl ?_
              refine te_iload (p2 := 94) rfl rfl rfl ?_
              refine tb_ge (p2 := 97) rfl rfl (show Int32.toInt 3 = 3 from rfl) (show Int32.toInt 3 = 3 from rfl) (fun c111 => ?_) (fun c111 => absurd c111 (by omega))
              refine te_iconst (p2 := 114) (x := 1) rfl rfl (by decide) ?_
              exact te_zret rfl rfl (by decide) ⟨I108, f108, _, rfl, Or.inr ⟨rfl, (by rw [pq_xe5, on6_5, (pq_of (k := 0) hg0 : pq_n h 70 0 = g0.toInt.toNat), (pq_of (k := 1) hg1 : pq_n h 70 1 = g1.toInt.toNat), (pq_of (k := 2) hg2 : pq_n h 70 2 = g2.toInt.toNat), (pq_of (k := 3) hg3 : pq_n h 70 3 = g3.toInt.toNat), (pq_of (k := 4) hg4 : pq_n h 70 4 = g4.toInt.toNat), (pq_of (k := 0) ((Qb108 (Int32.toInt 0).toNat (by decide) (by decide)).trans ((Qb104 (Int32.toInt 0).toNat (by decide) (by decide)).trans hg0)) : pq_n h108 70 0 = g0.toInt.toNat), (pq_of (k := 1) ((Qb108 (Int32.toInt 1).toNat (by decide) (by decide)).trans s104.1) : pq_n h108 70 1 = g2.toInt.toNat), (pq_of (k := 2) s108.1 : pq_n h108 70 2 = g4.toInt.toNat), (pq_of (k := 3) ((Qb108 (Int32.toInt 3).toNat (by decide) (by decide)).trans ((Qb104 (Int32.toInt 3).toNat (by decide) (by decide)).trans hg3)) : pq_n h108 70 3 = g3.toInt.toNat), (pq_of (k := 4) s108.2 : pq_n h108 70 4 = g1.toInt.toNat)]; unfold pq_x5; rw [if_pos (by omega), if_pos (by omega), if_neg (by omega), if_pos (by omega), if_pos (by omega), if_neg (by omega)])⟩⟩
            · refine te_iinc (p2 := 70) (x := 2) (y := 1) (lv2 := [(2, .int 1), (1, .int 1), (0, .ref 84)]) rfl rfl (by decide) rfl (by decide) rfl ?_
              refine te_goto rfl ?_
              refine te_iload_n (p2 := 48) rfl rfl rfl ?_
              refine te_iload_n (p2 := 49) rfl rfl rfl ?_
              refine tb_le (p2 := 52) rfl rfl (show Int32.toInt 1 = 1 from rfl) (show Int32.toInt 1 = 1 from rfl) (fun c113 => ?_) (fun c113 => absurd c113 (by omega))
              refine te_aload_n (p2 := 74) rfl rfl rfl ?_
              refine te_iload_n (p2 := 75) rfl rfl rfl ?_
              refine te_iload_n (p2 := 76) rfl rfl rfl ?_
              refine tc_V (p2 := 79) (i := 68) rfl rfl rfl rfl hI rfl rfl rfl (c_X3_swap (i := 1) (j := 1) hI (by decide) (by decide) (by decide) (by decide)) (by decide) (fun v114 h114 hq114 => ?_)
              obtain ⟨I114, g114, w114, Qa114, Qb114⟩ := hq114
              subst w114
              have f114 := fr_tr (F1 := F_X3_swap) (F := F_X3_goOn) f0 g114 (by decide)
              have s114 := Qa114 _ _ hg1 hg1
              show EvP _ _ _ (79, [(2, .int 1), (1, .int 1), (0, .ref 84)], [], h114) _
              refine te_iload_n (p2 := 80) rfl rfl rfl ?_
              refine te_iconst (p2 := 81) (x := 1) rfl rfl (by decide) ?_
              refine te_iadd (p2 := 82) (z := 2) rfl rfl (by decide) ?_
              refine te_istore_n (p2 := 83) (lv2 := [(3, .int 2), (2, .int 1), (1, .int 1), (0, .ref 84)]) rfl rfl (by decide) rfl ?_
              refine te_aload_n (p2 := 84) rfl rfl rfl ?_
              refine tg_e (p2 := 87) (i := 68) (v := .int 5) rfl rfl I114 rfl rfl ((g114 _ _ (by decide)).trans pr0) ?_
              refine te_iconst (p2 := 88) (x := 1) rfl rfl (by decide) ?_
              refine te_isub (p2 := 89) (z := 4) rfl rfl (by decide) ?_
              refine te_istore (p2 := 91) (lv2 := [(4, .int 4), (3, .int 2), (2, .int 1), (1, .int 1), (0, .ref 84)]) rfl rfl (by decide) rfl ?_
              refine te_iload_n (p2 := 92) rfl rfl rfl ?_
              refine te_iload (p2 := 94) rfl rfl rfl ?_
              refine tb_ge (p2 := 97) rfl rfl (show Int32.toInt 2 = 2 from rfl) (show Int32.toInt 4 = 4 from rfl) (fun c117 => absurd c117 (by omega)) (fun c117 => ?_)
              refine te_aload_n (p2 := 98) rfl rfl rfl ?_
              refine te_iload_n (p2 := 99) rfl rfl rfl ?_
              refine te_iload (p2 := 101) rfl rfl rfl ?_
              refine tc_V (p2 := 104) (i := 68) rfl rfl rfl rfl I114 rfl rfl rfl (c_X3_swap (i := 2) (j := 4) I114 (by decide) (by decide) (by decide) (by decide)) (by decide) (fun v118 h118 hq118 => ?_)
              obtain ⟨I118, g118, w118, Qa118, Qb118⟩ := hq118
              subst w118
              have f118 := fr_tr (F1 := F_X3_swap) (F := F_X3_goOn) f114 g118 (by decide)
              have s118 := Qa118 _ _ ((Qb114 (Int32.toInt 2).toNat (by decide) (by decide)).trans hg2) ((Qb114 (Int32.toInt 4).toNat (by decide) (by decide)).trans hg4)
              show EvP _ _ _ (104, [(4, .int 4), (3, .int 2), (2, .int 1), (1, .int 1), (0, .ref 84)], [], h118) _
              refine te_iinc (p2 := 107) (x := 2) (y := 3) (lv2 := [(3, .int 3), (4, .int 4), (2, .int 1), (1, .int 1), (0, .ref 84)]) rfl rfl (by decide) rfl (by decide) rfl ?_
              refine te_iinc (p2 := 110) (x := 4) (y := 3) (lv2 := [(4, .int 3), (3, .int 3), (2, .int 1), (1, .int 1), (0, .ref 84)]) rfl rfl (by decide) rfl (by decide) rfl ?_
              refine te_goto rfl ?_
              refine te_iload_n (p2 := 92) rfl rfl rfl ?_
              refine te_iload (p2 := 94) rfl rfl rfl ?_
              refine tb_ge (p2 := 97) rfl rfl (show Int32.toInt 3 = 3 from rfl) (show Int32.toInt 3 = 3 from rfl) (fun c121 => ?_) (fun c121 => absurd c121 (by omega))
              refine te_iconst (p2 := 114) (x := 1) rfl rfl (by decide) ?_
              exact te_zret rfl rfl (by decide) ⟨I118, f118, _, rfl, Or.inr ⟨rfl, (by rw [pq_xe5, on6_5, (pq_of (k := 0) hg0 : pq_n h 70 0 = g0.toInt.toNat), (pq_of (k := 1) hg1 : pq_n h 70 1 = g1.toInt.toNat), (pq_of (k := 2) hg2 : pq_n h 70 2 = g2.toInt.toNat), (pq_of (k := 3) hg3 : pq_n h 70 3 = g3.toInt.toNat), (pq_of (k := 4) hg4 : pq_n h 70 4 = g4.toInt.toNat), (pq_of (k := 0) ((Qb118 (Int32.toInt 0).toNat (by decide) (by decide)).trans ((Qb114 (Int32.toInt 0).toNat (by decide) (by decide)).trans hg0)) : pq_n h118 70 0 = g0.toInt.toNat), (pq_of (k := 1) ((Qb118 (Int32.toInt 1).toNat (by decide) (by decide)).trans s114.2) : pq_n h118 70 1 = g1.toInt.toNat), (pq_of (k := 2) s118.1 : pq_n h118 70 2 = g4.toInt.toNat), (pq_of (k := 3) ((Qb118 (Int32.toInt 3).toNat (by decide) (by decide)).trans ((Qb114 (Int32.toInt 3).toNat (by decide) (by decide)).trans hg3)) : pq_n h118 70 3 = g3.toInt.toNat), (pq_of (k := 4) s118.2 : pq_n h118 70 4 = g2.toInt.toNat)]; unfold pq_x5; rw [if_pos (by omega), if_pos (by omega), if_neg (by omega), if_pos (by omega), if_pos (by omega), if_pos (by omega)])⟩⟩
      · refine te_iinc (p2 := 31) (x := 1) (y := 0) (lv2 := [(1, .int 0), (0, .ref 84)]) rfl rfl (by decide) rfl (by decide) rfl ?_
        refine te_goto rfl ?_
        refine te_iload_n (p2 := 8) rfl rfl rfl ?_
        refine tz_lt (p2 := 11) rfl rfl (show Int32.toInt 0 = 0 from rfl) (fun c123 => absurd c123 (by omega)) (fun c123 => ?_)
        refine te_aload_n (p2 := 12) rfl rfl rfl ?_
        refine tg_r (p2 := 15) (i := 68) (r := 86) rfl rfl hI rfl rfl rfl ?_
        refine te_iload_n (p2 := 16) rfl rfl rfl ?_
        refine tl_e (p2 := 17) (i := 70) (n := 6) (t := 0) (Or.inl rfl) rfl rfl hI rfl rfl (by decide) (by decide) hg0 ?_
        refine te_aload_n (p2 := 18) rfl rfl rfl ?_
        refine tg_r (p2 := 21) (i := 68) (r := 86) rfl rfl hI rfl rfl rfl ?_
        refine te_iload_n (p2 := 22) rfl rfl rfl ?_
        refine te_iconst (p2 := 23) (x := 1) rfl rfl (by decide) ?_
        refine te_iadd (p2 := 24) (z := 1) rfl rfl (by decide) ?_
        refine tl_e (p2 := 25) (i := 70) (n := 6) (t := 0) (Or.inl rfl) rfl rfl hI rfl rfl (by decide) (by decide) hg1 ?_
        refine tb_le (p2 := 28) rfl rfl rfl rfl (fun c127 => ?_) (fun c127 => ?_)
        · refine te_iload_n (p2 := 35) rfl rfl rfl ?_
          refine tz_ge (p2 := 38) rfl rfl (show Int32.toInt 0 = 0 from rfl) (fun c128 => ?_) (fun c128 => absurd c128 (by omega))
          refine te_aload_n (p2 := 41) rfl rfl rfl ?_
          refine tg_e (p2 := 44) (i := 68) (v := .int 5) rfl rfl hI rfl rfl pr0 ?_
          refine te_iconst (p2 := 45) (x := 1) rfl rfl (by decide) ?_
          refine te_isub (p2 := 46) (z := 4) rfl rfl (by decide) ?_
          refine te_istore_n (p2 := 47) (lv2 := [(2, .int 4), (1, .int 0), (0, .ref 84)]) rfl rfl (by decide) rfl ?_
          refine te_iload_n (p2 := 48) rfl rfl rfl ?_
          refine te_iload_n (p2 := 49) rfl rfl rfl ?_
          refine tb_le (p2 := 52) rfl rfl (show Int32.toInt 4 = 4 from rfl) (show Int32.toInt 0 = 0 from rfl) (fun c130 => absurd c130 (by omega)) (fun c130 => ?_)
          refine te_aload_n (p2 := 53) rfl rfl rfl ?_
          refine tg_r (p2 := 56) (i := 68) (r := 86) rfl rfl hI rfl rfl rfl ?_
          refine te_iload_n (p2 := 57) rfl rfl rfl ?_
          refine tl_e (p2 := 58) (i := 70) (n := 6) (t := 0) (Or.inl rfl) rfl rfl hI rfl rfl (by decide) (by decide) hg4 ?_
          refine te_aload_n (p2 := 59) rfl rfl rfl ?_
          refine tg_r (p2 := 62) (i := 68) (r := 86) rfl rfl hI rfl rfl rfl ?_
          refine te_iload_n (p2 := 63) rfl rfl rfl ?_
          refine tl_e (p2 := 64) (i := 70) (n := 6) (t := 0) (Or.inl rfl) rfl rfl hI rfl rfl (by decide) (by decide) hg0 ?_
          refine tb_ge (p2 := 67) rfl rfl rfl rfl (fun c133 => ?_) (fun c133 => ?_)
          · refine te_aload_n (p2 := 74) rfl rfl rfl ?_
            refine te_iload_n (p2 := 75) rfl rfl rfl ?_
            refine te_iload_n (p2 := 76) rfl rfl rfl ?_
            refine tc_V (p2 := 79) (i := 68) rfl rfl rfl rfl hI rfl rfl rfl (c_X3_swap (i := 0) (j := 4) hI (by decide) (by decide) (by decide) (by decide)) (by decide) (fun v134 h134 hq134 => ?_)
            obtain ⟨I134, g134, w134, Qa134, Qb134⟩ := hq134
            subst w134
            have f134 := fr_tr (F1 := F_X3_swap) (F := F_X3_goOn) f0 g134 (by decide)
            have s134 := Qa134 _ _ hg0 hg4
            show EvP _ _ _ (79, [(2, .int 4), (1, .int 0), (0, .ref 84)], [], h134) _
            refine te_iload_n (p2 := 80) rfl rfl rfl ?_
            refine te_iconst (p2 := 81) (x := 1) rfl rfl (by decide) ?_
            refine te_iadd (p2 := 82) (z := 1) rfl rfl (by decide) ?_
            refine te_istore_n (p2 := 83) (lv2 := [(3, .int 1), (2, .int 4), (1, .int 0), (0, .ref 84)]) rfl rfl (by decide) rfl ?_
            refine te_aload_n (p2 := 84) rfl rfl rfl ?_
            refine tg_e (p2 := 87) (i := 68) (v := .int 5) rfl rfl I134 rfl rfl ((g134 _ _ (by decide)).trans pr0) ?_
            refine te_iconst (p2 := 88) (x := 1) rfl rfl (by decide) ?_
            refine te_isub (p2 := 89) (z := 4) rfl rfl (by decide) ?_
            refine te_istore (p2 := 91) (lv2 := [(4, .int 4), (3, .int 1), (2, .int 4), (1, .int 0), (0, .ref 84)]) rfl rfl (by decide) rfl ?_
            refine te_iload_n (p2 := 92) rfl rfl rfl ?_
            refine te_iload (p2 := 94) rfl rfl rfl ?_
            refine tb_ge (p2 := 97) rfl rfl (show Int32.toInt 1 = 1 from rfl) (show Int32.toInt 4 = 4 from rfl) (fun c137 => absurd c137 (by omega)) (fun c137 => ?_)
            refine te_aload_n (p2 := 98) rfl rfl rfl ?_
            refine te_iload_n (p2 := 99) rfl rfl rfl ?_
            refine te_iload (p2 := 101) rfl rfl rfl ?_
            refine tc_V (p2 := 104) (i := 68) rfl rfl rfl rfl I134 rfl rfl rfl (c_X3_swap (i := 1) (j := 4) I134 (by decide) (by decide) (by decide) (by decide)) (by decide) (fun v138 h138 hq138 => ?_)
            obtain ⟨I138, g138, w138, Qa138, Qb138⟩ := hq138
            subst w138
            have f138 := fr_tr (F1 := F_X3_swap) (F := F_X3_goOn) f134 g138 (by decide)
            have s138 := Qa138 _ _ ((Qb134 (Int32.toInt 1).toNat (by decide) (by decide)).trans hg1) s134.2
            show EvP _ _ _ (104, [(4, .int 4), (3, .int 1), (2, .int 4), (1, .int 0), (0, .ref 84)], [], h138) _
            refine te_iinc (p2 := 107) (x := 1) (y := 2) (lv2 := [(3, .int 2), (4, .int 4), (2, .int 4), (1, .int 0), (0, .ref 84)]) rfl rfl (by decide) rfl (by decide) rfl ?_
            refine te_iinc (p2 := 110) (x := 4) (y := 3) (lv2 := [(4, .int 3), (3, .int 2), (2, .int 4), (1, .int 0), (0, .ref 84)]) rfl rfl (by decide) rfl (by decide) rfl ?_
            refine te_goto rfl ?_
            refine te_iload_n (p2 := 92) rfl rfl rfl ?_
            refine te_iload (p2 := 94) rfl rfl rfl ?_
            refine tb_ge (p2 := 97) rfl rfl (show Int32.toInt 2 = 2 from rfl) (show Int32.toInt 3 = 3 from rfl) (fun c141 => absurd c141 (by omega)) (fun c141 => ?_)
            refine te_aload_n (p2 := 98) rfl rfl rfl ?_
            refine te_iload_n (p2 := 99) rfl rfl rfl ?_
            refine te_iload (p2 := 101) rfl rfl rfl ?_
            refine tc_V (p2 := 104) (i := 68) rfl rfl rfl rfl I138 rfl rfl rfl (c_X3_swap (i := 2) (j := 3) I138 (by decide) (by decide) (by decide) (by decide)) (by decide) (fun v142 h142 hq142 => ?_)
            obtain ⟨I142, g142, w142, Qa142, Qb142⟩ := hq142
            subst w142
            have f142 := fr_tr (F1 := F_X3_swap) (F := F_X3_goOn) f138 g142 (by decide)
            have s142 := Qa142 _ _ ((Qb138 (Int32.toInt 2).toNat (by decide) (by decide)).trans ((Qb134 (Int32.toInt 2).toNat (by decide) (by decide)).trans hg2)) ((Qb138 (Int32.toInt 3).toNat (by decide) (by decide)).trans ((Qb134 (Int32.toInt 3).toNat (by decide) (by decide)).trans hg3))
            show EvP _ _ _ (104, [(4, .int 3), (3, .int 2), (2, .int 4), (1, .int 0), (0, .ref 84)], [], h142) _
            refine te_iinc (p2 := 107) (x := 2) (y := 3) (lv2 := [(3, .int 3), (4, .int 3), (2, .int 4), (1, .int 0), (0, .ref 84)]) rfl rfl (by decide) rfl (by decide) rfl ?_
            refine te_iinc (p2 := 110) (x := 3) (y := 2) (lv2 := [(4, .int 2), (3, .int 3), (2, .int 4), (1, .int 0), (0, .ref 84)]) rfl rfl (by decide) rfl (by decide) rfl ?_
            refine te_goto rfl ?_
            refine te_iload_n (p2 := 92) rfl rfl rfl ?_
            refine te_iload (p2 := 94) rfl rfl rfl ?_
            refine tb_ge (p2 := 97) rfl rfl (show Int32.toInt 3 = 3 from rfl) (show Int32.toInt 2 = 2 from rfl) (fun c145 => ?_) (fun c145 => absurd c145 (by omega))
            refine te_iconst (p2 := 114) (x := 1) rfl rfl (by decide) ?_
            exact te_zret rfl rfl (by decide) ⟨I142, f142, _, rfl, Or.inr ⟨rfl, (by rw [pq_xe5, on6_5, (pq_of (k := 0) hg0 : pq_n h 70 0 = g0.toInt.toNat), (pq_of (k := 1) hg1 : pq_n h 70 1 = g1.toInt.toNat), (pq_of (k := 2) hg2 : pq_n h 70 2 = g2.toInt.toNat), (pq_of (k := 3) hg3 : pq_n h 70 3 = g3.toInt.toNat), (pq_of (k := 4) hg4 : pq_n h 70 4 = g4.toInt.toNat), (pq_of (k := 0) ((Qb142 (Int32.toInt 0).toNat (by decide) (by decide)).trans ((Qb138 (Int32.toInt 0).toNat (by decide) (by decide)).trans s134.1)) : pq_n h142 70 0 = g4.toInt.toNat), (pq_of (k := 1) ((Qb142 (Int32.toInt 1).toNat (by decide) (by decide)).trans s138.1) : pq_n h142 70 1 = g0.toInt.toNat), (pq_of (k := 2) s142.1 : pq_n h142 70 2 = g3.toInt.toNat), (pq_of (k := 3) s142.2 : pq_n h142 70 3 = g2.toInt.toNat), (pq_of (k := 4) ((Qb142 (Int32.toInt 4).toNat (by decide) (by decide)).trans s138.2) : pq_n h142 70 4 = g1.toInt.toNat)]; unfold pq_x5; rw [if_pos (by omega), if_pos (by omega), if_pos (by omega), if_neg (by omega), if_neg (by omega)])⟩⟩
          · refine te_iinc (p2 := 70) (x := 4) (y := 3) (lv2 := [(2, .int 3), (1, .int 0), (0, .ref 84)]) rfl rfl (by decide) rfl (by decide) rfl ?_
            refine te_goto rfl ?_
            refine te_iload_n (p2 := 48) rfl rfl rfl ?_
            refine te_iload_n (p2 := 49) rfl rfl rfl ?_
            refine tb_le (p2 := 52) rfl rfl (show Int32.toInt 3 = 3 from rfl) (show Int32.toInt 0 = 0 from rfl) (fun c147 => absurd c147 (by omega)) (fun c147 => ?_)
            refine te_aload_n (p2 := 53) rfl rfl rfl ?_
            refine tg_r (p2 := 56) (i := 68) (r := 86) rfl rfl hI rfl rfl rfl ?_
            refine te_iload_n (p2 := 57) rfl rfl rfl ?_
            refine tl_e (p2 := 58) (i := 70) (n := 6) (t := 0) (Or.inl rfl) rfl rfl hI rfl rfl (by decide) (by decide) hg3 ?_
            refine te_aload_n (p2 := 59) rfl rfl rfl ?_
            refine tg_r (p2 := 62) (i := 68) (r := 86) rfl rfl hI rfl rfl rfl ?_
            refine te_iload_n (p2 := 63) rfl rfl rfl ?_
            refine tl_e (p2 := 64) (i := 70) (n := 6) (t := 0) (Or.inl rfl) rfl rfl hI rfl rfl (by decide) (by decide) hg0 ?_
            refine tb_ge (p2 := 67) rfl rfl rfl rfl (fun c150 => ?_) (fun c150 => ?_)
            · refine te_aload_n (p2 := 74) rfl rfl rfl ?_
              refine te_iload_n (p2 := 75) rfl rfl rfl ?_
              refine te_iload_n (p2 := 76) rfl rfl rfl ?_
              refine tc_V (p2 := 79) (i := 68) rfl rfl rfl rfl hI rfl rfl rfl (c_X3_swap (i := 0) (j := 3) hI (by decide) (by decide) (by decide) (by decide)) (by decide) (fun v151 h151 hq151 => ?_)
              obtain ⟨I151, g151, w151, Qa151, Qb151⟩ := hq151
              subst w151
              have f151 := fr_tr (F1 := F_X3_swap) (F := F_X3_goOn) f0 g151 (by decide)
              have s151 := Qa151 _ _ hg0 hg3
              show EvP _ _ _ (79, [(2, .int 3), (1, .int 0), (0, .ref 84)], [], h151) _
              refine te_iload_n (p2 := 80) rfl rfl rfl ?_
              refine te_iconst (p2 := 81) (x := 1) rfl rfl (by decide) ?_
              refine te_iadd (p2 := 82) (z := 1) rfl rfl (by decide) ?_
              refine te_istore_n (p2 := 83) (lv2 := [(3, .int 1), (2, .int 3), (1, .int 0), (0, .ref 84)]) rfl rfl (by decide) rfl ?_
              refine te_aload_n (p2 := 84) rfl rfl rfl ?_
              refine tg_e (p2 := 87) (i := 68) (v := .int 5) rfl rfl I151 rfl rfl ((g151 _ _ (by decide)).trans pr0) ?_
              refine te_iconst (p2 := 88) (x := 1) rfl rfl (by decide) ?_
              refine te_isub (p2 := 89) (z := 4) rfl rfl (by decide) ?_
              refine te_istore (p2 := 91) (lv2 := [(4, .int 4), (3, .int 1), (2, .int 3), (1, .int 0), (0, .ref 84)]) rfl rfl (by decide) rfl ?_
              refine te_iload_n (p2 := 92) rfl rfl rfl ?_
              refine te_iload (p2 := 94) rfl rfl rfl ?_
              refine tb_ge (p2 := 97) rfl rfl (show Int32.toInt 1 = 1 from rfl) (show Int32.toInt 4 = 4 from rfl) (fun c154 => absurd c154 (by omega)) (fun c154 => ?_)
              refine te_aload_n (p2 := 98) rfl rfl rfl ?_
              refine te_iload_n (p2 := 99) rfl rfl rfl ?_
              refine te_iload (p2 := 101) rfl rfl rfl ?_
              refine tc_V (p2 := 104) (i := 68) rfl rfl rfl rfl I151 rfl rfl rfl (c_X3_swap (i := 1) (j := 4) I151 (by decide) (by decide) (by decide) (by decide)) (by decide) (fun v155 h155 hq155 => ?_)
              obtain ⟨I155, g155, w155, Qa155, Qb155⟩ := hq155
              subst w155
              have f155 := fr_tr (F1 := F_X3_swap) (F := F_X3_goOn) f151 g155 (by decide)
              have s155 := Qa155 _ _ ((Qb151 (Int32.toInt 1).toNat (by decide) (by decide)).trans hg1) ((Qb151 (Int32.toInt 4).toNat (by decide) (by decide)).trans hg4)
              show EvP _ _ _ (104, [(4, .int 4), (3, .int 1), (2, .int 3), (1, .int 0), (0, .ref 84)], [], h155) _
              refine te_iinc (p2 := 107) (x := 1) (y := 2) (lv2 := [(3, .int 2), (4, .int 4), (2, .int 3), (1, .int 0), (0, .ref 84)]) rfl rfl (by decide) rfl (by decide) rfl ?_
              refine te_iinc (p2 := 110) (x := 4) (y := 3) (lv2 := [(4, .int 3), (3, .int 2), (2, .int 3), (1, .int 0), (0, .ref 84)]) rfl rfl (by decide) rfl (by decide) rfl ?_
              refine te_goto rfl ?_
              refine te_iload_n (p2 := 92) rfl rfl rfl ?_
              refine te_iload (p2 := 94) rfl rfl rfl ?_
              refine tb_ge (p2 := 97) rfl rfl (show Int32.toInt 2 = 2 from rfl) (show Int32.toInt 3 = 3 from rfl) (fun c158 => absurd c158 (by omega)) (fun c158 => ?_)
              refine te_aload_n (p2 := 98) rfl rfl rfl ?_
              refine te_iload_n (p2 := 99) rfl rfl rfl ?_
              refine te_iload (p2 := 101) rfl rfl rfl ?_
              refine tc_V (p2 := 104) (i := 68) rfl rfl rfl rfl I155 rfl rfl rfl (c_X3_swap (i := 2) (j := 3) I155 (by decide) (by decide) (by decide) (by decide)) (by decide) (fun v159 h159 hq159 => ?_)
              obtain ⟨I159, g159, w159, Qa159, Qb159⟩ := hq159
              subst w159
              have f159 := fr_tr (F1 := F_X3_swap) (F := F_X3_goOn) f155 g159 (by decide)
              have s159 := Qa159 _ _ ((Qb155 (Int32.toInt 2).toNat (by decide) (by decide)).trans ((Qb151 (Int32.toInt 2).toNat (by decide) (by decide)).trans hg2)) ((Qb155 (Int32.toInt 3).toNat (by decide) (by decide)).trans s151.2)
              show EvP _ _ _ (104, [(4, .int 3), (3, .int 2), (2, .int 3), (1, .int 0), (0, .ref 84)], [], h159) _
              refine te_iinc (p2 := 107) (x := 2) (y := 3) (lv2 := [(3, .int 3), (4, .int 3), (2, .int 3), (1, .int 0), (0, .ref 84)]) rfl rfl (by decide) rfl (by decide) rfl ?_
              refine te_iinc (p2 := 110) (x := 3) (y := 2) (lv2 := [(4, .int 2), (3, .int 3), (2, .int 3), (1, .int 0), (0, .ref 84)]) rfl rfl (by decide) rfl (by decide) rfl ?_
              refine te_goto rfl ?_
              refine te_iload_n (p2 := 92) rfl rfl rfl ?_
              refine te_iload (p2 := 94) rfl rfl rfl ?_
              refine tb_ge (p2 := 97) rfl rfl (show Int32.toInt 3 = 3 from rfl) (show Int32.toInt 2 = 2 from rfl) (fun c162 => ?_) (fun c162 => absurd c162 (by omega))
              refine te_iconst (p2 := 114) (x := 1) rfl rfl (by decide) ?_
              exact te_zret rfl rfl (by decide) ⟨I159, f159, _, rfl, Or.inr ⟨rfl, (by rw [pq_xe5, on6_5, (pq_of (k := 0) hg0 : pq_n h 70 0 = g0.toInt.toNat), (pq_of (k := 1) hg1 : pq_n h 70 1 = g1.toInt.toNat), (pq_of (k := 2) hg2 : pq_n h 70 2 = g2.toInt.toNat), (pq_of (k := 3) hg3 : pq_n h 70 3 = g3.toInt.toNat), (pq_of (k := 4) hg4 : pq_n h 70 4 = g4.toInt.toNat), (pq_of (k := 0) ((Qb159 (Int32.toInt 0).toNat (by decide) (by decide)).trans ((Qb155 (Int32.toInt 0).toNat (by decide) (by decide)).trans s151.1)) : pq_n h159 70 0 = g3.toInt.toNat), (pq_of (k := 1) ((Qb159 (Int32.toInt 1).toNat (by decide) (by decide)).trans s155.1) : pq_n h159 70 1 = g4.toInt.toNat), (pq_of (k := 2) s159.1 : pq_n h159 70 2 = g0.toInt.toNat), (pq_of (k := 3) s159.2 : pq_n h159 70 3 = g2.toInt.toNat), (pq_of (k := 4) ((Qb159 (Int32.toInt 4).toNat (by decide) (by decide)).trans s155.2) : pq_n h159 70 4 = g1.toInt.toNat)]; unfold pq_x5; rw [if_pos (by omega), if_pos (by omega), if_pos (by omega), if_neg (by omega), if_pos (by omega), if_neg (by omega)])⟩⟩
            · refine te_iinc (p2 := 70) (x := 3) (y := 2) (lv2 := [(2, .int 2), (1, .int 0), (0, .ref 84)]) rfl rfl (by decide) rfl (by decide) rfl ?_
              refine te_goto rfl ?_
              refine te_iload_n (p2 := 48) rfl rfl rfl ?_
              refine te_iload_n (p2 := 49) rfl rfl rfl ?_
              refine tb_le (p2 := 52) rfl rfl (show Int32.toInt 2 = 2 from rfl) (show Int32.toInt 0 = 0 from rfl) (fun c164 => absurd c164 (by omega)) (fun c164 => ?_)
              refine te_aload_n (p2 := 53) rfl rfl rfl ?_
              refine tg_r (p2 := 56) (i := 68) (r := 86) rfl rfl hI rfl rfl rfl ?_
              refine te_iload_n (p2 := 57) rfl rfl rfl ?_
              refine tl_e (p2 := 58) (i := 70) (n := 6) (t := 0) (Or.inl rfl) rfl rfl hI rfl rfl (by decide) (by decide) hg2 ?_
              refine te_aload_n (p2 := 59) rfl rfl rfl ?_
              refine tg_r (p2 := 62) (i := 68) (r := 86) rfl rfl hI rfl rfl rfl ?_
              refine te_iload_n (p2 := 63) rfl rfl rfl ?_
              refine tl_e (p2 := 64) (i := 70) (n := 6) (t := 0) (Or.inl rfl) rfl rfl hI rfl rfl (by decide) (by decide) hg0 ?_
              refine tb_ge (p2 := 67) rfl rfl rfl rfl (fun c167 => ?_) (fun c167 => ?_)
              · refine te_aload_n (p2 := 74) rfl rfl rfl ?_
                refine te_iload_n (p2 := 75) rfl rfl rfl ?_
                refine te_iload_n (p2 := 76) rfl rfl rfl ?_
                refine tc_V (p2 := 79) (i := 68) rfl rfl rfl rfl hI rfl rfl rfl (c_X3_swap (i := 0) (j := 2) hI (by decide) (by decide) (by decide) (by decide)) (by decide) (fun v168 h168 hq168 => ?_)
                obtain ⟨I168, g168, w168, Qa168, Qb168⟩ := hq168
                subst w168
                have f168 := fr_tr (F1 := F_X3_swap) (F := F_X3_goOn) f0 g168 (by decide)
                have s168 := Qa168 _ _ hg0 hg2
                show EvP _ _ _ (79, [(2, .int 2), (1, .int 0), (0, .ref 84)], [], h168) _
                refine te_iload_n (p2 := 80) rfl rfl rfl ?_
                refine te_iconst (p2 := 81) (x := 1) rfl rfl (by decide) ?_
                refine te_iadd (p2 := 82) (z := 1) rfl rfl (by decide) ?_
                refine te_istore_n (p2 := 83) (lv2 := [(3, .int 1), (2, .int 2), (1, .int 0), (0, .ref 84)]) rfl rfl (by decide) rfl ?_
                refine te_aload_n (p2 := 84) rfl rfl rfl ?_
                refine tg_e (p2 := 87) (i := 68) (v := .int 5) rfl rfl I168 rfl rfl ((g168 _ _ (by decide)).trans pr0) ?_
                refine te_iconst (p2 := 88) (x := 1) rfl rfl (by decide) ?_
                refine te_isub (p2 := 89) (z := 4) rfl rfl (by decide) ?_
                refine te_istore (p2 := 91) (lv2 := [(4, .int 4), (3, .int 1), (2, .int 2), (1, .int 0), (0, .ref 84)]) rfl rfl (by decide) rfl ?_
                refine te_iload_n (p2 := 92) rfl rfl rfl ?_
                refine te_iload (p2 := 94) rfl rfl rfl ?_
                refine tb_ge (p2 := 97) rfl rfl (show Int32.toInt 1 = 1 from rfl) (show Int32.toInt 4 = 4 from rfl) (fun c171 => absurd c171 (by omega)) (fun c171 => ?_)
                refine te_aload_n (p2 := 98) rfl rfl rfl ?_
                refine te_iload_n (p2 := 99) rfl rfl rfl ?_
                refine te_iload (p2 := 101) rfl rfl rfl ?_
                refine tc_V (p2 := 104) (i := 68) rfl rfl rfl rfl I168 rfl rfl rfl (c_X3_swap (i := 1) (j := 4) I168 (by decide) (by decide) (by decide) (by decide)) (by decide) (fun v172 h172 hq172 => ?_)
                obtain ⟨I172, g172, w172, Qa172, Qb172⟩ := hq172
                subst w172
                have f172 := fr_tr (F1 := F_X3_swap) (F := F_X3_goOn) f168 g172 (by decide)
                have s172 := Qa172 _ _ ((Qb168 (Int32.toInt 1).toNat (by decide) (by decide)).trans hg1) ((Qb168 (Int32.toInt 4).toNat (by decide) (by decide)).trans hg4)
                show EvP _ _ _ (104, [(4, .int 4), (3, .int 1), (2, .int 2), (1, .int 0), (0, .ref 84)], [], h172) _
                refine te_iinc (p2 := 107) (x := 1) (y := 2) (lv2 := [(3, .int 2), (4, .int 4), (2, .int 2), (1, .int 0), (0, .ref 84)]) rfl rfl (by decide) rfl (by decide) rfl ?_
                refine te_iinc (p2 := 110) (x := 4) (y := 3) (lv2 := [(4, .int 3), (3, .int 2), (2, .int 2), (1, .int 0), (0, .ref 84)]) rfl rfl (by decide) rfl (by decide) rfl ?_
                refine te_goto rfl ?_
                refine te_iload_n (p2 := 92) rfl rfl rfl ?_
                refine te_iload (p2 := 94) rfl rfl rfl ?_
                refine tb_ge (p2 := 97) rfl rfl (show Int32.toInt 2 = 2 from rfl) (show Int32.toInt 3 = 3 from rfl) (fun c175 => absurd c175 (by omega)) (fun c175 => ?_)
                refine te_aload_n (p2 := 98) rfl rfl rfl ?_
                refine te_iload_n (p2 := 99) rfl rfl rfl ?_
                refine te_iload (p2 := 101) rfl rfl rfl ?_
                refine tc_V (p2 := 104) (i := 68) rfl rfl rfl rfl I172 rfl rfl rfl (c_X3_swap (i := 2) (j := 3) I172 (by decide) (by decide) (by decide) (by decide)) (by decide) (fun v176 h176 hq176 => ?_)
                obtain ⟨I176, g176, w176, Qa176, Qb176⟩ := hq176
                subst w176
                have f176 := fr_tr (F1 := F_X3_swap) (F := F_X3_goOn) f172 g176 (by decide)
                have s176 := Qa176 _ _ ((Qb172 (Int32.toInt 2).toNat (by decide) (by decide)).trans s168.2) ((Qb172 (Int32.toInt 3).toNat (by decide) (by decide)).trans ((Qb168 (Int32.toInt 3).toNat (by decide) (by decide)).trans hg3))
                show EvP _ _ _ (104, [(4, .int 3), (3, .int 2), (2, .int 2), (1, .int 0), (0, .ref 84)], [], h176) _
                refine te_iinc (p2 := 107) (x := 2) (y := 3) (lv2 := [(3, .int 3), (4, .int 3), (2, .int 2), (1, .int 0), (0, .ref 84)]) rfl rfl (by decide) rfl (by decide) rfl ?_
                refine te_iinc (p2 := 110) (x := 3) (y := 2) (lv2 := [(4, .int 2), (3, .int 3), (2, .int 2), (1, .int 0), (0, .ref 84)]) rfl rfl (by decide) rfl (by decide) rfl ?_
                refine te_goto rfl ?_
                refine te_iload_n (p2 := 92) rfl rfl rfl ?_
                refine te_iload (p2 := 94) rfl rfl rfl ?_
                refine tb_ge (p2 := 97) rfl rfl (show Int32.toInt 3 = 3 from rfl) (show Int32.toInt 2 = 2 from rfl) (fun c179 => ?_) (fun c179 => absurd c179 (by omega))
                refine te_iconst (p2 := 114) (x := 1) rfl rfl (by decide) ?_
                exact te_zret rfl rfl (by decide) ⟨I176, f176, _, rfl, Or.inr ⟨rfl, (by rw [pq_xe5, on6_5, (pq_of (k := 0) hg0 : pq_n h 70 0 = g0.toInt.toNat), (pq_of (k := 1) hg1 : pq_n h 70 1 = g1.toInt.toNat), (pq_of (k := 2) hg2 : pq_n h 70 2 = g2.toInt.toNat), (pq_of (k := 3) hg3 : pq_n h 70 3 = g3.toInt.toNat), (pq_of (k := 4) hg4 : pq_n h 70 4 = g4.toInt.toNat), (pq_of (k := 0) ((Qb176 (Int32.toInt 0).toNat (by decide) (by decide)).trans ((Qb172 (Int32.toInt 0).toNat (by decide) (by decide)).trans s168.1)) : pq_n h176 70 0 = g2.toInt.toNat), (pq_of (k := 1) ((Qb176 (Int32.toInt 1).toNat (by decide) (by decide)).trans s172.1) : pq_n h176 70 1 = g4.toInt.toNat), (pq_of (k := 2) s176.1 : pq_n h176 70 2 = g3.toInt.toNat), (pq_of (k := 3) s176.2 : pq_n h176 70 3 = g0.toInt.toNat), (pq_of (k := 4) ((Qb176 (Int32.toInt 4).toNat (by decide) (by decide)).trans s172.2) : pq_n h176 70 4 = g1.toInt.toNat)]; unfold pq_x5; rw [if_pos (by omega), if_pos (by omega), if_pos (by omega), if_neg (by omega), if_pos (by omega), if_pos (by omega), if_neg (by omega)])⟩⟩
              · refine te_iinc (p2 := 70) (x := 2) (y := 1) (lv2 := [(2, .int 1), (1, .int 0), (0, .ref 84)]) rfl rfl (by decide) rfl (by decide) rfl ?_
                refine te_goto rfl ?_
                refine te_iload_n (p2 := 48) rfl rfl rfl ?_
                refine te_iload_n (p2 := 49) rfl rfl rfl ?_
                refine tb_le (p2 := 52) rfl rfl (show Int32.toInt 1 = 1 from rfl) (show Int32.toInt 0 = 0 from rfl) (fun c181 => absurd c181 (by omega)) (fun c181 => ?_)
                refine te_aload_n (p2 := 53) rfl rfl rfl ?_
                refine tg_r (p2 := 56) (i := 68) (r := 86) rfl rfl hI rfl rfl rfl ?_
                refine te_iload_n (p2 := 57) rfl rfl rfl ?_
                refine tl_e (p2 := 58) (i := 70) (n := 6) (t := 0) (Or.inl rfl) rfl rfl hI rfl rfl (by decide) (by decide) hg1 ?_
                refine te_aload_n (p2 := 59) rfl rfl rfl ?_
                refine tg_r (p2 := 62) (i := 68) (r := 86) rfl rfl hI rfl rfl rfl ?_
                refine te_iload_n (p2 := 63) rfl rfl rfl ?_
                refine tl_e (p2 := 64) (i := 70) (n := 6) (t := 0) (Or.inl rfl) rfl rfl hI rfl rfl (by decide) (by decide) hg0 ?_
                refine tb_ge (p2 := 67) rfl rfl rfl rfl (fun c184 => ?_) (fun c184 => ?_)
                · refine te_aload_n (p2 := 74) rfl rfl rfl ?_
                  refine te_iload_n (p2 := 75) rfl rfl rfl ?_
                  refine te_iload_n (p2 := 76) rfl rfl rfl ?_
                  refine tc_V (p2 := 79) (i := 68) rfl rfl rfl rfl hI rfl rfl rfl (c_X3_swap (i := 0) (j := 1) hI (by decide) (by decide) (by decide) (by decide)) (by decide) (fun v185 h185 hq185 => ?_)
                  obtain ⟨I185, g185, w185, Qa185, Qb185⟩ := hq185
                  subst w185
                  have f185 := fr_tr (F1 := F_X3_swap) (F := F_X3_goOn) f0 g185 (by decide)
                  have s185 := Qa185 _ _ hg0 hg1
                  show EvP _ _ _ (79, [(2, .int 1), (1, .int 0), (0, .ref 84)], [], h185) _
                  refine te_iload_n (p2 := 80) rfl rfl rfl ?_
                  refine te_iconst (p2 := 81) (x := 1) rfl rfl (by decide) ?_
                  refine te_iadd (p2 := 82) (z := 1) rfl rfl (by decide) ?_
                  refine te_istore_n (p2 := 83) (lv2 := [(3, .int 1), (2, .int 1), (1, .int 0), (0, .ref 84)]) rfl rfl (by decide) rfl ?_
                  refine te_aload_n (p2 := 84) rfl rfl rfl ?_
                  refine tg_e (p2 := 87) (i := 68) (v := .int 5) rfl rfl I185 rfl rfl ((g185 _ _ (by decide)).trans pr0) ?_
                  refine te_iconst (p2 := 88) (x := 1) rfl rfl (by decide) ?_
                  refine te_isub (p2 := 89) (z := 4) rfl rfl (by decide) ?_
                  refine te_istore (p2 := 91) (lv2 := [(4, .int 4), (3, .int 1), (2, .int 1), (1, .int 0), (0, .ref 84)]) rfl rfl (by decide) rfl ?_
                  refine te_iload_n (p2 := 92) rfl rfl rfl ?_
                  refine te_iload (p2 := 94) rfl rfl rfl ?_
                  refine tb_ge (p2 := 97) rfl rfl (show Int32.toInt 1 = 1 from rfl) (show Int32.toInt 4 = 4 from rfl) (fun c188 => absurd c188 (by omega)) (fun c188 => ?_)
                  refine te_aload_n (p2 := 98) rfl rfl rfl ?_
                  refine te_iload_n (p2 := 99) rfl rfl rfl ?_
                  refine te_iload (p2 := 101) rfl rfl rfl ?_
                  refine tc_V (p2 := 104) (i := 68) rfl rfl rfl rfl I185 rfl rfl rfl (c_X3_swap (i := 1) (j := 4) I185 (by decide) (by decide) (by decide) (by decide)) (by decide) (fun v189 h189 hq189 => ?_)
                  obtain ⟨I189, g189, w189, Qa189, Qb189⟩ := hq189
                  subst w189
                  have f189 := fr_tr (F1 := F_X3_swap) (F := F_X3_goOn) f185 g189 (by decide)
                  have s189 := Qa189 _ _ s185.2 ((Qb185 (Int32.toInt 4).toNat (by decide) (by decide)).trans hg4)
                  show EvP _ _ _ (104, [(4, .int 4), (3, .int 1), (2, .int 1), (1, .int 0), (0, .ref 84)], [], h189) _
                  refine te_iinc (p2 := 107) (x := 1) (y := 2) (lv2 := [(3, .int 2), (4, .int 4), (2, .int 1), (1, .int 0), (0, .ref 84)]) rfl rfl (by decide) rfl (by decide) rfl ?_
                  refine te_iinc (p2 := 110) (x := 4) (y := 3) (lv2 := [(4, .int 3), (3, .int 2), (2, .int 1), (1, .int 0), (0, .ref 84)]) rfl rfl (by decide) rfl (by decide) rfl ?_
                  refine te_goto rfl ?_
                  refine te_iload_n (p2 := 92) rfl rfl rfl ?_
                  refine te_iload (p2 := 94) rfl rfl rfl ?_
                  refine tb_ge (p2 := 97) rfl rfl (show Int32.toInt 2 = 2 from rfl) (show Int32.toInt 3 = 3 from rfl) (fun c192 => absurd c192 (by omega)) (fun c192 => ?_)
                  refine te_aload_n (p2 := 98) rfl rfl rfl ?_
                  refine te_iload_n (p2 := 99) rfl rfl rfl ?_
                  refine te_iload (p2 := 101) rfl rfl rfl ?_
                  refine tc_V (p2 := 104) (i := 68) rfl rfl rfl rfl I189 rfl rfl rfl (c_X3_swap (i := 2) (j := 3) I189 (by decide) (by decide) (by decide) (by decide)) (by decide) (fun v193 h193 hq193 => ?_)
                  obtain ⟨I193, g193, w193, Qa193, Qb193⟩ := hq193
                  subst w193
                  have f193 := fr_tr (F1 := F_X3_swap) (F := F_X3_goOn) f189 g193 (by decide)
                  have s193 := Qa193 _ _ ((Qb189 (Int32.toInt 2).toNat (by decide) (by decide)).trans ((Qb185 (Int32.toInt 2).toNat (by decide) (by decide)).trans hg2)) ((Qb189 (Int32.toInt 3).toNat (by decide) (by decide)).trans ((Qb185 (Int32.toInt 3).toNat (by decide) (by decide)).trans hg3))
                  show EvP _ _ _ (104, [(4, .int 3), (3, .int 2), (2, .int 1), (1, .int 0), (0, .ref 84)], [], h193) _
                  refine te_iinc (p2 := 107) (x := 2) (y := 3) (lv2 := [(3, .int 3), (4, .int 3), (2, .int 1), (1, .int 0), (0, .ref 84)]) rfl rfl (by decide) rfl (by decide) rfl ?_
                  refine te_iinc (p2 := 110) (x := 3) (y := 2) (lv2 := [(4, .int 2), (3, .int 3), (2, .int 1), (1, .int 0), (0, .ref 84)]) rfl rfl (by decide) rfl (by decide) rfl ?_
                  refine te_goto rfl ?_
                  refine te_iload_n (p2 := 92) rfl rfl rfl ?_
                  refine te_iload (p2 := 94) rfl rfl rfl ?_
                  refine tb_ge (p2 := 97) rfl rfl (show Int32.toInt 3 = 3 from rfl) (show Int32.toInt 2 = 2 from rfl) (fun c196 => ?_) (fun c196 => absurd c196 (by omega))
                  refine te_iconst (p2 := 114) (x := 1) rfl rfl (by decide) ?_
                  exact te_zret rfl rfl (by decide) ⟨I193, f193, _, rfl, Or.inr ⟨rfl, (by rw [pq_xe5, on6_5, (pq_of (k := 0) hg0 : pq_n h 70 0 = g0.toInt.toNat), (pq_of (k := 1) hg1 : pq_n h 70 1 = g1.toInt.toNat), (pq_of (k := 2) hg2 : pq_n h 70 2 = g2.toInt.toNat), (pq_of (k := 3) hg3 : pq_n h 70 3 = g3.toInt.toNat), (pq_of (k := 4) hg4 : pq_n h 70 4 = g4.toInt.toNat), (pq_of (k := 0) ((Qb193 (Int32.toInt 0).toNat (by decide) (by decide)).trans ((Qb189 (Int32.toInt 0).toNat (by decide) (by decide)).trans s185.1)) : pq_n h193 70 0 = g1.toInt.toNat), (pq_of (k := 1) ((Qb193 (Int32.toInt 1).toNat (by decide) (by decide)).trans s189.1) : pq_n h193 70 1 = g4.toInt.toNat), (pq_of (k := 2) s193.1 : pq_n h193 70 2 = g3.toInt.toNat), (pq_of (k := 3) s193.2 : pq_n h193 70 3 = g2.toInt.toNat), (pq_of (k := 4) ((Qb193 (Int32.toInt 4).toNat (by decide) (by decide)).trans s189.2) : pq_n h193 70 4 = g0.toInt.toNat)]; unfold pq_x5; rw [if_pos (by omega), if_pos (by omega), if_pos (by omega), if_neg (by omega), if_pos (by omega), if_pos (by omega), if_pos (by omega), if_neg (by omega)])⟩⟩
                · refine te_iinc (p2 := 70) (x := 1) (y := 0) (lv2 := [(2, .int 0), (1, .int 0), (0, .ref 84)]) rfl rfl (by decide) rfl (by decide) rfl ?_
                  refine te_goto rfl ?_
                  refine te_iload_n (p2 := 48) rfl rfl rfl ?_
                  refine te_iload_n (p2 := 49) rfl rfl rfl ?_
                  refine tb_le (p2 := 52) rfl rfl (show Int32.toInt 0 = 0 from rfl) (show Int32.toInt 0 = 0 from rfl) (fun c198 => ?_) (fun c198 => absurd c198 (by omega))
                  refine te_aload_n (p2 := 74) rfl rfl rfl ?_
                  refine te_iload_n (p2 := 75) rfl rfl rfl ?_
                  refine te_iload_n (p2 := 76) rfl rfl rfl ?_
                  refine tc_V (p2 := 79) (i := 68) rfl rfl rfl rfl hI rfl rfl rfl (c_X3_swap (i := 0) (j := 0) hI (by decide) (by decide) (by decide) (by decide)) (by decide) (fun v199 h199 hq199 => ?_)
                  obtain ⟨I199, g199, w199, Qa199, Qb199⟩ := hq199
                  subst w199
                  have f199 := fr_tr (F1 := F_X3_swap) (F := F_X3_goOn) f0 g199 (by decide)
                  have s199 := Qa199 _ _ hg0 hg0
                  show EvP _ _ _ (79, [(2, .int 0), (1, .int 0), (0, .ref 84)], [], h199) _
                  refine te_iload_n (p2 := 80) rfl rfl rfl ?_
                  refine te_iconst (p2 := 81) (x := 1) rfl rfl (by decide) ?_
                  refine te_iadd (p2 := 82) (z := 1) rfl rfl (by decide) ?_
                  refine te_istore_n (p2 := 83) (lv2 := [(3, .int 1), (2, .int 0), (1, .int 0), (0, .ref 84)]) rfl rfl (by decide) rfl ?_
                  refine te_aload_n (p2 := 84) rfl rfl rfl ?_
                  refine tg_e (p2 := 87) (i := 68) (v := .int 5) rfl rfl I199 rfl rfl ((g199 _ _ (by decide)).trans pr0) ?_
                  refine te_iconst (p2 := 88) (x := 1) rfl rfl (by decide) ?_
                  refine te_isub (p2 := 89) (z := 4) rfl rfl (by decide) ?_
                  refine te_istore (p2 := 91) (lv2 := [(4, .int 4), (3, .int 1), (2, .int 0), (1, .int 0), (0, .ref 84)]) rfl rfl (by decide) rfl ?_
                  refine te_iload_n (p2 := 92) rfl rfl rfl ?_
                  refine te_iload (p2 := 94) rfl rfl rfl ?_
                  refine tb_ge (p2 := 97) rfl rfl (show Int32.toInt 1 = 1 from rfl) (show Int32.toInt 4 = 4 from rfl) (fun c202 => absurd c202 (by omega)) (fun c202 => ?_)
                  refine te_aload_n (p2 := 98) rfl rfl rfl ?_
                  refine te_iload_n (p2 := 99) rfl rfl rfl ?_
                  refine te_iload (p2 := 101) rfl rfl rfl ?_
                  refine tc_V (p2 := 104) (i := 68) rfl rfl rfl rfl I199 rfl rfl rfl (c_X3_swap (i := 1) (j := 4) I199 (by decide) (by decide) (by decide) (by decide)) (by decide) (fun v203 h203 hq203 => ?_)
                  obtain ⟨I203, g203, w203, Qa203, Qb203⟩ := hq203
                  subst w203
                  have f203 := fr_tr (F1 := F_X3_swap) (F := F_X3_goOn) f199 g203 (by decide)
                  have s203 := Qa203 _ _ ((Qb199 (Int32.toInt 1).toNat (by decide) (by decide)).trans hg1) ((Qb199 (Int32.toInt 4).toNat (by decide) (by decide)).trans hg4)
                  show EvP _ _ _ (104, [(4, .int 4), (3, .int 1), (2, .int 0), (1, .int 0), (0, .ref 84)], [], h203) _
                  refine te_iinc (p2 := 107) (x := 1) (y := 2) (lv2 := [(3, .int 2), (4, .int 4), (2, .int 0), (1, .int 0), (0, .ref 84)]) rfl rfl (by decide) rfl (by decide) rfl ?_
                  refine te_iinc (p2 := 110) (x := 4) (y := 3) (lv2 := [(4, .int 3), (3, .int 2), (2, .int 0), (1, .int 0), (0, .ref 84)]) rfl rfl (by decide) rfl (by decide) rfl ?_
                  refine te_goto rfl ?_
                  refine te_iload_n (p2 := 92) rfl rfl rfl ?_
                  refine te_iload (p2 := 94) rfl rfl rfl ?_
                  refine tb_ge (p2 := 97) rfl rfl (show Int32.toInt 2 = 2 from rfl) (show Int32.toInt 3 = 3 from rfl) (fun c206 => absurd c206 (by omega)) (fun c206 => ?_)
                  refine te_aload_n (p2 := 98) rfl rfl rfl ?_
                  refine te_iload_n (p2 := 99) rfl rfl rfl ?_
                  refine te_iload (p2 := 101) rfl rfl rfl ?_
                  refine tc_V (p2 := 104) (i := 68) rfl rfl rfl rfl I203 rfl rfl rfl (c_X3_swap (i := 2) (j := 3) I203 (by decide) (by decide) (by decide) (by decide)) (by decide) (fun v207 h207 hq207 => ?_)
                  obtain ⟨I207, g207, w207, Qa207, Qb207⟩ := hq207
                  subst w207
                  have f207 := fr_tr (F1 := F_X3_swap) (F := F_X3_goOn) f203 g207 (by decide)
                  have s207 := Qa207 _ _ ((Qb203 (Int32.toInt 2).toNat (by decide) (by decide)).trans ((Qb199 (Int32.toInt 2).toNat (by decide) (by decide)).trans hg2)) ((Qb203 (Int32.toInt 3).toNat (by decide) (by decide)).trans ((Qb199 (Int32.toInt 3).toNat (by decide) (by decide)).trans hg3))
                  show EvP _ _ _ (104, [(4, .int 3), (3, .int 2), (2, .int 0), (1, .int 0), (0, .ref 84)], [], h207) _
                  refine te_iinc (p2 := 107) (x := 2) (y := 3) (lv2 := [(3, .int 3), (4, .int 3), (2, .int 0), (1, .int 0), (0, .ref 84)]) rfl rfl (by decide) rfl (by decide) rfl ?_
                  refine te_iinc (p2 := 110) (x := 3) (y := 2) (lv2 := [(4, .int 2), (3, .int 3), (2, .int 0), (1, .int 0), (0, .ref 84)]) rfl rfl (by decide) rfl (by decide) rfl ?_
                  refine te_goto rfl ?_
                  refine te_iload_n (p2 := 92) rfl rfl rfl ?_
                  refine te_iload (p2 := 94) rfl rfl rfl ?_
                  refine tb_ge (p2 := 97) rfl rfl (show Int32.toInt 3 = 3 from rfl) (show Int32.toInt 2 = 2 from rfl) (fun c210 => ?_) (fun c210 => absurd c210 (by omega))
                  refine te_iconst (p2 := 114) (x := 1) rfl rfl (by decide) ?_
                  exact te_zret rfl rfl (by decide) ⟨I207, f207, _, rfl, Or.inr ⟨rfl, (by rw [pq_xe5, on6_5, (pq_of (k := 0) hg0 : pq_n h 70 0 = g0.toInt.toNat), (pq_of (k := 1) hg1 : pq_n h 70 1 = g1.toInt.toNat), (pq_of (k := 2) hg2 : pq_n h 70 2 = g2.toInt.toNat), (pq_of (k := 3) hg3 : pq_n h 70 3 = g3.toInt.toNat), (pq_of (k := 4) hg4 : pq_n h 70 4 = g4.toInt.toNat), (pq_of (k := 0) ((Qb207 (Int32.toInt 0).toNat (by decide) (by decide)).trans ((Qb203 (Int32.toInt 0).toNat (by decide) (by decide)).trans s199.2)) : pq_n h207 70 0 = g0.toInt.toNat), (pq_of (k := 1) ((Qb207 (Int32.toInt 1).toNat (by decide) (by decide)).trans s203.1) : pq_n h207 70 1 = g4.toInt.toNat), (pq_of (k := 2) s207.1 : pq_n h207 70 2 = g3.toInt.toNat), (pq_of (k := 3) s207.2 : pq_n h207 70 3 = g2.toInt.toNat), (pq_of (k := 4) ((Qb207 (Int32.toInt 4).toNat (by decide) (by decide)).trans s203.2) : pq_n h207 70 4 = g1.toInt.toNat)]; unfold pq_x5; rw [if_pos (by omega), if_pos (by omega), if_pos (by omega), if_neg (by omega), if_pos (by omega), if_pos (by omega), if_pos (by omega), if_pos (by omega)])⟩⟩
        · refine te_iinc (p2 := 31) (x := 0) (y := (-1)) (lv2 := [(1, .int (-1)), (0, .ref 84)]) rfl rfl (by decide) rfl (by decide) rfl ?_
          refine te_goto rfl ?_
          refine te_iload_n (p2 := 8) rfl rfl rfl ?_
          refine tz_lt (p2 := 11) rfl rfl (show Int32.toInt (-1) = (-1) from rfl) (fun c212 => ?_) (fun c212 => absurd c212 (by omega))
          refine te_iload_n (p2 := 35) rfl rfl rfl ?_
          refine tz_ge (p2 := 38) rfl rfl (show Int32.toInt (-1) = (-1) from rfl) (fun c213 => absurd c213 (by omega)) (fun c213 => ?_)
          refine te_iconst (p2 := 39) (x := 0) rfl rfl (by decide) ?_
          exact te_zret rfl rfl (by decide) ⟨hI, f0, _, rfl, Or.inl ⟨rfl, (by rw [pq_xe5, (pq_of (k := 0) hg0 : pq_n h 70 0 = g0.toInt.toNat), (pq_of (k := 1) hg1 : pq_n h 70 1 = g1.toInt.toNat), (pq_of (k := 2) hg2 : pq_n h 70 2 = g2.toInt.toNat), (pq_of (k := 3) hg3 : pq_n h 70 3 = g3.toInt.toNat), (pq_of (k := 4) hg4 : pq_n h 70 4 = g4.toInt.toNat)]; unfold pq_x5; rw [if_pos (by omega), if_pos (by omega), if_pos (by omega), if_pos (by omega)])⟩⟩
set_option maxRecDepth 20000 in
set_option maxHeartbeats 4000000 in
theorem c_X3_goOn_6 {g0 : Int32} {g1 : Int32} {g2 : Int32} {g3 : Int32} {g4 : Int32} {g5 : Int32} {h : im_H} (hI : tI h) (hg0 : rd h 70 (Int32.toInt 0).toNat = some (.int g0)) (ga0 : 0 ≤ g0.toInt) (gb0 : g0.toInt ≤ 5) (hg1 : rd h 70 (Int32.toInt 1).toNat = some (.int g1)) (ga1 : 0 ≤ g1.toInt) (gb1 : g1.toInt ≤ 5) (hg2 : rd h 70 (Int32.toInt 2).toNat = some (.int g2)) (ga2 : 0 ≤ g2.toInt) (gb2 : g2.toInt ≤ 5) (hg3 : rd h 70 (Int32.toInt 3).toNat = some (.int g3)) (ga3 : 0 ≤ g3.toInt) (gb3 : g3.toInt ≤ 5) (hg4 : rd h 70 (Int32.toInt 4).toNat = some (.int g4)) (ga4 : 0 ≤ g4.toInt) (gb4 : g4.toInt ≤ 5) (hg5 : rd h 70 (Int32.toInt 5).toNat = some (.int g5)) (ga5 : 0 ≤ g5.toInt) (gb5 : g5.toInt ≤ 5) (pr0 : rd h 68 0 = some (.int 6)) : CaP 2 26 [.ref 84] h (fun v h2 => tI h2 ∧ fr F_X3_goOn h h2 ∧ ∃ y : Int32, v = some (.int y) ∧ ((y = 0 ∧ pq_x 6 (on6 6 (pq_n h 70)) = none) ∨ (y = 1 ∧ pq_x 6 (on6 6 (pq_n h 70)) = some (on6 6 (pq_n h2 70))))) := by
  refine cap_of (d := 1) (M := mX3_goOn) rfl (Nat.le_of_ble_eq_true rfl) ?_
  show EvP im_K0 1 mX3_goOn (0, [(0, .ref 84)], [], h) _
  have f0 : fr F_X3_goOn h h := fr_rf
  refine te_aload_n (p2 := 1) rfl rfl rfl ?_
  refine tg_e (p2 := 4) (i := 68) (v := .int 6) rfl rfl hI rfl rfl pr0 ?_
  refine te_iconst (p2 := 5) (x := 2) rfl rfl (by decide) ?_
  refine te_isub (p2 := 6) (z := 4) rfl rfl (by decide) ?_
  refine te_istore_n (p2 := 7) (lv2 := [(1, .int 4), (0, .ref 84)]) rfl rfl (by decide) rfl ?_
  refine te_iload_n (p2 := 8) rfl rfl rfl ?_
  refine tz_lt (p2 := 11) rfl rfl (show Int32.toInt 4 = 4 from rfl) (fun c2 => absurd c2 (by omega)) (fun c2 => ?_)
  refine te_aload_n (p2 := 12) rfl rfl rfl ?_
  refine tg_r (p2 := 15) (i := 68) (r := 86) rfl rfl hI rfl rfl rfl ?_
  refine te_iload_n (p2 := 16) rfl rfl rfl ?_
  refine tl_e (p2 := 17) (i := 70) (n := 6) (t := 0) (Or.inl rfl) rfl rfl hI rfl rfl (by decide) (by decide) hg4 ?_
  refine te_aload_n (p2 := 18) rfl rfl rfl ?_
  refine tg_r (p2 := 21) (i := 68) (r := 86) rfl rfl hI rfl rfl rfl ?_
  refine te_iload_n (p2 := 22) rfl rfl rfl ?_
  refine te_iconst (p2 := 23) (x := 1) rfl rfl (by decide) ?_
  refine te_iadd (p2 := 24) (z := 5) rfl rfl (by decide) ?_
  refine tl_e (p2 := 25) (i := 70) (n := 6) (t := 0) (Or.inl rfl) rfl rfl hI rfl rfl (by decide) (by decide) hg5 ?_
  refine tb_le (p2 := 28) rfl rfl rfl rfl (fun c6 => ?_) (fun c6 => ?_)
  · refine te_iload_n (p2 := 35) rfl rfl rfl ?_
    refine tz_ge (p2 := 38) rfl rfl (show Int32.toInt 4 = 4 from rfl) (fun c7 => ?_) (fun c7 => absurd c7 (by omega))
    refine te_aload_n (p2 := 41) rfl rfl rfl ?_
    refine tg_e (p2 := 44) (i := 68) (v := .int 6) rfl rfl hI rfl rfl pr0 ?_
    refine te_iconst (p2 := 45) (x := 1) rfl rfl (by decide) ?_
    refine te_isub (p2 := 46) (z := 5) rfl rfl (by decide) ?_
    refine te_istore_n (p2 := 47) (lv2 := [(2, .int 5), (1, .int 4), (0, .ref 84)]) rfl rfl (by decide) rfl ?_
    refine te_iload_n (p2 := 48) rfl rfl rfl ?_
    refine te_iload_n (p2 := 49) rfl rfl rfl ?_
    refine tb_le (p2 := 52) rfl rfl (show Int32.toInt 5 = 5 from rfl) (show Int32.toInt 4 = 4 from rfl) (fun c9 => absurd c9 (by omega)) (fun c9 => ?_)
    refine te_aload_n (p2 := 53) rfl rfl rfl ?_
    refine tg_r (p2 := 56) (i := 68) (r := 86) rfl rfl hI rfl rfl rfl ?_
    refine te_iload_n (p2 := 57) rfl rfl rfl ?_
    refine tl_e (p2 := 58) (i := 70) (n := 6) (t := 0) (Or.inl rfl) rfl rfl hI rfl rfl (by decide) (by decide) hg5 ?_
    refine te_aload_n (p2 := 59) rfl rfl rfl ?_
    refine tg_r (p2 := 62) (i := 68) (r := 86) rfl rfl hI rfl rfl rfl ?_
    refine te_iload_n (p2 := 63) rfl rfl rfl ?_
    refine tl_e (p2 := 64) (i := 70) (n := 6) (t := 0) (Or.inl rfl) rfl rfl hI rfl rfl (by decide) (by decide) hg4 ?_
    refine tb_ge (p2 := 67) rfl rfl rfl rfl (fun c12 => ?_) (fun c12 => ?_)
    · refine te_aload_n (p2 := 74) rfl rfl rfl ?_
      refine te_iload_n (p2 := 75) rfl rfl rfl ?_
      refine te_iload_n (p2 := 76) rfl rfl rfl ?_
      refine tc_V (p2 := 79) (i := 68) rfl rfl rfl rfl hI rfl rfl rfl (c_X3_swap (i := 4) (j := 5) hI (by decide) (by decide) (by decide) (by decide)) (by decide) (fun v13 h13 hq13 => ?_)
      obtain ⟨I13, g13, w13, Qa13, Qb13⟩ := hq13
      subst w13
      have f13 := fr_tr (F1 := F_X3_swap) (F := F_X3_goOn) f0 g13 (by decide)
      have s13 := Qa13 _ _ hg4 hg5
      show EvP _ _ _ (79, [(2, .int 5), (1, .int 4), (0, .ref 84)], [], h13) _
      refine te_iload_n (p2 := 80) rfl rfl rfl ?_
      refine te_iconst (p2 := 81) (x := 1) rfl rfl (by decide) ?_
      refine te_iadd (p2 := 82) (z := 5) rfl rfl (by decide) ?_
      refine te_istore_n (p2 := 83) (lv2 := [(3, .int 5), (2, .int 5), (1, .int 4), (0, .ref 84)]) rfl rfl (by decide) rfl ?_
      refine te_aload_n (p2 := 84) rfl rfl rfl ?_
      refine tg_e (p2 := 87) (i := 68) (v := .int 6) rfl rfl I13 rfl rfl ((g13 _ _ (by decide)).trans pr0) ?_
      refine te_iconst (p2 := 88) (x := 1) rfl rfl (by decide) ?_
      refine te_isub (p2 := 89) (z := 5) rfl rfl (by decide) ?_
      refine te_istore (p2 := 91) (lv2 := [(4, .int 5), (3, .int 5), (2, .int 5), (1, .int 4), (0, .ref 84)]) rfl rfl (by decide) rfl ?_
      refine te_iload_n (p2 := 92) rfl rfl rfl ?_
      refine te_iload (p2 := 94) rfl rfl rfl ?_
      refine tb_ge (p2 := 97) rfl rfl (show Int32.toInt 5 = 5 from rfl) (show Int32.toInt 5 = 5 from rfl) (fun c16 => ?_) (fun c16 => absurd c16 (by omega))
      refine te_iconst (p2 := 114) (x := 1) rfl rfl (by decide) ?_
      exact te_zret rfl rfl (by decide) ⟨I13, f13, _, rfl, Or.inr ⟨rfl, (by rw [pq_xe6, on6_6, (pq_of (k := 0) hg0 : pq_n h 70 0 = g0.toInt.toNat), (pq_of (k := 1) hg1 : pq_n h 70 1 = g1.toInt.toNat), (pq_of (k := 2) hg2 : pq_n h 70 2 = g2.toInt.toNat), (pq_of (k := 3) hg3 : pq_n h 70 3 = g3.toInt.toNat), (pq_of (k := 4) hg4 : pq_n h 70 4 = g4.toInt.toNat), (pq_of (k := 5) hg5 : pq_n h 70 5 = g5.toInt.toNat), (pq_of (k := 0) ((Qb13 (Int32.toInt 0).toNat (by decide) (by decide)).trans hg0) : pq_n h13 70 0 = g0.toInt.toNat), (pq_of (k := 1) ((Qb13 (Int32.toInt 1).toNat (by decide) (by decide)).trans hg1) : pq_n h13 70 1 = g1.toInt.toNat), (pq_of (k := 2) ((Qb13 (Int32.toInt 2).toNat (by decide) (by decide)).trans hg2) : pq_n h13 70 2 = g2.toInt.toNat), (pq_of (k := 3) ((Qb13 (Int32.toInt 3).toNat (by decide) (by decide)).trans hg3) : pq_n h13 70 3 = g3.toInt.toNat), (pq_of (k := 4) s13.1 : pq_n h13 70 4 = g5.toInt.toNat), (pq_of (k := 5) s13.2 : pq_n h13 70 5 = g4.toInt.toNat)]; unfold pq_x6; rw [if_neg (by omega), if_neg (by omega)])⟩⟩
    · refine te_iinc (p2 := 70) (x := 5) (y := 4) (lv2 := [(2, .int 4), (1, .int 4), (0, .ref 84)]) rfl rfl (by decide) rfl (by decide) rfl ?_
      refine te_goto rfl ?_
      refine te_iload_n (p2 := 48) rfl rfl rfl ?_
      refine te_iload_n (p2 := 49) rfl rfl rfl ?_
      refine tb_le (p2 := 52) rfl rfl (show Int32.toInt 4 = 4 from rfl) (show Int32.toInt 4 = 4 from rfl) (fun c18 => ?_) (fun c18 => absurd c18 (by omega))
      refine te_aload_n (p2 := 74) rfl rfl rfl ?_
      refine te_iload_n (p2 := 75) rfl rfl rfl ?_
      refine te_iload_n (p2 := 76) rfl rfl rfl ?_
      refine tc_V (p2 := 79) (i := 68) rfl rfl rfl rfl hI rfl rfl rfl (c_X3_swap (i := 4) (j := 4) hI (by decide) (by decide) (by decide) (by decide)) (by decide) (fun v19 h19 hq19 => ?_)
      obtain ⟨I19, g19, w19, Qa19, Qb19⟩ := hq19
      subst w19
      have f19 := fr_tr (F1 := F_X3_swap) (F := F_X3_goOn) f0 g19 (by decide)
      have s19 := Qa19 _ _ hg4 hg4
      show EvP _ _ _ (79, [(2, .int 4), (1, .int 4), (0, .ref 84)], [], h19) _
      refine te_iload_n (p2 := 80) rfl rfl rfl ?_
      refine te_iconst (p2 := 81) (x := 1) rfl rfl (by decide) ?_
      refine te_iadd (p2 := 82) (z := 5) rfl rfl (by decide) ?_
      refine te_istore_n (p2 := 83) (lv2 := [(3, .int 5), (2, .int 4), (1, .int 4), (0, .ref 84)]) rfl rfl (by decide) rfl ?_
      refine te_aload_n (p2 := 84) rfl rfl rfl ?_
      refine tg_e (p2 := 87) (i := 68) (v := .int 6) rfl rfl I19 rfl rfl ((g19 _ _ (by decide)).trans pr0) ?_
      refine te_iconst (p2 := 88) (x := 1) rfl rfl (by decide) ?_
      refine te_isub (p2 := 89) (z := 5) rfl rfl (by decide) ?_
      refine te_istore (p2 := 91) (lv2 := [(4, .int 5), (3, .int 5), (2, .int 4), (1, .int 4), (0, .ref 84)]) rfl rfl (by decide) rfl ?_
      refine te_iload_n (p2 := 92) rfl rfl rfl ?_
      refine te_iload (p2 := 94) rfl rfl rfl ?_
      refine tb_ge (p2 := 97) rfl rfl (show Int32.toInt 5 = 5 from rfl) (show Int32.toInt 5 = 5 from rfl) (fun c22 => ?_) (fun c22 => absurd c22 (by omega))
      refine te_iconst (p2 := 114) (x := 1) rfl rfl (by decide) ?_
      exact te_zret rfl rfl (by decide) ⟨I19, f19, _, rfl, Or.inr ⟨rfl, (by rw [pq_xe6, on6_6, (pq_of (k := 0) hg0 : pq_n h 70 0 = g0.toInt.toNat), (pq_of (k := 1) hg1 : pq_n h 70 1 = g1.toInt.toNat), (pq_of (k := 2) hg2 : pq_n h 70 2 = g2.toInt.toNat), (pq_of (k := 3) hg3 : pq_n h 70 3 = g3.toInt.toNat), (pq_of (k := 4) hg4 : pq_n h 70 4 = g4.toInt.toNat), (pq_of (k := 5) hg5 : pq_n h 70 5 = g5.toInt.toNat), (pq_of (k := 0) ((Qb19 (Int32.toInt 0).toNat (by decide) (by decide)).trans hg0) : pq_n h19 70 0 = g0.toInt.toNat), (pq_of (k := 1) ((Qb19 (Int32.toInt 1).toNat (by decide) (by decide)).trans hg1) : pq_n h19 70 1 = g1.toInt.toNat), (pq_of (k := 2) ((Qb19 (Int32.toInt 2).toNat (by decide) (by decide)).trans hg2) : pq_n h19 70 2 = g2.toInt.toNat), (pq_of (k := 3) ((Qb19 (Int32.toInt 3).toNat (by decide) (by decide)).trans hg3) : pq_n h19 70 3 = g3.toInt.toNat), (pq_of (k := 4) s19.2 : pq_n h19 70 4 = g4.toInt.toNat), (pq_of (k := 5) ((Qb19 (Int32.toInt 5).toNat (by decide) (by decide)).trans hg5) : pq_n h19 70 5 = g5.toInt.toNat)]; unfold pq_x6; rw [if_neg (by omega), if_pos (by omega)])⟩⟩
  · refine te_iinc (p2 := 31) (x := 4) (y := 3) (lv2 := [(1, .int 3), (0, .ref 84)]) rfl rfl (by decide) rfl (by decide) rfl ?_
    refine te_goto rfl ?_
    refine te_iload_n (p2 := 8) rfl rfl rfl ?_
    refine tz_lt (p2 := 11) rfl rfl (show Int32.toInt 3 = 3 from rfl) (fun c24 => absurd c24 (by omega)) (fun c24 => ?_)
    refine te_aload_n (p2 := 12) rfl rfl rfl ?_
    refine tg_r (p2 := 15) (i := 68) (r := 86) rfl rfl hI rfl rfl rfl ?_
    refine te_iload_n (p2 := 16) rfl rfl rfl ?_
    refine tl_e (p2 := 17) (i := 70) (n := 6) (t := 0) (Or.inl rfl) rfl rfl hI rfl rfl (by decide) (by decide) hg3 ?_
    refine te_aload_n (p2 := 18) rfl rfl rfl ?_
    refine tg_r (p2 := 21) (i := 68) (r := 86) rfl rfl hI rfl rfl rfl ?_
    refine te_iload_n (p2 := 22) rfl rfl rfl ?_
    refine te_iconst (p2 := 23) (x := 1) rfl rfl (by decide) ?_
    refine te_iadd (p2 := 24) (z := 4) rfl rfl (by decide) ?_
    refine tl_e (p2 := 25) (i := 70) (n := 6) (t := 0) (Or.inl rfl) rfl rfl hI rfl rfl (by decide) (by decide) hg4 ?_
    refine tb_le (p2 := 28) rfl rfl rfl rfl (fun c28 => ?_) (fun c28 => ?_)
    · refine te_iload_n (p2 := 35) rfl rfl rfl ?_
      refine tz_ge (p2 := 38) rfl rfl (show Int32.toInt 3 = 3 from rfl) (fun c29 => ?_) (fun c29 => absurd c29 (by omega))
      refine te_aload_n (p2 := 41) rfl rfl rfl ?_
      refine tg_e (p2 := 44) (i := 68) (v := .int 6) rfl rfl hI rfl rfl pr0 ?_
      refine te_iconst (p2 := 45) (x := 1) rfl rfl (by decide) ?_
      refine te_isub (p2 := 46) (z := 5) rfl rfl (by decide) ?_
      refine te_istore_n (p2 := 47) (lv2 := [(2, .int 5), (1, .int 3), (0, .ref 84)]) rfl rfl (by decide) rfl ?_
      refine te_iload_n (p2 := 48) rfl rfl rfl ?_
      refine te_iload_n (p2 := 49) rfl rfl rfl ?_
      refine tb_le (p2 := 52) rfl rfl (show Int32.toInt 5 = 5 from rfl) (show Int32.toInt 3 = 3 from rfl) (fun c31 => absurd c31 (by omega)) (fun c31 => ?_)
      refine te_aload_n (p2 := 53) rfl rfl rfl ?_
      refine tg_r (p2 := 56) (i := 68) (r := 86) rfl rfl hI rfl rfl rfl ?_
      refine te_iload_n (p2 := 57) rfl rfl rfl ?_
      refine tl_e (p2 := 58) (i := 70) (n := 6) (t := 0) (Or.inl rfl) rfl rfl hI rfl rfl (by decide) (by decide) hg5 ?_
      refine te_aload_n (p2 := 59) rfl rfl rfl ?_
      refine tg_r (p2 := 62) (i := 68) (r := 86) rfl rfl hI rfl rfl rfl ?_
      refine te_iload_n (p2 := 63) rfl rfl rfl ?_
      refine tl_e (p2 := 64) (i := 70) (n := 6) (t := 0) (Or.inl rfl) rfl rfl hI rfl rfl (by decide) (by decide) hg3 ?_
      refine tb_ge (p2 := 67) rfl rfl rfl rfl (fun c34 => ?_) (fun c34 => ?_)
      · refine te_aload_n (p2 := 74) rfl rfl rfl ?_
        refine te_iload_n (p2 := 75) rfl rfl rfl ?_
        refine te_iload_n (p2 := 76) rfl rfl rfl ?_
        refine tc_V (p2 := 79) (i := 68) rfl rfl rfl rfl hI rfl rfl rfl (c_X3_swap (i := 3) (j := 5) hI (by decide) (by decide) (by decide) (by decide)) (by decide) (fun v35 h35 hq35 => ?_)
        obtain ⟨I35, g35, w35, Qa35, Qb35⟩ := hq35
        subst w35
        have f35 := fr_tr (F1 := F_X3_swap) (F := F_X3_goOn) f0 g35 (by decide)
        have s35 := Qa35 _ _ hg3 hg5
        show EvP _ _ _ (79, [(2, .int 5), (1, .int 3), (0, .ref 84)], [], h35) _
        refine te_iload_n (p2 := 80) rfl rfl rfl ?_
        refine te_iconst (p2 := 81) (x := 1) rfl rfl (by decide) ?_
        refine te_iadd (p2 := 82) (z := 4) rfl rfl (by decide) ?_
        refine te_istore_n (p2 := 83) (lv2 := [(3, .int 4), (2, .int 5), (1, .int 3), (0, .ref 84)]) rfl rfl (by decide) rfl ?_
        refine te_aload_n (p2 := 84) rfl rfl rfl ?_
        refine tg_e (p2 := 87) (i := 68) (v := .int 6) rfl rfl I35 rfl rfl ((g35 _ _ (by decide)).trans pr0) ?_
        refine te_iconst (p2 := 88) (x := 1) rfl rfl (by decide) ?_
        refine te_isub (p2 := 89) (z := 5) rfl rfl (by decide) ?_
        refine te_istore (p2 := 91) (lv2 := [(4, .int 5), (3, .int 4), (2, .int 5), (1, .int 3), (0, .ref 84)]) rfl rfl (by decide) rfl ?_
        refine te_iload_n (p2 := 92) rfl rfl rfl ?_
        refine te_iload (p2 := 94) rfl rfl rfl ?_
        refine tb_ge (p2 := 97) rfl rfl (show Int32.toInt 4 = 4 from rfl) (show Int32.toInt 5 = 5 from rfl) (fun c38 => absurd c38 (by omega)) (fun c38 => ?_)
        refine te_aload_n (p2 := 98) rfl rfl rfl ?_
        refine te_iload_n (p2 := 99) rfl rfl rfl ?_
        refine te_iload (p2 := 101) rfl rfl rfl ?_
        refine tc_V (p2 := 104) (i := 68) rfl rfl rfl rfl I35 rfl rfl rfl (c_X3_swap (i := 4) (j := 5) I35 (by decide) (by decide) (by decide) (by decide)) (by decide) (fun v39 h39 hq39 => ?_)
        obtain ⟨I39, g39, w39, Qa39, Qb39⟩ := hq39
        subst w39
        have f39 := fr_tr (F1 := F_X3_swap) (F := F_X3_goOn) f35 g39 (by decide)
        have s39 := Qa39 _ _ ((Qb35 (Int32.toInt 4).toNat (by decide) (by decide)).trans hg4) s35.2
        show EvP _ _ _ (104, [(4, .int 5), (3, .int 4), (2, .int 5), (1, .int 3), (0, .ref 84)], [], h39) _
        refine te_iinc (p2 := 107) (x := 4) (y := 5) (lv2 := [(3, .int 5), (4, .int 5), (2, .int 5), (1, .int 3), (0, .ref 84)]) rfl rfl (by decide) rfl (by decide) rfl ?_
        refine te_iinc (p2 := 110) (x := 5) (y := 4) (lv2 := [(4, .int 4), (3, .int 5), (2, .int 5), (1, .int 3), (0, .ref 84)]) rfl rfl (by decide) rfl (by decide) rfl ?_
        refine te_goto rfl ?_
        refine te_iload_n (p2 := 92) rfl rfl rfl ?_
        refine te_iload (p2 := 94) rfl rfl rfl ?_
        refine tb_ge (p2 := 97) rfl rfl (show Int32.toInt 5 = 5 from rfl) (show Int32.toInt 4 = 4 from rfl) (fun c42 => ?_) (fun c42 => absurd c42 (by omega))
        refine te_iconst (p2 := 114) (x := 1) rfl rfl (by decide) ?_
        exact te_zret rfl rfl (by decide) ⟨I39, f39, _, rfl, Or.inr ⟨rfl, (by rw [pq_xe6, on6_6, (pq_of (k := 0) hg0 : pq_n h 70 0 = g0.toInt.toNat), (pq_of (k := 1) hg1 : pq_n h 70 1 = g1.toInt.toNat), (pq_of (k := 2) hg2 : pq_n h 70 2 = g2.toInt.toNat), (pq_of (k := 3) hg3 : pq_n h 70 3 = g3.toInt.toNat), (pq_of (k := 4) hg4 : pq_n h 70 4 = g4.toInt.toNat), (pq_of (k := 5) hg5 : pq_n h 70 5 = g5.toInt.toNat), (pq_of (k := 0) ((Qb39 (Int32.toInt 0).toNat (by decide) (by decide)).trans ((Qb35 (Int32.toInt 0).toNat (by decide) (by decide)).trans hg0)) : pq_n h39 70 0 = g0.toInt.toNat), (pq_of (k := 1) ((Qb39 (Int32.toInt 1).toNat (by decide) (by decide)).trans ((Qb35 (Int32.toInt 1).toNat (by decide) (by decide)).trans hg1)) : pq_n h39 70 1 = g1.toInt.toNat), (pq_of (k := 2) ((Qb39 (Int32.toInt 2).toNat (by decide) (by decide)).trans ((Qb35 (Int32.toInt 2).toNat (by decide) (by decide)).trans hg2)) : pq_n h39 70 2 = g2.toInt.toNat), (pq_of (k := 3) ((Qb39 (Int32.toInt 3).toNat (by decide) (by decide)).trans s35.1) : pq_n h39 70 3 = g5.toInt.toNat), (pq_of (k := 4) s39.1 : pq_n h39 70 4 = g3.toInt.toNat), (pq_of (k := 5) s39.2 : pq_n h39 70 5 = g4.toInt.toNat)]; unfold pq_x6; rw [if_pos (by omega), if_neg (by omega), if_neg (by omega)])⟩⟩
      · refine te_iinc (p2 := 70) (x := 5) (y := 4) (lv2 := [(2, .int 4), (1, .int 3), (0, .ref 84)]) rfl rfl (by decide) rfl (by decide) rfl ?_
        refine te_goto rfl ?_
        refine te_iload_n (p2 := 48) rfl rfl rfl ?_
        refine te_iload_n (p2 := 49) rfl rfl rfl ?_
        refine tb_le (p2 := 52) rfl rfl (show Int32.toInt 4 = 4 from rfl) (show Int32.toInt 3 = 3 from rfl) (fun c44 => absurd c44 (by omega)) (fun c44 => ?_)
        refine te_aload_n (p2 := 53) rfl rfl rfl ?_
        refine tg_r (p2 := 56) (i := 68) (r := 86) rfl rfl hI rfl rfl rfl ?_
        refine te_iload_n (p2 := 57) rfl rfl rfl ?_
        refine tl_e (p2 := 58) (i := 70) (n := 6) (t := 0) (Or.inl rfl) rfl rfl hI rfl rfl (by decide) (by decide) hg4 ?_
        refine te_aload_n (p2 := 59) rfl rfl rfl ?_
        refine tg_r (p2 := 62) (i := 68) (r := 86) rfl rfl hI rfl rfl rfl ?_
        refine te_iload_n (p2 := 63) rfl rfl rfl ?_
        refine tl_e (p2 := 64) (i := 70) (n := 6) (t := 0) (Or.inl rfl) rfl rfl hI rfl rfl (by decide) (by decide) hg3 ?_
        refine tb_ge (p2 := 67) rfl rfl rfl rfl (fun c47 => ?_) (fun c47 => ?_)
        · refine te_aload_n (p2 := 74) rfl rfl rfl ?_
          refine te_iload_n (p2 := 75) rfl rfl rfl ?_
          refine te_iload_n (p2 := 76) rfl rfl rfl ?_
          refine tc_V (p2 := 79) (i := 68) rfl rfl rfl rfl hI rfl rfl rfl (c_X3_swap (i := 3) (j := 4) hI (by decide) (by decide) (by decide) (by decide)) (by decide) (fun v48 h48 hq48 => ?_)
          obtain ⟨I48, g48, w48, Qa48, Qb48⟩ := hq48
          subst w48
          have f48 := fr_tr (F1 := F_X3_swap) (F := F_X3_goOn) f0 g48 (by decide)
          have s48 := Qa48 _ _ hg3 hg4
          show EvP _ _ _ (79, [(2, .int 4), (1, .int 3), (0, .ref 84)], [], h48) _
          refine te_iload_n (p2 := 80) rfl rfl rfl ?_
          refine te_iconst (p2 := 81) (x := 1) rfl rfl (by decide) ?_
          refine te_iadd (p2 := 82) (z := 4) rfl rfl (by decide) ?_
          refine te_istore_n (p2 := 83) (lv2 := [(3, .int 4), (2, .int 4), (1, .int 3), (0, .ref 84)]) rfl rfl (by decide) rfl ?_
          refine te_aload_n (p2 := 84) rfl rfl rfl ?_
          refine tg_e (p2 := 87) (i := 68) (v := .int 6) rfl rfl I48 rfl rfl ((g48 _ _ (by decide)).trans pr0) ?_
          refine te_iconst (p2 := 88) (x := 1) rfl rfl (by decide) ?_
          refine te_isub (p2 := 89) (z := 5) rfl rfl (by decide) ?_
          refine te_istore (p2 := 91) (lv2 := [(4, .int 5), (3, .int 4), (2, .int 4), (1, .int 3), (0, .ref 84)]) rfl rfl (by decide) rfl ?_
          refine te_iload_n (p2 := 92) rfl rfl rfl ?_
          refine te_iload (p2 := 94) rfl rfl rfl ?_
          refine tb_ge (p2 := 97) rfl rfl (show Int32.toInt 4 = 4 from rfl) (show Int32.toInt 5 = 5 from rfl) (fun c51 => absurd c51 (by omega)) (fun c51 => ?_)
          refine te_aload_n (p2 := 98) rfl rfl rfl ?_
          refine te_iload_n (p2 := 99) rfl rfl rfl ?_
          refine te_iload (p2 := 101) rfl rfl rfl ?_
          refine tc_V (p2 := 104) (i := 68) rfl rfl rfl rfl I48 rfl rfl rfl (c_X3_swap (i := 4) (j := 5) I48 (by decide) (by decide) (by decide) (by decide)) (by decide) (fun v52 h52 hq52 => ?_)
          obtain ⟨I52, g52, w52, Qa52, Qb52⟩ := hq52
          subst w52
          have f52 := fr_tr (F1 := F_X3_swap) (F := F_X3_goOn) f48 g52 (by decide)
          have s52 := Qa52 _ _ s48.2 ((Qb48 (Int32.toInt 5).toNat (by decide) (by decide)).trans hg5)
          show EvP _ _ _ (104, [(4, .int 5), (3, .int 4), (2, .int 4), (1, .int 3), (0, .ref 84)], [], h52) _
          refine te_iinc (p2 := 107) (x := 4) (y := 5) (lv2 := [(3, .int 5), (4, .int 5), (2, .int 4), (1, .int 3), (0, .ref 84)]) rfl rfl (by decide) rfl (by decide) rfl ?_
          refine te_iinc (p2 := 110) (x := 5) (y := 4) (lv2 := [(4, .int 4), (3, .int 5), (2, .int 4), (1, .int 3), (0, .ref 84)]) rfl rfl (by decide) rfl (by decide) rfl ?_
          refine te_goto rfl ?_
          refine te_iload_n (p2 := 92) rfl rfl rfl ?_
          refine te_iload (p2 := 94) rfl rfl rfl ?_
          refine tb_ge (p2 := 97) rfl rfl (show Int32.toInt 5 = 5 from rfl) (show Int32.toInt 4 = 4 from rfl) (fun c55 => ?_) (fun c55 => absurd c55 (by omega))
          refine te_iconst (p2 := 114) (x := 1) rfl rfl (by decide) ?_
          exact te_zret rfl rfl (by decide) ⟨I52, f52, _, rfl, Or.inr ⟨rfl, (by rw [pq_xe6, on6_6, (pq_of (k := 0) hg0 : pq_n h 70 0 = g0.toInt.toNat), (pq_of (k := 1) hg1 : pq_n h 70 1 = g1.toInt.toNat), (pq_of (k := 2) hg2 : pq_n h 70 2 = g2.toInt.toNat), (pq_of (k := 3) hg3 : pq_n h 70 3 = g3.toInt.toNat), (pq_of (k := 4) hg4 : pq_n h 70 4 = g4.toInt.toNat), (pq_of (k := 5) hg5 : pq_n h 70 5 = g5.toInt.toNat), (pq_of (k := 0) ((Qb52 (Int32.toInt 0).toNat (by decide) (by decide)).trans ((Qb48 (Int32.toInt 0).toNat (by decide) (by decide)).trans hg0)) : pq_n h52 70 0 = g0.toInt.toNat), (pq_of (k := 1) ((Qb52 (Int32.toInt 1).toNat (by decide) (by decide)).trans ((Qb48 (Int32.toInt 1).toNat (by decide) (by decide)).trans hg1)) : pq_n h52 70 1 = g1.toInt.toNat), (pq_of (k := 2) ((Qb52 (Int32.toInt 2).toNat (by decide) (by decide)).trans ((Qb48 (Int32.toInt 2).toNat (by decide) (by decide)).trans hg2)) : pq_n h52 70 2 = g2.toInt.toNat), (pq_of (k := 3) ((Qb52 (Int32.toInt 3).toNat (by decide) (by decide)).trans s48.1) : pq_n h52 70 3 = g4.toInt.toNat), (pq_of (k := 4) s52.1 : pq_n h52 70 4 = g5.toInt.toNat), (pq_of (k := 5) s52.2 : pq_n h52 70 5 = g3.toInt.toNat)]; unfold pq_x6; rw [if_pos (by omega), if_neg (by omega), if_pos (by omega), if_neg (by omega)])⟩⟩
        · refine te_iinc (p2 := 70) (x := 4) (y := 3) (lv2 := [(2, .int 3), (1, .int 3), (0, .ref 84)]) rfl rfl (by decide) rfl (by decide) rfl ?_
          refine te_goto rfl ?_
          refine te_iload_n (p2 := 48) rfl rfl rfl ?_
          refine te_iload_n (p2 := 49) rfl rfl rfl ?_
          refine tb_le (p2 := 52) rfl rfl (show Int32.toInt 3 = 3 from rfl) (show Int32.toInt 3 = 3 from rfl) (fun c57 => ?_) (fun c57 => absurd c57 (by omega))
          refine te_aload_n (p2 := 74) rfl rfl rfl ?_
          refine te_iload_n (p2 := 75) rfl rfl rfl ?_
          refine te_iload_n (p2 := 76) rfl rfl rfl ?_
          refine tc_V (p2 := 79) (i := 68) rfl rfl rfl rfl hI rfl rfl rfl (c_X3_swap (i := 3) (j := 3) hI (by decide) (by decide) (by decide) (by decide)) (by decide) (fun v58 h58 hq58 => ?_)
          obtain ⟨I58, g58, w58, Qa58, Qb58⟩ := hq58
          subst w58
          have f58 := fr_tr (F1 := F_X3_swap) (F := F_X3_goOn) f0 g58 (by decide)
          have s58 := Qa58 _ _ hg3 hg3
          show EvP _ _ _ (79, [(2, .int 3), (1, .int 3), (0, .ref 84)], [], h58) _
          refine te_iload_n (p2 := 80) rfl rfl rfl ?_
          refine te_iconst (p2 := 81) (x := 1) rfl rfl (by decide) ?_
          refine te_iadd (p2 := 82) (z := 4) rfl rfl (by decide) ?_
          refine te_istore_n (p2 := 83) (lv2 := [(3, .int 4), (2, .int 3), (1, .int 3), (0, .ref 84)]) rfl rfl (by decide) rfl ?_
          refine te_aload_n (p2 := 84) rfl rfl rfl ?_
          refine tg_e (p2 := 87) (i := 68) (v := .int 6) rfl rfl I58 rfl rfl ((g58 _ _ (by decide)).trans pr0) ?_
          refine te_iconst (p2 := 88) (x := 1) rfl rfl (by decide) ?_
          refine te_isub (p2 := 89) (z := 5) rfl rfl (by decide) ?_
          refine te_istore (p2 := 91) (lv2 := [(4, .int 5), (3, .int 4), (2, .int 3), (1, .int 3), (0, .ref 84)]) rfl rfl (by decide) rfl ?_
          refine te_iload_n (p2 := 92) rfl rfl rfl ?_
          refine te_iload (p2 := 94) rfl rfl rfl ?_
          refine tb_ge (p2 := 97) rfl rfl (show Int32.toInt 4 = 4 from rfl) (show Int32.toInt 5 = 5 from rfl) (fun c61 => absurd c61 (by omega)) (fun c61 => ?_)
          refine te_aload_n (p2 := 98) rfl rfl rfl ?_
          refine te_iload_n (p2 := 99) rfl rfl rfl ?_
          refine te_iload (p2 := 101) rfl rfl rfl ?_
          refine tc_V (p2 := 104) (i := 68) rfl rfl rfl rfl I58 rfl rfl rfl (c_X3_swap (i := 4) (j := 5) I58 (by decide) (by decide) (by decide) (by decide)) (by decide) (fun v62 h62 hq62 => ?_)
          obtain ⟨I62, g62, w62, Qa62, Qb62⟩ := hq62
          subst w62
          have f62 := fr_tr (F1 := F_X3_swap) (F := F_X3_goOn) f58 g62 (by decide)
          have s62 := Qa62 _ _ ((Qb58 (Int32.toInt 4).toNat (by decide) (by decide)).trans hg4) ((Qb58 (Int32.toInt 5).toNat (by decide) (by decide)).trans hg5)
          show EvP _ _ _ (104, [(4, .int 5), (3, .int 4), (2, .int 3), (1, .int 3), (0, .ref 84)], [], h62) _
          refine te_iinc (p2 := 107) (x := 4) (y := 5) (lv2 := [(3, .int 5), (4, .int 5), (2, .int 3), (1, .int 3), (0, .ref 84)]) rfl rfl (by decide) rfl (by decide) rfl ?_
          refine te_iinc (p2 := 110) (x := 5) (y := 4) (lv2 := [(4, .int 4), (3, .int 5), (2, .int 3), (1, .int 3), (0, .ref 84)]) rfl rfl (by decide) rfl (by decide) rfl ?_
          refine te_goto rfl ?_
          refine te_iload_n (p2 := 92) rfl rfl rfl ?_
          refine te_iload (p2 := 94) rfl rfl rfl ?_
          refine tb_ge (p2 := 97) rfl rfl (show Int32.toInt 5 = 5 from rfl) (show Int32.toInt 4 = 4 from rfl) (fun c65 => ?_) (fun c65 => absurd c65 (by omega))
          refine te_iconst (p2 := 114) (x := 1) rfl rfl (by decide) ?_
          exact te_zret rfl rfl (by decide) ⟨I62, f62, _, rfl, Or.inr ⟨rfl, (by rw [pq_xe6, on6_6, (pq_of (k := 0) hg0 : pq_n h 70 0 = g0.toInt.toNat), (pq_of (k := 1) hg1 : pq_n h 70 1 = g1.toInt.toNat), (pq_of (k := 2) hg2 : pq_n h 70 2 = g2.toInt.toNat), (pq_of (k := 3) hg3 : pq_n h 70 3 = g3.toInt.toNat), (pq_of (k := 4) hg4 : pq_n h 70 4 = g4.toInt.toNat), (pq_of (k := 5) hg5 : pq_n h 70 5 = g5.toInt.toNat), (pq_of (k := 0) ((Qb62 (Int32.toInt 0).toNat (by decide) (by decide)).trans ((Qb58 (Int32.toInt 0).toNat (by decide) (by decide)).trans hg0)) : pq_n h62 70 0 = g0.toInt.toNat), (pq_of (k := 1) ((Qb62 (Int32.toInt 1).toNat (by decide) (by decide)).trans ((Qb58 (Int32.toInt 1).toNat (by decide) (by decide)).trans hg1)) : pq_n h62 70 1 = g1.toInt.toNat), (pq_of (k := 2) ((Qb62 (Int32.toInt 2).toNat (by decide) (by decide)).trans ((Qb58 (Int32.toInt 2).toNat (by decide) (by decide)).trans hg2)) : pq_n h62 70 2 = g2.toInt.toNat), (pq_of (k := 3) ((Qb62 (Int32.toInt 3).toNat (by decide) (by decide)).trans s58.2) : pq_n h62 70 3 = g3.toInt.toNat), (pq_of (k := 4) s62.1 : pq_n h62 70 4 = g5.toInt.toNat), (pq_of (k := 5) s62.2 : pq_n h62 70 5 = g4.toInt.toNat)]; unfold pq_x6; rw [if_pos (by omega), if_neg (by omega), if_pos (by omega), if_pos (by omega)])⟩⟩
    · refine te_iinc (p2 := 31) (x := 3) (y := 2) (lv2 := [(1, .int 2), (0, .ref 84)]) rfl rfl (by decide) rfl (by decide) rfl ?_
      refine te_goto rfl ?_
      refine te_iload_n (p2 := 8) rfl rfl rfl ?_
      refine tz_lt (p2 := 11) rfl rfl (show Int32.toInt 2 = 2 from rfl) (fun c67 => absurd c67 (by omega)) (fun c67 => ?_)
      refine te_aload_n (p2 := 12) rfl rfl rfl ?_
      refine tg_r (p2 := 15) (i := 68) (r := 86) rfl rfl hI rfl rfl rfl ?_
      refine te_iload_n (p2 := 16) rfl rfl rfl ?_
      refine tl_e (p2 := 17) (i := 70) (n := 6) (t := 0) (Or.inl rfl) rfl rfl hI rfl rfl (by decide) (by decide) hg2 ?_
      refine te_aload_n (p2 := 18) rfl rfl rfl ?_
      refine tg_r (p2 := 21) (i := 68) (r := 86) rfl rfl hI rfl rfl rfl ?_
      refine te_iload_n (p2 := 22) rfl rfl rfl ?_
      refine te_iconst (p2 := 23) (x := 1) rfl rfl (by decide) ?_
      refine te_iadd (p2 := 24) (z := 3) rfl rfl (by decide) ?_
      refine tl_e (p2 := 25) (i := 70) (n := 6) (t := 0) (Or.inl rfl) rfl rfl hI rfl rfl (by decide) (by decide) hg3 ?_
      refine tb_le (p2 := 28) rfl rfl rfl rfl (fun c71 => ?_) (fun c71 => ?_)
      · refine te_iload_n (p2 := 35) rfl rfl rfl ?_
        refine tz_ge (p2 := 38) rfl rfl (show Int32.toInt 2 = 2 from rfl) (fun c72 => ?_) (fun c72 => absurd c72 (by omega))
        refine te_aload_n (p2 := 41) rfl rfl rfl ?_
        refine tg_e (p2 := 44) (i := 68) (v := .int 6) rfl rfl hI rfl rfl pr0 ?_
        refine te_iconst (p2 := 45) (x := 1) rfl rfl (by decide) ?_
        refine te_isub (p2 := 46) (z := 5) rfl rfl (by decide) ?_
        refine te_istore_n (p2 := 47) (lv2 := [(2, .int 5), (1, .int 2), (0, .ref 84)]) rfl rfl (by decide) rfl ?_
        refine te_iload_n (p2 := 48) rfl rfl rfl ?_
        refine te_iload_n (p2 := 49) rfl rfl rfl ?_
        refine tb_le (p2 := 52) rfl rfl (show Int32.toInt 5 = 5 from rfl) (show Int32.toInt 2 = 2 from rfl) (fun c74 => absurd c74 (by omega)) (fun c74 => ?_)
        refine te_aload_n (p2 := 53) rfl rfl rfl ?_
        refine tg_r (p2 := 56) (i := 68) (r := 86) rfl rfl hI rfl rfl rfl ?_
        refine te_iload_n (p2 := 57) rfl rfl rfl ?_
        refine tl_e (p2 := 58) (i := 70) (n := 6) (t := 0) (Or.inl rfl) rfl rfl hI rfl rfl (by decide) (by decide) hg5 ?_
        refine te_aload_n (p2 := 59) rfl rfl rfl ?_
        refine tg_r (p2 := 62) (i := 68) (r := 86) rfl rfl hI rfl rfl rfl ?_
        refine te_iload_n (p2 := 63) rfl rfl rfl ?_
        refine tl_e (p2 := 64) (i := 70) (n := 6) (t := 0) (Or.inl rfl) rfl rfl hI rfl rfl (by decide) (by decide) hg2 ?_
        refine tb_ge (p2 := 67) rfl rfl rfl rfl (fun c77 => ?_) (fun c77 => ?_)
        · refine te_aload_n (p2 := 74) rfl rfl rfl ?_
          refine te_iload_n (p2 := 75) rfl rfl rfl ?_
          refine te_iload_n (p2 := 76) rfl rfl rfl ?_
          refine tc_V (p2 := 79) (i := 68) rfl rfl rfl rfl hI rfl rfl rfl (c_X3_swap (i := 2) (j := 5) hI (by decide) (by decide) (by decide) (by decide)) (by decide) (fun v78 h78 hq78 => ?_)
          obtain ⟨I78, g78, w78, Qa78, Qb78⟩ := hq78
          subst w78
          have f78 := fr_tr (F1 := F_X3_swap) (F := F_X3_goOn) f0 g78 (by decide)
          have s78 := Qa78 _ _ hg2 hg5
          show EvP _ _ _ (79, [(2, .int 5), (1, .int 2), (0, .ref 84)], [], h78) _
          refine te_iload_n (p2 := 80) rfl rfl rfl ?_
          refine te_iconst (p2 := 81) (x := 1) rfl rfl (by decide) ?_
          refine te_iadd (p2 := 82) (z := 3) rfl rfl (by decide) ?_
          refine te_istore_n (p2 := 83) (lv2 := [(3, .int 3), (2, .int 5), (1, .int 2), (0, .ref 84)]) rfl rfl (by decide) rfl ?_
          refine te_aload_n (p2 := 84) rfl rfl rfl ?_
          refine tg_e (p2 := 87) (i := 68) (v := .int 6) rfl rfl I78 rfl rfl ((g78 _ _ (by decide)).trans pr0) ?_
          refine te_iconst (p2 := 88) (x := 1) rfl rfl (by decide) ?_
          refine te_isub (p2 := 89) (z := 5) rfl rfl (by decide) ?_
          refine te_istore (p2 := 91) (lv2 := [(4, .int 5), (3, .int 3), (2, .int 5), (1, .int 2), (0, .ref 84)]) rfl rfl (by decide) rfl ?_
          refine te_iload_n (p2 := 92) rfl rfl rfl ?_
          refine te_iload (p2 := 94) rfl rfl rfl ?_
          refine tb_ge (p2 := 97) rfl rfl (show Int32.toInt 3 = 3 from rfl) (show Int32.toInt 5 = 5 from rfl) (fun c81 => absurd c81 (by omega)) (fun c81 => ?_)
          refine te_aload_n (p2 := 98) rfl rfl rfl ?_
          refine te_iload_n (p2 := 99) rfl rfl rfl ?_
          refine te_iload (p2 := 101) rfl rfl rfl ?_
          refine tc_V (p2 := 104) (i := 68) rfl rfl rfl rfl I78 rfl rfl rfl (c_X3_swap (i := 3) (j := 5) I78 (by decide) (by decide) (by decide) (by decide)) (by decide) (fun v82 h82 hq82 => ?_)
          obtain ⟨I82, g82, w82, Qa82, Qb82⟩ := hq82
          subst w82
          have f82 := fr_tr (F1 := F_X3_swap) (F := F_X3_goOn) f78 g82 (by decide)
          have s82 := Qa82 _ _ ((Qb78 (Int32.toInt 3).toNat (by decide) (by decide)).trans hg3) s78.2
          show EvP _ _ _ (104, [(4, .int 5), (3, .int 3), (2, .int 5), (1, .int 2), (0, .ref 84)], [], h82) _
          refine te_iinc (p2 := 107) (x := 3) (y := 4) (lv2 := [(3, .int 4), (4, .int 5), (2, .int 5), (1, .int 2), (0, .ref 84)]) rfl rfl (by decide) rfl (by decide) rfl ?_
          refine te_iinc (p2 := 110) (x := 5) (y := 4) (lv2 := [(4, .int 4), (3, .int 4), (2, .int 5), (1, .int 2), (0, .ref 84)]) rfl rfl (by decide) rfl (by decide) rfl ?_
          refine te_goto rfl ?_
          refine te_iload_n (p2 := 92) rfl rfl rfl ?_
          refine te_iload (p2 := 94) rfl rfl rfl ?_
          refine tb_ge (p2 := 97) rfl rfl (show Int32.toInt 4 = 4 from rfl) (show Int32.toInt 4 = 4 from rfl) (fun c85 => ?_) (fun c85 => absurd c85 (by omega))
          refine te_iconst (p2 := 114) (x := 1) rfl rfl (by decide) ?_
          exact te_zret rfl rfl (by decide) ⟨I82, f82, _, rfl, Or.inr ⟨rfl, (by rw [pq_xe6, on6_6, (pq_of (k := 0) hg0 : pq_n h 70 0 = g0.toInt.toNat), (pq_of (k := 1) hg1 : pq_n h 70 1 = g1.toInt.toNat), (pq_of (k := 2) hg2 : pq_n h 70 2 = g2.toInt.toNat), (pq_of (k := 3) hg3 : pq_n h 70 3 = g3.toInt.toNat), (pq_of (k := 4) hg4 : pq_n h 70 4 = g4.toInt.toNat), (pq_of (k := 5) hg5 : pq_n h 70 5 = g5.toInt.toNat), (pq_of (k := 0) ((Qb82 (Int32.toInt 0).toNat (by decide) (by decide)).trans ((Qb78 (Int32.toInt 0).toNat (by decide) (by decide)).trans hg0)) : pq_n h82 70 0 = g0.toInt.toNat), (pq_of (k := 1) ((Qb82 (Int32.toInt 1).toNat (by decide) (by decide)).trans ((Qb78 (Int32.toInt 1).toNat (by decide) (by decide)).trans hg1)) : pq_n h82 70 1 = g1.toInt.toNat), (pq_of (k := 2) ((Qb82 (Int32.toInt 2).toNat (by decide) (by decide)).trans s78.1) : pq_n h82 70 2 = g5.toInt.toNat), (pq_of (k := 3) s82.1 : pq_n h82 70 3 = g2.toInt.toNat), (pq_of (k := 4) ((Qb82 (Int32.toInt 4).toNat (by decide) (by decide)).trans ((Qb78 (Int32.toInt 4).toNat (by decide) (by decide)).trans hg4)) : pq_n h82 70 4 = g4.toInt.toNat), (pq_of (k := 5) s82.2 : pq_n h82 70 5 = g3.toInt.toNat)]; unfold pq_x6; rw [if_pos (by omega), if_pos (by omega), if_neg (by omega), if_neg (by omega)])⟩⟩
        · refine te_iinc (p2 := 70) (x := 5) (y := 4) (lv2 := [(2, .int 4), (1, .int 2), (0, .ref 84)]) rfl rfl (by decide) rfl (by decide) rfl ?_
          refine te_goto rfl ?_
          refine te_iload_n (p2 := 48) rfl rfl rfl ?_
          refine te_iload_n (p2 := 49) rfl rfl rfl ?_
          refine tb_le (p2 := 52) rfl rfl (show Int32.toInt 4 = 4 from rfl) (show Int32.toInt 2 = 2 from rfl) (fun c87 => absurd c87 (by omega)) (fun c87 => ?_)
          refine te_aload_n (p2 := 53) rfl rfl rfl ?_
          refine tg_r (p2 := 56) (i := 68) (r := 86) rfl rfl hI rfl rfl rfl ?_
          refine te_iload_n (p2 := 57) rfl rfl rfl ?_
          refine tl_e (p2 := 58) (i := 70) (n := 6) (t := 0) (Or.inl rfl) rfl rfl hI rfl rfl (by decide) (by decide) hg4 ?_
          refine te_aload_n (p2 := 59) rfl rfl rfl ?_
          refine tg_r (p2 := 62) (i := 68) (r := 86) rfl rfl hI rfl rfl rfl ?_
          refine te_iload_n (p2 := 63) rfl rfl rfl ?_
          refine tl_e (p2 := 64) (i := 70) (n := 6) (t := 0) (Or.inl rfl) rfl rfl hI rfl rfl (by decide) (by decide) hg2 ?_
          refine tb_ge (p2 := 67) rfl rfl rfl rfl (fun c90 => ?_) (fun c90 => ?_)
          · refine te_aload_n (p2 := 74) rfl rfl rfl ?_
            refine te_iload_n (p2 := 75) rfl rfl rfl ?_
            refine te_iload_n (p2 := 76) rfl rfl rfl ?_
            refine tc_V (p2 := 79) (i := 68) rfl rfl rfl rfl hI rfl rfl rfl (c_X3_swap (i := 2) (j := 4) hI (by decide) (by decide) (by decide) (by decide)) (by decide) (fun v91 h91 hq91 => ?_)
            obtain ⟨I91, g91, w91, Qa91, Qb91⟩ := hq91
            subst w91
            have f91 := fr_tr (F1 := F_X3_swap) (F := F_X3_goOn) f0 g91 (by decide)
            have s91 := Qa91 _ _ hg2 hg4
            show EvP _ _ _ (79, [(2, .int 4), (1, .int 2), (0, .ref 84)], [], h91) _
            refine te_iload_n (p2 := 80) rfl rfl rfl ?_
            refine te_iconst (p2 := 81) (x := 1) rfl rfl (by decide) ?_
            refine te_iadd (p2 := 82) (z := 3) rfl rfl (by decide) ?_
            refine te_istore_n (p2 := 83) (lv2 := [(3, .int 3), (2, .int 4), (1, .int 2), (0, .ref 84)]) rfl rfl (by decide) rfl ?_
            refine te_aload_n (p2 := 84) rfl rfl rfl ?_
            refine tg_e (p2 := 87) (i := 68) (v := .int 6) rfl rfl I91 rfl rfl ((g91 _ _ (by decide)).trans pr0) ?_
            refine te_iconst (p2 := 88) (x := 1) rfl rfl (by decide) ?_
            refine te_isub (p2 := 89) (z := 5) rfl rfl (by decide) ?_
            refine te_istore (p2 := 91) (lv2 := [(4, .int 5), (3, .int 3), (2, .int 4), (1, .int 2), (0, .ref 84)]) rfl rfl (by decide) rfl ?_
            refine te_iload_n (p2 := 92) rfl rfl rfl ?_
            refine te_iload (p2 := 94) rfl rfl rfl ?_
            refine tb_ge (p2 := 97) rfl rfl (show Int32.toInt 3 = 3 from rfl) (show Int32.toInt 5 = 5 from rfl) (fun c94 => absurd c94 (by omega)) (fun c94 => ?_)
            refine te_aload_n (p2 := 98) rfl rfl rfl ?_
            refine te_iload_n (p2 := 99) rfl rfl rfl ?_
            refine te_iload (p2 := 101) rfl rfl rfl ?_
            refine tc_V (p2 := 104) (i := 68) rfl rfl rfl rfl I91 rfl rfl rfl (c_X3_swap (i := 3) (j := 5) I91 (by decide) (by decide) (by decide) (by decide)) (by decide) (fun v95 h95 hq95 => ?_)
            obtain ⟨I95, g95, w95, Qa95, Qb95⟩ := hq95
            subst w95
            have f95 := fr_tr (F1 := F_X3_swap) (F := F_X3_goOn) f91 g95 (by decide)
            have s95 := Qa95 _ _ ((Qb91 (Int32.toInt 3).toNat (by decide) (by decide)).trans hg3) ((Qb91 (Int32.toInt 5).toNat (by decide) (by decide)).trans hg5)
            show EvP _ _ _ (104, [(4, .int 5), (3, .int 3), (2, .int 4), (1, .int 2), (0, .ref 84)], [], h95) _
            refine te_iinc (p2 := 107) (x := 3) (y := 4) (lv2 := [(3, .int 4), (4, .int 5), (2, .int 4), (1, .int 2), (0, .ref 84)]) rfl rfl (by decide) rfl (by decide) rfl ?_
            refine te_iinc (p2 := 110) (x := 5) (y := 4) (lv2 := [(4, .int 4), (3, .int 4), (2, .int 4), (1, .int 2), (0, .ref 84)]) rfl rfl (by decide) rfl (by decide) rfl ?_
            refine te_goto rfl ?_
            refine te_iload_n (p2 := 92) rfl rfl rfl ?_
            refine te_iload (p2 := 94) rfl rfl rfl ?_
            refine tb_ge (p2 := 97) rfl rfl (show Int32.toInt 4 = 4 from rfl) (show Int32.toInt 4 = 4 from rfl) (fun c98 => ?_) (fun c98 => absurd c98 (by omega))
            refine te_iconst (p2 := 114) (x := 1) rfl rfl (by decide) ?_
            exact te_zret rfl rfl (by decide) ⟨I95, f95, _, rfl, Or.inr ⟨rfl, (by rw [pq_xe6, on6_6, (pq_of (k := 0) hg0 : pq_n h 70 0 = g0.toInt.toNat), (pq_of (k := 1) hg1 : pq_n h 70 1 = g1.toInt.toNat), (pq_of (k := 2) hg2 : pq_n h 70 2 = g2.toInt.toNat), (pq_of (k := 3) hg3 : pq_n h 70 3 = g3.toInt.toNat), (pq_of (k := 4) hg4 : pq_n h 70 4 = g4.toInt.toNat), (pq_of (k := 5) hg5 : pq_n h 70 5 = g5.toInt.toNat), (pq_of (k := 0) ((Qb95 (Int32.toInt 0).toNat (by decide) (by decide)).trans ((Qb91 (Int32.toInt 0).toNat (by decide) (by decide)).trans hg0)) : pq_n h95 70 0 = g0.toInt.toNat), (pq_of (k := 1) ((Qb95 (Int32.toInt 1).toNat (by decide) (by decide)).trans ((Qb91 (Int32.toInt 1).toNat (by decide) (by decide)).trans hg1)) : pq_n h95 70 1 = g1.toInt.toNat), (pq_of (k := 2) ((Qb95 (Int32.toInt 2).toNat (by decide) (by decide)).trans s91.1) : pq_n h95 70 2 = g4.toInt.toNat), (pq_of (k := 3) s95.1 : pq_n h95 70 3 = g5.toInt.toNat), (pq_of (k := 4) ((Qb95 (Int32.toInt 4).toNat (by decide) (by decide)).trans s91.2) : pq_n h95 70 4 = g2.toInt.toNat), (pq_of (k := 5) s95.2 : pq_n h95 70 5 = g3.toInt.toNat)]; unfold pq_x6; rw [if_pos (by omega), if_pos (by omega), if_neg (by omega), if_pos (by omega), if_neg (by omega)])⟩⟩
          · refine te_iinc (p2 := 70) (x := 4) (y := 3) (lv2 := [(2, .int 3), (1, .int 2), (0, .ref 84)]) rfl rfl (by decide) rfl (by decide) rfl ?_
            refine te_goto rfl ?_
            refine te_iload_n (p2 := 48) rfl rfl rfl ?_
            refine te_iload_n (p2 := 49) rfl rfl rfl ?_
            refine tb_le (p2 := 52) rfl rfl (show Int32.toInt 3 = 3 from rfl) (show Int32.toInt 2 = 2 from rfl) (fun c100 => absurd c100 (by omega)) (fun c100 => ?_)
            refine te_aload_n (p2 := 53) rfl rfl rfl ?_
            refine tg_r (p2 := 56) (i := 68) (r := 86) rfl rfl hI rfl rfl rfl ?_
            refine te_iload_n (p2 := 57) rfl rfl rfl ?_
            refine tl_e (p2 := 58) (i := 70) (n := 6) (t := 0) (Or.inl rfl) rfl rfl hI rfl rfl (by decide) (by decide) hg3 ?_
            refine te_aload_n (p2 := 59) rfl rfl rfl ?_
            refine tg_r (p2 := 62) (i := 68) (r := 86) rfl rfl hI rfl rfl rfl ?_
            refine te_iload_n (p2 := 63) rfl rfl rfl ?_
            refine tl_e (p2 := 64) (i := 70) (n := 6) (t := 0) (Or.inl rfl) rfl rfl hI rfl rfl (by decide) (by decide) hg2 ?_
            refine tb_ge (p2 := 67) rfl rfl rfl rfl (fun c103 => ?_) (fun c103 => ?_)
            · refine te_aload_n (p2 := 74) rfl rfl rfl ?_
              refine te_iload_n (p2 := 75) rfl rfl rfl ?_
              refine te_iload_n (p2 := 76) rfl rfl rfl ?_
              refine tc_V (p2 := 79) (i := 68) rfl rfl rfl rfl hI rfl rfl rfl (c_X3_swap (i := 2) (j := 3) hI (by decide) (by decide) (by decide) (by decide)) (by decide) (fun v104 h104 hq104 => ?_)
              obtain ⟨I104, g104, w104, Qa104, Qb104⟩ := hq104
              subst w104
              have f104 := fr_tr (F1 := F_X3_swap) (F := F_X3_goOn) f0 g104 (by decide)
              have s104 := Qa104 _ _ hg2 hg3
              show EvP _ _ _ (79, [(2, .int 3), (1, .int 2), (0, .ref 84)], [], h104) _
              refine te_iload_n (p2 := 80) rfl rfl rfl ?_
              refine te_iconst (p2 := 81) (x := 1) rfl rfl (by decide) ?_
              refine te_iadd (p2 := 82) (z := 3) rfl rfl (by decide) ?_
              refine te_istore_n (p2 := 83) (lv2 := [(3, .int 3), (2, .int 3), (1, .int 2), (0, .ref 84)]) rfl rfl (by decide) rfl ?_
              refine te_aload_n (p2 := 84) rfl rfl rfl ?_
              refine tg_e (p2 := 87) (i := 68) (v := .int 6) rfl rfl I104 rfl rfl ((g104 _ _ (by decide)).trans pr0) ?_
              refine te_iconst (p2 := 88) (x := 1) rfl rfl (by decide) ?_
              refine te_isub (p2 := 89) (z := 5) rfl rfl (by decide) ?_
              refine te_istore (p2 := 91) (lv2 := [(4, .int 5), (3, .int 3), (2, .int 3), (1, .int 2), (0, .ref 84)]) rfl rfl (by decide) rfl ?_
              refine te_iload_n (p2 := 92) rfl rfl rfl ?_
              refine te_iload (p2 := 94) rfl rfl rfl ?_
              refine tb_ge (p2 := 97) rfl rfl (show Int32.toInt 3 = 3 from rfl) (show Int32.toInt 5 = 5 from rfl) (fun c107 => absurd c107 (by omega)) (fun c107 => ?_)
              refine te_aload_n (p2 := 98) rfl rfl rfl ?_
              refine te_iload_n (p2 := 99) rfl rfl rfl ?_
              refine te_iload (p2 := 101) rfl rfl rfl ?_
              refine tc_V (p2 := 104) (i := 68) rfl rfl rfl rfl I104 rfl rfl rfl (c_X3_swap (i := 3) (j := 5) I104 (by decide) (by decide) (by decide) (by decide)) (by decide) (fun v108 h108 hq108 => ?_)
              obtain ⟨I108, g108, w108, Qa108, Qb108⟩ := hq108
              subst w108
              have f108 := fr_tr (F1 := F_X3_swap) (F := F_X3_goOn) f104 g108 (by decide)
              have s108 := Qa108 _ _ s104.2 ((Qb104 (Int32.toInt 5).toNat (by decide) (by decide)).trans hg5)
              show EvP _ _ _ (104, [(4, .int 5), (3, .int 3), (2, .int 3), (1, .int 2), (0, .ref 84)], [], h108) _
              refine te_iinc (p2 := 107) (x := 3) (y := 4) (lv2 := [(3, .int 4), (4, .int 5), (2, .int 3), (1, .int 2), (0, .ref 84)]) rfl rfl (by decide) rfl (by decide) rfl ?_
              refine te_iinc (p2 := 110) (x := 5) (y := 4) (lv2 := [(4, .int 4), (3, .int 4), (2, .int 3), (1, .int 2), (0, .ref 84)]) rfl rfl (by decide) rfl (by decide) rfl ?_
              refine te_goto rfl ?_
              refine te_iload_n (p2 := 92) rfl rfl rfl ?_
              refine te_iload (p2 := 94) rfl rfl rfl ?_
              refine tb_ge (p2 := 97) rfl rfl (show Int32.toInt 4 = 4 from rfl) (show Int32.toInt 4 = 4 from rfl) (fun c111 => ?_) (fun c111 => absurd c111 (by omega))
              refine te_iconst (p2 := 114) (x := 1) rfl rfl (by decide) ?_
              exact te_zret rfl rfl (by decide) ⟨I108, f108, _, rfl, Or.inr ⟨rfl, (by rw [pq_xe6, on6_6, (pq_of (k := 0) hg0 : pq_n h 70 0 = g0.toInt.toNat), (pq_of (k := 1) hg1 : pq_n h 70 1 = g1.toInt.toNat), (pq_of (k := 2) hg2 : pq_n h 70 2 = g2.toInt.toNat), (pq_of (k := 3) hg3 : pq_n h 70 3 = g3.toInt.toNat), (pq_of (k := 4) hg4 : pq_n h 70 4 = g4.toInt.toNat), (pq_of (k := 5) hg5 : pq_n h 70 5 = g5.toInt.toNat), (pq_of (k := 0) ((Qb108 (Int32.toInt 0).toNat (by decide) (by decide)).trans ((Qb104 (Int32.toInt 0).toNat (by decide) (by decide)).trans hg0)) : pq_n h108 70 0 = g0.toInt.toNat), (pq_of (k := 1) ((Qb108 (Int32.toInt 1).toNat (by decide) (by decide)).trans ((Qb104 (Int32.toInt 1).toNat (by decide) (by decide)).trans hg1)) : pq_n h108 70 1 = g1.toInt.toNat), (pq_of (k := 2) ((Qb108 (Int32.toInt 2).toNat (by decide) (by decide)).trans s104.1) : pq_n h108 70 2 = g3.toInt.toNat), (pq_of (k := 3) s108.1 : pq_n h108 70 3 = g5.toInt.toNat), (pq_of (k := 4) ((Qb108 (Int32.toInt 4).toNat (by decide) (by decide)).trans ((Qb104 (Int32.toInt 4).toNat (by decide) (by decide)).trans hg4)) : pq_n h108 70 4 = g4.toInt.toNat), (pq_of (k := 5) s108.2 : pq_n h108 70 5 = g2.toInt.toNat)]; unfold pq_x6; rw [if_pos (by omega), if_pos (by omega), if_neg (by omega), if_pos (by omega), if_pos (by omega), if_neg (by omega)])⟩⟩
            · refine te_iinc (p2 := 70) (x := 3) (y := 2) (lv2 := [(2, .int 2), (1, .int 2), (0, .ref 84)]) rfl rfl (by decide) rfl (by decide) rfl ?_
              refine te_goto rfl ?_
              refine te_iload_n (p2 := 48) rfl rfl rfl ?_
              refine te_iload_n (p2 := 49) rfl rfl rfl ?_
              refine tb_le (p2 := 52) rfl rfl (show Int32.toInt 2 = 2 from rfl) (show Int32.toInt 2 = 2 from rfl) (fun c113 => ?_) (fun c113 => absurd c113 (by omega))
              refine te_aload_n (p2 := 74) rfl rfl rfl ?_
              refine te_iload_n (p2 := 75) rfl rfl rfl ?_
              refine te_iload_n (p2 := 76) rfl rfl rfl ?_
              refine tc_V (p2 := 79) (i := 68) rfl rfl rfl rfl hI rfl rfl rfl (c_X3_swap (i := 2) (j := 2) hI (by decide) (by decide) (by decide) (by decide)) (by decide) (fun v114 h114 hq114 => ?_)
              obtain ⟨I114, g114, w114, Qa114, Qb114⟩ := hq114
              subst w114
              have f114 := fr_tr (F1 := F_X3_swap) (F := F_X3_goOn) f0 g114 (by decide)
              have s114 := Qa114 _ _ hg2 hg2
              show EvP _ _ _ (79, [(2, .int 2), (1, .int 2), (0, .ref 84)], [], h114) _
              refine te_iload_n (p2 := 80) rfl rfl rfl ?_
              refine te_iconst (p2 := 81) (x := 1) rfl rfl (by decide) ?_
              refine te_iadd (p2 := 82) (z := 3) rfl rfl (by decide) ?_
              refine te_istore_n (p2 := 83) (lv2 := [(3, .int 3), (2, .int 2), (1, .int 2), (0, .ref 84)]) rfl rfl (by decide) rfl ?_
              refine te_aload_n (p2 := 84) rfl rfl rfl ?_
              refine tg_e (p2 := 87) (i := 68) (v := .int 6) rfl rfl I114 rfl rfl ((g114 _ _ (by decide)).trans pr0) ?_
              refine te_iconst (p2 := 88) (x := 1) rfl rfl (by decide) ?_
              refine te_isub (p2 := 89) (z := 5) rfl rfl (by decide) ?_
              refine te_istore (p2 := 91) (lv2 := [(4, .int 5), (3, .int 3), (2, .int 2), (1, .int 2), (0, .ref 84)]) rfl rfl (by decide) rfl ?_
              refine te_iload_n (p2 := 92) rfl rfl rfl ?_
              refine te_iload (p2 := 94) rfl rfl rfl ?_
              refine tb_ge (p2 := 97) rfl rfl (show Int32.toInt 3 = 3 from rfl) (show Int32.toInt 5 = 5 from rfl) (fun c117 => absurd c117 (by omega)) (fun c117 => ?_)
              refine te_aload_n (p2 := 98) rfl rfl rfl ?_
              refine te_iload_n (p2 := 99) rfl rfl rfl ?_
              refine te_iload (p2 := 101) rfl rfl rfl ?_
              refine tc_V (p2 := 104) (i := 68) rfl rfl rfl rfl I114 rfl rfl rfl (c_X3_swap (i := 3) (j := 5) I114 (by decide) (by decide) (by decide) (by decide)) (by decide) (fun v118 h118 hq118 => ?_)
              obtain ⟨I118, g118, w118, Qa118, Qb118⟩ := hq118
              subst w118
              have f118 := fr_tr (F1 := F_X3_swap) (F := F_X3_goOn) f114 g118 (by decide)
              have s118 := Qa118 _ _ ((Qb114 (Int32.toInt 3).toNat (by decide) (by decide)).trans hg3) ((Qb114 (Int32.toInt 5).toNat (by decide) (by decide)).trans hg5)
              show EvP _ _ _ (104, [(4, .int 5), (3, .int 3), (2, .int 2), (1, .int 2), (0, .ref 84)], [], h118) _
              refine te_iinc (p2 := 107) (x := 3) (y := 4) (lv2 := [(3, .int 4), (4, .int 5), (2, .int 2), (1, .int 2), (0, .ref 84)]) rfl rfl (by decide) rfl (by decide) rfl ?_
              refine te_iinc (p2 := 110) (x := 5) (y := 4) (lv2 := [(4, .int 4), (3, .int 4), (2, .int 2), (1, .int 2), (0, .ref 84)]) rfl rfl (by decide) rfl (by decide) rfl ?_
              refine te_goto rfl ?_
              refine te_iload_n (p2 := 92) rfl rfl rfl ?_
              refine te_iload (p2 := 94) rfl rfl rfl ?_
              refine tb_ge (p2 := 97) rfl rfl (show Int32.toInt 4 = 4 from rfl) (show Int32.toInt 4 = 4 from rfl) (fun c121 => ?_) (fun c121 => absurd c121 (by omega))
              refine te_iconst (p2 := 114) (x := 1) rfl rfl (by decide) ?_
              exact te_zret rfl rfl (by decide) ⟨I118, f118, _, rfl, Or.inr ⟨rfl, (by rw [pq_xe6, on6_6, (pq_of (k := 0) hg0 : pq_n h 70 0 = g0.toInt.toNat), (pq_of (k := 1) hg1 : pq_n h 70 1 = g1.toInt.toNat), (pq_of (k := 2) hg2 : pq_n h 70 2 = g2.toInt.toNat), (pq_of (k := 3) hg3 : pq_n h 70 3 = g3.toInt.toNat), (pq_of (k := 4) hg4 : pq_n h 70 4 = g4.toInt.toNat), (pq_of (k := 5) hg5 : pq_n h 70 5 = g5.toInt.toNat), (pq_of (k := 0) ((Qb118 (Int32.toInt 0).toNat (by decide) (by decide)).trans ((Qb114 (Int32.toInt 0).toNat (by decide) (by decide)).trans hg0)) : pq_n h118 70 0 = g0.toInt.toNat), (pq_of (k := 1) ((Qb118 (Int32.toInt 1).toNat (by decide) (by decide)).trans ((Qb114 (Int32.toInt 1).toNat (by decide) (by decide)).trans hg1)) : pq_n h118 70 1 = g1.toInt.toNat), (pq_of (k := 2) ((Qb118 (Int32.toInt 2).toNat (by decide) (by decide)).trans s114.2) : pq_n h118 70 2 = g2.toInt.toNat), (pq_of (k := 3) s118.1 : pq_n h118 70 3 = g5.toInt.toNat), (pq_of (k := 4) ((Qb118 (Int32.toInt 4).toNat (by decide) (by decide)).trans ((Qb114 (Int32.toInt 4).toNat (by decide) (by decide)).trans hg4)) : pq_n h118 70 4 = g4.toInt.toNat), (pq_of (k := 5) s118.2 : pq_n h118 70 5 = g3.toInt.toNat)]; unfold pq_x6; rw [if_pos (by omega), if_pos (by omega), if_neg (by omega), if_pos (by omega), if_pos (by omega), if_pos (by omega)])⟩⟩
      · refine te_iinc (p2 := 31) (x := 2) (y := 1) (lv2 := [(1, .int 1), (0, .ref 84)]) rfl rfl (by decide) rfl (by decide) rfl ?_
        refine te_goto rfl ?_
        refine te_iload_n (p2 := 8) rfl rfl rfl ?_
        refine tz_lt (p2 := 11) rfl rfl (show Int32.toInt 1 = 1 from rfl) (fun c123 => absurd c123 (by omega)) (fun c123 => ?_)
        refine te_aload_n (p2 := 12) rfl rfl rfl ?_
        refine tg_r (p2 := 15) (i := 68) (r := 86) rfl rfl hI rfl rfl rfl ?_
        refine te_iload_n (p2 := 16) rfl rfl rfl ?_
        refine tl_e (p2 := 17) (i := 70) (n := 6) (t := 0) (Or.inl rfl) rfl rfl hI rfl rfl (by decide) (by decide) hg1 ?_
        refine te_aload_n (p2 := 18) rfl rfl rfl ?_
        refine tg_r (p2 := 21) (i := 68) (r := 86) rfl rfl hI rfl rfl rfl ?_
        refine te_iload_n (p2 := 22) rfl rfl rfl ?_
        refine te_iconst (p2 := 23) (x := 1) rfl rfl (by decide) ?_
        refine te_iadd (p2 := 24) (z := 2) rfl rfl (by decide) ?_
        refine tl_e (p2 := 25) (i := 70) (n := 6) (t := 0) (Or.inl rfl) rfl rfl hI rfl rfl (by decide) (by decide) hg2 ?_
        refine tb_le (p2 := 28) rfl rfl rfl rfl (fun c127 => ?_) (fun c127 => ?_)
        · refine te_iload_n (p2 := 35) rfl rfl rfl ?_
          refine tz_ge (p2 := 38) rfl rfl (show Int32.toInt 1 = 1 from rfl) (fun c128 => ?_) (fun c128 => absurd c128 (by omega))
          refine te_aload_n (p2 := 41) rfl rfl rfl ?_
          refine tg_e (p2 := 44) (i := 68) (v := .int 6) rfl rfl hI rfl rfl pr0 ?_
          refine te_iconst (p2 := 45) (x := 1) rfl rfl (by decide) ?_
          refine te_isub (p2 := 46) (z := 5) rfl rfl (by decide) ?_
          refine te_istore_n (p2 := 47) (lv2 := [(2, .int 5), (1, .int 1), (0, .ref 84)]) rfl rfl (by decide) rfl ?_
          refine te_iload_n (p2 := 48) rfl rfl rfl ?_
          refine te_iload_n (p2 := 49) rfl rfl rfl ?_
          refine tb_le (p2 := 52) rfl rfl (show Int32.toInt 5 = 5 from rfl) (show Int32.toInt 1 = 1 from rfl) (fun c130 => absurd c130 (by omega)) (fun c130 => ?_)
          refine te_aload_n (p2 := 53) rfl rfl rfl ?_
          refine tg_r (p2 := 56) (i := 68) (r := 86) rfl rfl hI rfl rfl rfl ?_
          refine te_iload_n (p2 := 57) rfl rfl rfl ?_
          refine tl_e (p2 := 58) (i := 70) (n := 6) (t := 0) (Or.inl rfl) rfl rfl hI rfl rfl (by decide) (by decide) hg5 ?_
          refine te_aload_n (p2 := 59) rfl rfl rfl ?_
          refine tg_r (p2 := 62) (i := 68) (r := 86) rfl rfl hI rfl rfl rfl ?_
          refine te_iload_n (p2 := 63) rfl rfl rfl ?_
          refine tl_e (p2 := 64) (i := 70) (n := 6) (t := 0) (Or.inl rfl) rfl rfl hI rfl rfl (by decide) (by decide) hg1 ?_
          refine tb_ge (p2 := 67) rfl rfl rfl rfl (fun c133 => ?_) (fun c133 => ?_)
          · refine te_aload_n (p2 := 74) rfl rfl rfl ?_
            refine te_iload_n (p2 := 75) rfl rfl rfl ?_
            refine te_iload_n (p2 := 76) rfl rfl rfl ?_
            refine tc_V (p2 := 79) (i := 68) rfl rfl rfl rfl hI rfl rfl rfl (c_X3_swap (i := 1) (j := 5) hI (by decide) (by decide) (by decide) (by decide)) (by decide) (fun v134 h134 hq134 => ?_)
            obtain ⟨I134, g134, w134, Qa134, Qb134⟩ := hq134
            subst w134
            have f134 := fr_tr (F1 := F_X3_swap) (F := F_X3_goOn) f0 g134 (by decide)
            have s134 := Qa134 _ _ hg1 hg5
            show EvP _ _ _ (79, [(2, .int 5), (1, .int 1), (0, .ref 84)], [], h134) _
            refine te_iload_n (p2 := 80) rfl rfl rfl ?_
            refine te_iconst (p2 := 81) (x := 1) rfl rfl (by decide) ?_
            refine te_iadd (p2 := 82) (z := 2) rfl rfl (by decide) ?_
            refine te_istore_n (p2 := 83) (lv2 := [(3, .int 2), (2, .int 5), (1, .int 1), (0, .ref 84)]) rfl rfl (by decide) rfl ?_
            refine te_aload_n (p2 := 84) rfl rfl rfl ?_
            refine tg_e (p2 := 87) (i := 68) (v := .int 6) rfl rfl I134 rfl rfl ((g134 _ _ (by decide)).trans pr0) ?_
            refine te_iconst (p2 := 88) (x := 1) rfl rfl (by decide) ?_
            refine te_isub (p2 := 89) (z := 5) rfl rfl (by decide) ?_
            refine te_istore (p2 := 91) (lv2 := [(4, .int 5), (3, .int 2), (2, .int 5), (1, .int 1), (0, .ref 84)]) rfl rfl (by decide) rfl ?_
            refine te_iload_n (p2 := 92) rfl rfl rfl ?_
            refine te_iload (p2 := 94) rfl rfl rfl ?_
            refine tb_ge (p2 := 97) rfl rfl (show Int32.toInt 2 = 2 from rfl) (show Int32.toInt 5 = 5 from rfl) (fun c137 => absurd c137 (by omega)) (fun c137 => ?_)
            refine te_aload_n (p2 := 98) rfl rfl rfl ?_
            refine te_iload_n (p2 := 99) rfl rfl rfl ?_
            refine te_iload (p2 := 101) rfl rfl rfl ?_
            refine tc_V (p2 := 104) (i := 68) rfl rfl rfl rfl I134 rfl rfl rfl (c_X3_swap (i := 2) (j := 5) I134 (by decide) (by decide) (by decide) (by decide)) (by decide) (fun v138 h138 hq138 => ?_)
            obtain ⟨I138, g138, w138, Qa138, Qb138⟩ := hq138
            subst w138
            have f138 := fr_tr (F1 := F_X3_swap) (F := F_X3_goOn) f134 g138 (by decide)
            have s138 := Qa138 _ _ ((Qb134 (Int32.toInt 2).toNat (by decide) (by decide)).trans hg2) s134.2
            show EvP _ _ _ (104, [(4, .int 5), (3, .int 2), (2, .int 5), (1, .int 1), (0, .ref 84)], [], h138) _
            refine te_iinc (p2 := 107) (x := 2) (y := 3) (lv2 := [(3, .int 3), (4, .int 5), (2, .int 5), (1, .int 1), (0, .ref 84)]) rfl rfl (by decide) rfl (by decide) rfl ?_
            refine te_iinc (p2 := 110) (x := 5) (y := 4) (lv2 := [(4, .int 4), (3, .int 3), (2, .int 5), (1, .int 1), (0, .ref 84)]) rfl rfl (by decide) rfl (by decide) rfl ?_
            refine te_goto rfl ?_
            refine te_iload_n (p2 := 92) rfl rfl rfl ?_
            refine te_iload (p2 := 94) rfl rfl rfl ?_
            refine tb_ge (p2 := 97) rfl rfl (show Int32.toInt 3 = 3 from rfl) (show Int32.toInt 4 = 4 from rfl) (fun c141 => absurd c141 (by omega)) (fun c141 => ?_)
            refine te_aload_n (p2 := 98) rfl rfl rfl ?_
            refine te_iload_n (p2 := 99) rfl rfl rfl ?_
            refine te_iload (p2 := 101) rfl rfl rfl ?_
            refine tc_V (p2 := 104) (i := 68) rfl rfl rfl rfl I138 rfl rfl rfl (c_X3_swap (i := 3) (j := 4) I138 (by decide) (by decide) (by decide) (by decide)) (by decide) (fun v142 h142 hq142 => ?_)
            obtain ⟨I142, g142, w142, Qa142, Qb142⟩ := hq142
            subst w142
            have f142 := fr_tr (F1 := F_X3_swap) (F := F_X3_goOn) f138 g142 (by decide)
            have s142 := Qa142 _ _ ((Qb138 (Int32.toInt 3).toNat (by decide) (by decide)).trans ((Qb134 (Int32.toInt 3).toNat (by decide) (by decide)).trans hg3)) ((Qb138 (Int32.toInt 4).toNat (by decide) (by decide)).trans ((Qb134 (Int32.toInt 4).toNat (by decide) (by decide)).trans hg4))
            show EvP _ _ _ (104, [(4, .int 4), (3, .int 3), (2, .int 5), (1, .int 1), (0, .ref 84)], [], h142) _
            refine te_iinc (p2 := 107) (x := 3) (y := 4) (lv2 := [(3, .int 4), (4, .int 4), (2, .int 5), (1, .int 1), (0, .ref 84)]) rfl rfl (by decide) rfl (by decide) rfl ?_
            refine te_iinc (p2 := 110) (x := 4) (y := 3) (lv2 := [(4, .int 3), (3, .int 4), (2, .int 5), (1, .int 1), (0, .ref 84)]) rfl rfl (by decide) rfl (by decide) rfl ?_
            refine te_goto rfl ?_
            refine te_iload_n (p2 := 92) rfl rfl rfl ?_
            refine te_iload (p2 := 94) rfl rfl rfl ?_
            refine tb_ge (p2 := 97) rfl rfl (show Int32.toInt 4 = 4 from rfl) (show Int32.toInt 3 = 3 from rfl) (fun c145 => ?_) (fun c145 => absurd c145 (by omega))
            refine te_iconst (p2 := 114) (x := 1) rfl rfl (by decide) ?_
            exact te_zret rfl rfl (by decide) ⟨I142, f142, _, rfl, Or.inr ⟨rfl, (by rw [pq_xe6, on6_6, (pq_of (k := 0) hg0 : pq_n h 70 0 = g0.toInt.toNat), (pq_of (k := 1) hg1 : pq_n h 70 1 = g1.toInt.toNat), (pq_of (k := 2) hg2 : pq_n h 70 2 = g2.toInt.toNat), (pq_of (k := 3) hg3 : pq_n h 70 3 = g3.toInt.toNat), (pq_of (k := 4) hg4 : pq_n h 70 4 = g4.toInt.toNat), (pq_of (k := 5) hg5 : pq_n h 70 5 = g5.toInt.toNat), (pq_of (k := 0) ((Qb142 (Int32.toInt 0).toNat (by decide) (by decide)).trans ((Qb138 (Int32.toInt 0).toNat (by decide) (by decide)).trans ((Qb134 (Int32.toInt 0).toNat (by decide) (by decide)).trans hg0))) : pq_n h142 70 0 = g0.toInt.toNat), (pq_of (k := 1) ((Qb142 (Int32.toInt 1).toNat (by decide) (by decide)).trans ((Qb138 (Int32.toInt 1).toNat (by decide) (by decide)).trans s134.1)) : pq_n h142 70 1 = g5.toInt.toNat), (pq_of (k := 2) ((Qb142 (Int32.toInt 2).toNat (by decide) (by decide)).trans s138.1) : pq_n h142 70 2 = g1.toInt.toNat), (pq_of (k := 3) s142.1 : pq_n h142 70 3 = g4.toInt.toNat), (pq_of (k := 4) s142.2 : pq_n h142 70 4 = g3.toInt.toNat), (pq_of (k := 5) ((Qb142 (Int32.toInt 5).toNat (by decide) (by decide)).trans s138.2) : pq_n h142 70 5 = g2.toInt.toNat)]; unfold pq_x6; rw [if_pos (by omega), if_pos (by omega), if_pos (by omega), if_neg (by omega), if_neg (by omega)])⟩⟩
          · refine te_iinc (p2 := 70) (x := 5) (y := 4) (lv2 := [(2, .int 4), (1, .int 1), (0, .ref 84)]) rfl rfl (by decide) rfl (by decide) rfl ?_
            refine te_goto rfl ?_
            refine te_iload_n (p2 := 48) rfl rfl rfl ?_
            refine te_iload_n (p2 := 49) rfl rfl rfl ?_
            refine tb_le (p2 := 52) rfl rfl (show Int32.toInt 4 = 4 from rfl) (show Int32.toInt 1 = 1 from rfl) (fun c147 => absurd c147 (by omega)) (fun c147 => ?_)
            refine te_aload_n (p2 := 53) rfl rfl rfl ?_
            refine tg_r (p2 := 56) (i := 68) (r := 86) rfl rfl hI rfl rfl rfl ?_
            refine te_iload_n (p2 := 57) rfl rfl rfl ?_
            refine tl_e (p2 := 58) (i := 70) (n := 6) (t := 0) (Or.inl rfl) rfl rfl hI rfl rfl (by decide) (by decide) hg4 ?_
            refine te_aload_n (p2 := 59) rfl rfl rfl ?_
            refine tg_r (p2 := 62) (i := 68) (r := 86) rfl rfl hI rfl rfl rfl ?_
            refine te_iload_n (p2 := 63) rfl rfl rfl ?_
            refine tl_e (p2 := 64) (i := 70) (n := 6) (t := 0) (Or.inl rfl) rfl rfl hI rfl rfl (by decide) (by decide) hg1 ?_
            refine tb_ge (p2 := 67) rfl rfl rfl rfl (fun c150 => ?_) (fun c150 => ?_)
            · refine te_aload_n (p2 := 74) rfl rfl rfl ?_
              refine te_iload_n (p2 := 75) rfl rfl rfl ?_
              refine te_iload_n (p2 := 76) rfl rfl rfl ?_
              refine tc_V (p2 := 79) (i := 68) rfl rfl rfl rfl hI rfl rfl rfl (c_X3_swap (i := 1) (j := 4) hI (by decide) (by decide) (by decide) (by decide)) (by decide) (fun v151 h151 hq151 => ?_)
              obtain ⟨I151, g151, w151, Qa151, Qb151⟩ := hq151
              subst w151
              have f151 := fr_tr (F1 := F_X3_swap) (F := F_X3_goOn) f0 g151 (by decide)
              have s151 := Qa151 _ _ hg1 hg4
              show EvP _ _ _ (79, [(2, .int 4), (1, .int 1), (0, .ref 84)], [], h151) _
              refine te_iload_n (p2 := 80) rfl rfl rfl ?_
              refine te_iconst (p2 := 81) (x := 1) rfl rfl (by decide) ?_
              refine te_iadd (p2 := 82) (z := 2) rfl rfl (by decide) ?_
              refine te_istore_n (p2 := 83) (lv2 := [(3, .int 2), (2, .int 4), (1, .int 1), (0, .ref 84)]) rfl rfl (by decide) rfl ?_
              refine te_aload_n (p2 := 84) rfl rfl rfl ?_
              refine tg_e (p2 := 87) (i := 68) (v := .int 6) rfl rfl I151 rfl rfl ((g151 _ _ (by decide)).trans pr0) ?_
              refine te_iconst (p2 := 88) (x := 1) rfl rfl (by decide) ?_
              refine te_isub (p2 := 89) (z := 5) rfl rfl (by decide) ?_
              refine te_istore (p2 := 91) (lv2 := [(4, .int 5), (3, .int 2), (2, .int 4), (1, .int 1), (0, .ref 84)]) rfl rfl (by decide) rfl ?_
              refine te_iload_n (p2 := 92) rfl rfl rfl ?_
              refine te_iload (p2 := 94) rfl rfl rfl ?_
              refine tb_ge (p2 := 97) rfl rfl (show Int32.toInt 2 = 2 from rfl) (show Int32.toInt 5 = 5 from rfl) (fun c154 => absurd c154 (by omega)) (fun c154 => ?_)
              refine te_aload_n (p2 := 98) rfl rfl rfl ?_
              refine te_iload_n (p2 := 99) rfl rfl rfl ?_
              refine te_iload (p2 := 101) rfl rfl rfl ?_
              refine tc_V (p2 := 104) (i := 68) rfl rfl rfl rfl I151 rfl rfl rfl (c_X3_swap (i := 2) (j := 5) I151 (by decide) (by decide) (by decide) (by decide)) (by decide) (fun v155 h155 hq155 => ?_)
              obtain ⟨I155, g155, w155, Qa155, Qb155⟩ := hq155
              subst w155
              have f155 := fr_tr (F1 := F_X3_swap) (F := F_X3_goOn) f151 g155 (by decide)
              have s155 := Qa155 _ _ ((Qb151 (Int32.toInt 2).toNat (by decide) (by decide)).trans hg2) ((Qb151 (Int32.toInt 5).toNat (by decide) (by decide)).trans hg5)
              show EvP _ _ _ (104, [(4, .int 5), (3, .int 2), (2, .int 4), (1, .int 1), (0, .ref 84)], [], h155) _
              refine te_iinc (p2 := 107) (x := 2) (y := 3) (lv2 := [(3, .int 3), (4, .int 5), (2, .int 4), (1, .int 1), (0, .ref 84)]) rfl rfl (by decide) rfl (by decide) rfl ?_
              refine te_iinc (p2 := 110) (x := 5) (y := 4) (lv2 := [(4, .int 4), (3, .int 3), (2, .int 4), (1, .int 1), (0, .ref 84)]) rfl rfl (by decide) rfl (by decide) rfl ?_
              refine te_goto rfl ?_
              refine te_iload_n (p2 := 92) rfl rfl rfl ?_
              refine te_iload (p2 := 94) rfl rfl rfl ?_
              refine tb_ge (p2 := 97) rfl rfl (show Int32.toInt 3 = 3 from rfl) (show Int32.toInt 4 = 4 from rfl) (fun c158 => absurd c158 (by omega)) (fun c158 => ?_)
              refine te_aload_n (p2 := 98) rfl rfl rfl ?_
              refine te_iload_n (p2 := 99) rfl rfl rfl ?_
              refine te_iload (p2 := 101) rfl rfl rfl ?_
              refine tc_V (p2 := 104) (i := 68) rfl rfl rfl rfl I155 rfl rfl rfl (c_X3_swap (i := 3) (j := 4) I155 (by decide) (by decide) (by decide) (by decide)) (by decide) (fun v159 h159 hq159 => ?_)
              obtain ⟨I159, g159, w159, Qa159, Qb159⟩ := hq159
              subst w159
              have f159 := fr_tr (F1 := F_X3_swap) (F := F_X3_goOn) f155 g159 (by decide)
              have s159 := Qa159 _ _ ((Qb155 (Int32.toInt 3).toNat (by decide) (by decide)).trans ((Qb151 (Int32.toInt 3).toNat (by decide) (by decide)).trans hg3)) ((Qb155 (Int32.toInt 4).toNat (by decide) (by decide)).trans s151.2)
              show EvP _ _ _ (104, [(4, .int 4), (3, .int 3), (2, .int 4), (1, .int 1), (0, .ref 84)], [], h159) _
              refine te_iinc (p2 := 107) (x := 3) (y := 4) (lv2 := [(3, .int 4), (4, .int 4), (2, .int 4), (1, .int 1), (0, .ref 84)]) rfl rfl (by decide) rfl (by decide) rfl ?_
              refine te_iinc (p2 := 110) (x := 4) (y := 3) (lv2 := [(4, .int 3), (3, .int 4), (2, .int 4), (1, .int 1), (0, .ref 84)]) rfl rfl (by decide) rfl (by decide) rfl ?_
              refine te_goto rfl ?_
              refine te_iload_n (p2 := 92) rfl rfl rfl ?_
              refine te_iload (p2 := 94) rfl rfl rfl ?_
              refine tb_ge (p2 := 97) rfl rfl (show Int32.toInt 4 = 4 from rfl) (show Int32.toInt 3 = 3 from rfl) (fun c162 => ?_) (fun c162 => absurd c162 (by omega))
              refine te_iconst (p2 := 114) (x := 1) rfl rfl (by decide) ?_
              exact te_zret rfl rfl (by decide) ⟨I159, f159, _, rfl, Or.inr ⟨rfl, (by rw [pq_xe6, on6_6, (pq_of (k := 0) hg0 : pq_n h 70 0 = g0.toInt.toNat), (pq_of (k := 1) hg1 : pq_n h 70 1 = g1.toInt.toNat), (pq_of (k := 2) hg2 : pq_n h 70 2 = g2.toInt.toNat), (pq_of (k := 3) hg3 : pq_n h 70 3 = g3.toInt.toNat), (pq_of (k := 4) hg4 : pq_n h 70 4 = g4.toInt.toNat), (pq_of (k := 5) hg5 : pq_n h 70 5 = g5.toInt.toNat), (pq_of (k := 0) ((Qb159 (Int32.toInt 0).toNat (by decide) (by decide)).trans ((Qb155 (Int32.toInt 0).toNat (by decide) (by decide)).trans ((Qb151 (Int32.toInt 0).toNat (by decide) (by decide)).trans hg0))) : pq_n h159 70 0 = g0.toInt.toNat), (pq_of (k := 1) ((Qb159 (Int32.toInt 1).toNat (by decide) (by decide)).trans ((Qb155 (Int32.toInt 1).toNat (by decide) (by decide)).trans s151.1)) : pq_n h159 70 1 = g4.toInt.toNat), (pq_of (k := 2) ((Qb159 (Int32.toInt 2).toNat (by decide) (by decide)).trans s155.1) : pq_n h159 70 2 = g5.toInt.toNat), (pq_of (k := 3) s159.1 : pq_n h159 70 3 = g1.toInt.toNat), (pq_of (k := 4) s159.2 : pq_n h159 70 4 = g3.toInt.toNat), (pq_of (k := 5) ((Qb159 (Int32.toInt 5).toNat (by decide) (by decide)).trans s155.2) : pq_n h159 70 5 = g2.toInt.toNat)]; unfold pq_x6; rw [if_pos (by omega), if_pos (by omega), if_pos (by omega), if_neg (by omega), if_pos (by omega), if_neg (by omega)])⟩⟩
            · refine te_iinc (p2 := 70) (x := 4) (y := 3) (lv2 := [(2, .int 3), (1, .int 1), (0, .ref 84)]) rfl rfl (by decide) rfl (by decide) rfl ?_
              refine te_goto rfl ?_
              refine te_iload_n (p2 := 48) rfl rfl rfl ?_
              refine te_iload_n (p2 := 49) rfl rfl rfl ?_
              refine tb_le (p2 := 52) rfl rfl (show Int32.toInt 3 = 3 from rfl) (show Int32.toInt 1 = 1 from rfl) (fun c164 => absurd c164 (by omega)) (fun c164 => ?_)
              refine te_aload_n (p2 := 53) rfl rfl rfl ?_
              refine tg_r (p2 := 56) (i := 68) (r := 86) rfl rfl hI rfl rfl rfl ?_
              refine te_iload_n (p2 := 57) rfl rfl rfl ?_
              refine tl_e (p2 := 58) (i := 70) (n := 6) (t := 0) (Or.inl rfl) rfl rfl hI rfl rfl (by decide) (by decide) hg3 ?_
              refine te_aload_n (p2 := 59) rfl rfl rfl ?_
              refine tg_r (p2 := 62) (i := 68) (r := 86) rfl rfl hI rfl rfl rfl ?_
              refine te_iload_n (p2 := 63) rfl rfl rfl ?_
              refine tl_e (p2 := 64) (i := 70) (n := 6) (t := 0) (Or.inl rfl) rfl rfl hI rfl rfl (by decide) (by decide) hg1 ?_
              refine tb_ge (p2 := 67) rfl rfl rfl rfl (fun c167 => ?_) (fun c167 => ?_)
              · refine te_aload_n (p2 := 74) rfl rfl rfl ?_
                refine te_iload_n (p2 := 75) rfl rfl rfl ?_
                refine te_iload_n (p2 := 76) rfl rfl rfl ?_
                refine tc_V (p2 := 79) (i := 68) rfl rfl rfl rfl hI rfl rfl rfl (c_X3_swap (i := 1) (j := 3) hI (by decide) (by decide) (by decide) (by decide)) (by decide) (fun v168 h168 hq168 => ?_)
                obtain ⟨I168, g168, w168, Qa168, Qb168⟩ := hq168
                subst w168
                have f168 := fr_tr (F1 := F_X3_swap) (F := F_X3_goOn) f0 g168 (by decide)
                have s168 := Qa168 _ _ hg1 hg3
                show EvP _ _ _ (79, [(2, .int 3), (1, .int 1), (0, .ref 84)], [], h168) _
                refine te_iload_n (p2 := 80) rfl rfl rfl ?_
                refine te_iconst (p2 := 81) (x := 1) rfl rfl (by decide) ?_
                refine te_iadd (p2 := 82) (z := 2) rfl rfl (by decide) ?_
                refine te_istore_n (p2 := 83) (lv2 := [(3, .int 2), (2, .int 3), (1, .int 1), (0, .ref 84)]) rfl rfl (by decide) rfl ?_
                refine te_aload_n (p2 := 84) rfl rfl rfl ?_
                refine tg_e (p2 := 87) (i := 68) (v := .int 6) rfl rfl I168 rfl rfl ((g168 _ _ (by decide)).trans pr0) ?_
                refine te_iconst (p2 := 88) (x := 1) rfl rfl (by decide) ?_
                refine te_isub (p2 := 89) (z := 5) rfl rfl (by decide) ?_
                refine te_istore (p2 := 91) (lv2 := [(4, .int 5), (3, .int 2), (2, .int 3), (1, .int 1), (0, .ref 84)]) rfl rfl (by decide) rfl ?_
                refine te_iload_n (p2 := 92) rfl rfl rfl ?_
                refine te_iload (p2 := 94) rfl rfl rfl ?_
                refine tb_ge (p2 := 97) rfl rfl (show Int32.toInt 2 = 2 from rfl) (show Int32.toInt 5 = 5 from rfl) (fun c171 => absurd c171 (by omega)) (fun c171 => ?_)
                refine te_aload_n (p2 := 98) rfl rfl rfl ?_
                refine te_iload_n (p2 := 99) rfl rfl rfl ?_
                refine te_iload (p2 := 101) rfl rfl rfl ?_
                refine tc_V (p2 := 104) (i := 68) rfl rfl rfl rfl I168 rfl rfl rfl (c_X3_swap (i := 2) (j := 5) I168 (by decide) (by decide) (by decide) (by decide)) (by decide) (fun v172 h172 hq172 => ?_)
                obtain ⟨I172, g172, w172, Qa172, Qb172⟩ := hq172
                subst w172
                have f172 := fr_tr (F1 := F_X3_swap) (F := F_X3_goOn) f168 g172 (by decide)
                have s172 := Qa172 _ _ ((Qb168 (Int32.toInt 2).toNat (by decide) (by decide)).trans hg2) ((Qb168 (Int32.toInt 5).toNat (by decide) (by decide)).trans hg5)
                show EvP _ _ _ (104, [(4, .int 5), (3, .int 2), (2, .int 3), (1, .int 1), (0, .ref 84)], [], h172) _
                refine te_iinc (p2 := 107) (x := 2) (y := 3) (lv2 := [(3, .int 3), (4, .int 5), (2, .int 3), (1, .int 1), (0, .ref 84)]) rfl rfl (by decide) rfl (by decide) rfl ?_
                refine te_iinc (p2 := 110) (x := 5) (y := 4) (lv2 := [(4, .int 4), (3, .int 3), (2, .int 3), (1, .int 1), (0, .ref 84)]) rfl rfl (by decide) rfl (by decide) rfl ?_
                refine te_goto rfl ?_
                refine te_iload_n (p2 := 92) rfl rfl rfl ?_
                refine te_iload (p2 := 94) rfl rfl rfl ?_
                refine tb_ge (p2 := 97) rfl rfl (show Int32.toInt 3 = 3 from rfl) (show Int32.toInt 4 = 4 from rfl) (fun c175 => absurd c175 (by omega)) (fun c175 => ?_)
                refine te_aload_n (p2 := 98) rfl rfl rfl ?_
                refine te_iload_n (p2 := 99) rfl rfl rfl ?_
                refine te_iload (p2 := 101) rfl rfl rfl ?_
                refine tc_V (p2 := 104) (i := 68) rfl rfl rfl rfl I172 rfl rfl rfl (c_X3_swap (i := 3) (j := 4) I172 (by decide) (by decide) (by decide) (by decide)) (by decide) (fun v176 h176 hq176 => ?_)
                obtain ⟨I176, g176, w176, Qa176, Qb176⟩ := hq176
                subst w176
                have f176 := fr_tr (F1 := F_X3_swap) (F := F_X3_goOn) f172 g176 (by decide)
                have s176 := Qa176 _ _ ((Qb172 (Int32.toInt 3).toNat (by decide) (by decide)).trans s168.2) ((Qb172 (Int32.toInt 4).toNat (by decide) (by decide)).trans ((Qb168 (Int32.toInt 4).toNat (by decide) (by decide)).trans hg4))
                show EvP _ _ _ (104, [(4, .int 4), (3, .int 3), (2, .int 3), (1, .int 1), (0, .ref 84)], [], h176) _
                refine te_iinc (p2 := 107) (x := 3) (y := 4) (lv2 := [(3, .int 4), (4, .int 4), (2, .int 3), (1, .int 1), (0, .ref 84)]) rfl rfl (by decide) rfl (by decide) rfl ?_
                refine te_iinc (p2 := 110) (x := 4) (y := 3) (lv2 := [(4, .int 3), (3, .int 4), (2, .int 3), (1, .int 1), (0, .ref 84)]) rfl rfl (by decide) rfl (by decide) rfl ?_
                refine te_goto rfl ?_
                refine te_iload_n (p2 := 92) rfl rfl rfl ?_
                refine te_iload (p2 := 94) rfl rfl rfl ?_
                refine tb_ge (p2 := 97) rfl rfl (show Int32.toInt 4 = 4 from rfl) (show Int32.toInt 3 = 3 from rfl) (fun c179 => ?_) (fun c179 => absurd c179 (by omega))
                refine te_iconst (p2 := 114) (x := 1) rfl rfl (by decide) ?_
                exact te_zret rfl rfl (by decide) ⟨I176, f176, _, rfl, Or.inr ⟨rfl, (by rw [pq_xe6, on6_6, (pq_of (k := 0) hg0 : pq_n h 70 0 = g0.toInt.toNat), (pq_of (k := 1) hg1 : pq_n h 70 1 = g1.toInt.toNat), (pq_of (k := 2) hg2 : pq_n h 70 2 = g2.toInt.toNat), (pq_of (k := 3) hg3 : pq_n h 70 3 = g3.toInt.toNat), (pq_of (k := 4) hg4 : pq_n h 70 4 = g4.toInt.toNat), (pq_of (k := 5) hg5 : pq_n h 70 5 = g5.toInt.toNat), (pq_of (k := 0) ((Qb176 (Int32.toInt 0).toNat (by decide) (by decide)).trans ((Qb172 (Int32.toInt 0).toNat (by decide) (by decide)).trans ((Qb168 (Int32.toInt 0).toNat (by decide) (by decide)).trans hg0))) : pq_n h176 70 0 = g0.toInt.toNat), (pq_of (k := 1) ((Qb176 (Int32.toInt 1).toNat (by decide) (by decide)).trans ((Qb172 (Int32.toInt 1).toNat (by decide) (by decide)).trans s168.1)) : pq_n h176 70 1 = g3.toInt.toNat), (pq_of (k := 2) ((Qb176 (Int32.toInt 2).toNat (by decide) (by decide)).trans s172.1) : pq_n h176 70 2 = g5.toInt.toNat), (pq_of (k := 3) s176.1 : pq_n h176 70 3 = g4.toInt.toNat), (pq_of (k := 4) s176.2 : pq_n h176 70 4 = g1.toInt.toNat), (pq_of (k := 5) ((Qb176 (Int32.toInt 5).toNat (by decide) (by decide)).trans s172.2) : pq_n h176 70 5 = g2.toInt.toNat)]; unfold pq_x6; rw [if_pos (by omega), if_pos (by omega), if_pos (by omega), if_neg (by omega), if_pos (by omega), if_pos (by omega), if_neg (by omega)])⟩⟩
              · refine te_iinc (p2 := 70) (x := 3) (y := 2) (lv2 := [(2, .int 2), (1, .int 1), (0, .ref 84)]) rfl rfl (by decide) rfl (by decide) rfl ?_
                refine te_goto rfl ?_
                refine te_iload_n (p2 := 48) rfl rfl rfl ?_
                refine te_iload_n (p2 := 49) rfl rfl rfl ?_
                refine tb_le (p2 := 52) rfl rfl (show Int32.toInt 2 = 2 from rfl) (show Int32.toInt 1 = 1 from rfl) (fun c181 => absurd c181 (by omega)) (fun c181 => ?_)
                refine te_aload_n (p2 := 53) rfl rfl rfl ?_
                refine tg_r (p2 := 56) (i := 68) (r := 86) rfl rfl hI rfl rfl rfl ?_
                refine te_iload_n (p2 := 57) rfl rfl rfl ?_
                refine tl_e (p2 := 58) (i := 70) (n := 6) (t := 0) (Or.inl rfl) rfl rfl hI rfl rfl (by decide) (by decide) hg2 ?_
                refine te_aload_n (p2 := 59) rfl rfl rfl ?_
                refine tg_r (p2 := 62) (i := 68) (r := 86) rfl rfl hI rfl rfl rfl ?_
                refine te_iload_n (p2 := 63) rfl rfl rfl ?_
                refine tl_e (p2 := 64) (i := 70) (n := 6) (t := 0) (Or.inl rfl) rfl rfl hI rfl rfl (by decide) (by decide) hg1 ?_
                refine tb_ge (p2 := 67) rfl rfl rfl rfl (fun c184 => ?_) (fun c184 => ?_)
                · refine te_aload_n (p2 := 74) rfl rfl rfl ?_
                  refine te_iload_n (p2 := 75) rfl rfl rfl ?_
                  refine te_iload_n (p2 := 76) rfl rfl rfl ?_
                  refine tc_V (p2 := 79) (i := 68) rfl rfl rfl rfl hI rfl rfl rfl (c_X3_swap (i := 1) (j := 2) hI (by decide) (by decide) (by decide) (by decide)) (by decide) (fun v185 h185 hq185 => ?_)
                  obtain ⟨I185, g185, w185, Qa185, Qb185⟩ := hq185
                  subst w185
                  have f185 := fr_tr (F1 := F_X3_swap) (F := F_X3_goOn) f0 g185 (by decide)
                  have s185 := Qa185 _ _ hg1 hg2
                  show EvP _ _ _ (79, [(2, .int 2), (1, .int 1), (0, .ref 84)], [], h185) _
                  refine te_iload_n (p2 := 80) rfl rfl rfl ?_
                  refine te_iconst (p2 := 81) (x := 1) rfl rfl (by decide) ?_
                  refine te_iadd (p2 := 82) (z := 2) rfl rfl (by decide) ?_
                  refine te_istore_n (p2 := 83) (lv2 := [(3, .int 2), (2, .int 2), (1, .int 1), (0, .ref 84)]) rfl rfl (by decide) rfl ?_
                  refine te_aload_n (p2 := 84) rfl rfl rfl ?_
                  refine tg_e (p2 := 87) (i := 68) (v := .int 6) rfl rfl I185 rfl rfl ((g185 _ _ (by decide)).trans pr0) ?_
                  refine te_iconst (p2 := 88) (x := 1) rfl rfl (by decide) ?_
                  refine te_isub (p2 := 89) (z := 5) rfl rfl (by decide) ?_
                  refine te_istore (p2 := 91) (lv2 := [(4, .int 5), (3, .int 2), (2, .int 2), (1, .int 1), (0, .ref 84)]) rfl rfl (by decide) rfl ?_
                  refine te_iload_n (p2 := 92) rfl rfl rfl ?_
                  refine te_iload (p2 := 94) rfl rfl rfl ?_
                  refine tb_ge (p2 := 97) rfl rfl (show Int32.toInt 2 = 2 from rfl) (show Int32.toInt 5 = 5 from rfl) (fun c188 => absurd c188 (by omega)) (fun c188 => ?_)
                  refine te_aload_n (p2 := 98) rfl rfl rfl ?_
                  refine te_iload_n (p2 := 99) rfl rfl rfl ?_
                  refine te_iload (p2 := 101) rfl rfl rfl ?_
                  refine tc_V (p2 := 104) (i := 68) rfl rfl rfl rfl I185 rfl rfl rfl (c_X3_swap (i := 2) (j := 5) I185 (by decide) (by decide) (by decide) (by decide)) (by decide) (fun v189 h189 hq189 => ?_)
                  obtain ⟨I189, g189, w189, Qa189, Qb189⟩ := hq189
                  subst w189
                  have f189 := fr_tr (F1 := F_X3_swap) (F := F_X3_goOn) f185 g189 (by decide)
                  have s189 := Qa189 _ _ s185.2 ((Qb185 (Int32.toInt 5).toNat (by decide) (by decide)).trans hg5)
                  show EvP _ _ _ (104, [(4, .int 5), (3, .int 2), (2, .int 2), (1, .int 1), (0, .ref 84)], [], h189) _
                  refine te_iinc (p2 := 107) (x := 2) (y := 3) (lv2 := [(3, .int 3), (4, .int 5), (2, .int 2), (1, .int 1), (0, .ref 84)]) rfl rfl (by decide) rfl (by decide) rfl ?_
                  refine te_iinc (p2 := 110) (x := 5) (y := 4) (lv2 := [(4, .int 4), (3, .int 3), (2, .int 2), (1, .int 1), (0, .ref 84)]) rfl rfl (by decide) rfl (by decide) rfl ?_
                  refine te_goto rfl ?_
                  refine te_iload_n (p2 := 92) rfl rfl rfl ?_
                  refine te_iload (p2 := 94) rfl rfl rfl ?_
                  refine tb_ge (p2 := 97) rfl rfl (show Int32.toInt 3 = 3 from rfl) (show Int32.toInt 4 = 4 from rfl) (fun c192 => absurd c192 (by omega)) (fun c192 => ?_)
                  refine te_aload_n (p2 := 98) rfl rfl rfl ?_
                  refine te_iload_n (p2 := 99) rfl rfl rfl ?_
                  refine te_iload (p2 := 101) rfl rfl rfl ?_
                  refine tc_V (p2 := 104) (i := 68) rfl rfl rfl rfl I189 rfl rfl rfl (c_X3_swap (i := 3) (j := 4) I189 (by decide) (by decide) (by decide) (by decide)) (by decide) (fun v193 h193 hq193 => ?_)
                  obtain ⟨I193, g193, w193, Qa193, Qb193⟩ := hq193
                  subst w193
                  have f193 := fr_tr (F1 := F_X3_swap) (F := F_X3_goOn) f189 g193 (by decide)
                  have s193 := Qa193 _ _ ((Qb189 (Int32.toInt 3).toNat (by decide) (by decide)).trans ((Qb185 (Int32.toInt 3).toNat (by decide) (by decide)).trans hg3)) ((Qb189 (Int32.toInt 4).toNat (by decide) (by decide)).trans ((Qb185 (Int32.toInt 4).toNat (by decide) (by decide)).trans hg4))
                  show EvP _ _ _ (104, [(4, .int 4), (3, .int 3), (2, .int 2), (1, .int 1), (0, .ref 84)], [], h193) _
                  refine te_iinc (p2 := 107) (x := 3) (y := 4) (lv2 := [(3, .int 4), (4, .int 4), (2, .int 2), (1, .int 1), (0, .ref 84)]) rfl rfl (by decide) rfl (by decide) rfl ?_
                  refine te_iinc (p2 := 110) (x := 4) (y := 3) (lv2 := [(4, .int 3), (3, .int 4), (2, .int 2), (1, .int 1), (0, .ref 84)]) rfl rfl (by decide) rfl (by decide) rfl ?_
                  refine te_goto rfl ?_
                  refine te_iload_n (p2 := 92) rfl rfl rfl ?_
                  refine te_iload (p2 := 94) rfl rfl rfl ?_
                  refine tb_ge (p2 := 97) rfl rfl (show Int32.toInt 4 = 4 from rfl) (show Int32.toInt 3 = 3 from rfl) (fun c196 => ?_) (fun c196 => absurd c196 (by omega))
                  refine te_iconst (p2 := 114) (x := 1) rfl rfl (by decide) ?_
                  exact te_zret rfl rfl (by decide) ⟨I193, f193, _, rfl, Or.inr ⟨rfl, (by rw [pq_xe6, on6_6, (pq_of (k := 0) hg0 : pq_n h 70 0 = g0.toInt.toNat), (pq_of (k := 1) hg1 : pq_n h 70 1 = g1.toInt.toNat), (pq_of (k := 2) hg2 : pq_n h 70 2 = g2.toInt.toNat), (pq_of (k := 3) hg3 : pq_n h 70 3 = g3.toInt.toNat), (pq_of (k := 4) hg4 : pq_n h 70 4 = g4.toInt.toNat), (pq_of (k := 5) hg5 : pq_n h 70 5 = g5.toInt.toNat), (pq_of (k := 0) ((Qb193 (Int32.toInt 0).toNat (by decide) (by decide)).trans ((Qb189 (Int32.toInt 0).toNat (by decide) (by decide)).trans ((Qb185 (Int32.toInt 0).toNat (by decide) (by decide)).trans hg0))) : pq_n h193 70 0 = g0.toInt.toNat), (pq_of (k := 1) ((Qb193 (Int32.toInt 1).toNat (by decide) (by decide)).trans ((Qb189 (Int32.toInt 1).toNat (by decide) (by decide)).trans s185.1)) : pq_n h193 70 1 = g2.toInt.toNat), (pq_of (k := 2) ((Qb193 (Int32.toInt 2).toNat (by decide) (by decide)).trans s189.1) : pq_n h193 70 2 = g5.toInt.toNat), (pq_of (k := 3) s193.1 : pq_n h193 70 3 = g4.toInt.toNat), (pq_of (k := 4) s193.2 : pq_n h193 70 4 = g3.toInt.toNat), (pq_of (k := 5) ((Qb193 (Int32.toInt 5).toNat (by decide) (by decide)).trans s189.2) : pq_n h193 70 5 = g1.toInt.toNat)]; unfold pq_x6; rw [if_pos (by omega), if_pos (by omega), if_pos (by omega), if_neg (by omega), if_pos (by omega), if_pos (by omega), if_pos (by omega), if_neg (by omega)])⟩⟩
                · refine te_iinc (p2 := 70) (x := 2) (y := 1) (lv2 := [(2, .int 1), (1, .int 1), (0, .ref 84)]) rfl rfl (by decide) rfl (by decide) rfl ?_
                  refine te_goto rfl ?_
                  refine te_iload_n (p2 := 48) rfl rfl rfl ?_
                  refine te_iload_n (p2 := 49) rfl rfl rfl ?_
                  refine tb_le (p2 := 52) rfl rfl (show Int32.toInt 1 = 1 from rfl) (show Int32.toInt 1 = 1 from rfl) (fun c198 => ?_) (fun c198 => absurd c198 (by omega))
                  refine te_aload_n (p2 := 74) rfl rfl rfl ?_
                  refine te_iload_n (p2 := 75) rfl rfl rfl ?_
                  refine te_iload_n (p2 := 76) rfl rfl rfl ?_
                  refine tc_V (p2 := 79) (i := 68) rfl rfl rfl rfl hI rfl rfl rfl (c_X3_swap (i := 1) (j := 1) hI (by decide) (by decide) (by decide) (by decide)) (by decide) (fun v199 h199 hq199 => ?_)
                  obtain ⟨I199, g199, w199, Qa199, Qb199⟩ := hq199
                  subst w199
                  have f199 := fr_tr (F1 := F_X3_swap) (F := F_X3_goOn) f0 g199 (by decide)
                  have s199 := Qa199 _ _ hg1 hg1
                  show EvP _ _ _ (79, [(2, .int 1), (1, .int 1), (0, .ref 84)], [], h199) _
                  refine te_iload_n (p2 := 80) rfl rfl rfl ?_
                  refine te_iconst (p2 := 81) (x := 1) rfl rfl (by decide) ?_
                  refine te_iadd (p2 := 82) (z := 2) rfl rfl (by decide) ?_
                  refine te_istore_n (p2 := 83) (lv2 := [(3, .int 2), (2, .int 1), (1, .int 1), (0, .ref 84)]) rfl rfl (by decide) rfl ?_
                  refine te_aload_n (p2 := 84) rfl rfl rfl ?_
                  refine tg_e (p2 := 87) (i := 68) (v := .int 6) rfl rfl I199 rfl rfl ((g199 _ _ (by decide)).trans pr0) ?_
                  refine te_iconst (p2 := 88) (x := 1) rfl rfl (by decide) ?_
                  refine te_isub (p2 := 89) (z := 5) rfl rfl (by decide) ?_
                  refine te_istore (p2 := 91) (lv2 := [(4, .int 5), (3, .int 2), (2, .int 1), (1, .int 1), (0, .ref 84)]) rfl rfl (by decide) rfl ?_
                  refine te_iload_n (p2 := 92) rfl rfl rfl ?_
                  refine te_iload (p2 := 94) rfl rfl rfl ?_
                  refine tb_ge (p2 := 97) rfl rfl (show Int32.toInt 2 = 2 from rfl) (show Int32.toInt 5 = 5 from rfl) (fun c202 => absurd c202 (by omega)) (fun c202 => ?_)
                  refine te_aload_n (p2 := 98) rfl rfl rfl ?_
                  refine te_iload_n (p2 := 99) rfl rfl rfl ?_
                  refine te_iload (p2 := 101) rfl rfl rfl ?_
                  refine tc_V (p2 := 104) (i := 68) rfl rfl rfl rfl I199 rfl rfl rfl (c_X3_swap (i := 2) (j := 5) I199 (by decide) (by decide) (by decide) (by decide)) (by decide) (fun v203 h203 hq203 => ?_)
                  obtain ⟨I203, g203, w203, Qa203, Qb203⟩ := hq203
                  subst w203
                  have f203 := fr_tr (F1 := F_X3_swap) (F := F_X3_goOn) f199 g203 (by decide)
                  have s203 := Qa203 _ _ ((Qb199 (Int32.toInt 2).toNat (by decide) (by decide)).trans hg2) ((Qb199 (Int32.toInt 5).toNat (by decide) (by decide)).trans hg5)
                  show EvP _ _ _ (104, [(4, .int 5), (3, .int 2), (2, .int 1), (1, .int 1), (0, .ref 84)], [], h203) _
                  refine te_iinc (p2 := 107) (x := 2) (y := 3) (lv2 := [(3, .int 3), (4, .int 5), (2, .int 1), (1, .int 1), (0, .ref 84)]) rfl rfl (by decide) rfl (by decide) rfl ?_
                  refine te_iinc (p2 := 110) (x := 5) (y := 4) (lv2 := [(4, .int 4), (3, .int 3), (2, .int 1), (1, .int 1), (0, .ref 84)]) rfl rfl (by decide) rfl (by decide) rfl ?_
                  refine te_goto rfl ?_
                  refine te_iload_n (p2 := 92) rfl rfl rfl ?_
                  refine te_iload (p2 := 94) rfl rfl rfl ?_
                  refine tb_ge (p2 := 97) rfl rfl (show Int32.toInt 3 = 3 from rfl) (show Int32.toInt 4 = 4 from rfl) (fun c206 => absurd c206 (by omega)) (fun c206 => ?_)
                  refine te_aload_n (p2 := 98) rfl rfl rfl ?_
                  refine te_iload_n (p2 := 99) rfl rfl rfl ?_
                  refine te_iload (p2 := 101) rfl rfl rfl ?_
                  refine tc_V (p2 := 104) (i := 68) rfl rfl rfl rfl I203 rfl rfl rfl (c_X3_swap (i := 3) (j := 4) I203 (by decide) (by decide) (by decide) (by decide)) (by decide) (fun v207 h207 hq207 => ?_)
                  obtain ⟨I207, g207, w207, Qa207, Qb207⟩ := hq207
                  subst w207
                  have f207 := fr_tr (F1 := F_X3_swap) (F := F_X3_goOn) f203 g207 (by decide)
                  have s207 := Qa207 _ _ ((Qb203 (Int32.toInt 3).toNat (by decide) (by decide)).trans ((Qb199 (Int32.toInt 3).toNat (by decide) (by decide)).trans hg3)) ((Qb203 (Int32.toInt 4).toNat (by decide) (by decide)).trans ((Qb199 (Int32.toInt 4).toNat (by decide) (by decide)).trans hg4))
                  show EvP _ _ _ (104, [(4, .int 4), (3, .int 3), (2, .int 1), (1, .int 1), (0, .ref 84)], [], h207) _
                  refine te_iinc (p2 := 107) (x := 3) (y := 4) (lv2 := [(3, .int 4), (4, .int 4), (2, .int 1), (1, .int 1), (0, .ref 84)]) rfl rfl (by decide) rfl (by decide) rfl ?_
                  refine te_iinc (p2 := 110) (x := 4) (y := 3) (lv2 := [(4, .int 3), (3, .int 4), (2, .int 1), (1, .int 1), (0, .ref 84)]) rfl rfl (by decide) rfl (by decide) rfl ?_
                  refine te_goto rfl ?_
                  refine te_iload_n (p2 := 92) rfl rfl rfl ?_
                  refine te_iload (p2 := 94) rfl rfl rfl ?_
                  refine tb_ge (p2 := 97) rfl rfl (show Int32.toInt 4 = 4 from rfl) (show Int32.toInt 3 = 3 from rfl) (fun c210 => ?_) (fun c210 => absurd c210 (by omega))
                  refine te_iconst (p2 := 114) (x := 1) rfl rfl (by decide) ?_
                  exact te_zret rfl rfl (by decide) ⟨I207, f207, _, rfl, Or.inr ⟨rfl, (by rw [pq_xe6, on6_6, (pq_of (k := 0) hg0 : pq_n h 70 0 = g0.toInt.toNat), (pq_of (k := 1) hg1 : pq_n h 70 1 = g1.toInt.toNat), (pq_of (k := 2) hg2 : pq_n h 70 2 = g2.toInt.toNat), (pq_of (k := 3) hg3 : pq_n h 70 3 = g3.toInt.toNat), (pq_of (k := 4) hg4 : pq_n h 70 4 = g4.toInt.toNat), (pq_of (k := 5) hg5 : pq_n h 70 5 = g5.toInt.toNat), (pq_of (k := 0) ((Qb207 (Int32.toInt 0).toNat (by decide) (by decide)).trans ((Qb203 (Int32.toInt 0).toNat (by decide) (by decide)).trans ((Qb199 (Int32.toInt 0).toNat (by decide) (by decide)).trans hg0))) : pq_n h207 70 0 = g0.toInt.toNat), (pq_of (k := 1) ((Qb207 (Int32.toInt 1).toNat (by decide) (by decide)).trans ((Qb203 (Int32.toInt 1).toNat (by decide) (by decide)).trans s199.2)) : pq_n h207 70 1 = g1.toInt.toNat), (pq_of (k := 2) ((Qb207 (Int32.toInt 2).toNat (by decide) (by decide)).trans s203.1) : pq_n h207 70 2 = g5.toInt.toNat), (pq_of (k := 3) s207.1 : pq_n h207 70 3 = g4.toInt.toNat), (pq_of (k := 4) s207.2 : pq_n h207 70 4 = g3.toInt.toNat), (pq_of (k := 5) ((Qb207 (Int32.toInt 5).toNat (by decide) (by decide)).trans s203.2) : pq_n h207 70 5 = g2.toInt.toNat)]; unfold pq_x6; rw [if_pos (by omega), if_pos (by omega), if_pos (by omega), if_neg (by omega), if_pos (by omega), if_pos (by omega), if_pos (by omega), if_pos (by omega)])⟩⟩
        · refine te_iinc (p2 := 31) (x := 1) (y := 0) (lv2 := [(1, .int 0), (0, .ref 84)]) rfl rfl (by decide) rfl (by decide) rfl ?_
          refine te_goto rfl ?_
          refine te_iload_n (p2 := 8) rfl rfl rfl ?_
          refine tz_lt (p2 := 11) rfl rfl (show Int32.toInt 0 = 0 from rfl) (fun c212 => absurd c212 (by omega)) (fun c212 => ?_)
          refine te_aload_n (p2 := 12) rfl rfl rfl ?_
          refine tg_r (p2 := 15) (i := 68) (r := 86) rfl rfl hI rfl rfl rfl ?_
          refine te_iload_n (p2 := 16) rfl rfl rfl ?_
          refine tl_e (p2 := 17) (i := 70) (n := 6) (t := 0) (Or.inl rfl) rfl rfl hI rfl rfl (by decide) (by decide) hg0 ?_
          refine te_aload_n (p2 := 18) rfl rfl rfl ?_
          refine tg_r (p2 := 21) (i := 68) (r := 86) rfl rfl hI rfl rfl rfl ?_
          refine te_iload_n (p2 := 22) rfl rfl rfl ?_
          refine te_iconst (p2 := 23) (x := 1) rfl rfl (by decide) ?_
          refine te_iadd (p2 := 24) (z := 1) rfl rfl (by decide) ?_
          refine tl_e (p2 := 25) (i := 70) (n := 6) (t := 0) (Or.inl rfl) rfl rfl hI rfl rfl (by decide) (by decide) hg1 ?_
          refine tb_le (p2 := 28) rfl rfl rfl rfl (fun c216 => ?_) (fun c216 => ?_)
          · refine te_iload_n (p2 := 35) rfl rfl rfl ?_
            refine tz_ge (p2 := 38) rfl rfl (show Int32.toInt 0 = 0 from rfl) (fun c217 => ?_) (fun c217 => absurd c217 (by omega))
            refine te_aload_n (p2 := 41) rfl rfl rfl ?_
            refine tg_e (p2 := 44) (i := 68) (v := .int 6) rfl rfl hI rfl rfl pr0 ?_
            refine te_iconst (p2 := 45) (x := 1) rfl rfl (by decide) ?_
            refine te_isub (p2 := 46) (z := 5) rfl rfl (by decide) ?_
            refine te_istore_n (p2 := 47) (lv2 := [(2, .int 5), (1, .int 0), (0, .ref 84)]) rfl rfl (by decide) rfl ?_
            refine te_iload_n (p2 := 48) rfl rfl rfl ?_
            refine te_iload_n (p2 := 49) rfl rfl rfl ?_
            refine tb_le (p2 := 52) rfl rfl (show Int32.toInt 5 = 5 from rfl) (show Int32.toInt 0 = 0 from rfl) (fun c219 => absurd c219 (by omega)) (fun c219 => ?_)
            refine te_aload_n (p2 := 53) rfl rfl rfl ?_
            refine tg_r (p2 := 56) (i := 68) (r := 86) rfl rfl hI rfl rfl rfl ?_
            refine te_iload_n (p2 := 57) rfl rfl rfl ?_
            refine tl_e (p2 := 58) (i := 70) (n := 6) (t := 0) (Or.inl rfl) rfl rfl hI rfl rfl (by decide) (by decide) hg5 ?_
            refine te_aload_n (p2 := 59) rfl rfl rfl ?_
            refine tg_r (p2 := 62) (i := 68) (r := 86) rfl rfl hI rfl rfl rfl ?_
            refine te_iload_n (p2 := 63) rfl rfl rfl ?_
            refine tl_e (p2 := 64) (i := 70) (n := 6) (t := 0) (Or.inl rfl) rfl rfl hI rfl rfl (by decide) (by decide) hg0 ?_
            refine tb_ge (p2 := 67) rfl rfl rfl rfl (fun c222 => ?_) (fun c222 => ?_)
            · refine te_aload_n (p2 := 74) rfl rfl rfl ?_
              refine te_iload_n (p2 := 75) rfl rfl rfl ?_
              refine te_iload_n (p2 := 76) rfl rfl rfl ?_
              refine tc_V (p2 := 79) (i := 68) rfl rfl rfl rfl hI rfl rfl rfl (c_X3_swap (i := 0) (j := 5) hI (by decide) (by decide) (by decide) (by decide)) (by decide) (fun v223 h223 hq223 => ?_)
              obtain ⟨I223, g223, w223, Qa223, Qb223⟩ := hq223
              subst w223
              have f223 := fr_tr (F1 := F_X3_swap) (F := F_X3_goOn) f0 g223 (by decide)
              have s223 := Qa223 _ _ hg0 hg5
              show EvP _ _ _ (79, [(2, .int 5), (1, .int 0), (0, .ref 84)], [], h223) _
              refine te_iload_n (p2 := 80) rfl rfl rfl ?_
              refine te_iconst (p2 := 81) (x := 1) rfl rfl (by decide) ?_
              refine te_iadd (p2 := 82) (z := 1) rfl rfl (by decide) ?_
              refine te_istore_n (p2 := 83) (lv2 := [(3, .int 1), (2, .int 5), (1, .int 0), (0, .ref 84)]) rfl rfl (by decide) rfl ?_
              refine te_aload_n (p2 := 84) rfl rfl rfl ?_
              refine tg_e (p2 := 87) (i := 68) (v := .int 6) rfl rfl I223 rfl rfl ((g223 _ _ (by decide)).trans pr0) ?_
              refine te_iconst (p2 := 88) (x := 1) rfl rfl (by decide) ?_
              refine te_isub (p2 := 89) (z := 5) rfl rfl (by decide) ?_
              refine te_istore (p2 := 91) (lv2 := [(4, .int 5), (3, .int 1), (2, .int 5), (1, .int 0), (0, .ref 84)]) rfl rfl (by decide) rfl ?_
              refine te_iload_n (p2 := 92) rfl rfl rfl ?_
              refine te_iload (p2 := 94) rfl rfl rfl ?_
              refine tb_ge (p2 := 97) rfl rfl (show Int32.toInt 1 = 1 from rfl) (show Int32.toInt 5 = 5 from rfl) (fun c226 => absurd c226 (by omega)) (fun c226 => ?_)
              refine te_aload_n (p2 := 98) rfl rfl rfl ?_
              refine te_iload_n (p2 := 99) rfl rfl rfl ?_
              refine te_iload (p2 := 101) rfl rfl rfl ?_
              refine tc_V (p2 := 104) (i := 68) rfl rfl rfl rfl I223 rfl rfl rfl (c_X3_swap (i := 1) (j := 5) I223 (by decide) (by decide) (by decide) (by decide)) (by decide) (fun v227 h227 hq227 => ?_)
              obtain ⟨I227, g227, w227, Qa227, Qb227⟩ := hq227
              subst w227
              have f227 := fr_tr (F1 := F_X3_swap) (F := F_X3_goOn) f223 g227 (by decide)
              have s227 := Qa227 _ _ ((Qb223 (Int32.toInt 1).toNat (by decide) (by decide)).trans hg1) s223.2
              show EvP _ _ _ (104, [(4, .int 5), (3, .int 1), (2, .int 5), (1, .int 0), (0, .ref 84)], [], h227) _
              refine te_iinc (p2 := 107) (x := 1) (y := 2) (lv2 := [(3, .int 2), (4, .int 5), (2, .int 5), (1, .int 0), (0, .ref 84)]) rfl rfl (by decide) rfl (by decide) rfl ?_
              refine te_iinc (p2 := 110) (x := 5) (y := 4) (lv2 := [(4, .int 4), (3, .int 2), (2, .int 5), (1, .int 0), (0, .ref 84)]) rfl rfl (by decide) rfl (by decide) rfl ?_
              refine te_goto rfl ?_
              refine te_iload_n (p2 := 92) rfl rfl rfl ?_
              refine te_iload (p2 := 94) rfl rfl rfl ?_
              refine tb_ge (p2 := 97) rfl rfl (show Int32.toInt 2 = 2 from rfl) (show Int32.toInt 4 = 4 from rfl) (fun c230 => absurd c230 (by omega)) (fun c230 => ?_)
              refine te_aload_n (p2 := 98) rfl rfl rfl ?_
              refine te_iload_n (p2 := 99) rfl rfl rfl ?_
              refine te_iload (p2 := 101) rfl rfl rfl ?_
              refine tc_V (p2 := 104) (i := 68) rfl rfl rfl rfl I227 rfl rfl rfl (c_X3_swap (i := 2) (j := 4) I227 (by decide) (by decide) (by decide) (by decide)) (by decide) (fun v231 h231 hq231 => ?_)
              obtain ⟨I231, g231, w231, Qa231, Qb231⟩ := hq231
              subst w231
              have f231 := fr_tr (F1 := F_X3_swap) (F := F_X3_goOn) f227 g231 (by decide)
              have s231 := Qa231 _ _ ((Qb227 (Int32.toInt 2).toNat (by decide) (by decide)).trans ((Qb223 (Int32.toInt 2).toNat (by decide) (by decide)).trans hg2)) ((Qb227 (Int32.toInt 4).toNat (by decide) (by decide)).trans ((Qb223 (Int32.toInt 4).toNat (by decide) (by decide)).trans hg4))
              show EvP _ _ _ (104, [(4, .int 4), (3, .int 2), (2, .int 5), (1, .int 0), (0, .ref 84)], [], h231) _
              refine te_iinc (p2 := 107) (x := 2) (y := 3) (lv2 := [(3, .int 3), (4, .int 4), (2, .int 5), (1, .int 0), (0, .ref 84)]) rfl rfl (by decide) rfl (by decide) rfl ?_
              refine te_iinc (p2 := 110) (x := 4) (y := 3) (lv2 := [(4, .int 3), (3, .int 3), (2, .int 5), (1, .int 0), (0, .ref 84)]) rfl rfl (by decide) rfl (by decide) rfl ?_
              refine te_goto rfl ?_
              refine te_iload_n (p2 := 92) rfl rfl rfl ?_
              refine te_iload (p2 := 94) rfl rfl rfl ?_
              refine tb_ge (p2 := 97) rfl rfl (show Int32.toInt 3 = 3 from rfl) (show Int32.toInt 3 = 3 from rfl) (fun c234 => ?_) (fun c234 => absurd c234 (by omega))
              refine te_iconst (p2 := 114) (x := 1) rfl rfl (by decide) ?_
              exact te_zret rfl rfl (by decide) ⟨I231, f231, _, rfl, Or.inr ⟨rfl, (by rw [pq_xe6, on6_6, (pq_of (k := 0) hg0 : pq_n h 70 0 = g0.toInt.toNat), (pq_of (k := 1) hg1 : pq_n h 70 1 = g1.toInt.toNat), (pq_of (k := 2) hg2 : pq_n h 70 2 = g2.toInt.toNat), (pq_of (k := 3) hg3 : pq_n h 70 3 = g3.toInt.toNat), (pq_of (k := 4) hg4 : pq_n h 70 4 = g4.toInt.toNat), (pq_of (k := 5) hg5 : pq_n h 70 5 = g5.toInt.toNat), (pq_of (k := 0) ((Qb231 (Int32.toInt 0).toNat (by decide) (by decide)).trans ((Qb227 (Int32.toInt 0).toNat (by decide) (by decide)).trans s223.1)) : pq_n h231 70 0 = g5.toInt.toNat), (pq_of (k := 1) ((Qb231 (Int32.toInt 1).toNat (by decide) (by decide)).trans s227.1) : pq_n h231 70 1 = g0.toInt.toNat), (pq_of (k := 2) s231.1 : pq_n h231 70 2 = g4.toInt.toNat), (pq_of (k := 3) ((Qb231 (Int32.toInt 3).toNat (by decide) (by decide)).trans ((Qb227 (Int32.toInt 3).toNat (by decide) (by decide)).trans ((Qb223 (Int32.toInt 3).toNat (by decide) (by decide)).trans hg3))) : pq_n h231 70 3 = g3.toInt.toNat), (pq_of (k := 4) s231.2 : pq_n h231 70 4 = g2.toInt.toNat), (pq_of (k := 5) ((Qb231 (Int32.toInt 5).toNat (by decide) (by decide)).trans s227.2) : pq_n h231 70 5 = g1.toInt.toNat)]; unfold pq_x6; rw [if_pos (by omega), if_pos (by omega), if_pos (by omega), if_pos (by omega), if_neg (by omega), if_neg (by omega)])⟩⟩
            · refine te_iinc (p2 := 70) (x := 5) (y := 4) (lv2 := [(2, .int 4), (1, .int 0), (0, .ref 84)]) rfl rfl (by decide) rfl (by decide) rfl ?_
              refine te_goto rfl ?_
              refine te_iload_n (p2 := 48) rfl rfl rfl ?_
              refine te_iload_n (p2 := 49) rfl rfl rfl ?_
              refine tb_le (p2 := 52) rfl rfl (show Int32.toInt 4 = 4 from rfl) (show Int32.toInt 0 = 0 from rfl) (fun c236 => absurd c236 (by omega)) (fun c236 => ?_)
              refine te_aload_n (p2 := 53) rfl rfl rfl ?_
              refine tg_r (p2 := 56) (i := 68) (r := 86) rfl rfl hI rfl rfl rfl ?_
              refine te_iload_n (p2 := 57) rfl rfl rfl ?_
              refine tl_e (p2 := 58) (i := 70) (n := 6) (t := 0) (Or.inl rfl) rfl rfl hI rfl rfl (by decide) (by decide) hg4 ?_
              refine te_aload_n (p2 := 59) rfl rfl rfl ?_
              refine tg_r (p2 := 62) (i := 68) (r := 86) rfl rfl hI rfl rfl rfl ?_
              refine te_iload_n (p2 := 63) rfl rfl rfl ?_
              refine tl_e (p2 := 64) (i := 70) (n := 6) (t := 0) (Or.inl rfl) rfl rfl hI rfl rfl (by decide) (by decide) hg0 ?_
              refine tb_ge (p2 := 67) rfl rfl rfl rfl (fun c239 => ?_) (fun c239 => ?_)
              · refine te_aload_n (p2 := 74) rfl rfl rfl ?_
                refine te_iload_n (p2 := 75) rfl rfl rfl ?_
                refine te_iload_n (p2 := 76) rfl rfl rfl ?_
                refine tc_V (p2 := 79) (i := 68) rfl rfl rfl rfl hI rfl rfl rfl (c_X3_swap (i := 0) (j := 4) hI (by decide) (by decide) (by decide) (by decide)) (by decide) (fun v240 h240 hq240 => ?_)
                obtain ⟨I240, g240, w240, Qa240, Qb240⟩ := hq240
                subst w240
                have f240 := fr_tr (F1 := F_X3_swap) (F := F_X3_goOn) f0 g240 (by decide)
                have s240 := Qa240 _ _ hg0 hg4
                show EvP _ _ _ (79, [(2, .int 4), (1, .int 0), (0, .ref 84)], [], h240) _
                refine te_iload_n (p2 := 80) rfl rfl rfl ?_
                refine te_iconst (p2 := 81) (x := 1) rfl rfl (by decide) ?_
                refine te_iadd (p2 := 82) (z := 1) rfl rfl (by decide) ?_
                refine te_istore_n (p2 := 83) (lv2 := [(3, .int 1), (2, .int 4), (1, .int 0), (0, .ref 84)]) rfl rfl (by decide) rfl ?_
                refine te_aload_n (p2 := 84) rfl rfl rfl ?_
                refine tg_e (p2 := 87) (i := 68) (v := .int 6) rfl rfl I240 rfl rfl ((g240 _ _ (by decide)).trans pr0) ?_
                refine te_iconst (p2 := 88) (x := 1) rfl rfl (by decide) ?_
                refine te_isub (p2 := 89) (z := 5) rfl rfl (by decide) ?_
                refine te_istore (p2 := 91) (lv2 := [(4, .int 5), (3, .int 1), (2, .int 4), (1, .int 0), (0, .ref 84)]) rfl rfl (by decide) rfl ?_
                refine te_iload_n (p2 := 92) rfl rfl rfl ?_
                refine te_iload (p2 := 94) rfl rfl rfl ?_
                refine tb_ge (p2 := 97) rfl rfl (show Int32.toInt 1 = 1 from rfl) (show Int32.toInt 5 = 5 from rfl) (fun c243 => absurd c243 (by omega)) (fun c243 => ?_)
                refine te_aload_n (p2 := 98) rfl rfl rfl ?_
                refine te_iload_n (p2 := 99) rfl rfl rfl ?_
                refine te_iload (p2 := 101) rfl rfl rfl ?_
                refine tc_V (p2 := 104) (i := 68) rfl rfl rfl rfl I240 rfl rfl rfl (c_X3_swap (i := 1) (j := 5) I240 (by decide) (by decide) (by decide) (by decide)) (by decide) (fun v244 h244 hq244 => ?_)
                obtain ⟨I244, g244, w244, Qa244, Qb244⟩ := hq244
                subst w244
                have f244 := fr_tr (F1 := F_X3_swap) (F := F_X3_goOn) f240 g244 (by decide)
                have s244 := Qa244 _ _ ((Qb240 (Int32.toInt 1).toNat (by decide) (by decide)).trans hg1) ((Qb240 (Int32.toInt 5).toNat (by decide) (by decide)).trans hg5)
                show EvP _ _ _ (104, [(4, .int 5), (3, .int 1), (2, .int 4), (1, .int 0), (0, .ref 84)], [], h244) _
                refine te_iinc (p2 := 107) (x := 1) (y := 2) (lv2 := [(3, .int 2), (4, .int 5), (2, .int 4), (1, .int 0), (0, .ref 84)]) rfl rfl (by decide) rfl (by decide) rfl ?_
                refine te_iinc (p2 := 110) (x := 5) (y := 4) (lv2 := [(4, .int 4), (3, .int 2), (2, .int 4), (1, .int 0), (0, .ref 84)]) rfl rfl (by decide) rfl (by decide) rfl ?_
                refine te_goto rfl ?_
                refine te_iload_n (p2 := 92) rfl rfl rfl ?_
                refine te_iload (p2 := 94) rfl rfl rfl ?_
                refine tb_ge (p2 := 97) rfl rfl (show Int32.toInt 2 = 2 from rfl) (show Int32.toInt 4 = 4 from rfl) (fun c247 => absurd c247 (by omega)) (fun c247 => ?_)
                refine te_aload_n (p2 := 98) rfl rfl rfl ?_
                refine te_iload_n (p2 := 99) rfl rfl rfl ?_
                refine te_iload (p2 := 101) rfl rfl rfl ?_
                refine tc_V (p2 := 104) (i := 68) rfl rfl rfl rfl I244 rfl rfl rfl (c_X3_swap (i := 2) (j := 4) I244 (by decide) (by decide) (by decide) (by decide)) (by decide) (fun v248 h248 hq248 => ?_)
                obtain ⟨I248, g248, w248, Qa248, Qb248⟩ := hq248
                subst w248
                have f248 := fr_tr (F1 := F_X3_swap) (F := F_X3_goOn) f244 g248 (by decide)
                have s248 := Qa248 _ _ ((Qb244 (Int32.toInt 2).toNat (by decide) (by decide)).trans ((Qb240 (Int32.toInt 2).toNat (by decide) (by decide)).trans hg2)) ((Qb244 (Int32.toInt 4).toNat (by decide) (by decide)).trans s240.2)
                show EvP _ _ _ (104, [(4, .int 4), (3, .int 2), (2, .int 4), (1, .int 0), (0, .ref 84)], [], h248) _
                refine te_iinc (p2 := 107) (x := 2) (y := 3) (lv2 := [(3, .int 3), (4, .int 4), (2, .int 4), (1, .int 0), (0, .ref 84)]) rfl rfl (by decide) rfl (by decide) rfl ?_
                refine te_iinc (p2 := 110) (x := 4) (y := 3) (lv2 := [(4, .int 3), (3, .int 3), (2, .int 4), (1, .int 0), (0, .ref 84)]) rfl rfl (by decide) rfl (by decide) rfl ?_
                refine te_goto rfl ?_
                refine te_iload_n (p2 := 92) rfl rfl rfl ?_
                refine te_iload (p2 := 94) rfl rfl rfl ?_
                refine tb_ge (p2 := 97) rfl rfl (show Int32.toInt 3 = 3 from rfl) (show Int32.toInt 3 = 3 from rfl) (fun c251 => ?_) (fun c251 => absurd c251 (by omega))
                refine te_iconst (p2 := 114) (x := 1) rfl rfl (by decide) ?_
                exact te_zret rfl rfl (by decide) ⟨I248, f248, _, rfl, Or.inr ⟨rfl, (by rw [pq_xe6, on6_6, (pq_of (k := 0) hg0 : pq_n h 70 0 = g0.toInt.toNat), (pq_of (k := 1) hg1 : pq_n h 70 1 = g1.toInt.toNat), (pq_of (k := 2) hg2 : pq_n h 70 2 = g2.toInt.toNat), (pq_of (k := 3) hg3 : pq_n h 70 3 = g3.toInt.toNat), (pq_of (k := 4) hg4 : pq_n h 70 4 = g4.toInt.toNat), (pq_of (k := 5) hg5 : pq_n h 70 5 = g5.toInt.toNat), (pq_of (k := 0) ((Qb248 (Int32.toInt 0).toNat (by decide) (by decide)).trans ((Qb244 (Int32.toInt 0).toNat (by decide) (by decide)).trans s240.1)) : pq_n h248 70 0 = g4.toInt.toNat), (pq_of (k := 1) ((Qb248 (Int32.toInt 1).toNat (by decide) (by decide)).trans s244.1) : pq_n h248 70 1 = g5.toInt.toNat), (pq_of (k := 2) s248.1 : pq_n h248 70 2 = g0.toInt.toNat), (pq_of (k := 3) ((Qb248 (Int32.toInt 3).toNat (by decide) (by decide)).trans ((Qb244 (Int32.toInt 3).toNat (by decide) (by decide)).trans ((Qb240 (Int32.toInt 3).toNat (by decide) (by decide)).trans hg3))) : pq_n h248 70 3 = g3.toInt.toNat), (pq_of (k := 4) s248.2 : pq_n h248 70 4 = g2.toInt.toNat), (pq_of (k := 5) ((Qb248 (Int32.toInt 5).toNat (by decide) (by decide)).trans s244.2) : pq_n h248 70 5 = g1.toInt.toNat)]; unfold pq_x6; rw [if_pos (by omega), if_pos (by omega), if_pos (by omega), if_pos (by omega), if_neg (by omega), if_pos (by omega), if_neg (by omega)])⟩⟩
              · refine te_iinc (p2 := 70) (x := 4) (y := 3) (lv2 := [(2, .int 3), (1, .int 0), (0, .ref 84)]) rfl rfl (by decide) rfl (by decide) rfl ?_
                refine te_goto rfl ?_
                refine te_iload_n (p2 := 48) rfl rfl rfl ?_
                refine te_iload_n (p2 := 49) rfl rfl rfl ?_
                refine tb_le (p2 := 52) rfl rfl (show Int32.toInt 3 = 3 from rfl) (show Int32.toInt 0 = 0 from rfl) (fun c253 => absurd c253 (by omega)) (fun c253 => ?_)
                refine te_aload_n (p2 := 53) rfl rfl rfl ?_
                refine tg_r (p2 := 56) (i := 68) (r := 86) rfl rfl hI rfl rfl rfl ?_
                refine te_iload_n (p2 := 57) rfl rfl rfl ?_
                refine tl_e (p2 := 58) (i := 70) (n := 6) (t := 0) (Or.inl rfl) rfl rfl hI rfl rfl (by decide) (by decide) hg3 ?_
                refine te_aload_n (p2 := 59) rfl rfl rfl ?_
                refine tg_r (p2 := 62) (i := 68) (r := 86) rfl rfl hI rfl rfl rfl ?_
                refine te_iload_n (p2 := 63) rfl rfl rfl ?_
                refine tl_e (p2 := 64) (i := 70) (n := 6) (t := 0) (Or.inl rfl) rfl rfl hI rfl rfl (by decide) (by decide) hg0 ?_
                refine tb_ge (p2 := 67) rfl rfl rfl rfl (fun c256 => ?_) (fun c256 => ?_)
                · refine te_aload_n (p2 := 74) rfl rfl rfl ?_
                  refine te_iload_n (p2 := 75) rfl rfl rfl ?_
                  refine te_iload_n (p2 := 76) rfl rfl rfl ?_
                  refine tc_V (p2 := 79) (i := 68) rfl rfl rfl rfl hI rfl rfl rfl (c_X3_swap (i := 0) (j := 3) hI (by decide) (by decide) (by decide) (by decide)) (by decide) (fun v257 h257 hq257 => ?_)
                  obtain ⟨I257, g257, w257, Qa257, Qb257⟩ := hq257
                  subst w257
                  have f257 := fr_tr (F1 := F_X3_swap) (F := F_X3_goOn) f0 g257 (by decide)
                  have s257 := Qa257 _ _ hg0 hg3
                  show EvP _ _ _ (79, [(2, .int 3), (1, .int 0), (0, .ref 84)], [], h257) _
                  refine te_iload_n (p2 := 80) rfl rfl rfl ?_
                  refine te_iconst (p2 := 81) (x := 1) rfl rfl (by decide) ?_
                  refine te_iadd (p2 := 82) (z := 1) rfl rfl (by decide) ?_
                  refine te_istore_n (p2 := 83) (lv2 := [(3, .int 1), (2, .int 3), (1, .int 0), (0, .ref 84)]) rfl rfl (by decide) rfl ?_
                  refine te_aload_n (p2 := 84) rfl rfl rfl ?_
                  refine tg_e (p2 := 87) (i := 68) (v := .int 6) rfl rfl I257 rfl rfl ((g257 _ _ (by decide)).trans pr0) ?_
                  refine te_iconst (p2 := 88) (x := 1) rfl rfl (by decide) ?_
                  refine te_isub (p2 := 89) (z := 5) rfl rfl (by decide) ?_
                  refine te_istore (p2 := 91) (lv2 := [(4, .int 5), (3, .int 1), (2, .int 3), (1, .int 0), (0, .ref 84)]) rfl rfl (by decide) rfl ?_
                  refine te_iload_n (p2 := 92) rfl rfl rfl ?_
                  refine te_iload (p2 := 94) rfl rfl rfl ?_
                  refine tb_ge (p2 := 97) rfl rfl (show Int32.toInt 1 = 1 from rfl) (show Int32.toInt 5 = 5 from rfl) (fun c260 => absurd c260 (by omega)) (fun c260 => ?_)
                  refine te_aload_n (p2 := 98) rfl rfl rfl ?_
                  refine te_iload_n (p2 := 99) rfl rfl rfl ?_
                  refine te_iload (p2 := 101) rfl rfl rfl ?_
                  refine tc_V (p2 := 104) (i := 68) rfl rfl rfl rfl I257 rfl rfl rfl (c_X3_swap (i := 1) (j := 5) I257 (by decide) (by decide) (by decide) (by decide)) (by decide) (fun v261 h261 hq261 => ?_)
                  obtain ⟨I261, g261, w261, Qa261, Qb261⟩ := hq261
                  subst w261
                  have f261 := fr_tr (F1 := F_X3_swap) (F := F_X3_goOn) f257 g261 (by decide)
                  have s261 := Qa261 _ _ ((Qb257 (Int32.toInt 1).toNat (by decide) (by decide)).trans hg1) ((Qb257 (Int32.toInt 5).toNat (by decide) (by decide)).trans hg5)
                  show EvP _ _ _ (104, [(4, .int 5), (3, .int 1), (2, .int 3), (1, .int 0), (0, .ref 84)], [], h261) _
                  refine te_iinc (p2 := 107) (x := 1) (y := 2) (lv2 := [(3, .int 2), (4, .int 5), (2, .int 3), (1, .int 0), (0, .ref 84)]) rfl rfl (by decide) rfl (by decide) rfl ?_
                  refine te_iinc (p2 := 110) (x := 5) (y := 4) (lv2 := [(4, .int 4), (3, .int 2), (2, .int 3), (1, .int 0), (0, .ref 84)]) rfl rfl (by decide) rfl (by decide) rfl ?_
                  refine te_goto rfl ?_
                  refine te_iload_n (p2 := 92) rfl rfl rfl ?_
                  refine te_iload (p2 := 94) rfl rfl rfl ?_
                  refine tb_ge (p2 := 97) rfl rfl (show Int32.toInt 2 = 2 from rfl) (show Int32.toInt 4 = 4 from rfl) (fun c264 => absurd c264 (by omega)) (fun c264 => ?_)
                  refine te_aload_n (p2 := 98) rfl rfl rfl ?_
                  refine te_iload_n (p2 := 99) rfl rfl rfl ?_
                  refine te_iload (p2 := 101) rfl rfl rfl ?_
                  refine tc_V (p2 := 104) (i := 68) rfl rfl rfl rfl I261 rfl rfl rfl (c_X3_swap (i := 2) (j := 4) I261 (by decide) (by decide) (by decide) (by decide)) (by decide) (fun v265 h265 hq265 => ?_)
                  obtain ⟨I265, g265, w265, Qa265, Qb265⟩ := hq265
                  subst w265
                  have f265 := fr_tr (F1 := F_X3_swap) (F := F_X3_goOn) f261 g265 (by decide)
                  have s265 := Qa265 _ _ ((Qb261 (Int32.toInt 2).toNat (by decide) (by decide)).trans ((Qb257 (Int32.toInt 2).toNat (by decide) (by decide)).trans hg2)) ((Qb261 (Int32.toInt 4).toNat (by decide) (by decide)).trans ((Qb257 (Int32.toInt 4).toNat (by decide) (by decide)).trans hg4))
                  show EvP _ _ _ (104, [(4, .int 4), (3, .int 2), (2, .int 3), (1, .int 0), (0, .ref 84)], [], h265) _
                  refine te_iinc (p2 := 107) (x := 2) (y := 3) (lv2 := [(3, .int 3), (4, .int 4), (2, .int 3), (1, .int 0), (0, .ref 84)]) rfl rfl (by decide) rfl (by decide) rfl ?_
                  refine te_iinc (p2 := 110) (x := 4) (y := 3) (lv2 := [(4, .int 3), (3, .int 3), (2, .int 3), (1, .int 0), (0, .ref 84)]) rfl rfl (by decide) rfl (by decide) rfl ?_
                  refine te_goto rfl ?_
                  refine te_iload_n (p2 := 92) rfl rfl rfl ?_
                  refine te_iload (p2 := 94) rfl rfl rfl ?_
                  refine tb_ge (p2 := 97) rfl rfl (show Int32.toInt 3 = 3 from rfl) (show Int32.toInt 3 = 3 from rfl) (fun c268 => ?_) (fun c268 => absurd c268 (by omega))
                  refine te_iconst (p2 := 114) (x := 1) rfl rfl (by decide) ?_
                  exact te_zret rfl rfl (by decide) ⟨I265, f265, _, rfl, Or.inr ⟨rfl, (by rw [pq_xe6, on6_6, (pq_of (k := 0) hg0 : pq_n h 70 0 = g0.toInt.toNat), (pq_of (k := 1) hg1 : pq_n h 70 1 = g1.toInt.toNat), (pq_of (k := 2) hg2 : pq_n h 70 2 = g2.toInt.toNat), (pq_of (k := 3) hg3 : pq_n h 70 3 = g3.toInt.toNat), (pq_of (k := 4) hg4 : pq_n h 70 4 = g4.toInt.toNat), (pq_of (k := 5) hg5 : pq_n h 70 5 = g5.toInt.toNat), (pq_of (k := 0) ((Qb265 (Int32.toInt 0).toNat (by decide) (by decide)).trans ((Qb261 (Int32.toInt 0).toNat (by decide) (by decide)).trans s257.1)) : pq_n h265 70 0 = g3.toInt.toNat), (pq_of (k := 1) ((Qb265 (Int32.toInt 1).toNat (by decide) (by decide)).trans s261.1) : pq_n h265 70 1 = g5.toInt.toNat), (pq_of (k := 2) s265.1 : pq_n h265 70 2 = g4.toInt.toNat), (pq_of (k := 3) ((Qb265 (Int32.toInt 3).toNat (by decide) (by decide)).trans ((Qb261 (Int32.toInt 3).toNat (by decide) (by decide)).trans s257.2)) : pq_n h265 70 3 = g0.toInt.toNat), (pq_of (k := 4) s265.2 : pq_n h265 70 4 = g2.toInt.toNat), (pq_of (k := 5) ((Qb265 (Int32.toInt 5).toNat (by decide) (by decide)).trans s261.2) : pq_n h265 70 5 = g1.toInt.toNat)]; unfold pq_x6; rw [if_pos (by omega), if_pos (by omega), if_pos (by omega), if_pos (by omega), if_neg (by omega), if_pos (by omega), if_pos (by omega), if_neg (by omega)])⟩⟩
                · refine te_iinc (p2 := 70) (x := 3) (y := 2) (lv2 := [(2, .int 2), (1, .int 0), (0, .ref 84)]) rfl rfl (by decide) rfl (by decide) rfl ?_
                  refine te_goto rfl ?_
                  refine te_iload_n (p2 := 48) rfl rfl rfl ?_
                  refine te_iload_n (p2 := 49) rfl rfl rfl ?_
                  refine tb_le (p2 := 52) rfl rfl (show Int32.toInt 2 = 2 from rfl) (show Int32.toInt 0 = 0 from rfl) (fun c270 => absurd c270 (by omega)) (fun c270 => ?_)
                  refine te_aload_n (p2 := 53) rfl rfl rfl ?_
                  refine tg_r (p2 := 56) (i := 68) (r := 86) rfl rfl hI rfl rfl rfl ?_
                  refine te_iload_n (p2 := 57) rfl rfl rfl ?_
                  refine tl_e (p2 := 58) (i := 70) (n := 6) (t := 0) (Or.inl rfl) rfl rfl hI rfl rfl (by decide) (by decide) hg2 ?_
                  refine te_aload_n (p2 := 59) rfl rfl rfl ?_
                  refine tg_r (p2 := 62) (i := 68) (r := 86) rfl rfl hI rfl rfl rfl ?_
                  refine te_iload_n (p2 := 63) rfl rfl rfl ?_
                  refine tl_e (p2 := 64) (i := 70) (n := 6) (t := 0) (Or.inl rfl) rfl rfl hI rfl rfl (by decide) (by decide) hg0 ?_
                  refine tb_ge (p2 := 67) rfl rfl rfl rfl (fun c273 => ?_) (fun c273 => ?_)
                  · refine te_aload_n (p2 := 74) rfl rfl rfl ?_
                    refine te_iload_n (p2 := 75) rfl rfl rfl ?_
                    refine te_iload_n (p2 := 76) rfl rfl rfl ?_
                    refine tc_V (p2 := 79) (i := 68) rfl rfl rfl rfl hI rfl rfl rfl (c_X3_swap (i := 0) (j := 2) hI (by decide) (by decide) (by decide) (by decide)) (by decide) (fun v274 h274 hq274 => ?_)
                    obtain ⟨I274, g274, w274, Qa274, Qb274⟩ := hq274
                    subst w274
                    have f274 := fr_tr (F1 := F_X3_swap) (F := F_X3_goOn) f0 g274 (by decide)
                    have s274 := Qa274 _ _ hg0 hg2
                    show EvP _ _ _ (79, [(2, .int 2), (1, .int 0), (0, .ref 84)], [], h274) _
                    refine te_iload_n (p2 := 80) rfl rfl rfl ?_
                    refine te_iconst (p2 := 81) (x := 1) rfl rfl (by decide) ?_
                    refine te_iadd (p2 := 82) (z := 1) rfl rfl (by decide) ?_
                    refine te_istore_n (p2 := 83) (lv2 := [(3, .int 1), (2, .int 2), (1, .int 0), (0, .ref 84)]) rfl rfl (by decide) rfl ?_
                    refine te_aload_n (p2 := 84) rfl rfl rfl ?_
                    refine tg_e (p2 := 87) (i := 68) (v := .int 6) rfl rfl I274 rfl rfl ((g274 _ _ (by decide)).trans pr0) ?_
                    refine te_iconst (p2 := 88) (x := 1) rfl rfl (by decide) ?_
                    refine te_isub (p2 := 89) (z := 5) rfl rfl (by decide) ?_
                    refine te_istore (p2 := 91) (lv2 := [(4, .int 5), (3, .int 1), (2, .int 2), (1, .int 0), (0, .ref 84)]) rfl rfl (by decide) rfl ?_
                    refine te_iload_n (p2 := 92) rfl rfl rfl ?_
                    refine te_iload (p2 := 94) rfl rfl rfl ?_
                    refine tb_ge (p2 := 97) rfl rfl (show Int32.toInt 1 = 1 from rfl) (show Int32.toInt 5 = 5 from rfl) (fun c277 => absurd c277 (by omega)) (fun c277 => ?_)
                    refine te_aload_n (p2 := 98) rfl rfl rfl ?_
                    refine te_iload_n (p2 := 99) rfl rfl rfl ?_
                    refine te_iload (p2 := 101) rfl rfl rfl ?_
                    refine tc_V (p2 := 104) (i := 68) rfl rfl rfl rfl I274 rfl rfl rfl (c_X3_swap (i := 1) (j := 5) I274 (by decide) (by decide) (by decide) (by decide)) (by decide) (fun v278 h278 hq278 => ?_)
                    obtain ⟨I278, g278, w278, Qa278, Qb278⟩ := hq278
                    subst w278
                    have f278 := fr_tr (F1 := F_X3_swap) (F := F_X3_goOn) f274 g278 (by decide)
                    have s278 := Qa278 _ _ ((Qb274 (Int32.toInt 1).toNat (by decide) (by decide)).trans hg1) ((Qb274 (Int32.toInt 5).toNat (by decide) (by decide)).trans hg5)
                    show EvP _ _ _ (104, [(4, .int 5), (3, .int 1), (2, .int 2), (1, .int 0), (0, .ref 84)], [], h278) _
                    refine te_iinc (p2 := 107) (x := 1) (y := 2) (lv2 := [(3, .int 2), (4, .int 5), (2, .int 2), (1, .int 0), (0, .ref 84)]) rfl rfl (by decide) rfl (by decide) rfl ?_
                    refine te_iinc (p2 := 110) (x := 5) (y := 4) (lv2 := [(4, .int 4), (3, .int 2), (2, .int 2), (1, .int 0), (0, .ref 84)]) rfl rfl (by decide) rfl (by decide) rfl ?_
                    refine te_goto rfl ?_
                    refine te_iload_n (p2 := 92) rfl rfl rfl ?_
                    refine te_iload (p2 := 94) rfl rfl rfl ?_
                    refine tb_ge (p2 := 97) rfl rfl (show Int32.toInt 2 = 2 from rfl) (show Int32.toInt 4 = 4 from rfl) (fun c281 => absurd c281 (by omega)) (fun c281 => ?_)
                    refine te_aload_n (p2 := 98) rfl rfl rfl ?_
                    refine te_iload_n (p2 := 99) rfl rfl rfl ?_
                    refine te_iload (p2 := 101) rfl rfl rfl ?_
                    refine tc_V (p2 := 104) (i := 68) rfl rfl rfl rfl I278 rfl rfl rfl (c_X3_swap (i := 2) (j := 4) I278 (by decide) (by decide) (by decide) (by decide)) (by decide) (fun v282 h282 hq282 => ?_)
                    obtain ⟨I282, g282, w282, Qa282, Qb282⟩ := hq282
                    subst w282
                    have f282 := fr_tr (F1 := F_X3_swap) (F := F_X3_goOn) f278 g282 (by decide)
                    have s282 := Qa282 _ _ ((Qb278 (Int32.toInt 2).toNat (by decide) (by decide)).trans s274.2) ((Qb278 (Int32.toInt 4).toNat (by decide) (by decide)).trans ((Qb274 (Int32.toInt 4).toNat (by decide) (by decide)).trans hg4))
                    show EvP _ _ _ (104, [(4, .int 4), (3, .int 2), (2, .int 2), (1, .int 0), (0, .ref 84)], [], h282) _
                    refine te_iinc (p2 := 107) (x := 2) (y := 3) (lv2 := [(3, .int 3), (4, .int 4), (2, .int 2), (1, .int 0), (0, .ref 84)]) rfl rfl (by decide) rfl (by decide) rfl ?_
                    refine te_iinc (p2 := 110) (x := 4) (y := 3) (lv2 := [(4, .int 3), (3, .int 3), (2, .int 2), (1, .int 0), (0, .ref 84)]) rfl rfl (by decide) rfl (by decide) rfl ?_
                    refine te_goto rfl ?_
                    refine te_iload_n (p2 := 92) rfl rfl rfl ?_
                    refine te_iload (p2 := 94) rfl rfl rfl ?_
                    refine tb_ge (p2 := 97) rfl rfl (show Int32.toInt 3 = 3 from rfl) (show Int32.toInt 3 = 3 from rfl) (fun c285 => ?_) (fun c285 => absurd c285 (by omega))
                    refine te_iconst (p2 := 114) (x := 1) rfl rfl (by decide) ?_
                    exact te_zret rfl rfl (by decide) ⟨I282, f282, _, rfl, Or.inr ⟨rfl, (by rw [pq_xe6, on6_6, (pq_of (k := 0) hg0 : pq_n h 70 0 = g0.toInt.toNat), (pq_of (k := 1) hg1 : pq_n h 70 1 = g1.toInt.toNat), (pq_of (k := 2) hg2 : pq_n h 70 2 = g2.toInt.toNat), (pq_of (k := 3) hg3 : pq_n h 70 3 = g3.toInt.toNat), (pq_of (k := 4) hg4 : pq_n h 70 4 = g4.toInt.toNat), (pq_of (k := 5) hg5 : pq_n h 70 5 = g5.toInt.toNat), (pq_of (k := 0) ((Qb282 (Int32.toInt 0).toNat (by decide) (by decide)).trans ((Qb278 (Int32.toInt 0).toNat (by decide) (by decide)).trans s274.1)) : pq_n h282 70 0 = g2.toInt.toNat), (pq_of (k := 1) ((Qb282 (Int32.toInt 1).toNat (by decide) (by decide)).trans s278.1) : pq_n h282 70 1 = g5.toInt.toNat), (pq_of (k := 2) s282.1 : pq_n h282 70 2 = g4.toInt.toNat), (pq_of (k := 3) ((Qb282 (Int32.toInt 3).toNat (by decide) (by decide)).trans ((Qb278 (Int32.toInt 3).toNat (by decide) (by decide)).trans ((Qb274 (Int32.toInt 3).toNat (by decide) (by decide)).trans hg3))) : pq_n h282 70 3 = g3.toInt.toNat), (pq_of (k := 4) s282.2 : pq_n h282 70 4 = g0.toInt.toNat), (pq_of (k := 5) ((Qb282 (Int32.toInt 5).toNat (by decide) (by decide)).trans s278.2) : pq_n h282 70 5 = g1.toInt.toNat)]; unfold pq_x6; rw [if_pos (by omega), if_pos (by omega), if_pos (by omega), if_pos (by omega), if_neg (by omega), if_pos (by omega), if_pos (by omega), if_pos (by omega), if_neg (by omega)])⟩⟩
                  · refine te_iinc (p2 := 70) (x := 2) (y := 1) (lv2 := [(2, .int 1), (1, .int 0), (0, .ref 84)]) rfl rfl (by decide) rfl (by decide) rfl ?_
                    refine te_goto rfl ?_
                    refine te_iload_n (p2 := 48) rfl rfl rfl ?_
                    refine te_iload_n (p2 := 49) rfl rfl rfl ?_
                    refine tb_le (p2 := 52) rfl rfl (show Int32.toInt 1 = 1 from rfl) (show Int32.toInt 0 = 0 from rfl) (fun c287 => absurd c287 (by omega)) (fun c287 => ?_)
                    refine te_aload_n (p2 := 53) rfl rfl rfl ?_
                    refine tg_r (p2 := 56) (i := 68) (r := 86) rfl rfl hI rfl rfl rfl ?_
                    refine te_iload_n (p2 := 57) rfl rfl rfl ?_
                    refine tl_e (p2 := 58) (i := 70) (n := 6) (t := 0) (Or.inl rfl) rfl rfl hI rfl rfl (by decide) (by decide) hg1 ?_
                    refine te_aload_n (p2 := 59) rfl rfl rfl ?_
                    refine tg_r (p2 := 62) (i := 68) (r := 86) rfl rfl hI rfl rfl rfl ?_
                    refine te_iload_n (p2 := 63) rfl rfl rfl ?_
                    refine tl_e (p2 := 64) (i := 70) (n := 6) (t := 0) (Or.inl rfl) rfl rfl hI rfl rfl (by decide) (by decide) hg0 ?_
                    refine tb_ge (p2 := 67) rfl rfl rfl rfl (fun c290 => ?_) (fun c290 => ?_)
                    · refine te_aload_n (p2 := 74) rfl rfl rfl ?_
                      refine te_iload_n (p2 := 75) rfl rfl rfl ?_
                      refine te_iload_n (p2 := 76) rfl rfl rfl ?_
                      refine tc_V (p2 := 79) (i := 68) rfl rfl rfl rfl hI rfl rfl rfl (c_X3_swap (i := 0) (j := 1) hI (by decide) (by decide) (by decide) (by decide)) (by decide) (fun v291 h291 hq291 => ?_)
                      obtain ⟨I291, g291, w291, Qa291, Qb291⟩ := hq291
                      subst w291
                      have f291 := fr_tr (F1 := F_X3_swap) (F := F_X3_goOn) f0 g291 (by decide)
                      have s291 := Qa291 _ _ hg0 hg1
                      show EvP _ _ _ (79, [(2, .int 1), (1, .int 0), (0, .ref 84)], [], h291) _
                      refine te_iload_n (p2 := 80) rfl rfl rfl ?_
                      refine te_iconst (p2 := 81) (x := 1) rfl rfl (by decide) ?_
                      refine te_iadd (p2 := 82) (z := 1) rfl rfl (by decide) ?_
                      refine te_istore_n (p2 := 83) (lv2 := [(3, .int 1), (2, .int 1), (1, .int 0), (0, .ref 84)]) rfl rfl (by decide) rfl ?_
                      refine te_aload_n (p2 := 84) rfl rfl rfl ?_
                      refine tg_e (p2 := 87) (i := 68) (v := .int 6) rfl rfl I291 rfl rfl ((g291 _ _ (by decide)).trans pr0) ?_
                      refine te_iconst (p2 := 88) (x := 1) rfl rfl (by decide) ?_
                      refine te_isub (p2 := 89) (z := 5) rfl rfl (by decide) ?_
                      refine te_istore (p2 := 91) (lv2 := [(4, .int 5), (3, .int 1), (2, .int 1), (1, .int 0), (0, .ref 84)]) rfl rfl (by decide) rfl ?_
                      refine te_iload_n (p2 := 92) rfl rfl rfl ?_
                      refine te_iload (p2 := 94) rfl rfl rfl ?_
                      refine tb_ge (p2 := 97) rfl rfl (show Int32.toInt 1 = 1 from rfl) (show Int32.toInt 5 = 5 from rfl) (fun c294 => absurd c294 (by omega)) (fun c294 => ?_)
                      refine te_aload_n (p2 := 98) rfl rfl rfl ?_
                      refine te_iload_n (p2 := 99) rfl rfl rfl ?_
                      refine te_iload (p2 := 101) rfl rfl rfl ?_
                      refine tc_V (p2 := 104) (i := 68) rfl rfl rfl rfl I291 rfl rfl rfl (c_X3_swap (i := 1) (j := 5) I291 (by decide) (by decide) (by decide) (by decide)) (by decide) (fun v295 h295 hq295 => ?_)
                      obtain ⟨I295, g295, w295, Qa295, Qb295⟩ := hq295
                      subst w295
                      have f295 := fr_tr (F1 := F_X3_swap) (F := F_X3_goOn) f291 g295 (by decide)
                      have s295 := Qa295 _ _ s291.2 ((Qb291 (Int32.toInt 5).toNat (by decide) (by decide)).trans hg5)
                      show EvP _ _ _ (104, [(4, .int 5), (3, .int 1), (2, .int 1), (1, .int 0), (0, .ref 84)], [], h295) _
                      refine te_iinc (p2 := 107) (x := 1) (y := 2) (lv2 := [(3, .int 2), (4, .int 5), (2, .int 1), (1, .int 0), (0, .ref 84)]) rfl rfl (by decide) rfl (by decide) rfl ?_
                      refine te_iinc (p2 := 110) (x := 5) (y := 4) (lv2 := [(4, .int 4), (3, .int 2), (2, .int 1), (1, .int 0), (0, .ref 84)]) rfl rfl (by decide) rfl (by decide) rfl ?_
                      refine te_goto rfl ?_
                      refine te_iload_n (p2 := 92) rfl rfl rfl ?_
                      refine te_iload (p2 := 94) rfl rfl rfl ?_
                      refine tb_ge (p2 := 97) rfl rfl (show Int32.toInt 2 = 2 from rfl) (show Int32.toInt 4 = 4 from rfl) (fun c298 => absurd c298 (by omega)) (fun c298 => ?_)
                      refine te_aload_n (p2 := 98) rfl rfl rfl ?_
                      refine te_iload_n (p2 := 99) rfl rfl rfl ?_
                      refine te_iload (p2 := 101) rfl rfl rfl ?_
                      refine tc_V (p2 := 104) (i := 68) rfl rfl rfl rfl I295 rfl rfl rfl (c_X3_swap (i := 2) (j := 4) I295 (by decide) (by decide) (by decide) (by decide)) (by decide) (fun v299 h299 hq299 => ?_)
                      obtain ⟨I299, g299, w299, Qa299, Qb299⟩ := hq299
                      subst w299
                      have f299 := fr_tr (F1 := F_X3_swap) (F := F_X3_goOn) f295 g299 (by decide)
                      have s299 := Qa299 _ _ ((Qb295 (Int32.toInt 2).toNat (by decide) (by decide)).trans ((Qb291 (Int32.toInt 2).toNat (by decide) (by decide)).trans hg2)) ((Qb295 (Int32.toInt 4).toNat (by decide) (by decide)).trans ((Qb291 (Int32.toInt 4).toNat (by decide) (by decide)).trans hg4))
                      show EvP _ _ _ (104, [(4, .int 4), (3, .int 2), (2, .int 1), (1, .int 0), (0, .ref 84)], [], h299) _
                      refine te_iinc (p2 := 107) (x := 2) (y := 3) (lv2 := [(3, .int 3), (4, .int 4), (2, .int 1), (1, .int 0), (0, .ref 84)]) rfl rfl (by decide) rfl (by decide) rfl ?_
                      refine te_iinc (p2 := 110) (x := 4) (y := 3) (lv2 := [(4, .int 3), (3, .int 3), (2, .int 1), (1, .int 0), (0, .ref 84)]) rfl rfl (by decide) rfl (by decide) rfl ?_
                      refine te_goto rfl ?_
                      refine te_iload_n (p2 := 92) rfl rfl rfl ?_
                      refine te_iload (p2 := 94) rfl rfl rfl ?_
                      refine tb_ge (p2 := 97) rfl rfl (show Int32.toInt 3 = 3 from rfl) (show Int32.toInt 3 = 3 from rfl) (fun c302 => ?_) (fun c302 => absurd c302 (by omega))
                      refine te_iconst (p2 := 114) (x := 1) rfl rfl (by decide) ?_
                      exact te_zret rfl rfl (by decide) ⟨I299, f299, _, rfl, Or.inr ⟨rfl, (by rw [pq_xe6, on6_6, (pq_of (k := 0) hg0 : pq_n h 70 0 = g0.toInt.toNat), (pq_of (k := 1) hg1 : pq_n h 70 1 = g1.toInt.toNat), (pq_of (k := 2) hg2 : pq_n h 70 2 = g2.toInt.toNat), (pq_of (k := 3) hg3 : pq_n h 70 3 = g3.toInt.toNat), (pq_of (k := 4) hg4 : pq_n h 70 4 = g4.toInt.toNat), (pq_of (k := 5) hg5 : pq_n h 70 5 = g5.toInt.toNat), (pq_of (k := 0) ((Qb299 (Int32.toInt 0).toNat (by decide) (by decide)).trans ((Qb295 (Int32.toInt 0).toNat (by decide) (by decide)).trans s291.1)) : pq_n h299 70 0 = g1.toInt.toNat), (pq_of (k := 1) ((Qb299 (Int32.toInt 1).toNat (by decide) (by decide)).trans s295.1) : pq_n h299 70 1 = g5.toInt.toNat), (pq_of (k := 2) s299.1 : pq_n h299 70 2 = g4.toInt.toNat), (pq_of (k := 3) ((Qb299 (Int32.toInt 3).toNat (by decide) (by decide)).trans ((Qb295 (Int32.toInt 3).toNat (by decide) (by decide)).trans ((Qb291 (Int32.toInt 3).toNat (by decide) (by decide)).trans hg3))) : pq_n h299 70 3 = g3.toInt.toNat), (pq_of (k := 4) s299.2 : pq_n h299 70 4 = g2.toInt.toNat), (pq_of (k := 5) ((Qb299 (Int32.toInt 5).toNat (by decide) (by decide)).trans s295.2) : pq_n h299 70 5 = g0.toInt.toNat)]; unfold pq_x6; rw [if_pos (by omega), if_pos (by omega), if_pos (by omega), if_pos (by omega), if_neg (by omega), if_pos (by omega), if_pos (by omega), if_pos (by omega), if_pos (by omega), if_neg (by omega)])⟩⟩
                    · refine te_iinc (p2 := 70) (x := 1) (y := 0) (lv2 := [(2, .int 0), (1, .int 0), (0, .ref 84)]) rfl rfl (by decide) rfl (by decide) rfl ?_
                      refine te_goto rfl ?_
                      refine te_iload_n (p2 := 48) rfl rfl rfl ?_
                      refine te_iload_n (p2 := 49) rfl rfl rfl ?_
                      refine tb_le (p2 := 52) rfl rfl (show Int32.toInt 0 = 0 from rfl) (show Int32.toInt 0 = 0 from rfl) (fun c304 => ?_) (fun c304 => absurd c304 (by omega))
                      refine te_aload_n (p2 := 74) rfl rfl rfl ?_
                      refine te_iload_n (p2 := 75) rfl rfl rfl ?_
                      refine te_iload_n (p2 := 76) rfl rfl rfl ?_
                      refine tc_V (p2 := 79) (i := 68) rfl rfl rfl rfl hI rfl rfl rfl (c_X3_swap (i := 0) (j := 0) hI (by decide) (by decide) (by decide) (by decide)) (by decide) (fun v305 h305 hq305 => ?_)
                      obtain ⟨I305, g305, w305, Qa305, Qb305⟩ := hq305
                      subst w305
                      have f305 := fr_tr (F1 := F_X3_swap) (F := F_X3_goOn) f0 g305 (by decide)
                      have s305 := Qa305 _ _ hg0 hg0
                      show EvP _ _ _ (79, [(2, .int 0), (1, .int 0), (0, .ref 84)], [], h305) _
                      refine te_iload_n (p2 := 80) rfl rfl rfl ?_
                      refine te_iconst (p2 := 81) (x := 1) rfl rfl (by decide) ?_
                      refine te_iadd (p2 := 82) (z := 1) rfl rfl (by decide) ?_
                      refine te_istore_n (p2 := 83) (lv2 := [(3, .int 1), (2, .int 0), (1, .int 0), (0, .ref 84)]) rfl rfl (by decide) rfl ?_
                      refine te_aload_n (p2 := 84) rfl rfl rfl ?_
                      refine tg_e (p2 := 87) (i := 68) (v := .int 6) rfl rfl I305 rfl rfl ((g305 _ _ (by decide)).trans pr0) ?_
                      refine te_iconst (p2 := 88) (x := 1) rfl rfl (by decide) ?_
                      refine te_isub (p2 := 89) (z := 5) rfl rfl (by decide) ?_
                      refine te_istore (p2 := 91) (lv2 := [(4, .int 5), (3, .int 1), (2, .int 0), (1, .int 0), (0, .ref 84)]) rfl rfl (by decide) rfl ?_
                      refine te_iload_n (p2 := 92) rfl rfl rfl ?_
                      refine te_iload (p2 := 94) rfl rfl rfl ?_
                      refine tb_ge (p2 := 97) rfl rfl (show Int32.toInt 1 = 1 from rfl) (show Int32.toInt 5 = 5 from rfl) (fun c308 => absurd c308 (by omega)) (fun c308 => ?_)
                      refine te_aload_n (p2 := 98) rfl rfl rfl ?_
                      refine te_iload_n (p2 := 99) rfl rfl rfl ?_
                      refine te_iload (p2 := 101) rfl rfl rfl ?_
                      refine tc_V (p2 := 104) (i := 68) rfl rfl rfl rfl I305 rfl rfl rfl (c_X3_swap (i := 1) (j := 5) I305 (by decide) (by decide) (by decide) (by decide)) (by decide) (fun v309 h309 hq309 => ?_)
                      obtain ⟨I309, g309, w309, Qa309, Qb309⟩ := hq309
                      subst w309
                      have f309 := fr_tr (F1 := F_X3_swap) (F := F_X3_goOn) f305 g309 (by decide)
                      have s309 := Qa309 _ _ ((Qb305 (Int32.toInt 1).toNat (by decide) (by decide)).trans hg1) ((Qb305 (Int32.toInt 5).toNat (by decide) (by decide)).trans hg5)
                      show EvP _ _ _ (104, [(4, .int 5), (3, .int 1), (2, .int 0), (1, .int 0), (0, .ref 84)], [], h309) _
                      refine te_iinc (p2 := 107) (x := 1) (y := 2) (lv2 := [(3, .int 2), (4, .int 5), (2, .int 0), (1, .int 0), (0, .ref 84)]) rfl rfl (by decide) rfl (by decide) rfl ?_
                      refine te_iinc (p2 := 110) (x := 5) (y := 4) (lv2 := [(4, .int 4), (3, .int 2), (2, .int 0), (1, .int 0), (0, .ref 84)]) rfl rfl (by decide) rfl (by decide) rfl ?_
                      refine te_goto rfl ?_
                      refine te_iload_n (p2 := 92) rfl rfl rfl ?_
                      refine te_iload (p2 := 94) rfl rfl rfl ?_
                      refine tb_ge (p2 := 97) rfl rfl (show Int32.toInt 2 = 2 from rfl) (show Int32.toInt 4 = 4 from rfl) (fun c312 => absurd c312 (by omega)) (fun c312 => ?_)
                      refine te_aload_n (p2 := 98) rfl rfl rfl ?_
                      refine te_iload_n (p2 := 99) rfl rfl rfl ?_
                      refine te_iload (p2 := 101) rfl rfl rfl ?_
                      refine tc_V (p2 := 104) (i := 68) rfl rfl rfl rfl I309 rfl rfl rfl (c_X3_swap (i := 2) (j := 4) I309 (by decide) (by decide) (by decide) (by decide)) (by decide) (fun v313 h313 hq313 => ?_)
                      obtain ⟨I313, g313, w313, Qa313, Qb313⟩ := hq313
                      subst w313
                      have f313 := fr_tr (F1 := F_X3_swap) (F := F_X3_goOn) f309 g313 (by decide)
                      have s313 := Qa313 _ _ ((Qb309 (Int32.toInt 2).toNat (by decide) (by decide)).trans ((Qb305 (Int32.toInt 2).toNat (by decide) (by decide)).trans hg2)) ((Qb309 (Int32.toInt 4).toNat (by decide) (by decide)).trans ((Qb305 (Int32.toInt 4).toNat (by decide) (by decide)).trans hg4))
                      show EvP _ _ _ (104, [(4, .int 4), (3, .int 2), (2, .int 0), (1, .int 0), (0, .ref 84)], [], h313) _
                      refine te_iinc (p2 := 107) (x := 2) (y := 3) (lv2 := [(3, .int 3), (4, .int 4), (2, .int 0), (1, .int 0), (0, .ref 84)]) rfl rfl (by decide) rfl (by decide) rfl ?_
                      refine te_iinc (p2 := 110) (x := 4) (y := 3) (lv2 := [(4, .int 3), (3, .int 3), (2, .int 0), (1, .int 0), (0, .ref 84)]) rfl rfl (by decide) rfl (by decide) rfl ?_
                      refine te_goto rfl ?_
                      refine te_iload_n (p2 := 92) rfl rfl rfl ?_
                      refine te_iload (p2 := 94) rfl rfl rfl ?_
                      refine tb_ge (p2 := 97) rfl rfl (show Int32.toInt 3 = 3 from rfl) (show Int32.toInt 3 = 3 from rfl) (fun c316 => ?_) (fun c316 => absurd c316 (by omega))
                      refine te_iconst (p2 := 114) (x := 1) rfl rfl (by decide) ?_
                      exact te_zret rfl rfl (by decide) ⟨I313, f313, _, rfl, Or.inr ⟨rfl, (by rw [pq_xe6, on6_6, (pq_of (k := 0) hg0 : pq_n h 70 0 = g0.toInt.toNat), (pq_of (k := 1) hg1 : pq_n h 70 1 = g1.toInt.toNat), (pq_of (k := 2) hg2 : pq_n h 70 2 = g2.toInt.toNat), (pq_of (k := 3) hg3 : pq_n h 70 3 = g3.toInt.toNat), (pq_of (k := 4) hg4 : pq_n h 70 4 = g4.toInt.toNat), (pq_of (k := 5) hg5 : pq_n h 70 5 = g5.toInt.toNat), (pq_of (k := 0) ((Qb313 (Int32.toInt 0).toNat (by decide) (by decide)).trans ((Qb309 (Int32.toInt 0).toNat (by decide) (by decide)).trans s305.2)) : pq_n h313 70 0 = g0.toInt.toNat), (pq_of (k := 1) ((Qb313 (Int32.toInt 1).toNat (by decide) (by decide)).trans s309.1) : pq_n h313 70 1 = g5.toInt.toNat), (pq_of (k := 2) s313.1 : pq_n h313 70 2 = g4.toInt.toNat), (pq_of (k := 3) ((Qb313 (Int32.toInt 3).toNat (by decide) (by decide)).trans ((Qb309 (Int32.toInt 3).toNat (by decide) (by decide)).trans ((Qb305 (Int32.toInt 3).toNat (by decide) (by decide)).trans hg3))) : pq_n h313 70 3 = g3.toInt.toNat), (pq_of (k := 4) s313.2 : pq_n h313 70 4 = g2.toInt.toNat), (pq_of (k := 5) ((Qb313 (Int32.toInt 5).toNat (by decide) (by decide)).trans s309.2) : pq_n h313 70 5 = g1.toInt.toNat)]; unfold pq_x6; rw [if_pos (by omega), if_pos (by omega), if_pos (by omega), if_pos (by omega), if_neg (by omega), if_pos (by omega), if_pos (by omega), if_pos (by omega), if_pos (by omega), if_pos (by omega)])⟩⟩
          · refine te_iinc (p2 := 31) (x := 0) (y := (-1)) (lv2 := [(1, .int (-1)), (0, .ref 84)]) rfl rfl (by decide) rfl (by decide) rfl ?_
            refine te_goto rfl ?_
            refine te_iload_n (p2 := 8) rfl rfl rfl ?_
            refine tz_lt (p2 := 11) rfl rfl (show Int32.toInt (-1) = (-1) from rfl) (fun c318 => ?_) (fun c318 => absurd c318 (by omega))
            refine te_iload_n (p2 := 35) rfl rfl rfl ?_
            refine tz_ge (p2 := 38) rfl rfl (show Int32.toInt (-1) = (-1) from rfl) (fun c319 => absurd c319 (by omega)) (fun c319 => ?_)
            refine te_iconst (p2 := 39) (x := 0) rfl rfl (by decide) ?_
            exact te_zret rfl rfl (by decide) ⟨hI, f0, _, rfl, Or.inl ⟨rfl, (by rw [pq_xe6, (pq_of (k := 0) hg0 : pq_n h 70 0 = g0.toInt.toNat), (pq_of (k := 1) hg1 : pq_n h 70 1 = g1.toInt.toNat), (pq_of (k := 2) hg2 : pq_n h 70 2 = g2.toInt.toNat), (pq_of (k := 3) hg3 : pq_n h 70 3 = g3.toInt.toNat), (pq_of (k := 4) hg4 : pq_n h 70 4 = g4.toInt.toNat), (pq_of (k := 5) hg5 : pq_n h 70 5 = g5.toInt.toNat)]; unfold pq_x6; rw [if_pos (by omega), if_pos (by omega), if_pos (by omega), if_pos (by omega), if_pos (by omega)])⟩⟩
set_option maxRecDepth 10000 in
set_option maxHeartbeats 2000000 in
theorem c_X3_goOn {n : Int32} {h : im_H} (hI : tI h) (hz : rd h 68 0 = some (.int n)) (n0 : 1 ≤ n.toInt) (n1 : n.toInt ≤ 6) : CaP 2 26 [.ref 84] h (fun v h2 => tI h2 ∧ fr F_X3_goOn h h2 ∧ ∃ y : Int32, v = some (.int y) ∧ ((y = 0 ∧ pq_x n.toInt.toNat (on6 n.toInt.toNat (pq_n h 70)) = none) ∨ (y = 1 ∧ pq_x n.toInt.toNat (on6 n.toInt.toNat (pq_n h 70)) = some (on6 n.toInt.toNat (pq_n h2 70))))) := by
  obtain ⟨v0, e0, g0, w0, a0, b0, _⟩ := hI.2.1 70 (Int32.toInt 0).toNat (.inl (0, 5, 9999999999)) (tq_row rfl (by decide))
  subst w0
  obtain ⟨v1, e1, g1, w1, a1, b1, _⟩ := hI.2.1 70 (Int32.toInt 1).toNat (.inl (0, 5, 9999999999)) (tq_row rfl (by decide))
  subst w1
  obtain ⟨v2, e2, g2, w2, a2, b2, _⟩ := hI.2.1 70 (Int32.toInt 2).toNat (.inl (0, 5, 9999999999)) (tq_row rfl (by decide))
  subst w2
  obtain ⟨v3, e3, g3, w3, a3, b3, _⟩ := hI.2.1 70 (Int32.toInt 3).toNat (.inl (0, 5, 9999999999)) (tq_row rfl (by decide))
  subst w3
  obtain ⟨v4, e4, g4, w4, a4, b4, _⟩ := hI.2.1 70 (Int32.toInt 4).toNat (.inl (0, 5, 9999999999)) (tq_row rfl (by decide))
  subst w4
  obtain ⟨v5, e5, g5, w5, a5, b5, _⟩ := hI.2.1 70 (Int32.toInt 5).toNat (.inl (0, 5, 9999999999)) (tq_row rfl (by decide))
  subst w5
  rcases (show n.toInt = 1 ∨ n.toInt = 2 ∨ n.toInt = 3 ∨ n.toInt = 4 ∨ n.toInt = 5 ∨ n.toInt = 6 by omega) with hn | hn | hn | hn | hn | hn
  · obtain rfl : n = 1 := i32_ext hn
    rw [show (Int32.toInt 1).toNat = 1 from rfl]
    exact c_X3_goOn_1 hI e0 a0 b0 e1 a1 b1 e2 a2 b2 e3 a3 b3 e4 a4 b4 e5 a5 b5 hz
  · obtain rfl : n = 2 := i32_ext hn
    rw [show (Int32.toInt 2).toNat = 2 from rfl]
    exact c_X3_goOn_2 hI e0 a0 b0 e1 a1 b1 e2 a2 b2 e3 a3 b3 e4 a4 b4 e5 a5 b5 hz
  · obtain rfl : n = 3 := i32_ext hn
    rw [show (Int32.toInt 3).toNat = 3 from rfl]
    exact c_X3_goOn_3 hI e0 a0 b0 e1 a1 b1 e2 a2 b2 e3 a3 b3 e4 a4 b4 e5 a5 b5 hz
  · obtain rfl : n = 4 := i32_ext hn
    rw [show (Int32.toInt 4).toNat = 4 from rfl]
    exact c_X3_goOn_4 hI e0 a0 b0 e1 a1 b1 e2 a2 b2 e3 a3 b3 e4 a4 b4 e5 a5 b5 hz
  · obtain rfl : n = 5 := i32_ext hn
    rw [show (Int32.toInt 5).toNat = 5 from rfl]
    exact c_X3_goOn_5 hI e0 a0 b0 e1 a1 b1 e2 a2 b2 e3 a3 b3 e4 a4 b4 e5 a5 b5 hz
  · obtain rfl : n = 6 := i32_ext hn
    rw [show (Int32.toInt 6).toNat = 6 from rfl]
    exact c_X3_goOn_6 hI e0 a0 b0 e1 a1 b1 e2 a2 b2 e3 a3 b3 e4 a4 b4 e5 a5 b5 hz
