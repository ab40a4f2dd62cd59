set_option maxRecDepth 20000 in
set_option maxHeartbeats 4000000 in
theorem c_X3_find {s : Nat} {z : Int32} {h : im_H} (hI : tI h) (q_s : s = 140 ∨ s = 142 ∨ s = 144 ∨ s = 146) (pr0 : rd h s 1 = some (.int z)) (pr1 : 1 ≤ z.toInt) (pr2 : z.toInt ≤ 6) : CaP 3 23 [.ref 84, .ref (16 + s)] h (fun v h2 => tI h2 ∧ fr F_X3_find h h2 ∧ ∃ y : Int32, v = some (.int y) ∧ y.toInt = (pq_t (fun j m => (rv h 71 j).toInt ≤ (m : Int)) z.toInt.toNat).1 ∧ (∀ q : Nat, q < 6 → rv h2 69 q = if q < z.toInt.toNat then (vl h (s + 1) 0) (o6at (pq_t (fun j m => (rv h 71 j).toInt ≤ (m : Int)) z.toInt.toNat).2 q) else rv h 69 q) ∧ rd h2 68 0 = some (.int z)) := by
  refine cap_of (d := 2) (M := mX3_find) rfl (Nat.le_of_ble_eq_true rfl) ?_
  show EvP im_K0 2 mX3_find (0, [(0, .ref 84), (1, .ref (16 + s))], [], h) _
  have f0 : fr F_X3_find h h := fr_rf
  refine te_bipush (p2 := 2) (x := 7) rfl rfl (by decide) ?_
  refine te_istore_n (p2 := 3) (lv2 := [(2, .int 7), (0, .ref 84), (1, .ref (16 + s))]) rfl rfl (by decide) rfl ?_
  refine te_aload_n (p2 := 4) rfl rfl rfl ?_
  refine te_aload_n (p2 := 5) rfl rfl rfl ?_
  refine tg_e (p2 := 8) (i := s) (v := .int z) rfl rfl hI rfl (by rcases q_s with rfl | rfl | rfl | rfl <;> rfl) pr0 ?_
  refine tp_i (p2 := 11) (i := 68) rfl rfl hI rfl rfl (by decide) rfl rfl rfl (by omega) (by omega) (by omega) rfl (fun h1 I1 u1 => ?_)
  have f1 := fr_st (F := F_X3_find) 0 f0 u1 rfl (by decide) (by decide)
  refine te_iconst (p2 := 12) (x := 0) rfl rfl (by decide) ?_
  refine te_istore_n (p2 := 13) (lv2 := [(3, .int 0), (2, .int 7), (0, .ref 84), (1, .ref (16 + s))]) rfl rfl (by decide) rfl ?_
  have lp2 : ∀ (n2 : Nat) (v2_3 t2_z : Int32) (h2 : im_H), tI h2 → fr F_X3_find h h2 → 0 ≤ v2_3.toInt → v2_3.toInt ≤ 6 → rd h2 68 0 = some (.int t2_z) → 0 ≤ t2_z.toInt → t2_z.toInt ≤ 6 → t2_z.toInt = z.toInt → v2_3.toInt ≤ z.toInt → (∀ q : Nat, q < v2_3.toInt.toNat → pq_n h2 70 q = q) → (∀ q : Nat, rv h2 69 q = rv h 69 q) → 6 - v2_3.toInt < (n2 : Int) → EvP im_K0 2 mX3_find (13, [(0, .ref 84), (1, .ref (16 + s)), (2, .int 7), (3, .int v2_3)], [], h2) (fun v h2 => tI h2 ∧ fr F_X3_find h h2 ∧ ∃ y : Int32, v = some (.int y) ∧ y.toInt = (pq_t (fun j m => (rv h 71 j).toInt ≤ (m : Int)) z.toInt.toNat).1 ∧ (∀ q : Nat, q < 6 → rv h2 69 q = if q < z.toInt.toNat then (vl h (s + 1) 0) (o6at (pq_t (fun j m => (rv h 71 j).toInt ≤ (m : Int)) z.toInt.toNat).2 q) else rv h 69 q) ∧ rd h2 68 0 = some (.int z)) := by
    intro n2
    induction n2 with
    | zero => intro v2_3 t2_z h2 I2 f2 a2_3 b2_3 v2_z va2_z vb2_z l2_0 l2_1 w2_0 w2_1 m2; exfalso; omega
    | succ n2 ih2 =>
      intro v2_3 t2_z h2 I2 f2 a2_3 b2_3 v2_z va2_z vb2_z l2_0 l2_1 w2_0 w2_1 m2
      refine te_iload_n (p2 := 14) rfl rfl rfl ?_
      refine te_aload_n (p2 := 15) rfl rfl rfl ?_
      refine tg_e (p2 := 18) (i := 68) (v := .int t2_z) rfl rfl I2 rfl rfl v2_z ?_
      refine tb_ge (p2 := 21) rfl rfl rfl rfl (fun c3 => ?_) (fun c3 => ?_)
      · refine te_iconst (p2 := 35) (x := 0) rfl rfl (by decide) ?_
        refine te_istore_n (p2 := 36) (lv2 := [(3, .int 0), (0, .ref 84), (1, .ref (16 + s)), (2, .int 7)]) rfl rfl (by decide) rfl ?_
        have lp4 : ∀ (n4 : Nat) (v4_2 v4_3 t4_z : Int32) (h4 : im_H), tI h4 → fr F_X3_find h h4 → 0 ≤ v4_2.toInt → v4_2.toInt ≤ 7 → 0 ≤ v4_3.toInt → v4_3.toInt ≤ 720 → rd h4 68 0 = some (.int t4_z) → 0 ≤ t4_z.toInt → t4_z.toInt ≤ 6 → t4_z.toInt = z.toInt → (pq_I z.toInt.toNat (pq_l (fun j m => (rv h 71 j).toInt ≤ (m : Int)) z.toInt.toNat) (pq_t (fun j m => (rv h 71 j).toInt ≤ (m : Int)) z.toInt.toNat) (720 - v4_3.toInt.toNat) (on6 z.toInt.toNat (pq_n h4 70)) v4_2.toInt (rv h4 69) (vl h (s + 1) 0)) → (∀ q : Nat, ¬ q < z.toInt.toNat → rv h4 69 q = rv h 69 q) → 720 - v4_3.toInt < (n4 : Int) → EvP im_K0 2 mX3_find (36, [(0, .ref 84), (1, .ref (16 + s)), (2, .int v4_2), (3, .int v4_3)], [], h4) (fun v h2 => tI h2 ∧ fr F_X3_find h h2 ∧ ∃ y : Int32, v = some (.int y) ∧ y.toInt = (pq_t (fun j m => (rv h 71 j).toInt ≤ (m : Int)) z.toInt.toNat).1 ∧ (∀ q : Nat, q < 6 → rv h2 69 q = if q < z.toInt.toNat then (vl h (s + 1) 0) (o6at (pq_t (fun j m => (rv h 71 j).toInt ≤ (m : Int)) z.toInt.toNat).2 q) else rv h 69 q) ∧ rd h2 68 0 = some (.int z)) := by
          intro n4
          induction n4 with
          | zero => intro v4_2 v4_3 t4_z h4 I4 f4 a4_2 b4_2 a4_3 b4_3 v4_z va4_z vb4_z l4_0 w4_0 w4_1 m4; exfalso; omega
          | succ n4 ih4 =>
            intro v4_2 v4_3 t4_z h4 I4 f4 a4_2 b4_2 a4_3 b4_3 v4_z va4_z vb4_z l4_0 w4_0 w4_1 m4
            refine te_iload_n (p2 := 37) rfl rfl rfl ?_
            refine te_sipush (p2 := 40) (x := 720) rfl rfl (by decide) ?_
            refine tb_ge (p2 := 43) rfl rfl rfl (show Int32.toInt 720 = 720 from rfl) (fun c5 => ?_) (fun c5 => ?_)
            · refine te_iload_n (p2 := 80) rfl rfl rfl ?_
              exact te_iret rfl rfl ⟨I4, f4, _, rfl, (pq_Ino w4_0 (by omega)).elim⟩
            · refine te_aload_n (p2 := 44) rfl rfl rfl ?_
              refine cV_pI (p2 := 47) (i := 68) rfl rfl rfl rfl I4 rfl rfl rfl (c_X3_countLate  I4 ) (by decide) (fun y6 r6 => ?_)
              obtain ⟨⟨a6, b6⟩, r6⟩ := r6
              rw [rv_of v4_z, show t4_z.toInt.toNat = z.toInt.toNat by omega, show rv h4 71 = rv h 71 from pq_rv (fun q => f4 71 q rfl)] at r6
              refine te_istore (p2 := 49) (lv2 := [(4, .int y6), (0, .ref 84), (1, .ref (16 + s)), (2, .int v4_2), (3, .int v4_3)]) rfl rfl (by decide) rfl ?_
              refine te_iload (p2 := 51) rfl rfl rfl ?_
              refine te_iload_n (p2 := 52) rfl rfl rfl ?_
              refine tb_ge (p2 := 55) rfl rfl rfl rfl (fun c7 => ?_) (fun c7 => ?_)
              · refine te_aload_n (p2 := 64) rfl rfl rfl ?_
                refine tc_V (p2 := 67) (i := 68) rfl rfl rfl rfl I4 rfl rfl rfl (c_X3_goOn (n := t4_z) I4 v4_z (by omega) (by omega)) (by decide) (fun v8 h8 hq8 => ?_)
                obtain ⟨I8, g8, y8, w8, r8⟩ := hq8
                subst w8
                have f8 := fr_tr (F1 := F_X3_goOn) (F := F_X3_find) f4 g8 (by decide)
                rw [show t4_z.toInt.toNat = z.toInt.toNat by omega] at r8
                rcases r8 with ⟨x8, n8_⟩ | ⟨x8, n8_⟩
                · subst x8
                  show EvP _ _ _ (67, [(4, .int y6), (0, .ref 84), (1, .ref (16 + s)), (2, .int v4_2), (3, .int v4_3)], [.int 0], h8) _
                  refine tz_ne (p2 := 70) rfl rfl (show Int32.toInt 0 = 0 from rfl) (fun c9 => absurd c9 (by omega)) (fun c9 => ?_)
                  refine te_goto rfl ?_
                  refine te_iload_n (p2 := 80) rfl rfl rfl ?_
                  have E10 := pq_Esk w4_0 r6 (by omega) (by omega) n8_
                  exact te_iret rfl rfl ⟨I8, f8, _, rfl, E10.1, (fun q _ => by (by_cases hq : q < z.toInt.toNat); (· rw [if_pos hq]; exact (pq_rq (g8 69 q rfl)).trans (E10.2 q hq)); (· rw [if_neg hq]; exact (pq_rq (g8 69 q rfl)).trans (w4_1 q hq))), (((g8 _ _ (by decide)).trans v4_z).trans (congrArg (fun t => some (Value.int t)) (i32_ext (by omega) : t4_z = z)))⟩
                · subst x8
                  show EvP _ _ _ (67, [(4, .int y6), (0, .ref 84), (1, .ref (16 + s)), (2, .int v4_2), (3, .int v4_3)], [.int 1], h8) _
                  refine tz_ne (p2 := 70) rfl rfl (show Int32.toInt 1 = 1 from rfl) (fun c11 => ?_) (fun c11 => absurd c11 (by omega))
                  refine ar_inc (p2 := 76) (x := v4_3) rfl rfl (by decide) rfl (by decide) rfl (by omega) (by omega) (fun z12 e12 f12 => ?_)
                  show EvP _ _ _ (76, [(3, .int z12), (4, .int y6), (0, .ref 84), (1, .ref (16 + s)), (2, .int v4_2)], [], h8) _
                  refine te_goto rfl ?_
                  refine te_lv [(0, .ref 84), (1, .ref (16 + s)), (2, .int v4_2), (3, .int z12)] rfl rfl ⟨rfl, rfl, rfl, rfl, trivial⟩ ?_
                  exact ih4 v4_2 z12 t4_z h8 I8 f8 (by omega) (by omega) (by omega) (by omega) ((g8 _ _ (by decide)).trans v4_z) (by omega) (by omega) (by omega) (by (obtain ⟨f2, ef, q⟩ := pq_Isk w4_0 r6 (by omega) n8_); rw [show 720 - z12.toInt.toNat = f2 by omega, show rv h8 69 = rv h4 69 from pq_rv (fun q => g8 69 q rfl)]; exact q) (fun q hq => (pq_rq (g8 69 q rfl)).trans (w4_1 q hq)) (by omega)
              · refine te_iload (p2 := 57) rfl rfl rfl ?_
                refine te_istore_n (p2 := 58) (lv2 := [(2, .int y6), (4, .int y6), (0, .ref 84), (1, .ref (16 + s)), (3, .int v4_3)]) rfl rfl (by decide) rfl ?_
                refine te_aload_n (p2 := 59) rfl rfl rfl ?_
                refine te_aload_n (p2 := 60) rfl rfl rfl ?_
                refine tc_V (p2 := 63) (i := 68) rfl rfl rfl rfl I4 rfl rfl rfl (c_X3_keep (s := s) I4 q_s) (by decide) (fun v13 h13 hq13 => ?_)
                obtain ⟨I13, g13, w13, Q13⟩ := hq13
                subst w13
                have f13 := fr_tr (F1 := F_X3_keep) (F := F_X3_find) f4 g13 (by decide)
                have K13 : ∀ q : Nat, q < z.toInt.toNat → rv h13 69 q = (vl h (s + 1) 0) (o6at (on6 z.toInt.toNat (pq_n h4 70)) q) := fun q hq => by (rw [Q13 q, rv_of v4_z, show t4_z.toInt.toNat = z.toInt.toNat by omega, if_pos hq, on6_at (by omega) hq, pq_vl (c := s + 1) (o := 0) (fun q => f4 _ _ (by rcases q_s with rfl | rfl | rfl | rfl <;> rfl))])
                have M13 : ∀ q : Nat, ¬ q < z.toInt.toNat → rv h13 69 q = rv h 69 q := fun q hq => by (rw [Q13 q, rv_of v4_z, show t4_z.toInt.toNat = z.toInt.toNat by omega, if_neg hq]; exact w4_1 q hq)
                show EvP _ _ _ (63, [(2, .int y6), (4, .int y6), (0, .ref 84), (1, .ref (16 + s)), (3, .int v4_3)], [], h13) _
                refine te_aload_n (p2 := 64) rfl rfl rfl ?_
                refine tc_V (p2 := 67) (i := 68) rfl rfl rfl rfl I13 rfl rfl rfl (c_X3_goOn (n := t4_z) I13 ((g13 _ _ (by decide)).trans v4_z) (by omega) (by omega)) (by decide) (fun v14 h14 hq14 => ?_)
                obtain ⟨I14, g14, y14, w14, r14⟩ := hq14
                subst w14
                have f14 := fr_tr (F1 := F_X3_goOn) (F := F_X3_find) f13 g14 (by decide)
                rw [show t4_z.toInt.toNat = z.toInt.toNat by omega, show (on6 z.toInt.toNat (pq_n h13 70)) = (on6 z.toInt.toNat (pq_n h4 70)) from pq_on (fun q => g13 70 q rfl)] at r14
                rcases r14 with ⟨x14, n14_⟩ | ⟨x14, n14_⟩
                · subst x14
                  show EvP _ _ _ (67, [(2, .int y6), (4, .int y6), (0, .ref 84), (1, .ref (16 + s)), (3, .int v4_3)], [.int 0], h14) _
                  refine tz_ne (p2 := 70) rfl rfl (show Int32.toInt 0 = 0 from rfl) (fun c15 => absurd c15 (by omega)) (fun c15 => ?_)
                  refine te_goto rfl ?_
                  refine te_iload_n (p2 := 80) rfl rfl rfl ?_
                  have E16 := pq_Eta w4_0 r6 (by omega) n14_ (fd2 := rv h14 69) (fun q hq => (pq_rq (g14 69 q rfl)).trans (K13 q hq))
                  exact te_iret rfl rfl ⟨I14, f14, _, rfl, E16.1, (fun q _ => by (by_cases hq : q < z.toInt.toNat); (· rw [if_pos hq]; exact E16.2 q hq); (· rw [if_neg hq]; exact (pq_rq (g14 69 q rfl)).trans (M13 q hq))), (((g14 _ _ (by decide)).trans ((g13 _ _ (by decide)).trans v4_z)).trans (congrArg (fun t => some (Value.int t)) (i32_ext (by omega) : t4_z = z)))⟩
                · subst x14
                  show EvP _ _ _ (67, [(2, .int y6), (4, .int y6), (0, .ref 84), (1, .ref (16 + s)), (3, .int v4_3)], [.int 1], h14) _
                  refine tz_ne (p2 := 70) rfl rfl (show Int32.toInt 1 = 1 from rfl) (fun c17 => ?_) (fun c17 => absurd c17 (by omega))
                  refine ar_inc (p2 := 76) (x := v4_3) rfl rfl (by decide) rfl (by decide) rfl (by omega) (by omega) (fun z18 e18 f18 => ?_)
                  show EvP _ _ _ (76, [(3, .int z18), (2, .int y6), (4, .int y6), (0, .ref 84), (1, .ref (16 + s))], [], h14) _
                  refine te_goto rfl ?_
                  refine te_lv [(0, .ref 84), (1, .ref (16 + s)), (2, .int y6), (3, .int z18)] rfl rfl ⟨rfl, rfl, rfl, rfl, trivial⟩ ?_
                  exact ih4 y6 z18 t4_z h14 I14 f14 (by omega) (by omega) (by omega) (by omega) ((g14 _ _ (by decide)).trans ((g13 _ _ (by decide)).trans v4_z)) (by omega) (by omega) (by omega) (by (obtain ⟨f2, ef, q⟩ := pq_Ita w4_0 r6 (by omega) n14_ (fd2 := rv h14 69) (fun q hq => (pq_rq (g14 69 q rfl)).trans (K13 q hq))); rw [show 720 - z18.toInt.toNat = f2 by omega]; exact q) (fun q hq => (pq_rq (g14 69 q rfl)).trans (M13 q hq)) (by omega)
        refine te_lv [(0, .ref 84), (1, .ref (16 + s)), (2, .int 7), (3, .int 0)] rfl rfl ⟨rfl, rfl, rfl, rfl, trivial⟩ ?_
        exact lp4 721 7 0 t2_z h2 I2 f2 (by decide) (by decide) (by decide) (by decide) v2_z (by omega) (by omega) (by have cc0 := (show Int32.toInt 7 = 7 from rfl); have cc1 := (show Int32.toInt 0 = 0 from rfl); omega) (pq_I0 (by omega) (by omega) (by decide) (on6_c (fun q hq => w2_0 q (by omega))) (by decide)) (fun q _ => w2_1 q) (by have cc0 := (show Int32.toInt 7 = 7 from rfl); have cc1 := (show Int32.toInt 0 = 0 from rfl); omega)
      · refine te_aload_n (p2 := 22) rfl rfl rfl ?_
        refine tg_r (p2 := 25) (i := 68) (r := 86) rfl rfl I2 rfl rfl rfl ?_
        refine te_iload_n (p2 := 26) rfl rfl rfl ?_
        refine te_iload_n (p2 := 27) rfl rfl rfl ?_
        refine ts_i (p2 := 28) (i := 70) (n := 6) rfl rfl I2 rfl rfl rfl rfl (by omega) (by omega) (by omega) (by omega) (by omega) rfl (fun h19 I19 u19 => ?_)
        have f19 := fr_st (F := F_X3_find) 2 f2 u19 rfl (by omega) (by omega)
        refine ar_inc (p2 := 31) (x := v2_3) rfl rfl (by decide) rfl (by decide) rfl (by omega) (by omega) (fun z20 e20 f20 => ?_)
        show EvP _ _ _ (31, [(3, .int z20), (0, .ref 84), (1, .ref (16 + s)), (2, .int 7)], [], h19) _
        refine te_goto rfl ?_
        refine te_lv [(0, .ref 84), (1, .ref (16 + s)), (2, .int 7), (3, .int z20)] rfl rfl ⟨rfl, rfl, rfl, rfl, trivial⟩ ?_
        exact ih2 z20 t2_z h19 I19 f19 (by omega) (by omega) ((u19.2 _ _ (Or.inl (by decide))).trans v2_z) (by omega) (by omega) (by have cc0 := (show Int32.toInt 7 = 7 from rfl); omega) (by have cc0 := (show Int32.toInt 7 = 7 from rfl); omega) (fun q hq => by (by_cases hc : q = v2_3.toInt.toNat); (· rw [hc]; exact pq_of u19.1); (· exact (pq_k (u19.2 _ _ (Or.inr hc))).trans (w2_0 q (by omega)))) (fun q => (rv_ni u19 (Or.inl (by decide))).trans (w2_1 q)) (by have cc0 := (show Int32.toInt 7 = 7 from rfl); omega)
  refine te_lv [(0, .ref 84), (1, .ref (16 + s)), (2, .int 7), (3, .int 0)] rfl rfl ⟨rfl, rfl, rfl, rfl, trivial⟩ ?_
  exact lp2 7 0 z h1 I1 f1 (by decide) (by decide) u1.1 (by omega) (by omega) (by have cc0 := (show Int32.toInt 7 = 7 from rfl); have cc1 := (show Int32.toInt 0 = 0 from rfl); omega) (by have cc0 := (show Int32.toInt 7 = 7 from rfl); have cc1 := (show Int32.toInt 0 = 0 from rfl); omega) (fun q hq => absurd hq (show ¬ q < (Int32.toInt 0).toNat from Nat.not_lt_zero q)) (fun q => rv_ni u1 (Or.inl (by decide))) (by have cc0 := (show Int32.toInt 7 = 7 from rfl); have cc1 := (show Int32.toInt 0 = 0 from rfl); omega)
abbrev Q1_pulls (x1 : Int32) (y : Int32) (h h2 : im_H) : Prop := pul_Q (pul_f x1 (rv h (140 + 2 * x1.toInt.toNat) 0) (rv h (140 + 2 * x1.toInt.toNat) 1) (vl h (141 + 2 * x1.toInt.toNat) 0) (cX h) (absX h 23)) (rv h (140 + 2 * x1.toInt.toNat) 1) (vl h (141 + 2 * x1.toInt.toNat) 0) y (rv h 68 0) (rv h2 68 0) (rv h 69) (rv h2 69)
set_option maxRecDepth 20000 in
set_option maxHeartbeats 4000000 in
theorem c_X11_pulls {x1 : Int32} {h : im_H} (hI : tI h)  : CaP 4 85 [.ref 16, .int x1] h (fun v h2 => tI h2 ∧ fr F_X11_pulls h h2 ∧ ∃ y : Int32, v = some (.int y) ∧ Q1_pulls x1 y h h2) := by
  refine cap_of (d := 3) (M := mX11_pulls) rfl (Nat.le_of_ble_eq_true rfl) ?_
  show EvP im_K0 3 mX11_pulls (0, [(0, .ref 16), (1, .int x1)], [], h) _
  have f0 : fr F_X11_pulls h h := fr_rf
  refine te_iload_n (p2 := 1) rfl rfl rfl ?_
  refine te_iconst (p2 := 2) (x := 4) rfl rfl (by decide) ?_
  refine cS_pI (p2 := 5) rfl rfl rfl rfl (t_X11_within (n := x1) (b := 4) hI ) (by decide) (fun y1 r1 => ?_)
  rcases r1 with ⟨w1, c1⟩ | ⟨w1, c1⟩
  · subst w1
    have cc1_1 := (show Int32.toInt 4 = 4 from rfl)
    refine tz_ne (p2 := 8) rfl rfl (show Int32.toInt 1 = 1 from rfl) (fun c2 => ?_) (fun c2 => absurd c2 (by omega))
    refine te_aload_n (p2 := 11) rfl rfl rfl ?_
    refine tg_r (p2 := 14) (i := 0) (r := 113) rfl rfl hI rfl rfl rfl ?_
    refine te_iload_n (p2 := 15) rfl rfl rfl ?_
    refine tl_f (p2 := 16) (i := 97) (n := 4) (c0 := 140) (sp := 2) rfl rfl hI rfl rfl (by decide) rq_97 (by omega) (by omega) (fun o3 w3 => ?_)
    have q3 : o3 = 140 ∨ o3 = 142 ∨ o3 = 144 ∨ o3 = 146 := by omega
    refine te_astore_n (p2 := 17) (lv2 := [(2, .ref (16 + o3)), (0, .ref 16), (1, .int x1)]) rfl rfl (by decide) rfl ?_
    obtain ⟨v4, e4, y4, w4, a4, b4, _⟩ := hI.2.1 o3 0 (.inl ((-1), 2, 9999999999)) (by rcases q3 with rfl | rfl | rfl | rfl <;> rfl)
    subst w4
    obtain ⟨v5, e5, y5, w5, a5, b5, _⟩ := hI.2.1 o3 1 (.inl (0, 40, 9999999999)) (by rcases q3 with rfl | rfl | rfl | rfl <;> rfl)
    subst w5
    refine te_aload_n (p2 := 18) rfl rfl rfl ?_
    refine cV_pI (p2 := 21) (i := o3) rfl rfl rfl rfl hI rfl (by rcases q3 with rfl | rfl | rfl | rfl <;> rfl) rfl (c_X8_isMissing (s := o3) hI q3) (by decide) (fun y6 r6 => ?_)
    obtain ⟨p6, e6, r6⟩ := r6
    rcases r6 with ⟨w6_, c6⟩ | ⟨w6_, c6⟩
    · subst w6_
      refine tz_eq (p2 := 24) rfl rfl (show Int32.toInt 1 = 1 from rfl) (fun c7 => absurd c7 (by omega)) (fun c7 => ?_)
      refine te_bipush (p2 := 26) (x := (-11)) rfl rfl (by decide) ?_
      exact te_iret rfl rfl ⟨hI, f0, _, rfl, pul_2 (by omega) (by rw [(show rv h (140 + 2 * x1.toInt.toNat) 0 = p6 from (by rw [show 140 + 2 * x1.toInt.toNat = o3 by omega]; exact rv_of e6))]; omega) rfl rfl (fun _ _ => rfl)⟩
    · subst w6_
      refine tz_eq (p2 := 24) rfl rfl (show Int32.toInt 0 = 0 from rfl) (fun c8 => ?_) (fun c8 => absurd c8 (by omega))
      refine te_aload_n (p2 := 28) rfl rfl rfl ?_
      refine tg_e (p2 := 31) (i := o3) (v := .int y5) rfl rfl hI rfl (by rcases q3 with rfl | rfl | rfl | rfl <;> rfl) e5 ?_
      refine te_iconst (p2 := 32) (x := 1) rfl rfl (by decide) ?_
      refine te_bipush (p2 := 34) (x := 6) rfl rfl (by decide) ?_
      refine cS_pI (p2 := 37) rfl rfl rfl rfl (t_X11_between (n := y5) (a := 1) (b := 6) hI ) (by decide) (fun y9 r9 => ?_)
      rcases r9 with ⟨w9, c9⟩ | ⟨w9, c9⟩
      · subst w9
        have cc9_1 := (show Int32.toInt 1 = 1 from rfl)
        have cc9_2 := (show Int32.toInt 6 = 6 from rfl)
        refine tz_eq (p2 := 40) rfl rfl (show Int32.toInt 1 = 1 from rfl) (fun c10 => absurd c10 (by omega)) (fun c10 => ?_)
        refine te_aload_n (p2 := 41) rfl rfl rfl ?_
        refine te_aload_n (p2 := 42) rfl rfl rfl ?_
        refine cV_pI (p2 := 45) (i := 0) rfl rfl rfl rfl hI rfl rfl rfl (c_X11_areWallsToPull (s := o3) hI q3) (by decide) (fun y11 r11 => ?_)
        obtain ⟨r11, gq11⟩ := r11
        rcases r11 with r11 | ⟨r11, p11, e11, a11, b11, w11⟩
        · have gn11 := (gq11.resolve_left (fun q => absurd q.1 (by omega))).2
          refine tz_ne (p2 := 48) rfl rfl rfl (fun c12 => absurd c12 (by omega)) (fun c12 => ?_)
          refine te_bipush (p2 := 50) (x := (-2)) rfl rfl (by decide) ?_
          exact te_iret rfl rfl ⟨hI, f0, _, rfl, pul_3 (by omega) (by rw [(show rv h (140 + 2 * x1.toInt.toNat) 0 = p6 from (by rw [show 140 + 2 * x1.toInt.toNat = o3 by omega]; exact rv_of e6))]; omega) (fun q => gn11 (by (have h9 := q.2); rw [(show 141 + 2 * x1.toInt.toNat = o3 + 1 by omega), (show rv h (140 + 2 * x1.toInt.toNat) 1 = y5 from (by rw [show 140 + 2 * x1.toInt.toNat = o3 by omega]; exact rv_of e5))] at h9; rw [rv_of e5]; exact h9)) rfl rfl (fun _ _ => rfl)⟩
        · have x11 : p11 = y5 := int_inj e11 e5
          rw [x11] at w11
          have gy11 := (gq11.resolve_right (fun q => absurd q.1 (by omega))).2
          refine tz_ne (p2 := 48) rfl rfl rfl (fun c13 => ?_) (fun c13 => absurd c13 (by omega))
          refine te_iconst (p2 := 52) (x := 0) rfl rfl (by decide) ?_
          refine te_istore_n (p2 := 53) (lv2 := [(3, .int 0), (2, .ref (16 + o3)), (0, .ref 16), (1, .int x1)]) rfl rfl (by decide) rfl ?_
          have lp14 : ∀ (n14 : Nat) (v14_3 : Int32) (h14 : im_H), tI h14 → fr F_X11_pulls h h14 → 0 ≤ v14_3.toInt → v14_3.toInt ≤ 6 → v14_3.toInt ≤ y5.toInt → (∀ q : Nat, q < v14_3.toInt.toNat → ∀ m : Nat, m ≤ 6 → ((rv h14 71 q).toInt ≤ (m : Int) ↔ pq_fl (cX h) (absX h 23) (vl h (o3 + 1) 0) q m)) → (∀ j k : Nat, j ≠ 71 → rd h14 j k = rd h j k) → 6 - v14_3.toInt < (n14 : Int) → EvP im_K0 3 mX11_pulls (53, [(0, .ref 16), (1, .int x1), (2, .ref (16 + o3)), (3, .int v14_3)], [], h14) (fun v h2 => tI h2 ∧ fr F_X11_pulls h h2 ∧ ∃ y : Int32, v = some (.int y) ∧ Q1_pulls x1 y h h2) := by
            intro n14
            induction n14 with
            | zero => intro v14_3 h14 I14 f14 a14_3 b14_3 l14_0 w14_0 w14_1 m14; exfalso; omega
            | succ n14 ih14 =>
              intro v14_3 h14 I14 f14 a14_3 b14_3 l14_0 w14_0 w14_1 m14
              refine te_iload_n (p2 := 54) rfl rfl rfl ?_
              refine te_aload_n (p2 := 55) rfl rfl rfl ?_
              refine tg_e (p2 := 58) (i := o3) (v := .int y5) rfl rfl I14 rfl (by rcases q3 with rfl | rfl | rfl | rfl <;> rfl) ((f14 _ _ (by rcases q3 with rfl | rfl | rfl | rfl <;> rfl)).trans e5) ?_
              refine tb_ge (p2 := 61) rfl rfl rfl rfl (fun c15 => ?_) (fun c15 => ?_)
              · refine te_aload_n (p2 := 94) rfl rfl rfl ?_
                refine tg_r (p2 := 97) (i := 0) (r := 84) rfl rfl I14 rfl rfl rfl ?_
                refine te_aload_n (p2 := 98) rfl rfl rfl ?_
                refine tc_V (p2 := 101) (i := 68) rfl rfl rfl rfl I14 rfl rfl rfl (c_X3_find (s := o3) (z := y5) I14 q3 ((f14 _ _ (by rcases q3 with rfl | rfl | rfl | rfl <;> rfl)).trans e5) (by omega) (by omega)) (by decide) (fun v16 h16 hq16 => ?_)
                obtain ⟨I16, g16, y16, w16, qa16, qb16, qc16⟩ := hq16
                subst w16
                have f16 := fr_tr (F1 := F_X3_find) (F := F_X11_pulls) f14 g16 (by decide)
                have tq16 : pq_t (fun j m => (rv h14 71 j).toInt ≤ (m : Int)) y5.toInt.toNat = pq_t (pq_fl (cX h) (absX h 23) (vl h (o3 + 1) 0)) y5.toInt.toNat := pq_tc (by omega) (by omega) (fun j m hj hm => w14_0 j (by omega) m (by omega))
                show EvP _ _ _ (101, [(0, .ref 16), (1, .int x1), (2, .ref (16 + o3)), (3, .int v14_3)], [.int y16], h16) _
                exact te_iret rfl rfl ⟨I16, f16, _, rfl, pul_4 (by omega) (by rw [(show rv h (140 + 2 * x1.toInt.toNat) 0 = p6 from (by rw [show 140 + 2 * x1.toInt.toNat = o3 by omega]; exact rv_of e6))]; omega) (by (have h9 := gy11); rw [rv_of e5] at h9; rw [(show 141 + 2 * x1.toInt.toNat = o3 + 1 by omega), (show rv h (140 + 2 * x1.toInt.toNat) 1 = y5 from (by rw [show 140 + 2 * x1.toInt.toNat = o3 by omega]; exact rv_of e5))]; exact ⟨⟨by omega, by omega⟩, h9⟩) (T := pq_t (fun j m => (rv h14 71 j).toInt ≤ (m : Int)) y5.toInt.toNat) (by rw [(show 141 + 2 * x1.toInt.toNat = o3 + 1 by omega), (show rv h (140 + 2 * x1.toInt.toNat) 1 = y5 from (by rw [show 140 + 2 * x1.toInt.toNat = o3 by omega]; exact rv_of e5))]; exact tq16) qa16 ((rv_of qc16).trans ((show rv h (140 + 2 * x1.toInt.toNat) 1 = y5 from (by rw [show 140 + 2 * x1.toInt.toNat = o3 by omega]; exact rv_of e5))).symm) (fun q h6 => by rw [(show 141 + 2 * x1.toInt.toNat = o3 + 1 by omega), (show rv h (140 + 2 * x1.toInt.toNat) 1 = y5 from (by rw [show 140 + 2 * x1.toInt.toNat = o3 by omega]; exact rv_of e5)), qb16 q h6, show vl h14 (o3 + 1) 0 = vl h (o3 + 1) 0 from pq_vl (fun q => w14_1 _ _ (by omega)), show rv h14 69 q = rv h 69 q from pq_rq (w14_1 69 q (by decide))])⟩
              · refine te_aload_n (p2 := 62) rfl rfl rfl ?_
                refine tg_r (p2 := 65) (i := 0) (r := 84) rfl rfl I14 rfl rfl rfl ?_
                refine tg_r (p2 := 68) (i := 68) (r := 87) rfl rfl I14 rfl rfl rfl ?_
                refine te_iload_n (p2 := 69) rfl rfl rfl ?_
                refine te_aload_n (p2 := 70) rfl rfl rfl ?_
                refine tg_r (p2 := 73) (i := 0) (r := 17) rfl rfl I14 rfl rfl rfl ?_
                refine te_aload_n (p2 := 74) rfl rfl rfl ?_
                refine tg_r (p2 := 77) (i := 0) (r := 39) rfl rfl I14 rfl rfl rfl ?_
                refine te_aload_n (p2 := 78) rfl rfl rfl ?_
                refine tg_r (p2 := 81) (i := o3) (r := (16 + (o3 + 1))) rfl rfl I14 rfl (by rcases q3 with rfl | rfl | rfl | rfl <;> rfl) (by rcases q3 with rfl | rfl | rfl | rfl <;> rfl) ?_
                refine te_iload_n (p2 := 82) rfl rfl rfl ?_
                refine tl_i (p2 := 83) (i := (o3 + 1)) (n := 40) rfl rfl I14 rfl (by rcases q3 with rfl | rfl | rfl | rfl <;> rfl) (by rcases q3 with rfl | rfl | rfl | rfl <;> rfl) rfl (by omega) (by omega) (fun y17 a17 b17 g17 e17 => ?_)
                obtain ⟨a18, b18⟩ := allB_at (allB_fr w11 (fun q => f14 _ _ (by rcases q3 with rfl | rfl | rfl | rfl <;> rfl))) v14_3.toInt.toNat (by omega) (by rw [Nat.zero_add]) e17
                refine cV_pI (p2 := 86) (i := 1) rfl rfl rfl rfl I14 rfl rfl rfl (c_X0_daysUntilFall (s := 23) (k := y17) I14 (by decide) (by omega) (by omega)) (by decide) (fun y19 r19 => ?_)
                obtain ⟨⟨a19, b19⟩, r19⟩ := r19
                refine ts_i (p2 := 87) (i := 71) (n := 6) rfl rfl I14 rfl rfl rfl rfl (by omega) (by omega) (i32_lo _) (i32_hi _) (i32_ho _) rfl (fun h20 I20 u20 => ?_)
                have f20 := fr_st (F := F_X11_pulls) 3 f14 u20 rfl (by omega) (by omega)
                refine ar_inc (p2 := 90) (x := v14_3) rfl rfl (by decide) rfl (by decide) rfl (by omega) (by omega) (fun z21 e21 f21 => ?_)
                show EvP _ _ _ (90, [(3, .int z21), (0, .ref 16), (1, .int x1), (2, .ref (16 + o3))], [], h20) _
                refine te_goto rfl ?_
                refine te_lv [(0, .ref 16), (1, .int x1), (2, .ref (16 + o3)), (3, .int z21)] rfl rfl ⟨rfl, rfl, rfl, rfl, trivial⟩ ?_
                exact ih14 z21 h20 I20 f20 (by omega) (by omega) (by omega) (fun q hq m hm => by (by_cases hc : q = v14_3.toInt.toNat); (· rw [hc, rv_of u20.1]; exact (r19 m hm).trans (pq_flX hI w14_1 (show (vl h (o3 + 1) 0) v14_3.toInt.toNat = y17 from vl_of (c := o3 + 1) (o := 0) (i := v14_3.toInt.toNat) (by omega) (by rw [Nat.zero_add]; exact (w14_1 _ _ (by omega)).symm.trans e17)) (by omega) (by omega))); (· rw [rv_ni u20 (Or.inr hc)]; exact w14_0 q (by omega) m hm)) (fun j k hj => (u20.2 _ _ (Or.inl hj)).trans (w14_1 j k hj)) (by omega)
          refine te_lv [(0, .ref 16), (1, .int x1), (2, .ref (16 + o3)), (3, .int 0)] rfl rfl ⟨rfl, rfl, rfl, rfl, trivial⟩ ?_
          exact lp14 7 0 h hI f0 (by decide) (by decide) (by have cc0 := (show Int32.toInt 0 = 0 from rfl); omega) (fun q hq => absurd hq (show ¬ q < (Int32.toInt 0).toNat from Nat.not_lt_zero q)) (fun _ _ _ => rfl) (by have cc0 := (show Int32.toInt 0 = 0 from rfl); omega)
      · subst w9
        have cc9_1 := (show Int32.toInt 1 = 1 from rfl)
        have cc9_2 := (show Int32.toInt 6 = 6 from rfl)
        refine tz_eq (p2 := 40) rfl rfl (show Int32.toInt 0 = 0 from rfl) (fun c22 => ?_) (fun c22 => absurd c22 (by omega))
        refine te_bipush (p2 := 50) (x := (-2)) rfl rfl (by decide) ?_
        exact te_iret rfl rfl ⟨hI, f0, _, rfl, pul_3 (by omega) (by rw [(show rv h (140 + 2 * x1.toInt.toNat) 0 = p6 from (by rw [show 140 + 2 * x1.toInt.toNat = o3 by omega]; exact rv_of e6))]; omega) (fun q => absurd q.1 (by rw [(show rv h (140 + 2 * x1.toInt.toNat) 1 = y5 from (by rw [show 140 + 2 * x1.toInt.toNat = o3 by omega]; exact rv_of e5))]; omega)) rfl rfl (fun _ _ => rfl)⟩
  · subst w1
    have cc1_1 := (show Int32.toInt 4 = 4 from rfl)
    refine tz_ne (p2 := 8) rfl rfl (show Int32.toInt 0 = 0 from rfl) (fun c23 => absurd c23 (by omega)) (fun c23 => ?_)
    refine te_iconst (p2 := 9) (x := (-1)) rfl rfl (by decide) ?_
    exact te_iret rfl rfl ⟨hI, f0, _, rfl, pul_1 (by omega) rfl rfl (fun _ _ => rfl)⟩
