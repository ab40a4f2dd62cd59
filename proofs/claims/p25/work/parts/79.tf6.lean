theorem pq_tM {h : im_H} {s N : Nat} (hI : tI h) (T : tabM h) (hs : s ≤ 3) (h0 : 1 ≤ N) (h6 : N ≤ 6) (G : pq_g (cM h) (absM h) (vl h 194 (40 * s)) N) (hw : (cM h).nw.toInt ≤ 16) : pq_t (pq_flW h s) N = pq_t (pq_fl (cM h) (absM h) (vl h 194 (40 * s))) N :=
  pq_tc h0 h6 (fun j m hj hm => by
    have e := pq_vr hI (show j < 40 by omega) hs
    have r := (G j hj).1
    rw [e] at r
    exact pq_flM hI T e (by omega) (by omega))
abbrev D2_pulls (x1 : Int32) (y : Int32) (h h2 : im_H) : Prop := (∀ j : Nat, rd h2 149 j = rd h 149 j) ∧ pul_Q (pul_f x1 (rv h 192 x1.toInt.toNat) (rv h 193 x1.toInt.toNat) (vl h 194 (40 * x1.toInt.toNat)) (cM h) (absM h)) (rv h 193 x1.toInt.toNat) (vl h 194 (40 * x1.toInt.toNat)) y (rv h 148 41) (rv h2 148 41) (rv h 183) (rv h2 183)
abbrev Q2_pulls (x1 : Int32) (y : Int32) (h h2 : im_H) : Prop := tabM h → D2_pulls x1 y h h2
set_option maxRecDepth 20000 in
set_option maxHeartbeats 4000000 in
theorem d_X12_pulls {x1 : Int32} {h : im_H} (hI : tI h) (pr0 : tabM h) : CaP 5 168 [.ref 164, .int x1] h (fun v h2 => tI h2 ∧ fr F_X12_pulls h h2 ∧ ∃ y : Int32, v = some (.int y) ∧ D2_pulls x1 y h h2) := by
  refine cap_of (d := 4) (M := mX12_pulls) rfl (Nat.le_of_ble_eq_true rfl) ?_
  show EvP im_K0 4 mX12_pulls (0, [(0, .ref 164), (1, .int x1)], [], h) _
  have f0 : fr F_X12_pulls h h := fr_rf
  refine te_iload_n (p2 := 1) rfl rfl rfl ?_
  obtain ⟨v1, e1, y1, w1, a1, b1, _⟩ := hI.2.1 148 21 (.inl (0, 16, 9999999999)) rfl
  subst w1
  have hnw : (cM h).nw.toInt ≤ 16 := by (rw [show (cM h).nw = y1 from rv_of e1]; omega)
  refine te_iconst (p2 := 2) (x := 0) rfl rfl (by decide) ?_
  refine te_iconst (p2 := 3) (x := 3) rfl rfl (by decide) ?_
  refine cS_pI (p2 := 6) rfl rfl rfl rfl (t_X12_in (n := x1) (a := 0) (b := 3) hI ) (by decide) (fun y2 r2 => ?_)
  rcases r2 with ⟨w2, c2⟩ | ⟨w2, c2⟩
  · subst w2
    have cc2_1 := (show Int32.toInt 0 = 0 from rfl)
    have cc2_2 := (show Int32.toInt 3 = 3 from rfl)
    refine tz_ne (p2 := 9) rfl rfl (show Int32.toInt 1 = 1 from rfl) (fun c3 => ?_) (fun c3 => absurd c3 (by omega))
    refine te_aload_n (p2 := 12) rfl rfl rfl ?_
    refine tg_r (p2 := 15) (i := 148) (r := 208) rfl rfl hI rfl rfl rfl ?_
    refine te_iload_n (p2 := 16) rfl rfl rfl ?_
    refine tl_i (p2 := 17) (i := 192) (n := 4) rfl rfl hI rfl rfl rfl rfl (by omega) (by omega) (fun y4 a4 b4 g4 e4 => ?_)
    refine te_iconst (p2 := 18) (x := (-1)) rfl rfl (by decide) ?_
    refine tb_ne (p2 := 21) rfl rfl rfl (show Int32.toInt (-1) = (-1) from rfl) (fun c5 => ?_) (fun c5 => ?_)
    · refine te_aload_n (p2 := 25) rfl rfl rfl ?_
      refine tg_r (p2 := 28) (i := 148) (r := 209) rfl rfl hI rfl rfl rfl ?_
      refine te_iload_n (p2 := 29) rfl rfl rfl ?_
      refine tl_i (p2 := 30) (i := 193) (n := 4) rfl rfl hI rfl rfl rfl rfl (by omega) (by omega) (fun y6 a6 b6 g6 e6 => ?_)
      refine te_istore_n (p2 := 31) (lv2 := [(2, .int y6), (0, .ref 164), (1, .int x1)]) rfl rfl (by decide) rfl ?_
      refine te_iconst (p2 := 32) (x := 0) rfl rfl (by decide) ?_
      refine te_istore_n (p2 := 33) (lv2 := [(3, .int 0), (2, .int y6), (0, .ref 164), (1, .int x1)]) rfl rfl (by decide) rfl ?_
      refine te_iload_n (p2 := 34) rfl rfl rfl ?_
      refine te_iconst (p2 := 35) (x := 1) rfl rfl (by decide) ?_
      refine te_bipush (p2 := 37) (x := 6) rfl rfl (by decide) ?_
      refine cS_pI (p2 := 40) rfl rfl rfl rfl (t_X12_in (n := y6) (a := 1) (b := 6) hI ) (by decide) (fun y7 r7 => ?_)
      rcases r7 with ⟨w7, c7⟩ | ⟨w7, c7⟩
      · subst w7
        have cc7_1 := (show Int32.toInt 1 = 1 from rfl)
        have cc7_2 := (show Int32.toInt 6 = 6 from rfl)
        refine te_istore (p2 := 42) (lv2 := [(4, .int 1), (3, .int 0), (2, .int y6), (0, .ref 164), (1, .int x1)]) rfl rfl (by decide) rfl ?_
        refine te_iconst (p2 := 43) (x := 0) rfl rfl (by decide) ?_
        refine te_istore (p2 := 45) (lv2 := [(5, .int 0), (4, .int 1), (3, .int 0), (2, .int y6), (0, .ref 164), (1, .int x1)]) rfl rfl (by decide) rfl ?_
        have lp8 : ∀ (n8 : Nat) (v8_3 v8_4 v8_5 : Int32) , 0 ≤ v8_4.toInt → v8_4.toInt ≤ 1 → 0 ≤ v8_5.toInt → v8_5.toInt ≤ 40 → v8_5.toInt ≤ y6.toInt → (v8_4.toInt = 1 → allB h 194 (40 * x1.toInt.toNat) v8_5.toInt 15) → (v8_4.toInt = 1 → allB h 194 (40 * x1.toInt.toNat) v8_5.toInt (y1.toInt - 1)) → ((v8_4.toInt = 1 → pq_g (cM h) (absM h) (vl h 194 (40 * x1.toInt.toNat)) v8_5.toInt.toNat ∧ pq_m (vl h 194 (40 * x1.toInt.toNat)) v8_3 v8_5.toInt.toNat) ∧ (v8_4.toInt = 0 → ¬ pq_g (cM h) (absM h) (vl h 194 (40 * x1.toInt.toNat)) y6.toInt.toNat)) → 40 - v8_5.toInt < (n8 : Int) → EvP im_K0 4 mX12_pulls (45, [(0, .ref 164), (1, .int x1), (2, .int y6), (3, .int v8_3), (4, .int v8_4), (5, .int v8_5)], [], h) (fun v h2 => tI h2 ∧ fr F_X12_pulls h h2 ∧ ∃ y : Int32, v = some (.int y) ∧ D2_pulls x1 y h h2) := by
          intro n8
          induction n8 with
          | zero => intro v8_3 v8_4 v8_5 a8_4 b8_4 a8_5 b8_5 l8_0 w8_0 w8_1 w8_2 m8; exfalso; omega
          | succ n8 ih8 =>
            intro v8_3 v8_4 v8_5 a8_4 b8_4 a8_5 b8_5 l8_0 w8_0 w8_1 w8_2 m8
            refine te_iload (p2 := 47) rfl rfl rfl ?_
            refine te_iload_n (p2 := 48) rfl rfl rfl ?_
            refine tb_ge (p2 := 51) rfl rfl rfl rfl (fun c9 => ?_) (fun c9 => ?_)
            · refine te_iload (p2 := 146) rfl rfl rfl ?_
              refine tz_ne (p2 := 149) rfl rfl rfl (fun c10 => ?_) (fun c10 => ?_)
              · refine te_iconst (p2 := 153) (x := 0) rfl rfl (by decide) ?_
                have G45 : pq_g (cM h) (absM h) (vl h 194 (40 * x1.toInt.toNat)) y6.toInt.toNat := by (have h9 := (w8_2.1 (by omega)).1; rw [show v8_5.toInt.toNat = y6.toInt.toNat by omega] at h9; exact h9)
                refine te_istore (p2 := 155) (lv2 := [(5, .int 0), (0, .ref 164), (1, .int x1), (2, .int y6), (3, .int v8_3), (4, .int v8_4)]) rfl rfl (by decide) rfl ?_
                have lp11 : ∀ (n11 : Nat) (v11_5 : Int32) (h11 : im_H), tI h11 → fr F_X12_pulls h h11 → 0 ≤ v11_5.toInt → v11_5.toInt ≤ 6 → v11_5.toInt ≤ y6.toInt → (∀ q : Nat, (q : Int) < v11_5.toInt → ∃ p : Int32, rd h11 199 q = some (.int p) ∧ p.toInt = q) → (∀ j k : Nat, j ≠ 199 → rd h11 j k = rd h j k) → 6 - v11_5.toInt < (n11 : Int) → EvP im_K0 4 mX12_pulls (155, [(0, .ref 164), (1, .int x1), (2, .int y6), (3, .int v8_3), (4, .int v8_4), (5, .int v11_5)], [], h11) (fun v h2 => tI h2 ∧ fr F_X12_pulls h h2 ∧ ∃ y : Int32, v = some (.int y) ∧ D2_pulls x1 y h h2) := by
                  intro n11
                  induction n11 with
                  | zero => intro v11_5 h11 I11 f11 a11_5 b11_5 l11_0 w11_0 w11_1 m11; exfalso; omega
                  | succ n11 ih11 =>
                    intro v11_5 h11 I11 f11 a11_5 b11_5 l11_0 w11_0 w11_1 m11
                    refine te_iload (p2 := 157) rfl rfl rfl ?_
                    refine te_iload_n (p2 := 158) rfl rfl rfl ?_
                    refine tb_ge (p2 := 161) rfl rfl rfl rfl (fun c12 => ?_) (fun c12 => ?_)
                    · refine te_iconst (p2 := 177) (x := (-1)) rfl rfl (by decide) ?_
                      refine te_istore (p2 := 179) (lv2 := [(5, .int (-1)), (0, .ref 164), (1, .int x1), (2, .int y6), (3, .int v8_3), (4, .int v8_4)]) rfl rfl (by decide) rfl ?_
                      refine te_iconst (p2 := 180) (x := 1) rfl rfl (by decide) ?_
                      refine te_istore (p2 := 182) (lv2 := [(6, .int 1), (5, .int (-1)), (0, .ref 164), (1, .int x1), (2, .int y6), (3, .int v8_3), (4, .int v8_4)]) rfl rfl (by decide) rfl ?_
                      obtain ⟨v14, e14, y14, w14, a14, b14, _⟩ := I11.2.1 199 (Int32.toInt 0).toNat (.inl (0, 5, 9999999999)) (tq_row rfl (by decide))
                      subst w14
                      obtain ⟨v15, e15, y15, w15, a15, b15, _⟩ := I11.2.1 199 (Int32.toInt 1).toNat (.inl (0, 5, 9999999999)) (tq_row rfl (by decide))
                      subst w15
                      obtain ⟨v16, e16, y16, w16, a16, b16, _⟩ := I11.2.1 199 (Int32.toInt 2).toNat (.inl (0, 5, 9999999999)) (tq_row rfl (by decide))
                      subst w16
                      obtain ⟨v17, e17, y17, w17, a17, b17, _⟩ := I11.2.1 199 (Int32.toInt 3).toNat (.inl (0, 5, 9999999999)) (tq_row rfl (by decide))
                      subst w17
                      obtain ⟨v18, e18, y18, w18, a18, b18, _⟩ := I11.2.1 199 (Int32.toInt 4).toNat (.inl (0, 5, 9999999999)) (tq_row rfl (by decide))
                      subst w18
                      obtain ⟨v19, e19, y19, w19, a19, b19, _⟩ := I11.2.1 199 (Int32.toInt 5).toNat (.inl (0, 5, 9999999999)) (tq_row rfl (by decide))
                      subst w19
                      have lp13 : ∀ (n13 : Nat) (v13_5 v13_6 t13_t0 t13_t1 t13_t2 t13_t3 t13_t4 t13_t5 : Int32) (h13 : im_H), tI h13 → fr F_X12_pulls h h13 → (-1) ≤ v13_5.toInt → v13_5.toInt ≤ 6 → 1 ≤ v13_6.toInt → v13_6.toInt ≤ 1 → rd h13 199 (Int32.toInt 0).toNat = some (.int t13_t0) → rd h13 199 (Int32.toInt 1).toNat = some (.int t13_t1) → rd h13 199 (Int32.toInt 2).toNat = some (.int t13_t2) → rd h13 199 (Int32.toInt 3).toNat = some (.int t13_t3) → rd h13 199 (Int32.toInt 4).toNat = some (.int t13_t4) → rd h13 199 (Int32.toInt 5).toNat = some (.int t13_t5) → 0 ≤ t13_t0.toInt → t13_t0.toInt ≤ 5 → 0 ≤ t13_t1.toInt → t13_t1.toInt ≤ 5 → 0 ≤ t13_t2.toInt → t13_t2.toInt ≤ 5 → 0 ≤ t13_t3.toInt → t13_t3.toInt ≤ 5 → 0 ≤ t13_t4.toInt → t13_t4.toInt ≤ 5 → 0 ≤ t13_t5.toInt → t13_t5.toInt ≤ 5 → prm y6.toInt t13_t0.toInt t13_t1.toInt t13_t2.toInt t13_t3.toInt t13_t4.toInt t13_t5.toInt → (∀ j : Nat, rd h13 149 j = rd h 149 j) → (rd h13 148 41 = rd h 148 41) → (∃ fu : Nat, pq_I y6.toInt.toNat (pq_l (pq_flW h x1.toInt.toNat) y6.toInt.toNat) (pq_t (pq_flW h x1.toInt.toNat) y6.toInt.toNat) fu (on6 y6.toInt.toNat (pq_n h13 199)) (pq_b v13_5) (rv h13 183) (vl h 194 (40 * x1.toInt.toNat))) → (∀ q : Nat, ¬ q < y6.toInt.toNat → rv h13 183 q = rv h 183 q) → 46656 - (7776 * t13_t0.toInt + 1296 * t13_t1.toInt + 216 * t13_t2.toInt + 36 * t13_t3.toInt + 6 * t13_t4.toInt + t13_t5.toInt) < (n13 : Int) → EvP im_K0 4 mX12_pulls (182, [(0, .ref 164), (1, .int x1), (2, .int y6), (3, .int v8_3), (4, .int v8_4), (5, .int v13_5), (6, .int v13_6)], [], h13) (fun v h2 => tI h2 ∧ fr F_X12_pulls h h2 ∧ ∃ y : Int32, v = some (.int y) ∧ D2_pulls x1 y h h2) := by
                        intro n13
                        induction n13 with
                        | zero => intro v13_5 v13_6 t13_t0 t13_t1 t13_t2 t13_t3 t13_t4 t13_t5 h13 I13 f13 a13_5 b13_5 a13_6 b13_6 v13_t0 v13_t1 v13_t2 v13_t3 v13_t4 v13_t5 va13_t0 vb13_t0 va13_t1 vb13_t1 va13_t2 vb13_t2 va13_t3 vb13_t3 va13_t4 vb13_t4 va13_t5 vb13_t5 w13_0 w13_1 w13_2 w13_3 w13_4 m13; exfalso; omega
                        | succ n13 ih13 =>
                          intro v13_5 v13_6 t13_t0 t13_t1 t13_t2 t13_t3 t13_t4 t13_t5 h13 I13 f13 a13_5 b13_5 a13_6 b13_6 v13_t0 v13_t1 v13_t2 v13_t3 v13_t4 v13_t5 va13_t0 vb13_t0 va13_t1 vb13_t1 va13_t2 vb13_t2 va13_t3 vb13_t3 va13_t4 vb13_t4 va13_t5 vb13_t5 w13_0 w13_1 w13_2 w13_3 w13_4 m13
                          refine te_iload (p2 := 184) rfl rfl rfl ?_
                          refine tz_eq (p2 := 187) rfl rfl rfl (fun c20 => absurd c20 (by omega)) (fun c20 => ?_)
                          refine te_aload_n (p2 := 188) rfl rfl rfl ?_
                          refine te_iload_n (p2 := 189) rfl rfl rfl ?_
                          refine te_iload_n (p2 := 190) rfl rfl rfl ?_
                          have lq21 := pq_lp (h := h) (H := h13) (s := x1.toInt.toNat) (N := y6.toInt.toNat) hI (by omega) (by omega) G45 hnw w13_1 (fun k => f13 194 k rfl) (fun m hm => by (have h9 := pq_prm w13_0 (by omega) v13_t0 v13_t1 v13_t2 v13_t3 v13_t4 v13_t5 m (by omega)); exact ⟨by omega, h9.2⟩)
                          refine tc_V (p2 := 193) (i := 148) rfl rfl rfl rfl I13 rfl rfl rfl (c_X12_late (s := x1) (n := y6) I13 (by omega) (by omega) (by omega) (by omega) (allB_fr (allB_le (w8_0 (by omega)) (by omega)) (fun q => f13 _ _ rfl)) (allB_prm v13_t0 v13_t1 v13_t2 v13_t3 v13_t4 v13_t5 w13_0 (by omega)) (fun w_ e_ => by rw [(int_inj e_ ((f13 _ _ rfl).trans e1) : w_ = y1)]; exact (allB_fr (allB_le (w8_1 (by omega)) (by omega)) (fun q => f13 _ _ rfl))) lq21.1 lq21.2) (by decide) (fun v21 h21 hq21 => ?_)
                          obtain ⟨I21, g21, y21, w21, Q21, ⟨a21, b21⟩, ql21⟩ := hq21
                          subst w21
                          have f21 := fr_tr (F1 := F_X12_late) (F := F_X12_pulls) f13 g21 (by decide)
                          rw [show pq_flW h13 x1.toInt.toNat = pq_flW h x1.toInt.toNat from pq_fW (fun i k hi => by (rcases hi with rfl | rfl | rfl | rfl | rfl); (· exact w13_1 k); (· exact f13 _ _ rfl); (· exact f13 _ _ rfl); (· exact f13 _ _ rfl); (· exact f13 _ _ rfl))] at ql21
                          show EvP _ _ _ (193, [(0, .ref 164), (1, .int x1), (2, .int y6), (3, .int v8_3), (4, .int v8_4), (5, .int v13_5), (6, .int v13_6)], [.int y21], h21) _
                          refine te_istore (p2 := 195) (lv2 := [(7, .int y21), (0, .ref 164), (1, .int x1), (2, .int y6), (3, .int v8_3), (4, .int v8_4), (5, .int v13_5), (6, .int v13_6)]) rfl rfl (by decide) rfl ?_
                          refine te_iload (p2 := 197) rfl rfl rfl ?_
                          refine te_iconst (p2 := 198) (x := (-1)) rfl rfl (by decide) ?_
                          refine tb_eq (p2 := 201) rfl rfl rfl (show Int32.toInt (-1) = (-1) from rfl) (fun c22 => ?_) (fun c22 => ?_)
                          · refine te_iload (p2 := 210) rfl rfl rfl ?_
                            refine te_istore (p2 := 212) (lv2 := [(5, .int y21), (7, .int y21), (0, .ref 164), (1, .int x1), (2, .int y6), (3, .int v8_3), (4, .int v8_4), (6, .int v13_6)]) rfl rfl (by decide) rfl ?_
                            refine te_iconst (p2 := 213) (x := 0) rfl rfl (by decide) ?_
                            refine te_istore (p2 := 215) (lv2 := [(8, .int 0), (5, .int y21), (7, .int y21), (0, .ref 164), (1, .int x1), (2, .int y6), (3, .int v8_3), (4, .int v8_4), (6, .int v13_6)]) rfl rfl (by decide) rfl ?_
                            have lp23 : ∀ (n23 : Nat) (v23_8 t23_t0 t23_t1 t23_t2 t23_t3 t23_t4 t23_t5 : Int32) (h23 : im_H), tI h23 → fr F_X12_pulls h h23 → 0 ≤ v23_8.toInt → v23_8.toInt ≤ 6 → rd h23 199 (Int32.toInt 0).toNat = some (.int t23_t0) → rd h23 199 (Int32.toInt 1).toNat = some (.int t23_t1) → rd h23 199 (Int32.toInt 2).toNat = some (.int t23_t2) → rd h23 199 (Int32.toInt 3).toNat = some (.int t23_t3) → rd h23 199 (Int32.toInt 4).toNat = some (.int t23_t4) → rd h23 199 (Int32.toInt 5).toNat = some (.int t23_t5) → 0 ≤ t23_t0.toInt → t23_t0.toInt ≤ 5 → 0 ≤ t23_t1.toInt → t23_t1.toInt ≤ 5 → 0 ≤ t23_t2.toInt → t23_t2.toInt ≤ 5 → 0 ≤ t23_t3.toInt → t23_t3.toInt ≤ 5 → 0 ≤ t23_t4.toInt → t23_t4.toInt ≤ 5 → 0 ≤ t23_t5.toInt → t23_t5.toInt ≤ 5 → t23_t0.toInt = t13_t0.toInt → t23_t1.toInt = t13_t1.toInt → t23_t2.toInt = t13_t2.toInt → t23_t3.toInt = t13_t3.toInt → t23_t4.toInt = t13_t4.toInt → t23_t5.toInt = t13_t5.toInt → v23_8.toInt ≤ y6.toInt → (∀ j k : Nat, j ≠ 183 → rd h23 j k = rd h21 j k) → (∀ q : Nat, rv h23 183 q = if q < v23_8.toInt.toNat then (vl h 194 (40 * x1.toInt.toNat)) (pq_n h21 199 q) else rv h21 183 q) → 6 - v23_8.toInt < (n23 : Int) → EvP im_K0 4 mX12_pulls (215, [(0, .ref 164), (1, .int x1), (2, .int y6), (3, .int v8_3), (4, .int v8_4), (5, .int y21), (6, .int v13_6), (7, .int y21), (8, .int v23_8)], [], h23) (fun v h2 => tI h2 ∧ fr F_X12_pulls h h2 ∧ ∃ y : Int32, v = some (.int y) ∧ D2_pulls x1 y h h2) := by
                              intro n23
                              induction n23 with
                              | zero => intro v23_8 t23_t0 t23_t1 t23_t2 t23_t3 t23_t4 t23_t5 h23 I23 f23 a23_8 b23_8 v23_t0 v23_t1 v23_t2 v23_t3 v23_t4 v23_t5 va23_t0 vb23_t0 va23_t1 vb23_t1 va23_t2 vb23_t2 va23_t3 vb23_t3 va23_t4 vb23_t4 va23_t5 vb23_t5 l23_0 l23_1 l23_2 l23_3 l23_4 l23_5 l23_6 w23_0 w23_1 m23; exfalso; omega
                              | succ n23 ih23 =>
                                intro v23_8 t23_t0 t23_t1 t23_t2 t23_t3 t23_t4 t23_t5 h23 I23 f23 a23_8 b23_8 v23_t0 v23_t1 v23_t2 v23_t3 v23_t4 v23_t5 va23_t0 vb23_t0 va23_t1 vb23_t1 va23_t2 vb23_t2 va23_t3 vb23_t3 va23_t4 vb23_t4 va23_t5 vb23_t5 l23_0 l23_1 l23_2 l23_3 l23_4 l23_5 l23_6 w23_0 w23_1 m23
                                refine te_iload (p2 := 217) rfl rfl rfl ?_
                                refine te_iload_n (p2 := 218) rfl rfl rfl ?_
                                refine tb_ge (p2 := 221) rfl rfl rfl rfl (fun c24 => ?_) (fun c24 => ?_)
                                · refine te_aload_n (p2 := 252) rfl rfl rfl ?_
                                  refine te_iload_n (p2 := 253) rfl rfl rfl ?_
                                  refine tc_V (p2 := 256) (i := 148) rfl rfl rfl rfl I23 rfl rfl rfl (c_X12_nextOrder (n := y6) (g0 := t23_t0) (g1 := t23_t1) (g2 := t23_t2) (g3 := t23_t3) (g4 := t23_t4) (g5 := t23_t5) I23 (by omega) (by omega) v23_t0 (by omega) (by omega) v23_t1 (by omega) (by omega) v23_t2 (by omega) (by omega) v23_t3 (by omega) (by omega) v23_t4 (by omega) (by omega) v23_t5 (by omega) (by omega) (by rw [l23_0, l23_1, l23_2, l23_3, l23_4, l23_5]; exact w13_0)) (by decide) (fun v25 h25 hq25 => ?_)
                                  obtain ⟨I25, g25, y25, w25, r25⟩ := hq25
                                  subst w25
                                  have f25 := fr_tr (F1 := [(199, 0, 5)]) (F := F_X12_pulls) f23 g25 (by decide)
                                  rw [show (on6 y6.toInt.toNat (pq_n h23 199)) = (on6 y6.toInt.toNat (pq_n h13 199)) from pq_on (fun q => (w23_0 199 q (by decide)).trans (g21 199 q rfl))] at r25
                                  rcases r25 with ⟨r25, nn25⟩ | ⟨r25, nn25, s25_0, s25_1, s25_2, s25_3, s25_4, s25_5, es25_0, es25_1, es25_2, es25_3, es25_4, es25_5, pm25, lx25⟩
                                  · subst r25
                                    show EvP _ _ _ (256, [(0, .ref 164), (1, .int x1), (2, .int y6), (3, .int v8_3), (4, .int v8_4), (5, .int y21), (6, .int v13_6), (7, .int y21), (8, .int v23_8)], [.int 0], h25) _
                                    refine te_istore (p2 := 258) (lv2 := [(6, .int 0), (0, .ref 164), (1, .int x1), (2, .int y6), (3, .int v8_3), (4, .int v8_4), (5, .int y21), (7, .int y21), (8, .int v23_8)]) rfl rfl (by decide) rfl ?_
                                    refine te_goto rfl ?_
                                    refine te_iload (p2 := 184) rfl rfl rfl ?_
                                    refine tz_eq (p2 := 187) rfl rfl (show Int32.toInt 0 = 0 from rfl) (fun c26 => ?_) (fun c26 => absurd c26 (by omega))
                                    refine te_aload_n (p2 := 262) rfl rfl rfl ?_
                                    refine te_iload_n (p2 := 263) rfl rfl rfl ?_
                                    refine tp_i (p2 := 266) (i := 148) rfl rfl I25 rfl rfl (by decide) rfl rfl rfl (by omega) (by omega) (by omega) rfl (fun h27 I27 u27 => ?_)
                                    have f27 := fr_st (F := F_X12_pulls) 0 f25 u27 rfl (by decide) (by decide)
                                    refine te_iload (p2 := 268) rfl rfl rfl ?_
                                    obtain ⟨fu28, w928⟩ := w13_3
                                    have E28 := pq_Eta w928 ql21 (by rw [pq_b7 (v := v13_5) (by omega)]; omega) nn25 (fd2 := rv h25 183) (fun q hq => by rw [pq_rq (g25 183 q rfl), w23_1 q, if_pos (by omega), on6_at (by omega) hq, pq_k (g21 199 q rfl)])
                                    have M28 : ∀ q : Nat, ¬ q < y6.toInt.toNat → rv h25 183 q = rv h 183 q := (fun q hq => by rw [pq_rq (g25 183 q rfl), w23_1 q, if_neg (by omega), pq_rq (g21 183 q rfl)]; exact w13_4 q hq)
                                    exact te_iret rfl rfl ⟨I27, f27, _, rfl, (fun j => (u27.2 _ _ (Or.inl (by decide))).trans ((fun j => (g25 149 j rfl).trans ((w23_0 149 j (by decide)).trans ((Q21 j).trans (w13_1 j)))) j)), pul_4 (by omega) (by rw [rv_of e4]; omega) (by rw [rv_of e6]; exact ⟨⟨by omega, by omega⟩, G45⟩) (T := (pq_t (pq_flW h x1.toInt.toNat) y6.toInt.toNat)) (by rw [rv_of e6]; exact pq_tM hI pr0 (by omega) (by omega) (by omega) G45 hnw) E28.1 ((rv_of u27.1).trans (rv_of e6).symm) (fun q h6 => by rw [rv_of e6, rv_ni u27 (Or.inl (by decide))]; (by_cases hq : q < y6.toInt.toNat); (· rw [if_pos hq]; exact E28.2 q hq); (· rw [if_neg hq]; exact M28 q hq))⟩
                                  · subst r25
                                    obtain ⟨v29, ex29, y29, w29, a29, b29, _⟩ := I25.2.1 199 (Int32.toInt 0).toNat (.inl (0, 5, 9999999999)) (tq_row rfl (by decide))
                                    subst w29
                                    rw [← int_inj es25_0 ex29] at a29 b29
                                    obtain ⟨v30, ex30, y30, w30, a30, b30, _⟩ := I25.2.1 199 (Int32.toInt 1).toNat (.inl (0, 5, 9999999999)) (tq_row rfl (by decide))
                                    subst w30
                                    rw [← int_inj es25_1 ex30] at a30 b30
                                    obtain ⟨v31, ex31, y31, w31, a31, b31, _⟩ := I25.2.1 199 (Int32.toInt 2).toNat (.inl (0, 5, 9999999999)) (tq_row rfl (by decide))
                                    subst w31
                                    rw [← int_inj es25_2 ex31] at a31 b31
                                    obtain ⟨v32, ex32, y32, w32, a32, b32, _⟩ := I25.2.1 199 (Int32.toInt 3).toNat (.inl (0, 5, 9999999999)) (tq_row rfl (by decide))
                                    subst w32
                                    rw [← int_inj es25_3 ex32] at a32 b32
                                    obtain ⟨v33, ex33, y33, w33, a33, b33, _⟩ := I25.2.1 199 (Int32.toInt 4).toNat (.inl (0, 5, 9999999999)) (tq_row rfl (by decide))
                                    subst w33
                                    rw [← int_inj es25_4 ex33] at a33 b33
                                    obtain ⟨v34, ex34, y34, w34, a34, b34, _⟩ := I25.2.1 199 (Int32.toInt 5).toNat (.inl (0, 5, 9999999999)) (tq_row rfl (by decide))
                                    subst w34
                                    rw [← int_inj es25_5 ex34] at a34 b34
                                    unfold lexV at lx25
                                    show EvP _ _ _ (256, [(0, .ref 164), (1, .int x1), (2, .int y6), (3, .int v8_3), (4, .int v8_4), (5, .int y21), (6, .int v13_6), (7, .int y21), (8, .int v23_8)], [.int 1], h25) _
                                    refine te_istore (p2 := 258) (lv2 := [(6, .int 1), (0, .ref 164), (1, .int x1), (2, .int y6), (3, .int v8_3), (4, .int v8_4), (5, .int y21), (7, .int y21), (8, .int v23_8)]) rfl rfl (by decide) rfl ?_
                                    refine te_goto rfl ?_
                                    refine te_lv [(0, .ref 164), (1, .int x1), (2, .int y6), (3, .int v8_3), (4, .int v8_4), (5, .int y21), (6, .int 1)] rfl rfl ⟨rfl, rfl, rfl, rfl, rfl, rfl, rfl, trivial⟩ ?_
                                    exact ih13 y21 1 s25_0 s25_1 s25_2 s25_3 s25_4 s25_5 h25 I25 f25 (by omega) (by omega) (by decide) (by decide) es25_0 es25_1 es25_2 es25_3 es25_4 es25_5 (by omega) (by omega) (by omega) (by omega) (by omega) (by omega) (by omega) (by omega) (by omega) (by omega) (by omega) (by omega) pm25 (fun j => (g25 149 j rfl).trans ((w23_0 149 j (by decide)).trans ((Q21 j).trans (w13_1 j)))) ((g25 148 41 rfl).trans ((w23_0 148 41 (by decide)).trans ((g21 148 41 rfl).trans w13_2))) (by (obtain ⟨fu, w9⟩ := w13_3); (obtain ⟨f2, _, q⟩ := pq_Ita w9 ql21 (by rw [pq_b7 (v := v13_5) (by omega)]; omega) nn25 (fd2 := rv h25 183) (fun q hq => by rw [pq_rq (g25 183 q rfl), w23_1 q, if_pos (by omega), on6_at (by omega) hq, pq_k (g21 199 q rfl)])); rw [pq_bv (v := y21) (by omega)]; exact ⟨f2, q⟩) (fun q hq => by rw [pq_rq (g25 183 q rfl), w23_1 q, if_neg (by omega), pq_rq (g21 183 q rfl)]; exact w13_4 q hq) (by have cc0 := (show Int32.toInt 1 = 1 from rfl); omega)
                                · refine te_aload_n (p2 := 222) rfl rfl rfl ?_
                                  refine tg_r (p2 := 225) (i := 148) (r := 199) rfl rfl I23 rfl rfl rfl ?_
                                  refine te_iload (p2 := 227) rfl rfl rfl ?_
                                  refine te_aload_n (p2 := 228) rfl rfl rfl ?_
                                  refine tg_r (p2 := 231) (i := 148) (r := 210) rfl rfl I23 rfl rfl rfl ?_
                                  refine te_bipush (p2 := 233) (x := 40) rfl rfl (by decide) ?_
                                  refine te_iload_n (p2 := 234) rfl rfl rfl ?_
                                  refine ar_mul (p2 := 235) rfl rfl (show Int32.toInt 40 = 40 from rfl) rfl (by omega) (by omega) (fun z35 e35 f35 => ?_)
                                  refine te_aload_n (p2 := 236) rfl rfl rfl ?_
                                  refine tg_r (p2 := 239) (i := 148) (r := 215) rfl rfl I23 rfl rfl rfl ?_
                                  refine te_iload (p2 := 241) rfl rfl rfl ?_
                                  refine tl_i (p2 := 242) (i := 199) (n := 6) rfl rfl I23 rfl rfl rfl rfl (by omega) (by omega) (fun y36 a36 b36 g36 e36 => ?_)
                                  refine ar_add (p2 := 243) rfl rfl rfl rfl (by omega) (by omega) (fun z37 e37 f37 => ?_)
                                  refine tl_i (p2 := 244) (i := 194) (n := 160) rfl rfl I23 rfl rfl rfl rfl (by omega) (by omega) (fun y38 a38 b38 g38 e38 => ?_)
                                  refine ts_i (p2 := 245) (i := 183) (n := 6) rfl rfl I23 rfl rfl rfl rfl (by omega) (by omega) (i32_lo _) (i32_hi _) (i32_ho _) rfl (fun h39 I39 u39 => ?_)
                                  have f39 := fr_st (F := F_X12_pulls) 2 f23 u39 rfl (by omega) (by omega)
                                  refine ar_inc (p2 := 248) (x := v23_8) rfl rfl (by decide) rfl (by decide) rfl (by omega) (by omega) (fun z40 e40 f40 => ?_)
                                  show EvP _ _ _ (248, [(8, .int z40), (0, .ref 164), (1, .int x1), (2, .int y6), (3, .int v8_3), (4, .int v8_4), (5, .int y21), (6, .int v13_6), (7, .int y21)], [], h39) _
                                  refine te_goto rfl ?_
                                  refine te_lv [(0, .ref 164), (1, .int x1), (2, .int y6), (3, .int v8_3), (4, .int v8_4), (5, .int y21), (6, .int v13_6), (7, .int y21), (8, .int z40)] rfl rfl ⟨rfl, rfl, rfl, rfl, rfl, rfl, rfl, rfl, rfl, trivial⟩ ?_
                                  exact ih23 z40 t23_t0 t23_t1 t23_t2 t23_t3 t23_t4 t23_t5 h39 I39 f39 (by omega) (by omega) ((u39.2 _ _ (Or.inl (by decide))).trans v23_t0) ((u39.2 _ _ (Or.inl (by decide))).trans v23_t1) ((u39.2 _ _ (Or.inl (by decide))).trans v23_t2) ((u39.2 _ _ (Or.inl (by decide))).trans v23_t3) ((u39.2 _ _ (Or.inl (by decide))).trans v23_t4) ((u39.2 _ _ (Or.inl (by decide))).trans v23_t5) (by omega) (by omega) (by omega) (by omega) (by omega) (by omega) (by omega) (by omega) (by omega) (by omega) (by omega) (by omega) (by omega) (by omega) (by omega) (by omega) (by omega) (by omega) (by omega) (fun j k hj => (u39.2 _ _ (Or.inl hj)).trans (w23_0 j k hj)) (fun q => by (by_cases hc : q = v23_8.toInt.toNat); (· rw [if_pos (by omega), hc, (show pq_n h21 199 v23_8.toInt.toNat = y36.toInt.toNat from pq_of ((w23_0 199 _ (by decide)).symm.trans e36)), (show (vl h 194 (40 * x1.toInt.toNat)) y36.toInt.toNat = y38 from vl_of (c := 194) (o := 40 * x1.toInt.toNat) (i := y36.toInt.toNat) (by omega) (by rw [show 40 * x1.toInt.toNat + y36.toInt.toNat = z37.toInt.toNat by omega]; exact (f23 194 _ rfl).symm.trans e38))]; exact rv_of u39.1); (· rw [rv_ni u39 (Or.inr hc), w23_1 q]; (by_cases hq : q < v23_8.toInt.toNat); (· rw [if_pos hq, if_pos (by omega)]); (· rw [if_neg hq, if_neg (by omega)]))) (by omega)
                            refine te_lv [(0, .ref 164), (1, .int x1), (2, .int y6), (3, .int v8_3), (4, .int v8_4), (5, .int y21), (6, .int v13_6), (7, .int y21), (8, .int 0)] rfl rfl ⟨rfl, rfl, rfl, rfl, rfl, rfl, rfl, rfl, rfl, trivial⟩ ?_
                            exact lp23 7 0 t13_t0 t13_t1 t13_t2 t13_t3 t13_t4 t13_t5 h21 I21 f21 (by decide) (by decide) ((g21 _ _ rfl).trans v13_t0) ((g21 _ _ rfl).trans v13_t1) ((g21 _ _ rfl).trans v13_t2) ((g21 _ _ rfl).trans v13_t3) ((g21 _ _ rfl).trans v13_t4) ((g21 _ _ rfl).trans v13_t5) (by omega) (by omega) (by omega) (by omega) (by omega) (by omega) (by omega) (by omega) (by omega) (by omega) (by omega) (by omega) (by have cc0 := (show Int32.toInt 0 = 0 from rfl); omega) (by have cc0 := (show Int32.toInt 0 = 0 from rfl); omega) (by have cc0 := (show Int32.toInt 0 = 0 from rfl); omega) (by have cc0 := (show Int32.toInt 0 = 0 from rfl); omega) (by have cc0 := (show Int32.toInt 0 = 0 from rfl); omega) (by have cc0 := (show Int32.toInt 0 = 0 from rfl); omega) (by have cc0 := (show Int32.toInt 0 = 0 from rfl); omega) (fun _ _ _ => rfl) (fun q => (if_neg (show ¬ q < (Int32.toInt 0).toNat from Nat.not_lt_zero q)).symm) (by have cc0 := (show Int32.toInt 0 = 0 from rfl); omega)
                          · refine te_iload (p2 := 203) rfl rfl rfl ?_
                            refine te_iload (p2 := 205) rfl rfl rfl ?_
                            refine tb_ge (p2 := 208) rfl rfl rfl rfl (fun c41 => ?_) (fun c41 => ?_)
                            · refine te_aload_n (p2 := 252) rfl rfl rfl ?_
                              refine te_iload_n (p2 := 253) rfl rfl rfl ?_
                              refine tc_V (p2 := 256) (i := 148) rfl rfl rfl rfl I21 rfl rfl rfl (c_X12_nextOrder (n := y6) (g0 := t13_t0) (g1 := t13_t1) (g2 := t13_t2) (g3 := t13_t3) (g4 := t13_t4) (g5 := t13_t5) I21 (by omega) (by omega) ((g21 _ _ rfl).trans v13_t0) (by omega) (by omega) ((g21 _ _ rfl).trans v13_t1) (by omega) (by omega) ((g21 _ _ rfl).trans v13_t2) (by omega) (by omega) ((g21 _ _ rfl).trans v13_t3) (by omega) (by omega) ((g21 _ _ rfl).trans v13_t4) (by omega) (by omega) ((g21 _ _ rfl).trans v13_t5) (by omega) (by omega) w13_0) (by decide) (fun v42 h42 hq42 => ?_)
                              obtain ⟨I42, g42, y42, w42, r42⟩ := hq42
                              subst w42
                              have f42 := fr_tr (F1 := [(199, 0, 5)]) (F := F_X12_pulls) f21 g42 (by decide)
                              rw [show (on6 y6.toInt.toNat (pq_n h21 199)) = (on6 y6.toInt.toNat (pq_n h13 199)) from pq_on (fun q => g21 199 q rfl)] at r42
                              rcases r42 with ⟨r42, nn42⟩ | ⟨r42, nn42, s42_0, s42_1, s42_2, s42_3, s42_4, s42_5, es42_0, es42_1, es42_2, es42_3, es42_4, es42_5, pm42, lx42⟩
                              · subst r42
                                show EvP _ _ _ (256, [(7, .int y21), (0, .ref 164), (1, .int x1), (2, .int y6), (3, .int v8_3), (4, .int v8_4), (5, .int v13_5), (6, .int v13_6)], [.int 0], h42) _
                                refine te_istore (p2 := 258) (lv2 := [(6, .int 0), (7, .int y21), (0, .ref 164), (1, .int x1), (2, .int y6), (3, .int v8_3), (4, .int v8_4), (5, .int v13_5)]) rfl rfl (by decide) rfl ?_
                                refine te_goto rfl ?_
                                refine te_iload (p2 := 184) rfl rfl rfl ?_
                                refine tz_eq (p2 := 187) rfl rfl (show Int32.toInt 0 = 0 from rfl) (fun c43 => ?_) (fun c43 => absurd c43 (by omega))
                                refine te_aload_n (p2 := 262) rfl rfl rfl ?_
                                refine te_iload_n (p2 := 263) rfl rfl rfl ?_
                                refine tp_i (p2 := 266) (i := 148) rfl rfl I42 rfl rfl (by decide) rfl rfl rfl (by omega) (by omega) (by omega) rfl (fun h44 I44 u44 => ?_)
                                have f44 := fr_st (F := F_X12_pulls) 0 f42 u44 rfl (by decide) (by decide)
                                refine te_iload (p2 := 268) rfl rfl rfl ?_
                                obtain ⟨fu45, w945⟩ := w13_3
                                have E45 := pq_Esk w945 ql21 (by rw [pq_bv (v := v13_5) (by omega)]; omega) (by omega) nn42
                                have M45 : ∀ q : Nat, ¬ q < y6.toInt.toNat → rv h42 183 q = rv h 183 q := (fun q hq => (pq_rq (g42 183 q rfl)).trans ((pq_rq (g21 183 q rfl)).trans (w13_4 q hq)))
                                exact te_iret rfl rfl ⟨I44, f44, _, rfl, (fun j => (u44.2 _ _ (Or.inl (by decide))).trans ((fun j => (g42 149 j rfl).trans ((Q21 j).trans (w13_1 j))) j)), pul_4 (by omega) (by rw [rv_of e4]; omega) (by rw [rv_of e6]; exact ⟨⟨by omega, by omega⟩, G45⟩) (T := (pq_t (pq_flW h x1.toInt.toNat) y6.toInt.toNat)) (by rw [rv_of e6]; exact pq_tM hI pr0 (by omega) (by omega) (by omega) G45 hnw) ((pq_bv (v := v13_5) (by omega)).symm.trans E45.1) ((rv_of u44.1).trans (rv_of e6).symm) (fun q h6 => by rw [rv_of e6, rv_ni u44 (Or.inl (by decide))]; (by_cases hq : q < y6.toInt.toNat); (· rw [if_pos hq]; exact (pq_rq ((fun q => (g42 183 q rfl).trans (g21 183 q rfl)) q)).trans (E45.2 q hq)); (· rw [if_neg hq]; exact M45 q hq))⟩
                              · subst r42
                                obtain ⟨v46, ex46, y46, w46, a46, b46, _⟩ := I42.2.1 199 (Int32.toInt 0).toNat (.inl (0, 5, 9999999999)) (tq_row rfl (by decide))
                                subst w46
                                rw [← int_inj es42_0 ex46] at a46 b46
                                obtain ⟨v47, ex47, y47, w47, a47, b47, _⟩ := I42.2.1 199 (Int32.toInt 1).toNat (.inl (0, 5, 9999999999)) (tq_row rfl (by decide))
                                subst w47
                                rw [← int_inj es42_1 ex47] at a47 b47
                                obtain ⟨v48, ex48, y48, w48, a48, b48, _⟩ := I42.2.1 199 (Int32.toInt 2).toNat (.inl (0, 5, 9999999999)) (tq_row rfl (by decide))
                                subst w48
                                rw [← int_inj es42_2 ex48] at a48 b48
                                obtain ⟨v49, ex49, y49, w49, a49, b49, _⟩ := I42.2.1 199 (Int32.toInt 3).toNat (.inl (0, 5, 9999999999)) (tq_row rfl (by decide))
                                subst w49
                                rw [← int_inj es42_3 ex49] at a49 b49
                                obtain ⟨v50, ex50, y50, w50, a50, b50, _⟩ := I42.2.1 199 (Int32.toInt 4).toNat (.inl (0, 5, 9999999999)) (tq_row rfl (by decide))
                                subst w50
                                rw [← int_inj es42_4 ex50] at a50 b50
                                obtain ⟨v51, ex51, y51, w51, a51, b51, _⟩ := I42.2.1 199 (Int32.toInt 5).toNat (.inl (0, 5, 9999999999)) (tq_row rfl (by decide))
                                subst w51
                                rw [← int_inj es42_5 ex51] at a51 b51
                                unfold lexV at lx42
                                show EvP _ _ _ (256, [(7, .int y21), (0, .ref 164), (1, .int x1), (2, .int y6), (3, .int v8_3), (4, .int v8_4), (5, .int v13_5), (6, .int v13_6)], [.int 1], h42) _
                                refine te_istore (p2 := 258) (lv2 := [(6, .int 1), (7, .int y21), (0, .ref 164), (1, .int x1), (2, .int y6), (3, .int v8_3), (4, .int v8_4), (5, .int v13_5)]) rfl rfl (by decide) rfl ?_
                                refine te_goto rfl ?_
                                refine te_lv [(0, .ref 164), (1, .int x1), (2, .int y6), (3, .int v8_3), (4, .int v8_4), (5, .int v13_5), (6, .int 1)] rfl rfl ⟨rfl, rfl, rfl, rfl, rfl, rfl, rfl, trivial⟩ ?_
                                exact ih13 v13_5 1 s42_0 s42_1 s42_2 s42_3 s42_4 s42_5 h42 I42 f42 (by omega) (by omega) (by decide) (by decide) es42_0 es42_1 es42_2 es42_3 es42_4 es42_5 (by omega) (by omega) (by omega) (by omega) (by omega) (by omega) (by omega) (by omega) (by omega) (by omega) (by omega) (by omega) pm42 (fun j => (g42 149 j rfl).trans ((Q21 j).trans (w13_1 j))) ((g42 148 41 rfl).trans ((g21 148 41 rfl).trans w13_2)) (by (obtain ⟨fu, w9⟩ := w13_3); (obtain ⟨f2, _, q⟩ := pq_Isk w9 ql21 (by rw [pq_bv (v := v13_5) (by omega)]; omega) nn42); rw [show rv h42 183 = rv h13 183 from pq_rv (fun q => (g42 183 q rfl).trans (g21 183 q rfl))]; exact ⟨f2, q⟩) (fun q hq => (pq_rq (g42 183 q rfl)).trans ((pq_rq (g21 183 q rfl)).trans (w13_4 q hq))) (by have cc0 := (show Int32.toInt 1 = 1 from rfl); omega)
                            · refine te_iload (p2 := 210) rfl rfl rfl ?_
                              refine te_istore (p2 := 212) (lv2 := [(5, .int y21), (7, .int y21), (0, .ref 164), (1, .int x1), (2, .int y6), (3, .int v8_3), (4, .int v8_4), (6, .int v13_6)]) rfl rfl (by decide) rfl ?_
                              refine te_iconst (p2 := 213) (x := 0) rfl rfl (by decide) ?_
                              refine te_istore (p2 := 215) (lv2 := [(8, .int 0), (5, .int y21), (7, .int y21), (0, .ref 164), (1, .int x1), (2, .int y6), (3, .int v8_3), (4, .int v8_4), (6, .int v13_6)]) rfl rfl (by decide) rfl ?_
                              have lp52 : ∀ (n52 : Nat) (v52_8 t52_t0 t52_t1 t52_t2 t52_t3 t52_t4 t52_t5 : Int32) (h52 : im_H), tI h52 → fr F_X12_pulls h h52 → 0 ≤ v52_8.toInt → v52_8.toInt ≤ 6 → rd h52 199 (Int32.toInt 0).toNat = some (.int t52_t0) → rd h52 199 (Int32.toInt 1).toNat = some (.int t52_t1) → rd h52 199 (Int32.toInt 2).toNat = some (.int t52_t2) → rd h52 199 (Int32.toInt 3).toNat = some (.int t52_t3) → rd h52 199 (Int32.toInt 4).toNat = some (.int t52_t4) → rd h52 199 (Int32.toInt 5).toNat = some (.int t52_t5) → 0 ≤ t52_t0.toInt → t52_t0.toInt ≤ 5 → 0 ≤ t52_t1.toInt → t52_t1.toInt ≤ 5 → 0 ≤ t52_t2.toInt → t52_t2.toInt ≤ 5 → 0 ≤ t52_t3.toInt → t52_t3.toInt ≤ 5 → 0 ≤ t52_t4.toInt → t52_t4.toInt ≤ 5 → 0 ≤ t52_t5.toInt → t52_t5.toInt ≤ 5 → t52_t0.toInt = t13_t0.toInt → t52_t1.toInt = t13_t1.toInt → t52_t2.toInt = t13_t2.toInt → t52_t3.toInt = t13_t3.toInt → t52_t4.toInt = t13_t4.toInt → t52_t5.toInt = t13_t5.toInt → v52_8.toInt ≤ y6.toInt → (∀ j k : Nat, j ≠ 183 → rd h52 j k = rd h21 j k) → (∀ q : Nat, rv h52 183 q = if q < v52_8.toInt.toNat then (vl h 194 (40 * x1.toInt.toNat)) (pq_n h21 199 q) else rv h21 183 q) → 6 - v52_8.toInt < (n52 : Int) → EvP im_K0 4 mX12_pulls (215, [(0, .ref 164), (1, .int x1), (2, .int y6), (3, .int v8_3), (4, .int v8_4), (5, .int y21), (6, .int v13_6), (7, .int y21), (8, .int v52_8)], [], h52) (fun v h2 => tI h2 ∧ fr F_X12_pulls h h2 ∧ ∃ y : Int32, v = some (.int y) ∧ D2_pulls x1 y h h2) := by
                                intro n52
                                induction n52 with
                                | zero => intro v52_8 t52_t0 t52_t1 t52_t2 t52_t3 t52_t4 t52_t5 h52 I52 f52 a52_8 b52_8 v52_t0 v52_t1 v52_t2 v52_t3 v52_t4 v52_t5 va52_t0 vb52_t0 va52_t1 vb52_t1 va52_t2 vb52_t2 va52_t3 vb52_t3 va52_t4 vb52_t4 va52_t5 vb52_t5 l52_0 l52_1 l52_2 l52_3 l52_4 l52_5 l52_6 w52_0 w52_1 m52; exfalso; omega
                                | succ n52 ih52 =>
                                  intro v52_8 t52_t0 t52_t1 t52_t2 t52_t3 t52_t4 t52_t5 h52 I52 f52 a52_8 b52_8 v52_t0 v52_t1 v52_t2 v52_t3 v52_t4 v52_t5 va52_t0 vb52_t0 va52_t1 vb52_t1 va52_t2 vb52_t2 va52_t3 vb52_t3 va52_t4 vb52_t4 va52_t5 vb52_t5 l52_0 l52_1 l52_2 l52_3 l52_4 l52_5 l52_6 w52_0 w52_1 m52
                                  refine te_iload (p2 := 217) rfl rfl rfl ?_
                                  refine te_iload_n (p2 := 218) rfl rfl rfl ?_
                                  refine tb_ge (p2 := 221) rfl rfl rfl rfl (fun c53 => ?_) (fun c53 => ?_)
                                  · refine te_aload_n (p2 := 252) rfl rfl rfl ?_
                                    refine te_iload_n (p2 := 253) rfl rfl rfl ?_
                                    refine tc_V (p2 := 256) (i := 148) rfl rfl rfl rfl I52 rfl rfl rfl (c_X12_nextOrder (n := y6) (g0 := t52_t0) (g1 := t52_t1) (g2 := t52_t2) (g3 := t52_t3) (g4 := t52_t4) (g5 := t52_t5) I52 (by omega) (by omega) v52_t0 (by omega) (by omega) v52_t1 (by omega) (by omega) v52_t2 (by omega) (by omega) v52_t3 (by omega) (by omega) v52_t4 (by omega) (by omega) v52_t5 (by omega) (by omega) (by rw [l52_0, l52_1, l52_2, l52_3, l52_4, l52_5]; exact w13_0)) (by decide) (fun v54 h54 hq54 => ?_)
                                    obtain ⟨I54, g54, y54, w54, r54⟩ := hq54
                                    subst w54
                                    have f54 := fr_tr (F1 := [(199, 0, 5)]) (F := F_X12_pulls) f52 g54 (by decide)
                                    rw [show (on6 y6.toInt.toNat (pq_n h52 199)) = (on6 y6.toInt.toNat (pq_n h13 199)) from pq_on (fun q => (w52_0 199 q (by decide)).trans (g21 199 q rfl))] at r54
                                    rcases r54 with ⟨r54, nn54⟩ | ⟨r54, nn54, s54_0, s54_1, s54_2, s54_3, s54_4, s54_5, es54_0, es54_1, es54_2, es54_3, es54_4, es54_5, pm54, lx54⟩
                                    · subst r54
                                      show EvP _ _ _ (256, [(0, .ref 164), (1, .int x1), (2, .int y6), (3, .int v8_3), (4, .int v8_4), (5, .int y21), (6, .int v13_6), (7, .int y21), (8, .int v52_8)], [.int 0], h54) _
                                      refine te_istore (p2 := 258) (lv2 := [(6, .int 0), (0, .ref 164), (1, .int x1), (2, .int y6), (3, .int v8_3), (4, .int v8_4), (5, .int y21), (7, .int y21), (8, .int v52_8)]) rfl rfl (by decide) rfl ?_
                                      refine te_goto rfl ?_
                                      refine te_iload (p2 := 184) rfl rfl rfl ?_
                                      refine tz_eq (p2 := 187) rfl rfl (show Int32.toInt 0 = 0 from rfl) (fun c55 => ?_) (fun c55 => absurd c55 (by omega))
                                      refine te_aload_n (p2 := 262) rfl rfl rfl ?_
                                      refine te_iload_n (p2 := 263) rfl rfl rfl ?_
                                      refine tp_i (p2 := 266) (i := 148) rfl rfl I54 rfl rfl (by decide) rfl rfl rfl (by omega) (by omega) (by omega) rfl (fun h56 I56 u56 => ?_)
                                      have f56 := fr_st (F := F_X12_pulls) 0 f54 u56 rfl (by decide) (by decide)
                                      refine te_iload (p2 := 268) rfl rfl rfl ?_
                                      obtain ⟨fu57, w957⟩ := w13_3
                                      have E57 := pq_Eta w957 ql21 (by rw [pq_bv (v := v13_5) (by omega)]; omega) nn54 (fd2 := rv h54 183) (fun q hq => by rw [pq_rq (g54 183 q rfl), w52_1 q, if_pos (by omega), on6_at (by omega) hq, pq_k (g21 199 q rfl)])
                                      have M57 : ∀ q : Nat, ¬ q < y6.toInt.toNat → rv h54 183 q = rv h 183 q := (fun q hq => by rw [pq_rq (g54 183 q rfl), w52_1 q, if_neg (by omega), pq_rq (g21 183 q rfl)]; exact w13_4 q hq)
                                      exact te_iret rfl rfl ⟨I56, f56, _, rfl, (fun j => (u56.2 _ _ (Or.inl (by decide))).trans ((fun j => (g54 149 j rfl).trans ((w52_0 149 j (by decide)).trans ((Q21 j).trans (w13_1 j)))) j)), pul_4 (by omega) (by rw [rv_of e4]; omega) (by rw [rv_of e6]; exact ⟨⟨by omega, by omega⟩, G45⟩) (T := (pq_t (pq_flW h x1.toInt.toNat) y6.toInt.toNat)) (by rw [rv_of e6]; exact pq_tM hI pr0 (by omega) (by omega) (by omega) G45 hnw) E57.1 ((rv_of u56.1).trans (rv_of e6).symm) (fun q h6 => by rw [rv_of e6, rv_ni u56 (Or.inl (by decide))]; (by_cases hq : q < y6.toInt.toNat); (· rw [if_pos hq]; exact E57.2 q hq); (· rw [if_neg hq]; exact M57 q hq))⟩
                                    · subst r54
                                      obtain ⟨v58, ex58, y58, w58, a58, b58, _⟩ := I54.2.1 199 (Int32.toInt 0).toNat (.inl (0, 5, 9999999999)) (tq_row rfl (by decide))
                                      subst w58
                                      rw [← int_inj es54_0 ex58] at a58 b58
                                      obtain ⟨v59, ex59, y59, w59, a59, b59, _⟩ := I54.2.1 199 (Int32.toInt 1).toNat (.inl (0, 5, 9999999999)) (tq_row rfl (by decide))
                                      subst w59
                                      rw [← int_inj es54_1 ex59] at a59 b59
                                      obtain ⟨v60, ex60, y60, w60, a60, b60, _⟩ := I54.2.1 199 (Int32.toInt 2).toNat (.inl (0, 5, 9999999999)) (tq_row rfl (by decide))
                                      subst w60
                                      rw [← int_inj es54_2 ex60] at a60 b60
                                      obtain ⟨v61, ex61, y61, w61, a61, b61, _⟩ := I54.2.1 199 (Int32.toInt 3).toNat (.inl (0, 5, 9999999999)) (tq_row rfl (by decide))
                                      subst w61
                                      rw [← int_inj es54_3 ex61] at a61 b61
                                      obtain ⟨v62, ex62, y62, w62, a62, b62, _⟩ := I54.2.1 199 (Int32.toInt 4).toNat (.inl (0, 5, 9999999999)) (tq_row rfl (by decide))
                                      subst w62
                                      rw [← int_inj es54_4 ex62] at a62 b62
                                      obtain ⟨v63, ex63, y63, w63, a63, b63, _⟩ := I54.2.1 199 (Int32.toInt 5).toNat (.inl (0, 5, 9999999999)) (tq_row rfl (by decide))
                                      subst w63
                                      rw [← int_inj es54_5 ex63] at a63 b63
                                      unfold lexV at lx54
                                      show EvP _ _ _ (256, [(0, .ref 164), (1, .int x1), (2, .int y6), (3, .int v8_3), (4, .int v8_4), (5, .int y21), (6, .int v13_6), (7, .int y21), (8, .int v52_8)], [.int 1], h54) _
                                      refine te_istore (p2 := 258) (lv2 := [(6, .int 1), (0, .ref 164), (1, .int x1), (2, .int y6), (3, .int v8_3), (4, .int v8_4), (5, .int y21), (7, .int y21), (8, .int v52_8)]) rfl rfl (by decide) rfl ?_
                                      refine te_goto rfl ?_
                                      refine te_lv [(0, .ref 164), (1, .int x1), (2, .int y6), (3, .int v8_3), (4, .int v8_4), (5, .int y21), (6, .int 1)] rfl rfl ⟨rfl, rfl, rfl, rfl, rfl, rfl, rfl, trivial⟩ ?_
                                      exact ih13 y21 1 s54_0 s54_1 s54_2 s54_3 s54_4 s54_5 h54 I54 f54 (by omega) (by omega) (by decide) (by decide) es54_0 es54_1 es54_2 es54_3 es54_4 es54_5 (by omega) (by omega) (by omega) (by omega) (by omega) (by omega) (by omega) (by omega) (by omega) (by omega) (by omega) (by omega) pm54 (fun j => (g54 149 j rfl).trans ((w52_0 149 j (by decide)).trans ((Q21 j).trans (w13_1 j)))) ((g54 148 41 rfl).trans ((w52_0 148 41 (by decide)).trans ((g21 148 41 rfl).trans w13_2))) (by (obtain ⟨fu, w9⟩ := w13_3); (obtain ⟨f2, _, q⟩ := pq_Ita w9 ql21 (by rw [pq_bv (v := v13_5) (by omega)]; omega) nn54 (fd2 := rv h54 183) (fun q hq => by rw [pq_rq (g54 183 q rfl), w52_1 q, if_pos (by omega), on6_at (by omega) hq, pq_k (g21 199 q rfl)])); rw [pq_bv (v := y21) (by omega)]; exact ⟨f2, q⟩) (fun q hq => by rw [pq_rq (g54 183 q rfl), w52_1 q, if_neg (by omega), pq_rq (g21 183 q rfl)]; exact w13_4 q hq) (by have cc0 := (show Int32.toInt 1 = 1 from rfl); omega)
                                  · refine te_aload_n (p2 := 222) rfl rfl rfl ?_
                                    refine tg_r (p2 := 225) (i := 148) (r := 199) rfl rfl I52 rfl rfl rfl ?_
                                    refine te_iload (p2 := 227) rfl rfl rfl ?_
                                    refine te_aload_n (p2 := 228) rfl rfl rfl ?_
                                    refine tg_r (p2 := 231) (i := 148) (r := 210) rfl rfl I52 rfl rfl rfl ?_
                                    refine te_bipush (p2 := 233) (x := 40) rfl rfl (by decide) ?_
                                    refine te_iload_n (p2 := 234) rfl rfl rfl ?_
                                    refine ar_mul (p2 := 235) rfl rfl (show Int32.toInt 40 = 40 from rfl) rfl (by omega) (by omega) (fun z64 e64 f64 => ?_)
                                    refine te_aload_n (p2 := 236) rfl rfl rfl ?_
                                    refine tg_r (p2 := 239) (i := 148) (r := 215) rfl rfl I52 rfl rfl rfl ?_
                                    refine te_iload (p2 := 241) rfl rfl rfl ?_
                                    refine tl_i (p2 := 242) (i := 199) (n := 6) rfl rfl I52 rfl rfl rfl rfl (by omega) (by omega) (fun y65 a65 b65 g65 e65 => ?_)
                                    refine ar_add (p2 := 243) rfl rfl rfl rfl (by omega) (by omega) (fun z66 e66 f66 => ?_)
                                    refine tl_i (p2 := 244) (i := 194) (n := 160) rfl rfl I52 rfl rfl rfl rfl (by omega) (by omega) (fun y67 a67 b67 g67 e67 => ?_)
                                    refine ts_i (p2 := 245) (i := 183) (n := 6) rfl rfl I52 rfl rfl rfl rfl (by omega) (by omega) (i32_lo _) (i32_hi _) (i32_ho _) rfl (fun h68 I68 u68 => ?_)
                                    have f68 := fr_st (F := F_X12_pulls) 2 f52 u68 rfl (by omega) (by omega)
                                    refine ar_inc (p2 := 248) (x := v52_8) rfl rfl (by decide) rfl (by decide) rfl (by omega) (by omega) (fun z69 e69 f69 => ?_)
                                    show EvP _ _ _ (248, [(8, .int z69), (0, .ref 164), (1, .int x1), (2, .int y6), (3, .int v8_3), (4, .int v8_4), (5, .int y21), (6, .int v13_6), (7, .int y21)], [], h68) _
                                    refine te_goto rfl ?_
                                    refine te_lv [(0, .ref 164), (1, .int x1), (2, .int y6), (3, .int v8_3), (4, .int v8_4), (5, .int y21), (6, .int v13_6), (7, .int y21), (8, .int z69)] rfl rfl ⟨rfl, rfl, rfl, rfl, rfl, rfl, rfl, rfl, rfl, trivial⟩ ?_
                                    exact ih52 z69 t52_t0 t52_t1 t52_t2 t52_t3 t52_t4 t52_t5 h68 I68 f68 (by omega) (by omega) ((u68.2 _ _ (Or.inl (by decide))).trans v52_t0) ((u68.2 _ _ (Or.inl (by decide))).trans v52_t1) ((u68.2 _ _ (Or.inl (by decide))).trans v52_t2) ((u68.2 _ _ (Or.inl (by decide))).trans v52_t3) ((u68.2 _ _ (Or.inl (by decide))).trans v52_t4) ((u68.2 _ _ (Or.inl (by decide))).trans v52_t5) (by omega) (by omega) (by omega) (by omega) (by omega) (by omega) (by omega) (by omega) (by omega) (by omega) (by omega) (by omega) (by omega) (by omega) (by omega) (by omega) (by omega) (by omega) (by omega) (fun j k hj => (u68.2 _ _ (Or.inl hj)).trans (w52_0 j k hj)) (fun q => by (by_cases hc : q = v52_8.toInt.toNat); (· rw [if_pos (by omega), hc, (show pq_n h21 199 v52_8.toInt.toNat = y65.toInt.toNat from pq_of ((w52_0 199 _ (by decide)).symm.trans e65)), (show (vl h 194 (40 * x1.toInt.toNat)) y65.toInt.toNat = y67 from vl_of (c := 194) (o := 40 * x1.toInt.toNat) (i := y65.toInt.toNat) (by omega) (by rw [show 40 * x1.toInt.toNat + y65.toInt.toNat = z66.toInt.toNat by omega]; exact (f52 194 _ rfl).symm.trans e67))]; exact rv_of u68.1); (· rw [rv_ni u68 (Or.inr hc), w52_1 q]; (by_cases hq : q < v52_8.toInt.toNat); (· rw [if_pos hq, if_pos (by omega)]); (· rw [if_neg hq, if_neg (by omega)]))) (by omega)
                              refine te_lv [(0, .ref 164), (1, .int x1), (2, .int y6), (3, .int v8_3), (4, .int v8_4), (5, .int y21), (6, .int v13_6), (7, .int y21), (8, .int 0)] rfl rfl ⟨rfl, rfl, rfl, rfl, rfl, rfl, rfl, rfl, rfl, trivial⟩ ?_
                              exact lp52 7 0 t13_t0 t13_t1 t13_t2 t13_t3 t13_t4 t13_t5 h21 I21 f21 (by decide) (by decide) ((g21 _ _ rfl).trans v13_t0) ((g21 _ _ rfl).trans v13_t1) ((g21 _ _ rfl).trans v13_t2) ((g21 _ _ rfl).trans v13_t3) ((g21 _ _ rfl).trans v13_t4) ((g21 _ _ rfl).trans v13_t5) (by omega) (by omega) (by omega) (by omega) (by omega) (by omega) (by omega) (by omega) (by omega) (by omega) (by omega) (by omega) (by have cc0 := (show Int32.toInt 0 = 0 from rfl); omega) (by have cc0 := (show Int32.toInt 0 = 0 from rfl); omega) (by have cc0 := (show Int32.toInt 0 = 0 from rfl); omega) (by have cc0 := (show Int32.toInt 0 = 0 from rfl); omega) (by have cc0 := (show Int32.toInt 0 = 0 from rfl); omega) (by have cc0 := (show Int32.toInt 0 = 0 from rfl); omega) (by have cc0 := (show Int32.toInt 0 = 0 from rfl); omega) (fun _ _ _ => rfl) (fun q => (if_neg (show ¬ q < (Int32.toInt 0).toNat from Nat.not_lt_zero q)).symm) (by have cc0 := (show Int32.toInt 0 = 0 from rfl); omega)
                      refine te_lv [(0, .ref 164), (1, .int x1), (2, .int y6), (3, .int v8_3), (4, .int v8_4), (5, .int (-1)), (6, .int 1)] rfl rfl ⟨rfl, rfl, rfl, rfl, rfl, rfl, rfl, trivial⟩ ?_
                      exact lp13 46657 (-1) 1 y14 y15 y16 y17 y18 y19 h11 I11 f11 (by decide) (by decide) (by decide) (by decide) e14 e15 e16 e17 e18 e19 (by omega) (by omega) (by omega) (by omega) (by omega) (by omega) (by omega) (by omega) (by omega) (by omega) (by omega) (by omega) (by (have hk0 : (0 : Int) < y6.toInt → y14.toInt = 0 := fun hl => (by (obtain ⟨p, ep, fp⟩ := w11_0 0 (by omega)); rw [int_inj e14 (show rd _ 199 (Int32.toInt 0).toNat = some (.int p) from ep)]; exact fp); have hk1 : (1 : Int) < y6.toInt → y15.toInt = 1 := fun hl => (by (obtain ⟨p, ep, fp⟩ := w11_0 1 (by omega)); rw [int_inj e15 (show rd _ 199 (Int32.toInt 1).toNat = some (.int p) from ep)]; exact fp); have hk2 : (2 : Int) < y6.toInt → y16.toInt = 2 := fun hl => (by (obtain ⟨p, ep, fp⟩ := w11_0 2 (by omega)); rw [int_inj e16 (show rd _ 199 (Int32.toInt 2).toNat = some (.int p) from ep)]; exact fp); have hk3 : (3 : Int) < y6.toInt → y17.toInt = 3 := fun hl => (by (obtain ⟨p, ep, fp⟩ := w11_0 3 (by omega)); rw [int_inj e17 (show rd _ 199 (Int32.toInt 3).toNat = some (.int p) from ep)]; exact fp); have hk4 : (4 : Int) < y6.toInt → y18.toInt = 4 := fun hl => (by (obtain ⟨p, ep, fp⟩ := w11_0 4 (by omega)); rw [int_inj e18 (show rd _ 199 (Int32.toInt 4).toNat = some (.int p) from ep)]; exact fp); have hk5 : (5 : Int) < y6.toInt → y19.toInt = 5 := fun hl => (by (obtain ⟨p, ep, fp⟩ := w11_0 5 (by omega)); rw [int_inj e19 (show rd _ 199 (Int32.toInt 5).toNat = some (.int p) from ep)]; exact fp); unfold prm; omega)) (fun j => w11_1 149 j (by decide)) (w11_1 148 41 (by decide)) ⟨720, pq_I0 (by omega) (by omega) rfl (on6_c (fun q hq => by (obtain ⟨p, ep, fp⟩ := w11_0 q (by omega)); show pq_n h11 199 q = q; rw [pq_of ep]; omega)) (pq_b7 rfl)⟩ (fun q _ => pq_rq (w11_1 183 q (by decide))) (by have cc0 := (show Int32.toInt (-1) = (-1) from rfl); have cc1 := (show Int32.toInt 1 = 1 from rfl); omega)
                    · refine te_aload_n (p2 := 162) rfl rfl rfl ?_
                      refine tg_r (p2 := 165) (i := 148) (r := 215) rfl rfl I11 rfl rfl rfl ?_
                      refine te_iload (p2 := 167) rfl rfl rfl ?_
                      refine te_iload (p2 := 169) rfl rfl rfl ?_
                      refine ts_i (p2 := 170) (i := 199) (n := 6) rfl rfl I11 rfl rfl rfl rfl (by omega) (by omega) (by omega) (by omega) (by omega) rfl (fun h70 I70 u70 => ?_)
                      have f70 := fr_st (F := F_X12_pulls) 5 f11 u70 rfl (by omega) (by omega)
                      refine ar_inc (p2 := 173) (x := v11_5) rfl rfl (by decide) rfl (by decide) rfl (by omega) (by omega) (fun z71 e71 f71 => ?_)
                      show EvP _ _ _ (173, [(5, .int z71), (0, .ref 164), (1, .int x1), (2, .int y6), (3, .int v8_3), (4, .int v8_4)], [], h70) _
                      refine te_goto rfl ?_
                      refine te_lv [(0, .ref 164), (1, .int x1), (2, .int y6), (3, .int v8_3), (4, .int v8_4), (5, .int z71)] rfl rfl ⟨rfl, rfl, rfl, rfl, rfl, rfl, trivial⟩ ?_
                      exact ih11 z71 h70 I70 f70 (by omega) (by omega) (by omega) (fun q hq => by (by_cases hqk : q = v11_5.toInt.toNat; exact ⟨v11_5, by rw [hqk]; exact u70.1, by omega⟩; obtain ⟨p, ep, fp⟩ := w11_0 q (by omega); exact ⟨p, (u70.2 _ _ (Or.inr (by omega))).trans ep, fp⟩)) (fun j k hj => (u70.2 _ _ (Or.inl hj)).trans (w11_1 j k hj)) (by omega)
                refine te_lv [(0, .ref 164), (1, .int x1), (2, .int y6), (3, .int v8_3), (4, .int v8_4), (5, .int 0)] rfl rfl ⟨rfl, rfl, rfl, rfl, rfl, rfl, trivial⟩ ?_
                exact lp11 7 0 h hI f0 (by decide) (by decide) (by have cc0 := (show Int32.toInt 0 = 0 from rfl); omega) (fun q hq => absurd hq (by rw [show Int32.toInt 0 = 0 from rfl]; omega)) (fun _ _ _ => rfl) (by have cc0 := (show Int32.toInt 0 = 0 from rfl); omega)
              · refine te_bipush (p2 := 151) (x := (-2)) rfl rfl (by decide) ?_
                exact te_iret rfl rfl ⟨hI, f0, _, rfl, (fun _ => rfl), pul_3 (by omega) (by rw [rv_of e4]; omega) (fun q => w8_2.2 (by omega) (by (have h9 := q.2); rw [rv_of e6] at h9; exact h9)) rfl rfl (fun _ _ => rfl)⟩
            · refine te_iload (p2 := 53) rfl rfl rfl ?_
              refine tz_eq (p2 := 56) rfl rfl rfl (fun c72 => ?_) (fun c72 => ?_)
              · refine te_iload (p2 := 146) rfl rfl rfl ?_
                refine tz_ne (p2 := 149) rfl rfl rfl (fun c73 => absurd c73 (by omega)) (fun c73 => ?_)
                refine te_bipush (p2 := 151) (x := (-2)) rfl rfl (by decide) ?_
                exact te_iret rfl rfl ⟨hI, f0, _, rfl, (fun _ => rfl), pul_3 (by omega) (by rw [rv_of e4]; omega) (fun q => w8_2.2 (by omega) (by (have h9 := q.2); rw [rv_of e6] at h9; exact h9)) rfl rfl (fun _ _ => rfl)⟩
              · refine te_aload_n (p2 := 57) rfl rfl rfl ?_
                refine tg_r (p2 := 60) (i := 148) (r := 210) rfl rfl hI rfl rfl rfl ?_
                refine te_bipush (p2 := 62) (x := 40) rfl rfl (by decide) ?_
                refine te_iload_n (p2 := 63) rfl rfl rfl ?_
                refine ar_mul (p2 := 64) rfl rfl (show Int32.toInt 40 = 40 from rfl) rfl (by omega) (by omega) (fun z74 e74 f74 => ?_)
                refine te_iload (p2 := 66) rfl rfl rfl ?_
                refine ar_add (p2 := 67) rfl rfl rfl rfl (by omega) (by omega) (fun z75 e75 f75 => ?_)
                refine tl_i (p2 := 68) (i := 194) (n := 160) rfl rfl hI rfl rfl rfl rfl (by omega) (by omega) (fun y76 a76 b76 g76 e76 => ?_)
                refine te_istore (p2 := 70) (lv2 := [(6, .int y76), (0, .ref 164), (1, .int x1), (2, .int y6), (3, .int v8_3), (4, .int v8_4), (5, .int v8_5)]) rfl rfl (by decide) rfl ?_
                refine te_aload_n (p2 := 71) rfl rfl rfl ?_
                refine te_iload (p2 := 73) rfl rfl rfl ?_
                refine cV_pI (p2 := 76) (i := 148) rfl rfl rfl rfl hI rfl rfl rfl (t_X12_isWall (k := y76) hI) (by decide) (fun y77 r77 => ?_)
                obtain ⟨p77, e77, a77, b77, r77⟩ := r77
                have w77 : p77 = y1 := Value.int.inj (Option.some.inj (e77.symm.trans e1))
                rw [w77] at r77
                rcases r77 with ⟨w77, c77⟩ | ⟨w77, c77⟩
                · subst w77
                  refine tz_eq (p2 := 79) rfl rfl (show Int32.toInt 1 = 1 from rfl) (fun c78 => absurd c78 (by omega)) (fun c78 => ?_)
                  refine te_aload_n (p2 := 80) rfl rfl rfl ?_
                  refine tg_r (p2 := 83) (i := 148) (r := 165) rfl rfl hI rfl rfl rfl ?_
                  refine te_bipush (p2 := 85) (x := 108) rfl rfl (by decide) ?_
                  refine te_aload_n (p2 := 86) rfl rfl rfl ?_
                  refine te_iload (p2 := 88) rfl rfl rfl ?_
                  refine cV_pI (p2 := 91) (i := 148) rfl rfl rfl rfl hI rfl rfl rfl (t_X12_isWall (k := y76) hI) (by decide) (fun y79 r79 => ?_)
                  obtain ⟨p79, e79, a79, b79, r79⟩ := r79
                  have w79 : p79 = y1 := Value.int.inj (Option.some.inj (e79.symm.trans e1))
                  rw [w79] at r79
                  rcases r79 with ⟨w79, c79⟩ | ⟨w79, c79⟩
                  · subst w79
                    refine tz_eq (p2 := 94) rfl rfl (show Int32.toInt 1 = 1 from rfl) (fun c80 => absurd c80 (by omega)) (fun c80 => ?_)
                    refine te_iload (p2 := 96) rfl rfl rfl ?_
                    refine te_goto rfl ?_
                    refine ar_add (p2 := 101) rfl rfl (show Int32.toInt 108 = 108 from rfl) rfl (by omega) (by omega) (fun z81 e81 f81 => ?_)
                    refine tl_i (p2 := 102) (i := 149) (n := 283) rfl rfl hI rfl rfl rfl rfl (by omega) (by omega) (fun y82 a82 b82 g82 e82 => ?_)
                    refine te_iconst (p2 := 103) (x := 1) rfl rfl (by decide) ?_
                    refine tb_ne (p2 := 106) rfl rfl rfl (show Int32.toInt 1 = 1 from rfl) (fun c83 => ?_) (fun c83 => ?_)
                    · refine te_iconst (p2 := 120) (x := 0) rfl rfl (by decide) ?_
                      refine te_istore (p2 := 122) (lv2 := [(4, .int 0), (6, .int y76), (0, .ref 164), (1, .int x1), (2, .int y6), (3, .int v8_3), (5, .int v8_5)]) rfl rfl (by decide) rfl ?_
                      refine te_iload_n (p2 := 123) rfl rfl rfl ?_
                      refine te_iload (p2 := 125) rfl rfl rfl ?_
                      refine tz_eq (p2 := 128) rfl rfl (show Int32.toInt 0 = 0 from rfl) (fun c84 => ?_) (fun c84 => absurd c84 (by omega))
                      refine te_iconst (p2 := 136) (x := 0) rfl rfl (by decide) ?_
                      refine te_ior (p2 := 137) (z := v8_3) rfl rfl (Int32.or_zero) ?_
                      refine te_istore_n (p2 := 138) (lv2 := [(3, .int v8_3), (4, .int 0), (6, .int y76), (0, .ref 164), (1, .int x1), (2, .int y6), (5, .int v8_5)]) rfl rfl (by decide) rfl ?_
                      refine ar_inc (p2 := 141) (x := v8_5) rfl rfl (by decide) rfl (by decide) rfl (by omega) (by omega) (fun z86 e86 f86 => ?_)
                      show EvP _ _ _ (141, [(5, .int z86), (3, .int v8_3), (4, .int 0), (6, .int y76), (0, .ref 164), (1, .int x1), (2, .int y6)], [], h) _
                      refine te_goto rfl ?_
                      refine te_lv [(0, .ref 164), (1, .int x1), (2, .int y6), (3, .int v8_3), (4, .int 0), (5, .int z86)] rfl rfl ⟨rfl, rfl, rfl, rfl, rfl, rfl, trivial⟩ ?_
                      exact ih8 v8_3 0 z86 (by decide) (by decide) (by omega) (by omega) (by have cc0 := (show Int32.toInt 0 = 0 from rfl); omega) (fun e => absurd e (by decide)) (fun e => absurd e (by decide)) ⟨fun q => absurd q (by decide), fun _ => pq_gn (k := v8_5.toInt.toNat) (by omega) (fun q => absurd q.2.1 (by rw [(show (vl h 194 (40 * x1.toInt.toNat)) v8_5.toInt.toNat = y76 from vl_of (c := 194) (o := 40 * x1.toInt.toNat) (i := v8_5.toInt.toNat) (by omega) (by rw [show 40 * x1.toInt.toNat + v8_5.toInt.toNat = z75.toInt.toNat by omega]; exact e76)), (show (absM h).up y76.toInt.toNat = y82 from (aM_up (by omega)).trans (by rw [show 108 + y76.toInt.toNat = z81.toInt.toNat by omega]; exact rv_of e82))]; omega))⟩ (by have cc0 := (show Int32.toInt 0 = 0 from rfl); omega)
                    · refine te_iload_n (p2 := 107) rfl rfl rfl ?_
                      refine te_iload (p2 := 109) rfl rfl rfl ?_
                      refine au_shr (p2 := 110) rfl rfl (fun z87 e87 => ?_)
                      refine te_iconst (p2 := 111) (x := 1) rfl rfl (by decide) ?_
                      refine au_and (p2 := 112) rfl rfl (fun z88 e88 => ?_)
                      refine tz_ne (p2 := 115) rfl rfl rfl (fun c89 => ?_) (fun c89 => ?_)
                      · refine te_iconst (p2 := 120) (x := 0) rfl rfl (by decide) ?_
                        refine te_istore (p2 := 122) (lv2 := [(4, .int 0), (6, .int y76), (0, .ref 164), (1, .int x1), (2, .int y6), (3, .int v8_3), (5, .int v8_5)]) rfl rfl (by decide) rfl ?_
                        refine te_iload_n (p2 := 123) rfl rfl rfl ?_
                        refine te_iload (p2 := 125) rfl rfl rfl ?_
                        refine tz_eq (p2 := 128) rfl rfl (show Int32.toInt 0 = 0 from rfl) (fun c90 => ?_) (fun c90 => absurd c90 (by omega))
                        refine te_iconst (p2 := 136) (x := 0) rfl rfl (by decide) ?_
                        refine te_ior (p2 := 137) (z := v8_3) rfl rfl (Int32.or_zero) ?_
                        refine te_istore_n (p2 := 138) (lv2 := [(3, .int v8_3), (4, .int 0), (6, .int y76), (0, .ref 164), (1, .int x1), (2, .int y6), (5, .int v8_5)]) rfl rfl (by decide) rfl ?_
                        refine ar_inc (p2 := 141) (x := v8_5) rfl rfl (by decide) rfl (by decide) rfl (by omega) (by omega) (fun z92 e92 f92 => ?_)
                        show EvP _ _ _ (141, [(5, .int z92), (3, .int v8_3), (4, .int 0), (6, .int y76), (0, .ref 164), (1, .int x1), (2, .int y6)], [], h) _
                        refine te_goto rfl ?_
                        refine te_lv [(0, .ref 164), (1, .int x1), (2, .int y6), (3, .int v8_3), (4, .int 0), (5, .int z92)] rfl rfl ⟨rfl, rfl, rfl, rfl, rfl, rfl, trivial⟩ ?_
                        exact ih8 v8_3 0 z92 (by decide) (by decide) (by omega) (by omega) (by have cc0 := (show Int32.toInt 0 = 0 from rfl); omega) (fun e => absurd e (by decide)) (fun e => absurd e (by decide)) ⟨fun q => absurd q (by decide), fun _ => pq_gn (k := v8_5.toInt.toNat) (by omega) (fun q => absurd ((pq_md (w8_2.1 (by omega)).2 (show (vl h 194 (40 * x1.toInt.toNat)) v8_5.toInt.toNat = y76 from vl_of (c := 194) (o := 40 * x1.toInt.toNat) (i := v8_5.toInt.toNat) (by omega) (by rw [show 40 * x1.toInt.toNat + v8_5.toInt.toNat = z75.toInt.toNat by omega]; exact e76)) (by omega) (by omega) e87 e88).2 q.2.2) (by omega))⟩ (by have cc0 := (show Int32.toInt 0 = 0 from rfl); omega)
                      · refine te_iconst (p2 := 116) (x := 1) rfl rfl (by decide) ?_
                        refine te_goto rfl ?_
                        refine te_istore (p2 := 122) (lv2 := [(4, .int 1), (6, .int y76), (0, .ref 164), (1, .int x1), (2, .int y6), (3, .int v8_3), (5, .int v8_5)]) rfl rfl (by decide) rfl ?_
                        refine te_iload_n (p2 := 123) rfl rfl rfl ?_
                        refine te_iload (p2 := 125) rfl rfl rfl ?_
                        refine tz_eq (p2 := 128) rfl rfl (show Int32.toInt 1 = 1 from rfl) (fun c93 => absurd c93 (by omega)) (fun c93 => ?_)
                        refine te_iconst (p2 := 129) (x := 1) rfl rfl (by decide) ?_
                        refine te_iload (p2 := 131) rfl rfl rfl ?_
                        refine au_shl (p2 := 132) rfl rfl (fun z94 e94 => ?_)
                        refine te_goto rfl ?_
                        refine au_or (p2 := 137) rfl rfl (fun z95 e95 => ?_)
                        refine te_istore_n (p2 := 138) (lv2 := [(3, .int z95), (4, .int 1), (6, .int y76), (0, .ref 164), (1, .int x1), (2, .int y6), (5, .int v8_5)]) rfl rfl (by decide) rfl ?_
                        refine ar_inc (p2 := 141) (x := v8_5) rfl rfl (by decide) rfl (by decide) rfl (by omega) (by omega) (fun z96 e96 f96 => ?_)
                        show EvP _ _ _ (141, [(5, .int z96), (3, .int z95), (4, .int 1), (6, .int y76), (0, .ref 164), (1, .int x1), (2, .int y6)], [], h) _
                        refine te_goto rfl ?_
                        refine te_lv [(0, .ref 164), (1, .int x1), (2, .int y6), (3, .int z95), (4, .int 1), (5, .int z96)] rfl rfl ⟨rfl, rfl, rfl, rfl, rfl, rfl, trivial⟩ ?_
                        exact ih8 z95 1 z96 (by decide) (by decide) (by omega) (by omega) (by have cc0 := (show Int32.toInt 1 = 1 from rfl); omega) (fun _ => allB_s (k := v8_5.toInt.toNat) (w8_0 (by omega)) (by omega) f96 (by rw [show 40 * x1.toInt.toNat + v8_5.toInt.toNat = z75.toInt.toNat by omega]; exact e76) (by omega) (by omega)) (fun _ => allB_s (k := v8_5.toInt.toNat) (w8_1 (by omega)) (by omega) f96 (by rw [show 40 * x1.toInt.toNat + v8_5.toInt.toNat = z75.toInt.toNat by omega]; exact e76) (by omega) (by omega)) ⟨fun _ => ⟨pq_gs (w8_2.1 (by omega)).1 (by omega) ⟨(by rw [(show (vl h 194 (40 * x1.toInt.toNat)) v8_5.toInt.toNat = y76 from vl_of (c := 194) (o := 40 * x1.toInt.toNat) (i := v8_5.toInt.toNat) (by omega) (by rw [show 40 * x1.toInt.toNat + v8_5.toInt.toNat = z75.toInt.toNat by omega]; exact e76)), (show (cM h).nw = y1 from rv_of e1)]; exact ⟨by omega, by omega⟩), (by rw [(show (vl h 194 (40 * x1.toInt.toNat)) v8_5.toInt.toNat = y76 from vl_of (c := 194) (o := 40 * x1.toInt.toNat) (i := v8_5.toInt.toNat) (by omega) (by rw [show 40 * x1.toInt.toNat + v8_5.toInt.toNat = z75.toInt.toNat by omega]; exact e76)), (show (absM h).up y76.toInt.toNat = y82 from (aM_up (by omega)).trans (by rw [show 108 + y76.toInt.toNat = z81.toInt.toNat by omega]; exact rv_of e82))]; omega), (pq_md (w8_2.1 (by omega)).2 (show (vl h 194 (40 * x1.toInt.toNat)) v8_5.toInt.toNat = y76 from vl_of (c := 194) (o := 40 * x1.toInt.toNat) (i := v8_5.toInt.toNat) (by omega) (by rw [show 40 * x1.toInt.toNat + v8_5.toInt.toNat = z75.toInt.toNat by omega]; exact e76)) (by omega) (by omega) e87 e88).1 (by omega)⟩, pq_ms (w8_2.1 (by omega)).2 (by omega) (show (vl h 194 (40 * x1.toInt.toNat)) v8_5.toInt.toNat = y76 from vl_of (c := 194) (o := 40 * x1.toInt.toNat) (i := v8_5.toInt.toNat) (by omega) (by rw [show 40 * x1.toInt.toNat + v8_5.toInt.toNat = z75.toInt.toNat by omega]; exact e76)) (by omega) (by omega) e94 e95⟩, fun q => absurd q (by decide)⟩ (by have cc0 := (show Int32.toInt 1 = 1 from rfl); omega)
                  · subst w79
                    refine tz_eq (p2 := 94) rfl rfl (show Int32.toInt 0 = 0 from rfl) (fun c97 => ?_) (fun c97 => absurd c97 (by omega))
                    refine te_iconst (p2 := 100) (x := 0) rfl rfl (by decide) ?_
                    refine te_iadd (p2 := 101) (z := 108) rfl rfl (by decide) ?_
                    refine tl_i (p2 := 102) (i := 149) (n := 283) rfl rfl hI rfl rfl rfl rfl (by decide) (by decide) (fun y99 a99 b99 g99 e99 => ?_)
                    refine te_iconst (p2 := 103) (x := 1) rfl rfl (by decide) ?_
                    refine tb_ne (p2 := 106) rfl rfl rfl (show Int32.toInt 1 = 1 from rfl) (fun c100 => ?_) (fun c100 => ?_)
                    · refine te_iconst (p2 := 120) (x := 0) rfl rfl (by decide) ?_
                      refine te_istore (p2 := 122) (lv2 := [(4, .int 0), (6, .int y76), (0, .ref 164), (1, .int x1), (2, .int y6), (3, .int v8_3), (5, .int v8_5)]) rfl rfl (by decide) rfl ?_
                      refine te_iload_n (p2 := 123) rfl rfl rfl ?_
                      refine te_iload (p2 := 125) rfl rfl rfl ?_
                      refine tz_eq (p2 := 128) rfl rfl (show Int32.toInt 0 = 0 from rfl) (fun c101 => ?_) (fun c101 => absurd c101 (by omega))
                      refine te_iconst (p2 := 136) (x := 0) rfl rfl (by decide) ?_
                      refine te_ior (p2 := 137) (z := v8_3) rfl rfl (Int32.or_zero) ?_
                      refine te_istore_n (p2 := 138) (lv2 := [(3, .int v8_3), (4, .int 0), (6, .int y76), (0, .ref 164), (1, .int x1), (2, .int y6), (5, .int v8_5)]) rfl rfl (by decide) rfl ?_
                      refine ar_inc (p2 := 141) (x := v8_5) rfl rfl (by decide) rfl (by decide) rfl (by omega) (by omega) (fun z103 e103 f103 => ?_)
                      show EvP _ _ _ (141, [(5, .int z103), (3, .int v8_3), (4, .int 0), (6, .int y76), (0, .ref 164), (1, .int x1), (2, .int y6)], [], h) _
                      refine te_goto rfl ?_
                      refine te_lv [(0, .ref 164), (1, .int x1), (2, .int y6), (3, .int v8_3), (4, .int 0), (5, .int z103)] rfl rfl ⟨rfl, rfl, rfl, rfl, rfl, rfl, trivial⟩ ?_
                      exact ih8 v8_3 0 z103 (by decide) (by decide) (by omega) (by omega) (by have cc0 := (show Int32.toInt 0 = 0 from rfl); omega) (fun e => absurd e (by decide)) (fun e => absurd e (by decide)) (by exfalso; omega) (by have cc0 := (show Int32.toInt 0 = 0 from rfl); omega)
                    · refine te_iload_n (p2 := 107) rfl rfl rfl ?_
                      refine te_iload (p2 := 109) rfl rfl rfl ?_
                      refine au_shr (p2 := 110) rfl rfl (fun z104 e104 => ?_)
                      refine te_iconst (p2 := 111) (x := 1) rfl rfl (by decide) ?_
                      refine au_and (p2 := 112) rfl rfl (fun z105 e105 => ?_)
                      refine tz_ne (p2 := 115) rfl rfl rfl (fun c106 => ?_) (fun c106 => ?_)
                      · refine te_iconst (p2 := 120) (x := 0) rfl rfl (by decide) ?_
                        refine te_istore (p2 := 122) (lv2 := [(4, .int 0), (6, .int y76), (0, .ref 164), (1, .int x1), (2, .int y6), (3, .int v8_3), (5, .int v8_5)]) rfl rfl (by decide) rfl ?_
                        refine te_iload_n (p2 := 123) rfl rfl rfl ?_
                        refine te_iload (p2 := 125) rfl rfl rfl ?_
                        refine tz_eq (p2 := 128) rfl rfl (show Int32.toInt 0 = 0 from rfl) (fun c107 => ?_) (fun c107 => absurd c107 (by omega))
                        refine te_iconst (p2 := 136) (x := 0) rfl rfl (by decide) ?_
                        refine te_ior (p2 := 137) (z := v8_3) rfl rfl (Int32.or_zero) ?_
                        refine te_istore_n (p2 := 138) (lv2 := [(3, .int v8_3), (4, .int 0), (6, .int y76), (0, .ref 164), (1, .int x1), (2, .int y6), (5, .int v8_5)]) rfl rfl (by decide) rfl ?_
                        refine ar_inc (p2 := 141) (x := v8_5) rfl rfl (by decide) rfl (by decide) rfl (by omega) (by omega) (fun z109 e109 f109 => ?_)
                        show EvP _ _ _ (141, [(5, .int z109), (3, .int v8_3), (4, .int 0), (6, .int y76), (0, .ref 164), (1, .int x1), (2, .int y6)], [], h) _
                        refine te_goto rfl ?_
                        refine te_lv [(0, .ref 164), (1, .int x1), (2, .int y6), (3, .int v8_3), (4, .int 0), (5, .int z109)] rfl rfl ⟨rfl, rfl, rfl, rfl, rfl, rfl, trivial⟩ ?_
                        exact ih8 v8_3 0 z109 (by decide) (by decide) (by omega) (by omega) (by have cc0 := (show Int32.toInt 0 = 0 from rfl); omega) (fun e => absurd e (by decide)) (fun e => absurd e (by decide)) (by exfalso; omega) (by have cc0 := (show Int32.toInt 0 = 0 from rfl); omega)
                      · refine te_iconst (p2 := 116) (x := 1) rfl rfl (by decide) ?_
                        refine te_goto rfl ?_
                        refine te_istore (p2 := 122) (lv2 := [(4, .int 1), (6, .int y76), (0, .ref 164), (1, .int x1), (2, .int y6), (3, .int v8_3), (5, .int v8_5)]) rfl rfl (by decide) rfl ?_
                        refine te_iload_n (p2 := 123) rfl rfl rfl ?_
                        refine te_iload (p2 := 125) rfl rfl rfl ?_
                        refine tz_eq (p2 := 128) rfl rfl (show Int32.toInt 1 = 1 from rfl) (fun c110 => absurd c110 (by omega)) (fun c110 => ?_)
                        refine te_iconst (p2 := 129) (x := 1) rfl rfl (by decide) ?_
                        refine te_iload (p2 := 131) rfl rfl rfl ?_
                        refine au_shl (p2 := 132) rfl rfl (fun z111 e111 => ?_)
                        refine te_goto rfl ?_
                        refine au_or (p2 := 137) rfl rfl (fun z112 e112 => ?_)
                        refine te_istore_n (p2 := 138) (lv2 := [(3, .int z112), (4, .int 1), (6, .int y76), (0, .ref 164), (1, .int x1), (2, .int y6), (5, .int v8_5)]) rfl rfl (by decide) rfl ?_
                        refine ar_inc (p2 := 141) (x := v8_5) rfl rfl (by decide) rfl (by decide) rfl (by omega) (by omega) (fun z113 e113 f113 => ?_)
                        show EvP _ _ _ (141, [(5, .int z113), (3, .int z112), (4, .int 1), (6, .int y76), (0, .ref 164), (1, .int x1), (2, .int y6)], [], h) _
                        refine te_goto rfl ?_
                        refine te_lv [(0, .ref 164), (1, .int x1), (2, .int y6), (3, .int z112), (4, .int 1), (5, .int z113)] rfl rfl ⟨rfl, rfl, rfl, rfl, rfl, rfl, trivial⟩ ?_
                        exact ih8 z112 1 z113 (by decide) (by decide) (by omega) (by omega) (by have cc0 := (show Int32.toInt 1 = 1 from rfl); omega) (fun _ => allB_s (k := v8_5.toInt.toNat) (w8_0 (by omega)) (by omega) f113 (by rw [show 40 * x1.toInt.toNat + v8_5.toInt.toNat = z75.toInt.toNat by omega]; exact e76) (by omega) (by omega)) (fun _ => allB_s (k := v8_5.toInt.toNat) (w8_1 (by omega)) (by omega) f113 (by rw [show 40 * x1.toInt.toNat + v8_5.toInt.toNat = z75.toInt.toNat by omega]; exact e76) (by omega) (by omega)) (by exfalso; omega) (by have cc0 := (show Int32.toInt 1 = 1 from rfl); omega)
                · subst w77
                  refine tz_eq (p2 := 79) rfl rfl (show Int32.toInt 0 = 0 from rfl) (fun c114 => ?_) (fun c114 => absurd c114 (by omega))
                  refine te_iconst (p2 := 120) (x := 0) rfl rfl (by decide) ?_
                  refine te_istore (p2 := 122) (lv2 := [(4, .int 0), (6, .int y76), (0, .ref 164), (1, .int x1), (2, .int y6), (3, .int v8_3), (5, .int v8_5)]) rfl rfl (by decide) rfl ?_
                  refine te_iload_n (p2 := 123) rfl rfl rfl ?_
                  refine te_iload (p2 := 125) rfl rfl rfl ?_
                  refine tz_eq (p2 := 128) rfl rfl (show Int32.toInt 0 = 0 from rfl) (fun c115 => ?_) (fun c115 => absurd c115 (by omega))
                  refine te_iconst (p2 := 136) (x := 0) rfl rfl (by decide) ?_
                  refine te_ior (p2 := 137) (z := v8_3) rfl rfl (Int32.or_zero) ?_
                  refine te_istore_n (p2 := 138) (lv2 := [(3, .int v8_3), (4, .int 0), (6, .int y76), (0, .ref 164), (1, .int x1), (2, .int y6), (5, .int v8_5)]) rfl rfl (by decide) rfl ?_
                  refine ar_inc (p2 := 141) (x := v8_5) rfl rfl (by decide) rfl (by decide) rfl (by omega) (by omega) (fun z117 e117 f117 => ?_)
                  show EvP _ _ _ (141, [(5, .int z117), (3, .int v8_3), (4, .int 0), (6, .int y76), (0, .ref 164), (1, .int x1), (2, .int y6)], [], h) _
                  refine te_goto rfl ?_
                  refine te_lv [(0, .ref 164), (1, .int x1), (2, .int y6), (3, .int v8_3), (4, .int 0), (5, .int z117)] rfl rfl ⟨rfl, rfl, rfl, rfl, rfl, rfl, trivial⟩ ?_
                  exact ih8 v8_3 0 z117 (by decide) (by decide) (by omega) (by omega) (by have cc0 := (show Int32.toInt 0 = 0 from rfl); omega) (fun e => absurd e (by decide)) (fun e => absurd e (by decide)) ⟨fun q => absurd q (by decide), fun _ => pq_gn (k := v8_5.toInt.toNat) (by omega) (fun q => absurd q.1 (by rw [(show (vl h 194 (40 * x1.toInt.toNat)) v8_5.toInt.toNat = y76 from vl_of (c := 194) (o := 40 * x1.toInt.toNat) (i := v8_5.toInt.toNat) (by omega) (by rw [show 40 * x1.toInt.toNat + v8_5.toInt.toNat = z75.toInt.toNat by omega]; exact e76)), (show (cM h).nw = y1 from rv_of e1)]; omega))⟩ (by have cc0 := (show Int32.toInt 0 = 0 from rfl); omega)
        refine te_lv [(0, .ref 164), (1, .int x1), (2, .int y6), (3, .int 0), (4, .int 1), (5, .int 0)] rfl rfl ⟨rfl, rfl, rfl, rfl, rfl, rfl, trivial⟩ ?_
        exact lp8 41 0 1 0 (by decide) (by decide) (by decide) (by decide) (by have cc0 := (show Int32.toInt 0 = 0 from rfl); have cc1 := (show Int32.toInt 1 = 1 from rfl); omega) (fun _ => allB_0 (by decide)) (fun _ => allB_0 (by decide)) ⟨fun _ => ⟨pq_g0 (by decide), pq_m0 (by decide)⟩, fun q => absurd q (by decide)⟩ (by have cc0 := (show Int32.toInt 0 = 0 from rfl); have cc1 := (show Int32.toInt 1 = 1 from rfl); omega)
      · subst w7
        have cc7_1 := (show Int32.toInt 1 = 1 from rfl)
        have cc7_2 := (show Int32.toInt 6 = 6 from rfl)
        refine te_istore (p2 := 42) (lv2 := [(4, .int 0), (3, .int 0), (2, .int y6), (0, .ref 164), (1, .int x1)]) rfl rfl (by decide) rfl ?_
        refine te_iconst (p2 := 43) (x := 0) rfl rfl (by decide) ?_
        refine te_istore (p2 := 45) (lv2 := [(5, .int 0), (4, .int 0), (3, .int 0), (2, .int y6), (0, .ref 164), (1, .int x1)]) rfl rfl (by decide) rfl ?_
        have lp118 : ∀ (n118 : Nat) (v118_3 v118_4 v118_5 : Int32) , 0 ≤ v118_4.toInt → v118_4.toInt ≤ 0 → 0 ≤ v118_5.toInt → v118_5.toInt ≤ 40 → 40 - v118_5.toInt < (n118 : Int) → EvP im_K0 4 mX12_pulls (45, [(0, .ref 164), (1, .int x1), (2, .int y6), (3, .int v118_3), (4, .int v118_4), (5, .int v118_5)], [], h) (fun v h2 => tI h2 ∧ fr F_X12_pulls h h2 ∧ ∃ y : Int32, v = some (.int y) ∧ D2_pulls x1 y h h2) := by
          intro n118
          induction n118 with
          | zero => intro v118_3 v118_4 v118_5 a118_4 b118_4 a118_5 b118_5 m118; exfalso; omega
          | succ n118 ih118 =>
            intro v118_3 v118_4 v118_5 a118_4 b118_4 a118_5 b118_5 m118
            refine te_iload (p2 := 47) rfl rfl rfl ?_
            refine te_iload_n (p2 := 48) rfl rfl rfl ?_
            refine tb_ge (p2 := 51) rfl rfl rfl rfl (fun c119 => ?_) (fun c119 => ?_)
            · refine te_iload (p2 := 146) rfl rfl rfl ?_
              refine tz_ne (p2 := 149) rfl rfl rfl (fun c120 => absurd c120 (by omega)) (fun c120 => ?_)
              refine te_bipush (p2 := 151) (x := (-2)) rfl rfl (by decide) ?_
              exact te_iret rfl rfl ⟨hI, f0, _, rfl, (fun _ => rfl), pul_3 (by omega) (by rw [rv_of e4]; omega) (fun q => absurd q.1 (by rw [rv_of e6]; omega)) rfl rfl (fun _ _ => rfl)⟩
            · refine te_iload (p2 := 53) rfl rfl rfl ?_
              refine tz_eq (p2 := 56) rfl rfl rfl (fun c121 => ?_) (fun c121 => absurd c121 (by omega))
              refine te_iload (p2 := 146) rfl rfl rfl ?_
              refine tz_ne (p2 := 149) rfl rfl rfl (fun c122 => absurd c122 (by omega)) (fun c122 => ?_)
              refine te_bipush (p2 := 151) (x := (-2)) rfl rfl (by decide) ?_
              exact te_iret rfl rfl ⟨hI, f0, _, rfl, (fun _ => rfl), pul_3 (by omega) (by rw [rv_of e4]; omega) (fun q => absurd q.1 (by rw [rv_of e6]; omega)) rfl rfl (fun _ _ => rfl)⟩
        refine te_lv [(0, .ref 164), (1, .int x1), (2, .int y6), (3, .int 0), (4, .int 0), (5, .int 0)] rfl rfl ⟨rfl, rfl, rfl, rfl, rfl, rfl, trivial⟩ ?_
        exact lp118 41 0 0 0 (by decide) (by decide) (by decide) (by decide) (by have cc0 := (show Int32.toInt 0 = 0 from rfl); omega)
    · refine te_bipush (p2 := 23) (x := (-11)) rfl rfl (by decide) ?_
      exact te_iret rfl rfl ⟨hI, f0, _, rfl, (fun _ => rfl), pul_2 (by omega) (by rw [rv_of e4]; omega) rfl rfl (fun _ _ => rfl)⟩
  · subst w2
    have cc2_1 := (show Int32.toInt 0 = 0 from rfl)
    have cc2_2 := (show Int32.toInt 3 = 3 from rfl)
    refine tz_ne (p2 := 9) rfl rfl (show Int32.toInt 0 = 0 from rfl) (fun c123 => absurd c123 (by omega)) (fun c123 => ?_)
    refine te_iconst (p2 := 10) (x := (-1)) rfl rfl (by decide) ?_
    exact te_iret rfl rfl ⟨hI, f0, _, rfl, (fun _ => rfl), pul_1 (by omega) rfl rfl (fun _ _ => rfl)⟩
theorem c_X12_pulls {x1 : Int32} {h : im_H} (hI : tI h) : CaP 5 168 [.ref 164, .int x1] h (fun v h2 => tI h2 ∧ fr F_X12_pulls h h2 ∧ ∃ y : Int32, v = some (.int y) ∧ Q2_pulls x1 y h h2) := by
  by_cases hp : tabM h
  · exact cap_imp (d_X12_pulls hI hp) (fun v h2 ⟨a, f, y, e, q⟩ => ⟨a, f, y, e, fun _ => q⟩)
  · exact cap_imp (t_X12_pulls hI) (fun v h2 ⟨a, f, y, e, _⟩ => ⟨a, f, y, e, fun q => absurd q hp⟩)
