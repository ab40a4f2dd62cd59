set_option maxRecDepth 20000 in
set_option maxHeartbeats 4000000 in
theorem c_X12_late {s : Int32} {n : Int32} {h : im_H} (hI : tI h) (p_s0 : 0 ≤ s.toInt) (p_s1 : s.toInt ≤ 3) (p_n0 : 1 ≤ n.toInt) (p_n1 : n.toInt ≤ 6) (pr0 : allB h 194 (40 * s.toInt.toNat) n.toInt 15) (pr1 : allB h 199 0 n.toInt (n.toInt - 1)) (pr2 : ∀ w : Int32, rd h 148 21 = some (.int w) → allB h 194 (40 * s.toInt.toNat) n.toInt (w.toInt - 1)) (pr3 : ∀ m : Nat, m < n.toInt.toNat → rd h 149 (108 + pq_W h s.toInt.toNat m) = some (.int 1)) (pr4 : ∀ m k : Nat, k < m → m < n.toInt.toNat → pq_W h s.toInt.toNat k ≠ pq_W h s.toInt.toNat m) : CaP 4 166 [.ref 164, .int s, .int n] h (fun v h2 => tI h2 ∧ fr F_X12_late h h2 ∧ ∃ y : Int32, v = some (.int y) ∧ (∀ j : Nat, rd h2 149 j = rd h 149 j) ∧ (0 ≤ y.toInt ∧ y.toInt ≤ 6) ∧ y.toInt = pq_l (pq_flW h s.toInt.toNat) n.toInt.toNat (on6 n.toInt.toNat (pq_n h 199))) := by
  refine cap_of (d := 3) (M := mX12_late) rfl (Nat.le_of_ble_eq_true rfl) ?_
  show EvP im_K0 3 mX12_late (0, [(0, .ref 164), (1, .int s), (2, .int n)], [], h) _
  have f0 : fr F_X12_late h h := fr_rf
  refine te_iconst (p2 := 1) (x := 0) rfl rfl (by decide) ?_
  obtain ⟨v1, e1, y1, w1, a1, b1, _⟩ := hI.2.1 148 21 (.inl (0, 16, 9999999999)) rfl
  subst w1
  refine te_istore_n (p2 := 2) (lv2 := [(3, .int 0), (0, .ref 164), (1, .int s), (2, .int n)]) rfl rfl (by decide) rfl ?_
  refine te_iconst (p2 := 3) (x := 0) rfl rfl (by decide) ?_
  refine te_istore (p2 := 5) (lv2 := [(4, .int 0), (3, .int 0), (0, .ref 164), (1, .int s), (2, .int n)]) rfl rfl (by decide) rfl ?_
  have lp2 : ∀ (n2 : Nat) (v2_4 : Int32) (h2 : im_H), tI h2 → fr F_X12_late h h2 → 0 ≤ v2_4.toInt → v2_4.toInt ≤ 16 → v2_4.toInt ≤ y1.toInt → (∀ m : Nat, (m : Int) < v2_4.toInt → rd h2 197 m = rd h 149 (108 + m) ∧ rd h2 198 m = rd h 149 (124 + m)) → (∀ j : Nat, rd h2 149 j = rd h 149 j) → 16 - v2_4.toInt < (n2 : Int) → EvP im_K0 3 mX12_late (5, [(0, .ref 164), (1, .int s), (2, .int n), (3, .int 0), (4, .int v2_4)], [], h2) (fun v h2 => tI h2 ∧ fr F_X12_late h h2 ∧ ∃ y : Int32, v = some (.int y) ∧ (∀ j : Nat, rd h2 149 j = rd h 149 j) ∧ (0 ≤ y.toInt ∧ y.toInt ≤ 6) ∧ y.toInt = pq_l (pq_flW h s.toInt.toNat) n.toInt.toNat (on6 n.toInt.toNat (pq_n h 199))) := by
    intro n2
    induction n2 with
    | zero => intro v2_4 h2 I2 f2 a2_4 b2_4 l2_0 w2_0 w2_1 m2; exfalso; omega
    | succ n2 ih2 =>
      intro v2_4 h2 I2 f2 a2_4 b2_4 l2_0 w2_0 w2_1 m2
      refine te_iload (p2 := 7) rfl rfl rfl ?_
      refine te_aload_n (p2 := 8) rfl rfl rfl ?_
      refine tg_e (p2 := 11) (i := 148) (v := .int y1) rfl rfl I2 rfl rfl ((f2 _ _ rfl).trans e1) ?_
      refine tb_ge (p2 := 14) rfl rfl rfl rfl (fun c3 => ?_) (fun c3 => ?_)
      · refine te_iconst (p2 := 55) (x := 0) rfl rfl (by decide) ?_
        refine te_istore (p2 := 57) (lv2 := [(4, .int 0), (0, .ref 164), (1, .int s), (2, .int n), (3, .int 0)]) rfl rfl (by decide) rfl ?_
        have lp4 : ∀ (n4 : Nat) (v4_3 v4_4 : Int32) (h4 : im_H), tI h4 → fr F_X12_late h h4 → 0 ≤ v4_3.toInt → v4_3.toInt ≤ 6 → 0 ≤ v4_4.toInt → v4_4.toInt ≤ 6 → v4_3.toInt ≤ v4_4.toInt → v4_4.toInt ≤ n.toInt → (∀ m : Nat, (m : Int) < y1.toInt → rd h4 197 m = rd h 149 (108 + m) ∧ rd h4 198 m = rd h 149 (124 + m)) → (∀ j : Nat, ¬ (108 ≤ j ∧ (j : Int) < 108 + y1.toInt) → ¬ (124 ≤ j ∧ (j : Int) < 124 + y1.toInt) → rd h4 149 j = rd h 149 j) → (v4_3.toInt = pq_c (fun m => pq_eM h (pq_W h s.toInt.toNat m) m) v4_4.toInt.toNat) → (∀ v : Nat, (v : Int) < y1.toInt → rd h 149 (108 + v) = some (.int 1) → (∀ m : Nat, m < v4_4.toInt.toNat → pq_W h s.toInt.toNat m ≠ v) → pq_v h h4 v4_4.toInt.toNat v) → 6 - v4_4.toInt < (n4 : Int) → EvP im_K0 3 mX12_late (57, [(0, .ref 164), (1, .int s), (2, .int n), (3, .int v4_3), (4, .int v4_4)], [], h4) (fun v h2 => tI h2 ∧ fr F_X12_late h h2 ∧ ∃ y : Int32, v = some (.int y) ∧ (∀ j : Nat, rd h2 149 j = rd h 149 j) ∧ (0 ≤ y.toInt ∧ y.toInt ≤ 6) ∧ y.toInt = pq_l (pq_flW h s.toInt.toNat) n.toInt.toNat (on6 n.toInt.toNat (pq_n h 199))) := by
          intro n4
          induction n4 with
          | zero => intro v4_3 v4_4 h4 I4 f4 a4_3 b4_3 a4_4 b4_4 l4_0 l4_1 w4_0 w4_1 w4_2 w4_3 m4; exfalso; omega
          | succ n4 ih4 =>
            intro v4_3 v4_4 h4 I4 f4 a4_3 b4_3 a4_4 b4_4 l4_0 l4_1 w4_0 w4_1 w4_2 w4_3 m4
            refine te_iload (p2 := 59) rfl rfl rfl ?_
            refine te_iload_n (p2 := 60) rfl rfl rfl ?_
            refine tb_ge (p2 := 63) rfl rfl rfl rfl (fun c5 => ?_) (fun c5 => ?_)
            · refine te_iconst (p2 := 177) (x := 0) rfl rfl (by decide) ?_
              refine te_istore (p2 := 179) (lv2 := [(4, .int 0), (0, .ref 164), (1, .int s), (2, .int n), (3, .int v4_3)]) rfl rfl (by decide) rfl ?_
              have lp6 : ∀ (n6 : Nat) (v6_4 : Int32) (h6 : im_H), tI h6 → fr F_X12_late h h6 → 0 ≤ v6_4.toInt → v6_4.toInt ≤ 16 → v6_4.toInt ≤ y1.toInt → (∀ m : Nat, (m : Int) < y1.toInt → rd h6 197 m = rd h 149 (108 + m) ∧ rd h6 198 m = rd h 149 (124 + m)) → (∀ m : Nat, (m : Int) < v6_4.toInt → rd h6 149 (108 + m) = rd h 149 (108 + m) ∧ rd h6 149 (124 + m) = rd h 149 (124 + m)) → (∀ j : Nat, ¬ (108 ≤ j ∧ (j : Int) < 108 + y1.toInt) → ¬ (124 ≤ j ∧ (j : Int) < 124 + y1.toInt) → rd h6 149 j = rd h 149 j) → 16 - v6_4.toInt < (n6 : Int) → EvP im_K0 3 mX12_late (179, [(0, .ref 164), (1, .int s), (2, .int n), (3, .int v4_3), (4, .int v6_4)], [], h6) (fun v h2 => tI h2 ∧ fr F_X12_late h h2 ∧ ∃ y : Int32, v = some (.int y) ∧ (∀ j : Nat, rd h2 149 j = rd h 149 j) ∧ (0 ≤ y.toInt ∧ y.toInt ≤ 6) ∧ y.toInt = pq_l (pq_flW h s.toInt.toNat) n.toInt.toNat (on6 n.toInt.toNat (pq_n h 199))) := by
                intro n6
                induction n6 with
                | zero => intro v6_4 h6 I6 f6 a6_4 b6_4 l6_0 w6_0 w6_1 w6_2 m6; exfalso; omega
                | succ n6 ih6 =>
                  intro v6_4 h6 I6 f6 a6_4 b6_4 l6_0 w6_0 w6_1 w6_2 m6
                  refine te_iload (p2 := 181) rfl rfl rfl ?_
                  refine te_aload_n (p2 := 182) rfl rfl rfl ?_
                  refine tg_e (p2 := 185) (i := 148) (v := .int y1) rfl rfl I6 rfl rfl ((f6 _ _ rfl).trans e1) ?_
                  refine tb_ge (p2 := 188) rfl rfl rfl rfl (fun c7 => ?_) (fun c7 => ?_)
                  · refine te_iload_n (p2 := 229) rfl rfl rfl ?_
                    exact te_iret rfl rfl ⟨I6, f6, _, rfl, (fun j => by (by_cases ha : 108 ≤ j ∧ (j : Int) < 108 + y1.toInt); (· have e := (w6_1 (j - 108) (by omega)).1; rw [show 108 + (j - 108) = j by omega] at e; exact e); (· by_cases hb : 124 ≤ j ∧ (j : Int) < 124 + y1.toInt; (· have e := (w6_1 (j - 124) (by omega)).2; rw [show 124 + (j - 124) = j by omega] at e; exact e); (· exact w6_2 j ha hb))), ⟨by omega, by omega⟩, (by rw [show n.toInt.toNat = v4_4.toInt.toNat by omega]; exact w4_2.trans (pq_cc _ (fun i hi => by show pq_eM h (pq_W h s.toInt.toNat i) i ↔ pq_eM h (rv h 194 (40 * s.toInt.toNat + o6at (on6 v4_4.toInt.toNat (pq_n h 199)) i)).toInt.toNat i; rw [on6_at (by omega) hi]; exact Iff.rfl)))⟩
                  · refine te_aload_n (p2 := 189) rfl rfl rfl ?_
                    refine tg_r (p2 := 192) (i := 148) (r := 165) rfl rfl I6 rfl rfl rfl ?_
                    refine te_bipush (p2 := 194) (x := 108) rfl rfl (by decide) ?_
                    refine te_iload (p2 := 196) rfl rfl rfl ?_
                    refine ar_add (p2 := 197) rfl rfl (show Int32.toInt 108 = 108 from rfl) rfl (by omega) (by omega) (fun z8 e8 f8 => ?_)
                    refine te_aload_n (p2 := 198) rfl rfl rfl ?_
                    refine tg_r (p2 := 201) (i := 148) (r := 213) rfl rfl I6 rfl rfl rfl ?_
                    refine te_iload (p2 := 203) rfl rfl rfl ?_
                    refine tl_i (p2 := 204) (i := 197) (n := 16) rfl rfl I6 rfl rfl rfl rfl (by omega) (by omega) (fun y9 a9 b9 g9 e9 => ?_)
                    refine ts_i (p2 := 205) (i := 149) (n := 283) rfl rfl I6 rfl rfl rfl rfl (by omega) (by omega) (i32_lo _) (i32_hi _) (i32_ho _) rfl (fun h10 I10 u10 => ?_)
                    have f10 := fr_st (F := F_X12_late) 0 f6 u10 rfl (by omega) (by omega)
                    refine te_aload_n (p2 := 206) rfl rfl rfl ?_
                    refine tg_r (p2 := 209) (i := 148) (r := 165) rfl rfl I10 rfl rfl rfl ?_
                    refine te_bipush (p2 := 211) (x := 124) rfl rfl (by decide) ?_
                    refine te_iload (p2 := 213) rfl rfl rfl ?_
                    refine ar_add (p2 := 214) rfl rfl (show Int32.toInt 124 = 124 from rfl) rfl (by omega) (by omega) (fun z11 e11 f11 => ?_)
                    refine te_aload_n (p2 := 215) rfl rfl rfl ?_
                    refine tg_r (p2 := 218) (i := 148) (r := 214) rfl rfl I10 rfl rfl rfl ?_
                    refine te_iload (p2 := 220) rfl rfl rfl ?_
                    refine tl_i (p2 := 221) (i := 198) (n := 16) rfl rfl I10 rfl rfl rfl rfl (by omega) (by omega) (fun y12 a12 b12 g12 e12 => ?_)
                    refine ts_i (p2 := 222) (i := 149) (n := 283) rfl rfl I10 rfl rfl rfl rfl (by omega) (by omega) (i32_lo _) (i32_hi _) (i32_ho _) rfl (fun h13 I13 u13 => ?_)
                    have f13 := fr_st (F := F_X12_late) 0 f10 u13 rfl (by omega) (by omega)
                    refine ar_inc (p2 := 225) (x := v6_4) rfl rfl (by decide) rfl (by decide) rfl (by omega) (by omega) (fun z14 e14 f14 => ?_)
                    show EvP _ _ _ (225, [(4, .int z14), (0, .ref 164), (1, .int s), (2, .int n), (3, .int v4_3)], [], h13) _
                    refine te_goto rfl ?_
                    refine te_lv [(0, .ref 164), (1, .int s), (2, .int n), (3, .int v4_3), (4, .int z14)] rfl rfl ⟨rfl, rfl, rfl, rfl, rfl, trivial⟩ ?_
                    exact ih6 z14 h13 I13 f13 (by omega) (by omega) (by omega) (fun m hm => ⟨((u13.2 _ _ (Or.inl (by decide))).trans ((u10.2 _ _ (Or.inl (by decide))).trans (w6_0 m hm).1)), ((u13.2 _ _ (Or.inl (by decide))).trans ((u10.2 _ _ (Or.inl (by decide))).trans (w6_0 m hm).2))⟩) (fun m hm => by (by_cases hc : m = v6_4.toInt.toNat); (· rw [hc]; exact ⟨(show rd h13 149 (108 + v6_4.toInt.toNat) = some (.int y9) from (by rw [show 108 + v6_4.toInt.toNat = z8.toInt.toNat by omega]; exact ((u13.2 _ _ (Or.inr (by omega))).trans u10.1))).trans ((w6_0 _ (by omega)).1.symm.trans e9).symm, (show rd h13 149 (124 + v6_4.toInt.toNat) = some (.int y12) from (by rw [show 124 + v6_4.toInt.toNat = z11.toInt.toNat by omega]; exact u13.1)).trans ((w6_0 _ (by omega)).2.symm.trans ((u10.2 _ _ (Or.inl (by decide))).symm.trans e12)).symm⟩); (· have hw := w6_1 m (by omega); exact ⟨((u13.2 _ _ (Or.inr (by omega))).trans (u10.2 _ _ (Or.inr (by omega)))).trans hw.1, ((u13.2 _ _ (Or.inr (by omega))).trans (u10.2 _ _ (Or.inr (by omega)))).trans hw.2⟩)) (fun j ja jb => ((u13.2 _ _ (Or.inr (by omega))).trans ((u10.2 _ _ (Or.inr (by omega))).trans (w6_2 j ja jb)))) (by omega)
              refine te_lv [(0, .ref 164), (1, .int s), (2, .int n), (3, .int v4_3), (4, .int 0)] rfl rfl ⟨rfl, rfl, rfl, rfl, rfl, trivial⟩ ?_
              exact lp6 17 0 h4 I4 f4 (by decide) (by decide) (by have cc0 := (show Int32.toInt 0 = 0 from rfl); omega) w4_0 (fun m hm => by exfalso; have := (show Int32.toInt 0 = 0 from rfl); omega) w4_1 (by have cc0 := (show Int32.toInt 0 = 0 from rfl); omega)
            · refine te_aload_n (p2 := 64) rfl rfl rfl ?_
              refine tg_r (p2 := 67) (i := 148) (r := 210) rfl rfl I4 rfl rfl rfl ?_
              refine te_bipush (p2 := 69) (x := 40) rfl rfl (by decide) ?_
              refine te_iload_n (p2 := 70) rfl rfl rfl ?_
              refine ar_mul (p2 := 71) rfl rfl (show Int32.toInt 40 = 40 from rfl) rfl (by omega) (by omega) (fun z15 e15 f15 => ?_)
              refine te_aload_n (p2 := 72) rfl rfl rfl ?_
              refine tg_r (p2 := 75) (i := 148) (r := 215) rfl rfl I4 rfl rfl rfl ?_
              refine te_iload (p2 := 77) rfl rfl rfl ?_
              refine tl_i (p2 := 78) (i := 199) (n := 6) rfl rfl I4 rfl rfl rfl rfl (by omega) (by omega) (fun y16 a16 b16 g16 e16 => ?_)
              obtain ⟨a17, b17⟩ := allB_at (allB_fr pr1 (fun q => f4 _ _ rfl)) v4_4.toInt.toNat (by omega) (by rw [Nat.zero_add]) e16
              refine ar_add (p2 := 79) rfl rfl rfl rfl (by omega) (by omega) (fun z18 e18 f18 => ?_)
              refine tl_i (p2 := 80) (i := 194) (n := 160) rfl rfl I4 rfl rfl rfl rfl (by omega) (by omega) (fun y19 a19 b19 g19 e19 => ?_)
              obtain ⟨a20, b20⟩ := allB_at (allB_fr pr0 (fun q => f4 _ _ rfl)) y16.toInt.toNat (by omega) (by omega) e19
              obtain ⟨a21, b21⟩ := allB_at (allB_fr (pr2 _ e1) (fun q => f4 _ _ rfl)) y16.toInt.toNat (by omega) (by omega) e19
              have W21 : pq_W h s.toInt.toNat v4_4.toInt.toNat = y19.toInt.toNat := congrArg (fun x : Int32 => x.toInt.toNat) (show rv h 194 (40 * s.toInt.toNat + pq_n h 199 v4_4.toInt.toNat) = y19 from (by rw [pq_of ((f4 199 _ rfl).symm.trans e16), show 40 * s.toInt.toNat + y16.toInt.toNat = z18.toInt.toNat by omega]; exact rv_of ((f4 194 _ rfl).symm.trans e19)))
              refine te_istore (p2 := 82) (lv2 := [(5, .int y19), (0, .ref 164), (1, .int s), (2, .int n), (3, .int v4_3), (4, .int v4_4)]) rfl rfl (by decide) rfl ?_
              refine te_iload_n (p2 := 83) rfl rfl rfl ?_
              refine te_aload_n (p2 := 84) rfl rfl rfl ?_
              refine tg_r (p2 := 87) (i := 148) (r := 165) rfl rfl I4 rfl rfl rfl ?_
              refine te_bipush (p2 := 89) (x := 108) rfl rfl (by decide) ?_
              refine te_iload (p2 := 91) rfl rfl rfl ?_
              refine ar_add (p2 := 92) rfl rfl (show Int32.toInt 108 = 108 from rfl) rfl (by omega) (by omega) (fun z22 e22 f22 => ?_)
              refine tl_i (p2 := 93) (i := 149) (n := 283) rfl rfl I4 rfl rfl rfl rfl (by omega) (by omega) (fun y23 a23 b23 g23 e23 => ?_)
              have V24 : pq_v h h4 v4_4.toInt.toNat y19.toInt.toNat := w4_3 _ (by omega) (by (have h9 := pr3 v4_4.toInt.toNat (by omega)); rw [W21] at h9; exact h9) (fun m hm => by (have h9 := pr4 v4_4.toInt.toNat m hm (by omega)); rw [W21] at h9; exact h9)
              have U24 := pq_vu V24 (show rd h4 149 (108 + y19.toInt.toNat) = some (.int y23) from (by rw [show 108 + y19.toInt.toNat = z22.toInt.toNat by omega]; exact e23))
              refine tz_ne (p2 := 96) rfl rfl rfl (fun c25 => ?_) (fun c25 => ?_)
              · refine te_iconst (p2 := 101) (x := 0) rfl rfl (by decide) ?_
                refine ar_add (p2 := 102) rfl rfl rfl (show Int32.toInt 0 = 0 from rfl) (by omega) (by omega) (fun z26 e26 f26 => ?_)
                refine te_istore_n (p2 := 103) (lv2 := [(3, .int z26), (5, .int y19), (0, .ref 164), (1, .int s), (2, .int n), (4, .int v4_4)]) rfl rfl (by decide) rfl ?_
                refine te_aload_n (p2 := 104) rfl rfl rfl ?_
                refine tg_r (p2 := 107) (i := 148) (r := 165) rfl rfl I4 rfl rfl rfl ?_
                refine te_bipush (p2 := 109) (x := 108) rfl rfl (by decide) ?_
                refine te_iload (p2 := 111) rfl rfl rfl ?_
                refine ar_add (p2 := 112) rfl rfl (show Int32.toInt 108 = 108 from rfl) rfl (by omega) (by omega) (fun z27 e27 f27 => ?_)
                refine te_iconst (p2 := 113) (x := 0) rfl rfl (by decide) ?_
                refine ts_i (p2 := 114) (i := 149) (n := 283) rfl rfl I4 rfl rfl rfl rfl (by omega) (by omega) (i32_lo _) (i32_hi _) (i32_ho _) rfl (fun h28 I28 u28 => ?_)
                have f28 := fr_st (F := F_X12_late) 0 f4 u28 rfl (by omega) (by omega)
                refine te_iconst (p2 := 115) (x := 0) rfl rfl (by decide) ?_
                refine te_istore (p2 := 117) (lv2 := [(6, .int 0), (3, .int z26), (5, .int y19), (0, .ref 164), (1, .int s), (2, .int n), (4, .int v4_4)]) rfl rfl (by decide) rfl ?_
                have lp29 : ∀ (n29 : Nat) (v29_6 : Int32) (h29 : im_H), tI h29 → fr F_X12_late h h29 → 0 ≤ v29_6.toInt → v29_6.toInt ≤ 16 → v29_6.toInt ≤ y1.toInt → (∀ m : Nat, (m : Int) < y1.toInt → rd h29 197 m = rd h 149 (108 + m) ∧ rd h29 198 m = rd h 149 (124 + m)) → (∀ j : Nat, ¬ (108 ≤ j ∧ (j : Int) < 108 + y1.toInt) → ¬ (124 ≤ j ∧ (j : Int) < 124 + y1.toInt) → rd h29 149 j = rd h 149 j) → (∀ v : Nat, (v : Int) < y1.toInt → rd h 149 (108 + v) = some (.int 1) → (∀ m : Nat, m < v4_4.toInt.toNat + 1 → pq_W h s.toInt.toNat m ≠ v) → pq_v h h29 (if v < v29_6.toInt.toNat then v4_4.toInt.toNat + 1 else v4_4.toInt.toNat) v) → 16 - v29_6.toInt < (n29 : Int) → EvP im_K0 3 mX12_late (117, [(0, .ref 164), (1, .int s), (2, .int n), (3, .int z26), (4, .int v4_4), (5, .int y19), (6, .int v29_6)], [], h29) (fun v h2 => tI h2 ∧ fr F_X12_late h h2 ∧ ∃ y : Int32, v = some (.int y) ∧ (∀ j : Nat, rd h2 149 j = rd h 149 j) ∧ (0 ≤ y.toInt ∧ y.toInt ≤ 6) ∧ y.toInt = pq_l (pq_flW h s.toInt.toNat) n.toInt.toNat (on6 n.toInt.toNat (pq_n h 199))) := by
                  intro n29
                  induction n29 with
                  | zero => intro v29_6 h29 I29 f29 a29_6 b29_6 l29_0 w29_0 w29_1 w29_2 m29; exfalso; omega
                  | succ n29 ih29 =>
                    intro v29_6 h29 I29 f29 a29_6 b29_6 l29_0 w29_0 w29_1 w29_2 m29
                    refine te_iload (p2 := 119) rfl rfl rfl ?_
                    refine te_aload_n (p2 := 120) rfl rfl rfl ?_
                    refine tg_e (p2 := 123) (i := 148) (v := .int y1) rfl rfl I29 rfl rfl ((f29 _ _ rfl).trans e1) ?_
                    refine tb_ge (p2 := 126) rfl rfl rfl rfl (fun c30 => ?_) (fun c30 => ?_)
                    · refine ar_inc (p2 := 173) (x := v4_4) rfl rfl (by decide) rfl (by decide) rfl (by omega) (by omega) (fun z31 e31 f31 => ?_)
                      show EvP _ _ _ (173, [(4, .int z31), (0, .ref 164), (1, .int s), (2, .int n), (3, .int z26), (5, .int y19), (6, .int v29_6)], [], h29) _
                      refine te_goto rfl ?_
                      refine te_lv [(0, .ref 164), (1, .int s), (2, .int n), (3, .int z26), (4, .int z31)] rfl rfl ⟨rfl, rfl, rfl, rfl, rfl, trivial⟩ ?_
                      exact ih4 z26 z31 h29 I29 f29 (by omega) (by omega) (by omega) (by omega) (by omega) (by omega) w29_0 w29_1 (pq_cs w4_2 (by omega) (Or.inr ⟨(by show ¬ pq_eM h (pq_W h s.toInt.toNat v4_4.toInt.toNat) v4_4.toInt.toNat; rw [W21]; exact fun q => absurd (U24.2 q) (by omega)), by omega⟩)) (fun v hv hu hd => by (have h9 := w29_2 v hv hu (fun m hm => hd m (by omega))); rw [if_pos (by omega)] at h9; rw [show z31.toInt.toNat = v4_4.toInt.toNat + 1 by omega]; exact h9) (by omega)
                    · refine te_aload_n (p2 := 127) rfl rfl rfl ?_
                      refine tg_r (p2 := 130) (i := 148) (r := 165) rfl rfl I29 rfl rfl rfl ?_
                      refine te_bipush (p2 := 132) (x := 108) rfl rfl (by decide) ?_
                      refine te_iload (p2 := 134) rfl rfl rfl ?_
                      refine ar_add (p2 := 135) rfl rfl (show Int32.toInt 108 = 108 from rfl) rfl (by omega) (by omega) (fun z32 e32 f32 => ?_)
                      refine te_aload_n (p2 := 136) rfl rfl rfl ?_
                      refine tg_r (p2 := 139) (i := 148) (r := 165) rfl rfl I29 rfl rfl rfl ?_
                      refine te_bipush (p2 := 141) (x := 108) rfl rfl (by decide) ?_
                      refine te_iload (p2 := 143) rfl rfl rfl ?_
                      refine ar_add (p2 := 144) rfl rfl (show Int32.toInt 108 = 108 from rfl) rfl (by omega) (by omega) (fun z33 e33 f33 => ?_)
                      refine tl_i (p2 := 145) (i := 149) (n := 283) rfl rfl I29 rfl rfl rfl rfl (by omega) (by omega) (fun y34 a34 b34 g34 e34 => ?_)
                      refine te_iconst (p2 := 146) (x := 1) rfl rfl (by decide) ?_
                      refine tb_ne (p2 := 149) rfl rfl rfl (show Int32.toInt 1 = 1 from rfl) (fun c35 => ?_) (fun c35 => ?_)
                      · refine te_iconst (p2 := 163) (x := 0) rfl rfl (by decide) ?_
                        refine ts_i (p2 := 164) (i := 149) (n := 283) rfl rfl I29 rfl rfl rfl rfl (by omega) (by omega) (i32_lo _) (i32_hi _) (i32_ho _) rfl (fun h36 I36 u36 => ?_)
                        have f36 := fr_st (F := F_X12_late) 0 f29 u36 rfl (by omega) (by omega)
                        refine ar_inc (p2 := 167) (x := v29_6) rfl rfl (by decide) rfl (by decide) rfl (by omega) (by omega) (fun z37 e37 f37 => ?_)
                        show EvP _ _ _ (167, [(6, .int z37), (0, .ref 164), (1, .int s), (2, .int n), (3, .int z26), (4, .int v4_4), (5, .int y19)], [], h36) _
                        refine te_goto rfl ?_
                        refine te_lv [(0, .ref 164), (1, .int s), (2, .int n), (3, .int z26), (4, .int v4_4), (5, .int y19), (6, .int z37)] rfl rfl ⟨rfl, rfl, rfl, rfl, rfl, rfl, rfl, trivial⟩ ?_
                        exact ih29 z37 h36 I36 f36 (by omega) (by omega) (by omega) (fun m hm => ⟨((u36.2 _ _ (Or.inl (by decide))).trans (w29_0 m hm).1), ((u36.2 _ _ (Or.inl (by decide))).trans (w29_0 m hm).2)⟩) (fun j ja jb => ((u36.2 _ _ (Or.inr (by omega))).trans (w29_1 j ja jb))) (fun v hv hu hd => by (by_cases hc : v = v29_6.toInt.toNat); (· (have h8 := w29_2 v hv hu hd); rw [hc, if_neg (Nat.lt_irrefl _)] at h8; rw [if_pos (by omega), hc]; exact pq_vA h8 (show rd h29 149 (108 + v29_6.toInt.toNat) = some (.int y34) from (by rw [show 108 + v29_6.toInt.toNat = z33.toInt.toNat by omega]; exact e34)) (by omega) (show rd h36 149 (108 + v29_6.toInt.toNat) = _ from (by rw [show 108 + v29_6.toInt.toNat = z32.toInt.toNat by omega]; exact u36.1))); (· (have h8 := pq_vk (H2 := h36) (w29_2 v hv hu hd) (u36.2 _ _ (Or.inr (by omega))) (u36.2 _ _ (Or.inr (by omega)))); (by_cases hq : v < v29_6.toInt.toNat); (· rw [if_pos hq] at h8; rw [if_pos (by omega)]; exact h8); (· rw [if_neg hq] at h8; rw [if_neg (by omega)]; exact h8))) (by omega)
                      · refine te_aload_n (p2 := 150) rfl rfl rfl ?_
                        refine te_iload (p2 := 152) rfl rfl rfl ?_
                        refine tc_V (p2 := 155) (i := 148) rfl rfl rfl rfl I29 rfl rfl rfl (c_X12_wears (w := v29_6) I29 (by omega) (by omega)) (by decide) (fun v38 h38 hq38 => ?_)
                        obtain ⟨I38, g38, y38, w38, t38, Q38⟩ := hq38
                        subst w38
                        have f38 := fr_tr (F1 := F_X12_wears) (F := F_X12_late) f29 g38 (by decide)
                        rcases Q38.2.2.2 with ⟨x38, c38⟩ | ⟨x38, c38⟩
                        · subst x38
                          show EvP _ _ _ (155, [(0, .ref 164), (1, .int s), (2, .int n), (3, .int z26), (4, .int v4_4), (5, .int y19), (6, .int v29_6)], [.int 1, .int z32, .ref 165], h38) _
                          refine tz_ne (p2 := 158) rfl rfl (show Int32.toInt 1 = 1 from rfl) (fun c39 => ?_) (fun c39 => absurd c39 (by omega))
                          refine te_iconst (p2 := 163) (x := 0) rfl rfl (by decide) ?_
                          refine ts_i (p2 := 164) (i := 149) (n := 283) rfl rfl I38 rfl rfl rfl rfl (by omega) (by omega) (i32_lo _) (i32_hi _) (i32_ho _) rfl (fun h40 I40 u40 => ?_)
                          have f40 := fr_st (F := F_X12_late) 0 f38 u40 rfl (by omega) (by omega)
                          refine ar_inc (p2 := 167) (x := v29_6) rfl rfl (by decide) rfl (by decide) rfl (by omega) (by omega) (fun z41 e41 f41 => ?_)
                          show EvP _ _ _ (167, [(6, .int z41), (0, .ref 164), (1, .int s), (2, .int n), (3, .int z26), (4, .int v4_4), (5, .int y19)], [], h40) _
                          refine te_goto rfl ?_
                          refine te_lv [(0, .ref 164), (1, .int s), (2, .int n), (3, .int z26), (4, .int v4_4), (5, .int y19), (6, .int z41)] rfl rfl ⟨rfl, rfl, rfl, rfl, rfl, rfl, rfl, trivial⟩ ?_
                          exact ih29 z41 h40 I40 f40 (by omega) (by omega) (by omega) (fun m hm => ⟨((u40.2 _ _ (Or.inl (by decide))).trans ((Q38.2.2.1 _ _ (Or.inl (by decide))).trans (w29_0 m hm).1)), ((u40.2 _ _ (Or.inl (by decide))).trans ((Q38.2.2.1 _ _ (Or.inl (by decide))).trans (w29_0 m hm).2))⟩) (fun j ja jb => ((u40.2 _ _ (Or.inr (by omega))).trans ((Q38.2.2.1 _ _ (Or.inr (by omega))).trans (w29_1 j ja jb)))) (fun v hv hu hd => by (by_cases hc : v = v29_6.toInt.toNat); (· (have h8 := w29_2 v hv hu hd); rw [hc, if_neg (Nat.lt_irrefl _)] at h8; rw [if_pos (by omega), hc]; exact pq_vB h8 (show rd h29 149 (108 + v29_6.toInt.toNat) = some (.int y34) from (by rw [show 108 + v29_6.toInt.toNat = z33.toInt.toNat by omega]; exact e34)) (by omega) Q38.1 (pq_wMe (fun i k hi => f29 _ _ (inF_no (fun q hq e => by (have h7 := (show ∀ q ∈ F_X12_late, q.1 = 149 ∨ 196 < q.1 by decide) q hq); omega))) (f29 149 106 rfl)) (pq_rq (f29 149 107 rfl)) ((u40.2 _ _ (Or.inr (by omega))).trans Q38.2.1) (Or.inl ⟨c38, (show rd h40 149 (108 + v29_6.toInt.toNat) = _ from (by rw [show 108 + v29_6.toInt.toNat = z32.toInt.toNat by omega]; exact u40.1))⟩)); (· (have h8 := pq_vk (H2 := h40) (w29_2 v hv hu hd) ((u40.2 _ _ (Or.inr (by omega))).trans ((Q38.2.2.1 _ _ (Or.inr (by omega))).trans rfl)) ((u40.2 _ _ (Or.inr (by omega))).trans ((Q38.2.2.1 _ _ (Or.inr (by omega))).trans rfl))); (by_cases hq : v < v29_6.toInt.toNat); (· rw [if_pos hq] at h8; rw [if_pos (by omega)]; exact h8); (· rw [if_neg hq] at h8; rw [if_neg (by omega)]; exact h8))) (by omega)
                        · subst x38
                          show EvP _ _ _ (155, [(0, .ref 164), (1, .int s), (2, .int n), (3, .int z26), (4, .int v4_4), (5, .int y19), (6, .int v29_6)], [.int 0, .int z32, .ref 165], h38) _
                          refine tz_ne (p2 := 158) rfl rfl (show Int32.toInt 0 = 0 from rfl) (fun c42 => absurd c42 (by omega)) (fun c42 => ?_)
                          refine te_iconst (p2 := 159) (x := 1) rfl rfl (by decide) ?_
                          refine te_goto rfl ?_
                          refine ts_i (p2 := 164) (i := 149) (n := 283) rfl rfl I38 rfl rfl rfl rfl (by omega) (by omega) (i32_lo _) (i32_hi _) (i32_ho _) rfl (fun h43 I43 u43 => ?_)
                          have f43 := fr_st (F := F_X12_late) 0 f38 u43 rfl (by omega) (by omega)
                          refine ar_inc (p2 := 167) (x := v29_6) rfl rfl (by decide) rfl (by decide) rfl (by omega) (by omega) (fun z44 e44 f44 => ?_)
                          show EvP _ _ _ (167, [(6, .int z44), (0, .ref 164), (1, .int s), (2, .int n), (3, .int z26), (4, .int v4_4), (5, .int y19)], [], h43) _
                          refine te_goto rfl ?_
                          refine te_lv [(0, .ref 164), (1, .int s), (2, .int n), (3, .int z26), (4, .int v4_4), (5, .int y19), (6, .int z44)] rfl rfl ⟨rfl, rfl, rfl, rfl, rfl, rfl, rfl, trivial⟩ ?_
                          exact ih29 z44 h43 I43 f43 (by omega) (by omega) (by omega) (fun m hm => ⟨((u43.2 _ _ (Or.inl (by decide))).trans ((Q38.2.2.1 _ _ (Or.inl (by decide))).trans (w29_0 m hm).1)), ((u43.2 _ _ (Or.inl (by decide))).trans ((Q38.2.2.1 _ _ (Or.inl (by decide))).trans (w29_0 m hm).2))⟩) (fun j ja jb => ((u43.2 _ _ (Or.inr (by omega))).trans ((Q38.2.2.1 _ _ (Or.inr (by omega))).trans (w29_1 j ja jb)))) (fun v hv hu hd => by (by_cases hc : v = v29_6.toInt.toNat); (· (have h8 := w29_2 v hv hu hd); rw [hc, if_neg (Nat.lt_irrefl _)] at h8; rw [if_pos (by omega), hc]; exact pq_vB h8 (show rd h29 149 (108 + v29_6.toInt.toNat) = some (.int y34) from (by rw [show 108 + v29_6.toInt.toNat = z33.toInt.toNat by omega]; exact e34)) (by omega) Q38.1 (pq_wMe (fun i k hi => f29 _ _ (inF_no (fun q hq e => by (have h7 := (show ∀ q ∈ F_X12_late, q.1 = 149 ∨ 196 < q.1 by decide) q hq); omega))) (f29 149 106 rfl)) (pq_rq (f29 149 107 rfl)) ((u43.2 _ _ (Or.inr (by omega))).trans Q38.2.1) (Or.inr ⟨c38, (show rd h43 149 (108 + v29_6.toInt.toNat) = _ from (by rw [show 108 + v29_6.toInt.toNat = z32.toInt.toNat by omega]; exact u43.1))⟩)); (· (have h8 := pq_vk (H2 := h43) (w29_2 v hv hu hd) ((u43.2 _ _ (Or.inr (by omega))).trans ((Q38.2.2.1 _ _ (Or.inr (by omega))).trans rfl)) ((u43.2 _ _ (Or.inr (by omega))).trans ((Q38.2.2.1 _ _ (Or.inr (by omega))).trans rfl))); (by_cases hq : v < v29_6.toInt.toNat); (· rw [if_pos hq] at h8; rw [if_pos (by omega)]; exact h8); (· rw [if_neg hq] at h8; rw [if_neg (by omega)]; exact h8))) (by omega)
                refine te_lv [(0, .ref 164), (1, .int s), (2, .int n), (3, .int z26), (4, .int v4_4), (5, .int y19), (6, .int 0)] rfl rfl ⟨rfl, rfl, rfl, rfl, rfl, rfl, rfl, trivial⟩ ?_
                exact lp29 17 0 h28 I28 f28 (by decide) (by decide) (by have cc0 := (show Int32.toInt 0 = 0 from rfl); omega) (fun m hm => ⟨((u28.2 _ _ (Or.inl (by decide))).trans (w4_0 m hm).1), ((u28.2 _ _ (Or.inl (by decide))).trans (w4_0 m hm).2)⟩) (fun j ja jb => ((u28.2 _ _ (Or.inr (by omega))).trans (w4_1 j ja jb))) (fun v hv hu hd => by (have h9 := hd v4_4.toInt.toNat (by omega)); rw [W21] at h9; rw [if_neg (show ¬ v < (Int32.toInt 0).toNat from Nat.not_lt_zero v)]; exact pq_vk (w4_3 v hv hu (fun m hm => hd m (by omega))) (u28.2 _ _ (Or.inr (by omega))) (u28.2 _ _ (Or.inr (by omega)))) (by have cc0 := (show Int32.toInt 0 = 0 from rfl); omega)
              · refine te_iconst (p2 := 97) (x := 1) rfl rfl (by decide) ?_
                refine te_goto rfl ?_
                refine ar_add (p2 := 102) rfl rfl rfl (show Int32.toInt 1 = 1 from rfl) (by omega) (by omega) (fun z45 e45 f45 => ?_)
                refine te_istore_n (p2 := 103) (lv2 := [(3, .int z45), (5, .int y19), (0, .ref 164), (1, .int s), (2, .int n), (4, .int v4_4)]) rfl rfl (by decide) rfl ?_
                refine te_aload_n (p2 := 104) rfl rfl rfl ?_
                refine tg_r (p2 := 107) (i := 148) (r := 165) rfl rfl I4 rfl rfl rfl ?_
                refine te_bipush (p2 := 109) (x := 108) rfl rfl (by decide) ?_
                refine te_iload (p2 := 111) rfl rfl rfl ?_
                refine ar_add (p2 := 112) rfl rfl (show Int32.toInt 108 = 108 from rfl) rfl (by omega) (by omega) (fun z46 e46 f46 => ?_)
                refine te_iconst (p2 := 113) (x := 0) rfl rfl (by decide) ?_
                refine ts_i (p2 := 114) (i := 149) (n := 283) rfl rfl I4 rfl rfl rfl rfl (by omega) (by omega) (i32_lo _) (i32_hi _) (i32_ho _) rfl (fun h47 I47 u47 => ?_)
                have f47 := fr_st (F := F_X12_late) 0 f4 u47 rfl (by omega) (by omega)
                refine te_iconst (p2 := 115) (x := 0) rfl rfl (by decide) ?_
                refine te_istore (p2 := 117) (lv2 := [(6, .int 0), (3, .int z45), (5, .int y19), (0, .ref 164), (1, .int s), (2, .int n), (4, .int v4_4)]) rfl rfl (by decide) rfl ?_
                have lp48 : ∀ (n48 : Nat) (v48_6 : Int32) (h48 : im_H), tI h48 → fr F_X12_late h h48 → 0 ≤ v48_6.toInt → v48_6.toInt ≤ 16 → v48_6.toInt ≤ y1.toInt → (∀ m : Nat, (m : Int) < y1.toInt → rd h48 197 m = rd h 149 (108 + m) ∧ rd h48 198 m = rd h 149 (124 + m)) → (∀ j : Nat, ¬ (108 ≤ j ∧ (j : Int) < 108 + y1.toInt) → ¬ (124 ≤ j ∧ (j : Int) < 124 + y1.toInt) → rd h48 149 j = rd h 149 j) → (∀ v : Nat, (v : Int) < y1.toInt → rd h 149 (108 + v) = some (.int 1) → (∀ m : Nat, m < v4_4.toInt.toNat + 1 → pq_W h s.toInt.toNat m ≠ v) → pq_v h h48 (if v < v48_6.toInt.toNat then v4_4.toInt.toNat + 1 else v4_4.toInt.toNat) v) → 16 - v48_6.toInt < (n48 : Int) → EvP im_K0 3 mX12_late (117, [(0, .ref 164), (1, .int s), (2, .int n), (3, .int z45), (4, .int v4_4), (5, .int y19), (6, .int v48_6)], [], h48) (fun v h2 => tI h2 ∧ fr F_X12_late h h2 ∧ ∃ y : Int32, v = some (.int y) ∧ (∀ j : Nat, rd h2 149 j = rd h 149 j) ∧ (0 ≤ y.toInt ∧ y.toInt ≤ 6) ∧ y.toInt = pq_l (pq_flW h s.toInt.toNat) n.toInt.toNat (on6 n.toInt.toNat (pq_n h 199))) := by
                  intro n48
                  induction n48 with
                  | zero => intro v48_6 h48 I48 f48 a48_6 b48_6 l48_0 w48_0 w48_1 w48_2 m48; exfalso; omega
                  | succ n48 ih48 =>
                    intro v48_6 h48 I48 f48 a48_6 b48_6 l48_0 w48_0 w48_1 w48_2 m48
                    refine te_iload (p2 := 119) rfl rfl rfl ?_
                    refine te_aload_n (p2 := 120) rfl rfl rfl ?_
                    refine tg_e (p2 := 123) (i := 148) (v := .int y1) rfl rfl I48 rfl rfl ((f48 _ _ rfl).trans e1) ?_
                    refine tb_ge (p2 := 126) rfl rfl rfl rfl (fun c49 => ?_) (fun c49 => ?_)
                    · refine ar_inc (p2 := 173) (x := v4_4) rfl rfl (by decide) rfl (by decide) rfl (by omega) (by omega) (fun z50 e50 f50 => ?_)
                      show EvP _ _ _ (173, [(4, .int z50), (0, .ref 164), (1, .int s), (2, .int n), (3, .int z45), (5, .int y19), (6, .int v48_6)], [], h48) _
                      refine te_goto rfl ?_
                      refine te_lv [(0, .ref 164), (1, .int s), (2, .int n), (3, .int z45), (4, .int z50)] rfl rfl ⟨rfl, rfl, rfl, rfl, rfl, trivial⟩ ?_
                      exact ih4 z45 z50 h48 I48 f48 (by omega) (by omega) (by omega) (by omega) (by omega) (by omega) w48_0 w48_1 (pq_cs w4_2 (by omega) (Or.inl ⟨(by show pq_eM h (pq_W h s.toInt.toNat v4_4.toInt.toNat) v4_4.toInt.toNat; rw [W21]; exact U24.1 (by omega)), by omega⟩)) (fun v hv hu hd => by (have h9 := w48_2 v hv hu (fun m hm => hd m (by omega))); rw [if_pos (by omega)] at h9; rw [show z50.toInt.toNat = v4_4.toInt.toNat + 1 by omega]; exact h9) (by omega)
                    · refine te_aload_n (p2 := 127) rfl rfl rfl ?_
                      refine tg_r (p2 := 130) (i := 148) (r := 165) rfl rfl I48 rfl rfl rfl ?_
                      refine te_bipush (p2 := 132) (x := 108) rfl rfl (by decide) ?_
                      refine te_iload (p2 := 134) rfl rfl rfl ?_
                      refine ar_add (p2 := 135) rfl rfl (show Int32.toInt 108 = 108 from rfl) rfl (by omega) (by omega) (fun z51 e51 f51 => ?_)
                      refine te_aload_n (p2 := 136) rfl rfl rfl ?_
                      refine tg_r (p2 := 139) (i := 148) (r := 165) rfl rfl I48 rfl rfl rfl ?_
                      refine te_bipush (p2 := 141) (x := 108) rfl rfl (by decide) ?_
                      refine te_iload (p2 := 143) rfl rfl rfl ?_
                      refine ar_add (p2 := 144) rfl rfl (show Int32.toInt 108 = 108 from rfl) rfl (by omega) (by omega) (fun z52 e52 f52 => ?_)
                      refine tl_i (p2 := 145) (i := 149) (n := 283) rfl rfl I48 rfl rfl rfl rfl (by omega) (by omega) (fun y53 a53 b53 g53 e53 => ?_)
                      refine te_iconst (p2 := 146) (x := 1) rfl rfl (by decide) ?_
                      refine tb_ne (p2 := 149) rfl rfl rfl (show Int32.toInt 1 = 1 from rfl) (fun c54 => ?_) (fun c54 => ?_)
                      · refine te_iconst (p2 := 163) (x := 0) rfl rfl (by decide) ?_
                        refine ts_i (p2 := 164) (i := 149) (n := 283) rfl rfl I48 rfl rfl rfl rfl (by omega) (by omega) (i32_lo _) (i32_hi _) (i32_ho _) rfl (fun h55 I55 u55 => ?_)
                        have f55 := fr_st (F := F_X12_late) 0 f48 u55 rfl (by omega) (by omega)
                        refine ar_inc (p2 := 167) (x := v48_6) rfl rfl (by decide) rfl (by decide) rfl (by omega) (by omega) (fun z56 e56 f56 => ?_)
                        show EvP _ _ _ (167, [(6, .int z56), (0, .ref 164), (1, .int s), (2, .int n), (3, .int z45), (4, .int v4_4), (5, .int y19)], [], h55) _
                        refine te_goto rfl ?_
                        refine te_lv [(0, .ref 164), (1, .int s), (2, .int n), (3, .int z45), (4, .int v4_4), (5, .int y19), (6, .int z56)] rfl rfl ⟨rfl, rfl, rfl, rfl, rfl, rfl, rfl, trivial⟩ ?_
                        exact ih48 z56 h55 I55 f55 (by omega) (by omega) (by omega) (fun m hm => ⟨((u55.2 _ _ (Or.inl (by decide))).trans (w48_0 m hm).1), ((u55.2 _ _ (Or.inl (by decide))).trans (w48_0 m hm).2)⟩) (fun j ja jb => ((u55.2 _ _ (Or.inr (by omega))).trans (w48_1 j ja jb))) (fun v hv hu hd => by (by_cases hc : v = v48_6.toInt.toNat); (· (have h8 := w48_2 v hv hu hd); rw [hc, if_neg (Nat.lt_irrefl _)] at h8; rw [if_pos (by omega), hc]; exact pq_vA h8 (show rd h48 149 (108 + v48_6.toInt.toNat) = some (.int y53) from (by rw [show 108 + v48_6.toInt.toNat = z52.toInt.toNat by omega]; exact e53)) (by omega) (show rd h55 149 (108 + v48_6.toInt.toNat) = _ from (by rw [show 108 + v48_6.toInt.toNat = z51.toInt.toNat by omega]; exact u55.1))); (· (have h8 := pq_vk (H2 := h55) (w48_2 v hv hu hd) (u55.2 _ _ (Or.inr (by omega))) (u55.2 _ _ (Or.inr (by omega)))); (by_cases hq : v < v48_6.toInt.toNat); (· rw [if_pos hq] at h8; rw [if_pos (by omega)]; exact h8); (· rw [if_neg hq] at h8; rw [if_neg (by omega)]; exact h8))) (by omega)
                      · refine te_aload_n (p2 := 150) rfl rfl rfl ?_
                        refine te_iload (p2 := 152) rfl rfl rfl ?_
                        refine tc_V (p2 := 155) (i := 148) rfl rfl rfl rfl I48 rfl rfl rfl (c_X12_wears (w := v48_6) I48 (by omega) (by omega)) (by decide) (fun v57 h57 hq57 => ?_)
                        obtain ⟨I57, g57, y57, w57, t57, Q57⟩ := hq57
                        subst w57
                        have f57 := fr_tr (F1 := F_X12_wears) (F := F_X12_late) f48 g57 (by decide)
                        rcases Q57.2.2.2 with ⟨x57, c57⟩ | ⟨x57, c57⟩
                        · subst x57
                          show EvP _ _ _ (155, [(0, .ref 164), (1, .int s), (2, .int n), (3, .int z45), (4, .int v4_4), (5, .int y19), (6, .int v48_6)], [.int 1, .int z51, .ref 165], h57) _
                          refine tz_ne (p2 := 158) rfl rfl (show Int32.toInt 1 = 1 from rfl) (fun c58 => ?_) (fun c58 => absurd c58 (by omega))
                          refine te_iconst (p2 := 163) (x := 0) rfl rfl (by decide) ?_
                          refine ts_i (p2 := 164) (i := 149) (n := 283) rfl rfl I57 rfl rfl rfl rfl (by omega) (by omega) (i32_lo _) (i32_hi _) (i32_ho _) rfl (fun h59 I59 u59 => ?_)
                          have f59 := fr_st (F := F_X12_late) 0 f57 u59 rfl (by omega) (by omega)
                          refine ar_inc (p2 := 167) (x := v48_6) rfl rfl (by decide) rfl (by decide) rfl (by omega) (by omega) (fun z60 e60 f60 => ?_)
                          show EvP _ _ _ (167, [(6, .int z60), (0, .ref 164), (1, .int s), (2, .int n), (3, .int z45), (4, .int v4_4), (5, .int y19)], [], h59) _
                          refine te_goto rfl ?_
                          refine te_lv [(0, .ref 164), (1, .int s), (2, .int n), (3, .int z45), (4, .int v4_4), (5, .int y19), (6, .int z60)] rfl rfl ⟨rfl, rfl, rfl, rfl, rfl, rfl, rfl, trivial⟩ ?_
                          exact ih48 z60 h59 I59 f59 (by omega) (by omega) (by omega) (fun m hm => ⟨((u59.2 _ _ (Or.inl (by decide))).trans ((Q57.2.2.1 _ _ (Or.inl (by decide))).trans (w48_0 m hm).1)), ((u59.2 _ _ (Or.inl (by decide))).trans ((Q57.2.2.1 _ _ (Or.inl (by decide))).trans (w48_0 m hm).2))⟩) (fun j ja jb => ((u59.2 _ _ (Or.inr (by omega))).trans ((Q57.2.2.1 _ _ (Or.inr (by omega))).trans (w48_1 j ja jb)))) (fun v hv hu hd => by (by_cases hc : v = v48_6.toInt.toNat); (· (have h8 := w48_2 v hv hu hd); rw [hc, if_neg (Nat.lt_irrefl _)] at h8; rw [if_pos (by omega), hc]; exact pq_vB h8 (show rd h48 149 (108 + v48_6.toInt.toNat) = some (.int y53) from (by rw [show 108 + v48_6.toInt.toNat = z52.toInt.toNat by omega]; exact e53)) (by omega) Q57.1 (pq_wMe (fun i k hi => f48 _ _ (inF_no (fun q hq e => by (have h7 := (show ∀ q ∈ F_X12_late, q.1 = 149 ∨ 196 < q.1 by decide) q hq); omega))) (f48 149 106 rfl)) (pq_rq (f48 149 107 rfl)) ((u59.2 _ _ (Or.inr (by omega))).trans Q57.2.1) (Or.inl ⟨c57, (show rd h59 149 (108 + v48_6.toInt.toNat) = _ from (by rw [show 108 + v48_6.toInt.toNat = z51.toInt.toNat by omega]; exact u59.1))⟩)); (· (have h8 := pq_vk (H2 := h59) (w48_2 v hv hu hd) ((u59.2 _ _ (Or.inr (by omega))).trans ((Q57.2.2.1 _ _ (Or.inr (by omega))).trans rfl)) ((u59.2 _ _ (Or.inr (by omega))).trans ((Q57.2.2.1 _ _ (Or.inr (by omega))).trans rfl))); (by_cases hq : v < v48_6.toInt.toNat); (· rw [if_pos hq] at h8; rw [if_pos (by omega)]; exact h8); (· rw [if_neg hq] at h8; rw [if_neg (by omega)]; exact h8))) (by omega)
                        · subst x57
                          show EvP _ _ _ (155, [(0, .ref 164), (1, .int s), (2, .int n), (3, .int z45), (4, .int v4_4), (5, .int y19), (6, .int v48_6)], [.int 0, .int z51, .ref 165], h57) _
                          refine tz_ne (p2 := 158) rfl rfl (show Int32.toInt 0 = 0 from rfl) (fun c61 => absurd c61 (by omega)) (fun c61 => ?_)
                          refine te_iconst (p2 := 159) (x := 1) rfl rfl (by decide) ?_
                          refine te_goto rfl ?_
                          refine ts_i (p2 := 164) (i := 149) (n := 283) rfl rfl I57 rfl rfl rfl rfl (by omega) (by omega) (i32_lo _) (i32_hi _) (i32_ho _) rfl (fun h62 I62 u62 => ?_)
                          have f62 := fr_st (F := F_X12_late) 0 f57 u62 rfl (by omega) (by omega)
                          refine ar_inc (p2 := 167) (x := v48_6) rfl rfl (by decide) rfl (by decide) rfl (by omega) (by omega) (fun z63 e63 f63 => ?_)
                          show EvP _ _ _ (167, [(6, .int z63), (0, .ref 164), (1, .int s), (2, .int n), (3, .int z45), (4, .int v4_4), (5, .int y19)], [], h62) _
                          refine te_goto rfl ?_
                          refine te_lv [(0, .ref 164), (1, .int s), (2, .int n), (3, .int z45), (4, .int v4_4), (5, .int y19), (6, .int z63)] rfl rfl ⟨rfl, rfl, rfl, rfl, rfl, rfl, rfl, trivial⟩ ?_
                          exact ih48 z63 h62 I62 f62 (by omega) (by omega) (by omega) (fun m hm => ⟨((u62.2 _ _ (Or.inl (by decide))).trans ((Q57.2.2.1 _ _ (Or.inl (by decide))).trans (w48_0 m hm).1)), ((u62.2 _ _ (Or.inl (by decide))).trans ((Q57.2.2.1 _ _ (Or.inl (by decide))).trans (w48_0 m hm).2))⟩) (fun j ja jb => ((u62.2 _ _ (Or.inr (by omega))).trans ((Q57.2.2.1 _ _ (Or.inr (by omega))).trans (w48_1 j ja jb)))) (fun v hv hu hd => by (by_cases hc : v = v48_6.toInt.toNat); (· (have h8 := w48_2 v hv hu hd); rw [hc, if_neg (Nat.lt_irrefl _)] at h8; rw [if_pos (by omega), hc]; exact pq_vB h8 (show rd h48 149 (108 + v48_6.toInt.toNat) = some (.int y53) from (by rw [show 108 + v48_6.toInt.toNat = z52.toInt.toNat by omega]; exact e53)) (by omega) Q57.1 (pq_wMe (fun i k hi => f48 _ _ (inF_no (fun q hq e => by (have h7 := (show ∀ q ∈ F_X12_late, q.1 = 149 ∨ 196 < q.1 by decide) q hq); omega))) (f48 149 106 rfl)) (pq_rq (f48 149 107 rfl)) ((u62.2 _ _ (Or.inr (by omega))).trans Q57.2.1) (Or.inr ⟨c57, (show rd h62 149 (108 + v48_6.toInt.toNat) = _ from (by rw [show 108 + v48_6.toInt.toNat = z51.toInt.toNat by omega]; exact u62.1))⟩)); (· (have h8 := pq_vk (H2 := h62) (w48_2 v hv hu hd) ((u62.2 _ _ (Or.inr (by omega))).trans ((Q57.2.2.1 _ _ (Or.inr (by omega))).trans rfl)) ((u62.2 _ _ (Or.inr (by omega))).trans ((Q57.2.2.1 _ _ (Or.inr (by omega))).trans rfl))); (by_cases hq : v < v48_6.toInt.toNat); (· rw [if_pos hq] at h8; rw [if_pos (by omega)]; exact h8); (· rw [if_neg hq] at h8; rw [if_neg (by omega)]; exact h8))) (by omega)
                refine te_lv [(0, .ref 164), (1, .int s), (2, .int n), (3, .int z45), (4, .int v4_4), (5, .int y19), (6, .int 0)] rfl rfl ⟨rfl, rfl, rfl, rfl, rfl, rfl, rfl, trivial⟩ ?_
                exact lp48 17 0 h47 I47 f47 (by decide) (by decide) (by have cc0 := (show Int32.toInt 0 = 0 from rfl); omega) (fun m hm => ⟨((u47.2 _ _ (Or.inl (by decide))).trans (w4_0 m hm).1), ((u47.2 _ _ (Or.inl (by decide))).trans (w4_0 m hm).2)⟩) (fun j ja jb => ((u47.2 _ _ (Or.inr (by omega))).trans (w4_1 j ja jb))) (fun v hv hu hd => by (have h9 := hd v4_4.toInt.toNat (by omega)); rw [W21] at h9; rw [if_neg (show ¬ v < (Int32.toInt 0).toNat from Nat.not_lt_zero v)]; exact pq_vk (w4_3 v hv hu (fun m hm => hd m (by omega))) (u47.2 _ _ (Or.inr (by omega))) (u47.2 _ _ (Or.inr (by omega)))) (by have cc0 := (show Int32.toInt 0 = 0 from rfl); omega)
        refine te_lv [(0, .ref 164), (1, .int s), (2, .int n), (3, .int 0), (4, .int 0)] rfl rfl ⟨rfl, rfl, rfl, rfl, rfl, trivial⟩ ?_
        exact lp4 7 0 0 h2 I2 f2 (by decide) (by decide) (by decide) (by decide) (by have cc0 := (show Int32.toInt 0 = 0 from rfl); omega) (by have cc0 := (show Int32.toInt 0 = 0 from rfl); omega) (fun m hm => w2_0 m (by omega)) (fun j _ _ => w2_1 j) rfl (fun v hv hu _ => pq_v0 hI (by omega) (by decide) w2_1 hu) (by have cc0 := (show Int32.toInt 0 = 0 from rfl); omega)
      · refine te_aload_n (p2 := 15) rfl rfl rfl ?_
        refine tg_r (p2 := 18) (i := 148) (r := 213) rfl rfl I2 rfl rfl rfl ?_
        refine te_iload (p2 := 20) rfl rfl rfl ?_
        refine te_aload_n (p2 := 21) rfl rfl rfl ?_
        refine tg_r (p2 := 24) (i := 148) (r := 165) rfl rfl I2 rfl rfl rfl ?_
        refine te_bipush (p2 := 26) (x := 108) rfl rfl (by decide) ?_
        refine te_iload (p2 := 28) rfl rfl rfl ?_
        refine ar_add (p2 := 29) rfl rfl (show Int32.toInt 108 = 108 from rfl) rfl (by omega) (by omega) (fun z64 e64 f64 => ?_)
        refine tl_i (p2 := 30) (i := 149) (n := 283) rfl rfl I2 rfl rfl rfl rfl (by omega) (by omega) (fun y65 a65 b65 g65 e65 => ?_)
        refine ts_i (p2 := 31) (i := 197) (n := 16) rfl rfl I2 rfl rfl rfl rfl (by omega) (by omega) (i32_lo _) (i32_hi _) (i32_ho _) rfl (fun h66 I66 u66 => ?_)
        have f66 := fr_st (F := F_X12_late) 1 f2 u66 rfl (by omega) (by omega)
        refine te_aload_n (p2 := 32) rfl rfl rfl ?_
        refine tg_r (p2 := 35) (i := 148) (r := 214) rfl rfl I66 rfl rfl rfl ?_
        refine te_iload (p2 := 37) rfl rfl rfl ?_
        refine te_aload_n (p2 := 38) rfl rfl rfl ?_
        refine tg_r (p2 := 41) (i := 148) (r := 165) rfl rfl I66 rfl rfl rfl ?_
        refine te_bipush (p2 := 43) (x := 124) rfl rfl (by decide) ?_
        refine te_iload (p2 := 45) rfl rfl rfl ?_
        refine ar_add (p2 := 46) rfl rfl (show Int32.toInt 124 = 124 from rfl) rfl (by omega) (by omega) (fun z67 e67 f67 => ?_)
        refine tl_i (p2 := 47) (i := 149) (n := 283) rfl rfl I66 rfl rfl rfl rfl (by omega) (by omega) (fun y68 a68 b68 g68 e68 => ?_)
        refine ts_i (p2 := 48) (i := 198) (n := 16) rfl rfl I66 rfl rfl rfl rfl (by omega) (by omega) (i32_lo _) (i32_hi _) (i32_ho _) rfl (fun h69 I69 u69 => ?_)
        have f69 := fr_st (F := F_X12_late) 2 f66 u69 rfl (by omega) (by omega)
        refine ar_inc (p2 := 51) (x := v2_4) rfl rfl (by decide) rfl (by decide) rfl (by omega) (by omega) (fun z70 e70 f70 => ?_)
        show EvP _ _ _ (51, [(4, .int z70), (0, .ref 164), (1, .int s), (2, .int n), (3, .int 0)], [], h69) _
        refine te_goto rfl ?_
        refine te_lv [(0, .ref 164), (1, .int s), (2, .int n), (3, .int 0), (4, .int z70)] rfl rfl ⟨rfl, rfl, rfl, rfl, rfl, trivial⟩ ?_
        exact ih2 z70 h69 I69 f69 (by omega) (by omega) (by have cc0 := (show Int32.toInt 0 = 0 from rfl); omega) (fun m hm => by (by_cases hc : m = v2_4.toInt.toNat); (· rw [hc, show 108 + v2_4.toInt.toNat = z64.toInt.toNat by omega, show 124 + v2_4.toInt.toNat = z67.toInt.toNat by omega]; exact ⟨(((u69.2 _ _ (Or.inl (by decide))).trans u66.1).trans ((w2_1 _).symm.trans e65).symm), (u69.1.trans ((w2_1 _).symm.trans ((u66.2 _ _ (Or.inl (by decide))).symm.trans e68)).symm)⟩); (· have hw := w2_0 m (by omega); exact ⟨((u69.2 _ _ (Or.inl (by decide))).trans (u66.2 _ _ (Or.inr hc))).trans hw.1, ((u69.2 _ _ (Or.inr hc)).trans (u66.2 _ _ (Or.inl (by decide)))).trans hw.2⟩)) (fun j => ((u69.2 _ _ (Or.inl (by decide))).trans (u66.2 _ _ (Or.inl (by decide)))).trans (w2_1 j)) (by have cc0 := (show Int32.toInt 0 = 0 from rfl); omega)
  refine te_lv [(0, .ref 164), (1, .int s), (2, .int n), (3, .int 0), (4, .int 0)] rfl rfl ⟨rfl, rfl, rfl, rfl, rfl, trivial⟩ ?_
  exact lp2 17 0 h hI f0 (by decide) (by decide) (by have cc0 := (show Int32.toInt 0 = 0 from rfl); omega) (fun m hm => by exfalso; have := (show Int32.toInt 0 = 0 from rfl); omega) (fun j => rfl) (by have cc0 := (show Int32.toInt 0 = 0 from rfl); omega)
