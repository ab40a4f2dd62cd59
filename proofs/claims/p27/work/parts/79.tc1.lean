set_option maxRecDepth 20000 in
set_option maxHeartbeats 4000000 in
theorem t_X12_isOver {r : Int32} {c : Int32} {h : im_H} (hI : tI h) (p_r0 : 0 ≤ r.toInt) (p_r1 : r.toInt ≤ 7) : CaP 2 176 [.ref 164, .int r, .int c] h (pI h (fun y => (y = 1 ∧ ovh h r.toInt.toNat c) ∨ (y = 0 ∧ ¬ ovh h r.toInt.toNat c))) := by
  refine cap_of (d := 1) (M := mX12_isOver) rfl (Nat.le_of_ble_eq_true rfl) ?_
  show EvP im_K0 1 mX12_isOver (0, [(0, .ref 164), (1, .int r), (2, .int c)], [], h) _
  refine te_aload_n (p2 := 1) rfl rfl rfl ?_
  refine tg_r (p2 := 4) (i := 148) (r := 189) rfl rfl hI rfl rfl rfl ?_
  refine te_iload_n (p2 := 5) rfl rfl rfl ?_
  refine tl_i (p2 := 6) (i := 173) (n := 8) rfl rfl hI rfl rfl rfl rfl (by omega) (by omega) (fun y1 a1 b1 g1 e1 => ?_)
  refine te_istore_n (p2 := 7) (lv2 := [(3, .int y1), (0, .ref 164), (1, .int r), (2, .int c)]) rfl rfl (by decide) rfl ?_
  refine te_iconst (p2 := 8) (x := 0) rfl rfl (by decide) ?_
  refine te_istore (p2 := 10) (lv2 := [(4, .int 0), (3, .int y1), (0, .ref 164), (1, .int r), (2, .int c)]) rfl rfl (by decide) rfl ?_
  obtain ⟨v3, e3, y3, w3, a3, b3, _⟩ := hI.2.1 174 r.toInt.toNat (.inl (0, 3, 9999999999)) (tq_row rfl (by omega))
  subst w3
  obtain ⟨v4, e4, y4, w4, a4, b4, _⟩ := hI.2.1 175 r.toInt.toNat (.inl (0, 10, 9999999999)) (tq_row rfl (by omega))
  subst w4
  have lp2 : ∀ (n2 : Nat) (v2_3 v2_4 t2_f t2_s t2_n : Int32) , (-1) ≤ v2_3.toInt → v2_3.toInt ≤ 99 → 0 ≤ v2_4.toInt → v2_4.toInt ≤ 10 → rd h 173 r.toInt.toNat = some (.int t2_f) → rd h 174 r.toInt.toNat = some (.int t2_s) → rd h 175 r.toInt.toNat = some (.int t2_n) → 0 ≤ t2_f.toInt → t2_f.toInt ≤ 99 → 0 ≤ t2_s.toInt → t2_s.toInt ≤ 3 → 0 ≤ t2_n.toInt → t2_n.toInt ≤ 10 → (v2_3 = pth t2_f t2_s v2_4.toInt.toNat ∧ ∀ i, i < v2_4.toInt.toNat → (pth t2_f t2_s i).toInt ≠ -1 ∧ pth t2_f t2_s i ≠ c) → 10 - v2_4.toInt < (n2 : Int) → EvP im_K0 1 mX12_isOver (10, [(0, .ref 164), (1, .int r), (2, .int c), (3, .int v2_3), (4, .int v2_4)], [], h) (pI h (fun y => (y = 1 ∧ ovh h r.toInt.toNat c) ∨ (y = 0 ∧ ¬ ovh h r.toInt.toNat c))) := by
    intro n2
    induction n2 with
    | zero => intro v2_3 v2_4 t2_f t2_s t2_n a2_3 b2_3 a2_4 b2_4 v2_f v2_s v2_n va2_f vb2_f va2_s vb2_s va2_n vb2_n w2_0 m2; exfalso; omega
    | succ n2 ih2 =>
      intro v2_3 v2_4 t2_f t2_s t2_n a2_3 b2_3 a2_4 b2_4 v2_f v2_s v2_n va2_f vb2_f va2_s vb2_s va2_n vb2_n w2_0 m2
      refine te_iload (p2 := 12) rfl rfl rfl ?_
      refine te_aload_n (p2 := 13) rfl rfl rfl ?_
      refine tg_r (p2 := 16) (i := 148) (r := 191) rfl rfl hI rfl rfl rfl ?_
      refine te_iload_n (p2 := 17) rfl rfl rfl ?_
      refine tl_e (p2 := 18) (i := 175) (n := 8) (t := 0) (Or.inl rfl) rfl rfl hI rfl rfl (by omega) (by omega) v2_n ?_
      refine tb_ge (p2 := 21) rfl rfl rfl rfl (fun c6 => ?_) (fun c6 => ?_)
      · refine te_iconst (p2 := 51) (x := 0) rfl rfl (by decide) ?_
        exact te_zret rfl rfl (by decide) ⟨rfl, _, rfl, Or.inr ⟨rfl, fun ho => by (obtain ⟨j, hj, hc, hn⟩ := (ovh_of v2_f v2_s v2_n).mp ho; by_cases hjk : j < v2_4.toInt.toNat; exact (w2_0.2 j hjk).2 hc; have hm := hn v2_4.toInt.toNat (by omega); rw [← w2_0.1] at hm; omega)⟩⟩
      · refine te_iload_n (p2 := 22) rfl rfl rfl ?_
        refine te_iconst (p2 := 23) (x := (-1)) rfl rfl (by decide) ?_
        refine tb_eq (p2 := 26) rfl rfl rfl (show Int32.toInt (-1) = (-1) from rfl) (fun c7 => ?_) (fun c7 => ?_)
        · refine te_iconst (p2 := 51) (x := 0) rfl rfl (by decide) ?_
          exact te_zret rfl rfl (by decide) ⟨rfl, _, rfl, Or.inr ⟨rfl, fun ho => by (obtain ⟨j, hj, hc, hn⟩ := (ovh_of v2_f v2_s v2_n).mp ho; by_cases hjk : j < v2_4.toInt.toNat; exact (w2_0.2 j hjk).2 hc; have hm := hn v2_4.toInt.toNat (by omega); rw [← w2_0.1] at hm; omega)⟩⟩
        · refine te_iload_n (p2 := 27) rfl rfl rfl ?_
          refine te_iload_n (p2 := 28) rfl rfl rfl ?_
          refine tb_ne (p2 := 31) rfl rfl rfl rfl (fun c8 => ?_) (fun c8 => ?_)
          · refine te_iload_n (p2 := 34) rfl rfl rfl ?_
            refine te_aload_n (p2 := 35) rfl rfl rfl ?_
            refine tg_r (p2 := 38) (i := 148) (r := 190) rfl rfl hI rfl rfl rfl ?_
            refine te_iload_n (p2 := 39) rfl rfl rfl ?_
            refine tl_e (p2 := 40) (i := 174) (n := 8) (t := 0) (Or.inl rfl) rfl rfl hI rfl rfl (by omega) (by omega) v2_s ?_
            refine cS_pI (p2 := 43) rfl rfl rfl rfl (t_X12_nextTo (c := v2_3) (side := t2_s) hI (by omega) (by omega)) (by decide) (fun y10 r10 => ?_)
            obtain ⟨a10, b10, e10⟩ := r10
            refine te_istore_n (p2 := 44) (lv2 := [(3, .int y10), (0, .ref 164), (1, .int r), (2, .int c), (4, .int v2_4)]) rfl rfl (by decide) rfl ?_
            refine ar_inc (p2 := 47) (x := v2_4) rfl rfl (by decide) rfl (by decide) rfl (by omega) (by omega) (fun z11 e11 f11 => ?_)
            show EvP _ _ _ (47, [(4, .int z11), (3, .int y10), (0, .ref 164), (1, .int r), (2, .int c)], [], h) _
            refine te_goto rfl ?_
            refine te_lv [(0, .ref 164), (1, .int r), (2, .int c), (3, .int y10), (4, .int z11)] rfl rfl ⟨rfl, rfl, rfl, rfl, rfl, trivial⟩ ?_
            exact ih2 y10 z11 t2_f t2_s t2_n (by omega) (by omega) (by omega) (by omega) v2_f v2_s v2_n (by omega) (by omega) (by omega) (by omega) (by omega) (by omega) ⟨by rw [show z11.toInt.toNat = v2_4.toInt.toNat + 1 by omega]; show y10 = nbr (pth t2_f t2_s v2_4.toInt.toNat) t2_s; rw [← w2_0.1]; exact e10, fun i hi => by (by_cases hik : i < v2_4.toInt.toNat; exact w2_0.2 i hik; have hie : i = v2_4.toInt.toNat := (by omega); rw [hie, ← w2_0.1]; exact ⟨by omega, fun hc => by (have := congrArg Int32.toInt hc; omega)⟩)⟩ (by omega)
          · refine te_iconst (p2 := 32) (x := 1) rfl rfl (by decide) ?_
            exact te_zret rfl rfl (by decide) ⟨rfl, _, rfl, Or.inl ⟨rfl, (ovh_of v2_f v2_s v2_n).mpr ⟨v2_4.toInt.toNat, by omega, by rw [← w2_0.1]; exact i32_ext (by omega), fun i hi => by (by_cases hik : i < v2_4.toInt.toNat; exact (w2_0.2 i hik).1; have hie : i = v2_4.toInt.toNat := (by omega); rw [hie, ← w2_0.1]; omega)⟩⟩⟩
  refine te_lv [(0, .ref 164), (1, .int r), (2, .int c), (3, .int y1), (4, .int 0)] rfl rfl ⟨rfl, rfl, rfl, rfl, rfl, trivial⟩ ?_
  exact lp2 11 y1 0 y1 y3 y4 (by omega) (by omega) (by decide) (by decide) e1 e3 e4 (by omega) (by omega) (by omega) (by omega) (by omega) (by omega) ⟨rfl, fun i hi => absurd hi (Nat.not_lt_zero i)⟩ (by have cc0 := (show Int32.toInt 0 = 0 from rfl); omega)
set_option maxRecDepth 20000 in
set_option maxHeartbeats 4000000 in
theorem t_X12_leftOver {c : Int32} {h : im_H} (hI : tI h)  : CaP 3 177 [.ref 164, .int c] h (pI h (fun y => ∃ p : Int32, rd h 148 29 = some (.int p) ∧ 0 ≤ p.toInt ∧ p.toInt ≤ 8 ∧ y.toInt = sumL h c p.toInt.toNat)) := by
  refine cap_of (d := 2) (M := mX12_leftOver) rfl (Nat.le_of_ble_eq_true rfl) ?_
  show EvP im_K0 2 mX12_leftOver (0, [(0, .ref 164), (1, .int c)], [], h) _
  refine te_iconst (p2 := 1) (x := 0) rfl rfl (by decide) ?_
  refine te_istore_n (p2 := 2) (lv2 := [(2, .int 0), (0, .ref 164), (1, .int c)]) rfl rfl (by decide) rfl ?_
  refine te_iconst (p2 := 3) (x := 0) rfl rfl (by decide) ?_
  refine te_istore_n (p2 := 4) (lv2 := [(3, .int 0), (2, .int 0), (0, .ref 164), (1, .int c)]) rfl rfl (by decide) rfl ?_
  obtain ⟨v2, e2, y2, w2, a2, b2, _⟩ := hI.2.1 148 29 (.inl (0, 8, 9999999999)) rfl
  subst w2
  have lp1 : ∀ (n1 : Nat) (v1_2 v1_3 t1_p : Int32) , 0 ≤ v1_2.toInt → v1_2.toInt ≤ 72 → 0 ≤ v1_3.toInt → v1_3.toInt ≤ 8 → rd h 148 29 = some (.int t1_p) → 0 ≤ t1_p.toInt → t1_p.toInt ≤ 8 → v1_2.toInt ≤ 9 * v1_3.toInt → v1_3.toInt ≤ t1_p.toInt → v1_2.toInt = sumL h c v1_3.toInt.toNat → 8 - v1_3.toInt < (n1 : Int) → EvP im_K0 2 mX12_leftOver (4, [(0, .ref 164), (1, .int c), (2, .int v1_2), (3, .int v1_3)], [], h) (pI h (fun y => ∃ p : Int32, rd h 148 29 = some (.int p) ∧ 0 ≤ p.toInt ∧ p.toInt ≤ 8 ∧ y.toInt = sumL h c p.toInt.toNat)) := by
    intro n1
    induction n1 with
    | zero => intro v1_2 v1_3 t1_p a1_2 b1_2 a1_3 b1_3 v1_p va1_p vb1_p l1_0 l1_1 w1_0 m1; exfalso; omega
    | succ n1 ih1 =>
      intro v1_2 v1_3 t1_p a1_2 b1_2 a1_3 b1_3 v1_p va1_p vb1_p l1_0 l1_1 w1_0 m1
      refine te_iload_n (p2 := 5) rfl rfl rfl ?_
      refine te_aload_n (p2 := 6) rfl rfl rfl ?_
      refine tg_e (p2 := 9) (i := 148) (v := .int t1_p) rfl rfl hI rfl rfl v1_p ?_
      refine tb_ge (p2 := 12) rfl rfl rfl rfl (fun c3 => ?_) (fun c3 => ?_)
      · refine te_iload_n (p2 := 41) rfl rfl rfl ?_
        exact te_iret rfl rfl ⟨rfl, _, rfl, t1_p, v1_p, by omega, by omega, by rw [show t1_p.toInt.toNat = v1_3.toInt.toNat by omega]; exact w1_0⟩
      · refine te_iload_n (p2 := 13) rfl rfl rfl ?_
        refine te_aload_n (p2 := 14) rfl rfl rfl ?_
        refine te_iload_n (p2 := 15) rfl rfl rfl ?_
        refine te_iload_n (p2 := 16) rfl rfl rfl ?_
        refine cV_pI (p2 := 19) (i := 148) rfl rfl rfl rfl hI rfl rfl rfl (t_X12_isOver (r := v1_3) (c := c) hI (by omega) (by omega)) (by decide) (fun y4 r4 => ?_)
        rcases r4 with ⟨w4, ov4⟩ | ⟨w4, ov4⟩
        · subst w4
          refine tz_eq (p2 := 22) rfl rfl (show Int32.toInt 1 = 1 from rfl) (fun c5 => absurd c5 (by omega)) (fun c5 => ?_)
          refine te_aload_n (p2 := 23) rfl rfl rfl ?_
          refine tg_r (p2 := 26) (i := 148) (r := 192) rfl rfl hI rfl rfl rfl ?_
          refine te_iload_n (p2 := 27) rfl rfl rfl ?_
          refine tl_i (p2 := 28) (i := 176) (n := 8) rfl rfl hI rfl rfl rfl rfl (by omega) (by omega) (fun y6 a6 b6 g6 e6 => ?_)
          refine te_goto rfl ?_
          refine ar_add (p2 := 33) rfl rfl rfl rfl (by omega) (by omega) (fun z7 e7 f7 => ?_)
          refine te_istore_n (p2 := 34) (lv2 := [(2, .int z7), (0, .ref 164), (1, .int c), (3, .int v1_3)]) rfl rfl (by decide) rfl ?_
          refine ar_inc (p2 := 37) (x := v1_3) rfl rfl (by decide) rfl (by decide) rfl (by omega) (by omega) (fun z8 e8 f8 => ?_)
          show EvP _ _ _ (37, [(3, .int z8), (2, .int z7), (0, .ref 164), (1, .int c)], [], h) _
          refine te_goto rfl ?_
          refine te_lv [(0, .ref 164), (1, .int c), (2, .int z7), (3, .int z8)] rfl rfl ⟨rfl, rfl, rfl, rfl, trivial⟩ ?_
          exact ih1 z7 z8 t1_p (by omega) (by omega) (by omega) (by omega) v1_p (by omega) (by omega) (by omega) (by omega) (by rw [show z8.toInt.toNat = v1_3.toInt.toNat + 1 by omega, sumL_s, trm_1 ov4 e6]; omega) (by omega)
        · subst w4
          refine tz_eq (p2 := 22) rfl rfl (show Int32.toInt 0 = 0 from rfl) (fun c9 => ?_) (fun c9 => absurd c9 (by omega))
          refine te_iconst (p2 := 32) (x := 0) rfl rfl (by decide) ?_
          refine ar_add (p2 := 33) rfl rfl rfl (show Int32.toInt 0 = 0 from rfl) (by omega) (by omega) (fun z10 e10 f10 => ?_)
          refine te_istore_n (p2 := 34) (lv2 := [(2, .int z10), (0, .ref 164), (1, .int c), (3, .int v1_3)]) rfl rfl (by decide) rfl ?_
          refine ar_inc (p2 := 37) (x := v1_3) rfl rfl (by decide) rfl (by decide) rfl (by omega) (by omega) (fun z11 e11 f11 => ?_)
          show EvP _ _ _ (37, [(3, .int z11), (2, .int z10), (0, .ref 164), (1, .int c)], [], h) _
          refine te_goto rfl ?_
          refine te_lv [(0, .ref 164), (1, .int c), (2, .int z10), (3, .int z11)] rfl rfl ⟨rfl, rfl, rfl, rfl, trivial⟩ ?_
          exact ih1 z10 z11 t1_p (by omega) (by omega) (by omega) (by omega) v1_p (by omega) (by omega) (by omega) (by omega) (by rw [show z11.toInt.toNat = v1_3.toInt.toNat + 1 by omega, sumL_s, trm_0 ov4]; omega) (by omega)
  refine te_lv [(0, .ref 164), (1, .int c), (2, .int 0), (3, .int 0)] rfl rfl ⟨rfl, rfl, rfl, rfl, trivial⟩ ?_
  exact lp1 9 0 0 y2 (by decide) (by decide) (by decide) (by decide) e2 (by omega) (by omega) (by have cc0 := (show Int32.toInt 0 = 0 from rfl); omega) (by have cc0 := (show Int32.toInt 0 = 0 from rfl); omega) rfl (by have cc0 := (show Int32.toInt 0 = 0 from rfl); omega)
abbrev F_X12_probe : List (Nat × Nat × Nat) := [(176, 0, 7), (177, 0, 99)]
set_option maxRecDepth 20000 in
set_option maxHeartbeats 4000000 in
theorem t_X12_probe {x1 : Int32} {x2 : Int32} {h : im_H} (hI : tI h)  : CaP 4 178 [.ref 164, .int x1, .int x2] h (mI h F_X12_probe (fun _ => True)) := by
  refine cap_of (d := 3) (M := mX12_probe) rfl (Nat.le_of_ble_eq_true rfl) ?_
  show EvP im_K0 3 mX12_probe (0, [(0, .ref 164), (1, .int x1), (2, .int x2)], [], h) _
  have f0 : fr F_X12_probe h h := fr_rf
  refine te_iload_n (p2 := 1) rfl rfl rfl ?_
  refine cS_pI (p2 := 4) rfl rfl rfl rfl (t_X12_isCell (n := x1) hI ) (by decide) (fun y1 r1 => ?_)
  rcases r1 with ⟨w1, c1⟩ | ⟨w1, c1⟩
  · subst w1
    refine tz_ne (p2 := 7) rfl rfl (show Int32.toInt 1 = 1 from rfl) (fun c2 => ?_) (fun c2 => absurd c2 (by omega))
    refine te_iload_n (p2 := 10) rfl rfl rfl ?_
    refine te_iconst (p2 := 11) (x := 0) rfl rfl (by decide) ?_
    refine te_bipush (p2 := 13) (x := 9) rfl rfl (by decide) ?_
    refine cS_pI (p2 := 16) rfl rfl rfl rfl (t_X12_in (n := x2) (a := 0) (b := 9) hI ) (by decide) (fun y3 r3 => ?_)
    rcases r3 with ⟨w3, c3⟩ | ⟨w3, c3⟩
    · subst w3
      have cc3_1 := (show Int32.toInt 0 = 0 from rfl)
      have cc3_2 := (show Int32.toInt 9 = 9 from rfl)
      refine tz_ne (p2 := 19) rfl rfl (show Int32.toInt 1 = 1 from rfl) (fun c4 => ?_) (fun c4 => absurd c4 (by omega))
      refine te_aload_n (p2 := 23) rfl rfl rfl ?_
      refine tg_r (p2 := 26) (i := 148) (r := 193) rfl rfl hI rfl rfl rfl ?_
      refine te_iload_n (p2 := 27) rfl rfl rfl ?_
      refine tl_b (p2 := 28) (i := 177) (n := 100) rfl rfl hI rfl rfl rfl rfl (by omega) (by omega) (fun y5 a5 e5 => ?_)
      refine tz_eq (p2 := 31) rfl rfl rfl (fun c6 => ?_) (fun c6 => ?_)
      · refine te_iload_n (p2 := 35) rfl rfl rfl ?_
        refine te_aload_n (p2 := 36) rfl rfl rfl ?_
        refine te_iload_n (p2 := 37) rfl rfl rfl ?_
        refine cV_pI (p2 := 40) (i := 148) rfl rfl rfl rfl hI rfl rfl rfl (t_X12_leftOver (c := x1) hI) (by decide) (fun y7 r7 => ?_)
        obtain ⟨p7, e7, a7, b7, w7⟩ := r7
        refine tb_le (p2 := 43) rfl rfl rfl rfl (fun c8 => ?_) (fun c8 => ?_)
        · refine te_aload_n (p2 := 47) rfl rfl rfl ?_
          refine tg_r (p2 := 50) (i := 148) (r := 193) rfl rfl hI rfl rfl rfl ?_
          refine te_iload_n (p2 := 51) rfl rfl rfl ?_
          refine te_iconst (p2 := 52) (x := 1) rfl rfl (by decide) ?_
          refine ts_b (p2 := 53) (i := 177) (n := 100) rfl rfl hI rfl rfl rfl rfl (by omega) (by omega) (by decide) (by decide) rfl (fun h9 I9 u9 => ?_)
          have f9 := fr_st (F := F_X12_probe) 1 f0 u9 rfl (by omega) (by omega)
          refine te_iconst (p2 := 54) (x := 0) rfl rfl (by decide) ?_
          refine te_istore_n (p2 := 55) (lv2 := [(3, .int 0), (0, .ref 164), (1, .int x1), (2, .int x2)]) rfl rfl (by decide) rfl ?_
          have lp10 : ∀ (n10 : Nat) (v10_3 t10_p : Int32) (h10 : im_H), tI h10 → fr F_X12_probe h h10 → 0 ≤ v10_3.toInt → v10_3.toInt ≤ 9 → rd h10 148 29 = some (.int t10_p) → 0 ≤ t10_p.toInt → t10_p.toInt ≤ 8 → v10_3.toInt ≤ x2.toInt → x2.toInt - v10_3.toInt ≤ sumL h10 x1 t10_p.toInt.toNat → x2.toInt - v10_3.toInt < (n10 : Int) → EvP im_K0 3 mX12_probe (55, [(0, .ref 164), (1, .int x1), (2, .int x2), (3, .int v10_3)], [], h10) (mI h F_X12_probe (fun _ => True)) := by
            intro n10
            induction n10 with
            | zero => intro v10_3 t10_p h10 I10 f10 a10_3 b10_3 v10_p va10_p vb10_p l10_0 w10_0 m10; exfalso; omega
            | succ n10 ih10 =>
              intro v10_3 t10_p h10 I10 f10 a10_3 b10_3 v10_p va10_p vb10_p l10_0 w10_0 m10
              refine te_iload_n (p2 := 56) rfl rfl rfl ?_
              refine te_iload_n (p2 := 57) rfl rfl rfl ?_
              refine tb_ge (p2 := 60) rfl rfl rfl rfl (fun c11 => ?_) (fun c11 => ?_)
              · refine te_aload_n (p2 := 107) rfl rfl rfl ?_
                refine te_iload_n (p2 := 108) rfl rfl rfl ?_
                refine cV_pI (p2 := 111) (i := 148) rfl rfl rfl rfl I10 rfl rfl rfl (t_X12_leftOver (c := x1) I10) (by decide) (fun y12 r12 => ?_)
                obtain ⟨p12, e12, a12, b12, w12⟩ := r12
                have x12 : p12 = t10_p := int_inj e12 v10_p
                rw [x12] at w12
                exact te_iret rfl rfl ⟨I10, f10, _, rfl, trivial⟩
              · refine te_iconst (p2 := 61) (x := 0) rfl rfl (by decide) ?_
                refine te_istore (p2 := 63) (lv2 := [(4, .int 0), (0, .ref 164), (1, .int x1), (2, .int x2), (3, .int v10_3)]) rfl rfl (by decide) rfl ?_
                have lp13 : ∀ (n13 : Nat) (v13_4 : Int32) , 0 ≤ v13_4.toInt → v13_4.toInt ≤ 8 → v13_4.toInt ≤ t10_p.toInt → sumL h10 x1 v13_4.toInt.toNat = 0 → 8 - v13_4.toInt < (n13 : Int) → EvP im_K0 3 mX12_probe (63, [(0, .ref 164), (1, .int x1), (2, .int x2), (3, .int v10_3), (4, .int v13_4)], [], h10) (mI h F_X12_probe (fun _ => True)) := by
                  intro n13
                  induction n13 with
                  | zero => intro v13_4 a13_4 b13_4 l13_0 w13_0 m13; exfalso; omega
                  | succ n13 ih13 =>
                    intro v13_4 a13_4 b13_4 l13_0 w13_0 m13
                    refine te_aload_n (p2 := 64) rfl rfl rfl ?_
                    have lt14 : v13_4.toInt < t10_p.toInt := Classical.byContradiction (fun hn => by (have e : t10_p.toInt.toNat = v13_4.toInt.toNat := (by omega)); rw [e] at w10_0; omega)
                    refine te_iload (p2 := 66) rfl rfl rfl ?_
                    refine te_iload_n (p2 := 67) rfl rfl rfl ?_
                    refine cV_pI (p2 := 70) (i := 148) rfl rfl rfl rfl I10 rfl rfl rfl (t_X12_isOver (r := v13_4) (c := x1) I10 (by omega) (by omega)) (by decide) (fun y15 r15 => ?_)
                    rcases r15 with ⟨w15, ov15⟩ | ⟨w15, ov15⟩
                    · subst w15
                      refine tz_eq (p2 := 73) rfl rfl (show Int32.toInt 1 = 1 from rfl) (fun c16 => absurd c16 (by omega)) (fun c16 => ?_)
                      refine te_aload_n (p2 := 74) rfl rfl rfl ?_
                      refine tg_r (p2 := 77) (i := 148) (r := 192) rfl rfl I10 rfl rfl rfl ?_
                      refine te_iload (p2 := 79) rfl rfl rfl ?_
                      refine tl_i (p2 := 80) (i := 176) (n := 8) rfl rfl I10 rfl rfl rfl rfl (by omega) (by omega) (fun y17 a17 b17 g17 e17 => ?_)
                      refine tz_ne (p2 := 83) rfl rfl rfl (fun c18 => ?_) (fun c18 => ?_)
                      · refine te_aload_n (p2 := 90) rfl rfl rfl ?_
                        refine tg_r (p2 := 93) (i := 148) (r := 192) rfl rfl I10 rfl rfl rfl ?_
                        refine te_iload (p2 := 95) rfl rfl rfl ?_
                        refine te_dup2 (p2 := 96) rfl rfl ⟨rfl, rfl⟩ ?_
                        refine tl_e (p2 := 97) (i := 176) (n := 8) (t := 0) (Or.inl rfl) rfl rfl I10 rfl rfl (by omega) (by omega) e17 ?_
                        refine te_iconst (p2 := 98) (x := 1) rfl rfl (by decide) ?_
                        refine ar_sub (p2 := 99) rfl rfl rfl (show Int32.toInt 1 = 1 from rfl) (by omega) (by omega) (fun z20 e20 f20 => ?_)
                        refine ts_i (p2 := 100) (i := 176) (n := 8) rfl rfl I10 rfl rfl rfl rfl (by omega) (by omega) (by omega) (by omega) (by omega) rfl (fun h21 I21 u21 => ?_)
                        have f21 := fr_st (F := F_X12_probe) 0 f10 u21 rfl (by omega) (by omega)
                        refine ar_inc (p2 := 103) (x := v10_3) rfl rfl (by decide) rfl (by decide) rfl (by omega) (by omega) (fun z22 e22 f22 => ?_)
                        show EvP _ _ _ (103, [(3, .int z22), (0, .ref 164), (1, .int x1), (2, .int x2), (4, .int v13_4)], [], h21) _
                        refine te_goto rfl ?_
                        refine te_lv [(0, .ref 164), (1, .int x1), (2, .int x2), (3, .int z22)] rfl rfl ⟨rfl, rfl, rfl, rfl, trivial⟩ ?_
                        exact ih10 z22 t10_p h21 I21 f21 (by omega) (by omega) ((u21.2 _ _ (Or.inl (by decide))).trans v10_p) (by omega) (by omega) (by omega) (by rw [(sumL_dec u21 e17 f20 ov15 t10_p.toInt.toNat).2 (by omega)]; omega) (by omega)
                      · refine ar_inc (p2 := 86) (x := v13_4) rfl rfl (by decide) rfl (by decide) rfl (by omega) (by omega) (fun z23 e23 f23 => ?_)
                        show EvP _ _ _ (86, [(4, .int z23), (0, .ref 164), (1, .int x1), (2, .int x2), (3, .int v10_3)], [], h10) _
                        refine te_goto rfl ?_
                        refine te_lv [(0, .ref 164), (1, .int x1), (2, .int x2), (3, .int v10_3), (4, .int z23)] rfl rfl ⟨rfl, rfl, rfl, rfl, rfl, trivial⟩ ?_
                        exact ih13 z23 (by omega) (by omega) (by omega) (by rw [show z23.toInt.toNat = v13_4.toInt.toNat + 1 by omega, sumL_s, trm_1 ov15 e17]; omega) (by omega)
                    · subst w15
                      refine tz_eq (p2 := 73) rfl rfl (show Int32.toInt 0 = 0 from rfl) (fun c24 => ?_) (fun c24 => absurd c24 (by omega))
                      refine ar_inc (p2 := 86) (x := v13_4) rfl rfl (by decide) rfl (by decide) rfl (by omega) (by omega) (fun z25 e25 f25 => ?_)
                      show EvP _ _ _ (86, [(4, .int z25), (0, .ref 164), (1, .int x1), (2, .int x2), (3, .int v10_3)], [], h10) _
                      refine te_goto rfl ?_
                      refine te_lv [(0, .ref 164), (1, .int x1), (2, .int x2), (3, .int v10_3), (4, .int z25)] rfl rfl ⟨rfl, rfl, rfl, rfl, rfl, trivial⟩ ?_
                      exact ih13 z25 (by omega) (by omega) (by omega) (by rw [show z25.toInt.toNat = v13_4.toInt.toNat + 1 by omega, sumL_s, trm_0 ov15]; omega) (by omega)
                refine te_lv [(0, .ref 164), (1, .int x1), (2, .int x2), (3, .int v10_3), (4, .int 0)] rfl rfl ⟨rfl, rfl, rfl, rfl, rfl, trivial⟩ ?_
                exact lp13 9 0 (by decide) (by decide) (by have cc0 := (show Int32.toInt 0 = 0 from rfl); omega) rfl (by have cc0 := (show Int32.toInt 0 = 0 from rfl); omega)
          refine te_lv [(0, .ref 164), (1, .int x1), (2, .int x2), (3, .int 0)] rfl rfl ⟨rfl, rfl, rfl, rfl, trivial⟩ ?_
          exact lp10 10 0 p7 h9 I9 f9 (by decide) (by decide) ((u9.2 _ _ (Or.inl (by decide))).trans e7) (by omega) (by omega) (by have cc0 := (show Int32.toInt 0 = 0 from rfl); omega) (by rw [sumL_up u9 (by decide) (by decide) (by decide) (by decide)]; rw [show Int32.toInt 0 = 0 from rfl]; omega) (by have cc0 := (show Int32.toInt 0 = 0 from rfl); omega)
        · refine te_bipush (p2 := 45) (x := (-6)) rfl rfl (by decide) ?_
          exact te_iret rfl rfl ⟨hI, f0, _, rfl, trivial⟩
      · refine te_bipush (p2 := 33) (x := (-3)) rfl rfl (by decide) ?_
        exact te_iret rfl rfl ⟨hI, f0, _, rfl, trivial⟩
    · subst w3
      have cc3_1 := (show Int32.toInt 0 = 0 from rfl)
      have cc3_2 := (show Int32.toInt 9 = 9 from rfl)
      refine tz_ne (p2 := 19) rfl rfl (show Int32.toInt 0 = 0 from rfl) (fun c26 => absurd c26 (by omega)) (fun c26 => ?_)
      refine te_bipush (p2 := 21) (x := (-2)) rfl rfl (by decide) ?_
      exact te_iret rfl rfl ⟨hI, f0, _, rfl, trivial⟩
  · subst w1
    refine tz_ne (p2 := 7) rfl rfl (show Int32.toInt 0 = 0 from rfl) (fun c27 => absurd c27 (by omega)) (fun c27 => ?_)
    refine te_iconst (p2 := 8) (x := (-1)) rfl rfl (by decide) ?_
    exact te_iret rfl rfl ⟨hI, f0, _, rfl, trivial⟩
set_option maxRecDepth 20000 in
set_option maxHeartbeats 4000000 in
theorem t_X12_likelyIn {c : Int32} {h : im_H} (hI : tI h) (p_c0 : 0 ≤ c.toInt) (p_c1 : c.toInt ≤ 99) : CaP 3 179 [.ref 164, .int c] h (pI h (fun y => 0 ≤ y.toInt ∧ y.toInt ≤ 181440)) := by
  refine cap_of (d := 2) (M := mX12_likelyIn) rfl (Nat.le_of_ble_eq_true rfl) ?_
  show EvP im_K0 2 mX12_likelyIn (0, [(0, .ref 164), (1, .int c)], [], h) _
  refine te_iconst (p2 := 1) (x := 0) rfl rfl (by decide) ?_
  refine te_istore_n (p2 := 2) (lv2 := [(2, .int 0), (0, .ref 164), (1, .int c)]) rfl rfl (by decide) rfl ?_
  refine te_iconst (p2 := 3) (x := 0) rfl rfl (by decide) ?_
  refine te_istore_n (p2 := 4) (lv2 := [(3, .int 0), (2, .int 0), (0, .ref 164), (1, .int c)]) rfl rfl (by decide) rfl ?_
  have lp1 : ∀ (n1 : Nat) (v1_2 v1_3 : Int32) , 0 ≤ v1_2.toInt → v1_2.toInt ≤ 181440 → 0 ≤ v1_3.toInt → v1_3.toInt ≤ 8 → v1_2.toInt ≤ 22680 * v1_3.toInt → 8 - v1_3.toInt < (n1 : Int) → EvP im_K0 2 mX12_likelyIn (4, [(0, .ref 164), (1, .int c), (2, .int v1_2), (3, .int v1_3)], [], h) (pI h (fun y => 0 ≤ y.toInt ∧ y.toInt ≤ 181440)) := by
    intro n1
    induction n1 with
    | zero => intro v1_2 v1_3 a1_2 b1_2 a1_3 b1_3 l1_0 m1; exfalso; omega
    | succ n1 ih1 =>
      intro v1_2 v1_3 a1_2 b1_2 a1_3 b1_3 l1_0 m1
      refine te_iload_n (p2 := 5) rfl rfl rfl ?_
      refine te_aload_n (p2 := 6) rfl rfl rfl ?_
      refine tg_i (p2 := 9) (i := 148) rfl rfl hI rfl rfl rfl (fun y2 a2 b2 e2 => ?_)
      refine tb_ge (p2 := 12) rfl rfl rfl rfl (fun c3 => ?_) (fun c3 => ?_)
      · refine te_iload_n (p2 := 123) rfl rfl rfl ?_
        exact te_iret rfl rfl ⟨rfl, _, rfl, by omega, by omega⟩
      · refine te_aload_n (p2 := 13) rfl rfl rfl ?_
        refine tg_r (p2 := 16) (i := 148) (r := 193) rfl rfl hI rfl rfl rfl ?_
        refine te_iload_n (p2 := 17) rfl rfl rfl ?_
        refine tl_b (p2 := 18) (i := 177) (n := 100) rfl rfl hI rfl rfl rfl rfl (by omega) (by omega) (fun y4 a4 e4 => ?_)
        refine tz_ne (p2 := 21) rfl rfl rfl (fun c5 => ?_) (fun c5 => ?_)
        · refine te_iload_n (p2 := 123) rfl rfl rfl ?_
          exact te_iret rfl rfl ⟨rfl, _, rfl, by omega, by omega⟩
        · refine te_aload_n (p2 := 22) rfl rfl rfl ?_
          refine te_iload_n (p2 := 23) rfl rfl rfl ?_
          refine te_iload_n (p2 := 24) rfl rfl rfl ?_
          refine cV_pI (p2 := 27) (i := 148) rfl rfl rfl rfl hI rfl rfl rfl (t_X12_isOver (r := v1_3) (c := c) hI (by omega) (by omega)) (by decide) (fun y6 r6 => ?_)
          rcases r6 with ⟨w6, ov6⟩ | ⟨w6, ov6⟩
          · subst w6
            refine tz_eq (p2 := 30) rfl rfl (show Int32.toInt 1 = 1 from rfl) (fun c7 => absurd c7 (by omega)) (fun c7 => ?_)
            refine te_iconst (p2 := 31) (x := 0) rfl rfl (by decide) ?_
            refine te_istore (p2 := 33) (lv2 := [(4, .int 0), (0, .ref 164), (1, .int c), (2, .int v1_2), (3, .int v1_3)]) rfl rfl (by decide) rfl ?_
            refine te_aload_n (p2 := 34) rfl rfl rfl ?_
            refine tg_r (p2 := 37) (i := 148) (r := 189) rfl rfl hI rfl rfl rfl ?_
            refine te_iload_n (p2 := 38) rfl rfl rfl ?_
            refine tl_i (p2 := 39) (i := 173) (n := 8) rfl rfl hI rfl rfl rfl rfl (by omega) (by omega) (fun y8 a8 b8 g8 e8 => ?_)
            refine te_istore (p2 := 41) (lv2 := [(5, .int y8), (4, .int 0), (0, .ref 164), (1, .int c), (2, .int v1_2), (3, .int v1_3)]) rfl rfl (by decide) rfl ?_
            refine te_iconst (p2 := 42) (x := 0) rfl rfl (by decide) ?_
            refine te_istore (p2 := 44) (lv2 := [(6, .int 0), (5, .int y8), (4, .int 0), (0, .ref 164), (1, .int c), (2, .int v1_2), (3, .int v1_3)]) rfl rfl (by decide) rfl ?_
            obtain ⟨v10, e10, y10, w10, a10, b10, _⟩ := hI.2.1 174 v1_3.toInt.toNat (.inl (0, 3, 9999999999)) (tq_row rfl (by omega))
            subst w10
            obtain ⟨v11, e11, y11, w11, a11, b11, _⟩ := hI.2.1 175 v1_3.toInt.toNat (.inl (0, 10, 9999999999)) (tq_row rfl (by omega))
            subst w11
            have lp9 : ∀ (n9 : Nat) (v9_4 v9_5 v9_6 t9_f t9_s t9_n : Int32) , 0 ≤ v9_4.toInt → v9_4.toInt ≤ 10 → (-1) ≤ v9_5.toInt → v9_5.toInt ≤ 99 → 0 ≤ v9_6.toInt → v9_6.toInt ≤ 10 → rd h 173 v1_3.toInt.toNat = some (.int t9_f) → rd h 174 v1_3.toInt.toNat = some (.int t9_s) → rd h 175 v1_3.toInt.toNat = some (.int t9_n) → 0 ≤ t9_f.toInt → t9_f.toInt ≤ 99 → 0 ≤ t9_s.toInt → t9_s.toInt ≤ 3 → 0 ≤ t9_n.toInt → t9_n.toInt ≤ 10 → v9_4.toInt ≤ v9_6.toInt → (v9_5 = pth t9_f t9_s v9_6.toInt.toNat ∧ ∀ i, i < v9_6.toInt.toNat → (pth t9_f t9_s i).toInt ≠ -1 ∧ (pth t9_f t9_s i = c → 1 ≤ v9_4.toInt)) → 10 - v9_6.toInt < (n9 : Int) → EvP im_K0 2 mX12_likelyIn (44, [(0, .ref 164), (1, .int c), (2, .int v1_2), (3, .int v1_3), (4, .int v9_4), (5, .int v9_5), (6, .int v9_6)], [], h) (pI h (fun y => 0 ≤ y.toInt ∧ y.toInt ≤ 181440)) := by
              intro n9
              induction n9 with
              | zero => intro v9_4 v9_5 v9_6 t9_f t9_s t9_n a9_4 b9_4 a9_5 b9_5 a9_6 b9_6 v9_f v9_s v9_n va9_f vb9_f va9_s vb9_s va9_n vb9_n l9_0 w9_0 m9; exfalso; omega
              | succ n9 ih9 =>
                intro v9_4 v9_5 v9_6 t9_f t9_s t9_n a9_4 b9_4 a9_5 b9_5 a9_6 b9_6 v9_f v9_s v9_n va9_f vb9_f va9_s vb9_s va9_n vb9_n l9_0 w9_0 m9
                refine te_iload (p2 := 46) rfl rfl rfl ?_
                refine te_aload_n (p2 := 47) rfl rfl rfl ?_
                refine tg_r (p2 := 50) (i := 148) (r := 191) rfl rfl hI rfl rfl rfl ?_
                refine te_iload_n (p2 := 51) rfl rfl rfl ?_
                refine tl_e (p2 := 52) (i := 175) (n := 8) (t := 0) (Or.inl rfl) rfl rfl hI rfl rfl (by omega) (by omega) v9_n ?_
                refine tb_ge (p2 := 55) rfl rfl rfl rfl (fun c13 => ?_) (fun c13 => ?_)
                · refine te_iload_n (p2 := 101) rfl rfl rfl ?_
                  refine te_sipush (p2 := 104) (x := 2520) rfl rfl (by decide) ?_
                  refine te_iload (p2 := 106) rfl rfl rfl ?_
                  obtain ⟨j14, hj14, hc14, hn14⟩ := (ovh_of v9_f v9_s v9_n).mp ov6
                  have lt14 : j14 < v9_6.toInt.toNat := Classical.byContradiction (fun hq => by (have hm := hn14 v9_6.toInt.toNat (by omega); rw [← w9_0.1] at hm; omega))
                  have op14 := (w9_0.2 j14 lt14).2 hc14
                  refine ab_div (p2 := 107) rfl rfl (show Int32.toInt 2520 = 2520 from rfl) rfl (by decide) (by omega) (fun z15 e15 fa15 fb15 => ?_)
                  refine te_aload_n (p2 := 108) rfl rfl rfl ?_
                  refine tg_r (p2 := 111) (i := 148) (r := 192) rfl rfl hI rfl rfl rfl ?_
                  refine te_iload_n (p2 := 112) rfl rfl rfl ?_
                  refine tl_i (p2 := 113) (i := 176) (n := 8) rfl rfl hI rfl rfl rfl rfl (by omega) (by omega) (fun y16 a16 b16 g16 e16 => ?_)
                  refine ab_mul 2520 9 (p2 := 114) rfl rfl rfl rfl (by omega) (by omega) (by omega) (by omega) (by decide) (fun z17 e17 fa17 fb17 => ?_)
                  refine ar_add (p2 := 115) rfl rfl rfl rfl (by omega) (by omega) (fun z18 e18 f18 => ?_)
                  refine te_istore_n (p2 := 116) (lv2 := [(2, .int z18), (0, .ref 164), (1, .int c), (3, .int v1_3), (4, .int v9_4), (5, .int v9_5), (6, .int v9_6)]) rfl rfl (by decide) rfl ?_
                  refine ar_inc (p2 := 119) (x := v1_3) rfl rfl (by decide) rfl (by decide) rfl (by omega) (by omega) (fun z19 e19 f19 => ?_)
                  show EvP _ _ _ (119, [(3, .int z19), (2, .int z18), (0, .ref 164), (1, .int c), (4, .int v9_4), (5, .int v9_5), (6, .int v9_6)], [], h) _
                  refine te_goto rfl ?_
                  refine te_lv [(0, .ref 164), (1, .int c), (2, .int z18), (3, .int z19)] rfl rfl ⟨rfl, rfl, rfl, rfl, trivial⟩ ?_
                  exact ih1 z18 z19 (by omega) (by omega) (by omega) (by omega) (by omega) (by omega)
                · refine te_iload (p2 := 57) rfl rfl rfl ?_
                  refine te_iconst (p2 := 58) (x := (-1)) rfl rfl (by decide) ?_
                  refine tb_eq (p2 := 61) rfl rfl rfl (show Int32.toInt (-1) = (-1) from rfl) (fun c20 => ?_) (fun c20 => ?_)
                  · refine te_iload_n (p2 := 101) rfl rfl rfl ?_
                    refine te_sipush (p2 := 104) (x := 2520) rfl rfl (by decide) ?_
                    refine te_iload (p2 := 106) rfl rfl rfl ?_
                    obtain ⟨j21, hj21, hc21, hn21⟩ := (ovh_of v9_f v9_s v9_n).mp ov6
                    have lt21 : j21 < v9_6.toInt.toNat := Classical.byContradiction (fun hq => by (have hm := hn21 v9_6.toInt.toNat (by omega); rw [← w9_0.1] at hm; omega))
                    have op21 := (w9_0.2 j21 lt21).2 hc21
                    refine ab_div (p2 := 107) rfl rfl (show Int32.toInt 2520 = 2520 from rfl) rfl (by decide) (by omega) (fun z22 e22 fa22 fb22 => ?_)
                    refine te_aload_n (p2 := 108) rfl rfl rfl ?_
                    refine tg_r (p2 := 111) (i := 148) (r := 192) rfl rfl hI rfl rfl rfl ?_
                    refine te_iload_n (p2 := 112) rfl rfl rfl ?_
                    refine tl_i (p2 := 113) (i := 176) (n := 8) rfl rfl hI rfl rfl rfl rfl (by omega) (by omega) (fun y23 a23 b23 g23 e23 => ?_)
                    refine ab_mul 2520 9 (p2 := 114) rfl rfl rfl rfl (by omega) (by omega) (by omega) (by omega) (by decide) (fun z24 e24 fa24 fb24 => ?_)
                    refine ar_add (p2 := 115) rfl rfl rfl rfl (by omega) (by omega) (fun z25 e25 f25 => ?_)
                    refine te_istore_n (p2 := 116) (lv2 := [(2, .int z25), (0, .ref 164), (1, .int c), (3, .int v1_3), (4, .int v9_4), (5, .int v9_5), (6, .int v9_6)]) rfl rfl (by decide) rfl ?_
                    refine ar_inc (p2 := 119) (x := v1_3) rfl rfl (by decide) rfl (by decide) rfl (by omega) (by omega) (fun z26 e26 f26 => ?_)
                    show EvP _ _ _ (119, [(3, .int z26), (2, .int z25), (0, .ref 164), (1, .int c), (4, .int v9_4), (5, .int v9_5), (6, .int v9_6)], [], h) _
                    refine te_goto rfl ?_
                    refine te_lv [(0, .ref 164), (1, .int c), (2, .int z25), (3, .int z26)] rfl rfl ⟨rfl, rfl, rfl, rfl, trivial⟩ ?_
                    exact ih1 z25 z26 (by omega) (by omega) (by omega) (by omega) (by omega) (by omega)
                  · refine te_iload (p2 := 63) rfl rfl rfl ?_
                    refine te_aload_n (p2 := 64) rfl rfl rfl ?_
                    refine tg_r (p2 := 67) (i := 148) (r := 193) rfl rfl hI rfl rfl rfl ?_
                    refine te_iload (p2 := 69) rfl rfl rfl ?_
                    refine tl_b (p2 := 70) (i := 177) (n := 100) rfl rfl hI rfl rfl rfl rfl (by omega) (by omega) (fun y27 a27 e27 => ?_)
                    refine tz_eq (p2 := 73) rfl rfl rfl (fun c28 => ?_) (fun c28 => ?_)
                    · refine te_iconst (p2 := 78) (x := 1) rfl rfl (by decide) ?_
                      refine ar_add (p2 := 79) rfl rfl rfl (show Int32.toInt 1 = 1 from rfl) (by omega) (by omega) (fun z29 e29 f29 => ?_)
                      refine te_istore (p2 := 81) (lv2 := [(4, .int z29), (0, .ref 164), (1, .int c), (2, .int v1_2), (3, .int v1_3), (5, .int v9_5), (6, .int v9_6)]) rfl rfl (by decide) rfl ?_
                      refine te_iload (p2 := 83) rfl rfl rfl ?_
                      refine te_aload_n (p2 := 84) rfl rfl rfl ?_
                      refine tg_r (p2 := 87) (i := 148) (r := 190) rfl rfl hI rfl rfl rfl ?_
                      refine te_iload_n (p2 := 88) rfl rfl rfl ?_
                      refine tl_e (p2 := 89) (i := 174) (n := 8) (t := 0) (Or.inl rfl) rfl rfl hI rfl rfl (by omega) (by omega) v9_s ?_
                      refine cS_pI (p2 := 92) rfl rfl rfl rfl (t_X12_nextTo (c := v9_5) (side := t9_s) hI (by omega) (by omega)) (by decide) (fun y31 r31 => ?_)
                      obtain ⟨a31, b31, e31⟩ := r31
                      refine te_istore (p2 := 94) (lv2 := [(5, .int y31), (4, .int z29), (0, .ref 164), (1, .int c), (2, .int v1_2), (3, .int v1_3), (6, .int v9_6)]) rfl rfl (by decide) rfl ?_
                      refine ar_inc (p2 := 97) (x := v9_6) rfl rfl (by decide) rfl (by decide) rfl (by omega) (by omega) (fun z32 e32 f32 => ?_)
                      show EvP _ _ _ (97, [(6, .int z32), (5, .int y31), (4, .int z29), (0, .ref 164), (1, .int c), (2, .int v1_2), (3, .int v1_3)], [], h) _
                      refine te_goto rfl ?_
                      refine te_lv [(0, .ref 164), (1, .int c), (2, .int v1_2), (3, .int v1_3), (4, .int z29), (5, .int y31), (6, .int z32)] rfl rfl ⟨rfl, rfl, rfl, rfl, rfl, rfl, rfl, trivial⟩ ?_
                      exact ih9 z29 y31 z32 t9_f t9_s t9_n (by omega) (by omega) (by omega) (by omega) (by omega) (by omega) v9_f v9_s v9_n (by omega) (by omega) (by omega) (by omega) (by omega) (by omega) (by omega) ⟨by rw [show z32.toInt.toNat = v9_6.toInt.toNat + 1 by omega]; show y31 = nbr (pth t9_f t9_s v9_6.toInt.toNat) t9_s; rw [← w9_0.1]; exact e31, fun i hi => by (by_cases hik : i < v9_6.toInt.toNat; exact ⟨(w9_0.2 i hik).1, fun hc => by (have := (w9_0.2 i hik).2 hc; omega)⟩; have hie : i = v9_6.toInt.toNat := (by omega); rw [hie, ← w9_0.1]; exact ⟨by omega, fun hc => by (have hq : y27 = y4 := int_inj e27 (by rw [hc]; exact e4); have := congrArg Int32.toInt hq; omega)⟩)⟩ (by omega)
                    · refine te_iconst (p2 := 74) (x := 0) rfl rfl (by decide) ?_
                      refine te_goto rfl ?_
                      refine ar_add (p2 := 79) rfl rfl rfl (show Int32.toInt 0 = 0 from rfl) (by omega) (by omega) (fun z33 e33 f33 => ?_)
                      refine te_istore (p2 := 81) (lv2 := [(4, .int z33), (0, .ref 164), (1, .int c), (2, .int v1_2), (3, .int v1_3), (5, .int v9_5), (6, .int v9_6)]) rfl rfl (by decide) rfl ?_
                      refine te_iload (p2 := 83) rfl rfl rfl ?_
                      refine te_aload_n (p2 := 84) rfl rfl rfl ?_
                      refine tg_r (p2 := 87) (i := 148) (r := 190) rfl rfl hI rfl rfl rfl ?_
                      refine te_iload_n (p2 := 88) rfl rfl rfl ?_
                      refine tl_e (p2 := 89) (i := 174) (n := 8) (t := 0) (Or.inl rfl) rfl rfl hI rfl rfl (by omega) (by omega) v9_s ?_
                      refine cS_pI (p2 := 92) rfl rfl rfl rfl (t_X12_nextTo (c := v9_5) (side := t9_s) hI (by omega) (by omega)) (by decide) (fun y35 r35 => ?_)
                      obtain ⟨a35, b35, e35⟩ := r35
                      refine te_istore (p2 := 94) (lv2 := [(5, .int y35), (4, .int z33), (0, .ref 164), (1, .int c), (2, .int v1_2), (3, .int v1_3), (6, .int v9_6)]) rfl rfl (by decide) rfl ?_
                      refine ar_inc (p2 := 97) (x := v9_6) rfl rfl (by decide) rfl (by decide) rfl (by omega) (by omega) (fun z36 e36 f36 => ?_)
                      show EvP _ _ _ (97, [(6, .int z36), (5, .int y35), (4, .int z33), (0, .ref 164), (1, .int c), (2, .int v1_2), (3, .int v1_3)], [], h) _
                      refine te_goto rfl ?_
                      refine te_lv [(0, .ref 164), (1, .int c), (2, .int v1_2), (3, .int v1_3), (4, .int z33), (5, .int y35), (6, .int z36)] rfl rfl ⟨rfl, rfl, rfl, rfl, rfl, rfl, rfl, trivial⟩ ?_
                      exact ih9 z33 y35 z36 t9_f t9_s t9_n (by omega) (by omega) (by omega) (by omega) (by omega) (by omega) v9_f v9_s v9_n (by omega) (by omega) (by omega) (by omega) (by omega) (by omega) (by omega) ⟨by rw [show z36.toInt.toNat = v9_6.toInt.toNat + 1 by omega]; show y35 = nbr (pth t9_f t9_s v9_6.toInt.toNat) t9_s; rw [← w9_0.1]; exact e35, fun i hi => by (by_cases hik : i < v9_6.toInt.toNat; exact ⟨(w9_0.2 i hik).1, fun hc => by (have := (w9_0.2 i hik).2 hc; omega)⟩; have hie : i = v9_6.toInt.toNat := (by omega); rw [hie, ← w9_0.1]; exact ⟨by omega, fun hc => by (have hq : y27 = y4 := int_inj e27 (by rw [hc]; exact e4); have := congrArg Int32.toInt hq; omega)⟩)⟩ (by omega)
            refine te_lv [(0, .ref 164), (1, .int c), (2, .int v1_2), (3, .int v1_3), (4, .int 0), (5, .int y8), (6, .int 0)] rfl rfl ⟨rfl, rfl, rfl, rfl, rfl, rfl, rfl, trivial⟩ ?_
            exact lp9 11 0 y8 0 y8 y10 y11 (by decide) (by decide) (by omega) (by omega) (by decide) (by decide) e8 e10 e11 (by omega) (by omega) (by omega) (by omega) (by omega) (by omega) (by have cc0 := (show Int32.toInt 0 = 0 from rfl); omega) ⟨rfl, fun i hi => absurd hi (Nat.not_lt_zero i)⟩ (by have cc0 := (show Int32.toInt 0 = 0 from rfl); omega)
          · subst w6
            refine tz_eq (p2 := 30) rfl rfl (show Int32.toInt 0 = 0 from rfl) (fun c37 => ?_) (fun c37 => absurd c37 (by omega))
            refine ar_inc (p2 := 119) (x := v1_3) rfl rfl (by decide) rfl (by decide) rfl (by omega) (by omega) (fun z38 e38 f38 => ?_)
            show EvP _ _ _ (119, [(3, .int z38), (0, .ref 164), (1, .int c), (2, .int v1_2)], [], h) _
            refine te_goto rfl ?_
            refine te_lv [(0, .ref 164), (1, .int c), (2, .int v1_2), (3, .int z38)] rfl rfl ⟨rfl, rfl, rfl, rfl, trivial⟩ ?_
            exact ih1 v1_2 z38 (by omega) (by omega) (by omega) (by omega) (by omega) (by omega)
  refine te_lv [(0, .ref 164), (1, .int c), (2, .int 0), (3, .int 0)] rfl rfl ⟨rfl, rfl, rfl, rfl, trivial⟩ ?_
  exact lp1 9 0 0 (by decide) (by decide) (by decide) (by decide) (by have cc0 := (show Int32.toInt 0 = 0 from rfl); omega) (by have cc0 := (show Int32.toInt 0 = 0 from rfl); omega)
abbrev F_X12_likely : List (Nat × Nat × Nat) := []
set_option maxRecDepth 20000 in
set_option maxHeartbeats 4000000 in
theorem t_X12_likely {x1 : Int32} {x2 : Int32} {h : im_H} (hI : tI h)  : CaP 4 180 [.ref 164, .int x1, .int x2] h (mL h F_X12_likely) := by
  refine cap_of (d := 3) (M := mX12_likely) rfl (Nat.le_of_ble_eq_true rfl) ?_
  show EvP im_K0 3 mX12_likely (0, [(0, .ref 164), (1, .int x1), (2, .int x2)], [], h) _
  have f0 : fr F_X12_likely h h := fr_rf
  refine te_iload_n (p2 := 1) rfl rfl rfl ?_
  refine cS_pI (p2 := 4) rfl rfl rfl rfl (t_X12_isCell (n := x1) hI ) (by decide) (fun y1 r1 => ?_)
  rcases r1 with ⟨w1, c1⟩ | ⟨w1, c1⟩
  · subst w1
    refine tz_eq (p2 := 7) rfl rfl (show Int32.toInt 1 = 1 from rfl) (fun c2 => absurd c2 (by omega)) (fun c2 => ?_)
    refine te_iload_n (p2 := 8) rfl rfl rfl ?_
    refine te_iconst (p2 := 9) (x := 0) rfl rfl (by decide) ?_
    refine te_iconst (p2 := 10) (x := 1) rfl rfl (by decide) ?_
    refine cS_pI (p2 := 13) rfl rfl rfl rfl (t_X12_in (n := x2) (a := 0) (b := 1) hI ) (by decide) (fun y3 r3 => ?_)
    rcases r3 with ⟨w3, c3⟩ | ⟨w3, c3⟩
    · subst w3
      have cc3_1 := (show Int32.toInt 0 = 0 from rfl)
      have cc3_2 := (show Int32.toInt 1 = 1 from rfl)
      refine tz_ne (p2 := 16) rfl rfl (show Int32.toInt 1 = 1 from rfl) (fun c4 => ?_) (fun c4 => absurd c4 (by omega))
      refine te_aload_n (p2 := 21) rfl rfl rfl ?_
      refine te_iload_n (p2 := 22) rfl rfl rfl ?_
      refine cV_pI (p2 := 25) (i := 148) rfl rfl rfl rfl hI rfl rfl rfl (t_X12_likelyIn (c := x1) hI (by omega) (by omega)) (by decide) (fun y5 r5 => ?_)
      obtain ⟨a5, b5⟩ := r5
      refine te_istore_n (p2 := 26) (lv2 := [(3, .int y5), (0, .ref 164), (1, .int x1), (2, .int x2)]) rfl rfl (by decide) rfl ?_
      refine te_iload_n (p2 := 27) rfl rfl rfl ?_
      refine te_istore (p2 := 29) (lv2 := [(4, .int y5), (3, .int y5), (0, .ref 164), (1, .int x1), (2, .int x2)]) rfl rfl (by decide) rfl ?_
      refine te_sipush (p2 := 32) (x := 2520) rfl rfl (by decide) ?_
      refine te_istore (p2 := 34) (lv2 := [(5, .int 2520), (4, .int y5), (3, .int y5), (0, .ref 164), (1, .int x1), (2, .int x2)]) rfl rfl (by decide) rfl ?_
      have lp6 : ∀ (n6 : Nat) (v6_4 v6_5 : Int32) , 0 ≤ v6_4.toInt → v6_4.toInt ≤ 200000 → 0 ≤ v6_5.toInt → v6_5.toInt ≤ 2520 → 0 < v6_4.toInt + v6_5.toInt → v6_5.toInt < (n6 : Int) → EvP im_K0 3 mX12_likely (34, [(0, .ref 164), (1, .int x1), (2, .int x2), (3, .int y5), (4, .int v6_4), (5, .int v6_5)], [], h) (mL h F_X12_likely) := by
        intro n6
        induction n6 with
        | zero => intro v6_4 v6_5 a6_4 b6_4 a6_5 b6_5 l6_0 m6; exfalso; omega
        | succ n6 ih6 =>
          intro v6_4 v6_5 a6_4 b6_4 a6_5 b6_5 l6_0 m6
          refine te_iload (p2 := 36) rfl rfl rfl ?_
          refine tz_eq (p2 := 39) rfl rfl rfl (fun c7 => ?_) (fun c7 => ?_)
          · refine te_iload_n (p2 := 58) rfl rfl rfl ?_
            refine tz_ne (p2 := 61) rfl rfl rfl (fun c8 => ?_) (fun c8 => ?_)
            · refine te_sipush (p2 := 68) (x := 2520) rfl rfl (by decide) ?_
              refine te_iload (p2 := 70) rfl rfl rfl ?_
              refine au_div (p2 := 71) rfl rfl rfl (by omega) (fun z9 e9 => ?_)
              refine te_i2l (p2 := 72) (z := (Int32.toInt64 z9)) rfl rfl rfl ?_
              exact te_lret rfl rfl ⟨hI, f0, _, rfl⟩
            · refine te_iload_n (p2 := 62) rfl rfl rfl ?_
              refine te_goto rfl ?_
              refine te_iload (p2 := 70) rfl rfl rfl ?_
              refine au_div (p2 := 71) rfl rfl rfl (by omega) (fun z10 e10 => ?_)
              refine te_i2l (p2 := 72) (z := (Int32.toInt64 z10)) rfl rfl rfl ?_
              exact te_lret rfl rfl ⟨hI, f0, _, rfl⟩
          · refine te_iload (p2 := 41) rfl rfl rfl ?_
            refine te_iload (p2 := 43) rfl rfl rfl ?_
            refine ab_rem (p2 := 44) rfl rfl rfl rfl (by omega) (by omega) (fun z11 e11 fa11 fb11 => ?_)
            refine te_istore (p2 := 46) (lv2 := [(6, .int z11), (0, .ref 164), (1, .int x1), (2, .int x2), (3, .int y5), (4, .int v6_4), (5, .int v6_5)]) rfl rfl (by decide) rfl ?_
            refine te_iload (p2 := 48) rfl rfl rfl ?_
            refine te_istore (p2 := 50) (lv2 := [(4, .int v6_5), (6, .int z11), (0, .ref 164), (1, .int x1), (2, .int x2), (3, .int y5), (5, .int v6_5)]) rfl rfl (by decide) rfl ?_
            refine te_iload (p2 := 52) rfl rfl rfl ?_
            refine te_istore (p2 := 54) (lv2 := [(5, .int z11), (4, .int v6_5), (6, .int z11), (0, .ref 164), (1, .int x1), (2, .int x2), (3, .int y5)]) rfl rfl (by decide) rfl ?_
            refine te_goto rfl ?_
            refine te_lv [(0, .ref 164), (1, .int x1), (2, .int x2), (3, .int y5), (4, .int v6_5), (5, .int z11)] rfl rfl ⟨rfl, rfl, rfl, rfl, rfl, rfl, trivial⟩ ?_
            exact ih6 v6_5 z11 (by omega) (by omega) (by omega) (by omega) (by omega) (by omega)
      refine te_lv [(0, .ref 164), (1, .int x1), (2, .int x2), (3, .int y5), (4, .int y5), (5, .int 2520)] rfl rfl ⟨rfl, rfl, rfl, rfl, rfl, rfl, trivial⟩ ?_
      exact lp6 2521 y5 2520 (by omega) (by omega) (by decide) (by decide) (by have cc0 := (show Int32.toInt 2520 = 2520 from rfl); omega) (by have cc0 := (show Int32.toInt 2520 = 2520 from rfl); omega)
    · subst w3
      have cc3_1 := (show Int32.toInt 0 = 0 from rfl)
      have cc3_2 := (show Int32.toInt 1 = 1 from rfl)
      refine tz_ne (p2 := 16) rfl rfl (show Int32.toInt 0 = 0 from rfl) (fun c12 => absurd c12 (by omega)) (fun c12 => ?_)
      refine te_ldc2 (p2 := 19) (x := (-4611686018427387904)) rfl rfl rfl ?_
      exact te_lret rfl rfl ⟨hI, f0, _, rfl⟩
  · subst w1
    refine tz_eq (p2 := 7) rfl rfl (show Int32.toInt 0 = 0 from rfl) (fun c13 => ?_) (fun c13 => absurd c13 (by omega))
    refine te_ldc2 (p2 := 19) (x := (-4611686018427387904)) rfl rfl rfl ?_
    exact te_lret rfl rfl ⟨hI, f0, _, rfl⟩
abbrev F_X12_next : List (Nat × Nat × Nat) := []
set_option maxRecDepth 20000 in
set_option maxHeartbeats 4000000 in
theorem t_X12_next  {h : im_H} (hI : tI h)  : CaP 4 181 [.ref 164] h (mI h F_X12_next (fun _ => True)) := by
  refine cap_of (d := 3) (M := mX12_next) rfl (Nat.le_of_ble_eq_true rfl) ?_
  show EvP im_K0 3 mX12_next (0, [(0, .ref 164)], [], h) _
  have f0 : fr F_X12_next h h := fr_rf
  refine te_iconst (p2 := 1) (x := (-1)) rfl rfl (by decide) ?_
  refine te_istore_n (p2 := 2) (lv2 := [(1, .int (-1)), (0, .ref 164)]) rfl rfl (by decide) rfl ?_
  refine te_iconst (p2 := 3) (x := 0) rfl rfl (by decide) ?_
  refine te_istore_n (p2 := 4) (lv2 := [(2, .int 0), (1, .int (-1)), (0, .ref 164)]) rfl rfl (by decide) rfl ?_
  refine te_iconst (p2 := 5) (x := 0) rfl rfl (by decide) ?_
  refine te_istore_n (p2 := 6) (lv2 := [(3, .int 0), (2, .int 0), (1, .int (-1)), (0, .ref 164)]) rfl rfl (by decide) rfl ?_
  have lp1 : ∀ (n1 : Nat) (v1_1 v1_2 v1_3 : Int32) , 0 ≤ v1_3.toInt → v1_3.toInt ≤ 100 → 100 - v1_3.toInt < (n1 : Int) → EvP im_K0 3 mX12_next (6, [(0, .ref 164), (1, .int v1_1), (2, .int v1_2), (3, .int v1_3)], [], h) (mI h F_X12_next (fun _ => True)) := by
    intro n1
    induction n1 with
    | zero => intro v1_1 v1_2 v1_3 a1_3 b1_3 m1; exfalso; omega
    | succ n1 ih1 =>
      intro v1_1 v1_2 v1_3 a1_3 b1_3 m1
      refine te_iload_n (p2 := 7) rfl rfl rfl ?_
      refine te_bipush (p2 := 9) (x := 100) rfl rfl (by decide) ?_
      refine tb_ge (p2 := 12) rfl rfl rfl (show Int32.toInt 100 = 100 from rfl) (fun c2 => ?_) (fun c2 => ?_)
      · refine te_iload_n (p2 := 37) rfl rfl rfl ?_
        exact te_iret rfl rfl ⟨hI, f0, _, rfl, trivial⟩
      · refine te_aload_n (p2 := 13) rfl rfl rfl ?_
        refine te_iload_n (p2 := 14) rfl rfl rfl ?_
        refine cV_pI (p2 := 17) (i := 148) rfl rfl rfl rfl hI rfl rfl rfl (t_X12_likelyIn (c := v1_3) hI (by omega) (by omega)) (by decide) (fun y3 r3 => ?_)
        obtain ⟨a3, b3⟩ := r3
        refine te_istore (p2 := 19) (lv2 := [(4, .int y3), (0, .ref 164), (1, .int v1_1), (2, .int v1_2), (3, .int v1_3)]) rfl rfl (by decide) rfl ?_
        refine te_iload (p2 := 21) rfl rfl rfl ?_
        refine te_iload_n (p2 := 22) rfl rfl rfl ?_
        refine tb_le (p2 := 25) rfl rfl rfl rfl (fun c4 => ?_) (fun c4 => ?_)
        · refine ar_inc (p2 := 33) (x := v1_3) rfl rfl (by decide) rfl (by decide) rfl (by omega) (by omega) (fun z5 e5 f5 => ?_)
          show EvP _ _ _ (33, [(3, .int z5), (4, .int y3), (0, .ref 164), (1, .int v1_1), (2, .int v1_2)], [], h) _
          refine te_goto rfl ?_
          refine te_lv [(0, .ref 164), (1, .int v1_1), (2, .int v1_2), (3, .int z5)] rfl rfl ⟨rfl, rfl, rfl, rfl, trivial⟩ ?_
          exact ih1 v1_1 v1_2 z5 (by omega) (by omega) (by omega)
        · refine te_iload (p2 := 27) rfl rfl rfl ?_
          refine te_istore_n (p2 := 28) (lv2 := [(2, .int y3), (4, .int y3), (0, .ref 164), (1, .int v1_1), (3, .int v1_3)]) rfl rfl (by decide) rfl ?_
          refine te_iload_n (p2 := 29) rfl rfl rfl ?_
          refine te_istore_n (p2 := 30) (lv2 := [(1, .int v1_3), (2, .int y3), (4, .int y3), (0, .ref 164), (3, .int v1_3)]) rfl rfl (by decide) rfl ?_
          refine ar_inc (p2 := 33) (x := v1_3) rfl rfl (by decide) rfl (by decide) rfl (by omega) (by omega) (fun z6 e6 f6 => ?_)
          show EvP _ _ _ (33, [(3, .int z6), (1, .int v1_3), (2, .int y3), (4, .int y3), (0, .ref 164)], [], h) _
          refine te_goto rfl ?_
          refine te_lv [(0, .ref 164), (1, .int v1_3), (2, .int y3), (3, .int z6)] rfl rfl ⟨rfl, rfl, rfl, rfl, trivial⟩ ?_
          exact ih1 v1_3 y3 z6 (by omega) (by omega) (by omega)
  refine te_lv [(0, .ref 164), (1, .int (-1)), (2, .int 0), (3, .int 0)] rfl rfl ⟨rfl, rfl, rfl, rfl, trivial⟩ ?_
  exact lp1 101 (-1) 0 0 (by decide) (by decide) (by have cc0 := (show Int32.toInt (-1) = (-1) from rfl); have cc1 := (show Int32.toInt 0 = 0 from rfl); omega)
