theorem inF1 {c a b i k : Nat} (h : c ≠ i) : inF [(c, a, b)] i k = false := by
  simp [inF, h]
def okS (s k n : Int32) : Prop := (0 ≤ s.toInt ∧ s.toInt ≤ 3) ∧ (k.toInt = -1 ∨ (0 ≤ k.toInt ∧ k.toInt ≤ 2 ∧ 0 ≤ n.toInt ∧ n.toInt ≤ 40))
set_option maxRecDepth 20000 in
set_option maxHeartbeats 4000000 in
theorem c_X11_sheet {x1 : Int32} {x2 : Int32} {x3 : Int32} {h : im_H} (hI : tI h)  : CaP 3 104 [.ref 16, .int x1, .int x2, .int x3] h (fun v h2 => tI h2 ∧ fr F_X11_sheet h h2 ∧ ∃ y : Int32, v = some (.int y) ∧ (okS x1 x2 x3 → rd h2 (140 + 2 * x1.toInt.toNat) 0 = some (.int x2)) ∧ (okS x1 x2 x3 → x2.toInt ≠ -1 → rd h2 (140 + 2 * x1.toInt.toNat) 1 = some (.int x3)) ∧ (∀ s b, s < 4 → (s ≠ x1.toInt.toNat ∨ ¬ okS x1 x2 x3) → rd h2 (140 + 2 * s) b = rd h (140 + 2 * s) b)) := by
  refine cap_of (d := 2) (M := mX11_sheet) rfl (Nat.le_of_ble_eq_true rfl) ?_
  show EvP im_K0 2 mX11_sheet (0, [(0, .ref 16), (1, .int x1), (2, .int x2), (3, .int x3)], [], h) _
  have f0 : fr F_X11_sheet h h := fr_rf
  refine te_iload_n (p2 := 1) rfl rfl rfl ?_
  refine te_iconst (p2 := 2) (x := 4) rfl rfl (by decide) ?_
  refine cS_pI (p2 := 5) rfl rfl rfl rfl (t_X11_within (n := x1) (b := 4) hI ) (by decide) (fun y1 r1 => ?_)
  rcases r1 with ⟨w1, c1⟩ | ⟨w1, c1⟩
  · subst w1
    have cc1_1 := (show Int32.toInt 4 = 4 from rfl)
    refine tz_ne (p2 := 8) rfl rfl (show Int32.toInt 1 = 1 from rfl) (fun c2 => ?_) (fun c2 => absurd c2 (by omega))
    refine te_iload_n (p2 := 12) rfl rfl rfl ?_
    refine te_iconst (p2 := 13) (x := (-1)) rfl rfl (by decide) ?_
    refine tb_ne (p2 := 16) rfl rfl rfl (show Int32.toInt (-1) = (-1) from rfl) (fun c3 => ?_) (fun c3 => ?_)
    · refine te_iload_n (p2 := 29) rfl rfl rfl ?_
      refine te_iconst (p2 := 30) (x := 3) rfl rfl (by decide) ?_
      refine cS_pI (p2 := 33) rfl rfl rfl rfl (t_X11_within (n := x2) (b := 3) hI ) (by decide) (fun y4 r4 => ?_)
      rcases r4 with ⟨w4, c4⟩ | ⟨w4, c4⟩
      · subst w4
        have cc4_1 := (show Int32.toInt 3 = 3 from rfl)
        refine tz_eq (p2 := 36) rfl rfl (show Int32.toInt 1 = 1 from rfl) (fun c5 => absurd c5 (by omega)) (fun c5 => ?_)
        refine te_iload_n (p2 := 37) rfl rfl rfl ?_
        refine te_bipush (p2 := 39) (x := 40) rfl rfl (by decide) ?_
        refine tb_le (p2 := 42) rfl rfl rfl (show Int32.toInt 40 = 40 from rfl) (fun c6 => ?_) (fun c6 => ?_)
        · refine te_iload_n (p2 := 46) rfl rfl rfl ?_
          refine tz_ge (p2 := 49) rfl rfl rfl (fun c7 => ?_) (fun c7 => ?_)
          · refine te_aload_n (p2 := 53) rfl rfl rfl ?_
            refine tg_r (p2 := 56) (i := 0) (r := 113) rfl rfl hI rfl rfl rfl ?_
            refine te_iload_n (p2 := 57) rfl rfl rfl ?_
            refine tl_f (p2 := 58) (i := 97) (n := 4) (c0 := 140) (sp := 2) rfl rfl hI rfl rfl (by decide) rq_97 (by omega) (by omega) (fun o8 w8 => ?_)
            have q8 : o8 = 140 ∨ o8 = 142 ∨ o8 = 144 ∨ o8 = 146 := by omega
            refine te_iload_n (p2 := 59) rfl rfl rfl ?_
            refine tp_i (p2 := 62) (i := o8) rfl rfl hI rfl (by rcases q8 with rfl | rfl | rfl | rfl <;> rfl) (by decide) rfl rfl (by rcases q8 with rfl | rfl | rfl | rfl <;> rfl) (by omega) (by omega) (by omega) (by rcases q8 with rfl | rfl | rfl | rfl <;> rfl) (fun h9 I9 u9 => ?_)
            have f9 := fr_up (F := F_X11_sheet) (a := 0) (b := 1) f0 u9 (by rcases q8 with rfl | rfl | rfl | rfl <;> decide) (by decide) (by decide)
            refine te_aload_n (p2 := 63) rfl rfl rfl ?_
            refine tg_r (p2 := 66) (i := 0) (r := 113) rfl rfl I9 rfl rfl rfl ?_
            refine te_iload_n (p2 := 67) rfl rfl rfl ?_
            refine tl_f (p2 := 68) (i := 97) (n := 4) (c0 := 140) (sp := 2) rfl rfl I9 rfl rfl (by decide) rq_97 (by omega) (by omega) (fun o10 w10 => ?_)
            have q10 : o10 = 140 ∨ o10 = 142 ∨ o10 = 144 ∨ o10 = 146 := by omega
            refine te_iload_n (p2 := 69) rfl rfl rfl ?_
            refine tp_i (p2 := 72) (i := o10) rfl rfl I9 rfl (by rcases q10 with rfl | rfl | rfl | rfl <;> rfl) (by decide) rfl rfl (by rcases q10 with rfl | rfl | rfl | rfl <;> rfl) (by omega) (by omega) (by omega) (by rcases q10 with rfl | rfl | rfl | rfl <;> rfl) (fun h11 I11 u11 => ?_)
            have f11 := fr_up (F := F_X11_sheet) (a := 0) (b := 1) f9 u11 (by rcases q10 with rfl | rfl | rfl | rfl <;> decide) (by decide) (by decide)
            refine te_aload_n (p2 := 73) rfl rfl rfl ?_
            refine tg_r (p2 := 76) (i := 0) (r := 113) rfl rfl I11 rfl rfl rfl ?_
            refine te_iload_n (p2 := 77) rfl rfl rfl ?_
            refine tl_f (p2 := 78) (i := 97) (n := 4) (c0 := 140) (sp := 2) rfl rfl I11 rfl rfl (by decide) rq_97 (by omega) (by omega) (fun o12 w12 => ?_)
            have q12 : o12 = 140 ∨ o12 = 142 ∨ o12 = 144 ∨ o12 = 146 := by omega
            refine tg_r (p2 := 81) (i := o12) (r := (16 + (o12 + 1))) rfl rfl I11 rfl (by rcases q12 with rfl | rfl | rfl | rfl <;> rfl) (by rcases q12 with rfl | rfl | rfl | rfl <;> rfl) ?_
            refine te_iconst (p2 := 82) (x := 0) rfl rfl (by decide) ?_
            refine cS_mV (p2 := 85) rfl rfl rfl rfl (t_J7_fill_53178 (q := (o12 + 1)) (v := 0) I11 (by omega)) (by decide) (fun h13 I13 g13 => ?_)
            have f13 := fr_tr (F1 := (F_J7_fill_53178 (o12 + 1))) (F := F_X11_sheet) f11 g13 (by rcases q12 with rfl | rfl | rfl | rfl <;> decide)
            refine te_iconst (p2 := 86) (x := 1) rfl rfl (by decide) ?_
            exact te_iret rfl rfl ⟨I13, f13, _, rfl, (fun _ => by rw [← w8]; exact ((g13 _ _ (inF1 (by omega))).trans ((u11.2 _ _ (Or.inr (by decide))).trans u9.1))), (fun _ _ => by rw [← w10]; exact ((g13 _ _ (inF1 (by omega))).trans u11.1)), (fun s b hs hn => by (have hq : s ≠ x1.toInt.toNat := hn.resolve_right (fun hk => hk (by unfold okS; omega))); exact ((g13 _ _ (inF1 (by omega))).trans ((u11.2 _ _ (Or.inl (by omega))).trans (u9.2 _ _ (Or.inl (by omega))))))⟩
          · refine te_bipush (p2 := 51) (x := (-14)) rfl rfl (by decide) ?_
            exact te_iret rfl rfl ⟨hI, f0, _, rfl, (fun ho => absurd ho (by unfold okS; omega)), (fun ho => absurd ho (by unfold okS; omega)), (fun s b hs hn => rfl)⟩
        · refine te_bipush (p2 := 44) (x := (-2)) rfl rfl (by decide) ?_
          exact te_iret rfl rfl ⟨hI, f0, _, rfl, (fun ho => absurd ho (by unfold okS; omega)), (fun ho => absurd ho (by unfold okS; omega)), (fun s b hs hn => rfl)⟩
      · subst w4
        have cc4_1 := (show Int32.toInt 3 = 3 from rfl)
        refine tz_eq (p2 := 36) rfl rfl (show Int32.toInt 0 = 0 from rfl) (fun c14 => ?_) (fun c14 => absurd c14 (by omega))
        refine te_bipush (p2 := 44) (x := (-2)) rfl rfl (by decide) ?_
        exact te_iret rfl rfl ⟨hI, f0, _, rfl, (fun ho => absurd ho (by unfold okS; omega)), (fun ho => absurd ho (by unfold okS; omega)), (fun s b hs hn => rfl)⟩
    · refine te_aload_n (p2 := 17) rfl rfl rfl ?_
      refine tg_r (p2 := 20) (i := 0) (r := 113) rfl rfl hI rfl rfl rfl ?_
      refine te_iload_n (p2 := 21) rfl rfl rfl ?_
      refine tl_f (p2 := 22) (i := 97) (n := 4) (c0 := 140) (sp := 2) rfl rfl hI rfl rfl (by decide) rq_97 (by omega) (by omega) (fun o15 w15 => ?_)
      have q15 : o15 = 140 ∨ o15 = 142 ∨ o15 = 144 ∨ o15 = 146 := by omega
      refine te_iconst (p2 := 23) (x := (-1)) rfl rfl (by decide) ?_
      refine tp_i (p2 := 26) (i := o15) rfl rfl hI rfl (by rcases q15 with rfl | rfl | rfl | rfl <;> rfl) (by decide) rfl rfl (by rcases q15 with rfl | rfl | rfl | rfl <;> rfl) (by decide) (by decide) (by decide) (by rcases q15 with rfl | rfl | rfl | rfl <;> rfl) (fun h16 I16 u16 => ?_)
      have f16 := fr_up (F := F_X11_sheet) (a := 0) (b := 1) f0 u16 (by rcases q15 with rfl | rfl | rfl | rfl <;> decide) (by decide) (by decide)
      refine te_iconst (p2 := 27) (x := 1) rfl rfl (by decide) ?_
      exact te_iret rfl rfl ⟨I16, f16, _, rfl, (fun _ => by rw [← w15, (i32_ext (by have cm := (show Int32.toInt (-1) = -1 from rfl); omega) : x2 = -1)]; exact u16.1), (fun _ hm => absurd (by omega) hm), (fun s b hs hn => by (have hq : s ≠ x1.toInt.toNat := hn.resolve_right (fun hk => hk (by unfold okS; omega))); exact (u16.2 _ _ (Or.inl (by omega))))⟩
  · subst w1
    have cc1_1 := (show Int32.toInt 4 = 4 from rfl)
    refine tz_ne (p2 := 8) rfl rfl (show Int32.toInt 0 = 0 from rfl) (fun c17 => absurd c17 (by omega)) (fun c17 => ?_)
    refine te_bipush (p2 := 10) (x := (-2)) rfl rfl (by decide) ?_
    exact te_iret rfl rfl ⟨hI, f0, _, rfl, (fun ho => absurd ho (by unfold okS; omega)), (fun ho => absurd ho (by unfold okS; omega)), (fun s b hs hn => rfl)⟩
set_option maxRecDepth 20000 in
set_option maxHeartbeats 4000000 in
theorem c_X12_sheet {x1 : Int32} {x2 : Int32} {x3 : Int32} {h : im_H} (hI : tI h)  : CaP 2 191 [.ref 164, .int x1, .int x2, .int x3] h (fun v h2 => tI h2 ∧ fr F_X12_sheet h h2 ∧ ∃ y : Int32, v = some (.int y) ∧ (okS x1 x2 x3 → rd h2 192 x1.toInt.toNat = some (.int x2)) ∧ (okS x1 x2 x3 → x2.toInt ≠ -1 → rd h2 193 x1.toInt.toNat = some (.int x3)) ∧ (∀ s, s < 4 → (s ≠ x1.toInt.toNat ∨ ¬ okS x1 x2 x3) → rd h2 192 s = rd h 192 s ∧ rd h2 193 s = rd h 193 s)) := by
  refine cap_of (d := 1) (M := mX12_sheet) rfl (Nat.le_of_ble_eq_true rfl) ?_
  show EvP im_K0 1 mX12_sheet (0, [(0, .ref 164), (1, .int x1), (2, .int x2), (3, .int x3)], [], h) _
  have f0 : fr F_X12_sheet h h := fr_rf
  refine te_iload_n (p2 := 1) rfl rfl rfl ?_
  refine te_iconst (p2 := 2) (x := 0) rfl rfl (by decide) ?_
  refine te_iconst (p2 := 3) (x := 3) rfl rfl (by decide) ?_
  refine cS_pI (p2 := 6) rfl rfl rfl rfl (t_X12_in (n := x1) (a := 0) (b := 3) hI ) (by decide) (fun y1 r1 => ?_)
  rcases r1 with ⟨w1, c1⟩ | ⟨w1, c1⟩
  · subst w1
    have cc1_1 := (show Int32.toInt 0 = 0 from rfl)
    have cc1_2 := (show Int32.toInt 3 = 3 from rfl)
    refine tz_eq (p2 := 9) rfl rfl (show Int32.toInt 1 = 1 from rfl) (fun c2 => absurd c2 (by omega)) (fun c2 => ?_)
    refine te_iload_n (p2 := 10) rfl rfl rfl ?_
    refine te_iconst (p2 := 11) (x := (-1)) rfl rfl (by decide) ?_
    refine te_iconst (p2 := 12) (x := 2) rfl rfl (by decide) ?_
    refine cS_pI (p2 := 15) rfl rfl rfl rfl (t_X12_in (n := x2) (a := (-1)) (b := 2) hI ) (by decide) (fun y3 r3 => ?_)
    rcases r3 with ⟨w3, c3⟩ | ⟨w3, c3⟩
    · subst w3
      have cc3_1 := (show Int32.toInt (-1) = (-1) from rfl)
      have cc3_2 := (show Int32.toInt 2 = 2 from rfl)
      refine tz_eq (p2 := 18) rfl rfl (show Int32.toInt 1 = 1 from rfl) (fun c4 => absurd c4 (by omega)) (fun c4 => ?_)
      refine te_iload_n (p2 := 19) rfl rfl rfl ?_
      refine te_iconst (p2 := 20) (x := (-1)) rfl rfl (by decide) ?_
      refine tb_eq (p2 := 23) rfl rfl rfl (show Int32.toInt (-1) = (-1) from rfl) (fun c5 => ?_) (fun c5 => ?_)
      · refine te_iload_n (p2 := 33) rfl rfl rfl ?_
        refine te_iconst (p2 := 34) (x := (-1)) rfl rfl (by decide) ?_
        refine tb_eq (p2 := 37) rfl rfl rfl (show Int32.toInt (-1) = (-1) from rfl) (fun c6 => ?_) (fun c6 => absurd c6 (by omega))
        refine te_aload_n (p2 := 45) rfl rfl rfl ?_
        refine tg_r (p2 := 48) (i := 148) (r := 208) rfl rfl hI rfl rfl rfl ?_
        refine te_iload_n (p2 := 49) rfl rfl rfl ?_
        refine te_iload_n (p2 := 50) rfl rfl rfl ?_
        refine ts_i (p2 := 51) (i := 192) (n := 4) rfl rfl hI rfl rfl rfl rfl (by omega) (by omega) (by omega) (by omega) (by omega) rfl (fun h7 I7 u7 => ?_)
        have f7 := fr_st (F := F_X12_sheet) 0 f0 u7 rfl (by omega) (by omega)
        refine te_aload_n (p2 := 52) rfl rfl rfl ?_
        refine tg_r (p2 := 55) (i := 148) (r := 209) rfl rfl I7 rfl rfl rfl ?_
        refine te_iload_n (p2 := 56) rfl rfl rfl ?_
        refine te_iload_n (p2 := 57) rfl rfl rfl ?_
        refine te_iconst (p2 := 58) (x := (-1)) rfl rfl (by decide) ?_
        refine tb_ne (p2 := 61) rfl rfl rfl (show Int32.toInt (-1) = (-1) from rfl) (fun c8 => absurd c8 (by omega)) (fun c8 => ?_)
        refine te_iconst (p2 := 62) (x := 0) rfl rfl (by decide) ?_
        refine te_goto rfl ?_
        refine ts_i (p2 := 67) (i := 193) (n := 4) rfl rfl I7 rfl rfl rfl rfl (by omega) (by omega) (by decide) (by decide) (by decide) rfl (fun h9 I9 u9 => ?_)
        have f9 := fr_st (F := F_X12_sheet) 1 f7 u9 rfl (by omega) (by omega)
        refine te_iconst (p2 := 68) (x := 0) rfl rfl (by decide) ?_
        refine te_istore (p2 := 70) (lv2 := [(4, .int 0), (0, .ref 164), (1, .int x1), (2, .int x2), (3, .int x3)]) rfl rfl (by decide) rfl ?_
        have lp10 : ∀ (n10 : Nat) (v10_4 : Int32) (h10 : im_H), tI h10 → fr F_X12_sheet h h10 → 0 ≤ v10_4.toInt → v10_4.toInt ≤ 40 → (∀ s, rd h10 192 s = rd h9 192 s ∧ rd h10 193 s = rd h9 193 s) → 40 - v10_4.toInt < (n10 : Int) → EvP im_K0 1 mX12_sheet (70, [(0, .ref 164), (1, .int x1), (2, .int x2), (3, .int x3), (4, .int v10_4)], [], h10) (fun v h2 => tI h2 ∧ fr F_X12_sheet h h2 ∧ ∃ y : Int32, v = some (.int y) ∧ (okS x1 x2 x3 → rd h2 192 x1.toInt.toNat = some (.int x2)) ∧ (okS x1 x2 x3 → x2.toInt ≠ -1 → rd h2 193 x1.toInt.toNat = some (.int x3)) ∧ (∀ s, s < 4 → (s ≠ x1.toInt.toNat ∨ ¬ okS x1 x2 x3) → rd h2 192 s = rd h 192 s ∧ rd h2 193 s = rd h 193 s)) := by
          intro n10
          induction n10 with
          | zero => intro v10_4 h10 I10 f10 a10_4 b10_4 w10_0 m10; exfalso; omega
          | succ n10 ih10 =>
            intro v10_4 h10 I10 f10 a10_4 b10_4 w10_0 m10
            refine te_iload (p2 := 72) rfl rfl rfl ?_
            refine te_bipush (p2 := 74) (x := 40) rfl rfl (by decide) ?_
            refine tb_ge (p2 := 77) rfl rfl rfl (show Int32.toInt 40 = 40 from rfl) (fun c11 => ?_) (fun c11 => ?_)
            · refine te_iconst (p2 := 97) (x := 1) rfl rfl (by decide) ?_
              exact te_iret rfl rfl ⟨I10, f10, _, rfl, (fun _ => (w10_0 x1.toInt.toNat).1.trans ((u9.2 _ _ (Or.inl (by decide))).trans u7.1)), (fun _ hm => absurd (by omega) hm), (fun s hs hn => by (have hq : s ≠ x1.toInt.toNat := hn.resolve_right (fun hk => hk (by unfold okS; omega))); exact ⟨(w10_0 s).1.trans ((u9.2 _ _ (Or.inl (by decide))).trans (u7.2 _ _ (Or.inr hq))), (w10_0 s).2.trans ((u9.2 _ _ (Or.inr hq)).trans (u7.2 _ _ (Or.inl (by decide))))⟩)⟩
            · refine te_aload_n (p2 := 78) rfl rfl rfl ?_
              refine tg_r (p2 := 81) (i := 148) (r := 210) rfl rfl I10 rfl rfl rfl ?_
              refine te_bipush (p2 := 83) (x := 40) rfl rfl (by decide) ?_
              refine te_iload_n (p2 := 84) rfl rfl rfl ?_
              refine ar_mul (p2 := 85) rfl rfl (show Int32.toInt 40 = 40 from rfl) rfl (by omega) (by omega) (fun z12 e12 f12 => ?_)
              refine te_iload (p2 := 87) rfl rfl rfl ?_
              refine ar_add (p2 := 88) rfl rfl rfl rfl (by omega) (by omega) (fun z13 e13 f13 => ?_)
              refine te_iconst (p2 := 89) (x := 0) rfl rfl (by decide) ?_
              refine ts_i (p2 := 90) (i := 194) (n := 160) rfl rfl I10 rfl rfl rfl rfl (by omega) (by omega) (i32_lo _) (i32_hi _) (i32_ho _) rfl (fun h14 I14 u14 => ?_)
              have f14 := fr_st (F := F_X12_sheet) 2 f10 u14 rfl (by omega) (by omega)
              refine ar_inc (p2 := 93) (x := v10_4) rfl rfl (by decide) rfl (by decide) rfl (by omega) (by omega) (fun z15 e15 f15 => ?_)
              show EvP _ _ _ (93, [(4, .int z15), (0, .ref 164), (1, .int x1), (2, .int x2), (3, .int x3)], [], h14) _
              refine te_goto rfl ?_
              refine te_lv [(0, .ref 164), (1, .int x1), (2, .int x2), (3, .int x3), (4, .int z15)] rfl rfl ⟨rfl, rfl, rfl, rfl, rfl, trivial⟩ ?_
              exact ih10 z15 h14 I14 f14 (by omega) (by omega) (fun s => ⟨(u14.2 _ _ (Or.inl (by decide))).trans (w10_0 s).1, (u14.2 _ _ (Or.inl (by decide))).trans (w10_0 s).2⟩) (by omega)
        refine te_lv [(0, .ref 164), (1, .int x1), (2, .int x2), (3, .int x3), (4, .int 0)] rfl rfl ⟨rfl, rfl, rfl, rfl, rfl, trivial⟩ ?_
        exact lp10 41 0 h9 I9 f9 (by decide) (by decide) (fun s => ⟨rfl, rfl⟩) (by have cc0 := (show Int32.toInt 0 = 0 from rfl); omega)
      · refine te_iload_n (p2 := 24) rfl rfl rfl ?_
        refine te_bipush (p2 := 26) (x := 40) rfl rfl (by decide) ?_
        refine tb_le (p2 := 29) rfl rfl rfl (show Int32.toInt 40 = 40 from rfl) (fun c16 => ?_) (fun c16 => ?_)
        · refine te_iload_n (p2 := 33) rfl rfl rfl ?_
          refine te_iconst (p2 := 34) (x := (-1)) rfl rfl (by decide) ?_
          refine tb_eq (p2 := 37) rfl rfl rfl (show Int32.toInt (-1) = (-1) from rfl) (fun c17 => absurd c17 (by omega)) (fun c17 => ?_)
          refine te_iload_n (p2 := 38) rfl rfl rfl ?_
          refine tz_ge (p2 := 41) rfl rfl rfl (fun c18 => ?_) (fun c18 => ?_)
          · refine te_aload_n (p2 := 45) rfl rfl rfl ?_
            refine tg_r (p2 := 48) (i := 148) (r := 208) rfl rfl hI rfl rfl rfl ?_
            refine te_iload_n (p2 := 49) rfl rfl rfl ?_
            refine te_iload_n (p2 := 50) rfl rfl rfl ?_
            refine ts_i (p2 := 51) (i := 192) (n := 4) rfl rfl hI rfl rfl rfl rfl (by omega) (by omega) (by omega) (by omega) (by omega) rfl (fun h19 I19 u19 => ?_)
            have f19 := fr_st (F := F_X12_sheet) 0 f0 u19 rfl (by omega) (by omega)
            refine te_aload_n (p2 := 52) rfl rfl rfl ?_
            refine tg_r (p2 := 55) (i := 148) (r := 209) rfl rfl I19 rfl rfl rfl ?_
            refine te_iload_n (p2 := 56) rfl rfl rfl ?_
            refine te_iload_n (p2 := 57) rfl rfl rfl ?_
            refine te_iconst (p2 := 58) (x := (-1)) rfl rfl (by decide) ?_
            refine tb_ne (p2 := 61) rfl rfl rfl (show Int32.toInt (-1) = (-1) from rfl) (fun c20 => ?_) (fun c20 => absurd c20 (by omega))
            refine te_iload_n (p2 := 66) rfl rfl rfl ?_
            refine ts_i (p2 := 67) (i := 193) (n := 4) rfl rfl I19 rfl rfl rfl rfl (by omega) (by omega) (by omega) (by omega) (by omega) rfl (fun h21 I21 u21 => ?_)
            have f21 := fr_st (F := F_X12_sheet) 1 f19 u21 rfl (by omega) (by omega)
            refine te_iconst (p2 := 68) (x := 0) rfl rfl (by decide) ?_
            refine te_istore (p2 := 70) (lv2 := [(4, .int 0), (0, .ref 164), (1, .int x1), (2, .int x2), (3, .int x3)]) rfl rfl (by decide) rfl ?_
            have lp22 : ∀ (n22 : Nat) (v22_4 : Int32) (h22 : im_H), tI h22 → fr F_X12_sheet h h22 → 0 ≤ v22_4.toInt → v22_4.toInt ≤ 40 → (∀ s, rd h22 192 s = rd h21 192 s ∧ rd h22 193 s = rd h21 193 s) → 40 - v22_4.toInt < (n22 : Int) → EvP im_K0 1 mX12_sheet (70, [(0, .ref 164), (1, .int x1), (2, .int x2), (3, .int x3), (4, .int v22_4)], [], h22) (fun v h2 => tI h2 ∧ fr F_X12_sheet h h2 ∧ ∃ y : Int32, v = some (.int y) ∧ (okS x1 x2 x3 → rd h2 192 x1.toInt.toNat = some (.int x2)) ∧ (okS x1 x2 x3 → x2.toInt ≠ -1 → rd h2 193 x1.toInt.toNat = some (.int x3)) ∧ (∀ s, s < 4 → (s ≠ x1.toInt.toNat ∨ ¬ okS x1 x2 x3) → rd h2 192 s = rd h 192 s ∧ rd h2 193 s = rd h 193 s)) := by
              intro n22
              induction n22 with
              | zero => intro v22_4 h22 I22 f22 a22_4 b22_4 w22_0 m22; exfalso; omega
              | succ n22 ih22 =>
                intro v22_4 h22 I22 f22 a22_4 b22_4 w22_0 m22
                refine te_iload (p2 := 72) rfl rfl rfl ?_
                refine te_bipush (p2 := 74) (x := 40) rfl rfl (by decide) ?_
                refine tb_ge (p2 := 77) rfl rfl rfl (show Int32.toInt 40 = 40 from rfl) (fun c23 => ?_) (fun c23 => ?_)
                · refine te_iconst (p2 := 97) (x := 1) rfl rfl (by decide) ?_
                  exact te_iret rfl rfl ⟨I22, f22, _, rfl, (fun _ => (w22_0 x1.toInt.toNat).1.trans ((u21.2 _ _ (Or.inl (by decide))).trans u19.1)), (fun _ hm => (w22_0 x1.toInt.toNat).2.trans u21.1), (fun s hs hn => by (have hq : s ≠ x1.toInt.toNat := hn.resolve_right (fun hk => hk (by unfold okS; omega))); exact ⟨(w22_0 s).1.trans ((u21.2 _ _ (Or.inl (by decide))).trans (u19.2 _ _ (Or.inr hq))), (w22_0 s).2.trans ((u21.2 _ _ (Or.inr hq)).trans (u19.2 _ _ (Or.inl (by decide))))⟩)⟩
                · refine te_aload_n (p2 := 78) rfl rfl rfl ?_
                  refine tg_r (p2 := 81) (i := 148) (r := 210) rfl rfl I22 rfl rfl rfl ?_
                  refine te_bipush (p2 := 83) (x := 40) rfl rfl (by decide) ?_
                  refine te_iload_n (p2 := 84) rfl rfl rfl ?_
                  refine ar_mul (p2 := 85) rfl rfl (show Int32.toInt 40 = 40 from rfl) rfl (by omega) (by omega) (fun z24 e24 f24 => ?_)
                  refine te_iload (p2 := 87) rfl rfl rfl ?_
                  refine ar_add (p2 := 88) rfl rfl rfl rfl (by omega) (by omega) (fun z25 e25 f25 => ?_)
                  refine te_iconst (p2 := 89) (x := 0) rfl rfl (by decide) ?_
                  refine ts_i (p2 := 90) (i := 194) (n := 160) rfl rfl I22 rfl rfl rfl rfl (by omega) (by omega) (i32_lo _) (i32_hi _) (i32_ho _) rfl (fun h26 I26 u26 => ?_)
                  have f26 := fr_st (F := F_X12_sheet) 2 f22 u26 rfl (by omega) (by omega)
                  refine ar_inc (p2 := 93) (x := v22_4) rfl rfl (by decide) rfl (by decide) rfl (by omega) (by omega) (fun z27 e27 f27 => ?_)
                  show EvP _ _ _ (93, [(4, .int z27), (0, .ref 164), (1, .int x1), (2, .int x2), (3, .int x3)], [], h26) _
                  refine te_goto rfl ?_
                  refine te_lv [(0, .ref 164), (1, .int x1), (2, .int x2), (3, .int x3), (4, .int z27)] rfl rfl ⟨rfl, rfl, rfl, rfl, rfl, trivial⟩ ?_
                  exact ih22 z27 h26 I26 f26 (by omega) (by omega) (fun s => ⟨(u26.2 _ _ (Or.inl (by decide))).trans (w22_0 s).1, (u26.2 _ _ (Or.inl (by decide))).trans (w22_0 s).2⟩) (by omega)
            refine te_lv [(0, .ref 164), (1, .int x1), (2, .int x2), (3, .int x3), (4, .int 0)] rfl rfl ⟨rfl, rfl, rfl, rfl, rfl, trivial⟩ ?_
            exact lp22 41 0 h21 I21 f21 (by decide) (by decide) (fun s => ⟨rfl, rfl⟩) (by have cc0 := (show Int32.toInt 0 = 0 from rfl); omega)
          · refine te_bipush (p2 := 43) (x := (-14)) rfl rfl (by decide) ?_
            exact te_iret rfl rfl ⟨hI, f0, _, rfl, (fun ho => absurd ho (by unfold okS; omega)), (fun ho => absurd ho (by unfold okS; omega)), (fun s hs hn => ⟨rfl, rfl⟩)⟩
        · refine te_bipush (p2 := 31) (x := (-2)) rfl rfl (by decide) ?_
          exact te_iret rfl rfl ⟨hI, f0, _, rfl, (fun ho => absurd ho (by unfold okS; omega)), (fun ho => absurd ho (by unfold okS; omega)), (fun s hs hn => ⟨rfl, rfl⟩)⟩
    · subst w3
      have cc3_1 := (show Int32.toInt (-1) = (-1) from rfl)
      have cc3_2 := (show Int32.toInt 2 = 2 from rfl)
      refine tz_eq (p2 := 18) rfl rfl (show Int32.toInt 0 = 0 from rfl) (fun c28 => ?_) (fun c28 => absurd c28 (by omega))
      refine te_bipush (p2 := 31) (x := (-2)) rfl rfl (by decide) ?_
      exact te_iret rfl rfl ⟨hI, f0, _, rfl, (fun ho => absurd ho (by unfold okS; omega)), (fun ho => absurd ho (by unfold okS; omega)), (fun s hs hn => ⟨rfl, rfl⟩)⟩
  · subst w1
    have cc1_1 := (show Int32.toInt 0 = 0 from rfl)
    have cc1_2 := (show Int32.toInt 3 = 3 from rfl)
    refine tz_eq (p2 := 9) rfl rfl (show Int32.toInt 0 = 0 from rfl) (fun c29 => ?_) (fun c29 => absurd c29 (by omega))
    refine te_bipush (p2 := 31) (x := (-2)) rfl rfl (by decide) ?_
    exact te_iret rfl rfl ⟨hI, f0, _, rfl, (fun ho => absurd ho (by unfold okS; omega)), (fun ho => absurd ho (by unfold okS; omega)), (fun s hs hn => ⟨rfl, rfl⟩)⟩
set_option maxRecDepth 20000 in
set_option maxHeartbeats 4000000 in
theorem c_X8_isMissing {s : Nat} {h : im_H} (hI : tI h) (q_s : s = 140 ∨ s = 142 ∨ s = 144 ∨ s = 146) : CaP 1 41 [.ref (16 + s)] h (pI h (fun y => ∃ q : Int32, rd h s 0 = some (.int q) ∧ ((y = 1 ∧ q.toInt = -1) ∨ (y = 0 ∧ ¬ q.toInt = -1)))) := by
  refine cap_of (d := 0) (M := mX8_isMissing) rfl (Nat.le_of_ble_eq_true rfl) ?_
  show EvP im_K0 0 mX8_isMissing (0, [(0, .ref (16 + s))], [], h) _
  refine te_aload_n (p2 := 1) rfl rfl rfl ?_
  refine tg_i (p2 := 4) (i := s) rfl rfl hI rfl (by rcases q_s with rfl | rfl | rfl | rfl <;> rfl) (by rcases q_s with rfl | rfl | rfl | rfl <;> rfl) (fun y1 a1 b1 e1 => ?_)
  refine te_iconst (p2 := 5) (x := (-1)) rfl rfl (by decide) ?_
  refine tb_ne (p2 := 8) rfl rfl rfl (show Int32.toInt (-1) = (-1) from rfl) (fun c2 => ?_) (fun c2 => ?_)
  · refine te_iconst (p2 := 13) (x := 0) rfl rfl (by decide) ?_
    exact te_zret rfl rfl (by decide) ⟨rfl, _, rfl, y1, e1, Or.inr ⟨rfl, by omega⟩⟩
  · refine te_iconst (p2 := 9) (x := 1) rfl rfl (by decide) ?_
    refine te_goto rfl ?_
    exact te_zret rfl rfl (by decide) ⟨rfl, _, rfl, y1, e1, Or.inl ⟨rfl, by omega⟩⟩
def cpT (x2 x4 x5 q1 z1 q2 z2 : Int32) : Int32 := if q1.toInt = -1 ∨ q2.toInt = -1 then -11 else if ¬ q1.toInt = q2.toInt then -13 else if 0 ≤ x2.toInt ∧ 0 ≤ x5.toInt ∧ x5.toInt ≤ z1.toInt - x2.toInt ∧ 0 ≤ x4.toInt ∧ x5.toInt ≤ z2.toInt - x4.toInt then x5 else -12
set_option maxRecDepth 20000 in
set_option maxHeartbeats 4000000 in
theorem c_X11_copy {x1 : Int32} {x2 : Int32} {x3 : Int32} {x4 : Int32} {x5 : Int32} {h : im_H} (hI : tI h)  : CaP 3 106 [.ref 16, .int x1, .int x2, .int x3, .int x4, .int x5] h (fun v h2 => tI h2 ∧ fr F_X11_copy h h2 ∧ ∃ y : Int32, v = some (.int y) ∧ (((0 ≤ x1.toInt ∧ x1.toInt ≤ 3 ∧ 0 ≤ x3.toInt ∧ x3.toInt ≤ 3) ∧ ∃ q1 z1 q2 z2 : Int32, rd h (140 + 2 * x1.toInt.toNat) 0 = some (.int q1) ∧ rd h (140 + 2 * x1.toInt.toNat) 1 = some (.int z1) ∧ rd h (140 + 2 * x3.toInt.toNat) 0 = some (.int q2) ∧ rd h (140 + 2 * x3.toInt.toNat) 1 = some (.int z2) ∧ y = cpT x2 x4 x5 q1 z1 q2 z2) ∨ (¬ (0 ≤ x1.toInt ∧ x1.toInt ≤ 3 ∧ 0 ≤ x3.toInt ∧ x3.toInt ≤ 3) ∧ y = -2))) := by
  refine cap_of (d := 2) (M := mX11_copy) rfl (Nat.le_of_ble_eq_true rfl) ?_
  show EvP im_K0 2 mX11_copy (0, [(0, .ref 16), (1, .int x1), (2, .int x2), (3, .int x3), (4, .int x4), (5, .int x5)], [], h) _
  have f0 : fr F_X11_copy h h := fr_rf
  refine te_iload_n (p2 := 1) rfl rfl rfl ?_
  refine te_iconst (p2 := 2) (x := 4) rfl rfl (by decide) ?_
  refine cS_pI (p2 := 5) rfl rfl rfl rfl (t_X11_within (n := x1) (b := 4) hI ) (by decide) (fun y1 r1 => ?_)
  rcases r1 with ⟨w1, c1⟩ | ⟨w1, c1⟩
  · subst w1
    have cc1_1 := (show Int32.toInt 4 = 4 from rfl)
    refine tz_eq (p2 := 8) rfl rfl (show Int32.toInt 1 = 1 from rfl) (fun c2 => absurd c2 (by omega)) (fun c2 => ?_)
    refine te_iload_n (p2 := 9) rfl rfl rfl ?_
    refine te_iconst (p2 := 10) (x := 4) rfl rfl (by decide) ?_
    refine cS_pI (p2 := 13) rfl rfl rfl rfl (t_X11_within (n := x3) (b := 4) hI ) (by decide) (fun y3 r3 => ?_)
    rcases r3 with ⟨w3, c3⟩ | ⟨w3, c3⟩
    · subst w3
      have cc3_1 := (show Int32.toInt 4 = 4 from rfl)
      refine tz_ne (p2 := 16) rfl rfl (show Int32.toInt 1 = 1 from rfl) (fun c4 => ?_) (fun c4 => absurd c4 (by omega))
      refine te_aload_n (p2 := 20) rfl rfl rfl ?_
      refine tg_r (p2 := 23) (i := 0) (r := 113) rfl rfl hI rfl rfl rfl ?_
      refine te_iload_n (p2 := 24) rfl rfl rfl ?_
      refine tl_f (p2 := 25) (i := 97) (n := 4) (c0 := 140) (sp := 2) rfl rfl hI rfl rfl (by decide) rq_97 (by omega) (by omega) (fun o5 w5 => ?_)
      have q5 : o5 = 140 ∨ o5 = 142 ∨ o5 = 144 ∨ o5 = 146 := by omega
      refine te_astore (p2 := 27) (lv2 := [(6, .ref (16 + o5)), (0, .ref 16), (1, .int x1), (2, .int x2), (3, .int x3), (4, .int x4), (5, .int x5)]) rfl rfl (by decide) rfl ?_
      refine te_aload_n (p2 := 28) rfl rfl rfl ?_
      refine tg_r (p2 := 31) (i := 0) (r := 113) rfl rfl hI rfl rfl rfl ?_
      refine te_iload_n (p2 := 32) rfl rfl rfl ?_
      refine tl_f (p2 := 33) (i := 97) (n := 4) (c0 := 140) (sp := 2) rfl rfl hI rfl rfl (by decide) rq_97 (by omega) (by omega) (fun o6 w6 => ?_)
      have q6 : o6 = 140 ∨ o6 = 142 ∨ o6 = 144 ∨ o6 = 146 := by omega
      refine te_astore (p2 := 35) (lv2 := [(7, .ref (16 + o6)), (6, .ref (16 + o5)), (0, .ref 16), (1, .int x1), (2, .int x2), (3, .int x3), (4, .int x4), (5, .int x5)]) rfl rfl (by decide) rfl ?_
      refine te_aload (p2 := 37) rfl rfl rfl ?_
      refine cV_pI (p2 := 40) (i := o5) rfl rfl rfl rfl hI rfl (by rcases q5 with rfl | rfl | rfl | rfl <;> rfl) rfl (c_X8_isMissing (s := o5) hI q5) (by decide) (fun y7 r7 => ?_)
      obtain ⟨p7, e7, r7⟩ := r7
      rcases r7 with ⟨w7_, c7⟩ | ⟨w7_, c7⟩
      · subst w7_
        refine tz_ne (p2 := 43) rfl rfl (show Int32.toInt 1 = 1 from rfl) (fun c8 => ?_) (fun c8 => absurd c8 (by omega))
        refine te_bipush (p2 := 53) (x := (-11)) rfl rfl (by decide) ?_
        obtain ⟨v9, e9, y9, w9, a9, b9, _⟩ := hI.2.1 o5 1 (.inl (0, 40, 9999999999)) (by rcases q5 with rfl | rfl | rfl | rfl <;> rfl)
        subst w9
        obtain ⟨v10, e10, y10, w10, a10, b10, _⟩ := hI.2.1 o6 0 (.inl ((-1), 2, 9999999999)) (by rcases q6 with rfl | rfl | rfl | rfl <;> rfl)
        subst w10
        obtain ⟨v11, e11, y11, w11, a11, b11, _⟩ := hI.2.1 o6 1 (.inl (0, 40, 9999999999)) (by rcases q6 with rfl | rfl | rfl | rfl <;> rfl)
        subst w11
        exact te_iret rfl rfl ⟨hI, f0, _, rfl, Or.inl ⟨by omega, p7, y9, y10, y11, (by rw [← w5]; exact e7), (by rw [← w5]; exact e9), (by rw [← w6]; exact e10), (by rw [← w6]; exact e11), by (unfold cpT; (repeat' split) <;> first | (exfalso; omega) | rfl)⟩⟩
      · subst w7_
        refine tz_ne (p2 := 43) rfl rfl (show Int32.toInt 0 = 0 from rfl) (fun c12 => absurd c12 (by omega)) (fun c12 => ?_)
        refine te_aload (p2 := 45) rfl rfl rfl ?_
        refine cV_pI (p2 := 48) (i := o6) rfl rfl rfl rfl hI rfl (by rcases q6 with rfl | rfl | rfl | rfl <;> rfl) rfl (c_X8_isMissing (s := o6) hI q6) (by decide) (fun y13 r13 => ?_)
        obtain ⟨p13, e13, r13⟩ := r13
        rcases r13 with ⟨w13_, c13⟩ | ⟨w13_, c13⟩
        · subst w13_
          refine tz_eq (p2 := 51) rfl rfl (show Int32.toInt 1 = 1 from rfl) (fun c14 => absurd c14 (by omega)) (fun c14 => ?_)
          refine te_bipush (p2 := 53) (x := (-11)) rfl rfl (by decide) ?_
          obtain ⟨v15, e15, y15, w15, a15, b15, _⟩ := hI.2.1 o5 1 (.inl (0, 40, 9999999999)) (by rcases q5 with rfl | rfl | rfl | rfl <;> rfl)
          subst w15
          obtain ⟨v16, e16, y16, w16, a16, b16, _⟩ := hI.2.1 o6 1 (.inl (0, 40, 9999999999)) (by rcases q6 with rfl | rfl | rfl | rfl <;> rfl)
          subst w16
          exact te_iret rfl rfl ⟨hI, f0, _, rfl, Or.inl ⟨by omega, p7, y15, p13, y16, (by rw [← w5]; exact e7), (by rw [← w5]; exact e15), (by rw [← w6]; exact e13), (by rw [← w6]; exact e16), by (unfold cpT; (repeat' split) <;> first | (exfalso; omega) | rfl)⟩⟩
        · subst w13_
          refine tz_eq (p2 := 51) rfl rfl (show Int32.toInt 0 = 0 from rfl) (fun c17 => ?_) (fun c17 => absurd c17 (by omega))
          refine te_aload (p2 := 56) rfl rfl rfl ?_
          refine tg_e (p2 := 59) (i := o5) (v := .int p7) rfl rfl hI rfl (by rcases q5 with rfl | rfl | rfl | rfl <;> rfl) e7 ?_
          refine te_aload (p2 := 61) rfl rfl rfl ?_
          refine tg_e (p2 := 64) (i := o6) (v := .int p13) rfl rfl hI rfl (by rcases q6 with rfl | rfl | rfl | rfl <;> rfl) e13 ?_
          refine tb_eq (p2 := 67) rfl rfl rfl rfl (fun c18 => ?_) (fun c18 => ?_)
          · refine te_aload (p2 := 72) rfl rfl rfl ?_
            refine te_iload_n (p2 := 73) rfl rfl rfl ?_
            refine te_iload (p2 := 75) rfl rfl rfl ?_
            refine cV_pI (p2 := 78) (i := o5) rfl rfl rfl rfl hI rfl (by rcases q5 with rfl | rfl | rfl | rfl <;> rfl) rfl (t_X8_holds (s := o5) (i := x2) (n := x5) hI q5) (by decide) (fun y19 r19 => ?_)
            obtain ⟨p19, e19, a19, b19, r19⟩ := r19
            rcases r19 with ⟨w19, c19⟩ | ⟨w19, c19⟩
            · subst w19
              refine tz_eq (p2 := 81) rfl rfl (show Int32.toInt 1 = 1 from rfl) (fun c20 => absurd c20 (by omega)) (fun c20 => ?_)
              refine te_aload (p2 := 83) rfl rfl rfl ?_
              refine te_iload (p2 := 85) rfl rfl rfl ?_
              refine te_iload (p2 := 87) rfl rfl rfl ?_
              refine cV_pI (p2 := 90) (i := o6) rfl rfl rfl rfl hI rfl (by rcases q6 with rfl | rfl | rfl | rfl <;> rfl) rfl (t_X8_holds (s := o6) (i := x4) (n := x5) hI q6) (by decide) (fun y21 r21 => ?_)
              obtain ⟨p21, e21, a21, b21, r21⟩ := r21
              rcases r21 with ⟨w21, c21⟩ | ⟨w21, c21⟩
              · subst w21
                refine tz_ne (p2 := 93) rfl rfl (show Int32.toInt 1 = 1 from rfl) (fun c22 => ?_) (fun c22 => absurd c22 (by omega))
                refine te_aload (p2 := 98) rfl rfl rfl ?_
                refine tg_r (p2 := 101) (i := o5) (r := (16 + (o5 + 1))) rfl rfl hI rfl (by rcases q5 with rfl | rfl | rfl | rfl <;> rfl) (by rcases q5 with rfl | rfl | rfl | rfl <;> rfl) ?_
                refine te_iload_n (p2 := 102) rfl rfl rfl ?_
                refine te_aload (p2 := 104) rfl rfl rfl ?_
                refine tg_r (p2 := 107) (i := o6) (r := (16 + (o6 + 1))) rfl rfl hI rfl (by rcases q6 with rfl | rfl | rfl | rfl <;> rfl) (by rcases q6 with rfl | rfl | rfl | rfl <;> rfl) ?_
                refine te_iload (p2 := 109) rfl rfl rfl ?_
                refine te_iload (p2 := 111) rfl rfl rfl ?_
                refine tc_cp (p2 := 114) (i1 := (o5 + 1)) (i2 := (o6 + 1)) (n1 := 40) (n2 := 40) rfl rfl hI rfl rfl (by rcases q5 with rfl | rfl | rfl | rfl <;> rfl) (by rcases q6 with rfl | rfl | rfl | rfl <;> rfl) (by rcases q5 with rfl | rfl | rfl | rfl <;> rfl) (by rcases q6 with rfl | rfl | rfl | rfl <;> rfl) rfl rfl (Or.inl rfl) rfl rfl rfl (by omega) (by omega) (by omega) (by omega) (by omega) rfl (by rcases q6 with rfl | rfl | rfl | rfl <;> rfl) (fun h23 I23 c23 u23 => ?_)
                have f23 := fr_cp (F := F_X11_copy) (i := (o6 + 1)) (a := 0) (b := 39) f0 u23 (by rcases q6 with rfl | rfl | rfl | rfl <;> decide) (by omega) (by omega)
                refine te_iload (p2 := 116) rfl rfl rfl ?_
                exact te_iret rfl rfl ⟨I23, f23, _, rfl, Or.inl ⟨by omega, p7, p19, p13, p21, (by rw [← w5]; exact e7), (by rw [← w5]; exact e19), (by rw [← w6]; exact e13), (by rw [← w6]; exact e21), by (unfold cpT; (repeat' split) <;> first | (exfalso; omega) | rfl)⟩⟩
              · subst w21
                refine tz_ne (p2 := 93) rfl rfl (show Int32.toInt 0 = 0 from rfl) (fun c24 => absurd c24 (by omega)) (fun c24 => ?_)
                refine te_bipush (p2 := 95) (x := (-12)) rfl rfl (by decide) ?_
                exact te_iret rfl rfl ⟨hI, f0, _, rfl, Or.inl ⟨by omega, p7, p19, p13, p21, (by rw [← w5]; exact e7), (by rw [← w5]; exact e19), (by rw [← w6]; exact e13), (by rw [← w6]; exact e21), by (unfold cpT; (repeat' split) <;> first | (exfalso; omega) | rfl)⟩⟩
            · subst w19
              refine tz_eq (p2 := 81) rfl rfl (show Int32.toInt 0 = 0 from rfl) (fun c25 => ?_) (fun c25 => absurd c25 (by omega))
              refine te_bipush (p2 := 95) (x := (-12)) rfl rfl (by decide) ?_
              obtain ⟨v26, e26, y26, w26, a26, b26, _⟩ := hI.2.1 o6 1 (.inl (0, 40, 9999999999)) (by rcases q6 with rfl | rfl | rfl | rfl <;> rfl)
              subst w26
              exact te_iret rfl rfl ⟨hI, f0, _, rfl, Or.inl ⟨by omega, p7, p19, p13, y26, (by rw [← w5]; exact e7), (by rw [← w5]; exact e19), (by rw [← w6]; exact e13), (by rw [← w6]; exact e26), by (unfold cpT; (repeat' split) <;> first | (exfalso; omega) | rfl)⟩⟩
          · refine te_bipush (p2 := 69) (x := (-13)) rfl rfl (by decide) ?_
            obtain ⟨v27, e27, y27, w27, a27, b27, _⟩ := hI.2.1 o5 1 (.inl (0, 40, 9999999999)) (by rcases q5 with rfl | rfl | rfl | rfl <;> rfl)
            subst w27
            obtain ⟨v28, e28, y28, w28, a28, b28, _⟩ := hI.2.1 o6 1 (.inl (0, 40, 9999999999)) (by rcases q6 with rfl | rfl | rfl | rfl <;> rfl)
            subst w28
            exact te_iret rfl rfl ⟨hI, f0, _, rfl, Or.inl ⟨by omega, p7, y27, p13, y28, (by rw [← w5]; exact e7), (by rw [← w5]; exact e27), (by rw [← w6]; exact e13), (by rw [← w6]; exact e28), by (unfold cpT; (repeat' split) <;> first | (exfalso; omega) | rfl)⟩⟩
    · subst w3
      have cc3_1 := (show Int32.toInt 4 = 4 from rfl)
      refine tz_ne (p2 := 16) rfl rfl (show Int32.toInt 0 = 0 from rfl) (fun c29 => absurd c29 (by omega)) (fun c29 => ?_)
      refine te_bipush (p2 := 18) (x := (-2)) rfl rfl (by decide) ?_
      exact te_iret rfl rfl ⟨hI, f0, _, rfl, Or.inr ⟨by omega, rfl⟩⟩
  · subst w1
    have cc1_1 := (show Int32.toInt 4 = 4 from rfl)
    refine tz_eq (p2 := 8) rfl rfl (show Int32.toInt 0 = 0 from rfl) (fun c30 => ?_) (fun c30 => absurd c30 (by omega))
    refine te_bipush (p2 := 18) (x := (-2)) rfl rfl (by decide) ?_
    exact te_iret rfl rfl ⟨hI, f0, _, rfl, Or.inr ⟨by omega, rfl⟩⟩
set_option maxRecDepth 20000 in
set_option maxHeartbeats 4000000 in
theorem c_X12_copy {x1 : Int32} {x2 : Int32} {x3 : Int32} {x4 : Int32} {x5 : Int32} {h : im_H} (hI : tI h)  : CaP 3 193 [.ref 164, .int x1, .int x2, .int x3, .int x4, .int x5] h (fun v h2 => tI h2 ∧ fr F_X12_copy h h2 ∧ ∃ y : Int32, v = some (.int y) ∧ (((0 ≤ x1.toInt ∧ x1.toInt ≤ 3 ∧ 0 ≤ x3.toInt ∧ x3.toInt ≤ 3) ∧ ∃ q1 z1 q2 z2 : Int32, rd h 192 x1.toInt.toNat = some (.int q1) ∧ rd h 193 x1.toInt.toNat = some (.int z1) ∧ rd h 192 x3.toInt.toNat = some (.int q2) ∧ rd h 193 x3.toInt.toNat = some (.int z2) ∧ y = cpT x2 x4 x5 q1 z1 q2 z2) ∨ (¬ (0 ≤ x1.toInt ∧ x1.toInt ≤ 3 ∧ 0 ≤ x3.toInt ∧ x3.toInt ≤ 3) ∧ y = -2))) := by
  refine cap_of (d := 2) (M := mX12_copy) rfl (Nat.le_of_ble_eq_true rfl) ?_
  show EvP im_K0 2 mX12_copy (0, [(0, .ref 164), (1, .int x1), (2, .int x2), (3, .int x3), (4, .int x4), (5, .int x5)], [], h) _
  have f0 : fr F_X12_copy h h := fr_rf
  refine te_iload_n (p2 := 1) rfl rfl rfl ?_
  refine te_iconst (p2 := 2) (x := 0) rfl rfl (by decide) ?_
  refine te_iconst (p2 := 3) (x := 3) rfl rfl (by decide) ?_
  refine cS_pI (p2 := 6) rfl rfl rfl rfl (t_X12_in (n := x1) (a := 0) (b := 3) hI ) (by decide) (fun y1 r1 => ?_)
  rcases r1 with ⟨w1, c1⟩ | ⟨w1, c1⟩
  · subst w1
    have cc1_1 := (show Int32.toInt 0 = 0 from rfl)
    have cc1_2 := (show Int32.toInt 3 = 3 from rfl)
    refine tz_eq (p2 := 9) rfl rfl (show Int32.toInt 1 = 1 from rfl) (fun c2 => absurd c2 (by omega)) (fun c2 => ?_)
    refine te_iload_n (p2 := 10) rfl rfl rfl ?_
    refine te_iconst (p2 := 11) (x := 0) rfl rfl (by decide) ?_
    refine te_iconst (p2 := 12) (x := 3) rfl rfl (by decide) ?_
    refine cS_pI (p2 := 15) rfl rfl rfl rfl (t_X12_in (n := x3) (a := 0) (b := 3) hI ) (by decide) (fun y3 r3 => ?_)
    rcases r3 with ⟨w3, c3⟩ | ⟨w3, c3⟩
    · subst w3
      have cc3_1 := (show Int32.toInt 0 = 0 from rfl)
      have cc3_2 := (show Int32.toInt 3 = 3 from rfl)
      refine tz_ne (p2 := 18) rfl rfl (show Int32.toInt 1 = 1 from rfl) (fun c4 => ?_) (fun c4 => absurd c4 (by omega))
      refine te_aload_n (p2 := 22) rfl rfl rfl ?_
      refine tg_r (p2 := 25) (i := 148) (r := 208) rfl rfl hI rfl rfl rfl ?_
      refine te_iload_n (p2 := 26) rfl rfl rfl ?_
      refine tl_i (p2 := 27) (i := 192) (n := 4) rfl rfl hI rfl rfl rfl rfl (by omega) (by omega) (fun y5 a5 b5 g5 e5 => ?_)
      refine te_iconst (p2 := 28) (x := (-1)) rfl rfl (by decide) ?_
      refine tb_eq (p2 := 31) rfl rfl rfl (show Int32.toInt (-1) = (-1) from rfl) (fun c6 => ?_) (fun c6 => ?_)
      · refine te_bipush (p2 := 43) (x := (-11)) rfl rfl (by decide) ?_
        obtain ⟨v7, e7, y7, w7, a7, b7, _⟩ := hI.2.1 193 x1.toInt.toNat (.inl (0, 40, 9999999999)) (tq_row rfl (by omega))
        subst w7
        obtain ⟨v8, e8, y8, w8, a8, b8, _⟩ := hI.2.1 192 x3.toInt.toNat (.inl ((-1), 2, 9999999999)) (tq_row rfl (by omega))
        subst w8
        obtain ⟨v9, e9, y9, w9, a9, b9, _⟩ := hI.2.1 193 x3.toInt.toNat (.inl (0, 40, 9999999999)) (tq_row rfl (by omega))
        subst w9
        exact te_iret rfl rfl ⟨hI, f0, _, rfl, Or.inl ⟨by omega, y5, y7, y8, y9, e5, e7, e8, e9, by (unfold cpT; (repeat' split) <;> first | (exfalso; omega) | rfl)⟩⟩
      · refine te_aload_n (p2 := 32) rfl rfl rfl ?_
        refine tg_r (p2 := 35) (i := 148) (r := 208) rfl rfl hI rfl rfl rfl ?_
        refine te_iload_n (p2 := 36) rfl rfl rfl ?_
        refine tl_i (p2 := 37) (i := 192) (n := 4) rfl rfl hI rfl rfl rfl rfl (by omega) (by omega) (fun y10 a10 b10 g10 e10 => ?_)
        refine te_iconst (p2 := 38) (x := (-1)) rfl rfl (by decide) ?_
        refine tb_ne (p2 := 41) rfl rfl rfl (show Int32.toInt (-1) = (-1) from rfl) (fun c11 => ?_) (fun c11 => ?_)
        · refine te_aload_n (p2 := 45) rfl rfl rfl ?_
          refine tg_r (p2 := 48) (i := 148) (r := 208) rfl rfl hI rfl rfl rfl ?_
          refine te_iload_n (p2 := 49) rfl rfl rfl ?_
          refine tl_e (p2 := 50) (i := 192) (n := 4) (t := 0) (Or.inl rfl) rfl rfl hI rfl rfl (by omega) (by omega) e5 ?_
          refine te_aload_n (p2 := 51) rfl rfl rfl ?_
          refine tg_r (p2 := 54) (i := 148) (r := 208) rfl rfl hI rfl rfl rfl ?_
          refine te_iload_n (p2 := 55) rfl rfl rfl ?_
          refine tl_e (p2 := 56) (i := 192) (n := 4) (t := 0) (Or.inl rfl) rfl rfl hI rfl rfl (by omega) (by omega) e10 ?_
          refine tb_eq (p2 := 59) rfl rfl rfl rfl (fun c14 => ?_) (fun c14 => ?_)
          · refine te_iload (p2 := 64) rfl rfl rfl ?_
            refine tz_lt (p2 := 67) rfl rfl rfl (fun c15 => ?_) (fun c15 => ?_)
            · refine te_bipush (p2 := 126) (x := (-12)) rfl rfl (by decide) ?_
              obtain ⟨v16, e16, y16, w16, a16, b16, _⟩ := hI.2.1 193 x1.toInt.toNat (.inl (0, 40, 9999999999)) (tq_row rfl (by omega))
              subst w16
              obtain ⟨v17, e17, y17, w17, a17, b17, _⟩ := hI.2.1 193 x3.toInt.toNat (.inl (0, 40, 9999999999)) (tq_row rfl (by omega))
              subst w17
              exact te_iret rfl rfl ⟨hI, f0, _, rfl, Or.inl ⟨by omega, y5, y16, y10, y17, e5, e16, e10, e17, by (unfold cpT; (repeat' split) <;> first | (exfalso; omega) | rfl)⟩⟩
            · refine te_iload_n (p2 := 68) rfl rfl rfl ?_
              refine tz_lt (p2 := 71) rfl rfl rfl (fun c18 => ?_) (fun c18 => ?_)
              · refine te_bipush (p2 := 126) (x := (-12)) rfl rfl (by decide) ?_
                obtain ⟨v19, e19, y19, w19, a19, b19, _⟩ := hI.2.1 193 x1.toInt.toNat (.inl (0, 40, 9999999999)) (tq_row rfl (by omega))
                subst w19
                obtain ⟨v20, e20, y20, w20, a20, b20, _⟩ := hI.2.1 193 x3.toInt.toNat (.inl (0, 40, 9999999999)) (tq_row rfl (by omega))
                subst w20
                exact te_iret rfl rfl ⟨hI, f0, _, rfl, Or.inl ⟨by omega, y5, y19, y10, y20, e5, e19, e10, e20, by (unfold cpT; (repeat' split) <;> first | (exfalso; omega) | rfl)⟩⟩
              · refine te_iload (p2 := 73) rfl rfl rfl ?_
                refine tz_lt (p2 := 76) rfl rfl rfl (fun c21 => ?_) (fun c21 => ?_)
                · refine te_bipush (p2 := 126) (x := (-12)) rfl rfl (by decide) ?_
                  obtain ⟨v22, e22, y22, w22, a22, b22, _⟩ := hI.2.1 193 x1.toInt.toNat (.inl (0, 40, 9999999999)) (tq_row rfl (by omega))
                  subst w22
                  obtain ⟨v23, e23, y23, w23, a23, b23, _⟩ := hI.2.1 193 x3.toInt.toNat (.inl (0, 40, 9999999999)) (tq_row rfl (by omega))
                  subst w23
                  exact te_iret rfl rfl ⟨hI, f0, _, rfl, Or.inl ⟨by omega, y5, y22, y10, y23, e5, e22, e10, e23, by (unfold cpT; (repeat' split) <;> first | (exfalso; omega) | rfl)⟩⟩
                · refine te_iload_n (p2 := 77) rfl rfl rfl ?_
                  refine te_aload_n (p2 := 78) rfl rfl rfl ?_
                  refine tg_r (p2 := 81) (i := 148) (r := 209) rfl rfl hI rfl rfl rfl ?_
                  refine te_iload_n (p2 := 82) rfl rfl rfl ?_
                  refine tl_i (p2 := 83) (i := 193) (n := 4) rfl rfl hI rfl rfl rfl rfl (by omega) (by omega) (fun y24 a24 b24 g24 e24 => ?_)
                  refine tb_gt (p2 := 86) rfl rfl rfl rfl (fun c25 => ?_) (fun c25 => ?_)
                  · refine te_bipush (p2 := 126) (x := (-12)) rfl rfl (by decide) ?_
                    obtain ⟨v26, e26, y26, w26, a26, b26, _⟩ := hI.2.1 193 x3.toInt.toNat (.inl (0, 40, 9999999999)) (tq_row rfl (by omega))
                    subst w26
                    exact te_iret rfl rfl ⟨hI, f0, _, rfl, Or.inl ⟨by omega, y5, y24, y10, y26, e5, e24, e10, e26, by (unfold cpT; (repeat' split) <;> first | (exfalso; omega) | rfl)⟩⟩
                  · refine te_iload (p2 := 88) rfl rfl rfl ?_
                    refine te_aload_n (p2 := 89) rfl rfl rfl ?_
                    refine tg_r (p2 := 92) (i := 148) (r := 209) rfl rfl hI rfl rfl rfl ?_
                    refine te_iload_n (p2 := 93) rfl rfl rfl ?_
                    refine tl_i (p2 := 94) (i := 193) (n := 4) rfl rfl hI rfl rfl rfl rfl (by omega) (by omega) (fun y27 a27 b27 g27 e27 => ?_)
                    refine tb_gt (p2 := 97) rfl rfl rfl rfl (fun c28 => ?_) (fun c28 => ?_)
                    · refine te_bipush (p2 := 126) (x := (-12)) rfl rfl (by decide) ?_
                      exact te_iret rfl rfl ⟨hI, f0, _, rfl, Or.inl ⟨by omega, y5, y24, y10, y27, e5, e24, e10, e27, by (unfold cpT; (repeat' split) <;> first | (exfalso; omega) | rfl)⟩⟩
                    · refine te_iload (p2 := 99) rfl rfl rfl ?_
                      refine te_aload_n (p2 := 100) rfl rfl rfl ?_
                      refine tg_r (p2 := 103) (i := 148) (r := 209) rfl rfl hI rfl rfl rfl ?_
                      refine te_iload_n (p2 := 104) rfl rfl rfl ?_
                      refine tl_e (p2 := 105) (i := 193) (n := 4) (t := 0) (Or.inl rfl) rfl rfl hI rfl rfl (by omega) (by omega) e24 ?_
                      refine te_iload_n (p2 := 106) rfl rfl rfl ?_
                      refine ar_sub (p2 := 107) rfl rfl rfl rfl (by omega) (by omega) (fun z30 e30 f30 => ?_)
                      refine tb_gt (p2 := 110) rfl rfl rfl rfl (fun c31 => ?_) (fun c31 => ?_)
                      · refine te_bipush (p2 := 126) (x := (-12)) rfl rfl (by decide) ?_
                        exact te_iret rfl rfl ⟨hI, f0, _, rfl, Or.inl ⟨by omega, y5, y24, y10, y27, e5, e24, e10, e27, by (unfold cpT; (repeat' split) <;> first | (exfalso; omega) | rfl)⟩⟩
                      · refine te_iload (p2 := 112) rfl rfl rfl ?_
                        refine te_aload_n (p2 := 113) rfl rfl rfl ?_
                        refine tg_r (p2 := 116) (i := 148) (r := 209) rfl rfl hI rfl rfl rfl ?_
                        refine te_iload_n (p2 := 117) rfl rfl rfl ?_
                        refine tl_e (p2 := 118) (i := 193) (n := 4) (t := 0) (Or.inl rfl) rfl rfl hI rfl rfl (by omega) (by omega) e27 ?_
                        refine te_iload (p2 := 120) rfl rfl rfl ?_
                        refine ar_sub (p2 := 121) rfl rfl rfl rfl (by omega) (by omega) (fun z33 e33 f33 => ?_)
                        refine tb_le (p2 := 124) rfl rfl rfl rfl (fun c34 => ?_) (fun c34 => ?_)
                        · refine te_bipush (p2 := 129) (x := 40) rfl rfl (by decide) ?_
                          refine te_iload_n (p2 := 130) rfl rfl rfl ?_
                          refine ar_mul (p2 := 131) rfl rfl (show Int32.toInt 40 = 40 from rfl) rfl (by omega) (by omega) (fun z35 e35 f35 => ?_)
                          refine te_iload_n (p2 := 132) rfl rfl rfl ?_
                          refine ar_add (p2 := 133) rfl rfl rfl rfl (by omega) (by omega) (fun z36 e36 f36 => ?_)
                          refine te_istore (p2 := 135) (lv2 := [(6, .int z36), (0, .ref 164), (1, .int x1), (2, .int x2), (3, .int x3), (4, .int x4), (5, .int x5)]) rfl rfl (by decide) rfl ?_
                          refine te_bipush (p2 := 137) (x := 40) rfl rfl (by decide) ?_
                          refine te_iload_n (p2 := 138) rfl rfl rfl ?_
                          refine ar_mul (p2 := 139) rfl rfl (show Int32.toInt 40 = 40 from rfl) rfl (by omega) (by omega) (fun z37 e37 f37 => ?_)
                          refine te_iload (p2 := 141) rfl rfl rfl ?_
                          refine ar_add (p2 := 142) rfl rfl rfl rfl (by omega) (by omega) (fun z38 e38 f38 => ?_)
                          refine te_istore (p2 := 144) (lv2 := [(7, .int z38), (6, .int z36), (0, .ref 164), (1, .int x1), (2, .int x2), (3, .int x3), (4, .int x4), (5, .int x5)]) rfl rfl (by decide) rfl ?_
                          refine te_iconst (p2 := 145) (x := 0) rfl rfl (by decide) ?_
                          refine te_istore (p2 := 147) (lv2 := [(8, .int 0), (7, .int z38), (6, .int z36), (0, .ref 164), (1, .int x1), (2, .int x2), (3, .int x3), (4, .int x4), (5, .int x5)]) rfl rfl (by decide) rfl ?_
                          have lp39 : ∀ (n39 : Nat) (v39_8 : Int32) (h39 : im_H), tI h39 → fr F_X12_copy h h39 → 0 ≤ v39_8.toInt → v39_8.toInt ≤ 40 → v39_8.toInt ≤ x5.toInt → x5.toInt - v39_8.toInt < (n39 : Int) → EvP im_K0 2 mX12_copy (147, [(0, .ref 164), (1, .int x1), (2, .int x2), (3, .int x3), (4, .int x4), (5, .int x5), (6, .int z36), (7, .int z38), (8, .int v39_8)], [], h39) (fun v h2 => tI h2 ∧ fr F_X12_copy h h2 ∧ ∃ y : Int32, v = some (.int y) ∧ (((0 ≤ x1.toInt ∧ x1.toInt ≤ 3 ∧ 0 ≤ x3.toInt ∧ x3.toInt ≤ 3) ∧ ∃ q1 z1 q2 z2 : Int32, rd h 192 x1.toInt.toNat = some (.int q1) ∧ rd h 193 x1.toInt.toNat = some (.int z1) ∧ rd h 192 x3.toInt.toNat = some (.int q2) ∧ rd h 193 x3.toInt.toNat = some (.int z2) ∧ y = cpT x2 x4 x5 q1 z1 q2 z2) ∨ (¬ (0 ≤ x1.toInt ∧ x1.toInt ≤ 3 ∧ 0 ≤ x3.toInt ∧ x3.toInt ≤ 3) ∧ y = -2))) := by
                            intro n39
                            induction n39 with
                            | zero => intro v39_8 h39 I39 f39 a39_8 b39_8 l39_0 m39; exfalso; omega
                            | succ n39 ih39 =>
                              intro v39_8 h39 I39 f39 a39_8 b39_8 l39_0 m39
                              refine te_iload (p2 := 149) rfl rfl rfl ?_
                              refine te_iload (p2 := 151) rfl rfl rfl ?_
                              refine tb_ge (p2 := 154) rfl rfl rfl rfl (fun c40 => ?_) (fun c40 => ?_)
                              · refine te_iload (p2 := 203) rfl rfl rfl ?_
                                exact te_iret rfl rfl ⟨I39, f39, _, rfl, Or.inl ⟨by omega, y5, y24, y10, y27, e5, e24, e10, e27, by (unfold cpT; (repeat' split) <;> first | (exfalso; omega) | rfl)⟩⟩
                              · refine te_iload (p2 := 156) rfl rfl rfl ?_
                                refine te_iload (p2 := 158) rfl rfl rfl ?_
                                refine tb_ge (p2 := 161) rfl rfl rfl rfl (fun c41 => ?_) (fun c41 => ?_)
                                · refine te_iload (p2 := 173) rfl rfl rfl ?_
                                  refine te_istore (p2 := 175) (lv2 := [(9, .int v39_8), (0, .ref 164), (1, .int x1), (2, .int x2), (3, .int x3), (4, .int x4), (5, .int x5), (6, .int z36), (7, .int z38), (8, .int v39_8)]) rfl rfl (by decide) rfl ?_
                                  refine te_aload_n (p2 := 176) rfl rfl rfl ?_
                                  refine tg_r (p2 := 179) (i := 148) (r := 210) rfl rfl I39 rfl rfl rfl ?_
                                  refine te_iload (p2 := 181) rfl rfl rfl ?_
                                  refine te_iload (p2 := 183) rfl rfl rfl ?_
                                  refine ar_add (p2 := 184) rfl rfl rfl rfl (by omega) (by omega) (fun z42 e42 f42 => ?_)
                                  refine te_aload_n (p2 := 185) rfl rfl rfl ?_
                                  refine tg_r (p2 := 188) (i := 148) (r := 210) rfl rfl I39 rfl rfl rfl ?_
                                  refine te_iload (p2 := 190) rfl rfl rfl ?_
                                  refine te_iload (p2 := 192) rfl rfl rfl ?_
                                  refine ar_add (p2 := 193) rfl rfl rfl rfl (by omega) (by omega) (fun z43 e43 f43 => ?_)
                                  refine tl_i (p2 := 194) (i := 194) (n := 160) rfl rfl I39 rfl rfl rfl rfl (by omega) (by omega) (fun y44 a44 b44 g44 e44 => ?_)
                                  refine ts_i (p2 := 195) (i := 194) (n := 160) rfl rfl I39 rfl rfl rfl rfl (by omega) (by omega) (i32_lo _) (i32_hi _) (i32_ho _) rfl (fun h45 I45 u45 => ?_)
                                  have f45 := fr_st (F := F_X12_copy) 0 f39 u45 rfl (by omega) (by omega)
                                  refine ar_inc (p2 := 198) (x := v39_8) rfl rfl (by decide) rfl (by decide) rfl (by omega) (by omega) (fun z46 e46 f46 => ?_)
                                  show EvP _ _ _ (198, [(8, .int z46), (9, .int v39_8), (0, .ref 164), (1, .int x1), (2, .int x2), (3, .int x3), (4, .int x4), (5, .int x5), (6, .int z36), (7, .int z38)], [], h45) _
                                  refine te_goto rfl ?_
                                  refine te_lv [(0, .ref 164), (1, .int x1), (2, .int x2), (3, .int x3), (4, .int x4), (5, .int x5), (6, .int z36), (7, .int z38), (8, .int z46)] rfl rfl ⟨rfl, rfl, rfl, rfl, rfl, rfl, rfl, rfl, rfl, trivial⟩ ?_
                                  exact ih39 z46 h45 I45 f45 (by omega) (by omega) (by omega) (by omega)
                                · refine te_iload (p2 := 163) rfl rfl rfl ?_
                                  refine te_iconst (p2 := 164) (x := 1) rfl rfl (by decide) ?_
                                  refine ar_sub (p2 := 165) rfl rfl rfl (show Int32.toInt 1 = 1 from rfl) (by omega) (by omega) (fun z47 e47 f47 => ?_)
                                  refine te_iload (p2 := 167) rfl rfl rfl ?_
                                  refine ar_sub (p2 := 168) rfl rfl rfl rfl (by omega) (by omega) (fun z48 e48 f48 => ?_)
                                  refine te_goto rfl ?_
                                  refine te_istore (p2 := 175) (lv2 := [(9, .int z48), (0, .ref 164), (1, .int x1), (2, .int x2), (3, .int x3), (4, .int x4), (5, .int x5), (6, .int z36), (7, .int z38), (8, .int v39_8)]) rfl rfl (by decide) rfl ?_
                                  refine te_aload_n (p2 := 176) rfl rfl rfl ?_
                                  refine tg_r (p2 := 179) (i := 148) (r := 210) rfl rfl I39 rfl rfl rfl ?_
                                  refine te_iload (p2 := 181) rfl rfl rfl ?_
                                  refine te_iload (p2 := 183) rfl rfl rfl ?_
                                  refine ar_add (p2 := 184) rfl rfl rfl rfl (by omega) (by omega) (fun z49 e49 f49 => ?_)
                                  refine te_aload_n (p2 := 185) rfl rfl rfl ?_
                                  refine tg_r (p2 := 188) (i := 148) (r := 210) rfl rfl I39 rfl rfl rfl ?_
                                  refine te_iload (p2 := 190) rfl rfl rfl ?_
                                  refine te_iload (p2 := 192) rfl rfl rfl ?_
                                  refine ar_add (p2 := 193) rfl rfl rfl rfl (by omega) (by omega) (fun z50 e50 f50 => ?_)
                                  refine tl_i (p2 := 194) (i := 194) (n := 160) rfl rfl I39 rfl rfl rfl rfl (by omega) (by omega) (fun y51 a51 b51 g51 e51 => ?_)
                                  refine ts_i (p2 := 195) (i := 194) (n := 160) rfl rfl I39 rfl rfl rfl rfl (by omega) (by omega) (i32_lo _) (i32_hi _) (i32_ho _) rfl (fun h52 I52 u52 => ?_)
                                  have f52 := fr_st (F := F_X12_copy) 0 f39 u52 rfl (by omega) (by omega)
                                  refine ar_inc (p2 := 198) (x := v39_8) rfl rfl (by decide) rfl (by decide) rfl (by omega) (by omega) (fun z53 e53 f53 => ?_)
                                  show EvP _ _ _ (198, [(8, .int z53), (9, .int z48), (0, .ref 164), (1, .int x1), (2, .int x2), (3, .int x3), (4, .int x4), (5, .int x5), (6, .int z36), (7, .int z38)], [], h52) _
                                  refine te_goto rfl ?_
                                  refine te_lv [(0, .ref 164), (1, .int x1), (2, .int x2), (3, .int x3), (4, .int x4), (5, .int x5), (6, .int z36), (7, .int z38), (8, .int z53)] rfl rfl ⟨rfl, rfl, rfl, rfl, rfl, rfl, rfl, rfl, rfl, trivial⟩ ?_
                                  exact ih39 z53 h52 I52 f52 (by omega) (by omega) (by omega) (by omega)
                          refine te_lv [(0, .ref 164), (1, .int x1), (2, .int x2), (3, .int x3), (4, .int x4), (5, .int x5), (6, .int z36), (7, .int z38), (8, .int 0)] rfl rfl ⟨rfl, rfl, rfl, rfl, rfl, rfl, rfl, rfl, rfl, trivial⟩ ?_
                          exact lp39 41 0 h hI f0 (by decide) (by decide) (by have cc0 := (show Int32.toInt 0 = 0 from rfl); omega) (by have cc0 := (show Int32.toInt 0 = 0 from rfl); omega)
                        · refine te_bipush (p2 := 126) (x := (-12)) rfl rfl (by decide) ?_
                          exact te_iret rfl rfl ⟨hI, f0, _, rfl, Or.inl ⟨by omega, y5, y24, y10, y27, e5, e24, e10, e27, by (unfold cpT; (repeat' split) <;> first | (exfalso; omega) | rfl)⟩⟩
          · refine te_bipush (p2 := 61) (x := (-13)) rfl rfl (by decide) ?_
            obtain ⟨v54, e54, y54, w54, a54, b54, _⟩ := hI.2.1 193 x1.toInt.toNat (.inl (0, 40, 9999999999)) (tq_row rfl (by omega))
            subst w54
            obtain ⟨v55, e55, y55, w55, a55, b55, _⟩ := hI.2.1 193 x3.toInt.toNat (.inl (0, 40, 9999999999)) (tq_row rfl (by omega))
            subst w55
            exact te_iret rfl rfl ⟨hI, f0, _, rfl, Or.inl ⟨by omega, y5, y54, y10, y55, e5, e54, e10, e55, by (unfold cpT; (repeat' split) <;> first | (exfalso; omega) | rfl)⟩⟩
        · refine te_bipush (p2 := 43) (x := (-11)) rfl rfl (by decide) ?_
          obtain ⟨v56, e56, y56, w56, a56, b56, _⟩ := hI.2.1 193 x1.toInt.toNat (.inl (0, 40, 9999999999)) (tq_row rfl (by omega))
          subst w56
          obtain ⟨v57, e57, y57, w57, a57, b57, _⟩ := hI.2.1 193 x3.toInt.toNat (.inl (0, 40, 9999999999)) (tq_row rfl (by omega))
          subst w57
          exact te_iret rfl rfl ⟨hI, f0, _, rfl, Or.inl ⟨by omega, y5, y56, y10, y57, e5, e56, e10, e57, by (unfold cpT; (repeat' split) <;> first | (exfalso; omega) | rfl)⟩⟩
    · subst w3
      have cc3_1 := (show Int32.toInt 0 = 0 from rfl)
      have cc3_2 := (show Int32.toInt 3 = 3 from rfl)
      refine tz_ne (p2 := 18) rfl rfl (show Int32.toInt 0 = 0 from rfl) (fun c58 => absurd c58 (by omega)) (fun c58 => ?_)
      refine te_bipush (p2 := 20) (x := (-2)) rfl rfl (by decide) ?_
      exact te_iret rfl rfl ⟨hI, f0, _, rfl, Or.inr ⟨by omega, rfl⟩⟩
  · subst w1
    have cc1_1 := (show Int32.toInt 0 = 0 from rfl)
    have cc1_2 := (show Int32.toInt 3 = 3 from rfl)
    refine tz_eq (p2 := 9) rfl rfl (show Int32.toInt 0 = 0 from rfl) (fun c59 => ?_) (fun c59 => absurd c59 (by omega))
    refine te_bipush (p2 := 20) (x := (-2)) rfl rfl (by decide) ?_
    exact te_iret rfl rfl ⟨hI, f0, _, rfl, Or.inr ⟨by omega, rfl⟩⟩
