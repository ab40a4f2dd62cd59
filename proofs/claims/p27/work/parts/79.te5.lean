theorem inF1 {c a b i k : Nat} (h : c ≠ i) : inF [(c, a, b)] i k = false := by
  simp [inF, h]
def okS (s k n : Int32) : Prop := (0 ≤ s.toInt ∧ s.toInt ≤ 3) ∧ (k.toInt = -1 ∨ (0 ≤ k.toInt ∧ k.toInt ≤ 2 ∧ 0 ≤ n.toInt ∧ n.toInt ≤ 40))
set_option maxRecDepth 20000 in
set_option maxHeartbeats 4000000 in
theorem c_J7_fill {q : Nat} {v : Int32} {h : im_H} (hI : tI h) (q_q : q = 141 ∨ q = 143 ∨ q = 145 ∨ q = 147) : CaP 1 197 [.ref (16 + q), .int v] h (fun r h2 => tI h2 ∧ fr (F_J7_fill_53178 q) h h2 ∧ r = none ∧ ∀ k : Nat, k < 40 → rd h2 q k = some (.int v)) := by
  refine cap_of (d := 0) (M := mJ7_fill_53178) rfl (Nat.le_of_ble_eq_true rfl) ?_
  show EvP im_K0 0 mJ7_fill_53178 (0, [(0, .ref (16 + q)), (1, .int v)], [], h) _
  have f0 : fr (F_J7_fill_53178 q) h h := fr_rf
  refine te_iconst (p2 := 1) (x := 0) rfl rfl (by decide) ?_
  refine te_istore_n (p2 := 2) (lv2 := [(2, .int 0), (0, .ref (16 + q)), (1, .int v)]) rfl rfl (by decide) rfl ?_
  refine te_aload_n (p2 := 3) rfl rfl rfl ?_
  refine te_len (p2 := 4) (i := q) (n := 40) (t := 0) (Or.inl rfl) rfl rfl hI rfl (by rcases q_q with rfl | rfl | rfl | rfl <;> rfl) rfl ?_
  show EvP _ _ _ (4, [(2, .int 0), (0, .ref (16 + q)), (1, .int v)], [.int 40], h) _
  refine te_istore_n (p2 := 5) (lv2 := [(3, .int 40), (2, .int 0), (0, .ref (16 + q)), (1, .int v)]) rfl rfl (by decide) rfl ?_
  have lp1 : ∀ (n1 : Nat) (v1_2 : Int32) (h1 : im_H), tI h1 → fr (F_J7_fill_53178 q) h h1 → 0 ≤ v1_2.toInt → v1_2.toInt ≤ 40 → (∀ k : Nat, (k : Int) < v1_2.toInt → rd h1 q k = some (.int v)) → 40 - v1_2.toInt < (n1 : Int) → EvP im_K0 0 mJ7_fill_53178 (5, [(0, .ref (16 + q)), (1, .int v), (2, .int v1_2), (3, .int 40)], [], h1) (fun r h2 => tI h2 ∧ fr (F_J7_fill_53178 q) h h2 ∧ r = none ∧ ∀ k : Nat, k < 40 → rd h2 q k = some (.int v)) := by
    intro n1
    induction n1 with
    | zero => intro v1_2 h1 I1 f1 a1_2 b1_2 w1_0 m1; exfalso; omega
    | succ n1 ih1 =>
      intro v1_2 h1 I1 f1 a1_2 b1_2 w1_0 m1
      refine te_iload_n (p2 := 6) rfl rfl rfl ?_
      refine te_iload_n (p2 := 7) rfl rfl rfl ?_
      refine tb_ge (p2 := 10) rfl rfl rfl (show Int32.toInt 40 = 40 from rfl) (fun c2 => ?_) (fun c2 => ?_)
      · exact te_vret rfl rfl ⟨I1, f1, rfl, (fun k hk => w1_0 k (by omega))⟩
      · refine te_aload_n (p2 := 11) rfl rfl rfl ?_
        refine te_iload_n (p2 := 12) rfl rfl rfl ?_
        refine te_iload_n (p2 := 13) rfl rfl rfl ?_
        refine ts_i (p2 := 14) (i := q) (n := 40) rfl rfl I1 rfl (by rcases q_q with rfl | rfl | rfl | rfl <;> rfl) (by rcases q_q with rfl | rfl | rfl | rfl <;> rfl) rfl (by omega) (by omega) (i32_lo _) (i32_hi _) (i32_ho _) (by rcases q_q with rfl | rfl | rfl | rfl <;> rfl) (fun h3 I3 u3 => ?_)
        have f3 := fr_st (F := (F_J7_fill_53178 q)) 0 f1 u3 rfl (by omega) (by omega)
        refine ar_inc (p2 := 17) (x := v1_2) rfl rfl (by decide) rfl (by decide) rfl (by omega) (by omega) (fun z4 e4 f4 => ?_)
        show EvP _ _ _ (17, [(2, .int z4), (0, .ref (16 + q)), (1, .int v), (3, .int 40)], [], h3) _
        refine te_goto rfl ?_
        refine te_lv [(0, .ref (16 + q)), (1, .int v), (2, .int z4), (3, .int 40)] rfl rfl ⟨rfl, rfl, rfl, rfl, trivial⟩ ?_
        exact ih1 z4 h3 I3 f3 (by omega) (by omega) (fun k hk => by (by_cases hc : k = v1_2.toInt.toNat); (· rw [hc]; exact u3.1); (· exact (u3.2 _ _ (Or.inr hc)).trans (w1_0 k (by omega)))) (by have cc0 := (show Int32.toInt 40 = 40 from rfl); omega)
  refine te_lv [(0, .ref (16 + q)), (1, .int v), (2, .int 0), (3, .int 40)] rfl rfl ⟨rfl, rfl, rfl, rfl, trivial⟩ ?_
  exact lp1 41 0 h hI f0 (by decide) (by decide) (fun k hk => by exfalso; have := (show Int32.toInt 0 = 0 from rfl); omega) (by have cc0 := (show Int32.toInt 0 = 0 from rfl); have cc1 := (show Int32.toInt 40 = 40 from rfl); omega)
abbrev Q1_sheet (x1 x2 x3 : Int32) (y : Int32) (h h2 : im_H) : Prop := (okS x1 x2 x3 → rd h2 (140 + 2 * x1.toInt.toNat) 0 = some (.int x2)) ∧ (okS x1 x2 x3 → x2.toInt ≠ -1 → rd h2 (140 + 2 * x1.toInt.toNat) 1 = some (.int x3)) ∧ (∀ s b, s < 4 → (s ≠ x1.toInt.toNat ∨ ¬ okS x1 x2 x3) → rd h2 (140 + 2 * s) b = rd h (140 + 2 * s) b) ∧ (okS x1 x2 x3 → x2.toInt ≠ -1 → ∀ i : Nat, i < 40 → rd h2 (141 + 2 * x1.toInt.toNat) i = some (.int 0)) ∧ (∀ s b, s < 4 → (s ≠ x1.toInt.toNat ∨ ¬ okS x1 x2 x3) → rd h2 (141 + 2 * s) b = rd h (141 + 2 * s) b)
set_option maxRecDepth 20000 in
set_option maxHeartbeats 4000000 in
theorem c_X11_sheet {x1 : Int32} {x2 : Int32} {x3 : Int32} {h : im_H} (hI : tI h)  : CaP 3 104 [.ref 16, .int x1, .int x2, .int x3] h (fun v h2 => tI h2 ∧ fr F_X11_sheet h h2 ∧ ∃ y : Int32, v = some (.int y) ∧ Q1_sheet x1 x2 x3 y h h2) := by
  refine cap_of (d := 2) (M := mX11_sheet) rfl (Nat.le_of_ble_eq_true rfl) ?_
  show EvP im_K0 2 mX11_sheet (0, [(0, .ref 16), (1, .int x1), (2, .int x2), (3, .int x3)], [], h) _
  have f0 : fr F_X11_sheet h h := fr_rf
  refine te_iload_n (p2 := 1) rfl rfl rfl ?_
  refine te_iconst (p2 := 2) (x := 4) rfl rfl (by decide) ?_
  refine cS_pI (p2 := 5) rfl rfl rfl rfl (t_X11_within (n := x1) (b := 4) hI ) (by decide) (fun y1 r1 => ?_)
  rcases r1 with ⟨w1, c1⟩ | ⟨w1, c1⟩
  · subst w1
    have cc1_1 := (show Int32.toInt 4 = 4 from rfl)
    refine tz_ne (p2 := 8) rfl rfl (show Int32.toInt 1 = 1 from rfl) (fun c2 => ?_) (fun c2 => absurd c2 (by omega))
    refine te_iload_n (p2 := 12) rfl rfl rfl ?_
    refine te_iconst (p2 := 13) (x := (-1)) rfl rfl (by decide) ?_
    refine tb_ne (p2 := 16) rfl rfl rfl (show Int32.toInt (-1) = (-1) from rfl) (fun c3 => ?_) (fun c3 => ?_)
    · refine te_iload_n (p2 := 29) rfl rfl rfl ?_
      refine te_iconst (p2 := 30) (x := 3) rfl rfl (by decide) ?_
      refine cS_pI (p2 := 33) rfl rfl rfl rfl (t_X11_within (n := x2) (b := 3) hI ) (by decide) (fun y4 r4 => ?_)
      rcases r4 with ⟨w4, c4⟩ | ⟨w4, c4⟩
      · subst w4
        have cc4_1 := (show Int32.toInt 3 = 3 from rfl)
        refine tz_eq (p2 := 36) rfl rfl (show Int32.toInt 1 = 1 from rfl) (fun c5 => absurd c5 (by omega)) (fun c5 => ?_)
        refine te_iload_n (p2 := 37) rfl rfl rfl ?_
        refine te_bipush (p2 := 39) (x := 40) rfl rfl (by decide) ?_
        refine tb_le (p2 := 42) rfl rfl rfl (show Int32.toInt 40 = 40 from rfl) (fun c6 => ?_) (fun c6 => ?_)
        · refine te_iload_n (p2 := 46) rfl rfl rfl ?_
          refine tz_ge (p2 := 49) rfl rfl rfl (fun c7 => ?_) (fun c7 => ?_)
          · refine te_aload_n (p2 := 53) rfl rfl rfl ?_
            refine tg_r (p2 := 56) (i := 0) (r := 113) rfl rfl hI rfl rfl rfl ?_
            refine te_iload_n (p2 := 57) rfl rfl rfl ?_
            refine tl_f (p2 := 58) (i := 97) (n := 4) (c0 := 140) (sp := 2) rfl rfl hI rfl rfl (by decide) rq_97 (by omega) (by omega) (fun o8 w8 => ?_)
            have q8 : o8 = 140 ∨ o8 = 142 ∨ o8 = 144 ∨ o8 = 146 := by omega
            refine te_iload_n (p2 := 59) rfl rfl rfl ?_
            refine tp_i (p2 := 62) (i := o8) rfl rfl hI rfl (by rcases q8 with rfl | rfl | rfl | rfl <;> rfl) (by decide) rfl rfl (by rcases q8 with rfl | rfl | rfl | rfl <;> rfl) (by omega) (by omega) (by omega) (by rcases q8 with rfl | rfl | rfl | rfl <;> rfl) (fun h9 I9 u9 => ?_)
            have f9 := fr_up (F := F_X11_sheet) (a := 0) (b := 1) f0 u9 (by rcases q8 with rfl | rfl | rfl | rfl <;> decide) (by decide) (by decide)
            refine te_aload_n (p2 := 63) rfl rfl rfl ?_
            refine tg_r (p2 := 66) (i := 0) (r := 113) rfl rfl I9 rfl rfl rfl ?_
            refine te_iload_n (p2 := 67) rfl rfl rfl ?_
            refine tl_f (p2 := 68) (i := 97) (n := 4) (c0 := 140) (sp := 2) rfl rfl I9 rfl rfl (by decide) rq_97 (by omega) (by omega) (fun o10 w10 => ?_)
            have q10 : o10 = 140 ∨ o10 = 142 ∨ o10 = 144 ∨ o10 = 146 := by omega
            refine te_iload_n (p2 := 69) rfl rfl rfl ?_
            refine tp_i (p2 := 72) (i := o10) rfl rfl I9 rfl (by rcases q10 with rfl | rfl | rfl | rfl <;> rfl) (by decide) rfl rfl (by rcases q10 with rfl | rfl | rfl | rfl <;> rfl) (by omega) (by omega) (by omega) (by rcases q10 with rfl | rfl | rfl | rfl <;> rfl) (fun h11 I11 u11 => ?_)
            have f11 := fr_up (F := F_X11_sheet) (a := 0) (b := 1) f9 u11 (by rcases q10 with rfl | rfl | rfl | rfl <;> decide) (by decide) (by decide)
            refine te_aload_n (p2 := 73) rfl rfl rfl ?_
            refine tg_r (p2 := 76) (i := 0) (r := 113) rfl rfl I11 rfl rfl rfl ?_
            refine te_iload_n (p2 := 77) rfl rfl rfl ?_
            refine tl_f (p2 := 78) (i := 97) (n := 4) (c0 := 140) (sp := 2) rfl rfl I11 rfl rfl (by decide) rq_97 (by omega) (by omega) (fun o12 w12 => ?_)
            have q12 : o12 = 140 ∨ o12 = 142 ∨ o12 = 144 ∨ o12 = 146 := by omega
            refine tg_r (p2 := 81) (i := o12) (r := (16 + (o12 + 1))) rfl rfl I11 rfl (by rcases q12 with rfl | rfl | rfl | rfl <;> rfl) (by rcases q12 with rfl | rfl | rfl | rfl <;> rfl) ?_
            refine te_iconst (p2 := 82) (x := 0) rfl rfl (by decide) ?_
            refine tc_S (p2 := 85) rfl rfl rfl rfl (c_J7_fill (q := (o12 + 1)) (v := 0) I11 (by omega)) (by decide) (fun v13 h13 hq13 => ?_)
            obtain ⟨I13, g13, w13, Z13⟩ := hq13
            subst w13
            have f13 := fr_tr (F1 := (F_J7_fill_53178 (o12 + 1))) (F := F_X11_sheet) f11 g13 (by rcases q12 with rfl | rfl | rfl | rfl <;> decide)
            show EvP _ _ _ (85, [(0, .ref 16), (1, .int x1), (2, .int x2), (3, .int x3)], [], h13) _
            refine te_iconst (p2 := 86) (x := 1) rfl rfl (by decide) ?_
            exact te_iret rfl rfl ⟨I13, f13, _, rfl, (fun _ => by rw [← w8]; exact ((g13 _ _ (inF1 (by omega))).trans ((u11.2 _ _ (Or.inr (by decide))).trans u9.1))), (fun _ _ => by rw [← w10]; exact ((g13 _ _ (inF1 (by omega))).trans u11.1)), (fun s b hs hn => by (have hq : s ≠ x1.toInt.toNat := hn.resolve_right (fun hk => hk (by unfold okS; omega))); exact ((g13 _ _ (inF1 (by omega))).trans ((u11.2 _ _ (Or.inl (by omega))).trans (u9.2 _ _ (Or.inl (by omega)))))), (fun _ _ i hi => by rw [show 141 + 2 * x1.toInt.toNat = (o12 + 1) by omega]; exact Z13 i hi), (fun s b hs hn => by (have hq : s ≠ x1.toInt.toNat := hn.resolve_right (fun hk => hk (by unfold okS; omega))); exact ((g13 _ _ (inF1 (by omega))).trans ((u11.2 _ _ (Or.inl (by omega))).trans (u9.2 _ _ (Or.inl (by omega))))))⟩
          · refine te_bipush (p2 := 51) (x := (-14)) rfl rfl (by decide) ?_
            exact te_iret rfl rfl ⟨hI, f0, _, rfl, (fun ho => absurd ho (by unfold okS; omega)), (fun ho => absurd ho (by unfold okS; omega)), (fun s b hs hn => rfl), (fun ho => absurd ho (by unfold okS; omega)), (fun s b hs hn => rfl)⟩
        · refine te_bipush (p2 := 44) (x := (-2)) rfl rfl (by decide) ?_
          exact te_iret rfl rfl ⟨hI, f0, _, rfl, (fun ho => absurd ho (by unfold okS; omega)), (fun ho => absurd ho (by unfold okS; omega)), (fun s b hs hn => rfl), (fun ho => absurd ho (by unfold okS; omega)), (fun s b hs hn => rfl)⟩
      · subst w4
        have cc4_1 := (show Int32.toInt 3 = 3 from rfl)
        refine tz_eq (p2 := 36) rfl rfl (show Int32.toInt 0 = 0 from rfl) (fun c14 => ?_) (fun c14 => absurd c14 (by omega))
        refine te_bipush (p2 := 44) (x := (-2)) rfl rfl (by decide) ?_
        exact te_iret rfl rfl ⟨hI, f0, _, rfl, (fun ho => absurd ho (by unfold okS; omega)), (fun ho => absurd ho (by unfold okS; omega)), (fun s b hs hn => rfl), (fun ho => absurd ho (by unfold okS; omega)), (fun s b hs hn => rfl)⟩
    · refine te_aload_n (p2 := 17) rfl rfl rfl ?_
      refine tg_r (p2 := 20) (i := 0) (r := 113) rfl rfl hI rfl rfl rfl ?_
      refine te_iload_n (p2 := 21) rfl rfl rfl ?_
      refine tl_f (p2 := 22) (i := 97) (n := 4) (c0 := 140) (sp := 2) rfl rfl hI rfl rfl (by decide) rq_97 (by omega) (by omega) (fun o15 w15 => ?_)
      have q15 : o15 = 140 ∨ o15 = 142 ∨ o15 = 144 ∨ o15 = 146 := by omega
      refine te_iconst (p2 := 23) (x := (-1)) rfl rfl (by decide) ?_
      refine tp_i (p2 := 26) (i := o15) rfl rfl hI rfl (by rcases q15 with rfl | rfl | rfl | rfl <;> rfl) (by decide) rfl rfl (by rcases q15 with rfl | rfl | rfl | rfl <;> rfl) (by decide) (by decide) (by decide) (by rcases q15 with rfl | rfl | rfl | rfl <;> rfl) (fun h16 I16 u16 => ?_)
      have f16 := fr_up (F := F_X11_sheet) (a := 0) (b := 1) f0 u16 (by rcases q15 with rfl | rfl | rfl | rfl <;> decide) (by decide) (by decide)
      refine te_iconst (p2 := 27) (x := 1) rfl rfl (by decide) ?_
      exact te_iret rfl rfl ⟨I16, f16, _, rfl, (fun _ => by rw [← w15, (i32_ext (by have cm := (show Int32.toInt (-1) = -1 from rfl); omega) : x2 = -1)]; exact u16.1), (fun _ hm => absurd (by omega) hm), (fun s b hs hn => by (have hq : s ≠ x1.toInt.toNat := hn.resolve_right (fun hk => hk (by unfold okS; omega))); exact (u16.2 _ _ (Or.inl (by omega)))), (fun _ hm => absurd (by omega) hm), (fun s b hs hn => by (have hq : s ≠ x1.toInt.toNat := hn.resolve_right (fun hk => hk (by unfold okS; omega))); exact (u16.2 _ _ (Or.inl (by omega))))⟩
  · subst w1
    have cc1_1 := (show Int32.toInt 4 = 4 from rfl)
    refine tz_ne (p2 := 8) rfl rfl (show Int32.toInt 0 = 0 from rfl) (fun c17 => absurd c17 (by omega)) (fun c17 => ?_)
    refine te_bipush (p2 := 10) (x := (-2)) rfl rfl (by decide) ?_
    exact te_iret rfl rfl ⟨hI, f0, _, rfl, (fun ho => absurd ho (by unfold okS; omega)), (fun ho => absurd ho (by unfold okS; omega)), (fun s b hs hn => rfl), (fun ho => absurd ho (by unfold okS; omega)), (fun s b hs hn => rfl)⟩
abbrev Q2_sheet (x1 x2 x3 : Int32) (y : Int32) (h h2 : im_H) : Prop := (okS x1 x2 x3 → rd h2 192 x1.toInt.toNat = some (.int x2)) ∧ (okS x1 x2 x3 → x2.toInt ≠ -1 → rd h2 193 x1.toInt.toNat = some (.int x3)) ∧ (∀ s, s < 4 → (s ≠ x1.toInt.toNat ∨ ¬ okS x1 x2 x3) → rd h2 192 s = rd h 192 s ∧ rd h2 193 s = rd h 193 s) ∧ (okS x1 x2 x3 → ∀ i : Nat, i < 40 → rd h2 194 (40 * x1.toInt.toNat + i) = some (.int 0)) ∧ (∀ s i, s < 4 → i < 40 → (s ≠ x1.toInt.toNat ∨ ¬ okS x1 x2 x3) → rd h2 194 (40 * s + i) = rd h 194 (40 * s + i))
set_option maxRecDepth 20000 in
set_option maxHeartbeats 4000000 in
theorem c_X12_sheet {x1 : Int32} {x2 : Int32} {x3 : Int32} {h : im_H} (hI : tI h)  : CaP 2 191 [.ref 164, .int x1, .int x2, .int x3] h (fun v h2 => tI h2 ∧ fr F_X12_sheet h h2 ∧ ∃ y : Int32, v = some (.int y) ∧ Q2_sheet x1 x2 x3 y h h2) := by
  refine cap_of (d := 1) (M := mX12_sheet) rfl (Nat.le_of_ble_eq_true rfl) ?_
  show EvP im_K0 1 mX12_sheet (0, [(0, .ref 164), (1, .int x1), (2, .int x2), (3, .int x3)], [], h) _
  have f0 : fr F_X12_sheet h h := fr_rf
  refine te_iload_n (p2 := 1) rfl rfl rfl ?_
  refine te_iconst (p2 := 2) (x := 0) rfl rfl (by decide) ?_
  refine te_iconst (p2 := 3) (x := 3) rfl rfl (by decide) ?_
  refine cS_pI (p2 := 6) rfl rfl rfl rfl (t_X12_in (n := x1) (a := 0) (b := 3) hI ) (by decide) (fun y1 r1 => ?_)
  rcases r1 with ⟨w1, c1⟩ | ⟨w1, c1⟩
  · subst w1
    have cc1_1 := (show Int32.toInt 0 = 0 from rfl)
    have cc1_2 := (show Int32.toInt 3 = 3 from rfl)
    refine tz_eq (p2 := 9) rfl rfl (show Int32.toInt 1 = 1 from rfl) (fun c2 => absurd c2 (by omega)) (fun c2 => ?_)
    refine te_iload_n (p2 := 10) rfl rfl rfl ?_
    refine te_iconst (p2 := 11) (x := (-1)) rfl rfl (by decide) ?_
    refine te_iconst (p2 := 12) (x := 2) rfl rfl (by decide) ?_
    refine cS_pI (p2 := 15) rfl rfl rfl rfl (t_X12_in (n := x2) (a := (-1)) (b := 2) hI ) (by decide) (fun y3 r3 => ?_)
    rcases r3 with ⟨w3, c3⟩ | ⟨w3, c3⟩
    · subst w3
      have cc3_1 := (show Int32.toInt (-1) = (-1) from rfl)
      have cc3_2 := (show Int32.toInt 2 = 2 from rfl)
      refine tz_eq (p2 := 18) rfl rfl (show Int32.toInt 1 = 1 from rfl) (fun c4 => absurd c4 (by omega)) (fun c4 => ?_)
      refine te_iload_n (p2 := 19) rfl rfl rfl ?_
      refine te_iconst (p2 := 20) (x := (-1)) rfl rfl (by decide) ?_
      refine tb_eq (p2 := 23) rfl rfl rfl (show Int32.toInt (-1) = (-1) from rfl) (fun c5 => ?_) (fun c5 => ?_)
      · refine te_iload_n (p2 := 33) rfl rfl rfl ?_
        refine te_iconst (p2 := 34) (x := (-1)) rfl rfl (by decide) ?_
        refine tb_eq (p2 := 37) rfl rfl rfl (show Int32.toInt (-1) = (-1) from rfl) (fun c6 => ?_) (fun c6 => absurd c6 (by omega))
        refine te_aload_n (p2 := 45) rfl rfl rfl ?_
        refine tg_r (p2 := 48) (i := 148) (r := 208) rfl rfl hI rfl rfl rfl ?_
        refine te_iload_n (p2 := 49) rfl rfl rfl ?_
        refine te_iload_n (p2 := 50) rfl rfl rfl ?_
        refine ts_i (p2 := 51) (i := 192) (n := 4) rfl rfl hI rfl rfl rfl rfl (by omega) (by omega) (by omega) (by omega) (by omega) rfl (fun h7 I7 u7 => ?_)
        have f7 := fr_st (F := F_X12_sheet) 0 f0 u7 rfl (by omega) (by omega)
        refine te_aload_n (p2 := 52) rfl rfl rfl ?_
        refine tg_r (p2 := 55) (i := 148) (r := 209) rfl rfl I7 rfl rfl rfl ?_
        refine te_iload_n (p2 := 56) rfl rfl rfl ?_
        refine te_iload_n (p2 := 57) rfl rfl rfl ?_
        refine te_iconst (p2 := 58) (x := (-1)) rfl rfl (by decide) ?_
        refine tb_ne (p2 := 61) rfl rfl rfl (show Int32.toInt (-1) = (-1) from rfl) (fun c8 => absurd c8 (by omega)) (fun c8 => ?_)
        refine te_iconst (p2 := 62) (x := 0) rfl rfl (by decide) ?_
        refine te_goto rfl ?_
        refine ts_i (p2 := 67) (i := 193) (n := 4) rfl rfl I7 rfl rfl rfl rfl (by omega) (by omega) (by decide) (by decide) (by decide) rfl (fun h9 I9 u9 => ?_)
        have f9 := fr_st (F := F_X12_sheet) 1 f7 u9 rfl (by omega) (by omega)
        refine te_iconst (p2 := 68) (x := 0) rfl rfl (by decide) ?_
        refine te_istore (p2 := 70) (lv2 := [(4, .int 0), (0, .ref 164), (1, .int x1), (2, .int x2), (3, .int x3)]) rfl rfl (by decide) rfl ?_
        have lp10 : ∀ (n10 : Nat) (v10_4 : Int32) (h10 : im_H), tI h10 → fr F_X12_sheet h h10 → 0 ≤ v10_4.toInt → v10_4.toInt ≤ 40 → (∀ s, rd h10 192 s = rd h9 192 s ∧ rd h10 193 s = rd h9 193 s) → (∀ i : Nat, (i : Int) < v10_4.toInt → rd h10 194 (40 * x1.toInt.toNat + i) = some (.int 0)) → (∀ i : Nat, (i < 40 * x1.toInt.toNat ∨ 40 * x1.toInt.toNat + 40 ≤ i) → rd h10 194 i = rd h9 194 i) → 40 - v10_4.toInt < (n10 : Int) → EvP im_K0 1 mX12_sheet (70, [(0, .ref 164), (1, .int x1), (2, .int x2), (3, .int x3), (4, .int v10_4)], [], h10) (fun v h2 => tI h2 ∧ fr F_X12_sheet h h2 ∧ ∃ y : Int32, v = some (.int y) ∧ Q2_sheet x1 x2 x3 y h h2) := by
          intro n10
          induction n10 with
          | zero => intro v10_4 h10 I10 f10 a10_4 b10_4 w10_0 w10_1 w10_2 m10; exfalso; omega
          | succ n10 ih10 =>
            intro v10_4 h10 I10 f10 a10_4 b10_4 w10_0 w10_1 w10_2 m10
            refine te_iload (p2 := 72) rfl rfl rfl ?_
            refine te_bipush (p2 := 74) (x := 40) rfl rfl (by decide) ?_
            refine tb_ge (p2 := 77) rfl rfl rfl (show Int32.toInt 40 = 40 from rfl) (fun c11 => ?_) (fun c11 => ?_)
            · refine te_iconst (p2 := 97) (x := 1) rfl rfl (by decide) ?_
              exact te_iret rfl rfl ⟨I10, f10, _, rfl, (fun _ => (w10_0 x1.toInt.toNat).1.trans ((u9.2 _ _ (Or.inl (by decide))).trans u7.1)), (fun _ hm => absurd (by omega) hm), (fun s hs hn => by (have hq : s ≠ x1.toInt.toNat := hn.resolve_right (fun hk => hk (by unfold okS; omega))); exact ⟨(w10_0 s).1.trans ((u9.2 _ _ (Or.inl (by decide))).trans (u7.2 _ _ (Or.inr hq))), (w10_0 s).2.trans ((u9.2 _ _ (Or.inr hq)).trans (u7.2 _ _ (Or.inl (by decide))))⟩), (fun _ i hi => w10_1 i (by omega)), (fun s i hs hi hn => by (have hq : s ≠ x1.toInt.toNat := hn.resolve_right (fun hk => hk (by unfold okS; omega))); exact (w10_2 _ (by omega)).trans ((u9.2 _ _ (Or.inl (by decide))).trans (u7.2 _ _ (Or.inl (by decide)))))⟩
            · refine te_aload_n (p2 := 78) rfl rfl rfl ?_
              refine tg_r (p2 := 81) (i := 148) (r := 210) rfl rfl I10 rfl rfl rfl ?_
              refine te_bipush (p2 := 83) (x := 40) rfl rfl (by decide) ?_
              refine te_iload_n (p2 := 84) rfl rfl rfl ?_
              refine ar_mul (p2 := 85) rfl rfl (show Int32.toInt 40 = 40 from rfl) rfl (by omega) (by omega) (fun z12 e12 f12 => ?_)
              refine te_iload (p2 := 87) rfl rfl rfl ?_
              refine ar_add (p2 := 88) rfl rfl rfl rfl (by omega) (by omega) (fun z13 e13 f13 => ?_)
              refine te_iconst (p2 := 89) (x := 0) rfl rfl (by decide) ?_
              refine ts_i (p2 := 90) (i := 194) (n := 160) rfl rfl I10 rfl rfl rfl rfl (by omega) (by omega) (i32_lo _) (i32_hi _) (i32_ho _) rfl (fun h14 I14 u14 => ?_)
              have f14 := fr_st (F := F_X12_sheet) 2 f10 u14 rfl (by omega) (by omega)
              refine ar_inc (p2 := 93) (x := v10_4) rfl rfl (by decide) rfl (by decide) rfl (by omega) (by omega) (fun z15 e15 f15 => ?_)
              show EvP _ _ _ (93, [(4, .int z15), (0, .ref 164), (1, .int x1), (2, .int x2), (3, .int x3)], [], h14) _
              refine te_goto rfl ?_
              refine te_lv [(0, .ref 164), (1, .int x1), (2, .int x2), (3, .int x3), (4, .int z15)] rfl rfl ⟨rfl, rfl, rfl, rfl, rfl, trivial⟩ ?_
              exact ih10 z15 h14 I14 f14 (by omega) (by omega) (fun s => ⟨(u14.2 _ _ (Or.inl (by decide))).trans (w10_0 s).1, (u14.2 _ _ (Or.inl (by decide))).trans (w10_0 s).2⟩) (fun i hi => by (by_cases hc : 40 * x1.toInt.toNat + i = z13.toInt.toNat); (· rw [hc]; exact u14.1); (· exact (u14.2 _ _ (Or.inr hc)).trans (w10_1 i (by omega)))) (fun i hi => (u14.2 _ _ (Or.inr (by omega))).trans (w10_2 i hi)) (by omega)
        refine te_lv [(0, .ref 164), (1, .int x1), (2, .int x2), (3, .int x3), (4, .int 0)] rfl rfl ⟨rfl, rfl, rfl, rfl, rfl, trivial⟩ ?_
        exact lp10 41 0 h9 I9 f9 (by decide) (by decide) (fun s => ⟨rfl, rfl⟩) (fun i hi => by exfalso; have := (show Int32.toInt 0 = 0 from rfl); omega) (fun i hi => rfl) (by have cc0 := (show Int32.toInt 0 = 0 from rfl); omega)
      · refine te_iload_n (p2 := 24) rfl rfl rfl ?_
        refine te_bipush (p2 := 26) (x := 40) rfl rfl (by decide) ?_
        refine tb_le (p2 := 29) rfl rfl rfl (show Int32.toInt 40 = 40 from rfl) (fun c16 => ?_) (fun c16 => ?_)
        · refine te_iload_n (p2 := 33) rfl rfl rfl ?_
          refine te_iconst (p2 := 34) (x := (-1)) rfl rfl (by decide) ?_
          refine tb_eq (p2 := 37) rfl rfl rfl (show Int32.toInt (-1) = (-1) from rfl) (fun c17 => absurd c17 (by omega)) (fun c17 => ?_)
          refine te_iload_n (p2 := 38) rfl rfl rfl ?_
          refine tz_ge (p2 := 41) rfl rfl rfl (fun c18 => ?_) (fun c18 => ?_)
          · refine te_aload_n (p2 := 45) rfl rfl rfl ?_
            refine tg_r (p2 := 48) (i := 148) (r := 208) rfl rfl hI rfl rfl rfl ?_
            refine te_iload_n (p2 := 49) rfl rfl rfl ?_
            refine te_iload_n (p2 := 50) rfl rfl rfl ?_
            refine ts_i (p2 := 51) (i := 192) (n := 4) rfl rfl hI rfl rfl rfl rfl (by omega) (by omega) (by omega) (by omega) (by omega) rfl (fun h19 I19 u19 => ?_)
            have f19 := fr_st (F := F_X12_sheet) 0 f0 u19 rfl (by omega) (by omega)
            refine te_aload_n (p2 := 52) rfl rfl rfl ?_
            refine tg_r (p2 := 55) (i := 148) (r := 209) rfl rfl I19 rfl rfl rfl ?_
            refine te_iload_n (p2 := 56) rfl rfl rfl ?_
            refine te_iload_n (p2 := 57) rfl rfl rfl ?_
            refine te_iconst (p2 := 58) (x := (-1)) rfl rfl (by decide) ?_
            refine tb_ne (p2 := 61) rfl rfl rfl (show Int32.toInt (-1) = (-1) from rfl) (fun c20 => ?_) (fun c20 => absurd c20 (by omega))
            refine te_iload_n (p2 := 66) rfl rfl rfl ?_
            refine ts_i (p2 := 67) (i := 193) (n := 4) rfl rfl I19 rfl rfl rfl rfl (by omega) (by omega) (by omega) (by omega) (by omega) rfl (fun h21 I21 u21 => ?_)
            have f21 := fr_st (F := F_X12_sheet) 1 f19 u21 rfl (by omega) (by omega)
            refine te_iconst (p2 := 68) (x := 0) rfl rfl (by decide) ?_
            refine te_istore (p2 := 70) (lv2 := [(4, .int 0), (0, .ref 164), (1, .int x1), (2, .int x2), (3, .int x3)]) rfl rfl (by decide) rfl ?_
            have lp22 : ∀ (n22 : Nat) (v22_4 : Int32) (h22 : im_H), tI h22 → fr F_X12_sheet h h22 → 0 ≤ v22_4.toInt → v22_4.toInt ≤ 40 → (∀ s, rd h22 192 s = rd h21 192 s ∧ rd h22 193 s = rd h21 193 s) → (∀ i : Nat, (i : Int) < v22_4.toInt → rd h22 194 (40 * x1.toInt.toNat + i) = some (.int 0)) → (∀ i : Nat, (i < 40 * x1.toInt.toNat ∨ 40 * x1.toInt.toNat + 40 ≤ i) → rd h22 194 i = rd h21 194 i) → 40 - v22_4.toInt < (n22 : Int) → EvP im_K0 1 mX12_sheet (70, [(0, .ref 164), (1, .int x1), (2, .int x2), (3, .int x3), (4, .int v22_4)], [], h22) (fun v h2 => tI h2 ∧ fr F_X12_sheet h h2 ∧ ∃ y : Int32, v = some (.int y) ∧ Q2_sheet x1 x2 x3 y h h2) := by
              intro n22
              induction n22 with
              | zero => intro v22_4 h22 I22 f22 a22_4 b22_4 w22_0 w22_1 w22_2 m22; exfalso; omega
              | succ n22 ih22 =>
                intro v22_4 h22 I22 f22 a22_4 b22_4 w22_0 w22_1 w22_2 m22
                refine te_iload (p2 := 72) rfl rfl rfl ?_
                refine te_bipush (p2 := 74) (x := 40) rfl rfl (by decide) ?_
                refine tb_ge (p2 := 77) rfl rfl rfl (show Int32.toInt 40 = 40 from rfl) (fun c23 => ?_) (fun c23 => ?_)
                · refine te_iconst (p2 := 97) (x := 1) rfl rfl (by decide) ?_
                  exact te_iret rfl rfl ⟨I22, f22, _, rfl, (fun _ => (w22_0 x1.toInt.toNat).1.trans ((u21.2 _ _ (Or.inl (by decide))).trans u19.1)), (fun _ hm => (w22_0 x1.toInt.toNat).2.trans u21.1), (fun s hs hn => by (have hq : s ≠ x1.toInt.toNat := hn.resolve_right (fun hk => hk (by unfold okS; omega))); exact ⟨(w22_0 s).1.trans ((u21.2 _ _ (Or.inl (by decide))).trans (u19.2 _ _ (Or.inr hq))), (w22_0 s).2.trans ((u21.2 _ _ (Or.inr hq)).trans (u19.2 _ _ (Or.inl (by decide))))⟩), (fun _ i hi => w22_1 i (by omega)), (fun s i hs hi hn => by (have hq : s ≠ x1.toInt.toNat := hn.resolve_right (fun hk => hk (by unfold okS; omega))); exact (w22_2 _ (by omega)).trans ((u21.2 _ _ (Or.inl (by decide))).trans (u19.2 _ _ (Or.inl (by decide)))))⟩
                · refine te_aload_n (p2 := 78) rfl rfl rfl ?_
                  refine tg_r (p2 := 81) (i := 148) (r := 210) rfl rfl I22 rfl rfl rfl ?_
                  refine te_bipush (p2 := 83) (x := 40) rfl rfl (by decide) ?_
                  refine te_iload_n (p2 := 84) rfl rfl rfl ?_
                  refine ar_mul (p2 := 85) rfl rfl (show Int32.toInt 40 = 40 from rfl) rfl (by omega) (by omega) (fun z24 e24 f24 => ?_)
                  refine te_iload (p2 := 87) rfl rfl rfl ?_
                  refine ar_add (p2 := 88) rfl rfl rfl rfl (by omega) (by omega) (fun z25 e25 f25 => ?_)
                  refine te_iconst (p2 := 89) (x := 0) rfl rfl (by decide) ?_
                  refine ts_i (p2 := 90) (i := 194) (n := 160) rfl rfl I22 rfl rfl rfl rfl (by omega) (by omega) (i32_lo _) (i32_hi _) (i32_ho _) rfl (fun h26 I26 u26 => ?_)
                  have f26 := fr_st (F := F_X12_sheet) 2 f22 u26 rfl (by omega) (by omega)
                  refine ar_inc (p2 := 93) (x := v22_4) rfl rfl (by decide) rfl (by decide) rfl (by omega) (by omega) (fun z27 e27 f27 => ?_)
                  show EvP _ _ _ (93, [(4, .int z27), (0, .ref 164), (1, .int x1), (2, .int x2), (3, .int x3)], [], h26) _
                  refine te_goto rfl ?_
                  refine te_lv [(0, .ref 164), (1, .int x1), (2, .int x2), (3, .int x3), (4, .int z27)] rfl rfl ⟨rfl, rfl, rfl, rfl, rfl, trivial⟩ ?_
                  exact ih22 z27 h26 I26 f26 (by omega) (by omega) (fun s => ⟨(u26.2 _ _ (Or.inl (by decide))).trans (w22_0 s).1, (u26.2 _ _ (Or.inl (by decide))).trans (w22_0 s).2⟩) (fun i hi => by (by_cases hc : 40 * x1.toInt.toNat + i = z25.toInt.toNat); (· rw [hc]; exact u26.1); (· exact (u26.2 _ _ (Or.inr hc)).trans (w22_1 i (by omega)))) (fun i hi => (u26.2 _ _ (Or.inr (by omega))).trans (w22_2 i hi)) (by omega)
            refine te_lv [(0, .ref 164), (1, .int x1), (2, .int x2), (3, .int x3), (4, .int 0)] rfl rfl ⟨rfl, rfl, rfl, rfl, rfl, trivial⟩ ?_
            exact lp22 41 0 h21 I21 f21 (by decide) (by decide) (fun s => ⟨rfl, rfl⟩) (fun i hi => by exfalso; have := (show Int32.toInt 0 = 0 from rfl); omega) (fun i hi => rfl) (by have cc0 := (show Int32.toInt 0 = 0 from rfl); omega)
          · refine te_bipush (p2 := 43) (x := (-14)) rfl rfl (by decide) ?_
            exact te_iret rfl rfl ⟨hI, f0, _, rfl, (fun ho => absurd ho (by unfold okS; omega)), (fun ho => absurd ho (by unfold okS; omega)), (fun s hs hn => ⟨rfl, rfl⟩), (fun ho => absurd ho (by unfold okS; omega)), (fun s i hs hi hn => rfl)⟩
        · refine te_bipush (p2 := 31) (x := (-2)) rfl rfl (by decide) ?_
          exact te_iret rfl rfl ⟨hI, f0, _, rfl, (fun ho => absurd ho (by unfold okS; omega)), (fun ho => absurd ho (by unfold okS; omega)), (fun s hs hn => ⟨rfl, rfl⟩), (fun ho => absurd ho (by unfold okS; omega)), (fun s i hs hi hn => rfl)⟩
    · subst w3
      have cc3_1 := (show Int32.toInt (-1) = (-1) from rfl)
      have cc3_2 := (show Int32.toInt 2 = 2 from rfl)
      refine tz_eq (p2 := 18) rfl rfl (show Int32.toInt 0 = 0 from rfl) (fun c28 => ?_) (fun c28 => absurd c28 (by omega))
      refine te_bipush (p2 := 31) (x := (-2)) rfl rfl (by decide) ?_
      exact te_iret rfl rfl ⟨hI, f0, _, rfl, (fun ho => absurd ho (by unfold okS; omega)), (fun ho => absurd ho (by unfold okS; omega)), (fun s hs hn => ⟨rfl, rfl⟩), (fun ho => absurd ho (by unfold okS; omega)), (fun s i hs hi hn => rfl)⟩
  · subst w1
    have cc1_1 := (show Int32.toInt 0 = 0 from rfl)
    have cc1_2 := (show Int32.toInt 3 = 3 from rfl)
    refine tz_eq (p2 := 9) rfl rfl (show Int32.toInt 0 = 0 from rfl) (fun c29 => ?_) (fun c29 => absurd c29 (by omega))
    refine te_bipush (p2 := 31) (x := (-2)) rfl rfl (by decide) ?_
    exact te_iret rfl rfl ⟨hI, f0, _, rfl, (fun ho => absurd ho (by unfold okS; omega)), (fun ho => absurd ho (by unfold okS; omega)), (fun s hs hn => ⟨rfl, rfl⟩), (fun ho => absurd ho (by unfold okS; omega)), (fun s i hs hi hn => rfl)⟩
set_option maxRecDepth 20000 in
set_option maxHeartbeats 4000000 in
theorem c_X8_isMissing {s : Nat} {h : im_H} (hI : tI h) (q_s : s = 140 ∨ s = 142 ∨ s = 144 ∨ s = 146) : CaP 1 41 [.ref (16 + s)] h (pI h (fun y => ∃ q : Int32, rd h s 0 = some (.int q) ∧ ((y = 1 ∧ q.toInt = -1) ∨ (y = 0 ∧ ¬ q.toInt = -1)))) := by
  refine cap_of (d := 0) (M := mX8_isMissing) rfl (Nat.le_of_ble_eq_true rfl) ?_
  show EvP im_K0 0 mX8_isMissing (0, [(0, .ref (16 + s))], [], h) _
  refine te_aload_n (p2 := 1) rfl rfl rfl ?_
  refine tg_i (p2 := 4) (i := s) rfl rfl hI rfl (by rcases q_s with rfl | rfl | rfl | rfl <;> rfl) (by rcases q_s with rfl | rfl | rfl | rfl <;> rfl) (fun y1 a1 b1 e1 => ?_)
  refine te_iconst (p2 := 5) (x := (-1)) rfl rfl (by decide) ?_
  refine tb_ne (p2 := 8) rfl rfl rfl (show Int32.toInt (-1) = (-1) from rfl) (fun c2 => ?_) (fun c2 => ?_)
  · refine te_iconst (p2 := 13) (x := 0) rfl rfl (by decide) ?_
    exact te_zret rfl rfl (by decide) ⟨rfl, _, rfl, y1, e1, Or.inr ⟨rfl, by omega⟩⟩
  · refine te_iconst (p2 := 9) (x := 1) rfl rfl (by decide) ?_
    refine te_goto rfl ?_
    exact te_zret rfl rfl (by decide) ⟨rfl, _, rfl, y1, e1, Or.inl ⟨rfl, by omega⟩⟩
def clT (x2 q z : Int32) : Int32 := if q.toInt = -1 then -11 else if 0 ≤ x2.toInt ∧ x2.toInt < z.toInt then 1 else -12
def nrw (q x3 : Int32) : Int32 := (if q.toInt = 0 then Int8.toInt32 (Int32.toInt8 x3) else if q.toInt = 1 then Int16.toInt32 (Int32.toInt16 x3) else x3)
set_option maxRecDepth 20000 in
set_option maxHeartbeats 4000000 in
theorem c_X8_put {s : Nat} {i : Int32} {v : Int32} {h : im_H} (hI : tI h) (q_s : s = 140 ∨ s = 142 ∨ s = 144 ∨ s = 146) (p_i0 : 0 ≤ i.toInt) (p_i1 : i.toInt ≤ 39) : CaP 1 42 [.ref (16 + s), .int i, .int v] h (fun r h2 => tI h2 ∧ fr (F_X8_put s) h h2 ∧ r = none ∧ (∀ q : Int32, rd h s 0 = some (.int q) → rd h2 (s + 1) i.toInt.toNat = some (.int (nrw q v))) ∧ (∀ j k, (j ≠ s + 1 ∨ k ≠ i.toInt.toNat) → rd h2 j k = rd h j k)) := by
  refine cap_of (d := 0) (M := mX8_put) rfl (Nat.le_of_ble_eq_true rfl) ?_
  show EvP im_K0 0 mX8_put (0, [(0, .ref (16 + s)), (1, .int i), (2, .int v)], [], h) _
  have f0 : fr (F_X8_put s) h h := fr_rf
  refine te_aload_n (p2 := 1) rfl rfl rfl ?_
  refine tg_r (p2 := 4) (i := s) (r := (16 + (s + 1))) rfl rfl hI rfl (by rcases q_s with rfl | rfl | rfl | rfl <;> rfl) (by rcases q_s with rfl | rfl | rfl | rfl <;> rfl) ?_
  refine te_iload_n (p2 := 5) rfl rfl rfl ?_
  refine te_aload_n (p2 := 6) rfl rfl rfl ?_
  refine tg_i (p2 := 9) (i := s) rfl rfl hI rfl (by rcases q_s with rfl | rfl | rfl | rfl <;> rfl) (by rcases q_s with rfl | rfl | rfl | rfl <;> rfl) (fun y1 a1 b1 e1 => ?_)
  refine tz_ne (p2 := 12) rfl rfl rfl (fun c2 => ?_) (fun c2 => ?_)
  · refine te_aload_n (p2 := 18) rfl rfl rfl ?_
    refine tg_e (p2 := 21) (i := s) (v := .int y1) rfl rfl hI rfl (by rcases q_s with rfl | rfl | rfl | rfl <;> rfl) e1 ?_
    refine te_iconst (p2 := 22) (x := 1) rfl rfl (by decide) ?_
    refine tb_ne (p2 := 25) rfl rfl rfl (show Int32.toInt 1 = 1 from rfl) (fun c3 => ?_) (fun c3 => ?_)
    · refine te_iload_n (p2 := 31) rfl rfl rfl ?_
      refine ts_i (p2 := 32) (i := (s + 1)) (n := 40) rfl rfl hI rfl (by rcases q_s with rfl | rfl | rfl | rfl <;> rfl) (by rcases q_s with rfl | rfl | rfl | rfl <;> rfl) rfl (by omega) (by omega) (i32_lo _) (i32_hi _) (i32_ho _) (by rcases q_s with rfl | rfl | rfl | rfl <;> rfl) (fun h4 I4 u4 => ?_)
      have f4 := fr_st (F := (F_X8_put s)) 0 f0 u4 rfl (by omega) (by omega)
      exact te_vret rfl rfl ⟨I4, f4, rfl, (fun q hq => by (have e_ : q = y1 := int_inj hq e1); rw [e_]; exact u4.1.trans (congrArg (fun t => some (Value.int t)) (show v = nrw y1 v from by (unfold nrw; (repeat' split) <;> first | (exfalso; omega) | rfl | (subst_vars; rfl))))), (fun j k hk => u4.2 _ _ hk)⟩
    · refine te_iload_n (p2 := 26) rfl rfl rfl ?_
      obtain ⟨z5, e5⟩ : ∃ z, (Int16.toInt32 (Int32.toInt16 v)) = z := ⟨_, rfl⟩
      refine te_i2s (p2 := 27) rfl rfl e5 ?_
      refine te_goto rfl ?_
      refine ts_i (p2 := 32) (i := (s + 1)) (n := 40) rfl rfl hI rfl (by rcases q_s with rfl | rfl | rfl | rfl <;> rfl) (by rcases q_s with rfl | rfl | rfl | rfl <;> rfl) rfl (by omega) (by omega) (i32_lo _) (i32_hi _) (i32_ho _) (by rcases q_s with rfl | rfl | rfl | rfl <;> rfl) (fun h6 I6 u6 => ?_)
      have f6 := fr_st (F := (F_X8_put s)) 0 f0 u6 rfl (by omega) (by omega)
      exact te_vret rfl rfl ⟨I6, f6, rfl, (fun q hq => by (have e_ : q = y1 := int_inj hq e1); rw [e_]; exact u6.1.trans (congrArg (fun t => some (Value.int t)) (show z5 = nrw y1 v from by (unfold nrw; (repeat' split) <;> first | (exfalso; omega) | rfl | (subst_vars; rfl))))), (fun j k hk => u6.2 _ _ hk)⟩
  · refine te_iload_n (p2 := 13) rfl rfl rfl ?_
    obtain ⟨z7, e7⟩ : ∃ z, (Int8.toInt32 (Int32.toInt8 v)) = z := ⟨_, rfl⟩
    refine te_i2b (p2 := 14) rfl rfl e7 ?_
    refine te_goto rfl ?_
    refine ts_i (p2 := 32) (i := (s + 1)) (n := 40) rfl rfl hI rfl (by rcases q_s with rfl | rfl | rfl | rfl <;> rfl) (by rcases q_s with rfl | rfl | rfl | rfl <;> rfl) rfl (by omega) (by omega) (i32_lo _) (i32_hi _) (i32_ho _) (by rcases q_s with rfl | rfl | rfl | rfl <;> rfl) (fun h8 I8 u8 => ?_)
    have f8 := fr_st (F := (F_X8_put s)) 0 f0 u8 rfl (by omega) (by omega)
    exact te_vret rfl rfl ⟨I8, f8, rfl, (fun q hq => by (have e_ : q = y1 := int_inj hq e1); rw [e_]; exact u8.1.trans (congrArg (fun t => some (Value.int t)) (show z7 = nrw y1 v from by (unfold nrw; (repeat' split) <;> first | (exfalso; omega) | rfl | (subst_vars; rfl))))), (fun j k hk => u8.2 _ _ hk)⟩
abbrev Q1_cell (x1 x2 x3 : Int32) (y : Int32) (h h2 : im_H) : Prop := ((0 ≤ x1.toInt ∧ x1.toInt ≤ 3 ∧ ∃ q z : Int32, rd h (140 + 2 * x1.toInt.toNat) 0 = some (.int q) ∧ rd h (140 + 2 * x1.toInt.toNat) 1 = some (.int z) ∧ y = clT x2 q z) ∨ (¬ (0 ≤ x1.toInt ∧ x1.toInt ≤ 3) ∧ y = -2)) ∧ (y.toInt = 1 → 0 ≤ x2.toInt ∧ x2.toInt < 40 ∧ ∀ q : Int32, rd h (140 + 2 * x1.toInt.toNat) 0 = some (.int q) → rd h2 (141 + 2 * x1.toInt.toNat) x2.toInt.toNat = some (.int (nrw q x3))) ∧ (∀ s i, s < 4 → (s ≠ x1.toInt.toNat ∨ i ≠ x2.toInt.toNat ∨ y.toInt ≠ 1) → rd h2 (141 + 2 * s) i = rd h (141 + 2 * s) i)
set_option maxRecDepth 20000 in
set_option maxHeartbeats 4000000 in
theorem c_X11_cell {x1 : Int32} {x2 : Int32} {x3 : Int32} {h : im_H} (hI : tI h)  : CaP 3 105 [.ref 16, .int x1, .int x2, .int x3] h (fun v h2 => tI h2 ∧ fr F_X11_cell h h2 ∧ ∃ y : Int32, v = some (.int y) ∧ Q1_cell x1 x2 x3 y h h2) := by
  refine cap_of (d := 2) (M := mX11_cell) rfl (Nat.le_of_ble_eq_true rfl) ?_
  show EvP im_K0 2 mX11_cell (0, [(0, .ref 16), (1, .int x1), (2, .int x2), (3, .int x3)], [], h) _
  have f0 : fr F_X11_cell h h := fr_rf
  refine te_iload_n (p2 := 1) rfl rfl rfl ?_
  refine te_iconst (p2 := 2) (x := 4) rfl rfl (by decide) ?_
  refine cS_pI (p2 := 5) rfl rfl rfl rfl (t_X11_within (n := x1) (b := 4) hI ) (by decide) (fun y1 r1 => ?_)
  rcases r1 with ⟨w1, c1⟩ | ⟨w1, c1⟩
  · subst w1
    have cc1_1 := (show Int32.toInt 4 = 4 from rfl)
    refine tz_ne (p2 := 8) rfl rfl (show Int32.toInt 1 = 1 from rfl) (fun c2 => ?_) (fun c2 => absurd c2 (by omega))
    refine te_aload_n (p2 := 12) rfl rfl rfl ?_
    refine tg_r (p2 := 15) (i := 0) (r := 113) rfl rfl hI rfl rfl rfl ?_
    refine te_iload_n (p2 := 16) rfl rfl rfl ?_
    refine tl_f (p2 := 17) (i := 97) (n := 4) (c0 := 140) (sp := 2) rfl rfl hI rfl rfl (by decide) rq_97 (by omega) (by omega) (fun o3 w3 => ?_)
    have q3 : o3 = 140 ∨ o3 = 142 ∨ o3 = 144 ∨ o3 = 146 := by omega
    refine cV_pI (p2 := 20) (i := o3) rfl rfl rfl rfl hI rfl (by rcases q3 with rfl | rfl | rfl | rfl <;> rfl) rfl (c_X8_isMissing (s := o3) hI q3) (by decide) (fun y4 r4 => ?_)
    obtain ⟨p4, e4, r4⟩ := r4
    rcases r4 with ⟨w4_, c4⟩ | ⟨w4_, c4⟩
    · subst w4_
      refine tz_eq (p2 := 23) rfl rfl (show Int32.toInt 1 = 1 from rfl) (fun c5 => absurd c5 (by omega)) (fun c5 => ?_)
      refine te_bipush (p2 := 25) (x := (-11)) rfl rfl (by decide) ?_
      obtain ⟨v6, e6, y6, w6, a6, b6, _⟩ := hI.2.1 o3 1 (.inl (0, 40, 9999999999)) (by rcases q3 with rfl | rfl | rfl | rfl <;> rfl)
      subst w6
      exact te_iret rfl rfl ⟨hI, f0, _, rfl, Or.inl ⟨by omega, by omega, p4, y6, (by rw [← w3]; exact e4), (by rw [← w3]; exact e6), (by unfold clT; (repeat' split) <;> first | (exfalso; omega) | rfl)⟩, (fun hy => absurd hy (by rw [(show Int32.toInt (-11) = (-11) from rfl)]; decide)), (fun s i hs hn => rfl)⟩
    · subst w4_
      refine tz_eq (p2 := 23) rfl rfl (show Int32.toInt 0 = 0 from rfl) (fun c7 => ?_) (fun c7 => absurd c7 (by omega))
      refine te_iload_n (p2 := 27) rfl rfl rfl ?_
      refine te_aload_n (p2 := 28) rfl rfl rfl ?_
      refine tg_r (p2 := 31) (i := 0) (r := 113) rfl rfl hI rfl rfl rfl ?_
      refine te_iload_n (p2 := 32) rfl rfl rfl ?_
      refine tl_f (p2 := 33) (i := 97) (n := 4) (c0 := 140) (sp := 2) rfl rfl hI rfl rfl (by decide) rq_97 (by omega) (by omega) (fun o8 w8 => ?_)
      have q8 : o8 = 140 ∨ o8 = 142 ∨ o8 = 144 ∨ o8 = 146 := by omega
      refine tg_i (p2 := 36) (i := o8) rfl rfl hI rfl (by rcases q8 with rfl | rfl | rfl | rfl <;> rfl) (by rcases q8 with rfl | rfl | rfl | rfl <;> rfl) (fun y9 a9 b9 e9 => ?_)
      refine cS_pI (p2 := 39) rfl rfl rfl rfl (t_X11_within (n := x2) (b := y9) hI ) (by decide) (fun y10 r10 => ?_)
      rcases r10 with ⟨w10, c10⟩ | ⟨w10, c10⟩
      · subst w10
        refine tz_ne (p2 := 42) rfl rfl (show Int32.toInt 1 = 1 from rfl) (fun c11 => ?_) (fun c11 => absurd c11 (by omega))
        refine te_aload_n (p2 := 46) rfl rfl rfl ?_
        refine tg_r (p2 := 49) (i := 0) (r := 113) rfl rfl hI rfl rfl rfl ?_
        refine te_iload_n (p2 := 50) rfl rfl rfl ?_
        refine tl_f (p2 := 51) (i := 97) (n := 4) (c0 := 140) (sp := 2) rfl rfl hI rfl rfl (by decide) rq_97 (by omega) (by omega) (fun o12 w12 => ?_)
        have q12 : o12 = 140 ∨ o12 = 142 ∨ o12 = 144 ∨ o12 = 146 := by omega
        refine te_iload_n (p2 := 52) rfl rfl rfl ?_
        refine te_iload_n (p2 := 53) rfl rfl rfl ?_
        refine tc_V (p2 := 56) (i := o12) rfl rfl rfl rfl hI rfl (by rcases q12 with rfl | rfl | rfl | rfl <;> rfl) rfl (c_X8_put (s := o12) (i := x2) (v := x3) hI q12 (by omega) (by omega)) (by decide) (fun v13 h13 hq13 => ?_)
        obtain ⟨I13, g13, w13, Z13, Y13⟩ := hq13
        subst w13
        have f13 := fr_tr (F1 := (F_X8_put o12)) (F := F_X11_cell) f0 g13 (by rcases q12 with rfl | rfl | rfl | rfl <;> decide)
        show EvP _ _ _ (56, [(0, .ref 16), (1, .int x1), (2, .int x2), (3, .int x3)], [], h13) _
        refine te_iconst (p2 := 57) (x := 1) rfl rfl (by decide) ?_
        exact te_iret rfl rfl ⟨I13, f13, _, rfl, Or.inl ⟨by omega, by omega, p4, y9, (by rw [← w3]; exact e4), (by rw [← w8]; exact e9), (by unfold clT; (repeat' split) <;> first | (exfalso; omega) | rfl)⟩, (fun _ => ⟨by omega, by omega, fun q hq => by (rw [show 141 + 2 * x1.toInt.toNat = o12 + 1 by omega]; exact Z13 q (by rw [show o12 = 140 + 2 * x1.toInt.toNat by omega]; exact hq))⟩), (fun s i hs hn => Y13 _ _ (by (have h9 : ¬ (Int32.toInt 1 ≠ 1) := (by decide)); omega))⟩
      · subst w10
        refine tz_ne (p2 := 42) rfl rfl (show Int32.toInt 0 = 0 from rfl) (fun c14 => absurd c14 (by omega)) (fun c14 => ?_)
        refine te_bipush (p2 := 44) (x := (-12)) rfl rfl (by decide) ?_
        exact te_iret rfl rfl ⟨hI, f0, _, rfl, Or.inl ⟨by omega, by omega, p4, y9, (by rw [← w3]; exact e4), (by rw [← w8]; exact e9), (by unfold clT; (repeat' split) <;> first | (exfalso; omega) | rfl)⟩, (fun hy => absurd hy (by rw [(show Int32.toInt (-12) = (-12) from rfl)]; decide)), (fun s i hs hn => rfl)⟩
  · subst w1
    have cc1_1 := (show Int32.toInt 4 = 4 from rfl)
    refine tz_ne (p2 := 8) rfl rfl (show Int32.toInt 0 = 0 from rfl) (fun c15 => absurd c15 (by omega)) (fun c15 => ?_)
    refine te_bipush (p2 := 10) (x := (-2)) rfl rfl (by decide) ?_
    exact te_iret rfl rfl ⟨hI, f0, _, rfl, Or.inr ⟨by omega, rfl⟩, (fun hy => absurd hy (by rw [(show Int32.toInt (-2) = (-2) from rfl)]; decide)), (fun s i hs hn => rfl)⟩
abbrev Q2_cell (x1 x2 x3 : Int32) (y : Int32) (h h2 : im_H) : Prop := ((0 ≤ x1.toInt ∧ x1.toInt ≤ 3 ∧ ∃ q z : Int32, rd h 192 x1.toInt.toNat = some (.int q) ∧ rd h 193 x1.toInt.toNat = some (.int z) ∧ y = clT x2 q z) ∨ (¬ (0 ≤ x1.toInt ∧ x1.toInt ≤ 3) ∧ y = -2)) ∧ (y.toInt = 1 → 0 ≤ x2.toInt ∧ x2.toInt < 40 ∧ ∀ q : Int32, rd h 192 x1.toInt.toNat = some (.int q) → rd h2 194 (40 * x1.toInt.toNat + x2.toInt.toNat) = some (.int (nrw q x3))) ∧ (∀ s i, s < 4 → i < 40 → (s ≠ x1.toInt.toNat ∨ i ≠ x2.toInt.toNat ∨ y.toInt ≠ 1) → rd h2 194 (40 * s + i) = rd h 194 (40 * s + i))
set_option maxRecDepth 20000 in
set_option maxHeartbeats 4000000 in
theorem c_X12_cell {x1 : Int32} {x2 : Int32} {x3 : Int32} {h : im_H} (hI : tI h)  : CaP 3 192 [.ref 164, .int x1, .int x2, .int x3] h (fun v h2 => tI h2 ∧ fr F_X12_cell h h2 ∧ ∃ y : Int32, v = some (.int y) ∧ Q2_cell x1 x2 x3 y h h2) := by
  refine cap_of (d := 2) (M := mX12_cell) rfl (Nat.le_of_ble_eq_true rfl) ?_
  show EvP im_K0 2 mX12_cell (0, [(0, .ref 164), (1, .int x1), (2, .int x2), (3, .int x3)], [], h) _
  have f0 : fr F_X12_cell h h := fr_rf
  refine te_iload_n (p2 := 1) rfl rfl rfl ?_
  refine te_iconst (p2 := 2) (x := 0) rfl rfl (by decide) ?_
  refine te_iconst (p2 := 3) (x := 3) rfl rfl (by decide) ?_
  refine cS_pI (p2 := 6) rfl rfl rfl rfl (t_X12_in (n := x1) (a := 0) (b := 3) hI ) (by decide) (fun y1 r1 => ?_)
  rcases r1 with ⟨w1, c1⟩ | ⟨w1, c1⟩
  · subst w1
    have cc1_1 := (show Int32.toInt 0 = 0 from rfl)
    have cc1_2 := (show Int32.toInt 3 = 3 from rfl)
    refine tz_ne (p2 := 9) rfl rfl (show Int32.toInt 1 = 1 from rfl) (fun c2 => ?_) (fun c2 => absurd c2 (by omega))
    refine te_aload_n (p2 := 13) rfl rfl rfl ?_
    refine tg_r (p2 := 16) (i := 148) (r := 208) rfl rfl hI rfl rfl rfl ?_
    refine te_iload_n (p2 := 17) rfl rfl rfl ?_
    refine tl_i (p2 := 18) (i := 192) (n := 4) rfl rfl hI rfl rfl rfl rfl (by omega) (by omega) (fun y3 a3 b3 g3 e3 => ?_)
    refine te_iconst (p2 := 19) (x := (-1)) rfl rfl (by decide) ?_
    refine tb_ne (p2 := 22) rfl rfl rfl (show Int32.toInt (-1) = (-1) from rfl) (fun c4 => ?_) (fun c4 => ?_)
    · refine te_iload_n (p2 := 26) rfl rfl rfl ?_
      refine te_iconst (p2 := 27) (x := 0) rfl rfl (by decide) ?_
      refine te_aload_n (p2 := 28) rfl rfl rfl ?_
      refine tg_r (p2 := 31) (i := 148) (r := 209) rfl rfl hI rfl rfl rfl ?_
      refine te_iload_n (p2 := 32) rfl rfl rfl ?_
      refine tl_i (p2 := 33) (i := 193) (n := 4) rfl rfl hI rfl rfl rfl rfl (by omega) (by omega) (fun y5 a5 b5 g5 e5 => ?_)
      refine te_iconst (p2 := 34) (x := 1) rfl rfl (by decide) ?_
      refine ar_sub (p2 := 35) rfl rfl rfl (show Int32.toInt 1 = 1 from rfl) (by omega) (by omega) (fun z6 e6 f6 => ?_)
      refine cS_pI (p2 := 38) rfl rfl rfl rfl (t_X12_in (n := x2) (a := 0) (b := z6) hI ) (by decide) (fun y7 r7 => ?_)
      rcases r7 with ⟨w7, c7⟩ | ⟨w7, c7⟩
      · subst w7
        have cc7_1 := (show Int32.toInt 0 = 0 from rfl)
        refine tz_ne (p2 := 41) rfl rfl (show Int32.toInt 1 = 1 from rfl) (fun c8 => ?_) (fun c8 => absurd c8 (by omega))
        refine te_aload_n (p2 := 45) rfl rfl rfl ?_
        refine tg_r (p2 := 48) (i := 148) (r := 210) rfl rfl hI rfl rfl rfl ?_
        refine te_bipush (p2 := 50) (x := 40) rfl rfl (by decide) ?_
        refine te_iload_n (p2 := 51) rfl rfl rfl ?_
        refine ar_mul (p2 := 52) rfl rfl (show Int32.toInt 40 = 40 from rfl) rfl (by omega) (by omega) (fun z9 e9 f9 => ?_)
        refine te_iload_n (p2 := 53) rfl rfl rfl ?_
        refine ar_add (p2 := 54) rfl rfl rfl rfl (by omega) (by omega) (fun z10 e10 f10 => ?_)
        refine te_aload_n (p2 := 55) rfl rfl rfl ?_
        refine tg_r (p2 := 58) (i := 148) (r := 208) rfl rfl hI rfl rfl rfl ?_
        refine te_iload_n (p2 := 59) rfl rfl rfl ?_
        refine tl_e (p2 := 60) (i := 192) (n := 4) (t := 0) (Or.inl rfl) rfl rfl hI rfl rfl (by omega) (by omega) e3 ?_
        refine tz_ne (p2 := 63) rfl rfl rfl (fun c12 => ?_) (fun c12 => ?_)
        · refine te_aload_n (p2 := 69) rfl rfl rfl ?_
          refine tg_r (p2 := 72) (i := 148) (r := 208) rfl rfl hI rfl rfl rfl ?_
          refine te_iload_n (p2 := 73) rfl rfl rfl ?_
          refine tl_e (p2 := 74) (i := 192) (n := 4) (t := 0) (Or.inl rfl) rfl rfl hI rfl rfl (by omega) (by omega) e3 ?_
          refine te_iconst (p2 := 75) (x := 1) rfl rfl (by decide) ?_
          refine tb_ne (p2 := 78) rfl rfl rfl (show Int32.toInt 1 = 1 from rfl) (fun c14 => ?_) (fun c14 => ?_)
          · refine te_iload_n (p2 := 84) rfl rfl rfl ?_
            refine ts_i (p2 := 85) (i := 194) (n := 160) rfl rfl hI rfl rfl rfl rfl (by omega) (by omega) (i32_lo _) (i32_hi _) (i32_ho _) rfl (fun h15 I15 u15 => ?_)
            have f15 := fr_st (F := F_X12_cell) 0 f0 u15 rfl (by omega) (by omega)
            refine te_iconst (p2 := 86) (x := 1) rfl rfl (by decide) ?_
            exact te_iret rfl rfl ⟨I15, f15, _, rfl, Or.inl ⟨by omega, by omega, y3, y5, e3, e5, (by unfold clT; (repeat' split) <;> first | (exfalso; omega) | rfl)⟩, (fun _ => ⟨by omega, by omega, fun q hq => by (have e_ : q = y3 := int_inj hq e3); rw [e_, show 40 * x1.toInt.toNat + x2.toInt.toNat = z10.toInt.toNat by omega]; exact u15.1.trans (congrArg (fun t => some (Value.int t)) (show x3 = nrw y3 x3 from by (unfold nrw; (repeat' split) <;> first | (exfalso; omega) | rfl | (subst_vars; rfl))))⟩), (fun s i hs hi hn => u15.2 _ _ (Or.inr (by (have h9 : ¬ (Int32.toInt 1 ≠ 1) := (by decide)); omega)))⟩
          · refine te_iload_n (p2 := 79) rfl rfl rfl ?_
            obtain ⟨z16, e16⟩ : ∃ z, (Int16.toInt32 (Int32.toInt16 x3)) = z := ⟨_, rfl⟩
            refine te_i2s (p2 := 80) rfl rfl e16 ?_
            refine te_goto rfl ?_
            refine ts_i (p2 := 85) (i := 194) (n := 160) rfl rfl hI rfl rfl rfl rfl (by omega) (by omega) (i32_lo _) (i32_hi _) (i32_ho _) rfl (fun h17 I17 u17 => ?_)
            have f17 := fr_st (F := F_X12_cell) 0 f0 u17 rfl (by omega) (by omega)
            refine te_iconst (p2 := 86) (x := 1) rfl rfl (by decide) ?_
            exact te_iret rfl rfl ⟨I17, f17, _, rfl, Or.inl ⟨by omega, by omega, y3, y5, e3, e5, (by unfold clT; (repeat' split) <;> first | (exfalso; omega) | rfl)⟩, (fun _ => ⟨by omega, by omega, fun q hq => by (have e_ : q = y3 := int_inj hq e3); rw [e_, show 40 * x1.toInt.toNat + x2.toInt.toNat = z10.toInt.toNat by omega]; exact u17.1.trans (congrArg (fun t => some (Value.int t)) (show z16 = nrw y3 x3 from by (unfold nrw; (repeat' split) <;> first | (exfalso; omega) | rfl | (subst_vars; rfl))))⟩), (fun s i hs hi hn => u17.2 _ _ (Or.inr (by (have h9 : ¬ (Int32.toInt 1 ≠ 1) := (by decide)); omega)))⟩
        · refine te_iload_n (p2 := 64) rfl rfl rfl ?_
          obtain ⟨z18, e18⟩ : ∃ z, (Int8.toInt32 (Int32.toInt8 x3)) = z := ⟨_, rfl⟩
          refine te_i2b (p2 := 65) rfl rfl e18 ?_
          refine te_goto rfl ?_
          refine ts_i (p2 := 85) (i := 194) (n := 160) rfl rfl hI rfl rfl rfl rfl (by omega) (by omega) (i32_lo _) (i32_hi _) (i32_ho _) rfl (fun h19 I19 u19 => ?_)
          have f19 := fr_st (F := F_X12_cell) 0 f0 u19 rfl (by omega) (by omega)
          refine te_iconst (p2 := 86) (x := 1) rfl rfl (by decide) ?_
          exact te_iret rfl rfl ⟨I19, f19, _, rfl, Or.inl ⟨by omega, by omega, y3, y5, e3, e5, (by unfold clT; (repeat' split) <;> first | (exfalso; omega) | rfl)⟩, (fun _ => ⟨by omega, by omega, fun q hq => by (have e_ : q = y3 := int_inj hq e3); rw [e_, show 40 * x1.toInt.toNat + x2.toInt.toNat = z10.toInt.toNat by omega]; exact u19.1.trans (congrArg (fun t => some (Value.int t)) (show z18 = nrw y3 x3 from by (unfold nrw; (repeat' split) <;> first | (exfalso; omega) | rfl | (subst_vars; rfl))))⟩), (fun s i hs hi hn => u19.2 _ _ (Or.inr (by (have h9 : ¬ (Int32.toInt 1 ≠ 1) := (by decide)); omega)))⟩
      · subst w7
        have cc7_1 := (show Int32.toInt 0 = 0 from rfl)
        refine tz_ne (p2 := 41) rfl rfl (show Int32.toInt 0 = 0 from rfl) (fun c20 => absurd c20 (by omega)) (fun c20 => ?_)
        refine te_bipush (p2 := 43) (x := (-12)) rfl rfl (by decide) ?_
        exact te_iret rfl rfl ⟨hI, f0, _, rfl, Or.inl ⟨by omega, by omega, y3, y5, e3, e5, (by unfold clT; (repeat' split) <;> first | (exfalso; omega) | rfl)⟩, (fun hy => absurd hy (by rw [(show Int32.toInt (-12) = (-12) from rfl)]; decide)), (fun s i hs hi hn => rfl)⟩
    · refine te_bipush (p2 := 24) (x := (-11)) rfl rfl (by decide) ?_
      obtain ⟨v21, e21, y21, w21, a21, b21, _⟩ := hI.2.1 193 x1.toInt.toNat (.inl (0, 40, 9999999999)) (tq_row rfl (by omega))
      subst w21
      exact te_iret rfl rfl ⟨hI, f0, _, rfl, Or.inl ⟨by omega, by omega, y3, y21, e3, e21, (by unfold clT; (repeat' split) <;> first | (exfalso; omega) | rfl)⟩, (fun hy => absurd hy (by rw [(show Int32.toInt (-11) = (-11) from rfl)]; decide)), (fun s i hs hi hn => rfl)⟩
  · subst w1
    have cc1_1 := (show Int32.toInt 0 = 0 from rfl)
    have cc1_2 := (show Int32.toInt 3 = 3 from rfl)
    refine tz_ne (p2 := 9) rfl rfl (show Int32.toInt 0 = 0 from rfl) (fun c22 => absurd c22 (by omega)) (fun c22 => ?_)
    refine te_bipush (p2 := 11) (x := (-2)) rfl rfl (by decide) ?_
    exact te_iret rfl rfl ⟨hI, f0, _, rfl, Or.inr ⟨by omega, rfl⟩, (fun hy => absurd hy (by rw [(show Int32.toInt (-2) = (-2) from rfl)]; decide)), (fun s i hs hi hn => rfl)⟩
def cpT (x2 x4 x5 q1 z1 q2 z2 : Int32) : Int32 := if q1.toInt = -1 ∨ q2.toInt = -1 then -11 else if ¬ q1.toInt = q2.toInt then -13 else if 0 ≤ x2.toInt ∧ 0 ≤ x5.toInt ∧ x5.toInt ≤ z1.toInt - x2.toInt ∧ 0 ≤ x4.toInt ∧ x5.toInt ≤ z2.toInt - x4.toInt then x5 else -12
abbrev Q1_copy (x1 x2 x3 x4 x5 : Int32) (y : Int32) (h h2 : im_H) : Prop := (((0 ≤ x1.toInt ∧ x1.toInt ≤ 3 ∧ 0 ≤ x3.toInt ∧ x3.toInt ≤ 3) ∧ ∃ q1 z1 q2 z2 : Int32, rd h (140 + 2 * x1.toInt.toNat) 0 = some (.int q1) ∧ rd h (140 + 2 * x1.toInt.toNat) 1 = some (.int z1) ∧ rd h (140 + 2 * x3.toInt.toNat) 0 = some (.int q2) ∧ rd h (140 + 2 * x3.toInt.toNat) 1 = some (.int z2) ∧ y = cpT x2 x4 x5 q1 z1 q2 z2) ∨ (¬ (0 ≤ x1.toInt ∧ x1.toInt ≤ 3 ∧ 0 ≤ x3.toInt ∧ x3.toInt ≤ 3) ∧ y = -2)) ∧ (0 ≤ y.toInt → 0 ≤ x2.toInt ∧ 0 ≤ x4.toInt ∧ x2.toInt + x5.toInt ≤ 40 ∧ x4.toInt + x5.toInt ≤ 40 ∧ (∀ i : Nat, i < 40 → (x4.toInt ≤ i ∧ (i : Int) < x4.toInt + x5.toInt) → rd h2 (141 + 2 * x3.toInt.toNat) i = rd h (141 + 2 * x1.toInt.toNat) (x2.toInt.toNat + (i - x4.toInt.toNat)))) ∧ (∀ s i : Nat, s < 4 → (s ≠ x3.toInt.toNat ∨ ¬ (x4.toInt ≤ i ∧ (i : Int) < x4.toInt + x5.toInt) ∨ ¬ 0 ≤ y.toInt) → rd h2 (141 + 2 * s) i = rd h (141 + 2 * s) i)
set_option maxRecDepth 20000 in
set_option maxHeartbeats 4000000 in
theorem c_X11_copy {x1 : Int32} {x2 : Int32} {x3 : Int32} {x4 : Int32} {x5 : Int32} {h : im_H} (hI : tI h)  : CaP 3 106 [.ref 16, .int x1, .int x2, .int x3, .int x4, .int x5] h (fun v h2 => tI h2 ∧ fr F_X11_copy h h2 ∧ ∃ y : Int32, v = some (.int y) ∧ Q1_copy x1 x2 x3 x4 x5 y h h2) := by
  refine cap_of (d := 2) (M := mX11_copy) rfl (Nat.le_of_ble_eq_true rfl) ?_
  show EvP im_K0 2 mX11_copy (0, [(0, .ref 16), (1, .int x1), (2, .int x2), (3, .int x3), (4, .int x4), (5, .int x5)], [], h) _
  have f0 : fr F_X11_copy h h := fr_rf
  refine te_iload_n (p2 := 1) rfl rfl rfl ?_
  refine te_iconst (p2 := 2) (x := 4) rfl rfl (by decide) ?_
  refine cS_pI (p2 := 5) rfl rfl rfl rfl (t_X11_within (n := x1) (b := 4) hI ) (by decide) (fun y1 r1 => ?_)
  rcases r1 with ⟨w1, c1⟩ | ⟨w1, c1⟩
  · subst w1
    have cc1_1 := (show Int32.toInt 4 = 4 from rfl)
    refine tz_eq (p2 := 8) rfl rfl (show Int32.toInt 1 = 1 from rfl) (fun c2 => absurd c2 (by omega)) (fun c2 => ?_)
    refine te_iload_n (p2 := 9) rfl rfl rfl ?_
    refine te_iconst (p2 := 10) (x := 4) rfl rfl (by decide) ?_
    refine cS_pI (p2 := 13) rfl rfl rfl rfl (t_X11_within (n := x3) (b := 4) hI ) (by decide) (fun y3 r3 => ?_)
    rcases r3 with ⟨w3, c3⟩ | ⟨w3, c3⟩
    · subst w3
      have cc3_1 := (show Int32.toInt 4 = 4 from rfl)
      refine tz_ne (p2 := 16) rfl rfl (show Int32.toInt 1 = 1 from rfl) (fun c4 => ?_) (fun c4 => absurd c4 (by omega))
      refine te_aload_n (p2 := 20) rfl rfl rfl ?_
      refine tg_r (p2 := 23) (i := 0) (r := 113) rfl rfl hI rfl rfl rfl ?_
      refine te_iload_n (p2 := 24) rfl rfl rfl ?_
      refine tl_f (p2 := 25) (i := 97) (n := 4) (c0 := 140) (sp := 2) rfl rfl hI rfl rfl (by decide) rq_97 (by omega) (by omega) (fun o5 w5 => ?_)
      have q5 : o5 = 140 ∨ o5 = 142 ∨ o5 = 144 ∨ o5 = 146 := by omega
      refine te_astore (p2 := 27) (lv2 := [(6, .ref (16 + o5)), (0, .ref 16), (1, .int x1), (2, .int x2), (3, .int x3), (4, .int x4), (5, .int x5)]) rfl rfl (by decide) rfl ?_
      refine te_aload_n (p2 := 28) rfl rfl rfl ?_
      refine tg_r (p2 := 31) (i := 0) (r := 113) rfl rfl hI rfl rfl rfl ?_
      refine te_iload_n (p2 := 32) rfl rfl rfl ?_
      refine tl_f (p2 := 33) (i := 97) (n := 4) (c0 := 140) (sp := 2) rfl rfl hI rfl rfl (by decide) rq_97 (by omega) (by omega) (fun o6 w6 => ?_)
      have q6 : o6 = 140 ∨ o6 = 142 ∨ o6 = 144 ∨ o6 = 146 := by omega
      refine te_astore (p2 := 35) (lv2 := [(7, .ref (16 + o6)), (6, .ref (16 + o5)), (0, .ref 16), (1, .int x1), (2, .int x2), (3, .int x3), (4, .int x4), (5, .int x5)]) rfl rfl (by decide) rfl ?_
      refine te_aload (p2 := 37) rfl rfl rfl ?_
      refine cV_pI (p2 := 40) (i := o5) rfl rfl rfl rfl hI rfl (by rcases q5 with rfl | rfl | rfl | rfl <;> rfl) rfl (c_X8_isMissing (s := o5) hI q5) (by decide) (fun y7 r7 => ?_)
      obtain ⟨p7, e7, r7⟩ := r7
      rcases r7 with ⟨w7_, c7⟩ | ⟨w7_, c7⟩
      · subst w7_
        refine tz_ne (p2 := 43) rfl rfl (show Int32.toInt 1 = 1 from rfl) (fun c8 => ?_) (fun c8 => absurd c8 (by omega))
        refine te_bipush (p2 := 53) (x := (-11)) rfl rfl (by decide) ?_
        obtain ⟨v9, e9, y9, w9, a9, b9, _⟩ := hI.2.1 o5 1 (.inl (0, 40, 9999999999)) (by rcases q5 with rfl | rfl | rfl | rfl <;> rfl)
        subst w9
        obtain ⟨v10, e10, y10, w10, a10, b10, _⟩ := hI.2.1 o6 0 (.inl ((-1), 2, 9999999999)) (by rcases q6 with rfl | rfl | rfl | rfl <;> rfl)
        subst w10
        obtain ⟨v11, e11, y11, w11, a11, b11, _⟩ := hI.2.1 o6 1 (.inl (0, 40, 9999999999)) (by rcases q6 with rfl | rfl | rfl | rfl <;> rfl)
        subst w11
        exact te_iret rfl rfl ⟨hI, f0, _, rfl, Or.inl ⟨by omega, p7, y9, y10, y11, (by rw [← w5]; exact e7), (by rw [← w5]; exact e9), (by rw [← w6]; exact e10), (by rw [← w6]; exact e11), (by unfold cpT; (repeat' split) <;> first | (exfalso; omega) | rfl)⟩, (fun hy => absurd hy (by rw [(show Int32.toInt (-11) = (-11) from rfl)]; decide)), (fun s i hs hn => rfl)⟩
      · subst w7_
        refine tz_ne (p2 := 43) rfl rfl (show Int32.toInt 0 = 0 from rfl) (fun c12 => absurd c12 (by omega)) (fun c12 => ?_)
        refine te_aload (p2 := 45) rfl rfl rfl ?_
        refine cV_pI (p2 := 48) (i := o6) rfl rfl rfl rfl hI rfl (by rcases q6 with rfl | rfl | rfl | rfl <;> rfl) rfl (c_X8_isMissing (s := o6) hI q6) (by decide) (fun y13 r13 => ?_)
        obtain ⟨p13, e13, r13⟩ := r13
        rcases r13 with ⟨w13_, c13⟩ | ⟨w13_, c13⟩
        · subst w13_
          refine tz_eq (p2 := 51) rfl rfl (show Int32.toInt 1 = 1 from rfl) (fun c14 => absurd c14 (by omega)) (fun c14 => ?_)
          refine te_bipush (p2 := 53) (x := (-11)) rfl rfl (by decide) ?_
          obtain ⟨v15, e15, y15, w15, a15, b15, _⟩ := hI.2.1 o5 1 (.inl (0, 40, 9999999999)) (by rcases q5 with rfl | rfl | rfl | rfl <;> rfl)
          subst w15
          obtain ⟨v16, e16, y16, w16, a16, b16, _⟩ := hI.2.1 o6 1 (.inl (0, 40, 9999999999)) (by rcases q6 with rfl | rfl | rfl | rfl <;> rfl)
          subst w16
          exact te_iret rfl rfl ⟨hI, f0, _, rfl, Or.inl ⟨by omega, p7, y15, p13, y16, (by rw [← w5]; exact e7), (by rw [← w5]; exact e15), (by rw [← w6]; exact e13), (by rw [← w6]; exact e16), (by unfold cpT; (repeat' split) <;> first | (exfalso; omega) | rfl)⟩, (fun hy => absurd hy (by rw [(show Int32.toInt (-11) = (-11) from rfl)]; decide)), (fun s i hs hn => rfl)⟩
        · subst w13_
          refine tz_eq (p2 := 51) rfl rfl (show Int32.toInt 0 = 0 from rfl) (fun c17 => ?_) (fun c17 => absurd c17 (by omega))
          refine te_aload (p2 := 56) rfl rfl rfl ?_
          refine tg_e (p2 := 59) (i := o5) (v := .int p7) rfl rfl hI rfl (by rcases q5 with rfl | rfl | rfl | rfl <;> rfl) e7 ?_
          refine te_aload (p2 := 61) rfl rfl rfl ?_
          refine tg_e (p2 := 64) (i := o6) (v := .int p13) rfl rfl hI rfl (by rcases q6 with rfl | rfl | rfl | rfl <;> rfl) e13 ?_
          refine tb_eq (p2 := 67) rfl rfl rfl rfl (fun c18 => ?_) (fun c18 => ?_)
          · refine te_aload (p2 := 72) rfl rfl rfl ?_
            refine te_iload_n (p2 := 73) rfl rfl rfl ?_
            refine te_iload (p2 := 75) rfl rfl rfl ?_
            refine cV_pI (p2 := 78) (i := o5) rfl rfl rfl rfl hI rfl (by rcases q5 with rfl | rfl | rfl | rfl <;> rfl) rfl (t_X8_holds (s := o5) (i := x2) (n := x5) hI q5) (by decide) (fun y19 r19 => ?_)
            obtain ⟨p19, e19, a19, b19, r19⟩ := r19
            rcases r19 with ⟨w19, c19⟩ | ⟨w19, c19⟩
            · subst w19
              refine tz_eq (p2 := 81) rfl rfl (show Int32.toInt 1 = 1 from rfl) (fun c20 => absurd c20 (by omega)) (fun c20 => ?_)
              refine te_aload (p2 := 83) rfl rfl rfl ?_
              refine te_iload (p2 := 85) rfl rfl rfl ?_
              refine te_iload (p2 := 87) rfl rfl rfl ?_
              refine cV_pI (p2 := 90) (i := o6) rfl rfl rfl rfl hI rfl (by rcases q6 with rfl | rfl | rfl | rfl <;> rfl) rfl (t_X8_holds (s := o6) (i := x4) (n := x5) hI q6) (by decide) (fun y21 r21 => ?_)
              obtain ⟨p21, e21, a21, b21, r21⟩ := r21
              rcases r21 with ⟨w21, c21⟩ | ⟨w21, c21⟩
              · subst w21
                refine tz_ne (p2 := 93) rfl rfl (show Int32.toInt 1 = 1 from rfl) (fun c22 => ?_) (fun c22 => absurd c22 (by omega))
                refine te_aload (p2 := 98) rfl rfl rfl ?_
                refine tg_r (p2 := 101) (i := o5) (r := (16 + (o5 + 1))) rfl rfl hI rfl (by rcases q5 with rfl | rfl | rfl | rfl <;> rfl) (by rcases q5 with rfl | rfl | rfl | rfl <;> rfl) ?_
                refine te_iload_n (p2 := 102) rfl rfl rfl ?_
                refine te_aload (p2 := 104) rfl rfl rfl ?_
                refine tg_r (p2 := 107) (i := o6) (r := (16 + (o6 + 1))) rfl rfl hI rfl (by rcases q6 with rfl | rfl | rfl | rfl <;> rfl) (by rcases q6 with rfl | rfl | rfl | rfl <;> rfl) ?_
                refine te_iload (p2 := 109) rfl rfl rfl ?_
                refine te_iload (p2 := 111) rfl rfl rfl ?_
                refine tc_cp (p2 := 114) (i1 := (o5 + 1)) (i2 := (o6 + 1)) (n1 := 40) (n2 := 40) rfl rfl hI rfl rfl (by rcases q5 with rfl | rfl | rfl | rfl <;> rfl) (by rcases q6 with rfl | rfl | rfl | rfl <;> rfl) (by rcases q5 with rfl | rfl | rfl | rfl <;> rfl) (by rcases q6 with rfl | rfl | rfl | rfl <;> rfl) rfl rfl (Or.inl rfl) rfl rfl rfl (by omega) (by omega) (by omega) (by omega) (by omega) rfl (by rcases q6 with rfl | rfl | rfl | rfl <;> rfl) (fun h23 I23 c23 u23 => ?_)
                have f23 := fr_cp (F := F_X11_copy) (i := (o6 + 1)) (a := 0) (b := 39) f0 u23 (by rcases q6 with rfl | rfl | rfl | rfl <;> decide) (by omega) (by omega)
                refine te_iload (p2 := 116) rfl rfl rfl ?_
                exact te_iret rfl rfl ⟨I23, f23, _, rfl, Or.inl ⟨by omega, p7, p19, p13, p21, (by rw [← w5]; exact e7), (by rw [← w5]; exact e19), (by rw [← w6]; exact e13), (by rw [← w6]; exact e21), (by unfold cpT; (repeat' split) <;> first | (exfalso; omega) | rfl)⟩, (fun _ => ⟨by omega, by omega, by omega, by omega, fun i hi hq => by (rw [show 141 + 2 * x3.toInt.toNat = o6 + 1 by omega, show 141 + 2 * x1.toInt.toNat = o5 + 1 by omega]; exact c23 i (by omega) (by omega))⟩), (fun s i hs hn => u23 _ _ (by omega))⟩
              · subst w21
                refine tz_ne (p2 := 93) rfl rfl (show Int32.toInt 0 = 0 from rfl) (fun c24 => absurd c24 (by omega)) (fun c24 => ?_)
                refine te_bipush (p2 := 95) (x := (-12)) rfl rfl (by decide) ?_
                exact te_iret rfl rfl ⟨hI, f0, _, rfl, Or.inl ⟨by omega, p7, p19, p13, p21, (by rw [← w5]; exact e7), (by rw [← w5]; exact e19), (by rw [← w6]; exact e13), (by rw [← w6]; exact e21), (by unfold cpT; (repeat' split) <;> first | (exfalso; omega) | rfl)⟩, (fun hy => absurd hy (by rw [(show Int32.toInt (-12) = (-12) from rfl)]; decide)), (fun s i hs hn => rfl)⟩
            · subst w19
              refine tz_eq (p2 := 81) rfl rfl (show Int32.toInt 0 = 0 from rfl) (fun c25 => ?_) (fun c25 => absurd c25 (by omega))
              refine te_bipush (p2 := 95) (x := (-12)) rfl rfl (by decide) ?_
              obtain ⟨v26, e26, y26, w26, a26, b26, _⟩ := hI.2.1 o6 1 (.inl (0, 40, 9999999999)) (by rcases q6 with rfl | rfl | rfl | rfl <;> rfl)
              subst w26
              exact te_iret rfl rfl ⟨hI, f0, _, rfl, Or.inl ⟨by omega, p7, p19, p13, y26, (by rw [← w5]; exact e7), (by rw [← w5]; exact e19), (by rw [← w6]; exact e13), (by rw [← w6]; exact e26), (by unfold cpT; (repeat' split) <;> first | (exfalso; omega) | rfl)⟩, (fun hy => absurd hy (by rw [(show Int32.toInt (-12) = (-12) from rfl)]; decide)), (fun s i hs hn => rfl)⟩
          · refine te_bipush (p2 := 69) (x := (-13)) rfl rfl (by decide) ?_
            obtain ⟨v27, e27, y27, w27, a27, b27, _⟩ := hI.2.1 o5 1 (.inl (0, 40, 9999999999)) (by rcases q5 with rfl | rfl | rfl | rfl <;> rfl)
            subst w27
            obtain ⟨v28, e28, y28, w28, a28, b28, _⟩ := hI.2.1 o6 1 (.inl (0, 40, 9999999999)) (by rcases q6 with rfl | rfl | rfl | rfl <;> rfl)
            subst w28
            exact te_iret rfl rfl ⟨hI, f0, _, rfl, Or.inl ⟨by omega, p7, y27, p13, y28, (by rw [← w5]; exact e7), (by rw [← w5]; exact e27), (by rw [← w6]; exact e13), (by rw [← w6]; exact e28), (by unfold cpT; (repeat' split) <;> first | (exfalso; omega) | rfl)⟩, (fun hy => absurd hy (by rw [(show Int32.toInt (-13) = (-13) from rfl)]; decide)), (fun s i hs hn => rfl)⟩
    · subst w3
      have cc3_1 := (show Int32.toInt 4 = 4 from rfl)
      refine tz_ne (p2 := 16) rfl rfl (show Int32.toInt 0 = 0 from rfl) (fun c29 => absurd c29 (by omega)) (fun c29 => ?_)
      refine te_bipush (p2 := 18) (x := (-2)) rfl rfl (by decide) ?_
      exact te_iret rfl rfl ⟨hI, f0, _, rfl, Or.inr ⟨by omega, rfl⟩, (fun hy => absurd hy (by rw [(show Int32.toInt (-2) = (-2) from rfl)]; decide)), (fun s i hs hn => rfl)⟩
  · subst w1
    have cc1_1 := (show Int32.toInt 4 = 4 from rfl)
    refine tz_eq (p2 := 8) rfl rfl (show Int32.toInt 0 = 0 from rfl) (fun c30 => ?_) (fun c30 => absurd c30 (by omega))
    refine te_bipush (p2 := 18) (x := (-2)) rfl rfl (by decide) ?_
    exact te_iret rfl rfl ⟨hI, f0, _, rfl, Or.inr ⟨by omega, rfl⟩, (fun hy => absurd hy (by rw [(show Int32.toInt (-2) = (-2) from rfl)]; decide)), (fun s i hs hn => rfl)⟩
abbrev Q2_copy (x1 x2 x3 x4 x5 : Int32) (y : Int32) (h h2 : im_H) : Prop := (((0 ≤ x1.toInt ∧ x1.toInt ≤ 3 ∧ 0 ≤ x3.toInt ∧ x3.toInt ≤ 3) ∧ ∃ q1 z1 q2 z2 : Int32, rd h 192 x1.toInt.toNat = some (.int q1) ∧ rd h 193 x1.toInt.toNat = some (.int z1) ∧ rd h 192 x3.toInt.toNat = some (.int q2) ∧ rd h 193 x3.toInt.toNat = some (.int z2) ∧ y = cpT x2 x4 x5 q1 z1 q2 z2) ∨ (¬ (0 ≤ x1.toInt ∧ x1.toInt ≤ 3 ∧ 0 ≤ x3.toInt ∧ x3.toInt ≤ 3) ∧ y = -2)) ∧ (0 ≤ y.toInt → 0 ≤ x2.toInt ∧ 0 ≤ x4.toInt ∧ x2.toInt + x5.toInt ≤ 40 ∧ x4.toInt + x5.toInt ≤ 40 ∧ (∀ i : Nat, i < 40 → (x4.toInt ≤ i ∧ (i : Int) < x4.toInt + x5.toInt) → rd h2 194 (40 * x3.toInt.toNat + i) = rd h 194 (40 * x1.toInt.toNat + (x2.toInt.toNat + (i - x4.toInt.toNat))))) ∧ (∀ s i : Nat, s < 4 → i < 40 → (s ≠ x3.toInt.toNat ∨ ¬ (x4.toInt ≤ i ∧ (i : Int) < x4.toInt + x5.toInt) ∨ ¬ 0 ≤ y.toInt) → rd h2 194 (40 * s + i) = rd h 194 (40 * s + i))
set_option maxRecDepth 20000 in
set_option maxHeartbeats 4000000 in
theorem c_X12_copy {x1 : Int32} {x2 : Int32} {x3 : Int32} {x4 : Int32} {x5 : Int32} {h : im_H} (hI : tI h)  : CaP 3 193 [.ref 164, .int x1, .int x2, .int x3, .int x4, .int x5] h (fun v h2 => tI h2 ∧ fr F_X12_copy h h2 ∧ ∃ y : Int32, v = some (.int y) ∧ Q2_copy x1 x2 x3 x4 x5 y h h2) := by
  refine cap_of (d := 2) (M := mX12_copy) rfl (Nat.le_of_ble_eq_true rfl) ?_
  show EvP im_K0 2 mX12_copy (0, [(0, .ref 164), (1, .int x1), (2, .int x2), (3, .int x3), (4, .int x4), (5, .int x5)], [], h) _
  have f0 : fr F_X12_copy h h := fr_rf
  refine te_iload_n (p2 := 1) rfl rfl rfl ?_
  refine te_iconst (p2 := 2) (x := 0) rfl rfl (by decide) ?_
  refine te_iconst (p2 := 3) (x := 3) rfl rfl (by decide) ?_
  refine cS_pI (p2 := 6) rfl rfl rfl rfl (t_X12_in (n := x1) (a := 0) (b := 3) hI ) (by decide) (fun y1 r1 => ?_)
  rcases r1 with ⟨w1, c1⟩ | ⟨w1, c1⟩
  · subst w1
    have cc1_1 := (show Int32.toInt 0 = 0 from rfl)
    have cc1_2 := (show Int32.toInt 3 = 3 from rfl)
    refine tz_eq (p2 := 9) rfl rfl (show Int32.toInt 1 = 1 from rfl) (fun c2 => absurd c2 (by omega)) (fun c2 => ?_)
    refine te_iload_n (p2 := 10) rfl rfl rfl ?_
    refine te_iconst (p2 := 11) (x := 0) rfl rfl (by decide) ?_
    refine te_iconst (p2 := 12) (x := 3) rfl rfl (by decide) ?_
    refine cS_pI (p2 := 15) rfl rfl rfl rfl (t_X12_in (n := x3) (a := 0) (b := 3) hI ) (by decide) (fun y3 r3 => ?_)
    rcases r3 with ⟨w3, c3⟩ | ⟨w3, c3⟩
    · subst w3
      have cc3_1 := (show Int32.toInt 0 = 0 from rfl)
      have cc3_2 := (show Int32.toInt 3 = 3 from rfl)
      refine tz_ne (p2 := 18) rfl rfl (show Int32.toInt 1 = 1 from rfl) (fun c4 => ?_) (fun c4 => absurd c4 (by omega))
      refine te_aload_n (p2 := 22) rfl rfl rfl ?_
      refine tg_r (p2 := 25) (i := 148) (r := 208) rfl rfl hI rfl rfl rfl ?_
      refine te_iload_n (p2 := 26) rfl rfl rfl ?_
      refine tl_i (p2 := 27) (i := 192) (n := 4) rfl rfl hI rfl rfl rfl rfl (by omega) (by omega) (fun y5 a5 b5 g5 e5 => ?_)
      refine te_iconst (p2 := 28) (x := (-1)) rfl rfl (by decide) ?_
      refine tb_eq (p2 := 31) rfl rfl rfl (show Int32.toInt (-1) = (-1) from rfl) (fun c6 => ?_) (fun c6 => ?_)
      · refine te_bipush (p2 := 43) (x := (-11)) rfl rfl (by decide) ?_
        obtain ⟨v7, e7, y7, w7, a7, b7, _⟩ := hI.2.1 193 x1.toInt.toNat (.inl (0, 40, 9999999999)) (tq_row rfl (by omega))
        subst w7
        obtain ⟨v8, e8, y8, w8, a8, b8, _⟩ := hI.2.1 192 x3.toInt.toNat (.inl ((-1), 2, 9999999999)) (tq_row rfl (by omega))
        subst w8
        obtain ⟨v9, e9, y9, w9, a9, b9, _⟩ := hI.2.1 193 x3.toInt.toNat (.inl (0, 40, 9999999999)) (tq_row rfl (by omega))
        subst w9
        exact te_iret rfl rfl ⟨hI, f0, _, rfl, Or.inl ⟨by omega, y5, y7, y8, y9, e5, e7, e8, e9, (by unfold cpT; (repeat' split) <;> first | (exfalso; omega) | rfl)⟩, (fun hy => absurd hy (by rw [(show Int32.toInt (-11) = (-11) from rfl)]; decide)), (fun s i hs hi hn => rfl)⟩
      · refine te_aload_n (p2 := 32) rfl rfl rfl ?_
        refine tg_r (p2 := 35) (i := 148) (r := 208) rfl rfl hI rfl rfl rfl ?_
        refine te_iload_n (p2 := 36) rfl rfl rfl ?_
        refine tl_i (p2 := 37) (i := 192) (n := 4) rfl rfl hI rfl rfl rfl rfl (by omega) (by omega) (fun y10 a10 b10 g10 e10 => ?_)
        refine te_iconst (p2 := 38) (x := (-1)) rfl rfl (by decide) ?_
        refine tb_ne (p2 := 41) rfl rfl rfl (show Int32.toInt (-1) = (-1) from rfl) (fun c11 => ?_) (fun c11 => ?_)
        · refine te_aload_n (p2 := 45) rfl rfl rfl ?_
          refine tg_r (p2 := 48) (i := 148) (r := 208) rfl rfl hI rfl rfl rfl ?_
          refine te_iload_n (p2 := 49) rfl rfl rfl ?_
          refine tl_e (p2 := 50) (i := 192) (n := 4) (t := 0) (Or.inl rfl) rfl rfl hI rfl rfl (by omega) (by omega) e5 ?_
          refine te_aload_n (p2 := 51) rfl rfl rfl ?_
          refine tg_r (p2 := 54) (i := 148) (r := 208) rfl rfl hI rfl rfl rfl ?_
          refine te_iload_n (p2 := 55) rfl rfl rfl ?_
          refine tl_e (p2 := 56) (i := 192) (n := 4) (t := 0) (Or.inl rfl) rfl rfl hI rfl rfl (by omega) (by omega) e10 ?_
          refine tb_eq (p2 := 59) rfl rfl rfl rfl (fun c14 => ?_) (fun c14 => ?_)
          · refine te_iload (p2 := 64) rfl rfl rfl ?_
            refine tz_lt (p2 := 67) rfl rfl rfl (fun c15 => ?_) (fun c15 => ?_)
            · refine te_bipush (p2 := 126) (x := (-12)) rfl rfl (by decide) ?_
              obtain ⟨v16, e16, y16, w16, a16, b16, _⟩ := hI.2.1 193 x1.toInt.toNat (.inl (0, 40, 9999999999)) (tq_row rfl (by omega))
              subst w16
              obtain ⟨v17, e17, y17, w17, a17, b17, _⟩ := hI.2.1 193 x3.toInt.toNat (.inl (0, 40, 9999999999)) (tq_row rfl (by omega))
              subst w17
              exact te_iret rfl rfl ⟨hI, f0, _, rfl, Or.inl ⟨by omega, y5, y16, y10, y17, e5, e16, e10, e17, (by unfold cpT; (repeat' split) <;> first | (exfalso; omega) | rfl)⟩, (fun hy => absurd hy (by rw [(show Int32.toInt (-12) = (-12) from rfl)]; decide)), (fun s i hs hi hn => rfl)⟩
            · refine te_iload_n (p2 := 68) rfl rfl rfl ?_
              refine tz_lt (p2 := 71) rfl rfl rfl (fun c18 => ?_) (fun c18 => ?_)
              · refine te_bipush (p2 := 126) (x := (-12)) rfl rfl (by decide) ?_
                obtain ⟨v19, e19, y19, w19, a19, b19, _⟩ := hI.2.1 193 x1.toInt.toNat (.inl (0, 40, 9999999999)) (tq_row rfl (by omega))
                subst w19
                obtain ⟨v20, e20, y20, w20, a20, b20, _⟩ := hI.2.1 193 x3.toInt.toNat (.inl (0, 40, 9999999999)) (tq_row rfl (by omega))
                subst w20
                exact te_iret rfl rfl ⟨hI, f0, _, rfl, Or.inl ⟨by omega, y5, y19, y10, y20, e5, e19, e10, e20, (by unfold cpT; (repeat' split) <;> first | (exfalso; omega) | rfl)⟩, (fun hy => absurd hy (by rw [(show Int32.toInt (-12) = (-12) from rfl)]; decide)), (fun s i hs hi hn => rfl)⟩
              · refine te_iload (p2 := 73) rfl rfl rfl ?_
                refine tz_lt (p2 := 76) rfl rfl rfl (fun c21 => ?_) (fun c21 => ?_)
                · refine te_bipush (p2 := 126) (x := (-12)) rfl rfl (by decide) ?_
                  obtain ⟨v22, e22, y22, w22, a22, b22, _⟩ := hI.2.1 193 x1.toInt.toNat (.inl (0, 40, 9999999999)) (tq_row rfl (by omega))
                  subst w22
                  obtain ⟨v23, e23, y23, w23, a23, b23, _⟩ := hI.2.1 193 x3.toInt.toNat (.inl (0, 40, 9999999999)) (tq_row rfl (by omega))
                  subst w23
                  exact te_iret rfl rfl ⟨hI, f0, _, rfl, Or.inl ⟨by omega, y5, y22, y10, y23, e5, e22, e10, e23, (by unfold cpT; (repeat' split) <;> first | (exfalso; omega) | rfl)⟩, (fun hy => absurd hy (by rw [(show Int32.toInt (-12) = (-12) from rfl)]; decide)), (fun s i hs hi hn => rfl)⟩
                · refine te_iload_n (p2 := 77) rfl rfl rfl ?_
                  refine te_aload_n (p2 := 78) rfl rfl rfl ?_
                  refine tg_r (p2 := 81) (i := 148) (r := 209) rfl rfl hI rfl rfl rfl ?_
                  refine te_iload_n (p2 := 82) rfl rfl rfl ?_
                  refine tl_i (p2 := 83) (i := 193) (n := 4) rfl rfl hI rfl rfl rfl rfl (by omega) (by omega) (fun y24 a24 b24 g24 e24 => ?_)
                  refine tb_gt (p2 := 86) rfl rfl rfl rfl (fun c25 => ?_) (fun c25 => ?_)
                  · refine te_bipush (p2 := 126) (x := (-12)) rfl rfl (by decide) ?_
                    obtain ⟨v26, e26, y26, w26, a26, b26, _⟩ := hI.2.1 193 x3.toInt.toNat (.inl (0, 40, 9999999999)) (tq_row rfl (by omega))
                    subst w26
                    exact te_iret rfl rfl ⟨hI, f0, _, rfl, Or.inl ⟨by omega, y5, y24, y10, y26, e5, e24, e10, e26, (by unfold cpT; (repeat' split) <;> first | (exfalso; omega) | rfl)⟩, (fun hy => absurd hy (by rw [(show Int32.toInt (-12) = (-12) from rfl)]; decide)), (fun s i hs hi hn => rfl)⟩
                  · refine te_iload (p2 := 88) rfl rfl rfl ?_
                    refine te_aload_n (p2 := 89) rfl rfl rfl ?_
                    refine tg_r (p2 := 92) (i := 148) (r := 209) rfl rfl hI rfl rfl rfl ?_
                    refine te_iload_n (p2 := 93) rfl rfl rfl ?_
                    refine tl_i (p2 := 94) (i := 193) (n := 4) rfl rfl hI rfl rfl rfl rfl (by omega) (by omega) (fun y27 a27 b27 g27 e27 => ?_)
                    refine tb_gt (p2 := 97) rfl rfl rfl rfl (fun c28 => ?_) (fun c28 => ?_)
                    · refine te_bipush (p2 := 126) (x := (-12)) rfl rfl (by decide) ?_
                      exact te_iret rfl rfl ⟨hI, f0, _, rfl, Or.inl ⟨by omega, y5, y24, y10, y27, e5, e24, e10, e27, (by unfold cpT; (repeat' split) <;> first | (exfalso; omega) | rfl)⟩, (fun hy => absurd hy (by rw [(show Int32.toInt (-12) = (-12) from rfl)]; decide)), (fun s i hs hi hn => rfl)⟩
                    · refine te_iload (p2 := 99) rfl rfl rfl ?_
                      refine te_aload_n (p2 := 100) rfl rfl rfl ?_
                      refine tg_r (p2 := 103) (i := 148) (r := 209) rfl rfl hI rfl rfl rfl ?_
                      refine te_iload_n (p2 := 104) rfl rfl rfl ?_
                      refine tl_e (p2 := 105) (i := 193) (n := 4) (t := 0) (Or.inl rfl) rfl rfl hI rfl rfl (by omega) (by omega) e24 ?_
                      refine te_iload_n (p2 := 106) rfl rfl rfl ?_
                      refine ar_sub (p2 := 107) rfl rfl rfl rfl (by omega) (by omega) (fun z30 e30 f30 => ?_)
                      refine tb_gt (p2 := 110) rfl rfl rfl rfl (fun c31 => ?_) (fun c31 => ?_)
                      · refine te_bipush (p2 := 126) (x := (-12)) rfl rfl (by decide) ?_
                        exact te_iret rfl rfl ⟨hI, f0, _, rfl, Or.inl ⟨by omega, y5, y24, y10, y27, e5, e24, e10, e27, (by unfold cpT; (repeat' split) <;> first | (exfalso; omega) | rfl)⟩, (fun hy => absurd hy (by rw [(show Int32.toInt (-12) = (-12) from rfl)]; decide)), (fun s i hs hi hn => rfl)⟩
                      · refine te_iload (p2 := 112) rfl rfl rfl ?_
                        refine te_aload_n (p2 := 113) rfl rfl rfl ?_
                        refine tg_r (p2 := 116) (i := 148) (r := 209) rfl rfl hI rfl rfl rfl ?_
                        refine te_iload_n (p2 := 117) rfl rfl rfl ?_
                        refine tl_e (p2 := 118) (i := 193) (n := 4) (t := 0) (Or.inl rfl) rfl rfl hI rfl rfl (by omega) (by omega) e27 ?_
                        refine te_iload (p2 := 120) rfl rfl rfl ?_
                        refine ar_sub (p2 := 121) rfl rfl rfl rfl (by omega) (by omega) (fun z33 e33 f33 => ?_)
                        refine tb_le (p2 := 124) rfl rfl rfl rfl (fun c34 => ?_) (fun c34 => ?_)
                        · refine te_bipush (p2 := 129) (x := 40) rfl rfl (by decide) ?_
                          refine te_iload_n (p2 := 130) rfl rfl rfl ?_
                          refine ar_mul (p2 := 131) rfl rfl (show Int32.toInt 40 = 40 from rfl) rfl (by omega) (by omega) (fun z35 e35 f35 => ?_)
                          refine te_iload_n (p2 := 132) rfl rfl rfl ?_
                          refine ar_add (p2 := 133) rfl rfl rfl rfl (by omega) (by omega) (fun z36 e36 f36 => ?_)
                          refine te_istore (p2 := 135) (lv2 := [(6, .int z36), (0, .ref 164), (1, .int x1), (2, .int x2), (3, .int x3), (4, .int x4), (5, .int x5)]) rfl rfl (by decide) rfl ?_
                          refine te_bipush (p2 := 137) (x := 40) rfl rfl (by decide) ?_
                          refine te_iload_n (p2 := 138) rfl rfl rfl ?_
                          refine ar_mul (p2 := 139) rfl rfl (show Int32.toInt 40 = 40 from rfl) rfl (by omega) (by omega) (fun z37 e37 f37 => ?_)
                          refine te_iload (p2 := 141) rfl rfl rfl ?_
                          refine ar_add (p2 := 142) rfl rfl rfl rfl (by omega) (by omega) (fun z38 e38 f38 => ?_)
                          refine te_istore (p2 := 144) (lv2 := [(7, .int z38), (6, .int z36), (0, .ref 164), (1, .int x1), (2, .int x2), (3, .int x3), (4, .int x4), (5, .int x5)]) rfl rfl (by decide) rfl ?_
                          refine te_iconst (p2 := 145) (x := 0) rfl rfl (by decide) ?_
                          refine te_istore (p2 := 147) (lv2 := [(8, .int 0), (7, .int z38), (6, .int z36), (0, .ref 164), (1, .int x1), (2, .int x2), (3, .int x3), (4, .int x4), (5, .int x5)]) rfl rfl (by decide) rfl ?_
                          have lp39 : ∀ (n39 : Nat) (v39_8 : Int32) (h39 : im_H), tI h39 → fr F_X12_copy h h39 → 0 ≤ v39_8.toInt → v39_8.toInt ≤ 40 → v39_8.toInt ≤ x5.toInt → (∀ q : Nat, (((z36.toInt < z38.toInt ∧ x5.toInt - v39_8.toInt ≤ (q : Int) - z38.toInt ∧ (q : Int) - z38.toInt < x5.toInt) ∨ (¬ z36.toInt < z38.toInt ∧ 0 ≤ (q : Int) - z38.toInt ∧ (q : Int) - z38.toInt < v39_8.toInt)) → rd h39 194 q = rd h 194 (q + z36.toInt.toNat - z38.toInt.toNat)) ∧ (¬ ((z36.toInt < z38.toInt ∧ x5.toInt - v39_8.toInt ≤ (q : Int) - z38.toInt ∧ (q : Int) - z38.toInt < x5.toInt) ∨ (¬ z36.toInt < z38.toInt ∧ 0 ≤ (q : Int) - z38.toInt ∧ (q : Int) - z38.toInt < v39_8.toInt)) → rd h39 194 q = rd h 194 q)) → x5.toInt - v39_8.toInt < (n39 : Int) → EvP im_K0 2 mX12_copy (147, [(0, .ref 164), (1, .int x1), (2, .int x2), (3, .int x3), (4, .int x4), (5, .int x5), (6, .int z36), (7, .int z38), (8, .int v39_8)], [], h39) (fun v h2 => tI h2 ∧ fr F_X12_copy h h2 ∧ ∃ y : Int32, v = some (.int y) ∧ Q2_copy x1 x2 x3 x4 x5 y h h2) := by
                            intro n39
                            induction n39 with
                            | zero => intro v39_8 h39 I39 f39 a39_8 b39_8 l39_0 w39_0 m39; exfalso; omega
                            | succ n39 ih39 =>
                              intro v39_8 h39 I39 f39 a39_8 b39_8 l39_0 w39_0 m39
                              refine te_iload (p2 := 149) rfl rfl rfl ?_
                              refine te_iload (p2 := 151) rfl rfl rfl ?_
                              refine tb_ge (p2 := 154) rfl rfl rfl rfl (fun c40 => ?_) (fun c40 => ?_)
                              · refine te_iload (p2 := 203) rfl rfl rfl ?_
                                exact te_iret rfl rfl ⟨I39, f39, _, rfl, Or.inl ⟨by omega, y5, y24, y10, y27, e5, e24, e10, e27, (by unfold cpT; (repeat' split) <;> first | (exfalso; omega) | rfl)⟩, (fun _ => ⟨by omega, by omega, by omega, by omega, fun i hi hq => by (rw [(w39_0 (40 * x3.toInt.toNat + i)).1 (by omega)]; congr 1; omega)⟩), (fun s i hs hi hn => (w39_0 (40 * s + i)).2 (by omega))⟩
                              · refine te_iload (p2 := 156) rfl rfl rfl ?_
                                refine te_iload (p2 := 158) rfl rfl rfl ?_
                                refine tb_ge (p2 := 161) rfl rfl rfl rfl (fun c41 => ?_) (fun c41 => ?_)
                                · refine te_iload (p2 := 173) rfl rfl rfl ?_
                                  refine te_istore (p2 := 175) (lv2 := [(9, .int v39_8), (0, .ref 164), (1, .int x1), (2, .int x2), (3, .int x3), (4, .int x4), (5, .int x5), (6, .int z36), (7, .int z38), (8, .int v39_8)]) rfl rfl (by decide) rfl ?_
                                  refine te_aload_n (p2 := 176) rfl rfl rfl ?_
                                  refine tg_r (p2 := 179) (i := 148) (r := 210) rfl rfl I39 rfl rfl rfl ?_
                                  refine te_iload (p2 := 181) rfl rfl rfl ?_
                                  refine te_iload (p2 := 183) rfl rfl rfl ?_
                                  refine ar_add (p2 := 184) rfl rfl rfl rfl (by omega) (by omega) (fun z42 e42 f42 => ?_)
                                  refine te_aload_n (p2 := 185) rfl rfl rfl ?_
                                  refine tg_r (p2 := 188) (i := 148) (r := 210) rfl rfl I39 rfl rfl rfl ?_
                                  refine te_iload (p2 := 190) rfl rfl rfl ?_
                                  refine te_iload (p2 := 192) rfl rfl rfl ?_
                                  refine ar_add (p2 := 193) rfl rfl rfl rfl (by omega) (by omega) (fun z43 e43 f43 => ?_)
                                  refine tl_i (p2 := 194) (i := 194) (n := 160) rfl rfl I39 rfl rfl rfl rfl (by omega) (by omega) (fun y44 a44 b44 g44 e44 => ?_)
                                  refine ts_i (p2 := 195) (i := 194) (n := 160) rfl rfl I39 rfl rfl rfl rfl (by omega) (by omega) (i32_lo _) (i32_hi _) (i32_ho _) rfl (fun h45 I45 u45 => ?_)
                                  have f45 := fr_st (F := F_X12_copy) 0 f39 u45 rfl (by omega) (by omega)
                                  refine ar_inc (p2 := 198) (x := v39_8) rfl rfl (by decide) rfl (by decide) rfl (by omega) (by omega) (fun z46 e46 f46 => ?_)
                                  show EvP _ _ _ (198, [(8, .int z46), (9, .int v39_8), (0, .ref 164), (1, .int x1), (2, .int x2), (3, .int x3), (4, .int x4), (5, .int x5), (6, .int z36), (7, .int z38)], [], h45) _
                                  refine te_goto rfl ?_
                                  refine te_lv [(0, .ref 164), (1, .int x1), (2, .int x2), (3, .int x3), (4, .int x4), (5, .int x5), (6, .int z36), (7, .int z38), (8, .int z46)] rfl rfl ⟨rfl, rfl, rfl, rfl, rfl, rfl, rfl, rfl, rfl, trivial⟩ ?_
                                  exact ih39 z46 h45 I45 f45 (by omega) (by omega) (by omega) (fun q => by (by_cases hc : q = z42.toInt.toNat); (· refine ⟨fun _ => ?_, fun hn => absurd (by omega) hn⟩; rw [hc]; refine u45.1.trans (e44.symm.trans (((w39_0 z43.toInt.toNat).2 (by omega)).trans ?_)); congr 1; omega); (· refine ⟨fun hq => (u45.2 _ _ (Or.inr hc)).trans ((w39_0 q).1 (by omega)), fun hn => (u45.2 _ _ (Or.inr hc)).trans ((w39_0 q).2 (by omega))⟩)) (by omega)
                                · refine te_iload (p2 := 163) rfl rfl rfl ?_
                                  refine te_iconst (p2 := 164) (x := 1) rfl rfl (by decide) ?_
                                  refine ar_sub (p2 := 165) rfl rfl rfl (show Int32.toInt 1 = 1 from rfl) (by omega) (by omega) (fun z47 e47 f47 => ?_)
                                  refine te_iload (p2 := 167) rfl rfl rfl ?_
                                  refine ar_sub (p2 := 168) rfl rfl rfl rfl (by omega) (by omega) (fun z48 e48 f48 => ?_)
                                  refine te_goto rfl ?_
                                  refine te_istore (p2 := 175) (lv2 := [(9, .int z48), (0, .ref 164), (1, .int x1), (2, .int x2), (3, .int x3), (4, .int x4), (5, .int x5), (6, .int z36), (7, .int z38), (8, .int v39_8)]) rfl rfl (by decide) rfl ?_
                                  refine te_aload_n (p2 := 176) rfl rfl rfl ?_
                                  refine tg_r (p2 := 179) (i := 148) (r := 210) rfl rfl I39 rfl rfl rfl ?_
                                  refine te_iload (p2 := 181) rfl rfl rfl ?_
                                  refine te_iload (p2 := 183) rfl rfl rfl ?_
                                  refine ar_add (p2 := 184) rfl rfl rfl rfl (by omega) (by omega) (fun z49 e49 f49 => ?_)
                                  refine te_aload_n (p2 := 185) rfl rfl rfl ?_
                                  refine tg_r (p2 := 188) (i := 148) (r := 210) rfl rfl I39 rfl rfl rfl ?_
                                  refine te_iload (p2 := 190) rfl rfl rfl ?_
                                  refine te_iload (p2 := 192) rfl rfl rfl ?_
                                  refine ar_add (p2 := 193) rfl rfl rfl rfl (by omega) (by omega) (fun z50 e50 f50 => ?_)
                                  refine tl_i (p2 := 194) (i := 194) (n := 160) rfl rfl I39 rfl rfl rfl rfl (by omega) (by omega) (fun y51 a51 b51 g51 e51 => ?_)
                                  refine ts_i (p2 := 195) (i := 194) (n := 160) rfl rfl I39 rfl rfl rfl rfl (by omega) (by omega) (i32_lo _) (i32_hi _) (i32_ho _) rfl (fun h52 I52 u52 => ?_)
                                  have f52 := fr_st (F := F_X12_copy) 0 f39 u52 rfl (by omega) (by omega)
                                  refine ar_inc (p2 := 198) (x := v39_8) rfl rfl (by decide) rfl (by decide) rfl (by omega) (by omega) (fun z53 e53 f53 => ?_)
                                  show EvP _ _ _ (198, [(8, .int z53), (9, .int z48), (0, .ref 164), (1, .int x1), (2, .int x2), (3, .int x3), (4, .int x4), (5, .int x5), (6, .int z36), (7, .int z38)], [], h52) _
                                  refine te_goto rfl ?_
                                  refine te_lv [(0, .ref 164), (1, .int x1), (2, .int x2), (3, .int x3), (4, .int x4), (5, .int x5), (6, .int z36), (7, .int z38), (8, .int z53)] rfl rfl ⟨rfl, rfl, rfl, rfl, rfl, rfl, rfl, rfl, rfl, trivial⟩ ?_
                                  exact ih39 z53 h52 I52 f52 (by omega) (by omega) (by omega) (fun q => by (by_cases hc : q = z49.toInt.toNat); (· refine ⟨fun _ => ?_, fun hn => absurd (by omega) hn⟩; rw [hc]; refine u52.1.trans (e51.symm.trans (((w39_0 z50.toInt.toNat).2 (by omega)).trans ?_)); congr 1; omega); (· refine ⟨fun hq => (u52.2 _ _ (Or.inr hc)).trans ((w39_0 q).1 (by omega)), fun hn => (u52.2 _ _ (Or.inr hc)).trans ((w39_0 q).2 (by omega))⟩)) (by omega)
                          refine te_lv [(0, .ref 164), (1, .int x1), (2, .int x2), (3, .int x3), (4, .int x4), (5, .int x5), (6, .int z36), (7, .int z38), (8, .int 0)] rfl rfl ⟨rfl, rfl, rfl, rfl, rfl, rfl, rfl, rfl, rfl, trivial⟩ ?_
                          exact lp39 41 0 h hI f0 (by decide) (by decide) (by have cc0 := (show Int32.toInt 0 = 0 from rfl); omega) (fun q => ⟨fun hq => absurd hq (by have := (show Int32.toInt 0 = 0 from rfl); omega), fun _ => rfl⟩) (by have cc0 := (show Int32.toInt 0 = 0 from rfl); omega)
                        · refine te_bipush (p2 := 126) (x := (-12)) rfl rfl (by decide) ?_
                          exact te_iret rfl rfl ⟨hI, f0, _, rfl, Or.inl ⟨by omega, y5, y24, y10, y27, e5, e24, e10, e27, (by unfold cpT; (repeat' split) <;> first | (exfalso; omega) | rfl)⟩, (fun hy => absurd hy (by rw [(show Int32.toInt (-12) = (-12) from rfl)]; decide)), (fun s i hs hi hn => rfl)⟩
          · refine te_bipush (p2 := 61) (x := (-13)) rfl rfl (by decide) ?_
            obtain ⟨v54, e54, y54, w54, a54, b54, _⟩ := hI.2.1 193 x1.toInt.toNat (.inl (0, 40, 9999999999)) (tq_row rfl (by omega))
            subst w54
            obtain ⟨v55, e55, y55, w55, a55, b55, _⟩ := hI.2.1 193 x3.toInt.toNat (.inl (0, 40, 9999999999)) (tq_row rfl (by omega))
            subst w55
            exact te_iret rfl rfl ⟨hI, f0, _, rfl, Or.inl ⟨by omega, y5, y54, y10, y55, e5, e54, e10, e55, (by unfold cpT; (repeat' split) <;> first | (exfalso; omega) | rfl)⟩, (fun hy => absurd hy (by rw [(show Int32.toInt (-13) = (-13) from rfl)]; decide)), (fun s i hs hi hn => rfl)⟩
        · refine te_bipush (p2 := 43) (x := (-11)) rfl rfl (by decide) ?_
          obtain ⟨v56, e56, y56, w56, a56, b56, _⟩ := hI.2.1 193 x1.toInt.toNat (.inl (0, 40, 9999999999)) (tq_row rfl (by omega))
          subst w56
          obtain ⟨v57, e57, y57, w57, a57, b57, _⟩ := hI.2.1 193 x3.toInt.toNat (.inl (0, 40, 9999999999)) (tq_row rfl (by omega))
          subst w57
          exact te_iret rfl rfl ⟨hI, f0, _, rfl, Or.inl ⟨by omega, y5, y56, y10, y57, e5, e56, e10, e57, (by unfold cpT; (repeat' split) <;> first | (exfalso; omega) | rfl)⟩, (fun hy => absurd hy (by rw [(show Int32.toInt (-11) = (-11) from rfl)]; decide)), (fun s i hs hi hn => rfl)⟩
    · subst w3
      have cc3_1 := (show Int32.toInt 0 = 0 from rfl)
      have cc3_2 := (show Int32.toInt 3 = 3 from rfl)
      refine tz_ne (p2 := 18) rfl rfl (show Int32.toInt 0 = 0 from rfl) (fun c58 => absurd c58 (by omega)) (fun c58 => ?_)
      refine te_bipush (p2 := 20) (x := (-2)) rfl rfl (by decide) ?_
      exact te_iret rfl rfl ⟨hI, f0, _, rfl, Or.inr ⟨by omega, rfl⟩, (fun hy => absurd hy (by rw [(show Int32.toInt (-2) = (-2) from rfl)]; decide)), (fun s i hs hi hn => rfl)⟩
  · subst w1
    have cc1_1 := (show Int32.toInt 0 = 0 from rfl)
    have cc1_2 := (show Int32.toInt 3 = 3 from rfl)
    refine tz_eq (p2 := 9) rfl rfl (show Int32.toInt 0 = 0 from rfl) (fun c59 => ?_) (fun c59 => absurd c59 (by omega))
    refine te_bipush (p2 := 20) (x := (-2)) rfl rfl (by decide) ?_
    exact te_iret rfl rfl ⟨hI, f0, _, rfl, Or.inr ⟨by omega, rfl⟩, (fun hy => absurd hy (by rw [(show Int32.toInt (-2) = (-2) from rfl)]; decide)), (fun s i hs hi hn => rfl)⟩
def vl (h : im_H) (c o i : Nat) : Int32 := if i < 40 then (match rd h c (o + i) with | some (.int v) => v | _ => 0) else 0
theorem vl_of {h : im_H} {c o i : Nat} {a : Int32} (hi : i < 40) (e : rd h c (o + i) = some (.int a)) : vl h c o i = a := by
  unfold vl
  rw [if_pos hi, e]
theorem add_nw {a b z : Int32} (e : a + b = z) (hb : 0 ≤ b.toInt) : 0 ≤ a.toInt → z.toInt = a.toInt + b.toInt ∨ (z.toInt = a.toInt + b.toInt - 4294967296 ∧ 2147483648 ≤ a.toInt + b.toInt) := by
  intro ha
  have h1 := i32_hi a
  have h2 := i32_hi b
  rw [← e, Int32.toInt_add]
  by_cases h : a.toInt + b.toInt < 2147483648
  · exact Or.inl (by rw [Int.bmod_def]; omega)
  · exact Or.inr (by rw [Int.bmod_def]; omega)
noncomputable def ppF (F : Nat → Int32) (fr sz : Int) : Nat → Nat → Int32 → Ct → Dy → Int32 × Ct × Dy
  | 0, _, came, c, A => (came, c, A)
  | m + 1, k, came, c, A => if 0 ≤ fr ∧ fr + 4 * k + 4 ≤ sz then ppF F fr sz m (k + 1) (if 0 ≤ (person_f (F (fr.toNat + 4 * k)) (F (fr.toNat + 4 * k + 1)) (F (fr.toNat + 4 * k + 2)) (F (fr.toNat + 4 * k + 3)) c A).1.toInt then came + 1 else came) (person_f (F (fr.toNat + 4 * k)) (F (fr.toNat + 4 * k + 1)) (F (fr.toNat + 4 * k + 2)) (F (fr.toNat + 4 * k + 3)) c A).2.1 (person_f (F (fr.toNat + 4 * k)) (F (fr.toNat + 4 * k + 1)) (F (fr.toNat + 4 * k + 2)) (F (fr.toNat + 4 * k + 3)) c A).2.2 else (-12, c, A)
theorem ppF_step {F : Nat → Int32} {fr sz : Int} {m m2 k k2 : Nat} {came came2 a b d e y : Int32} {c c2 : Ct} {A A2 : Dy} (hm : m = m2 + 1) (hk : k + 1 = k2) (hc : 0 ≤ fr ∧ fr + 4 * k + 4 ≤ sz) (ha : F (fr.toNat + 4 * k) = a) (hb : F (fr.toNat + 4 * k + 1) = b) (hd : F (fr.toNat + 4 * k + 2) = d) (he : F (fr.toNat + 4 * k + 3) = e) (hq : (y, c2, A2) = person_f a b d e c A) (h1 : 0 ≤ y.toInt → came2 = came + 1) (h2 : ¬ 0 ≤ y.toInt → came2 = came) : ppF F fr sz m2 k2 came2 c2 A2 = ppF F fr sz m k came c A := by
  subst hm hk ha hb hd he
  show _ = ite _ _ _
  rw [if_pos hc, ← hq]
  by_cases h : 0 ≤ y.toInt
  · rw [if_pos h, h1 h]
  · rw [if_neg h, h2 h]
theorem ppF_out {F : Nat → Int32} {fr sz : Int} {m m2 k : Nat} {came : Int32} {c : Ct} {A : Dy} (hm : m = m2 + 1) (hc : ¬ (0 ≤ fr ∧ fr + 4 * k + 4 ≤ sz)) : ppF F fr sz m k came c A = (-12, c, A) := by
  subst hm
  exact if_neg hc
theorem ppF_end {F : Nat → Int32} {fr sz : Int} {m k : Nat} {came : Int32} {c : Ct} {A : Dy} (hm : m = 0) : ppF F fr sz m k came c A = (came, c, A) := by
  subst hm
  rfl
noncomputable def people_f (x1 x2 x3 x4 q z : Int32) (F : Nat → Int32) (c : Ct) (A : Dy) : Int32 × Ct × Dy := if 0 ≤ x1.toInt ∧ x1.toInt ≤ 3 ∧ 0 ≤ x2.toInt ∧ x2.toInt ≤ 2 ∧ 0 ≤ x4.toInt ∧ x4.toInt ≤ 10 then (if q.toInt = -1 then (-11, c, A) else if ¬ q.toInt = x2.toInt then (-13, c, A) else ppF F x3.toInt z.toInt x4.toInt.toNat 0 0 c A) else (-2, c, A)
set_option maxRecDepth 20000 in
set_option maxHeartbeats 4000000 in
theorem c_X11_personFrom {s : Nat} {i : Int32} {h : im_H} (hI : tI h) (q_s : s = 140 ∨ s = 142 ∨ s = 144 ∨ s = 146) (p_i0 : 0 ≤ i.toInt) (p_i1 : i.toInt ≤ 36) : CaP 9 108 [.ref 16, .ref (16 + s), .int i] h (fun v h2 => tI h2 ∧ fr F_X11_personFrom h h2 ∧ ∃ y : Int32, v = some (.int y) ∧ ∃ a b c d : Int32, rd h (s + 1) i.toInt.toNat = some (.int a) ∧ rd h (s + 1) (i.toInt.toNat + 1) = some (.int b) ∧ rd h (s + 1) (i.toInt.toNat + 2) = some (.int c) ∧ rd h (s + 1) (i.toInt.toNat + 3) = some (.int d) ∧ (y, cX h2, absX h2 23) = person_f a b c d (cX h) (absX h 23)) := by
  refine cap_of (d := 8) (M := mX11_personFrom) rfl (Nat.le_of_ble_eq_true rfl) ?_
  show EvP im_K0 8 mX11_personFrom (0, [(0, .ref 16), (1, .ref (16 + s)), (2, .int i)], [], h) _
  have f0 : fr F_X11_personFrom h h := fr_rf
  refine te_aload_n (p2 := 1) rfl rfl rfl ?_
  refine te_aload_n (p2 := 2) rfl rfl rfl ?_
  refine tg_r (p2 := 5) (i := s) (r := (16 + (s + 1))) rfl rfl hI rfl (by rcases q_s with rfl | rfl | rfl | rfl <;> rfl) (by rcases q_s with rfl | rfl | rfl | rfl <;> rfl) ?_
  refine te_iload_n (p2 := 6) rfl rfl rfl ?_
  refine tl_i (p2 := 7) (i := (s + 1)) (n := 40) rfl rfl hI rfl (by rcases q_s with rfl | rfl | rfl | rfl <;> rfl) (by rcases q_s with rfl | rfl | rfl | rfl <;> rfl) rfl (by omega) (by omega) (fun y1 a1 b1 g1 e1 => ?_)
  refine te_aload_n (p2 := 8) rfl rfl rfl ?_
  refine tg_r (p2 := 11) (i := s) (r := (16 + (s + 1))) rfl rfl hI rfl (by rcases q_s with rfl | rfl | rfl | rfl <;> rfl) (by rcases q_s with rfl | rfl | rfl | rfl <;> rfl) ?_
  refine te_iload_n (p2 := 12) rfl rfl rfl ?_
  refine te_iconst (p2 := 13) (x := 1) rfl rfl (by decide) ?_
  refine ar_add (p2 := 14) rfl rfl rfl (show Int32.toInt 1 = 1 from rfl) (by omega) (by omega) (fun z2 e2 f2 => ?_)
  refine tl_i (p2 := 15) (i := (s + 1)) (n := 40) rfl rfl hI rfl (by rcases q_s with rfl | rfl | rfl | rfl <;> rfl) (by rcases q_s with rfl | rfl | rfl | rfl <;> rfl) rfl (by omega) (by omega) (fun y3 a3 b3 g3 e3 => ?_)
  refine te_aload_n (p2 := 16) rfl rfl rfl ?_
  refine tg_r (p2 := 19) (i := s) (r := (16 + (s + 1))) rfl rfl hI rfl (by rcases q_s with rfl | rfl | rfl | rfl <;> rfl) (by rcases q_s with rfl | rfl | rfl | rfl <;> rfl) ?_
  refine te_iload_n (p2 := 20) rfl rfl rfl ?_
  refine te_iconst (p2 := 21) (x := 2) rfl rfl (by decide) ?_
  refine ar_add (p2 := 22) rfl rfl rfl (show Int32.toInt 2 = 2 from rfl) (by omega) (by omega) (fun z4 e4 f4 => ?_)
  refine tl_i (p2 := 23) (i := (s + 1)) (n := 40) rfl rfl hI rfl (by rcases q_s with rfl | rfl | rfl | rfl <;> rfl) (by rcases q_s with rfl | rfl | rfl | rfl <;> rfl) rfl (by omega) (by omega) (fun y5 a5 b5 g5 e5 => ?_)
  refine te_aload_n (p2 := 24) rfl rfl rfl ?_
  refine tg_r (p2 := 27) (i := s) (r := (16 + (s + 1))) rfl rfl hI rfl (by rcases q_s with rfl | rfl | rfl | rfl <;> rfl) (by rcases q_s with rfl | rfl | rfl | rfl <;> rfl) ?_
  refine te_iload_n (p2 := 28) rfl rfl rfl ?_
  refine te_iconst (p2 := 29) (x := 3) rfl rfl (by decide) ?_
  refine ar_add (p2 := 30) rfl rfl rfl (show Int32.toInt 3 = 3 from rfl) (by omega) (by omega) (fun z6 e6 f6 => ?_)
  refine tl_i (p2 := 31) (i := (s + 1)) (n := 40) rfl rfl hI rfl (by rcases q_s with rfl | rfl | rfl | rfl <;> rfl) (by rcases q_s with rfl | rfl | rfl | rfl <;> rfl) rfl (by omega) (by omega) (fun y7 a7 b7 g7 e7 => ?_)
  refine tc_V (p2 := 34) (i := 0) rfl rfl rfl rfl hI rfl rfl rfl (c_X11_person (x1 := y1) (x2 := y3) (x3 := y5) (x4 := y7) hI ) (by decide) (fun v8 h8 hq8 => ?_)
  obtain ⟨I8, g8, y8, w8, Q8⟩ := hq8
  subst w8
  have f8 := fr_tr (F1 := F_X11_person) (F := F_X11_personFrom) f0 g8 (by decide)
  show EvP _ _ _ (34, [(0, .ref 16), (1, .ref (16 + s)), (2, .int i)], [.int y8], h8) _
  exact te_iret rfl rfl ⟨I8, f8, _, rfl, y1, y3, y5, y7, e1, (by rw [show i.toInt.toNat + 1 = z2.toInt.toNat by omega]; exact e3), (by rw [show i.toInt.toNat + 2 = z4.toInt.toNat by omega]; exact e5), (by rw [show i.toInt.toNat + 3 = z6.toInt.toNat by omega]; exact e7), Q8⟩
abbrev Q1_people (x1 x2 x3 x4 : Int32) (y : Int32) (h h2 : im_H) : Prop := (y, cX h2, absX h2 23) = people_f x1 x2 x3 x4 (rv h (140 + 2 * x1.toInt.toNat) 0) (rv h (140 + 2 * x1.toInt.toNat) 1) (vl h (141 + 2 * x1.toInt.toNat) 0) (cX h) (absX h 23)
set_option maxRecDepth 20000 in
set_option maxHeartbeats 4000000 in
theorem c_X11_people {x1 : Int32} {x2 : Int32} {x3 : Int32} {x4 : Int32} {h : im_H} (hI : tI h)  : CaP 10 107 [.ref 16, .int x1, .int x2, .int x3, .int x4] h (fun v h2 => tI h2 ∧ fr F_X11_people h h2 ∧ ∃ y : Int32, v = some (.int y) ∧ Q1_people x1 x2 x3 x4 y h h2) := by
  refine cap_of (d := 9) (M := mX11_people) rfl (Nat.le_of_ble_eq_true rfl) ?_
  show EvP im_K0 9 mX11_people (0, [(0, .ref 16), (1, .int x1), (2, .int x2), (3, .int x3), (4, .int x4)], [], h) _
  have f0 : fr F_X11_people h h := fr_rf
  refine te_iload_n (p2 := 1) rfl rfl rfl ?_
  refine te_iconst (p2 := 2) (x := 4) rfl rfl (by decide) ?_
  refine cS_pI (p2 := 5) rfl rfl rfl rfl (t_X11_within (n := x1) (b := 4) hI ) (by decide) (fun y1 r1 => ?_)
  rcases r1 with ⟨w1, c1⟩ | ⟨w1, c1⟩
  · subst w1
    have cc1_1 := (show Int32.toInt 4 = 4 from rfl)
    refine tz_eq (p2 := 8) rfl rfl (show Int32.toInt 1 = 1 from rfl) (fun c2 => absurd c2 (by omega)) (fun c2 => ?_)
    refine te_iload_n (p2 := 9) rfl rfl rfl ?_
    refine te_iconst (p2 := 10) (x := 3) rfl rfl (by decide) ?_
    refine cS_pI (p2 := 13) rfl rfl rfl rfl (t_X11_within (n := x2) (b := 3) hI ) (by decide) (fun y3 r3 => ?_)
    rcases r3 with ⟨w3, c3⟩ | ⟨w3, c3⟩
    · subst w3
      have cc3_1 := (show Int32.toInt 3 = 3 from rfl)
      refine tz_eq (p2 := 16) rfl rfl (show Int32.toInt 1 = 1 from rfl) (fun c4 => absurd c4 (by omega)) (fun c4 => ?_)
      refine te_iload (p2 := 18) rfl rfl rfl ?_
      refine te_iconst (p2 := 19) (x := 0) rfl rfl (by decide) ?_
      refine te_bipush (p2 := 21) (x := 10) rfl rfl (by decide) ?_
      refine cS_pI (p2 := 24) rfl rfl rfl rfl (t_X11_between (n := x4) (a := 0) (b := 10) hI ) (by decide) (fun y5 r5 => ?_)
      rcases r5 with ⟨w5, c5⟩ | ⟨w5, c5⟩
      · subst w5
        have cc5_1 := (show Int32.toInt 0 = 0 from rfl)
        have cc5_2 := (show Int32.toInt 10 = 10 from rfl)
        refine tz_ne (p2 := 27) rfl rfl (show Int32.toInt 1 = 1 from rfl) (fun c6 => ?_) (fun c6 => absurd c6 (by omega))
        refine te_aload_n (p2 := 31) rfl rfl rfl ?_
        refine tg_r (p2 := 34) (i := 0) (r := 113) rfl rfl hI rfl rfl rfl ?_
        refine te_iload_n (p2 := 35) rfl rfl rfl ?_
        refine tl_f (p2 := 36) (i := 97) (n := 4) (c0 := 140) (sp := 2) rfl rfl hI rfl rfl (by decide) rq_97 (by omega) (by omega) (fun o7 w7 => ?_)
        have q7 : o7 = 140 ∨ o7 = 142 ∨ o7 = 144 ∨ o7 = 146 := by omega
        refine te_astore (p2 := 38) (lv2 := [(5, .ref (16 + o7)), (0, .ref 16), (1, .int x1), (2, .int x2), (3, .int x3), (4, .int x4)]) rfl rfl (by decide) rfl ?_
        refine te_aload (p2 := 40) rfl rfl rfl ?_
        refine cV_pI (p2 := 43) (i := o7) rfl rfl rfl rfl hI rfl (by rcases q7 with rfl | rfl | rfl | rfl <;> rfl) rfl (c_X8_isMissing (s := o7) hI q7) (by decide) (fun y8 r8 => ?_)
        obtain ⟨p8, e8, r8⟩ := r8
        rcases r8 with ⟨w8_, c8⟩ | ⟨w8_, c8⟩
        · subst w8_
          refine tz_eq (p2 := 46) rfl rfl (show Int32.toInt 1 = 1 from rfl) (fun c9 => absurd c9 (by omega)) (fun c9 => ?_)
          refine te_bipush (p2 := 48) (x := (-11)) rfl rfl (by decide) ?_
          obtain ⟨v10, e10, y10, w10, a10, b10, _⟩ := hI.2.1 o7 1 (.inl (0, 40, 9999999999)) (by rcases q7 with rfl | rfl | rfl | rfl <;> rfl)
          subst w10
          exact te_iret rfl rfl ⟨hI, f0, _, rfl, (by show ((-11), cX h, absX h 23) = _; unfold people_f; rw [if_pos (by omega), (show rv h (140 + 2 * x1.toInt.toNat) 0 = p8 from (by rw [show 140 + 2 * x1.toInt.toNat = o7 by omega]; exact rv_of e8)), if_pos (by omega)])⟩
        · subst w8_
          refine tz_eq (p2 := 46) rfl rfl (show Int32.toInt 0 = 0 from rfl) (fun c11 => ?_) (fun c11 => absurd c11 (by omega))
          refine te_aload (p2 := 51) rfl rfl rfl ?_
          refine tg_e (p2 := 54) (i := o7) (v := .int p8) rfl rfl hI rfl (by rcases q7 with rfl | rfl | rfl | rfl <;> rfl) e8 ?_
          refine te_iload_n (p2 := 55) rfl rfl rfl ?_
          refine tb_eq (p2 := 58) rfl rfl rfl rfl (fun c12 => ?_) (fun c12 => ?_)
          · refine te_iconst (p2 := 62) (x := 0) rfl rfl (by decide) ?_
            refine te_istore (p2 := 64) (lv2 := [(6, .int 0), (5, .ref (16 + o7)), (0, .ref 16), (1, .int x1), (2, .int x2), (3, .int x3), (4, .int x4)]) rfl rfl (by decide) rfl ?_
            refine te_iconst (p2 := 65) (x := 1) rfl rfl (by decide) ?_
            refine te_istore (p2 := 67) (lv2 := [(7, .int 1), (6, .int 0), (5, .ref (16 + o7)), (0, .ref 16), (1, .int x1), (2, .int x2), (3, .int x3), (4, .int x4)]) rfl rfl (by decide) rfl ?_
            obtain ⟨v13, e13, y13, w13, a13, b13, _⟩ := hI.2.1 o7 1 (.inl (0, 40, 9999999999)) (by rcases q7 with rfl | rfl | rfl | rfl <;> rfl)
            subst w13
            have lp14 : ∀ (n14 : Nat) (v14_6 v14_7 : Int32) (h14 : im_H), tI h14 → fr F_X11_people h h14 → 1 ≤ v14_7.toInt → v14_7.toInt ≤ 11 → v14_7.toInt ≤ x4.toInt + 1 → (ppF (vl h (141 + 2 * x1.toInt.toNat) 0) x3.toInt y13.toInt (x4.toInt.toNat + 1 - v14_7.toInt.toNat) (v14_7.toInt.toNat - 1) v14_6 (cX h14) (absX h14 23) = ppF (vl h (141 + 2 * x1.toInt.toNat) 0) x3.toInt y13.toInt x4.toInt.toNat 0 0 (cX h) (absX h 23)) → 11 - v14_7.toInt < (n14 : Int) → EvP im_K0 9 mX11_people (67, [(0, .ref 16), (1, .int x1), (2, .int x2), (3, .int x3), (4, .int x4), (5, .ref (16 + o7)), (6, .int v14_6), (7, .int v14_7)], [], h14) (fun v h2 => tI h2 ∧ fr F_X11_people h h2 ∧ ∃ y : Int32, v = some (.int y) ∧ Q1_people x1 x2 x3 x4 y h h2) := by
              intro n14
              induction n14 with
              | zero => intro v14_6 v14_7 h14 I14 f14 a14_7 b14_7 l14_0 w14_0 m14; exfalso; omega
              | succ n14 ih14 =>
                intro v14_6 v14_7 h14 I14 f14 a14_7 b14_7 l14_0 w14_0 m14
                refine te_iload (p2 := 69) rfl rfl rfl ?_
                refine te_iload (p2 := 71) rfl rfl rfl ?_
                refine tb_gt (p2 := 74) rfl rfl rfl rfl (fun c15 => ?_) (fun c15 => ?_)
                · refine te_iload (p2 := 118) rfl rfl rfl ?_
                  exact te_iret rfl rfl ⟨I14, f14, _, rfl, (by show (v14_6, cX h14, absX h14 23) = _; unfold people_f; rw [if_pos (by omega), (show rv h (140 + 2 * x1.toInt.toNat) 0 = p8 from (by rw [show 140 + 2 * x1.toInt.toNat = o7 by omega]; exact rv_of e8)), if_neg (by omega), if_neg (by omega), (show rv h (140 + 2 * x1.toInt.toNat) 1 = y13 from (by rw [show 140 + 2 * x1.toInt.toNat = o7 by omega]; exact rv_of e13))]; exact (w14_0.symm.trans (ppF_end (by omega))).symm)⟩
                · refine te_aload (p2 := 76) rfl rfl rfl ?_
                  refine te_iload_n (p2 := 77) rfl rfl rfl ?_
                  refine te_iconst (p2 := 78) (x := 4) rfl rfl (by decide) ?_
                  refine te_iload (p2 := 80) rfl rfl rfl ?_
                  refine ar_mul (p2 := 81) rfl rfl (show Int32.toInt 4 = 4 from rfl) rfl (by omega) (by omega) (fun z16 e16 f16 => ?_)
                  refine cV_pI (p2 := 84) (i := o7) rfl rfl rfl rfl I14 rfl (by rcases q7 with rfl | rfl | rfl | rfl <;> rfl) rfl (t_X8_holds (s := o7) (i := x3) (n := z16) I14 q7) (by decide) (fun y17 r17 => ?_)
                  obtain ⟨p17, e17, a17, b17, r17⟩ := r17
                  have w17 : p17 = y13 := Value.int.inj (Option.some.inj (e17.symm.trans ((f14 _ _ (by rcases q7 with rfl | rfl | rfl | rfl <;> rfl)).trans e13)))
                  rw [w17] at r17
                  rcases r17 with ⟨w17, c17⟩ | ⟨w17, c17⟩
                  · subst w17
                    refine tz_ne (p2 := 87) rfl rfl (show Int32.toInt 1 = 1 from rfl) (fun c18 => ?_) (fun c18 => absurd c18 (by omega))
                    refine te_aload_n (p2 := 91) rfl rfl rfl ?_
                    refine te_aload (p2 := 93) rfl rfl rfl ?_
                    refine te_iload_n (p2 := 94) rfl rfl rfl ?_
                    refine te_iconst (p2 := 95) (x := 4) rfl rfl (by decide) ?_
                    refine te_iload (p2 := 97) rfl rfl rfl ?_
                    refine te_iconst (p2 := 98) (x := 1) rfl rfl (by decide) ?_
                    refine ar_sub (p2 := 99) rfl rfl rfl (show Int32.toInt 1 = 1 from rfl) (by omega) (by omega) (fun z19 e19 f19 => ?_)
                    refine ar_mul (p2 := 100) rfl rfl (show Int32.toInt 4 = 4 from rfl) rfl (by omega) (by omega) (fun z20 e20 f20 => ?_)
                    refine ar_add (p2 := 101) rfl rfl rfl rfl (by omega) (by omega) (fun z21 e21 f21 => ?_)
                    refine tc_V (p2 := 104) (i := 0) rfl rfl rfl rfl I14 rfl rfl rfl (c_X11_personFrom (s := o7) (i := z21) I14 q7 (by omega) (by omega)) (by decide) (fun v22 h22 hq22 => ?_)
                    obtain ⟨I22, g22, y22, w22, pa22, pb22, pc22, pd22, ea22, eb22, ec22, ed22, Q22⟩ := hq22
                    subst w22
                    have f22 := fr_tr (F1 := F_X11_personFrom) (F := F_X11_people) f14 g22 (by decide)
                    show EvP _ _ _ (104, [(0, .ref 16), (1, .int x1), (2, .int x2), (3, .int x3), (4, .int x4), (5, .ref (16 + o7)), (6, .int v14_6), (7, .int v14_7)], [.int y22], h22) _
                    refine tz_lt (p2 := 107) rfl rfl rfl (fun c23 => ?_) (fun c23 => ?_)
                    · refine ar_inc (p2 := 113) (x := v14_7) rfl rfl (by decide) rfl (by decide) rfl (by omega) (by omega) (fun z24 e24 f24 => ?_)
                      show EvP _ _ _ (113, [(7, .int z24), (0, .ref 16), (1, .int x1), (2, .int x2), (3, .int x3), (4, .int x4), (5, .ref (16 + o7)), (6, .int v14_6)], [], h22) _
                      refine te_goto rfl ?_
                      refine te_lv [(0, .ref 16), (1, .int x1), (2, .int x2), (3, .int x3), (4, .int x4), (5, .ref (16 + o7)), (6, .int v14_6), (7, .int z24)] rfl rfl ⟨rfl, rfl, rfl, rfl, rfl, rfl, rfl, rfl, trivial⟩ ?_
                      exact ih14 v14_6 z24 h22 I22 f22 (by omega) (by omega) (by omega) ((ppF_step (by omega) (by omega) (by omega) (vl_of (by omega) (by rw [show 141 + 2 * x1.toInt.toNat = o7 + 1 by omega, show 0 + (x3.toInt.toNat + 4 * (v14_7.toInt.toNat - 1)) = z21.toInt.toNat by omega]; exact (f14 _ _ (by rcases q7 with rfl | rfl | rfl | rfl <;> rfl)).symm.trans ea22)) (vl_of (by omega) (by rw [show 141 + 2 * x1.toInt.toNat = o7 + 1 by omega, show 0 + (x3.toInt.toNat + 4 * (v14_7.toInt.toNat - 1) + 1) = z21.toInt.toNat + 1 by omega]; exact (f14 _ _ (by rcases q7 with rfl | rfl | rfl | rfl <;> rfl)).symm.trans eb22)) (vl_of (by omega) (by rw [show 141 + 2 * x1.toInt.toNat = o7 + 1 by omega, show 0 + (x3.toInt.toNat + 4 * (v14_7.toInt.toNat - 1) + 2) = z21.toInt.toNat + 2 by omega]; exact (f14 _ _ (by rcases q7 with rfl | rfl | rfl | rfl <;> rfl)).symm.trans ec22)) (vl_of (by omega) (by rw [show 141 + 2 * x1.toInt.toNat = o7 + 1 by omega, show 0 + (x3.toInt.toNat + 4 * (v14_7.toInt.toNat - 1) + 3) = z21.toInt.toNat + 3 by omega]; exact (f14 _ _ (by rcases q7 with rfl | rfl | rfl | rfl <;> rfl)).symm.trans ed22)) Q22 (fun h9 => absurd h9 (by omega)) (fun _ => rfl)).trans w14_0) (by omega)
                    · refine au_inc (p2 := 110) (x := v14_6) rfl rfl (by decide) rfl (fun z25 e25 => ?_)
                      show EvP _ _ _ (110, [(6, .int z25), (0, .ref 16), (1, .int x1), (2, .int x2), (3, .int x3), (4, .int x4), (5, .ref (16 + o7)), (7, .int v14_7)], [], h22) _
                      refine ar_inc (p2 := 113) (x := v14_7) rfl rfl (by decide) rfl (by decide) rfl (by omega) (by omega) (fun z26 e26 f26 => ?_)
                      show EvP _ _ _ (113, [(7, .int z26), (6, .int z25), (0, .ref 16), (1, .int x1), (2, .int x2), (3, .int x3), (4, .int x4), (5, .ref (16 + o7))], [], h22) _
                      refine te_goto rfl ?_
                      refine te_lv [(0, .ref 16), (1, .int x1), (2, .int x2), (3, .int x3), (4, .int x4), (5, .ref (16 + o7)), (6, .int z25), (7, .int z26)] rfl rfl ⟨rfl, rfl, rfl, rfl, rfl, rfl, rfl, rfl, trivial⟩ ?_
                      exact ih14 z25 z26 h22 I22 f22 (by omega) (by omega) (by omega) ((ppF_step (by omega) (by omega) (by omega) (vl_of (by omega) (by rw [show 141 + 2 * x1.toInt.toNat = o7 + 1 by omega, show 0 + (x3.toInt.toNat + 4 * (v14_7.toInt.toNat - 1)) = z21.toInt.toNat by omega]; exact (f14 _ _ (by rcases q7 with rfl | rfl | rfl | rfl <;> rfl)).symm.trans ea22)) (vl_of (by omega) (by rw [show 141 + 2 * x1.toInt.toNat = o7 + 1 by omega, show 0 + (x3.toInt.toNat + 4 * (v14_7.toInt.toNat - 1) + 1) = z21.toInt.toNat + 1 by omega]; exact (f14 _ _ (by rcases q7 with rfl | rfl | rfl | rfl <;> rfl)).symm.trans eb22)) (vl_of (by omega) (by rw [show 141 + 2 * x1.toInt.toNat = o7 + 1 by omega, show 0 + (x3.toInt.toNat + 4 * (v14_7.toInt.toNat - 1) + 2) = z21.toInt.toNat + 2 by omega]; exact (f14 _ _ (by rcases q7 with rfl | rfl | rfl | rfl <;> rfl)).symm.trans ec22)) (vl_of (by omega) (by rw [show 141 + 2 * x1.toInt.toNat = o7 + 1 by omega, show 0 + (x3.toInt.toNat + 4 * (v14_7.toInt.toNat - 1) + 3) = z21.toInt.toNat + 3 by omega]; exact (f14 _ _ (by rcases q7 with rfl | rfl | rfl | rfl <;> rfl)).symm.trans ed22)) Q22 (fun _ => e25.symm) (fun h9 => absurd (by omega) h9)).trans w14_0) (by omega)
                  · subst w17
                    refine tz_ne (p2 := 87) rfl rfl (show Int32.toInt 0 = 0 from rfl) (fun c27 => absurd c27 (by omega)) (fun c27 => ?_)
                    refine te_bipush (p2 := 89) (x := (-12)) rfl rfl (by decide) ?_
                    exact te_iret rfl rfl ⟨I14, f14, _, rfl, (by show ((-12), cX h14, absX h14 23) = _; unfold people_f; rw [if_pos (by omega), (show rv h (140 + 2 * x1.toInt.toNat) 0 = p8 from (by rw [show 140 + 2 * x1.toInt.toNat = o7 by omega]; exact rv_of e8)), if_neg (by omega), if_neg (by omega), (show rv h (140 + 2 * x1.toInt.toNat) 1 = y13 from (by rw [show 140 + 2 * x1.toInt.toNat = o7 by omega]; exact rv_of e13))]; exact (w14_0.symm.trans (ppF_out (m2 := x4.toInt.toNat - v14_7.toInt.toNat) (by omega) (by omega))).symm)⟩
            refine te_lv [(0, .ref 16), (1, .int x1), (2, .int x2), (3, .int x3), (4, .int x4), (5, .ref (16 + o7)), (6, .int 0), (7, .int 1)] rfl rfl ⟨rfl, rfl, rfl, rfl, rfl, rfl, rfl, rfl, trivial⟩ ?_
            exact lp14 12 0 1 h hI f0 (by decide) (by decide) (by have cc0 := (show Int32.toInt 0 = 0 from rfl); have cc1 := (show Int32.toInt 1 = 1 from rfl); omega) rfl (by have cc0 := (show Int32.toInt 0 = 0 from rfl); have cc1 := (show Int32.toInt 1 = 1 from rfl); omega)
          · refine te_bipush (p2 := 60) (x := (-13)) rfl rfl (by decide) ?_
            obtain ⟨v28, e28, y28, w28, a28, b28, _⟩ := hI.2.1 o7 1 (.inl (0, 40, 9999999999)) (by rcases q7 with rfl | rfl | rfl | rfl <;> rfl)
            subst w28
            exact te_iret rfl rfl ⟨hI, f0, _, rfl, (by show ((-13), cX h, absX h 23) = _; unfold people_f; rw [if_pos (by omega), (show rv h (140 + 2 * x1.toInt.toNat) 0 = p8 from (by rw [show 140 + 2 * x1.toInt.toNat = o7 by omega]; exact rv_of e8)), if_neg (by omega), if_pos (by omega)])⟩
      · subst w5
        have cc5_1 := (show Int32.toInt 0 = 0 from rfl)
        have cc5_2 := (show Int32.toInt 10 = 10 from rfl)
        refine tz_ne (p2 := 27) rfl rfl (show Int32.toInt 0 = 0 from rfl) (fun c29 => absurd c29 (by omega)) (fun c29 => ?_)
        refine te_bipush (p2 := 29) (x := (-2)) rfl rfl (by decide) ?_
        exact te_iret rfl rfl ⟨hI, f0, _, rfl, (by show ((-2), cX h, absX h 23) = _; unfold people_f; rw [if_neg (by omega)])⟩
    · subst w3
      have cc3_1 := (show Int32.toInt 3 = 3 from rfl)
      refine tz_eq (p2 := 16) rfl rfl (show Int32.toInt 0 = 0 from rfl) (fun c30 => ?_) (fun c30 => absurd c30 (by omega))
      refine te_bipush (p2 := 29) (x := (-2)) rfl rfl (by decide) ?_
      exact te_iret rfl rfl ⟨hI, f0, _, rfl, (by show ((-2), cX h, absX h 23) = _; unfold people_f; rw [if_neg (by omega)])⟩
  · subst w1
    have cc1_1 := (show Int32.toInt 4 = 4 from rfl)
    refine tz_eq (p2 := 8) rfl rfl (show Int32.toInt 0 = 0 from rfl) (fun c31 => ?_) (fun c31 => absurd c31 (by omega))
    refine te_bipush (p2 := 29) (x := (-2)) rfl rfl (by decide) ?_
    exact te_iret rfl rfl ⟨hI, f0, _, rfl, (by show ((-2), cX h, absX h 23) = _; unfold people_f; rw [if_neg (by omega)])⟩
abbrev Q2_people (x1 x2 x3 x4 : Int32) (y : Int32) (h h2 : im_H) : Prop := (y, cM h2, absM h2) = people_f x1 x2 x3 x4 (rv h 192 x1.toInt.toNat) (rv h 193 x1.toInt.toNat) (vl h 194 (40 * x1.toInt.toNat)) (cM h) (absM h)
set_option maxRecDepth 20000 in
set_option maxHeartbeats 4000000 in
theorem c_X12_people {x1 : Int32} {x2 : Int32} {x3 : Int32} {x4 : Int32} {h : im_H} (hI : tI h)  : CaP 10 194 [.ref 164, .int x1, .int x2, .int x3, .int x4] h (fun v h2 => tI h2 ∧ fr F_X12_people h h2 ∧ ∃ y : Int32, v = some (.int y) ∧ Q2_people x1 x2 x3 x4 y h h2) := by
  refine cap_of (d := 9) (M := mX12_people) rfl (Nat.le_of_ble_eq_true rfl) ?_
  show EvP im_K0 9 mX12_people (0, [(0, .ref 164), (1, .int x1), (2, .int x2), (3, .int x3), (4, .int x4)], [], h) _
  have f0 : fr F_X12_people h h := fr_rf
  refine te_iload_n (p2 := 1) rfl rfl rfl ?_
  refine te_iconst (p2 := 2) (x := 0) rfl rfl (by decide) ?_
  refine te_iconst (p2 := 3) (x := 3) rfl rfl (by decide) ?_
  refine cS_pI (p2 := 6) rfl rfl rfl rfl (t_X12_in (n := x1) (a := 0) (b := 3) hI ) (by decide) (fun y1 r1 => ?_)
  rcases r1 with ⟨w1, c1⟩ | ⟨w1, c1⟩
  · subst w1
    have cc1_1 := (show Int32.toInt 0 = 0 from rfl)
    have cc1_2 := (show Int32.toInt 3 = 3 from rfl)
    refine tz_eq (p2 := 9) rfl rfl (show Int32.toInt 1 = 1 from rfl) (fun c2 => absurd c2 (by omega)) (fun c2 => ?_)
    refine te_iload_n (p2 := 10) rfl rfl rfl ?_
    refine te_iconst (p2 := 11) (x := 0) rfl rfl (by decide) ?_
    refine te_iconst (p2 := 12) (x := 2) rfl rfl (by decide) ?_
    refine cS_pI (p2 := 15) rfl rfl rfl rfl (t_X12_in (n := x2) (a := 0) (b := 2) hI ) (by decide) (fun y3 r3 => ?_)
    rcases r3 with ⟨w3, c3⟩ | ⟨w3, c3⟩
    · subst w3
      have cc3_1 := (show Int32.toInt 0 = 0 from rfl)
      have cc3_2 := (show Int32.toInt 2 = 2 from rfl)
      refine tz_eq (p2 := 18) rfl rfl (show Int32.toInt 1 = 1 from rfl) (fun c4 => absurd c4 (by omega)) (fun c4 => ?_)
      refine te_iload (p2 := 20) rfl rfl rfl ?_
      refine te_iconst (p2 := 21) (x := 0) rfl rfl (by decide) ?_
      refine te_bipush (p2 := 23) (x := 10) rfl rfl (by decide) ?_
      refine cS_pI (p2 := 26) rfl rfl rfl rfl (t_X12_in (n := x4) (a := 0) (b := 10) hI ) (by decide) (fun y5 r5 => ?_)
      rcases r5 with ⟨w5, c5⟩ | ⟨w5, c5⟩
      · subst w5
        have cc5_1 := (show Int32.toInt 0 = 0 from rfl)
        have cc5_2 := (show Int32.toInt 10 = 10 from rfl)
        refine tz_ne (p2 := 29) rfl rfl (show Int32.toInt 1 = 1 from rfl) (fun c6 => ?_) (fun c6 => absurd c6 (by omega))
        refine te_aload_n (p2 := 33) rfl rfl rfl ?_
        refine tg_r (p2 := 36) (i := 148) (r := 208) rfl rfl hI rfl rfl rfl ?_
        refine te_iload_n (p2 := 37) rfl rfl rfl ?_
        refine tl_i (p2 := 38) (i := 192) (n := 4) rfl rfl hI rfl rfl rfl rfl (by omega) (by omega) (fun y7 a7 b7 g7 e7 => ?_)
        refine te_iconst (p2 := 39) (x := (-1)) rfl rfl (by decide) ?_
        refine tb_ne (p2 := 42) rfl rfl rfl (show Int32.toInt (-1) = (-1) from rfl) (fun c8 => ?_) (fun c8 => ?_)
        · refine te_aload_n (p2 := 46) rfl rfl rfl ?_
          refine tg_r (p2 := 49) (i := 148) (r := 208) rfl rfl hI rfl rfl rfl ?_
          refine te_iload_n (p2 := 50) rfl rfl rfl ?_
          refine tl_e (p2 := 51) (i := 192) (n := 4) (t := 0) (Or.inl rfl) rfl rfl hI rfl rfl (by omega) (by omega) e7 ?_
          refine te_iload_n (p2 := 52) rfl rfl rfl ?_
          refine tb_eq (p2 := 55) rfl rfl rfl rfl (fun c10 => ?_) (fun c10 => ?_)
          · refine te_iconst (p2 := 59) (x := 0) rfl rfl (by decide) ?_
            refine te_istore (p2 := 61) (lv2 := [(5, .int 0), (0, .ref 164), (1, .int x1), (2, .int x2), (3, .int x3), (4, .int x4)]) rfl rfl (by decide) rfl ?_
            refine te_iconst (p2 := 62) (x := 0) rfl rfl (by decide) ?_
            refine te_istore (p2 := 64) (lv2 := [(6, .int 0), (5, .int 0), (0, .ref 164), (1, .int x1), (2, .int x2), (3, .int x3), (4, .int x4)]) rfl rfl (by decide) rfl ?_
            obtain ⟨v11, e11, y11, w11, a11, b11, _⟩ := hI.2.1 193 x1.toInt.toNat (.inl (0, 40, 9999999999)) (tq_row rfl (by omega))
            subst w11
            have lp12 : ∀ (n12 : Nat) (v12_5 v12_6 : Int32) (h12 : im_H), tI h12 → fr F_X12_people h h12 → 0 ≤ v12_6.toInt → v12_6.toInt ≤ 10 → v12_6.toInt ≤ x4.toInt + 0 → (ppF (vl h 194 (40 * x1.toInt.toNat)) x3.toInt y11.toInt (x4.toInt.toNat - v12_6.toInt.toNat) v12_6.toInt.toNat v12_5 (cM h12) (absM h12) = ppF (vl h 194 (40 * x1.toInt.toNat)) x3.toInt y11.toInt x4.toInt.toNat 0 0 (cM h) (absM h)) → 10 - v12_6.toInt < (n12 : Int) → EvP im_K0 9 mX12_people (64, [(0, .ref 164), (1, .int x1), (2, .int x2), (3, .int x3), (4, .int x4), (5, .int v12_5), (6, .int v12_6)], [], h12) (fun v h2 => tI h2 ∧ fr F_X12_people h h2 ∧ ∃ y : Int32, v = some (.int y) ∧ Q2_people x1 x2 x3 x4 y h h2) := by
              intro n12
              induction n12 with
              | zero => intro v12_5 v12_6 h12 I12 f12 a12_6 b12_6 l12_0 w12_0 m12; exfalso; omega
              | succ n12 ih12 =>
                intro v12_5 v12_6 h12 I12 f12 a12_6 b12_6 l12_0 w12_0 m12
                refine te_iload (p2 := 66) rfl rfl rfl ?_
                refine te_iload (p2 := 68) rfl rfl rfl ?_
                refine tb_ge (p2 := 71) rfl rfl rfl rfl (fun c13 => ?_) (fun c13 => ?_)
                · refine te_iload (p2 := 173) rfl rfl rfl ?_
                  exact te_iret rfl rfl ⟨I12, f12, _, rfl, (by show (v12_5, cM h12, absM h12) = _; unfold people_f; rw [if_pos (by omega), rv_of e7, if_neg (by omega), if_neg (by omega), rv_of e11]; exact (w12_0.symm.trans (ppF_end (by omega))).symm)⟩
                · refine te_iload_n (p2 := 72) rfl rfl rfl ?_
                  refine te_iconst (p2 := 73) (x := 4) rfl rfl (by decide) ?_
                  refine te_iload (p2 := 75) rfl rfl rfl ?_
                  refine ar_mul (p2 := 76) rfl rfl (show Int32.toInt 4 = 4 from rfl) rfl (by omega) (by omega) (fun z14 e14 f14 => ?_)
                  refine au_add (p2 := 77) rfl rfl (fun z15 e15 => ?_)
                  have aw15 := add_nw e15 (by omega)
                  refine te_istore (p2 := 79) (lv2 := [(7, .int z15), (0, .ref 164), (1, .int x1), (2, .int x2), (3, .int x3), (4, .int x4), (5, .int v12_5), (6, .int v12_6)]) rfl rfl (by decide) rfl ?_
                  refine te_iload_n (p2 := 80) rfl rfl rfl ?_
                  refine tz_lt (p2 := 83) rfl rfl rfl (fun c16 => ?_) (fun c16 => ?_)
                  · refine te_bipush (p2 := 104) (x := (-12)) rfl rfl (by decide) ?_
                    exact te_iret rfl rfl ⟨I12, f12, _, rfl, (by show ((-12), cM h12, absM h12) = _; unfold people_f; rw [if_pos (by omega), rv_of e7, if_neg (by omega), if_neg (by omega), rv_of e11]; exact (w12_0.symm.trans (ppF_out (m2 := x4.toInt.toNat - v12_6.toInt.toNat - 1) (by omega) (by omega))).symm)⟩
                  · refine te_iload (p2 := 85) rfl rfl rfl ?_
                    refine te_iload_n (p2 := 86) rfl rfl rfl ?_
                    refine tb_lt (p2 := 89) rfl rfl rfl rfl (fun c17 => ?_) (fun c17 => ?_)
                    · refine te_bipush (p2 := 104) (x := (-12)) rfl rfl (by decide) ?_
                      exact te_iret rfl rfl ⟨I12, f12, _, rfl, (by show ((-12), cM h12, absM h12) = _; unfold people_f; rw [if_pos (by omega), rv_of e7, if_neg (by omega), if_neg (by omega), rv_of e11]; exact (w12_0.symm.trans (ppF_out (m2 := x4.toInt.toNat - v12_6.toInt.toNat - 1) (by omega) (by omega))).symm)⟩
                    · refine te_iload (p2 := 91) rfl rfl rfl ?_
                      refine te_aload_n (p2 := 92) rfl rfl rfl ?_
                      refine tg_r (p2 := 95) (i := 148) (r := 209) rfl rfl I12 rfl rfl rfl ?_
                      refine te_iload_n (p2 := 96) rfl rfl rfl ?_
                      refine tl_e (p2 := 97) (i := 193) (n := 4) (t := 0) (Or.inl rfl) rfl rfl I12 rfl rfl (by omega) (by omega) ((f12 _ _ rfl).trans e11) ?_
                      refine te_iconst (p2 := 98) (x := 4) rfl rfl (by decide) ?_
                      refine ar_sub (p2 := 99) rfl rfl rfl (show Int32.toInt 4 = 4 from rfl) (by omega) (by omega) (fun z19 e19 f19 => ?_)
                      refine tb_le (p2 := 102) rfl rfl rfl rfl (fun c20 => ?_) (fun c20 => ?_)
                      · refine te_bipush (p2 := 107) (x := 40) rfl rfl (by decide) ?_
                        refine te_iload_n (p2 := 108) rfl rfl rfl ?_
                        refine ar_mul (p2 := 109) rfl rfl (show Int32.toInt 40 = 40 from rfl) rfl (by omega) (by omega) (fun z21 e21 f21 => ?_)
                        refine te_iload (p2 := 111) rfl rfl rfl ?_
                        refine ar_add (p2 := 112) rfl rfl rfl rfl (by omega) (by omega) (fun z22 e22 f22 => ?_)
                        refine te_istore (p2 := 114) (lv2 := [(8, .int z22), (7, .int z15), (0, .ref 164), (1, .int x1), (2, .int x2), (3, .int x3), (4, .int x4), (5, .int v12_5), (6, .int v12_6)]) rfl rfl (by decide) rfl ?_
                        refine te_iload (p2 := 116) rfl rfl rfl ?_
                        refine te_aload_n (p2 := 117) rfl rfl rfl ?_
                        refine te_aload_n (p2 := 118) rfl rfl rfl ?_
                        refine tg_r (p2 := 121) (i := 148) (r := 210) rfl rfl I12 rfl rfl rfl ?_
                        refine te_iload (p2 := 123) rfl rfl rfl ?_
                        refine tl_i (p2 := 124) (i := 194) (n := 160) rfl rfl I12 rfl rfl rfl rfl (by omega) (by omega) (fun y23 a23 b23 g23 e23 => ?_)
                        refine te_aload_n (p2 := 125) rfl rfl rfl ?_
                        refine tg_r (p2 := 128) (i := 148) (r := 210) rfl rfl I12 rfl rfl rfl ?_
                        refine te_iload (p2 := 130) rfl rfl rfl ?_
                        refine te_iconst (p2 := 131) (x := 1) rfl rfl (by decide) ?_
                        refine ar_add (p2 := 132) rfl rfl rfl (show Int32.toInt 1 = 1 from rfl) (by omega) (by omega) (fun z24 e24 f24 => ?_)
                        refine tl_i (p2 := 133) (i := 194) (n := 160) rfl rfl I12 rfl rfl rfl rfl (by omega) (by omega) (fun y25 a25 b25 g25 e25 => ?_)
                        refine te_aload_n (p2 := 134) rfl rfl rfl ?_
                        refine tg_r (p2 := 137) (i := 148) (r := 210) rfl rfl I12 rfl rfl rfl ?_
                        refine te_iload (p2 := 139) rfl rfl rfl ?_
                        refine te_iconst (p2 := 140) (x := 2) rfl rfl (by decide) ?_
                        refine ar_add (p2 := 141) rfl rfl rfl (show Int32.toInt 2 = 2 from rfl) (by omega) (by omega) (fun z26 e26 f26 => ?_)
                        refine tl_i (p2 := 142) (i := 194) (n := 160) rfl rfl I12 rfl rfl rfl rfl (by omega) (by omega) (fun y27 a27 b27 g27 e27 => ?_)
                        refine te_aload_n (p2 := 143) rfl rfl rfl ?_
                        refine tg_r (p2 := 146) (i := 148) (r := 210) rfl rfl I12 rfl rfl rfl ?_
                        refine te_iload (p2 := 148) rfl rfl rfl ?_
                        refine te_iconst (p2 := 149) (x := 3) rfl rfl (by decide) ?_
                        refine ar_add (p2 := 150) rfl rfl rfl (show Int32.toInt 3 = 3 from rfl) (by omega) (by omega) (fun z28 e28 f28 => ?_)
                        refine tl_i (p2 := 151) (i := 194) (n := 160) rfl rfl I12 rfl rfl rfl rfl (by omega) (by omega) (fun y29 a29 b29 g29 e29 => ?_)
                        refine tc_V (p2 := 154) (i := 148) rfl rfl rfl rfl I12 rfl rfl rfl (c_X12_person (x1 := y23) (x2 := y25) (x3 := y27) (x4 := y29) I12 ) (by decide) (fun v30 h30 hq30 => ?_)
                        obtain ⟨I30, g30, y30, w30, Q30⟩ := hq30
                        subst w30
                        have f30 := fr_tr (F1 := F_X12_person) (F := F_X12_people) f12 g30 (by decide)
                        show EvP _ _ _ (154, [(8, .int z22), (7, .int z15), (0, .ref 164), (1, .int x1), (2, .int x2), (3, .int x3), (4, .int x4), (5, .int v12_5), (6, .int v12_6)], [.int y30, .int v12_5], h30) _
                        refine tz_lt (p2 := 157) rfl rfl rfl (fun c31 => ?_) (fun c31 => ?_)
                        · refine te_iconst (p2 := 162) (x := 0) rfl rfl (by decide) ?_
                          have n32_v12_5 := i32_lo v12_5
                          have o32_v12_5 := i32_hi v12_5
                          refine ar_add (p2 := 163) rfl rfl rfl (show Int32.toInt 0 = 0 from rfl) (by omega) (by omega) (fun z32 e32 f32 => ?_)
                          refine te_istore (p2 := 165) (lv2 := [(5, .int z32), (8, .int z22), (7, .int z15), (0, .ref 164), (1, .int x1), (2, .int x2), (3, .int x3), (4, .int x4), (6, .int v12_6)]) rfl rfl (by decide) rfl ?_
                          refine ar_inc (p2 := 168) (x := v12_6) rfl rfl (by decide) rfl (by decide) rfl (by omega) (by omega) (fun z33 e33 f33 => ?_)
                          show EvP _ _ _ (168, [(6, .int z33), (5, .int z32), (8, .int z22), (7, .int z15), (0, .ref 164), (1, .int x1), (2, .int x2), (3, .int x3), (4, .int x4)], [], h30) _
                          refine te_goto rfl ?_
                          refine te_lv [(0, .ref 164), (1, .int x1), (2, .int x2), (3, .int x3), (4, .int x4), (5, .int z32), (6, .int z33)] rfl rfl ⟨rfl, rfl, rfl, rfl, rfl, rfl, rfl, trivial⟩ ?_
                          exact ih12 z32 z33 h30 I30 f30 (by omega) (by omega) (by omega) ((ppF_step (by omega) (by omega) (by omega) (vl_of (by omega) (by rw [show 40 * x1.toInt.toNat + (x3.toInt.toNat + 4 * v12_6.toInt.toNat) = z22.toInt.toNat by omega]; exact (f12 _ _ rfl).symm.trans e23)) (vl_of (by omega) (by rw [show 40 * x1.toInt.toNat + (x3.toInt.toNat + 4 * v12_6.toInt.toNat + 1) = z24.toInt.toNat by omega]; exact (f12 _ _ rfl).symm.trans e25)) (vl_of (by omega) (by rw [show 40 * x1.toInt.toNat + (x3.toInt.toNat + 4 * v12_6.toInt.toNat + 2) = z26.toInt.toNat by omega]; exact (f12 _ _ rfl).symm.trans e27)) (vl_of (by omega) (by rw [show 40 * x1.toInt.toNat + (x3.toInt.toNat + 4 * v12_6.toInt.toNat + 3) = z28.toInt.toNat by omega]; exact (f12 _ _ rfl).symm.trans e29)) Q30 (fun h9 => absurd h9 (by omega)) (fun _ => e32.symm.trans (Int32.add_zero _))).trans w12_0) (by omega)
                        · refine te_iconst (p2 := 158) (x := 1) rfl rfl (by decide) ?_
                          refine te_goto rfl ?_
                          refine au_add (p2 := 163) rfl rfl (fun z34 e34 => ?_)
                          refine te_istore (p2 := 165) (lv2 := [(5, .int z34), (8, .int z22), (7, .int z15), (0, .ref 164), (1, .int x1), (2, .int x2), (3, .int x3), (4, .int x4), (6, .int v12_6)]) rfl rfl (by decide) rfl ?_
                          refine ar_inc (p2 := 168) (x := v12_6) rfl rfl (by decide) rfl (by decide) rfl (by omega) (by omega) (fun z35 e35 f35 => ?_)
                          show EvP _ _ _ (168, [(6, .int z35), (5, .int z34), (8, .int z22), (7, .int z15), (0, .ref 164), (1, .int x1), (2, .int x2), (3, .int x3), (4, .int x4)], [], h30) _
                          refine te_goto rfl ?_
                          refine te_lv [(0, .ref 164), (1, .int x1), (2, .int x2), (3, .int x3), (4, .int x4), (5, .int z34), (6, .int z35)] rfl rfl ⟨rfl, rfl, rfl, rfl, rfl, rfl, rfl, trivial⟩ ?_
                          exact ih12 z34 z35 h30 I30 f30 (by omega) (by omega) (by omega) ((ppF_step (by omega) (by omega) (by omega) (vl_of (by omega) (by rw [show 40 * x1.toInt.toNat + (x3.toInt.toNat + 4 * v12_6.toInt.toNat) = z22.toInt.toNat by omega]; exact (f12 _ _ rfl).symm.trans e23)) (vl_of (by omega) (by rw [show 40 * x1.toInt.toNat + (x3.toInt.toNat + 4 * v12_6.toInt.toNat + 1) = z24.toInt.toNat by omega]; exact (f12 _ _ rfl).symm.trans e25)) (vl_of (by omega) (by rw [show 40 * x1.toInt.toNat + (x3.toInt.toNat + 4 * v12_6.toInt.toNat + 2) = z26.toInt.toNat by omega]; exact (f12 _ _ rfl).symm.trans e27)) (vl_of (by omega) (by rw [show 40 * x1.toInt.toNat + (x3.toInt.toNat + 4 * v12_6.toInt.toNat + 3) = z28.toInt.toNat by omega]; exact (f12 _ _ rfl).symm.trans e29)) Q30 (fun _ => e34.symm) (fun h9 => absurd (by omega) h9)).trans w12_0) (by omega)
                      · refine te_bipush (p2 := 104) (x := (-12)) rfl rfl (by decide) ?_
                        exact te_iret rfl rfl ⟨I12, f12, _, rfl, (by show ((-12), cM h12, absM h12) = _; unfold people_f; rw [if_pos (by omega), rv_of e7, if_neg (by omega), if_neg (by omega), rv_of e11]; exact (w12_0.symm.trans (ppF_out (m2 := x4.toInt.toNat - v12_6.toInt.toNat - 1) (by omega) (by omega))).symm)⟩
            refine te_lv [(0, .ref 164), (1, .int x1), (2, .int x2), (3, .int x3), (4, .int x4), (5, .int 0), (6, .int 0)] rfl rfl ⟨rfl, rfl, rfl, rfl, rfl, rfl, rfl, trivial⟩ ?_
            exact lp12 12 0 0 h hI f0 (by decide) (by decide) (by have cc0 := (show Int32.toInt 0 = 0 from rfl); omega) rfl (by have cc0 := (show Int32.toInt 0 = 0 from rfl); omega)
          · refine te_bipush (p2 := 57) (x := (-13)) rfl rfl (by decide) ?_
            obtain ⟨v36, e36, y36, w36, a36, b36, _⟩ := hI.2.1 193 x1.toInt.toNat (.inl (0, 40, 9999999999)) (tq_row rfl (by omega))
            subst w36
            exact te_iret rfl rfl ⟨hI, f0, _, rfl, (by show ((-13), cM h, absM h) = _; unfold people_f; rw [if_pos (by omega), rv_of e7, if_neg (by omega), if_pos (by omega)])⟩
        · refine te_bipush (p2 := 44) (x := (-11)) rfl rfl (by decide) ?_
          obtain ⟨v37, e37, y37, w37, a37, b37, _⟩ := hI.2.1 193 x1.toInt.toNat (.inl (0, 40, 9999999999)) (tq_row rfl (by omega))
          subst w37
          exact te_iret rfl rfl ⟨hI, f0, _, rfl, (by show ((-11), cM h, absM h) = _; unfold people_f; rw [if_pos (by omega), rv_of e7, if_pos (by omega)])⟩
      · subst w5
        have cc5_1 := (show Int32.toInt 0 = 0 from rfl)
        have cc5_2 := (show Int32.toInt 10 = 10 from rfl)
        refine tz_ne (p2 := 29) rfl rfl (show Int32.toInt 0 = 0 from rfl) (fun c38 => absurd c38 (by omega)) (fun c38 => ?_)
        refine te_bipush (p2 := 31) (x := (-2)) rfl rfl (by decide) ?_
        exact te_iret rfl rfl ⟨hI, f0, _, rfl, (by show ((-2), cM h, absM h) = _; unfold people_f; rw [if_neg (by omega)])⟩
    · subst w3
      have cc3_1 := (show Int32.toInt 0 = 0 from rfl)
      have cc3_2 := (show Int32.toInt 2 = 2 from rfl)
      refine tz_eq (p2 := 18) rfl rfl (show Int32.toInt 0 = 0 from rfl) (fun c39 => ?_) (fun c39 => absurd c39 (by omega))
      refine te_bipush (p2 := 31) (x := (-2)) rfl rfl (by decide) ?_
      exact te_iret rfl rfl ⟨hI, f0, _, rfl, (by show ((-2), cM h, absM h) = _; unfold people_f; rw [if_neg (by omega)])⟩
  · subst w1
    have cc1_1 := (show Int32.toInt 0 = 0 from rfl)
    have cc1_2 := (show Int32.toInt 3 = 3 from rfl)
    refine tz_eq (p2 := 9) rfl rfl (show Int32.toInt 0 = 0 from rfl) (fun c40 => ?_) (fun c40 => absurd c40 (by omega))
    refine te_bipush (p2 := 31) (x := (-2)) rfl rfl (by decide) ?_
    exact te_iret rfl rfl ⟨hI, f0, _, rfl, (by show ((-2), cM h, absM h) = _; unfold people_f; rw [if_neg (by omega)])⟩
