theorem inF1 {c a b i k : Nat} (h : c ≠ i) : inF [(c, a, b)] i k = false := by
  simp [inF, h]
def okS (s k n : Int32) : Prop := (0 ≤ s.toInt ∧ s.toInt ≤ 3) ∧ (k.toInt = -1 ∨ (0 ≤ k.toInt ∧ k.toInt ≤ 2 ∧ 0 ≤ n.toInt ∧ n.toInt ≤ 40))
set_option maxRecDepth 20000 in
set_option maxHeartbeats 4000000 in
theorem c_J7_fill {q : Nat} {v : Int32} {h : im_H} (hI : tI h) (q_q : q = 141 ∨ q = 143 ∨ q = 145 ∨ q = 147) : CaP 1 197 [.ref (16 + q), .int v] h (fun r h2 => tI h2 ∧ fr (F_J7_fill_53178 q) h h2 ∧ r = none ∧ ∀ k : Nat, k < 40 → rd h2 q k = some (.int v)) := by
  refine cap_of (d := 0) (M := mJ7_fill_53178) rfl (Nat.le_of_ble_eq_true rfl) ?_
  show EvP im_K0 0 mJ7_fill_53178 (0, [(0, .ref (16 + q)), (1, .int v)], [], h) _
  have f0 : fr (F_J7_fill_53178 q) h h := fr_rf
  refine te_iconst (p2 := 1) (x := 0) rfl rfl (by decide) ?_
  refine te_istore_n (p2 := 2) (lv2 := [(2, .int 0), (0, .ref (16 + q)), (1, .int v)]) rfl rfl (by decide) rfl ?_
  refine te_aload_n (p2 := 3) rfl rfl rfl ?_
  refine te_len (p2 := 4) (i := q) (n := 40) (t := 0) (Or.inl rfl) rfl rfl hI rfl (by rcases q_q with rfl | rfl | rfl | rfl <;> rfl) rfl ?_
  show EvP _ _ _ (4, [(2, .int 0), (0, .ref (16 + q)), (1, .int v)], [.int 40], h) _
  refine te_istore_n (p2 := 5) (lv2 := [(3, .int 40), (2, .int 0), (0, .ref (16 + q)), (1, .int v)]) rfl rfl (by decide) rfl ?_
  have lp1 : ∀ (n1 : Nat) (v1_2 : Int32) (h1 : im_H), tI h1 → fr (F_J7_fill_53178 q) h h1 → 0 ≤ v1_2.toInt → v1_2.toInt ≤ 40 → (∀ k : Nat, (k : Int) < v1_2.toInt → rd h1 q k = some (.int v)) → 40 - v1_2.toInt < (n1 : Int) → EvP im_K0 0 mJ7_fill_53178 (5, [(0, .ref (16 + q)), (1, .int v), (2, .int v1_2), (3, .int 40)], [], h1) (fun r h2 => tI h2 ∧ fr (F_J7_fill_53178 q) h h2 ∧ r = none ∧ ∀ k : Nat, k < 40 → rd h2 q k = some (.int v)) := by
    intro n1
    induction n1 with
    | zero => intro v1_2 h1 I1 f1 a1_2 b1_2 w1_0 m1; exfalso; omega
    | succ n1 ih1 =>
      intro v1_2 h1 I1 f1 a1_2 b1_2 w1_0 m1
      refine te_iload_n (p2 := 6) rfl rfl rfl ?_
      refine te_iload_n (p2 := 7) rfl rfl rfl ?_
      refine tb_ge (p2 := 10) rfl rfl rfl (show Int32.toInt 40 = 40 from rfl) (fun c2 => ?_) (fun c2 => ?_)
      · exact te_vret rfl rfl ⟨I1, f1, rfl, (fun k hk => w1_0 k (by omega))⟩
      · refine te_aload_n (p2 := 11) rfl rfl rfl ?_
        refine te_iload_n (p2 := 12) rfl rfl rfl ?_
        refine te_iload_n (p2 := 13) rfl rfl rfl ?_
        refine ts_i (p2 := 14) (i := q) (n := 40) rfl rfl I1 rfl (by rcases q_q with rfl | rfl | rfl | rfl <;> rfl) (by rcases q_q with rfl | rfl | rfl | rfl <;> rfl) rfl (by omega) (by omega) (i32_lo _) (i32_hi _) (i32_ho _) (by rcases q_q with rfl | rfl | rfl | rfl <;> rfl) (fun h3 I3 u3 => ?_)
        have f3 := fr_st (F := (F_J7_fill_53178 q)) 0 f1 u3 rfl (by omega) (by omega)
        refine ar_inc (p2 := 17) (x := v1_2) rfl rfl (by decide) rfl (by decide) rfl (by omega) (by omega) (fun z4 e4 f4 => ?_)
        show EvP _ _ _ (17, [(2, .int z4), (0, .ref (16 + q)), (1, .int v), (3, .int 40)], [], h3) _
        refine te_goto rfl ?_
        refine te_lv [(0, .ref (16 + q)), (1, .int v), (2, .int z4), (3, .int 40)] rfl rfl ⟨rfl, rfl, rfl, rfl, trivial⟩ ?_
        exact ih1 z4 h3 I3 f3 (by omega) (by omega) (fun k hk => by (by_cases hc : k = v1_2.toInt.toNat); (· rw [hc]; exact u3.1); (· exact (u3.2 _ _ (Or.inr hc)).trans (w1_0 k (by omega)))) (by have cc0 := (show Int32.toInt 40 = 40 from rfl); omega)
  refine te_lv [(0, .ref (16 + q)), (1, .int v), (2, .int 0), (3, .int 40)] rfl rfl ⟨rfl, rfl, rfl, rfl, trivial⟩ ?_
  exact lp1 41 0 h hI f0 (by decide) (by decide) (fun k hk => by exfalso; have := (show Int32.toInt 0 = 0 from rfl); omega) (by have cc0 := (show Int32.toInt 0 = 0 from rfl); have cc1 := (show Int32.toInt 40 = 40 from rfl); omega)
abbrev Q1_sheet (x1 x2 x3 : Int32) (y : Int32) (h h2 : im_H) : Prop := (okS x1 x2 x3 → rd h2 (140 + 2 * x1.toInt.toNat) 0 = some (.int x2)) ∧ (okS x1 x2 x3 → x2.toInt ≠ -1 → rd h2 (140 + 2 * x1.toInt.toNat) 1 = some (.int x3)) ∧ (∀ s b, s < 4 → (s ≠ x1.toInt.toNat ∨ ¬ okS x1 x2 x3) → rd h2 (140 + 2 * s) b = rd h (140 + 2 * s) b) ∧ (okS x1 x2 x3 → x2.toInt ≠ -1 → ∀ i : Nat, i < 40 → rd h2 (141 + 2 * x1.toInt.toNat) i = some (.int 0)) ∧ (∀ s b, s < 4 → (s ≠ x1.toInt.toNat ∨ ¬ okS x1 x2 x3) → rd h2 (141 + 2 * s) b = rd h (141 + 2 * s) b)
set_option maxRecDepth 20000 in
set_option maxHeartbeats 4000000 in
theorem c_X11_sheet {x1 : Int32} {x2 : Int32} {x3 : Int32} {h : im_H} (hI : tI h)  : CaP 3 104 [.ref 16, .int x1, .int x2, .int x3] h (fun v h2 => tI h2 ∧ fr F_X11_sheet h h2 ∧ ∃ y : Int32, v = some (.int y) ∧ Q1_sheet x1 x2 x3 y h h2) := by
  refine cap_of (d := 2) (M := mX11_sheet) rfl (Nat.le_of_ble_eq_true rfl) ?_
  show EvP im_K0 2 mX11_sheet (0, [(0, .ref 16), (1, .int x1), (2, .int x2), (3, .int x3)], [], h) _
  have f0 : fr F_X11_sheet h h := fr_rf
  refine te_iload_n (p2 := 1) rfl rfl rfl ?_
  refine te_iconst (p2 := 2) (x := 4) rfl rfl (by decide) ?_
  refine cS_pI (p2 := 5) rfl rfl rfl rfl (t_X11_within (n := x1) (b := 4) hI ) (by decide) (fun y1 r1 => ?_)
  rcases r1 with ⟨w1, c1⟩ | ⟨w1, c1⟩
  · subst w1
    have cc1_1 := (show Int32.toInt 4 = 4 from rfl)
    refine tz_ne (p2 := 8) rfl rfl (show Int32.toInt 1 = 1 from rfl) (fun c2 => ?_) (fun c2 => absurd c2 (by omega))
    refine te_iload_n (p2 := 12) rfl rfl rfl ?_
    refine te_iconst (p2 := 13) (x := (-1)) rfl rfl (by decide) ?_
    refine tb_ne (p2 := 16) rfl rfl rfl (show Int32.toInt (-1) = (-1) from rfl) (fun c3 => ?_) (fun c3 => ?_)
    · refine te_iload_n (p2 := 29) rfl rfl rfl ?_
      refine te_iconst (p2 := 30) (x := 3) rfl rfl (by decide) ?_
      refine cS_pI (p2 := 33) rfl rfl rfl rfl (t_X11_within (n := x2) (b := 3) hI ) (by decide) (fun y4 r4 => ?_)
      rcases r4 with ⟨w4, c4⟩ | ⟨w4, c4⟩
      · subst w4
        have cc4_1 := (show Int32.toInt 3 = 3 from rfl)
        refine tz_eq (p2 := 36) rfl rfl (show Int32.toInt 1 = 1 from rfl) (fun c5 => absurd c5 (by omega)) (fun c5 => ?_)
        refine te_iload_n (p2 := 37) rfl rfl rfl ?_
        refine te_bipush (p2 := 39) (x := 40) rfl rfl (by decide) ?_
        refine tb_le (p2 := 42) rfl rfl rfl (show Int32.toInt 40 = 40 from rfl) (fun c6 => ?_) (fun c6 => ?_)
        · refine te_iload_n (p2 := 46) rfl rfl rfl ?_
          refine tz_ge (p2 := 49) rfl rfl rfl (fun c7 => ?_) (fun c7 => ?_)
          · refine te_aload_n (p2 := 53) rfl rfl rfl ?_
            refine tg_r (p2 := 56) (i := 0) (r := 113) rfl rfl hI rfl rfl rfl ?_
            refine te_iload_n (p2 := 57) rfl rfl rfl ?_
            refine tl_f (p2 := 58) (i := 97) (n := 4) (c0 := 140) (sp := 2) rfl rfl hI rfl rfl (by decide) rq_97 (by omega) (by omega) (fun o8 w8 => ?_)
            have q8 : o8 = 140 ∨ o8 = 142 ∨ o8 = 144 ∨ o8 = 146 := by omega
            refine te_iload_n (p2 := 59) rfl rfl rfl ?_
            refine tp_i (p2 := 62) (i := o8) rfl rfl hI rfl (by rcases q8 with rfl | rfl | rfl | rfl <;> rfl) (by decide) rfl rfl (by rcases q8 with rfl | rfl | rfl | rfl <;> rfl) (by omega) (by omega) (by omega) (by rcases q8 with rfl | rfl | rfl | rfl <;> rfl) (fun h9 I9 u9 => ?_)
            have f9 := fr_up (F := F_X11_sheet) (a := 0) (b := 1) f0 u9 (by rcases q8 with rfl | rfl | rfl | rfl <;> decide) (by decide) (by decide)
            refine te_aload_n (p2 := 63) rfl rfl rfl ?_
            refine tg_r (p2 := 66) (i := 0) (r := 113) rfl rfl I9 rfl rfl rfl ?_
            refine te_iload_n (p2 := 67) rfl rfl rfl ?_
            refine tl_f (p2 := 68) (i := 97) (n := 4) (c0 := 140) (sp := 2) rfl rfl I9 rfl rfl (by decide) rq_97 (by omega) (by omega) (fun o10 w10 => ?_)
            have q10 : o10 = 140 ∨ o10 = 142 ∨ o10 = 144 ∨ o10 = 146 := by omega
            refine te_iload_n (p2 := 69) rfl rfl rfl ?_
            refine tp_i (p2 := 72) (i := o10) rfl rfl I9 rfl (by rcases q10 with rfl | rfl | rfl | rfl <;> rfl) (by decide) rfl rfl (by rcases q10 with rfl | rfl | rfl | rfl <;> rfl) (by omega) (by omega) (by omega) (by rcases q10 with rfl | rfl | rfl | rfl <;> rfl) (fun h11 I11 u11 => ?_)
            have f11 := fr_up (F := F_X11_sheet) (a := 0) (b := 1) f9 u11 (by rcases q10 with rfl | rfl | rfl | rfl <;> decide) (by decide) (by decide)
            refine te_aload_n (p2 := 73) rfl rfl rfl ?_
            refine tg_r (p2 := 76) (i := 0) (r := 113) rfl rfl I11 rfl rfl rfl ?_
            refine te_iload_n (p2 := 77) rfl rfl rfl ?_
            refine tl_f (p2 := 78) (i := 97) (n := 4) (c0 := 140) (sp := 2) rfl rfl I11 rfl rfl (by decide) rq_97 (by omega) (by omega) (fun o12 w12 => ?_)
            have q12 : o12 = 140 ∨ o12 = 142 ∨ o12 = 144 ∨ o12 = 146 := by omega
            refine tg_r (p2 := 81) (i := o12) (r := (16 + (o12 + 1))) rfl rfl I11 rfl (by rcases q12 with rfl | rfl | rfl | rfl <;> rfl) (by rcases q12 with rfl | rfl | rfl | rfl <;> rfl) ?_
            refine te_iconst (p2 := 82) (x := 0) rfl rfl (by decide) ?_
            refine tc_S (p2 := 85) rfl rfl rfl rfl (c_J7_fill (q := (o12 + 1)) (v := 0) I11 (by omega)) (by decide) (fun v13 h13 hq13 => ?_)
            obtain ⟨I13, g13, w13, Z13⟩ := hq13
            subst w13
            have f13 := fr_tr (F1 := (F_J7_fill_53178 (o12 + 1))) (F := F_X11_sheet) f11 g13 (by rcases q12 with rfl | rfl | rfl | rfl <;> decide)
            show EvP _ _ _ (85, [(0, .ref 16), (1, .int x1), (2, .int x2), (3, .int x3)], [], h13) _
            refine te_iconst (p2 := 86) (x := 1) rfl rfl (by decide) ?_
            exact te_iret rfl rfl ⟨I13, f13, _, rfl, (fun _ => by rw [← w8]; exact ((g13 _ _ (inF1 (by omega))).trans ((u11.2 _ _ (Or.inr (by decide))).trans u9.1))), (fun _ _ => by rw [← w10]; exact ((g13 _ _ (inF1 (by omega))).trans u11.1)), (fun s b hs hn => by (have hq : s ≠ x1.toInt.toNat := hn.resolve_right (fun hk => hk (by unfold okS; omega))); exact ((g13 _ _ (inF1 (by omega))).trans ((u11.2 _ _ (Or.inl (by omega))).trans (u9.2 _ _ (Or.inl (by omega)))))), (fun _ _ i hi => by rw [show 141 + 2 * x1.toInt.toNat = (o12 + 1) by omega]; exact Z13 i hi), (fun s b hs hn => by (have hq : s ≠ x1.toInt.toNat := hn.resolve_right (fun hk => hk (by unfold okS; omega))); exact ((g13 _ _ (inF1 (by omega))).trans ((u11.2 _ _ (Or.inl (by omega))).trans (u9.2 _ _ (Or.inl (by omega))))))⟩
          · refine te_bipush (p2 := 51) (x := (-14)) rfl rfl (by decide) ?_
            exact te_iret rfl rfl ⟨hI, f0, _, rfl, (fun ho => absurd ho (by unfold okS; omega)), (fun ho => absurd ho (by unfold okS; omega)), (fun s b hs hn => rfl), (fun ho => absurd ho (by unfold okS; omega)), (fun s b hs hn => rfl)⟩
        · refine te_bipush (p2 := 44) (x := (-2)) rfl rfl (by decide) ?_
          exact te_iret rfl rfl ⟨hI, f0, _, rfl, (fun ho => absurd ho (by unfold okS; omega)), (fun ho => absurd ho (by unfold okS; omega)), (fun s b hs hn => rfl), (fun ho => absurd ho (by unfold okS; omega)), (fun s b hs hn => rfl)⟩
      · subst w4
        have cc4_1 := (show Int32.toInt 3 = 3 from rfl)
        refine tz_eq (p2 := 36) rfl rfl (show Int32.toInt 0 = 0 from rfl) (fun c14 => ?_) (fun c14 => absurd c14 (by omega))
        refine te_bipush (p2 := 44) (x := (-2)) rfl rfl (by decide) ?_
        exact te_iret rfl rfl ⟨hI, f0, _, rfl, (fun ho => absurd ho (by unfold okS; omega)), (fun ho => absurd ho (by unfold okS; omega)), (fun s b hs hn => rfl), (fun ho => absurd ho (by unfold okS; omega)), (fun s b hs hn => rfl)⟩
    · refine te_aload_n (p2 := 17) rfl rfl rfl ?_
      refine tg_r (p2 := 20) (i := 0) (r := 113) rfl rfl hI rfl rfl rfl ?_
      refine te_iload_n (p2 := 21) rfl rfl rfl ?_
      refine tl_f (p2 := 22) (i := 97) (n := 4) (c0 := 140) (sp := 2) rfl rfl hI rfl rfl (by decide) rq_97 (by omega) (by omega) (fun o15 w15 => ?_)
      have q15 : o15 = 140 ∨ o15 = 142 ∨ o15 = 144 ∨ o15 = 146 := by omega
      refine te_iconst (p2 := 23) (x := (-1)) rfl rfl (by decide) ?_
      refine tp_i (p2 := 26) (i := o15) rfl rfl hI rfl (by rcases q15 with rfl | rfl | rfl | rfl <;> rfl) (by decide) rfl rfl (by rcases q15 with rfl | rfl | rfl | rfl <;> rfl) (by decide) (by decide) (by decide) (by rcases q15 with rfl | rfl | rfl | rfl <;> rfl) (fun h16 I16 u16 => ?_)
      have f16 := fr_up (F := F_X11_sheet) (a := 0) (b := 1) f0 u16 (by rcases q15 with rfl | rfl | rfl | rfl <;> decide) (by decide) (by decide)
      refine te_iconst (p2 := 27) (x := 1) rfl rfl (by decide) ?_
      exact te_iret rfl rfl ⟨I16, f16, _, rfl, (fun _ => by rw [← w15, (i32_ext (by have cm := (show Int32.toInt (-1) = -1 from rfl); omega) : x2 = -1)]; exact u16.1), (fun _ hm => absurd (by omega) hm), (fun s b hs hn => by (have hq : s ≠ x1.toInt.toNat := hn.resolve_right (fun hk => hk (by unfold okS; omega))); exact (u16.2 _ _ (Or.inl (by omega)))), (fun _ hm => absurd (by omega) hm), (fun s b hs hn => by (have hq : s ≠ x1.toInt.toNat := hn.resolve_right (fun hk => hk (by unfold okS; omega))); exact (u16.2 _ _ (Or.inl (by omega))))⟩
  · subst w1
    have cc1_1 := (show Int32.toInt 4 = 4 from rfl)
    refine tz_ne (p2 := 8) rfl rfl (show Int32.toInt 0 = 0 from rfl) (fun c17 => absurd c17 (by omega)) (fun c17 => ?_)
    refine te_bipush (p2 := 10) (x := (-2)) rfl rfl (by decide) ?_
    exact te_iret rfl rfl ⟨hI, f0, _, rfl, (fun ho => absurd ho (by unfold okS; omega)), (fun ho => absurd ho (by unfold okS; omega)), (fun s b hs hn => rfl), (fun ho => absurd ho (by unfold okS; omega)), (fun s b hs hn => rfl)⟩
abbrev Q2_sheet (x1 x2 x3 : Int32) (y : Int32) (h h2 : im_H) : Prop := (okS x1 x2 x3 → rd h2 192 x1.toInt.toNat = some (.int x2)) ∧ (okS x1 x2 x3 → x2.toInt ≠ -1 → rd h2 193 x1.toInt.toNat = some (.int x3)) ∧ (∀ s, s < 4 → (s ≠ x1.toInt.toNat ∨ ¬ okS x1 x2 x3) → rd h2 192 s = rd h 192 s ∧ rd h2 193 s = rd h 193 s) ∧ (okS x1 x2 x3 → ∀ i : Nat, i < 40 → rd h2 194 (40 * x1.toInt.toNat + i) = some (.int 0)) ∧ (∀ s i, s < 4 → i < 40 → (s ≠ x1.toInt.toNat ∨ ¬ okS x1 x2 x3) → rd h2 194 (40 * s + i) = rd h 194 (40 * s + i))
set_option maxRecDepth 20000 in
set_option maxHeartbeats 4000000 in
theorem c_X12_sheet {x1 : Int32} {x2 : Int32} {x3 : Int32} {h : im_H} (hI : tI h)  : CaP 2 191 [.ref 164, .int x1, .int x2, .int x3] h (fun v h2 => tI h2 ∧ fr F_X12_sheet h h2 ∧ ∃ y : Int32, v = some (.int y) ∧ Q2_sheet x1 x2 x3 y h h2) := by
  refine cap_of (d := 1) (M := mX12_sheet) rfl (Nat.le_of_ble_eq_true rfl) ?_
  show EvP im_K0 1 mX12_sheet (0, [(0, .ref 164), (1, .int x1), (2, .int x2), (3, .int x3)], [], h) _
  have f0 : fr F_X12_sheet h h := fr_rf
  refine te_iload_n (p2 := 1) rfl rfl rfl ?_
  refine te_iconst (p2 := 2) (x := 0) rfl rfl (by decide) ?_
  refine te_iconst (p2 := 3) (x := 3) rfl rfl (by decide) ?_
  refine cS_pI (p2 := 6) rfl rfl rfl rfl (t_X12_in (n := x1) (a := 0) (b := 3) hI ) (by decide) (fun y1 r1 => ?_)
  rcases r1 with ⟨w1, c1⟩ | ⟨w1, c1⟩
  · subst w1
    have cc1_1 := (show Int32.toInt 0 = 0 from rfl)
    have cc1_2 := (show Int32.toInt 3 = 3 from rfl)
    refine tz_eq (p2 := 9) rfl rfl (show Int32.toInt 1 = 1 from rfl) (fun c2 => absurd c2 (by omega)) (fun c2 => ?_)
    refine te_iload_n (p2 := 10) rfl rfl rfl ?_
    refine te_iconst (p2 := 11) (x := (-1)) rfl rfl (by decide) ?_
    refine te_iconst (p2 := 12) (x := 2) rfl rfl (by decide) ?_
    refine cS_pI (p2 := 15) rfl rfl rfl rfl (t_X12_in (n := x2) (a := (-1)) (b := 2) hI ) (by decide) (fun y3 r3 => ?_)
    rcases r3 with ⟨w3, c3⟩ | ⟨w3, c3⟩
    · subst w3
      have cc3_1 := (show Int32.toInt (-1) = (-1) from rfl)
      have cc3_2 := (show Int32.toInt 2 = 2 from rfl)
      refine tz_eq (p2 := 18) rfl rfl (show Int32.toInt 1 = 1 from rfl) (fun c4 => absurd c4 (by omega)) (fun c4 => ?_)
      refine te_iload_n (p2 := 19) rfl rfl rfl ?_
      refine te_iconst (p2 := 20) (x := (-1)) rfl rfl (by decide) ?_
      refine tb_eq (p2 := 23) rfl rfl rfl (show Int32.toInt (-1) = (-1) from rfl) (fun c5 => ?_) (fun c5 => ?_)
      · refine te_iload_n (p2 := 33) rfl rfl rfl ?_
        refine te_iconst (p2 := 34) (x := (-1)) rfl rfl (by decide) ?_
        refine tb_eq (p2 := 37) rfl rfl rfl (show Int32.toInt (-1) = (-1) from rfl) (fun c6 => ?_) (fun c6 => absurd c6 (by omega))
        refine te_aload_n (p2 := 45) rfl rfl rfl ?_
        refine tg_r (p2 := 48) (i := 148) (r := 208) rfl rfl hI rfl rfl rfl ?_
        refine te_iload_n (p2 := 49) rfl rfl rfl ?_
        refine te_iload_n (p2 := 50) rfl rfl rfl ?_
        refine ts_i (p2 := 51) (i := 192) (n := 4) rfl rfl hI rfl rfl rfl rfl (by omega) (by omega) (by omega) (by omega) (by omega) rfl (fun h7 I7 u7 => ?_)
        have f7 := fr_st (F := F_X12_sheet) 0 f0 u7 rfl (by omega) (by omega)
        refine te_aload_n (p2 := 52) rfl rfl rfl ?_
        refine tg_r (p2 := 55) (i := 148) (r := 209) rfl rfl I7 rfl rfl rfl ?_
        refine te_iload_n (p2 := 56) rfl rfl rfl ?_
        refine te_iload_n (p2 := 57) rfl rfl rfl ?_
        refine te_iconst (p2 := 58) (x := (-1)) rfl rfl (by decide) ?_
        refine tb_ne (p2 := 61) rfl rfl rfl (show Int32.toInt (-1) = (-1) from rfl) (fun c8 => absurd c8 (by omega)) (fun c8 => ?_)
        refine te_iconst (p2 := 62) (x := 0) rfl rfl (by decide) ?_
        refine te_goto rfl ?_
        refine ts_i (p2 := 67) (i := 193) (n := 4) rfl rfl I7 rfl rfl rfl rfl (by omega) (by omega) (by decide) (by decide) (by decide) rfl (fun h9 I9 u9 => ?_)
        have f9 := fr_st (F := F_X12_sheet) 1 f7 u9 rfl (by omega) (by omega)
        refine te_iconst (p2 := 68) (x := 0) rfl rfl (by decide) ?_
        refine te_istore (p2 := 70) (lv2 := [(4, .int 0), (0, .ref 164), (1, .int x1), (2, .int x2), (3, .int x3)]) rfl rfl (by decide) rfl ?_
        have lp10 : ∀ (n10 : Nat) (v10_4 : Int32) (h10 : im_H), tI h10 → fr F_X12_sheet h h10 → 0 ≤ v10_4.toInt → v10_4.toInt ≤ 40 → (∀ s, rd h10 192 s = rd h9 192 s ∧ rd h10 193 s = rd h9 193 s) → (∀ i : Nat, (i : Int) < v10_4.toInt → rd h10 194 (40 * x1.toInt.toNat + i) = some (.int 0)) → (∀ i : Nat, (i < 40 * x1.toInt.toNat ∨ 40 * x1.toInt.toNat + 40 ≤ i) → rd h10 194 i = rd h9 194 i) → 40 - v10_4.toInt < (n10 : Int) → EvP im_K0 1 mX12_sheet (70, [(0, .ref 164), (1, .int x1), (2, .int x2), (3, .int x3), (4, .int v10_4)], [], h10) (fun v h2 => tI h2 ∧ fr F_X12_sheet h h2 ∧ ∃ y : Int32, v = some (.int y) ∧ Q2_sheet x1 x2 x3 y h h2) := by
          intro n10
          induction n10 with
          | zero => intro v10_4 h10 I10 f10 a10_4 b10_4 w10_0 w10_1 w10_2 m10; exfalso; omega
          | succ n10 ih10 =>
            intro v10_4 h10 I10 f10 a10_4 b10_4 w10_0 w10_1 w10_2 m10
            refine te_iload (p2 := 72) rfl rfl rfl ?_
            refine te_bipush (p2 := 74) (x := 40) rfl rfl (by decide) ?_
            refine tb_ge (p2 := 77) rfl rfl rfl (show Int32.toInt 40 = 40 from rfl) (fun c11 => ?_) (fun c11 => ?_)
            · refine te_iconst (p2 := 97) (x := 1) rfl rfl (by decide) ?_
              exact te_iret rfl rfl ⟨I10, f10, _, rfl, (fun _ => (w10_0 x1.toInt.toNat).1.trans ((u9.2 _ _ (Or.inl (by decide))).trans u7.1)), (fun _ hm => absurd (by omega) hm), (fun s hs hn => by (have hq : s ≠ x1.toInt.toNat := hn.resolve_right (fun hk => hk (by unfold okS; omega))); exact ⟨(w10_0 s).1.trans ((u9.2 _ _ (Or.inl (by decide))).trans (u7.2 _ _ (Or.inr hq))), (w10_0 s).2.trans ((u9.2 _ _ (Or.inr hq)).trans (u7.2 _ _ (Or.inl (by decide))))⟩), (fun _ i hi => w10_1 i (by omega)), (fun s i hs hi hn => by (have hq : s ≠ x1.toInt.toNat := hn.resolve_right (fun hk => hk (by unfold okS; omega))); exact (w10_2 _ (by omega)).trans ((u9.2 _ _ (Or.inl (by decide))).trans (u7.2 _ _ (Or.inl (by decide)))))⟩
            · refine te_aload_n (p2 := 78) rfl rfl rfl ?_
              refine tg_r (p2 := 81) (i := 148) (r := 210) rfl rfl I10 rfl rfl rfl ?_
              refine te_bipush (p2 := 83) (x := 40) rfl rfl (by decide) ?_
              refine te_iload_n (p2 := 84) rfl rfl rfl ?_
              refine ar_mul (p2 := 85) rfl rfl (show Int32.toInt 40 = 40 from rfl) rfl (by omega) (by omega) (fun z12 e12 f12 => ?_)
              refine te_iload (p2 := 87) rfl rfl rfl ?_
              refine ar_add (p2 := 88) rfl rfl rfl rfl (by omega) (by omega) (fun z13 e13 f13 => ?_)
              refine te_iconst (p2 := 89) (x := 0) rfl rfl (by decide) ?_
              refine ts_i (p2 := 90) (i := 194) (n := 160) rfl rfl I10 rfl rfl rfl rfl (by omega) (by omega) (i32_lo _) (i32_hi _) (i32_ho _) rfl (fun h14 I14 u14 => ?_)
              have f14 := fr_st (F := F_X12_sheet) 2 f10 u14 rfl (by omega) (by omega)
              refine ar_inc (p2 := 93) (x := v10_4) rfl rfl (by decide) rfl (by decide) rfl (by omega) (by omega) (fun z15 e15 f15 => ?_)
              show EvP _ _ _ (93, [(4, .int z15), (0, .ref 164), (1, .int x1), (2, .int x2), (3, .int x3)], [], h14) _
              refine te_goto rfl ?_
              refine te_lv [(0, .ref 164), (1, .int x1), (2, .int x2), (3, .int x3), (4, .int z15)] rfl rfl ⟨rfl, rfl, rfl, rfl, rfl, trivial⟩ ?_
              exact ih10 z15 h14 I14 f14 (by omega) (by omega) (fun s => ⟨(u14.2 _ _ (Or.inl (by decide))).trans (w10_0 s).1, (u14.2 _ _ (Or.inl (by decide))).trans (w10_0 s).2⟩) (fun i hi => by (by_cases hc : 40 * x1.toInt.toNat + i = z13.toInt.toNat); (· rw [hc]; exact u14.1); (· exact (u14.2 _ _ (Or.inr hc)).trans (w10_1 i (by omega)))) (fun i hi => (u14.2 _ _ (Or.inr (by omega))).trans (w10_2 i hi)) (by omega)
        refine te_lv [(0, .ref 164), (1, .int x1), (2, .int x2), (3, .int x3), (4, .int 0)] rfl rfl ⟨rfl, rfl, rfl, rfl, rfl, trivial⟩ ?_
        exact lp10 41 0 h9 I9 f9 (by decide) (by decide) (fun s => ⟨rfl, rfl⟩) (fun i hi => by exfalso; have := (show Int32.toInt 0 = 0 from rfl); omega) (fun i hi => rfl) (by have cc0 := (show Int32.toInt 0 = 0 from rfl); omega)
      · refine te_iload_n (p2 := 24) rfl rfl rfl ?_
        refine te_bipush (p2 := 26) (x := 40) rfl rfl (by decide) ?_
        refine tb_le (p2 := 29) rfl rfl rfl (show Int32.toInt 40 = 40 from rfl) (fun c16 => ?_) (fun c16 => ?_)
        · refine te_iload_n (p2 := 33) rfl rfl rfl ?_
          refine te_iconst (p2 := 34) (x := (-1)) rfl rfl (by decide) ?_
          refine tb_eq (p2 := 37) rfl rfl rfl (show Int32.toInt (-1) = (-1) from rfl) (fun c17 => absurd c17 (by omega)) (fun c17 => ?_)
          refine te_iload_n (p2 := 38) rfl rfl rfl ?_
          refine tz_ge (p2 := 41) rfl rfl rfl (fun c18 => ?_) (fun c18 => ?_)
          · refine te_aload_n (p2 := 45) rfl rfl rfl ?_
            refine tg_r (p2 := 48) (i := 148) (r := 208) rfl rfl hI rfl rfl rfl ?_
            refine te_iload_n (p2 := 49) rfl rfl rfl ?_
            refine te_iload_n (p2 := 50) rfl rfl rfl ?_
            refine ts_i (p2 := 51) (i := 192) (n := 4) rfl rfl hI rfl rfl rfl rfl (by omega) (by omega) (by omega) (by omega) (by omega) rfl (fun h19 I19 u19 => ?_)
            have f19 := fr_st (F := F_X12_sheet) 0 f0 u19 rfl (by omega) (by omega)
            refine te_aload_n (p2 := 52) rfl rfl rfl ?_
            refine tg_r (p2 := 55) (i := 148) (r := 209) rfl rfl I19 rfl rfl rfl ?_
            refine te_iload_n (p2 := 56) rfl rfl rfl ?_
            refine te_iload_n (p2 := 57) rfl rfl rfl ?_
            refine te_iconst (p2 := 58) (x := (-1)) rfl rfl (by decide) ?_
            refine tb_ne (p2 := 61) rfl rfl rfl (show Int32.toInt (-1) = (-1) from rfl) (fun c20 => ?_) (fun c20 => absurd c20 (by omega))
            refine te_iload_n (p2 := 66) rfl rfl rfl ?_
            refine ts_i (p2 := 67) (i := 193) (n := 4) rfl rfl I19 rfl rfl rfl rfl (by omega) (by omega) (by omega) (by omega) (by omega) rfl (fun h21 I21 u21 => ?_)
            have f21 := fr_st (F := F_X12_sheet) 1 f19 u21 rfl (by omega) (by omega)
            refine te_iconst (p2 := 68) (x := 0) rfl rfl (by decide) ?_
            refine te_istore (p2 := 70) (lv2 := [(4, .int 0), (0, .ref 164), (1, .int x1), (2, .int x2), (3, .int x3)]) rfl rfl (by decide) rfl ?_
            have lp22 : ∀ (n22 : Nat) (v22_4 : Int32) (h22 : im_H), tI h22 → fr F_X12_sheet h h22 → 0 ≤ v22_4.toInt → v22_4.toInt ≤ 40 → (∀ s, rd h22 192 s = rd h21 192 s ∧ rd h22 193 s = rd h21 193 s) → (∀ i : Nat, (i : Int) < v22_4.toInt → rd h22 194 (40 * x1.toInt.toNat + i) = some (.int 0)) → (∀ i : Nat, (i < 40 * x1.toInt.toNat ∨ 40 * x1.toInt.toNat + 40 ≤ i) → rd h22 194 i = rd h21 194 i) → 40 - v22_4.toInt < (n22 : Int) → EvP im_K0 1 mX12_sheet (70, [(0, .ref 164), (1, .int x1), (2, .int x2), (3, .int x3), (4, .int v22_4)], [], h22) (fun v h2 => tI h2 ∧ fr F_X12_sheet h h2 ∧ ∃ y : Int32, v = some (.int y) ∧ Q2_sheet x1 x2 x3 y h h2) := by
              intro n22
              induction n22 with
              | zero => intro v22_4 h22 I22 f22 a22_4 b22_4 w22_0 w22_1 w22_2 m22; exfalso; omega
              | succ n22 ih22 =>
                intro v22_4 h22 I22 f22 a22_4 b22_4 w22_0 w22_1 w22_2 m22
                refine te_iload (p2 := 72) rfl rfl rfl ?_
                refine te_bipush (p2 := 74) (x := 40) rfl rfl (by decide) ?_
                refine tb_ge (p2 := 77) rfl rfl rfl (show Int32.toInt 40 = 40 from rfl) (fun c23 => ?_) (fun c23 => ?_)
                · refine te_iconst (p2 := 97) (x := 1) rfl rfl (by decide) ?_
                  exact te_iret rfl rfl ⟨I22, f22, _, rfl, (fun _ => (w22_0 x1.toInt.toNat).1.trans ((u21.2 _ _ (Or.inl (by decide))).trans u19.1)), (fun _ hm => (w22_0 x1.toInt.toNat).2.trans u21.1), (fun s hs hn => by (have hq : s ≠ x1.toInt.toNat := hn.resolve_right (fun hk => hk (by unfold okS; omega))); exact ⟨(w22_0 s).1.trans ((u21.2 _ _ (Or.inl (by decide))).trans (u19.2 _ _ (Or.inr hq))), (w22_0 s).2.trans ((u21.2 _ _ (Or.inr hq)).trans (u19.2 _ _ (Or.inl (by decide))))⟩), (fun _ i hi => w22_1 i (by omega)), (fun s i hs hi hn => by (have hq : s ≠ x1.toInt.toNat := hn.resolve_right (fun hk => hk (by unfold okS; omega))); exact (w22_2 _ (by omega)).trans ((u21.2 _ _ (Or.inl (by decide))).trans (u19.2 _ _ (Or.inl (by decide)))))⟩
                · refine te_aload_n (p2 := 78) rfl rfl rfl ?_
                  refine tg_r (p2 := 81) (i := 148) (r := 210) rfl rfl I22 rfl rfl rfl ?_
                  refine te_bipush (p2 := 83) (x := 40) rfl rfl (by decide) ?_
                  refine te_iload_n (p2 := 84) rfl rfl rfl ?_
                  refine ar_mul (p2 := 85) rfl rfl (show Int32.toInt 40 = 40 from rfl) rfl (by omega) (by omega) (fun z24 e24 f24 => ?_)
                  refine te_iload (p2 := 87) rfl rfl rfl ?_
                  refine ar_add (p2 := 88) rfl rfl rfl rfl (by omega) (by omega) (fun z25 e25 f25 => ?_)
                  refine te_iconst (p2 := 89) (x := 0) rfl rfl (by decide) ?_
                  refine ts_i (p2 := 90) (i := 194) (n := 160) rfl rfl I22 rfl rfl rfl rfl (by omega) (by omega) (i32_lo _) (i32_hi _) (i32_ho _) rfl (fun h26 I26 u26 => ?_)
                  have f26 := fr_st (F := F_X12_sheet) 2 f22 u26 rfl (by omega) (by omega)
                  refine ar_inc (p2 := 93) (x := v22_4) rfl rfl (by decide) rfl (by decide) rfl (by omega) (by omega) (fun z27 e27 f27 => ?_)
                  show EvP _ _ _ (93, [(4, .int z27), (0, .ref 164), (1, .int x1), (2, .int x2), (3, .int x3)], [], h26) _
                  refine te_goto rfl ?_
                  refine te_lv [(0, .ref 164), (1, .int x1), (2, .int x2), (3, .int x3), (4, .int z27)] rfl rfl ⟨rfl, rfl, rfl, rfl, rfl, trivial⟩ ?_
                  exact ih22 z27 h26 I26 f26 (by omega) (by omega) (fun s => ⟨(u26.2 _ _ (Or.inl (by decide))).trans (w22_0 s).1, (u26.2 _ _ (Or.inl (by decide))).trans (w22_0 s).2⟩) (fun i hi => by (by_cases hc : 40 * x1.toInt.toNat + i = z25.toInt.toNat); (· rw [hc]; exact u26.1); (· exact (u26.2 _ _ (Or.inr hc)).trans (w22_1 i (by omega)))) (fun i hi => (u26.2 _ _ (Or.inr (by omega))).trans (w22_2 i hi)) (by omega)
            refine te_lv [(0, .ref 164), (1, .int x1), (2, .int x2), (3, .int x3), (4, .int 0)] rfl rfl ⟨rfl, rfl, rfl, rfl, rfl, trivial⟩ ?_
            exact lp22 41 0 h21 I21 f21 (by decide) (by decide) (fun s => ⟨rfl, rfl⟩) (fun i hi => by exfalso; have := (show Int32.toInt 0 = 0 from rfl); omega) (fun i hi => rfl) (by have cc0 := (show Int32.toInt 0 = 0 from rfl); omega)
          · refine te_bipush (p2 := 43) (x := (-14)) rfl rfl (by decide) ?_
            exact te_iret rfl rfl ⟨hI, f0, _, rfl, (fun ho => absurd ho (by unfold okS; omega)), (fun ho => absurd ho (by unfold okS; omega)), (fun s hs hn => ⟨rfl, rfl⟩), (fun ho => absurd ho (by unfold okS; omega)), (fun s i hs hi hn => rfl)⟩
        · refine te_bipush (p2 := 31) (x := (-2)) rfl rfl (by decide) ?_
          exact te_iret rfl rfl ⟨hI, f0, _, rfl, (fun ho => absurd ho (by unfold okS; omega)), (fun ho => absurd ho (by unfold okS; omega)), (fun s hs hn => ⟨rfl, rfl⟩), (fun ho => absurd ho (by unfold okS; omega)), (fun s i hs hi hn => rfl)⟩
    · subst w3
      have cc3_1 := (show Int32.toInt (-1) = (-1) from rfl)
      have cc3_2 := (show Int32.toInt 2 = 2 from rfl)
      refine tz_eq (p2 := 18) rfl rfl (show Int32.toInt 0 = 0 from rfl) (fun c28 => ?_) (fun c28 => absurd c28 (by omega))
      refine te_bipush (p2 := 31) (x := (-2)) rfl rfl (by decide) ?_
      exact te_iret rfl rfl ⟨hI, f0, _, rfl, (fun ho => absurd ho (by unfold okS; omega)), (fun ho => absurd ho (by unfold okS; omega)), (fun s hs hn => ⟨rfl, rfl⟩), (fun ho => absurd ho (by unfold okS; omega)), (fun s i hs hi hn => rfl)⟩
  · subst w1
    have cc1_1 := (show Int32.toInt 0 = 0 from rfl)
    have cc1_2 := (show Int32.toInt 3 = 3 from rfl)
    refine tz_eq (p2 := 9) rfl rfl (show Int32.toInt 0 = 0 from rfl) (fun c29 => ?_) (fun c29 => absurd c29 (by omega))
    refine te_bipush (p2 := 31) (x := (-2)) rfl rfl (by decide) ?_
    exact te_iret rfl rfl ⟨hI, f0, _, rfl, (fun ho => absurd ho (by unfold okS; omega)), (fun ho => absurd ho (by unfold okS; omega)), (fun s hs hn => ⟨rfl, rfl⟩), (fun ho => absurd ho (by unfold okS; omega)), (fun s i hs hi hn => rfl)⟩
set_option maxRecDepth 20000 in
set_option maxHeartbeats 4000000 in
theorem c_X8_isMissing {s : Nat} {h : im_H} (hI : tI h) (q_s : s = 140 ∨ s = 142 ∨ s = 144 ∨ s = 146) : CaP 1 41 [.ref (16 + s)] h (pI h (fun y => ∃ q : Int32, rd h s 0 = some (.int q) ∧ ((y = 1 ∧ q.toInt = -1) ∨ (y = 0 ∧ ¬ q.toInt = -1)))) := by
  refine cap_of (d := 0) (M := mX8_isMissing) rfl (Nat.le_of_ble_eq_true rfl) ?_
  show EvP im_K0 0 mX8_isMissing (0, [(0, .ref (16 + s))], [], h) _
  refine te_aload_n (p2 := 1) rfl rfl rfl ?_
  refine tg_i (p2 := 4) (i := s) rfl rfl hI rfl (by rcases q_s with rfl | rfl | rfl | rfl <;> rfl) (by rcases q_s with rfl | rfl | rfl | rfl <;> rfl) (fun y1 a1 b1 e1 => ?_)
  refine te_iconst (p2 := 5) (x := (-1)) rfl rfl (by decide) ?_
  refine tb_ne (p2 := 8) rfl rfl rfl (show Int32.toInt (-1) = (-1) from rfl) (fun c2 => ?_) (fun c2 => ?_)
  · refine te_iconst (p2 := 13) (x := 0) rfl rfl (by decide) ?_
    exact te_zret rfl rfl (by decide) ⟨rfl, _, rfl, y1, e1, Or.inr ⟨rfl, by omega⟩⟩
  · refine te_iconst (p2 := 9) (x := 1) rfl rfl (by decide) ?_
    refine te_goto rfl ?_
    exact te_zret rfl rfl (by decide) ⟨rfl, _, rfl, y1, e1, Or.inl ⟨rfl, by omega⟩⟩
def clT (x2 q z : Int32) : Int32 := if q.toInt = -1 then -11 else if 0 ≤ x2.toInt ∧ x2.toInt < z.toInt then 1 else -12
def nrw (q x3 : Int32) : Int32 := (if q.toInt = 0 then Int8.toInt32 (Int32.toInt8 x3) else if q.toInt = 1 then Int16.toInt32 (Int32.toInt16 x3) else x3)
set_option maxRecDepth 20000 in
set_option maxHeartbeats 4000000 in
theorem c_X8_put {s : Nat} {i : Int32} {v : Int32} {h : im_H} (hI : tI h) (q_s : s = 140 ∨ s = 142 ∨ s = 144 ∨ s = 146) (p_i0 : 0 ≤ i.toInt) (p_i1 : i.toInt ≤ 39) : CaP 1 42 [.ref (16 + s), .int i, .int v] h (fun r h2 => tI h2 ∧ fr (F_X8_put s) h h2 ∧ r = none ∧ (∀ q : Int32, rd h s 0 = some (.int q) → rd h2 (s + 1) i.toInt.toNat = some (.int (nrw q v))) ∧ (∀ j k, (j ≠ s + 1 ∨ k ≠ i.toInt.toNat) → rd h2 j k = rd h j k)) := by
  refine cap_of (d := 0) (M := mX8_put) rfl (Nat.le_of_ble_eq_true rfl) ?_
  show EvP im_K0 0 mX8_put (0, [(0, .ref (16 + s)), (1, .int i), (2, .int v)], [], h) _
  have f0 : fr (F_X8_put s) h h := fr_rf
  refine te_aload_n (p2 := 1) rfl rfl rfl ?_
  refine tg_r (p2 := 4) (i := s) (r := (16 + (s + 1))) rfl rfl hI rfl (by rcases q_s with rfl | rfl | rfl | rfl <;> rfl) (by rcases q_s with rfl | rfl | rfl | rfl <;> rfl) ?_
  refine te_iload_n (p2 := 5) rfl rfl rfl ?_
  refine te_aload_n (p2 := 6) rfl rfl rfl ?_
  refine tg_i (p2 := 9) (i := s) rfl rfl hI rfl (by rcases q_s with rfl | rfl | rfl | rfl <;> rfl) (by rcases q_s with rfl | rfl | rfl | rfl <;> rfl) (fun y1 a1 b1 e1 => ?_)
  refine tz_ne (p2 := 12) rfl rfl rfl (fun c2 => ?_) (fun c2 => ?_)
  · refine te_aload_n (p2 := 18) rfl rfl rfl ?_
    refine tg_e (p2 := 21) (i := s) (v := .int y1) rfl rfl hI rfl (by rcases q_s with rfl | rfl | rfl | rfl <;> rfl) e1 ?_
    refine te_iconst (p2 := 22) (x := 1) rfl rfl (by decide) ?_
    refine tb_ne (p2 := 25) rfl rfl rfl (show Int32.toInt 1 = 1 from rfl) (fun c3 => ?_) (fun c3 => ?_)
    · refine te_iload_n (p2 := 31) rfl rfl rfl ?_
      refine ts_i (p2 := 32) (i := (s + 1)) (n := 40) rfl rfl hI rfl (by rcases q_s with rfl | rfl | rfl | rfl <;> rfl) (by rcases q_s with rfl | rfl | rfl | rfl <;> rfl) rfl (by omega) (by omega) (i32_lo _) (i32_hi _) (i32_ho _) (by rcases q_s with rfl | rfl | rfl | rfl <;> rfl) (fun h4 I4 u4 => ?_)
      have f4 := fr_st (F := (F_X8_put s)) 0 f0 u4 rfl (by omega) (by omega)
      exact te_vret rfl rfl ⟨I4, f4, rfl, (fun q hq => by (have e_ : q = y1 := int_inj hq e1); rw [e_]; exact u4.1.trans (congrArg (fun t => some (Value.int t)) (show v = nrw y1 v from by (unfold nrw; (repeat' split) <;> first | (exfalso; omega) | rfl | (subst_vars; rfl))))), (fun j k hk => u4.2 _ _ hk)⟩
    · refine te_iload_n (p2 := 26) rfl rfl rfl ?_
      obtain ⟨z5, e5⟩ : ∃ z, (Int16.toInt32 (Int32.toInt16 v)) = z := ⟨_, rfl⟩
      refine te_i2s (p2 := 27) rfl rfl e5 ?_
      refine te_goto rfl ?_
      refine ts_i (p2 := 32) (i := (s + 1)) (n := 40) rfl rfl hI rfl (by rcases q_s with rfl | rfl | rfl | rfl <;> rfl) (by rcases q_s with rfl | rfl | rfl | rfl <;> rfl) rfl (by omega) (by omega) (i32_lo _) (i32_hi _) (i32_ho _) (by rcases q_s with rfl | rfl | rfl | rfl <;> rfl) (fun h6 I6 u6 => ?_)
      have f6 := fr_st (F := (F_X8_put s)) 0 f0 u6 rfl (by omega) (by omega)
      exact te_vret rfl rfl ⟨I6, f6, rfl, (fun q hq => by (have e_ : q = y1 := int_inj hq e1); rw [e_]; exact u6.1.trans (congrArg (fun t => some (Value.int t)) (show z5 = nrw y1 v from by (unfold nrw; (repeat' split) <;> first | (exfalso; omega) | rfl | (subst_vars; rfl))))), (fun j k hk => u6.2 _ _ hk)⟩
  · refine te_iload_n (p2 := 13) rfl rfl rfl ?_
    obtain ⟨z7, e7⟩ : ∃ z, (Int8.toInt32 (Int32.toInt8 v)) = z := ⟨_, rfl⟩
    refine te_i2b (p2 := 14) rfl rfl e7 ?_
    refine te_goto rfl ?_
    refine ts_i (p2 := 32) (i := (s + 1)) (n := 40) rfl rfl hI rfl (by rcases q_s with rfl | rfl | rfl | rfl <;> rfl) (by rcases q_s with rfl | rfl | rfl | rfl <;> rfl) rfl (by omega) (by omega) (i32_lo _) (i32_hi _) (i32_ho _) (by rcases q_s with rfl | rfl | rfl | rfl <;> rfl) (fun h8 I8 u8 => ?_)
    have f8 := fr_st (F := (F_X8_put s)) 0 f0 u8 rfl (by omega) (by omega)
    exact te_vret rfl rfl ⟨I8, f8, rfl, (fun q hq => by (have e_ : q = y1 := int_inj hq e1); rw [e_]; exact u8.1.trans (congrArg (fun t => some (Value.int t)) (show z7 = nrw y1 v from by (unfold nrw; (repeat' split) <;> first | (exfalso; omega) | rfl | (subst_vars; rfl))))), (fun j k hk => u8.2 _ _ hk)⟩
abbrev Q1_cell (x1 x2 x3 : Int32) (y : Int32) (h h2 : im_H) : Prop := ((0 ≤ x1.toInt ∧ x1.toInt ≤ 3 ∧ ∃ q z : Int32, rd h (140 + 2 * x1.toInt.toNat) 0 = some (.int q) ∧ rd h (140 + 2 * x1.toInt.toNat) 1 = some (.int z) ∧ y = clT x2 q z) ∨ (¬ (0 ≤ x1.toInt ∧ x1.toInt ≤ 3) ∧ y = -2)) ∧ (y.toInt = 1 → 0 ≤ x2.toInt ∧ x2.toInt < 40 ∧ ∀ q : Int32, rd h (140 + 2 * x1.toInt.toNat) 0 = some (.int q) → rd h2 (141 + 2 * x1.toInt.toNat) x2.toInt.toNat = some (.int (nrw q x3))) ∧ (∀ s i, s < 4 → (s ≠ x1.toInt.toNat ∨ i ≠ x2.toInt.toNat ∨ y.toInt ≠ 1) → rd h2 (141 + 2 * s) i = rd h (141 + 2 * s) i)
set_option maxRecDepth 20000 in
set_option maxHeartbeats 4000000 in
theorem c_X11_cell {x1 : Int32} {x2 : Int32} {x3 : Int32} {h : im_H} (hI : tI h)  : CaP 3 105 [.ref 16, .int x1, .int x2, .int x3] h (fun v h2 => tI h2 ∧ fr F_X11_cell h h2 ∧ ∃ y : Int32, v = some (.int y) ∧ Q1_cell x1 x2 x3 y h h2) := by
  refine cap_of (d := 2) (M := mX11_cell) rfl (Nat.le_of_ble_eq_true rfl) ?_
  show EvP im_K0 2 mX11_cell (0, [(0, .ref 16), (1, .int x1), (2, .int x2), (3, .int x3)], [], h) _
  have f0 : fr F_X11_cell h h := fr_rf
  refine te_iload_n (p2 := 1) rfl rfl rfl ?_
  refine te_iconst (p2 := 2) (x := 4) rfl rfl (by decide) ?_
  refine cS_pI (p2 := 5) rfl rfl rfl rfl (t_X11_within (n := x1) (b := 4) hI ) (by decide) (fun y1 r1 => ?_)
  rcases r1 with ⟨w1, c1⟩ | ⟨w1, c1⟩
  · subst w1
    have cc1_1 := (show Int32.toInt 4 = 4 from rfl)
    refine tz_ne (p2 := 8) rfl rfl (show Int32.toInt 1 = 1 from rfl) (fun c2 => ?_) (fun c2 => absurd c2 (by omega))
    refine te_aload_n (p2 := 12) rfl rfl rfl ?_
    refine tg_r (p2 := 15) (i := 0) (r := 113) rfl rfl hI rfl rfl rfl ?_
    refine te_iload_n (p2 := 16) rfl rfl rfl ?_
    refine tl_f (p2 := 17) (i := 97) (n := 4) (c0 := 140) (sp := 2) rfl rfl hI rfl rfl (by decide) rq_97 (by omega) (by omega) (fun o3 w3 => ?_)
    have q3 : o3 = 140 ∨ o3 = 142 ∨ o3 = 144 ∨ o3 = 146 := by omega
    refine cV_pI (p2 := 20) (i := o3) rfl rfl rfl rfl hI rfl (by rcases q3 with rfl | rfl | rfl | rfl <;> rfl) rfl (c_X8_isMissing (s := o3) hI q3) (by decide) (fun y4 r4 => ?_)
    obtain ⟨p4, e4, r4⟩ := r4
    rcases r4 with ⟨w4_, c4⟩ | ⟨w4_, c4⟩
    · subst w4_
      refine tz_eq (p2 := 23) rfl rfl (show Int32.toInt 1 = 1 from rfl) (fun c5 => absurd c5 (by omega)) (fun c5 => ?_)
      refine te_bipush (p2 := 25) (x := (-11)) rfl rfl (by decide) ?_
      obtain ⟨v6, e6, y6, w6, a6, b6, _⟩ := hI.2.1 o3 1 (.inl (0, 40, 9999999999)) (by rcases q3 with rfl | rfl | rfl | rfl <;> rfl)
      subst w6
      exact te_iret rfl rfl ⟨hI, f0, _, rfl, Or.inl ⟨by omega, by omega, p4, y6, (by rw [← w3]; exact e4), (by rw [← w3]; exact e6), (by unfold clT; (repeat' split) <;> first | (exfalso; omega) | rfl)⟩, (fun hy => absurd hy (by rw [(show Int32.toInt (-11) = (-11) from rfl)]; decide)), (fun s i hs hn => rfl)⟩
    · subst w4_
      refine tz_eq (p2 := 23) rfl rfl (show Int32.toInt 0 = 0 from rfl) (fun c7 => ?_) (fun c7 => absurd c7 (by omega))
      refine te_iload_n (p2 := 27) rfl rfl rfl ?_
      refine te_aload_n (p2 := 28) rfl rfl rfl ?_
      refine tg_r (p2 := 31) (i := 0) (r := 113) rfl rfl hI rfl rfl rfl ?_
      refine te_iload_n (p2 := 32) rfl rfl rfl ?_
      refine tl_f (p2 := 33) (i := 97) (n := 4) (c0 := 140) (sp := 2) rfl rfl hI rfl rfl (by decide) rq_97 (by omega) (by omega) (fun o8 w8 => ?_)
      have q8 : o8 = 140 ∨ o8 = 142 ∨ o8 = 144 ∨ o8 = 146 := by omega
      refine tg_i (p2 := 36) (i := o8) rfl rfl hI rfl (by rcases q8 with rfl | rfl | rfl | rfl <;> rfl) (by rcases q8 with rfl | rfl | rfl | rfl <;> rfl) (fun y9 a9 b9 e9 => ?_)
      refine cS_pI (p2 := 39) rfl rfl rfl rfl (t_X11_within (n := x2) (b := y9) hI ) (by decide) (fun y10 r10 => ?_)
      rcases r10 with ⟨w10, c10⟩ | ⟨w10, c10⟩
      · subst w10
        refine tz_ne (p2 := 42) rfl rfl (show Int32.toInt 1 = 1 from rfl) (fun c11 => ?_) (fun c11 => absurd c11 (by omega))
        refine te_aload_n (p2 := 46) rfl rfl rfl ?_
        refine tg_r (p2 := 49) (i := 0) (r := 113) rfl rfl hI rfl rfl rfl ?_
        refine te_iload_n (p2 := 50) rfl rfl rfl ?_
        refine tl_f (p2 := 51) (i := 97) (n := 4) (c0 := 140) (sp := 2) rfl rfl hI rfl rfl (by decide) rq_97 (by omega) (by omega) (fun o12 w12 => ?_)
        have q12 : o12 = 140 ∨ o12 = 142 ∨ o12 = 144 ∨ o12 = 146 := by omega
        refine te_iload_n (p2 := 52) rfl rfl rfl ?_
        refine te_iload_n (p2 := 53) rfl rfl rfl ?_
        refine tc_V (p2 := 56) (i := o12) rfl rfl rfl rfl hI rfl (by rcases q12 with rfl | rfl | rfl | rfl <;> rfl) rfl (c_X8_put (s := o12) (i := x2) (v := x3) hI q12 (by omega) (by omega)) (by decide) (fun v13 h13 hq13 => ?_)
        obtain ⟨I13, g13, w13, Z13, Y13⟩ := hq13
        subst w13
        have f13 := fr_tr (F1 := (F_X8_put o12)) (F := F_X11_cell) f0 g13 (by rcases q12 with rfl | rfl | rfl | rfl <;> decide)
        show EvP _ _ _ (56, [(0, .ref 16), (1, .int x1), (2, .int x2), (3, .int x3)], [], h13) _
        refine te_iconst (p2 := 57) (x := 1) rfl rfl (by decide) ?_
        exact te_iret rfl rfl ⟨I13, f13, _, rfl, Or.inl ⟨by omega, by omega, p4, y9, (by rw [← w3]; exact e4), (by rw [← w8]; exact e9), (by unfold clT; (repeat' split) <;> first | (exfalso; omega) | rfl)⟩, (fun _ => ⟨by omega, by omega, fun q hq => by (rw [show 141 + 2 * x1.toInt.toNat = o12 + 1 by omega]; exact Z13 q (by rw [show o12 = 140 + 2 * x1.toInt.toNat by omega]; exact hq))⟩), (fun s i hs hn => Y13 _ _ (by (have h9 : ¬ (Int32.toInt 1 ≠ 1) := (by decide)); omega))⟩
      · subst w10
        refine tz_ne (p2 := 42) rfl rfl (show Int32.toInt 0 = 0 from rfl) (fun c14 => absurd c14 (by omega)) (fun c14 => ?_)
        refine te_bipush (p2 := 44) (x := (-12)) rfl rfl (by decide) ?_
        exact te_iret rfl rfl ⟨hI, f0, _, rfl, Or.inl ⟨by omega, by omega, p4, y9, (by rw [← w3]; exact e4), (by rw [← w8]; exact e9), (by unfold clT; (repeat' split) <;> first | (exfalso; omega) | rfl)⟩, (fun hy => absurd hy (by rw [(show Int32.toInt (-12) = (-12) from rfl)]; decide)), (fun s i hs hn => rfl)⟩
  · subst w1
    have cc1_1 := (show Int32.toInt 4 = 4 from rfl)
    refine tz_ne (p2 := 8) rfl rfl (show Int32.toInt 0 = 0 from rfl) (fun c15 => absurd c15 (by omega)) (fun c15 => ?_)
    refine te_bipush (p2 := 10) (x := (-2)) rfl rfl (by decide) ?_
    exact te_iret rfl rfl ⟨hI, f0, _, rfl, Or.inr ⟨by omega, rfl⟩, (fun hy => absurd hy (by rw [(show Int32.toInt (-2) = (-2) from rfl)]; decide)), (fun s i hs hn => rfl)⟩
abbrev Q2_cell (x1 x2 x3 : Int32) (y : Int32) (h h2 : im_H) : Prop := ((0 ≤ x1.toInt ∧ x1.toInt ≤ 3 ∧ ∃ q z : Int32, rd h 192 x1.toInt.toNat = some (.int q) ∧ rd h 193 x1.toInt.toNat = some (.int z) ∧ y = clT x2 q z) ∨ (¬ (0 ≤ x1.toInt ∧ x1.toInt ≤ 3) ∧ y = -2)) ∧ (y.toInt = 1 → 0 ≤ x2.toInt ∧ x2.toInt < 40 ∧ ∀ q : Int32, rd h 192 x1.toInt.toNat = some (.int q) → rd h2 194 (40 * x1.toInt.toNat + x2.toInt.toNat) = some (.int (nrw q x3))) ∧ (∀ s i, s < 4 → i < 40 → (s ≠ x1.toInt.toNat ∨ i ≠ x2.toInt.toNat ∨ y.toInt ≠ 1) → rd h2 194 (40 * s + i) = rd h 194 (40 * s + i))
set_option maxRecDepth 20000 in
set_option maxHeartbeats 4000000 in
theorem c_X12_cell {x1 : Int32} {x2 : Int32} {x3 : Int32} {h : im_H} (hI : tI h)  : CaP 3 192 [.ref 164, .int x1, .int x2, .int x3] h (fun v h2 => tI h2 ∧ fr F_X12_cell h h2 ∧ ∃ y : Int32, v = some (.int y) ∧ Q2_cell x1 x2 x3 y h h2) := by
  refine cap_of (d := 2) (M := mX12_cell) rfl (Nat.le_of_ble_eq_true rfl) ?_
  show EvP im_K0 2 mX12_cell (0, [(0, .ref 164), (1, .int x1), (2, .int x2), (3, .int x3)], [], h) _
  have f0 : fr F_X12_cell h h := fr_rf
  refine te_iload_n (p2 := 1) rfl rfl rfl ?_
  refine te_iconst (p2 := 2) (x := 0) rfl rfl (by decide) ?_
  refine te_iconst (p2 := 3) (x := 3) rfl rfl (by decide) ?_
  refine cS_pI (p2 := 6) rfl rfl rfl rfl (t_X12_in (n := x1) (a := 0) (b := 3) hI ) (by decide) (fun y1 r1 => ?_)
  rcases r1 with ⟨w1, c1⟩ | ⟨w1, c1⟩
  · subst w1
    have cc1_1 := (show Int32.toInt 0 = 0 from rfl)
    have cc1_2 := (show Int32.toInt 3 = 3 from rfl)
    refine tz_ne (p2 := 9) rfl rfl (show Int32.toInt 1 = 1 from rfl) (fun c2 => ?_) (fun c2 => absurd c2 (by omega))
    refine te_aload_n (p2 := 13) rfl rfl rfl ?_
    refine tg_r (p2 := 16) (i := 148) (r := 208) rfl rfl hI rfl rfl rfl ?_
    refine te_iload_n (p2 := 17) rfl rfl rfl ?_
    refine tl_i (p2 := 18) (i := 192) (n := 4) rfl rfl hI rfl rfl rfl rfl (by omega) (by omega) (fun y3 a3 b3 g3 e3 => ?_)
    refine te_iconst (p2 := 19) (x := (-1)) rfl rfl (by decide) ?_
    refine tb_ne (p2 := 22) rfl rfl rfl (show Int32.toInt (-1) = (-1) from rfl) (fun c4 => ?_) (fun c4 => ?_)
    · refine te_iload_n (p2 := 26) rfl rfl rfl ?_
      refine te_iconst (p2 := 27) (x := 0) rfl rfl (by decide) ?_
      refine te_aload_n (p2 := 28) rfl rfl rfl ?_
      refine tg_r (p2 := 31) (i := 148) (r := 209) rfl rfl hI rfl rfl rfl ?_
      refine te_iload_n (p2 := 32) rfl rfl rfl ?_
      refine tl_i (p2 := 33) (i := 193) (n := 4) rfl rfl hI rfl rfl rfl rfl (by omega) (by omega) (fun y5 a5 b5 g5 e5 => ?_)
      refine te_iconst (p2 := 34) (x := 1) rfl rfl (by decide) ?_
      refine ar_sub (p2 := 35) rfl rfl rfl (show Int32.toInt 1 = 1 from rfl) (by omega) (by omega) (fun z6 e6 f6 => ?_)
      refine cS_pI (p2 := 38) rfl rfl rfl rfl (t_X12_in (n := x2) (a := 0) (b := z6) hI ) (by decide) (fun y7 r7 => ?_)
      rcases r7 with ⟨w7, c7⟩ | ⟨w7, c7⟩
      · subst w7
        have cc7_1 := (show Int32.toInt 0 = 0 from rfl)
        refine tz_ne (p2 := 41) rfl rfl (show Int32.toInt 1 = 1 from rfl) (fun c8 => ?_) (fun c8 => absurd c8 (by omega))
        refine te_aload_n (p2 := 45) rfl rfl rfl ?_
        refine tg_r (p2 := 48) (i := 148) (r := 210) rfl rfl hI rfl rfl rfl ?_
        refine te_bipush (p2 := 50) (x := 40) rfl rfl (by decide) ?_
        refine te_iload_n (p2 := 51) rfl rfl rfl ?_
        refine ar_mul (p2 := 52) rfl rfl (show Int32.toInt 40 = 40 from rfl) rfl (by omega) (by omega) (fun z9 e9 f9 => ?_)
        refine te_iload_n (p2 := 53) rfl rfl rfl ?_
        refine ar_add (p2 := 54) rfl rfl rfl rfl (by omega) (by omega) (fun z10 e10 f10 => ?_)
        refine te_aload_n (p2 := 55) rfl rfl rfl ?_
        refine tg_r (p2 := 58) (i := 148) (r := 208) rfl rfl hI rfl rfl rfl ?_
        refine te_iload_n (p2 := 59) rfl rfl rfl ?_
        refine tl_e (p2 := 60) (i := 192) (n := 4) (t := 0) (Or.inl rfl) rfl rfl hI rfl rfl (by omega) (by omega) e3 ?_
        refine tz_ne (p2 := 63) rfl rfl rfl (fun c12 => ?_) (fun c12 => ?_)
        · refine te_aload_n (p2 := 69) rfl rfl rfl ?_
          refine tg_r (p2 := 72) (i := 148) (r := 208) rfl rfl hI rfl rfl rfl ?_
          refine te_iload_n (p2 := 73) rfl rfl rfl ?_
          refine tl_e (p2 := 74) (i := 192) (n := 4) (t := 0) (Or.inl rfl) rfl rfl hI rfl rfl (by omega) (by omega) e3 ?_
          refine te_iconst (p2 := 75) (x := 1) rfl rfl (by decide) ?_
          refine tb_ne (p2 := 78) rfl rfl rfl (show Int32.toInt 1 = 1 from rfl) (fun c14 => ?_) (fun c14 => ?_)
          · refine te_iload_n (p2 := 84) rfl rfl rfl ?_
            refine ts_i (p2 := 85) (i := 194) (n := 160) rfl rfl hI rfl rfl rfl rfl (by omega) (by omega) (i32_lo _) (i32_hi _) (i32_ho _) rfl (fun h15 I15 u15 => ?_)
            have f15 := fr_st (F := F_X12_cell) 0 f0 u15 rfl (by omega) (by omega)
            refine te_iconst (p2 := 86) (x := 1) rfl rfl (by decide) ?_
            exact te_iret rfl rfl ⟨I15, f15, _, rfl, Or.inl ⟨by omega, by omega, y3, y5, e3, e5, (by unfold clT; (repeat' split) <;> first | (exfalso; omega) | rfl)⟩, (fun _ => ⟨by omega, by omega, fun q hq => by (have e_ : q = y3 := int_inj hq e3); rw [e_, show 40 * x1.toInt.toNat + x2.toInt.toNat = z10.toInt.toNat by omega]; exact u15.1.trans (congrArg (fun t => some (Value.int t)) (show x3 = nrw y3 x3 from by (unfold nrw; (repeat' split) <;> first | (exfalso; omega) | rfl | (subst_vars; rfl))))⟩), (fun s i hs hi hn => u15.2 _ _ (Or.inr (by (have h9 : ¬ (Int32.toInt 1 ≠ 1) := (by decide)); omega)))⟩
          · refine te_iload_n (p2 := 79) rfl rfl rfl ?_
            obtain ⟨z16, e16⟩ : ∃ z, (Int16.toInt32 (Int32.toInt16 x3)) = z := ⟨_, rfl⟩
            refine te_i2s (p2 := 80) rfl rfl e16 ?_
            refine te_goto rfl ?_
            refine ts_i (p2 := 85) (i := 194) (n := 160) rfl rfl hI rfl rfl rfl rfl (by omega) (by omega) (i32_lo _) (i32_hi _) (i32_ho _) rfl (fun h17 I17 u17 => ?_)
            have f17 := fr_st (F := F_X12_cell) 0 f0 u17 rfl (by omega) (by omega)
            refine te_iconst (p2 := 86) (x := 1) rfl rfl (by decide) ?_
            exact te_iret rfl rfl ⟨I17, f17, _, rfl, Or.inl ⟨by omega, by omega, y3, y5, e3, e5, (by unfold clT; (repeat' split) <;> first | (exfalso; omega) | rfl)⟩, (fun _ => ⟨by omega, by omega, fun q hq => by (have e_ : q = y3 := int_inj hq e3); rw [e_, show 40 * x1.toInt.toNat + x2.toInt.toNat = z10.toInt.toNat by omega]; exact u17.1.trans (congrArg (fun t => some (Value.int t)) (show z16 = nrw y3 x3 from by (unfold nrw; (repeat' split) <;> first | (exfalso; omega) | rfl | (subst_vars; rfl))))⟩), (fun s i hs hi hn => u17.2 _ _ (Or.inr (by (have h9 : ¬ (Int32.toInt 1 ≠ 1) := (by decide)); omega)))⟩
        · refine te_iload_n (p2 := 64) rfl rfl rfl ?_
          obtain ⟨z18, e18⟩ : ∃ z, (Int8.toInt32 (Int32.toInt8 x3)) = z := ⟨_, rfl⟩
          refine te_i2b (p2 := 65) rfl rfl e18 ?_
          refine te_goto rfl ?_
          refine ts_i (p2 := 85) (i := 194) (n := 160) rfl rfl hI rfl rfl rfl rfl (by omega) (by omega) (i32_lo _) (i32_hi _) (i32_ho _) rfl (fun h19 I19 u19 => ?_)
          have f19 := fr_st (F := F_X12_cell) 0 f0 u19 rfl (by omega) (by omega)
          refine te_iconst (p2 := 86) (x := 1) rfl rfl (by decide) ?_
          exact te_iret rfl rfl ⟨I19, f19, _, rfl, Or.inl ⟨by omega, by omega, y3, y5, e3, e5, (by unfold clT; (repeat' split) <;> first | (exfalso; omega) | rfl)⟩, (fun _ => ⟨by omega, by omega, fun q hq => by (have e_ : q = y3 := int_inj hq e3); rw [e_, show 40 * x1.toInt.toNat + x2.toInt.toNat = z10.toInt.toNat by omega]; exact u19.1.trans (congrArg (fun t => some (Value.int t)) (show z18 = nrw y3 x3 from by (unfold nrw; (repeat' split) <;> first | (exfalso; omega) | rfl | (subst_vars; rfl))))⟩), (fun s i hs hi hn => u19.2 _ _ (Or.inr (by (have h9 : ¬ (Int32.toInt 1 ≠ 1) := (by decide)); omega)))⟩
      · subst w7
        have cc7_1 := (show Int32.toInt 0 = 0 from rfl)
        refine tz_ne (p2 := 41) rfl rfl (show Int32.toInt 0 = 0 from rfl) (fun c20 => absurd c20 (by omega)) (fun c20 => ?_)
        refine te_bipush (p2 := 43) (x := (-12)) rfl rfl (by decide) ?_
        exact te_iret rfl rfl ⟨hI, f0, _, rfl, Or.inl ⟨by omega, by omega, y3, y5, e3, e5, (by unfold clT; (repeat' split) <;> first | (exfalso; omega) | rfl)⟩, (fun hy => absurd hy (by rw [(show Int32.toInt (-12) = (-12) from rfl)]; decide)), (fun s i hs hi hn => rfl)⟩
    · refine te_bipush (p2 := 24) (x := (-11)) rfl rfl (by decide) ?_
      obtain ⟨v21, e21, y21, w21, a21, b21, _⟩ := hI.2.1 193 x1.toInt.toNat (.inl (0, 40, 9999999999)) (tq_row rfl (by omega))
      subst w21
      exact te_iret rfl rfl ⟨hI, f0, _, rfl, Or.inl ⟨by omega, by omega, y3, y21, e3, e21, (by unfold clT; (repeat' split) <;> first | (exfalso; omega) | rfl)⟩, (fun hy => absurd hy (by rw [(show Int32.toInt (-11) = (-11) from rfl)]; decide)), (fun s i hs hi hn => rfl)⟩
  · subst w1
    have cc1_1 := (show Int32.toInt 0 = 0 from rfl)
    have cc1_2 := (show Int32.toInt 3 = 3 from rfl)
    refine tz_ne (p2 := 9) rfl rfl (show Int32.toInt 0 = 0 from rfl) (fun c22 => absurd c22 (by omega)) (fun c22 => ?_)
    refine te_bipush (p2 := 11) (x := (-2)) rfl rfl (by decide) ?_
    exact te_iret rfl rfl ⟨hI, f0, _, rfl, Or.inr ⟨by omega, rfl⟩, (fun hy => absurd hy (by rw [(show Int32.toInt (-2) = (-2) from rfl)]; decide)), (fun s i hs hi hn => rfl)⟩
def cpT (x2 x4 x5 q1 z1 q2 z2 : Int32) : Int32 := if q1.toInt = -1 ∨ q2.toInt = -1 then -11 else if ¬ q1.toInt = q2.toInt then -13 else if 0 ≤ x2.toInt ∧ 0 ≤ x5.toInt ∧ x5.toInt ≤ z1.toInt - x2.toInt ∧ 0 ≤ x4.toInt ∧ x5.toInt ≤ z2.toInt - x4.toInt then x5 else -12
abbrev Q1_copy (x1 x2 x3 x4 x5 : Int32) (y : Int32) (h h2 : im_H) : Prop := (((0 ≤ x1.toInt ∧ x1.toInt ≤ 3 ∧ 0 ≤ x3.toInt ∧ x3.toInt ≤ 3) ∧ ∃ q1 z1 q2 z2 : Int32, rd h (140 + 2 * x1.toInt.toNat) 0 = some (.int q1) ∧ rd h (140 + 2 * x1.toInt.toNat) 1 = some (.int z1) ∧ rd h (140 + 2 * x3.toInt.toNat) 0 = some (.int q2) ∧ rd h (140 + 2 * x3.toInt.toNat) 1 = some (.int z2) ∧ y = cpT x2 x4 x5 q1 z1 q2 z2) ∨ (¬ (0 ≤ x1.toInt ∧ x1.toInt ≤ 3 ∧ 0 ≤ x3.toInt ∧ x3.toInt ≤ 3) ∧ y = -2)) ∧ (0 ≤ y.toInt → 0 ≤ x2.toInt ∧ 0 ≤ x4.toInt ∧ x2.toInt + x5.toInt ≤ 40 ∧ x4.toInt + x5.toInt ≤ 40 ∧ (∀ i : Nat, i < 40 → (x4.toInt ≤ i ∧ (i : Int) < x4.toInt + x5.toInt) → rd h2 (141 + 2 * x3.toInt.toNat) i = rd h (141 + 2 * x1.toInt.toNat) (x2.toInt.toNat + (i - x4.toInt.toNat)))) ∧ (∀ s i : Nat, s < 4 → (s ≠ x3.toInt.toNat ∨ ¬ (x4.toInt ≤ i ∧ (i : Int) < x4.toInt + x5.toInt) ∨ ¬ 0 ≤ y.toInt) → rd h2 (141 + 2 * s) i = rd h (141 + 2 * s) i)
set_option maxRecDepth 20000 in
set_option maxHeartbeats 4000000 in
theorem c_X11_copy {x1 : Int32} {x2 : Int32} {x3 : Int32} {x4 : Int32} {x5 : Int32} {h : im_H} (hI : tI h)  : CaP 3 106 [.ref 16, .int x1, .int x2, .int x3, .int x4, .int x5] h (fun v h2 => tI h2 ∧ fr F_X11_copy h h2 ∧ ∃ y : Int32, v = some (.int y) ∧ Q1_copy x1 x2 x3 x4 x5 y h h2) := by
  refine cap_of (d := 2) (M := mX11_copy) rfl (Nat.le_of_ble_eq_true rfl) ?_
  show EvP im_K0 2 mX11_copy (0, [(0, .ref 16), (1, .int x1), (2, .int x2), (3, .int x3), (4, .int x4), (5, .int x5)], [], h) _
  have f0 : fr F_X11_copy h h := fr_rf
  refine te_iload_n (p2 := 1) rfl rfl rfl ?_
  refine te_iconst (p2 := 2) (x := 4) rfl rfl (by decide) ?_
  refine cS_pI (p2 := 5) rfl rfl rfl rfl (t_X11_within (n := x1) (b := 4) hI ) (by decide) (fun y1 r1 => ?_)
  rcases r1 with ⟨w1, c1⟩ | ⟨w1, c1⟩
  · subst w1
    have cc1_1 := (show Int32.toInt 4 = 4 from rfl)
    refine tz_eq (p2 := 8) rfl rfl (show Int32.toInt 1 = 1 from rfl) (fun c2 => absurd c2 (by omega)) (fun c2 => ?_)
    refine te_iload_n (p2 := 9) rfl rfl rfl ?_
    refine te_iconst (p2 := 10) (x := 4) rfl rfl (by decide) ?_
    refine cS_pI (p2 := 13) rfl rfl rfl rfl (t_X11_within (n := x3) (b := 4) hI ) (by decide) (fun y3 r3 => ?_)
    rcases r3 with ⟨w3, c3⟩ | ⟨w3, c3⟩
    · subst w3
      have cc3_1 := (show Int32.toInt 4 = 4 from rfl)
      refine tz_ne (p2 := 16) rfl rfl (show Int32.toInt 1 = 1 from rfl) (fun c4 => ?_) (fun c4 => absurd c4 (by omega))
      refine te_aload_n (p2 := 20) rfl rfl rfl ?_
      refine tg_r (p2 := 23) (i := 0) (r := 113) rfl rfl hI rfl rfl rfl ?_
      refine te_iload_n (p2 := 24) rfl rfl rfl ?_
      refine tl_f (p2 := 25) (i := 97) (n := 4) (c0 := 140) (sp := 2) rfl rfl hI rfl rfl (by decide) rq_97 (by omega) (by omega) (fun o5 w5 => ?_)
      have q5 : o5 = 140 ∨ o5 = 142 ∨ o5 = 144 ∨ o5 = 146 := by omega
      refine te_astore (p2 := 27) (lv2 := [(6, .ref (16 + o5)), (0, .ref 16), (1, .int x1), (2, .int x2), (3, .int x3), (4, .int x4), (5, .int x5)]) rfl rfl (by decide) rfl ?_
      refine te_aload_n (p2 := 28) rfl rfl rfl ?_
      refine tg_r (p2 := 31) (i := 0) (r := 113) rfl rfl hI rfl rfl rfl ?_
      refine te_iload_n (p2 := 32) rfl rfl rfl ?_
      refine tl_f (p2 := 33) (i := 97) (n := 4) (c0 := 140) (sp := 2) rfl rfl hI rfl rfl (by decide) rq_97 (by omega) (by omega) (fun o6 w6 => ?_)
      have q6 : o6 = 140 ∨ o6 = 142 ∨ o6 = 144 ∨ o6 = 146 := by omega
      refine te_astore (p2 := 35) (lv2 := [(7, .ref (16 + o6)), (6, .ref (16 + o5)), (0, .ref 16), (1, .int x1), (2, .int x2), (3, .int x3), (4, .int x4), (5, .int x5)]) rfl rfl (by decide) rfl ?_
      refine te_aload (p2 := 37) rfl rfl rfl ?_
      refine cV_pI (p2 := 40) (i := o5) rfl rfl rfl rfl hI rfl (by rcases q5 with rfl | rfl | rfl | rfl <;> rfl) rfl (c_X8_isMissing (s := o5) hI q5) (by decide) (fun y7 r7 => ?_)
      obtain ⟨p7, e7, r7⟩ := r7
      rcases r7 with ⟨w7_, c7⟩ | ⟨w7_, c7⟩
      · subst w7_
        refine tz_ne (p2 := 43) rfl rfl (show Int32.toInt 1 = 1 from rfl) (fun c8 => ?_) (fun c8 => absurd c8 (by omega))
        refine te_bipush (p2 := 53) (x := (-11)) rfl rfl (by decide) ?_
        obtain ⟨v9, e9, y9, w9, a9, b9, _⟩ := hI.2.1 o5 1 (.inl (0, 40, 9999999999)) (by rcases q5 with rfl | rfl | rfl | rfl <;> rfl)
        subst w9
        obtain ⟨v10, e10, y10, w10, a10, b10, _⟩ := hI.2.1 o6 0 (.inl ((-1), 2, 9999999999)) (by rcases q6 with rfl | rfl | rfl | rfl <;> rfl)
        subst w10
        obtain ⟨v11, e11, y11, w11, a11, b11, _⟩ := hI.2.1 o6 1 (.inl (0, 40, 9999999999)) (by rcases q6 with rfl | rfl | rfl | rfl <;> rfl)
        subst w11
        exact te_iret rfl rfl ⟨hI, f0, _, rfl, Or.inl ⟨by omega, p7, y9, y10, y11, (by rw [← w5]; exact e7), (by rw [← w5]; exact e9), (by rw [← w6]; exact e10), (by rw [← w6]; exact e11), (by unfold cpT; (repeat' split) <;> first | (exfalso; omega) | rfl)⟩, (fun hy => absurd hy (by rw [(show Int32.toInt (-11) = (-11) from rfl)]; decide)), (fun s i hs hn => rfl)⟩
      · subst w7_
        refine tz_ne (p2 := 43) rfl rfl (show Int32.toInt 0 = 0 from rfl) (fun c12 => absurd c12 (by omega)) (fun c12 => ?_)
        refine te_aload (p2 := 45) rfl rfl rfl ?_
        refine cV_pI (p2 := 48) (i := o6) rfl rfl rfl rfl hI rfl (by rcases q6 with rfl | rfl | rfl | rfl <;> rfl) rfl (c_X8_isMissing (s := o6) hI q6) (by decide) (fun y13 r13 => ?_)
        obtain ⟨p13, e13, r13⟩ := r13
        rcases r13 with ⟨w13_, c13⟩ | ⟨w13_, c13⟩
        · subst w13_
          refine tz_eq (p2 := 51) rfl rfl (show Int32.toInt 1 = 1 from rfl) (fun c14 => absurd c14 (by omega)) (fun c14 => ?_)
          refine te_bipush (p2 := 53) (x := (-11)) rfl rfl (by decide) ?_
          obtain ⟨v15, e15, y15, w15, a15, b15, _⟩ := hI.2.1 o5 1 (.inl (0, 40, 9999999999)) (by rcases q5 with rfl | rfl | rfl | rfl <;> rfl)
          subst w15
          obtain ⟨v16, e16, y16, w16, a16, b16, _⟩ := hI.2.1 o6 1 (.inl (0, 40, 9999999999)) (by rcases q6 with rfl | rfl | rfl | rfl <;> rfl)
          subst w16
          exact te_iret rfl rfl ⟨hI, f0, _, rfl, Or.inl ⟨by omega, p7, y15, p13, y16, (by rw [← w5]; exact e7), (by rw [← w5]; exact e15), (by rw [← w6]; exact e13), (by rw [← w6]; exact e16), (by unfold cpT; (repeat' split) <;> first | (exfalso; omega) | rfl)⟩, (fun hy => absurd hy (by rw [(show Int32.toInt (-11) = (-11) from rfl)]; decide)), (fun s i hs hn => rfl)⟩
        · subst w13_
          refine tz_eq (p2 := 51) rfl rfl (show Int32.toInt 0 = 0 from rfl) (fun c17 => ?_) (fun c17 => absurd c17 (by omega))
          refine te_aload (p2 := 56) rfl rfl rfl ?_
          refine tg_e (p2 := 59) (i := o5) (v := .int p7) rfl rfl hI rfl (by rcases q5 with rfl | rfl | rfl | rfl <;> rfl) e7 ?_
          refine te_aload (p2 := 61) rfl rfl rfl ?_
          refine tg_e (p2 := 64) (i := o6) (v := .int p13) rfl rfl hI rfl (by rcases q6 with rfl | rfl | rfl | rfl <;> rfl) e13 ?_
          refine tb_eq (p2 := 67) rfl rfl rfl rfl (fun c18 => ?_) (fun c18 => ?_)
          · refine te_aload (p2 := 72) rfl rfl rfl ?_
            refine te_iload_n (p2 := 73) rfl rfl rfl ?_
            refine te_iload (p2 := 75) rfl rfl rfl ?_
            refine cV_pI (p2 := 78) (i := o5) rfl rfl rfl rfl hI rfl (by rcases q5 with rfl | rfl | rfl | rfl <;> rfl) rfl (t_X8_holds (s := o5) (i := x2) (n := x5) hI q5) (by decide) (fun y19 r19 => ?_)
            obtain ⟨p19, e19, a19, b19, r19⟩ := r19
            rcases r19 with ⟨w19, c19⟩ | ⟨w19, c19⟩
            · subst w19
              refine tz_eq (p2 := 81) rfl rfl (show Int32.toInt 1 = 1 from rfl) (fun c20 => absurd c20 (by omega)) (fun c20 => ?_)
              refine te_aload (p2 := 83) rfl rfl rfl ?_
              refine te_iload (p2 := 85) rfl rfl rfl ?_
              refine te_iload (p2 := 87) rfl rfl rfl ?_
              refine cV_pI (p2 := 90) (i := o6) rfl rfl rfl rfl hI rfl (by rcases q6 with rfl | rfl | rfl | rfl <;> rfl) rfl (t_X8_holds (s := o6) (i := x4) (n := x5) hI q6) (by decide) (fun y21 r21 => ?_)
              obtain ⟨p21, e21, a21, b21, r21⟩ := r21
              rcases r21 with ⟨w21, c21⟩ | ⟨w21, c21⟩
              · subst w21
                refine tz_ne (p2 := 93) rfl rfl (show Int32.toInt 1 = 1 from rfl) (fun c22 => ?_) (fun c22 => absurd c22 (by omega))
                refine te_aload (p2 := 98) rfl rfl rfl ?_
                refine tg_r (p2 := 101) (i := o5) (r := (16 + (o5 + 1))) rfl rfl hI rfl (by rcases q5 with rfl | rfl | rfl | rfl <;> rfl) (by rcases q5 with rfl | rfl | rfl | rfl <;> rfl) ?_
                refine te_iload_n (p2 := 102) rfl rfl rfl ?_
                refine te_aload (p2 := 104) rfl rfl rfl ?_
                refine tg_r (p2 := 107) (i := o6) (r := (16 + (o6 + 1))) rfl rfl hI rfl (by rcases q6 with rfl | rfl | rfl | rfl <;> rfl) (by rcases q6 with rfl | rfl | rfl | rfl <;> rfl) ?_
                refine te_iload (p2 := 109) rfl rfl rfl ?_
                refine te_iload (p2 := 111) rfl rfl rfl ?_
                refine tc_cp (p2 := 114) (i1 := (o5 + 1)) (i2 := (o6 + 1)) (n1 := 40) (n2 := 40) rfl rfl hI rfl rfl (by rcases q5 with rfl | rfl | rfl | rfl <;> rfl) (by rcases q6 with rfl | rfl | rfl | rfl <;> rfl) (by rcases q5 with rfl | rfl | rfl | rfl <;> rfl) (by rcases q6 with rfl | rfl | rfl | rfl <;> rfl) rfl rfl (Or.inl rfl) rfl rfl rfl (by omega) (by omega) (by omega) (by omega) (by omega) rfl (by rcases q6 with rfl | rfl | rfl | rfl <;> rfl) (fun h23 I23 c23 u23 => ?_)
                have f23 := fr_cp (F := F_X11_copy) (i := (o6 + 1)) (a := 0) (b := 39) f0 u23 (by rcases q6 with rfl | rfl | rfl | rfl <;> decide) (by omega) (by omega)
                refine te_iload (p2 := 116) rfl rfl rfl ?_
                exact te_iret rfl rfl ⟨I23, f23, _, rfl, Or.inl ⟨by omega, p7, p19, p13, p21, (by rw [← w5]; exact e7), (by rw [← w5]; exact e19), (by rw [← w6]; exact e13), (by rw [← w6]; exact e21), (by unfold cpT; (repeat' split) <;> first | (exfalso; omega) | rfl)⟩, (fun _ => ⟨by omega, by omega, by omega, by omega, fun i hi hq => by (rw [show 141 + 2 * x3.toInt.toNat = o6 + 1 by omega, show 141 + 2 * x1.toInt.toNat = o5 + 1 by omega]; exact c23 i (by omega) (by omega))⟩), (fun s i hs hn => u23 _ _ (by omega))⟩
              · subst w21
                refine tz_ne (p2 := 93) rfl rfl (show Int32.toInt 0 = 0 from rfl) (fun c24 => absurd c24 (by omega)) (fun c24 => ?_)
                refine te_bipush (p2 := 95) (x := (-12)) rfl rfl (by decide) ?_
                exact te_iret rfl rfl ⟨hI, f0, _, rfl, Or.inl ⟨by omega, p7, p19, p13, p21, (by rw [← w5]; exact e7), (by rw [← w5]; exact e19), (by rw [← w6]; exact e13), (by rw [← w6]; exact e21), (by unfold cpT; (repeat' split) <;> first | (exfalso; omega) | rfl)⟩, (fun hy => absurd hy (by rw [(show Int32.toInt (-12) = (-12) from rfl)]; decide)), (fun s i hs hn => rfl)⟩
            · subst w19
              refine tz_eq (p2 := 81) rfl rfl (show Int32.toInt 0 = 0 from rfl) (fun c25 => ?_) (fun c25 => absurd c25 (by omega))
              refine te_bipush (p2 := 95) (x := (-12)) rfl rfl (by decide) ?_
              obtain ⟨v26, e26, y26, w26, a26, b26, _⟩ := hI.2.1 o6 1 (.inl (0, 40, 9999999999)) (by rcases q6 with rfl | rfl | rfl | rfl <;> rfl)
              subst w26
              exact te_iret rfl rfl ⟨hI, f0, _, rfl, Or.inl ⟨by omega, p7, p19, p13, y26, (by rw [← w5]; exact e7), (by rw [← w5]; exact e19), (by rw [← w6]; exact e13), (by rw [← w6]; exact e26), (by unfold cpT; (repeat' split) <;> first | (exfalso; omega) | rfl)⟩, (fun hy => absurd hy (by rw [(show Int32.toInt (-12) = (-12) from rfl)]; decide)), (fun s i hs hn => rfl)⟩
          · refine te_bipush (p2 := 69) (x := (-13)) rfl rfl (by decide) ?_
            obtain ⟨v27, e27, y27, w27, a27, b27, _⟩ := hI.2.1 o5 1 (.inl (0, 40, 9999999999)) (by rcases q5 with rfl | rfl | rfl | rfl <;> rfl)
            subst w27
            obtain ⟨v28, e28, y28, w28, a28, b28, _⟩ := hI.2.1 o6 1 (.inl (0, 40, 9999999999)) (by rcases q6 with rfl | rfl | rfl | rfl <;> rfl)
            subst w28
            exact te_iret rfl rfl ⟨hI, f0, _, rfl, Or.inl ⟨by omega, p7, y27, p13, y28, (by rw [← w5]; exact e7), (by rw [← w5]; exact e27), (by rw [← w6]; exact e13), (by rw [← w6]; exact e28), (by unfold cpT; (repeat' split) <;> first | (exfalso; omega) | rfl)⟩, (fun hy => absurd hy (by rw [(show Int32.toInt (-13) = (-13) from rfl)]; decide)), (fun s i hs hn => rfl)⟩
    · subst w3
      have cc3_1 := (show Int32.toInt 4 = 4 from rfl)
      refine tz_ne (p2 := 16) rfl rfl (show Int32.toInt 0 = 0 from rfl) (fun c29 => absurd c29 (by omega)) (fun c29 => ?_)
      refine te_bipush (p2 := 18) (x := (-2)) rfl rfl (by decide) ?_
      exact te_iret rfl rfl ⟨hI, f0, _, rfl, Or.inr ⟨by omega, rfl⟩, (fun hy => absurd hy (by rw [(show Int32.toInt (-2) = (-2) from rfl)]; decide)), (fun s i hs hn => rfl)⟩
  · subst w1
    have cc1_1 := (show Int32.toInt 4 = 4 from rfl)
    refine tz_eq (p2 := 8) rfl rfl (show Int32.toInt 0 = 0 from rfl) (fun c30 => ?_) (fun c30 => absurd c30 (by omega))
    refine te_bipush (p2 := 18) (x := (-2)) rfl rfl (by decide) ?_
    exact te_iret rfl rfl ⟨hI, f0, _, rfl, Or.inr ⟨by omega, rfl⟩, (fun hy => absurd hy (by rw [(show Int32.toInt (-2) = (-2) from rfl)]; decide)), (fun s i hs hn => rfl)⟩
abbrev Q2_copy (x1 x2 x3 x4 x5 : Int32) (y : Int32) (h h2 : im_H) : Prop := (((0 ≤ x1.toInt ∧ x1.toInt ≤ 3 ∧ 0 ≤ x3.toInt ∧ x3.toInt ≤ 3) ∧ ∃ q1 z1 q2 z2 : Int32, rd h 192 x1.toInt.toNat = some (.int q1) ∧ rd h 193 x1.toInt.toNat = some (.int z1) ∧ rd h 192 x3.toInt.toNat = some (.int q2) ∧ rd h 193 x3.toInt.toNat = some (.int z2) ∧ y = cpT x2 x4 x5 q1 z1 q2 z2) ∨ (¬ (0 ≤ x1.toInt ∧ x1.toInt ≤ 3 ∧ 0 ≤ x3.toInt ∧ x3.toInt ≤ 3) ∧ y = -2)) ∧ (0 ≤ y.toInt → 0 ≤ x2.toInt ∧ 0 ≤ x4.toInt ∧ x2.toInt + x5.toInt ≤ 40 ∧ x4.toInt + x5.toInt ≤ 40 ∧ (∀ i : Nat, i < 40 → (x4.toInt ≤ i ∧ (i : Int) < x4.toInt + x5.toInt) → rd h2 194 (40 * x3.toInt.toNat + i) = rd h 194 (40 * x1.toInt.toNat + (x2.toInt.toNat + (i - x4.toInt.toNat))))) ∧ (∀ s i : Nat, s < 4 → i < 40 → (s ≠ x3.toInt.toNat ∨ ¬ (x4.toInt ≤ i ∧ (i : Int) < x4.toInt + x5.toInt) ∨ ¬ 0 ≤ y.toInt) → rd h2 194 (40 * s + i) = rd h 194 (40 * s + i))
set_option maxRecDepth 20000 in
set_option maxHeartbeats 4000000 in
theorem c_X12_copy {x1 : Int32} {x2 : Int32} {x3 : Int32} {x4 : Int32} {x5 : Int32} {h : im_H} (hI : tI h)  : CaP 3 193 [.ref 164, .int x1, .int x2, .int x3, .int x4, .int x5] h (fun v h2 => tI h2 ∧ fr F_X12_copy h h2 ∧ ∃ y : Int32, v = some (.int y) ∧ Q2_copy x1 x2 x3 x4 x5 y h h2) := by
  refine cap_of (d := 2) (M := mX12_copy) rfl (Nat.le_of_ble_eq_true rfl) ?_
  show EvP im_K0 2 mX12_copy (0, [(0, .ref 164), (1, .int x1), (2, .int x2), (3, .int x3), (4, .int x4), (5, .int x5)], [], h) _
  have f0 : fr F_X12_copy h h := fr_rf
  refine te_iload_n (p2 := 1) rfl rfl rfl ?_
  refine te_iconst (p2 := 2) (x := 0) rfl rfl (by decide) ?_
  refine te_iconst (p2 := 3) (x := 3) rfl rfl (by decide) ?_
  refine cS_pI (p2 := 6) rfl rfl rfl rfl (t_X12_in (n := x1) (a := 0) (b := 3) hI ) (by decide) (fun y1 r1 => ?_)
  rcases r1 with ⟨w1, c1⟩ | ⟨w1, c1⟩
  · subst w1
    have cc1_1 := (show Int32.toInt 0 = 0 from rfl)
    have cc1_2 := (show Int32.toInt 3 = 3 from rfl)
    refine tz_eq (p2 := 9) rfl rfl (show Int32.toInt 1 = 1 from rfl) (fun c2 => absurd c2 (by omega)) (fun c2 => ?_)
    refine te_iload_n (p2 := 10) rfl rfl rfl ?_
    refine te_iconst (p2 := 11) (x := 0) rfl rfl (by decide) ?_
    refine te_iconst (p2 := 12) (x := 3) rfl rfl (by decide) ?_
    refine cS_pI (p2 := 15) rfl rfl rfl rfl (t_X12_in (n := x3) (a := 0) (b := 3) hI ) (by decide) (fun y3 r3 => ?_)
    rcases r3 with ⟨w3, c3⟩ | ⟨w3, c3⟩
    · subst w3
      have cc3_1 := (show Int32.toInt 0 = 0 from rfl)
      have cc3_2 := (show Int32.toInt 3 = 3 from rfl)
      refine tz_ne (p2 := 18) rfl rfl (show Int32.toInt 1 = 1 from rfl) (fun c4 => ?_) (fun c4 => absurd c4 (by omega))
      refine te_aload_n (p2 := 22) rfl rfl rfl ?_
      refine tg_r (p2 := 25) (i := 148) (r := 208) rfl rfl hI rfl rfl rfl ?_
      refine te_iload_n (p2 := 26) rfl rfl rfl ?_
      refine tl_i (p2 := 27) (i := 192) (n := 4) rfl rfl hI rfl rfl rfl rfl (by omega) (by omega) (fun y5 a5 b5 g5 e5 => ?_)
      refine te_iconst (p2 := 28) (x := (-1)) rfl rfl (by decide) ?_
      refine tb_eq (p2 := 31) rfl rfl rfl (show Int32.toInt (-1) = (-1) from rfl) (fun c6 => ?_) (fun c6 => ?_)
      · refine te_bipush (p2 := 43) (x := (-11)) rfl rfl (by decide) ?_
        obtain ⟨v7, e7, y7, w7, a7, b7, _⟩ := hI.2.1 193 x1.toInt.toNat (.inl (0, 40, 9999999999)) (tq_row rfl (by omega))
        subst w7
        obtain ⟨v8, e8, y8, w8, a8, b8, _⟩ := hI.2.1 192 x3.toInt.toNat (.inl ((-1), 2, 9999999999)) (tq_row rfl (by omega))
        subst w8
        obtain ⟨v9, e9, y9, w9, a9, b9, _⟩ := hI.2.1 193 x3.toInt.toNat (.inl (0, 40, 9999999999)) (tq_row rfl (by omega))
        subst w9
        exact te_iret rfl rfl ⟨hI, f0, _, rfl, Or.inl ⟨by omega, y5, y7, y8, y9, e5, e7, e8, e9, (by unfold cpT; (repeat' split) <;> first | (exfalso; omega) | rfl)⟩, (fun hy => absurd hy (by rw [(show Int32.toInt (-11) = (-11) from rfl)]; decide)), (fun s i hs hi hn => rfl)⟩
      · refine te_aload_n (p2 := 32) rfl rfl rfl ?_
        refine tg_r (p2 := 35) (i := 148) (r := 208) rfl rfl hI rfl rfl rfl ?_
        refine te_iload_n (p2 := 36) rfl rfl rfl ?_
        refine tl_i (p2 := 37) (i := 192) (n := 4) rfl rfl hI rfl rfl rfl rfl (by omega) (by omega) (fun y10 a10 b10 g10 e10 => ?_)
        refine te_iconst (p2 := 38) (x := (-1)) rfl rfl (by decide) ?_
        refine tb_ne (p2 := 41) rfl rfl rfl (show Int32.toInt (-1) = (-1) from rfl) (fun c11 => ?_) (fun c11 => ?_)
        · refine te_aload_n (p2 := 45) rfl rfl rfl ?_
          refine tg_r (p2 := 48) (i := 148) (r := 208) rfl rfl hI rfl rfl rfl ?_
          refine te_iload_n (p2 := 49) rfl rfl rfl ?_
          refine tl_e (p2 := 50) (i := 192) (n := 4) (t := 0) (Or.inl rfl) rfl rfl hI rfl rfl (by omega) (by omega) e5 ?_
          refine te_aload_n (p2 := 51) rfl rfl rfl ?_
          refine tg_r (p2 := 54) (i := 148) (r := 208) rfl rfl hI rfl rfl rfl ?_
          refine te_iload_n (p2 := 55) rfl rfl rfl ?_
          refine tl_e (p2 := 56) (i := 192) (n := 4) (t := 0) (Or.inl rfl) rfl rfl hI rfl rfl (by omega) (by omega) e10 ?_
          refine tb_eq (p2 := 59) rfl rfl rfl rfl (fun c14 => ?_) (fun c14 => ?_)
          · refine te_iload (p2 := 64) rfl rfl rfl ?_
            refine tz_lt (p2 := 67) rfl rfl rfl (fun c15 => ?_) (fun c15 => ?_)
            · refine te_bipush (p2 := 126) (x := (-12)) rfl rfl (by decide) ?_
              obtain ⟨v16, e16, y16, w16, a16, b16, _⟩ := hI.2.1 193 x1.toInt.toNat (.inl (0, 40, 9999999999)) (tq_row rfl (by omega))
              subst w16
              obtain ⟨v17, e17, y17, w17, a17, b17, _⟩ := hI.2.1 193 x3.toInt.toNat (.inl (0, 40, 9999999999)) (tq_row rfl (by omega))
              subst w17
              exact te_iret rfl rfl ⟨hI, f0, _, rfl, Or.inl ⟨by omega, y5, y16, y10, y17, e5, e16, e10, e17, (by unfold cpT; (repeat' split) <;> first | (exfalso; omega) | rfl)⟩, (fun hy => absurd hy (by rw [(show Int32.toInt (-12) = (-12) from rfl)]; decide)), (fun s i hs hi hn => rfl)⟩
            · refine te_iload_n (p2 := 68) rfl rfl rfl ?_
              refine tz_lt (p2 := 71) rfl rfl rfl (fun c18 => ?_) (fun c18 => ?_)
              · refine te_bipush (p2 := 126) (x := (-12)) rfl rfl (by decide) ?_
                obtain ⟨v19, e19, y19, w19, a19, b19, _⟩ := hI.2.1 193 x1.toInt.toNat (.inl (0, 40, 9999999999)) (tq_row rfl (by omega))
                subst w19
                obtain ⟨v20, e20, y20, w20, a20, b20, _⟩ := hI.2.1 193 x3.toInt.toNat (.inl (0, 40, 9999999999)) (tq_row rfl (by omega))
                subst w20
                exact te_iret rfl rfl ⟨hI, f0, _, rfl, Or.inl ⟨by omega, y5, y19, y10, y20, e5, e19, e10, e20, (by unfold cpT; (repeat' split) <;> first | (exfalso; omega) | rfl)⟩, (fun hy => absurd hy (by rw [(show Int32.toInt (-12) = (-12) from rfl)]; decide)), (fun s i hs hi hn => rfl)⟩
              · refine te_iload (p2 := 73) rfl rfl rfl ?_
                refine tz_lt (p2 := 76) rfl rfl rfl (fun c21 => ?_) (fun c21 => ?_)
                · refine te_bipush (p2 := 126) (x := (-12)) rfl rfl (by decide) ?_
                  obtain ⟨v22, e22, y22, w22, a22, b22, _⟩ := hI.2.1 193 x1.toInt.toNat (.inl (0, 40, 9999999999)) (tq_row rfl (by omega))
                  subst w22
                  obtain ⟨v23, e23, y23, w23, a23, b23, _⟩ := hI.2.1 193 x3.toInt.toNat (.inl (0, 40, 9999999999)) (tq_row rfl (by omega))
                  subst w23
                  exact te_iret rfl rfl ⟨hI, f0, _, rfl, Or.inl ⟨by omega, y5, y22, y10, y23, e5, e22, e10, e23, (by unfold cpT; (repeat' split) <;> first | (exfalso; omega) | rfl)⟩, (fun hy => absurd hy (by rw [(show Int32.toInt (-12) = (-12) from rfl)]; decide)), (fun s i hs hi hn => rfl)⟩
                · refine te_iload_n (p2 := 77) rfl rfl rfl ?_
                  refine te_aload_n (p2 := 78) rfl rfl rfl ?_
                  refine tg_r (p2 := 81) (i := 148) (r := 209) rfl rfl hI rfl rfl rfl ?_
                  refine te_iload_n (p2 := 82) rfl rfl rfl ?_
                  refine tl_i (p2 := 83) (i := 193) (n := 4) rfl rfl hI rfl rfl rfl rfl (by omega) (by omega) (fun y24 a24 b24 g24 e24 => ?_)
                  refine tb_gt (p2 := 86) rfl rfl rfl rfl (fun c25 => ?_) (fun c25 => ?_)
                  · refine te_bipush (p2 := 126) (x := (-12)) rfl rfl (by decide) ?_
                    obtain ⟨v26, e26, y26, w26, a26, b26, _⟩ := hI.2.1 193 x3.toInt.toNat (.inl (0, 40, 9999999999)) (tq_row rfl (by omega))
                    subst w26
                    exact te_iret rfl rfl ⟨hI, f0, _, rfl, Or.inl ⟨by omega, y5, y24, y10, y26, e5, e24, e10, e26, (by unfold cpT; (repeat' split) <;> first | (exfalso; omega) | rfl)⟩, (fun hy => absurd hy (by rw [(show Int32.toInt (-12) = (-12) from rfl)]; decide)), (fun s i hs hi hn => rfl)⟩
                  · refine te_iload (p2 := 88) rfl rfl rfl ?_
                    refine te_aload_n (p2 := 89) rfl rfl rfl ?_
                    refine tg_r (p2 := 92) (i := 148) (r := 209) rfl rfl hI rfl rfl rfl ?_
                    refine te_iload_n (p2 := 93) rfl rfl rfl ?_
                    refine tl_i (p2 := 94) (i := 193) (n := 4) rfl rfl hI rfl rfl rfl rfl (by omega) (by omega) (fun y27 a27 b27 g27 e27 => ?_)
                    refine tb_gt (p2 := 97) rfl rfl rfl rfl (fun c28 => ?_) (fun c28 => ?_)
                    · refine te_bipush (p2 := 126) (x := (-12)) rfl rfl (by decide) ?_
                      exact te_iret rfl rfl ⟨hI, f0, _, rfl, Or.inl ⟨by omega, y5, y24, y10, y27, e5, e24, e10, e27, (by unfold cpT; (repeat' split) <;> first | (exfalso; omega) | rfl)⟩, (fun hy => absurd hy (by rw [(show Int32.toInt (-12) = (-12) from rfl)]; decide)), (fun s i hs hi hn => rfl)⟩
                    · refine te_iload (p2 := 99) rfl rfl rfl ?_
                      refine te_aload_n (p2 := 100) rfl rfl rfl ?_
                      refine tg_r (p2 := 103) (i := 148) (r := 209) rfl rfl hI rfl rfl rfl ?_
                      refine te_iload_n (p2 := 104) rfl rfl rfl ?_
                      refine tl_e (p2 := 105) (i := 193) (n := 4) (t := 0) (Or.inl rfl) rfl rfl hI rfl rfl (by omega) (by omega) e24 ?_
                      refine te_iload_n (p2 := 106) rfl rfl rfl ?_
                      refine ar_sub (p2 := 107) rfl rfl rfl rfl (by omega) (by omega) (fun z30 e30 f30 => ?_)
                      refine tb_gt (p2 := 110) rfl rfl rfl rfl (fun c31 => ?_) (fun c31 => ?_)
                      · refine te_bipush (p2 := 126) (x := (-12)) rfl rfl (by decide) ?_
                        exact te_iret rfl rfl ⟨hI, f0, _, rfl, Or.inl ⟨by omega, y5, y24, y10, y27, e5, e24, e10, e27, (by unfold cpT; (repeat' split) <;> first | (exfalso; omega) | rfl)⟩, (fun hy => absurd hy (by rw [(show Int32.toInt (-12) = (-12) from rfl)]; decide)), (fun s i hs hi hn => rfl)⟩
                      · refine te_iload (p2 := 112) rfl rfl rfl ?_
                        refine te_aload_n (p2 := 113) rfl rfl rfl ?_
                        refine tg_r (p2 := 116) (i := 148) (r := 209) rfl rfl hI rfl rfl rfl ?_
                        refine te_iload_n (p2 := 117) rfl rfl rfl ?_
                        refine tl_e (p2 := 118) (i := 193) (n := 4) (t := 0) (Or.inl rfl) rfl rfl hI rfl rfl (by omega) (by omega) e27 ?_
                        refine te_iload (p2 := 120) rfl rfl rfl ?_
                        refine ar_sub (p2 := 121) rfl rfl rfl rfl (by omega) (by omega) (fun z33 e33 f33 => ?_)
                        refine tb_le (p2 := 124) rfl rfl rfl rfl (fun c34 => ?_) (fun c34 => ?_)
                        · refine te_bipush (p2 := 129) (x := 40) rfl rfl (by decide) ?_
                          refine te_iload_n (p2 := 130) rfl rfl rfl ?_
                          refine ar_mul (p2 := 131) rfl rfl (show Int32.toInt 40 = 40 from rfl) rfl (by omega) (by omega) (fun z35 e35 f35 => ?_)
                          refine te_iload_n (p2 := 132) rfl rfl rfl ?_
                          refine ar_add (p2 := 133) rfl rfl rfl rfl (by omega) (by omega) (fun z36 e36 f36 => ?_)
                          refine te_istore (p2 := 135) (lv2 := [(6, .int z36), (0, .ref 164), (1, .int x1), (2, .int x2), (3, .int x3), (4, .int x4), (5, .int x5)]) rfl rfl (by decide) rfl ?_
                          refine te_bipush (p2 := 137) (x := 40) rfl rfl (by decide) ?_
                          refine te_iload_n (p2 := 138) rfl rfl rfl ?_
                          refine ar_mul (p2 := 139) rfl rfl (show Int32.toInt 40 = 40 from rfl) rfl (by omega) (by omega) (fun z37 e37 f37 => ?_)
                          refine te_iload (p2 := 141) rfl rfl rfl ?_
                          refine ar_add (p2 := 142) rfl rfl rfl rfl (by omega) (by omega) (fun z38 e38 f38 => ?_)
                          refine te_istore (p2 := 144) (lv2 := [(7, .int z38), (6, .int z36), (0, .ref 164), (1, .int x1), (2, .int x2), (3, .int x3), (4, .int x4), (5, .int x5)]) rfl rfl (by decide) rfl ?_
                          refine te_iconst (p2 := 145) (x := 0) rfl rfl (by decide) ?_
                          refine te_istore (p2 := 147) (lv2 := [(8, .int 0), (7, .int z38), (6, .int z36), (0, .ref 164), (1, .int x1), (2, .int x2), (3, .int x3), (4, .int x4), (5, .int x5)]) rfl rfl (by decide) rfl ?_
                          have lp39 : ∀ (n39 : Nat) (v39_8 : Int32) (h39 : im_H), tI h39 → fr F_X12_copy h h39 → 0 ≤ v39_8.toInt → v39_8.toInt ≤ 40 → v39_8.toInt ≤ x5.toInt → (∀ q : Nat, (((z36.toInt < z38.toInt ∧ x5.toInt - v39_8.toInt ≤ (q : Int) - z38.toInt ∧ (q : Int) - z38.toInt < x5.toInt) ∨ (¬ z36.toInt < z38.toInt ∧ 0 ≤ (q : Int) - z38.toInt ∧ (q : Int) - z38.toInt < v39_8.toInt)) → rd h39 194 q = rd h 194 (q + z36.toInt.toNat - z38.toInt.toNat)) ∧ (¬ ((z36.toInt < z38.toInt ∧ x5.toInt - v39_8.toInt ≤ (q : Int) - z38.toInt ∧ (q : Int) - z38.toInt < x5.toInt) ∨ (¬ z36.toInt < z38.toInt ∧ 0 ≤ (q : Int) - z38.toInt ∧ (q : Int) - z38.toInt < v39_8.toInt)) → rd h39 194 q = rd h 194 q)) → x5.toInt - v39_8.toInt < (n39 : Int) → EvP im_K0 2 mX12_copy (147, [(0, .ref 164), (1, .int x1), (2, .int x2), (3, .int x3), (4, .int x4), (5, .int x5), (6, .int z36), (7, .int z38), (8, .int v39_8)], [], h39) (fun v h2 => tI h2 ∧ fr F_X12_copy h h2 ∧ ∃ y : Int32, v = some (.int y) ∧ Q2_copy x1 x2 x3 x4 x5 y h h2) := by
                            intro n39
                            induction n39 with
                            | zero => intro v39_8 h39 I39 f39 a39_8 b39_8 l39_0 w39_0 m39; exfalso; omega
                            | succ n39 ih39 =>
                              intro v39_8 h39 I39 f39 a39_8 b39_8 l39_0 w39_0 m39
                              refine te_iload (p2 := 149) rfl rfl rfl ?_
                              refine te_iload (p2 := 151) rfl rfl rfl ?_
                              refine tb_ge (p2 := 154) rfl rfl rfl rfl (fun c40 => ?_) (fun c40 => ?_)
                              · refine te_iload (p2 := 203) rfl rfl rfl ?_
                                exact te_iret rfl rfl ⟨I39, f39, _, rfl, Or.inl ⟨by omega, y5, y24, y10, y27, e5, e24, e10, e27, (by unfold cpT; (repeat' split) <;> first | (exfalso; omega) | rfl)⟩, (fun _ => ⟨by omega, by omega, by omega, by omega, fun i hi hq => by (rw [(w39_0 (40 * x3.toInt.toNat + i)).1 (by omega)]; congr 1; omega)⟩), (fun s i hs hi hn => (w39_0 (40 * s + i)).2 (by omega))⟩
                              · refine te_iload (p2 := 156) rfl rfl rfl ?_
                                refine te_iload (p2 := 158) rfl rfl rfl ?_
                                refine tb_ge (p2 := 161) rfl rfl rfl rfl (fun c41 => ?_) (fun c41 => ?_)
                                · refine te_iload (p2 := 173) rfl rfl rfl ?_
                                  refine te_istore (p2 := 175) (lv2 := [(9, .int v39_8), (0, .ref 164), (1, .int x1), (2, .int x2), (3, .int x3), (4, .int x4), (5, .int x5), (6, .int z36), (7, .int z38), (8, .int v39_8)]) rfl rfl (by decide) rfl ?_
                                  refine te_aload_n (p2 := 176) rfl rfl rfl ?_
                                  refine tg_r (p2 := 179) (i := 148) (r := 210) rfl rfl I39 rfl rfl rfl ?_
                                  refine te_iload (p2 := 181) rfl rfl rfl ?_
                                  refine te_iload (p2 := 183) rfl rfl rfl ?_
                                  refine ar_add (p2 := 184) rfl rfl rfl rfl (by omega) (by omega) (fun z42 e42 f42 => ?_)
                                  refine te_aload_n (p2 := 185) rfl rfl rfl ?_
                                  refine tg_r (p2 := 188) (i := 148) (r := 210) rfl rfl I39 rfl rfl rfl ?_
                                  refine te_iload (p2 := 190) rfl rfl rfl ?_
                                  refine te_iload (p2 := 192) rfl rfl rfl ?_
                                  refine ar_add (p2 := 193) rfl rfl rfl rfl (by omega) (by omega) (fun z43 e43 f43 => ?_)
                                  refine tl_i (p2 := 194) (i := 194) (n := 160) rfl rfl I39 rfl rfl rfl rfl (by omega) (by omega) (fun y44 a44 b44 g44 e44 => ?_)
                                  refine ts_i (p2 := 195) (i := 194) (n := 160) rfl rfl I39 rfl rfl rfl rfl (by omega) (by omega) (i32_lo _) (i32_hi _) (i32_ho _) rfl (fun h45 I45 u45 => ?_)
                                  have f45 := fr_st (F := F_X12_copy) 0 f39 u45 rfl (by omega) (by omega)
                                  refine ar_inc (p2 := 198) (x := v39_8) rfl rfl (by decide) rfl (by decide) rfl (by omega) (by omega) (fun z46 e46 f46 => ?_)
                                  show EvP _ _ _ (198, [(8, .int z46), (9, .int v39_8), (0, .ref 164), (1, .int x1), (2, .int x2), (3, .int x3), (4, .int x4), (5, .int x5), (6, .int z36), (7, .int z38)], [], h45) _
                                  refine te_goto rfl ?_
                                  refine te_lv [(0, .ref 164), (1, .int x1), (2, .int x2), (3, .int x3), (4, .int x4), (5, .int x5), (6, .int z36), (7, .int z38), (8, .int z46)] rfl rfl ⟨rfl, rfl, rfl, rfl, rfl, rfl, rfl, rfl, rfl, trivial⟩ ?_
                                  exact ih39 z46 h45 I45 f45 (by omega) (by omega) (by omega) (fun q => by (by_cases hc : q = z42.toInt.toNat); (· refine ⟨fun _ => ?_, fun hn => absurd (by omega) hn⟩; rw [hc]; refine u45.1.trans (e44.symm.trans (((w39_0 z43.toInt.toNat).2 (by omega)).trans ?_)); congr 1; omega); (· refine ⟨fun hq => (u45.2 _ _ (Or.inr hc)).trans ((w39_0 q).1 (by omega)), fun hn => (u45.2 _ _ (Or.inr hc)).trans ((w39_0 q).2 (by omega))⟩)) (by omega)
                                · refine te_iload (p2 := 163) rfl rfl rfl ?_
                                  refine te_iconst (p2 := 164) (x := 1) rfl rfl (by decide) ?_
                                  refine ar_sub (p2 := 165) rfl rfl rfl (show Int32.toInt 1 = 1 from rfl) (by omega) (by omega) (fun z47 e47 f47 => ?_)
                                  refine te_iload (p2 := 167) rfl rfl rfl ?_
                                  refine ar_sub (p2 := 168) rfl rfl rfl rfl (by omega) (by omega) (fun z48 e48 f48 => ?_)
                                  refine te_goto rfl ?_
                                  refine te_istore (p2 := 175) (lv2 := [(9, .int z48), (0, .ref 164), (1, .int x1), (2, .int x2), (3, .int x3), (4, .int x4), (5, .int x5), (6, .int z36), (7, .int z38), (8, .int v39_8)]) rfl rfl (by decide) rfl ?_
                                  refine te_aload_n (p2 := 176) rfl rfl rfl ?_
                                  refine tg_r (p2 := 179) (i := 148) (r := 210) rfl rfl I39 rfl rfl rfl ?_
                                  refine te_iload (p2 := 181) rfl rfl rfl ?_
                                  refine te_iload (p2 := 183) rfl rfl rfl ?_
                                  refine ar_add (p2 := 184) rfl rfl rfl rfl (by omega) (by omega) (fun z49 e49 f49 => ?_)
                                  refine te_aload_n (p2 := 185) rfl rfl rfl ?_
                                  refine tg_r (p2 := 188) (i := 148) (r := 210) rfl rfl I39 rfl rfl rfl ?_
                                  refine te_iload (p2 := 190) rfl rfl rfl ?_
                                  refine te_iload (p2 := 192) rfl rfl rfl ?_
                                  refine ar_add (p2 := 193) rfl rfl rfl rfl (by omega) (by omega) (fun z50 e50 f50 => ?_)
                                  refine tl_i (p2 := 194) (i := 194) (n := 160) rfl rfl I39 rfl rfl rfl rfl (by omega) (by omega) (fun y51 a51 b51 g51 e51 => ?_)
                                  refine ts_i (p2 := 195) (i := 194) (n := 160) rfl rfl I39 rfl rfl rfl rfl (by omega) (by omega) (i32_lo _) (i32_hi _) (i32_ho _) rfl (fun h52 I52 u52 => ?_)
                                  have f52 := fr_st (F := F_X12_copy) 0 f39 u52 rfl (by omega) (by omega)
                                  refine ar_inc (p2 := 198) (x := v39_8) rfl rfl (by decide) rfl (by decide) rfl (by omega) (by omega) (fun z53 e53 f53 => ?_)
                                  show EvP _ _ _ (198, [(8, .int z53), (9, .int z48), (0, .ref 164), (1, .int x1), (2, .int x2), (3, .int x3), (4, .int x4), (5, .int x5), (6, .int z36), (7, .int z38)], [], h52) _
                                  refine te_goto rfl ?_
                                  refine te_lv [(0, .ref 164), (1, .int x1), (2, .int x2), (3, .int x3), (4, .int x4), (5, .int x5), (6, .int z36), (7, .int z38), (8, .int z53)] rfl rfl ⟨rfl, rfl, rfl, rfl, rfl, rfl, rfl, rfl, rfl, trivial⟩ ?_
                                  exact ih39 z53 h52 I52 f52 (by omega) (by omega) (by omega) (fun q => by (by_cases hc : q = z49.toInt.toNat); (· refine ⟨fun _ => ?_, fun hn => absurd (by omega) hn⟩; rw [hc]; refine u52.1.trans (e51.symm.trans (((w39_0 z50.toInt.toNat).2 (by omega)).trans ?_)); congr 1; omega); (· refine ⟨fun hq => (u52.2 _ _ (Or.inr hc)).trans ((w39_0 q).1 (by omega)), fun hn => (u52.2 _ _ (Or.inr hc)).trans ((w39_0 q).2 (by omega))⟩)) (by omega)
                          refine te_lv [(0, .ref 164), (1, .int x1), (2, .int x2), (3, .int x3), (4, .int x4), (5, .int x5), (6, .int z36), (7, .int z38), (8, .int 0)] rfl rfl ⟨rfl, rfl, rfl, rfl, rfl, rfl, rfl, rfl, rfl, trivial⟩ ?_
                          exact lp39 41 0 h hI f0 (by decide) (by decide) (by have cc0 := (show Int32.toInt 0 = 0 from rfl); omega) (fun q => ⟨fun hq => absurd hq (by have := (show Int32.toInt 0 = 0 from rfl); omega), fun _ => rfl⟩) (by have cc0 := (show Int32.toInt 0 = 0 from rfl); omega)
                        · refine te_bipush (p2 := 126) (x := (-12)) rfl rfl (by decide) ?_
                          exact te_iret rfl rfl ⟨hI, f0, _, rfl, Or.inl ⟨by omega, y5, y24, y10, y27, e5, e24, e10, e27, (by unfold cpT; (repeat' split) <;> first | (exfalso; omega) | rfl)⟩, (fun hy => absurd hy (by rw [(show Int32.toInt (-12) = (-12) from rfl)]; decide)), (fun s i hs hi hn => rfl)⟩
          · refine te_bipush (p2 := 61) (x := (-13)) rfl rfl (by decide) ?_
            obtain ⟨v54, e54, y54, w54, a54, b54, _⟩ := hI.2.1 193 x1.toInt.toNat (.inl (0, 40, 9999999999)) (tq_row rfl (by omega))
            subst w54
            obtain ⟨v55, e55, y55, w55, a55, b55, _⟩ := hI.2.1 193 x3.toInt.toNat (.inl (0, 40, 9999999999)) (tq_row rfl (by omega))
            subst w55
            exact te_iret rfl rfl ⟨hI, f0, _, rfl, Or.inl ⟨by omega, y5, y54, y10, y55, e5, e54, e10, e55, (by unfold cpT; (repeat' split) <;> first | (exfalso; omega) | rfl)⟩, (fun hy => absurd hy (by rw [(show Int32.toInt (-13) = (-13) from rfl)]; decide)), (fun s i hs hi hn => rfl)⟩
        · refine te_bipush (p2 := 43) (x := (-11)) rfl rfl (by decide) ?_
          obtain ⟨v56, e56, y56, w56, a56, b56, _⟩ := hI.2.1 193 x1.toInt.toNat (.inl (0, 40, 9999999999)) (tq_row rfl (by omega))
          subst w56
          obtain ⟨v57, e57, y57, w57, a57, b57, _⟩ := hI.2.1 193 x3.toInt.toNat (.inl (0, 40, 9999999999)) (tq_row rfl (by omega))
          subst w57
          exact te_iret rfl rfl ⟨hI, f0, _, rfl, Or.inl ⟨by omega, y5, y56, y10, y57, e5, e56, e10, e57, (by unfold cpT; (repeat' split) <;> first | (exfalso; omega) | rfl)⟩, (fun hy => absurd hy (by rw [(show Int32.toInt (-11) = (-11) from rfl)]; decide)), (fun s i hs hi hn => rfl)⟩
    · subst w3
      have cc3_1 := (show Int32.toInt 0 = 0 from rfl)
      have cc3_2 := (show Int32.toInt 3 = 3 from rfl)
      refine tz_ne (p2 := 18) rfl rfl (show Int32.toInt 0 = 0 from rfl) (fun c58 => absurd c58 (by omega)) (fun c58 => ?_)
      refine te_bipush (p2 := 20) (x := (-2)) rfl rfl (by decide) ?_
      exact te_iret rfl rfl ⟨hI, f0, _, rfl, Or.inr ⟨by omega, rfl⟩, (fun hy => absurd hy (by rw [(show Int32.toInt (-2) = (-2) from rfl)]; decide)), (fun s i hs hi hn => rfl)⟩
  · subst w1
    have cc1_1 := (show Int32.toInt 0 = 0 from rfl)
    have cc1_2 := (show Int32.toInt 3 = 3 from rfl)
    refine tz_eq (p2 := 9) rfl rfl (show Int32.toInt 0 = 0 from rfl) (fun c59 => ?_) (fun c59 => absurd c59 (by omega))
    refine te_bipush (p2 := 20) (x := (-2)) rfl rfl (by decide) ?_
    exact te_iret rfl rfl ⟨hI, f0, _, rfl, Or.inr ⟨by omega, rfl⟩, (fun hy => absurd hy (by rw [(show Int32.toInt (-2) = (-2) from rfl)]; decide)), (fun s i hs hi hn => rfl)⟩
def fP (x1 x2 x3 x4 p : Int32) : Int32 := if 0 ≤ x1.toInt ∧ x1.toInt ≤ 99 then (if 1 ≤ x2.toInt ∧ x2.toInt ≤ 9 ∧ 0 ≤ x3.toInt ∧ x3.toInt ≤ 99 ∧ 0 ≤ x4.toInt ∧ x4.toInt ≤ 9 then (if 24 ≤ p.toInt then -4 else p) else -2) else -1
def gP (x1 x2 x3 x4 p : Int32) : Int32 := if 0 ≤ x1.toInt ∧ x1.toInt ≤ 99 then (if 1 ≤ x2.toInt ∧ x2.toInt ≤ 9 ∧ 0 ≤ x3.toInt ∧ x3.toInt ≤ 99 ∧ 0 ≤ x4.toInt ∧ x4.toInt ≤ 9 then (if 24 ≤ p.toInt then p else p + 1) else p) else p
abbrev Q1_person (x1 x2 x3 x4 : Int32) (y : Int32) (h h2 : im_H) : Prop := ∃ p : Int32, rd h 1 2 = some (.int p) ∧ y = fP x1 x2 x3 x4 p ∧ rd h2 1 2 = some (.int (gP x1 x2 x3 x4 p))
set_option maxRecDepth 20000 in
set_option maxHeartbeats 4000000 in
theorem c_X11_person {x1 : Int32} {x2 : Int32} {x3 : Int32} {x4 : Int32} {h : im_H} (hI : tI h)  : CaP 8 62 [.ref 16, .int x1, .int x2, .int x3, .int x4] h (fun v h2 => tI h2 ∧ fr F_X11_person h h2 ∧ ∃ y : Int32, v = some (.int y) ∧ Q1_person x1 x2 x3 x4 y h h2) := by
  refine cap_of (d := 7) (M := mX11_person) rfl (Nat.le_of_ble_eq_true rfl) ?_
  show EvP im_K0 7 mX11_person (0, [(0, .ref 16), (1, .int x1), (2, .int x2), (3, .int x3), (4, .int x4)], [], h) _
  have f0 : fr F_X11_person h h := fr_rf
  refine te_iload_n (p2 := 1) rfl rfl rfl ?_
  refine te_bipush (p2 := 3) (x := 100) rfl rfl (by decide) ?_
  refine cS_pI (p2 := 6) rfl rfl rfl rfl (t_X11_within (n := x1) (b := 100) hI ) (by decide) (fun y1 r1 => ?_)
  rcases r1 with ⟨w1, c1⟩ | ⟨w1, c1⟩
  · subst w1
    have cc1_1 := (show Int32.toInt 100 = 100 from rfl)
    refine tz_ne (p2 := 9) rfl rfl (show Int32.toInt 1 = 1 from rfl) (fun c2 => ?_) (fun c2 => absurd c2 (by omega))
    refine te_iload_n (p2 := 12) rfl rfl rfl ?_
    refine te_iconst (p2 := 13) (x := 1) rfl rfl (by decide) ?_
    refine te_bipush (p2 := 15) (x := 9) rfl rfl (by decide) ?_
    refine cS_pI (p2 := 18) rfl rfl rfl rfl (t_X11_between (n := x2) (a := 1) (b := 9) hI ) (by decide) (fun y3 r3 => ?_)
    rcases r3 with ⟨w3, c3⟩ | ⟨w3, c3⟩
    · subst w3
      have cc3_1 := (show Int32.toInt 1 = 1 from rfl)
      have cc3_2 := (show Int32.toInt 9 = 9 from rfl)
      refine tz_eq (p2 := 21) rfl rfl (show Int32.toInt 1 = 1 from rfl) (fun c4 => absurd c4 (by omega)) (fun c4 => ?_)
      refine te_iload_n (p2 := 22) rfl rfl rfl ?_
      refine te_iconst (p2 := 23) (x := 0) rfl rfl (by decide) ?_
      refine te_bipush (p2 := 25) (x := 99) rfl rfl (by decide) ?_
      refine cS_pI (p2 := 28) rfl rfl rfl rfl (t_X11_between (n := x3) (a := 0) (b := 99) hI ) (by decide) (fun y5 r5 => ?_)
      rcases r5 with ⟨w5, c5⟩ | ⟨w5, c5⟩
      · subst w5
        have cc5_1 := (show Int32.toInt 0 = 0 from rfl)
        have cc5_2 := (show Int32.toInt 99 = 99 from rfl)
        refine tz_eq (p2 := 31) rfl rfl (show Int32.toInt 1 = 1 from rfl) (fun c6 => absurd c6 (by omega)) (fun c6 => ?_)
        refine te_iload (p2 := 33) rfl rfl rfl ?_
        refine te_iconst (p2 := 34) (x := 0) rfl rfl (by decide) ?_
        refine te_bipush (p2 := 36) (x := 9) rfl rfl (by decide) ?_
        refine cS_pI (p2 := 39) rfl rfl rfl rfl (t_X11_between (n := x4) (a := 0) (b := 9) hI ) (by decide) (fun y7 r7 => ?_)
        rcases r7 with ⟨w7, c7⟩ | ⟨w7, c7⟩
        · subst w7
          have cc7_1 := (show Int32.toInt 0 = 0 from rfl)
          have cc7_2 := (show Int32.toInt 9 = 9 from rfl)
          refine tz_ne (p2 := 42) rfl rfl (show Int32.toInt 1 = 1 from rfl) (fun c8 => ?_) (fun c8 => absurd c8 (by omega))
          refine te_aload_n (p2 := 46) rfl rfl rfl ?_
          refine tg_r (p2 := 49) (i := 0) (r := 17) rfl rfl hI rfl rfl rfl ?_
          refine tg_i (p2 := 52) (i := 1) rfl rfl hI rfl rfl rfl (fun y9 a9 b9 e9 => ?_)
          refine te_bipush (p2 := 54) (x := 24) rfl rfl (by decide) ?_
          refine tb_lt (p2 := 57) rfl rfl rfl (show Int32.toInt 24 = 24 from rfl) (fun c10 => ?_) (fun c10 => ?_)
          · refine te_aload_n (p2 := 61) rfl rfl rfl ?_
            refine tg_r (p2 := 64) (i := 0) (r := 17) rfl rfl hI rfl rfl rfl ?_
            refine tg_e (p2 := 67) (i := 1) (v := .int y9) rfl rfl hI rfl rfl e9 ?_
            refine te_istore (p2 := 69) (lv2 := [(5, .int y9), (0, .ref 16), (1, .int x1), (2, .int x2), (3, .int x3), (4, .int x4)]) rfl rfl (by decide) rfl ?_
            refine te_aload_n (p2 := 70) rfl rfl rfl ?_
            refine tg_r (p2 := 73) (i := 0) (r := 17) rfl rfl hI rfl rfl rfl ?_
            refine tg_r (p2 := 76) (i := 1) (r := 19) rfl rfl hI rfl rfl rfl ?_
            refine te_iload (p2 := 78) rfl rfl rfl ?_
            refine te_iload_n (p2 := 79) rfl rfl rfl ?_
            refine ts_i (p2 := 80) (i := 3) (n := 24) rfl rfl hI rfl rfl rfl rfl (by omega) (by omega) (i32_lo _) (i32_hi _) (i32_ho _) rfl (fun h11 I11 u11 => ?_)
            have f11 := fr_st (F := F_X11_person) 2 f0 u11 rfl (by omega) (by omega)
            refine te_aload_n (p2 := 81) rfl rfl rfl ?_
            refine tg_r (p2 := 84) (i := 0) (r := 17) rfl rfl I11 rfl rfl rfl ?_
            refine tg_r (p2 := 87) (i := 1) (r := 20) rfl rfl I11 rfl rfl rfl ?_
            refine te_iload (p2 := 89) rfl rfl rfl ?_
            refine te_iload_n (p2 := 90) rfl rfl rfl ?_
            refine ts_i (p2 := 91) (i := 4) (n := 24) rfl rfl I11 rfl rfl rfl rfl (by omega) (by omega) (i32_lo _) (i32_hi _) (i32_ho _) rfl (fun h12 I12 u12 => ?_)
            have f12 := fr_st (F := F_X11_person) 3 f11 u12 rfl (by omega) (by omega)
            refine te_aload_n (p2 := 92) rfl rfl rfl ?_
            refine tg_r (p2 := 95) (i := 0) (r := 17) rfl rfl I12 rfl rfl rfl ?_
            refine tg_r (p2 := 98) (i := 1) (r := 21) rfl rfl I12 rfl rfl rfl ?_
            refine te_iload (p2 := 100) rfl rfl rfl ?_
            refine te_iload (p2 := 102) rfl rfl rfl ?_
            refine ts_i (p2 := 103) (i := 5) (n := 24) rfl rfl I12 rfl rfl rfl rfl (by omega) (by omega) (i32_lo _) (i32_hi _) (i32_ho _) rfl (fun h13 I13 u13 => ?_)
            have f13 := fr_st (F := F_X11_person) 4 f12 u13 rfl (by omega) (by omega)
            refine te_aload_n (p2 := 104) rfl rfl rfl ?_
            refine tg_r (p2 := 107) (i := 0) (r := 39) rfl rfl I13 rfl rfl rfl ?_
            refine tg_r (p2 := 110) (i := 23) (r := 42) rfl rfl I13 rfl rfl rfl ?_
            refine te_iload (p2 := 112) rfl rfl rfl ?_
            refine te_iload_n (p2 := 113) rfl rfl rfl ?_
            refine ts_i (p2 := 114) (i := 26) (n := 24) rfl rfl I13 rfl rfl rfl rfl (by omega) (by omega) (i32_lo _) (i32_hi _) (i32_ho _) rfl (fun h14 I14 u14 => ?_)
            have f14 := fr_st (F := F_X11_person) 1 f13 u14 rfl (by omega) (by omega)
            refine te_aload_n (p2 := 115) rfl rfl rfl ?_
            refine tg_r (p2 := 118) (i := 0) (r := 17) rfl rfl I14 rfl rfl rfl ?_
            refine te_dup (p2 := 119) rfl rfl rfl ?_
            refine tg_e (p2 := 122) (i := 1) (v := .int y9) rfl rfl I14 rfl rfl ((u14.2 _ _ (Or.inl (by decide))).trans ((u13.2 _ _ (Or.inl (by decide))).trans ((u12.2 _ _ (Or.inl (by decide))).trans ((u11.2 _ _ (Or.inl (by decide))).trans e9)))) ?_
            refine te_iconst (p2 := 123) (x := 1) rfl rfl (by decide) ?_
            refine ar_add (p2 := 124) rfl rfl rfl (show Int32.toInt 1 = 1 from rfl) (by omega) (by omega) (fun z15 e15 f15 => ?_)
            refine tp_i (p2 := 127) (i := 1) rfl rfl I14 rfl rfl (by decide) rfl rfl rfl (by omega) (by omega) (by omega) rfl (fun h16 I16 u16 => ?_)
            have f16 := fr_st (F := F_X11_person) 0 f14 u16 rfl (by decide) (by decide)
            refine te_iload (p2 := 129) rfl rfl rfl ?_
            exact te_iret rfl rfl ⟨I16, f16, _, rfl, y9, e9, (show y9 = fP x1 x2 x3 x4 y9 from by (unfold fP; (repeat' split) <;> first | (exfalso; omega) | rfl | assumption | (exact i32_ext (by omega)) | (subst_vars; rfl))), u16.1.trans (congrArg (fun t => some (Value.int t)) (show z15 = gP x1 x2 x3 x4 y9 from by (unfold gP; (repeat' split) <;> first | (exfalso; omega) | rfl | assumption | (exact i32_ext (by omega)) | (subst_vars; rfl))))⟩
          · refine te_bipush (p2 := 59) (x := (-4)) rfl rfl (by decide) ?_
            exact te_iret rfl rfl ⟨hI, f0, _, rfl, y9, e9, (show (-4) = fP x1 x2 x3 x4 y9 from by (have c0_ := (show Int32.toInt (-4) = (-4) from rfl); unfold fP; (repeat' split) <;> first | (exfalso; omega) | rfl | assumption | (exact i32_ext (by omega)) | (subst_vars; rfl))), e9.trans (congrArg (fun t => some (Value.int t)) (show y9 = gP x1 x2 x3 x4 y9 from by (have c0_ := (show Int32.toInt (-4) = (-4) from rfl); unfold gP; (repeat' split) <;> first | (exfalso; omega) | rfl | assumption | (exact i32_ext (by omega)) | (subst_vars; rfl))))⟩
        · subst w7
          have cc7_1 := (show Int32.toInt 0 = 0 from rfl)
          have cc7_2 := (show Int32.toInt 9 = 9 from rfl)
          refine tz_ne (p2 := 42) rfl rfl (show Int32.toInt 0 = 0 from rfl) (fun c17 => absurd c17 (by omega)) (fun c17 => ?_)
          refine te_bipush (p2 := 44) (x := (-2)) rfl rfl (by decide) ?_
          obtain ⟨v18, e18, y18, w18, a18, b18, _⟩ := hI.2.1 1 2 (.inl (0, 24, 9999999999)) rfl
          subst w18
          exact te_iret rfl rfl ⟨hI, f0, _, rfl, y18, e18, (show (-2) = fP x1 x2 x3 x4 y18 from by (have c0_ := (show Int32.toInt (-2) = (-2) from rfl); unfold fP; (repeat' split) <;> first | (exfalso; omega) | rfl | assumption | (exact i32_ext (by omega)) | (subst_vars; rfl))), e18.trans (congrArg (fun t => some (Value.int t)) (show y18 = gP x1 x2 x3 x4 y18 from by (have c0_ := (show Int32.toInt (-2) = (-2) from rfl); unfold gP; (repeat' split) <;> first | (exfalso; omega) | rfl | assumption | (exact i32_ext (by omega)) | (subst_vars; rfl))))⟩
      · subst w5
        have cc5_1 := (show Int32.toInt 0 = 0 from rfl)
        have cc5_2 := (show Int32.toInt 99 = 99 from rfl)
        refine tz_eq (p2 := 31) rfl rfl (show Int32.toInt 0 = 0 from rfl) (fun c19 => ?_) (fun c19 => absurd c19 (by omega))
        refine te_bipush (p2 := 44) (x := (-2)) rfl rfl (by decide) ?_
        obtain ⟨v20, e20, y20, w20, a20, b20, _⟩ := hI.2.1 1 2 (.inl (0, 24, 9999999999)) rfl
        subst w20
        exact te_iret rfl rfl ⟨hI, f0, _, rfl, y20, e20, (show (-2) = fP x1 x2 x3 x4 y20 from by (have c0_ := (show Int32.toInt (-2) = (-2) from rfl); unfold fP; (repeat' split) <;> first | (exfalso; omega) | rfl | assumption | (exact i32_ext (by omega)) | (subst_vars; rfl))), e20.trans (congrArg (fun t => some (Value.int t)) (show y20 = gP x1 x2 x3 x4 y20 from by (have c0_ := (show Int32.toInt (-2) = (-2) from rfl); unfold gP; (repeat' split) <;> first | (exfalso; omega) | rfl | assumption | (exact i32_ext (by omega)) | (subst_vars; rfl))))⟩
    · subst w3
      have cc3_1 := (show Int32.toInt 1 = 1 from rfl)
      have cc3_2 := (show Int32.toInt 9 = 9 from rfl)
      refine tz_eq (p2 := 21) rfl rfl (show Int32.toInt 0 = 0 from rfl) (fun c21 => ?_) (fun c21 => absurd c21 (by omega))
      refine te_bipush (p2 := 44) (x := (-2)) rfl rfl (by decide) ?_
      obtain ⟨v22, e22, y22, w22, a22, b22, _⟩ := hI.2.1 1 2 (.inl (0, 24, 9999999999)) rfl
      subst w22
      exact te_iret rfl rfl ⟨hI, f0, _, rfl, y22, e22, (show (-2) = fP x1 x2 x3 x4 y22 from by (have c0_ := (show Int32.toInt (-2) = (-2) from rfl); unfold fP; (repeat' split) <;> first | (exfalso; omega) | rfl | assumption | (exact i32_ext (by omega)) | (subst_vars; rfl))), e22.trans (congrArg (fun t => some (Value.int t)) (show y22 = gP x1 x2 x3 x4 y22 from by (have c0_ := (show Int32.toInt (-2) = (-2) from rfl); unfold gP; (repeat' split) <;> first | (exfalso; omega) | rfl | assumption | (exact i32_ext (by omega)) | (subst_vars; rfl))))⟩
  · subst w1
    have cc1_1 := (show Int32.toInt 100 = 100 from rfl)
    refine tz_ne (p2 := 9) rfl rfl (show Int32.toInt 0 = 0 from rfl) (fun c23 => absurd c23 (by omega)) (fun c23 => ?_)
    refine te_iconst (p2 := 10) (x := (-1)) rfl rfl (by decide) ?_
    obtain ⟨v24, e24, y24, w24, a24, b24, _⟩ := hI.2.1 1 2 (.inl (0, 24, 9999999999)) rfl
    subst w24
    exact te_iret rfl rfl ⟨hI, f0, _, rfl, y24, e24, (show (-1) = fP x1 x2 x3 x4 y24 from by (have c0_ := (show Int32.toInt (-1) = (-1) from rfl); unfold fP; (repeat' split) <;> first | (exfalso; omega) | rfl | assumption | (exact i32_ext (by omega)) | (subst_vars; rfl))), e24.trans (congrArg (fun t => some (Value.int t)) (show y24 = gP x1 x2 x3 x4 y24 from by (have c0_ := (show Int32.toInt (-1) = (-1) from rfl); unfold gP; (repeat' split) <;> first | (exfalso; omega) | rfl | assumption | (exact i32_ext (by omega)) | (subst_vars; rfl))))⟩
abbrev Q2_person (x1 x2 x3 x4 : Int32) (y : Int32) (h h2 : im_H) : Prop := ∃ p : Int32, rd h 148 10 = some (.int p) ∧ y = fP x1 x2 x3 x4 p ∧ rd h2 148 10 = some (.int (gP x1 x2 x3 x4 p))
set_option maxRecDepth 20000 in
set_option maxHeartbeats 4000000 in
theorem c_X12_person {x1 : Int32} {x2 : Int32} {x3 : Int32} {x4 : Int32} {h : im_H} (hI : tI h)  : CaP 8 124 [.ref 164, .int x1, .int x2, .int x3, .int x4] h (fun v h2 => tI h2 ∧ fr F_X12_person h h2 ∧ ∃ y : Int32, v = some (.int y) ∧ Q2_person x1 x2 x3 x4 y h h2) := by
  refine cap_of (d := 7) (M := mX12_person) rfl (Nat.le_of_ble_eq_true rfl) ?_
  show EvP im_K0 7 mX12_person (0, [(0, .ref 164), (1, .int x1), (2, .int x2), (3, .int x3), (4, .int x4)], [], h) _
  have f0 : fr F_X12_person h h := fr_rf
  refine te_iload_n (p2 := 1) rfl rfl rfl ?_
  refine cS_pI (p2 := 4) rfl rfl rfl rfl (t_X12_isCell (n := x1) hI ) (by decide) (fun y1 r1 => ?_)
  rcases r1 with ⟨w1, c1⟩ | ⟨w1, c1⟩
  · subst w1
    refine tz_ne (p2 := 7) rfl rfl (show Int32.toInt 1 = 1 from rfl) (fun c2 => ?_) (fun c2 => absurd c2 (by omega))
    refine te_iload_n (p2 := 10) rfl rfl rfl ?_
    refine te_iconst (p2 := 11) (x := 1) rfl rfl (by decide) ?_
    refine te_bipush (p2 := 13) (x := 9) rfl rfl (by decide) ?_
    refine cS_pI (p2 := 16) rfl rfl rfl rfl (t_X12_in (n := x2) (a := 1) (b := 9) hI ) (by decide) (fun y3 r3 => ?_)
    rcases r3 with ⟨w3, c3⟩ | ⟨w3, c3⟩
    · subst w3
      have cc3_1 := (show Int32.toInt 1 = 1 from rfl)
      have cc3_2 := (show Int32.toInt 9 = 9 from rfl)
      refine tz_eq (p2 := 19) rfl rfl (show Int32.toInt 1 = 1 from rfl) (fun c4 => absurd c4 (by omega)) (fun c4 => ?_)
      refine te_iload_n (p2 := 20) rfl rfl rfl ?_
      refine te_iconst (p2 := 21) (x := 0) rfl rfl (by decide) ?_
      refine te_bipush (p2 := 23) (x := 99) rfl rfl (by decide) ?_
      refine cS_pI (p2 := 26) rfl rfl rfl rfl (t_X12_in (n := x3) (a := 0) (b := 99) hI ) (by decide) (fun y5 r5 => ?_)
      rcases r5 with ⟨w5, c5⟩ | ⟨w5, c5⟩
      · subst w5
        have cc5_1 := (show Int32.toInt 0 = 0 from rfl)
        have cc5_2 := (show Int32.toInt 99 = 99 from rfl)
        refine tz_eq (p2 := 29) rfl rfl (show Int32.toInt 1 = 1 from rfl) (fun c6 => absurd c6 (by omega)) (fun c6 => ?_)
        refine te_iload (p2 := 31) rfl rfl rfl ?_
        refine te_iconst (p2 := 32) (x := 0) rfl rfl (by decide) ?_
        refine te_bipush (p2 := 34) (x := 9) rfl rfl (by decide) ?_
        refine cS_pI (p2 := 37) rfl rfl rfl rfl (t_X12_in (n := x4) (a := 0) (b := 9) hI ) (by decide) (fun y7 r7 => ?_)
        rcases r7 with ⟨w7, c7⟩ | ⟨w7, c7⟩
        · subst w7
          have cc7_1 := (show Int32.toInt 0 = 0 from rfl)
          have cc7_2 := (show Int32.toInt 9 = 9 from rfl)
          refine tz_ne (p2 := 40) rfl rfl (show Int32.toInt 1 = 1 from rfl) (fun c8 => ?_) (fun c8 => absurd c8 (by omega))
          refine te_aload_n (p2 := 44) rfl rfl rfl ?_
          refine tg_i (p2 := 47) (i := 148) rfl rfl hI rfl rfl rfl (fun y9 a9 b9 e9 => ?_)
          refine te_bipush (p2 := 49) (x := 24) rfl rfl (by decide) ?_
          refine tb_ne (p2 := 52) rfl rfl rfl (show Int32.toInt 24 = 24 from rfl) (fun c10 => ?_) (fun c10 => ?_)
          · refine te_aload_n (p2 := 56) rfl rfl rfl ?_
            refine tg_r (p2 := 59) (i := 148) (r := 173) rfl rfl hI rfl rfl rfl ?_
            refine te_aload_n (p2 := 60) rfl rfl rfl ?_
            refine tg_e (p2 := 63) (i := 148) (v := .int y9) rfl rfl hI rfl rfl e9 ?_
            refine te_iload_n (p2 := 64) rfl rfl rfl ?_
            refine ts_i (p2 := 65) (i := 157) (n := 24) rfl rfl hI rfl rfl rfl rfl (by omega) (by omega) (i32_lo _) (i32_hi _) (i32_ho _) rfl (fun h11 I11 u11 => ?_)
            have f11 := fr_st (F := F_X12_person) 2 f0 u11 rfl (by omega) (by omega)
            refine te_aload_n (p2 := 66) rfl rfl rfl ?_
            refine tg_r (p2 := 69) (i := 148) (r := 174) rfl rfl I11 rfl rfl rfl ?_
            refine te_aload_n (p2 := 70) rfl rfl rfl ?_
            refine tg_e (p2 := 73) (i := 148) (v := .int y9) rfl rfl I11 rfl rfl ((u11.2 _ _ (Or.inl (by decide))).trans e9) ?_
            refine te_iload_n (p2 := 74) rfl rfl rfl ?_
            refine ts_i (p2 := 75) (i := 158) (n := 24) rfl rfl I11 rfl rfl rfl rfl (by omega) (by omega) (i32_lo _) (i32_hi _) (i32_ho _) rfl (fun h12 I12 u12 => ?_)
            have f12 := fr_st (F := F_X12_person) 3 f11 u12 rfl (by omega) (by omega)
            refine te_aload_n (p2 := 76) rfl rfl rfl ?_
            refine tg_r (p2 := 79) (i := 148) (r := 175) rfl rfl I12 rfl rfl rfl ?_
            refine te_aload_n (p2 := 80) rfl rfl rfl ?_
            refine tg_e (p2 := 83) (i := 148) (v := .int y9) rfl rfl I12 rfl rfl ((u12.2 _ _ (Or.inl (by decide))).trans ((u11.2 _ _ (Or.inl (by decide))).trans e9)) ?_
            refine te_iload (p2 := 85) rfl rfl rfl ?_
            refine ts_i (p2 := 86) (i := 159) (n := 24) rfl rfl I12 rfl rfl rfl rfl (by omega) (by omega) (i32_lo _) (i32_hi _) (i32_ho _) rfl (fun h13 I13 u13 => ?_)
            have f13 := fr_st (F := F_X12_person) 4 f12 u13 rfl (by omega) (by omega)
            refine te_aload_n (p2 := 87) rfl rfl rfl ?_
            refine tg_r (p2 := 90) (i := 148) (r := 165) rfl rfl I13 rfl rfl rfl ?_
            refine te_sipush (p2 := 93) (x := 140) rfl rfl (by decide) ?_
            refine te_aload_n (p2 := 94) rfl rfl rfl ?_
            refine tg_e (p2 := 97) (i := 148) (v := .int y9) rfl rfl I13 rfl rfl ((u13.2 _ _ (Or.inl (by decide))).trans ((u12.2 _ _ (Or.inl (by decide))).trans ((u11.2 _ _ (Or.inl (by decide))).trans e9))) ?_
            refine ar_add (p2 := 98) rfl rfl (show Int32.toInt 140 = 140 from rfl) rfl (by omega) (by omega) (fun z14 e14 f14 => ?_)
            refine te_iload_n (p2 := 99) rfl rfl rfl ?_
            refine ts_i (p2 := 100) (i := 149) (n := 283) rfl rfl I13 rfl rfl rfl rfl (by omega) (by omega) (i32_lo _) (i32_hi _) (i32_ho _) rfl (fun h15 I15 u15 => ?_)
            have f15 := fr_st (F := F_X12_person) 1 f13 u15 rfl (by omega) (by omega)
            refine te_aload_n (p2 := 101) rfl rfl rfl ?_
            refine te_dup (p2 := 102) rfl rfl rfl ?_
            refine tg_e (p2 := 105) (i := 148) (v := .int y9) rfl rfl I15 rfl rfl ((u15.2 _ _ (Or.inl (by decide))).trans ((u13.2 _ _ (Or.inl (by decide))).trans ((u12.2 _ _ (Or.inl (by decide))).trans ((u11.2 _ _ (Or.inl (by decide))).trans e9)))) ?_
            refine te_iconst (p2 := 106) (x := 1) rfl rfl (by decide) ?_
            refine ar_add (p2 := 107) rfl rfl rfl (show Int32.toInt 1 = 1 from rfl) (by omega) (by omega) (fun z16 e16 f16 => ?_)
            refine tp_i (p2 := 110) (i := 148) rfl rfl I15 rfl rfl (by decide) rfl rfl rfl (by omega) (by omega) (by omega) rfl (fun h17 I17 u17 => ?_)
            have f17 := fr_st (F := F_X12_person) 0 f15 u17 rfl (by decide) (by decide)
            refine te_aload_n (p2 := 111) rfl rfl rfl ?_
            refine tg_e (p2 := 114) (i := 148) (v := .int z16) rfl rfl I17 rfl rfl u17.1 ?_
            refine te_iconst (p2 := 115) (x := 1) rfl rfl (by decide) ?_
            refine ar_sub (p2 := 116) rfl rfl rfl (show Int32.toInt 1 = 1 from rfl) (by omega) (by omega) (fun z18 e18 f18 => ?_)
            exact te_iret rfl rfl ⟨I17, f17, _, rfl, y9, e9, (show z18 = fP x1 x2 x3 x4 y9 from by (unfold fP; (repeat' split) <;> first | (exfalso; omega) | rfl | assumption | (exact i32_ext (by omega)) | (subst_vars; rfl))), u17.1.trans (congrArg (fun t => some (Value.int t)) (show z16 = gP x1 x2 x3 x4 y9 from by (unfold gP; (repeat' split) <;> first | (exfalso; omega) | rfl | assumption | (exact i32_ext (by omega)) | (subst_vars; rfl))))⟩
          · refine te_bipush (p2 := 54) (x := (-4)) rfl rfl (by decide) ?_
            exact te_iret rfl rfl ⟨hI, f0, _, rfl, y9, e9, (show (-4) = fP x1 x2 x3 x4 y9 from by (have c0_ := (show Int32.toInt (-4) = (-4) from rfl); unfold fP; (repeat' split) <;> first | (exfalso; omega) | rfl | assumption | (exact i32_ext (by omega)) | (subst_vars; rfl))), e9.trans (congrArg (fun t => some (Value.int t)) (show y9 = gP x1 x2 x3 x4 y9 from by (have c0_ := (show Int32.toInt (-4) = (-4) from rfl); unfold gP; (repeat' split) <;> first | (exfalso; omega) | rfl | assumption | (exact i32_ext (by omega)) | (subst_vars; rfl))))⟩
        · subst w7
          have cc7_1 := (show Int32.toInt 0 = 0 from rfl)
          have cc7_2 := (show Int32.toInt 9 = 9 from rfl)
          refine tz_ne (p2 := 40) rfl rfl (show Int32.toInt 0 = 0 from rfl) (fun c19 => absurd c19 (by omega)) (fun c19 => ?_)
          refine te_bipush (p2 := 42) (x := (-2)) rfl rfl (by decide) ?_
          obtain ⟨v20, e20, y20, w20, a20, b20, _⟩ := hI.2.1 148 10 (.inl (0, 24, 9999999999)) rfl
          subst w20
          exact te_iret rfl rfl ⟨hI, f0, _, rfl, y20, e20, (show (-2) = fP x1 x2 x3 x4 y20 from by (have c0_ := (show Int32.toInt (-2) = (-2) from rfl); unfold fP; (repeat' split) <;> first | (exfalso; omega) | rfl | assumption | (exact i32_ext (by omega)) | (subst_vars; rfl))), e20.trans (congrArg (fun t => some (Value.int t)) (show y20 = gP x1 x2 x3 x4 y20 from by (have c0_ := (show Int32.toInt (-2) = (-2) from rfl); unfold gP; (repeat' split) <;> first | (exfalso; omega) | rfl | assumption | (exact i32_ext (by omega)) | (subst_vars; rfl))))⟩
      · subst w5
        have cc5_1 := (show Int32.toInt 0 = 0 from rfl)
        have cc5_2 := (show Int32.toInt 99 = 99 from rfl)
        refine tz_eq (p2 := 29) rfl rfl (show Int32.toInt 0 = 0 from rfl) (fun c21 => ?_) (fun c21 => absurd c21 (by omega))
        refine te_bipush (p2 := 42) (x := (-2)) rfl rfl (by decide) ?_
        obtain ⟨v22, e22, y22, w22, a22, b22, _⟩ := hI.2.1 148 10 (.inl (0, 24, 9999999999)) rfl
        subst w22
        exact te_iret rfl rfl ⟨hI, f0, _, rfl, y22, e22, (show (-2) = fP x1 x2 x3 x4 y22 from by (have c0_ := (show Int32.toInt (-2) = (-2) from rfl); unfold fP; (repeat' split) <;> first | (exfalso; omega) | rfl | assumption | (exact i32_ext (by omega)) | (subst_vars; rfl))), e22.trans (congrArg (fun t => some (Value.int t)) (show y22 = gP x1 x2 x3 x4 y22 from by (have c0_ := (show Int32.toInt (-2) = (-2) from rfl); unfold gP; (repeat' split) <;> first | (exfalso; omega) | rfl | assumption | (exact i32_ext (by omega)) | (subst_vars; rfl))))⟩
    · subst w3
      have cc3_1 := (show Int32.toInt 1 = 1 from rfl)
      have cc3_2 := (show Int32.toInt 9 = 9 from rfl)
      refine tz_eq (p2 := 19) rfl rfl (show Int32.toInt 0 = 0 from rfl) (fun c23 => ?_) (fun c23 => absurd c23 (by omega))
      refine te_bipush (p2 := 42) (x := (-2)) rfl rfl (by decide) ?_
      obtain ⟨v24, e24, y24, w24, a24, b24, _⟩ := hI.2.1 148 10 (.inl (0, 24, 9999999999)) rfl
      subst w24
      exact te_iret rfl rfl ⟨hI, f0, _, rfl, y24, e24, (show (-2) = fP x1 x2 x3 x4 y24 from by (have c0_ := (show Int32.toInt (-2) = (-2) from rfl); unfold fP; (repeat' split) <;> first | (exfalso; omega) | rfl | assumption | (exact i32_ext (by omega)) | (subst_vars; rfl))), e24.trans (congrArg (fun t => some (Value.int t)) (show y24 = gP x1 x2 x3 x4 y24 from by (have c0_ := (show Int32.toInt (-2) = (-2) from rfl); unfold gP; (repeat' split) <;> first | (exfalso; omega) | rfl | assumption | (exact i32_ext (by omega)) | (subst_vars; rfl))))⟩
  · subst w1
    refine tz_ne (p2 := 7) rfl rfl (show Int32.toInt 0 = 0 from rfl) (fun c25 => absurd c25 (by omega)) (fun c25 => ?_)
    refine te_iconst (p2 := 8) (x := (-1)) rfl rfl (by decide) ?_
    obtain ⟨v26, e26, y26, w26, a26, b26, _⟩ := hI.2.1 148 10 (.inl (0, 24, 9999999999)) rfl
    subst w26
    exact te_iret rfl rfl ⟨hI, f0, _, rfl, y26, e26, (show (-1) = fP x1 x2 x3 x4 y26 from by (have c0_ := (show Int32.toInt (-1) = (-1) from rfl); unfold fP; (repeat' split) <;> first | (exfalso; omega) | rfl | assumption | (exact i32_ext (by omega)) | (subst_vars; rfl))), e26.trans (congrArg (fun t => some (Value.int t)) (show y26 = gP x1 x2 x3 x4 y26 from by (have c0_ := (show Int32.toInt (-1) = (-1) from rfl); unfold gP; (repeat' split) <;> first | (exfalso; omega) | rfl | assumption | (exact i32_ext (by omega)) | (subst_vars; rfl))))⟩
def vl (h : im_H) (c o i : Nat) : Int32 := if i < 40 then (match rd h c (o + i) with | some (.int v) => v | _ => 0) else 0
theorem vl_of {h : im_H} {c o i : Nat} {a : Int32} (hi : i < 40) (e : rd h c (o + i) = some (.int a)) : vl h c o i = a := by
  unfold vl
  rw [if_pos hi, e]
def ppl (F : Nat → Int32) (fr sz : Int) : Nat → Nat → Int32 → Int32 → Int32 × Int32
  | 0, _, came, cnt => (came, cnt)
  | m + 1, k, came, cnt => if 0 ≤ fr ∧ fr + 4 * k + 4 ≤ sz then ppl F fr sz m (k + 1) (if 0 ≤ (fP (F (fr.toNat + 4 * k)) (F (fr.toNat + 4 * k + 1)) (F (fr.toNat + 4 * k + 2)) (F (fr.toNat + 4 * k + 3)) cnt).toInt then came + 1 else came) (gP (F (fr.toNat + 4 * k)) (F (fr.toNat + 4 * k + 1)) (F (fr.toNat + 4 * k + 2)) (F (fr.toNat + 4 * k + 3)) cnt) else (-12, cnt)
theorem ppl_step {F : Nat → Int32} {fr sz : Int} {m m2 k k2 : Nat} {came cnt came2 cnt2 a b c d y : Int32} (hm : m = m2 + 1) (hk : k + 1 = k2) (hc : 0 ≤ fr ∧ fr + 4 * k + 4 ≤ sz) (ha : F (fr.toNat + 4 * k) = a) (hb : F (fr.toNat + 4 * k + 1) = b) (hc2 : F (fr.toNat + 4 * k + 2) = c) (hd : F (fr.toNat + 4 * k + 3) = d) (hy : y = fP a b c d cnt) (h1 : 0 ≤ y.toInt → came2 = came + 1) (h2 : ¬ 0 ≤ y.toInt → came2 = came) (hg : cnt2 = gP a b c d cnt) : ppl F fr sz m2 k2 came2 cnt2 = ppl F fr sz m k came cnt := by
  subst hm hk ha hb hc2 hd hg hy
  show _ = ite _ _ _
  rw [if_pos hc]
  by_cases h : 0 ≤ (fP (F (fr.toNat + 4 * k)) (F (fr.toNat + 4 * k + 1)) (F (fr.toNat + 4 * k + 2)) (F (fr.toNat + 4 * k + 3)) cnt).toInt
  · rw [if_pos h, h1 h]
  · rw [if_neg h, h2 h]
theorem ppl_out {F : Nat → Int32} {fr sz : Int} {m m2 k : Nat} {came cnt : Int32} (hm : m = m2 + 1) (hc : ¬ (0 ≤ fr ∧ fr + 4 * k + 4 ≤ sz)) : ppl F fr sz m k came cnt = (-12, cnt) := by
  subst hm
  exact if_neg hc
theorem ppl_end {F : Nat → Int32} {fr sz : Int} {m k : Nat} {came cnt : Int32} (hm : m = 0) : ppl F fr sz m k came cnt = (came, cnt) := by
  subst hm
  rfl
def peT (F : Nat → Int32) (x2 x3 x4 q z p : Int32) : Int32 × Int32 := if 0 ≤ x2.toInt ∧ x2.toInt ≤ 2 ∧ 0 ≤ x4.toInt ∧ x4.toInt ≤ 10 then (if q.toInt = -1 then (-11, p) else if ¬ q.toInt = x2.toInt then (-13, p) else ppl F x3.toInt z.toInt x4.toInt.toNat 0 0 p) else (-2, p)
theorem add_nw {a b z : Int32} (e : a + b = z) (hb : 0 ≤ b.toInt) : 0 ≤ a.toInt → z.toInt = a.toInt + b.toInt ∨ (z.toInt = a.toInt + b.toInt - 4294967296 ∧ 2147483648 ≤ a.toInt + b.toInt) := by
  intro ha
  have h1 := i32_hi a
  have h2 := i32_hi b
  rw [← e, Int32.toInt_add]
  by_cases h : a.toInt + b.toInt < 2147483648
  · exact Or.inl (by rw [Int.bmod_def]; omega)
  · exact Or.inr (by rw [Int.bmod_def]; omega)
set_option maxRecDepth 20000 in
set_option maxHeartbeats 4000000 in
theorem c_X11_personFrom {s : Nat} {i : Int32} {h : im_H} (hI : tI h) (q_s : s = 140 ∨ s = 142 ∨ s = 144 ∨ s = 146) (p_i0 : 0 ≤ i.toInt) (p_i1 : i.toInt ≤ 36) : CaP 9 108 [.ref 16, .ref (16 + s), .int i] h (fun v h2 => tI h2 ∧ fr F_X11_personFrom h h2 ∧ ∃ y : Int32, v = some (.int y) ∧ ∃ a b c d p : Int32, rd h (s + 1) i.toInt.toNat = some (.int a) ∧ rd h (s + 1) (i.toInt.toNat + 1) = some (.int b) ∧ rd h (s + 1) (i.toInt.toNat + 2) = some (.int c) ∧ rd h (s + 1) (i.toInt.toNat + 3) = some (.int d) ∧ rd h 1 2 = some (.int p) ∧ y = fP a b c d p ∧ rd h2 1 2 = some (.int (gP a b c d p))) := by
  refine cap_of (d := 8) (M := mX11_personFrom) rfl (Nat.le_of_ble_eq_true rfl) ?_
  show EvP im_K0 8 mX11_personFrom (0, [(0, .ref 16), (1, .ref (16 + s)), (2, .int i)], [], h) _
  have f0 : fr F_X11_personFrom h h := fr_rf
  refine te_aload_n (p2 := 1) rfl rfl rfl ?_
  refine te_aload_n (p2 := 2) rfl rfl rfl ?_
  refine tg_r (p2 := 5) (i := s) (r := (16 + (s + 1))) rfl rfl hI rfl (by rcases q_s with rfl | rfl | rfl | rfl <;> rfl) (by rcases q_s with rfl | rfl | rfl | rfl <;> rfl) ?_
  refine te_iload_n (p2 := 6) rfl rfl rfl ?_
  refine tl_i (p2 := 7) (i := (s + 1)) (n := 40) rfl rfl hI rfl (by rcases q_s with rfl | rfl | rfl | rfl <;> rfl) (by rcases q_s with rfl | rfl | rfl | rfl <;> rfl) rfl (by omega) (by omega) (fun y1 a1 b1 g1 e1 => ?_)
  refine te_aload_n (p2 := 8) rfl rfl rfl ?_
  refine tg_r (p2 := 11) (i := s) (r := (16 + (s + 1))) rfl rfl hI rfl (by rcases q_s with rfl | rfl | rfl | rfl <;> rfl) (by rcases q_s with rfl | rfl | rfl | rfl <;> rfl) ?_
  refine te_iload_n (p2 := 12) rfl rfl rfl ?_
  refine te_iconst (p2 := 13) (x := 1) rfl rfl (by decide) ?_
  refine ar_add (p2 := 14) rfl rfl rfl (show Int32.toInt 1 = 1 from rfl) (by omega) (by omega) (fun z2 e2 f2 => ?_)
  refine tl_i (p2 := 15) (i := (s + 1)) (n := 40) rfl rfl hI rfl (by rcases q_s with rfl | rfl | rfl | rfl <;> rfl) (by rcases q_s with rfl | rfl | rfl | rfl <;> rfl) rfl (by omega) (by omega) (fun y3 a3 b3 g3 e3 => ?_)
  refine te_aload_n (p2 := 16) rfl rfl rfl ?_
  refine tg_r (p2 := 19) (i := s) (r := (16 + (s + 1))) rfl rfl hI rfl (by rcases q_s with rfl | rfl | rfl | rfl <;> rfl) (by rcases q_s with rfl | rfl | rfl | rfl <;> rfl) ?_
  refine te_iload_n (p2 := 20) rfl rfl rfl ?_
  refine te_iconst (p2 := 21) (x := 2) rfl rfl (by decide) ?_
  refine ar_add (p2 := 22) rfl rfl rfl (show Int32.toInt 2 = 2 from rfl) (by omega) (by omega) (fun z4 e4 f4 => ?_)
  refine tl_i (p2 := 23) (i := (s + 1)) (n := 40) rfl rfl hI rfl (by rcases q_s with rfl | rfl | rfl | rfl <;> rfl) (by rcases q_s with rfl | rfl | rfl | rfl <;> rfl) rfl (by omega) (by omega) (fun y5 a5 b5 g5 e5 => ?_)
  refine te_aload_n (p2 := 24) rfl rfl rfl ?_
  refine tg_r (p2 := 27) (i := s) (r := (16 + (s + 1))) rfl rfl hI rfl (by rcases q_s with rfl | rfl | rfl | rfl <;> rfl) (by rcases q_s with rfl | rfl | rfl | rfl <;> rfl) ?_
  refine te_iload_n (p2 := 28) rfl rfl rfl ?_
  refine te_iconst (p2 := 29) (x := 3) rfl rfl (by decide) ?_
  refine ar_add (p2 := 30) rfl rfl rfl (show Int32.toInt 3 = 3 from rfl) (by omega) (by omega) (fun z6 e6 f6 => ?_)
  refine tl_i (p2 := 31) (i := (s + 1)) (n := 40) rfl rfl hI rfl (by rcases q_s with rfl | rfl | rfl | rfl <;> rfl) (by rcases q_s with rfl | rfl | rfl | rfl <;> rfl) rfl (by omega) (by omega) (fun y7 a7 b7 g7 e7 => ?_)
  obtain ⟨v9, e9, y9, w9, a9, b9, _⟩ := hI.2.1 1 2 (.inl (0, 24, 9999999999)) rfl
  subst w9
  refine tc_V (p2 := 34) (i := 0) rfl rfl rfl rfl hI rfl rfl rfl (c_X11_person (x1 := y1) (x2 := y3) (x3 := y5) (x4 := y7) hI ) (by decide) (fun v8 h8 hq8 => ?_)
  obtain ⟨I8, g8, y8, w8, p8, eo8, fy8, en8⟩ := hq8
  subst w8
  rw [int_inj eo8 e9] at fy8 en8
  have f8 := fr_tr (F1 := F_X11_person) (F := F_X11_personFrom) f0 g8 (by decide)
  obtain ⟨_, eb8, yb8, wb8, ab8, bb8, _⟩ := I8.2.1 1 2 (.inl (0, 24, 9999999999)) rfl
  subst wb8
  have jb8 := int_inj eb8 en8
  show EvP _ _ _ (34, [(0, .ref 16), (1, .ref (16 + s)), (2, .int i)], [.int y8], h8) _
  exact te_iret rfl rfl ⟨I8, f8, _, rfl, y1, y3, y5, y7, y9, e1, (by rw [show i.toInt.toNat + 1 = z2.toInt.toNat by omega]; exact e3), (by rw [show i.toInt.toNat + 2 = z4.toInt.toNat by omega]; exact e5), (by rw [show i.toInt.toNat + 3 = z6.toInt.toNat by omega]; exact e7), e9, fy8, (eb8.trans (congrArg (fun t => some (Value.int t)) jb8))⟩
theorem shT {h : im_H} (hI : tI h) (i k : Nat) (t : tv) (e : tq tT i k = some t) : ∃ v, rd h i k = some v ∧ okV t v := hI.2.1 i k t e
abbrev Q1_people (x1 x2 x3 x4 : Int32) (y : Int32) (h h2 : im_H) : Prop := ∃ p : Int32, rd h 1 2 = some (.int p) ∧ (((0 ≤ x1.toInt ∧ x1.toInt ≤ 3) ∧ ∃ q z : Int32, rd h (140 + 2 * x1.toInt.toNat) 0 = some (.int q) ∧ rd h (140 + 2 * x1.toInt.toNat) 1 = some (.int z) ∧ y = (peT (vl h (141 + 2 * x1.toInt.toNat) 0) x2 x3 x4 q z p).1 ∧ rd h2 1 2 = some (.int (peT (vl h (141 + 2 * x1.toInt.toNat) 0) x2 x3 x4 q z p).2)) ∨ (¬ (0 ≤ x1.toInt ∧ x1.toInt ≤ 3) ∧ y = -2 ∧ rd h2 1 2 = some (.int p)))
set_option maxRecDepth 20000 in
set_option maxHeartbeats 4000000 in
theorem c_X11_people {x1 : Int32} {x2 : Int32} {x3 : Int32} {x4 : Int32} {h : im_H} (hI : tI h)  : CaP 10 107 [.ref 16, .int x1, .int x2, .int x3, .int x4] h (fun v h2 => tI h2 ∧ fr F_X11_people h h2 ∧ ∃ y : Int32, v = some (.int y) ∧ Q1_people x1 x2 x3 x4 y h h2) := by
  refine cap_of (d := 9) (M := mX11_people) rfl (Nat.le_of_ble_eq_true rfl) ?_
  show EvP im_K0 9 mX11_people (0, [(0, .ref 16), (1, .int x1), (2, .int x2), (3, .int x3), (4, .int x4)], [], h) _
  have f0 : fr F_X11_people h h := fr_rf
  refine te_iload_n (p2 := 1) rfl rfl rfl ?_
  refine te_iconst (p2 := 2) (x := 4) rfl rfl (by decide) ?_
  refine cS_pI (p2 := 5) rfl rfl rfl rfl (t_X11_within (n := x1) (b := 4) hI ) (by decide) (fun y1 r1 => ?_)
  rcases r1 with ⟨w1, c1⟩ | ⟨w1, c1⟩
  · subst w1
    have cc1_1 := (show Int32.toInt 4 = 4 from rfl)
    refine tz_eq (p2 := 8) rfl rfl (show Int32.toInt 1 = 1 from rfl) (fun c2 => absurd c2 (by omega)) (fun c2 => ?_)
    refine te_iload_n (p2 := 9) rfl rfl rfl ?_
    refine te_iconst (p2 := 10) (x := 3) rfl rfl (by decide) ?_
    refine cS_pI (p2 := 13) rfl rfl rfl rfl (t_X11_within (n := x2) (b := 3) hI ) (by decide) (fun y3 r3 => ?_)
    rcases r3 with ⟨w3, c3⟩ | ⟨w3, c3⟩
    · subst w3
      have cc3_1 := (show Int32.toInt 3 = 3 from rfl)
      refine tz_eq (p2 := 16) rfl rfl (show Int32.toInt 1 = 1 from rfl) (fun c4 => absurd c4 (by omega)) (fun c4 => ?_)
      refine te_iload (p2 := 18) rfl rfl rfl ?_
      refine te_iconst (p2 := 19) (x := 0) rfl rfl (by decide) ?_
      refine te_bipush (p2 := 21) (x := 10) rfl rfl (by decide) ?_
      refine cS_pI (p2 := 24) rfl rfl rfl rfl (t_X11_between (n := x4) (a := 0) (b := 10) hI ) (by decide) (fun y5 r5 => ?_)
      rcases r5 with ⟨w5, c5⟩ | ⟨w5, c5⟩
      · subst w5
        have cc5_1 := (show Int32.toInt 0 = 0 from rfl)
        have cc5_2 := (show Int32.toInt 10 = 10 from rfl)
        refine tz_ne (p2 := 27) rfl rfl (show Int32.toInt 1 = 1 from rfl) (fun c6 => ?_) (fun c6 => absurd c6 (by omega))
        refine te_aload_n (p2 := 31) rfl rfl rfl ?_
        refine tg_r (p2 := 34) (i := 0) (r := 113) rfl rfl hI rfl rfl rfl ?_
        refine te_iload_n (p2 := 35) rfl rfl rfl ?_
        refine tl_f (p2 := 36) (i := 97) (n := 4) (c0 := 140) (sp := 2) rfl rfl hI rfl rfl (by decide) rq_97 (by omega) (by omega) (fun o7 w7 => ?_)
        have q7 : o7 = 140 ∨ o7 = 142 ∨ o7 = 144 ∨ o7 = 146 := by omega
        refine te_astore (p2 := 38) (lv2 := [(5, .ref (16 + o7)), (0, .ref 16), (1, .int x1), (2, .int x2), (3, .int x3), (4, .int x4)]) rfl rfl (by decide) rfl ?_
        refine te_aload (p2 := 40) rfl rfl rfl ?_
        refine cV_pI (p2 := 43) (i := o7) rfl rfl rfl rfl hI rfl (by rcases q7 with rfl | rfl | rfl | rfl <;> rfl) rfl (c_X8_isMissing (s := o7) hI q7) (by decide) (fun y8 r8 => ?_)
        obtain ⟨p8, e8, r8⟩ := r8
        rcases r8 with ⟨w8_, c8⟩ | ⟨w8_, c8⟩
        · subst w8_
          refine tz_eq (p2 := 46) rfl rfl (show Int32.toInt 1 = 1 from rfl) (fun c9 => absurd c9 (by omega)) (fun c9 => ?_)
          refine te_bipush (p2 := 48) (x := (-11)) rfl rfl (by decide) ?_
          obtain ⟨v10, e10, y10, w10, a10, b10, _⟩ := hI.2.1 1 2 (.inl (0, 24, 9999999999)) rfl
          subst w10
          obtain ⟨v11, e11, y11, w11, a11, b11, _⟩ := hI.2.1 o7 1 (.inl (0, 40, 9999999999)) (by rcases q7 with rfl | rfl | rfl | rfl <;> rfl)
          subst w11
          have hP12 : peT (vl h (141 + 2 * x1.toInt.toNat) 0) x2 x3 x4 p8 y11 y10 = ((-11), y10) := by (unfold peT; (repeat' split) <;> first | (exfalso; omega) | rfl)
          exact te_iret rfl rfl ⟨hI, f0, _, rfl, y10, e10, Or.inl ⟨by omega, p8, y11, (by rw [← w7]; exact e8), (by rw [← w7]; exact e11), (by rw [hP12]), (by rw [hP12]; exact e10)⟩⟩
        · subst w8_
          refine tz_eq (p2 := 46) rfl rfl (show Int32.toInt 0 = 0 from rfl) (fun c13 => ?_) (fun c13 => absurd c13 (by omega))
          refine te_aload (p2 := 51) rfl rfl rfl ?_
          refine tg_e (p2 := 54) (i := o7) (v := .int p8) rfl rfl hI rfl (by rcases q7 with rfl | rfl | rfl | rfl <;> rfl) e8 ?_
          refine te_iload_n (p2 := 55) rfl rfl rfl ?_
          refine tb_eq (p2 := 58) rfl rfl rfl rfl (fun c14 => ?_) (fun c14 => ?_)
          · refine te_iconst (p2 := 62) (x := 0) rfl rfl (by decide) ?_
            refine te_istore (p2 := 64) (lv2 := [(6, .int 0), (5, .ref (16 + o7)), (0, .ref 16), (1, .int x1), (2, .int x2), (3, .int x3), (4, .int x4)]) rfl rfl (by decide) rfl ?_
            refine te_iconst (p2 := 65) (x := 1) rfl rfl (by decide) ?_
            refine te_istore (p2 := 67) (lv2 := [(7, .int 1), (6, .int 0), (5, .ref (16 + o7)), (0, .ref 16), (1, .int x1), (2, .int x2), (3, .int x3), (4, .int x4)]) rfl rfl (by decide) rfl ?_
            obtain ⟨v15, e15, y15, w15, a15, b15, _⟩ := hI.2.1 o7 1 (.inl (0, 40, 9999999999)) (by rcases q7 with rfl | rfl | rfl | rfl <;> rfl)
            subst w15
            obtain ⟨v16, e16, y16, w16, a16, b16, _⟩ := hI.2.1 1 2 (.inl (0, 24, 9999999999)) rfl
            subst w16
            have lp17 : ∀ (n17 : Nat) (v17_6 v17_7 t17_cnt : Int32) (h17 : im_H), tI h17 → fr F_X11_people h h17 → 1 ≤ v17_7.toInt → v17_7.toInt ≤ 11 → rd h17 1 2 = some (.int t17_cnt) → 0 ≤ t17_cnt.toInt → t17_cnt.toInt ≤ 24 → v17_7.toInt ≤ x4.toInt + 1 → (ppl (vl h (141 + 2 * x1.toInt.toNat) 0) x3.toInt y15.toInt (x4.toInt.toNat + 1 - v17_7.toInt.toNat) (v17_7.toInt.toNat - 1) v17_6 t17_cnt = ppl (vl h (141 + 2 * x1.toInt.toNat) 0) x3.toInt y15.toInt x4.toInt.toNat 0 0 y16) → 11 - v17_7.toInt < (n17 : Int) → EvP im_K0 9 mX11_people (67, [(0, .ref 16), (1, .int x1), (2, .int x2), (3, .int x3), (4, .int x4), (5, .ref (16 + o7)), (6, .int v17_6), (7, .int v17_7)], [], h17) (fun v h2 => tI h2 ∧ fr F_X11_people h h2 ∧ ∃ y : Int32, v = some (.int y) ∧ Q1_people x1 x2 x3 x4 y h h2) := by
              intro n17
              induction n17 with
              | zero => intro v17_6 v17_7 t17_cnt h17 I17 f17 a17_7 b17_7 v17_cnt va17_cnt vb17_cnt l17_0 w17_0 m17; exfalso; omega
              | succ n17 ih17 =>
                intro v17_6 v17_7 t17_cnt h17 I17 f17 a17_7 b17_7 v17_cnt va17_cnt vb17_cnt l17_0 w17_0 m17
                refine te_iload (p2 := 69) rfl rfl rfl ?_
                refine te_iload (p2 := 71) rfl rfl rfl ?_
                refine tb_gt (p2 := 74) rfl rfl rfl rfl (fun c18 => ?_) (fun c18 => ?_)
                · refine te_iload (p2 := 118) rfl rfl rfl ?_
                  have hP19 : peT (vl h (141 + 2 * x1.toInt.toNat) 0) x2 x3 x4 p8 y15 y16 = (v17_6, t17_cnt) := (show peT (vl h (141 + 2 * x1.toInt.toNat) 0) x2 x3 x4 p8 y15 y16 = ppl (vl h (141 + 2 * x1.toInt.toNat) 0) x3.toInt y15.toInt x4.toInt.toNat 0 0 y16 from by (unfold peT; rw [if_pos (by omega), if_neg (by omega), if_neg (by omega)])).trans (w17_0.symm.trans (ppl_end (by omega)))
                  exact te_iret rfl rfl ⟨I17, f17, _, rfl, y16, e16, Or.inl ⟨by omega, p8, y15, (by rw [← w7]; exact e8), (by rw [← w7]; exact e15), (by rw [hP19]), (by rw [hP19]; exact v17_cnt)⟩⟩
                · refine te_aload (p2 := 76) rfl rfl rfl ?_
                  refine te_iload_n (p2 := 77) rfl rfl rfl ?_
                  refine te_iconst (p2 := 78) (x := 4) rfl rfl (by decide) ?_
                  refine te_iload (p2 := 80) rfl rfl rfl ?_
                  refine ar_mul (p2 := 81) rfl rfl (show Int32.toInt 4 = 4 from rfl) rfl (by omega) (by omega) (fun z20 e20 f20 => ?_)
                  refine cV_pI (p2 := 84) (i := o7) rfl rfl rfl rfl I17 rfl (by rcases q7 with rfl | rfl | rfl | rfl <;> rfl) rfl (t_X8_holds (s := o7) (i := x3) (n := z20) I17 q7) (by decide) (fun y21 r21 => ?_)
                  obtain ⟨p21, e21, a21, b21, r21⟩ := r21
                  have w21 : p21 = y15 := Value.int.inj (Option.some.inj (e21.symm.trans ((f17 _ _ (by rcases q7 with rfl | rfl | rfl | rfl <;> rfl)).trans e15)))
                  rw [w21] at r21
                  rcases r21 with ⟨w21, c21⟩ | ⟨w21, c21⟩
                  · subst w21
                    refine tz_ne (p2 := 87) rfl rfl (show Int32.toInt 1 = 1 from rfl) (fun c22 => ?_) (fun c22 => absurd c22 (by omega))
                    refine te_aload_n (p2 := 91) rfl rfl rfl ?_
                    refine te_aload (p2 := 93) rfl rfl rfl ?_
                    refine te_iload_n (p2 := 94) rfl rfl rfl ?_
                    refine te_iconst (p2 := 95) (x := 4) rfl rfl (by decide) ?_
                    refine te_iload (p2 := 97) rfl rfl rfl ?_
                    refine te_iconst (p2 := 98) (x := 1) rfl rfl (by decide) ?_
                    refine ar_sub (p2 := 99) rfl rfl rfl (show Int32.toInt 1 = 1 from rfl) (by omega) (by omega) (fun z23 e23 f23 => ?_)
                    refine ar_mul (p2 := 100) rfl rfl (show Int32.toInt 4 = 4 from rfl) rfl (by omega) (by omega) (fun z24 e24 f24 => ?_)
                    refine ar_add (p2 := 101) rfl rfl rfl rfl (by omega) (by omega) (fun z25 e25 f25 => ?_)
                    refine tc_V (p2 := 104) (i := 0) rfl rfl rfl rfl I17 rfl rfl rfl (c_X11_personFrom (s := o7) (i := z25) I17 q7 (by omega) (by omega)) (by decide) (fun v26 h26 hq26 => ?_)
                    obtain ⟨I26, g26, y26, w26, pa26, pb26, pc26, pd26, p26, ea26, eb26, ec26, ed26, eo26, fy26, en26⟩ := hq26
                    subst w26
                    rw [int_inj eo26 v17_cnt] at fy26 en26
                    have f26 := fr_tr (F1 := F_X11_personFrom) (F := F_X11_people) f17 g26 (by decide)
                    obtain ⟨_, ey26, yb26, wb26, ab26, bb26, _⟩ := I26.2.1 1 2 (.inl (0, 24, 9999999999)) rfl
                    subst wb26
                    have jb26 := int_inj ey26 en26
                    show EvP _ _ _ (104, [(0, .ref 16), (1, .int x1), (2, .int x2), (3, .int x3), (4, .int x4), (5, .ref (16 + o7)), (6, .int v17_6), (7, .int v17_7)], [.int y26], h26) _
                    refine tz_lt (p2 := 107) rfl rfl rfl (fun c27 => ?_) (fun c27 => ?_)
                    · refine ar_inc (p2 := 113) (x := v17_7) rfl rfl (by decide) rfl (by decide) rfl (by omega) (by omega) (fun z28 e28 f28 => ?_)
                      show EvP _ _ _ (113, [(7, .int z28), (0, .ref 16), (1, .int x1), (2, .int x2), (3, .int x3), (4, .int x4), (5, .ref (16 + o7)), (6, .int v17_6)], [], h26) _
                      refine te_goto rfl ?_
                      refine te_lv [(0, .ref 16), (1, .int x1), (2, .int x2), (3, .int x3), (4, .int x4), (5, .ref (16 + o7)), (6, .int v17_6), (7, .int z28)] rfl rfl ⟨rfl, rfl, rfl, rfl, rfl, rfl, rfl, rfl, trivial⟩ ?_
                      exact ih17 v17_6 z28 yb26 h26 I26 f26 (by omega) (by omega) ey26 (by omega) (by omega) (by omega) ((ppl_step (by omega) (by omega) (by omega) (vl_of (by omega) (by rw [show 141 + 2 * x1.toInt.toNat = o7 + 1 by omega, show 0 + (x3.toInt.toNat + 4 * (v17_7.toInt.toNat - 1)) = z25.toInt.toNat by omega]; exact (f17 _ _ (by rcases q7 with rfl | rfl | rfl | rfl <;> rfl)).symm.trans ea26)) (vl_of (by omega) (by rw [show 141 + 2 * x1.toInt.toNat = o7 + 1 by omega, show 0 + (x3.toInt.toNat + 4 * (v17_7.toInt.toNat - 1) + 1) = z25.toInt.toNat + 1 by omega]; exact (f17 _ _ (by rcases q7 with rfl | rfl | rfl | rfl <;> rfl)).symm.trans eb26)) (vl_of (by omega) (by rw [show 141 + 2 * x1.toInt.toNat = o7 + 1 by omega, show 0 + (x3.toInt.toNat + 4 * (v17_7.toInt.toNat - 1) + 2) = z25.toInt.toNat + 2 by omega]; exact (f17 _ _ (by rcases q7 with rfl | rfl | rfl | rfl <;> rfl)).symm.trans ec26)) (vl_of (by omega) (by rw [show 141 + 2 * x1.toInt.toNat = o7 + 1 by omega, show 0 + (x3.toInt.toNat + 4 * (v17_7.toInt.toNat - 1) + 3) = z25.toInt.toNat + 3 by omega]; exact (f17 _ _ (by rcases q7 with rfl | rfl | rfl | rfl <;> rfl)).symm.trans ed26)) fy26 (fun h9 => absurd h9 (by omega)) (fun _ => rfl) jb26).trans w17_0) (by omega)
                    · refine au_inc (p2 := 110) (x := v17_6) rfl rfl (by decide) rfl (fun z29 e29 => ?_)
                      show EvP _ _ _ (110, [(6, .int z29), (0, .ref 16), (1, .int x1), (2, .int x2), (3, .int x3), (4, .int x4), (5, .ref (16 + o7)), (7, .int v17_7)], [], h26) _
                      refine ar_inc (p2 := 113) (x := v17_7) rfl rfl (by decide) rfl (by decide) rfl (by omega) (by omega) (fun z30 e30 f30 => ?_)
                      show EvP _ _ _ (113, [(7, .int z30), (6, .int z29), (0, .ref 16), (1, .int x1), (2, .int x2), (3, .int x3), (4, .int x4), (5, .ref (16 + o7))], [], h26) _
                      refine te_goto rfl ?_
                      refine te_lv [(0, .ref 16), (1, .int x1), (2, .int x2), (3, .int x3), (4, .int x4), (5, .ref (16 + o7)), (6, .int z29), (7, .int z30)] rfl rfl ⟨rfl, rfl, rfl, rfl, rfl, rfl, rfl, rfl, trivial⟩ ?_
                      exact ih17 z29 z30 yb26 h26 I26 f26 (by omega) (by omega) ey26 (by omega) (by omega) (by omega) ((ppl_step (by omega) (by omega) (by omega) (vl_of (by omega) (by rw [show 141 + 2 * x1.toInt.toNat = o7 + 1 by omega, show 0 + (x3.toInt.toNat + 4 * (v17_7.toInt.toNat - 1)) = z25.toInt.toNat by omega]; exact (f17 _ _ (by rcases q7 with rfl | rfl | rfl | rfl <;> rfl)).symm.trans ea26)) (vl_of (by omega) (by rw [show 141 + 2 * x1.toInt.toNat = o7 + 1 by omega, show 0 + (x3.toInt.toNat + 4 * (v17_7.toInt.toNat - 1) + 1) = z25.toInt.toNat + 1 by omega]; exact (f17 _ _ (by rcases q7 with rfl | rfl | rfl | rfl <;> rfl)).symm.trans eb26)) (vl_of (by omega) (by rw [show 141 + 2 * x1.toInt.toNat = o7 + 1 by omega, show 0 + (x3.toInt.toNat + 4 * (v17_7.toInt.toNat - 1) + 2) = z25.toInt.toNat + 2 by omega]; exact (f17 _ _ (by rcases q7 with rfl | rfl | rfl | rfl <;> rfl)).symm.trans ec26)) (vl_of (by omega) (by rw [show 141 + 2 * x1.toInt.toNat = o7 + 1 by omega, show 0 + (x3.toInt.toNat + 4 * (v17_7.toInt.toNat - 1) + 3) = z25.toInt.toNat + 3 by omega]; exact (f17 _ _ (by rcases q7 with rfl | rfl | rfl | rfl <;> rfl)).symm.trans ed26)) fy26 (fun _ => e29.symm) (fun h9 => absurd (by omega) h9) jb26).trans w17_0) (by omega)
                  · subst w21
                    refine tz_ne (p2 := 87) rfl rfl (show Int32.toInt 0 = 0 from rfl) (fun c31 => absurd c31 (by omega)) (fun c31 => ?_)
                    refine te_bipush (p2 := 89) (x := (-12)) rfl rfl (by decide) ?_
                    have hP32 : peT (vl h (141 + 2 * x1.toInt.toNat) 0) x2 x3 x4 p8 y15 y16 = ((-12), t17_cnt) := (show peT (vl h (141 + 2 * x1.toInt.toNat) 0) x2 x3 x4 p8 y15 y16 = ppl (vl h (141 + 2 * x1.toInt.toNat) 0) x3.toInt y15.toInt x4.toInt.toNat 0 0 y16 from by (unfold peT; rw [if_pos (by omega), if_neg (by omega), if_neg (by omega)])).trans (w17_0.symm.trans (ppl_out (m2 := x4.toInt.toNat - v17_7.toInt.toNat) (by omega) (by omega)))
                    exact te_iret rfl rfl ⟨I17, f17, _, rfl, y16, e16, Or.inl ⟨by omega, p8, y15, (by rw [← w7]; exact e8), (by rw [← w7]; exact e15), (by rw [hP32]), (by rw [hP32]; exact v17_cnt)⟩⟩
            refine te_lv [(0, .ref 16), (1, .int x1), (2, .int x2), (3, .int x3), (4, .int x4), (5, .ref (16 + o7)), (6, .int 0), (7, .int 1)] rfl rfl ⟨rfl, rfl, rfl, rfl, rfl, rfl, rfl, rfl, trivial⟩ ?_
            exact lp17 12 0 1 y16 h hI f0 (by decide) (by decide) e16 (by omega) (by omega) (by have cc0 := (show Int32.toInt 0 = 0 from rfl); have cc1 := (show Int32.toInt 1 = 1 from rfl); omega) rfl (by have cc0 := (show Int32.toInt 0 = 0 from rfl); have cc1 := (show Int32.toInt 1 = 1 from rfl); omega)
          · refine te_bipush (p2 := 60) (x := (-13)) rfl rfl (by decide) ?_
            obtain ⟨v33, e33, y33, w33, a33, b33, _⟩ := hI.2.1 1 2 (.inl (0, 24, 9999999999)) rfl
            subst w33
            obtain ⟨v34, e34, y34, w34, a34, b34, _⟩ := hI.2.1 o7 1 (.inl (0, 40, 9999999999)) (by rcases q7 with rfl | rfl | rfl | rfl <;> rfl)
            subst w34
            have hP35 : peT (vl h (141 + 2 * x1.toInt.toNat) 0) x2 x3 x4 p8 y34 y33 = ((-13), y33) := by (unfold peT; (repeat' split) <;> first | (exfalso; omega) | rfl)
            exact te_iret rfl rfl ⟨hI, f0, _, rfl, y33, e33, Or.inl ⟨by omega, p8, y34, (by rw [← w7]; exact e8), (by rw [← w7]; exact e34), (by rw [hP35]), (by rw [hP35]; exact e33)⟩⟩
      · subst w5
        have cc5_1 := (show Int32.toInt 0 = 0 from rfl)
        have cc5_2 := (show Int32.toInt 10 = 10 from rfl)
        refine tz_ne (p2 := 27) rfl rfl (show Int32.toInt 0 = 0 from rfl) (fun c36 => absurd c36 (by omega)) (fun c36 => ?_)
        refine te_bipush (p2 := 29) (x := (-2)) rfl rfl (by decide) ?_
        obtain ⟨v37, e37, y37, w37, a37, b37, _⟩ := hI.2.1 1 2 (.inl (0, 24, 9999999999)) rfl
        subst w37
        have hB38 : (0 ≤ x1.toInt ∧ x1.toInt ≤ 3) → ∃ q z : Int32, rd h (140 + 2 * x1.toInt.toNat) 0 = some (.int q) ∧ rd h (140 + 2 * x1.toInt.toNat) 1 = some (.int z) := fun hc => by (obtain ⟨_, e1, k1, w1, _⟩ := shT hI (140 + 2 * x1.toInt.toNat) 0 (.inl (-1, 2, 9999999999)) (by rcases (show x1.toInt.toNat = 0 ∨ x1.toInt.toNat = 1 ∨ x1.toInt.toNat = 2 ∨ x1.toInt.toNat = 3 by omega) with hq | hq | hq | hq <;> rw [hq] <;> rfl); obtain ⟨_, e2, k2, w2, _⟩ := shT hI (140 + 2 * x1.toInt.toNat) 1 (.inl (0, 40, 9999999999)) (by rcases (show x1.toInt.toNat = 0 ∨ x1.toInt.toNat = 1 ∨ x1.toInt.toNat = 2 ∨ x1.toInt.toNat = 3 by omega) with hq | hq | hq | hq <;> rw [hq] <;> rfl); subst w1; subst w2; exact ⟨k1, k2, e1, e2⟩)
        exact te_iret rfl rfl ⟨hI, f0, _, rfl, y37, e37, (by (by_cases hc : (0 ≤ x1.toInt ∧ x1.toInt ≤ 3)); (· (obtain ⟨q, z, e1, e2⟩ := hB38 hc); exact Or.inl ⟨hc, q, z, e1, e2, (by unfold peT; rw [if_neg (by omega)]), (by unfold peT; rw [if_neg (by omega)]; exact e37)⟩); (· exact Or.inr ⟨hc, rfl, e37⟩))⟩
    · subst w3
      have cc3_1 := (show Int32.toInt 3 = 3 from rfl)
      refine tz_eq (p2 := 16) rfl rfl (show Int32.toInt 0 = 0 from rfl) (fun c39 => ?_) (fun c39 => absurd c39 (by omega))
      refine te_bipush (p2 := 29) (x := (-2)) rfl rfl (by decide) ?_
      obtain ⟨v40, e40, y40, w40, a40, b40, _⟩ := hI.2.1 1 2 (.inl (0, 24, 9999999999)) rfl
      subst w40
      have hB41 : (0 ≤ x1.toInt ∧ x1.toInt ≤ 3) → ∃ q z : Int32, rd h (140 + 2 * x1.toInt.toNat) 0 = some (.int q) ∧ rd h (140 + 2 * x1.toInt.toNat) 1 = some (.int z) := fun hc => by (obtain ⟨_, e1, k1, w1, _⟩ := shT hI (140 + 2 * x1.toInt.toNat) 0 (.inl (-1, 2, 9999999999)) (by rcases (show x1.toInt.toNat = 0 ∨ x1.toInt.toNat = 1 ∨ x1.toInt.toNat = 2 ∨ x1.toInt.toNat = 3 by omega) with hq | hq | hq | hq <;> rw [hq] <;> rfl); obtain ⟨_, e2, k2, w2, _⟩ := shT hI (140 + 2 * x1.toInt.toNat) 1 (.inl (0, 40, 9999999999)) (by rcases (show x1.toInt.toNat = 0 ∨ x1.toInt.toNat = 1 ∨ x1.toInt.toNat = 2 ∨ x1.toInt.toNat = 3 by omega) with hq | hq | hq | hq <;> rw [hq] <;> rfl); subst w1; subst w2; exact ⟨k1, k2, e1, e2⟩)
      exact te_iret rfl rfl ⟨hI, f0, _, rfl, y40, e40, (by (by_cases hc : (0 ≤ x1.toInt ∧ x1.toInt ≤ 3)); (· (obtain ⟨q, z, e1, e2⟩ := hB41 hc); exact Or.inl ⟨hc, q, z, e1, e2, (by unfold peT; rw [if_neg (by omega)]), (by unfold peT; rw [if_neg (by omega)]; exact e40)⟩); (· exact Or.inr ⟨hc, rfl, e40⟩))⟩
  · subst w1
    have cc1_1 := (show Int32.toInt 4 = 4 from rfl)
    refine tz_eq (p2 := 8) rfl rfl (show Int32.toInt 0 = 0 from rfl) (fun c42 => ?_) (fun c42 => absurd c42 (by omega))
    refine te_bipush (p2 := 29) (x := (-2)) rfl rfl (by decide) ?_
    obtain ⟨v43, e43, y43, w43, a43, b43, _⟩ := hI.2.1 1 2 (.inl (0, 24, 9999999999)) rfl
    subst w43
    have hB44 : (0 ≤ x1.toInt ∧ x1.toInt ≤ 3) → ∃ q z : Int32, rd h (140 + 2 * x1.toInt.toNat) 0 = some (.int q) ∧ rd h (140 + 2 * x1.toInt.toNat) 1 = some (.int z) := fun hc => by (obtain ⟨_, e1, k1, w1, _⟩ := shT hI (140 + 2 * x1.toInt.toNat) 0 (.inl (-1, 2, 9999999999)) (by rcases (show x1.toInt.toNat = 0 ∨ x1.toInt.toNat = 1 ∨ x1.toInt.toNat = 2 ∨ x1.toInt.toNat = 3 by omega) with hq | hq | hq | hq <;> rw [hq] <;> rfl); obtain ⟨_, e2, k2, w2, _⟩ := shT hI (140 + 2 * x1.toInt.toNat) 1 (.inl (0, 40, 9999999999)) (by rcases (show x1.toInt.toNat = 0 ∨ x1.toInt.toNat = 1 ∨ x1.toInt.toNat = 2 ∨ x1.toInt.toNat = 3 by omega) with hq | hq | hq | hq <;> rw [hq] <;> rfl); subst w1; subst w2; exact ⟨k1, k2, e1, e2⟩)
    exact te_iret rfl rfl ⟨hI, f0, _, rfl, y43, e43, (by (by_cases hc : (0 ≤ x1.toInt ∧ x1.toInt ≤ 3)); (· (obtain ⟨q, z, e1, e2⟩ := hB44 hc); exact Or.inl ⟨hc, q, z, e1, e2, (by unfold peT; rw [if_neg (by omega)]), (by unfold peT; rw [if_neg (by omega)]; exact e43)⟩); (· exact Or.inr ⟨hc, rfl, e43⟩))⟩
abbrev Q2_people (x1 x2 x3 x4 : Int32) (y : Int32) (h h2 : im_H) : Prop := ∃ p : Int32, rd h 148 10 = some (.int p) ∧ (((0 ≤ x1.toInt ∧ x1.toInt ≤ 3) ∧ ∃ q z : Int32, rd h 192 x1.toInt.toNat = some (.int q) ∧ rd h 193 x1.toInt.toNat = some (.int z) ∧ y = (peT (vl h 194 (40 * x1.toInt.toNat)) x2 x3 x4 q z p).1 ∧ rd h2 148 10 = some (.int (peT (vl h 194 (40 * x1.toInt.toNat)) x2 x3 x4 q z p).2)) ∨ (¬ (0 ≤ x1.toInt ∧ x1.toInt ≤ 3) ∧ y = -2 ∧ rd h2 148 10 = some (.int p)))
set_option maxRecDepth 20000 in
set_option maxHeartbeats 4000000 in
theorem c_X12_people {x1 : Int32} {x2 : Int32} {x3 : Int32} {x4 : Int32} {h : im_H} (hI : tI h)  : CaP 10 194 [.ref 164, .int x1, .int x2, .int x3, .int x4] h (fun v h2 => tI h2 ∧ fr F_X12_people h h2 ∧ ∃ y : Int32, v = some (.int y) ∧ Q2_people x1 x2 x3 x4 y h h2) := by
  refine cap_of (d := 9) (M := mX12_people) rfl (Nat.le_of_ble_eq_true rfl) ?_
  show EvP im_K0 9 mX12_people (0, [(0, .ref 164), (1, .int x1), (2, .int x2), (3, .int x3), (4, .int x4)], [], h) _
  have f0 : fr F_X12_people h h := fr_rf
  refine te_iload_n (p2 := 1) rfl rfl rfl ?_
  refine te_iconst (p2 := 2) (x := 0) rfl rfl (by decide) ?_
  refine te_iconst (p2 := 3) (x := 3) rfl rfl (by decide) ?_
  refine cS_pI (p2 := 6) rfl rfl rfl rfl (t_X12_in (n := x1) (a := 0) (b := 3) hI ) (by decide) (fun y1 r1 => ?_)
  rcases r1 with ⟨w1, c1⟩ | ⟨w1, c1⟩
  · subst w1
    have cc1_1 := (show Int32.toInt 0 = 0 from rfl)
    have cc1_2 := (show Int32.toInt 3 = 3 from rfl)
    refine tz_eq (p2 := 9) rfl rfl (show Int32.toInt 1 = 1 from rfl) (fun c2 => absurd c2 (by omega)) (fun c2 => ?_)
    refine te_iload_n (p2 := 10) rfl rfl rfl ?_
    refine te_iconst (p2 := 11) (x := 0) rfl rfl (by decide) ?_
    refine te_iconst (p2 := 12) (x := 2) rfl rfl (by decide) ?_
    refine cS_pI (p2 := 15) rfl rfl rfl rfl (t_X12_in (n := x2) (a := 0) (b := 2) hI ) (by decide) (fun y3 r3 => ?_)
    rcases r3 with ⟨w3, c3⟩ | ⟨w3, c3⟩
    · subst w3
      have cc3_1 := (show Int32.toInt 0 = 0 from rfl)
      have cc3_2 := (show Int32.toInt 2 = 2 from rfl)
      refine tz_eq (p2 := 18) rfl rfl (show Int32.toInt 1 = 1 from rfl) (fun c4 => absurd c4 (by omega)) (fun c4 => ?_)
      refine te_iload (p2 := 20) rfl rfl rfl ?_
      refine te_iconst (p2 := 21) (x := 0) rfl rfl (by decide) ?_
      refine te_bipush (p2 := 23) (x := 10) rfl rfl (by decide) ?_
      refine cS_pI (p2 := 26) rfl rfl rfl rfl (t_X12_in (n := x4) (a := 0) (b := 10) hI ) (by decide) (fun y5 r5 => ?_)
      rcases r5 with ⟨w5, c5⟩ | ⟨w5, c5⟩
      · subst w5
        have cc5_1 := (show Int32.toInt 0 = 0 from rfl)
        have cc5_2 := (show Int32.toInt 10 = 10 from rfl)
        refine tz_ne (p2 := 29) rfl rfl (show Int32.toInt 1 = 1 from rfl) (fun c6 => ?_) (fun c6 => absurd c6 (by omega))
        refine te_aload_n (p2 := 33) rfl rfl rfl ?_
        refine tg_r (p2 := 36) (i := 148) (r := 208) rfl rfl hI rfl rfl rfl ?_
        refine te_iload_n (p2 := 37) rfl rfl rfl ?_
        refine tl_i (p2 := 38) (i := 192) (n := 4) rfl rfl hI rfl rfl rfl rfl (by omega) (by omega) (fun y7 a7 b7 g7 e7 => ?_)
        refine te_iconst (p2 := 39) (x := (-1)) rfl rfl (by decide) ?_
        refine tb_ne (p2 := 42) rfl rfl rfl (show Int32.toInt (-1) = (-1) from rfl) (fun c8 => ?_) (fun c8 => ?_)
        · refine te_aload_n (p2 := 46) rfl rfl rfl ?_
          refine tg_r (p2 := 49) (i := 148) (r := 208) rfl rfl hI rfl rfl rfl ?_
          refine te_iload_n (p2 := 50) rfl rfl rfl ?_
          refine tl_e (p2 := 51) (i := 192) (n := 4) (t := 0) (Or.inl rfl) rfl rfl hI rfl rfl (by omega) (by omega) e7 ?_
          refine te_iload_n (p2 := 52) rfl rfl rfl ?_
          refine tb_eq (p2 := 55) rfl rfl rfl rfl (fun c10 => ?_) (fun c10 => ?_)
          · refine te_iconst (p2 := 59) (x := 0) rfl rfl (by decide) ?_
            refine te_istore (p2 := 61) (lv2 := [(5, .int 0), (0, .ref 164), (1, .int x1), (2, .int x2), (3, .int x3), (4, .int x4)]) rfl rfl (by decide) rfl ?_
            refine te_iconst (p2 := 62) (x := 0) rfl rfl (by decide) ?_
            refine te_istore (p2 := 64) (lv2 := [(6, .int 0), (5, .int 0), (0, .ref 164), (1, .int x1), (2, .int x2), (3, .int x3), (4, .int x4)]) rfl rfl (by decide) rfl ?_
            obtain ⟨v11, e11, y11, w11, a11, b11, _⟩ := hI.2.1 193 x1.toInt.toNat (.inl (0, 40, 9999999999)) (tq_row rfl (by omega))
            subst w11
            obtain ⟨v12, e12, y12, w12, a12, b12, _⟩ := hI.2.1 148 10 (.inl (0, 24, 9999999999)) rfl
            subst w12
            have lp13 : ∀ (n13 : Nat) (v13_5 v13_6 t13_cnt : Int32) (h13 : im_H), tI h13 → fr F_X12_people h h13 → 0 ≤ v13_6.toInt → v13_6.toInt ≤ 10 → rd h13 148 10 = some (.int t13_cnt) → 0 ≤ t13_cnt.toInt → t13_cnt.toInt ≤ 24 → v13_6.toInt ≤ x4.toInt + 0 → (ppl (vl h 194 (40 * x1.toInt.toNat)) x3.toInt y11.toInt (x4.toInt.toNat - v13_6.toInt.toNat) v13_6.toInt.toNat v13_5 t13_cnt = ppl (vl h 194 (40 * x1.toInt.toNat)) x3.toInt y11.toInt x4.toInt.toNat 0 0 y12) → 10 - v13_6.toInt < (n13 : Int) → EvP im_K0 9 mX12_people (64, [(0, .ref 164), (1, .int x1), (2, .int x2), (3, .int x3), (4, .int x4), (5, .int v13_5), (6, .int v13_6)], [], h13) (fun v h2 => tI h2 ∧ fr F_X12_people h h2 ∧ ∃ y : Int32, v = some (.int y) ∧ Q2_people x1 x2 x3 x4 y h h2) := by
              intro n13
              induction n13 with
              | zero => intro v13_5 v13_6 t13_cnt h13 I13 f13 a13_6 b13_6 v13_cnt va13_cnt vb13_cnt l13_0 w13_0 m13; exfalso; omega
              | succ n13 ih13 =>
                intro v13_5 v13_6 t13_cnt h13 I13 f13 a13_6 b13_6 v13_cnt va13_cnt vb13_cnt l13_0 w13_0 m13
                refine te_iload (p2 := 66) rfl rfl rfl ?_
                refine te_iload (p2 := 68) rfl rfl rfl ?_
                refine tb_ge (p2 := 71) rfl rfl rfl rfl (fun c14 => ?_) (fun c14 => ?_)
                · refine te_iload (p2 := 173) rfl rfl rfl ?_
                  have hP15 : peT (vl h 194 (40 * x1.toInt.toNat)) x2 x3 x4 y7 y11 y12 = (v13_5, t13_cnt) := (show peT (vl h 194 (40 * x1.toInt.toNat)) x2 x3 x4 y7 y11 y12 = ppl (vl h 194 (40 * x1.toInt.toNat)) x3.toInt y11.toInt x4.toInt.toNat 0 0 y12 from by (unfold peT; rw [if_pos (by omega), if_neg (by omega), if_neg (by omega)])).trans (w13_0.symm.trans (ppl_end (by omega)))
                  exact te_iret rfl rfl ⟨I13, f13, _, rfl, y12, e12, Or.inl ⟨by omega, y7, y11, e7, e11, (by rw [hP15]), (by rw [hP15]; exact v13_cnt)⟩⟩
                · refine te_iload_n (p2 := 72) rfl rfl rfl ?_
                  refine te_iconst (p2 := 73) (x := 4) rfl rfl (by decide) ?_
                  refine te_iload (p2 := 75) rfl rfl rfl ?_
                  refine ar_mul (p2 := 76) rfl rfl (show Int32.toInt 4 = 4 from rfl) rfl (by omega) (by omega) (fun z16 e16 f16 => ?_)
                  refine au_add (p2 := 77) rfl rfl (fun z17 e17 => ?_)
                  have aw17 := add_nw e17 (by omega)
                  refine te_istore (p2 := 79) (lv2 := [(7, .int z17), (0, .ref 164), (1, .int x1), (2, .int x2), (3, .int x3), (4, .int x4), (5, .int v13_5), (6, .int v13_6)]) rfl rfl (by decide) rfl ?_
                  refine te_iload_n (p2 := 80) rfl rfl rfl ?_
                  refine tz_lt (p2 := 83) rfl rfl rfl (fun c18 => ?_) (fun c18 => ?_)
                  · refine te_bipush (p2 := 104) (x := (-12)) rfl rfl (by decide) ?_
                    have hP19 : peT (vl h 194 (40 * x1.toInt.toNat)) x2 x3 x4 y7 y11 y12 = ((-12), t13_cnt) := (show peT (vl h 194 (40 * x1.toInt.toNat)) x2 x3 x4 y7 y11 y12 = ppl (vl h 194 (40 * x1.toInt.toNat)) x3.toInt y11.toInt x4.toInt.toNat 0 0 y12 from by (unfold peT; rw [if_pos (by omega), if_neg (by omega), if_neg (by omega)])).trans (w13_0.symm.trans (ppl_out (m2 := x4.toInt.toNat - v13_6.toInt.toNat - 1) (by omega) (by omega)))
                    exact te_iret rfl rfl ⟨I13, f13, _, rfl, y12, e12, Or.inl ⟨by omega, y7, y11, e7, e11, (by rw [hP19]), (by rw [hP19]; exact v13_cnt)⟩⟩
                  · refine te_iload (p2 := 85) rfl rfl rfl ?_
                    refine te_iload_n (p2 := 86) rfl rfl rfl ?_
                    refine tb_lt (p2 := 89) rfl rfl rfl rfl (fun c20 => ?_) (fun c20 => ?_)
                    · refine te_bipush (p2 := 104) (x := (-12)) rfl rfl (by decide) ?_
                      have hP21 : peT (vl h 194 (40 * x1.toInt.toNat)) x2 x3 x4 y7 y11 y12 = ((-12), t13_cnt) := (show peT (vl h 194 (40 * x1.toInt.toNat)) x2 x3 x4 y7 y11 y12 = ppl (vl h 194 (40 * x1.toInt.toNat)) x3.toInt y11.toInt x4.toInt.toNat 0 0 y12 from by (unfold peT; rw [if_pos (by omega), if_neg (by omega), if_neg (by omega)])).trans (w13_0.symm.trans (ppl_out (m2 := x4.toInt.toNat - v13_6.toInt.toNat - 1) (by omega) (by omega)))
                      exact te_iret rfl rfl ⟨I13, f13, _, rfl, y12, e12, Or.inl ⟨by omega, y7, y11, e7, e11, (by rw [hP21]), (by rw [hP21]; exact v13_cnt)⟩⟩
                    · refine te_iload (p2 := 91) rfl rfl rfl ?_
                      refine te_aload_n (p2 := 92) rfl rfl rfl ?_
                      refine tg_r (p2 := 95) (i := 148) (r := 209) rfl rfl I13 rfl rfl rfl ?_
                      refine te_iload_n (p2 := 96) rfl rfl rfl ?_
                      refine tl_e (p2 := 97) (i := 193) (n := 4) (t := 0) (Or.inl rfl) rfl rfl I13 rfl rfl (by omega) (by omega) ((f13 _ _ rfl).trans e11) ?_
                      refine te_iconst (p2 := 98) (x := 4) rfl rfl (by decide) ?_
                      refine ar_sub (p2 := 99) rfl rfl rfl (show Int32.toInt 4 = 4 from rfl) (by omega) (by omega) (fun z23 e23 f23 => ?_)
                      refine tb_le (p2 := 102) rfl rfl rfl rfl (fun c24 => ?_) (fun c24 => ?_)
                      · refine te_bipush (p2 := 107) (x := 40) rfl rfl (by decide) ?_
                        refine te_iload_n (p2 := 108) rfl rfl rfl ?_
                        refine ar_mul (p2 := 109) rfl rfl (show Int32.toInt 40 = 40 from rfl) rfl (by omega) (by omega) (fun z25 e25 f25 => ?_)
                        refine te_iload (p2 := 111) rfl rfl rfl ?_
                        refine ar_add (p2 := 112) rfl rfl rfl rfl (by omega) (by omega) (fun z26 e26 f26 => ?_)
                        refine te_istore (p2 := 114) (lv2 := [(8, .int z26), (7, .int z17), (0, .ref 164), (1, .int x1), (2, .int x2), (3, .int x3), (4, .int x4), (5, .int v13_5), (6, .int v13_6)]) rfl rfl (by decide) rfl ?_
                        refine te_iload (p2 := 116) rfl rfl rfl ?_
                        refine te_aload_n (p2 := 117) rfl rfl rfl ?_
                        refine te_aload_n (p2 := 118) rfl rfl rfl ?_
                        refine tg_r (p2 := 121) (i := 148) (r := 210) rfl rfl I13 rfl rfl rfl ?_
                        refine te_iload (p2 := 123) rfl rfl rfl ?_
                        refine tl_i (p2 := 124) (i := 194) (n := 160) rfl rfl I13 rfl rfl rfl rfl (by omega) (by omega) (fun y27 a27 b27 g27 e27 => ?_)
                        refine te_aload_n (p2 := 125) rfl rfl rfl ?_
                        refine tg_r (p2 := 128) (i := 148) (r := 210) rfl rfl I13 rfl rfl rfl ?_
                        refine te_iload (p2 := 130) rfl rfl rfl ?_
                        refine te_iconst (p2 := 131) (x := 1) rfl rfl (by decide) ?_
                        refine ar_add (p2 := 132) rfl rfl rfl (show Int32.toInt 1 = 1 from rfl) (by omega) (by omega) (fun z28 e28 f28 => ?_)
                        refine tl_i (p2 := 133) (i := 194) (n := 160) rfl rfl I13 rfl rfl rfl rfl (by omega) (by omega) (fun y29 a29 b29 g29 e29 => ?_)
                        refine te_aload_n (p2 := 134) rfl rfl rfl ?_
                        refine tg_r (p2 := 137) (i := 148) (r := 210) rfl rfl I13 rfl rfl rfl ?_
                        refine te_iload (p2 := 139) rfl rfl rfl ?_
                        refine te_iconst (p2 := 140) (x := 2) rfl rfl (by decide) ?_
                        refine ar_add (p2 := 141) rfl rfl rfl (show Int32.toInt 2 = 2 from rfl) (by omega) (by omega) (fun z30 e30 f30 => ?_)
                        refine tl_i (p2 := 142) (i := 194) (n := 160) rfl rfl I13 rfl rfl rfl rfl (by omega) (by omega) (fun y31 a31 b31 g31 e31 => ?_)
                        refine te_aload_n (p2 := 143) rfl rfl rfl ?_
                        refine tg_r (p2 := 146) (i := 148) (r := 210) rfl rfl I13 rfl rfl rfl ?_
                        refine te_iload (p2 := 148) rfl rfl rfl ?_
                        refine te_iconst (p2 := 149) (x := 3) rfl rfl (by decide) ?_
                        refine ar_add (p2 := 150) rfl rfl rfl (show Int32.toInt 3 = 3 from rfl) (by omega) (by omega) (fun z32 e32 f32 => ?_)
                        refine tl_i (p2 := 151) (i := 194) (n := 160) rfl rfl I13 rfl rfl rfl rfl (by omega) (by omega) (fun y33 a33 b33 g33 e33 => ?_)
                        refine tc_V (p2 := 154) (i := 148) rfl rfl rfl rfl I13 rfl rfl rfl (c_X12_person (x1 := y27) (x2 := y29) (x3 := y31) (x4 := y33) I13 ) (by decide) (fun v34 h34 hq34 => ?_)
                        obtain ⟨I34, g34, y34, w34, p34, eo34, fy34, en34⟩ := hq34
                        subst w34
                        rw [int_inj eo34 v13_cnt] at fy34 en34
                        have f34 := fr_tr (F1 := F_X12_person) (F := F_X12_people) f13 g34 (by decide)
                        obtain ⟨_, eb34, yb34, wb34, ab34, bb34, _⟩ := I34.2.1 148 10 (.inl (0, 24, 9999999999)) rfl
                        subst wb34
                        have jb34 := int_inj eb34 en34
                        show EvP _ _ _ (154, [(8, .int z26), (7, .int z17), (0, .ref 164), (1, .int x1), (2, .int x2), (3, .int x3), (4, .int x4), (5, .int v13_5), (6, .int v13_6)], [.int y34, .int v13_5], h34) _
                        refine tz_lt (p2 := 157) rfl rfl rfl (fun c35 => ?_) (fun c35 => ?_)
                        · refine te_iconst (p2 := 162) (x := 0) rfl rfl (by decide) ?_
                          have n36_v13_5 := i32_lo v13_5
                          have o36_v13_5 := i32_hi v13_5
                          refine ar_add (p2 := 163) rfl rfl rfl (show Int32.toInt 0 = 0 from rfl) (by omega) (by omega) (fun z36 e36 f36 => ?_)
                          refine te_istore (p2 := 165) (lv2 := [(5, .int z36), (8, .int z26), (7, .int z17), (0, .ref 164), (1, .int x1), (2, .int x2), (3, .int x3), (4, .int x4), (6, .int v13_6)]) rfl rfl (by decide) rfl ?_
                          refine ar_inc (p2 := 168) (x := v13_6) rfl rfl (by decide) rfl (by decide) rfl (by omega) (by omega) (fun z37 e37 f37 => ?_)
                          show EvP _ _ _ (168, [(6, .int z37), (5, .int z36), (8, .int z26), (7, .int z17), (0, .ref 164), (1, .int x1), (2, .int x2), (3, .int x3), (4, .int x4)], [], h34) _
                          refine te_goto rfl ?_
                          refine te_lv [(0, .ref 164), (1, .int x1), (2, .int x2), (3, .int x3), (4, .int x4), (5, .int z36), (6, .int z37)] rfl rfl ⟨rfl, rfl, rfl, rfl, rfl, rfl, rfl, trivial⟩ ?_
                          exact ih13 z36 z37 yb34 h34 I34 f34 (by omega) (by omega) eb34 (by omega) (by omega) (by omega) ((ppl_step (by omega) (by omega) (by omega) (vl_of (by omega) (by rw [show 40 * x1.toInt.toNat + (x3.toInt.toNat + 4 * v13_6.toInt.toNat) = z26.toInt.toNat by omega]; exact (f13 _ _ rfl).symm.trans e27)) (vl_of (by omega) (by rw [show 40 * x1.toInt.toNat + (x3.toInt.toNat + 4 * v13_6.toInt.toNat + 1) = z28.toInt.toNat by omega]; exact (f13 _ _ rfl).symm.trans e29)) (vl_of (by omega) (by rw [show 40 * x1.toInt.toNat + (x3.toInt.toNat + 4 * v13_6.toInt.toNat + 2) = z30.toInt.toNat by omega]; exact (f13 _ _ rfl).symm.trans e31)) (vl_of (by omega) (by rw [show 40 * x1.toInt.toNat + (x3.toInt.toNat + 4 * v13_6.toInt.toNat + 3) = z32.toInt.toNat by omega]; exact (f13 _ _ rfl).symm.trans e33)) fy34 (fun h9 => absurd h9 (by omega)) (fun _ => e36.symm.trans (Int32.add_zero _)) jb34).trans w13_0) (by omega)
                        · refine te_iconst (p2 := 158) (x := 1) rfl rfl (by decide) ?_
                          refine te_goto rfl ?_
                          refine au_add (p2 := 163) rfl rfl (fun z38 e38 => ?_)
                          refine te_istore (p2 := 165) (lv2 := [(5, .int z38), (8, .int z26), (7, .int z17), (0, .ref 164), (1, .int x1), (2, .int x2), (3, .int x3), (4, .int x4), (6, .int v13_6)]) rfl rfl (by decide) rfl ?_
                          refine ar_inc (p2 := 168) (x := v13_6) rfl rfl (by decide) rfl (by decide) rfl (by omega) (by omega) (fun z39 e39 f39 => ?_)
                          show EvP _ _ _ (168, [(6, .int z39), (5, .int z38), (8, .int z26), (7, .int z17), (0, .ref 164), (1, .int x1), (2, .int x2), (3, .int x3), (4, .int x4)], [], h34) _
                          refine te_goto rfl ?_
                          refine te_lv [(0, .ref 164), (1, .int x1), (2, .int x2), (3, .int x3), (4, .int x4), (5, .int z38), (6, .int z39)] rfl rfl ⟨rfl, rfl, rfl, rfl, rfl, rfl, rfl, trivial⟩ ?_
                          exact ih13 z38 z39 yb34 h34 I34 f34 (by omega) (by omega) eb34 (by omega) (by omega) (by omega) ((ppl_step (by omega) (by omega) (by omega) (vl_of (by omega) (by rw [show 40 * x1.toInt.toNat + (x3.toInt.toNat + 4 * v13_6.toInt.toNat) = z26.toInt.toNat by omega]; exact (f13 _ _ rfl).symm.trans e27)) (vl_of (by omega) (by rw [show 40 * x1.toInt.toNat + (x3.toInt.toNat + 4 * v13_6.toInt.toNat + 1) = z28.toInt.toNat by omega]; exact (f13 _ _ rfl).symm.trans e29)) (vl_of (by omega) (by rw [show 40 * x1.toInt.toNat + (x3.toInt.toNat + 4 * v13_6.toInt.toNat + 2) = z30.toInt.toNat by omega]; exact (f13 _ _ rfl).symm.trans e31)) (vl_of (by omega) (by rw [show 40 * x1.toInt.toNat + (x3.toInt.toNat + 4 * v13_6.toInt.toNat + 3) = z32.toInt.toNat by omega]; exact (f13 _ _ rfl).symm.trans e33)) fy34 (fun _ => e38.symm) (fun h9 => absurd (by omega) h9) jb34).trans w13_0) (by omega)
                      · refine te_bipush (p2 := 104) (x := (-12)) rfl rfl (by decide) ?_
                        have hP40 : peT (vl h 194 (40 * x1.toInt.toNat)) x2 x3 x4 y7 y11 y12 = ((-12), t13_cnt) := (show peT (vl h 194 (40 * x1.toInt.toNat)) x2 x3 x4 y7 y11 y12 = ppl (vl h 194 (40 * x1.toInt.toNat)) x3.toInt y11.toInt x4.toInt.toNat 0 0 y12 from by (unfold peT; rw [if_pos (by omega), if_neg (by omega), if_neg (by omega)])).trans (w13_0.symm.trans (ppl_out (m2 := x4.toInt.toNat - v13_6.toInt.toNat - 1) (by omega) (by omega)))
                        exact te_iret rfl rfl ⟨I13, f13, _, rfl, y12, e12, Or.inl ⟨by omega, y7, y11, e7, e11, (by rw [hP40]), (by rw [hP40]; exact v13_cnt)⟩⟩
            refine te_lv [(0, .ref 164), (1, .int x1), (2, .int x2), (3, .int x3), (4, .int x4), (5, .int 0), (6, .int 0)] rfl rfl ⟨rfl, rfl, rfl, rfl, rfl, rfl, rfl, trivial⟩ ?_
            exact lp13 12 0 0 y12 h hI f0 (by decide) (by decide) e12 (by omega) (by omega) (by have cc0 := (show Int32.toInt 0 = 0 from rfl); omega) rfl (by have cc0 := (show Int32.toInt 0 = 0 from rfl); omega)
          · refine te_bipush (p2 := 57) (x := (-13)) rfl rfl (by decide) ?_
            obtain ⟨v41, e41, y41, w41, a41, b41, _⟩ := hI.2.1 148 10 (.inl (0, 24, 9999999999)) rfl
            subst w41
            obtain ⟨v42, e42, y42, w42, a42, b42, _⟩ := hI.2.1 193 x1.toInt.toNat (.inl (0, 40, 9999999999)) (tq_row rfl (by omega))
            subst w42
            have hP43 : peT (vl h 194 (40 * x1.toInt.toNat)) x2 x3 x4 y7 y42 y41 = ((-13), y41) := by (unfold peT; (repeat' split) <;> first | (exfalso; omega) | rfl)
            exact te_iret rfl rfl ⟨hI, f0, _, rfl, y41, e41, Or.inl ⟨by omega, y7, y42, e7, e42, (by rw [hP43]), (by rw [hP43]; exact e41)⟩⟩
        · refine te_bipush (p2 := 44) (x := (-11)) rfl rfl (by decide) ?_
          obtain ⟨v44, e44, y44, w44, a44, b44, _⟩ := hI.2.1 148 10 (.inl (0, 24, 9999999999)) rfl
          subst w44
          obtain ⟨v45, e45, y45, w45, a45, b45, _⟩ := hI.2.1 193 x1.toInt.toNat (.inl (0, 40, 9999999999)) (tq_row rfl (by omega))
          subst w45
          have hP46 : peT (vl h 194 (40 * x1.toInt.toNat)) x2 x3 x4 y7 y45 y44 = ((-11), y44) := by (unfold peT; (repeat' split) <;> first | (exfalso; omega) | rfl)
          exact te_iret rfl rfl ⟨hI, f0, _, rfl, y44, e44, Or.inl ⟨by omega, y7, y45, e7, e45, (by rw [hP46]), (by rw [hP46]; exact e44)⟩⟩
      · subst w5
        have cc5_1 := (show Int32.toInt 0 = 0 from rfl)
        have cc5_2 := (show Int32.toInt 10 = 10 from rfl)
        refine tz_ne (p2 := 29) rfl rfl (show Int32.toInt 0 = 0 from rfl) (fun c47 => absurd c47 (by omega)) (fun c47 => ?_)
        refine te_bipush (p2 := 31) (x := (-2)) rfl rfl (by decide) ?_
        obtain ⟨v48, e48, y48, w48, a48, b48, _⟩ := hI.2.1 148 10 (.inl (0, 24, 9999999999)) rfl
        subst w48
        have hB49 : (0 ≤ x1.toInt ∧ x1.toInt ≤ 3) → ∃ q z : Int32, rd h 192 x1.toInt.toNat = some (.int q) ∧ rd h 193 x1.toInt.toNat = some (.int z) := fun hc => by (obtain ⟨_, e1, k1, w1, _⟩ := hI.2.1 192 x1.toInt.toNat (.inl ((-1), 2, 9999999999)) (tq_row rfl (by omega)); obtain ⟨_, e2, k2, w2, _⟩ := hI.2.1 193 x1.toInt.toNat (.inl (0, 40, 9999999999)) (tq_row rfl (by omega)); subst w1; subst w2; exact ⟨k1, k2, e1, e2⟩)
        exact te_iret rfl rfl ⟨hI, f0, _, rfl, y48, e48, (by (by_cases hc : (0 ≤ x1.toInt ∧ x1.toInt ≤ 3)); (· (obtain ⟨q, z, e1, e2⟩ := hB49 hc); exact Or.inl ⟨hc, q, z, e1, e2, (by unfold peT; rw [if_neg (by omega)]), (by unfold peT; rw [if_neg (by omega)]; exact e48)⟩); (· exact Or.inr ⟨hc, rfl, e48⟩))⟩
    · subst w3
      have cc3_1 := (show Int32.toInt 0 = 0 from rfl)
      have cc3_2 := (show Int32.toInt 2 = 2 from rfl)
      refine tz_eq (p2 := 18) rfl rfl (show Int32.toInt 0 = 0 from rfl) (fun c50 => ?_) (fun c50 => absurd c50 (by omega))
      refine te_bipush (p2 := 31) (x := (-2)) rfl rfl (by decide) ?_
      obtain ⟨v51, e51, y51, w51, a51, b51, _⟩ := hI.2.1 148 10 (.inl (0, 24, 9999999999)) rfl
      subst w51
      have hB52 : (0 ≤ x1.toInt ∧ x1.toInt ≤ 3) → ∃ q z : Int32, rd h 192 x1.toInt.toNat = some (.int q) ∧ rd h 193 x1.toInt.toNat = some (.int z) := fun hc => by (obtain ⟨_, e1, k1, w1, _⟩ := hI.2.1 192 x1.toInt.toNat (.inl ((-1), 2, 9999999999)) (tq_row rfl (by omega)); obtain ⟨_, e2, k2, w2, _⟩ := hI.2.1 193 x1.toInt.toNat (.inl (0, 40, 9999999999)) (tq_row rfl (by omega)); subst w1; subst w2; exact ⟨k1, k2, e1, e2⟩)
      exact te_iret rfl rfl ⟨hI, f0, _, rfl, y51, e51, (by (by_cases hc : (0 ≤ x1.toInt ∧ x1.toInt ≤ 3)); (· (obtain ⟨q, z, e1, e2⟩ := hB52 hc); exact Or.inl ⟨hc, q, z, e1, e2, (by unfold peT; rw [if_neg (by omega)]), (by unfold peT; rw [if_neg (by omega)]; exact e51)⟩); (· exact Or.inr ⟨hc, rfl, e51⟩))⟩
  · subst w1
    have cc1_1 := (show Int32.toInt 0 = 0 from rfl)
    have cc1_2 := (show Int32.toInt 3 = 3 from rfl)
    refine tz_eq (p2 := 9) rfl rfl (show Int32.toInt 0 = 0 from rfl) (fun c53 => ?_) (fun c53 => absurd c53 (by omega))
    refine te_bipush (p2 := 31) (x := (-2)) rfl rfl (by decide) ?_
    obtain ⟨v54, e54, y54, w54, a54, b54, _⟩ := hI.2.1 148 10 (.inl (0, 24, 9999999999)) rfl
    subst w54
    have hB55 : (0 ≤ x1.toInt ∧ x1.toInt ≤ 3) → ∃ q z : Int32, rd h 192 x1.toInt.toNat = some (.int q) ∧ rd h 193 x1.toInt.toNat = some (.int z) := fun hc => by (obtain ⟨_, e1, k1, w1, _⟩ := hI.2.1 192 x1.toInt.toNat (.inl ((-1), 2, 9999999999)) (tq_row rfl (by omega)); obtain ⟨_, e2, k2, w2, _⟩ := hI.2.1 193 x1.toInt.toNat (.inl (0, 40, 9999999999)) (tq_row rfl (by omega)); subst w1; subst w2; exact ⟨k1, k2, e1, e2⟩)
    exact te_iret rfl rfl ⟨hI, f0, _, rfl, y54, e54, (by (by_cases hc : (0 ≤ x1.toInt ∧ x1.toInt ≤ 3)); (· (obtain ⟨q, z, e1, e2⟩ := hB55 hc); exact Or.inl ⟨hc, q, z, e1, e2, (by unfold peT; rw [if_neg (by omega)]), (by unfold peT; rw [if_neg (by omega)]; exact e54)⟩); (· exact Or.inr ⟨hc, rfl, e54⟩))⟩
set_option maxRecDepth 20000 in
set_option maxHeartbeats 4000000 in
theorem c_X0_playDay {s : Nat} {h : im_H} (hI : tI h) (q_s : s = 23 ∨ s = 37 ∨ s = 51) : CaP 6 7 [.ref 17, .ref (16 + s)] h (fun v h2 => tI h2 ∧ fr (F_X0_playDay s) h h2 ∧ v = none ∧ ∃ d : Int32, rd h s 0 = some (.int d) ∧ rd h2 s 0 = some (.int (d + 1))) := by
  refine cap_of (d := 5) (M := mX0_playDay) rfl (Nat.le_of_ble_eq_true rfl) ?_
  show EvP im_K0 5 mX0_playDay (0, [(0, .ref 17), (1, .ref (16 + s))], [], h) _
  have f0 : fr (F_X0_playDay s) h h := fr_rf
  refine te_iconst (p2 := 1) (x := 0) rfl rfl (by decide) ?_
  refine te_istore_n (p2 := 2) (lv2 := [(2, .int 0), (0, .ref 17), (1, .ref (16 + s))]) rfl rfl (by decide) rfl ?_
  obtain ⟨v2, e2, y2, w2, a2, b2, _⟩ := hI.2.1 s 0 (.inl ((-2147483648), 2147483647, 9999999999)) (by rcases q_s with rfl | rfl | rfl <;> rfl)
  subst w2
  have lp1 : ∀ (n1 : Nat) (v1_2 t1_dd : Int32) (h1 : im_H), tI h1 → fr (F_X0_playDay s) h h1 → 0 ≤ v1_2.toInt → v1_2.toInt ≤ 4 → rd h1 s 0 = some (.int t1_dd) → t1_dd.toInt = y2.toInt → 4 - v1_2.toInt < (n1 : Int) → EvP im_K0 5 mX0_playDay (2, [(0, .ref 17), (1, .ref (16 + s)), (2, .int v1_2)], [], h1) (fun v h2 => tI h2 ∧ fr (F_X0_playDay s) h h2 ∧ v = none ∧ ∃ d : Int32, rd h s 0 = some (.int d) ∧ rd h2 s 0 = some (.int (d + 1))) := by
    intro n1
    induction n1 with
    | zero => intro v1_2 t1_dd h1 I1 f1 a1_2 b1_2 v1_dd l1_0 m1; exfalso; omega
    | succ n1 ih1 =>
      intro v1_2 t1_dd h1 I1 f1 a1_2 b1_2 v1_dd l1_0 m1
      refine te_iload_n (p2 := 3) rfl rfl rfl ?_
      refine te_iconst (p2 := 4) (x := 4) rfl rfl (by decide) ?_
      refine tb_ge (p2 := 7) rfl rfl rfl (show Int32.toInt 4 = 4 from rfl) (fun c3 => ?_) (fun c3 => ?_)
      · refine te_iconst (p2 := 20) (x := 0) rfl rfl (by decide) ?_
        refine te_istore_n (p2 := 21) (lv2 := [(2, .int 0), (0, .ref 17), (1, .ref (16 + s))]) rfl rfl (by decide) rfl ?_
        have lp4 : ∀ (n4 : Nat) (v4_2 t4_dd : Int32) (h4 : im_H), tI h4 → fr (F_X0_playDay s) h h4 → 0 ≤ v4_2.toInt → v4_2.toInt ≤ 3 → rd h4 s 0 = some (.int t4_dd) → t4_dd.toInt = y2.toInt → 3 - v4_2.toInt < (n4 : Int) → EvP im_K0 5 mX0_playDay (21, [(0, .ref 17), (1, .ref (16 + s)), (2, .int v4_2)], [], h4) (fun v h2 => tI h2 ∧ fr (F_X0_playDay s) h h2 ∧ v = none ∧ ∃ d : Int32, rd h s 0 = some (.int d) ∧ rd h2 s 0 = some (.int (d + 1))) := by
          intro n4
          induction n4 with
          | zero => intro v4_2 t4_dd h4 I4 f4 a4_2 b4_2 v4_dd l4_0 m4; exfalso; omega
          | succ n4 ih4 =>
            intro v4_2 t4_dd h4 I4 f4 a4_2 b4_2 v4_dd l4_0 m4
            refine te_iload_n (p2 := 22) rfl rfl rfl ?_
            refine te_iconst (p2 := 23) (x := 3) rfl rfl (by decide) ?_
            refine tb_ge (p2 := 26) rfl rfl rfl (show Int32.toInt 3 = 3 from rfl) (fun c5 => ?_) (fun c5 => ?_)
            · refine te_iconst (p2 := 39) (x := 0) rfl rfl (by decide) ?_
              refine te_istore_n (p2 := 40) (lv2 := [(2, .int 0), (0, .ref 17), (1, .ref (16 + s))]) rfl rfl (by decide) rfl ?_
              have lp6 : ∀ (n6 : Nat) (v6_2 t6_dd : Int32) (h6 : im_H), tI h6 → fr (F_X0_playDay s) h h6 → 0 ≤ v6_2.toInt → v6_2.toInt ≤ 16 → rd h6 s 0 = some (.int t6_dd) → t6_dd.toInt = y2.toInt → 16 - v6_2.toInt < (n6 : Int) → EvP im_K0 5 mX0_playDay (40, [(0, .ref 17), (1, .ref (16 + s)), (2, .int v6_2)], [], h6) (fun v h2 => tI h2 ∧ fr (F_X0_playDay s) h h2 ∧ v = none ∧ ∃ d : Int32, rd h s 0 = some (.int d) ∧ rd h2 s 0 = some (.int (d + 1))) := by
                intro n6
                induction n6 with
                | zero => intro v6_2 t6_dd h6 I6 f6 a6_2 b6_2 v6_dd l6_0 m6; exfalso; omega
                | succ n6 ih6 =>
                  intro v6_2 t6_dd h6 I6 f6 a6_2 b6_2 v6_dd l6_0 m6
                  refine te_iload_n (p2 := 41) rfl rfl rfl ?_
                  refine te_aload_n (p2 := 42) rfl rfl rfl ?_
                  refine tg_i (p2 := 45) (i := 1) rfl rfl I6 rfl rfl rfl (fun y7 a7 b7 e7 => ?_)
                  refine tb_ge (p2 := 48) rfl rfl rfl rfl (fun c8 => ?_) (fun c8 => ?_)
                  · refine te_iconst (p2 := 80) (x := 0) rfl rfl (by decide) ?_
                    refine te_istore_n (p2 := 81) (lv2 := [(2, .int 0), (0, .ref 17), (1, .ref (16 + s))]) rfl rfl (by decide) rfl ?_
                    have lp9 : ∀ (n9 : Nat) (v9_2 t9_dd : Int32) (h9 : im_H), tI h9 → fr (F_X0_playDay s) h h9 → 0 ≤ v9_2.toInt → v9_2.toInt ≤ 24 → rd h9 s 0 = some (.int t9_dd) → t9_dd.toInt = y2.toInt → 24 - v9_2.toInt < (n9 : Int) → EvP im_K0 5 mX0_playDay (81, [(0, .ref 17), (1, .ref (16 + s)), (2, .int v9_2)], [], h9) (fun v h2 => tI h2 ∧ fr (F_X0_playDay s) h h2 ∧ v = none ∧ ∃ d : Int32, rd h s 0 = some (.int d) ∧ rd h2 s 0 = some (.int (d + 1))) := by
                      intro n9
                      induction n9 with
                      | zero => intro v9_2 t9_dd h9 I9 f9 a9_2 b9_2 v9_dd l9_0 m9; exfalso; omega
                      | succ n9 ih9 =>
                        intro v9_2 t9_dd h9 I9 f9 a9_2 b9_2 v9_dd l9_0 m9
                        refine te_iload_n (p2 := 82) rfl rfl rfl ?_
                        refine te_aload_n (p2 := 83) rfl rfl rfl ?_
                        refine tg_i (p2 := 86) (i := 1) rfl rfl I9 rfl rfl rfl (fun y10 a10 b10 e10 => ?_)
                        refine tb_ge (p2 := 89) rfl rfl rfl rfl (fun c11 => ?_) (fun c11 => ?_)
                        · refine te_aload_n (p2 := 126) rfl rfl rfl ?_
                          refine tg_e (p2 := 129) (i := s) (v := .int t9_dd) rfl rfl I9 rfl (by rcases q_s with rfl | rfl | rfl <;> rfl) v9_dd ?_
                          refine te_bipush (p2 := 131) (x := 7) rfl rfl (by decide) ?_
                          refine au_rem (p2 := 132) rfl rfl (show Int32.toInt 7 = 7 from rfl) (by decide) (fun z12 e12 => ?_)
                          refine te_bipush (p2 := 134) (x := 6) rfl rfl (by decide) ?_
                          refine tb_ne (p2 := 137) rfl rfl rfl (show Int32.toInt 6 = 6 from rfl) (fun c13 => ?_) (fun c13 => ?_)
                          · refine te_aload_n (p2 := 143) rfl rfl rfl ?_
                            refine te_dup (p2 := 144) rfl rfl rfl ?_
                            refine tg_e (p2 := 147) (i := s) (v := .int t9_dd) rfl rfl I9 rfl (by rcases q_s with rfl | rfl | rfl <;> rfl) v9_dd ?_
                            refine te_iconst (p2 := 148) (x := 1) rfl rfl (by decide) ?_
                            refine au_add (p2 := 149) rfl rfl (fun z14 e14 => ?_)
                            refine tp_i (p2 := 152) (i := s) rfl rfl I9 rfl (by rcases q_s with rfl | rfl | rfl <;> rfl) (by decide) rfl rfl (by rcases q_s with rfl | rfl | rfl <;> rfl) (i32_lo _) (i32_hi _) (i32_ho _) (by rcases q_s with rfl | rfl | rfl <;> rfl) (fun h15 I15 u15 => ?_)
                            have f15 := fr_st (F := (F_X0_playDay s)) 12 f9 u15 rfl (by decide) (by decide)
                            exact te_vret rfl rfl ⟨I15, f15, rfl, y2, e2, u15.1.trans (congrArg (fun t => some (Value.int t)) (show z14 = y2 + 1 from by (rw [← (i32_ext (by omega) : t9_dd = y2)]; exact e14.symm)))⟩
                          · refine te_aload_n (p2 := 138) rfl rfl rfl ?_
                            refine te_aload_n (p2 := 139) rfl rfl rfl ?_
                            refine cV_mV (p2 := 142) (i := 1) rfl rfl rfl rfl I9 rfl rfl rfl (t_X0_heal (s := s) I9 q_s) (by decide) (fun h16 I16 g16 => ?_)
                            have f16 := fr_tr (F1 := (F_X0_heal s)) (F := (F_X0_playDay s)) f9 g16 (by rcases q_s with rfl | rfl | rfl <;> decide)
                            refine te_aload_n (p2 := 143) rfl rfl rfl ?_
                            refine te_dup (p2 := 144) rfl rfl rfl ?_
                            refine tg_e (p2 := 147) (i := s) (v := .int t9_dd) rfl rfl I16 rfl (by rcases q_s with rfl | rfl | rfl <;> rfl) ((g16 _ _ (by rcases q_s with rfl | rfl | rfl <;> rfl)).trans v9_dd) ?_
                            refine te_iconst (p2 := 148) (x := 1) rfl rfl (by decide) ?_
                            refine au_add (p2 := 149) rfl rfl (fun z17 e17 => ?_)
                            refine tp_i (p2 := 152) (i := s) rfl rfl I16 rfl (by rcases q_s with rfl | rfl | rfl <;> rfl) (by decide) rfl rfl (by rcases q_s with rfl | rfl | rfl <;> rfl) (i32_lo _) (i32_hi _) (i32_ho _) (by rcases q_s with rfl | rfl | rfl <;> rfl) (fun h18 I18 u18 => ?_)
                            have f18 := fr_st (F := (F_X0_playDay s)) 12 f16 u18 rfl (by decide) (by decide)
                            exact te_vret rfl rfl ⟨I18, f18, rfl, y2, e2, u18.1.trans (congrArg (fun t => some (Value.int t)) (show z17 = y2 + 1 from by (rw [← (i32_ext (by omega) : t9_dd = y2)]; exact e17.symm)))⟩
                        · refine te_aload_n (p2 := 90) rfl rfl rfl ?_
                          refine tg_r (p2 := 93) (i := s) (r := (16 + (s + 7))) rfl rfl I9 rfl (by rcases q_s with rfl | rfl | rfl <;> rfl) (by rcases q_s with rfl | rfl | rfl <;> rfl) ?_
                          refine te_iload_n (p2 := 94) rfl rfl rfl ?_
                          refine tl_b (p2 := 95) (i := (s + 7)) (n := 24) rfl rfl I9 rfl (by rcases q_s with rfl | rfl | rfl <;> rfl) (by rcases q_s with rfl | rfl | rfl <;> rfl) rfl (by omega) (by omega) (fun y19 a19 e19 => ?_)
                          refine tz_ne (p2 := 98) rfl rfl rfl (fun c20 => ?_) (fun c20 => ?_)
                          · refine ar_inc (p2 := 122) (x := v9_2) rfl rfl (by decide) rfl (by decide) rfl (by omega) (by omega) (fun z21 e21 f21 => ?_)
                            show EvP _ _ _ (122, [(2, .int z21), (0, .ref 17), (1, .ref (16 + s))], [], h9) _
                            refine te_goto rfl ?_
                            refine te_lv [(0, .ref 17), (1, .ref (16 + s)), (2, .int z21)] rfl rfl ⟨rfl, rfl, rfl, trivial⟩ ?_
                            exact ih9 z21 t9_dd h9 I9 f9 (by omega) (by omega) v9_dd (by omega) (by omega)
                          · refine te_aload_n (p2 := 99) rfl rfl rfl ?_
                            refine tg_r (p2 := 102) (i := s) (r := (16 + (s + 6))) rfl rfl I9 rfl (by rcases q_s with rfl | rfl | rfl <;> rfl) (by rcases q_s with rfl | rfl | rfl <;> rfl) ?_
                            refine te_iload_n (p2 := 103) rfl rfl rfl ?_
                            refine te_dup2 (p2 := 104) rfl rfl ⟨rfl, rfl⟩ ?_
                            refine tl_i (p2 := 105) (i := (s + 6)) (n := 24) rfl rfl I9 rfl (by rcases q_s with rfl | rfl | rfl <;> rfl) (by rcases q_s with rfl | rfl | rfl <;> rfl) rfl (by omega) (by omega) (fun y22 a22 b22 g22 e22 => ?_)
                            refine te_aload_n (p2 := 106) rfl rfl rfl ?_
                            refine te_aload_n (p2 := 107) rfl rfl rfl ?_
                            refine te_iload_n (p2 := 108) rfl rfl rfl ?_
                            refine te_iconst (p2 := 109) (x := 1) rfl rfl (by decide) ?_
                            refine cV_mI (p2 := 112) (i := 1) rfl rfl rfl rfl I9 rfl rfl rfl (t_X0_said (s := s) (p := v9_2) (key := 1) I9 q_s (by omega) (by omega)) (by decide) (fun y23 h23 I23 g23 r23 => ?_)
                            have f23 := fr_tr (F1 := F_X0_said) (F := (F_X0_playDay s)) f9 g23 (by rcases q_s with rfl | rfl | rfl <;> decide)
                            refine te_bipush (p2 := 114) (x := 9) rfl rfl (by decide) ?_
                            refine ar_min (p2 := 117) rfl rfl rfl rfl (show Int32.toInt 9 = 9 from rfl) (fun z24 e24 f24 => ?_)
                            refine au_add (p2 := 118) rfl rfl (fun z25 e25 => ?_)
                            refine ts_i (p2 := 119) (i := (s + 6)) (n := 24) rfl rfl I23 rfl (by rcases q_s with rfl | rfl | rfl <;> rfl) (by rcases q_s with rfl | rfl | rfl <;> rfl) rfl (by omega) (by omega) (i32_lo _) (i32_hi _) (i32_ho _) (by rcases q_s with rfl | rfl | rfl <;> rfl) (fun h26 I26 u26 => ?_)
                            have f26 := fr_st (F := (F_X0_playDay s)) 7 f23 u26 rfl (by omega) (by omega)
                            refine ar_inc (p2 := 122) (x := v9_2) rfl rfl (by decide) rfl (by decide) rfl (by omega) (by omega) (fun z27 e27 f27 => ?_)
                            show EvP _ _ _ (122, [(2, .int z27), (0, .ref 17), (1, .ref (16 + s))], [], h26) _
                            refine te_goto rfl ?_
                            refine te_lv [(0, .ref 17), (1, .ref (16 + s)), (2, .int z27)] rfl rfl ⟨rfl, rfl, rfl, trivial⟩ ?_
                            exact ih9 z27 t9_dd h26 I26 f26 (by omega) (by omega) ((u26.2 _ _ (Or.inl (by omega))).trans ((g23 _ _ (by rcases q_s with rfl | rfl | rfl <;> rfl)).trans v9_dd)) (by omega) (by omega)
                    refine te_lv [(0, .ref 17), (1, .ref (16 + s)), (2, .int 0)] rfl rfl ⟨rfl, rfl, rfl, trivial⟩ ?_
                    exact lp9 25 0 t6_dd h6 I6 f6 (by decide) (by decide) v6_dd (by have cc0 := (show Int32.toInt 0 = 0 from rfl); omega) (by have cc0 := (show Int32.toInt 0 = 0 from rfl); omega)
                  · refine te_aload_n (p2 := 49) rfl rfl rfl ?_
                    refine tg_r (p2 := 52) (i := s) (r := (16 + (s + 9))) rfl rfl I6 rfl (by rcases q_s with rfl | rfl | rfl <;> rfl) (by rcases q_s with rfl | rfl | rfl <;> rfl) ?_
                    refine te_iload_n (p2 := 53) rfl rfl rfl ?_
                    refine tl_b (p2 := 54) (i := (s + 9)) (n := 16) rfl rfl I6 rfl (by rcases q_s with rfl | rfl | rfl <;> rfl) (by rcases q_s with rfl | rfl | rfl <;> rfl) rfl (by omega) (by omega) (fun y28 a28 e28 => ?_)
                    refine tz_eq (p2 := 57) rfl rfl rfl (fun c29 => ?_) (fun c29 => ?_)
                    · refine ar_inc (p2 := 76) (x := v6_2) rfl rfl (by decide) rfl (by decide) rfl (by omega) (by omega) (fun z30 e30 f30 => ?_)
                      show EvP _ _ _ (76, [(2, .int z30), (0, .ref 17), (1, .ref (16 + s))], [], h6) _
                      refine te_goto rfl ?_
                      refine te_lv [(0, .ref 17), (1, .ref (16 + s)), (2, .int z30)] rfl rfl ⟨rfl, rfl, rfl, trivial⟩ ?_
                      exact ih6 z30 t6_dd h6 I6 f6 (by omega) (by omega) v6_dd (by omega) (by omega)
                    · refine te_aload_n (p2 := 58) rfl rfl rfl ?_
                      refine te_aload_n (p2 := 59) rfl rfl rfl ?_
                      refine te_iload_n (p2 := 60) rfl rfl rfl ?_
                      refine cV_mI (p2 := 63) (i := 1) rfl rfl rfl rfl I6 rfl rfl rfl (t_X0_wearsOut (s := s) (k := v6_2) I6 q_s (by omega) (by omega)) (by decide) (fun y31 h31 I31 g31 r31 => ?_)
                      have f31 := fr_tr (F1 := (F_X0_wearsOut s)) (F := (F_X0_playDay s)) f6 g31 (by rcases q_s with rfl | rfl | rfl <;> decide)
                      obtain ⟨a31, b31⟩ := r31
                      refine tz_eq (p2 := 66) rfl rfl rfl (fun c32 => ?_) (fun c32 => ?_)
                      · refine ar_inc (p2 := 76) (x := v6_2) rfl rfl (by decide) rfl (by decide) rfl (by omega) (by omega) (fun z33 e33 f33 => ?_)
                        show EvP _ _ _ (76, [(2, .int z33), (0, .ref 17), (1, .ref (16 + s))], [], h31) _
                        refine te_goto rfl ?_
                        refine te_lv [(0, .ref 17), (1, .ref (16 + s)), (2, .int z33)] rfl rfl ⟨rfl, rfl, rfl, trivial⟩ ?_
                        exact ih6 z33 t6_dd h31 I31 f31 (by omega) (by omega) ((g31 _ _ (by rcases q_s with rfl | rfl | rfl <;> rfl)).trans v6_dd) (by omega) (by omega)
                      · refine te_aload_n (p2 := 67) rfl rfl rfl ?_
                        refine te_aload_n (p2 := 68) rfl rfl rfl ?_
                        refine te_iload_n (p2 := 69) rfl rfl rfl ?_
                        refine cV_mI (p2 := 72) (i := 1) rfl rfl rfl rfl I31 rfl rfl rfl (t_X0_fall (s := s) (k := v6_2) I31 q_s (by omega) (by omega)) (by decide) (fun y34 h34 I34 g34 r34 => ?_)
                        have f34 := fr_tr (F1 := (F_X0_fall s)) (F := (F_X0_playDay s)) f31 g34 (by rcases q_s with rfl | rfl | rfl <;> decide)
                        refine te_pop (p2 := 73) rfl rfl rfl ?_
                        refine ar_inc (p2 := 76) (x := v6_2) rfl rfl (by decide) rfl (by decide) rfl (by omega) (by omega) (fun z35 e35 f35 => ?_)
                        show EvP _ _ _ (76, [(2, .int z35), (0, .ref 17), (1, .ref (16 + s))], [], h34) _
                        refine te_goto rfl ?_
                        refine te_lv [(0, .ref 17), (1, .ref (16 + s)), (2, .int z35)] rfl rfl ⟨rfl, rfl, rfl, trivial⟩ ?_
                        exact ih6 z35 t6_dd h34 I34 f34 (by omega) (by omega) ((g34 _ _ (by rcases q_s with rfl | rfl | rfl <;> rfl)).trans ((g31 _ _ (by rcases q_s with rfl | rfl | rfl <;> rfl)).trans v6_dd)) (by omega) (by omega)
              refine te_lv [(0, .ref 17), (1, .ref (16 + s)), (2, .int 0)] rfl rfl ⟨rfl, rfl, rfl, trivial⟩ ?_
              exact lp6 17 0 t4_dd h4 I4 f4 (by decide) (by decide) v4_dd (by have cc0 := (show Int32.toInt 0 = 0 from rfl); omega) (by have cc0 := (show Int32.toInt 0 = 0 from rfl); omega)
            · refine te_aload_n (p2 := 27) rfl rfl rfl ?_
              refine te_aload_n (p2 := 28) rfl rfl rfl ?_
              refine te_iload_n (p2 := 29) rfl rfl rfl ?_
              refine cV_mV (p2 := 32) (i := 1) rfl rfl rfl rfl I4 rfl rfl rfl (t_X0_driveRail (s := s) (rr := v4_2) I4 q_s (by omega) (by omega)) (by decide) (fun h36 I36 g36 => ?_)
              have f36 := fr_tr (F1 := (F_X0_driveRail s)) (F := (F_X0_playDay s)) f4 g36 (by rcases q_s with rfl | rfl | rfl <;> decide)
              refine ar_inc (p2 := 35) (x := v4_2) rfl rfl (by decide) rfl (by decide) rfl (by omega) (by omega) (fun z37 e37 f37 => ?_)
              show EvP _ _ _ (35, [(2, .int z37), (0, .ref 17), (1, .ref (16 + s))], [], h36) _
              refine te_goto rfl ?_
              refine te_lv [(0, .ref 17), (1, .ref (16 + s)), (2, .int z37)] rfl rfl ⟨rfl, rfl, rfl, trivial⟩ ?_
              exact ih4 z37 t4_dd h36 I36 f36 (by omega) (by omega) ((g36 _ _ (by rcases q_s with rfl | rfl | rfl <;> rfl)).trans v4_dd) (by omega) (by omega)
        refine te_lv [(0, .ref 17), (1, .ref (16 + s)), (2, .int 0)] rfl rfl ⟨rfl, rfl, rfl, trivial⟩ ?_
        exact lp4 4 0 t1_dd h1 I1 f1 (by decide) (by decide) v1_dd (by have cc0 := (show Int32.toInt 0 = 0 from rfl); omega) (by have cc0 := (show Int32.toInt 0 = 0 from rfl); omega)
      · refine te_aload_n (p2 := 8) rfl rfl rfl ?_
        refine te_aload_n (p2 := 9) rfl rfl rfl ?_
        refine te_iload_n (p2 := 10) rfl rfl rfl ?_
        refine cV_mV (p2 := 13) (i := 1) rfl rfl rfl rfl I1 rfl rfl rfl (t_X0_workRow (s := s) (rr := v1_2) I1 q_s (by omega) (by omega)) (by decide) (fun h38 I38 g38 => ?_)
        have f38 := fr_tr (F1 := (F_X0_workRow s)) (F := (F_X0_playDay s)) f1 g38 (by rcases q_s with rfl | rfl | rfl <;> decide)
        refine ar_inc (p2 := 16) (x := v1_2) rfl rfl (by decide) rfl (by decide) rfl (by omega) (by omega) (fun z39 e39 f39 => ?_)
        show EvP _ _ _ (16, [(2, .int z39), (0, .ref 17), (1, .ref (16 + s))], [], h38) _
        refine te_goto rfl ?_
        refine te_lv [(0, .ref 17), (1, .ref (16 + s)), (2, .int z39)] rfl rfl ⟨rfl, rfl, rfl, trivial⟩ ?_
        exact ih1 z39 t1_dd h38 I38 f38 (by omega) (by omega) ((g38 _ _ (by rcases q_s with rfl | rfl | rfl <;> rfl)).trans v1_dd) (by omega) (by omega)
  refine te_lv [(0, .ref 17), (1, .ref (16 + s)), (2, .int 0)] rfl rfl ⟨rfl, rfl, rfl, trivial⟩ ?_
  exact lp1 5 0 y2 h hI f0 (by decide) (by decide) e2 (by have cc0 := (show Int32.toInt 0 = 0 from rfl); omega) (by have cc0 := (show Int32.toInt 0 = 0 from rfl); omega)
set_option maxRecDepth 20000 in
set_option maxHeartbeats 4000000 in
theorem c_X12_goes  {h : im_H} (hI : tI h)  : CaP 8 154 [.ref 164] h (fun v h2 => tI h2 ∧ fr F_X12_goes h h2 ∧ v = none ∧ ∃ d : Int32, rd h 149 (Int32.toInt 105).toNat = some (.int d) ∧ rd h2 149 (Int32.toInt 105).toNat = some (.int (d + 1))) := by
  refine cap_of (d := 7) (M := mX12_goes) rfl (Nat.le_of_ble_eq_true rfl) ?_
  show EvP im_K0 7 mX12_goes (0, [(0, .ref 164)], [], h) _
  have f0 : fr F_X12_goes h h := fr_rf
  refine te_iconst (p2 := 1) (x := 0) rfl rfl (by decide) ?_
  refine te_istore_n (p2 := 2) (lv2 := [(1, .int 0), (0, .ref 164)]) rfl rfl (by decide) rfl ?_
  obtain ⟨v2, e2, y2, w2, a2, b2, _⟩ := hI.2.1 149 (Int32.toInt 105).toNat (.inl ((-2147483648), 2147483647, 9999999999)) (tq_row rfl (by decide))
  subst w2
  have lp1 : ∀ (n1 : Nat) (v1_1 t1_dd : Int32) (h1 : im_H), tI h1 → fr F_X12_goes h h1 → 0 ≤ v1_1.toInt → v1_1.toInt ≤ 4 → rd h1 149 (Int32.toInt 105).toNat = some (.int t1_dd) → t1_dd.toInt = y2.toInt → 4 - v1_1.toInt < (n1 : Int) → EvP im_K0 7 mX12_goes (2, [(0, .ref 164), (1, .int v1_1)], [], h1) (fun v h2 => tI h2 ∧ fr F_X12_goes h h2 ∧ v = none ∧ ∃ d : Int32, rd h 149 (Int32.toInt 105).toNat = some (.int d) ∧ rd h2 149 (Int32.toInt 105).toNat = some (.int (d + 1))) := by
    intro n1
    induction n1 with
    | zero => intro v1_1 t1_dd h1 I1 f1 a1_1 b1_1 v1_dd l1_0 m1; exfalso; omega
    | succ n1 ih1 =>
      intro v1_1 t1_dd h1 I1 f1 a1_1 b1_1 v1_dd l1_0 m1
      refine te_iload_n (p2 := 3) rfl rfl rfl ?_
      refine te_iconst (p2 := 4) (x := 4) rfl rfl (by decide) ?_
      refine tb_ge (p2 := 7) rfl rfl rfl (show Int32.toInt 4 = 4 from rfl) (fun c3 => ?_) (fun c3 => ?_)
      · refine te_iconst (p2 := 19) (x := 0) rfl rfl (by decide) ?_
        refine te_istore_n (p2 := 20) (lv2 := [(1, .int 0), (0, .ref 164)]) rfl rfl (by decide) rfl ?_
        have lp4 : ∀ (n4 : Nat) (v4_1 t4_dd : Int32) (h4 : im_H), tI h4 → fr F_X12_goes h h4 → 0 ≤ v4_1.toInt → v4_1.toInt ≤ 3 → rd h4 149 (Int32.toInt 105).toNat = some (.int t4_dd) → t4_dd.toInt = y2.toInt → 3 - v4_1.toInt < (n4 : Int) → EvP im_K0 7 mX12_goes (20, [(0, .ref 164), (1, .int v4_1)], [], h4) (fun v h2 => tI h2 ∧ fr F_X12_goes h h2 ∧ v = none ∧ ∃ d : Int32, rd h 149 (Int32.toInt 105).toNat = some (.int d) ∧ rd h2 149 (Int32.toInt 105).toNat = some (.int (d + 1))) := by
          intro n4
          induction n4 with
          | zero => intro v4_1 t4_dd h4 I4 f4 a4_1 b4_1 v4_dd l4_0 m4; exfalso; omega
          | succ n4 ih4 =>
            intro v4_1 t4_dd h4 I4 f4 a4_1 b4_1 v4_dd l4_0 m4
            refine te_iload_n (p2 := 21) rfl rfl rfl ?_
            refine te_iconst (p2 := 22) (x := 3) rfl rfl (by decide) ?_
            refine tb_ge (p2 := 25) rfl rfl rfl (show Int32.toInt 3 = 3 from rfl) (fun c5 => ?_) (fun c5 => ?_)
            · refine te_iconst (p2 := 37) (x := 0) rfl rfl (by decide) ?_
              refine te_istore_n (p2 := 38) (lv2 := [(1, .int 0), (0, .ref 164)]) rfl rfl (by decide) rfl ?_
              have lp6 : ∀ (n6 : Nat) (v6_1 t6_dd : Int32) (h6 : im_H), tI h6 → fr F_X12_goes h h6 → 0 ≤ v6_1.toInt → v6_1.toInt ≤ 16 → rd h6 149 (Int32.toInt 105).toNat = some (.int t6_dd) → t6_dd.toInt = y2.toInt → 16 - v6_1.toInt < (n6 : Int) → EvP im_K0 7 mX12_goes (38, [(0, .ref 164), (1, .int v6_1)], [], h6) (fun v h2 => tI h2 ∧ fr F_X12_goes h h2 ∧ v = none ∧ ∃ d : Int32, rd h 149 (Int32.toInt 105).toNat = some (.int d) ∧ rd h2 149 (Int32.toInt 105).toNat = some (.int (d + 1))) := by
                intro n6
                induction n6 with
                | zero => intro v6_1 t6_dd h6 I6 f6 a6_1 b6_1 v6_dd l6_0 m6; exfalso; omega
                | succ n6 ih6 =>
                  intro v6_1 t6_dd h6 I6 f6 a6_1 b6_1 v6_dd l6_0 m6
                  refine te_iload_n (p2 := 39) rfl rfl rfl ?_
                  refine te_aload_n (p2 := 40) rfl rfl rfl ?_
                  refine tg_i (p2 := 43) (i := 148) rfl rfl I6 rfl rfl rfl (fun y7 a7 b7 e7 => ?_)
                  refine tb_ge (p2 := 46) rfl rfl rfl rfl (fun c8 => ?_) (fun c8 => ?_)
                  · refine te_iconst (p2 := 79) (x := 0) rfl rfl (by decide) ?_
                    refine te_istore_n (p2 := 80) (lv2 := [(1, .int 0), (0, .ref 164)]) rfl rfl (by decide) rfl ?_
                    have lp9 : ∀ (n9 : Nat) (v9_1 t9_dd : Int32) (h9 : im_H), tI h9 → fr F_X12_goes h h9 → 0 ≤ v9_1.toInt → v9_1.toInt ≤ 24 → rd h9 149 (Int32.toInt 105).toNat = some (.int t9_dd) → t9_dd.toInt = y2.toInt → 24 - v9_1.toInt < (n9 : Int) → EvP im_K0 7 mX12_goes (80, [(0, .ref 164), (1, .int v9_1)], [], h9) (fun v h2 => tI h2 ∧ fr F_X12_goes h h2 ∧ v = none ∧ ∃ d : Int32, rd h 149 (Int32.toInt 105).toNat = some (.int d) ∧ rd h2 149 (Int32.toInt 105).toNat = some (.int (d + 1))) := by
                      intro n9
                      induction n9 with
                      | zero => intro v9_1 t9_dd h9 I9 f9 a9_1 b9_1 v9_dd l9_0 m9; exfalso; omega
                      | succ n9 ih9 =>
                        intro v9_1 t9_dd h9 I9 f9 a9_1 b9_1 v9_dd l9_0 m9
                        refine te_iload_n (p2 := 81) rfl rfl rfl ?_
                        refine te_aload_n (p2 := 82) rfl rfl rfl ?_
                        refine tg_i (p2 := 85) (i := 148) rfl rfl I9 rfl rfl rfl (fun y10 a10 b10 e10 => ?_)
                        refine tb_ge (p2 := 88) rfl rfl rfl rfl (fun c11 => ?_) (fun c11 => ?_)
                        · refine te_iconst (p2 := 140) (x := 0) rfl rfl (by decide) ?_
                          refine te_istore_n (p2 := 141) (lv2 := [(1, .int 0), (0, .ref 164)]) rfl rfl (by decide) rfl ?_
                          have lp12 : ∀ (n12 : Nat) (v12_1 t12_dd : Int32) (h12 : im_H), tI h12 → fr F_X12_goes h h12 → 0 ≤ v12_1.toInt → v12_1.toInt ≤ 24 → rd h12 149 (Int32.toInt 105).toNat = some (.int t12_dd) → t12_dd.toInt = y2.toInt → 24 - v12_1.toInt < (n12 : Int) → EvP im_K0 7 mX12_goes (141, [(0, .ref 164), (1, .int v12_1)], [], h12) (fun v h2 => tI h2 ∧ fr F_X12_goes h h2 ∧ v = none ∧ ∃ d : Int32, rd h 149 (Int32.toInt 105).toNat = some (.int d) ∧ rd h2 149 (Int32.toInt 105).toNat = some (.int (d + 1))) := by
                            intro n12
                            induction n12 with
                            | zero => intro v12_1 t12_dd h12 I12 f12 a12_1 b12_1 v12_dd l12_0 m12; exfalso; omega
                            | succ n12 ih12 =>
                              intro v12_1 t12_dd h12 I12 f12 a12_1 b12_1 v12_dd l12_0 m12
                              refine te_iload_n (p2 := 142) rfl rfl rfl ?_
                              refine te_aload_n (p2 := 143) rfl rfl rfl ?_
                              refine tg_i (p2 := 146) (i := 148) rfl rfl I12 rfl rfl rfl (fun y13 a13 b13 e13 => ?_)
                              refine tb_ge (p2 := 149) rfl rfl rfl rfl (fun c14 => ?_) (fun c14 => ?_)
                              · refine te_aload_n (p2 := 215) rfl rfl rfl ?_
                                refine tg_r (p2 := 218) (i := 148) (r := 165) rfl rfl I12 rfl rfl rfl ?_
                                refine te_bipush (p2 := 220) (x := 105) rfl rfl (by decide) ?_
                                refine te_dup2 (p2 := 221) rfl rfl ⟨rfl, rfl⟩ ?_
                                refine tl_e (p2 := 222) (i := 149) (n := 283) (t := 0) (Or.inl rfl) rfl rfl I12 rfl rfl (by decide) (by decide) v12_dd ?_
                                refine te_iconst (p2 := 223) (x := 1) rfl rfl (by decide) ?_
                                refine au_add (p2 := 224) rfl rfl (fun z16 e16 => ?_)
                                refine ts_i (p2 := 225) (i := 149) (n := 283) rfl rfl I12 rfl rfl rfl rfl (by decide) (by decide) (i32_lo _) (i32_hi _) (i32_ho _) rfl (fun h17 I17 u17 => ?_)
                                have f17 := fr_st (F := F_X12_goes) 1 f12 u17 rfl (by decide) (by decide)
                                exact te_vret rfl rfl ⟨I17, f17, rfl, y2, e2, u17.1.trans (congrArg (fun t => some (Value.int t)) (show z16 = y2 + 1 from by (rw [← (i32_ext (by omega) : t12_dd = y2)]; exact e16.symm)))⟩
                              · refine te_aload_n (p2 := 150) rfl rfl rfl ?_
                                refine tg_r (p2 := 153) (i := 148) (r := 165) rfl rfl I12 rfl rfl rfl ?_
                                refine te_bipush (p2 := 155) (x := 105) rfl rfl (by decide) ?_
                                refine tl_e (p2 := 156) (i := 149) (n := 283) (t := 0) (Or.inl rfl) rfl rfl I12 rfl rfl (by decide) (by decide) v12_dd ?_
                                refine te_bipush (p2 := 158) (x := 7) rfl rfl (by decide) ?_
                                refine au_rem (p2 := 159) rfl rfl (show Int32.toInt 7 = 7 from rfl) (by decide) (fun z19 e19 => ?_)
                                refine te_bipush (p2 := 161) (x := 6) rfl rfl (by decide) ?_
                                refine tb_ne (p2 := 164) rfl rfl rfl (show Int32.toInt 6 = 6 from rfl) (fun c20 => ?_) (fun c20 => ?_)
                                · refine te_aload_n (p2 := 215) rfl rfl rfl ?_
                                  refine tg_r (p2 := 218) (i := 148) (r := 165) rfl rfl I12 rfl rfl rfl ?_
                                  refine te_bipush (p2 := 220) (x := 105) rfl rfl (by decide) ?_
                                  refine te_dup2 (p2 := 221) rfl rfl ⟨rfl, rfl⟩ ?_
                                  refine tl_e (p2 := 222) (i := 149) (n := 283) (t := 0) (Or.inl rfl) rfl rfl I12 rfl rfl (by decide) (by decide) v12_dd ?_
                                  refine te_iconst (p2 := 223) (x := 1) rfl rfl (by decide) ?_
                                  refine au_add (p2 := 224) rfl rfl (fun z22 e22 => ?_)
                                  refine ts_i (p2 := 225) (i := 149) (n := 283) rfl rfl I12 rfl rfl rfl rfl (by decide) (by decide) (i32_lo _) (i32_hi _) (i32_ho _) rfl (fun h23 I23 u23 => ?_)
                                  have f23 := fr_st (F := F_X12_goes) 1 f12 u23 rfl (by decide) (by decide)
                                  exact te_vret rfl rfl ⟨I23, f23, rfl, y2, e2, u23.1.trans (congrArg (fun t => some (Value.int t)) (show z22 = y2 + 1 from by (rw [← (i32_ext (by omega) : t12_dd = y2)]; exact e22.symm)))⟩
                                · refine te_aload_n (p2 := 165) rfl rfl rfl ?_
                                  refine tg_r (p2 := 168) (i := 148) (r := 165) rfl rfl I12 rfl rfl rfl ?_
                                  refine te_sipush (p2 := 171) (x := 164) rfl rfl (by decide) ?_
                                  refine te_iload_n (p2 := 172) rfl rfl rfl ?_
                                  refine ar_add (p2 := 173) rfl rfl (show Int32.toInt 164 = 164 from rfl) rfl (by omega) (by omega) (fun z24 e24 f24 => ?_)
                                  refine te_dup2 (p2 := 174) rfl rfl ⟨rfl, rfl⟩ ?_
                                  refine tl_i (p2 := 175) (i := 149) (n := 283) rfl rfl I12 rfl rfl rfl rfl (by omega) (by omega) (fun y25 a25 b25 g25 e25 => ?_)
                                  refine te_aload_n (p2 := 176) rfl rfl rfl ?_
                                  refine tg_r (p2 := 179) (i := 148) (r := 165) rfl rfl I12 rfl rfl rfl ?_
                                  refine te_sipush (p2 := 182) (x := 236) rfl rfl (by decide) ?_
                                  refine te_iload_n (p2 := 183) rfl rfl rfl ?_
                                  refine ar_add (p2 := 184) rfl rfl (show Int32.toInt 236 = 236 from rfl) rfl (by omega) (by omega) (fun z26 e26 f26 => ?_)
                                  refine tl_i (p2 := 185) (i := 149) (n := 283) rfl rfl I12 rfl rfl rfl rfl (by omega) (by omega) (fun y27 a27 b27 g27 e27 => ?_)
                                  refine tz_ne (p2 := 188) rfl rfl rfl (fun c28 => ?_) (fun c28 => ?_)
                                  · refine te_iconst (p2 := 206) (x := 0) rfl rfl (by decide) ?_
                                    have n29_y25 := i32_lo y25
                                    have o29_y25 := i32_hi y25
                                    refine ar_sub (p2 := 207) rfl rfl rfl (show Int32.toInt 0 = 0 from rfl) (by omega) (by omega) (fun z29 e29 f29 => ?_)
                                    refine ts_i (p2 := 208) (i := 149) (n := 283) rfl rfl I12 rfl rfl rfl rfl (by omega) (by omega) (i32_lo _) (i32_hi _) (i32_ho _) rfl (fun h30 I30 u30 => ?_)
                                    have f30 := fr_st (F := F_X12_goes) 3 f12 u30 rfl (by omega) (by omega)
                                    refine ar_inc (p2 := 211) (x := v12_1) rfl rfl (by decide) rfl (by decide) rfl (by omega) (by omega) (fun z31 e31 f31 => ?_)
                                    show EvP _ _ _ (211, [(1, .int z31), (0, .ref 164)], [], h30) _
                                    refine te_goto rfl ?_
                                    refine te_lv [(0, .ref 164), (1, .int z31)] rfl rfl ⟨rfl, rfl, trivial⟩ ?_
                                    exact ih12 z31 t12_dd h30 I30 f30 (by omega) (by omega) ((u30.2 _ _ (Or.inr (by have hc_ := (show Int32.toInt 105 = 105 from rfl); omega))).trans v12_dd) (by omega) (by omega)
                                  · refine te_aload_n (p2 := 189) rfl rfl rfl ?_
                                    refine tg_r (p2 := 192) (i := 148) (r := 165) rfl rfl I12 rfl rfl rfl ?_
                                    refine te_sipush (p2 := 195) (x := 164) rfl rfl (by decide) ?_
                                    refine te_iload_n (p2 := 196) rfl rfl rfl ?_
                                    refine ar_add (p2 := 197) rfl rfl (show Int32.toInt 164 = 164 from rfl) rfl (by omega) (by omega) (fun z32 e32 f32 => ?_)
                                    refine tl_i (p2 := 198) (i := 149) (n := 283) rfl rfl I12 rfl rfl rfl rfl (by omega) (by omega) (fun y33 a33 b33 g33 e33 => ?_)
                                    refine tz_le (p2 := 201) rfl rfl rfl (fun c34 => ?_) (fun c34 => ?_)
                                    · refine te_iconst (p2 := 206) (x := 0) rfl rfl (by decide) ?_
                                      have n35_y25 := i32_lo y25
                                      have o35_y25 := i32_hi y25
                                      refine ar_sub (p2 := 207) rfl rfl rfl (show Int32.toInt 0 = 0 from rfl) (by omega) (by omega) (fun z35 e35 f35 => ?_)
                                      refine ts_i (p2 := 208) (i := 149) (n := 283) rfl rfl I12 rfl rfl rfl rfl (by omega) (by omega) (i32_lo _) (i32_hi _) (i32_ho _) rfl (fun h36 I36 u36 => ?_)
                                      have f36 := fr_st (F := F_X12_goes) 3 f12 u36 rfl (by omega) (by omega)
                                      refine ar_inc (p2 := 211) (x := v12_1) rfl rfl (by decide) rfl (by decide) rfl (by omega) (by omega) (fun z37 e37 f37 => ?_)
                                      show EvP _ _ _ (211, [(1, .int z37), (0, .ref 164)], [], h36) _
                                      refine te_goto rfl ?_
                                      refine te_lv [(0, .ref 164), (1, .int z37)] rfl rfl ⟨rfl, rfl, trivial⟩ ?_
                                      exact ih12 z37 t12_dd h36 I36 f36 (by omega) (by omega) ((u36.2 _ _ (Or.inr (by have hc_ := (show Int32.toInt 105 = 105 from rfl); omega))).trans v12_dd) (by omega) (by omega)
                                    · refine te_iconst (p2 := 202) (x := 1) rfl rfl (by decide) ?_
                                      refine te_goto rfl ?_
                                      refine au_sub (p2 := 207) rfl rfl (fun z38 e38 => ?_)
                                      refine ts_i (p2 := 208) (i := 149) (n := 283) rfl rfl I12 rfl rfl rfl rfl (by omega) (by omega) (i32_lo _) (i32_hi _) (i32_ho _) rfl (fun h39 I39 u39 => ?_)
                                      have f39 := fr_st (F := F_X12_goes) 3 f12 u39 rfl (by omega) (by omega)
                                      refine ar_inc (p2 := 211) (x := v12_1) rfl rfl (by decide) rfl (by decide) rfl (by omega) (by omega) (fun z40 e40 f40 => ?_)
                                      show EvP _ _ _ (211, [(1, .int z40), (0, .ref 164)], [], h39) _
                                      refine te_goto rfl ?_
                                      refine te_lv [(0, .ref 164), (1, .int z40)] rfl rfl ⟨rfl, rfl, trivial⟩ ?_
                                      exact ih12 z40 t12_dd h39 I39 f39 (by omega) (by omega) ((u39.2 _ _ (Or.inr (by have hc_ := (show Int32.toInt 105 = 105 from rfl); omega))).trans v12_dd) (by omega) (by omega)
                          refine te_lv [(0, .ref 164), (1, .int 0)] rfl rfl ⟨rfl, rfl, trivial⟩ ?_
                          exact lp12 25 0 t9_dd h9 I9 f9 (by decide) (by decide) v9_dd (by have cc0 := (show Int32.toInt 0 = 0 from rfl); omega) (by have cc0 := (show Int32.toInt 0 = 0 from rfl); omega)
                        · refine te_aload_n (p2 := 89) rfl rfl rfl ?_
                          refine tg_r (p2 := 92) (i := 148) (r := 165) rfl rfl I9 rfl rfl rfl ?_
                          refine te_sipush (p2 := 95) (x := 236) rfl rfl (by decide) ?_
                          refine te_iload_n (p2 := 96) rfl rfl rfl ?_
                          refine ar_add (p2 := 97) rfl rfl (show Int32.toInt 236 = 236 from rfl) rfl (by omega) (by omega) (fun z41 e41 f41 => ?_)
                          refine tl_i (p2 := 98) (i := 149) (n := 283) rfl rfl I9 rfl rfl rfl rfl (by omega) (by omega) (fun y42 a42 b42 g42 e42 => ?_)
                          refine tz_ne (p2 := 101) rfl rfl rfl (fun c43 => ?_) (fun c43 => ?_)
                          · refine ar_inc (p2 := 136) (x := v9_1) rfl rfl (by decide) rfl (by decide) rfl (by omega) (by omega) (fun z44 e44 f44 => ?_)
                            show EvP _ _ _ (136, [(1, .int z44), (0, .ref 164)], [], h9) _
                            refine te_goto rfl ?_
                            refine te_lv [(0, .ref 164), (1, .int z44)] rfl rfl ⟨rfl, rfl, trivial⟩ ?_
                            exact ih9 z44 t9_dd h9 I9 f9 (by omega) (by omega) v9_dd (by omega) (by omega)
                          · refine te_aload_n (p2 := 102) rfl rfl rfl ?_
                            refine te_iload_n (p2 := 103) rfl rfl rfl ?_
                            refine te_iconst (p2 := 104) (x := 1) rfl rfl (by decide) ?_
                            refine cV_pI (p2 := 107) (i := 148) rfl rfl rfl rfl I9 rfl rfl rfl (t_X12_saysOf (k := v9_1) (key := 1) I9 (by omega) (by omega)) (by decide) (fun y45 r45 => ?_)
                            refine te_istore_n (p2 := 108) (lv2 := [(2, .int y45), (0, .ref 164), (1, .int v9_1)]) rfl rfl (by decide) rfl ?_
                            refine te_aload_n (p2 := 109) rfl rfl rfl ?_
                            refine tg_r (p2 := 112) (i := 148) (r := 165) rfl rfl I9 rfl rfl rfl ?_
                            refine te_sipush (p2 := 115) (x := 212) rfl rfl (by decide) ?_
                            refine te_iload_n (p2 := 116) rfl rfl rfl ?_
                            refine ar_add (p2 := 117) rfl rfl (show Int32.toInt 212 = 212 from rfl) rfl (by omega) (by omega) (fun z46 e46 f46 => ?_)
                            refine te_dup2 (p2 := 118) rfl rfl ⟨rfl, rfl⟩ ?_
                            refine tl_i (p2 := 119) (i := 149) (n := 283) rfl rfl I9 rfl rfl rfl rfl (by omega) (by omega) (fun y47 a47 b47 g47 e47 => ?_)
                            refine te_iload_n (p2 := 120) rfl rfl rfl ?_
                            refine te_bipush (p2 := 122) (x := 9) rfl rfl (by decide) ?_
                            refine tb_le (p2 := 125) rfl rfl rfl (show Int32.toInt 9 = 9 from rfl) (fun c48 => ?_) (fun c48 => ?_)
                            · refine te_iload_n (p2 := 131) rfl rfl rfl ?_
                              refine au_add (p2 := 132) rfl rfl (fun z49 e49 => ?_)
                              refine ts_i (p2 := 133) (i := 149) (n := 283) rfl rfl I9 rfl rfl rfl rfl (by omega) (by omega) (i32_lo _) (i32_hi _) (i32_ho _) rfl (fun h50 I50 u50 => ?_)
                              have f50 := fr_st (F := F_X12_goes) 3 f9 u50 rfl (by omega) (by omega)
                              refine ar_inc (p2 := 136) (x := v9_1) rfl rfl (by decide) rfl (by decide) rfl (by omega) (by omega) (fun z51 e51 f51 => ?_)
                              show EvP _ _ _ (136, [(1, .int z51), (2, .int y45), (0, .ref 164)], [], h50) _
                              refine te_goto rfl ?_
                              refine te_lv [(0, .ref 164), (1, .int z51)] rfl rfl ⟨rfl, rfl, trivial⟩ ?_
                              exact ih9 z51 t9_dd h50 I50 f50 (by omega) (by omega) ((u50.2 _ _ (Or.inr (by have hc_ := (show Int32.toInt 105 = 105 from rfl); omega))).trans v9_dd) (by omega) (by omega)
                            · refine te_bipush (p2 := 127) (x := 9) rfl rfl (by decide) ?_
                              refine te_goto rfl ?_
                              refine au_add (p2 := 132) rfl rfl (fun z52 e52 => ?_)
                              refine ts_i (p2 := 133) (i := 149) (n := 283) rfl rfl I9 rfl rfl rfl rfl (by omega) (by omega) (i32_lo _) (i32_hi _) (i32_ho _) rfl (fun h53 I53 u53 => ?_)
                              have f53 := fr_st (F := F_X12_goes) 3 f9 u53 rfl (by omega) (by omega)
                              refine ar_inc (p2 := 136) (x := v9_1) rfl rfl (by decide) rfl (by decide) rfl (by omega) (by omega) (fun z54 e54 f54 => ?_)
                              show EvP _ _ _ (136, [(1, .int z54), (2, .int y45), (0, .ref 164)], [], h53) _
                              refine te_goto rfl ?_
                              refine te_lv [(0, .ref 164), (1, .int z54)] rfl rfl ⟨rfl, rfl, trivial⟩ ?_
                              exact ih9 z54 t9_dd h53 I53 f53 (by omega) (by omega) ((u53.2 _ _ (Or.inr (by have hc_ := (show Int32.toInt 105 = 105 from rfl); omega))).trans v9_dd) (by omega) (by omega)
                    refine te_lv [(0, .ref 164), (1, .int 0)] rfl rfl ⟨rfl, rfl, trivial⟩ ?_
                    exact lp9 25 0 t6_dd h6 I6 f6 (by decide) (by decide) v6_dd (by have cc0 := (show Int32.toInt 0 = 0 from rfl); omega) (by have cc0 := (show Int32.toInt 0 = 0 from rfl); omega)
                  · refine te_aload_n (p2 := 47) rfl rfl rfl ?_
                    refine tg_r (p2 := 50) (i := 148) (r := 165) rfl rfl I6 rfl rfl rfl ?_
                    refine te_bipush (p2 := 52) (x := 108) rfl rfl (by decide) ?_
                    refine te_iload_n (p2 := 53) rfl rfl rfl ?_
                    refine ar_add (p2 := 54) rfl rfl (show Int32.toInt 108 = 108 from rfl) rfl (by omega) (by omega) (fun z55 e55 f55 => ?_)
                    refine tl_i (p2 := 55) (i := 149) (n := 283) rfl rfl I6 rfl rfl rfl rfl (by omega) (by omega) (fun y56 a56 b56 g56 e56 => ?_)
                    refine te_iconst (p2 := 56) (x := 1) rfl rfl (by decide) ?_
                    refine tb_ne (p2 := 59) rfl rfl rfl (show Int32.toInt 1 = 1 from rfl) (fun c57 => ?_) (fun c57 => ?_)
                    · refine ar_inc (p2 := 75) (x := v6_1) rfl rfl (by decide) rfl (by decide) rfl (by omega) (by omega) (fun z58 e58 f58 => ?_)
                      show EvP _ _ _ (75, [(1, .int z58), (0, .ref 164)], [], h6) _
                      refine te_goto rfl ?_
                      refine te_lv [(0, .ref 164), (1, .int z58)] rfl rfl ⟨rfl, rfl, trivial⟩ ?_
                      exact ih6 z58 t6_dd h6 I6 f6 (by omega) (by omega) v6_dd (by omega) (by omega)
                    · refine te_aload_n (p2 := 60) rfl rfl rfl ?_
                      refine te_iload_n (p2 := 61) rfl rfl rfl ?_
                      refine cV_mI (p2 := 64) (i := 148) rfl rfl rfl rfl I6 rfl rfl rfl (t_X12_wears (w := v6_1) I6 (by omega) (by omega)) (by decide) (fun y59 h59 I59 g59 r59 => ?_)
                      have f59 := fr_tr (F1 := F_X12_wears) (F := F_X12_goes) f6 g59 (by decide)
                      obtain ⟨a59, b59⟩ := r59
                      refine tz_eq (p2 := 67) rfl rfl rfl (fun c60 => ?_) (fun c60 => ?_)
                      · refine ar_inc (p2 := 75) (x := v6_1) rfl rfl (by decide) rfl (by decide) rfl (by omega) (by omega) (fun z61 e61 f61 => ?_)
                        show EvP _ _ _ (75, [(1, .int z61), (0, .ref 164)], [], h59) _
                        refine te_goto rfl ?_
                        refine te_lv [(0, .ref 164), (1, .int z61)] rfl rfl ⟨rfl, rfl, trivial⟩ ?_
                        exact ih6 z61 t6_dd h59 I59 f59 (by omega) (by omega) ((g59 _ _ (by decide)).trans v6_dd) (by omega) (by omega)
                      · refine te_aload_n (p2 := 68) rfl rfl rfl ?_
                        refine te_iload_n (p2 := 69) rfl rfl rfl ?_
                        refine cV_mV (p2 := 72) (i := 148) rfl rfl rfl rfl I59 rfl rfl rfl (t_X12_falls (w := v6_1) I59 (by omega) (by omega)) (by decide) (fun h62 I62 g62 => ?_)
                        have f62 := fr_tr (F1 := F_X12_falls) (F := F_X12_goes) f59 g62 (by decide)
                        refine ar_inc (p2 := 75) (x := v6_1) rfl rfl (by decide) rfl (by decide) rfl (by omega) (by omega) (fun z63 e63 f63 => ?_)
                        show EvP _ _ _ (75, [(1, .int z63), (0, .ref 164)], [], h62) _
                        refine te_goto rfl ?_
                        refine te_lv [(0, .ref 164), (1, .int z63)] rfl rfl ⟨rfl, rfl, trivial⟩ ?_
                        exact ih6 z63 t6_dd h62 I62 f62 (by omega) (by omega) ((g62 _ _ (by decide)).trans ((g59 _ _ (by decide)).trans v6_dd)) (by omega) (by omega)
              refine te_lv [(0, .ref 164), (1, .int 0)] rfl rfl ⟨rfl, rfl, trivial⟩ ?_
              exact lp6 17 0 t4_dd h4 I4 f4 (by decide) (by decide) v4_dd (by have cc0 := (show Int32.toInt 0 = 0 from rfl); omega) (by have cc0 := (show Int32.toInt 0 = 0 from rfl); omega)
            · refine te_aload_n (p2 := 26) rfl rfl rfl ?_
              refine te_iload_n (p2 := 27) rfl rfl rfl ?_
              refine cV_mV (p2 := 30) (i := 148) rfl rfl rfl rfl I4 rfl rfl rfl (t_X12_goesRail (r := v4_1) I4 (by omega) (by omega)) (by decide) (fun h64 I64 g64 => ?_)
              have f64 := fr_tr (F1 := F_X12_goesRail) (F := F_X12_goes) f4 g64 (by decide)
              refine ar_inc (p2 := 33) (x := v4_1) rfl rfl (by decide) rfl (by decide) rfl (by omega) (by omega) (fun z65 e65 f65 => ?_)
              show EvP _ _ _ (33, [(1, .int z65), (0, .ref 164)], [], h64) _
              refine te_goto rfl ?_
              refine te_lv [(0, .ref 164), (1, .int z65)] rfl rfl ⟨rfl, rfl, trivial⟩ ?_
              exact ih4 z65 t4_dd h64 I64 f64 (by omega) (by omega) ((g64 _ _ (by decide)).trans v4_dd) (by omega) (by omega)
        refine te_lv [(0, .ref 164), (1, .int 0)] rfl rfl ⟨rfl, rfl, trivial⟩ ?_
        exact lp4 4 0 t1_dd h1 I1 f1 (by decide) (by decide) v1_dd (by have cc0 := (show Int32.toInt 0 = 0 from rfl); omega) (by have cc0 := (show Int32.toInt 0 = 0 from rfl); omega)
      · refine te_aload_n (p2 := 8) rfl rfl rfl ?_
        refine te_iload_n (p2 := 9) rfl rfl rfl ?_
        refine cV_mV (p2 := 12) (i := 148) rfl rfl rfl rfl I1 rfl rfl rfl (t_X12_goesRow (r := v1_1) I1 (by omega) (by omega)) (by decide) (fun h66 I66 g66 => ?_)
        have f66 := fr_tr (F1 := F_X12_goesRow) (F := F_X12_goes) f1 g66 (by decide)
        refine ar_inc (p2 := 15) (x := v1_1) rfl rfl (by decide) rfl (by decide) rfl (by omega) (by omega) (fun z67 e67 f67 => ?_)
        show EvP _ _ _ (15, [(1, .int z67), (0, .ref 164)], [], h66) _
        refine te_goto rfl ?_
        refine te_lv [(0, .ref 164), (1, .int z67)] rfl rfl ⟨rfl, rfl, trivial⟩ ?_
        exact ih1 z67 t1_dd h66 I66 f66 (by omega) (by omega) ((g66 _ _ (by decide)).trans v1_dd) (by omega) (by omega)
  refine te_lv [(0, .ref 164), (1, .int 0)] rfl rfl ⟨rfl, rfl, trivial⟩ ?_
  exact lp1 5 0 y2 h hI f0 (by decide) (by decide) e2 (by have cc0 := (show Int32.toInt 0 = 0 from rfl); omega) (by have cc0 := (show Int32.toInt 0 = 0 from rfl); omega)
def runT (n d : Int32) : Int32 := if 1 ≤ n.toInt ∧ n.toInt ≤ 60 then (if 2000 < (d + n).toInt then -4 else d + n) else -2
def runD (n d : Int32) : Int32 := if 1 ≤ n.toInt ∧ n.toInt ≤ 60 then (if 2000 < (d + n).toInt then d else d + n) else d
abbrev Q1_run (x1 : Int32) (y : Int32) (h h2 : im_H) : Prop := ∃ d : Int32, rd h 23 0 = some (.int d) ∧ y = runT x1 d ∧ rd h2 23 0 = some (.int (runD x1 d))
set_option maxRecDepth 20000 in
set_option maxHeartbeats 4000000 in
theorem c_X11_run {x1 : Int32} {h : im_H} (hI : tI h)  : CaP 8 76 [.ref 16, .int x1] h (fun v h2 => tI h2 ∧ fr F_X11_run h h2 ∧ ∃ y : Int32, v = some (.int y) ∧ Q1_run x1 y h h2) := by
  refine cap_of (d := 7) (M := mX11_run) rfl (Nat.le_of_ble_eq_true rfl) ?_
  show EvP im_K0 7 mX11_run (0, [(0, .ref 16), (1, .int x1)], [], h) _
  have f0 : fr F_X11_run h h := fr_rf
  refine te_iload_n (p2 := 1) rfl rfl rfl ?_
  refine te_iconst (p2 := 2) (x := 1) rfl rfl (by decide) ?_
  refine te_bipush (p2 := 4) (x := 60) rfl rfl (by decide) ?_
  refine cS_pI (p2 := 7) rfl rfl rfl rfl (t_X11_between (n := x1) (a := 1) (b := 60) hI ) (by decide) (fun y1 r1 => ?_)
  rcases r1 with ⟨w1, c1⟩ | ⟨w1, c1⟩
  · subst w1
    have cc1_1 := (show Int32.toInt 1 = 1 from rfl)
    have cc1_2 := (show Int32.toInt 60 = 60 from rfl)
    refine tz_ne (p2 := 10) rfl rfl (show Int32.toInt 1 = 1 from rfl) (fun c2 => ?_) (fun c2 => absurd c2 (by omega))
    refine te_aload_n (p2 := 14) rfl rfl rfl ?_
    refine tg_r (p2 := 17) (i := 0) (r := 39) rfl rfl hI rfl rfl rfl ?_
    refine tg_i (p2 := 20) (i := 23) rfl rfl hI rfl rfl rfl (fun y3 a3 b3 e3 => ?_)
    refine te_iload_n (p2 := 21) rfl rfl rfl ?_
    refine au_add (p2 := 22) rfl rfl (fun z4 e4 => ?_)
    refine te_sipush (p2 := 25) (x := 2000) rfl rfl (by decide) ?_
    refine tb_le (p2 := 28) rfl rfl rfl (show Int32.toInt 2000 = 2000 from rfl) (fun c5 => ?_) (fun c5 => ?_)
    · refine te_iconst (p2 := 32) (x := 0) rfl rfl (by decide) ?_
      refine te_istore_n (p2 := 33) (lv2 := [(2, .int 0), (0, .ref 16), (1, .int x1)]) rfl rfl (by decide) rfl ?_
      have lp6 : ∀ (n6 : Nat) (v6_2 t6_dd : Int32) (h6 : im_H), tI h6 → fr F_X11_run h h6 → 0 ≤ v6_2.toInt → v6_2.toInt ≤ 60 → rd h6 23 0 = some (.int t6_dd) → v6_2.toInt ≤ x1.toInt → t6_dd = y3 + v6_2 → x1.toInt - v6_2.toInt < (n6 : Int) → EvP im_K0 7 mX11_run (33, [(0, .ref 16), (1, .int x1), (2, .int v6_2)], [], h6) (fun v h2 => tI h2 ∧ fr F_X11_run h h2 ∧ ∃ y : Int32, v = some (.int y) ∧ Q1_run x1 y h h2) := by
        intro n6
        induction n6 with
        | zero => intro v6_2 t6_dd h6 I6 f6 a6_2 b6_2 v6_dd l6_0 w6_0 m6; exfalso; omega
        | succ n6 ih6 =>
          intro v6_2 t6_dd h6 I6 f6 a6_2 b6_2 v6_dd l6_0 w6_0 m6
          refine te_iload_n (p2 := 34) rfl rfl rfl ?_
          refine te_iload_n (p2 := 35) rfl rfl rfl ?_
          refine tb_ge (p2 := 38) rfl rfl rfl rfl (fun c7 => ?_) (fun c7 => ?_)
          · refine te_aload_n (p2 := 56) rfl rfl rfl ?_
            refine tg_r (p2 := 59) (i := 0) (r := 39) rfl rfl I6 rfl rfl rfl ?_
            refine tg_e (p2 := 62) (i := 23) (v := .int t6_dd) rfl rfl I6 rfl rfl v6_dd ?_
            exact te_iret rfl rfl ⟨I6, f6, _, rfl, y3, e3, (show t6_dd = runT x1 y3 from by (unfold runT; rw [if_pos (by omega), if_neg (by rw [e4]; omega), w6_0, (i32_ext (by omega) : v6_2 = x1)])), v6_dd.trans (congrArg (fun t => some (Value.int t)) (show t6_dd = runD x1 y3 from by (unfold runD; rw [if_pos (by omega), if_neg (by rw [e4]; omega), w6_0, (i32_ext (by omega) : v6_2 = x1)])))⟩
          · refine te_aload_n (p2 := 39) rfl rfl rfl ?_
            refine tg_r (p2 := 42) (i := 0) (r := 17) rfl rfl I6 rfl rfl rfl ?_
            refine te_aload_n (p2 := 43) rfl rfl rfl ?_
            refine tg_r (p2 := 46) (i := 0) (r := 39) rfl rfl I6 rfl rfl rfl ?_
            refine tc_V (p2 := 49) (i := 1) rfl rfl rfl rfl I6 rfl rfl rfl (c_X0_playDay (s := 23) I6 (by decide)) (by decide) (fun v8 h8 hq8 => ?_)
            obtain ⟨I8, g8, w8, d8, eo8, en8⟩ := hq8
            subst w8
            rw [int_inj eo8 v6_dd] at en8
            have f8 := fr_tr (F1 := (F_X0_playDay 23)) (F := F_X11_run) f6 g8 (by decide)
            show EvP _ _ _ (49, [(0, .ref 16), (1, .int x1), (2, .int v6_2)], [], h8) _
            refine ar_inc (p2 := 52) (x := v6_2) rfl rfl (by decide) rfl (by decide) rfl (by omega) (by omega) (fun z9 e9 f9 => ?_)
            show EvP _ _ _ (52, [(2, .int z9), (0, .ref 16), (1, .int x1)], [], h8) _
            refine te_goto rfl ?_
            refine te_lv [(0, .ref 16), (1, .int x1), (2, .int z9)] rfl rfl ⟨rfl, rfl, rfl, trivial⟩ ?_
            exact ih6 z9 (t6_dd + 1) h8 I8 f8 (by omega) (by omega) en8 (by omega) (by rw [← e9, w6_0, Int32.add_assoc]; rfl) (by omega)
      refine te_lv [(0, .ref 16), (1, .int x1), (2, .int 0)] rfl rfl ⟨rfl, rfl, rfl, trivial⟩ ?_
      exact lp6 61 0 y3 h hI f0 (by decide) (by decide) e3 (by have cc0 := (show Int32.toInt 0 = 0 from rfl); omega) (Int32.add_zero _).symm (by have cc0 := (show Int32.toInt 0 = 0 from rfl); omega)
    · refine te_bipush (p2 := 30) (x := (-4)) rfl rfl (by decide) ?_
      exact te_iret rfl rfl ⟨hI, f0, _, rfl, y3, e3, (show (-4) = runT x1 y3 from by (unfold runT; rw [e4]; (repeat' split) <;> first | (exfalso; omega) | rfl)), e3.trans (congrArg (fun t => some (Value.int t)) (show y3 = runD x1 y3 from by (unfold runD; rw [e4]; (repeat' split) <;> first | (exfalso; omega) | rfl)))⟩
  · subst w1
    have cc1_1 := (show Int32.toInt 1 = 1 from rfl)
    have cc1_2 := (show Int32.toInt 60 = 60 from rfl)
    refine tz_ne (p2 := 10) rfl rfl (show Int32.toInt 0 = 0 from rfl) (fun c10 => absurd c10 (by omega)) (fun c10 => ?_)
    refine te_bipush (p2 := 12) (x := (-2)) rfl rfl (by decide) ?_
    obtain ⟨v11, e11, y11, w11, a11, b11, _⟩ := hI.2.1 23 0 (.inl ((-2147483648), 2147483647, 9999999999)) rfl
    subst w11
    exact te_iret rfl rfl ⟨hI, f0, _, rfl, y11, e11, (show (-2) = runT x1 y11 from by (unfold runT; (repeat' split) <;> first | (exfalso; omega) | rfl)), e11.trans (congrArg (fun t => some (Value.int t)) (show y11 = runD x1 y11 from by (unfold runD; (repeat' split) <;> first | (exfalso; omega) | rfl)))⟩
abbrev Q2_run (x1 : Int32) (y : Int32) (h h2 : im_H) : Prop := ∃ d : Int32, rd h 149 (Int32.toInt 105).toNat = some (.int d) ∧ y = runT x1 d ∧ rd h2 149 (Int32.toInt 105).toNat = some (.int (runD x1 d))
set_option maxRecDepth 20000 in
set_option maxHeartbeats 4000000 in
theorem c_X12_run {x1 : Int32} {h : im_H} (hI : tI h)  : CaP 9 155 [.ref 164, .int x1] h (fun v h2 => tI h2 ∧ fr F_X12_run h h2 ∧ ∃ y : Int32, v = some (.int y) ∧ Q2_run x1 y h h2) := by
  refine cap_of (d := 8) (M := mX12_run) rfl (Nat.le_of_ble_eq_true rfl) ?_
  show EvP im_K0 8 mX12_run (0, [(0, .ref 164), (1, .int x1)], [], h) _
  have f0 : fr F_X12_run h h := fr_rf
  refine te_iload_n (p2 := 1) rfl rfl rfl ?_
  refine te_iconst (p2 := 2) (x := 1) rfl rfl (by decide) ?_
  refine te_bipush (p2 := 4) (x := 60) rfl rfl (by decide) ?_
  refine cS_pI (p2 := 7) rfl rfl rfl rfl (t_X12_in (n := x1) (a := 1) (b := 60) hI ) (by decide) (fun y1 r1 => ?_)
  rcases r1 with ⟨w1, c1⟩ | ⟨w1, c1⟩
  · subst w1
    have cc1_1 := (show Int32.toInt 1 = 1 from rfl)
    have cc1_2 := (show Int32.toInt 60 = 60 from rfl)
    refine tz_ne (p2 := 10) rfl rfl (show Int32.toInt 1 = 1 from rfl) (fun c2 => ?_) (fun c2 => absurd c2 (by omega))
    refine te_aload_n (p2 := 14) rfl rfl rfl ?_
    refine tg_r (p2 := 17) (i := 148) (r := 165) rfl rfl hI rfl rfl rfl ?_
    refine te_bipush (p2 := 19) (x := 105) rfl rfl (by decide) ?_
    refine tl_i (p2 := 20) (i := 149) (n := 283) rfl rfl hI rfl rfl rfl rfl (by decide) (by decide) (fun y3 a3 b3 g3 e3 => ?_)
    refine te_iload_n (p2 := 21) rfl rfl rfl ?_
    refine au_add (p2 := 22) rfl rfl (fun z4 e4 => ?_)
    refine te_sipush (p2 := 25) (x := 2000) rfl rfl (by decide) ?_
    refine tb_le (p2 := 28) rfl rfl rfl (show Int32.toInt 2000 = 2000 from rfl) (fun c5 => ?_) (fun c5 => ?_)
    · refine te_iconst (p2 := 32) (x := 0) rfl rfl (by decide) ?_
      refine te_istore_n (p2 := 33) (lv2 := [(2, .int 0), (0, .ref 164), (1, .int x1)]) rfl rfl (by decide) rfl ?_
      have lp6 : ∀ (n6 : Nat) (v6_2 t6_dd : Int32) (h6 : im_H), tI h6 → fr F_X12_run h h6 → 0 ≤ v6_2.toInt → v6_2.toInt ≤ 60 → rd h6 149 (Int32.toInt 105).toNat = some (.int t6_dd) → v6_2.toInt ≤ x1.toInt → t6_dd = y3 + v6_2 → x1.toInt - v6_2.toInt < (n6 : Int) → EvP im_K0 8 mX12_run (33, [(0, .ref 164), (1, .int x1), (2, .int v6_2)], [], h6) (fun v h2 => tI h2 ∧ fr F_X12_run h h2 ∧ ∃ y : Int32, v = some (.int y) ∧ Q2_run x1 y h h2) := by
        intro n6
        induction n6 with
        | zero => intro v6_2 t6_dd h6 I6 f6 a6_2 b6_2 v6_dd l6_0 w6_0 m6; exfalso; omega
        | succ n6 ih6 =>
          intro v6_2 t6_dd h6 I6 f6 a6_2 b6_2 v6_dd l6_0 w6_0 m6
          refine te_iload_n (p2 := 34) rfl rfl rfl ?_
          refine te_iload_n (p2 := 35) rfl rfl rfl ?_
          refine tb_ge (p2 := 38) rfl rfl rfl rfl (fun c7 => ?_) (fun c7 => ?_)
          · refine te_aload_n (p2 := 49) rfl rfl rfl ?_
            refine tg_r (p2 := 52) (i := 148) (r := 165) rfl rfl I6 rfl rfl rfl ?_
            refine te_bipush (p2 := 54) (x := 105) rfl rfl (by decide) ?_
            refine tl_e (p2 := 55) (i := 149) (n := 283) (t := 0) (Or.inl rfl) rfl rfl I6 rfl rfl (by decide) (by decide) v6_dd ?_
            exact te_iret rfl rfl ⟨I6, f6, _, rfl, y3, e3, (show t6_dd = runT x1 y3 from by (unfold runT; rw [if_pos (by omega), if_neg (by rw [e4]; omega), w6_0, (i32_ext (by omega) : v6_2 = x1)])), v6_dd.trans (congrArg (fun t => some (Value.int t)) (show t6_dd = runD x1 y3 from by (unfold runD; rw [if_pos (by omega), if_neg (by rw [e4]; omega), w6_0, (i32_ext (by omega) : v6_2 = x1)])))⟩
          · refine te_aload_n (p2 := 39) rfl rfl rfl ?_
            refine tc_V (p2 := 42) (i := 148) rfl rfl rfl rfl I6 rfl rfl rfl (c_X12_goes  I6 ) (by decide) (fun v9 h9 hq9 => ?_)
            obtain ⟨I9, g9, w9, d9, eo9, en9⟩ := hq9
            subst w9
            rw [int_inj eo9 v6_dd] at en9
            have f9 := fr_tr (F1 := F_X12_goes) (F := F_X12_run) f6 g9 (by decide)
            show EvP _ _ _ (42, [(0, .ref 164), (1, .int x1), (2, .int v6_2)], [], h9) _
            refine ar_inc (p2 := 45) (x := v6_2) rfl rfl (by decide) rfl (by decide) rfl (by omega) (by omega) (fun z10 e10 f10 => ?_)
            show EvP _ _ _ (45, [(2, .int z10), (0, .ref 164), (1, .int x1)], [], h9) _
            refine te_goto rfl ?_
            refine te_lv [(0, .ref 164), (1, .int x1), (2, .int z10)] rfl rfl ⟨rfl, rfl, rfl, trivial⟩ ?_
            exact ih6 z10 (t6_dd + 1) h9 I9 f9 (by omega) (by omega) en9 (by omega) (by rw [← e10, w6_0, Int32.add_assoc]; rfl) (by omega)
      refine te_lv [(0, .ref 164), (1, .int x1), (2, .int 0)] rfl rfl ⟨rfl, rfl, rfl, trivial⟩ ?_
      exact lp6 61 0 y3 h hI f0 (by decide) (by decide) e3 (by have cc0 := (show Int32.toInt 0 = 0 from rfl); omega) (Int32.add_zero _).symm (by have cc0 := (show Int32.toInt 0 = 0 from rfl); omega)
    · refine te_bipush (p2 := 30) (x := (-4)) rfl rfl (by decide) ?_
      exact te_iret rfl rfl ⟨hI, f0, _, rfl, y3, e3, (show (-4) = runT x1 y3 from by (unfold runT; rw [e4]; (repeat' split) <;> first | (exfalso; omega) | rfl)), e3.trans (congrArg (fun t => some (Value.int t)) (show y3 = runD x1 y3 from by (unfold runD; rw [e4]; (repeat' split) <;> first | (exfalso; omega) | rfl)))⟩
  · subst w1
    have cc1_1 := (show Int32.toInt 1 = 1 from rfl)
    have cc1_2 := (show Int32.toInt 60 = 60 from rfl)
    refine tz_ne (p2 := 10) rfl rfl (show Int32.toInt 0 = 0 from rfl) (fun c11 => absurd c11 (by omega)) (fun c11 => ?_)
    refine te_bipush (p2 := 12) (x := (-2)) rfl rfl (by decide) ?_
    obtain ⟨v12, e12, y12, w12, a12, b12, _⟩ := hI.2.1 149 (Int32.toInt 105).toNat (.inl ((-2147483648), 2147483647, 9999999999)) (tq_row rfl (by decide))
    subst w12
    exact te_iret rfl rfl ⟨hI, f0, _, rfl, y12, e12, (show (-2) = runT x1 y12 from by (unfold runT; (repeat' split) <;> first | (exfalso; omega) | rfl)), e12.trans (congrArg (fun t => some (Value.int t)) (show y12 = runD x1 y12 from by (unfold runD; (repeat' split) <;> first | (exfalso; omega) | rfl)))⟩
def bec (s o : Nat) (h h2 : im_H) : Prop := (rd h2 s 0 = rd h o 0 ∧ rd h2 s 1 = rd h o 1 ∧ rd h2 s 2 = rd h o 2 ∧ rd h2 s 3 = rd h o 3 ∧ rd h2 s 4 = rd h o 4) ∧ ((∀ k : Nat, (k : Int) < 3 → rd h2 (s + 1) k = rd h (o + 1) k) ∧ (∀ k : Nat, (k : Int) < 100 → rd h2 (s + 2) k = rd h (o + 2) k) ∧ (∀ k : Nat, (k : Int) < 24 → rd h2 (s + 3) k = rd h (o + 3) k) ∧ (∀ k : Nat, (k : Int) < 24 → rd h2 (s + 4) k = rd h (o + 4) k) ∧ (∀ k : Nat, (k : Int) < 24 → rd h2 (s + 5) k = rd h (o + 5) k) ∧ (∀ k : Nat, (k : Int) < 24 → rd h2 (s + 6) k = rd h (o + 6) k) ∧ (∀ k : Nat, (k : Int) < 24 → rd h2 (s + 7) k = rd h (o + 7) k) ∧ (∀ k : Nat, (k : Int) < 16 → rd h2 (s + 8) k = rd h (o + 8) k) ∧ (∀ k : Nat, (k : Int) < 16 → rd h2 (s + 9) k = rd h (o + 9) k) ∧ (∀ k : Nat, (k : Int) < 12 → rd h2 (s + 10) k = rd h (o + 10) k) ∧ (∀ k : Nat, (k : Int) < 4 → rd h2 (s + 11) k = rd h (o + 11) k) ∧ (∀ k : Nat, (k : Int) < 4 → rd h2 (s + 12) k = rd h (o + 12) k) ∧ (∀ k : Nat, (k : Int) < 3 → rd h2 (s + 13) k = rd h (o + 13) k))
theorem bec_r {s o : Nat} {h h1 h2 : im_H} (B : bec s o h h1) (e : ∀ i k, s ≤ i → i ≤ s + 13 → rd h2 i k = rd h1 i k) : bec s o h h2 := by
  obtain ⟨⟨f0, f1, f2, f3, f4⟩, r0, r1, r2, r3, r4, r5, r6, r7, r8, r9, r10, r11, r12⟩ := B
  exact ⟨⟨(e _ _ (by omega) (by omega)).trans f0, (e _ _ (by omega) (by omega)).trans f1, (e _ _ (by omega) (by omega)).trans f2, (e _ _ (by omega) (by omega)).trans f3, (e _ _ (by omega) (by omega)).trans f4⟩, fun k hk => (e _ _ (by omega) (by omega)).trans (r0 k hk), fun k hk => (e _ _ (by omega) (by omega)).trans (r1 k hk), fun k hk => (e _ _ (by omega) (by omega)).trans (r2 k hk), fun k hk => (e _ _ (by omega) (by omega)).trans (r3 k hk), fun k hk => (e _ _ (by omega) (by omega)).trans (r4 k hk), fun k hk => (e _ _ (by omega) (by omega)).trans (r5 k hk), fun k hk => (e _ _ (by omega) (by omega)).trans (r6 k hk), fun k hk => (e _ _ (by omega) (by omega)).trans (r7 k hk), fun k hk => (e _ _ (by omega) (by omega)).trans (r8 k hk), fun k hk => (e _ _ (by omega) (by omega)).trans (r9 k hk), fun k hk => (e _ _ (by omega) (by omega)).trans (r10 k hk), fun k hk => (e _ _ (by omega) (by omega)).trans (r11 k hk), fun k hk => (e _ _ (by omega) (by omega)).trans (r12 k hk)⟩
set_option maxRecDepth 20000 in
set_option maxHeartbeats 4000000 in
theorem c_X9_become {s : Nat} {o : Nat} {h : im_H} (hI : tI h) (q_s : s = 23 ∨ s = 37 ∨ s = 51) (q_o : o = 23 ∨ o = 37 ∨ o = 51) : CaP 1 46 [.ref (16 + s), .ref (16 + o)] h (fun v h2 => tI h2 ∧ fr (F_X9_become s o) h h2 ∧ v = none ∧ bec s o h h2) := by
  refine cap_of (d := 0) (M := mX9_become) rfl (Nat.le_of_ble_eq_true rfl) ?_
  show EvP im_K0 0 mX9_become (0, [(0, .ref (16 + s)), (1, .ref (16 + o))], [], h) _
  have f0 : fr (F_X9_become s o) h h := fr_rf
  refine te_aload_n (p2 := 1) rfl rfl rfl ?_
  refine te_aload_n (p2 := 2) rfl rfl rfl ?_
  refine tg_i (p2 := 5) (i := o) rfl rfl hI rfl (by rcases q_o with rfl | rfl | rfl <;> rfl) (by rcases q_o with rfl | rfl | rfl <;> rfl) (fun y1 a1 b1 e1 => ?_)
  refine tp_i (p2 := 8) (i := s) rfl rfl hI rfl (by rcases q_s with rfl | rfl | rfl <;> rfl) (by decide) rfl rfl (by rcases q_s with rfl | rfl | rfl <;> rfl) (i32_lo _) (i32_hi _) (i32_ho _) (by rcases q_s with rfl | rfl | rfl <;> rfl) (fun h2 I2 u2 => ?_)
  have f2 := fr_st (F := (F_X9_become s o)) 13 f0 u2 rfl (by decide) (by decide)
  refine te_aload_n (p2 := 9) rfl rfl rfl ?_
  refine te_aload_n (p2 := 10) rfl rfl rfl ?_
  refine tg_i (p2 := 13) (i := o) rfl rfl I2 rfl (by rcases q_o with rfl | rfl | rfl <;> rfl) (by rcases q_o with rfl | rfl | rfl <;> rfl) (fun y3 a3 b3 e3 => ?_)
  refine tp_i (p2 := 16) (i := s) rfl rfl I2 rfl (by rcases q_s with rfl | rfl | rfl <;> rfl) (by decide) rfl rfl (by rcases q_s with rfl | rfl | rfl <;> rfl) (i32_lo _) (i32_hi _) (i32_ho _) (by rcases q_s with rfl | rfl | rfl <;> rfl) (fun h4 I4 u4 => ?_)
  have f4 := fr_st (F := (F_X9_become s o)) 13 f2 u4 rfl (by decide) (by decide)
  refine te_aload_n (p2 := 17) rfl rfl rfl ?_
  refine te_aload_n (p2 := 18) rfl rfl rfl ?_
  refine tg_i (p2 := 21) (i := o) rfl rfl I4 rfl (by rcases q_o with rfl | rfl | rfl <;> rfl) (by rcases q_o with rfl | rfl | rfl <;> rfl) (fun y5 a5 b5 e5 => ?_)
  refine tp_i (p2 := 24) (i := s) rfl rfl I4 rfl (by rcases q_s with rfl | rfl | rfl <;> rfl) (by decide) rfl rfl (by rcases q_s with rfl | rfl | rfl <;> rfl) (i32_lo _) (i32_hi _) (i32_ho _) (by rcases q_s with rfl | rfl | rfl <;> rfl) (fun h6 I6 u6 => ?_)
  have f6 := fr_st (F := (F_X9_become s o)) 13 f4 u6 rfl (by decide) (by decide)
  refine te_aload_n (p2 := 25) rfl rfl rfl ?_
  refine te_aload_n (p2 := 26) rfl rfl rfl ?_
  refine tg_i (p2 := 29) (i := o) rfl rfl I6 rfl (by rcases q_o with rfl | rfl | rfl <;> rfl) (by rcases q_o with rfl | rfl | rfl <;> rfl) (fun y7 a7 b7 e7 => ?_)
  refine tp_i (p2 := 32) (i := s) rfl rfl I6 rfl (by rcases q_s with rfl | rfl | rfl <;> rfl) (by decide) rfl rfl (by rcases q_s with rfl | rfl | rfl <;> rfl) (i32_lo _) (i32_hi _) (i32_ho _) (by rcases q_s with rfl | rfl | rfl <;> rfl) (fun h8 I8 u8 => ?_)
  have f8 := fr_st (F := (F_X9_become s o)) 13 f6 u8 rfl (by decide) (by decide)
  refine te_aload_n (p2 := 33) rfl rfl rfl ?_
  refine te_aload_n (p2 := 34) rfl rfl rfl ?_
  refine tg_i (p2 := 37) (i := o) rfl rfl I8 rfl (by rcases q_o with rfl | rfl | rfl <;> rfl) (by rcases q_o with rfl | rfl | rfl <;> rfl) (fun y9 a9 b9 e9 => ?_)
  refine tp_i (p2 := 40) (i := s) rfl rfl I8 rfl (by rcases q_s with rfl | rfl | rfl <;> rfl) (by decide) rfl rfl (by rcases q_s with rfl | rfl | rfl <;> rfl) (i32_lo _) (i32_hi _) (i32_ho _) (by rcases q_s with rfl | rfl | rfl <;> rfl) (fun h10 I10 u10 => ?_)
  have f10 := fr_st (F := (F_X9_become s o)) 13 f8 u10 rfl (by decide) (by decide)
  refine te_aload_n (p2 := 41) rfl rfl rfl ?_
  refine tg_r (p2 := 44) (i := o) (r := (16 + (o + 1))) rfl rfl I10 rfl (by rcases q_o with rfl | rfl | rfl <;> rfl) (by rcases q_o with rfl | rfl | rfl <;> rfl) ?_
  refine te_iconst (p2 := 45) (x := 0) rfl rfl (by decide) ?_
  refine te_aload_n (p2 := 46) rfl rfl rfl ?_
  refine tg_r (p2 := 49) (i := s) (r := (16 + (s + 1))) rfl rfl I10 rfl (by rcases q_s with rfl | rfl | rfl <;> rfl) (by rcases q_s with rfl | rfl | rfl <;> rfl) ?_
  refine te_iconst (p2 := 50) (x := 0) rfl rfl (by decide) ?_
  refine te_iconst (p2 := 51) (x := 3) rfl rfl (by decide) ?_
  refine tc_cp (p2 := 54) (i1 := (o + 1)) (i2 := (s + 1)) (n1 := 3) (n2 := 3) rfl rfl I10 rfl rfl (by rcases q_o with rfl | rfl | rfl <;> rfl) (by rcases q_s with rfl | rfl | rfl <;> rfl) (by rcases q_o with rfl | rfl | rfl <;> rfl) (by rcases q_s with rfl | rfl | rfl <;> rfl) rfl rfl (Or.inl rfl) (show Int32.toInt 0 = 0 from rfl) (show Int32.toInt 0 = 0 from rfl) (show Int32.toInt 3 = 3 from rfl) (by decide) (by decide) (by decide) (by decide) (by decide) rfl (by rcases q_s with rfl | rfl | rfl <;> rfl) (fun h11 I11 c11 u11 => ?_)
  have f11 := fr_cp (F := (F_X9_become s o)) (i := (s + 1)) (a := 0) (b := 2) f10 u11 (List.mem_of_getElem? (i := 0) rfl) (by decide) (by decide)
  refine te_aload_n (p2 := 55) rfl rfl rfl ?_
  refine tg_r (p2 := 58) (i := o) (r := (16 + (o + 2))) rfl rfl I11 rfl (by rcases q_o with rfl | rfl | rfl <;> rfl) (by rcases q_o with rfl | rfl | rfl <;> rfl) ?_
  refine te_iconst (p2 := 59) (x := 0) rfl rfl (by decide) ?_
  refine te_aload_n (p2 := 60) rfl rfl rfl ?_
  refine tg_r (p2 := 63) (i := s) (r := (16 + (s + 2))) rfl rfl I11 rfl (by rcases q_s with rfl | rfl | rfl <;> rfl) (by rcases q_s with rfl | rfl | rfl <;> rfl) ?_
  refine te_iconst (p2 := 64) (x := 0) rfl rfl (by decide) ?_
  refine te_bipush (p2 := 66) (x := 100) rfl rfl (by decide) ?_
  refine tc_cp (p2 := 69) (i1 := (o + 2)) (i2 := (s + 2)) (n1 := 100) (n2 := 100) rfl rfl I11 rfl rfl (by rcases q_o with rfl | rfl | rfl <;> rfl) (by rcases q_s with rfl | rfl | rfl <;> rfl) (by rcases q_o with rfl | rfl | rfl <;> rfl) (by rcases q_s with rfl | rfl | rfl <;> rfl) rfl rfl (Or.inl rfl) (show Int32.toInt 0 = 0 from rfl) (show Int32.toInt 0 = 0 from rfl) (show Int32.toInt 100 = 100 from rfl) (by decide) (by decide) (by decide) (by decide) (by decide) rfl (by rcases q_s with rfl | rfl | rfl <;> rfl) (fun h12 I12 c12 u12 => ?_)
  have f12 := fr_cp (F := (F_X9_become s o)) (i := (s + 2)) (a := 0) (b := 99) f11 u12 (List.mem_of_getElem? (i := 5) rfl) (by decide) (by decide)
  refine te_aload_n (p2 := 70) rfl rfl rfl ?_
  refine tg_r (p2 := 73) (i := o) (r := (16 + (o + 3))) rfl rfl I12 rfl (by rcases q_o with rfl | rfl | rfl <;> rfl) (by rcases q_o with rfl | rfl | rfl <;> rfl) ?_
  refine te_iconst (p2 := 74) (x := 0) rfl rfl (by decide) ?_
  refine te_aload_n (p2 := 75) rfl rfl rfl ?_
  refine tg_r (p2 := 78) (i := s) (r := (16 + (s + 3))) rfl rfl I12 rfl (by rcases q_s with rfl | rfl | rfl <;> rfl) (by rcases q_s with rfl | rfl | rfl <;> rfl) ?_
  refine te_iconst (p2 := 79) (x := 0) rfl rfl (by decide) ?_
  refine te_bipush (p2 := 81) (x := 24) rfl rfl (by decide) ?_
  refine tc_cp (p2 := 84) (i1 := (o + 3)) (i2 := (s + 3)) (n1 := 24) (n2 := 24) rfl rfl I12 rfl rfl (by rcases q_o with rfl | rfl | rfl <;> rfl) (by rcases q_s with rfl | rfl | rfl <;> rfl) (by rcases q_o with rfl | rfl | rfl <;> rfl) (by rcases q_s with rfl | rfl | rfl <;> rfl) rfl rfl (Or.inl rfl) (show Int32.toInt 0 = 0 from rfl) (show Int32.toInt 0 = 0 from rfl) (show Int32.toInt 24 = 24 from rfl) (by decide) (by decide) (by decide) (by decide) (by decide) rfl (by rcases q_s with rfl | rfl | rfl <;> rfl) (fun h13 I13 c13 u13 => ?_)
  have f13 := fr_cp (F := (F_X9_become s o)) (i := (s + 3)) (a := 0) (b := 23) f12 u13 (List.mem_of_getElem? (i := 6) rfl) (by decide) (by decide)
  refine te_aload_n (p2 := 85) rfl rfl rfl ?_
  refine tg_r (p2 := 88) (i := o) (r := (16 + (o + 4))) rfl rfl I13 rfl (by rcases q_o with rfl | rfl | rfl <;> rfl) (by rcases q_o with rfl | rfl | rfl <;> rfl) ?_
  refine te_iconst (p2 := 89) (x := 0) rfl rfl (by decide) ?_
  refine te_aload_n (p2 := 90) rfl rfl rfl ?_
  refine tg_r (p2 := 93) (i := s) (r := (16 + (s + 4))) rfl rfl I13 rfl (by rcases q_s with rfl | rfl | rfl <;> rfl) (by rcases q_s with rfl | rfl | rfl <;> rfl) ?_
  refine te_iconst (p2 := 94) (x := 0) rfl rfl (by decide) ?_
  refine te_bipush (p2 := 96) (x := 24) rfl rfl (by decide) ?_
  refine tc_cp (p2 := 99) (i1 := (o + 4)) (i2 := (s + 4)) (n1 := 24) (n2 := 24) rfl rfl I13 rfl rfl (by rcases q_o with rfl | rfl | rfl <;> rfl) (by rcases q_s with rfl | rfl | rfl <;> rfl) (by rcases q_o with rfl | rfl | rfl <;> rfl) (by rcases q_s with rfl | rfl | rfl <;> rfl) rfl rfl (Or.inl rfl) (show Int32.toInt 0 = 0 from rfl) (show Int32.toInt 0 = 0 from rfl) (show Int32.toInt 24 = 24 from rfl) (by decide) (by decide) (by decide) (by decide) (by decide) rfl (by rcases q_s with rfl | rfl | rfl <;> rfl) (fun h14 I14 c14 u14 => ?_)
  have f14 := fr_cp (F := (F_X9_become s o)) (i := (s + 4)) (a := 0) (b := 23) f13 u14 (List.mem_of_getElem? (i := 7) rfl) (by decide) (by decide)
  refine te_aload_n (p2 := 100) rfl rfl rfl ?_
  refine tg_r (p2 := 103) (i := o) (r := (16 + (o + 5))) rfl rfl I14 rfl (by rcases q_o with rfl | rfl | rfl <;> rfl) (by rcases q_o with rfl | rfl | rfl <;> rfl) ?_
  refine te_iconst (p2 := 104) (x := 0) rfl rfl (by decide) ?_
  refine te_aload_n (p2 := 105) rfl rfl rfl ?_
  refine tg_r (p2 := 108) (i := s) (r := (16 + (s + 5))) rfl rfl I14 rfl (by rcases q_s with rfl | rfl | rfl <;> rfl) (by rcases q_s with rfl | rfl | rfl <;> rfl) ?_
  refine te_iconst (p2 := 109) (x := 0) rfl rfl (by decide) ?_
  refine te_bipush (p2 := 111) (x := 24) rfl rfl (by decide) ?_
  refine tc_cp (p2 := 114) (i1 := (o + 5)) (i2 := (s + 5)) (n1 := 24) (n2 := 24) rfl rfl I14 rfl rfl (by rcases q_o with rfl | rfl | rfl <;> rfl) (by rcases q_s with rfl | rfl | rfl <;> rfl) (by rcases q_o with rfl | rfl | rfl <;> rfl) (by rcases q_s with rfl | rfl | rfl <;> rfl) rfl rfl (Or.inl rfl) (show Int32.toInt 0 = 0 from rfl) (show Int32.toInt 0 = 0 from rfl) (show Int32.toInt 24 = 24 from rfl) (by decide) (by decide) (by decide) (by decide) (by decide) rfl (by rcases q_s with rfl | rfl | rfl <;> rfl) (fun h15 I15 c15 u15 => ?_)
  have f15 := fr_cp (F := (F_X9_become s o)) (i := (s + 5)) (a := 0) (b := 23) f14 u15 (List.mem_of_getElem? (i := 8) rfl) (by decide) (by decide)
  refine te_aload_n (p2 := 115) rfl rfl rfl ?_
  refine tg_r (p2 := 118) (i := o) (r := (16 + (o + 6))) rfl rfl I15 rfl (by rcases q_o with rfl | rfl | rfl <;> rfl) (by rcases q_o with rfl | rfl | rfl <;> rfl) ?_
  refine te_iconst (p2 := 119) (x := 0) rfl rfl (by decide) ?_
  refine te_aload_n (p2 := 120) rfl rfl rfl ?_
  refine tg_r (p2 := 123) (i := s) (r := (16 + (s + 6))) rfl rfl I15 rfl (by rcases q_s with rfl | rfl | rfl <;> rfl) (by rcases q_s with rfl | rfl | rfl <;> rfl) ?_
  refine te_iconst (p2 := 124) (x := 0) rfl rfl (by decide) ?_
  refine te_bipush (p2 := 126) (x := 24) rfl rfl (by decide) ?_
  refine tc_cp (p2 := 129) (i1 := (o + 6)) (i2 := (s + 6)) (n1 := 24) (n2 := 24) rfl rfl I15 rfl rfl (by rcases q_o with rfl | rfl | rfl <;> rfl) (by rcases q_s with rfl | rfl | rfl <;> rfl) (by rcases q_o with rfl | rfl | rfl <;> rfl) (by rcases q_s with rfl | rfl | rfl <;> rfl) rfl rfl (Or.inl rfl) (show Int32.toInt 0 = 0 from rfl) (show Int32.toInt 0 = 0 from rfl) (show Int32.toInt 24 = 24 from rfl) (by decide) (by decide) (by decide) (by decide) (by decide) rfl (by rcases q_s with rfl | rfl | rfl <;> rfl) (fun h16 I16 c16 u16 => ?_)
  have f16 := fr_cp (F := (F_X9_become s o)) (i := (s + 6)) (a := 0) (b := 23) f15 u16 (List.mem_of_getElem? (i := 9) rfl) (by decide) (by decide)
  refine te_aload_n (p2 := 130) rfl rfl rfl ?_
  refine tg_r (p2 := 133) (i := o) (r := (16 + (o + 7))) rfl rfl I16 rfl (by rcases q_o with rfl | rfl | rfl <;> rfl) (by rcases q_o with rfl | rfl | rfl <;> rfl) ?_
  refine te_iconst (p2 := 134) (x := 0) rfl rfl (by decide) ?_
  refine te_aload_n (p2 := 135) rfl rfl rfl ?_
  refine tg_r (p2 := 138) (i := s) (r := (16 + (s + 7))) rfl rfl I16 rfl (by rcases q_s with rfl | rfl | rfl <;> rfl) (by rcases q_s with rfl | rfl | rfl <;> rfl) ?_
  refine te_iconst (p2 := 139) (x := 0) rfl rfl (by decide) ?_
  refine te_bipush (p2 := 141) (x := 24) rfl rfl (by decide) ?_
  refine tc_cp (p2 := 144) (i1 := (o + 7)) (i2 := (s + 7)) (n1 := 24) (n2 := 24) rfl rfl I16 rfl rfl (by rcases q_o with rfl | rfl | rfl <;> rfl) (by rcases q_s with rfl | rfl | rfl <;> rfl) (by rcases q_o with rfl | rfl | rfl <;> rfl) (by rcases q_s with rfl | rfl | rfl <;> rfl) rfl rfl (Or.inr ⟨rfl, rfl, rfl⟩) (show Int32.toInt 0 = 0 from rfl) (show Int32.toInt 0 = 0 from rfl) (show Int32.toInt 24 = 24 from rfl) (by decide) (by decide) (by decide) (by decide) (by decide) rfl (by rcases q_s with rfl | rfl | rfl <;> rfl) (fun h17 I17 c17 u17 => ?_)
  have f17 := fr_cp (F := (F_X9_become s o)) (i := (s + 7)) (a := 0) (b := 23) f16 u17 (List.mem_of_getElem? (i := 10) rfl) (by decide) (by decide)
  refine te_aload_n (p2 := 145) rfl rfl rfl ?_
  refine tg_r (p2 := 148) (i := o) (r := (16 + (o + 8))) rfl rfl I17 rfl (by rcases q_o with rfl | rfl | rfl <;> rfl) (by rcases q_o with rfl | rfl | rfl <;> rfl) ?_
  refine te_iconst (p2 := 149) (x := 0) rfl rfl (by decide) ?_
  refine te_aload_n (p2 := 150) rfl rfl rfl ?_
  refine tg_r (p2 := 153) (i := s) (r := (16 + (s + 8))) rfl rfl I17 rfl (by rcases q_s with rfl | rfl | rfl <;> rfl) (by rcases q_s with rfl | rfl | rfl <;> rfl) ?_
  refine te_iconst (p2 := 154) (x := 0) rfl rfl (by decide) ?_
  refine te_bipush (p2 := 156) (x := 16) rfl rfl (by decide) ?_
  refine tc_cp (p2 := 159) (i1 := (o + 8)) (i2 := (s + 8)) (n1 := 16) (n2 := 16) rfl rfl I17 rfl rfl (by rcases q_o with rfl | rfl | rfl <;> rfl) (by rcases q_s with rfl | rfl | rfl <;> rfl) (by rcases q_o with rfl | rfl | rfl <;> rfl) (by rcases q_s with rfl | rfl | rfl <;> rfl) rfl rfl (Or.inl rfl) (show Int32.toInt 0 = 0 from rfl) (show Int32.toInt 0 = 0 from rfl) (show Int32.toInt 16 = 16 from rfl) (by decide) (by decide) (by decide) (by decide) (by decide) rfl (by rcases q_s with rfl | rfl | rfl <;> rfl) (fun h18 I18 c18 u18 => ?_)
  have f18 := fr_cp (F := (F_X9_become s o)) (i := (s + 8)) (a := 0) (b := 15) f17 u18 (List.mem_of_getElem? (i := 11) rfl) (by decide) (by decide)
  refine te_aload_n (p2 := 160) rfl rfl rfl ?_
  refine tg_r (p2 := 163) (i := o) (r := (16 + (o + 9))) rfl rfl I18 rfl (by rcases q_o with rfl | rfl | rfl <;> rfl) (by rcases q_o with rfl | rfl | rfl <;> rfl) ?_
  refine te_iconst (p2 := 164) (x := 0) rfl rfl (by decide) ?_
  refine te_aload_n (p2 := 165) rfl rfl rfl ?_
  refine tg_r (p2 := 168) (i := s) (r := (16 + (s + 9))) rfl rfl I18 rfl (by rcases q_s with rfl | rfl | rfl <;> rfl) (by rcases q_s with rfl | rfl | rfl <;> rfl) ?_
  refine te_iconst (p2 := 169) (x := 0) rfl rfl (by decide) ?_
  refine te_bipush (p2 := 171) (x := 16) rfl rfl (by decide) ?_
  refine tc_cp (p2 := 174) (i1 := (o + 9)) (i2 := (s + 9)) (n1 := 16) (n2 := 16) rfl rfl I18 rfl rfl (by rcases q_o with rfl | rfl | rfl <;> rfl) (by rcases q_s with rfl | rfl | rfl <;> rfl) (by rcases q_o with rfl | rfl | rfl <;> rfl) (by rcases q_s with rfl | rfl | rfl <;> rfl) rfl rfl (Or.inr ⟨rfl, rfl, rfl⟩) (show Int32.toInt 0 = 0 from rfl) (show Int32.toInt 0 = 0 from rfl) (show Int32.toInt 16 = 16 from rfl) (by decide) (by decide) (by decide) (by decide) (by decide) rfl (by rcases q_s with rfl | rfl | rfl <;> rfl) (fun h19 I19 c19 u19 => ?_)
  have f19 := fr_cp (F := (F_X9_become s o)) (i := (s + 9)) (a := 0) (b := 15) f18 u19 (List.mem_of_getElem? (i := 12) rfl) (by decide) (by decide)
  refine te_aload_n (p2 := 175) rfl rfl rfl ?_
  refine tg_r (p2 := 178) (i := o) (r := (16 + (o + 10))) rfl rfl I19 rfl (by rcases q_o with rfl | rfl | rfl <;> rfl) (by rcases q_o with rfl | rfl | rfl <;> rfl) ?_
  refine te_iconst (p2 := 179) (x := 0) rfl rfl (by decide) ?_
  refine te_aload_n (p2 := 180) rfl rfl rfl ?_
  refine tg_r (p2 := 183) (i := s) (r := (16 + (s + 10))) rfl rfl I19 rfl (by rcases q_s with rfl | rfl | rfl <;> rfl) (by rcases q_s with rfl | rfl | rfl <;> rfl) ?_
  refine te_iconst (p2 := 184) (x := 0) rfl rfl (by decide) ?_
  refine te_bipush (p2 := 186) (x := 12) rfl rfl (by decide) ?_
  refine tc_cp (p2 := 189) (i1 := (o + 10)) (i2 := (s + 10)) (n1 := 12) (n2 := 12) rfl rfl I19 rfl rfl (by rcases q_o with rfl | rfl | rfl <;> rfl) (by rcases q_s with rfl | rfl | rfl <;> rfl) (by rcases q_o with rfl | rfl | rfl <;> rfl) (by rcases q_s with rfl | rfl | rfl <;> rfl) rfl rfl (Or.inr ⟨rfl, rfl, rfl⟩) (show Int32.toInt 0 = 0 from rfl) (show Int32.toInt 0 = 0 from rfl) (show Int32.toInt 12 = 12 from rfl) (by decide) (by decide) (by decide) (by decide) (by decide) rfl (by rcases q_s with rfl | rfl | rfl <;> rfl) (fun h20 I20 c20 u20 => ?_)
  have f20 := fr_cp (F := (F_X9_become s o)) (i := (s + 10)) (a := 0) (b := 11) f19 u20 (List.mem_of_getElem? (i := 1) rfl) (by decide) (by decide)
  refine te_aload_n (p2 := 190) rfl rfl rfl ?_
  refine tg_r (p2 := 193) (i := o) (r := (16 + (o + 11))) rfl rfl I20 rfl (by rcases q_o with rfl | rfl | rfl <;> rfl) (by rcases q_o with rfl | rfl | rfl <;> rfl) ?_
  refine te_iconst (p2 := 194) (x := 0) rfl rfl (by decide) ?_
  refine te_aload_n (p2 := 195) rfl rfl rfl ?_
  refine tg_r (p2 := 198) (i := s) (r := (16 + (s + 11))) rfl rfl I20 rfl (by rcases q_s with rfl | rfl | rfl <;> rfl) (by rcases q_s with rfl | rfl | rfl <;> rfl) ?_
  refine te_iconst (p2 := 199) (x := 0) rfl rfl (by decide) ?_
  refine te_iconst (p2 := 200) (x := 4) rfl rfl (by decide) ?_
  refine tc_cp (p2 := 203) (i1 := (o + 11)) (i2 := (s + 11)) (n1 := 4) (n2 := 4) rfl rfl I20 rfl rfl (by rcases q_o with rfl | rfl | rfl <;> rfl) (by rcases q_s with rfl | rfl | rfl <;> rfl) (by rcases q_o with rfl | rfl | rfl <;> rfl) (by rcases q_s with rfl | rfl | rfl <;> rfl) rfl rfl (Or.inl rfl) (show Int32.toInt 0 = 0 from rfl) (show Int32.toInt 0 = 0 from rfl) (show Int32.toInt 4 = 4 from rfl) (by decide) (by decide) (by decide) (by decide) (by decide) rfl (by rcases q_s with rfl | rfl | rfl <;> rfl) (fun h21 I21 c21 u21 => ?_)
  have f21 := fr_cp (F := (F_X9_become s o)) (i := (s + 11)) (a := 0) (b := 3) f20 u21 (List.mem_of_getElem? (i := 2) rfl) (by decide) (by decide)
  refine te_aload_n (p2 := 204) rfl rfl rfl ?_
  refine tg_r (p2 := 207) (i := o) (r := (16 + (o + 12))) rfl rfl I21 rfl (by rcases q_o with rfl | rfl | rfl <;> rfl) (by rcases q_o with rfl | rfl | rfl <;> rfl) ?_
  refine te_iconst (p2 := 208) (x := 0) rfl rfl (by decide) ?_
  refine te_aload_n (p2 := 209) rfl rfl rfl ?_
  refine tg_r (p2 := 212) (i := s) (r := (16 + (s + 12))) rfl rfl I21 rfl (by rcases q_s with rfl | rfl | rfl <;> rfl) (by rcases q_s with rfl | rfl | rfl <;> rfl) ?_
  refine te_iconst (p2 := 213) (x := 0) rfl rfl (by decide) ?_
  refine te_iconst (p2 := 214) (x := 4) rfl rfl (by decide) ?_
  refine tc_cp (p2 := 217) (i1 := (o + 12)) (i2 := (s + 12)) (n1 := 4) (n2 := 4) rfl rfl I21 rfl rfl (by rcases q_o with rfl | rfl | rfl <;> rfl) (by rcases q_s with rfl | rfl | rfl <;> rfl) (by rcases q_o with rfl | rfl | rfl <;> rfl) (by rcases q_s with rfl | rfl | rfl <;> rfl) rfl rfl (Or.inl rfl) (show Int32.toInt 0 = 0 from rfl) (show Int32.toInt 0 = 0 from rfl) (show Int32.toInt 4 = 4 from rfl) (by decide) (by decide) (by decide) (by decide) (by decide) rfl (by rcases q_s with rfl | rfl | rfl <;> rfl) (fun h22 I22 c22 u22 => ?_)
  have f22 := fr_cp (F := (F_X9_become s o)) (i := (s + 12)) (a := 0) (b := 3) f21 u22 (List.mem_of_getElem? (i := 3) rfl) (by decide) (by decide)
  refine te_aload_n (p2 := 218) rfl rfl rfl ?_
  refine tg_r (p2 := 221) (i := o) (r := (16 + (o + 13))) rfl rfl I22 rfl (by rcases q_o with rfl | rfl | rfl <;> rfl) (by rcases q_o with rfl | rfl | rfl <;> rfl) ?_
  refine te_iconst (p2 := 222) (x := 0) rfl rfl (by decide) ?_
  refine te_aload_n (p2 := 223) rfl rfl rfl ?_
  refine tg_r (p2 := 226) (i := s) (r := (16 + (s + 13))) rfl rfl I22 rfl (by rcases q_s with rfl | rfl | rfl <;> rfl) (by rcases q_s with rfl | rfl | rfl <;> rfl) ?_
  refine te_iconst (p2 := 227) (x := 0) rfl rfl (by decide) ?_
  refine te_iconst (p2 := 228) (x := 3) rfl rfl (by decide) ?_
  refine tc_cp (p2 := 231) (i1 := (o + 13)) (i2 := (s + 13)) (n1 := 3) (n2 := 3) rfl rfl I22 rfl rfl (by rcases q_o with rfl | rfl | rfl <;> rfl) (by rcases q_s with rfl | rfl | rfl <;> rfl) (by rcases q_o with rfl | rfl | rfl <;> rfl) (by rcases q_s with rfl | rfl | rfl <;> rfl) rfl rfl (Or.inl rfl) (show Int32.toInt 0 = 0 from rfl) (show Int32.toInt 0 = 0 from rfl) (show Int32.toInt 3 = 3 from rfl) (by decide) (by decide) (by decide) (by decide) (by decide) rfl (by rcases q_s with rfl | rfl | rfl <;> rfl) (fun h23 I23 c23 u23 => ?_)
  have f23 := fr_cp (F := (F_X9_become s o)) (i := (s + 13)) (a := 0) (b := 2) f22 u23 (List.mem_of_getElem? (i := 4) rfl) (by decide) (by decide)
  exact te_vret rfl rfl ⟨I23, f23, rfl, ⟨((u23 _ _ (Or.inl (by omega))).trans ((u22 _ _ (Or.inl (by omega))).trans ((u21 _ _ (Or.inl (by omega))).trans ((u20 _ _ (Or.inl (by omega))).trans ((u19 _ _ (Or.inl (by omega))).trans ((u18 _ _ (Or.inl (by omega))).trans ((u17 _ _ (Or.inl (by omega))).trans ((u16 _ _ (Or.inl (by omega))).trans ((u15 _ _ (Or.inl (by omega))).trans ((u14 _ _ (Or.inl (by omega))).trans ((u13 _ _ (Or.inl (by omega))).trans ((u12 _ _ (Or.inl (by omega))).trans ((u11 _ _ (Or.inl (by omega))).trans ((u10.2 _ _ (Or.inr (by decide))).trans ((u8.2 _ _ (Or.inr (by decide))).trans ((u6.2 _ _ (Or.inr (by decide))).trans ((u4.2 _ _ (Or.inr (by decide))).trans u2.1))))))))))))))))).trans e1.symm, (((u23 _ _ (Or.inl (by omega))).trans ((u22 _ _ (Or.inl (by omega))).trans ((u21 _ _ (Or.inl (by omega))).trans ((u20 _ _ (Or.inl (by omega))).trans ((u19 _ _ (Or.inl (by omega))).trans ((u18 _ _ (Or.inl (by omega))).trans ((u17 _ _ (Or.inl (by omega))).trans ((u16 _ _ (Or.inl (by omega))).trans ((u15 _ _ (Or.inl (by omega))).trans ((u14 _ _ (Or.inl (by omega))).trans ((u13 _ _ (Or.inl (by omega))).trans ((u12 _ _ (Or.inl (by omega))).trans ((u11 _ _ (Or.inl (by omega))).trans ((u10.2 _ _ (Or.inr (by decide))).trans ((u8.2 _ _ (Or.inr (by decide))).trans ((u6.2 _ _ (Or.inr (by decide))).trans u4.1)))))))))))))))).trans e3.symm).trans (u2.2 _ _ (Or.inr (by decide))), ((((u23 _ _ (Or.inl (by omega))).trans ((u22 _ _ (Or.inl (by omega))).trans ((u21 _ _ (Or.inl (by omega))).trans ((u20 _ _ (Or.inl (by omega))).trans ((u19 _ _ (Or.inl (by omega))).trans ((u18 _ _ (Or.inl (by omega))).trans ((u17 _ _ (Or.inl (by omega))).trans ((u16 _ _ (Or.inl (by omega))).trans ((u15 _ _ (Or.inl (by omega))).trans ((u14 _ _ (Or.inl (by omega))).trans ((u13 _ _ (Or.inl (by omega))).trans ((u12 _ _ (Or.inl (by omega))).trans ((u11 _ _ (Or.inl (by omega))).trans ((u10.2 _ _ (Or.inr (by decide))).trans ((u8.2 _ _ (Or.inr (by decide))).trans u6.1))))))))))))))).trans e5.symm).trans (u4.2 _ _ (Or.inr (by decide)))).trans (u2.2 _ _ (Or.inr (by decide))), (((((u23 _ _ (Or.inl (by omega))).trans ((u22 _ _ (Or.inl (by omega))).trans ((u21 _ _ (Or.inl (by omega))).trans ((u20 _ _ (Or.inl (by omega))).trans ((u19 _ _ (Or.inl (by omega))).trans ((u18 _ _ (Or.inl (by omega))).trans ((u17 _ _ (Or.inl (by omega))).trans ((u16 _ _ (Or.inl (by omega))).trans ((u15 _ _ (Or.inl (by omega))).trans ((u14 _ _ (Or.inl (by omega))).trans ((u13 _ _ (Or.inl (by omega))).trans ((u12 _ _ (Or.inl (by omega))).trans ((u11 _ _ (Or.inl (by omega))).trans ((u10.2 _ _ (Or.inr (by decide))).trans u8.1)))))))))))))).trans e7.symm).trans (u6.2 _ _ (Or.inr (by decide)))).trans (u4.2 _ _ (Or.inr (by decide)))).trans (u2.2 _ _ (Or.inr (by decide))), ((((((u23 _ _ (Or.inl (by omega))).trans ((u22 _ _ (Or.inl (by omega))).trans ((u21 _ _ (Or.inl (by omega))).trans ((u20 _ _ (Or.inl (by omega))).trans ((u19 _ _ (Or.inl (by omega))).trans ((u18 _ _ (Or.inl (by omega))).trans ((u17 _ _ (Or.inl (by omega))).trans ((u16 _ _ (Or.inl (by omega))).trans ((u15 _ _ (Or.inl (by omega))).trans ((u14 _ _ (Or.inl (by omega))).trans ((u13 _ _ (Or.inl (by omega))).trans ((u12 _ _ (Or.inl (by omega))).trans ((u11 _ _ (Or.inl (by omega))).trans u10.1))))))))))))).trans e9.symm).trans (u8.2 _ _ (Or.inr (by decide)))).trans (u6.2 _ _ (Or.inr (by decide)))).trans (u4.2 _ _ (Or.inr (by decide)))).trans (u2.2 _ _ (Or.inr (by decide)))⟩, (fun k hk => ((((((u23 _ _ (Or.inl (by omega))).trans ((u22 _ _ (Or.inl (by omega))).trans ((u21 _ _ (Or.inl (by omega))).trans ((u20 _ _ (Or.inl (by omega))).trans ((u19 _ _ (Or.inl (by omega))).trans ((u18 _ _ (Or.inl (by omega))).trans ((u17 _ _ (Or.inl (by omega))).trans ((u16 _ _ (Or.inl (by omega))).trans ((u15 _ _ (Or.inl (by omega))).trans ((u14 _ _ (Or.inl (by omega))).trans ((u13 _ _ (Or.inl (by omega))).trans ((u12 _ _ (Or.inl (by omega))).trans ((c11 k (by omega) (by omega)).trans (congrArg (fun t => rd h10 (o + 1) t) (show (0 : Int).toNat + (k - (0 : Int).toNat) = k by omega))))))))))))))).trans (u10.2 _ _ (Or.inl (by omega)))).trans (u8.2 _ _ (Or.inl (by omega)))).trans (u6.2 _ _ (Or.inl (by omega)))).trans (u4.2 _ _ (Or.inl (by omega)))).trans (u2.2 _ _ (Or.inl (by omega)))), (fun k hk => (((((((u23 _ _ (Or.inl (by omega))).trans ((u22 _ _ (Or.inl (by omega))).trans ((u21 _ _ (Or.inl (by omega))).trans ((u20 _ _ (Or.inl (by omega))).trans ((u19 _ _ (Or.inl (by omega))).trans ((u18 _ _ (Or.inl (by omega))).trans ((u17 _ _ (Or.inl (by omega))).trans ((u16 _ _ (Or.inl (by omega))).trans ((u15 _ _ (Or.inl (by omega))).trans ((u14 _ _ (Or.inl (by omega))).trans ((u13 _ _ (Or.inl (by omega))).trans ((c12 k (by omega) (by omega)).trans (congrArg (fun t => rd h11 (o + 2) t) (show (0 : Int).toNat + (k - (0 : Int).toNat) = k by omega)))))))))))))).trans (u11 _ _ (Or.inl (by omega)))).trans (u10.2 _ _ (Or.inl (by omega)))).trans (u8.2 _ _ (Or.inl (by omega)))).trans (u6.2 _ _ (Or.inl (by omega)))).trans (u4.2 _ _ (Or.inl (by omega)))).trans (u2.2 _ _ (Or.inl (by omega)))), (fun k hk => ((((((((u23 _ _ (Or.inl (by omega))).trans ((u22 _ _ (Or.inl (by omega))).trans ((u21 _ _ (Or.inl (by omega))).trans ((u20 _ _ (Or.inl (by omega))).trans ((u19 _ _ (Or.inl (by omega))).trans ((u18 _ _ (Or.inl (by omega))).trans ((u17 _ _ (Or.inl (by omega))).trans ((u16 _ _ (Or.inl (by omega))).trans ((u15 _ _ (Or.inl (by omega))).trans ((u14 _ _ (Or.inl (by omega))).trans ((c13 k (by omega) (by omega)).trans (congrArg (fun t => rd h12 (o + 3) t) (show (0 : Int).toNat + (k - (0 : Int).toNat) = k by omega))))))))))))).trans (u12 _ _ (Or.inl (by omega)))).trans (u11 _ _ (Or.inl (by omega)))).trans (u10.2 _ _ (Or.inl (by omega)))).trans (u8.2 _ _ (Or.inl (by omega)))).trans (u6.2 _ _ (Or.inl (by omega)))).trans (u4.2 _ _ (Or.inl (by omega)))).trans (u2.2 _ _ (Or.inl (by omega)))), (fun k hk => (((((((((u23 _ _ (Or.inl (by omega))).trans ((u22 _ _ (Or.inl (by omega))).trans ((u21 _ _ (Or.inl (by omega))).trans ((u20 _ _ (Or.inl (by omega))).trans ((u19 _ _ (Or.inl (by omega))).trans ((u18 _ _ (Or.inl (by omega))).trans ((u17 _ _ (Or.inl (by omega))).trans ((u16 _ _ (Or.inl (by omega))).trans ((u15 _ _ (Or.inl (by omega))).trans ((c14 k (by omega) (by omega)).trans (congrArg (fun t => rd h13 (o + 4) t) (show (0 : Int).toNat + (k - (0 : Int).toNat) = k by omega)))))))))))).trans (u13 _ _ (Or.inl (by omega)))).trans (u12 _ _ (Or.inl (by omega)))).trans (u11 _ _ (Or.inl (by omega)))).trans (u10.2 _ _ (Or.inl (by omega)))).trans (u8.2 _ _ (Or.inl (by omega)))).trans (u6.2 _ _ (Or.inl (by omega)))).trans (u4.2 _ _ (Or.inl (by omega)))).trans (u2.2 _ _ (Or.inl (by omega)))), (fun k hk => ((((((((((u23 _ _ (Or.inl (by omega))).trans ((u22 _ _ (Or.inl (by omega))).trans ((u21 _ _ (Or.inl (by omega))).trans ((u20 _ _ (Or.inl (by omega))).trans ((u19 _ _ (Or.inl (by omega))).trans ((u18 _ _ (Or.inl (by omega))).trans ((u17 _ _ (Or.inl (by omega))).trans ((u16 _ _ (Or.inl (by omega))).trans ((c15 k (by omega) (by omega)).trans (congrArg (fun t => rd h14 (o + 5) t) (show (0 : Int).toNat + (k - (0 : Int).toNat) = k by omega))))))))))).trans (u14 _ _ (Or.inl (by omega)))).trans (u13 _ _ (Or.inl (by omega)))).trans (u12 _ _ (Or.inl (by omega)))).trans (u11 _ _ (Or.inl (by omega)))).trans (u10.2 _ _ (Or.inl (by omega)))).trans (u8.2 _ _ (Or.inl (by omega)))).trans (u6.2 _ _ (Or.inl (by omega)))).trans (u4.2 _ _ (Or.inl (by omega)))).trans (u2.2 _ _ (Or.inl (by omega)))), (fun k hk => (((((((((((u23 _ _ (Or.inl (by omega))).trans ((u22 _ _ (Or.inl (by omega))).trans ((u21 _ _ (Or.inl (by omega))).trans ((u20 _ _ (Or.inl (by omega))).trans ((u19 _ _ (Or.inl (by omega))).trans ((u18 _ _ (Or.inl (by omega))).trans ((u17 _ _ (Or.inl (by omega))).trans ((c16 k (by omega) (by omega)).trans (congrArg (fun t => rd h15 (o + 6) t) (show (0 : Int).toNat + (k - (0 : Int).toNat) = k by omega)))))))))).trans (u15 _ _ (Or.inl (by omega)))).trans (u14 _ _ (Or.inl (by omega)))).trans (u13 _ _ (Or.inl (by omega)))).trans (u12 _ _ (Or.inl (by omega)))).trans (u11 _ _ (Or.inl (by omega)))).trans (u10.2 _ _ (Or.inl (by omega)))).trans (u8.2 _ _ (Or.inl (by omega)))).trans (u6.2 _ _ (Or.inl (by omega)))).trans (u4.2 _ _ (Or.inl (by omega)))).trans (u2.2 _ _ (Or.inl (by omega)))), (fun k hk => ((((((((((((u23 _ _ (Or.inl (by omega))).trans ((u22 _ _ (Or.inl (by omega))).trans ((u21 _ _ (Or.inl (by omega))).trans ((u20 _ _ (Or.inl (by omega))).trans ((u19 _ _ (Or.inl (by omega))).trans ((u18 _ _ (Or.inl (by omega))).trans ((c17 k (by omega) (by omega)).trans (congrArg (fun t => rd h16 (o + 7) t) (show (0 : Int).toNat + (k - (0 : Int).toNat) = k by omega))))))))).trans (u16 _ _ (Or.inl (by omega)))).trans (u15 _ _ (Or.inl (by omega)))).trans (u14 _ _ (Or.inl (by omega)))).trans (u13 _ _ (Or.inl (by omega)))).trans (u12 _ _ (Or.inl (by omega)))).trans (u11 _ _ (Or.inl (by omega)))).trans (u10.2 _ _ (Or.inl (by omega)))).trans (u8.2 _ _ (Or.inl (by omega)))).trans (u6.2 _ _ (Or.inl (by omega)))).trans (u4.2 _ _ (Or.inl (by omega)))).trans (u2.2 _ _ (Or.inl (by omega)))), (fun k hk => (((((((((((((u23 _ _ (Or.inl (by omega))).trans ((u22 _ _ (Or.inl (by omega))).trans ((u21 _ _ (Or.inl (by omega))).trans ((u20 _ _ (Or.inl (by omega))).trans ((u19 _ _ (Or.inl (by omega))).trans ((c18 k (by omega) (by omega)).trans (congrArg (fun t => rd h17 (o + 8) t) (show (0 : Int).toNat + (k - (0 : Int).toNat) = k by omega)))))))).trans (u17 _ _ (Or.inl (by omega)))).trans (u16 _ _ (Or.inl (by omega)))).trans (u15 _ _ (Or.inl (by omega)))).trans (u14 _ _ (Or.inl (by omega)))).trans (u13 _ _ (Or.inl (by omega)))).trans (u12 _ _ (Or.inl (by omega)))).trans (u11 _ _ (Or.inl (by omega)))).trans (u10.2 _ _ (Or.inl (by omega)))).trans (u8.2 _ _ (Or.inl (by omega)))).trans (u6.2 _ _ (Or.inl (by omega)))).trans (u4.2 _ _ (Or.inl (by omega)))).trans (u2.2 _ _ (Or.inl (by omega)))), (fun k hk => ((((((((((((((u23 _ _ (Or.inl (by omega))).trans ((u22 _ _ (Or.inl (by omega))).trans ((u21 _ _ (Or.inl (by omega))).trans ((u20 _ _ (Or.inl (by omega))).trans ((c19 k (by omega) (by omega)).trans (congrArg (fun t => rd h18 (o + 9) t) (show (0 : Int).toNat + (k - (0 : Int).toNat) = k by omega))))))).trans (u18 _ _ (Or.inl (by omega)))).trans (u17 _ _ (Or.inl (by omega)))).trans (u16 _ _ (Or.inl (by omega)))).trans (u15 _ _ (Or.inl (by omega)))).trans (u14 _ _ (Or.inl (by omega)))).trans (u13 _ _ (Or.inl (by omega)))).trans (u12 _ _ (Or.inl (by omega)))).trans (u11 _ _ (Or.inl (by omega)))).trans (u10.2 _ _ (Or.inl (by omega)))).trans (u8.2 _ _ (Or.inl (by omega)))).trans (u6.2 _ _ (Or.inl (by omega)))).trans (u4.2 _ _ (Or.inl (by omega)))).trans (u2.2 _ _ (Or.inl (by omega)))), (fun k hk => (((((((((((((((u23 _ _ (Or.inl (by omega))).trans ((u22 _ _ (Or.inl (by omega))).trans ((u21 _ _ (Or.inl (by omega))).trans ((c20 k (by omega) (by omega)).trans (congrArg (fun t => rd h19 (o + 10) t) (show (0 : Int).toNat + (k - (0 : Int).toNat) = k by omega)))))).trans (u19 _ _ (Or.inl (by omega)))).trans (u18 _ _ (Or.inl (by omega)))).trans (u17 _ _ (Or.inl (by omega)))).trans (u16 _ _ (Or.inl (by omega)))).trans (u15 _ _ (Or.inl (by omega)))).trans (u14 _ _ (Or.inl (by omega)))).trans (u13 _ _ (Or.inl (by omega)))).trans (u12 _ _ (Or.inl (by omega)))).trans (u11 _ _ (Or.inl (by omega)))).trans (u10.2 _ _ (Or.inl (by omega)))).trans (u8.2 _ _ (Or.inl (by omega)))).trans (u6.2 _ _ (Or.inl (by omega)))).trans (u4.2 _ _ (Or.inl (by omega)))).trans (u2.2 _ _ (Or.inl (by omega)))), (fun k hk => ((((((((((((((((u23 _ _ (Or.inl (by omega))).trans ((u22 _ _ (Or.inl (by omega))).trans ((c21 k (by omega) (by omega)).trans (congrArg (fun t => rd h20 (o + 11) t) (show (0 : Int).toNat + (k - (0 : Int).toNat) = k by omega))))).trans (u20 _ _ (Or.inl (by omega)))).trans (u19 _ _ (Or.inl (by omega)))).trans (u18 _ _ (Or.inl (by omega)))).trans (u17 _ _ (Or.inl (by omega)))).trans (u16 _ _ (Or.inl (by omega)))).trans (u15 _ _ (Or.inl (by omega)))).trans (u14 _ _ (Or.inl (by omega)))).trans (u13 _ _ (Or.inl (by omega)))).trans (u12 _ _ (Or.inl (by omega)))).trans (u11 _ _ (Or.inl (by omega)))).trans (u10.2 _ _ (Or.inl (by omega)))).trans (u8.2 _ _ (Or.inl (by omega)))).trans (u6.2 _ _ (Or.inl (by omega)))).trans (u4.2 _ _ (Or.inl (by omega)))).trans (u2.2 _ _ (Or.inl (by omega)))), (fun k hk => (((((((((((((((((u23 _ _ (Or.inl (by omega))).trans ((c22 k (by omega) (by omega)).trans (congrArg (fun t => rd h21 (o + 12) t) (show (0 : Int).toNat + (k - (0 : Int).toNat) = k by omega)))).trans (u21 _ _ (Or.inl (by omega)))).trans (u20 _ _ (Or.inl (by omega)))).trans (u19 _ _ (Or.inl (by omega)))).trans (u18 _ _ (Or.inl (by omega)))).trans (u17 _ _ (Or.inl (by omega)))).trans (u16 _ _ (Or.inl (by omega)))).trans (u15 _ _ (Or.inl (by omega)))).trans (u14 _ _ (Or.inl (by omega)))).trans (u13 _ _ (Or.inl (by omega)))).trans (u12 _ _ (Or.inl (by omega)))).trans (u11 _ _ (Or.inl (by omega)))).trans (u10.2 _ _ (Or.inl (by omega)))).trans (u8.2 _ _ (Or.inl (by omega)))).trans (u6.2 _ _ (Or.inl (by omega)))).trans (u4.2 _ _ (Or.inl (by omega)))).trans (u2.2 _ _ (Or.inl (by omega)))), (fun k hk => ((((((((((((((((((c23 k (by omega) (by omega)).trans (congrArg (fun t => rd h22 (o + 13) t) (show (0 : Int).toNat + (k - (0 : Int).toNat) = k by omega))).trans (u22 _ _ (Or.inl (by omega)))).trans (u21 _ _ (Or.inl (by omega)))).trans (u20 _ _ (Or.inl (by omega)))).trans (u19 _ _ (Or.inl (by omega)))).trans (u18 _ _ (Or.inl (by omega)))).trans (u17 _ _ (Or.inl (by omega)))).trans (u16 _ _ (Or.inl (by omega)))).trans (u15 _ _ (Or.inl (by omega)))).trans (u14 _ _ (Or.inl (by omega)))).trans (u13 _ _ (Or.inl (by omega)))).trans (u12 _ _ (Or.inl (by omega)))).trans (u11 _ _ (Or.inl (by omega)))).trans (u10.2 _ _ (Or.inl (by omega)))).trans (u8.2 _ _ (Or.inl (by omega)))).trans (u6.2 _ _ (Or.inl (by omega)))).trans (u4.2 _ _ (Or.inl (by omega)))).trans (u2.2 _ _ (Or.inl (by omega))))⟩
abbrev Q1_image (y : Int32) (h h2 : im_H) : Prop := rd h 23 0 = some (.int y) ∧ bec 51 23 h h2 ∧ rd h2 0 4 = some (.int 1)
set_option maxRecDepth 20000 in
set_option maxHeartbeats 4000000 in
theorem c_X11_image  {h : im_H} (hI : tI h)  : CaP 2 102 [.ref 16] h (fun v h2 => tI h2 ∧ fr F_X11_image h h2 ∧ ∃ y : Int32, v = some (.int y) ∧ Q1_image y h h2) := by
  refine cap_of (d := 1) (M := mX11_image) rfl (Nat.le_of_ble_eq_true rfl) ?_
  show EvP im_K0 1 mX11_image (0, [(0, .ref 16)], [], h) _
  have f0 : fr F_X11_image h h := fr_rf
  refine te_aload_n (p2 := 1) rfl rfl rfl ?_
  refine tg_r (p2 := 4) (i := 0) (r := 67) rfl rfl hI rfl rfl rfl ?_
  refine te_aload_n (p2 := 5) rfl rfl rfl ?_
  refine tg_r (p2 := 8) (i := 0) (r := 39) rfl rfl hI rfl rfl rfl ?_
  obtain ⟨v2, e2, y2, w2, a2, b2, _⟩ := hI.2.1 23 0 (.inl ((-2147483648), 2147483647, 9999999999)) rfl
  subst w2
  refine tc_V (p2 := 11) (i := 51) rfl rfl rfl rfl hI rfl rfl rfl (c_X9_become (s := 51) (o := 23) hI (by decide) (by decide)) (by decide) (fun v1 h1 hq1 => ?_)
  obtain ⟨I1, g1, w1, B1⟩ := hq1
  subst w1
  have f1 := fr_tr (F1 := (F_X9_become 51 23)) (F := F_X11_image) f0 g1 (by decide)
  show EvP _ _ _ (11, [(0, .ref 16)], [], h1) _
  refine te_aload_n (p2 := 12) rfl rfl rfl ?_
  refine te_iconst (p2 := 13) (x := 1) rfl rfl (by decide) ?_
  refine tp_i (p2 := 16) (i := 0) rfl rfl I1 rfl rfl (by decide) rfl rfl rfl (by decide) (by decide) (by decide) rfl (fun h3 I3 u3 => ?_)
  have f3 := fr_st (F := F_X11_image) 0 f1 u3 rfl (by decide) (by decide)
  refine te_aload_n (p2 := 17) rfl rfl rfl ?_
  refine tg_r (p2 := 20) (i := 0) (r := 39) rfl rfl I3 rfl rfl rfl ?_
  refine tg_e (p2 := 23) (i := 23) (v := .int y2) rfl rfl I3 rfl rfl ((u3.2 _ _ (Or.inl (by decide))).trans ((g1 _ _ rfl).trans e2)) ?_
  exact te_iret rfl rfl ⟨I3, f3, _, rfl, e2, (bec_r B1 (fun i k _ _ => u3.2 _ _ (Or.inl (by omega)))), u3.1⟩
abbrev Q1_back (y : Int32) (h h2 : im_H) : Prop := ∃ b : Int32, rd h 0 4 = some (.int b) ∧ ((b.toInt = 0 ∧ y = -3 ∧ h2 = h) ∨ (b.toInt ≠ 0 ∧ rd h 51 0 = some (.int y) ∧ bec 23 51 h h2))
set_option maxRecDepth 20000 in
set_option maxHeartbeats 4000000 in
theorem c_X11_back  {h : im_H} (hI : tI h)  : CaP 2 103 [.ref 16] h (fun v h2 => tI h2 ∧ fr F_X11_back h h2 ∧ ∃ y : Int32, v = some (.int y) ∧ Q1_back y h h2) := by
  refine cap_of (d := 1) (M := mX11_back) rfl (Nat.le_of_ble_eq_true rfl) ?_
  show EvP im_K0 1 mX11_back (0, [(0, .ref 16)], [], h) _
  have f0 : fr F_X11_back h h := fr_rf
  refine te_aload_n (p2 := 1) rfl rfl rfl ?_
  refine tg_i (p2 := 4) (i := 0) rfl rfl hI rfl rfl rfl (fun y1 a1 b1 e1 => ?_)
  refine tz_ne (p2 := 7) rfl rfl rfl (fun c2 => ?_) (fun c2 => ?_)
  · refine te_aload_n (p2 := 11) rfl rfl rfl ?_
    refine tg_r (p2 := 14) (i := 0) (r := 39) rfl rfl hI rfl rfl rfl ?_
    refine te_aload_n (p2 := 15) rfl rfl rfl ?_
    refine tg_r (p2 := 18) (i := 0) (r := 67) rfl rfl hI rfl rfl rfl ?_
    obtain ⟨v4, e4, y4, w4, a4, b4, _⟩ := hI.2.1 51 0 (.inl ((-2147483648), 2147483647, 9999999999)) rfl
    subst w4
    refine tc_V (p2 := 21) (i := 23) rfl rfl rfl rfl hI rfl rfl rfl (c_X9_become (s := 23) (o := 51) hI (by decide) (by decide)) (by decide) (fun v3 h3 hq3 => ?_)
    obtain ⟨I3, g3, w3, B3⟩ := hq3
    subst w3
    have f3 := fr_tr (F1 := (F_X9_become 23 51)) (F := F_X11_back) f0 g3 (by decide)
    show EvP _ _ _ (21, [(0, .ref 16)], [], h3) _
    refine te_aload_n (p2 := 22) rfl rfl rfl ?_
    refine tg_r (p2 := 25) (i := 0) (r := 39) rfl rfl I3 rfl rfl rfl ?_
    refine tg_e (p2 := 28) (i := 23) (v := .int y4) rfl rfl I3 rfl rfl (B3.1.1.trans e4) ?_
    exact te_iret rfl rfl ⟨I3, f3, _, rfl, y1, e1, Or.inr ⟨by omega, e4, B3⟩⟩
  · refine te_bipush (p2 := 9) (x := (-3)) rfl rfl (by decide) ?_
    exact te_iret rfl rfl ⟨hI, f0, _, rfl, y1, e1, Or.inl ⟨by omega, rfl, rfl⟩⟩
abbrev Q2_image (y : Int32) (h h2 : im_H) : Prop := rd h 149 105 = some (.int y) ∧ (∀ k : Nat, (k : Int) < 283 → rd h2 151 k = rd h 149 k) ∧ rd h2 148 3 = some (.int 1)
set_option maxRecDepth 20000 in
set_option maxHeartbeats 4000000 in
theorem c_X12_image  {h : im_H} (hI : tI h)  : CaP 1 189 [.ref 164] h (fun v h2 => tI h2 ∧ fr F_X12_image h h2 ∧ ∃ y : Int32, v = some (.int y) ∧ Q2_image y h h2) := by
  refine cap_of (d := 0) (M := mX12_image) rfl (Nat.le_of_ble_eq_true rfl) ?_
  show EvP im_K0 0 mX12_image (0, [(0, .ref 164)], [], h) _
  have f0 : fr F_X12_image h h := fr_rf
  refine te_iconst (p2 := 1) (x := 0) rfl rfl (by decide) ?_
  refine te_istore_n (p2 := 2) (lv2 := [(1, .int 0), (0, .ref 164)]) rfl rfl (by decide) rfl ?_
  have lp1 : ∀ (n1 : Nat) (v1_1 : Int32) (h1 : im_H), tI h1 → fr F_X12_image h h1 → 0 ≤ v1_1.toInt → v1_1.toInt ≤ 283 → (∀ k : Nat, (k : Int) < v1_1.toInt → rd h1 151 k = rd h 149 k) → 283 - v1_1.toInt < (n1 : Int) → EvP im_K0 0 mX12_image (2, [(0, .ref 164), (1, .int v1_1)], [], h1) (fun v h2 => tI h2 ∧ fr F_X12_image h h2 ∧ ∃ y : Int32, v = some (.int y) ∧ Q2_image y h h2) := by
    intro n1
    induction n1 with
    | zero => intro v1_1 h1 I1 f1 a1_1 b1_1 w1_0 m1; exfalso; omega
    | succ n1 ih1 =>
      intro v1_1 h1 I1 f1 a1_1 b1_1 w1_0 m1
      refine te_iload_n (p2 := 3) rfl rfl rfl ?_
      refine te_sipush (p2 := 6) (x := 283) rfl rfl (by decide) ?_
      refine tb_ge (p2 := 9) rfl rfl rfl (show Int32.toInt 283 = 283 from rfl) (fun c2 => ?_) (fun c2 => ?_)
      · refine te_aload_n (p2 := 28) rfl rfl rfl ?_
        refine te_iconst (p2 := 29) (x := 1) rfl rfl (by decide) ?_
        refine tp_i (p2 := 32) (i := 148) rfl rfl I1 rfl rfl (by decide) rfl rfl rfl (by decide) (by decide) (by decide) rfl (fun h3 I3 u3 => ?_)
        have f3 := fr_st (F := F_X12_image) 0 f1 u3 rfl (by decide) (by decide)
        refine te_aload_n (p2 := 33) rfl rfl rfl ?_
        refine tg_r (p2 := 36) (i := 148) (r := 165) rfl rfl I3 rfl rfl rfl ?_
        refine te_bipush (p2 := 38) (x := 105) rfl rfl (by decide) ?_
        refine tl_i (p2 := 39) (i := 149) (n := 283) rfl rfl I3 rfl rfl rfl rfl (by decide) (by decide) (fun y4 a4 b4 g4 e4 => ?_)
        exact te_iret rfl rfl ⟨I3, f3, _, rfl, ((f3 149 105 rfl).symm.trans e4), (fun k hk => (u3.2 _ _ (Or.inl (by decide))).trans (w1_0 k (by omega))), u3.1⟩
      · refine te_aload_n (p2 := 10) rfl rfl rfl ?_
        refine tg_r (p2 := 13) (i := 148) (r := 167) rfl rfl I1 rfl rfl rfl ?_
        refine te_iload_n (p2 := 14) rfl rfl rfl ?_
        refine te_aload_n (p2 := 15) rfl rfl rfl ?_
        refine tg_r (p2 := 18) (i := 148) (r := 165) rfl rfl I1 rfl rfl rfl ?_
        refine te_iload_n (p2 := 19) rfl rfl rfl ?_
        refine tl_i (p2 := 20) (i := 149) (n := 283) rfl rfl I1 rfl rfl rfl rfl (by omega) (by omega) (fun y5 a5 b5 g5 e5 => ?_)
        refine ts_i (p2 := 21) (i := 151) (n := 283) rfl rfl I1 rfl rfl rfl rfl (by omega) (by omega) (i32_lo _) (i32_hi _) (i32_ho _) rfl (fun h6 I6 u6 => ?_)
        have f6 := fr_st (F := F_X12_image) 1 f1 u6 rfl (by omega) (by omega)
        refine ar_inc (p2 := 24) (x := v1_1) rfl rfl (by decide) rfl (by decide) rfl (by omega) (by omega) (fun z7 e7 f7 => ?_)
        show EvP _ _ _ (24, [(1, .int z7), (0, .ref 164)], [], h6) _
        refine te_goto rfl ?_
        refine te_lv [(0, .ref 164), (1, .int z7)] rfl rfl ⟨rfl, rfl, trivial⟩ ?_
        exact ih1 z7 h6 I6 f6 (by omega) (by omega) (fun k hk => by (by_cases hc : k = v1_1.toInt.toNat); (· rw [hc]; exact u6.1.trans ((((u6.2 _ _ (Or.inl (by decide))).trans e5)).symm.trans (f6 149 _ rfl))); (· exact (u6.2 _ _ (Or.inr hc)).trans (w1_0 k (by omega)))) (by omega)
  refine te_lv [(0, .ref 164), (1, .int 0)] rfl rfl ⟨rfl, rfl, trivial⟩ ?_
  exact lp1 284 0 h hI f0 (by decide) (by decide) (fun k hk => by exfalso; have := (show Int32.toInt 0 = 0 from rfl); omega) (by have cc0 := (show Int32.toInt 0 = 0 from rfl); omega)
abbrev Q2_back (y : Int32) (h h2 : im_H) : Prop := ∃ b : Int32, rd h 148 3 = some (.int b) ∧ ((b.toInt = 0 ∧ y = -3 ∧ h2 = h) ∨ (b.toInt ≠ 0 ∧ rd h 151 105 = some (.int y) ∧ (∀ k : Nat, (k : Int) < 283 → rd h2 149 k = rd h 151 k)))
set_option maxRecDepth 20000 in
set_option maxHeartbeats 4000000 in
theorem c_X12_back  {h : im_H} (hI : tI h)  : CaP 1 190 [.ref 164] h (fun v h2 => tI h2 ∧ fr F_X12_back h h2 ∧ ∃ y : Int32, v = some (.int y) ∧ Q2_back y h h2) := by
  refine cap_of (d := 0) (M := mX12_back) rfl (Nat.le_of_ble_eq_true rfl) ?_
  show EvP im_K0 0 mX12_back (0, [(0, .ref 164)], [], h) _
  have f0 : fr F_X12_back h h := fr_rf
  refine te_aload_n (p2 := 1) rfl rfl rfl ?_
  refine tg_i (p2 := 4) (i := 148) rfl rfl hI rfl rfl rfl (fun y1 a1 b1 e1 => ?_)
  refine tz_ne (p2 := 7) rfl rfl rfl (fun c2 => ?_) (fun c2 => ?_)
  · refine te_iconst (p2 := 11) (x := 0) rfl rfl (by decide) ?_
    refine te_istore_n (p2 := 12) (lv2 := [(1, .int 0), (0, .ref 164)]) rfl rfl (by decide) rfl ?_
    have lp3 : ∀ (n3 : Nat) (v3_1 : Int32) (h3 : im_H), tI h3 → fr F_X12_back h h3 → 0 ≤ v3_1.toInt → v3_1.toInt ≤ 283 → (∀ k : Nat, (k : Int) < v3_1.toInt → rd h3 149 k = rd h 151 k) → 283 - v3_1.toInt < (n3 : Int) → EvP im_K0 0 mX12_back (12, [(0, .ref 164), (1, .int v3_1)], [], h3) (fun v h2 => tI h2 ∧ fr F_X12_back h h2 ∧ ∃ y : Int32, v = some (.int y) ∧ Q2_back y h h2) := by
      intro n3
      induction n3 with
      | zero => intro v3_1 h3 I3 f3 a3_1 b3_1 w3_0 m3; exfalso; omega
      | succ n3 ih3 =>
        intro v3_1 h3 I3 f3 a3_1 b3_1 w3_0 m3
        refine te_iload_n (p2 := 13) rfl rfl rfl ?_
        refine te_sipush (p2 := 16) (x := 283) rfl rfl (by decide) ?_
        refine tb_ge (p2 := 19) rfl rfl rfl (show Int32.toInt 283 = 283 from rfl) (fun c4 => ?_) (fun c4 => ?_)
        · refine te_aload_n (p2 := 38) rfl rfl rfl ?_
          refine tg_r (p2 := 41) (i := 148) (r := 165) rfl rfl I3 rfl rfl rfl ?_
          refine te_bipush (p2 := 43) (x := 105) rfl rfl (by decide) ?_
          refine tl_i (p2 := 44) (i := 149) (n := 283) rfl rfl I3 rfl rfl rfl rfl (by decide) (by decide) (fun y5 a5 b5 g5 e5 => ?_)
          exact te_iret rfl rfl ⟨I3, f3, _, rfl, y1, e1, Or.inr ⟨by omega, (w3_0 105 (by omega)).symm.trans e5, (fun k hk => w3_0 k (by omega))⟩⟩
        · refine te_aload_n (p2 := 20) rfl rfl rfl ?_
          refine tg_r (p2 := 23) (i := 148) (r := 165) rfl rfl I3 rfl rfl rfl ?_
          refine te_iload_n (p2 := 24) rfl rfl rfl ?_
          refine te_aload_n (p2 := 25) rfl rfl rfl ?_
          refine tg_r (p2 := 28) (i := 148) (r := 167) rfl rfl I3 rfl rfl rfl ?_
          refine te_iload_n (p2 := 29) rfl rfl rfl ?_
          refine tl_i (p2 := 30) (i := 151) (n := 283) rfl rfl I3 rfl rfl rfl rfl (by omega) (by omega) (fun y6 a6 b6 g6 e6 => ?_)
          refine ts_i (p2 := 31) (i := 149) (n := 283) rfl rfl I3 rfl rfl rfl rfl (by omega) (by omega) (i32_lo _) (i32_hi _) (i32_ho _) rfl (fun h7 I7 u7 => ?_)
          have f7 := fr_st (F := F_X12_back) 0 f3 u7 rfl (by omega) (by omega)
          refine ar_inc (p2 := 34) (x := v3_1) rfl rfl (by decide) rfl (by decide) rfl (by omega) (by omega) (fun z8 e8 f8 => ?_)
          show EvP _ _ _ (34, [(1, .int z8), (0, .ref 164)], [], h7) _
          refine te_goto rfl ?_
          refine te_lv [(0, .ref 164), (1, .int z8)] rfl rfl ⟨rfl, rfl, trivial⟩ ?_
          exact ih3 z8 h7 I7 f7 (by omega) (by omega) (fun k hk => by (by_cases hc : k = v3_1.toInt.toNat); (· rw [hc]; exact u7.1.trans ((((u7.2 _ _ (Or.inl (by decide))).trans e6)).symm.trans (f7 151 _ rfl))); (· exact (u7.2 _ _ (Or.inr hc)).trans (w3_0 k (by omega)))) (by omega)
    refine te_lv [(0, .ref 164), (1, .int 0)] rfl rfl ⟨rfl, rfl, trivial⟩ ?_
    exact lp3 284 0 h hI f0 (by decide) (by decide) (fun k hk => by exfalso; have := (show Int32.toInt 0 = 0 from rfl); omega) (by have cc0 := (show Int32.toInt 0 = 0 from rfl); omega)
  · refine te_bipush (p2 := 9) (x := (-3)) rfl rfl (by decide) ?_
    exact te_iret rfl rfl ⟨hI, f0, _, rfl, y1, e1, Or.inl ⟨by omega, rfl, rfl⟩⟩
set_option maxRecDepth 20000 in
set_option maxHeartbeats 4000000 in
theorem c_X12_lays {back : Int32} {h : im_H} (hI : tI h) (p_back0 : 0 ≤ back.toInt) (p_back1 : back.toInt ≤ 1) : CaP 1 186 [.ref 164, .int back] h (fun v h2 => tI h2 ∧ fr F_X12_lays h h2 ∧ v = none ∧ (back.toInt = 0 → (∀ k : Nat, (k : Int) < 283 → rd h2 150 k = rd h 149 k) ∧ ∀ k : Nat, rd h2 149 k = rd h 149 k) ∧ (back.toInt ≠ 0 → (∀ k : Nat, (k : Int) < 283 → rd h2 149 k = rd h 150 k) ∧ ∀ k : Nat, rd h2 150 k = rd h 150 k)) := by
  refine cap_of (d := 0) (M := mX12_lays) rfl (Nat.le_of_ble_eq_true rfl) ?_
  show EvP im_K0 0 mX12_lays (0, [(0, .ref 164), (1, .int back)], [], h) _
  have f0 : fr F_X12_lays h h := fr_rf
  refine te_iconst (p2 := 1) (x := 0) rfl rfl (by decide) ?_
  refine te_istore_n (p2 := 2) (lv2 := [(2, .int 0), (0, .ref 164), (1, .int back)]) rfl rfl (by decide) rfl ?_
  have lp1 : ∀ (n1 : Nat) (v1_2 : Int32) (h1 : im_H), tI h1 → fr F_X12_lays h h1 → 0 ≤ v1_2.toInt → v1_2.toInt ≤ 283 → ((back.toInt = 0 → (∀ k : Nat, (k : Int) < v1_2.toInt → rd h1 150 k = rd h 149 k) ∧ ∀ k : Nat, rd h1 149 k = rd h 149 k) ∧ (back.toInt ≠ 0 → (∀ k : Nat, (k : Int) < v1_2.toInt → rd h1 149 k = rd h 150 k) ∧ ∀ k : Nat, rd h1 150 k = rd h 150 k)) → 283 - v1_2.toInt < (n1 : Int) → EvP im_K0 0 mX12_lays (2, [(0, .ref 164), (1, .int back), (2, .int v1_2)], [], h1) (fun v h2 => tI h2 ∧ fr F_X12_lays h h2 ∧ v = none ∧ (back.toInt = 0 → (∀ k : Nat, (k : Int) < 283 → rd h2 150 k = rd h 149 k) ∧ ∀ k : Nat, rd h2 149 k = rd h 149 k) ∧ (back.toInt ≠ 0 → (∀ k : Nat, (k : Int) < 283 → rd h2 149 k = rd h 150 k) ∧ ∀ k : Nat, rd h2 150 k = rd h 150 k)) := by
    intro n1
    induction n1 with
    | zero => intro v1_2 h1 I1 f1 a1_2 b1_2 w1_0 m1; exfalso; omega
    | succ n1 ih1 =>
      intro v1_2 h1 I1 f1 a1_2 b1_2 w1_0 m1
      refine te_iload_n (p2 := 3) rfl rfl rfl ?_
      refine te_sipush (p2 := 6) (x := 283) rfl rfl (by decide) ?_
      refine tb_ge (p2 := 9) rfl rfl rfl (show Int32.toInt 283 = 283 from rfl) (fun c2 => ?_) (fun c2 => ?_)
      · exact te_vret rfl rfl ⟨I1, f1, rfl, ⟨fun hb => ⟨fun k hk => (w1_0.1 hb).1 k (by omega), (w1_0.1 hb).2⟩, fun hb => ⟨fun k hk => (w1_0.2 hb).1 k (by omega), (w1_0.2 hb).2⟩⟩⟩
      · refine te_iload_n (p2 := 10) rfl rfl rfl ?_
        refine tz_eq (p2 := 13) rfl rfl rfl (fun c3 => ?_) (fun c3 => ?_)
        · refine te_aload_n (p2 := 29) rfl rfl rfl ?_
          refine tg_r (p2 := 32) (i := 148) (r := 166) rfl rfl I1 rfl rfl rfl ?_
          refine te_iload_n (p2 := 33) rfl rfl rfl ?_
          refine te_aload_n (p2 := 34) rfl rfl rfl ?_
          refine tg_r (p2 := 37) (i := 148) (r := 165) rfl rfl I1 rfl rfl rfl ?_
          refine te_iload_n (p2 := 38) rfl rfl rfl ?_
          refine tl_i (p2 := 39) (i := 149) (n := 283) rfl rfl I1 rfl rfl rfl rfl (by omega) (by omega) (fun y4 a4 b4 g4 e4 => ?_)
          refine ts_i (p2 := 40) (i := 150) (n := 283) rfl rfl I1 rfl rfl rfl rfl (by omega) (by omega) (i32_lo _) (i32_hi _) (i32_ho _) rfl (fun h5 I5 u5 => ?_)
          have f5 := fr_st (F := F_X12_lays) 1 f1 u5 rfl (by omega) (by omega)
          refine ar_inc (p2 := 43) (x := v1_2) rfl rfl (by decide) rfl (by decide) rfl (by omega) (by omega) (fun z6 e6 f6 => ?_)
          show EvP _ _ _ (43, [(2, .int z6), (0, .ref 164), (1, .int back)], [], h5) _
          refine te_goto rfl ?_
          refine te_lv [(0, .ref 164), (1, .int back), (2, .int z6)] rfl rfl ⟨rfl, rfl, rfl, trivial⟩ ?_
          exact ih1 z6 h5 I5 f5 (by omega) (by omega) ⟨fun hb => ⟨fun k hk => by (by_cases hc : k = v1_2.toInt.toNat); (· rw [hc]; exact u5.1.trans ((((u5.2 _ _ (Or.inl (by decide))).trans e4)).symm.trans ((u5.2 _ _ (Or.inl (by decide))).trans ((w1_0.1 hb).2 _)))); (· exact (u5.2 _ _ (Or.inr hc)).trans ((w1_0.1 hb).1 k (by omega))), fun k => (u5.2 _ _ (Or.inl (by decide))).trans ((w1_0.1 hb).2 k)⟩, fun hb => absurd (by omega) hb⟩ (by omega)
        · refine te_aload_n (p2 := 14) rfl rfl rfl ?_
          refine tg_r (p2 := 17) (i := 148) (r := 165) rfl rfl I1 rfl rfl rfl ?_
          refine te_iload_n (p2 := 18) rfl rfl rfl ?_
          refine te_aload_n (p2 := 19) rfl rfl rfl ?_
          refine tg_r (p2 := 22) (i := 148) (r := 166) rfl rfl I1 rfl rfl rfl ?_
          refine te_iload_n (p2 := 23) rfl rfl rfl ?_
          refine tl_i (p2 := 24) (i := 150) (n := 283) rfl rfl I1 rfl rfl rfl rfl (by omega) (by omega) (fun y7 a7 b7 g7 e7 => ?_)
          refine ts_i (p2 := 25) (i := 149) (n := 283) rfl rfl I1 rfl rfl rfl rfl (by omega) (by omega) (i32_lo _) (i32_hi _) (i32_ho _) rfl (fun h8 I8 u8 => ?_)
          have f8 := fr_st (F := F_X12_lays) 0 f1 u8 rfl (by omega) (by omega)
          refine te_goto rfl ?_
          refine ar_inc (p2 := 43) (x := v1_2) rfl rfl (by decide) rfl (by decide) rfl (by omega) (by omega) (fun z9 e9 f9 => ?_)
          show EvP _ _ _ (43, [(2, .int z9), (0, .ref 164), (1, .int back)], [], h8) _
          refine te_goto rfl ?_
          refine te_lv [(0, .ref 164), (1, .int back), (2, .int z9)] rfl rfl ⟨rfl, rfl, rfl, trivial⟩ ?_
          exact ih1 z9 h8 I8 f8 (by omega) (by omega) ⟨fun hb => absurd hb (by omega), fun hb => ⟨fun k hk => by (by_cases hc : k = v1_2.toInt.toNat); (· rw [hc]; exact u8.1.trans ((((u8.2 _ _ (Or.inl (by decide))).trans e7)).symm.trans ((u8.2 _ _ (Or.inl (by decide))).trans ((w1_0.2 hb).2 _)))); (· exact (u8.2 _ _ (Or.inr hc)).trans ((w1_0.2 hb).1 k (by omega))), fun k => (u8.2 _ _ (Or.inl (by decide))).trans ((w1_0.2 hb).2 k)⟩⟩ (by omega)
  refine te_lv [(0, .ref 164), (1, .int back), (2, .int 0)] rfl rfl ⟨rfl, rfl, rfl, trivial⟩ ?_
  exact lp1 284 0 h hI f0 (by decide) (by decide) ⟨fun _ => ⟨(fun k hk => by exfalso; have := (show Int32.toInt 0 = 0 from rfl); omega), fun k => rfl⟩, fun _ => ⟨(fun k hk => by exfalso; have := (show Int32.toInt 0 = 0 from rfl); omega), fun k => rfl⟩⟩ (by have cc0 := (show Int32.toInt 0 = 0 from rfl); omega)
abbrev Q2_beside (x1 x2 : Int32) (y : Int64) (h h2 : im_H) : Prop := ∀ k : Nat, (k : Int) < 283 → rd h2 149 k = rd h 149 k
set_option maxRecDepth 20000 in
set_option maxHeartbeats 4000000 in
theorem c_X12_beside {x1 : Int32} {x2 : Int32} {h : im_H} (hI : tI h)  : CaP 9 187 [.ref 164, .int x1, .int x2] h (fun v h2 => tI h2 ∧ fr F_X12_beside h h2 ∧ ∃ y : Int64, v = some (.long y) ∧ Q2_beside x1 x2 y h h2) := by
  refine cap_of (d := 8) (M := mX12_beside) rfl (Nat.le_of_ble_eq_true rfl) ?_
  show EvP im_K0 8 mX12_beside (0, [(0, .ref 164), (1, .int x1), (2, .int x2)], [], h) _
  have f0 : fr F_X12_beside h h := fr_rf
  refine te_iload_n (p2 := 1) rfl rfl rfl ?_
  refine te_iconst (p2 := 2) (x := 1) rfl rfl (by decide) ?_
  refine te_bipush (p2 := 4) (x := 60) rfl rfl (by decide) ?_
  refine cS_pI (p2 := 7) rfl rfl rfl rfl (t_X12_in (n := x1) (a := 1) (b := 60) hI ) (by decide) (fun y1 r1 => ?_)
  rcases r1 with ⟨w1, c1⟩ | ⟨w1, c1⟩
  · subst w1
    have cc1_1 := (show Int32.toInt 1 = 1 from rfl)
    have cc1_2 := (show Int32.toInt 60 = 60 from rfl)
    refine tz_eq (p2 := 10) rfl rfl (show Int32.toInt 1 = 1 from rfl) (fun c2 => absurd c2 (by omega)) (fun c2 => ?_)
    refine te_iload_n (p2 := 11) rfl rfl rfl ?_
    refine te_iconst (p2 := 12) (x := 0) rfl rfl (by decide) ?_
    refine te_iconst (p2 := 13) (x := 3) rfl rfl (by decide) ?_
    refine cS_pI (p2 := 16) rfl rfl rfl rfl (t_X12_in (n := x2) (a := 0) (b := 3) hI ) (by decide) (fun y3 r3 => ?_)
    rcases r3 with ⟨w3, c3⟩ | ⟨w3, c3⟩
    · subst w3
      have cc3_1 := (show Int32.toInt 0 = 0 from rfl)
      have cc3_2 := (show Int32.toInt 3 = 3 from rfl)
      refine tz_eq (p2 := 19) rfl rfl (show Int32.toInt 1 = 1 from rfl) (fun c4 => absurd c4 (by omega)) (fun c4 => ?_)
      refine te_aload_n (p2 := 20) rfl rfl rfl ?_
      refine tg_r (p2 := 23) (i := 148) (r := 165) rfl rfl hI rfl rfl rfl ?_
      refine te_bipush (p2 := 25) (x := 105) rfl rfl (by decide) ?_
      refine tl_i (p2 := 26) (i := 149) (n := 283) rfl rfl hI rfl rfl rfl rfl (by decide) (by decide) (fun y5 a5 b5 g5 e5 => ?_)
      refine te_iload_n (p2 := 27) rfl rfl rfl ?_
      refine au_add (p2 := 28) rfl rfl (fun z6 e6 => ?_)
      refine te_sipush (p2 := 31) (x := 2000) rfl rfl (by decide) ?_
      refine tb_le (p2 := 34) rfl rfl rfl (show Int32.toInt 2000 = 2000 from rfl) (fun c7 => ?_) (fun c7 => ?_)
      · refine te_aload_n (p2 := 39) rfl rfl rfl ?_
        refine te_iconst (p2 := 40) (x := 0) rfl rfl (by decide) ?_
        refine tc_V (p2 := 43) (i := 148) rfl rfl rfl rfl hI rfl rfl rfl (c_X12_lays (back := 0) hI (by decide) (by decide)) (by decide) (fun v8 h8 hq8 => ?_)
        obtain ⟨I8, g8, w8, L8⟩ := hq8
        subst w8
        have f8 := fr_tr (F1 := F_X12_lays) (F := F_X12_beside) f0 g8 (by decide)
        show EvP _ _ _ (43, [(0, .ref 164), (1, .int x1), (2, .int x2)], [], h8) _
        refine te_iload_n (p2 := 44) rfl rfl rfl ?_
        refine te_iconst (p2 := 45) (x := 1) rfl rfl (by decide) ?_
        refine tb_ne (p2 := 48) rfl rfl rfl (show Int32.toInt 1 = 1 from rfl) (fun c9 => ?_) (fun c9 => ?_)
        · refine te_iload_n (p2 := 59) rfl rfl rfl ?_
          refine te_iconst (p2 := 60) (x := 2) rfl rfl (by decide) ?_
          refine tb_ne (p2 := 63) rfl rfl rfl (show Int32.toInt 2 = 2 from rfl) (fun c10 => ?_) (fun c10 => ?_)
          · refine te_iconst (p2 := 78) (x := 0) rfl rfl (by decide) ?_
            refine te_istore_n (p2 := 79) (lv2 := [(3, .int 0), (0, .ref 164), (1, .int x1), (2, .int x2)]) rfl rfl (by decide) rfl ?_
            refine te_iconst (p2 := 80) (x := 0) rfl rfl (by decide) ?_
            refine te_istore (p2 := 82) (lv2 := [(4, .int 0), (3, .int 0), (0, .ref 164), (1, .int x1), (2, .int x2)]) rfl rfl (by decide) rfl ?_
            have lp11 : ∀ (n11 : Nat) (v11_4 : Int32) (h11 : im_H), tI h11 → fr F_X12_beside h h11 → 0 ≤ v11_4.toInt → v11_4.toInt ≤ 60 → v11_4.toInt ≤ x1.toInt → (∀ k : Nat, (k : Int) < 283 → rd h11 150 k = rd h 149 k) → x1.toInt - v11_4.toInt < (n11 : Int) → EvP im_K0 8 mX12_beside (82, [(0, .ref 164), (1, .int x1), (2, .int x2), (3, .int 0), (4, .int v11_4)], [], h11) (fun v h2 => tI h2 ∧ fr F_X12_beside h h2 ∧ ∃ y : Int64, v = some (.long y) ∧ Q2_beside x1 x2 y h h2) := by
              intro n11
              induction n11 with
              | zero => intro v11_4 h11 I11 f11 a11_4 b11_4 l11_0 w11_0 m11; exfalso; omega
              | succ n11 ih11 =>
                intro v11_4 h11 I11 f11 a11_4 b11_4 l11_0 w11_0 m11
                refine te_iload (p2 := 84) rfl rfl rfl ?_
                refine te_iload_n (p2 := 85) rfl rfl rfl ?_
                refine tb_ge (p2 := 88) rfl rfl rfl rfl (fun c12 => ?_) (fun c12 => ?_)
                · refine te_iload_n (p2 := 99) rfl rfl rfl ?_
                  refine tz_ne (p2 := 102) rfl rfl rfl (fun c13 => ?_) (fun c13 => ?_)
                  · refine te_iload_n (p2 := 113) rfl rfl rfl ?_
                    refine te_iconst (p2 := 114) (x := 1) rfl rfl (by decide) ?_
                    refine tb_ne (p2 := 117) rfl rfl rfl (show Int32.toInt 1 = 1 from rfl) (fun c14 => ?_) (fun c14 => ?_)
                    · refine te_iload_n (p2 := 130) rfl rfl rfl ?_
                      refine te_iconst (p2 := 131) (x := 2) rfl rfl (by decide) ?_
                      refine tb_ne (p2 := 134) rfl rfl rfl (show Int32.toInt 2 = 2 from rfl) (fun c15 => ?_) (fun c15 => ?_)
                      · refine te_aload_n (p2 := 151) rfl rfl rfl ?_
                        refine te_sipush (p2 := 154) (x := 164) rfl rfl (by decide) ?_
                        refine te_aload_n (p2 := 155) rfl rfl rfl ?_
                        refine tg_i (p2 := 158) (i := 148) rfl rfl I11 rfl rfl rfl (fun y16 a16 b16 e16 => ?_)
                        refine cV_pI (p2 := 161) (i := 148) rfl rfl rfl rfl I11 rfl rfl rfl (t_X12_sum (frm := 164) (many := y16) I11 (by decide) (by decide) (by omega) (by omega) (by have cq1 := (show Int32.toInt 164 = 164 from rfl); omega)) (by decide) (fun y17 r17 => ?_)
                        refine te_istore (p2 := 163) (lv2 := [(4, .int y17), (0, .ref 164), (1, .int x1), (2, .int x2), (3, .int 0)]) rfl rfl (by decide) rfl ?_
                        refine te_aload_n (p2 := 164) rfl rfl rfl ?_
                        refine te_iconst (p2 := 165) (x := 1) rfl rfl (by decide) ?_
                        refine tc_V (p2 := 168) (i := 148) rfl rfl rfl rfl I11 rfl rfl rfl (c_X12_lays (back := 1) I11 (by decide) (by decide)) (by decide) (fun v18 h18 hq18 => ?_)
                        obtain ⟨I18, g18, w18, L18⟩ := hq18
                        subst w18
                        have f18 := fr_tr (F1 := F_X12_lays) (F := F_X12_beside) f11 g18 (by decide)
                        show EvP _ _ _ (168, [(4, .int y17), (0, .ref 164), (1, .int x1), (2, .int x2), (3, .int 0)], [], h18) _
                        refine te_iload (p2 := 170) rfl rfl rfl ?_
                        refine te_i2l (p2 := 171) (z := (Int32.toInt64 y17)) rfl rfl rfl ?_
                        exact te_lret rfl rfl ⟨I18, f18, _, rfl, (fun k hk => ((L18.2 (by decide)).1 k hk).trans (w11_0 k hk))⟩
                      · refine te_aload_n (p2 := 135) rfl rfl rfl ?_
                        refine te_sipush (p2 := 138) (x := 236) rfl rfl (by decide) ?_
                        refine te_aload_n (p2 := 139) rfl rfl rfl ?_
                        refine tg_i (p2 := 142) (i := 148) rfl rfl I11 rfl rfl rfl (fun y19 a19 b19 e19 => ?_)
                        refine cV_pI (p2 := 145) (i := 148) rfl rfl rfl rfl I11 rfl rfl rfl (t_X12_sum (frm := 236) (many := y19) I11 (by decide) (by decide) (by omega) (by omega) (by have cq1 := (show Int32.toInt 236 = 236 from rfl); omega)) (by decide) (fun y20 r20 => ?_)
                        refine te_iload_n (p2 := 146) rfl rfl rfl ?_
                        have n21_y20 := i32_lo y20
                        have o21_y20 := i32_hi y20
                        refine ar_sub (p2 := 147) rfl rfl rfl (show Int32.toInt 0 = 0 from rfl) (by omega) (by omega) (fun z21 e21 f21 => ?_)
                        refine te_goto rfl ?_
                        refine te_istore (p2 := 163) (lv2 := [(4, .int z21), (0, .ref 164), (1, .int x1), (2, .int x2), (3, .int 0)]) rfl rfl (by decide) rfl ?_
                        refine te_aload_n (p2 := 164) rfl rfl rfl ?_
                        refine te_iconst (p2 := 165) (x := 1) rfl rfl (by decide) ?_
                        refine tc_V (p2 := 168) (i := 148) rfl rfl rfl rfl I11 rfl rfl rfl (c_X12_lays (back := 1) I11 (by decide) (by decide)) (by decide) (fun v22 h22 hq22 => ?_)
                        obtain ⟨I22, g22, w22, L22⟩ := hq22
                        subst w22
                        have f22 := fr_tr (F1 := F_X12_lays) (F := F_X12_beside) f11 g22 (by decide)
                        show EvP _ _ _ (168, [(4, .int z21), (0, .ref 164), (1, .int x1), (2, .int x2), (3, .int 0)], [], h22) _
                        refine te_iload (p2 := 170) rfl rfl rfl ?_
                        refine te_i2l (p2 := 171) (z := (Int32.toInt64 z21)) rfl rfl rfl ?_
                        exact te_lret rfl rfl ⟨I22, f22, _, rfl, (fun k hk => ((L22.2 (by decide)).1 k hk).trans (w11_0 k hk))⟩
                    · refine te_aload_n (p2 := 118) rfl rfl rfl ?_
                      refine tg_r (p2 := 121) (i := 148) (r := 165) rfl rfl I11 rfl rfl rfl ?_
                      refine te_bipush (p2 := 123) (x := 100) rfl rfl (by decide) ?_
                      refine tl_i (p2 := 124) (i := 149) (n := 283) rfl rfl I11 rfl rfl rfl rfl (by decide) (by decide) (fun y23 a23 b23 g23 e23 => ?_)
                      refine te_iload_n (p2 := 125) rfl rfl rfl ?_
                      have n24_y23 := i32_lo y23
                      have o24_y23 := i32_hi y23
                      refine ar_sub (p2 := 126) rfl rfl rfl (show Int32.toInt 0 = 0 from rfl) (by omega) (by omega) (fun z24 e24 f24 => ?_)
                      refine te_goto rfl ?_
                      refine te_istore (p2 := 163) (lv2 := [(4, .int z24), (0, .ref 164), (1, .int x1), (2, .int x2), (3, .int 0)]) rfl rfl (by decide) rfl ?_
                      refine te_aload_n (p2 := 164) rfl rfl rfl ?_
                      refine te_iconst (p2 := 165) (x := 1) rfl rfl (by decide) ?_
                      refine tc_V (p2 := 168) (i := 148) rfl rfl rfl rfl I11 rfl rfl rfl (c_X12_lays (back := 1) I11 (by decide) (by decide)) (by decide) (fun v25 h25 hq25 => ?_)
                      obtain ⟨I25, g25, w25, L25⟩ := hq25
                      subst w25
                      have f25 := fr_tr (F1 := F_X12_lays) (F := F_X12_beside) f11 g25 (by decide)
                      show EvP _ _ _ (168, [(4, .int z24), (0, .ref 164), (1, .int x1), (2, .int x2), (3, .int 0)], [], h25) _
                      refine te_iload (p2 := 170) rfl rfl rfl ?_
                      refine te_i2l (p2 := 171) (z := (Int32.toInt64 z24)) rfl rfl rfl ?_
                      exact te_lret rfl rfl ⟨I25, f25, _, rfl, (fun k hk => ((L25.2 (by decide)).1 k hk).trans (w11_0 k hk))⟩
                  · refine te_aload_n (p2 := 103) rfl rfl rfl ?_
                    refine te_iconst (p2 := 104) (x := 0) rfl rfl (by decide) ?_
                    refine te_bipush (p2 := 106) (x := 100) rfl rfl (by decide) ?_
                    refine cV_pI (p2 := 109) (i := 148) rfl rfl rfl rfl I11 rfl rfl rfl (t_X12_sum (frm := 0) (many := 100) I11 (by decide) (by decide) (by decide) (by decide) (by have cq1 := (show Int32.toInt 0 = 0 from rfl); have cq2 := (show Int32.toInt 100 = 100 from rfl); omega)) (by decide) (fun y26 r26 => ?_)
                    refine te_goto rfl ?_
                    refine te_istore (p2 := 163) (lv2 := [(4, .int y26), (0, .ref 164), (1, .int x1), (2, .int x2), (3, .int 0)]) rfl rfl (by decide) rfl ?_
                    refine te_aload_n (p2 := 164) rfl rfl rfl ?_
                    refine te_iconst (p2 := 165) (x := 1) rfl rfl (by decide) ?_
                    refine tc_V (p2 := 168) (i := 148) rfl rfl rfl rfl I11 rfl rfl rfl (c_X12_lays (back := 1) I11 (by decide) (by decide)) (by decide) (fun v27 h27 hq27 => ?_)
                    obtain ⟨I27, g27, w27, L27⟩ := hq27
                    subst w27
                    have f27 := fr_tr (F1 := F_X12_lays) (F := F_X12_beside) f11 g27 (by decide)
                    show EvP _ _ _ (168, [(4, .int y26), (0, .ref 164), (1, .int x1), (2, .int x2), (3, .int 0)], [], h27) _
                    refine te_iload (p2 := 170) rfl rfl rfl ?_
                    refine te_i2l (p2 := 171) (z := (Int32.toInt64 y26)) rfl rfl rfl ?_
                    exact te_lret rfl rfl ⟨I27, f27, _, rfl, (fun k hk => ((L27.2 (by decide)).1 k hk).trans (w11_0 k hk))⟩
                · refine te_aload_n (p2 := 89) rfl rfl rfl ?_
                  refine cV_mV (p2 := 92) (i := 148) rfl rfl rfl rfl I11 rfl rfl rfl (t_X12_goes  I11 ) (by decide) (fun h28 I28 g28 => ?_)
                  have f28 := fr_tr (F1 := F_X12_goes) (F := F_X12_beside) f11 g28 (by decide)
                  refine ar_inc (p2 := 95) (x := v11_4) rfl rfl (by decide) rfl (by decide) rfl (by omega) (by omega) (fun z29 e29 f29 => ?_)
                  show EvP _ _ _ (95, [(4, .int z29), (0, .ref 164), (1, .int x1), (2, .int x2), (3, .int 0)], [], h28) _
                  refine te_goto rfl ?_
                  refine te_lv [(0, .ref 164), (1, .int x1), (2, .int x2), (3, .int 0), (4, .int z29)] rfl rfl ⟨rfl, rfl, rfl, rfl, rfl, trivial⟩ ?_
                  exact ih11 z29 h28 I28 f28 (by omega) (by omega) (by have cc0 := (show Int32.toInt 0 = 0 from rfl); omega) (fun k hk => (g28 150 _ rfl).trans (w11_0 k hk)) (by have cc0 := (show Int32.toInt 0 = 0 from rfl); omega)
            refine te_lv [(0, .ref 164), (1, .int x1), (2, .int x2), (3, .int 0), (4, .int 0)] rfl rfl ⟨rfl, rfl, rfl, rfl, rfl, trivial⟩ ?_
            exact lp11 61 0 h8 I8 f8 (by decide) (by decide) (by have cc0 := (show Int32.toInt 0 = 0 from rfl); omega) (L8.1 (by decide)).1 (by have cc0 := (show Int32.toInt 0 = 0 from rfl); omega)
          · refine te_aload_n (p2 := 64) rfl rfl rfl ?_
            refine te_sipush (p2 := 67) (x := 236) rfl rfl (by decide) ?_
            refine te_aload_n (p2 := 68) rfl rfl rfl ?_
            refine tg_i (p2 := 71) (i := 148) rfl rfl I8 rfl rfl rfl (fun y30 a30 b30 e30 => ?_)
            refine cV_pI (p2 := 74) (i := 148) rfl rfl rfl rfl I8 rfl rfl rfl (t_X12_sum (frm := 236) (many := y30) I8 (by decide) (by decide) (by omega) (by omega) (by have cq1 := (show Int32.toInt 236 = 236 from rfl); omega)) (by decide) (fun y31 r31 => ?_)
            refine te_goto rfl ?_
            refine te_istore_n (p2 := 79) (lv2 := [(3, .int y31), (0, .ref 164), (1, .int x1), (2, .int x2)]) rfl rfl (by decide) rfl ?_
            refine te_iconst (p2 := 80) (x := 0) rfl rfl (by decide) ?_
            refine te_istore (p2 := 82) (lv2 := [(4, .int 0), (3, .int y31), (0, .ref 164), (1, .int x1), (2, .int x2)]) rfl rfl (by decide) rfl ?_
            have lp32 : ∀ (n32 : Nat) (v32_4 : Int32) (h32 : im_H), tI h32 → fr F_X12_beside h h32 → 0 ≤ v32_4.toInt → v32_4.toInt ≤ 60 → v32_4.toInt ≤ x1.toInt → (∀ k : Nat, (k : Int) < 283 → rd h32 150 k = rd h 149 k) → x1.toInt - v32_4.toInt < (n32 : Int) → EvP im_K0 8 mX12_beside (82, [(0, .ref 164), (1, .int x1), (2, .int x2), (3, .int y31), (4, .int v32_4)], [], h32) (fun v h2 => tI h2 ∧ fr F_X12_beside h h2 ∧ ∃ y : Int64, v = some (.long y) ∧ Q2_beside x1 x2 y h h2) := by
              intro n32
              induction n32 with
              | zero => intro v32_4 h32 I32 f32 a32_4 b32_4 l32_0 w32_0 m32; exfalso; omega
              | succ n32 ih32 =>
                intro v32_4 h32 I32 f32 a32_4 b32_4 l32_0 w32_0 m32
                refine te_iload (p2 := 84) rfl rfl rfl ?_
                refine te_iload_n (p2 := 85) rfl rfl rfl ?_
                refine tb_ge (p2 := 88) rfl rfl rfl rfl (fun c33 => ?_) (fun c33 => ?_)
                · refine te_iload_n (p2 := 99) rfl rfl rfl ?_
                  refine tz_ne (p2 := 102) rfl rfl rfl (fun c34 => ?_) (fun c34 => absurd c34 (by omega))
                  refine te_iload_n (p2 := 113) rfl rfl rfl ?_
                  refine te_iconst (p2 := 114) (x := 1) rfl rfl (by decide) ?_
                  refine tb_ne (p2 := 117) rfl rfl rfl (show Int32.toInt 1 = 1 from rfl) (fun c35 => ?_) (fun c35 => absurd c35 (by omega))
                  refine te_iload_n (p2 := 130) rfl rfl rfl ?_
                  refine te_iconst (p2 := 131) (x := 2) rfl rfl (by decide) ?_
                  refine tb_ne (p2 := 134) rfl rfl rfl (show Int32.toInt 2 = 2 from rfl) (fun c36 => absurd c36 (by omega)) (fun c36 => ?_)
                  refine te_aload_n (p2 := 135) rfl rfl rfl ?_
                  refine te_sipush (p2 := 138) (x := 236) rfl rfl (by decide) ?_
                  refine te_aload_n (p2 := 139) rfl rfl rfl ?_
                  refine tg_i (p2 := 142) (i := 148) rfl rfl I32 rfl rfl rfl (fun y37 a37 b37 e37 => ?_)
                  refine cV_pI (p2 := 145) (i := 148) rfl rfl rfl rfl I32 rfl rfl rfl (t_X12_sum (frm := 236) (many := y37) I32 (by decide) (by decide) (by omega) (by omega) (by have cq1 := (show Int32.toInt 236 = 236 from rfl); omega)) (by decide) (fun y38 r38 => ?_)
                  refine te_iload_n (p2 := 146) rfl rfl rfl ?_
                  refine au_sub (p2 := 147) rfl rfl (fun z39 e39 => ?_)
                  refine te_goto rfl ?_
                  refine te_istore (p2 := 163) (lv2 := [(4, .int z39), (0, .ref 164), (1, .int x1), (2, .int x2), (3, .int y31)]) rfl rfl (by decide) rfl ?_
                  refine te_aload_n (p2 := 164) rfl rfl rfl ?_
                  refine te_iconst (p2 := 165) (x := 1) rfl rfl (by decide) ?_
                  refine tc_V (p2 := 168) (i := 148) rfl rfl rfl rfl I32 rfl rfl rfl (c_X12_lays (back := 1) I32 (by decide) (by decide)) (by decide) (fun v40 h40 hq40 => ?_)
                  obtain ⟨I40, g40, w40, L40⟩ := hq40
                  subst w40
                  have f40 := fr_tr (F1 := F_X12_lays) (F := F_X12_beside) f32 g40 (by decide)
                  show EvP _ _ _ (168, [(4, .int z39), (0, .ref 164), (1, .int x1), (2, .int x2), (3, .int y31)], [], h40) _
                  refine te_iload (p2 := 170) rfl rfl rfl ?_
                  refine te_i2l (p2 := 171) (z := (Int32.toInt64 z39)) rfl rfl rfl ?_
                  exact te_lret rfl rfl ⟨I40, f40, _, rfl, (fun k hk => ((L40.2 (by decide)).1 k hk).trans (w32_0 k hk))⟩
                · refine te_aload_n (p2 := 89) rfl rfl rfl ?_
                  refine cV_mV (p2 := 92) (i := 148) rfl rfl rfl rfl I32 rfl rfl rfl (t_X12_goes  I32 ) (by decide) (fun h41 I41 g41 => ?_)
                  have f41 := fr_tr (F1 := F_X12_goes) (F := F_X12_beside) f32 g41 (by decide)
                  refine ar_inc (p2 := 95) (x := v32_4) rfl rfl (by decide) rfl (by decide) rfl (by omega) (by omega) (fun z42 e42 f42 => ?_)
                  show EvP _ _ _ (95, [(4, .int z42), (0, .ref 164), (1, .int x1), (2, .int x2), (3, .int y31)], [], h41) _
                  refine te_goto rfl ?_
                  refine te_lv [(0, .ref 164), (1, .int x1), (2, .int x2), (3, .int y31), (4, .int z42)] rfl rfl ⟨rfl, rfl, rfl, rfl, rfl, trivial⟩ ?_
                  exact ih32 z42 h41 I41 f41 (by omega) (by omega) (by omega) (fun k hk => (g41 150 _ rfl).trans (w32_0 k hk)) (by omega)
            refine te_lv [(0, .ref 164), (1, .int x1), (2, .int x2), (3, .int y31), (4, .int 0)] rfl rfl ⟨rfl, rfl, rfl, rfl, rfl, trivial⟩ ?_
            exact lp32 61 0 h8 I8 f8 (by decide) (by decide) (by have cc0 := (show Int32.toInt 0 = 0 from rfl); omega) (L8.1 (by decide)).1 (by have cc0 := (show Int32.toInt 0 = 0 from rfl); omega)
        · refine te_aload_n (p2 := 49) rfl rfl rfl ?_
          refine tg_r (p2 := 52) (i := 148) (r := 165) rfl rfl I8 rfl rfl rfl ?_
          refine te_bipush (p2 := 54) (x := 100) rfl rfl (by decide) ?_
          refine tl_i (p2 := 55) (i := 149) (n := 283) rfl rfl I8 rfl rfl rfl rfl (by decide) (by decide) (fun y43 a43 b43 g43 e43 => ?_)
          refine te_goto rfl ?_
          refine te_istore_n (p2 := 79) (lv2 := [(3, .int y43), (0, .ref 164), (1, .int x1), (2, .int x2)]) rfl rfl (by decide) rfl ?_
          refine te_iconst (p2 := 80) (x := 0) rfl rfl (by decide) ?_
          refine te_istore (p2 := 82) (lv2 := [(4, .int 0), (3, .int y43), (0, .ref 164), (1, .int x1), (2, .int x2)]) rfl rfl (by decide) rfl ?_
          have lp44 : ∀ (n44 : Nat) (v44_4 : Int32) (h44 : im_H), tI h44 → fr F_X12_beside h h44 → 0 ≤ v44_4.toInt → v44_4.toInt ≤ 60 → v44_4.toInt ≤ x1.toInt → (∀ k : Nat, (k : Int) < 283 → rd h44 150 k = rd h 149 k) → x1.toInt - v44_4.toInt < (n44 : Int) → EvP im_K0 8 mX12_beside (82, [(0, .ref 164), (1, .int x1), (2, .int x2), (3, .int y43), (4, .int v44_4)], [], h44) (fun v h2 => tI h2 ∧ fr F_X12_beside h h2 ∧ ∃ y : Int64, v = some (.long y) ∧ Q2_beside x1 x2 y h h2) := by
            intro n44
            induction n44 with
            | zero => intro v44_4 h44 I44 f44 a44_4 b44_4 l44_0 w44_0 m44; exfalso; omega
            | succ n44 ih44 =>
              intro v44_4 h44 I44 f44 a44_4 b44_4 l44_0 w44_0 m44
              refine te_iload (p2 := 84) rfl rfl rfl ?_
              refine te_iload_n (p2 := 85) rfl rfl rfl ?_
              refine tb_ge (p2 := 88) rfl rfl rfl rfl (fun c45 => ?_) (fun c45 => ?_)
              · refine te_iload_n (p2 := 99) rfl rfl rfl ?_
                refine tz_ne (p2 := 102) rfl rfl rfl (fun c46 => ?_) (fun c46 => absurd c46 (by omega))
                refine te_iload_n (p2 := 113) rfl rfl rfl ?_
                refine te_iconst (p2 := 114) (x := 1) rfl rfl (by decide) ?_
                refine tb_ne (p2 := 117) rfl rfl rfl (show Int32.toInt 1 = 1 from rfl) (fun c47 => absurd c47 (by omega)) (fun c47 => ?_)
                refine te_aload_n (p2 := 118) rfl rfl rfl ?_
                refine tg_r (p2 := 121) (i := 148) (r := 165) rfl rfl I44 rfl rfl rfl ?_
                refine te_bipush (p2 := 123) (x := 100) rfl rfl (by decide) ?_
                refine tl_i (p2 := 124) (i := 149) (n := 283) rfl rfl I44 rfl rfl rfl rfl (by decide) (by decide) (fun y48 a48 b48 g48 e48 => ?_)
                refine te_iload_n (p2 := 125) rfl rfl rfl ?_
                refine au_sub (p2 := 126) rfl rfl (fun z49 e49 => ?_)
                refine te_goto rfl ?_
                refine te_istore (p2 := 163) (lv2 := [(4, .int z49), (0, .ref 164), (1, .int x1), (2, .int x2), (3, .int y43)]) rfl rfl (by decide) rfl ?_
                refine te_aload_n (p2 := 164) rfl rfl rfl ?_
                refine te_iconst (p2 := 165) (x := 1) rfl rfl (by decide) ?_
                refine tc_V (p2 := 168) (i := 148) rfl rfl rfl rfl I44 rfl rfl rfl (c_X12_lays (back := 1) I44 (by decide) (by decide)) (by decide) (fun v50 h50 hq50 => ?_)
                obtain ⟨I50, g50, w50, L50⟩ := hq50
                subst w50
                have f50 := fr_tr (F1 := F_X12_lays) (F := F_X12_beside) f44 g50 (by decide)
                show EvP _ _ _ (168, [(4, .int z49), (0, .ref 164), (1, .int x1), (2, .int x2), (3, .int y43)], [], h50) _
                refine te_iload (p2 := 170) rfl rfl rfl ?_
                refine te_i2l (p2 := 171) (z := (Int32.toInt64 z49)) rfl rfl rfl ?_
                exact te_lret rfl rfl ⟨I50, f50, _, rfl, (fun k hk => ((L50.2 (by decide)).1 k hk).trans (w44_0 k hk))⟩
              · refine te_aload_n (p2 := 89) rfl rfl rfl ?_
                refine cV_mV (p2 := 92) (i := 148) rfl rfl rfl rfl I44 rfl rfl rfl (t_X12_goes  I44 ) (by decide) (fun h51 I51 g51 => ?_)
                have f51 := fr_tr (F1 := F_X12_goes) (F := F_X12_beside) f44 g51 (by decide)
                refine ar_inc (p2 := 95) (x := v44_4) rfl rfl (by decide) rfl (by decide) rfl (by omega) (by omega) (fun z52 e52 f52 => ?_)
                show EvP _ _ _ (95, [(4, .int z52), (0, .ref 164), (1, .int x1), (2, .int x2), (3, .int y43)], [], h51) _
                refine te_goto rfl ?_
                refine te_lv [(0, .ref 164), (1, .int x1), (2, .int x2), (3, .int y43), (4, .int z52)] rfl rfl ⟨rfl, rfl, rfl, rfl, rfl, trivial⟩ ?_
                exact ih44 z52 h51 I51 f51 (by omega) (by omega) (by omega) (fun k hk => (g51 150 _ rfl).trans (w44_0 k hk)) (by omega)
          refine te_lv [(0, .ref 164), (1, .int x1), (2, .int x2), (3, .int y43), (4, .int 0)] rfl rfl ⟨rfl, rfl, rfl, rfl, rfl, trivial⟩ ?_
          exact lp44 61 0 h8 I8 f8 (by decide) (by decide) (by have cc0 := (show Int32.toInt 0 = 0 from rfl); omega) (L8.1 (by decide)).1 (by have cc0 := (show Int32.toInt 0 = 0 from rfl); omega)
      · refine te_ldc2 (p2 := 37) (x := (-4611686018427387904)) rfl rfl rfl ?_
        exact te_lret rfl rfl ⟨hI, f0, _, rfl, (fun k hk => rfl)⟩
    · subst w3
      have cc3_1 := (show Int32.toInt 0 = 0 from rfl)
      have cc3_2 := (show Int32.toInt 3 = 3 from rfl)
      refine tz_eq (p2 := 19) rfl rfl (show Int32.toInt 0 = 0 from rfl) (fun c53 => ?_) (fun c53 => absurd c53 (by omega))
      refine te_ldc2 (p2 := 37) (x := (-4611686018427387904)) rfl rfl rfl ?_
      exact te_lret rfl rfl ⟨hI, f0, _, rfl, (fun k hk => rfl)⟩
  · subst w1
    have cc1_1 := (show Int32.toInt 1 = 1 from rfl)
    have cc1_2 := (show Int32.toInt 60 = 60 from rfl)
    refine tz_eq (p2 := 10) rfl rfl (show Int32.toInt 0 = 0 from rfl) (fun c54 => ?_) (fun c54 => absurd c54 (by omega))
    refine te_ldc2 (p2 := 37) (x := (-4611686018427387904)) rfl rfl rfl ?_
    exact te_lret rfl rfl ⟨hI, f0, _, rfl, (fun k hk => rfl)⟩
abbrev Q1_beside (x1 x2 : Int32) (y : Int64) (h h2 : im_H) : Prop := True
set_option maxRecDepth 20000 in
set_option maxHeartbeats 4000000 in
theorem c_X11_beside {x1 : Int32} {x2 : Int32} {h : im_H} (hI : tI h)  : CaP 8 100 [.ref 16, .int x1, .int x2] h (fun v h2 => tI h2 ∧ fr F_X11_beside h h2 ∧ ∃ y : Int64, v = some (.long y) ∧ Q1_beside x1 x2 y h h2) := by
  refine cap_of (d := 7) (M := mX11_beside) rfl (Nat.le_of_ble_eq_true rfl) ?_
  show EvP im_K0 7 mX11_beside (0, [(0, .ref 16), (1, .int x1), (2, .int x2)], [], h) _
  have f0 : fr F_X11_beside h h := fr_rf
  refine te_iload_n (p2 := 1) rfl rfl rfl ?_
  refine te_iconst (p2 := 2) (x := 1) rfl rfl (by decide) ?_
  refine te_bipush (p2 := 4) (x := 60) rfl rfl (by decide) ?_
  refine cS_pI (p2 := 7) rfl rfl rfl rfl (t_X11_between (n := x1) (a := 1) (b := 60) hI ) (by decide) (fun y1 r1 => ?_)
  rcases r1 with ⟨w1, c1⟩ | ⟨w1, c1⟩
  · subst w1
    have cc1_1 := (show Int32.toInt 1 = 1 from rfl)
    have cc1_2 := (show Int32.toInt 60 = 60 from rfl)
    refine tz_eq (p2 := 10) rfl rfl (show Int32.toInt 1 = 1 from rfl) (fun c2 => absurd c2 (by omega)) (fun c2 => ?_)
    refine te_iload_n (p2 := 11) rfl rfl rfl ?_
    refine te_iconst (p2 := 12) (x := 4) rfl rfl (by decide) ?_
    refine cS_pI (p2 := 15) rfl rfl rfl rfl (t_X11_within (n := x2) (b := 4) hI ) (by decide) (fun y3 r3 => ?_)
    rcases r3 with ⟨w3, c3⟩ | ⟨w3, c3⟩
    · subst w3
      have cc3_1 := (show Int32.toInt 4 = 4 from rfl)
      refine tz_eq (p2 := 18) rfl rfl (show Int32.toInt 1 = 1 from rfl) (fun c4 => absurd c4 (by omega)) (fun c4 => ?_)
      refine te_aload_n (p2 := 19) rfl rfl rfl ?_
      refine tg_r (p2 := 22) (i := 0) (r := 39) rfl rfl hI rfl rfl rfl ?_
      refine tg_i (p2 := 25) (i := 23) rfl rfl hI rfl rfl rfl (fun y5 a5 b5 e5 => ?_)
      refine te_iload_n (p2 := 26) rfl rfl rfl ?_
      refine au_add (p2 := 27) rfl rfl (fun z6 e6 => ?_)
      refine te_sipush (p2 := 30) (x := 2000) rfl rfl (by decide) ?_
      refine tb_le (p2 := 33) rfl rfl rfl (show Int32.toInt 2000 = 2000 from rfl) (fun c7 => ?_) (fun c7 => ?_)
      · refine te_aload_n (p2 := 38) rfl rfl rfl ?_
        refine tg_r (p2 := 41) (i := 0) (r := 53) rfl rfl hI rfl rfl rfl ?_
        refine te_aload_n (p2 := 42) rfl rfl rfl ?_
        refine tg_r (p2 := 45) (i := 0) (r := 39) rfl rfl hI rfl rfl rfl ?_
        refine cV_mV (p2 := 48) (i := 37) rfl rfl rfl rfl hI rfl rfl rfl (t_X9_become (s := 37) (o := 23) hI (by decide) (by decide)) (by decide) (fun h8 I8 g8 => ?_)
        have f8 := fr_tr (F1 := (F_X9_become 37 23)) (F := F_X11_beside) f0 g8 (by decide)
        refine te_iconst (p2 := 49) (x := 0) rfl rfl (by decide) ?_
        refine te_istore_n (p2 := 50) (lv2 := [(3, .int 0), (0, .ref 16), (1, .int x1), (2, .int x2)]) rfl rfl (by decide) rfl ?_
        have lp9 : ∀ (n9 : Nat) (v9_3 : Int32) (h9 : im_H), tI h9 → fr F_X11_beside h h9 → 0 ≤ v9_3.toInt → v9_3.toInt ≤ 60 → v9_3.toInt ≤ x1.toInt → x1.toInt - v9_3.toInt < (n9 : Int) → EvP im_K0 7 mX11_beside (50, [(0, .ref 16), (1, .int x1), (2, .int x2), (3, .int v9_3)], [], h9) (fun v h2 => tI h2 ∧ fr F_X11_beside h h2 ∧ ∃ y : Int64, v = some (.long y) ∧ Q1_beside x1 x2 y h h2) := by
          intro n9
          induction n9 with
          | zero => intro v9_3 h9 I9 f9 a9_3 b9_3 l9_0 m9; exfalso; omega
          | succ n9 ih9 =>
            intro v9_3 h9 I9 f9 a9_3 b9_3 l9_0 m9
            refine te_iload_n (p2 := 51) rfl rfl rfl ?_
            refine te_iload_n (p2 := 52) rfl rfl rfl ?_
            refine tb_ge (p2 := 55) rfl rfl rfl rfl (fun c10 => ?_) (fun c10 => ?_)
            · refine te_iload_n (p2 := 73) rfl rfl rfl ?_
              by_cases c11 : x2.toInt = 0
              · refine te_tsIn (k := 0) (p2 := 100) rfl c11 (by decide) (by decide) rfl (by decide) ?_
                refine te_aload_n (p2 := 101) rfl rfl rfl ?_
                refine tg_r (p2 := 104) (i := 0) (r := 53) rfl rfl I9 rfl rfl rfl ?_
                refine cV_pI (p2 := 107) (i := 37) rfl rfl rfl rfl I9 rfl rfl rfl (t_X9_allLoads (s := 37) I9 (by decide)) (by decide) (fun y12 r12 => ?_)
                refine te_i2l (p2 := 108) (z := (Int32.toInt64 y12)) rfl rfl rfl ?_
                exact te_lret rfl rfl ⟨I9, f9, _, rfl, trivial⟩
              · by_cases c13 : x2.toInt = 1
                · refine te_tsIn (k := 1) (p2 := 109) rfl c13 (by decide) (by decide) rfl (by decide) ?_
                  refine te_aload_n (p2 := 110) rfl rfl rfl ?_
                  refine tg_r (p2 := 113) (i := 0) (r := 53) rfl rfl I9 rfl rfl rfl ?_
                  refine tg_r (p2 := 116) (i := 37) (r := 54) rfl rfl I9 rfl rfl rfl ?_
                  refine te_iconst (p2 := 117) (x := 0) rfl rfl (by decide) ?_
                  refine tl_i (p2 := 118) (i := 38) (n := 3) rfl rfl I9 rfl rfl rfl rfl (by decide) (by decide) (fun y14 a14 b14 g14 e14 => ?_)
                  refine te_aload_n (p2 := 119) rfl rfl rfl ?_
                  refine tg_r (p2 := 122) (i := 0) (r := 39) rfl rfl I9 rfl rfl rfl ?_
                  refine tg_r (p2 := 125) (i := 23) (r := 40) rfl rfl I9 rfl rfl rfl ?_
                  refine te_iconst (p2 := 126) (x := 0) rfl rfl (by decide) ?_
                  refine tl_i (p2 := 127) (i := 24) (n := 3) rfl rfl I9 rfl rfl rfl rfl (by decide) (by decide) (fun y15 a15 b15 g15 e15 => ?_)
                  refine au_sub (p2 := 128) rfl rfl (fun z16 e16 => ?_)
                  refine te_i2l (p2 := 129) (z := (Int32.toInt64 z16)) rfl rfl rfl ?_
                  exact te_lret rfl rfl ⟨I9, f9, _, rfl, trivial⟩
                · by_cases c17 : x2.toInt = 2
                  · refine te_tsIn (k := 2) (p2 := 130) rfl c17 (by decide) (by decide) rfl (by decide) ?_
                    refine te_aload_n (p2 := 131) rfl rfl rfl ?_
                    refine tg_r (p2 := 134) (i := 0) (r := 53) rfl rfl I9 rfl rfl rfl ?_
                    refine cV_pI (p2 := 137) (i := 37) rfl rfl rfl rfl I9 rfl rfl rfl (t_X9_allDead (s := 37) I9 (by decide)) (by decide) (fun y18 r18 => ?_)
                    refine te_aload_n (p2 := 138) rfl rfl rfl ?_
                    refine tg_r (p2 := 141) (i := 0) (r := 39) rfl rfl I9 rfl rfl rfl ?_
                    refine cV_pI (p2 := 144) (i := 23) rfl rfl rfl rfl I9 rfl rfl rfl (t_X9_allDead (s := 23) I9 (by decide)) (by decide) (fun y19 r19 => ?_)
                    refine au_sub (p2 := 145) rfl rfl (fun z20 e20 => ?_)
                    refine te_i2l (p2 := 146) (z := (Int32.toInt64 z20)) rfl rfl rfl ?_
                    exact te_lret rfl rfl ⟨I9, f9, _, rfl, trivial⟩
                  · refine te_tsOut (p2 := 147) rfl (by omega) (by decide) ?_
                    refine te_aload_n (p2 := 148) rfl rfl rfl ?_
                    refine tg_r (p2 := 151) (i := 0) (r := 53) rfl rfl I9 rfl rfl rfl ?_
                    refine cV_pI (p2 := 154) (i := 37) rfl rfl rfl rfl I9 rfl rfl rfl (t_X9_allHurt (s := 37) I9 (by decide)) (by decide) (fun y21 r21 => ?_)
                    refine te_i2l (p2 := 155) (z := (Int32.toInt64 y21)) rfl rfl rfl ?_
                    exact te_lret rfl rfl ⟨I9, f9, _, rfl, trivial⟩
            · refine te_aload_n (p2 := 56) rfl rfl rfl ?_
              refine tg_r (p2 := 59) (i := 0) (r := 17) rfl rfl I9 rfl rfl rfl ?_
              refine te_aload_n (p2 := 60) rfl rfl rfl ?_
              refine tg_r (p2 := 63) (i := 0) (r := 53) rfl rfl I9 rfl rfl rfl ?_
              refine cV_mV (p2 := 66) (i := 1) rfl rfl rfl rfl I9 rfl rfl rfl (t_X0_playDay (s := 37) I9 (by decide)) (by decide) (fun h22 I22 g22 => ?_)
              have f22 := fr_tr (F1 := (F_X0_playDay 37)) (F := F_X11_beside) f9 g22 (by decide)
              refine ar_inc (p2 := 69) (x := v9_3) rfl rfl (by decide) rfl (by decide) rfl (by omega) (by omega) (fun z23 e23 f23 => ?_)
              show EvP _ _ _ (69, [(3, .int z23), (0, .ref 16), (1, .int x1), (2, .int x2)], [], h22) _
              refine te_goto rfl ?_
              refine te_lv [(0, .ref 16), (1, .int x1), (2, .int x2), (3, .int z23)] rfl rfl ⟨rfl, rfl, rfl, rfl, trivial⟩ ?_
              exact ih9 z23 h22 I22 f22 (by omega) (by omega) (by omega) (by omega)
        refine te_lv [(0, .ref 16), (1, .int x1), (2, .int x2), (3, .int 0)] rfl rfl ⟨rfl, rfl, rfl, rfl, trivial⟩ ?_
        exact lp9 61 0 h8 I8 f8 (by decide) (by decide) (by have cc0 := (show Int32.toInt 0 = 0 from rfl); omega) (by have cc0 := (show Int32.toInt 0 = 0 from rfl); omega)
      · refine te_ldc2 (p2 := 36) (x := (-4611686018427387904)) rfl rfl rfl ?_
        exact te_lret rfl rfl ⟨hI, f0, _, rfl, trivial⟩
    · subst w3
      have cc3_1 := (show Int32.toInt 4 = 4 from rfl)
      refine tz_eq (p2 := 18) rfl rfl (show Int32.toInt 0 = 0 from rfl) (fun c24 => ?_) (fun c24 => absurd c24 (by omega))
      refine te_ldc2 (p2 := 36) (x := (-4611686018427387904)) rfl rfl rfl ?_
      exact te_lret rfl rfl ⟨hI, f0, _, rfl, trivial⟩
  · subst w1
    have cc1_1 := (show Int32.toInt 1 = 1 from rfl)
    have cc1_2 := (show Int32.toInt 60 = 60 from rfl)
    refine tz_eq (p2 := 10) rfl rfl (show Int32.toInt 0 = 0 from rfl) (fun c25 => ?_) (fun c25 => absurd c25 (by omega))
    refine te_ldc2 (p2 := 36) (x := (-4611686018427387904)) rfl rfl rfl ?_
    exact te_lret rfl rfl ⟨hI, f0, _, rfl, trivial⟩
abbrev Q2_clear (x1 x2 : Int32) (y : Int32) (h h2 : im_H) : Prop := ∀ k : Nat, (k : Int) < 283 → rd h2 149 k = rd h 149 k
set_option maxRecDepth 20000 in
set_option maxHeartbeats 4000000 in
theorem c_X12_clear {x1 : Int32} {x2 : Int32} {h : im_H} (hI : tI h)  : CaP 9 188 [.ref 164, .int x1, .int x2] h (fun v h2 => tI h2 ∧ fr F_X12_clear h h2 ∧ ∃ y : Int32, v = some (.int y) ∧ Q2_clear x1 x2 y h h2) := by
  refine cap_of (d := 8) (M := mX12_clear) rfl (Nat.le_of_ble_eq_true rfl) ?_
  show EvP im_K0 8 mX12_clear (0, [(0, .ref 164), (1, .int x1), (2, .int x2)], [], h) _
  have f0 : fr F_X12_clear h h := fr_rf
  refine te_iload_n (p2 := 1) rfl rfl rfl ?_
  refine cS_pI (p2 := 4) rfl rfl rfl rfl (t_X12_isCell (n := x1) hI ) (by decide) (fun y1 r1 => ?_)
  rcases r1 with ⟨w1, c1⟩ | ⟨w1, c1⟩
  · subst w1
    refine tz_ne (p2 := 7) rfl rfl (show Int32.toInt 1 = 1 from rfl) (fun c2 => ?_) (fun c2 => absurd c2 (by omega))
    refine te_iload_n (p2 := 10) rfl rfl rfl ?_
    refine te_iconst (p2 := 11) (x := 1) rfl rfl (by decide) ?_
    refine te_bipush (p2 := 13) (x := 60) rfl rfl (by decide) ?_
    refine cS_pI (p2 := 16) rfl rfl rfl rfl (t_X12_in (n := x2) (a := 1) (b := 60) hI ) (by decide) (fun y3 r3 => ?_)
    rcases r3 with ⟨w3, c3⟩ | ⟨w3, c3⟩
    · subst w3
      have cc3_1 := (show Int32.toInt 1 = 1 from rfl)
      have cc3_2 := (show Int32.toInt 60 = 60 from rfl)
      refine tz_ne (p2 := 19) rfl rfl (show Int32.toInt 1 = 1 from rfl) (fun c4 => ?_) (fun c4 => absurd c4 (by omega))
      refine te_aload_n (p2 := 23) rfl rfl rfl ?_
      refine te_iconst (p2 := 24) (x := 0) rfl rfl (by decide) ?_
      refine tc_V (p2 := 27) (i := 148) rfl rfl rfl rfl hI rfl rfl rfl (c_X12_lays (back := 0) hI (by decide) (by decide)) (by decide) (fun v5 h5 hq5 => ?_)
      obtain ⟨I5, g5, w5, L5⟩ := hq5
      subst w5
      have f5 := fr_tr (F1 := F_X12_lays) (F := F_X12_clear) f0 g5 (by decide)
      show EvP _ _ _ (27, [(0, .ref 164), (1, .int x1), (2, .int x2)], [], h5) _
      refine te_iconst (p2 := 28) (x := 0) rfl rfl (by decide) ?_
      refine te_istore_n (p2 := 29) (lv2 := [(3, .int 0), (0, .ref 164), (1, .int x1), (2, .int x2)]) rfl rfl (by decide) rfl ?_
      have lp6 : ∀ (n6 : Nat) (v6_3 : Int32) (h6 : im_H), tI h6 → fr F_X12_clear h h6 → 0 ≤ v6_3.toInt → v6_3.toInt ≤ 61 → (∀ k : Nat, (k : Int) < 283 → rd h6 150 k = rd h 149 k) → 61 - v6_3.toInt < (n6 : Int) → EvP im_K0 8 mX12_clear (29, [(0, .ref 164), (1, .int x1), (2, .int x2), (3, .int v6_3)], [], h6) (fun v h2 => tI h2 ∧ fr F_X12_clear h h2 ∧ ∃ y : Int32, v = some (.int y) ∧ Q2_clear x1 x2 y h h2) := by
        intro n6
        induction n6 with
        | zero => intro v6_3 h6 I6 f6 a6_3 b6_3 w6_0 m6; exfalso; omega
        | succ n6 ih6 =>
          intro v6_3 h6 I6 f6 a6_3 b6_3 w6_0 m6
          refine te_iload_n (p2 := 30) rfl rfl rfl ?_
          refine te_iload_n (p2 := 31) rfl rfl rfl ?_
          refine tb_gt (p2 := 34) rfl rfl rfl rfl (fun c7 => ?_) (fun c7 => ?_)
          · refine te_aload_n (p2 := 54) rfl rfl rfl ?_
            refine te_iconst (p2 := 55) (x := 1) rfl rfl (by decide) ?_
            refine tc_V (p2 := 58) (i := 148) rfl rfl rfl rfl I6 rfl rfl rfl (c_X12_lays (back := 1) I6 (by decide) (by decide)) (by decide) (fun v8 h8 hq8 => ?_)
            obtain ⟨I8, g8, w8, L8⟩ := hq8
            subst w8
            have f8 := fr_tr (F1 := F_X12_lays) (F := F_X12_clear) f6 g8 (by decide)
            show EvP _ _ _ (58, [(0, .ref 164), (1, .int x1), (2, .int x2), (3, .int v6_3)], [], h8) _
            refine te_iload_n (p2 := 59) rfl rfl rfl ?_
            refine te_iload_n (p2 := 60) rfl rfl rfl ?_
            refine tb_le (p2 := 63) rfl rfl rfl rfl (fun c9 => ?_) (fun c9 => ?_)
            · refine te_iload_n (p2 := 69) rfl rfl rfl ?_
              exact te_iret rfl rfl ⟨I8, f8, _, rfl, (fun k hk => ((L8.2 (by decide)).1 k hk).trans (w6_0 k hk))⟩
            · refine te_bipush (p2 := 65) (x := (-3)) rfl rfl (by decide) ?_
              refine te_goto rfl ?_
              exact te_iret rfl rfl ⟨I8, f8, _, rfl, (fun k hk => ((L8.2 (by decide)).1 k hk).trans (w6_0 k hk))⟩
          · refine te_aload_n (p2 := 35) rfl rfl rfl ?_
            refine tg_r (p2 := 38) (i := 148) (r := 165) rfl rfl I6 rfl rfl rfl ?_
            refine te_iload_n (p2 := 39) rfl rfl rfl ?_
            refine tl_i (p2 := 40) (i := 149) (n := 283) rfl rfl I6 rfl rfl rfl rfl (by omega) (by omega) (fun y10 a10 b10 g10 e10 => ?_)
            refine tz_le (p2 := 43) rfl rfl rfl (fun c11 => ?_) (fun c11 => ?_)
            · refine te_aload_n (p2 := 54) rfl rfl rfl ?_
              refine te_iconst (p2 := 55) (x := 1) rfl rfl (by decide) ?_
              refine tc_V (p2 := 58) (i := 148) rfl rfl rfl rfl I6 rfl rfl rfl (c_X12_lays (back := 1) I6 (by decide) (by decide)) (by decide) (fun v12 h12 hq12 => ?_)
              obtain ⟨I12, g12, w12, L12⟩ := hq12
              subst w12
              have f12 := fr_tr (F1 := F_X12_lays) (F := F_X12_clear) f6 g12 (by decide)
              show EvP _ _ _ (58, [(0, .ref 164), (1, .int x1), (2, .int x2), (3, .int v6_3)], [], h12) _
              refine te_iload_n (p2 := 59) rfl rfl rfl ?_
              refine te_iload_n (p2 := 60) rfl rfl rfl ?_
              refine tb_le (p2 := 63) rfl rfl rfl rfl (fun c13 => ?_) (fun c13 => ?_)
              · refine te_iload_n (p2 := 69) rfl rfl rfl ?_
                exact te_iret rfl rfl ⟨I12, f12, _, rfl, (fun k hk => ((L12.2 (by decide)).1 k hk).trans (w6_0 k hk))⟩
              · refine te_bipush (p2 := 65) (x := (-3)) rfl rfl (by decide) ?_
                refine te_goto rfl ?_
                exact te_iret rfl rfl ⟨I12, f12, _, rfl, (fun k hk => ((L12.2 (by decide)).1 k hk).trans (w6_0 k hk))⟩
            · refine te_aload_n (p2 := 44) rfl rfl rfl ?_
              refine cV_mV (p2 := 47) (i := 148) rfl rfl rfl rfl I6 rfl rfl rfl (t_X12_goes  I6 ) (by decide) (fun h14 I14 g14 => ?_)
              have f14 := fr_tr (F1 := F_X12_goes) (F := F_X12_clear) f6 g14 (by decide)
              refine ar_inc (p2 := 50) (x := v6_3) rfl rfl (by decide) rfl (by decide) rfl (by omega) (by omega) (fun z15 e15 f15 => ?_)
              show EvP _ _ _ (50, [(3, .int z15), (0, .ref 164), (1, .int x1), (2, .int x2)], [], h14) _
              refine te_goto rfl ?_
              refine te_lv [(0, .ref 164), (1, .int x1), (2, .int x2), (3, .int z15)] rfl rfl ⟨rfl, rfl, rfl, rfl, trivial⟩ ?_
              exact ih6 z15 h14 I14 f14 (by omega) (by omega) (fun k hk => (g14 150 _ rfl).trans (w6_0 k hk)) (by omega)
      refine te_lv [(0, .ref 164), (1, .int x1), (2, .int x2), (3, .int 0)] rfl rfl ⟨rfl, rfl, rfl, rfl, trivial⟩ ?_
      exact lp6 62 0 h5 I5 f5 (by decide) (by decide) (L5.1 (by decide)).1 (by have cc0 := (show Int32.toInt 0 = 0 from rfl); omega)
    · subst w3
      have cc3_1 := (show Int32.toInt 1 = 1 from rfl)
      have cc3_2 := (show Int32.toInt 60 = 60 from rfl)
      refine tz_ne (p2 := 19) rfl rfl (show Int32.toInt 0 = 0 from rfl) (fun c16 => absurd c16 (by omega)) (fun c16 => ?_)
      refine te_bipush (p2 := 21) (x := (-2)) rfl rfl (by decide) ?_
      exact te_iret rfl rfl ⟨hI, f0, _, rfl, (fun k hk => rfl)⟩
  · subst w1
    refine tz_ne (p2 := 7) rfl rfl (show Int32.toInt 0 = 0 from rfl) (fun c17 => absurd c17 (by omega)) (fun c17 => ?_)
    refine te_iconst (p2 := 8) (x := (-1)) rfl rfl (by decide) ?_
    exact te_iret rfl rfl ⟨hI, f0, _, rfl, (fun k hk => rfl)⟩
abbrev Q1_clear (x1 x2 : Int32) (y : Int32) (h h2 : im_H) : Prop := True
set_option maxRecDepth 20000 in
set_option maxHeartbeats 4000000 in
theorem c_X11_clear {x1 : Int32} {x2 : Int32} {h : im_H} (hI : tI h)  : CaP 8 101 [.ref 16, .int x1, .int x2] h (fun v h2 => tI h2 ∧ fr F_X11_clear h h2 ∧ ∃ y : Int32, v = some (.int y) ∧ Q1_clear x1 x2 y h h2) := by
  refine cap_of (d := 7) (M := mX11_clear) rfl (Nat.le_of_ble_eq_true rfl) ?_
  show EvP im_K0 7 mX11_clear (0, [(0, .ref 16), (1, .int x1), (2, .int x2)], [], h) _
  have f0 : fr F_X11_clear h h := fr_rf
  refine te_iload_n (p2 := 1) rfl rfl rfl ?_
  refine te_bipush (p2 := 3) (x := 100) rfl rfl (by decide) ?_
  refine cS_pI (p2 := 6) rfl rfl rfl rfl (t_X11_within (n := x1) (b := 100) hI ) (by decide) (fun y1 r1 => ?_)
  rcases r1 with ⟨w1, c1⟩ | ⟨w1, c1⟩
  · subst w1
    have cc1_1 := (show Int32.toInt 100 = 100 from rfl)
    refine tz_ne (p2 := 9) rfl rfl (show Int32.toInt 1 = 1 from rfl) (fun c2 => ?_) (fun c2 => absurd c2 (by omega))
    refine te_iload_n (p2 := 12) rfl rfl rfl ?_
    refine te_iconst (p2 := 13) (x := 1) rfl rfl (by decide) ?_
    refine te_bipush (p2 := 15) (x := 60) rfl rfl (by decide) ?_
    refine cS_pI (p2 := 18) rfl rfl rfl rfl (t_X11_between (n := x2) (a := 1) (b := 60) hI ) (by decide) (fun y3 r3 => ?_)
    rcases r3 with ⟨w3, c3⟩ | ⟨w3, c3⟩
    · subst w3
      have cc3_1 := (show Int32.toInt 1 = 1 from rfl)
      have cc3_2 := (show Int32.toInt 60 = 60 from rfl)
      refine tz_ne (p2 := 21) rfl rfl (show Int32.toInt 1 = 1 from rfl) (fun c4 => ?_) (fun c4 => absurd c4 (by omega))
      refine te_aload_n (p2 := 25) rfl rfl rfl ?_
      refine tg_r (p2 := 28) (i := 0) (r := 53) rfl rfl hI rfl rfl rfl ?_
      refine te_aload_n (p2 := 29) rfl rfl rfl ?_
      refine tg_r (p2 := 32) (i := 0) (r := 39) rfl rfl hI rfl rfl rfl ?_
      refine cV_mV (p2 := 35) (i := 37) rfl rfl rfl rfl hI rfl rfl rfl (t_X9_become (s := 37) (o := 23) hI (by decide) (by decide)) (by decide) (fun h5 I5 g5 => ?_)
      have f5 := fr_tr (F1 := (F_X9_become 37 23)) (F := F_X11_clear) f0 g5 (by decide)
      refine te_iconst (p2 := 36) (x := 0) rfl rfl (by decide) ?_
      refine te_istore_n (p2 := 37) (lv2 := [(3, .int 0), (0, .ref 16), (1, .int x1), (2, .int x2)]) rfl rfl (by decide) rfl ?_
      have lp6 : ∀ (n6 : Nat) (v6_3 : Int32) (h6 : im_H), tI h6 → fr F_X11_clear h h6 → 0 ≤ v6_3.toInt → v6_3.toInt ≤ 60 → v6_3.toInt ≤ x2.toInt → x2.toInt - v6_3.toInt < (n6 : Int) → EvP im_K0 7 mX11_clear (37, [(0, .ref 16), (1, .int x1), (2, .int x2), (3, .int v6_3)], [], h6) (fun v h2 => tI h2 ∧ fr F_X11_clear h h2 ∧ ∃ y : Int32, v = some (.int y) ∧ Q1_clear x1 x2 y h h2) := by
        intro n6
        induction n6 with
        | zero => intro v6_3 h6 I6 f6 a6_3 b6_3 l6_0 m6; exfalso; omega
        | succ n6 ih6 =>
          intro v6_3 h6 I6 f6 a6_3 b6_3 l6_0 m6
          refine te_iload_n (p2 := 38) rfl rfl rfl ?_
          refine te_iload_n (p2 := 39) rfl rfl rfl ?_
          refine tb_ge (p2 := 42) rfl rfl rfl rfl (fun c7 => ?_) (fun c7 => ?_)
          · refine te_aload_n (p2 := 74) rfl rfl rfl ?_
            refine tg_r (p2 := 77) (i := 0) (r := 53) rfl rfl I6 rfl rfl rfl ?_
            refine tg_r (p2 := 80) (i := 37) (r := 55) rfl rfl I6 rfl rfl rfl ?_
            refine te_iload_n (p2 := 81) rfl rfl rfl ?_
            refine tl_i (p2 := 82) (i := 39) (n := 100) rfl rfl I6 rfl rfl rfl rfl (by omega) (by omega) (fun y8 a8 b8 g8 e8 => ?_)
            refine tz_ne (p2 := 85) rfl rfl rfl (fun c9 => ?_) (fun c9 => ?_)
            · refine te_bipush (p2 := 91) (x := (-3)) rfl rfl (by decide) ?_
              exact te_iret rfl rfl ⟨I6, f6, _, rfl, trivial⟩
            · refine te_iload_n (p2 := 86) rfl rfl rfl ?_
              refine te_goto rfl ?_
              exact te_iret rfl rfl ⟨I6, f6, _, rfl, trivial⟩
          · refine te_aload_n (p2 := 43) rfl rfl rfl ?_
            refine tg_r (p2 := 46) (i := 0) (r := 53) rfl rfl I6 rfl rfl rfl ?_
            refine tg_r (p2 := 49) (i := 37) (r := 55) rfl rfl I6 rfl rfl rfl ?_
            refine te_iload_n (p2 := 50) rfl rfl rfl ?_
            refine tl_i (p2 := 51) (i := 39) (n := 100) rfl rfl I6 rfl rfl rfl rfl (by omega) (by omega) (fun y10 a10 b10 g10 e10 => ?_)
            refine tz_ne (p2 := 54) rfl rfl rfl (fun c11 => ?_) (fun c11 => ?_)
            · refine te_aload_n (p2 := 57) rfl rfl rfl ?_
              refine tg_r (p2 := 60) (i := 0) (r := 17) rfl rfl I6 rfl rfl rfl ?_
              refine te_aload_n (p2 := 61) rfl rfl rfl ?_
              refine tg_r (p2 := 64) (i := 0) (r := 53) rfl rfl I6 rfl rfl rfl ?_
              refine cV_mV (p2 := 67) (i := 1) rfl rfl rfl rfl I6 rfl rfl rfl (t_X0_playDay (s := 37) I6 (by decide)) (by decide) (fun h12 I12 g12 => ?_)
              have f12 := fr_tr (F1 := (F_X0_playDay 37)) (F := F_X11_clear) f6 g12 (by decide)
              refine ar_inc (p2 := 70) (x := v6_3) rfl rfl (by decide) rfl (by decide) rfl (by omega) (by omega) (fun z13 e13 f13 => ?_)
              show EvP _ _ _ (70, [(3, .int z13), (0, .ref 16), (1, .int x1), (2, .int x2)], [], h12) _
              refine te_goto rfl ?_
              refine te_lv [(0, .ref 16), (1, .int x1), (2, .int x2), (3, .int z13)] rfl rfl ⟨rfl, rfl, rfl, rfl, trivial⟩ ?_
              exact ih6 z13 h12 I12 f12 (by omega) (by omega) (by omega) (by omega)
            · refine te_iload_n (p2 := 55) rfl rfl rfl ?_
              exact te_iret rfl rfl ⟨I6, f6, _, rfl, trivial⟩
      refine te_lv [(0, .ref 16), (1, .int x1), (2, .int x2), (3, .int 0)] rfl rfl ⟨rfl, rfl, rfl, rfl, trivial⟩ ?_
      exact lp6 61 0 h5 I5 f5 (by decide) (by decide) (by have cc0 := (show Int32.toInt 0 = 0 from rfl); omega) (by have cc0 := (show Int32.toInt 0 = 0 from rfl); omega)
    · subst w3
      have cc3_1 := (show Int32.toInt 1 = 1 from rfl)
      have cc3_2 := (show Int32.toInt 60 = 60 from rfl)
      refine tz_ne (p2 := 21) rfl rfl (show Int32.toInt 0 = 0 from rfl) (fun c14 => absurd c14 (by omega)) (fun c14 => ?_)
      refine te_bipush (p2 := 23) (x := (-2)) rfl rfl (by decide) ?_
      exact te_iret rfl rfl ⟨hI, f0, _, rfl, trivial⟩
  · subst w1
    have cc1_1 := (show Int32.toInt 100 = 100 from rfl)
    refine tz_ne (p2 := 9) rfl rfl (show Int32.toInt 0 = 0 from rfl) (fun c15 => absurd c15 (by omega)) (fun c15 => ?_)
    refine te_iconst (p2 := 10) (x := (-1)) rfl rfl (by decide) ?_
    exact te_iret rfl rfl ⟨hI, f0, _, rfl, trivial⟩
def fA (x1 x2 x3 pc p : Int32) : Int32 := if 0 ≤ x1.toInt ∧ x1.toInt ≤ 11 ∧ 0 ≤ x2.toInt ∧ x2.toInt < pc.toInt then (if 0 ≤ x3.toInt ∧ x3.toInt ≤ 2000 then (if 24 ≤ p.toInt then -4 else p) else -2) else -1
def gA (x1 x2 x3 pc p : Int32) : Int32 := if 0 ≤ x1.toInt ∧ x1.toInt ≤ 11 ∧ 0 ≤ x2.toInt ∧ x2.toInt < pc.toInt then (if 0 ≤ x3.toInt ∧ x3.toInt ≤ 2000 then (if 24 ≤ p.toInt then p else p + 1) else p) else p
abbrev Q1_paper (x1 x2 x3 : Int32) (y : Int32) (h h2 : im_H) : Prop := ∃ pc p d : Int32, rd h 1 2 = some (.int pc) ∧ rd h 91 0 = some (.int p) ∧ rd h 23 0 = some (.int d) ∧ y = fA x1 x2 x3 pc p ∧ rd h2 91 0 = some (.int (gA x1 x2 x3 pc p)) ∧ (0 ≤ y.toInt → rd h2 92 p.toInt.toNat = some (.int x1) ∧ rd h2 93 p.toInt.toNat = some (.int x2) ∧ rd h2 94 p.toInt.toNat = some (.int x3) ∧ rd h2 95 p.toInt.toNat = some (.int d)) ∧ (∀ k : Nat, (k ≠ p.toInt.toNat ∨ ¬ 0 ≤ y.toInt) → rd h2 92 k = rd h 92 k ∧ rd h2 93 k = rd h 93 k ∧ rd h2 94 k = rd h 94 k ∧ rd h2 95 k = rd h 95 k)
set_option maxRecDepth 20000 in
set_option maxHeartbeats 4000000 in
theorem c_X11_paper {x1 : Int32} {x2 : Int32} {x3 : Int32} {h : im_H} (hI : tI h)  : CaP 8 96 [.ref 16, .int x1, .int x2, .int x3] h (fun v h2 => tI h2 ∧ fr F_X11_paper h h2 ∧ ∃ y : Int32, v = some (.int y) ∧ Q1_paper x1 x2 x3 y h h2) := by
  refine cap_of (d := 7) (M := mX11_paper) rfl (Nat.le_of_ble_eq_true rfl) ?_
  show EvP im_K0 7 mX11_paper (0, [(0, .ref 16), (1, .int x1), (2, .int x2), (3, .int x3)], [], h) _
  have f0 : fr F_X11_paper h h := fr_rf
  refine te_iload_n (p2 := 1) rfl rfl rfl ?_
  refine te_bipush (p2 := 3) (x := 12) rfl rfl (by decide) ?_
  refine cS_pI (p2 := 6) rfl rfl rfl rfl (t_X11_within (n := x1) (b := 12) hI ) (by decide) (fun y1 r1 => ?_)
  rcases r1 with ⟨w1, c1⟩ | ⟨w1, c1⟩
  · subst w1
    have cc1_1 := (show Int32.toInt 12 = 12 from rfl)
    refine tz_eq (p2 := 9) rfl rfl (show Int32.toInt 1 = 1 from rfl) (fun c2 => absurd c2 (by omega)) (fun c2 => ?_)
    refine te_iload_n (p2 := 10) rfl rfl rfl ?_
    refine te_aload_n (p2 := 11) rfl rfl rfl ?_
    refine tg_r (p2 := 14) (i := 0) (r := 17) rfl rfl hI rfl rfl rfl ?_
    refine tg_i (p2 := 17) (i := 1) rfl rfl hI rfl rfl rfl (fun y3 a3 b3 e3 => ?_)
    refine cS_pI (p2 := 20) rfl rfl rfl rfl (t_X11_within (n := x2) (b := y3) hI ) (by decide) (fun y4 r4 => ?_)
    rcases r4 with ⟨w4, c4⟩ | ⟨w4, c4⟩
    · subst w4
      refine tz_ne (p2 := 23) rfl rfl (show Int32.toInt 1 = 1 from rfl) (fun c5 => ?_) (fun c5 => absurd c5 (by omega))
      refine te_iload_n (p2 := 26) rfl rfl rfl ?_
      refine te_iconst (p2 := 27) (x := 0) rfl rfl (by decide) ?_
      refine te_sipush (p2 := 30) (x := 2000) rfl rfl (by decide) ?_
      refine cS_pI (p2 := 33) rfl rfl rfl rfl (t_X11_between (n := x3) (a := 0) (b := 2000) hI ) (by decide) (fun y6 r6 => ?_)
      rcases r6 with ⟨w6, c6⟩ | ⟨w6, c6⟩
      · subst w6
        have cc6_1 := (show Int32.toInt 0 = 0 from rfl)
        have cc6_2 := (show Int32.toInt 2000 = 2000 from rfl)
        refine tz_ne (p2 := 36) rfl rfl (show Int32.toInt 1 = 1 from rfl) (fun c7 => ?_) (fun c7 => absurd c7 (by omega))
        refine te_aload_n (p2 := 40) rfl rfl rfl ?_
        refine tg_r (p2 := 43) (i := 0) (r := 107) rfl rfl hI rfl rfl rfl ?_
        refine tg_i (p2 := 46) (i := 91) rfl rfl hI rfl rfl rfl (fun y8 a8 b8 e8 => ?_)
        refine te_bipush (p2 := 48) (x := 24) rfl rfl (by decide) ?_
        refine tb_lt (p2 := 51) rfl rfl rfl (show Int32.toInt 24 = 24 from rfl) (fun c9 => ?_) (fun c9 => ?_)
        · refine te_aload_n (p2 := 55) rfl rfl rfl ?_
          refine tg_r (p2 := 58) (i := 0) (r := 107) rfl rfl hI rfl rfl rfl ?_
          refine tg_e (p2 := 61) (i := 91) (v := .int y8) rfl rfl hI rfl rfl e8 ?_
          refine te_istore (p2 := 63) (lv2 := [(4, .int y8), (0, .ref 16), (1, .int x1), (2, .int x2), (3, .int x3)]) rfl rfl (by decide) rfl ?_
          refine te_aload_n (p2 := 64) rfl rfl rfl ?_
          refine tg_r (p2 := 67) (i := 0) (r := 107) rfl rfl hI rfl rfl rfl ?_
          refine tg_r (p2 := 70) (i := 91) (r := 108) rfl rfl hI rfl rfl rfl ?_
          refine te_iload (p2 := 72) rfl rfl rfl ?_
          refine te_iload_n (p2 := 73) rfl rfl rfl ?_
          refine ts_i (p2 := 74) (i := 92) (n := 24) rfl rfl hI rfl rfl rfl rfl (by omega) (by omega) (i32_lo _) (i32_hi _) (i32_ho _) rfl (fun h10 I10 u10 => ?_)
          have f10 := fr_st (F := F_X11_paper) 1 f0 u10 rfl (by omega) (by omega)
          refine te_aload_n (p2 := 75) rfl rfl rfl ?_
          refine tg_r (p2 := 78) (i := 0) (r := 107) rfl rfl I10 rfl rfl rfl ?_
          refine tg_r (p2 := 81) (i := 91) (r := 109) rfl rfl I10 rfl rfl rfl ?_
          refine te_iload (p2 := 83) rfl rfl rfl ?_
          refine te_iload_n (p2 := 84) rfl rfl rfl ?_
          refine ts_i (p2 := 85) (i := 93) (n := 24) rfl rfl I10 rfl rfl rfl rfl (by omega) (by omega) (i32_lo _) (i32_hi _) (i32_ho _) rfl (fun h11 I11 u11 => ?_)
          have f11 := fr_st (F := F_X11_paper) 2 f10 u11 rfl (by omega) (by omega)
          refine te_aload_n (p2 := 86) rfl rfl rfl ?_
          refine tg_r (p2 := 89) (i := 0) (r := 107) rfl rfl I11 rfl rfl rfl ?_
          refine tg_r (p2 := 92) (i := 91) (r := 110) rfl rfl I11 rfl rfl rfl ?_
          refine te_iload (p2 := 94) rfl rfl rfl ?_
          refine te_iload_n (p2 := 95) rfl rfl rfl ?_
          refine ts_i (p2 := 96) (i := 94) (n := 24) rfl rfl I11 rfl rfl rfl rfl (by omega) (by omega) (i32_lo _) (i32_hi _) (i32_ho _) rfl (fun h12 I12 u12 => ?_)
          have f12 := fr_st (F := F_X11_paper) 3 f11 u12 rfl (by omega) (by omega)
          refine te_aload_n (p2 := 97) rfl rfl rfl ?_
          refine tg_r (p2 := 100) (i := 0) (r := 107) rfl rfl I12 rfl rfl rfl ?_
          refine tg_r (p2 := 103) (i := 91) (r := 111) rfl rfl I12 rfl rfl rfl ?_
          refine te_iload (p2 := 105) rfl rfl rfl ?_
          refine te_aload_n (p2 := 106) rfl rfl rfl ?_
          refine tg_r (p2 := 109) (i := 0) (r := 39) rfl rfl I12 rfl rfl rfl ?_
          refine tg_i (p2 := 112) (i := 23) rfl rfl I12 rfl rfl rfl (fun y13 a13 b13 e13 => ?_)
          refine ts_i (p2 := 113) (i := 95) (n := 24) rfl rfl I12 rfl rfl rfl rfl (by omega) (by omega) (i32_lo _) (i32_hi _) (i32_ho _) rfl (fun h14 I14 u14 => ?_)
          have f14 := fr_st (F := F_X11_paper) 4 f12 u14 rfl (by omega) (by omega)
          refine te_aload_n (p2 := 114) rfl rfl rfl ?_
          refine tg_r (p2 := 117) (i := 0) (r := 107) rfl rfl I14 rfl rfl rfl ?_
          refine te_dup (p2 := 118) rfl rfl rfl ?_
          refine tg_e (p2 := 121) (i := 91) (v := .int y8) rfl rfl I14 rfl rfl ((u14.2 _ _ (Or.inl (by decide))).trans ((u12.2 _ _ (Or.inl (by decide))).trans ((u11.2 _ _ (Or.inl (by decide))).trans ((u10.2 _ _ (Or.inl (by decide))).trans e8)))) ?_
          refine te_iconst (p2 := 122) (x := 1) rfl rfl (by decide) ?_
          refine ar_add (p2 := 123) rfl rfl rfl (show Int32.toInt 1 = 1 from rfl) (by omega) (by omega) (fun z15 e15 f15 => ?_)
          refine tp_i (p2 := 126) (i := 91) rfl rfl I14 rfl rfl (by decide) rfl rfl rfl (by omega) (by omega) (by omega) rfl (fun h16 I16 u16 => ?_)
          have f16 := fr_st (F := F_X11_paper) 0 f14 u16 rfl (by decide) (by decide)
          refine te_iload (p2 := 128) rfl rfl rfl ?_
          exact te_iret rfl rfl ⟨I16, f16, _, rfl, y3, y8, y13, e3, e8, ((f16 23 0 rfl).symm.trans ((u16.2 _ _ (Or.inl (by decide))).trans ((u14.2 _ _ (Or.inl (by decide))).trans e13))), (show y8 = fA x1 x2 x3 y3 y8 from by (unfold fA; (repeat' split) <;> first | (exfalso; omega) | rfl | assumption | (exact i32_ext (by omega)) | (subst_vars; rfl))), u16.1.trans (congrArg (fun t => some (Value.int t)) (show z15 = gA x1 x2 x3 y3 y8 from by (unfold gA; (repeat' split) <;> first | (exfalso; omega) | rfl | assumption | (exact i32_ext (by omega)) | (subst_vars; rfl)))), (fun _ => ⟨(u16.2 _ _ (Or.inl (by decide))).trans ((u14.2 _ _ (Or.inl (by decide))).trans ((u12.2 _ _ (Or.inl (by decide))).trans ((u11.2 _ _ (Or.inl (by decide))).trans (u10.1)))), (u16.2 _ _ (Or.inl (by decide))).trans ((u14.2 _ _ (Or.inl (by decide))).trans ((u12.2 _ _ (Or.inl (by decide))).trans (u11.1))), (u16.2 _ _ (Or.inl (by decide))).trans ((u14.2 _ _ (Or.inl (by decide))).trans (u12.1)), (u16.2 _ _ (Or.inl (by decide))).trans (u14.1)⟩), (fun k hk => by (have hq : k ≠ y8.toInt.toNat := hk.resolve_right (fun h9 => h9 (by omega))); exact ⟨((u16.2 _ _ (Or.inl (by decide))).trans ((u14.2 _ _ (Or.inl (by decide))).trans ((u12.2 _ _ (Or.inl (by decide))).trans ((u11.2 _ _ (Or.inl (by decide))).trans (u10.2 _ _ (Or.inr hq)))))), ((u16.2 _ _ (Or.inl (by decide))).trans ((u14.2 _ _ (Or.inl (by decide))).trans ((u12.2 _ _ (Or.inl (by decide))).trans ((u11.2 _ _ (Or.inr hq)).trans (u10.2 _ _ (Or.inl (by decide))))))), ((u16.2 _ _ (Or.inl (by decide))).trans ((u14.2 _ _ (Or.inl (by decide))).trans ((u12.2 _ _ (Or.inr hq)).trans ((u11.2 _ _ (Or.inl (by decide))).trans (u10.2 _ _ (Or.inl (by decide))))))), ((u16.2 _ _ (Or.inl (by decide))).trans ((u14.2 _ _ (Or.inr hq)).trans ((u12.2 _ _ (Or.inl (by decide))).trans ((u11.2 _ _ (Or.inl (by decide))).trans (u10.2 _ _ (Or.inl (by decide)))))))⟩)⟩
        · refine te_bipush (p2 := 53) (x := (-4)) rfl rfl (by decide) ?_
          obtain ⟨v17, e17, y17, w17, a17, b17, _⟩ := hI.2.1 23 0 (.inl ((-2147483648), 2147483647, 9999999999)) rfl
          subst w17
          exact te_iret rfl rfl ⟨hI, f0, _, rfl, y3, y8, y17, e3, e8, e17, (show (-4) = fA x1 x2 x3 y3 y8 from by (have c0_ := (show Int32.toInt (-4) = (-4) from rfl); unfold fA; (repeat' split) <;> first | (exfalso; omega) | rfl | assumption | (exact i32_ext (by omega)) | (subst_vars; rfl))), e8.trans (congrArg (fun t => some (Value.int t)) (show y8 = gA x1 x2 x3 y3 y8 from by (have c0_ := (show Int32.toInt (-4) = (-4) from rfl); unfold gA; (repeat' split) <;> first | (exfalso; omega) | rfl | assumption | (exact i32_ext (by omega)) | (subst_vars; rfl)))), (fun hy => absurd hy (by rw [show Int32.toInt (-4) = (-4) from rfl]; decide)), (fun k hk => ⟨rfl, rfl, rfl, rfl⟩)⟩
      · subst w6
        have cc6_1 := (show Int32.toInt 0 = 0 from rfl)
        have cc6_2 := (show Int32.toInt 2000 = 2000 from rfl)
        refine tz_ne (p2 := 36) rfl rfl (show Int32.toInt 0 = 0 from rfl) (fun c18 => absurd c18 (by omega)) (fun c18 => ?_)
        refine te_bipush (p2 := 38) (x := (-2)) rfl rfl (by decide) ?_
        obtain ⟨v19, e19, y19, w19, a19, b19, _⟩ := hI.2.1 91 0 (.inl (0, 24, 9999999999)) rfl
        subst w19
        obtain ⟨v20, e20, y20, w20, a20, b20, _⟩ := hI.2.1 23 0 (.inl ((-2147483648), 2147483647, 9999999999)) rfl
        subst w20
        exact te_iret rfl rfl ⟨hI, f0, _, rfl, y3, y19, y20, e3, e19, e20, (show (-2) = fA x1 x2 x3 y3 y19 from by (have c0_ := (show Int32.toInt (-2) = (-2) from rfl); unfold fA; (repeat' split) <;> first | (exfalso; omega) | rfl | assumption | (exact i32_ext (by omega)) | (subst_vars; rfl))), e19.trans (congrArg (fun t => some (Value.int t)) (show y19 = gA x1 x2 x3 y3 y19 from by (have c0_ := (show Int32.toInt (-2) = (-2) from rfl); unfold gA; (repeat' split) <;> first | (exfalso; omega) | rfl | assumption | (exact i32_ext (by omega)) | (subst_vars; rfl)))), (fun hy => absurd hy (by rw [show Int32.toInt (-2) = (-2) from rfl]; decide)), (fun k hk => ⟨rfl, rfl, rfl, rfl⟩)⟩
    · subst w4
      refine tz_ne (p2 := 23) rfl rfl (show Int32.toInt 0 = 0 from rfl) (fun c21 => absurd c21 (by omega)) (fun c21 => ?_)
      refine te_iconst (p2 := 24) (x := (-1)) rfl rfl (by decide) ?_
      obtain ⟨v22, e22, y22, w22, a22, b22, _⟩ := hI.2.1 91 0 (.inl (0, 24, 9999999999)) rfl
      subst w22
      obtain ⟨v23, e23, y23, w23, a23, b23, _⟩ := hI.2.1 23 0 (.inl ((-2147483648), 2147483647, 9999999999)) rfl
      subst w23
      exact te_iret rfl rfl ⟨hI, f0, _, rfl, y3, y22, y23, e3, e22, e23, (show (-1) = fA x1 x2 x3 y3 y22 from by (have c0_ := (show Int32.toInt (-1) = (-1) from rfl); unfold fA; (repeat' split) <;> first | (exfalso; omega) | rfl | assumption | (exact i32_ext (by omega)) | (subst_vars; rfl))), e22.trans (congrArg (fun t => some (Value.int t)) (show y22 = gA x1 x2 x3 y3 y22 from by (have c0_ := (show Int32.toInt (-1) = (-1) from rfl); unfold gA; (repeat' split) <;> first | (exfalso; omega) | rfl | assumption | (exact i32_ext (by omega)) | (subst_vars; rfl)))), (fun hy => absurd hy (by rw [show Int32.toInt (-1) = (-1) from rfl]; decide)), (fun k hk => ⟨rfl, rfl, rfl, rfl⟩)⟩
  · subst w1
    have cc1_1 := (show Int32.toInt 12 = 12 from rfl)
    refine tz_eq (p2 := 9) rfl rfl (show Int32.toInt 0 = 0 from rfl) (fun c24 => ?_) (fun c24 => absurd c24 (by omega))
    refine te_iconst (p2 := 24) (x := (-1)) rfl rfl (by decide) ?_
    obtain ⟨v25, e25, y25, w25, a25, b25, _⟩ := hI.2.1 1 2 (.inl (0, 24, 9999999999)) rfl
    subst w25
    obtain ⟨v26, e26, y26, w26, a26, b26, _⟩ := hI.2.1 91 0 (.inl (0, 24, 9999999999)) rfl
    subst w26
    obtain ⟨v27, e27, y27, w27, a27, b27, _⟩ := hI.2.1 23 0 (.inl ((-2147483648), 2147483647, 9999999999)) rfl
    subst w27
    exact te_iret rfl rfl ⟨hI, f0, _, rfl, y25, y26, y27, e25, e26, e27, (show (-1) = fA x1 x2 x3 y25 y26 from by (have c0_ := (show Int32.toInt (-1) = (-1) from rfl); unfold fA; (repeat' split) <;> first | (exfalso; omega) | rfl | assumption | (exact i32_ext (by omega)) | (subst_vars; rfl))), e26.trans (congrArg (fun t => some (Value.int t)) (show y26 = gA x1 x2 x3 y25 y26 from by (have c0_ := (show Int32.toInt (-1) = (-1) from rfl); unfold gA; (repeat' split) <;> first | (exfalso; omega) | rfl | assumption | (exact i32_ext (by omega)) | (subst_vars; rfl)))), (fun hy => absurd hy (by rw [show Int32.toInt (-1) = (-1) from rfl]; decide)), (fun k hk => ⟨rfl, rfl, rfl, rfl⟩)⟩
abbrev Q1_burn (x1 : Int32) (y : Int32) (h h2 : im_H) : Prop := ∃ p d : Int32, rd h 91 0 = some (.int p) ∧ rd h 23 0 = some (.int d) ∧ ((0 ≤ x1.toInt ∧ x1.toInt < p.toInt ∧ ∃ b : Int32, rd h 96 x1.toInt.toNat = some (.int b) ∧ y = (if b.toInt = -1 then 1 else -3)) ∨ (¬ (0 ≤ x1.toInt ∧ x1.toInt < p.toInt) ∧ y = -1)) ∧ (y.toInt = 1 → rd h2 96 x1.toInt.toNat = some (.int d)) ∧ (∀ k : Nat, (k ≠ x1.toInt.toNat ∨ y.toInt ≠ 1) → rd h2 96 k = rd h 96 k)
set_option maxRecDepth 20000 in
set_option maxHeartbeats 4000000 in
theorem c_X11_burn {x1 : Int32} {h : im_H} (hI : tI h)  : CaP 8 97 [.ref 16, .int x1] h (fun v h2 => tI h2 ∧ fr F_X11_burn h h2 ∧ ∃ y : Int32, v = some (.int y) ∧ Q1_burn x1 y h h2) := by
  refine cap_of (d := 7) (M := mX11_burn) rfl (Nat.le_of_ble_eq_true rfl) ?_
  show EvP im_K0 7 mX11_burn (0, [(0, .ref 16), (1, .int x1)], [], h) _
  have f0 : fr F_X11_burn h h := fr_rf
  refine te_iload_n (p2 := 1) rfl rfl rfl ?_
  refine te_aload_n (p2 := 2) rfl rfl rfl ?_
  refine tg_r (p2 := 5) (i := 0) (r := 107) rfl rfl hI rfl rfl rfl ?_
  refine tg_i (p2 := 8) (i := 91) rfl rfl hI rfl rfl rfl (fun y1 a1 b1 e1 => ?_)
  refine cS_pI (p2 := 11) rfl rfl rfl rfl (t_X11_within (n := x1) (b := y1) hI ) (by decide) (fun y2 r2 => ?_)
  rcases r2 with ⟨w2, c2⟩ | ⟨w2, c2⟩
  · subst w2
    refine tz_ne (p2 := 14) rfl rfl (show Int32.toInt 1 = 1 from rfl) (fun c3 => ?_) (fun c3 => absurd c3 (by omega))
    refine te_aload_n (p2 := 17) rfl rfl rfl ?_
    refine tg_r (p2 := 20) (i := 0) (r := 107) rfl rfl hI rfl rfl rfl ?_
    refine tg_r (p2 := 23) (i := 91) (r := 112) rfl rfl hI rfl rfl rfl ?_
    refine te_iload_n (p2 := 24) rfl rfl rfl ?_
    refine tl_i (p2 := 25) (i := 96) (n := 24) rfl rfl hI rfl rfl rfl rfl (by omega) (by omega) (fun y4 a4 b4 g4 e4 => ?_)
    refine te_iconst (p2 := 26) (x := (-1)) rfl rfl (by decide) ?_
    refine tb_eq (p2 := 29) rfl rfl rfl (show Int32.toInt (-1) = (-1) from rfl) (fun c5 => ?_) (fun c5 => ?_)
    · refine te_aload_n (p2 := 33) rfl rfl rfl ?_
      refine tg_r (p2 := 36) (i := 0) (r := 107) rfl rfl hI rfl rfl rfl ?_
      refine tg_r (p2 := 39) (i := 91) (r := 112) rfl rfl hI rfl rfl rfl ?_
      refine te_iload_n (p2 := 40) rfl rfl rfl ?_
      refine te_aload_n (p2 := 41) rfl rfl rfl ?_
      refine tg_r (p2 := 44) (i := 0) (r := 39) rfl rfl hI rfl rfl rfl ?_
      refine tg_i (p2 := 47) (i := 23) rfl rfl hI rfl rfl rfl (fun y6 a6 b6 e6 => ?_)
      refine ts_i (p2 := 48) (i := 96) (n := 24) rfl rfl hI rfl rfl rfl rfl (by omega) (by omega) (i32_lo _) (i32_hi _) (i32_ho _) rfl (fun h7 I7 u7 => ?_)
      have f7 := fr_st (F := F_X11_burn) 0 f0 u7 rfl (by omega) (by omega)
      refine te_iconst (p2 := 49) (x := 1) rfl rfl (by decide) ?_
      exact te_iret rfl rfl ⟨I7, f7, _, rfl, y1, y6, e1, e6, Or.inl ⟨by omega, by omega, y4, e4, (by rw [if_pos (by omega)])⟩, (fun _ => u7.1), (fun k hk => u7.2 _ _ (Or.inr (hk.resolve_right (fun h9 => h9 (by decide)))))⟩
    · refine te_bipush (p2 := 31) (x := (-3)) rfl rfl (by decide) ?_
      obtain ⟨v8, e8, y8, w8, a8, b8, _⟩ := hI.2.1 23 0 (.inl ((-2147483648), 2147483647, 9999999999)) rfl
      subst w8
      exact te_iret rfl rfl ⟨hI, f0, _, rfl, y1, y8, e1, e8, Or.inl ⟨by omega, by omega, y4, e4, (by rw [if_neg (by omega)])⟩, (fun hy => absurd hy (by decide)), (fun k hk => rfl)⟩
  · subst w2
    refine tz_ne (p2 := 14) rfl rfl (show Int32.toInt 0 = 0 from rfl) (fun c9 => absurd c9 (by omega)) (fun c9 => ?_)
    refine te_iconst (p2 := 15) (x := (-1)) rfl rfl (by decide) ?_
    obtain ⟨v10, e10, y10, w10, a10, b10, _⟩ := hI.2.1 23 0 (.inl ((-2147483648), 2147483647, 9999999999)) rfl
    subst w10
    exact te_iret rfl rfl ⟨hI, f0, _, rfl, y1, y10, e1, e10, Or.inr ⟨by omega, rfl⟩, (fun hy => absurd hy (by decide)), (fun k hk => rfl)⟩
abbrev Q2_paper (x1 x2 x3 : Int32) (y : Int32) (h h2 : im_H) : Prop := ∃ pc p d : Int32, rd h 148 10 = some (.int pc) ∧ rd h 148 35 = some (.int p) ∧ rd h 149 105 = some (.int d) ∧ y = fA x1 x2 x3 pc p ∧ rd h2 148 35 = some (.int (gA x1 x2 x3 pc p)) ∧ (0 ≤ y.toInt → rd h2 178 p.toInt.toNat = some (.int x1) ∧ rd h2 179 p.toInt.toNat = some (.int x2) ∧ rd h2 180 p.toInt.toNat = some (.int x3) ∧ rd h2 181 p.toInt.toNat = some (.int d)) ∧ (∀ k : Nat, (k ≠ p.toInt.toNat ∨ ¬ 0 ≤ y.toInt) → rd h2 178 k = rd h 178 k ∧ rd h2 179 k = rd h 179 k ∧ rd h2 180 k = rd h 180 k ∧ rd h2 181 k = rd h 181 k)
set_option maxRecDepth 20000 in
set_option maxHeartbeats 4000000 in
theorem c_X12_paper {x1 : Int32} {x2 : Int32} {x3 : Int32} {h : im_H} (hI : tI h)  : CaP 8 182 [.ref 164, .int x1, .int x2, .int x3] h (fun v h2 => tI h2 ∧ fr F_X12_paper h h2 ∧ ∃ y : Int32, v = some (.int y) ∧ Q2_paper x1 x2 x3 y h h2) := by
  refine cap_of (d := 7) (M := mX12_paper) rfl (Nat.le_of_ble_eq_true rfl) ?_
  show EvP im_K0 7 mX12_paper (0, [(0, .ref 164), (1, .int x1), (2, .int x2), (3, .int x3)], [], h) _
  have f0 : fr F_X12_paper h h := fr_rf
  refine te_iload_n (p2 := 1) rfl rfl rfl ?_
  refine te_iconst (p2 := 2) (x := 0) rfl rfl (by decide) ?_
  refine te_bipush (p2 := 4) (x := 11) rfl rfl (by decide) ?_
  refine cS_pI (p2 := 7) rfl rfl rfl rfl (t_X12_in (n := x1) (a := 0) (b := 11) hI ) (by decide) (fun y1 r1 => ?_)
  rcases r1 with ⟨w1, c1⟩ | ⟨w1, c1⟩
  · subst w1
    have cc1_1 := (show Int32.toInt 0 = 0 from rfl)
    have cc1_2 := (show Int32.toInt 11 = 11 from rfl)
    refine tz_eq (p2 := 10) rfl rfl (show Int32.toInt 1 = 1 from rfl) (fun c2 => absurd c2 (by omega)) (fun c2 => ?_)
    refine te_aload_n (p2 := 11) rfl rfl rfl ?_
    refine te_iload_n (p2 := 12) rfl rfl rfl ?_
    refine cV_pI (p2 := 15) (i := 148) rfl rfl rfl rfl hI rfl rfl rfl (t_X12_isPerson (k := x2) hI) (by decide) (fun y3 r3 => ?_)
    obtain ⟨p3, e3, a3, b3, r3⟩ := r3
    rcases r3 with ⟨w3, c3⟩ | ⟨w3, c3⟩
    · subst w3
      refine tz_ne (p2 := 18) rfl rfl (show Int32.toInt 1 = 1 from rfl) (fun c4 => ?_) (fun c4 => absurd c4 (by omega))
      refine te_iload_n (p2 := 21) rfl rfl rfl ?_
      refine te_iconst (p2 := 22) (x := 0) rfl rfl (by decide) ?_
      refine te_sipush (p2 := 25) (x := 2000) rfl rfl (by decide) ?_
      refine cS_pI (p2 := 28) rfl rfl rfl rfl (t_X12_in (n := x3) (a := 0) (b := 2000) hI ) (by decide) (fun y5 r5 => ?_)
      rcases r5 with ⟨w5, c5⟩ | ⟨w5, c5⟩
      · subst w5
        have cc5_1 := (show Int32.toInt 0 = 0 from rfl)
        have cc5_2 := (show Int32.toInt 2000 = 2000 from rfl)
        refine tz_ne (p2 := 31) rfl rfl (show Int32.toInt 1 = 1 from rfl) (fun c6 => ?_) (fun c6 => absurd c6 (by omega))
        refine te_aload_n (p2 := 35) rfl rfl rfl ?_
        refine tg_i (p2 := 38) (i := 148) rfl rfl hI rfl rfl rfl (fun y7 a7 b7 e7 => ?_)
        refine te_bipush (p2 := 40) (x := 24) rfl rfl (by decide) ?_
        refine tb_ne (p2 := 43) rfl rfl rfl (show Int32.toInt 24 = 24 from rfl) (fun c8 => ?_) (fun c8 => ?_)
        · refine te_aload_n (p2 := 47) rfl rfl rfl ?_
          refine tg_r (p2 := 50) (i := 148) (r := 194) rfl rfl hI rfl rfl rfl ?_
          refine te_aload_n (p2 := 51) rfl rfl rfl ?_
          refine tg_e (p2 := 54) (i := 148) (v := .int y7) rfl rfl hI rfl rfl e7 ?_
          refine te_iload_n (p2 := 55) rfl rfl rfl ?_
          refine ts_i (p2 := 56) (i := 178) (n := 24) rfl rfl hI rfl rfl rfl rfl (by omega) (by omega) (i32_lo _) (i32_hi _) (i32_ho _) rfl (fun h9 I9 u9 => ?_)
          have f9 := fr_st (F := F_X12_paper) 1 f0 u9 rfl (by omega) (by omega)
          refine te_aload_n (p2 := 57) rfl rfl rfl ?_
          refine tg_r (p2 := 60) (i := 148) (r := 195) rfl rfl I9 rfl rfl rfl ?_
          refine te_aload_n (p2 := 61) rfl rfl rfl ?_
          refine tg_e (p2 := 64) (i := 148) (v := .int y7) rfl rfl I9 rfl rfl ((u9.2 _ _ (Or.inl (by decide))).trans e7) ?_
          refine te_iload_n (p2 := 65) rfl rfl rfl ?_
          refine ts_i (p2 := 66) (i := 179) (n := 24) rfl rfl I9 rfl rfl rfl rfl (by omega) (by omega) (by omega) (by omega) (by omega) rfl (fun h10 I10 u10 => ?_)
          have f10 := fr_st (F := F_X12_paper) 2 f9 u10 rfl (by omega) (by omega)
          refine te_aload_n (p2 := 67) rfl rfl rfl ?_
          refine tg_r (p2 := 70) (i := 148) (r := 196) rfl rfl I10 rfl rfl rfl ?_
          refine te_aload_n (p2 := 71) rfl rfl rfl ?_
          refine tg_e (p2 := 74) (i := 148) (v := .int y7) rfl rfl I10 rfl rfl ((u10.2 _ _ (Or.inl (by decide))).trans ((u9.2 _ _ (Or.inl (by decide))).trans e7)) ?_
          refine te_iload_n (p2 := 75) rfl rfl rfl ?_
          refine ts_i (p2 := 76) (i := 180) (n := 24) rfl rfl I10 rfl rfl rfl rfl (by omega) (by omega) (i32_lo _) (i32_hi _) (i32_ho _) rfl (fun h11 I11 u11 => ?_)
          have f11 := fr_st (F := F_X12_paper) 3 f10 u11 rfl (by omega) (by omega)
          refine te_aload_n (p2 := 77) rfl rfl rfl ?_
          refine tg_r (p2 := 80) (i := 148) (r := 197) rfl rfl I11 rfl rfl rfl ?_
          refine te_aload_n (p2 := 81) rfl rfl rfl ?_
          refine tg_e (p2 := 84) (i := 148) (v := .int y7) rfl rfl I11 rfl rfl ((u11.2 _ _ (Or.inl (by decide))).trans ((u10.2 _ _ (Or.inl (by decide))).trans ((u9.2 _ _ (Or.inl (by decide))).trans e7))) ?_
          refine te_aload_n (p2 := 85) rfl rfl rfl ?_
          refine tg_r (p2 := 88) (i := 148) (r := 165) rfl rfl I11 rfl rfl rfl ?_
          refine te_bipush (p2 := 90) (x := 105) rfl rfl (by decide) ?_
          refine tl_i (p2 := 91) (i := 149) (n := 283) rfl rfl I11 rfl rfl rfl rfl (by decide) (by decide) (fun y12 a12 b12 g12 e12 => ?_)
          refine ts_i (p2 := 92) (i := 181) (n := 24) rfl rfl I11 rfl rfl rfl rfl (by omega) (by omega) (i32_lo _) (i32_hi _) (i32_ho _) rfl (fun h13 I13 u13 => ?_)
          have f13 := fr_st (F := F_X12_paper) 4 f11 u13 rfl (by omega) (by omega)
          refine te_aload_n (p2 := 93) rfl rfl rfl ?_
          refine te_dup (p2 := 94) rfl rfl rfl ?_
          refine tg_e (p2 := 97) (i := 148) (v := .int y7) rfl rfl I13 rfl rfl ((u13.2 _ _ (Or.inl (by decide))).trans ((u11.2 _ _ (Or.inl (by decide))).trans ((u10.2 _ _ (Or.inl (by decide))).trans ((u9.2 _ _ (Or.inl (by decide))).trans e7)))) ?_
          refine te_iconst (p2 := 98) (x := 1) rfl rfl (by decide) ?_
          refine ar_add (p2 := 99) rfl rfl rfl (show Int32.toInt 1 = 1 from rfl) (by omega) (by omega) (fun z14 e14 f14 => ?_)
          refine tp_i (p2 := 102) (i := 148) rfl rfl I13 rfl rfl (by decide) rfl rfl rfl (by omega) (by omega) (by omega) rfl (fun h15 I15 u15 => ?_)
          have f15 := fr_st (F := F_X12_paper) 0 f13 u15 rfl (by decide) (by decide)
          refine te_aload_n (p2 := 103) rfl rfl rfl ?_
          refine tg_e (p2 := 106) (i := 148) (v := .int z14) rfl rfl I15 rfl rfl u15.1 ?_
          refine te_iconst (p2 := 107) (x := 1) rfl rfl (by decide) ?_
          refine ar_sub (p2 := 108) rfl rfl rfl (show Int32.toInt 1 = 1 from rfl) (by omega) (by omega) (fun z16 e16 f16 => ?_)
          exact te_iret rfl rfl ⟨I15, f15, _, rfl, p3, y7, y12, ((f15 148 10 rfl).symm.trans ((u15.2 _ _ (Or.inr (by decide))).trans ((u13.2 _ _ (Or.inl (by decide))).trans ((u11.2 _ _ (Or.inl (by decide))).trans ((u10.2 _ _ (Or.inl (by decide))).trans ((u9.2 _ _ (Or.inl (by decide))).trans e3)))))), e7, ((f15 149 105 rfl).symm.trans ((u15.2 _ _ (Or.inl (by decide))).trans ((u13.2 _ _ (Or.inl (by decide))).trans e12))), (show z16 = fA x1 x2 x3 p3 y7 from by (unfold fA; (repeat' split) <;> first | (exfalso; omega) | rfl | assumption | (exact i32_ext (by omega)) | (subst_vars; rfl))), u15.1.trans (congrArg (fun t => some (Value.int t)) (show z14 = gA x1 x2 x3 p3 y7 from by (unfold gA; (repeat' split) <;> first | (exfalso; omega) | rfl | assumption | (exact i32_ext (by omega)) | (subst_vars; rfl)))), (fun _ => ⟨(u15.2 _ _ (Or.inl (by decide))).trans ((u13.2 _ _ (Or.inl (by decide))).trans ((u11.2 _ _ (Or.inl (by decide))).trans ((u10.2 _ _ (Or.inl (by decide))).trans (u9.1)))), (u15.2 _ _ (Or.inl (by decide))).trans ((u13.2 _ _ (Or.inl (by decide))).trans ((u11.2 _ _ (Or.inl (by decide))).trans (u10.1))), (u15.2 _ _ (Or.inl (by decide))).trans ((u13.2 _ _ (Or.inl (by decide))).trans (u11.1)), (u15.2 _ _ (Or.inl (by decide))).trans (u13.1)⟩), (fun k hk => by (have hq : k ≠ y7.toInt.toNat := hk.resolve_right (fun h9 => h9 (by omega))); exact ⟨((u15.2 _ _ (Or.inl (by decide))).trans ((u13.2 _ _ (Or.inl (by decide))).trans ((u11.2 _ _ (Or.inl (by decide))).trans ((u10.2 _ _ (Or.inl (by decide))).trans (u9.2 _ _ (Or.inr hq)))))), ((u15.2 _ _ (Or.inl (by decide))).trans ((u13.2 _ _ (Or.inl (by decide))).trans ((u11.2 _ _ (Or.inl (by decide))).trans ((u10.2 _ _ (Or.inr hq)).trans (u9.2 _ _ (Or.inl (by decide))))))), ((u15.2 _ _ (Or.inl (by decide))).trans ((u13.2 _ _ (Or.inl (by decide))).trans ((u11.2 _ _ (Or.inr hq)).trans ((u10.2 _ _ (Or.inl (by decide))).trans (u9.2 _ _ (Or.inl (by decide))))))), ((u15.2 _ _ (Or.inl (by decide))).trans ((u13.2 _ _ (Or.inr hq)).trans ((u11.2 _ _ (Or.inl (by decide))).trans ((u10.2 _ _ (Or.inl (by decide))).trans (u9.2 _ _ (Or.inl (by decide)))))))⟩)⟩
        · refine te_bipush (p2 := 45) (x := (-4)) rfl rfl (by decide) ?_
          obtain ⟨v17, e17, y17, w17, a17, b17, _⟩ := hI.2.1 149 (Int32.toInt 105).toNat (.inl ((-2147483648), 2147483647, 9999999999)) (tq_row rfl (by decide))
          subst w17
          exact te_iret rfl rfl ⟨hI, f0, _, rfl, p3, y7, y17, e3, e7, e17, (show (-4) = fA x1 x2 x3 p3 y7 from by (have c0_ := (show Int32.toInt (-4) = (-4) from rfl); unfold fA; (repeat' split) <;> first | (exfalso; omega) | rfl | assumption | (exact i32_ext (by omega)) | (subst_vars; rfl))), e7.trans (congrArg (fun t => some (Value.int t)) (show y7 = gA x1 x2 x3 p3 y7 from by (have c0_ := (show Int32.toInt (-4) = (-4) from rfl); unfold gA; (repeat' split) <;> first | (exfalso; omega) | rfl | assumption | (exact i32_ext (by omega)) | (subst_vars; rfl)))), (fun hy => absurd hy (by rw [show Int32.toInt (-4) = (-4) from rfl]; decide)), (fun k hk => ⟨rfl, rfl, rfl, rfl⟩)⟩
      · subst w5
        have cc5_1 := (show Int32.toInt 0 = 0 from rfl)
        have cc5_2 := (show Int32.toInt 2000 = 2000 from rfl)
        refine tz_ne (p2 := 31) rfl rfl (show Int32.toInt 0 = 0 from rfl) (fun c18 => absurd c18 (by omega)) (fun c18 => ?_)
        refine te_bipush (p2 := 33) (x := (-2)) rfl rfl (by decide) ?_
        obtain ⟨v19, e19, y19, w19, a19, b19, _⟩ := hI.2.1 148 35 (.inl (0, 24, 9999999999)) rfl
        subst w19
        obtain ⟨v20, e20, y20, w20, a20, b20, _⟩ := hI.2.1 149 (Int32.toInt 105).toNat (.inl ((-2147483648), 2147483647, 9999999999)) (tq_row rfl (by decide))
        subst w20
        exact te_iret rfl rfl ⟨hI, f0, _, rfl, p3, y19, y20, e3, e19, e20, (show (-2) = fA x1 x2 x3 p3 y19 from by (have c0_ := (show Int32.toInt (-2) = (-2) from rfl); unfold fA; (repeat' split) <;> first | (exfalso; omega) | rfl | assumption | (exact i32_ext (by omega)) | (subst_vars; rfl))), e19.trans (congrArg (fun t => some (Value.int t)) (show y19 = gA x1 x2 x3 p3 y19 from by (have c0_ := (show Int32.toInt (-2) = (-2) from rfl); unfold gA; (repeat' split) <;> first | (exfalso; omega) | rfl | assumption | (exact i32_ext (by omega)) | (subst_vars; rfl)))), (fun hy => absurd hy (by rw [show Int32.toInt (-2) = (-2) from rfl]; decide)), (fun k hk => ⟨rfl, rfl, rfl, rfl⟩)⟩
    · subst w3
      refine tz_ne (p2 := 18) rfl rfl (show Int32.toInt 0 = 0 from rfl) (fun c21 => absurd c21 (by omega)) (fun c21 => ?_)
      refine te_iconst (p2 := 19) (x := (-1)) rfl rfl (by decide) ?_
      obtain ⟨v22, e22, y22, w22, a22, b22, _⟩ := hI.2.1 148 35 (.inl (0, 24, 9999999999)) rfl
      subst w22
      obtain ⟨v23, e23, y23, w23, a23, b23, _⟩ := hI.2.1 149 (Int32.toInt 105).toNat (.inl ((-2147483648), 2147483647, 9999999999)) (tq_row rfl (by decide))
      subst w23
      exact te_iret rfl rfl ⟨hI, f0, _, rfl, p3, y22, y23, e3, e22, e23, (show (-1) = fA x1 x2 x3 p3 y22 from by (have c0_ := (show Int32.toInt (-1) = (-1) from rfl); unfold fA; (repeat' split) <;> first | (exfalso; omega) | rfl | assumption | (exact i32_ext (by omega)) | (subst_vars; rfl))), e22.trans (congrArg (fun t => some (Value.int t)) (show y22 = gA x1 x2 x3 p3 y22 from by (have c0_ := (show Int32.toInt (-1) = (-1) from rfl); unfold gA; (repeat' split) <;> first | (exfalso; omega) | rfl | assumption | (exact i32_ext (by omega)) | (subst_vars; rfl)))), (fun hy => absurd hy (by rw [show Int32.toInt (-1) = (-1) from rfl]; decide)), (fun k hk => ⟨rfl, rfl, rfl, rfl⟩)⟩
  · subst w1
    have cc1_1 := (show Int32.toInt 0 = 0 from rfl)
    have cc1_2 := (show Int32.toInt 11 = 11 from rfl)
    refine tz_eq (p2 := 10) rfl rfl (show Int32.toInt 0 = 0 from rfl) (fun c24 => ?_) (fun c24 => absurd c24 (by omega))
    refine te_iconst (p2 := 19) (x := (-1)) rfl rfl (by decide) ?_
    obtain ⟨v25, e25, y25, w25, a25, b25, _⟩ := hI.2.1 148 10 (.inl (0, 24, 9999999999)) rfl
    subst w25
    obtain ⟨v26, e26, y26, w26, a26, b26, _⟩ := hI.2.1 148 35 (.inl (0, 24, 9999999999)) rfl
    subst w26
    obtain ⟨v27, e27, y27, w27, a27, b27, _⟩ := hI.2.1 149 (Int32.toInt 105).toNat (.inl ((-2147483648), 2147483647, 9999999999)) (tq_row rfl (by decide))
    subst w27
    exact te_iret rfl rfl ⟨hI, f0, _, rfl, y25, y26, y27, e25, e26, e27, (show (-1) = fA x1 x2 x3 y25 y26 from by (have c0_ := (show Int32.toInt (-1) = (-1) from rfl); unfold fA; (repeat' split) <;> first | (exfalso; omega) | rfl | assumption | (exact i32_ext (by omega)) | (subst_vars; rfl))), e26.trans (congrArg (fun t => some (Value.int t)) (show y26 = gA x1 x2 x3 y25 y26 from by (have c0_ := (show Int32.toInt (-1) = (-1) from rfl); unfold gA; (repeat' split) <;> first | (exfalso; omega) | rfl | assumption | (exact i32_ext (by omega)) | (subst_vars; rfl)))), (fun hy => absurd hy (by rw [show Int32.toInt (-1) = (-1) from rfl]; decide)), (fun k hk => ⟨rfl, rfl, rfl, rfl⟩)⟩
abbrev Q2_burn (x1 : Int32) (y : Int32) (h h2 : im_H) : Prop := ∃ p d : Int32, rd h 148 35 = some (.int p) ∧ rd h 149 105 = some (.int d) ∧ ((0 ≤ x1.toInt ∧ x1.toInt < p.toInt ∧ ∃ b : Int32, rd h 182 x1.toInt.toNat = some (.int b) ∧ y = (if b.toInt = -1 then 1 else -3)) ∨ (¬ (0 ≤ x1.toInt ∧ x1.toInt < p.toInt) ∧ y = -1)) ∧ (y.toInt = 1 → rd h2 182 x1.toInt.toNat = some (.int d)) ∧ (∀ k : Nat, (k ≠ x1.toInt.toNat ∨ y.toInt ≠ 1) → rd h2 182 k = rd h 182 k)
set_option maxRecDepth 20000 in
set_option maxHeartbeats 4000000 in
theorem c_X12_burn {x1 : Int32} {h : im_H} (hI : tI h)  : CaP 8 183 [.ref 164, .int x1] h (fun v h2 => tI h2 ∧ fr F_X12_burn h h2 ∧ ∃ y : Int32, v = some (.int y) ∧ Q2_burn x1 y h h2) := by
  refine cap_of (d := 7) (M := mX12_burn) rfl (Nat.le_of_ble_eq_true rfl) ?_
  show EvP im_K0 7 mX12_burn (0, [(0, .ref 164), (1, .int x1)], [], h) _
  have f0 : fr F_X12_burn h h := fr_rf
  refine te_iload_n (p2 := 1) rfl rfl rfl ?_
  refine te_iconst (p2 := 2) (x := 0) rfl rfl (by decide) ?_
  refine te_aload_n (p2 := 3) rfl rfl rfl ?_
  refine tg_i (p2 := 6) (i := 148) rfl rfl hI rfl rfl rfl (fun y1 a1 b1 e1 => ?_)
  refine te_iconst (p2 := 7) (x := 1) rfl rfl (by decide) ?_
  refine ar_sub (p2 := 8) rfl rfl rfl (show Int32.toInt 1 = 1 from rfl) (by omega) (by omega) (fun z2 e2 f2 => ?_)
  refine cS_pI (p2 := 11) rfl rfl rfl rfl (t_X12_in (n := x1) (a := 0) (b := z2) hI ) (by decide) (fun y3 r3 => ?_)
  rcases r3 with ⟨w3, c3⟩ | ⟨w3, c3⟩
  · subst w3
    have cc3_1 := (show Int32.toInt 0 = 0 from rfl)
    refine tz_ne (p2 := 14) rfl rfl (show Int32.toInt 1 = 1 from rfl) (fun c4 => ?_) (fun c4 => absurd c4 (by omega))
    refine te_aload_n (p2 := 17) rfl rfl rfl ?_
    refine tg_r (p2 := 20) (i := 148) (r := 198) rfl rfl hI rfl rfl rfl ?_
    refine te_iload_n (p2 := 21) rfl rfl rfl ?_
    refine tl_i (p2 := 22) (i := 182) (n := 24) rfl rfl hI rfl rfl rfl rfl (by omega) (by omega) (fun y5 a5 b5 g5 e5 => ?_)
    refine te_iconst (p2 := 23) (x := (-1)) rfl rfl (by decide) ?_
    refine tb_eq (p2 := 26) rfl rfl rfl (show Int32.toInt (-1) = (-1) from rfl) (fun c6 => ?_) (fun c6 => ?_)
    · refine te_aload_n (p2 := 30) rfl rfl rfl ?_
      refine tg_r (p2 := 33) (i := 148) (r := 198) rfl rfl hI rfl rfl rfl ?_
      refine te_iload_n (p2 := 34) rfl rfl rfl ?_
      refine te_aload_n (p2 := 35) rfl rfl rfl ?_
      refine tg_r (p2 := 38) (i := 148) (r := 165) rfl rfl hI rfl rfl rfl ?_
      refine te_bipush (p2 := 40) (x := 105) rfl rfl (by decide) ?_
      refine tl_i (p2 := 41) (i := 149) (n := 283) rfl rfl hI rfl rfl rfl rfl (by decide) (by decide) (fun y7 a7 b7 g7 e7 => ?_)
      refine ts_i (p2 := 42) (i := 182) (n := 24) rfl rfl hI rfl rfl rfl rfl (by omega) (by omega) (i32_lo _) (i32_hi _) (i32_ho _) rfl (fun h8 I8 u8 => ?_)
      have f8 := fr_st (F := F_X12_burn) 0 f0 u8 rfl (by omega) (by omega)
      refine te_iconst (p2 := 43) (x := 1) rfl rfl (by decide) ?_
      exact te_iret rfl rfl ⟨I8, f8, _, rfl, y1, y7, e1, e7, Or.inl ⟨by omega, by omega, y5, e5, (by rw [if_pos (by omega)])⟩, (fun _ => u8.1), (fun k hk => u8.2 _ _ (Or.inr (hk.resolve_right (fun h9 => h9 (by decide)))))⟩
    · refine te_bipush (p2 := 28) (x := (-3)) rfl rfl (by decide) ?_
      obtain ⟨v9, e9, y9, w9, a9, b9, _⟩ := hI.2.1 149 (Int32.toInt 105).toNat (.inl ((-2147483648), 2147483647, 9999999999)) (tq_row rfl (by decide))
      subst w9
      exact te_iret rfl rfl ⟨hI, f0, _, rfl, y1, y9, e1, e9, Or.inl ⟨by omega, by omega, y5, e5, (by rw [if_neg (by omega)])⟩, (fun hy => absurd hy (by decide)), (fun k hk => rfl)⟩
  · subst w3
    have cc3_1 := (show Int32.toInt 0 = 0 from rfl)
    refine tz_ne (p2 := 14) rfl rfl (show Int32.toInt 0 = 0 from rfl) (fun c10 => absurd c10 (by omega)) (fun c10 => ?_)
    refine te_iconst (p2 := 15) (x := (-1)) rfl rfl (by decide) ?_
    obtain ⟨v11, e11, y11, w11, a11, b11, _⟩ := hI.2.1 149 (Int32.toInt 105).toNat (.inl ((-2147483648), 2147483647, 9999999999)) (tq_row rfl (by decide))
    subst w11
    exact te_iret rfl rfl ⟨hI, f0, _, rfl, y1, y11, e1, e11, Or.inr ⟨by omega, rfl⟩, (fun hy => absurd hy (by decide)), (fun k hk => rfl)⟩
def vr (h : im_H) (c k : Nat) : Int32 := if k < 24 then (match rd h c k with | some (.int v) => v | _ => 0) else 0
theorem vr_of {h : im_H} {c k : Nat} {a : Int32} (hk : k < 24) (e : rd h c k = some (.int a)) : vr h c k = a := by
  unfold vr
  rw [if_pos hk, e]
def own (A Fm T B : Nat → Int32) (lot day known : Int32) : Nat → Int32 → Int32 → Int32
  | 0, _, best => best
  | m + 1, k, best => own A Fm T B lot day known m (k + 1) (if (A k.toInt.toNat).toInt = lot.toInt ∧ (Fm k.toInt.toNat).toInt ≤ day.toInt ∧ (T k.toInt.toNat).toInt ≤ known.toInt ∧ ((B k.toInt.toNat).toInt = -1 ∨ known.toInt < (B k.toInt.toNat).toInt) ∧ (best.toInt = -1 ∨ (Fm best.toInt.toNat).toInt ≤ (Fm k.toInt.toNat).toInt) then k else best)
theorem own_step {A Fm T B : Nat → Int32} {lot day known k k2 best best2 : Int32} {m m2 : Nat} (hm : m = m2 + 1) (hk : k + 1 = k2) (hb : best2 = if (A k.toInt.toNat).toInt = lot.toInt ∧ (Fm k.toInt.toNat).toInt ≤ day.toInt ∧ (T k.toInt.toNat).toInt ≤ known.toInt ∧ ((B k.toInt.toNat).toInt = -1 ∨ known.toInt < (B k.toInt.toNat).toInt) ∧ (best.toInt = -1 ∨ (Fm best.toInt.toNat).toInt ≤ (Fm k.toInt.toNat).toInt) then k else best) : own A Fm T B lot day known m2 k2 best2 = own A Fm T B lot day known m k best := by
  subst hm hk hb
  rfl
theorem own_end {A Fm T B : Nat → Int32} {lot day known k best : Int32} {m : Nat} (hm : m = 0) : own A Fm T B lot day known m k best = best := by
  subst hm
  rfl
def owR (O : Nat → Int32) (b : Int32) : Int32 := if b.toInt = -1 then -1 else O b.toInt.toNat
def owT (A O Fm T B : Nat → Int32) (x1 x2 x3 d c : Int32) : Int32 := if 0 ≤ x1.toInt ∧ x1.toInt ≤ 11 then (if 0 ≤ x2.toInt ∧ x2.toInt ≤ 2000 ∧ 0 ≤ x3.toInt ∧ x3.toInt ≤ d.toInt then owR O (own A Fm T B x1 x2 x3 c.toInt.toNat 0 (-1)) else -2) else -5
set_option maxRecDepth 20000 in
set_option maxHeartbeats 4000000 in
theorem c_X2_isKnown {k : Int32} {known : Int32} {h : im_H} (hI : tI h) (p_k0 : 0 ≤ k.toInt) (p_k1 : k.toInt ≤ 23) : CaP 1 21 [.ref 107, .int k, .int known] h (pI h (fun y => ∃ t b : Int32, rd h 95 k.toInt.toNat = some (.int t) ∧ rd h 96 k.toInt.toNat = some (.int b) ∧ ((y = 1 ∧ (t.toInt ≤ known.toInt ∧ (b.toInt = -1 ∨ known.toInt < b.toInt))) ∨ (y = 0 ∧ ¬ (t.toInt ≤ known.toInt ∧ (b.toInt = -1 ∨ known.toInt < b.toInt)))))) := by
  refine cap_of (d := 0) (M := mX2_isKnown) rfl (Nat.le_of_ble_eq_true rfl) ?_
  show EvP im_K0 0 mX2_isKnown (0, [(0, .ref 107), (1, .int k), (2, .int known)], [], h) _
  refine te_aload_n (p2 := 1) rfl rfl rfl ?_
  refine tg_r (p2 := 4) (i := 91) (r := 111) rfl rfl hI rfl rfl rfl ?_
  refine te_iload_n (p2 := 5) rfl rfl rfl ?_
  refine tl_i (p2 := 6) (i := 95) (n := 24) rfl rfl hI rfl rfl rfl rfl (by omega) (by omega) (fun y1 a1 b1 g1 e1 => ?_)
  refine te_iload_n (p2 := 7) rfl rfl rfl ?_
  refine tb_gt (p2 := 10) rfl rfl rfl rfl (fun c2 => ?_) (fun c2 => ?_)
  · refine te_iconst (p2 := 35) (x := 0) rfl rfl (by decide) ?_
    obtain ⟨v3, e3, y3, w3, a3, b3, _⟩ := hI.2.1 96 k.toInt.toNat (.inl ((-2147483648), 2147483647, 9999999999)) (tq_row rfl (by omega))
    subst w3
    exact te_zret rfl rfl (by decide) ⟨rfl, _, rfl, y1, y3, e1, e3, Or.inr ⟨rfl, by omega⟩⟩
  · refine te_aload_n (p2 := 11) rfl rfl rfl ?_
    refine tg_r (p2 := 14) (i := 91) (r := 112) rfl rfl hI rfl rfl rfl ?_
    refine te_iload_n (p2 := 15) rfl rfl rfl ?_
    refine tl_i (p2 := 16) (i := 96) (n := 24) rfl rfl hI rfl rfl rfl rfl (by omega) (by omega) (fun y4 a4 b4 g4 e4 => ?_)
    refine te_iconst (p2 := 17) (x := (-1)) rfl rfl (by decide) ?_
    refine tb_eq (p2 := 20) rfl rfl rfl (show Int32.toInt (-1) = (-1) from rfl) (fun c5 => ?_) (fun c5 => ?_)
    · refine te_iconst (p2 := 31) (x := 1) rfl rfl (by decide) ?_
      refine te_goto rfl ?_
      exact te_zret rfl rfl (by decide) ⟨rfl, _, rfl, y1, y4, e1, e4, Or.inl ⟨rfl, by omega⟩⟩
    · refine te_aload_n (p2 := 21) rfl rfl rfl ?_
      refine tg_r (p2 := 24) (i := 91) (r := 112) rfl rfl hI rfl rfl rfl ?_
      refine te_iload_n (p2 := 25) rfl rfl rfl ?_
      refine tl_e (p2 := 26) (i := 96) (n := 24) (t := 0) (Or.inl rfl) rfl rfl hI rfl rfl (by omega) (by omega) e4 ?_
      refine te_iload_n (p2 := 27) rfl rfl rfl ?_
      refine tb_le (p2 := 30) rfl rfl rfl rfl (fun c7 => ?_) (fun c7 => ?_)
      · refine te_iconst (p2 := 35) (x := 0) rfl rfl (by decide) ?_
        exact te_zret rfl rfl (by decide) ⟨rfl, _, rfl, y1, y4, e1, e4, Or.inr ⟨rfl, by omega⟩⟩
      · refine te_iconst (p2 := 31) (x := 1) rfl rfl (by decide) ?_
        refine te_goto rfl ?_
        exact te_zret rfl rfl (by decide) ⟨rfl, _, rfl, y1, y4, e1, e4, Or.inl ⟨rfl, by omega⟩⟩
set_option maxRecDepth 20000 in
set_option maxHeartbeats 4000000 in
theorem c_X2_ownerOf {ofLot : Int32} {day : Int32} {known : Int32} {h : im_H} (hI : tI h)  : CaP 2 20 [.ref 107, .int ofLot, .int day, .int known] h (pI h (fun y => ∃ c : Int32, rd h 91 0 = some (.int c) ∧ y = owR (vr h 93) (own (vr h 92) (vr h 94) (vr h 95) (vr h 96) ofLot day known c.toInt.toNat 0 (-1)))) := by
  refine cap_of (d := 1) (M := mX2_ownerOf) rfl (Nat.le_of_ble_eq_true rfl) ?_
  show EvP im_K0 1 mX2_ownerOf (0, [(0, .ref 107), (1, .int ofLot), (2, .int day), (3, .int known)], [], h) _
  refine te_iconst (p2 := 1) (x := (-1)) rfl rfl (by decide) ?_
  refine te_istore (p2 := 3) (lv2 := [(4, .int (-1)), (0, .ref 107), (1, .int ofLot), (2, .int day), (3, .int known)]) rfl rfl (by decide) rfl ?_
  refine te_iconst (p2 := 4) (x := 0) rfl rfl (by decide) ?_
  refine te_istore (p2 := 6) (lv2 := [(5, .int 0), (4, .int (-1)), (0, .ref 107), (1, .int ofLot), (2, .int day), (3, .int known)]) rfl rfl (by decide) rfl ?_
  obtain ⟨v1, e1, y1, w1, a1, b1, _⟩ := hI.2.1 91 0 (.inl (0, 24, 9999999999)) rfl
  subst w1
  have lp2 : ∀ (n2 : Nat) (v2_4 v2_5 : Int32) , (-1) ≤ v2_4.toInt → v2_4.toInt ≤ 23 → 0 ≤ v2_5.toInt → v2_5.toInt ≤ 24 → v2_5.toInt ≤ y1.toInt → (own (vr h 92) (vr h 94) (vr h 95) (vr h 96) ofLot day known (y1.toInt.toNat - v2_5.toInt.toNat) v2_5 v2_4 = own (vr h 92) (vr h 94) (vr h 95) (vr h 96) ofLot day known y1.toInt.toNat 0 (-1)) → 24 - v2_5.toInt < (n2 : Int) → EvP im_K0 1 mX2_ownerOf (6, [(0, .ref 107), (1, .int ofLot), (2, .int day), (3, .int known), (4, .int v2_4), (5, .int v2_5)], [], h) (pI h (fun y => ∃ c : Int32, rd h 91 0 = some (.int c) ∧ y = owR (vr h 93) (own (vr h 92) (vr h 94) (vr h 95) (vr h 96) ofLot day known c.toInt.toNat 0 (-1)))) := by
    intro n2
    induction n2 with
    | zero => intro v2_4 v2_5 a2_4 b2_4 a2_5 b2_5 l2_0 w2_0 m2; exfalso; omega
    | succ n2 ih2 =>
      intro v2_4 v2_5 a2_4 b2_4 a2_5 b2_5 l2_0 w2_0 m2
      refine te_iload (p2 := 8) rfl rfl rfl ?_
      refine te_aload_n (p2 := 9) rfl rfl rfl ?_
      refine tg_e (p2 := 12) (i := 91) (v := .int y1) rfl rfl hI rfl rfl e1 ?_
      refine tb_ge (p2 := 15) rfl rfl rfl rfl (fun c3 => ?_) (fun c3 => ?_)
      · refine te_iload (p2 := 94) rfl rfl rfl ?_
        refine te_iconst (p2 := 95) (x := (-1)) rfl rfl (by decide) ?_
        refine tb_ne (p2 := 98) rfl rfl rfl (show Int32.toInt (-1) = (-1) from rfl) (fun c4 => ?_) (fun c4 => ?_)
        · refine te_aload_n (p2 := 103) rfl rfl rfl ?_
          refine tg_r (p2 := 106) (i := 91) (r := 109) rfl rfl hI rfl rfl rfl ?_
          refine te_iload (p2 := 108) rfl rfl rfl ?_
          refine tl_i (p2 := 109) (i := 93) (n := 24) rfl rfl hI rfl rfl rfl rfl (by omega) (by omega) (fun y5 a5 b5 g5 e5 => ?_)
          have ob6 : own (vr h 92) (vr h 94) (vr h 95) (vr h 96) ofLot day known y1.toInt.toNat 0 (-1) = v2_4 := w2_0.symm.trans (own_end (by omega))
          exact te_iret rfl rfl ⟨rfl, _, rfl, y1, e1, (by rw [ob6]; exact ((if_neg (by omega)).trans (vr_of (by omega) e5)).symm)⟩
        · refine te_iconst (p2 := 99) (x := (-1)) rfl rfl (by decide) ?_
          refine te_goto rfl ?_
          have ob7 : own (vr h 92) (vr h 94) (vr h 95) (vr h 96) ofLot day known y1.toInt.toNat 0 (-1) = v2_4 := w2_0.symm.trans (own_end (by omega))
          exact te_iret rfl rfl ⟨rfl, _, rfl, y1, e1, (by rw [ob7]; exact (if_pos (by omega)).symm)⟩
      · refine te_aload_n (p2 := 16) rfl rfl rfl ?_
        refine tg_r (p2 := 19) (i := 91) (r := 108) rfl rfl hI rfl rfl rfl ?_
        refine te_iload (p2 := 21) rfl rfl rfl ?_
        refine tl_i (p2 := 22) (i := 92) (n := 24) rfl rfl hI rfl rfl rfl rfl (by omega) (by omega) (fun y8 a8 b8 g8 e8 => ?_)
        refine te_iload_n (p2 := 23) rfl rfl rfl ?_
        refine tb_ne (p2 := 26) rfl rfl rfl rfl (fun c9 => ?_) (fun c9 => ?_)
        · refine te_iconst (p2 := 52) (x := 0) rfl rfl (by decide) ?_
          refine te_istore (p2 := 54) (lv2 := [(6, .int 0), (0, .ref 107), (1, .int ofLot), (2, .int day), (3, .int known), (4, .int v2_4), (5, .int v2_5)]) rfl rfl (by decide) rfl ?_
          refine te_iload (p2 := 56) rfl rfl rfl ?_
          refine tz_eq (p2 := 59) rfl rfl (show Int32.toInt 0 = 0 from rfl) (fun c10 => ?_) (fun c10 => absurd c10 (by omega))
          refine ar_inc (p2 := 89) (x := v2_5) rfl rfl (by decide) rfl (by decide) rfl (by omega) (by omega) (fun z11 e11 f11 => ?_)
          show EvP _ _ _ (89, [(5, .int z11), (6, .int 0), (0, .ref 107), (1, .int ofLot), (2, .int day), (3, .int known), (4, .int v2_4)], [], h) _
          refine te_goto rfl ?_
          refine te_lv [(0, .ref 107), (1, .int ofLot), (2, .int day), (3, .int known), (4, .int v2_4), (5, .int z11)] rfl rfl ⟨rfl, rfl, rfl, rfl, rfl, rfl, trivial⟩ ?_
          exact ih2 v2_4 z11 (by omega) (by omega) (by omega) (by omega) (by omega) ((own_step (by omega) e11 (by (have t0_ := congrArg Int32.toInt (vr_of (c := 92) (by omega) e8)); exact (if_neg (by omega)).symm)).trans w2_0) (by omega)
        · refine te_aload_n (p2 := 27) rfl rfl rfl ?_
          refine tg_r (p2 := 30) (i := 91) (r := 110) rfl rfl hI rfl rfl rfl ?_
          refine te_iload (p2 := 32) rfl rfl rfl ?_
          refine tl_i (p2 := 33) (i := 94) (n := 24) rfl rfl hI rfl rfl rfl rfl (by omega) (by omega) (fun y12 a12 b12 g12 e12 => ?_)
          refine te_iload_n (p2 := 34) rfl rfl rfl ?_
          refine tb_gt (p2 := 37) rfl rfl rfl rfl (fun c13 => ?_) (fun c13 => ?_)
          · refine te_iconst (p2 := 52) (x := 0) rfl rfl (by decide) ?_
            refine te_istore (p2 := 54) (lv2 := [(6, .int 0), (0, .ref 107), (1, .int ofLot), (2, .int day), (3, .int known), (4, .int v2_4), (5, .int v2_5)]) rfl rfl (by decide) rfl ?_
            refine te_iload (p2 := 56) rfl rfl rfl ?_
            refine tz_eq (p2 := 59) rfl rfl (show Int32.toInt 0 = 0 from rfl) (fun c14 => ?_) (fun c14 => absurd c14 (by omega))
            refine ar_inc (p2 := 89) (x := v2_5) rfl rfl (by decide) rfl (by decide) rfl (by omega) (by omega) (fun z15 e15 f15 => ?_)
            show EvP _ _ _ (89, [(5, .int z15), (6, .int 0), (0, .ref 107), (1, .int ofLot), (2, .int day), (3, .int known), (4, .int v2_4)], [], h) _
            refine te_goto rfl ?_
            refine te_lv [(0, .ref 107), (1, .int ofLot), (2, .int day), (3, .int known), (4, .int v2_4), (5, .int z15)] rfl rfl ⟨rfl, rfl, rfl, rfl, rfl, rfl, trivial⟩ ?_
            exact ih2 v2_4 z15 (by omega) (by omega) (by omega) (by omega) (by omega) ((own_step (by omega) e15 (by (have t0_ := congrArg Int32.toInt (vr_of (c := 92) (by omega) e8)); (have t1_ := congrArg Int32.toInt (vr_of (c := 94) (by omega) e12)); exact (if_neg (by omega)).symm)).trans w2_0) (by omega)
          · refine te_aload_n (p2 := 38) rfl rfl rfl ?_
            refine te_iload (p2 := 40) rfl rfl rfl ?_
            refine te_iload_n (p2 := 41) rfl rfl rfl ?_
            refine cV_pI (p2 := 44) (i := 91) rfl rfl rfl rfl hI rfl rfl rfl (c_X2_isKnown (k := v2_5) (known := known) hI (by omega) (by omega)) (by decide) (fun y16 r16 => ?_)
            obtain ⟨kt16, kb16, et16, eb16, r16⟩ := r16
            rcases r16 with ⟨w16_, c16⟩ | ⟨w16_, c16⟩
            · subst w16_
              refine tz_eq (p2 := 47) rfl rfl (show Int32.toInt 1 = 1 from rfl) (fun c17 => absurd c17 (by omega)) (fun c17 => ?_)
              refine te_iconst (p2 := 48) (x := 1) rfl rfl (by decide) ?_
              refine te_goto rfl ?_
              refine te_istore (p2 := 54) (lv2 := [(6, .int 1), (0, .ref 107), (1, .int ofLot), (2, .int day), (3, .int known), (4, .int v2_4), (5, .int v2_5)]) rfl rfl (by decide) rfl ?_
              refine te_iload (p2 := 56) rfl rfl rfl ?_
              refine tz_eq (p2 := 59) rfl rfl (show Int32.toInt 1 = 1 from rfl) (fun c18 => absurd c18 (by omega)) (fun c18 => ?_)
              refine te_iload (p2 := 61) rfl rfl rfl ?_
              refine te_iconst (p2 := 62) (x := (-1)) rfl rfl (by decide) ?_
              refine tb_eq (p2 := 65) rfl rfl rfl (show Int32.toInt (-1) = (-1) from rfl) (fun c19 => ?_) (fun c19 => ?_)
              · refine te_iload (p2 := 84) rfl rfl rfl ?_
                refine te_istore (p2 := 86) (lv2 := [(4, .int v2_5), (6, .int 1), (0, .ref 107), (1, .int ofLot), (2, .int day), (3, .int known), (5, .int v2_5)]) rfl rfl (by decide) rfl ?_
                refine ar_inc (p2 := 89) (x := v2_5) rfl rfl (by decide) rfl (by decide) rfl (by omega) (by omega) (fun z20 e20 f20 => ?_)
                show EvP _ _ _ (89, [(5, .int z20), (4, .int v2_5), (6, .int 1), (0, .ref 107), (1, .int ofLot), (2, .int day), (3, .int known)], [], h) _
                refine te_goto rfl ?_
                refine te_lv [(0, .ref 107), (1, .int ofLot), (2, .int day), (3, .int known), (4, .int v2_5), (5, .int z20)] rfl rfl ⟨rfl, rfl, rfl, rfl, rfl, rfl, trivial⟩ ?_
                exact ih2 v2_5 z20 (by omega) (by omega) (by omega) (by omega) (by omega) ((own_step (by omega) e20 (by (have t0_ := congrArg Int32.toInt (vr_of (c := 92) (by omega) e8)); (have t1_ := congrArg Int32.toInt (vr_of (c := 94) (by omega) e12)); (have t2_ := congrArg Int32.toInt (vr_of (c := 95) (by omega) et16)); (have t3_ := congrArg Int32.toInt (vr_of (c := 96) (by omega) eb16)); exact (if_pos (by omega)).symm)).trans w2_0) (by omega)
              · refine te_aload_n (p2 := 66) rfl rfl rfl ?_
                refine tg_r (p2 := 69) (i := 91) (r := 110) rfl rfl hI rfl rfl rfl ?_
                refine te_iload (p2 := 71) rfl rfl rfl ?_
                refine tl_e (p2 := 72) (i := 94) (n := 24) (t := 0) (Or.inl rfl) rfl rfl hI rfl rfl (by omega) (by omega) e12 ?_
                refine te_aload_n (p2 := 73) rfl rfl rfl ?_
                refine tg_r (p2 := 76) (i := 91) (r := 110) rfl rfl hI rfl rfl rfl ?_
                refine te_iload (p2 := 78) rfl rfl rfl ?_
                refine tl_i (p2 := 79) (i := 94) (n := 24) rfl rfl hI rfl rfl rfl rfl (by omega) (by omega) (fun y22 a22 b22 g22 e22 => ?_)
                refine tb_lt (p2 := 82) rfl rfl rfl rfl (fun c23 => ?_) (fun c23 => ?_)
                · refine ar_inc (p2 := 89) (x := v2_5) rfl rfl (by decide) rfl (by decide) rfl (by omega) (by omega) (fun z24 e24 f24 => ?_)
                  show EvP _ _ _ (89, [(5, .int z24), (6, .int 1), (0, .ref 107), (1, .int ofLot), (2, .int day), (3, .int known), (4, .int v2_4)], [], h) _
                  refine te_goto rfl ?_
                  refine te_lv [(0, .ref 107), (1, .int ofLot), (2, .int day), (3, .int known), (4, .int v2_4), (5, .int z24)] rfl rfl ⟨rfl, rfl, rfl, rfl, rfl, rfl, trivial⟩ ?_
                  exact ih2 v2_4 z24 (by omega) (by omega) (by omega) (by omega) (by omega) ((own_step (by omega) e24 (by (have t0_ := congrArg Int32.toInt (vr_of (c := 92) (by omega) e8)); (have t1_ := congrArg Int32.toInt (vr_of (c := 94) (by omega) e12)); (have t2_ := congrArg Int32.toInt (vr_of (c := 95) (by omega) et16)); (have t3_ := congrArg Int32.toInt (vr_of (c := 96) (by omega) eb16)); (have t4_ := congrArg Int32.toInt (vr_of (c := 94) (by omega) e22)); exact (if_neg (by omega)).symm)).trans w2_0) (by omega)
                · refine te_iload (p2 := 84) rfl rfl rfl ?_
                  refine te_istore (p2 := 86) (lv2 := [(4, .int v2_5), (6, .int 1), (0, .ref 107), (1, .int ofLot), (2, .int day), (3, .int known), (5, .int v2_5)]) rfl rfl (by decide) rfl ?_
                  refine ar_inc (p2 := 89) (x := v2_5) rfl rfl (by decide) rfl (by decide) rfl (by omega) (by omega) (fun z25 e25 f25 => ?_)
                  show EvP _ _ _ (89, [(5, .int z25), (4, .int v2_5), (6, .int 1), (0, .ref 107), (1, .int ofLot), (2, .int day), (3, .int known)], [], h) _
                  refine te_goto rfl ?_
                  refine te_lv [(0, .ref 107), (1, .int ofLot), (2, .int day), (3, .int known), (4, .int v2_5), (5, .int z25)] rfl rfl ⟨rfl, rfl, rfl, rfl, rfl, rfl, trivial⟩ ?_
                  exact ih2 v2_5 z25 (by omega) (by omega) (by omega) (by omega) (by omega) ((own_step (by omega) e25 (by (have t0_ := congrArg Int32.toInt (vr_of (c := 92) (by omega) e8)); (have t1_ := congrArg Int32.toInt (vr_of (c := 94) (by omega) e12)); (have t2_ := congrArg Int32.toInt (vr_of (c := 95) (by omega) et16)); (have t3_ := congrArg Int32.toInt (vr_of (c := 96) (by omega) eb16)); (have t4_ := congrArg Int32.toInt (vr_of (c := 94) (by omega) e22)); exact (if_pos (by omega)).symm)).trans w2_0) (by omega)
            · subst w16_
              refine tz_eq (p2 := 47) rfl rfl (show Int32.toInt 0 = 0 from rfl) (fun c26 => ?_) (fun c26 => absurd c26 (by omega))
              refine te_iconst (p2 := 52) (x := 0) rfl rfl (by decide) ?_
              refine te_istore (p2 := 54) (lv2 := [(6, .int 0), (0, .ref 107), (1, .int ofLot), (2, .int day), (3, .int known), (4, .int v2_4), (5, .int v2_5)]) rfl rfl (by decide) rfl ?_
              refine te_iload (p2 := 56) rfl rfl rfl ?_
              refine tz_eq (p2 := 59) rfl rfl (show Int32.toInt 0 = 0 from rfl) (fun c27 => ?_) (fun c27 => absurd c27 (by omega))
              refine ar_inc (p2 := 89) (x := v2_5) rfl rfl (by decide) rfl (by decide) rfl (by omega) (by omega) (fun z28 e28 f28 => ?_)
              show EvP _ _ _ (89, [(5, .int z28), (6, .int 0), (0, .ref 107), (1, .int ofLot), (2, .int day), (3, .int known), (4, .int v2_4)], [], h) _
              refine te_goto rfl ?_
              refine te_lv [(0, .ref 107), (1, .int ofLot), (2, .int day), (3, .int known), (4, .int v2_4), (5, .int z28)] rfl rfl ⟨rfl, rfl, rfl, rfl, rfl, rfl, trivial⟩ ?_
              exact ih2 v2_4 z28 (by omega) (by omega) (by omega) (by omega) (by omega) ((own_step (by omega) e28 (by (have t0_ := congrArg Int32.toInt (vr_of (c := 92) (by omega) e8)); (have t1_ := congrArg Int32.toInt (vr_of (c := 94) (by omega) e12)); (have t2_ := congrArg Int32.toInt (vr_of (c := 95) (by omega) et16)); (have t3_ := congrArg Int32.toInt (vr_of (c := 96) (by omega) eb16)); exact (if_neg (by omega)).symm)).trans w2_0) (by omega)
  refine te_lv [(0, .ref 107), (1, .int ofLot), (2, .int day), (3, .int known), (4, .int (-1)), (5, .int 0)] rfl rfl ⟨rfl, rfl, rfl, rfl, rfl, rfl, trivial⟩ ?_
  exact lp2 25 (-1) 0 (by decide) (by decide) (by decide) (by decide) (by have cc0 := (show Int32.toInt (-1) = (-1) from rfl); have cc1 := (show Int32.toInt 0 = 0 from rfl); omega) rfl (by have cc0 := (show Int32.toInt (-1) = (-1) from rfl); have cc1 := (show Int32.toInt 0 = 0 from rfl); omega)
abbrev Q1_owner (x1 x2 x3 : Int32) (y : Int32) (h h2 : im_H) : Prop := ∃ d c : Int32, rd h 23 0 = some (.int d) ∧ rd h 91 0 = some (.int c) ∧ y = owT (vr h 92) (vr h 93) (vr h 94) (vr h 95) (vr h 96) x1 x2 x3 d c
set_option maxRecDepth 20000 in
set_option maxHeartbeats 4000000 in
theorem c_X11_owner {x1 : Int32} {x2 : Int32} {x3 : Int32} {h : im_H} (hI : tI h)  : CaP 3 98 [.ref 16, .int x1, .int x2, .int x3] h (fun v h2 => tI h2 ∧ fr F_X11_owner h h2 ∧ ∃ y : Int32, v = some (.int y) ∧ Q1_owner x1 x2 x3 y h h2) := by
  refine cap_of (d := 2) (M := mX11_owner) rfl (Nat.le_of_ble_eq_true rfl) ?_
  show EvP im_K0 2 mX11_owner (0, [(0, .ref 16), (1, .int x1), (2, .int x2), (3, .int x3)], [], h) _
  have f0 : fr F_X11_owner h h := fr_rf
  refine te_iload_n (p2 := 1) rfl rfl rfl ?_
  refine te_bipush (p2 := 3) (x := 12) rfl rfl (by decide) ?_
  refine cS_pI (p2 := 6) rfl rfl rfl rfl (t_X11_within (n := x1) (b := 12) hI ) (by decide) (fun y1 r1 => ?_)
  rcases r1 with ⟨w1, c1⟩ | ⟨w1, c1⟩
  · subst w1
    have cc1_1 := (show Int32.toInt 12 = 12 from rfl)
    refine tz_ne (p2 := 9) rfl rfl (show Int32.toInt 1 = 1 from rfl) (fun c2 => ?_) (fun c2 => absurd c2 (by omega))
    refine te_iload_n (p2 := 13) rfl rfl rfl ?_
    refine te_iconst (p2 := 14) (x := 0) rfl rfl (by decide) ?_
    refine te_sipush (p2 := 17) (x := 2000) rfl rfl (by decide) ?_
    refine cS_pI (p2 := 20) rfl rfl rfl rfl (t_X11_between (n := x2) (a := 0) (b := 2000) hI ) (by decide) (fun y3 r3 => ?_)
    rcases r3 with ⟨w3, c3⟩ | ⟨w3, c3⟩
    · subst w3
      have cc3_1 := (show Int32.toInt 0 = 0 from rfl)
      have cc3_2 := (show Int32.toInt 2000 = 2000 from rfl)
      refine tz_eq (p2 := 23) rfl rfl (show Int32.toInt 1 = 1 from rfl) (fun c4 => absurd c4 (by omega)) (fun c4 => ?_)
      refine te_iload_n (p2 := 24) rfl rfl rfl ?_
      refine te_iconst (p2 := 25) (x := 0) rfl rfl (by decide) ?_
      refine te_aload_n (p2 := 26) rfl rfl rfl ?_
      refine tg_r (p2 := 29) (i := 0) (r := 39) rfl rfl hI rfl rfl rfl ?_
      refine tg_i (p2 := 32) (i := 23) rfl rfl hI rfl rfl rfl (fun y5 a5 b5 e5 => ?_)
      refine cS_pI (p2 := 35) rfl rfl rfl rfl (t_X11_between (n := x3) (a := 0) (b := y5) hI ) (by decide) (fun y6 r6 => ?_)
      rcases r6 with ⟨w6, c6⟩ | ⟨w6, c6⟩
      · subst w6
        have cc6_1 := (show Int32.toInt 0 = 0 from rfl)
        refine tz_ne (p2 := 38) rfl rfl (show Int32.toInt 1 = 1 from rfl) (fun c7 => ?_) (fun c7 => absurd c7 (by omega))
        refine te_aload_n (p2 := 42) rfl rfl rfl ?_
        refine tg_r (p2 := 45) (i := 0) (r := 107) rfl rfl hI rfl rfl rfl ?_
        refine te_iload_n (p2 := 46) rfl rfl rfl ?_
        refine te_iload_n (p2 := 47) rfl rfl rfl ?_
        refine te_iload_n (p2 := 48) rfl rfl rfl ?_
        refine cV_pI (p2 := 51) (i := 91) rfl rfl rfl rfl hI rfl rfl rfl (c_X2_ownerOf (ofLot := x1) (day := x2) (known := x3) hI ) (by decide) (fun y8 r8 => ?_)
        obtain ⟨oc8, ec8, fy8⟩ := r8
        exact te_iret rfl rfl ⟨hI, f0, _, rfl, y5, oc8, e5, ec8, (by unfold owT; rw [if_pos (by omega), if_pos (by omega)]; exact fy8)⟩
      · subst w6
        have cc6_1 := (show Int32.toInt 0 = 0 from rfl)
        refine tz_ne (p2 := 38) rfl rfl (show Int32.toInt 0 = 0 from rfl) (fun c9 => absurd c9 (by omega)) (fun c9 => ?_)
        refine te_bipush (p2 := 40) (x := (-2)) rfl rfl (by decide) ?_
        obtain ⟨v10, e10, y10, w10, a10, b10, _⟩ := hI.2.1 91 0 (.inl (0, 24, 9999999999)) rfl
        subst w10
        exact te_iret rfl rfl ⟨hI, f0, _, rfl, y5, y10, e5, e10, (by unfold owT; rw [if_pos (by omega), if_neg (by omega)])⟩
    · subst w3
      have cc3_1 := (show Int32.toInt 0 = 0 from rfl)
      have cc3_2 := (show Int32.toInt 2000 = 2000 from rfl)
      refine tz_eq (p2 := 23) rfl rfl (show Int32.toInt 0 = 0 from rfl) (fun c11 => ?_) (fun c11 => absurd c11 (by omega))
      refine te_bipush (p2 := 40) (x := (-2)) rfl rfl (by decide) ?_
      obtain ⟨v12, e12, y12, w12, a12, b12, _⟩ := hI.2.1 23 0 (.inl ((-2147483648), 2147483647, 9999999999)) rfl
      subst w12
      obtain ⟨v13, e13, y13, w13, a13, b13, _⟩ := hI.2.1 91 0 (.inl (0, 24, 9999999999)) rfl
      subst w13
      exact te_iret rfl rfl ⟨hI, f0, _, rfl, y12, y13, e12, e13, (by unfold owT; rw [if_pos (by omega), if_neg (by omega)])⟩
  · subst w1
    have cc1_1 := (show Int32.toInt 12 = 12 from rfl)
    refine tz_ne (p2 := 9) rfl rfl (show Int32.toInt 0 = 0 from rfl) (fun c14 => absurd c14 (by omega)) (fun c14 => ?_)
    refine te_bipush (p2 := 11) (x := (-5)) rfl rfl (by decide) ?_
    obtain ⟨v15, e15, y15, w15, a15, b15, _⟩ := hI.2.1 23 0 (.inl ((-2147483648), 2147483647, 9999999999)) rfl
    subst w15
    obtain ⟨v16, e16, y16, w16, a16, b16, _⟩ := hI.2.1 91 0 (.inl (0, 24, 9999999999)) rfl
    subst w16
    exact te_iret rfl rfl ⟨hI, f0, _, rfl, y15, y16, e15, e16, (by unfold owT; rw [if_neg (by omega)])⟩
abbrev Q2_owner (x1 x2 x3 : Int32) (y : Int32) (h h2 : im_H) : Prop := ∃ d c : Int32, rd h 149 105 = some (.int d) ∧ rd h 148 35 = some (.int c) ∧ y = owT (vr h 178) (vr h 179) (vr h 180) (vr h 181) (vr h 182) x1 x2 x3 d c
set_option maxRecDepth 20000 in
set_option maxHeartbeats 4000000 in
theorem c_X12_owner {x1 : Int32} {x2 : Int32} {x3 : Int32} {h : im_H} (hI : tI h)  : CaP 3 184 [.ref 164, .int x1, .int x2, .int x3] h (fun v h2 => tI h2 ∧ fr F_X12_owner h h2 ∧ ∃ y : Int32, v = some (.int y) ∧ Q2_owner x1 x2 x3 y h h2) := by
  refine cap_of (d := 2) (M := mX12_owner) rfl (Nat.le_of_ble_eq_true rfl) ?_
  show EvP im_K0 2 mX12_owner (0, [(0, .ref 164), (1, .int x1), (2, .int x2), (3, .int x3)], [], h) _
  have f0 : fr F_X12_owner h h := fr_rf
  refine te_iload_n (p2 := 1) rfl rfl rfl ?_
  refine te_iconst (p2 := 2) (x := 0) rfl rfl (by decide) ?_
  refine te_bipush (p2 := 4) (x := 11) rfl rfl (by decide) ?_
  refine cS_pI (p2 := 7) rfl rfl rfl rfl (t_X12_in (n := x1) (a := 0) (b := 11) hI ) (by decide) (fun y1 r1 => ?_)
  rcases r1 with ⟨w1, c1⟩ | ⟨w1, c1⟩
  · subst w1
    have cc1_1 := (show Int32.toInt 0 = 0 from rfl)
    have cc1_2 := (show Int32.toInt 11 = 11 from rfl)
    refine tz_ne (p2 := 10) rfl rfl (show Int32.toInt 1 = 1 from rfl) (fun c2 => ?_) (fun c2 => absurd c2 (by omega))
    refine te_iload_n (p2 := 14) rfl rfl rfl ?_
    refine te_iconst (p2 := 15) (x := 0) rfl rfl (by decide) ?_
    refine te_sipush (p2 := 18) (x := 2000) rfl rfl (by decide) ?_
    refine cS_pI (p2 := 21) rfl rfl rfl rfl (t_X12_in (n := x2) (a := 0) (b := 2000) hI ) (by decide) (fun y3 r3 => ?_)
    rcases r3 with ⟨w3, c3⟩ | ⟨w3, c3⟩
    · subst w3
      have cc3_1 := (show Int32.toInt 0 = 0 from rfl)
      have cc3_2 := (show Int32.toInt 2000 = 2000 from rfl)
      refine tz_eq (p2 := 24) rfl rfl (show Int32.toInt 1 = 1 from rfl) (fun c4 => absurd c4 (by omega)) (fun c4 => ?_)
      refine te_iload_n (p2 := 25) rfl rfl rfl ?_
      refine te_iconst (p2 := 26) (x := 0) rfl rfl (by decide) ?_
      refine te_aload_n (p2 := 27) rfl rfl rfl ?_
      refine tg_r (p2 := 30) (i := 148) (r := 165) rfl rfl hI rfl rfl rfl ?_
      refine te_bipush (p2 := 32) (x := 105) rfl rfl (by decide) ?_
      refine tl_i (p2 := 33) (i := 149) (n := 283) rfl rfl hI rfl rfl rfl rfl (by decide) (by decide) (fun y5 a5 b5 g5 e5 => ?_)
      refine cS_pI (p2 := 36) rfl rfl rfl rfl (t_X12_in (n := x3) (a := 0) (b := y5) hI ) (by decide) (fun y6 r6 => ?_)
      rcases r6 with ⟨w6, c6⟩ | ⟨w6, c6⟩
      · subst w6
        have cc6_1 := (show Int32.toInt 0 = 0 from rfl)
        refine tz_ne (p2 := 39) rfl rfl (show Int32.toInt 1 = 1 from rfl) (fun c7 => ?_) (fun c7 => absurd c7 (by omega))
        refine te_iconst (p2 := 43) (x := (-1)) rfl rfl (by decide) ?_
        refine te_istore (p2 := 45) (lv2 := [(4, .int (-1)), (0, .ref 164), (1, .int x1), (2, .int x2), (3, .int x3)]) rfl rfl (by decide) rfl ?_
        refine te_iconst (p2 := 46) (x := 0) rfl rfl (by decide) ?_
        refine te_istore (p2 := 48) (lv2 := [(5, .int 0), (4, .int (-1)), (0, .ref 164), (1, .int x1), (2, .int x2), (3, .int x3)]) rfl rfl (by decide) rfl ?_
        obtain ⟨v8, e8, y8, w8, a8, b8, _⟩ := hI.2.1 148 35 (.inl (0, 24, 9999999999)) rfl
        subst w8
        have lp9 : ∀ (n9 : Nat) (v9_4 v9_5 : Int32) , (-1) ≤ v9_4.toInt → v9_4.toInt ≤ 23 → 0 ≤ v9_5.toInt → v9_5.toInt ≤ 24 → v9_5.toInt ≤ y8.toInt → (own (vr h 178) (vr h 180) (vr h 181) (vr h 182) x1 x2 x3 (y8.toInt.toNat - v9_5.toInt.toNat) v9_5 v9_4 = own (vr h 178) (vr h 180) (vr h 181) (vr h 182) x1 x2 x3 y8.toInt.toNat 0 (-1)) → 24 - v9_5.toInt < (n9 : Int) → EvP im_K0 2 mX12_owner (48, [(0, .ref 164), (1, .int x1), (2, .int x2), (3, .int x3), (4, .int v9_4), (5, .int v9_5)], [], h) (fun v h2 => tI h2 ∧ fr F_X12_owner h h2 ∧ ∃ y : Int32, v = some (.int y) ∧ Q2_owner x1 x2 x3 y h h2) := by
          intro n9
          induction n9 with
          | zero => intro v9_4 v9_5 a9_4 b9_4 a9_5 b9_5 l9_0 w9_0 m9; exfalso; omega
          | succ n9 ih9 =>
            intro v9_4 v9_5 a9_4 b9_4 a9_5 b9_5 l9_0 w9_0 m9
            refine te_iload (p2 := 50) rfl rfl rfl ?_
            refine te_aload_n (p2 := 51) rfl rfl rfl ?_
            refine tg_e (p2 := 54) (i := 148) (v := .int y8) rfl rfl hI rfl rfl e8 ?_
            refine tb_ge (p2 := 57) rfl rfl rfl rfl (fun c10 => ?_) (fun c10 => ?_)
            · refine te_iload (p2 := 164) rfl rfl rfl ?_
              refine te_iconst (p2 := 165) (x := (-1)) rfl rfl (by decide) ?_
              refine tb_ne (p2 := 168) rfl rfl rfl (show Int32.toInt (-1) = (-1) from rfl) (fun c11 => ?_) (fun c11 => ?_)
              · refine te_aload_n (p2 := 173) rfl rfl rfl ?_
                refine tg_r (p2 := 176) (i := 148) (r := 195) rfl rfl hI rfl rfl rfl ?_
                refine te_iload (p2 := 178) rfl rfl rfl ?_
                refine tl_i (p2 := 179) (i := 179) (n := 24) rfl rfl hI rfl rfl rfl rfl (by omega) (by omega) (fun y12 a12 b12 g12 e12 => ?_)
                have ob13 : own (vr h 178) (vr h 180) (vr h 181) (vr h 182) x1 x2 x3 y8.toInt.toNat 0 (-1) = v9_4 := w9_0.symm.trans (own_end (by omega))
                exact te_iret rfl rfl ⟨hI, f0, _, rfl, y5, y8, e5, e8, (by unfold owT; rw [if_pos (by omega), if_pos (by omega)]; exact (show y12 = owR (vr h 179) (own (vr h 178) (vr h 180) (vr h 181) (vr h 182) x1 x2 x3 y8.toInt.toNat 0 (-1)) from (by rw [ob13]; exact ((if_neg (by omega)).trans (vr_of (by omega) e12)).symm)))⟩
              · refine te_iconst (p2 := 169) (x := (-1)) rfl rfl (by decide) ?_
                refine te_goto rfl ?_
                have ob14 : own (vr h 178) (vr h 180) (vr h 181) (vr h 182) x1 x2 x3 y8.toInt.toNat 0 (-1) = v9_4 := w9_0.symm.trans (own_end (by omega))
                exact te_iret rfl rfl ⟨hI, f0, _, rfl, y5, y8, e5, e8, (by unfold owT; rw [if_pos (by omega), if_pos (by omega)]; exact (show (-1 : Int32) = owR (vr h 179) (own (vr h 178) (vr h 180) (vr h 181) (vr h 182) x1 x2 x3 y8.toInt.toNat 0 (-1)) from (by rw [ob14]; exact (if_pos (by omega)).symm)))⟩
            · refine te_aload_n (p2 := 58) rfl rfl rfl ?_
              refine tg_r (p2 := 61) (i := 148) (r := 194) rfl rfl hI rfl rfl rfl ?_
              refine te_iload (p2 := 63) rfl rfl rfl ?_
              refine tl_i (p2 := 64) (i := 178) (n := 24) rfl rfl hI rfl rfl rfl rfl (by omega) (by omega) (fun y15 a15 b15 g15 e15 => ?_)
              refine te_iload_n (p2 := 65) rfl rfl rfl ?_
              refine tb_ne (p2 := 68) rfl rfl rfl rfl (fun c16 => ?_) (fun c16 => ?_)
              · refine te_iconst (p2 := 117) (x := 0) rfl rfl (by decide) ?_
                refine te_istore (p2 := 119) (lv2 := [(6, .int 0), (0, .ref 164), (1, .int x1), (2, .int x2), (3, .int x3), (4, .int v9_4), (5, .int v9_5)]) rfl rfl (by decide) rfl ?_
                refine te_iload (p2 := 121) rfl rfl rfl ?_
                refine tz_eq (p2 := 124) rfl rfl (show Int32.toInt 0 = 0 from rfl) (fun c17 => ?_) (fun c17 => absurd c17 (by omega))
                refine te_iload (p2 := 154) rfl rfl rfl ?_
                refine te_istore (p2 := 156) (lv2 := [(4, .int v9_4), (6, .int 0), (0, .ref 164), (1, .int x1), (2, .int x2), (3, .int x3), (5, .int v9_5)]) rfl rfl (by decide) rfl ?_
                refine ar_inc (p2 := 159) (x := v9_5) rfl rfl (by decide) rfl (by decide) rfl (by omega) (by omega) (fun z18 e18 f18 => ?_)
                show EvP _ _ _ (159, [(5, .int z18), (4, .int v9_4), (6, .int 0), (0, .ref 164), (1, .int x1), (2, .int x2), (3, .int x3)], [], h) _
                refine te_goto rfl ?_
                refine te_lv [(0, .ref 164), (1, .int x1), (2, .int x2), (3, .int x3), (4, .int v9_4), (5, .int z18)] rfl rfl ⟨rfl, rfl, rfl, rfl, rfl, rfl, trivial⟩ ?_
                exact ih9 v9_4 z18 (by omega) (by omega) (by omega) (by omega) (by omega) ((own_step (by omega) e18 (by (have t0_ := congrArg Int32.toInt (vr_of (c := 178) (by omega) e15)); exact (if_neg (by omega)).symm)).trans w9_0) (by omega)
              · refine te_aload_n (p2 := 69) rfl rfl rfl ?_
                refine tg_r (p2 := 72) (i := 148) (r := 197) rfl rfl hI rfl rfl rfl ?_
                refine te_iload (p2 := 74) rfl rfl rfl ?_
                refine tl_i (p2 := 75) (i := 181) (n := 24) rfl rfl hI rfl rfl rfl rfl (by omega) (by omega) (fun y19 a19 b19 g19 e19 => ?_)
                refine te_iload_n (p2 := 76) rfl rfl rfl ?_
                refine tb_gt (p2 := 79) rfl rfl rfl rfl (fun c20 => ?_) (fun c20 => ?_)
                · refine te_iconst (p2 := 117) (x := 0) rfl rfl (by decide) ?_
                  refine te_istore (p2 := 119) (lv2 := [(6, .int 0), (0, .ref 164), (1, .int x1), (2, .int x2), (3, .int x3), (4, .int v9_4), (5, .int v9_5)]) rfl rfl (by decide) rfl ?_
                  refine te_iload (p2 := 121) rfl rfl rfl ?_
                  refine tz_eq (p2 := 124) rfl rfl (show Int32.toInt 0 = 0 from rfl) (fun c21 => ?_) (fun c21 => absurd c21 (by omega))
                  refine te_iload (p2 := 154) rfl rfl rfl ?_
                  refine te_istore (p2 := 156) (lv2 := [(4, .int v9_4), (6, .int 0), (0, .ref 164), (1, .int x1), (2, .int x2), (3, .int x3), (5, .int v9_5)]) rfl rfl (by decide) rfl ?_
                  refine ar_inc (p2 := 159) (x := v9_5) rfl rfl (by decide) rfl (by decide) rfl (by omega) (by omega) (fun z22 e22 f22 => ?_)
                  show EvP _ _ _ (159, [(5, .int z22), (4, .int v9_4), (6, .int 0), (0, .ref 164), (1, .int x1), (2, .int x2), (3, .int x3)], [], h) _
                  refine te_goto rfl ?_
                  refine te_lv [(0, .ref 164), (1, .int x1), (2, .int x2), (3, .int x3), (4, .int v9_4), (5, .int z22)] rfl rfl ⟨rfl, rfl, rfl, rfl, rfl, rfl, trivial⟩ ?_
                  exact ih9 v9_4 z22 (by omega) (by omega) (by omega) (by omega) (by omega) ((own_step (by omega) e22 (by (have t0_ := congrArg Int32.toInt (vr_of (c := 178) (by omega) e15)); (have t2_ := congrArg Int32.toInt (vr_of (c := 181) (by omega) e19)); exact (if_neg (by omega)).symm)).trans w9_0) (by omega)
                · refine te_aload_n (p2 := 80) rfl rfl rfl ?_
                  refine tg_r (p2 := 83) (i := 148) (r := 198) rfl rfl hI rfl rfl rfl ?_
                  refine te_iload (p2 := 85) rfl rfl rfl ?_
                  refine tl_i (p2 := 86) (i := 182) (n := 24) rfl rfl hI rfl rfl rfl rfl (by omega) (by omega) (fun y23 a23 b23 g23 e23 => ?_)
                  refine te_iconst (p2 := 87) (x := (-1)) rfl rfl (by decide) ?_
                  refine tb_eq (p2 := 90) rfl rfl rfl (show Int32.toInt (-1) = (-1) from rfl) (fun c24 => ?_) (fun c24 => ?_)
                  · refine te_aload_n (p2 := 102) rfl rfl rfl ?_
                    refine tg_r (p2 := 105) (i := 148) (r := 196) rfl rfl hI rfl rfl rfl ?_
                    refine te_iload (p2 := 107) rfl rfl rfl ?_
                    refine tl_i (p2 := 108) (i := 180) (n := 24) rfl rfl hI rfl rfl rfl rfl (by omega) (by omega) (fun y25 a25 b25 g25 e25 => ?_)
                    refine te_iload_n (p2 := 109) rfl rfl rfl ?_
                    refine tb_gt (p2 := 112) rfl rfl rfl rfl (fun c26 => ?_) (fun c26 => ?_)
                    · refine te_iconst (p2 := 117) (x := 0) rfl rfl (by decide) ?_
                      refine te_istore (p2 := 119) (lv2 := [(6, .int 0), (0, .ref 164), (1, .int x1), (2, .int x2), (3, .int x3), (4, .int v9_4), (5, .int v9_5)]) rfl rfl (by decide) rfl ?_
                      refine te_iload (p2 := 121) rfl rfl rfl ?_
                      refine tz_eq (p2 := 124) rfl rfl (show Int32.toInt 0 = 0 from rfl) (fun c27 => ?_) (fun c27 => absurd c27 (by omega))
                      refine te_iload (p2 := 154) rfl rfl rfl ?_
                      refine te_istore (p2 := 156) (lv2 := [(4, .int v9_4), (6, .int 0), (0, .ref 164), (1, .int x1), (2, .int x2), (3, .int x3), (5, .int v9_5)]) rfl rfl (by decide) rfl ?_
                      refine ar_inc (p2 := 159) (x := v9_5) rfl rfl (by decide) rfl (by decide) rfl (by omega) (by omega) (fun z28 e28 f28 => ?_)
                      show EvP _ _ _ (159, [(5, .int z28), (4, .int v9_4), (6, .int 0), (0, .ref 164), (1, .int x1), (2, .int x2), (3, .int x3)], [], h) _
                      refine te_goto rfl ?_
                      refine te_lv [(0, .ref 164), (1, .int x1), (2, .int x2), (3, .int x3), (4, .int v9_4), (5, .int z28)] rfl rfl ⟨rfl, rfl, rfl, rfl, rfl, rfl, trivial⟩ ?_
                      exact ih9 v9_4 z28 (by omega) (by omega) (by omega) (by omega) (by omega) ((own_step (by omega) e28 (by (have t0_ := congrArg Int32.toInt (vr_of (c := 178) (by omega) e15)); (have t1_ := congrArg Int32.toInt (vr_of (c := 180) (by omega) e25)); (have t2_ := congrArg Int32.toInt (vr_of (c := 181) (by omega) e19)); (have t3_ := congrArg Int32.toInt (vr_of (c := 182) (by omega) e23)); exact (if_neg (by omega)).symm)).trans w9_0) (by omega)
                    · refine te_iconst (p2 := 113) (x := 1) rfl rfl (by decide) ?_
                      refine te_goto rfl ?_
                      refine te_istore (p2 := 119) (lv2 := [(6, .int 1), (0, .ref 164), (1, .int x1), (2, .int x2), (3, .int x3), (4, .int v9_4), (5, .int v9_5)]) rfl rfl (by decide) rfl ?_
                      refine te_iload (p2 := 121) rfl rfl rfl ?_
                      refine tz_eq (p2 := 124) rfl rfl (show Int32.toInt 1 = 1 from rfl) (fun c29 => absurd c29 (by omega)) (fun c29 => ?_)
                      refine te_iload (p2 := 126) rfl rfl rfl ?_
                      refine te_iconst (p2 := 127) (x := (-1)) rfl rfl (by decide) ?_
                      refine tb_eq (p2 := 130) rfl rfl rfl (show Int32.toInt (-1) = (-1) from rfl) (fun c30 => ?_) (fun c30 => ?_)
                      · refine te_iload (p2 := 149) rfl rfl rfl ?_
                        refine te_goto rfl ?_
                        refine te_istore (p2 := 156) (lv2 := [(4, .int v9_5), (6, .int 1), (0, .ref 164), (1, .int x1), (2, .int x2), (3, .int x3), (5, .int v9_5)]) rfl rfl (by decide) rfl ?_
                        refine ar_inc (p2 := 159) (x := v9_5) rfl rfl (by decide) rfl (by decide) rfl (by omega) (by omega) (fun z31 e31 f31 => ?_)
                        show EvP _ _ _ (159, [(5, .int z31), (4, .int v9_5), (6, .int 1), (0, .ref 164), (1, .int x1), (2, .int x2), (3, .int x3)], [], h) _
                        refine te_goto rfl ?_
                        refine te_lv [(0, .ref 164), (1, .int x1), (2, .int x2), (3, .int x3), (4, .int v9_5), (5, .int z31)] rfl rfl ⟨rfl, rfl, rfl, rfl, rfl, rfl, trivial⟩ ?_
                        exact ih9 v9_5 z31 (by omega) (by omega) (by omega) (by omega) (by omega) ((own_step (by omega) e31 (by (have t0_ := congrArg Int32.toInt (vr_of (c := 178) (by omega) e15)); (have t1_ := congrArg Int32.toInt (vr_of (c := 180) (by omega) e25)); (have t2_ := congrArg Int32.toInt (vr_of (c := 181) (by omega) e19)); (have t3_ := congrArg Int32.toInt (vr_of (c := 182) (by omega) e23)); exact (if_pos (by omega)).symm)).trans w9_0) (by omega)
                      · refine te_aload_n (p2 := 131) rfl rfl rfl ?_
                        refine tg_r (p2 := 134) (i := 148) (r := 196) rfl rfl hI rfl rfl rfl ?_
                        refine te_iload (p2 := 136) rfl rfl rfl ?_
                        refine tl_e (p2 := 137) (i := 180) (n := 24) (t := 0) (Or.inl rfl) rfl rfl hI rfl rfl (by omega) (by omega) e25 ?_
                        refine te_aload_n (p2 := 138) rfl rfl rfl ?_
                        refine tg_r (p2 := 141) (i := 148) (r := 196) rfl rfl hI rfl rfl rfl ?_
                        refine te_iload (p2 := 143) rfl rfl rfl ?_
                        refine tl_i (p2 := 144) (i := 180) (n := 24) rfl rfl hI rfl rfl rfl rfl (by omega) (by omega) (fun y33 a33 b33 g33 e33 => ?_)
                        refine tb_lt (p2 := 147) rfl rfl rfl rfl (fun c34 => ?_) (fun c34 => ?_)
                        · refine te_iload (p2 := 154) rfl rfl rfl ?_
                          refine te_istore (p2 := 156) (lv2 := [(4, .int v9_4), (6, .int 1), (0, .ref 164), (1, .int x1), (2, .int x2), (3, .int x3), (5, .int v9_5)]) rfl rfl (by decide) rfl ?_
                          refine ar_inc (p2 := 159) (x := v9_5) rfl rfl (by decide) rfl (by decide) rfl (by omega) (by omega) (fun z35 e35 f35 => ?_)
                          show EvP _ _ _ (159, [(5, .int z35), (4, .int v9_4), (6, .int 1), (0, .ref 164), (1, .int x1), (2, .int x2), (3, .int x3)], [], h) _
                          refine te_goto rfl ?_
                          refine te_lv [(0, .ref 164), (1, .int x1), (2, .int x2), (3, .int x3), (4, .int v9_4), (5, .int z35)] rfl rfl ⟨rfl, rfl, rfl, rfl, rfl, rfl, trivial⟩ ?_
                          exact ih9 v9_4 z35 (by omega) (by omega) (by omega) (by omega) (by omega) ((own_step (by omega) e35 (by (have t0_ := congrArg Int32.toInt (vr_of (c := 178) (by omega) e15)); (have t1_ := congrArg Int32.toInt (vr_of (c := 180) (by omega) e25)); (have t2_ := congrArg Int32.toInt (vr_of (c := 181) (by omega) e19)); (have t3_ := congrArg Int32.toInt (vr_of (c := 182) (by omega) e23)); (have t4_ := congrArg Int32.toInt (vr_of (c := 180) (by omega) e33)); exact (if_neg (by omega)).symm)).trans w9_0) (by omega)
                        · refine te_iload (p2 := 149) rfl rfl rfl ?_
                          refine te_goto rfl ?_
                          refine te_istore (p2 := 156) (lv2 := [(4, .int v9_5), (6, .int 1), (0, .ref 164), (1, .int x1), (2, .int x2), (3, .int x3), (5, .int v9_5)]) rfl rfl (by decide) rfl ?_
                          refine ar_inc (p2 := 159) (x := v9_5) rfl rfl (by decide) rfl (by decide) rfl (by omega) (by omega) (fun z36 e36 f36 => ?_)
                          show EvP _ _ _ (159, [(5, .int z36), (4, .int v9_5), (6, .int 1), (0, .ref 164), (1, .int x1), (2, .int x2), (3, .int x3)], [], h) _
                          refine te_goto rfl ?_
                          refine te_lv [(0, .ref 164), (1, .int x1), (2, .int x2), (3, .int x3), (4, .int v9_5), (5, .int z36)] rfl rfl ⟨rfl, rfl, rfl, rfl, rfl, rfl, trivial⟩ ?_
                          exact ih9 v9_5 z36 (by omega) (by omega) (by omega) (by omega) (by omega) ((own_step (by omega) e36 (by (have t0_ := congrArg Int32.toInt (vr_of (c := 178) (by omega) e15)); (have t1_ := congrArg Int32.toInt (vr_of (c := 180) (by omega) e25)); (have t2_ := congrArg Int32.toInt (vr_of (c := 181) (by omega) e19)); (have t3_ := congrArg Int32.toInt (vr_of (c := 182) (by omega) e23)); (have t4_ := congrArg Int32.toInt (vr_of (c := 180) (by omega) e33)); exact (if_pos (by omega)).symm)).trans w9_0) (by omega)
                  · refine te_aload_n (p2 := 91) rfl rfl rfl ?_
                    refine tg_r (p2 := 94) (i := 148) (r := 198) rfl rfl hI rfl rfl rfl ?_
                    refine te_iload (p2 := 96) rfl rfl rfl ?_
                    refine tl_e (p2 := 97) (i := 182) (n := 24) (t := 0) (Or.inl rfl) rfl rfl hI rfl rfl (by omega) (by omega) e23 ?_
                    refine te_iload_n (p2 := 98) rfl rfl rfl ?_
                    refine tb_le (p2 := 101) rfl rfl rfl rfl (fun c38 => ?_) (fun c38 => ?_)
                    · refine te_iconst (p2 := 117) (x := 0) rfl rfl (by decide) ?_
                      refine te_istore (p2 := 119) (lv2 := [(6, .int 0), (0, .ref 164), (1, .int x1), (2, .int x2), (3, .int x3), (4, .int v9_4), (5, .int v9_5)]) rfl rfl (by decide) rfl ?_
                      refine te_iload (p2 := 121) rfl rfl rfl ?_
                      refine tz_eq (p2 := 124) rfl rfl (show Int32.toInt 0 = 0 from rfl) (fun c39 => ?_) (fun c39 => absurd c39 (by omega))
                      refine te_iload (p2 := 154) rfl rfl rfl ?_
                      refine te_istore (p2 := 156) (lv2 := [(4, .int v9_4), (6, .int 0), (0, .ref 164), (1, .int x1), (2, .int x2), (3, .int x3), (5, .int v9_5)]) rfl rfl (by decide) rfl ?_
                      refine ar_inc (p2 := 159) (x := v9_5) rfl rfl (by decide) rfl (by decide) rfl (by omega) (by omega) (fun z40 e40 f40 => ?_)
                      show EvP _ _ _ (159, [(5, .int z40), (4, .int v9_4), (6, .int 0), (0, .ref 164), (1, .int x1), (2, .int x2), (3, .int x3)], [], h) _
                      refine te_goto rfl ?_
                      refine te_lv [(0, .ref 164), (1, .int x1), (2, .int x2), (3, .int x3), (4, .int v9_4), (5, .int z40)] rfl rfl ⟨rfl, rfl, rfl, rfl, rfl, rfl, trivial⟩ ?_
                      exact ih9 v9_4 z40 (by omega) (by omega) (by omega) (by omega) (by omega) ((own_step (by omega) e40 (by (have t0_ := congrArg Int32.toInt (vr_of (c := 178) (by omega) e15)); (have t2_ := congrArg Int32.toInt (vr_of (c := 181) (by omega) e19)); (have t3_ := congrArg Int32.toInt (vr_of (c := 182) (by omega) e23)); exact (if_neg (by omega)).symm)).trans w9_0) (by omega)
                    · refine te_aload_n (p2 := 102) rfl rfl rfl ?_
                      refine tg_r (p2 := 105) (i := 148) (r := 196) rfl rfl hI rfl rfl rfl ?_
                      refine te_iload (p2 := 107) rfl rfl rfl ?_
                      refine tl_i (p2 := 108) (i := 180) (n := 24) rfl rfl hI rfl rfl rfl rfl (by omega) (by omega) (fun y41 a41 b41 g41 e41 => ?_)
                      refine te_iload_n (p2 := 109) rfl rfl rfl ?_
                      refine tb_gt (p2 := 112) rfl rfl rfl rfl (fun c42 => ?_) (fun c42 => ?_)
                      · refine te_iconst (p2 := 117) (x := 0) rfl rfl (by decide) ?_
                        refine te_istore (p2 := 119) (lv2 := [(6, .int 0), (0, .ref 164), (1, .int x1), (2, .int x2), (3, .int x3), (4, .int v9_4), (5, .int v9_5)]) rfl rfl (by decide) rfl ?_
                        refine te_iload (p2 := 121) rfl rfl rfl ?_
                        refine tz_eq (p2 := 124) rfl rfl (show Int32.toInt 0 = 0 from rfl) (fun c43 => ?_) (fun c43 => absurd c43 (by omega))
                        refine te_iload (p2 := 154) rfl rfl rfl ?_
                        refine te_istore (p2 := 156) (lv2 := [(4, .int v9_4), (6, .int 0), (0, .ref 164), (1, .int x1), (2, .int x2), (3, .int x3), (5, .int v9_5)]) rfl rfl (by decide) rfl ?_
                        refine ar_inc (p2 := 159) (x := v9_5) rfl rfl (by decide) rfl (by decide) rfl (by omega) (by omega) (fun z44 e44 f44 => ?_)
                        show EvP _ _ _ (159, [(5, .int z44), (4, .int v9_4), (6, .int 0), (0, .ref 164), (1, .int x1), (2, .int x2), (3, .int x3)], [], h) _
                        refine te_goto rfl ?_
                        refine te_lv [(0, .ref 164), (1, .int x1), (2, .int x2), (3, .int x3), (4, .int v9_4), (5, .int z44)] rfl rfl ⟨rfl, rfl, rfl, rfl, rfl, rfl, trivial⟩ ?_
                        exact ih9 v9_4 z44 (by omega) (by omega) (by omega) (by omega) (by omega) ((own_step (by omega) e44 (by (have t0_ := congrArg Int32.toInt (vr_of (c := 178) (by omega) e15)); (have t1_ := congrArg Int32.toInt (vr_of (c := 180) (by omega) e41)); (have t2_ := congrArg Int32.toInt (vr_of (c := 181) (by omega) e19)); (have t3_ := congrArg Int32.toInt (vr_of (c := 182) (by omega) e23)); exact (if_neg (by omega)).symm)).trans w9_0) (by omega)
                      · refine te_iconst (p2 := 113) (x := 1) rfl rfl (by decide) ?_
                        refine te_goto rfl ?_
                        refine te_istore (p2 := 119) (lv2 := [(6, .int 1), (0, .ref 164), (1, .int x1), (2, .int x2), (3, .int x3), (4, .int v9_4), (5, .int v9_5)]) rfl rfl (by decide) rfl ?_
                        refine te_iload (p2 := 121) rfl rfl rfl ?_
                        refine tz_eq (p2 := 124) rfl rfl (show Int32.toInt 1 = 1 from rfl) (fun c45 => absurd c45 (by omega)) (fun c45 => ?_)
                        refine te_iload (p2 := 126) rfl rfl rfl ?_
                        refine te_iconst (p2 := 127) (x := (-1)) rfl rfl (by decide) ?_
                        refine tb_eq (p2 := 130) rfl rfl rfl (show Int32.toInt (-1) = (-1) from rfl) (fun c46 => ?_) (fun c46 => ?_)
                        · refine te_iload (p2 := 149) rfl rfl rfl ?_
                          refine te_goto rfl ?_
                          refine te_istore (p2 := 156) (lv2 := [(4, .int v9_5), (6, .int 1), (0, .ref 164), (1, .int x1), (2, .int x2), (3, .int x3), (5, .int v9_5)]) rfl rfl (by decide) rfl ?_
                          refine ar_inc (p2 := 159) (x := v9_5) rfl rfl (by decide) rfl (by decide) rfl (by omega) (by omega) (fun z47 e47 f47 => ?_)
                          show EvP _ _ _ (159, [(5, .int z47), (4, .int v9_5), (6, .int 1), (0, .ref 164), (1, .int x1), (2, .int x2), (3, .int x3)], [], h) _
                          refine te_goto rfl ?_
                          refine te_lv [(0, .ref 164), (1, .int x1), (2, .int x2), (3, .int x3), (4, .int v9_5), (5, .int z47)] rfl rfl ⟨rfl, rfl, rfl, rfl, rfl, rfl, trivial⟩ ?_
                          exact ih9 v9_5 z47 (by omega) (by omega) (by omega) (by omega) (by omega) ((own_step (by omega) e47 (by (have t0_ := congrArg Int32.toInt (vr_of (c := 178) (by omega) e15)); (have t1_ := congrArg Int32.toInt (vr_of (c := 180) (by omega) e41)); (have t2_ := congrArg Int32.toInt (vr_of (c := 181) (by omega) e19)); (have t3_ := congrArg Int32.toInt (vr_of (c := 182) (by omega) e23)); exact (if_pos (by omega)).symm)).trans w9_0) (by omega)
                        · refine te_aload_n (p2 := 131) rfl rfl rfl ?_
                          refine tg_r (p2 := 134) (i := 148) (r := 196) rfl rfl hI rfl rfl rfl ?_
                          refine te_iload (p2 := 136) rfl rfl rfl ?_
                          refine tl_e (p2 := 137) (i := 180) (n := 24) (t := 0) (Or.inl rfl) rfl rfl hI rfl rfl (by omega) (by omega) e41 ?_
                          refine te_aload_n (p2 := 138) rfl rfl rfl ?_
                          refine tg_r (p2 := 141) (i := 148) (r := 196) rfl rfl hI rfl rfl rfl ?_
                          refine te_iload (p2 := 143) rfl rfl rfl ?_
                          refine tl_i (p2 := 144) (i := 180) (n := 24) rfl rfl hI rfl rfl rfl rfl (by omega) (by omega) (fun y49 a49 b49 g49 e49 => ?_)
                          refine tb_lt (p2 := 147) rfl rfl rfl rfl (fun c50 => ?_) (fun c50 => ?_)
                          · refine te_iload (p2 := 154) rfl rfl rfl ?_
                            refine te_istore (p2 := 156) (lv2 := [(4, .int v9_4), (6, .int 1), (0, .ref 164), (1, .int x1), (2, .int x2), (3, .int x3), (5, .int v9_5)]) rfl rfl (by decide) rfl ?_
                            refine ar_inc (p2 := 159) (x := v9_5) rfl rfl (by decide) rfl (by decide) rfl (by omega) (by omega) (fun z51 e51 f51 => ?_)
                            show EvP _ _ _ (159, [(5, .int z51), (4, .int v9_4), (6, .int 1), (0, .ref 164), (1, .int x1), (2, .int x2), (3, .int x3)], [], h) _
                            refine te_goto rfl ?_
                            refine te_lv [(0, .ref 164), (1, .int x1), (2, .int x2), (3, .int x3), (4, .int v9_4), (5, .int z51)] rfl rfl ⟨rfl, rfl, rfl, rfl, rfl, rfl, trivial⟩ ?_
                            exact ih9 v9_4 z51 (by omega) (by omega) (by omega) (by omega) (by omega) ((own_step (by omega) e51 (by (have t0_ := congrArg Int32.toInt (vr_of (c := 178) (by omega) e15)); (have t1_ := congrArg Int32.toInt (vr_of (c := 180) (by omega) e41)); (have t2_ := congrArg Int32.toInt (vr_of (c := 181) (by omega) e19)); (have t3_ := congrArg Int32.toInt (vr_of (c := 182) (by omega) e23)); (have t4_ := congrArg Int32.toInt (vr_of (c := 180) (by omega) e49)); exact (if_neg (by omega)).symm)).trans w9_0) (by omega)
                          · refine te_iload (p2 := 149) rfl rfl rfl ?_
                            refine te_goto rfl ?_
                            refine te_istore (p2 := 156) (lv2 := [(4, .int v9_5), (6, .int 1), (0, .ref 164), (1, .int x1), (2, .int x2), (3, .int x3), (5, .int v9_5)]) rfl rfl (by decide) rfl ?_
                            refine ar_inc (p2 := 159) (x := v9_5) rfl rfl (by decide) rfl (by decide) rfl (by omega) (by omega) (fun z52 e52 f52 => ?_)
                            show EvP _ _ _ (159, [(5, .int z52), (4, .int v9_5), (6, .int 1), (0, .ref 164), (1, .int x1), (2, .int x2), (3, .int x3)], [], h) _
                            refine te_goto rfl ?_
                            refine te_lv [(0, .ref 164), (1, .int x1), (2, .int x2), (3, .int x3), (4, .int v9_5), (5, .int z52)] rfl rfl ⟨rfl, rfl, rfl, rfl, rfl, rfl, trivial⟩ ?_
                            exact ih9 v9_5 z52 (by omega) (by omega) (by omega) (by omega) (by omega) ((own_step (by omega) e52 (by (have t0_ := congrArg Int32.toInt (vr_of (c := 178) (by omega) e15)); (have t1_ := congrArg Int32.toInt (vr_of (c := 180) (by omega) e41)); (have t2_ := congrArg Int32.toInt (vr_of (c := 181) (by omega) e19)); (have t3_ := congrArg Int32.toInt (vr_of (c := 182) (by omega) e23)); (have t4_ := congrArg Int32.toInt (vr_of (c := 180) (by omega) e49)); exact (if_pos (by omega)).symm)).trans w9_0) (by omega)
        refine te_lv [(0, .ref 164), (1, .int x1), (2, .int x2), (3, .int x3), (4, .int (-1)), (5, .int 0)] rfl rfl ⟨rfl, rfl, rfl, rfl, rfl, rfl, trivial⟩ ?_
        exact lp9 25 (-1) 0 (by decide) (by decide) (by decide) (by decide) (by have cc0 := (show Int32.toInt (-1) = (-1) from rfl); have cc1 := (show Int32.toInt 0 = 0 from rfl); omega) rfl (by have cc0 := (show Int32.toInt (-1) = (-1) from rfl); have cc1 := (show Int32.toInt 0 = 0 from rfl); omega)
      · subst w6
        have cc6_1 := (show Int32.toInt 0 = 0 from rfl)
        refine tz_ne (p2 := 39) rfl rfl (show Int32.toInt 0 = 0 from rfl) (fun c53 => absurd c53 (by omega)) (fun c53 => ?_)
        refine te_bipush (p2 := 41) (x := (-2)) rfl rfl (by decide) ?_
        obtain ⟨v54, e54, y54, w54, a54, b54, _⟩ := hI.2.1 148 35 (.inl (0, 24, 9999999999)) rfl
        subst w54
        exact te_iret rfl rfl ⟨hI, f0, _, rfl, y5, y54, e5, e54, (by unfold owT; rw [if_pos (by omega), if_neg (by omega)])⟩
    · subst w3
      have cc3_1 := (show Int32.toInt 0 = 0 from rfl)
      have cc3_2 := (show Int32.toInt 2000 = 2000 from rfl)
      refine tz_eq (p2 := 24) rfl rfl (show Int32.toInt 0 = 0 from rfl) (fun c55 => ?_) (fun c55 => absurd c55 (by omega))
      refine te_bipush (p2 := 41) (x := (-2)) rfl rfl (by decide) ?_
      obtain ⟨v56, e56, y56, w56, a56, b56, _⟩ := hI.2.1 149 (Int32.toInt 105).toNat (.inl ((-2147483648), 2147483647, 9999999999)) (tq_row rfl (by decide))
      subst w56
      obtain ⟨v57, e57, y57, w57, a57, b57, _⟩ := hI.2.1 148 35 (.inl (0, 24, 9999999999)) rfl
      subst w57
      exact te_iret rfl rfl ⟨hI, f0, _, rfl, y56, y57, e56, e57, (by unfold owT; rw [if_pos (by omega), if_neg (by omega)])⟩
  · subst w1
    have cc1_1 := (show Int32.toInt 0 = 0 from rfl)
    have cc1_2 := (show Int32.toInt 11 = 11 from rfl)
    refine tz_ne (p2 := 10) rfl rfl (show Int32.toInt 0 = 0 from rfl) (fun c58 => absurd c58 (by omega)) (fun c58 => ?_)
    refine te_bipush (p2 := 12) (x := (-5)) rfl rfl (by decide) ?_
    obtain ⟨v59, e59, y59, w59, a59, b59, _⟩ := hI.2.1 149 (Int32.toInt 105).toNat (.inl ((-2147483648), 2147483647, 9999999999)) (tq_row rfl (by decide))
    subst w59
    obtain ⟨v60, e60, y60, w60, a60, b60, _⟩ := hI.2.1 148 35 (.inl (0, 24, 9999999999)) rfl
    subst w60
    exact te_iret rfl rfl ⟨hI, f0, _, rfl, y59, y60, e59, e60, (by unfold owT; rw [if_neg (by omega)])⟩
