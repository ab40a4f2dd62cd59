theorem inF1 {c a b i k : Nat} (h : c ≠ i) : inF [(c, a, b)] i k = false := by
  simp [inF, h]
def okS (s k n : Int32) : Prop := (0 ≤ s.toInt ∧ s.toInt ≤ 3) ∧ (k.toInt = -1 ∨ (0 ≤ k.toInt ∧ k.toInt ≤ 2 ∧ 0 ≤ n.toInt ∧ n.toInt ≤ 40))
set_option maxRecDepth 20000 in
set_option maxHeartbeats 4000000 in
theorem c_J7_fill {q : Nat} {v : Int32} {h : im_H} (hI : tI h) (q_q : q = 141 ∨ q = 143 ∨ q = 145 ∨ q = 147) : CaP 1 197 [.ref (16 + q), .int v] h (fun r h2 => tI h2 ∧ fr (F_J7_fill_53178 q) h h2 ∧ r = none ∧ ∀ k : Nat, k < 40 → rd h2 q k = some (.int v)) := by
  refine cap_of (d := 0) (M := mJ7_fill_53178) rfl (Nat.le_of_ble_eq_true rfl) ?_
  show EvP im_K0 0 mJ7_fill_53178 (0, [(0, .ref (16 + q)), (1, .int v)], [], h) _
  have f0 : fr (F_J7_fill_53178 q) h h := fr_rf
  refine te_iconst (p2 := 1) (x := 0) rfl rfl (by decide) ?_
  refine te_istore_n (p2 := 2) (lv2 := [(2, .int 0), (0, .ref (16 + q)), (1, .int v)]) rfl rfl (by decide) rfl ?_
  refine te_aload_n (p2 := 3) rfl rfl rfl ?_
  refine te_len (p2 := 4) (i := q) (n := 40) (t := 0) (Or.inl rfl) rfl rfl hI rfl (by rcases q_q with rfl | rfl | rfl | rfl <;> rfl) rfl ?_
  show EvP _ _ _ (4, [(2, .int 0), (0, .ref (16 + q)), (1, .int v)], [.int 40], h) _
  refine te_istore_n (p2 := 5) (lv2 := [(3, .int 40), (2, .int 0), (0, .ref (16 + q)), (1, .int v)]) rfl rfl (by decide) rfl ?_
  have lp1 : ∀ (n1 : Nat) (v1_2 : Int32) (h1 : im_H), tI h1 → fr (F_J7_fill_53178 q) h h1 → 0 ≤ v1_2.toInt → v1_2.toInt ≤ 40 → (∀ k : Nat, (k : Int) < v1_2.toInt → rd h1 q k = some (.int v)) → 40 - v1_2.toInt < (n1 : Int) → EvP im_K0 0 mJ7_fill_53178 (5, [(0, .ref (16 + q)), (1, .int v), (2, .int v1_2), (3, .int 40)], [], h1) (fun r h2 => tI h2 ∧ fr (F_J7_fill_53178 q) h h2 ∧ r = none ∧ ∀ k : Nat, k < 40 → rd h2 q k = some (.int v)) := by
    intro n1
    induction n1 with
    | zero => intro v1_2 h1 I1 f1 a1_2 b1_2 w1_0 m1; exfalso; omega
    | succ n1 ih1 =>
      intro v1_2 h1 I1 f1 a1_2 b1_2 w1_0 m1
      refine te_iload_n (p2 := 6) rfl rfl rfl ?_
      refine te_iload_n (p2 := 7) rfl rfl rfl ?_
      refine tb_ge (p2 := 10) rfl rfl rfl (show Int32.toInt 40 = 40 from rfl) (fun c2 => ?_) (fun c2 => ?_)
      · exact te_vret rfl rfl ⟨I1, f1, rfl, (fun k hk => w1_0 k (by omega))⟩
      · refine te_aload_n (p2 := 11) rfl rfl rfl ?_
        refine te_iload_n (p2 := 12) rfl rfl rfl ?_
        refine te_iload_n (p2 := 13) rfl rfl rfl ?_
        refine ts_i (p2 := 14) (i := q) (n := 40) rfl rfl I1 rfl (by rcases q_q with rfl | rfl | rfl | rfl <;> rfl) (by rcases q_q with rfl | rfl | rfl | rfl <;> rfl) rfl (by omega) (by omega) (i32_lo _) (i32_hi _) (i32_ho _) (by rcases q_q with rfl | rfl | rfl | rfl <;> rfl) (fun h3 I3 u3 => ?_)
        have f3 := fr_st (F := (F_J7_fill_53178 q)) 0 f1 u3 rfl (by omega) (by omega)
        refine ar_inc (p2 := 17) (x := v1_2) rfl rfl (by decide) rfl (by decide) rfl (by omega) (by omega) (fun z4 e4 f4 => ?_)
        show EvP _ _ _ (17, [(2, .int z4), (0, .ref (16 + q)), (1, .int v), (3, .int 40)], [], h3) _
        refine te_goto rfl ?_
        refine te_lv [(0, .ref (16 + q)), (1, .int v), (2, .int z4), (3, .int 40)] rfl rfl ⟨rfl, rfl, rfl, rfl, trivial⟩ ?_
        exact ih1 z4 h3 I3 f3 (by omega) (by omega) (fun k hk => by (by_cases hc : k = v1_2.toInt.toNat); (· rw [hc]; exact u3.1); (· exact (u3.2 _ _ (Or.inr hc)).trans (w1_0 k (by omega)))) (by have cc0 := (show Int32.toInt 40 = 40 from rfl); omega)
  refine te_lv [(0, .ref (16 + q)), (1, .int v), (2, .int 0), (3, .int 40)] rfl rfl ⟨rfl, rfl, rfl, rfl, trivial⟩ ?_
  exact lp1 41 0 h hI f0 (by decide) (by decide) (fun k hk => by exfalso; have := (show Int32.toInt 0 = 0 from rfl); omega) (by have cc0 := (show Int32.toInt 0 = 0 from rfl); have cc1 := (show Int32.toInt 40 = 40 from rfl); omega)
abbrev Q1_sheet (x1 x2 x3 : Int32) (y : Int32) (h h2 : im_H) : Prop := (okS x1 x2 x3 → rd h2 (140 + 2 * x1.toInt.toNat) 0 = some (.int x2)) ∧ (okS x1 x2 x3 → x2.toInt ≠ -1 → rd h2 (140 + 2 * x1.toInt.toNat) 1 = some (.int x3)) ∧ (∀ s b, s < 4 → (s ≠ x1.toInt.toNat ∨ ¬ okS x1 x2 x3) → rd h2 (140 + 2 * s) b = rd h (140 + 2 * s) b) ∧ (okS x1 x2 x3 → x2.toInt ≠ -1 → ∀ i : Nat, i < 40 → rd h2 (141 + 2 * x1.toInt.toNat) i = some (.int 0)) ∧ (∀ s b, s < 4 → (s ≠ x1.toInt.toNat ∨ ¬ okS x1 x2 x3) → rd h2 (141 + 2 * s) b = rd h (141 + 2 * s) b)
set_option maxRecDepth 20000 in
set_option maxHeartbeats 4000000 in
theorem c_X11_sheet {x1 : Int32} {x2 : Int32} {x3 : Int32} {h : im_H} (hI : tI h)  : CaP 3 104 [.ref 16, .int x1, .int x2, .int x3] h (fun v h2 => tI h2 ∧ fr F_X11_sheet h h2 ∧ ∃ y : Int32, v = some (.int y) ∧ Q1_sheet x1 x2 x3 y h h2) := by
  refine cap_of (d := 2) (M := mX11_sheet) rfl (Nat.le_of_ble_eq_true rfl) ?_
  show EvP im_K0 2 mX11_sheet (0, [(0, .ref 16), (1, .int x1), (2, .int x2), (3, .int x3)], [], h) _
  have f0 : fr F_X11_sheet h h := fr_rf
  refine te_iload_n (p2 := 1) rfl rfl rfl ?_
  refine te_iconst (p2 := 2) (x := 4) rfl rfl (by decide) ?_
  refine cS_pI (p2 := 5) rfl rfl rfl rfl (t_X11_within (n := x1) (b := 4) hI ) (by decide) (fun y1 r1 => ?_)
  rcases r1 with ⟨w1, c1⟩ | ⟨w1, c1⟩
  · subst w1
    have cc1_1 := (show Int32.toInt 4 = 4 from rfl)
    refine tz_ne (p2 := 8) rfl rfl (show Int32.toInt 1 = 1 from rfl) (fun c2 => ?_) (fun c2 => absurd c2 (by omega))
    refine te_iload_n (p2 := 12) rfl rfl rfl ?_
    refine te_iconst (p2 := 13) (x := (-1)) rfl rfl (by decide) ?_
    refine tb_ne (p2 := 16) rfl rfl rfl (show Int32.toInt (-1) = (-1) from rfl) (fun c3 => ?_) (fun c3 => ?_)
    · refine te_iload_n (p2 := 29) rfl rfl rfl ?_
      refine te_iconst (p2 := 30) (x := 3) rfl rfl (by decide) ?_
      refine cS_pI (p2 := 33) rfl rfl rfl rfl (t_X11_within (n := x2) (b := 3) hI ) (by decide) (fun y4 r4 => ?_)
      rcases r4 with ⟨w4, c4⟩ | ⟨w4, c4⟩
      · subst w4
        have cc4_1 := (show Int32.toInt 3 = 3 from rfl)
        refine tz_eq (p2 := 36) rfl rfl (show Int32.toInt 1 = 1 from rfl) (fun c5 => absurd c5 (by omega)) (fun c5 => ?_)
        refine te_iload_n (p2 := 37) rfl rfl rfl ?_
        refine te_bipush (p2 := 39) (x := 40) rfl rfl (by decide) ?_
        refine tb_le (p2 := 42) rfl rfl rfl (show Int32.toInt 40 = 40 from rfl) (fun c6 => ?_) (fun c6 => ?_)
        · refine te_iload_n (p2 := 46) rfl rfl rfl ?_
          refine tz_ge (p2 := 49) rfl rfl rfl (fun c7 => ?_) (fun c7 => ?_)
          · refine te_aload_n (p2 := 53) rfl rfl rfl ?_
            refine tg_r (p2 := 56) (i := 0) (r := 113) rfl rfl hI rfl rfl rfl ?_
            refine te_iload_n (p2 := 57) rfl rfl rfl ?_
            refine tl_f (p2 := 58) (i := 97) (n := 4) (c0 := 140) (sp := 2) rfl rfl hI rfl rfl (by decide) rq_97 (by omega) (by omega) (fun o8 w8 => ?_)
            have q8 : o8 = 140 ∨ o8 = 142 ∨ o8 = 144 ∨ o8 = 146 := by omega
            refine te_iload_n (p2 := 59) rfl rfl rfl ?_
            refine tp_i (p2 := 62) (i := o8) rfl rfl hI rfl (by rcases q8 with rfl | rfl | rfl | rfl <;> rfl) (by decide) rfl rfl (by rcases q8 with rfl | rfl | rfl | rfl <;> rfl) (by omega) (by omega) (by omega) (by rcases q8 with rfl | rfl | rfl | rfl <;> rfl) (fun h9 I9 u9 => ?_)
            have f9 := fr_up (F := F_X11_sheet) (a := 0) (b := 1) f0 u9 (by rcases q8 with rfl | rfl | rfl | rfl <;> decide) (by decide) (by decide)
            refine te_aload_n (p2 := 63) rfl rfl rfl ?_
            refine tg_r (p2 := 66) (i := 0) (r := 113) rfl rfl I9 rfl rfl rfl ?_
            refine te_iload_n (p2 := 67) rfl rfl rfl ?_
            refine tl_f (p2 := 68) (i := 97) (n := 4) (c0 := 140) (sp := 2) rfl rfl I9 rfl rfl (by decide) rq_97 (by omega) (by omega) (fun o10 w10 => ?_)
            have q10 : o10 = 140 ∨ o10 = 142 ∨ o10 = 144 ∨ o10 = 146 := by omega
            refine te_iload_n (p2 := 69) rfl rfl rfl ?_
            refine tp_i (p2 := 72) (i := o10) rfl rfl I9 rfl (by rcases q10 with rfl | rfl | rfl | rfl <;> rfl) (by decide) rfl rfl (by rcases q10 with rfl | rfl | rfl | rfl <;> rfl) (by omega) (by omega) (by omega) (by rcases q10 with rfl | rfl | rfl | rfl <;> rfl) (fun h11 I11 u11 => ?_)
            have f11 := fr_up (F := F_X11_sheet) (a := 0) (b := 1) f9 u11 (by rcases q10 with rfl | rfl | rfl | rfl <;> decide) (by decide) (by decide)
            refine te_aload_n (p2 := 73) rfl rfl rfl ?_
            refine tg_r (p2 := 76) (i := 0) (r := 113) rfl rfl I11 rfl rfl rfl ?_
            refine te_iload_n (p2 := 77) rfl rfl rfl ?_
            refine tl_f (p2 := 78) (i := 97) (n := 4) (c0 := 140) (sp := 2) rfl rfl I11 rfl rfl (by decide) rq_97 (by omega) (by omega) (fun o12 w12 => ?_)
            have q12 : o12 = 140 ∨ o12 = 142 ∨ o12 = 144 ∨ o12 = 146 := by omega
            refine tg_r (p2 := 81) (i := o12) (r := (16 + (o12 + 1))) rfl rfl I11 rfl (by rcases q12 with rfl | rfl | rfl | rfl <;> rfl) (by rcases q12 with rfl | rfl | rfl | rfl <;> rfl) ?_
            refine te_iconst (p2 := 82) (x := 0) rfl rfl (by decide) ?_
            refine tc_S (p2 := 85) rfl rfl rfl rfl (c_J7_fill (q := (o12 + 1)) (v := 0) I11 (by omega)) (by decide) (fun v13 h13 hq13 => ?_)
            obtain ⟨I13, g13, w13, Z13⟩ := hq13
            subst w13
            have f13 := fr_tr (F1 := (F_J7_fill_53178 (o12 + 1))) (F := F_X11_sheet) f11 g13 (by rcases q12 with rfl | rfl | rfl | rfl <;> decide)
            show EvP _ _ _ (85, [(0, .ref 16), (1, .int x1), (2, .int x2), (3, .int x3)], [], h13) _
            refine te_iconst (p2 := 86) (x := 1) rfl rfl (by decide) ?_
            exact te_iret rfl rfl ⟨I13, f13, _, rfl, (fun _ => by rw [← w8]; exact ((g13 _ _ (inF1 (by omega))).trans ((u11.2 _ _ (Or.inr (by decide))).trans u9.1))), (fun _ _ => by rw [← w10]; exact ((g13 _ _ (inF1 (by omega))).trans u11.1)), (fun s b hs hn => by (have hq : s ≠ x1.toInt.toNat := hn.resolve_right (fun hk => hk (by unfold okS; omega))); exact ((g13 _ _ (inF1 (by omega))).trans ((u11.2 _ _ (Or.inl (by omega))).trans (u9.2 _ _ (Or.inl (by omega)))))), (fun _ _ i hi => by rw [show 141 + 2 * x1.toInt.toNat = (o12 + 1) by omega]; exact Z13 i hi), (fun s b hs hn => by (have hq : s ≠ x1.toInt.toNat := hn.resolve_right (fun hk => hk (by unfold okS; omega))); exact ((g13 _ _ (inF1 (by omega))).trans ((u11.2 _ _ (Or.inl (by omega))).trans (u9.2 _ _ (Or.inl (by omega))))))⟩
          · refine te_bipush (p2 := 51) (x := (-14)) rfl rfl (by decide) ?_
            exact te_iret rfl rfl ⟨hI, f0, _, rfl, (fun ho => absurd ho (by unfold okS; omega)), (fun ho => absurd ho (by unfold okS; omega)), (fun s b hs hn => rfl), (fun ho => absurd ho (by unfold okS; omega)), (fun s b hs hn => rfl)⟩
        · refine te_bipush (p2 := 44) (x := (-2)) rfl rfl (by decide) ?_
          exact te_iret rfl rfl ⟨hI, f0, _, rfl, (fun ho => absurd ho (by unfold okS; omega)), (fun ho => absurd ho (by unfold okS; omega)), (fun s b hs hn => rfl), (fun ho => absurd ho (by unfold okS; omega)), (fun s b hs hn => rfl)⟩
      · subst w4
        have cc4_1 := (show Int32.toInt 3 = 3 from rfl)
        refine tz_eq (p2 := 36) rfl rfl (show Int32.toInt 0 = 0 from rfl) (fun c14 => ?_) (fun c14 => absurd c14 (by omega))
        refine te_bipush (p2 := 44) (x := (-2)) rfl rfl (by decide) ?_
        exact te_iret rfl rfl ⟨hI, f0, _, rfl, (fun ho => absurd ho (by unfold okS; omega)), (fun ho => absurd ho (by unfold okS; omega)), (fun s b hs hn => rfl), (fun ho => absurd ho (by unfold okS; omega)), (fun s b hs hn => rfl)⟩
    · refine te_aload_n (p2 := 17) rfl rfl rfl ?_
      refine tg_r (p2 := 20) (i := 0) (r := 113) rfl rfl hI rfl rfl rfl ?_
      refine te_iload_n (p2 := 21) rfl rfl rfl ?_
      refine tl_f (p2 := 22) (i := 97) (n := 4) (c0 := 140) (sp := 2) rfl rfl hI rfl rfl (by decide) rq_97 (by omega) (by omega) (fun o15 w15 => ?_)
      have q15 : o15 = 140 ∨ o15 = 142 ∨ o15 = 144 ∨ o15 = 146 := by omega
      refine te_iconst (p2 := 23) (x := (-1)) rfl rfl (by decide) ?_
      refine tp_i (p2 := 26) (i := o15) rfl rfl hI rfl (by rcases q15 with rfl | rfl | rfl | rfl <;> rfl) (by decide) rfl rfl (by rcases q15 with rfl | rfl | rfl | rfl <;> rfl) (by decide) (by decide) (by decide) (by rcases q15 with rfl | rfl | rfl | rfl <;> rfl) (fun h16 I16 u16 => ?_)
      have f16 := fr_up (F := F_X11_sheet) (a := 0) (b := 1) f0 u16 (by rcases q15 with rfl | rfl | rfl | rfl <;> decide) (by decide) (by decide)
      refine te_iconst (p2 := 27) (x := 1) rfl rfl (by decide) ?_
      exact te_iret rfl rfl ⟨I16, f16, _, rfl, (fun _ => by rw [← w15, (i32_ext (by have cm := (show Int32.toInt (-1) = -1 from rfl); omega) : x2 = -1)]; exact u16.1), (fun _ hm => absurd (by omega) hm), (fun s b hs hn => by (have hq : s ≠ x1.toInt.toNat := hn.resolve_right (fun hk => hk (by unfold okS; omega))); exact (u16.2 _ _ (Or.inl (by omega)))), (fun _ hm => absurd (by omega) hm), (fun s b hs hn => by (have hq : s ≠ x1.toInt.toNat := hn.resolve_right (fun hk => hk (by unfold okS; omega))); exact (u16.2 _ _ (Or.inl (by omega))))⟩
  · subst w1
    have cc1_1 := (show Int32.toInt 4 = 4 from rfl)
    refine tz_ne (p2 := 8) rfl rfl (show Int32.toInt 0 = 0 from rfl) (fun c17 => absurd c17 (by omega)) (fun c17 => ?_)
    refine te_bipush (p2 := 10) (x := (-2)) rfl rfl (by decide) ?_
    exact te_iret rfl rfl ⟨hI, f0, _, rfl, (fun ho => absurd ho (by unfold okS; omega)), (fun ho => absurd ho (by unfold okS; omega)), (fun s b hs hn => rfl), (fun ho => absurd ho (by unfold okS; omega)), (fun s b hs hn => rfl)⟩
abbrev Q2_sheet (x1 x2 x3 : Int32) (y : Int32) (h h2 : im_H) : Prop := (okS x1 x2 x3 → rd h2 192 x1.toInt.toNat = some (.int x2)) ∧ (okS x1 x2 x3 → x2.toInt ≠ -1 → rd h2 193 x1.toInt.toNat = some (.int x3)) ∧ (∀ s, s < 4 → (s ≠ x1.toInt.toNat ∨ ¬ okS x1 x2 x3) → rd h2 192 s = rd h 192 s ∧ rd h2 193 s = rd h 193 s) ∧ (okS x1 x2 x3 → ∀ i : Nat, i < 40 → rd h2 194 (40 * x1.toInt.toNat + i) = some (.int 0)) ∧ (∀ s i, s < 4 → i < 40 → (s ≠ x1.toInt.toNat ∨ ¬ okS x1 x2 x3) → rd h2 194 (40 * s + i) = rd h 194 (40 * s + i))
set_option maxRecDepth 20000 in
set_option maxHeartbeats 4000000 in
theorem c_X12_sheet {x1 : Int32} {x2 : Int32} {x3 : Int32} {h : im_H} (hI : tI h)  : CaP 2 191 [.ref 164, .int x1, .int x2, .int x3] h (fun v h2 => tI h2 ∧ fr F_X12_sheet h h2 ∧ ∃ y : Int32, v = some (.int y) ∧ Q2_sheet x1 x2 x3 y h h2) := by
  refine cap_of (d := 1) (M := mX12_sheet) rfl (Nat.le_of_ble_eq_true rfl) ?_
  show EvP im_K0 1 mX12_sheet (0, [(0, .ref 164), (1, .int x1), (2, .int x2), (3, .int x3)], [], h) _
  have f0 : fr F_X12_sheet h h := fr_rf
  refine te_iload_n (p2 := 1) rfl rfl rfl ?_
  refine te_iconst (p2 := 2) (x := 0) rfl rfl (by decide) ?_
  refine te_iconst (p2 := 3) (x := 3) rfl rfl (by decide) ?_
  refine cS_pI (p2 := 6) rfl rfl rfl rfl (t_X12_in (n := x1) (a := 0) (b := 3) hI ) (by decide) (fun y1 r1 => ?_)
  rcases r1 with ⟨w1, c1⟩ | ⟨w1, c1⟩
  · subst w1
    have cc1_1 := (show Int32.toInt 0 = 0 from rfl)
    have cc1_2 := (show Int32.toInt 3 = 3 from rfl)
    refine tz_eq (p2 := 9) rfl rfl (show Int32.toInt 1 = 1 from rfl) (fun c2 => absurd c2 (by omega)) (fun c2 => ?_)
    refine te_iload_n (p2 := 10) rfl rfl rfl ?_
    refine te_iconst (p2 := 11) (x := (-1)) rfl rfl (by decide) ?_
    refine te_iconst (p2 := 12) (x := 2) rfl rfl (by decide) ?_
    refine cS_pI (p2 := 15) rfl rfl rfl rfl (t_X12_in (n := x2) (a := (-1)) (b := 2) hI ) (by decide) (fun y3 r3 => ?_)
    rcases r3 with ⟨w3, c3⟩ | ⟨w3, c3⟩
    · subst w3
      have cc3_1 := (show Int32.toInt (-1) = (-1) from rfl)
      have cc3_2 := (show Int32.toInt 2 = 2 from rfl)
      refine tz_eq (p2 := 18) rfl rfl (show Int32.toInt 1 = 1 from rfl) (fun c4 => absurd c4 (by omega)) (fun c4 => ?_)
      refine te_iload_n (p2 := 19) rfl rfl rfl ?_
      refine te_iconst (p2 := 20) (x := (-1)) rfl rfl (by decide) ?_
      refine tb_eq (p2 := 23) rfl rfl rfl (show Int32.toInt (-1) = (-1) from rfl) (fun c5 => ?_) (fun c5 => ?_)
      · refine te_iload_n (p2 := 33) rfl rfl rfl ?_
        refine te_iconst (p2 := 34) (x := (-1)) rfl rfl (by decide) ?_
        refine tb_eq (p2 := 37) rfl rfl rfl (show Int32.toInt (-1) = (-1) from rfl) (fun c6 => ?_) (fun c6 => absurd c6 (by omega))
        refine te_aload_n (p2 := 45) rfl rfl rfl ?_
        refine tg_r (p2 := 48) (i := 148) (r := 208) rfl rfl hI rfl rfl rfl ?_
        refine te_iload_n (p2 := 49) rfl rfl rfl ?_
        refine te_iload_n (p2 := 50) rfl rfl rfl ?_
        refine ts_i (p2 := 51) (i := 192) (n := 4) rfl rfl hI rfl rfl rfl rfl (by omega) (by omega) (by omega) (by omega) (by omega) rfl (fun h7 I7 u7 => ?_)
        have f7 := fr_st (F := F_X12_sheet) 0 f0 u7 rfl (by omega) (by omega)
        refine te_aload_n (p2 := 52) rfl rfl rfl ?_
        refine tg_r (p2 := 55) (i := 148) (r := 209) rfl rfl I7 rfl rfl rfl ?_
        refine te_iload_n (p2 := 56) rfl rfl rfl ?_
        refine te_iload_n (p2 := 57) rfl rfl rfl ?_
        refine te_iconst (p2 := 58) (x := (-1)) rfl rfl (by decide) ?_
        refine tb_ne (p2 := 61) rfl rfl rfl (show Int32.toInt (-1) = (-1) from rfl) (fun c8 => absurd c8 (by omega)) (fun c8 => ?_)
        refine te_iconst (p2 := 62) (x := 0) rfl rfl (by decide) ?_
        refine te_goto rfl ?_
        refine ts_i (p2 := 67) (i := 193) (n := 4) rfl rfl I7 rfl rfl rfl rfl (by omega) (by omega) (by decide) (by decide) (by decide) rfl (fun h9 I9 u9 => ?_)
        have f9 := fr_st (F := F_X12_sheet) 1 f7 u9 rfl (by omega) (by omega)
        refine te_iconst (p2 := 68) (x := 0) rfl rfl (by decide) ?_
        refine te_istore (p2 := 70) (lv2 := [(4, .int 0), (0, .ref 164), (1, .int x1), (2, .int x2), (3, .int x3)]) rfl rfl (by decide) rfl ?_
        have lp10 : ∀ (n10 : Nat) (v10_4 : Int32) (h10 : im_H), tI h10 → fr F_X12_sheet h h10 → 0 ≤ v10_4.toInt → v10_4.toInt ≤ 40 → (∀ s, rd h10 192 s = rd h9 192 s ∧ rd h10 193 s = rd h9 193 s) → (∀ i : Nat, (i : Int) < v10_4.toInt → rd h10 194 (40 * x1.toInt.toNat + i) = some (.int 0)) → (∀ i : Nat, (i < 40 * x1.toInt.toNat ∨ 40 * x1.toInt.toNat + 40 ≤ i) → rd h10 194 i = rd h9 194 i) → 40 - v10_4.toInt < (n10 : Int) → EvP im_K0 1 mX12_sheet (70, [(0, .ref 164), (1, .int x1), (2, .int x2), (3, .int x3), (4, .int v10_4)], [], h10) (fun v h2 => tI h2 ∧ fr F_X12_sheet h h2 ∧ ∃ y : Int32, v = some (.int y) ∧ Q2_sheet x1 x2 x3 y h h2) := by
          intro n10
          induction n10 with
          | zero => intro v10_4 h10 I10 f10 a10_4 b10_4 w10_0 w10_1 w10_2 m10; exfalso; omega
          | succ n10 ih10 =>
            intro v10_4 h10 I10 f10 a10_4 b10_4 w10_0 w10_1 w10_2 m10
            refine te_iload (p2 := 72) rfl rfl rfl ?_
            refine te_bipush (p2 := 74) (x := 40) rfl rfl (by decide) ?_
            refine tb_ge (p2 := 77) rfl rfl rfl (show Int32.toInt 40 = 40 from rfl) (fun c11 => ?_) (fun c11 => ?_)
            · refine te_iconst (p2 := 97) (x := 1) rfl rfl (by decide) ?_
              exact te_iret rfl rfl ⟨I10, f10, _, rfl, (fun _ => (w10_0 x1.toInt.toNat).1.trans ((u9.2 _ _ (Or.inl (by decide))).trans u7.1)), (fun _ hm => absurd (by omega) hm), (fun s hs hn => by (have hq : s ≠ x1.toInt.toNat := hn.resolve_right (fun hk => hk (by unfold okS; omega))); exact ⟨(w10_0 s).1.trans ((u9.2 _ _ (Or.inl (by decide))).trans (u7.2 _ _ (Or.inr hq))), (w10_0 s).2.trans ((u9.2 _ _ (Or.inr hq)).trans (u7.2 _ _ (Or.inl (by decide))))⟩), (fun _ i hi => w10_1 i (by omega)), (fun s i hs hi hn => by (have hq : s ≠ x1.toInt.toNat := hn.resolve_right (fun hk => hk (by unfold okS; omega))); exact (w10_2 _ (by omega)).trans ((u9.2 _ _ (Or.inl (by decide))).trans (u7.2 _ _ (Or.inl (by decide)))))⟩
            · refine te_aload_n (p2 := 78) rfl rfl rfl ?_
              refine tg_r (p2 := 81) (i := 148) (r := 210) rfl rfl I10 rfl rfl rfl ?_
              refine te_bipush (p2 := 83) (x := 40) rfl rfl (by decide) ?_
              refine te_iload_n (p2 := 84) rfl rfl rfl ?_
              refine ar_mul (p2 := 85) rfl rfl (show Int32.toInt 40 = 40 from rfl) rfl (by omega) (by omega) (fun z12 e12 f12 => ?_)
              refine te_iload (p2 := 87) rfl rfl rfl ?_
              refine ar_add (p2 := 88) rfl rfl rfl rfl (by omega) (by omega) (fun z13 e13 f13 => ?_)
              refine te_iconst (p2 := 89) (x := 0) rfl rfl (by decide) ?_
              refine ts_i (p2 := 90) (i := 194) (n := 160) rfl rfl I10 rfl rfl rfl rfl (by omega) (by omega) (i32_lo _) (i32_hi _) (i32_ho _) rfl (fun h14 I14 u14 => ?_)
              have f14 := fr_st (F := F_X12_sheet) 2 f10 u14 rfl (by omega) (by omega)
              refine ar_inc (p2 := 93) (x := v10_4) rfl rfl (by decide) rfl (by decide) rfl (by omega) (by omega) (fun z15 e15 f15 => ?_)
              show EvP _ _ _ (93, [(4, .int z15), (0, .ref 164), (1, .int x1), (2, .int x2), (3, .int x3)], [], h14) _
              refine te_goto rfl ?_
              refine te_lv [(0, .ref 164), (1, .int x1), (2, .int x2), (3, .int x3), (4, .int z15)] rfl rfl ⟨rfl, rfl, rfl, rfl, rfl, trivial⟩ ?_
              exact ih10 z15 h14 I14 f14 (by omega) (by omega) (fun s => ⟨(u14.2 _ _ (Or.inl (by decide))).trans (w10_0 s).1, (u14.2 _ _ (Or.inl (by decide))).trans (w10_0 s).2⟩) (fun i hi => by (by_cases hc : 40 * x1.toInt.toNat + i = z13.toInt.toNat); (· rw [hc]; exact u14.1); (· exact (u14.2 _ _ (Or.inr hc)).trans (w10_1 i (by omega)))) (fun i hi => (u14.2 _ _ (Or.inr (by omega))).trans (w10_2 i hi)) (by omega)
        refine te_lv [(0, .ref 164), (1, .int x1), (2, .int x2), (3, .int x3), (4, .int 0)] rfl rfl ⟨rfl, rfl, rfl, rfl, rfl, trivial⟩ ?_
        exact lp10 41 0 h9 I9 f9 (by decide) (by decide) (fun s => ⟨rfl, rfl⟩) (fun i hi => by exfalso; have := (show Int32.toInt 0 = 0 from rfl); omega) (fun i hi => rfl) (by have cc0 := (show Int32.toInt 0 = 0 from rfl); omega)
      · refine te_iload_n (p2 := 24) rfl rfl rfl ?_
        refine te_bipush (p2 := 26) (x := 40) rfl rfl (by decide) ?_
        refine tb_le (p2 := 29) rfl rfl rfl (show Int32.toInt 40 = 40 from rfl) (fun c16 => ?_) (fun c16 => ?_)
        · refine te_iload_n (p2 := 33) rfl rfl rfl ?_
          refine te_iconst (p2 := 34) (x := (-1)) rfl rfl (by decide) ?_
          refine tb_eq (p2 := 37) rfl rfl rfl (show Int32.toInt (-1) = (-1) from rfl) (fun c17 => absurd c17 (by omega)) (fun c17 => ?_)
          refine te_iload_n (p2 := 38) rfl rfl rfl ?_
          refine tz_ge (p2 := 41) rfl rfl rfl (fun c18 => ?_) (fun c18 => ?_)
          · refine te_aload_n (p2 := 45) rfl rfl rfl ?_
            refine tg_r (p2 := 48) (i := 148) (r := 208) rfl rfl hI rfl rfl rfl ?_
            refine te_iload_n (p2 := 49) rfl rfl rfl ?_
            refine te_iload_n (p2 := 50) rfl rfl rfl ?_
            refine ts_i (p2 := 51) (i := 192) (n := 4) rfl rfl hI rfl rfl rfl rfl (by omega) (by omega) (by omega) (by omega) (by omega) rfl (fun h19 I19 u19 => ?_)
            have f19 := fr_st (F := F_X12_sheet) 0 f0 u19 rfl (by omega) (by omega)
            refine te_aload_n (p2 := 52) rfl rfl rfl ?_
            refine tg_r (p2 := 55) (i := 148) (r := 209) rfl rfl I19 rfl rfl rfl ?_
            refine te_iload_n (p2 := 56) rfl rfl rfl ?_
            refine te_iload_n (p2 := 57) rfl rfl rfl ?_
            refine te_iconst (p2 := 58) (x := (-1)) rfl rfl (by decide) ?_
            refine tb_ne (p2 := 61) rfl rfl rfl (show Int32.toInt (-1) = (-1) from rfl) (fun c20 => ?_) (fun c20 => absurd c20 (by omega))
            refine te_iload_n (p2 := 66) rfl rfl rfl ?_
            refine ts_i (p2 := 67) (i := 193) (n := 4) rfl rfl I19 rfl rfl rfl rfl (by omega) (by omega) (by omega) (by omega) (by omega) rfl (fun h21 I21 u21 => ?_)
            have f21 := fr_st (F := F_X12_sheet) 1 f19 u21 rfl (by omega) (by omega)
            refine te_iconst (p2 := 68) (x := 0) rfl rfl (by decide) ?_
            refine te_istore (p2 := 70) (lv2 := [(4, .int 0), (0, .ref 164), (1, .int x1), (2, .int x2), (3, .int x3)]) rfl rfl (by decide) rfl ?_
            have lp22 : ∀ (n22 : Nat) (v22_4 : Int32) (h22 : im_H), tI h22 → fr F_X12_sheet h h22 → 0 ≤ v22_4.toInt → v22_4.toInt ≤ 40 → (∀ s, rd h22 192 s = rd h21 192 s ∧ rd h22 193 s = rd h21 193 s) → (∀ i : Nat, (i : Int) < v22_4.toInt → rd h22 194 (40 * x1.toInt.toNat + i) = some (.int 0)) → (∀ i : Nat, (i < 40 * x1.toInt.toNat ∨ 40 * x1.toInt.toNat + 40 ≤ i) → rd h22 194 i = rd h21 194 i) → 40 - v22_4.toInt < (n22 : Int) → EvP im_K0 1 mX12_sheet (70, [(0, .ref 164), (1, .int x1), (2, .int x2), (3, .int x3), (4, .int v22_4)], [], h22) (fun v h2 => tI h2 ∧ fr F_X12_sheet h h2 ∧ ∃ y : Int32, v = some (.int y) ∧ Q2_sheet x1 x2 x3 y h h2) := by
              intro n22
              induction n22 with
              | zero => intro v22_4 h22 I22 f22 a22_4 b22_4 w22_0 w22_1 w22_2 m22; exfalso; omega
              | succ n22 ih22 =>
                intro v22_4 h22 I22 f22 a22_4 b22_4 w22_0 w22_1 w22_2 m22
                refine te_iload (p2 := 72) rfl rfl rfl ?_
                refine te_bipush (p2 := 74) (x := 40) rfl rfl (by decide) ?_
                refine tb_ge (p2 := 77) rfl rfl rfl (show Int32.toInt 40 = 40 from rfl) (fun c23 => ?_) (fun c23 => ?_)
                · refine te_iconst (p2 := 97) (x := 1) rfl rfl (by decide) ?_
                  exact te_iret rfl rfl ⟨I22, f22, _, rfl, (fun _ => (w22_0 x1.toInt.toNat).1.trans ((u21.2 _ _ (Or.inl (by decide))).trans u19.1)), (fun _ hm => (w22_0 x1.toInt.toNat).2.trans u21.1), (fun s hs hn => by (have hq : s ≠ x1.toInt.toNat := hn.resolve_right (fun hk => hk (by unfold okS; omega))); exact ⟨(w22_0 s).1.trans ((u21.2 _ _ (Or.inl (by decide))).trans (u19.2 _ _ (Or.inr hq))), (w22_0 s).2.trans ((u21.2 _ _ (Or.inr hq)).trans (u19.2 _ _ (Or.inl (by decide))))⟩), (fun _ i hi => w22_1 i (by omega)), (fun s i hs hi hn => by (have hq : s ≠ x1.toInt.toNat := hn.resolve_right (fun hk => hk (by unfold okS; omega))); exact (w22_2 _ (by omega)).trans ((u21.2 _ _ (Or.inl (by decide))).trans (u19.2 _ _ (Or.inl (by decide)))))⟩
                · refine te_aload_n (p2 := 78) rfl rfl rfl ?_
                  refine tg_r (p2 := 81) (i := 148) (r := 210) rfl rfl I22 rfl rfl rfl ?_
                  refine te_bipush (p2 := 83) (x := 40) rfl rfl (by decide) ?_
                  refine te_iload_n (p2 := 84) rfl rfl rfl ?_
                  refine ar_mul (p2 := 85) rfl rfl (show Int32.toInt 40 = 40 from rfl) rfl (by omega) (by omega) (fun z24 e24 f24 => ?_)
                  refine te_iload (p2 := 87) rfl rfl rfl ?_
                  refine ar_add (p2 := 88) rfl rfl rfl rfl (by omega) (by omega) (fun z25 e25 f25 => ?_)
                  refine te_iconst (p2 := 89) (x := 0) rfl rfl (by decide) ?_
                  refine ts_i (p2 := 90) (i := 194) (n := 160) rfl rfl I22 rfl rfl rfl rfl (by omega) (by omega) (i32_lo _) (i32_hi _) (i32_ho _) rfl (fun h26 I26 u26 => ?_)
                  have f26 := fr_st (F := F_X12_sheet) 2 f22 u26 rfl (by omega) (by omega)
                  refine ar_inc (p2 := 93) (x := v22_4) rfl rfl (by decide) rfl (by decide) rfl (by omega) (by omega) (fun z27 e27 f27 => ?_)
                  show EvP _ _ _ (93, [(4, .int z27), (0, .ref 164), (1, .int x1), (2, .int x2), (3, .int x3)], [], h26) _
                  refine te_goto rfl ?_
                  refine te_lv [(0, .ref 164), (1, .int x1), (2, .int x2), (3, .int x3), (4, .int z27)] rfl rfl ⟨rfl, rfl, rfl, rfl, rfl, trivial⟩ ?_
                  exact ih22 z27 h26 I26 f26 (by omega) (by omega) (fun s => ⟨(u26.2 _ _ (Or.inl (by decide))).trans (w22_0 s).1, (u26.2 _ _ (Or.inl (by decide))).trans (w22_0 s).2⟩) (fun i hi => by (by_cases hc : 40 * x1.toInt.toNat + i = z25.toInt.toNat); (· rw [hc]; exact u26.1); (· exact (u26.2 _ _ (Or.inr hc)).trans (w22_1 i (by omega)))) (fun i hi => (u26.2 _ _ (Or.inr (by omega))).trans (w22_2 i hi)) (by omega)
            refine te_lv [(0, .ref 164), (1, .int x1), (2, .int x2), (3, .int x3), (4, .int 0)] rfl rfl ⟨rfl, rfl, rfl, rfl, rfl, trivial⟩ ?_
            exact lp22 41 0 h21 I21 f21 (by decide) (by decide) (fun s => ⟨rfl, rfl⟩) (fun i hi => by exfalso; have := (show Int32.toInt 0 = 0 from rfl); omega) (fun i hi => rfl) (by have cc0 := (show Int32.toInt 0 = 0 from rfl); omega)
          · refine te_bipush (p2 := 43) (x := (-14)) rfl rfl (by decide) ?_
            exact te_iret rfl rfl ⟨hI, f0, _, rfl, (fun ho => absurd ho (by unfold okS; omega)), (fun ho => absurd ho (by unfold okS; omega)), (fun s hs hn => ⟨rfl, rfl⟩), (fun ho => absurd ho (by unfold okS; omega)), (fun s i hs hi hn => rfl)⟩
        · refine te_bipush (p2 := 31) (x := (-2)) rfl rfl (by decide) ?_
          exact te_iret rfl rfl ⟨hI, f0, _, rfl, (fun ho => absurd ho (by unfold okS; omega)), (fun ho => absurd ho (by unfold okS; omega)), (fun s hs hn => ⟨rfl, rfl⟩), (fun ho => absurd ho (by unfold okS; omega)), (fun s i hs hi hn => rfl)⟩
    · subst w3
      have cc3_1 := (show Int32.toInt (-1) = (-1) from rfl)
      have cc3_2 := (show Int32.toInt 2 = 2 from rfl)
      refine tz_eq (p2 := 18) rfl rfl (show Int32.toInt 0 = 0 from rfl) (fun c28 => ?_) (fun c28 => absurd c28 (by omega))
      refine te_bipush (p2 := 31) (x := (-2)) rfl rfl (by decide) ?_
      exact te_iret rfl rfl ⟨hI, f0, _, rfl, (fun ho => absurd ho (by unfold okS; omega)), (fun ho => absurd ho (by unfold okS; omega)), (fun s hs hn => ⟨rfl, rfl⟩), (fun ho => absurd ho (by unfold okS; omega)), (fun s i hs hi hn => rfl)⟩
  · subst w1
    have cc1_1 := (show Int32.toInt 0 = 0 from rfl)
    have cc1_2 := (show Int32.toInt 3 = 3 from rfl)
    refine tz_eq (p2 := 9) rfl rfl (show Int32.toInt 0 = 0 from rfl) (fun c29 => ?_) (fun c29 => absurd c29 (by omega))
    refine te_bipush (p2 := 31) (x := (-2)) rfl rfl (by decide) ?_
    exact te_iret rfl rfl ⟨hI, f0, _, rfl, (fun ho => absurd ho (by unfold okS; omega)), (fun ho => absurd ho (by unfold okS; omega)), (fun s hs hn => ⟨rfl, rfl⟩), (fun ho => absurd ho (by unfold okS; omega)), (fun s i hs hi hn => rfl)⟩
set_option maxRecDepth 20000 in
set_option maxHeartbeats 4000000 in
theorem c_X8_isMissing {s : Nat} {h : im_H} (hI : tI h) (q_s : s = 140 ∨ s = 142 ∨ s = 144 ∨ s = 146) : CaP 1 41 [.ref (16 + s)] h (pI h (fun y => ∃ q : Int32, rd h s 0 = some (.int q) ∧ ((y = 1 ∧ q.toInt = -1) ∨ (y = 0 ∧ ¬ q.toInt = -1)))) := by
  refine cap_of (d := 0) (M := mX8_isMissing) rfl (Nat.le_of_ble_eq_true rfl) ?_
  show EvP im_K0 0 mX8_isMissing (0, [(0, .ref (16 + s))], [], h) _
  refine te_aload_n (p2 := 1) rfl rfl rfl ?_
  refine tg_i (p2 := 4) (i := s) rfl rfl hI rfl (by rcases q_s with rfl | rfl | rfl | rfl <;> rfl) (by rcases q_s with rfl | rfl | rfl | rfl <;> rfl) (fun y1 a1 b1 e1 => ?_)
  refine te_iconst (p2 := 5) (x := (-1)) rfl rfl (by decide) ?_
  refine tb_ne (p2 := 8) rfl rfl rfl (show Int32.toInt (-1) = (-1) from rfl) (fun c2 => ?_) (fun c2 => ?_)
  · refine te_iconst (p2 := 13) (x := 0) rfl rfl (by decide) ?_
    exact te_zret rfl rfl (by decide) ⟨rfl, _, rfl, y1, e1, Or.inr ⟨rfl, by omega⟩⟩
  · refine te_iconst (p2 := 9) (x := 1) rfl rfl (by decide) ?_
    refine te_goto rfl ?_
    exact te_zret rfl rfl (by decide) ⟨rfl, _, rfl, y1, e1, Or.inl ⟨rfl, by omega⟩⟩
def clT (x2 q z : Int32) : Int32 := if q.toInt = -1 then -11 else if 0 ≤ x2.toInt ∧ x2.toInt < z.toInt then 1 else -12
def nrw (q x3 : Int32) : Int32 := (if q.toInt = 0 then Int8.toInt32 (Int32.toInt8 x3) else if q.toInt = 1 then Int16.toInt32 (Int32.toInt16 x3) else x3)
set_option maxRecDepth 20000 in
set_option maxHeartbeats 4000000 in
theorem c_X8_put {s : Nat} {i : Int32} {v : Int32} {h : im_H} (hI : tI h) (q_s : s = 140 ∨ s = 142 ∨ s = 144 ∨ s = 146) (p_i0 : 0 ≤ i.toInt) (p_i1 : i.toInt ≤ 39) : CaP 1 42 [.ref (16 + s), .int i, .int v] h (fun r h2 => tI h2 ∧ fr (F_X8_put s) h h2 ∧ r = none ∧ (∀ q : Int32, rd h s 0 = some (.int q) → rd h2 (s + 1) i.toInt.toNat = some (.int (nrw q v))) ∧ (∀ j k, (j ≠ s + 1 ∨ k ≠ i.toInt.toNat) → rd h2 j k = rd h j k)) := by
  refine cap_of (d := 0) (M := mX8_put) rfl (Nat.le_of_ble_eq_true rfl) ?_
  show EvP im_K0 0 mX8_put (0, [(0, .ref (16 + s)), (1, .int i), (2, .int v)], [], h) _
  have f0 : fr (F_X8_put s) h h := fr_rf
  refine te_aload_n (p2 := 1) rfl rfl rfl ?_
  refine tg_r (p2 := 4) (i := s) (r := (16 + (s + 1))) rfl rfl hI rfl (by rcases q_s with rfl | rfl | rfl | rfl <;> rfl) (by rcases q_s with rfl | rfl | rfl | rfl <;> rfl) ?_
  refine te_iload_n (p2 := 5) rfl rfl rfl ?_
  refine te_aload_n (p2 := 6) rfl rfl rfl ?_
  refine tg_i (p2 := 9) (i := s) rfl rfl hI rfl (by rcases q_s with rfl | rfl | rfl | rfl <;> rfl) (by rcases q_s with rfl | rfl | rfl | rfl <;> rfl) (fun y1 a1 b1 e1 => ?_)
  refine tz_ne (p2 := 12) rfl rfl rfl (fun c2 => ?_) (fun c2 => ?_)
  · refine te_aload_n (p2 := 18) rfl rfl rfl ?_
    refine tg_e (p2 := 21) (i := s) (v := .int y1) rfl rfl hI rfl (by rcases q_s with rfl | rfl | rfl | rfl <;> rfl) e1 ?_
    refine te_iconst (p2 := 22) (x := 1) rfl rfl (by decide) ?_
    refine tb_ne (p2 := 25) rfl rfl rfl (show Int32.toInt 1 = 1 from rfl) (fun c3 => ?_) (fun c3 => ?_)
    · refine te_iload_n (p2 := 31) rfl rfl rfl ?_
      refine ts_i (p2 := 32) (i := (s + 1)) (n := 40) rfl rfl hI rfl (by rcases q_s with rfl | rfl | rfl | rfl <;> rfl) (by rcases q_s with rfl | rfl | rfl | rfl <;> rfl) rfl (by omega) (by omega) (i32_lo _) (i32_hi _) (i32_ho _) (by rcases q_s with rfl | rfl | rfl | rfl <;> rfl) (fun h4 I4 u4 => ?_)
      have f4 := fr_st (F := (F_X8_put s)) 0 f0 u4 rfl (by omega) (by omega)
      exact te_vret rfl rfl ⟨I4, f4, rfl, (fun q hq => by (have e_ : q = y1 := int_inj hq e1); rw [e_]; exact u4.1.trans (congrArg (fun t => some (Value.int t)) (show v = nrw y1 v from by (unfold nrw; (repeat' split) <;> first | (exfalso; omega) | rfl | (subst_vars; rfl))))), (fun j k hk => u4.2 _ _ hk)⟩
    · refine te_iload_n (p2 := 26) rfl rfl rfl ?_
      obtain ⟨z5, e5⟩ : ∃ z, (Int16.toInt32 (Int32.toInt16 v)) = z := ⟨_, rfl⟩
      refine te_i2s (p2 := 27) rfl rfl e5 ?_
      refine te_goto rfl ?_
      refine ts_i (p2 := 32) (i := (s + 1)) (n := 40) rfl rfl hI rfl (by rcases q_s with rfl | rfl | rfl | rfl <;> rfl) (by rcases q_s with rfl | rfl | rfl | rfl <;> rfl) rfl (by omega) (by omega) (i32_lo _) (i32_hi _) (i32_ho _) (by rcases q_s with rfl | rfl | rfl | rfl <;> rfl) (fun h6 I6 u6 => ?_)
      have f6 := fr_st (F := (F_X8_put s)) 0 f0 u6 rfl (by omega) (by omega)
      exact te_vret rfl rfl ⟨I6, f6, rfl, (fun q hq => by (have e_ : q = y1 := int_inj hq e1); rw [e_]; exact u6.1.trans (congrArg (fun t => some (Value.int t)) (show z5 = nrw y1 v from by (unfold nrw; (repeat' split) <;> first | (exfalso; omega) | rfl | (subst_vars; rfl))))), (fun j k hk => u6.2 _ _ hk)⟩
  · refine te_iload_n (p2 := 13) rfl rfl rfl ?_
    obtain ⟨z7, e7⟩ : ∃ z, (Int8.toInt32 (Int32.toInt8 v)) = z := ⟨_, rfl⟩
    refine te_i2b (p2 := 14) rfl rfl e7 ?_
    refine te_goto rfl ?_
    refine ts_i (p2 := 32) (i := (s + 1)) (n := 40) rfl rfl hI rfl (by rcases q_s with rfl | rfl | rfl | rfl <;> rfl) (by rcases q_s with rfl | rfl | rfl | rfl <;> rfl) rfl (by omega) (by omega) (i32_lo _) (i32_hi _) (i32_ho _) (by rcases q_s with rfl | rfl | rfl | rfl <;> rfl) (fun h8 I8 u8 => ?_)
    have f8 := fr_st (F := (F_X8_put s)) 0 f0 u8 rfl (by omega) (by omega)
    exact te_vret rfl rfl ⟨I8, f8, rfl, (fun q hq => by (have e_ : q = y1 := int_inj hq e1); rw [e_]; exact u8.1.trans (congrArg (fun t => some (Value.int t)) (show z7 = nrw y1 v from by (unfold nrw; (repeat' split) <;> first | (exfalso; omega) | rfl | (subst_vars; rfl))))), (fun j k hk => u8.2 _ _ hk)⟩
abbrev Q1_cell (x1 x2 x3 : Int32) (y : Int32) (h h2 : im_H) : Prop := ((0 ≤ x1.toInt ∧ x1.toInt ≤ 3 ∧ ∃ q z : Int32, rd h (140 + 2 * x1.toInt.toNat) 0 = some (.int q) ∧ rd h (140 + 2 * x1.toInt.toNat) 1 = some (.int z) ∧ y = clT x2 q z) ∨ (¬ (0 ≤ x1.toInt ∧ x1.toInt ≤ 3) ∧ y = -2)) ∧ (y.toInt = 1 → 0 ≤ x2.toInt ∧ x2.toInt < 40 ∧ ∀ q : Int32, rd h (140 + 2 * x1.toInt.toNat) 0 = some (.int q) → rd h2 (141 + 2 * x1.toInt.toNat) x2.toInt.toNat = some (.int (nrw q x3))) ∧ (∀ s i, s < 4 → (s ≠ x1.toInt.toNat ∨ i ≠ x2.toInt.toNat ∨ y.toInt ≠ 1) → rd h2 (141 + 2 * s) i = rd h (141 + 2 * s) i)
set_option maxRecDepth 20000 in
set_option maxHeartbeats 4000000 in
theorem c_X11_cell {x1 : Int32} {x2 : Int32} {x3 : Int32} {h : im_H} (hI : tI h)  : CaP 3 105 [.ref 16, .int x1, .int x2, .int x3] h (fun v h2 => tI h2 ∧ fr F_X11_cell h h2 ∧ ∃ y : Int32, v = some (.int y) ∧ Q1_cell x1 x2 x3 y h h2) := by
  refine cap_of (d := 2) (M := mX11_cell) rfl (Nat.le_of_ble_eq_true rfl) ?_
  show EvP im_K0 2 mX11_cell (0, [(0, .ref 16), (1, .int x1), (2, .int x2), (3, .int x3)], [], h) _
  have f0 : fr F_X11_cell h h := fr_rf
  refine te_iload_n (p2 := 1) rfl rfl rfl ?_
  refine te_iconst (p2 := 2) (x := 4) rfl rfl (by decide) ?_
  refine cS_pI (p2 := 5) rfl rfl rfl rfl (t_X11_within (n := x1) (b := 4) hI ) (by decide) (fun y1 r1 => ?_)
  rcases r1 with ⟨w1, c1⟩ | ⟨w1, c1⟩
  · subst w1
    have cc1_1 := (show Int32.toInt 4 = 4 from rfl)
    refine tz_ne (p2 := 8) rfl rfl (show Int32.toInt 1 = 1 from rfl) (fun c2 => ?_) (fun c2 => absurd c2 (by omega))
    refine te_aload_n (p2 := 12) rfl rfl rfl ?_
    refine tg_r (p2 := 15) (i := 0) (r := 113) rfl rfl hI rfl rfl rfl ?_
    refine te_iload_n (p2 := 16) rfl rfl rfl ?_
    refine tl_f (p2 := 17) (i := 97) (n := 4) (c0 := 140) (sp := 2) rfl rfl hI rfl rfl (by decide) rq_97 (by omega) (by omega) (fun o3 w3 => ?_)
    have q3 : o3 = 140 ∨ o3 = 142 ∨ o3 = 144 ∨ o3 = 146 := by omega
    refine cV_pI (p2 := 20) (i := o3) rfl rfl rfl rfl hI rfl (by rcases q3 with rfl | rfl | rfl | rfl <;> rfl) rfl (c_X8_isMissing (s := o3) hI q3) (by decide) (fun y4 r4 => ?_)
    obtain ⟨p4, e4, r4⟩ := r4
    rcases r4 with ⟨w4_, c4⟩ | ⟨w4_, c4⟩
    · subst w4_
      refine tz_eq (p2 := 23) rfl rfl (show Int32.toInt 1 = 1 from rfl) (fun c5 => absurd c5 (by omega)) (fun c5 => ?_)
      refine te_bipush (p2 := 25) (x := (-11)) rfl rfl (by decide) ?_
      obtain ⟨v6, e6, y6, w6, a6, b6, _⟩ := hI.2.1 o3 1 (.inl (0, 40, 9999999999)) (by rcases q3 with rfl | rfl | rfl | rfl <;> rfl)
      subst w6
      exact te_iret rfl rfl ⟨hI, f0, _, rfl, Or.inl ⟨by omega, by omega, p4, y6, (by rw [← w3]; exact e4), (by rw [← w3]; exact e6), (by unfold clT; (repeat' split) <;> first | (exfalso; omega) | rfl)⟩, (fun hy => absurd hy (by rw [(show Int32.toInt (-11) = (-11) from rfl)]; decide)), (fun s i hs hn => rfl)⟩
    · subst w4_
      refine tz_eq (p2 := 23) rfl rfl (show Int32.toInt 0 = 0 from rfl) (fun c7 => ?_) (fun c7 => absurd c7 (by omega))
      refine te_iload_n (p2 := 27) rfl rfl rfl ?_
      refine te_aload_n (p2 := 28) rfl rfl rfl ?_
      refine tg_r (p2 := 31) (i := 0) (r := 113) rfl rfl hI rfl rfl rfl ?_
      refine te_iload_n (p2 := 32) rfl rfl rfl ?_
      refine tl_f (p2 := 33) (i := 97) (n := 4) (c0 := 140) (sp := 2) rfl rfl hI rfl rfl (by decide) rq_97 (by omega) (by omega) (fun o8 w8 => ?_)
      have q8 : o8 = 140 ∨ o8 = 142 ∨ o8 = 144 ∨ o8 = 146 := by omega
      refine tg_i (p2 := 36) (i := o8) rfl rfl hI rfl (by rcases q8 with rfl | rfl | rfl | rfl <;> rfl) (by rcases q8 with rfl | rfl | rfl | rfl <;> rfl) (fun y9 a9 b9 e9 => ?_)
      refine cS_pI (p2 := 39) rfl rfl rfl rfl (t_X11_within (n := x2) (b := y9) hI ) (by decide) (fun y10 r10 => ?_)
      rcases r10 with ⟨w10, c10⟩ | ⟨w10, c10⟩
      · subst w10
        refine tz_ne (p2 := 42) rfl rfl (show Int32.toInt 1 = 1 from rfl) (fun c11 => ?_) (fun c11 => absurd c11 (by omega))
        refine te_aload_n (p2 := 46) rfl rfl rfl ?_
        refine tg_r (p2 := 49) (i := 0) (r := 113) rfl rfl hI rfl rfl rfl ?_
        refine te_iload_n (p2 := 50) rfl rfl rfl ?_
        refine tl_f (p2 := 51) (i := 97) (n := 4) (c0 := 140) (sp := 2) rfl rfl hI rfl rfl (by decide) rq_97 (by omega) (by omega) (fun o12 w12 => ?_)
        have q12 : o12 = 140 ∨ o12 = 142 ∨ o12 = 144 ∨ o12 = 146 := by omega
        refine te_iload_n (p2 := 52) rfl rfl rfl ?_
        refine te_iload_n (p2 := 53) rfl rfl rfl ?_
        refine tc_V (p2 := 56) (i := o12) rfl rfl rfl rfl hI rfl (by rcases q12 with rfl | rfl | rfl | rfl <;> rfl) rfl (c_X8_put (s := o12) (i := x2) (v := x3) hI q12 (by omega) (by omega)) (by decide) (fun v13 h13 hq13 => ?_)
        obtain ⟨I13, g13, w13, Z13, Y13⟩ := hq13
        subst w13
        have f13 := fr_tr (F1 := (F_X8_put o12)) (F := F_X11_cell) f0 g13 (by rcases q12 with rfl | rfl | rfl | rfl <;> decide)
        show EvP _ _ _ (56, [(0, .ref 16), (1, .int x1), (2, .int x2), (3, .int x3)], [], h13) _
        refine te_iconst (p2 := 57) (x := 1) rfl rfl (by decide) ?_
        exact te_iret rfl rfl ⟨I13, f13, _, rfl, Or.inl ⟨by omega, by omega, p4, y9, (by rw [← w3]; exact e4), (by rw [← w8]; exact e9), (by unfold clT; (repeat' split) <;> first | (exfalso; omega) | rfl)⟩, (fun _ => ⟨by omega, by omega, fun q hq => by (rw [show 141 + 2 * x1.toInt.toNat = o12 + 1 by omega]; exact Z13 q (by rw [show o12 = 140 + 2 * x1.toInt.toNat by omega]; exact hq))⟩), (fun s i hs hn => Y13 _ _ (by (have h9 : ¬ (Int32.toInt 1 ≠ 1) := (by decide)); omega))⟩
      · subst w10
        refine tz_ne (p2 := 42) rfl rfl (show Int32.toInt 0 = 0 from rfl) (fun c14 => absurd c14 (by omega)) (fun c14 => ?_)
        refine te_bipush (p2 := 44) (x := (-12)) rfl rfl (by decide) ?_
        exact te_iret rfl rfl ⟨hI, f0, _, rfl, Or.inl ⟨by omega, by omega, p4, y9, (by rw [← w3]; exact e4), (by rw [← w8]; exact e9), (by unfold clT; (repeat' split) <;> first | (exfalso; omega) | rfl)⟩, (fun hy => absurd hy (by rw [(show Int32.toInt (-12) = (-12) from rfl)]; decide)), (fun s i hs hn => rfl)⟩
  · subst w1
    have cc1_1 := (show Int32.toInt 4 = 4 from rfl)
    refine tz_ne (p2 := 8) rfl rfl (show Int32.toInt 0 = 0 from rfl) (fun c15 => absurd c15 (by omega)) (fun c15 => ?_)
    refine te_bipush (p2 := 10) (x := (-2)) rfl rfl (by decide) ?_
    exact te_iret rfl rfl ⟨hI, f0, _, rfl, Or.inr ⟨by omega, rfl⟩, (fun hy => absurd hy (by rw [(show Int32.toInt (-2) = (-2) from rfl)]; decide)), (fun s i hs hn => rfl)⟩
abbrev Q2_cell (x1 x2 x3 : Int32) (y : Int32) (h h2 : im_H) : Prop := ((0 ≤ x1.toInt ∧ x1.toInt ≤ 3 ∧ ∃ q z : Int32, rd h 192 x1.toInt.toNat = some (.int q) ∧ rd h 193 x1.toInt.toNat = some (.int z) ∧ y = clT x2 q z) ∨ (¬ (0 ≤ x1.toInt ∧ x1.toInt ≤ 3) ∧ y = -2)) ∧ (y.toInt = 1 → 0 ≤ x2.toInt ∧ x2.toInt < 40 ∧ ∀ q : Int32, rd h 192 x1.toInt.toNat = some (.int q) → rd h2 194 (40 * x1.toInt.toNat + x2.toInt.toNat) = some (.int (nrw q x3))) ∧ (∀ s i, s < 4 → i < 40 → (s ≠ x1.toInt.toNat ∨ i ≠ x2.toInt.toNat ∨ y.toInt ≠ 1) → rd h2 194 (40 * s + i) = rd h 194 (40 * s + i))
set_option maxRecDepth 20000 in
set_option maxHeartbeats 4000000 in
theorem c_X12_cell {x1 : Int32} {x2 : Int32} {x3 : Int32} {h : im_H} (hI : tI h)  : CaP 3 192 [.ref 164, .int x1, .int x2, .int x3] h (fun v h2 => tI h2 ∧ fr F_X12_cell h h2 ∧ ∃ y : Int32, v = some (.int y) ∧ Q2_cell x1 x2 x3 y h h2) := by
  refine cap_of (d := 2) (M := mX12_cell) rfl (Nat.le_of_ble_eq_true rfl) ?_
  show EvP im_K0 2 mX12_cell (0, [(0, .ref 164), (1, .int x1), (2, .int x2), (3, .int x3)], [], h) _
  have f0 : fr F_X12_cell h h := fr_rf
  refine te_iload_n (p2 := 1) rfl rfl rfl ?_
  refine te_iconst (p2 := 2) (x := 0) rfl rfl (by decide) ?_
  refine te_iconst (p2 := 3) (x := 3) rfl rfl (by decide) ?_
  refine cS_pI (p2 := 6) rfl rfl rfl rfl (t_X12_in (n := x1) (a := 0) (b := 3) hI ) (by decide) (fun y1 r1 => ?_)
  rcases r1 with ⟨w1, c1⟩ | ⟨w1, c1⟩
  · subst w1
    have cc1_1 := (show Int32.toInt 0 = 0 from rfl)
    have cc1_2 := (show Int32.toInt 3 = 3 from rfl)
    refine tz_ne (p2 := 9) rfl rfl (show Int32.toInt 1 = 1 from rfl) (fun c2 => ?_) (fun c2 => absurd c2 (by omega))
    refine te_aload_n (p2 := 13) rfl rfl rfl ?_
    refine tg_r (p2 := 16) (i := 148) (r := 208) rfl rfl hI rfl rfl rfl ?_
    refine te_iload_n (p2 := 17) rfl rfl rfl ?_
    refine tl_i (p2 := 18) (i := 192) (n := 4) rfl rfl hI rfl rfl rfl rfl (by omega) (by omega) (fun y3 a3 b3 g3 e3 => ?_)
    refine te_iconst (p2 := 19) (x := (-1)) rfl rfl (by decide) ?_
    refine tb_ne (p2 := 22) rfl rfl rfl (show Int32.toInt (-1) = (-1) from rfl) (fun c4 => ?_) (fun c4 => ?_)
    · refine te_iload_n (p2 := 26) rfl rfl rfl ?_
      refine te_iconst (p2 := 27) (x := 0) rfl rfl (by decide) ?_
      refine te_aload_n (p2 := 28) rfl rfl rfl ?_
      refine tg_r (p2 := 31) (i := 148) (r := 209) rfl rfl hI rfl rfl rfl ?_
      refine te_iload_n (p2 := 32) rfl rfl rfl ?_
      refine tl_i (p2 := 33) (i := 193) (n := 4) rfl rfl hI rfl rfl rfl rfl (by omega) (by omega) (fun y5 a5 b5 g5 e5 => ?_)
      refine te_iconst (p2 := 34) (x := 1) rfl rfl (by decide) ?_
      refine ar_sub (p2 := 35) rfl rfl rfl (show Int32.toInt 1 = 1 from rfl) (by omega) (by omega) (fun z6 e6 f6 => ?_)
      refine cS_pI (p2 := 38) rfl rfl rfl rfl (t_X12_in (n := x2) (a := 0) (b := z6) hI ) (by decide) (fun y7 r7 => ?_)
      rcases r7 with ⟨w7, c7⟩ | ⟨w7, c7⟩
      · subst w7
        have cc7_1 := (show Int32.toInt 0 = 0 from rfl)
        refine tz_ne (p2 := 41) rfl rfl (show Int32.toInt 1 = 1 from rfl) (fun c8 => ?_) (fun c8 => absurd c8 (by omega))
        refine te_aload_n (p2 := 45) rfl rfl rfl ?_
        refine tg_r (p2 := 48) (i := 148) (r := 210) rfl rfl hI rfl rfl rfl ?_
        refine te_bipush (p2 := 50) (x := 40) rfl rfl (by decide) ?_
        refine te_iload_n (p2 := 51) rfl rfl rfl ?_
        refine ar_mul (p2 := 52) rfl rfl (show Int32.toInt 40 = 40 from rfl) rfl (by omega) (by omega) (fun z9 e9 f9 => ?_)
        refine te_iload_n (p2 := 53) rfl rfl rfl ?_
        refine ar_add (p2 := 54) rfl rfl rfl rfl (by omega) (by omega) (fun z10 e10 f10 => ?_)
        refine te_aload_n (p2 := 55) rfl rfl rfl ?_
        refine tg_r (p2 := 58) (i := 148) (r := 208) rfl rfl hI rfl rfl rfl ?_
        refine te_iload_n (p2 := 59) rfl rfl rfl ?_
        refine tl_e (p2 := 60) (i := 192) (n := 4) (t := 0) (Or.inl rfl) rfl rfl hI rfl rfl (by omega) (by omega) e3 ?_
        refine tz_ne (p2 := 63) rfl rfl rfl (fun c12 => ?_) (fun c12 => ?_)
        · refine te_aload_n (p2 := 69) rfl rfl rfl ?_
          refine tg_r (p2 := 72) (i := 148) (r := 208) rfl rfl hI rfl rfl rfl ?_
          refine te_iload_n (p2 := 73) rfl rfl rfl ?_
          refine tl_e (p2 := 74) (i := 192) (n := 4) (t := 0) (Or.inl rfl) rfl rfl hI rfl rfl (by omega) (by omega) e3 ?_
          refine te_iconst (p2 := 75) (x := 1) rfl rfl (by decide) ?_
          refine tb_ne (p2 := 78) rfl rfl rfl (show Int32.toInt 1 = 1 from rfl) (fun c14 => ?_) (fun c14 => ?_)
          · refine te_iload_n (p2 := 84) rfl rfl rfl ?_
            refine ts_i (p2 := 85) (i := 194) (n := 160) rfl rfl hI rfl rfl rfl rfl (by omega) (by omega) (i32_lo _) (i32_hi _) (i32_ho _) rfl (fun h15 I15 u15 => ?_)
            have f15 := fr_st (F := F_X12_cell) 0 f0 u15 rfl (by omega) (by omega)
            refine te_iconst (p2 := 86) (x := 1) rfl rfl (by decide) ?_
            exact te_iret rfl rfl ⟨I15, f15, _, rfl, Or.inl ⟨by omega, by omega, y3, y5, e3, e5, (by unfold clT; (repeat' split) <;> first | (exfalso; omega) | rfl)⟩, (fun _ => ⟨by omega, by omega, fun q hq => by (have e_ : q = y3 := int_inj hq e3); rw [e_, show 40 * x1.toInt.toNat + x2.toInt.toNat = z10.toInt.toNat by omega]; exact u15.1.trans (congrArg (fun t => some (Value.int t)) (show x3 = nrw y3 x3 from by (unfold nrw; (repeat' split) <;> first | (exfalso; omega) | rfl | (subst_vars; rfl))))⟩), (fun s i hs hi hn => u15.2 _ _ (Or.inr (by (have h9 : ¬ (Int32.toInt 1 ≠ 1) := (by decide)); omega)))⟩
          · refine te_iload_n (p2 := 79) rfl rfl rfl ?_
            obtain ⟨z16, e16⟩ : ∃ z, (Int16.toInt32 (Int32.toInt16 x3)) = z := ⟨_, rfl⟩
            refine te_i2s (p2 := 80) rfl rfl e16 ?_
            refine te_goto rfl ?_
            refine ts_i (p2 := 85) (i := 194) (n := 160) rfl rfl hI rfl rfl rfl rfl (by omega) (by omega) (i32_lo _) (i32_hi _) (i32_ho _) rfl (fun h17 I17 u17 => ?_)
            have f17 := fr_st (F := F_X12_cell) 0 f0 u17 rfl (by omega) (by omega)
            refine te_iconst (p2 := 86) (x := 1) rfl rfl (by decide) ?_
            exact te_iret rfl rfl ⟨I17, f17, _, rfl, Or.inl ⟨by omega, by omega, y3, y5, e3, e5, (by unfold clT; (repeat' split) <;> first | (exfalso; omega) | rfl)⟩, (fun _ => ⟨by omega, by omega, fun q hq => by (have e_ : q = y3 := int_inj hq e3); rw [e_, show 40 * x1.toInt.toNat + x2.toInt.toNat = z10.toInt.toNat by omega]; exact u17.1.trans (congrArg (fun t => some (Value.int t)) (show z16 = nrw y3 x3 from by (unfold nrw; (repeat' split) <;> first | (exfalso; omega) | rfl | (subst_vars; rfl))))⟩), (fun s i hs hi hn => u17.2 _ _ (Or.inr (by (have h9 : ¬ (Int32.toInt 1 ≠ 1) := (by decide)); omega)))⟩
        · refine te_iload_n (p2 := 64) rfl rfl rfl ?_
          obtain ⟨z18, e18⟩ : ∃ z, (Int8.toInt32 (Int32.toInt8 x3)) = z := ⟨_, rfl⟩
          refine te_i2b (p2 := 65) rfl rfl e18 ?_
          refine te_goto rfl ?_
          refine ts_i (p2 := 85) (i := 194) (n := 160) rfl rfl hI rfl rfl rfl rfl (by omega) (by omega) (i32_lo _) (i32_hi _) (i32_ho _) rfl (fun h19 I19 u19 => ?_)
          have f19 := fr_st (F := F_X12_cell) 0 f0 u19 rfl (by omega) (by omega)
          refine te_iconst (p2 := 86) (x := 1) rfl rfl (by decide) ?_
          exact te_iret rfl rfl ⟨I19, f19, _, rfl, Or.inl ⟨by omega, by omega, y3, y5, e3, e5, (by unfold clT; (repeat' split) <;> first | (exfalso; omega) | rfl)⟩, (fun _ => ⟨by omega, by omega, fun q hq => by (have e_ : q = y3 := int_inj hq e3); rw [e_, show 40 * x1.toInt.toNat + x2.toInt.toNat = z10.toInt.toNat by omega]; exact u19.1.trans (congrArg (fun t => some (Value.int t)) (show z18 = nrw y3 x3 from by (unfold nrw; (repeat' split) <;> first | (exfalso; omega) | rfl | (subst_vars; rfl))))⟩), (fun s i hs hi hn => u19.2 _ _ (Or.inr (by (have h9 : ¬ (Int32.toInt 1 ≠ 1) := (by decide)); omega)))⟩
      · subst w7
        have cc7_1 := (show Int32.toInt 0 = 0 from rfl)
        refine tz_ne (p2 := 41) rfl rfl (show Int32.toInt 0 = 0 from rfl) (fun c20 => absurd c20 (by omega)) (fun c20 => ?_)
        refine te_bipush (p2 := 43) (x := (-12)) rfl rfl (by decide) ?_
        exact te_iret rfl rfl ⟨hI, f0, _, rfl, Or.inl ⟨by omega, by omega, y3, y5, e3, e5, (by unfold clT; (repeat' split) <;> first | (exfalso; omega) | rfl)⟩, (fun hy => absurd hy (by rw [(show Int32.toInt (-12) = (-12) from rfl)]; decide)), (fun s i hs hi hn => rfl)⟩
    · refine te_bipush (p2 := 24) (x := (-11)) rfl rfl (by decide) ?_
      obtain ⟨v21, e21, y21, w21, a21, b21, _⟩ := hI.2.1 193 x1.toInt.toNat (.inl (0, 40, 9999999999)) (tq_row rfl (by omega))
      subst w21
      exact te_iret rfl rfl ⟨hI, f0, _, rfl, Or.inl ⟨by omega, by omega, y3, y21, e3, e21, (by unfold clT; (repeat' split) <;> first | (exfalso; omega) | rfl)⟩, (fun hy => absurd hy (by rw [(show Int32.toInt (-11) = (-11) from rfl)]; decide)), (fun s i hs hi hn => rfl)⟩
  · subst w1
    have cc1_1 := (show Int32.toInt 0 = 0 from rfl)
    have cc1_2 := (show Int32.toInt 3 = 3 from rfl)
    refine tz_ne (p2 := 9) rfl rfl (show Int32.toInt 0 = 0 from rfl) (fun c22 => absurd c22 (by omega)) (fun c22 => ?_)
    refine te_bipush (p2 := 11) (x := (-2)) rfl rfl (by decide) ?_
    exact te_iret rfl rfl ⟨hI, f0, _, rfl, Or.inr ⟨by omega, rfl⟩, (fun hy => absurd hy (by rw [(show Int32.toInt (-2) = (-2) from rfl)]; decide)), (fun s i hs hi hn => rfl)⟩
def cpT (x2 x4 x5 q1 z1 q2 z2 : Int32) : Int32 := if q1.toInt = -1 ∨ q2.toInt = -1 then -11 else if ¬ q1.toInt = q2.toInt then -13 else if 0 ≤ x2.toInt ∧ 0 ≤ x5.toInt ∧ x5.toInt ≤ z1.toInt - x2.toInt ∧ 0 ≤ x4.toInt ∧ x5.toInt ≤ z2.toInt - x4.toInt then x5 else -12
abbrev Q1_copy (x1 x2 x3 x4 x5 : Int32) (y : Int32) (h h2 : im_H) : Prop := (((0 ≤ x1.toInt ∧ x1.toInt ≤ 3 ∧ 0 ≤ x3.toInt ∧ x3.toInt ≤ 3) ∧ ∃ q1 z1 q2 z2 : Int32, rd h (140 + 2 * x1.toInt.toNat) 0 = some (.int q1) ∧ rd h (140 + 2 * x1.toInt.toNat) 1 = some (.int z1) ∧ rd h (140 + 2 * x3.toInt.toNat) 0 = some (.int q2) ∧ rd h (140 + 2 * x3.toInt.toNat) 1 = some (.int z2) ∧ y = cpT x2 x4 x5 q1 z1 q2 z2) ∨ (¬ (0 ≤ x1.toInt ∧ x1.toInt ≤ 3 ∧ 0 ≤ x3.toInt ∧ x3.toInt ≤ 3) ∧ y = -2)) ∧ (0 ≤ y.toInt → 0 ≤ x2.toInt ∧ 0 ≤ x4.toInt ∧ x2.toInt + x5.toInt ≤ 40 ∧ x4.toInt + x5.toInt ≤ 40 ∧ (∀ i : Nat, i < 40 → (x4.toInt ≤ i ∧ (i : Int) < x4.toInt + x5.toInt) → rd h2 (141 + 2 * x3.toInt.toNat) i = rd h (141 + 2 * x1.toInt.toNat) (x2.toInt.toNat + (i - x4.toInt.toNat)))) ∧ (∀ s i : Nat, s < 4 → (s ≠ x3.toInt.toNat ∨ ¬ (x4.toInt ≤ i ∧ (i : Int) < x4.toInt + x5.toInt) ∨ ¬ 0 ≤ y.toInt) → rd h2 (141 + 2 * s) i = rd h (141 + 2 * s) i)
set_option maxRecDepth 20000 in
set_option maxHeartbeats 4000000 in
theorem c_X11_copy {x1 : Int32} {x2 : Int32} {x3 : Int32} {x4 : Int32} {x5 : Int32} {h : im_H} (hI : tI h)  : CaP 3 106 [.ref 16, .int x1, .int x2, .int x3, .int x4, .int x5] h (fun v h2 => tI h2 ∧ fr F_X11_copy h h2 ∧ ∃ y : Int32, v = some (.int y) ∧ Q1_copy x1 x2 x3 x4 x5 y h h2) := by
  refine cap_of (d := 2) (M := mX11_copy) rfl (Nat.le_of_ble_eq_true rfl) ?_
  show EvP im_K0 2 mX11_copy (0, [(0, .ref 16), (1, .int x1), (2, .int x2), (3, .int x3), (4, .int x4), (5, .int x5)], [], h) _
  have f0 : fr F_X11_copy h h := fr_rf
  refine te_iload_n (p2 := 1) rfl rfl rfl ?_
  refine te_iconst (p2 := 2) (x := 4) rfl rfl (by decide) ?_
  refine cS_pI (p2 := 5) rfl rfl rfl rfl (t_X11_within (n := x1) (b := 4) hI ) (by decide) (fun y1 r1 => ?_)
  rcases r1 with ⟨w1, c1⟩ | ⟨w1, c1⟩
  · subst w1
    have cc1_1 := (show Int32.toInt 4 = 4 from rfl)
    refine tz_eq (p2 := 8) rfl rfl (show Int32.toInt 1 = 1 from rfl) (fun c2 => absurd c2 (by omega)) (fun c2 => ?_)
    refine te_iload_n (p2 := 9) rfl rfl rfl ?_
    refine te_iconst (p2 := 10) (x := 4) rfl rfl (by decide) ?_
    refine cS_pI (p2 := 13) rfl rfl rfl rfl (t_X11_within (n := x3) (b := 4) hI ) (by decide) (fun y3 r3 => ?_)
    rcases r3 with ⟨w3, c3⟩ | ⟨w3, c3⟩
    · subst w3
      have cc3_1 := (show Int32.toInt 4 = 4 from rfl)
      refine tz_ne (p2 := 16) rfl rfl (show Int32.toInt 1 = 1 from rfl) (fun c4 => ?_) (fun c4 => absurd c4 (by omega))
      refine te_aload_n (p2 := 20) rfl rfl rfl ?_
      refine tg_r (p2 := 23) (i := 0) (r := 113) rfl rfl hI rfl rfl rfl ?_
      refine te_iload_n (p2 := 24) rfl rfl rfl ?_
      refine tl_f (p2 := 25) (i := 97) (n := 4) (c0 := 140) (sp := 2) rfl rfl hI rfl rfl (by decide) rq_97 (by omega) (by omega) (fun o5 w5 => ?_)
      have q5 : o5 = 140 ∨ o5 = 142 ∨ o5 = 144 ∨ o5 = 146 := by omega
      refine te_astore (p2 := 27) (lv2 := [(6, .ref (16 + o5)), (0, .ref 16), (1, .int x1), (2, .int x2), (3, .int x3), (4, .int x4), (5, .int x5)]) rfl rfl (by decide) rfl ?_
      refine te_aload_n (p2 := 28) rfl rfl rfl ?_
      refine tg_r (p2 := 31) (i := 0) (r := 113) rfl rfl hI rfl rfl rfl ?_
      refine te_iload_n (p2 := 32) rfl rfl rfl ?_
      refine tl_f (p2 := 33) (i := 97) (n := 4) (c0 := 140) (sp := 2) rfl rfl hI rfl rfl (by decide) rq_97 (by omega) (by omega) (fun o6 w6 => ?_)
      have q6 : o6 = 140 ∨ o6 = 142 ∨ o6 = 144 ∨ o6 = 146 := by omega
      refine te_astore (p2 := 35) (lv2 := [(7, .ref (16 + o6)), (6, .ref (16 + o5)), (0, .ref 16), (1, .int x1), (2, .int x2), (3, .int x3), (4, .int x4), (5, .int x5)]) rfl rfl (by decide) rfl ?_
      refine te_aload (p2 := 37) rfl rfl rfl ?_
      refine cV_pI (p2 := 40) (i := o5) rfl rfl rfl rfl hI rfl (by rcases q5 with rfl | rfl | rfl | rfl <;> rfl) rfl (c_X8_isMissing (s := o5) hI q5) (by decide) (fun y7 r7 => ?_)
      obtain ⟨p7, e7, r7⟩ := r7
      rcases r7 with ⟨w7_, c7⟩ | ⟨w7_, c7⟩
      · subst w7_
        refine tz_ne (p2 := 43) rfl rfl (show Int32.toInt 1 = 1 from rfl) (fun c8 => ?_) (fun c8 => absurd c8 (by omega))
        refine te_bipush (p2 := 53) (x := (-11)) rfl rfl (by decide) ?_
        obtain ⟨v9, e9, y9, w9, a9, b9, _⟩ := hI.2.1 o5 1 (.inl (0, 40, 9999999999)) (by rcases q5 with rfl | rfl | rfl | rfl <;> rfl)
        subst w9
        obtain ⟨v10, e10, y10, w10, a10, b10, _⟩ := hI.2.1 o6 0 (.inl ((-1), 2, 9999999999)) (by rcases q6 with rfl | rfl | rfl | rfl <;> rfl)
        subst w10
        obtain ⟨v11, e11, y11, w11, a11, b11, _⟩ := hI.2.1 o6 1 (.inl (0, 40, 9999999999)) (by rcases q6 with rfl | rfl | rfl | rfl <;> rfl)
        subst w11
        exact te_iret rfl rfl ⟨hI, f0, _, rfl, Or.inl ⟨by omega, p7, y9, y10, y11, (by rw [← w5]; exact e7), (by rw [← w5]; exact e9), (by rw [← w6]; exact e10), (by rw [← w6]; exact e11), (by unfold cpT; (repeat' split) <;> first | (exfalso; omega) | rfl)⟩, (fun hy => absurd hy (by rw [(show Int32.toInt (-11) = (-11) from rfl)]; decide)), (fun s i hs hn => rfl)⟩
      · subst w7_
        refine tz_ne (p2 := 43) rfl rfl (show Int32.toInt 0 = 0 from rfl) (fun c12 => absurd c12 (by omega)) (fun c12 => ?_)
        refine te_aload (p2 := 45) rfl rfl rfl ?_
        refine cV_pI (p2 := 48) (i := o6) rfl rfl rfl rfl hI rfl (by rcases q6 with rfl | rfl | rfl | rfl <;> rfl) rfl (c_X8_isMissing (s := o6) hI q6) (by decide) (fun y13 r13 => ?_)
        obtain ⟨p13, e13, r13⟩ := r13
        rcases r13 with ⟨w13_, c13⟩ | ⟨w13_, c13⟩
        · subst w13_
          refine tz_eq (p2 := 51) rfl rfl (show Int32.toInt 1 = 1 from rfl) (fun c14 => absurd c14 (by omega)) (fun c14 => ?_)
          refine te_bipush (p2 := 53) (x := (-11)) rfl rfl (by decide) ?_
          obtain ⟨v15, e15, y15, w15, a15, b15, _⟩ := hI.2.1 o5 1 (.inl (0, 40, 9999999999)) (by rcases q5 with rfl | rfl | rfl | rfl <;> rfl)
          subst w15
          obtain ⟨v16, e16, y16, w16, a16, b16, _⟩ := hI.2.1 o6 1 (.inl (0, 40, 9999999999)) (by rcases q6 with rfl | rfl | rfl | rfl <;> rfl)
          subst w16
          exact te_iret rfl rfl ⟨hI, f0, _, rfl, Or.inl ⟨by omega, p7, y15, p13, y16, (by rw [← w5]; exact e7), (by rw [← w5]; exact e15), (by rw [← w6]; exact e13), (by rw [← w6]; exact e16), (by unfold cpT; (repeat' split) <;> first | (exfalso; omega) | rfl)⟩, (fun hy => absurd hy (by rw [(show Int32.toInt (-11) = (-11) from rfl)]; decide)), (fun s i hs hn => rfl)⟩
        · subst w13_
          refine tz_eq (p2 := 51) rfl rfl (show Int32.toInt 0 = 0 from rfl) (fun c17 => ?_) (fun c17 => absurd c17 (by omega))
          refine te_aload (p2 := 56) rfl rfl rfl ?_
          refine tg_e (p2 := 59) (i := o5) (v := .int p7) rfl rfl hI rfl (by rcases q5 with rfl | rfl | rfl | rfl <;> rfl) e7 ?_
          refine te_aload (p2 := 61) rfl rfl rfl ?_
          refine tg_e (p2 := 64) (i := o6) (v := .int p13) rfl rfl hI rfl (by rcases q6 with rfl | rfl | rfl | rfl <;> rfl) e13 ?_
          refine tb_eq (p2 := 67) rfl rfl rfl rfl (fun c18 => ?_) (fun c18 => ?_)
          · refine te_aload (p2 := 72) rfl rfl rfl ?_
            refine te_iload_n (p2 := 73) rfl rfl rfl ?_
            refine te_iload (p2 := 75) rfl rfl rfl ?_
            refine cV_pI (p2 := 78) (i := o5) rfl rfl rfl rfl hI rfl (by rcases q5 with rfl | rfl | rfl | rfl <;> rfl) rfl (t_X8_holds (s := o5) (i := x2) (n := x5) hI q5) (by decide) (fun y19 r19 => ?_)
            obtain ⟨p19, e19, a19, b19, r19⟩ := r19
            rcases r19 with ⟨w19, c19⟩ | ⟨w19, c19⟩
            · subst w19
              refine tz_eq (p2 := 81) rfl rfl (show Int32.toInt 1 = 1 from rfl) (fun c20 => absurd c20 (by omega)) (fun c20 => ?_)
              refine te_aload (p2 := 83) rfl rfl rfl ?_
              refine te_iload (p2 := 85) rfl rfl rfl ?_
              refine te_iload (p2 := 87) rfl rfl rfl ?_
              refine cV_pI (p2 := 90) (i := o6) rfl rfl rfl rfl hI rfl (by rcases q6 with rfl | rfl | rfl | rfl <;> rfl) rfl (t_X8_holds (s := o6) (i := x4) (n := x5) hI q6) (by decide) (fun y21 r21 => ?_)
              obtain ⟨p21, e21, a21, b21, r21⟩ := r21
              rcases r21 with ⟨w21, c21⟩ | ⟨w21, c21⟩
              · subst w21
                refine tz_ne (p2 := 93) rfl rfl (show Int32.toInt 1 = 1 from rfl) (fun c22 => ?_) (fun c22 => absurd c22 (by omega))
                refine te_aload (p2 := 98) rfl rfl rfl ?_
                refine tg_r (p2 := 101) (i := o5) (r := (16 + (o5 + 1))) rfl rfl hI rfl (by rcases q5 with rfl | rfl | rfl | rfl <;> rfl) (by rcases q5 with rfl | rfl | rfl | rfl <;> rfl) ?_
                refine te_iload_n (p2 := 102) rfl rfl rfl ?_
                refine te_aload (p2 := 104) rfl rfl rfl ?_
                refine tg_r (p2 := 107) (i := o6) (r := (16 + (o6 + 1))) rfl rfl hI rfl (by rcases q6 with rfl | rfl | rfl | rfl <;> rfl) (by rcases q6 with rfl | rfl | rfl | rfl <;> rfl) ?_
                refine te_iload (p2 := 109) rfl rfl rfl ?_
                refine te_iload (p2 := 111) rfl rfl rfl ?_
                refine tc_cp (p2 := 114) (i1 := (o5 + 1)) (i2 := (o6 + 1)) (n1 := 40) (n2 := 40) rfl rfl hI rfl rfl (by rcases q5 with rfl | rfl | rfl | rfl <;> rfl) (by rcases q6 with rfl | rfl | rfl | rfl <;> rfl) (by rcases q5 with rfl | rfl | rfl | rfl <;> rfl) (by rcases q6 with rfl | rfl | rfl | rfl <;> rfl) rfl rfl (Or.inl rfl) rfl rfl rfl (by omega) (by omega) (by omega) (by omega) (by omega) rfl (by rcases q6 with rfl | rfl | rfl | rfl <;> rfl) (fun h23 I23 c23 u23 => ?_)
                have f23 := fr_cp (F := F_X11_copy) (i := (o6 + 1)) (a := 0) (b := 39) f0 u23 (by rcases q6 with rfl | rfl | rfl | rfl <;> decide) (by omega) (by omega)
                refine te_iload (p2 := 116) rfl rfl rfl ?_
                exact te_iret rfl rfl ⟨I23, f23, _, rfl, Or.inl ⟨by omega, p7, p19, p13, p21, (by rw [← w5]; exact e7), (by rw [← w5]; exact e19), (by rw [← w6]; exact e13), (by rw [← w6]; exact e21), (by unfold cpT; (repeat' split) <;> first | (exfalso; omega) | rfl)⟩, (fun _ => ⟨by omega, by omega, by omega, by omega, fun i hi hq => by (rw [show 141 + 2 * x3.toInt.toNat = o6 + 1 by omega, show 141 + 2 * x1.toInt.toNat = o5 + 1 by omega]; exact c23 i (by omega) (by omega))⟩), (fun s i hs hn => u23 _ _ (by omega))⟩
              · subst w21
                refine tz_ne (p2 := 93) rfl rfl (show Int32.toInt 0 = 0 from rfl) (fun c24 => absurd c24 (by omega)) (fun c24 => ?_)
                refine te_bipush (p2 := 95) (x := (-12)) rfl rfl (by decide) ?_
                exact te_iret rfl rfl ⟨hI, f0, _, rfl, Or.inl ⟨by omega, p7, p19, p13, p21, (by rw [← w5]; exact e7), (by rw [← w5]; exact e19), (by rw [← w6]; exact e13), (by rw [← w6]; exact e21), (by unfold cpT; (repeat' split) <;> first | (exfalso; omega) | rfl)⟩, (fun hy => absurd hy (by rw [(show Int32.toInt (-12) = (-12) from rfl)]; decide)), (fun s i hs hn => rfl)⟩
            · subst w19
              refine tz_eq (p2 := 81) rfl rfl (show Int32.toInt 0 = 0 from rfl) (fun c25 => ?_) (fun c25 => absurd c25 (by omega))
              refine te_bipush (p2 := 95) (x := (-12)) rfl rfl (by decide) ?_
              obtain ⟨v26, e26, y26, w26, a26, b26, _⟩ := hI.2.1 o6 1 (.inl (0, 40, 9999999999)) (by rcases q6 with rfl | rfl | rfl | rfl <;> rfl)
              subst w26
              exact te_iret rfl rfl ⟨hI, f0, _, rfl, Or.inl ⟨by omega, p7, p19, p13, y26, (by rw [← w5]; exact e7), (by rw [← w5]; exact e19), (by rw [← w6]; exact e13), (by rw [← w6]; exact e26), (by unfold cpT; (repeat' split) <;> first | (exfalso; omega) | rfl)⟩, (fun hy => absurd hy (by rw [(show Int32.toInt (-12) = (-12) from rfl)]; decide)), (fun s i hs hn => rfl)⟩
          · refine te_bipush (p2 := 69) (x := (-13)) rfl rfl (by decide) ?_
            obtain ⟨v27, e27, y27, w27, a27, b27, _⟩ := hI.2.1 o5 1 (.inl (0, 40, 9999999999)) (by rcases q5 with rfl | rfl | rfl | rfl <;> rfl)
            subst w27
            obtain ⟨v28, e28, y28, w28, a28, b28, _⟩ := hI.2.1 o6 1 (.inl (0, 40, 9999999999)) (by rcases q6 with rfl | rfl | rfl | rfl <;> rfl)
            subst w28
            exact te_iret rfl rfl ⟨hI, f0, _, rfl, Or.inl ⟨by omega, p7, y27, p13, y28, (by rw [← w5]; exact e7), (by rw [← w5]; exact e27), (by rw [← w6]; exact e13), (by rw [← w6]; exact e28), (by unfold cpT; (repeat' split) <;> first | (exfalso; omega) | rfl)⟩, (fun hy => absurd hy (by rw [(show Int32.toInt (-13) = (-13) from rfl)]; decide)), (fun s i hs hn => rfl)⟩
    · subst w3
      have cc3_1 := (show Int32.toInt 4 = 4 from rfl)
      refine tz_ne (p2 := 16) rfl rfl (show Int32.toInt 0 = 0 from rfl) (fun c29 => absurd c29 (by omega)) (fun c29 => ?_)
      refine te_bipush (p2 := 18) (x := (-2)) rfl rfl (by decide) ?_
      exact te_iret rfl rfl ⟨hI, f0, _, rfl, Or.inr ⟨by omega, rfl⟩, (fun hy => absurd hy (by rw [(show Int32.toInt (-2) = (-2) from rfl)]; decide)), (fun s i hs hn => rfl)⟩
  · subst w1
    have cc1_1 := (show Int32.toInt 4 = 4 from rfl)
    refine tz_eq (p2 := 8) rfl rfl (show Int32.toInt 0 = 0 from rfl) (fun c30 => ?_) (fun c30 => absurd c30 (by omega))
    refine te_bipush (p2 := 18) (x := (-2)) rfl rfl (by decide) ?_
    exact te_iret rfl rfl ⟨hI, f0, _, rfl, Or.inr ⟨by omega, rfl⟩, (fun hy => absurd hy (by rw [(show Int32.toInt (-2) = (-2) from rfl)]; decide)), (fun s i hs hn => rfl)⟩
abbrev Q2_copy (x1 x2 x3 x4 x5 : Int32) (y : Int32) (h h2 : im_H) : Prop := (((0 ≤ x1.toInt ∧ x1.toInt ≤ 3 ∧ 0 ≤ x3.toInt ∧ x3.toInt ≤ 3) ∧ ∃ q1 z1 q2 z2 : Int32, rd h 192 x1.toInt.toNat = some (.int q1) ∧ rd h 193 x1.toInt.toNat = some (.int z1) ∧ rd h 192 x3.toInt.toNat = some (.int q2) ∧ rd h 193 x3.toInt.toNat = some (.int z2) ∧ y = cpT x2 x4 x5 q1 z1 q2 z2) ∨ (¬ (0 ≤ x1.toInt ∧ x1.toInt ≤ 3 ∧ 0 ≤ x3.toInt ∧ x3.toInt ≤ 3) ∧ y = -2)) ∧ (0 ≤ y.toInt → 0 ≤ x2.toInt ∧ 0 ≤ x4.toInt ∧ x2.toInt + x5.toInt ≤ 40 ∧ x4.toInt + x5.toInt ≤ 40 ∧ (∀ i : Nat, i < 40 → (x4.toInt ≤ i ∧ (i : Int) < x4.toInt + x5.toInt) → rd h2 194 (40 * x3.toInt.toNat + i) = rd h 194 (40 * x1.toInt.toNat + (x2.toInt.toNat + (i - x4.toInt.toNat))))) ∧ (∀ s i : Nat, s < 4 → i < 40 → (s ≠ x3.toInt.toNat ∨ ¬ (x4.toInt ≤ i ∧ (i : Int) < x4.toInt + x5.toInt) ∨ ¬ 0 ≤ y.toInt) → rd h2 194 (40 * s + i) = rd h 194 (40 * s + i))
set_option maxRecDepth 20000 in
set_option maxHeartbeats 4000000 in
theorem c_X12_copy {x1 : Int32} {x2 : Int32} {x3 : Int32} {x4 : Int32} {x5 : Int32} {h : im_H} (hI : tI h)  : CaP 3 193 [.ref 164, .int x1, .int x2, .int x3, .int x4, .int x5] h (fun v h2 => tI h2 ∧ fr F_X12_copy h h2 ∧ ∃ y : Int32, v = some (.int y) ∧ Q2_copy x1 x2 x3 x4 x5 y h h2) := by
  refine cap_of (d := 2) (M := mX12_copy) rfl (Nat.le_of_ble_eq_true rfl) ?_
  show EvP im_K0 2 mX12_copy (0, [(0, .ref 164), (1, .int x1), (2, .int x2), (3, .int x3), (4, .int x4), (5, .int x5)], [], h) _
  have f0 : fr F_X12_copy h h := fr_rf
  refine te_iload_n (p2 := 1) rfl rfl rfl ?_
  refine te_iconst (p2 := 2) (x := 0) rfl rfl (by decide) ?_
  refine te_iconst (p2 := 3) (x := 3) rfl rfl (by decide) ?_
  refine cS_pI (p2 := 6) rfl rfl rfl rfl (t_X12_in (n := x1) (a := 0) (b := 3) hI ) (by decide) (fun y1 r1 => ?_)
  rcases r1 with ⟨w1, c1⟩ | ⟨w1, c1⟩
  · subst w1
    have cc1_1 := (show Int32.toInt 0 = 0 from rfl)
    have cc1_2 := (show Int32.toInt 3 = 3 from rfl)
    refine tz_eq (p2 := 9) rfl rfl (show Int32.toInt 1 = 1 from rfl) (fun c2 => absurd c2 (by omega)) (fun c2 => ?_)
    refine te_iload_n (p2 := 10) rfl rfl rfl ?_
    refine te_iconst (p2 := 11) (x := 0) rfl rfl (by decide) ?_
    refine te_iconst (p2 := 12) (x := 3) rfl rfl (by decide) ?_
    refine cS_pI (p2 := 15) rfl rfl rfl rfl (t_X12_in (n := x3) (a := 0) (b := 3) hI ) (by decide) (fun y3 r3 => ?_)
    rcases r3 with ⟨w3, c3⟩ | ⟨w3, c3⟩
    · subst w3
      have cc3_1 := (show Int32.toInt 0 = 0 from rfl)
      have cc3_2 := (show Int32.toInt 3 = 3 from rfl)
      refine tz_ne (p2 := 18) rfl rfl (show Int32.toInt 1 = 1 from rfl) (fun c4 => ?_) (fun c4 => absurd c4 (by omega))
      refine te_aload_n (p2 := 22) rfl rfl rfl ?_
      refine tg_r (p2 := 25) (i := 148) (r := 208) rfl rfl hI rfl rfl rfl ?_
      refine te_iload_n (p2 := 26) rfl rfl rfl ?_
      refine tl_i (p2 := 27) (i := 192) (n := 4) rfl rfl hI rfl rfl rfl rfl (by omega) (by omega) (fun y5 a5 b5 g5 e5 => ?_)
      refine te_iconst (p2 := 28) (x := (-1)) rfl rfl (by decide) ?_
      refine tb_eq (p2 := 31) rfl rfl rfl (show Int32.toInt (-1) = (-1) from rfl) (fun c6 => ?_) (fun c6 => ?_)
      · refine te_bipush (p2 := 43) (x := (-11)) rfl rfl (by decide) ?_
        obtain ⟨v7, e7, y7, w7, a7, b7, _⟩ := hI.2.1 193 x1.toInt.toNat (.inl (0, 40, 9999999999)) (tq_row rfl (by omega))
        subst w7
        obtain ⟨v8, e8, y8, w8, a8, b8, _⟩ := hI.2.1 192 x3.toInt.toNat (.inl ((-1), 2, 9999999999)) (tq_row rfl (by omega))
        subst w8
        obtain ⟨v9, e9, y9, w9, a9, b9, _⟩ := hI.2.1 193 x3.toInt.toNat (.inl (0, 40, 9999999999)) (tq_row rfl (by omega))
        subst w9
        exact te_iret rfl rfl ⟨hI, f0, _, rfl, Or.inl ⟨by omega, y5, y7, y8, y9, e5, e7, e8, e9, (by unfold cpT; (repeat' split) <;> first | (exfalso; omega) | rfl)⟩, (fun hy => absurd hy (by rw [(show Int32.toInt (-11) = (-11) from rfl)]; decide)), (fun s i hs hi hn => rfl)⟩
      · refine te_aload_n (p2 := 32) rfl rfl rfl ?_
        refine tg_r (p2 := 35) (i := 148) (r := 208) rfl rfl hI rfl rfl rfl ?_
        refine te_iload_n (p2 := 36) rfl rfl rfl ?_
        refine tl_i (p2 := 37) (i := 192) (n := 4) rfl rfl hI rfl rfl rfl rfl (by omega) (by omega) (fun y10 a10 b10 g10 e10 => ?_)
        refine te_iconst (p2 := 38) (x := (-1)) rfl rfl (by decide) ?_
        refine tb_ne (p2 := 41) rfl rfl rfl (show Int32.toInt (-1) = (-1) from rfl) (fun c11 => ?_) (fun c11 => ?_)
        · refine te_aload_n (p2 := 45) rfl rfl rfl ?_
          refine tg_r (p2 := 48) (i := 148) (r := 208) rfl rfl hI rfl rfl rfl ?_
          refine te_iload_n (p2 := 49) rfl rfl rfl ?_
          refine tl_e (p2 := 50) (i := 192) (n := 4) (t := 0) (Or.inl rfl) rfl rfl hI rfl rfl (by omega) (by omega) e5 ?_
          refine te_aload_n (p2 := 51) rfl rfl rfl ?_
          refine tg_r (p2 := 54) (i := 148) (r := 208) rfl rfl hI rfl rfl rfl ?_
          refine te_iload_n (p2 := 55) rfl rfl rfl ?_
          refine tl_e (p2 := 56) (i := 192) (n := 4) (t := 0) (Or.inl rfl) rfl rfl hI rfl rfl (by omega) (by omega) e10 ?_
          refine tb_eq (p2 := 59) rfl rfl rfl rfl (fun c14 => ?_) (fun c14 => ?_)
          · refine te_iload (p2 := 64) rfl rfl rfl ?_
            refine tz_lt (p2 := 67) rfl rfl rfl (fun c15 => ?_) (fun c15 => ?_)
            · refine te_bipush (p2 := 126) (x := (-12)) rfl rfl (by decide) ?_
              obtain ⟨v16, e16, y16, w16, a16, b16, _⟩ := hI.2.1 193 x1.toInt.toNat (.inl (0, 40, 9999999999)) (tq_row rfl (by omega))
              subst w16
              obtain ⟨v17, e17, y17, w17, a17, b17, _⟩ := hI.2.1 193 x3.toInt.toNat (.inl (0, 40, 9999999999)) (tq_row rfl (by omega))
              subst w17
              exact te_iret rfl rfl ⟨hI, f0, _, rfl, Or.inl ⟨by omega, y5, y16, y10, y17, e5, e16, e10, e17, (by unfold cpT; (repeat' split) <;> first | (exfalso; omega) | rfl)⟩, (fun hy => absurd hy (by rw [(show Int32.toInt (-12) = (-12) from rfl)]; decide)), (fun s i hs hi hn => rfl)⟩
            · refine te_iload_n (p2 := 68) rfl rfl rfl ?_
              refine tz_lt (p2 := 71) rfl rfl rfl (fun c18 => ?_) (fun c18 => ?_)
              · refine te_bipush (p2 := 126) (x := (-12)) rfl rfl (by decide) ?_
                obtain ⟨v19, e19, y19, w19, a19, b19, _⟩ := hI.2.1 193 x1.toInt.toNat (.inl (0, 40, 9999999999)) (tq_row rfl (by omega))
                subst w19
                obtain ⟨v20, e20, y20, w20, a20, b20, _⟩ := hI.2.1 193 x3.toInt.toNat (.inl (0, 40, 9999999999)) (tq_row rfl (by omega))
                subst w20
                exact te_iret rfl rfl ⟨hI, f0, _, rfl, Or.inl ⟨by omega, y5, y19, y10, y20, e5, e19, e10, e20, (by unfold cpT; (repeat' split) <;> first | (exfalso; omega) | rfl)⟩, (fun hy => absurd hy (by rw [(show Int32.toInt (-12) = (-12) from rfl)]; decide)), (fun s i hs hi hn => rfl)⟩
              · refine te_iload (p2 := 73) rfl rfl rfl ?_
                refine tz_lt (p2 := 76) rfl rfl rfl (fun c21 => ?_) (fun c21 => ?_)
                · refine te_bipush (p2 := 126) (x := (-12)) rfl rfl (by decide) ?_
                  obtain ⟨v22, e22, y22, w22, a22, b22, _⟩ := hI.2.1 193 x1.toInt.toNat (.inl (0, 40, 9999999999)) (tq_row rfl (by omega))
                  subst w22
                  obtain ⟨v23, e23, y23, w23, a23, b23, _⟩ := hI.2.1 193 x3.toInt.toNat (.inl (0, 40, 9999999999)) (tq_row rfl (by omega))
                  subst w23
                  exact te_iret rfl rfl ⟨hI, f0, _, rfl, Or.inl ⟨by omega, y5, y22, y10, y23, e5, e22, e10, e23, (by unfold cpT; (repeat' split) <;> first | (exfalso; omega) | rfl)⟩, (fun hy => absurd hy (by rw [(show Int32.toInt (-12) = (-12) from rfl)]; decide)), (fun s i hs hi hn => rfl)⟩
                · refine te_iload_n (p2 := 77) rfl rfl rfl ?_
                  refine te_aload_n (p2 := 78) rfl rfl rfl ?_
                  refine tg_r (p2 := 81) (i := 148) (r := 209) rfl rfl hI rfl rfl rfl ?_
                  refine te_iload_n (p2 := 82) rfl rfl rfl ?_
                  refine tl_i (p2 := 83) (i := 193) (n := 4) rfl rfl hI rfl rfl rfl rfl (by omega) (by omega) (fun y24 a24 b24 g24 e24 => ?_)
                  refine tb_gt (p2 := 86) rfl rfl rfl rfl (fun c25 => ?_) (fun c25 => ?_)
                  · refine te_bipush (p2 := 126) (x := (-12)) rfl rfl (by decide) ?_
                    obtain ⟨v26, e26, y26, w26, a26, b26, _⟩ := hI.2.1 193 x3.toInt.toNat (.inl (0, 40, 9999999999)) (tq_row rfl (by omega))
                    subst w26
                    exact te_iret rfl rfl ⟨hI, f0, _, rfl, Or.inl ⟨by omega, y5, y24, y10, y26, e5, e24, e10, e26, (by unfold cpT; (repeat' split) <;> first | (exfalso; omega) | rfl)⟩, (fun hy => absurd hy (by rw [(show Int32.toInt (-12) = (-12) from rfl)]; decide)), (fun s i hs hi hn => rfl)⟩
                  · refine te_iload (p2 := 88) rfl rfl rfl ?_
                    refine te_aload_n (p2 := 89) rfl rfl rfl ?_
                    refine tg_r (p2 := 92) (i := 148) (r := 209) rfl rfl hI rfl rfl rfl ?_
                    refine te_iload_n (p2 := 93) rfl rfl rfl ?_
                    refine tl_i (p2 := 94) (i := 193) (n := 4) rfl rfl hI rfl rfl rfl rfl (by omega) (by omega) (fun y27 a27 b27 g27 e27 => ?_)
                    refine tb_gt (p2 := 97) rfl rfl rfl rfl (fun c28 => ?_) (fun c28 => ?_)
                    · refine te_bipush (p2 := 126) (x := (-12)) rfl rfl (by decide) ?_
                      exact te_iret rfl rfl ⟨hI, f0, _, rfl, Or.inl ⟨by omega, y5, y24, y10, y27, e5, e24, e10, e27, (by unfold cpT; (repeat' split) <;> first | (exfalso; omega) | rfl)⟩, (fun hy => absurd hy (by rw [(show Int32.toInt (-12) = (-12) from rfl)]; decide)), (fun s i hs hi hn => rfl)⟩
                    · refine te_iload (p2 := 99) rfl rfl rfl ?_
                      refine te_aload_n (p2 := 100) rfl rfl rfl ?_
                      refine tg_r (p2 := 103) (i := 148) (r := 209) rfl rfl hI rfl rfl rfl ?_
                      refine te_iload_n (p2 := 104) rfl rfl rfl ?_
                      refine tl_e (p2 := 105) (i := 193) (n := 4) (t := 0) (Or.inl rfl) rfl rfl hI rfl rfl (by omega) (by omega) e24 ?_
                      refine te_iload_n (p2 := 106) rfl rfl rfl ?_
                      refine ar_sub (p2 := 107) rfl rfl rfl rfl (by omega) (by omega) (fun z30 e30 f30 => ?_)
                      refine tb_gt (p2 := 110) rfl rfl rfl rfl (fun c31 => ?_) (fun c31 => ?_)
                      · refine te_bipush (p2 := 126) (x := (-12)) rfl rfl (by decide) ?_
                        exact te_iret rfl rfl ⟨hI, f0, _, rfl, Or.inl ⟨by omega, y5, y24, y10, y27, e5, e24, e10, e27, (by unfold cpT; (repeat' split) <;> first | (exfalso; omega) | rfl)⟩, (fun hy => absurd hy (by rw [(show Int32.toInt (-12) = (-12) from rfl)]; decide)), (fun s i hs hi hn => rfl)⟩
                      · refine te_iload (p2 := 112) rfl rfl rfl ?_
                        refine te_aload_n (p2 := 113) rfl rfl rfl ?_
                        refine tg_r (p2 := 116) (i := 148) (r := 209) rfl rfl hI rfl rfl rfl ?_
                        refine te_iload_n (p2 := 117) rfl rfl rfl ?_
                        refine tl_e (p2 := 118) (i := 193) (n := 4) (t := 0) (Or.inl rfl) rfl rfl hI rfl rfl (by omega) (by omega) e27 ?_
                        refine te_iload (p2 := 120) rfl rfl rfl ?_
                        refine ar_sub (p2 := 121) rfl rfl rfl rfl (by omega) (by omega) (fun z33 e33 f33 => ?_)
                        refine tb_le (p2 := 124) rfl rfl rfl rfl (fun c34 => ?_) (fun c34 => ?_)
                        · refine te_bipush (p2 := 129) (x := 40) rfl rfl (by decide) ?_
                          refine te_iload_n (p2 := 130) rfl rfl rfl ?_
                          refine ar_mul (p2 := 131) rfl rfl (show Int32.toInt 40 = 40 from rfl) rfl (by omega) (by omega) (fun z35 e35 f35 => ?_)
                          refine te_iload_n (p2 := 132) rfl rfl rfl ?_
                          refine ar_add (p2 := 133) rfl rfl rfl rfl (by omega) (by omega) (fun z36 e36 f36 => ?_)
                          refine te_istore (p2 := 135) (lv2 := [(6, .int z36), (0, .ref 164), (1, .int x1), (2, .int x2), (3, .int x3), (4, .int x4), (5, .int x5)]) rfl rfl (by decide) rfl ?_
                          refine te_bipush (p2 := 137) (x := 40) rfl rfl (by decide) ?_
                          refine te_iload_n (p2 := 138) rfl rfl rfl ?_
                          refine ar_mul (p2 := 139) rfl rfl (show Int32.toInt 40 = 40 from rfl) rfl (by omega) (by omega) (fun z37 e37 f37 => ?_)
                          refine te_iload (p2 := 141) rfl rfl rfl ?_
                          refine ar_add (p2 := 142) rfl rfl rfl rfl (by omega) (by omega) (fun z38 e38 f38 => ?_)
                          refine te_istore (p2 := 144) (lv2 := [(7, .int z38), (6, .int z36), (0, .ref 164), (1, .int x1), (2, .int x2), (3, .int x3), (4, .int x4), (5, .int x5)]) rfl rfl (by decide) rfl ?_
                          refine te_iconst (p2 := 145) (x := 0) rfl rfl (by decide) ?_
                          refine te_istore (p2 := 147) (lv2 := [(8, .int 0), (7, .int z38), (6, .int z36), (0, .ref 164), (1, .int x1), (2, .int x2), (3, .int x3), (4, .int x4), (5, .int x5)]) rfl rfl (by decide) rfl ?_
                          have lp39 : ∀ (n39 : Nat) (v39_8 : Int32) (h39 : im_H), tI h39 → fr F_X12_copy h h39 → 0 ≤ v39_8.toInt → v39_8.toInt ≤ 40 → v39_8.toInt ≤ x5.toInt → (∀ q : Nat, (((z36.toInt < z38.toInt ∧ x5.toInt - v39_8.toInt ≤ (q : Int) - z38.toInt ∧ (q : Int) - z38.toInt < x5.toInt) ∨ (¬ z36.toInt < z38.toInt ∧ 0 ≤ (q : Int) - z38.toInt ∧ (q : Int) - z38.toInt < v39_8.toInt)) → rd h39 194 q = rd h 194 (q + z36.toInt.toNat - z38.toInt.toNat)) ∧ (¬ ((z36.toInt < z38.toInt ∧ x5.toInt - v39_8.toInt ≤ (q : Int) - z38.toInt ∧ (q : Int) - z38.toInt < x5.toInt) ∨ (¬ z36.toInt < z38.toInt ∧ 0 ≤ (q : Int) - z38.toInt ∧ (q : Int) - z38.toInt < v39_8.toInt)) → rd h39 194 q = rd h 194 q)) → x5.toInt - v39_8.toInt < (n39 : Int) → EvP im_K0 2 mX12_copy (147, [(0, .ref 164), (1, .int x1), (2, .int x2), (3, .int x3), (4, .int x4), (5, .int x5), (6, .int z36), (7, .int z38), (8, .int v39_8)], [], h39) (fun v h2 => tI h2 ∧ fr F_X12_copy h h2 ∧ ∃ y : Int32, v = some (.int y) ∧ Q2_copy x1 x2 x3 x4 x5 y h h2) := by
                            intro n39
                            induction n39 with
                            | zero => intro v39_8 h39 I39 f39 a39_8 b39_8 l39_0 w39_0 m39; exfalso; omega
                            | succ n39 ih39 =>
                              intro v39_8 h39 I39 f39 a39_8 b39_8 l39_0 w39_0 m39
                              refine te_iload (p2 := 149) rfl rfl rfl ?_
                              refine te_iload (p2 := 151) rfl rfl rfl ?_
                              refine tb_ge (p2 := 154) rfl rfl rfl rfl (fun c40 => ?_) (fun c40 => ?_)
                              · refine te_iload (p2 := 203) rfl rfl rfl ?_
                                exact te_iret rfl rfl ⟨I39, f39, _, rfl, Or.inl ⟨by omega, y5, y24, y10, y27, e5, e24, e10, e27, (by unfold cpT; (repeat' split) <;> first | (exfalso; omega) | rfl)⟩, (fun _ => ⟨by omega, by omega, by omega, by omega, fun i hi hq => by (rw [(w39_0 (40 * x3.toInt.toNat + i)).1 (by omega)]; congr 1; omega)⟩), (fun s i hs hi hn => (w39_0 (40 * s + i)).2 (by omega))⟩
                              · refine te_iload (p2 := 156) rfl rfl rfl ?_
                                refine te_iload (p2 := 158) rfl rfl rfl ?_
                                refine tb_ge (p2 := 161) rfl rfl rfl rfl (fun c41 => ?_) (fun c41 => ?_)
                                · refine te_iload (p2 := 173) rfl rfl rfl ?_
                                  refine te_istore (p2 := 175) (lv2 := [(9, .int v39_8), (0, .ref 164), (1, .int x1), (2, .int x2), (3, .int x3), (4, .int x4), (5, .int x5), (6, .int z36), (7, .int z38), (8, .int v39_8)]) rfl rfl (by decide) rfl ?_
                                  refine te_aload_n (p2 := 176) rfl rfl rfl ?_
                                  refine tg_r (p2 := 179) (i := 148) (r := 210) rfl rfl I39 rfl rfl rfl ?_
                                  refine te_iload (p2 := 181) rfl rfl rfl ?_
                                  refine te_iload (p2 := 183) rfl rfl rfl ?_
                                  refine ar_add (p2 := 184) rfl rfl rfl rfl (by omega) (by omega) (fun z42 e42 f42 => ?_)
                                  refine te_aload_n (p2 := 185) rfl rfl rfl ?_
                                  refine tg_r (p2 := 188) (i := 148) (r := 210) rfl rfl I39 rfl rfl rfl ?_
                                  refine te_iload (p2 := 190) rfl rfl rfl ?_
                                  refine te_iload (p2 := 192) rfl rfl rfl ?_
                                  refine ar_add (p2 := 193) rfl rfl rfl rfl (by omega) (by omega) (fun z43 e43 f43 => ?_)
                                  refine tl_i (p2 := 194) (i := 194) (n := 160) rfl rfl I39 rfl rfl rfl rfl (by omega) (by omega) (fun y44 a44 b44 g44 e44 => ?_)
                                  refine ts_i (p2 := 195) (i := 194) (n := 160) rfl rfl I39 rfl rfl rfl rfl (by omega) (by omega) (i32_lo _) (i32_hi _) (i32_ho _) rfl (fun h45 I45 u45 => ?_)
                                  have f45 := fr_st (F := F_X12_copy) 0 f39 u45 rfl (by omega) (by omega)
                                  refine ar_inc (p2 := 198) (x := v39_8) rfl rfl (by decide) rfl (by decide) rfl (by omega) (by omega) (fun z46 e46 f46 => ?_)
                                  show EvP _ _ _ (198, [(8, .int z46), (9, .int v39_8), (0, .ref 164), (1, .int x1), (2, .int x2), (3, .int x3), (4, .int x4), (5, .int x5), (6, .int z36), (7, .int z38)], [], h45) _
                                  refine te_goto rfl ?_
                                  refine te_lv [(0, .ref 164), (1, .int x1), (2, .int x2), (3, .int x3), (4, .int x4), (5, .int x5), (6, .int z36), (7, .int z38), (8, .int z46)] rfl rfl ⟨rfl, rfl, rfl, rfl, rfl, rfl, rfl, rfl, rfl, trivial⟩ ?_
                                  exact ih39 z46 h45 I45 f45 (by omega) (by omega) (by omega) (fun q => by (by_cases hc : q = z42.toInt.toNat); (· refine ⟨fun _ => ?_, fun hn => absurd (by omega) hn⟩; rw [hc]; refine u45.1.trans (e44.symm.trans (((w39_0 z43.toInt.toNat).2 (by omega)).trans ?_)); congr 1; omega); (· refine ⟨fun hq => (u45.2 _ _ (Or.inr hc)).trans ((w39_0 q).1 (by omega)), fun hn => (u45.2 _ _ (Or.inr hc)).trans ((w39_0 q).2 (by omega))⟩)) (by omega)
                                · refine te_iload (p2 := 163) rfl rfl rfl ?_
                                  refine te_iconst (p2 := 164) (x := 1) rfl rfl (by decide) ?_
                                  refine ar_sub (p2 := 165) rfl rfl rfl (show Int32.toInt 1 = 1 from rfl) (by omega) (by omega) (fun z47 e47 f47 => ?_)
                                  refine te_iload (p2 := 167) rfl rfl rfl ?_
                                  refine ar_sub (p2 := 168) rfl rfl rfl rfl (by omega) (by omega) (fun z48 e48 f48 => ?_)
                                  refine te_goto rfl ?_
                                  refine te_istore (p2 := 175) (lv2 := [(9, .int z48), (0, .ref 164), (1, .int x1), (2, .int x2), (3, .int x3), (4, .int x4), (5, .int x5), (6, .int z36), (7, .int z38), (8, .int v39_8)]) rfl rfl (by decide) rfl ?_
                                  refine te_aload_n (p2 := 176) rfl rfl rfl ?_
                                  refine tg_r (p2 := 179) (i := 148) (r := 210) rfl rfl I39 rfl rfl rfl ?_
                                  refine te_iload (p2 := 181) rfl rfl rfl ?_
                                  refine te_iload (p2 := 183) rfl rfl rfl ?_
                                  refine ar_add (p2 := 184) rfl rfl rfl rfl (by omega) (by omega) (fun z49 e49 f49 => ?_)
                                  refine te_aload_n (p2 := 185) rfl rfl rfl ?_
                                  refine tg_r (p2 := 188) (i := 148) (r := 210) rfl rfl I39 rfl rfl rfl ?_
                                  refine te_iload (p2 := 190) rfl rfl rfl ?_
                                  refine te_iload (p2 := 192) rfl rfl rfl ?_
                                  refine ar_add (p2 := 193) rfl rfl rfl rfl (by omega) (by omega) (fun z50 e50 f50 => ?_)
                                  refine tl_i (p2 := 194) (i := 194) (n := 160) rfl rfl I39 rfl rfl rfl rfl (by omega) (by omega) (fun y51 a51 b51 g51 e51 => ?_)
                                  refine ts_i (p2 := 195) (i := 194) (n := 160) rfl rfl I39 rfl rfl rfl rfl (by omega) (by omega) (i32_lo _) (i32_hi _) (i32_ho _) rfl (fun h52 I52 u52 => ?_)
                                  have f52 := fr_st (F := F_X12_copy) 0 f39 u52 rfl (by omega) (by omega)
                                  refine ar_inc (p2 := 198) (x := v39_8) rfl rfl (by decide) rfl (by decide) rfl (by omega) (by omega) (fun z53 e53 f53 => ?_)
                                  show EvP _ _ _ (198, [(8, .int z53), (9, .int z48), (0, .ref 164), (1, .int x1), (2, .int x2), (3, .int x3), (4, .int x4), (5, .int x5), (6, .int z36), (7, .int z38)], [], h52) _
                                  refine te_goto rfl ?_
                                  refine te_lv [(0, .ref 164), (1, .int x1), (2, .int x2), (3, .int x3), (4, .int x4), (5, .int x5), (6, .int z36), (7, .int z38), (8, .int z53)] rfl rfl ⟨rfl, rfl, rfl, rfl, rfl, rfl, rfl, rfl, rfl, trivial⟩ ?_
                                  exact ih39 z53 h52 I52 f52 (by omega) (by omega) (by omega) (fun q => by (by_cases hc : q = z49.toInt.toNat); (· refine ⟨fun _ => ?_, fun hn => absurd (by omega) hn⟩; rw [hc]; refine u52.1.trans (e51.symm.trans (((w39_0 z50.toInt.toNat).2 (by omega)).trans ?_)); congr 1; omega); (· refine ⟨fun hq => (u52.2 _ _ (Or.inr hc)).trans ((w39_0 q).1 (by omega)), fun hn => (u52.2 _ _ (Or.inr hc)).trans ((w39_0 q).2 (by omega))⟩)) (by omega)
                          refine te_lv [(0, .ref 164), (1, .int x1), (2, .int x2), (3, .int x3), (4, .int x4), (5, .int x5), (6, .int z36), (7, .int z38), (8, .int 0)] rfl rfl ⟨rfl, rfl, rfl, rfl, rfl, rfl, rfl, rfl, rfl, trivial⟩ ?_
                          exact lp39 41 0 h hI f0 (by decide) (by decide) (by have cc0 := (show Int32.toInt 0 = 0 from rfl); omega) (fun q => ⟨fun hq => absurd hq (by have := (show Int32.toInt 0 = 0 from rfl); omega), fun _ => rfl⟩) (by have cc0 := (show Int32.toInt 0 = 0 from rfl); omega)
                        · refine te_bipush (p2 := 126) (x := (-12)) rfl rfl (by decide) ?_
                          exact te_iret rfl rfl ⟨hI, f0, _, rfl, Or.inl ⟨by omega, y5, y24, y10, y27, e5, e24, e10, e27, (by unfold cpT; (repeat' split) <;> first | (exfalso; omega) | rfl)⟩, (fun hy => absurd hy (by rw [(show Int32.toInt (-12) = (-12) from rfl)]; decide)), (fun s i hs hi hn => rfl)⟩
          · refine te_bipush (p2 := 61) (x := (-13)) rfl rfl (by decide) ?_
            obtain ⟨v54, e54, y54, w54, a54, b54, _⟩ := hI.2.1 193 x1.toInt.toNat (.inl (0, 40, 9999999999)) (tq_row rfl (by omega))
            subst w54
            obtain ⟨v55, e55, y55, w55, a55, b55, _⟩ := hI.2.1 193 x3.toInt.toNat (.inl (0, 40, 9999999999)) (tq_row rfl (by omega))
            subst w55
            exact te_iret rfl rfl ⟨hI, f0, _, rfl, Or.inl ⟨by omega, y5, y54, y10, y55, e5, e54, e10, e55, (by unfold cpT; (repeat' split) <;> first | (exfalso; omega) | rfl)⟩, (fun hy => absurd hy (by rw [(show Int32.toInt (-13) = (-13) from rfl)]; decide)), (fun s i hs hi hn => rfl)⟩
        · refine te_bipush (p2 := 43) (x := (-11)) rfl rfl (by decide) ?_
          obtain ⟨v56, e56, y56, w56, a56, b56, _⟩ := hI.2.1 193 x1.toInt.toNat (.inl (0, 40, 9999999999)) (tq_row rfl (by omega))
          subst w56
          obtain ⟨v57, e57, y57, w57, a57, b57, _⟩ := hI.2.1 193 x3.toInt.toNat (.inl (0, 40, 9999999999)) (tq_row rfl (by omega))
          subst w57
          exact te_iret rfl rfl ⟨hI, f0, _, rfl, Or.inl ⟨by omega, y5, y56, y10, y57, e5, e56, e10, e57, (by unfold cpT; (repeat' split) <;> first | (exfalso; omega) | rfl)⟩, (fun hy => absurd hy (by rw [(show Int32.toInt (-11) = (-11) from rfl)]; decide)), (fun s i hs hi hn => rfl)⟩
    · subst w3
      have cc3_1 := (show Int32.toInt 0 = 0 from rfl)
      have cc3_2 := (show Int32.toInt 3 = 3 from rfl)
      refine tz_ne (p2 := 18) rfl rfl (show Int32.toInt 0 = 0 from rfl) (fun c58 => absurd c58 (by omega)) (fun c58 => ?_)
      refine te_bipush (p2 := 20) (x := (-2)) rfl rfl (by decide) ?_
      exact te_iret rfl rfl ⟨hI, f0, _, rfl, Or.inr ⟨by omega, rfl⟩, (fun hy => absurd hy (by rw [(show Int32.toInt (-2) = (-2) from rfl)]; decide)), (fun s i hs hi hn => rfl)⟩
  · subst w1
    have cc1_1 := (show Int32.toInt 0 = 0 from rfl)
    have cc1_2 := (show Int32.toInt 3 = 3 from rfl)
    refine tz_eq (p2 := 9) rfl rfl (show Int32.toInt 0 = 0 from rfl) (fun c59 => ?_) (fun c59 => absurd c59 (by omega))
    refine te_bipush (p2 := 20) (x := (-2)) rfl rfl (by decide) ?_
    exact te_iret rfl rfl ⟨hI, f0, _, rfl, Or.inr ⟨by omega, rfl⟩, (fun hy => absurd hy (by rw [(show Int32.toInt (-2) = (-2) from rfl)]; decide)), (fun s i hs hi hn => rfl)⟩
def fP (x1 x2 x3 x4 p : Int32) : Int32 := if 0 ≤ x1.toInt ∧ x1.toInt ≤ 99 then (if 1 ≤ x2.toInt ∧ x2.toInt ≤ 9 ∧ 0 ≤ x3.toInt ∧ x3.toInt ≤ 99 ∧ 0 ≤ x4.toInt ∧ x4.toInt ≤ 9 then (if 24 ≤ p.toInt then -4 else p) else -2) else -1
def gP (x1 x2 x3 x4 p : Int32) : Int32 := if 0 ≤ x1.toInt ∧ x1.toInt ≤ 99 then (if 1 ≤ x2.toInt ∧ x2.toInt ≤ 9 ∧ 0 ≤ x3.toInt ∧ x3.toInt ≤ 99 ∧ 0 ≤ x4.toInt ∧ x4.toInt ≤ 9 then (if 24 ≤ p.toInt then p else p + 1) else p) else p
abbrev Q1_person (x1 x2 x3 x4 : Int32) (y : Int32) (h h2 : im_H) : Prop := ∃ p : Int32, rd h 1 2 = some (.int p) ∧ y = fP x1 x2 x3 x4 p ∧ rd h2 1 2 = some (.int (gP x1 x2 x3 x4 p))
set_option maxRecDepth 20000 in
set_option maxHeartbeats 4000000 in
theorem c_X11_person {x1 : Int32} {x2 : Int32} {x3 : Int32} {x4 : Int32} {h : im_H} (hI : tI h)  : CaP 8 62 [.ref 16, .int x1, .int x2, .int x3, .int x4] h (fun v h2 => tI h2 ∧ fr F_X11_person h h2 ∧ ∃ y : Int32, v = some (.int y) ∧ Q1_person x1 x2 x3 x4 y h h2) := by
  refine cap_of (d := 7) (M := mX11_person) rfl (Nat.le_of_ble_eq_true rfl) ?_
  show EvP im_K0 7 mX11_person (0, [(0, .ref 16), (1, .int x1), (2, .int x2), (3, .int x3), (4, .int x4)], [], h) _
  have f0 : fr F_X11_person h h := fr_rf
  refine te_iload_n (p2 := 1) rfl rfl rfl ?_
  refine te_bipush (p2 := 3) (x := 100) rfl rfl (by decide) ?_
  refine cS_pI (p2 := 6) rfl rfl rfl rfl (t_X11_within (n := x1) (b := 100) hI ) (by decide) (fun y1 r1 => ?_)
  rcases r1 with ⟨w1, c1⟩ | ⟨w1, c1⟩
  · subst w1
    have cc1_1 := (show Int32.toInt 100 = 100 from rfl)
    refine tz_ne (p2 := 9) rfl rfl (show Int32.toInt 1 = 1 from rfl) (fun c2 => ?_) (fun c2 => absurd c2 (by omega))
    refine te_iload_n (p2 := 12) rfl rfl rfl ?_
    refine te_iconst (p2 := 13) (x := 1) rfl rfl (by decide) ?_
    refine te_bipush (p2 := 15) (x := 9) rfl rfl (by decide) ?_
    refine cS_pI (p2 := 18) rfl rfl rfl rfl (t_X11_between (n := x2) (a := 1) (b := 9) hI ) (by decide) (fun y3 r3 => ?_)
    rcases r3 with ⟨w3, c3⟩ | ⟨w3, c3⟩
    · subst w3
      have cc3_1 := (show Int32.toInt 1 = 1 from rfl)
      have cc3_2 := (show Int32.toInt 9 = 9 from rfl)
      refine tz_eq (p2 := 21) rfl rfl (show Int32.toInt 1 = 1 from rfl) (fun c4 => absurd c4 (by omega)) (fun c4 => ?_)
      refine te_iload_n (p2 := 22) rfl rfl rfl ?_
      refine te_iconst (p2 := 23) (x := 0) rfl rfl (by decide) ?_
      refine te_bipush (p2 := 25) (x := 99) rfl rfl (by decide) ?_
      refine cS_pI (p2 := 28) rfl rfl rfl rfl (t_X11_between (n := x3) (a := 0) (b := 99) hI ) (by decide) (fun y5 r5 => ?_)
      rcases r5 with ⟨w5, c5⟩ | ⟨w5, c5⟩
      · subst w5
        have cc5_1 := (show Int32.toInt 0 = 0 from rfl)
        have cc5_2 := (show Int32.toInt 99 = 99 from rfl)
        refine tz_eq (p2 := 31) rfl rfl (show Int32.toInt 1 = 1 from rfl) (fun c6 => absurd c6 (by omega)) (fun c6 => ?_)
        refine te_iload (p2 := 33) rfl rfl rfl ?_
        refine te_iconst (p2 := 34) (x := 0) rfl rfl (by decide) ?_
        refine te_bipush (p2 := 36) (x := 9) rfl rfl (by decide) ?_
        refine cS_pI (p2 := 39) rfl rfl rfl rfl (t_X11_between (n := x4) (a := 0) (b := 9) hI ) (by decide) (fun y7 r7 => ?_)
        rcases r7 with ⟨w7, c7⟩ | ⟨w7, c7⟩
        · subst w7
          have cc7_1 := (show Int32.toInt 0 = 0 from rfl)
          have cc7_2 := (show Int32.toInt 9 = 9 from rfl)
          refine tz_ne (p2 := 42) rfl rfl (show Int32.toInt 1 = 1 from rfl) (fun c8 => ?_) (fun c8 => absurd c8 (by omega))
          refine te_aload_n (p2 := 46) rfl rfl rfl ?_
          refine tg_r (p2 := 49) (i := 0) (r := 17) rfl rfl hI rfl rfl rfl ?_
          refine tg_i (p2 := 52) (i := 1) rfl rfl hI rfl rfl rfl (fun y9 a9 b9 e9 => ?_)
          refine te_bipush (p2 := 54) (x := 24) rfl rfl (by decide) ?_
          refine tb_lt (p2 := 57) rfl rfl rfl (show Int32.toInt 24 = 24 from rfl) (fun c10 => ?_) (fun c10 => ?_)
          · refine te_aload_n (p2 := 61) rfl rfl rfl ?_
            refine tg_r (p2 := 64) (i := 0) (r := 17) rfl rfl hI rfl rfl rfl ?_
            refine tg_e (p2 := 67) (i := 1) (v := .int y9) rfl rfl hI rfl rfl e9 ?_
            refine te_istore (p2 := 69) (lv2 := [(5, .int y9), (0, .ref 16), (1, .int x1), (2, .int x2), (3, .int x3), (4, .int x4)]) rfl rfl (by decide) rfl ?_
            refine te_aload_n (p2 := 70) rfl rfl rfl ?_
            refine tg_r (p2 := 73) (i := 0) (r := 17) rfl rfl hI rfl rfl rfl ?_
            refine tg_r (p2 := 76) (i := 1) (r := 19) rfl rfl hI rfl rfl rfl ?_
            refine te_iload (p2 := 78) rfl rfl rfl ?_
            refine te_iload_n (p2 := 79) rfl rfl rfl ?_
            refine ts_i (p2 := 80) (i := 3) (n := 24) rfl rfl hI rfl rfl rfl rfl (by omega) (by omega) (i32_lo _) (i32_hi _) (i32_ho _) rfl (fun h11 I11 u11 => ?_)
            have f11 := fr_st (F := F_X11_person) 2 f0 u11 rfl (by omega) (by omega)
            refine te_aload_n (p2 := 81) rfl rfl rfl ?_
            refine tg_r (p2 := 84) (i := 0) (r := 17) rfl rfl I11 rfl rfl rfl ?_
            refine tg_r (p2 := 87) (i := 1) (r := 20) rfl rfl I11 rfl rfl rfl ?_
            refine te_iload (p2 := 89) rfl rfl rfl ?_
            refine te_iload_n (p2 := 90) rfl rfl rfl ?_
            refine ts_i (p2 := 91) (i := 4) (n := 24) rfl rfl I11 rfl rfl rfl rfl (by omega) (by omega) (i32_lo _) (i32_hi _) (i32_ho _) rfl (fun h12 I12 u12 => ?_)
            have f12 := fr_st (F := F_X11_person) 3 f11 u12 rfl (by omega) (by omega)
            refine te_aload_n (p2 := 92) rfl rfl rfl ?_
            refine tg_r (p2 := 95) (i := 0) (r := 17) rfl rfl I12 rfl rfl rfl ?_
            refine tg_r (p2 := 98) (i := 1) (r := 21) rfl rfl I12 rfl rfl rfl ?_
            refine te_iload (p2 := 100) rfl rfl rfl ?_
            refine te_iload (p2 := 102) rfl rfl rfl ?_
            refine ts_i (p2 := 103) (i := 5) (n := 24) rfl rfl I12 rfl rfl rfl rfl (by omega) (by omega) (i32_lo _) (i32_hi _) (i32_ho _) rfl (fun h13 I13 u13 => ?_)
            have f13 := fr_st (F := F_X11_person) 4 f12 u13 rfl (by omega) (by omega)
            refine te_aload_n (p2 := 104) rfl rfl rfl ?_
            refine tg_r (p2 := 107) (i := 0) (r := 39) rfl rfl I13 rfl rfl rfl ?_
            refine tg_r (p2 := 110) (i := 23) (r := 42) rfl rfl I13 rfl rfl rfl ?_
            refine te_iload (p2 := 112) rfl rfl rfl ?_
            refine te_iload_n (p2 := 113) rfl rfl rfl ?_
            refine ts_i (p2 := 114) (i := 26) (n := 24) rfl rfl I13 rfl rfl rfl rfl (by omega) (by omega) (i32_lo _) (i32_hi _) (i32_ho _) rfl (fun h14 I14 u14 => ?_)
            have f14 := fr_st (F := F_X11_person) 1 f13 u14 rfl (by omega) (by omega)
            refine te_aload_n (p2 := 115) rfl rfl rfl ?_
            refine tg_r (p2 := 118) (i := 0) (r := 17) rfl rfl I14 rfl rfl rfl ?_
            refine te_dup (p2 := 119) rfl rfl rfl ?_
            refine tg_e (p2 := 122) (i := 1) (v := .int y9) rfl rfl I14 rfl rfl ((u14.2 _ _ (Or.inl (by decide))).trans ((u13.2 _ _ (Or.inl (by decide))).trans ((u12.2 _ _ (Or.inl (by decide))).trans ((u11.2 _ _ (Or.inl (by decide))).trans e9)))) ?_
            refine te_iconst (p2 := 123) (x := 1) rfl rfl (by decide) ?_
            refine ar_add (p2 := 124) rfl rfl rfl (show Int32.toInt 1 = 1 from rfl) (by omega) (by omega) (fun z15 e15 f15 => ?_)
            refine tp_i (p2 := 127) (i := 1) rfl rfl I14 rfl rfl (by decide) rfl rfl rfl (by omega) (by omega) (by omega) rfl (fun h16 I16 u16 => ?_)
            have f16 := fr_st (F := F_X11_person) 0 f14 u16 rfl (by decide) (by decide)
            refine te_iload (p2 := 129) rfl rfl rfl ?_
            exact te_iret rfl rfl ⟨I16, f16, _, rfl, y9, e9, (show y9 = fP x1 x2 x3 x4 y9 from by (unfold fP; (repeat' split) <;> first | (exfalso; omega) | rfl | assumption | (exact i32_ext (by omega)) | (subst_vars; rfl))), u16.1.trans (congrArg (fun t => some (Value.int t)) (show z15 = gP x1 x2 x3 x4 y9 from by (unfold gP; (repeat' split) <;> first | (exfalso; omega) | rfl | assumption | (exact i32_ext (by omega)) | (subst_vars; rfl))))⟩
          · refine te_bipush (p2 := 59) (x := (-4)) rfl rfl (by decide) ?_
            exact te_iret rfl rfl ⟨hI, f0, _, rfl, y9, e9, (show (-4) = fP x1 x2 x3 x4 y9 from by (have c0_ := (show Int32.toInt (-4) = (-4) from rfl); unfold fP; (repeat' split) <;> first | (exfalso; omega) | rfl | assumption | (exact i32_ext (by omega)) | (subst_vars; rfl))), e9.trans (congrArg (fun t => some (Value.int t)) (show y9 = gP x1 x2 x3 x4 y9 from by (have c0_ := (show Int32.toInt (-4) = (-4) from rfl); unfold gP; (repeat' split) <;> first | (exfalso; omega) | rfl | assumption | (exact i32_ext (by omega)) | (subst_vars; rfl))))⟩
        · subst w7
          have cc7_1 := (show Int32.toInt 0 = 0 from rfl)
          have cc7_2 := (show Int32.toInt 9 = 9 from rfl)
          refine tz_ne (p2 := 42) rfl rfl (show Int32.toInt 0 = 0 from rfl) (fun c17 => absurd c17 (by omega)) (fun c17 => ?_)
          refine te_bipush (p2 := 44) (x := (-2)) rfl rfl (by decide) ?_
          obtain ⟨v18, e18, y18, w18, a18, b18, _⟩ := hI.2.1 1 2 (.inl (0, 24, 9999999999)) rfl
          subst w18
          exact te_iret rfl rfl ⟨hI, f0, _, rfl, y18, e18, (show (-2) = fP x1 x2 x3 x4 y18 from by (have c0_ := (show Int32.toInt (-2) = (-2) from rfl); unfold fP; (repeat' split) <;> first | (exfalso; omega) | rfl | assumption | (exact i32_ext (by omega)) | (subst_vars; rfl))), e18.trans (congrArg (fun t => some (Value.int t)) (show y18 = gP x1 x2 x3 x4 y18 from by (have c0_ := (show Int32.toInt (-2) = (-2) from rfl); unfold gP; (repeat' split) <;> first | (exfalso; omega) | rfl | assumption | (exact i32_ext (by omega)) | (subst_vars; rfl))))⟩
      · subst w5
        have cc5_1 := (show Int32.toInt 0 = 0 from rfl)
        have cc5_2 := (show Int32.toInt 99 = 99 from rfl)
        refine tz_eq (p2 := 31) rfl rfl (show Int32.toInt 0 = 0 from rfl) (fun c19 => ?_) (fun c19 => absurd c19 (by omega))
        refine te_bipush (p2 := 44) (x := (-2)) rfl rfl (by decide) ?_
        obtain ⟨v20, e20, y20, w20, a20, b20, _⟩ := hI.2.1 1 2 (.inl (0, 24, 9999999999)) rfl
        subst w20
        exact te_iret rfl rfl ⟨hI, f0, _, rfl, y20, e20, (show (-2) = fP x1 x2 x3 x4 y20 from by (have c0_ := (show Int32.toInt (-2) = (-2) from rfl); unfold fP; (repeat' split) <;> first | (exfalso; omega) | rfl | assumption | (exact i32_ext (by omega)) | (subst_vars; rfl))), e20.trans (congrArg (fun t => some (Value.int t)) (show y20 = gP x1 x2 x3 x4 y20 from by (have c0_ := (show Int32.toInt (-2) = (-2) from rfl); unfold gP; (repeat' split) <;> first | (exfalso; omega) | rfl | assumption | (exact i32_ext (by omega)) | (subst_vars; rfl))))⟩
    · subst w3
      have cc3_1 := (show Int32.toInt 1 = 1 from rfl)
      have cc3_2 := (show Int32.toInt 9 = 9 from rfl)
      refine tz_eq (p2 := 21) rfl rfl (show Int32.toInt 0 = 0 from rfl) (fun c21 => ?_) (fun c21 => absurd c21 (by omega))
      refine te_bipush (p2 := 44) (x := (-2)) rfl rfl (by decide) ?_
      obtain ⟨v22, e22, y22, w22, a22, b22, _⟩ := hI.2.1 1 2 (.inl (0, 24, 9999999999)) rfl
      subst w22
      exact te_iret rfl rfl ⟨hI, f0, _, rfl, y22, e22, (show (-2) = fP x1 x2 x3 x4 y22 from by (have c0_ := (show Int32.toInt (-2) = (-2) from rfl); unfold fP; (repeat' split) <;> first | (exfalso; omega) | rfl | assumption | (exact i32_ext (by omega)) | (subst_vars; rfl))), e22.trans (congrArg (fun t => some (Value.int t)) (show y22 = gP x1 x2 x3 x4 y22 from by (have c0_ := (show Int32.toInt (-2) = (-2) from rfl); unfold gP; (repeat' split) <;> first | (exfalso; omega) | rfl | assumption | (exact i32_ext (by omega)) | (subst_vars; rfl))))⟩
  · subst w1
    have cc1_1 := (show Int32.toInt 100 = 100 from rfl)
    refine tz_ne (p2 := 9) rfl rfl (show Int32.toInt 0 = 0 from rfl) (fun c23 => absurd c23 (by omega)) (fun c23 => ?_)
    refine te_iconst (p2 := 10) (x := (-1)) rfl rfl (by decide) ?_
    obtain ⟨v24, e24, y24, w24, a24, b24, _⟩ := hI.2.1 1 2 (.inl (0, 24, 9999999999)) rfl
    subst w24
    exact te_iret rfl rfl ⟨hI, f0, _, rfl, y24, e24, (show (-1) = fP x1 x2 x3 x4 y24 from by (have c0_ := (show Int32.toInt (-1) = (-1) from rfl); unfold fP; (repeat' split) <;> first | (exfalso; omega) | rfl | assumption | (exact i32_ext (by omega)) | (subst_vars; rfl))), e24.trans (congrArg (fun t => some (Value.int t)) (show y24 = gP x1 x2 x3 x4 y24 from by (have c0_ := (show Int32.toInt (-1) = (-1) from rfl); unfold gP; (repeat' split) <;> first | (exfalso; omega) | rfl | assumption | (exact i32_ext (by omega)) | (subst_vars; rfl))))⟩
abbrev Q2_person (x1 x2 x3 x4 : Int32) (y : Int32) (h h2 : im_H) : Prop := ∃ p : Int32, rd h 148 10 = some (.int p) ∧ y = fP x1 x2 x3 x4 p ∧ rd h2 148 10 = some (.int (gP x1 x2 x3 x4 p))
set_option maxRecDepth 20000 in
set_option maxHeartbeats 4000000 in
theorem c_X12_person {x1 : Int32} {x2 : Int32} {x3 : Int32} {x4 : Int32} {h : im_H} (hI : tI h)  : CaP 8 124 [.ref 164, .int x1, .int x2, .int x3, .int x4] h (fun v h2 => tI h2 ∧ fr F_X12_person h h2 ∧ ∃ y : Int32, v = some (.int y) ∧ Q2_person x1 x2 x3 x4 y h h2) := by
  refine cap_of (d := 7) (M := mX12_person) rfl (Nat.le_of_ble_eq_true rfl) ?_
  show EvP im_K0 7 mX12_person (0, [(0, .ref 164), (1, .int x1), (2, .int x2), (3, .int x3), (4, .int x4)], [], h) _
  have f0 : fr F_X12_person h h := fr_rf
  refine te_iload_n (p2 := 1) rfl rfl rfl ?_
  refine cS_pI (p2 := 4) rfl rfl rfl rfl (t_X12_isCell (n := x1) hI ) (by decide) (fun y1 r1 => ?_)
  rcases r1 with ⟨w1, c1⟩ | ⟨w1, c1⟩
  · subst w1
    refine tz_ne (p2 := 7) rfl rfl (show Int32.toInt 1 = 1 from rfl) (fun c2 => ?_) (fun c2 => absurd c2 (by omega))
    refine te_iload_n (p2 := 10) rfl rfl rfl ?_
    refine te_iconst (p2 := 11) (x := 1) rfl rfl (by decide) ?_
    refine te_bipush (p2 := 13) (x := 9) rfl rfl (by decide) ?_
    refine cS_pI (p2 := 16) rfl rfl rfl rfl (t_X12_in (n := x2) (a := 1) (b := 9) hI ) (by decide) (fun y3 r3 => ?_)
    rcases r3 with ⟨w3, c3⟩ | ⟨w3, c3⟩
    · subst w3
      have cc3_1 := (show Int32.toInt 1 = 1 from rfl)
      have cc3_2 := (show Int32.toInt 9 = 9 from rfl)
      refine tz_eq (p2 := 19) rfl rfl (show Int32.toInt 1 = 1 from rfl) (fun c4 => absurd c4 (by omega)) (fun c4 => ?_)
      refine te_iload_n (p2 := 20) rfl rfl rfl ?_
      refine te_iconst (p2 := 21) (x := 0) rfl rfl (by decide) ?_
      refine te_bipush (p2 := 23) (x := 99) rfl rfl (by decide) ?_
      refine cS_pI (p2 := 26) rfl rfl rfl rfl (t_X12_in (n := x3) (a := 0) (b := 99) hI ) (by decide) (fun y5 r5 => ?_)
      rcases r5 with ⟨w5, c5⟩ | ⟨w5, c5⟩
      · subst w5
        have cc5_1 := (show Int32.toInt 0 = 0 from rfl)
        have cc5_2 := (show Int32.toInt 99 = 99 from rfl)
        refine tz_eq (p2 := 29) rfl rfl (show Int32.toInt 1 = 1 from rfl) (fun c6 => absurd c6 (by omega)) (fun c6 => ?_)
        refine te_iload (p2 := 31) rfl rfl rfl ?_
        refine te_iconst (p2 := 32) (x := 0) rfl rfl (by decide) ?_
        refine te_bipush (p2 := 34) (x := 9) rfl rfl (by decide) ?_
        refine cS_pI (p2 := 37) rfl rfl rfl rfl (t_X12_in (n := x4) (a := 0) (b := 9) hI ) (by decide) (fun y7 r7 => ?_)
        rcases r7 with ⟨w7, c7⟩ | ⟨w7, c7⟩
        · subst w7
          have cc7_1 := (show Int32.toInt 0 = 0 from rfl)
          have cc7_2 := (show Int32.toInt 9 = 9 from rfl)
          refine tz_ne (p2 := 40) rfl rfl (show Int32.toInt 1 = 1 from rfl) (fun c8 => ?_) (fun c8 => absurd c8 (by omega))
          refine te_aload_n (p2 := 44) rfl rfl rfl ?_
          refine tg_i (p2 := 47) (i := 148) rfl rfl hI rfl rfl rfl (fun y9 a9 b9 e9 => ?_)
          refine te_bipush (p2 := 49) (x := 24) rfl rfl (by decide) ?_
          refine tb_ne (p2 := 52) rfl rfl rfl (show Int32.toInt 24 = 24 from rfl) (fun c10 => ?_) (fun c10 => ?_)
          · refine te_aload_n (p2 := 56) rfl rfl rfl ?_
            refine tg_r (p2 := 59) (i := 148) (r := 173) rfl rfl hI rfl rfl rfl ?_
            refine te_aload_n (p2 := 60) rfl rfl rfl ?_
            refine tg_e (p2 := 63) (i := 148) (v := .int y9) rfl rfl hI rfl rfl e9 ?_
            refine te_iload_n (p2 := 64) rfl rfl rfl ?_
            refine ts_i (p2 := 65) (i := 157) (n := 24) rfl rfl hI rfl rfl rfl rfl (by omega) (by omega) (i32_lo _) (i32_hi _) (i32_ho _) rfl (fun h11 I11 u11 => ?_)
            have f11 := fr_st (F := F_X12_person) 2 f0 u11 rfl (by omega) (by omega)
            refine te_aload_n (p2 := 66) rfl rfl rfl ?_
            refine tg_r (p2 := 69) (i := 148) (r := 174) rfl rfl I11 rfl rfl rfl ?_
            refine te_aload_n (p2 := 70) rfl rfl rfl ?_
            refine tg_e (p2 := 73) (i := 148) (v := .int y9) rfl rfl I11 rfl rfl ((u11.2 _ _ (Or.inl (by decide))).trans e9) ?_
            refine te_iload_n (p2 := 74) rfl rfl rfl ?_
            refine ts_i (p2 := 75) (i := 158) (n := 24) rfl rfl I11 rfl rfl rfl rfl (by omega) (by omega) (i32_lo _) (i32_hi _) (i32_ho _) rfl (fun h12 I12 u12 => ?_)
            have f12 := fr_st (F := F_X12_person) 3 f11 u12 rfl (by omega) (by omega)
            refine te_aload_n (p2 := 76) rfl rfl rfl ?_
            refine tg_r (p2 := 79) (i := 148) (r := 175) rfl rfl I12 rfl rfl rfl ?_
            refine te_aload_n (p2 := 80) rfl rfl rfl ?_
            refine tg_e (p2 := 83) (i := 148) (v := .int y9) rfl rfl I12 rfl rfl ((u12.2 _ _ (Or.inl (by decide))).trans ((u11.2 _ _ (Or.inl (by decide))).trans e9)) ?_
            refine te_iload (p2 := 85) rfl rfl rfl ?_
            refine ts_i (p2 := 86) (i := 159) (n := 24) rfl rfl I12 rfl rfl rfl rfl (by omega) (by omega) (i32_lo _) (i32_hi _) (i32_ho _) rfl (fun h13 I13 u13 => ?_)
            have f13 := fr_st (F := F_X12_person) 4 f12 u13 rfl (by omega) (by omega)
            refine te_aload_n (p2 := 87) rfl rfl rfl ?_
            refine tg_r (p2 := 90) (i := 148) (r := 165) rfl rfl I13 rfl rfl rfl ?_
            refine te_sipush (p2 := 93) (x := 140) rfl rfl (by decide) ?_
            refine te_aload_n (p2 := 94) rfl rfl rfl ?_
            refine tg_e (p2 := 97) (i := 148) (v := .int y9) rfl rfl I13 rfl rfl ((u13.2 _ _ (Or.inl (by decide))).trans ((u12.2 _ _ (Or.inl (by decide))).trans ((u11.2 _ _ (Or.inl (by decide))).trans e9))) ?_
            refine ar_add (p2 := 98) rfl rfl (show Int32.toInt 140 = 140 from rfl) rfl (by omega) (by omega) (fun z14 e14 f14 => ?_)
            refine te_iload_n (p2 := 99) rfl rfl rfl ?_
            refine ts_i (p2 := 100) (i := 149) (n := 283) rfl rfl I13 rfl rfl rfl rfl (by omega) (by omega) (i32_lo _) (i32_hi _) (i32_ho _) rfl (fun h15 I15 u15 => ?_)
            have f15 := fr_st (F := F_X12_person) 1 f13 u15 rfl (by omega) (by omega)
            refine te_aload_n (p2 := 101) rfl rfl rfl ?_
            refine te_dup (p2 := 102) rfl rfl rfl ?_
            refine tg_e (p2 := 105) (i := 148) (v := .int y9) rfl rfl I15 rfl rfl ((u15.2 _ _ (Or.inl (by decide))).trans ((u13.2 _ _ (Or.inl (by decide))).trans ((u12.2 _ _ (Or.inl (by decide))).trans ((u11.2 _ _ (Or.inl (by decide))).trans e9)))) ?_
            refine te_iconst (p2 := 106) (x := 1) rfl rfl (by decide) ?_
            refine ar_add (p2 := 107) rfl rfl rfl (show Int32.toInt 1 = 1 from rfl) (by omega) (by omega) (fun z16 e16 f16 => ?_)
            refine tp_i (p2 := 110) (i := 148) rfl rfl I15 rfl rfl (by decide) rfl rfl rfl (by omega) (by omega) (by omega) rfl (fun h17 I17 u17 => ?_)
            have f17 := fr_st (F := F_X12_person) 0 f15 u17 rfl (by decide) (by decide)
            refine te_aload_n (p2 := 111) rfl rfl rfl ?_
            refine tg_e (p2 := 114) (i := 148) (v := .int z16) rfl rfl I17 rfl rfl u17.1 ?_
            refine te_iconst (p2 := 115) (x := 1) rfl rfl (by decide) ?_
            refine ar_sub (p2 := 116) rfl rfl rfl (show Int32.toInt 1 = 1 from rfl) (by omega) (by omega) (fun z18 e18 f18 => ?_)
            exact te_iret rfl rfl ⟨I17, f17, _, rfl, y9, e9, (show z18 = fP x1 x2 x3 x4 y9 from by (unfold fP; (repeat' split) <;> first | (exfalso; omega) | rfl | assumption | (exact i32_ext (by omega)) | (subst_vars; rfl))), u17.1.trans (congrArg (fun t => some (Value.int t)) (show z16 = gP x1 x2 x3 x4 y9 from by (unfold gP; (repeat' split) <;> first | (exfalso; omega) | rfl | assumption | (exact i32_ext (by omega)) | (subst_vars; rfl))))⟩
          · refine te_bipush (p2 := 54) (x := (-4)) rfl rfl (by decide) ?_
            exact te_iret rfl rfl ⟨hI, f0, _, rfl, y9, e9, (show (-4) = fP x1 x2 x3 x4 y9 from by (have c0_ := (show Int32.toInt (-4) = (-4) from rfl); unfold fP; (repeat' split) <;> first | (exfalso; omega) | rfl | assumption | (exact i32_ext (by omega)) | (subst_vars; rfl))), e9.trans (congrArg (fun t => some (Value.int t)) (show y9 = gP x1 x2 x3 x4 y9 from by (have c0_ := (show Int32.toInt (-4) = (-4) from rfl); unfold gP; (repeat' split) <;> first | (exfalso; omega) | rfl | assumption | (exact i32_ext (by omega)) | (subst_vars; rfl))))⟩
        · subst w7
          have cc7_1 := (show Int32.toInt 0 = 0 from rfl)
          have cc7_2 := (show Int32.toInt 9 = 9 from rfl)
          refine tz_ne (p2 := 40) rfl rfl (show Int32.toInt 0 = 0 from rfl) (fun c19 => absurd c19 (by omega)) (fun c19 => ?_)
          refine te_bipush (p2 := 42) (x := (-2)) rfl rfl (by decide) ?_
          obtain ⟨v20, e20, y20, w20, a20, b20, _⟩ := hI.2.1 148 10 (.inl (0, 24, 9999999999)) rfl
          subst w20
          exact te_iret rfl rfl ⟨hI, f0, _, rfl, y20, e20, (show (-2) = fP x1 x2 x3 x4 y20 from by (have c0_ := (show Int32.toInt (-2) = (-2) from rfl); unfold fP; (repeat' split) <;> first | (exfalso; omega) | rfl | assumption | (exact i32_ext (by omega)) | (subst_vars; rfl))), e20.trans (congrArg (fun t => some (Value.int t)) (show y20 = gP x1 x2 x3 x4 y20 from by (have c0_ := (show Int32.toInt (-2) = (-2) from rfl); unfold gP; (repeat' split) <;> first | (exfalso; omega) | rfl | assumption | (exact i32_ext (by omega)) | (subst_vars; rfl))))⟩
      · subst w5
        have cc5_1 := (show Int32.toInt 0 = 0 from rfl)
        have cc5_2 := (show Int32.toInt 99 = 99 from rfl)
        refine tz_eq (p2 := 29) rfl rfl (show Int32.toInt 0 = 0 from rfl) (fun c21 => ?_) (fun c21 => absurd c21 (by omega))
        refine te_bipush (p2 := 42) (x := (-2)) rfl rfl (by decide) ?_
        obtain ⟨v22, e22, y22, w22, a22, b22, _⟩ := hI.2.1 148 10 (.inl (0, 24, 9999999999)) rfl
        subst w22
        exact te_iret rfl rfl ⟨hI, f0, _, rfl, y22, e22, (show (-2) = fP x1 x2 x3 x4 y22 from by (have c0_ := (show Int32.toInt (-2) = (-2) from rfl); unfold fP; (repeat' split) <;> first | (exfalso; omega) | rfl | assumption | (exact i32_ext (by omega)) | (subst_vars; rfl))), e22.trans (congrArg (fun t => some (Value.int t)) (show y22 = gP x1 x2 x3 x4 y22 from by (have c0_ := (show Int32.toInt (-2) = (-2) from rfl); unfold gP; (repeat' split) <;> first | (exfalso; omega) | rfl | assumption | (exact i32_ext (by omega)) | (subst_vars; rfl))))⟩
    · subst w3
      have cc3_1 := (show Int32.toInt 1 = 1 from rfl)
      have cc3_2 := (show Int32.toInt 9 = 9 from rfl)
      refine tz_eq (p2 := 19) rfl rfl (show Int32.toInt 0 = 0 from rfl) (fun c23 => ?_) (fun c23 => absurd c23 (by omega))
      refine te_bipush (p2 := 42) (x := (-2)) rfl rfl (by decide) ?_
      obtain ⟨v24, e24, y24, w24, a24, b24, _⟩ := hI.2.1 148 10 (.inl (0, 24, 9999999999)) rfl
      subst w24
      exact te_iret rfl rfl ⟨hI, f0, _, rfl, y24, e24, (show (-2) = fP x1 x2 x3 x4 y24 from by (have c0_ := (show Int32.toInt (-2) = (-2) from rfl); unfold fP; (repeat' split) <;> first | (exfalso; omega) | rfl | assumption | (exact i32_ext (by omega)) | (subst_vars; rfl))), e24.trans (congrArg (fun t => some (Value.int t)) (show y24 = gP x1 x2 x3 x4 y24 from by (have c0_ := (show Int32.toInt (-2) = (-2) from rfl); unfold gP; (repeat' split) <;> first | (exfalso; omega) | rfl | assumption | (exact i32_ext (by omega)) | (subst_vars; rfl))))⟩
  · subst w1
    refine tz_ne (p2 := 7) rfl rfl (show Int32.toInt 0 = 0 from rfl) (fun c25 => absurd c25 (by omega)) (fun c25 => ?_)
    refine te_iconst (p2 := 8) (x := (-1)) rfl rfl (by decide) ?_
    obtain ⟨v26, e26, y26, w26, a26, b26, _⟩ := hI.2.1 148 10 (.inl (0, 24, 9999999999)) rfl
    subst w26
    exact te_iret rfl rfl ⟨hI, f0, _, rfl, y26, e26, (show (-1) = fP x1 x2 x3 x4 y26 from by (have c0_ := (show Int32.toInt (-1) = (-1) from rfl); unfold fP; (repeat' split) <;> first | (exfalso; omega) | rfl | assumption | (exact i32_ext (by omega)) | (subst_vars; rfl))), e26.trans (congrArg (fun t => some (Value.int t)) (show y26 = gP x1 x2 x3 x4 y26 from by (have c0_ := (show Int32.toInt (-1) = (-1) from rfl); unfold gP; (repeat' split) <;> first | (exfalso; omega) | rfl | assumption | (exact i32_ext (by omega)) | (subst_vars; rfl))))⟩
def vl (h : im_H) (c o i : Nat) : Int32 := if i < 40 then (match rd h c (o + i) with | some (.int v) => v | _ => 0) else 0
theorem vl_of {h : im_H} {c o i : Nat} {a : Int32} (hi : i < 40) (e : rd h c (o + i) = some (.int a)) : vl h c o i = a := by
  unfold vl
  rw [if_pos hi, e]
def ppl (F : Nat → Int32) (fr sz : Int) : Nat → Nat → Int32 → Int32 → Int32 × Int32
  | 0, _, came, cnt => (came, cnt)
  | m + 1, k, came, cnt => if 0 ≤ fr ∧ fr + 4 * k + 4 ≤ sz then ppl F fr sz m (k + 1) (if 0 ≤ (fP (F (fr.toNat + 4 * k)) (F (fr.toNat + 4 * k + 1)) (F (fr.toNat + 4 * k + 2)) (F (fr.toNat + 4 * k + 3)) cnt).toInt then came + 1 else came) (gP (F (fr.toNat + 4 * k)) (F (fr.toNat + 4 * k + 1)) (F (fr.toNat + 4 * k + 2)) (F (fr.toNat + 4 * k + 3)) cnt) else (-12, cnt)
theorem ppl_step {F : Nat → Int32} {fr sz : Int} {m m2 k k2 : Nat} {came cnt came2 cnt2 a b c d y : Int32} (hm : m = m2 + 1) (hk : k + 1 = k2) (hc : 0 ≤ fr ∧ fr + 4 * k + 4 ≤ sz) (ha : F (fr.toNat + 4 * k) = a) (hb : F (fr.toNat + 4 * k + 1) = b) (hc2 : F (fr.toNat + 4 * k + 2) = c) (hd : F (fr.toNat + 4 * k + 3) = d) (hy : y = fP a b c d cnt) (h1 : 0 ≤ y.toInt → came2 = came + 1) (h2 : ¬ 0 ≤ y.toInt → came2 = came) (hg : cnt2 = gP a b c d cnt) : ppl F fr sz m2 k2 came2 cnt2 = ppl F fr sz m k came cnt := by
  subst hm hk ha hb hc2 hd hg hy
  show _ = ite _ _ _
  rw [if_pos hc]
  by_cases h : 0 ≤ (fP (F (fr.toNat + 4 * k)) (F (fr.toNat + 4 * k + 1)) (F (fr.toNat + 4 * k + 2)) (F (fr.toNat + 4 * k + 3)) cnt).toInt
  · rw [if_pos h, h1 h]
  · rw [if_neg h, h2 h]
theorem ppl_out {F : Nat → Int32} {fr sz : Int} {m m2 k : Nat} {came cnt : Int32} (hm : m = m2 + 1) (hc : ¬ (0 ≤ fr ∧ fr + 4 * k + 4 ≤ sz)) : ppl F fr sz m k came cnt = (-12, cnt) := by
  subst hm
  exact if_neg hc
theorem ppl_end {F : Nat → Int32} {fr sz : Int} {m k : Nat} {came cnt : Int32} (hm : m = 0) : ppl F fr sz m k came cnt = (came, cnt) := by
  subst hm
  rfl
def peT (F : Nat → Int32) (x2 x3 x4 q z p : Int32) : Int32 × Int32 := if 0 ≤ x2.toInt ∧ x2.toInt ≤ 2 ∧ 0 ≤ x4.toInt ∧ x4.toInt ≤ 10 then (if q.toInt = -1 then (-11, p) else if ¬ q.toInt = x2.toInt then (-13, p) else ppl F x3.toInt z.toInt x4.toInt.toNat 0 0 p) else (-2, p)
theorem add_nw {a b z : Int32} (e : a + b = z) (hb : 0 ≤ b.toInt) : 0 ≤ a.toInt → z.toInt = a.toInt + b.toInt ∨ (z.toInt = a.toInt + b.toInt - 4294967296 ∧ 2147483648 ≤ a.toInt + b.toInt) := by
  intro ha
  have h1 := i32_hi a
  have h2 := i32_hi b
  rw [← e, Int32.toInt_add]
  by_cases h : a.toInt + b.toInt < 2147483648
  · exact Or.inl (by rw [Int.bmod_def]; omega)
  · exact Or.inr (by rw [Int.bmod_def]; omega)
def bes (c o : Int32) : Prop := ∃ s : Int32, 0 ≤ s.toInt ∧ s.toInt < 4 ∧ nbr c s = o
def way (F : Nat → Int32) (z : Int) : Prop := ∀ i : Nat, (i : Int) < z → (0 ≤ (F i).toInt ∧ (F i).toInt ≤ 99) ∧ (0 < i → bes (F (i - 1)) (F i))
theorem way_0 {F : Nat → Int32} {z : Int} (h : z ≤ 0) : way F z := fun i hi => by exfalso; omega
theorem way_s {F : Nat → Int32} {z z2 : Int} {k : Nat} (w : way F z) (hk : (k : Int) = z) (h2 : z2 = z + 1) (hb : 0 ≤ (F k).toInt ∧ (F k).toInt ≤ 99) (hn : 0 < k → bes (F (k - 1)) (F k)) : way F z2 := by
  intro i hi
  by_cases hc : i = k
  · subst hc; exact ⟨hb, hn⟩
  · exact w i (by omega)
theorem way_le {F : Nat → Int32} {z z2 : Int} (w : way F z) (h : z2 ≤ z) : way F z2 := fun i hi => w i (by omega)
def okR (F : Nat → Int32) (x3 z : Int32) : Prop := z.toInt ≠ 1 ∧ z.toInt ≤ 12 ∧ 0 ≤ x3.toInt ∧ x3.toInt ≤ 20 ∧ way F z.toInt
set_option maxRecDepth 20000 in
set_option maxHeartbeats 4000000 in
theorem c_X11_areBeside {c : Int32} {o : Int32} {h : im_H} (hI : tI h) (p_c0 : 0 ≤ c.toInt) (p_c1 : c.toInt ≤ 99) : CaP 2 113 [.int c, .int o] h (pI h (fun y => (y = 1 ∧ bes c o) ∨ (y = 0 ∧ ¬ (bes c o)))) := by
  refine cap_of (d := 1) (M := mX11_areBeside) rfl (Nat.le_of_ble_eq_true rfl) ?_
  show EvP im_K0 1 mX11_areBeside (0, [(0, .int c), (1, .int o)], [], h) _
  refine te_iconst (p2 := 1) (x := 0) rfl rfl (by decide) ?_
  refine te_istore_n (p2 := 2) (lv2 := [(2, .int 0), (0, .int c), (1, .int o)]) rfl rfl (by decide) rfl ?_
  have lp1 : ∀ (n1 : Nat) (v1_2 : Int32) , 0 ≤ v1_2.toInt → v1_2.toInt ≤ 4 → (∀ s : Int32, 0 ≤ s.toInt → s.toInt < v1_2.toInt → nbr c s ≠ o) → 4 - v1_2.toInt < (n1 : Int) → EvP im_K0 1 mX11_areBeside (2, [(0, .int c), (1, .int o), (2, .int v1_2)], [], h) (pI h (fun y => (y = 1 ∧ bes c o) ∨ (y = 0 ∧ ¬ (bes c o)))) := by
    intro n1
    induction n1 with
    | zero => intro v1_2 a1_2 b1_2 w1_0 m1; exfalso; omega
    | succ n1 ih1 =>
      intro v1_2 a1_2 b1_2 w1_0 m1
      refine te_iload_n (p2 := 3) rfl rfl rfl ?_
      refine te_iconst (p2 := 4) (x := 4) rfl rfl (by decide) ?_
      refine tb_ge (p2 := 7) rfl rfl rfl (show Int32.toInt 4 = 4 from rfl) (fun c2 => ?_) (fun c2 => ?_)
      · refine te_iconst (p2 := 25) (x := 0) rfl rfl (by decide) ?_
        exact te_zret rfl rfl (by decide) ⟨rfl, _, rfl, Or.inr ⟨rfl, fun ⟨s, a, b, e⟩ => w1_0 s a (by omega) e⟩⟩
      · refine te_iload_n (p2 := 8) rfl rfl rfl ?_
        refine te_iload_n (p2 := 9) rfl rfl rfl ?_
        refine cS_pI (p2 := 12) rfl rfl rfl rfl (t_X11_cellOnSide (c := c) (side := v1_2) hI (by omega) (by omega)) (by decide) (fun y3 r3 => ?_)
        obtain ⟨a3, b3, e3⟩ := r3
        refine te_iload_n (p2 := 13) rfl rfl rfl ?_
        refine tb_ne (p2 := 16) rfl rfl rfl rfl (fun c4 => ?_) (fun c4 => ?_)
        · refine ar_inc (p2 := 21) (x := v1_2) rfl rfl (by decide) rfl (by decide) rfl (by omega) (by omega) (fun z5 e5 f5 => ?_)
          show EvP _ _ _ (21, [(2, .int z5), (0, .int c), (1, .int o)], [], h) _
          refine te_goto rfl ?_
          refine te_lv [(0, .int c), (1, .int o), (2, .int z5)] rfl rfl ⟨rfl, rfl, rfl, trivial⟩ ?_
          exact ih1 z5 (by omega) (by omega) (fun s h0 h1 hn => by (by_cases hc : s.toInt = v1_2.toInt); (· have e1 : s = v1_2 := i32_ext hc; rw [e1] at hn; have e2 := congrArg Int32.toInt ((e3).trans hn); omega); (· exact w1_0 s h0 (by omega) hn)) (by omega)
        · refine te_iconst (p2 := 17) (x := 1) rfl rfl (by decide) ?_
          exact te_zret rfl rfl (by decide) ⟨rfl, _, rfl, Or.inl ⟨rfl, v1_2, by omega, by omega, (e3).symm.trans (i32_ext (by omega))⟩⟩
  refine te_lv [(0, .int c), (1, .int o), (2, .int 0)] rfl rfl ⟨rfl, rfl, rfl, trivial⟩ ?_
  exact lp1 5 0 (by decide) (by decide) (fun s h0 h1 => by exfalso; have := (show Int32.toInt 0 = 0 from rfl); omega) (by have cc0 := (show Int32.toInt 0 = 0 from rfl); omega)
set_option maxRecDepth 20000 in
set_option maxHeartbeats 4000000 in
theorem c_X12_areBeside {c : Int32} {o : Int32} {h : im_H} (hI : tI h) (p_c0 : 0 ≤ c.toInt) (p_c1 : c.toInt ≤ 99) : CaP 2 121 [.int c, .int o] h (pI h (fun y => (y = 1 ∧ bes c o) ∨ (y = 0 ∧ ¬ (bes c o)))) := by
  refine cap_of (d := 1) (M := mX12_areBeside) rfl (Nat.le_of_ble_eq_true rfl) ?_
  show EvP im_K0 1 mX12_areBeside (0, [(0, .int c), (1, .int o)], [], h) _
  refine te_iconst (p2 := 1) (x := 0) rfl rfl (by decide) ?_
  refine te_istore_n (p2 := 2) (lv2 := [(2, .int 0), (0, .int c), (1, .int o)]) rfl rfl (by decide) rfl ?_
  have lp1 : ∀ (n1 : Nat) (v1_2 : Int32) , 0 ≤ v1_2.toInt → v1_2.toInt ≤ 4 → (∀ s : Int32, 0 ≤ s.toInt → s.toInt < v1_2.toInt → nbr c s ≠ o) → 4 - v1_2.toInt < (n1 : Int) → EvP im_K0 1 mX12_areBeside (2, [(0, .int c), (1, .int o), (2, .int v1_2)], [], h) (pI h (fun y => (y = 1 ∧ bes c o) ∨ (y = 0 ∧ ¬ (bes c o)))) := by
    intro n1
    induction n1 with
    | zero => intro v1_2 a1_2 b1_2 w1_0 m1; exfalso; omega
    | succ n1 ih1 =>
      intro v1_2 a1_2 b1_2 w1_0 m1
      refine te_iload_n (p2 := 3) rfl rfl rfl ?_
      refine te_iconst (p2 := 4) (x := 4) rfl rfl (by decide) ?_
      refine tb_ge (p2 := 7) rfl rfl rfl (show Int32.toInt 4 = 4 from rfl) (fun c2 => ?_) (fun c2 => ?_)
      · refine te_iconst (p2 := 25) (x := 0) rfl rfl (by decide) ?_
        exact te_zret rfl rfl (by decide) ⟨rfl, _, rfl, Or.inr ⟨rfl, fun ⟨s, a, b, e⟩ => w1_0 s a (by omega) e⟩⟩
      · refine te_iload_n (p2 := 8) rfl rfl rfl ?_
        refine te_iload_n (p2 := 9) rfl rfl rfl ?_
        refine cS_pI (p2 := 12) rfl rfl rfl rfl (t_X12_nextTo (c := c) (side := v1_2) hI (by omega) (by omega)) (by decide) (fun y3 r3 => ?_)
        obtain ⟨a3, b3, e3⟩ := r3
        refine te_iload_n (p2 := 13) rfl rfl rfl ?_
        refine tb_ne (p2 := 16) rfl rfl rfl rfl (fun c4 => ?_) (fun c4 => ?_)
        · refine ar_inc (p2 := 21) (x := v1_2) rfl rfl (by decide) rfl (by decide) rfl (by omega) (by omega) (fun z5 e5 f5 => ?_)
          show EvP _ _ _ (21, [(2, .int z5), (0, .int c), (1, .int o)], [], h) _
          refine te_goto rfl ?_
          refine te_lv [(0, .int c), (1, .int o), (2, .int z5)] rfl rfl ⟨rfl, rfl, rfl, trivial⟩ ?_
          exact ih1 z5 (by omega) (by omega) (fun s h0 h1 hn => by (by_cases hc : s.toInt = v1_2.toInt); (· have e1 : s = v1_2 := i32_ext hc; rw [e1] at hn; have e2 := congrArg Int32.toInt ((e3).trans hn); omega); (· exact w1_0 s h0 (by omega) hn)) (by omega)
        · refine te_iconst (p2 := 17) (x := 1) rfl rfl (by decide) ?_
          exact te_zret rfl rfl (by decide) ⟨rfl, _, rfl, Or.inl ⟨rfl, v1_2, by omega, by omega, (e3).symm.trans (i32_ext (by omega))⟩⟩
  refine te_lv [(0, .int c), (1, .int o), (2, .int 0)] rfl rfl ⟨rfl, rfl, rfl, trivial⟩ ?_
  exact lp1 5 0 (by decide) (by decide) (fun s h0 h1 => by exfalso; have := (show Int32.toInt 0 = 0 from rfl); omega) (by have cc0 := (show Int32.toInt 0 = 0 from rfl); omega)
set_option maxRecDepth 20000 in
set_option maxHeartbeats 4000000 in
theorem c_X11_isWay {s : Nat} {h : im_H} (hI : tI h) (q_s : s = 140 ∨ s = 142 ∨ s = 144 ∨ s = 146) : CaP 3 70 [.ref (16 + s)] h (pI h (fun y => ∃ p : Int32, rd h s 1 = some (.int p) ∧ 0 ≤ p.toInt ∧ p.toInt ≤ 40 ∧ ((y = 0 ∧ ¬ way (vl h (s + 1) 0) p.toInt) ∨ (y = 1 ∧ allB h (s + 1) 0 p.toInt 99 ∧ way (vl h (s + 1) 0) p.toInt)))) := by
  refine cap_of (d := 2) (M := mX11_isWay) rfl (Nat.le_of_ble_eq_true rfl) ?_
  show EvP im_K0 2 mX11_isWay (0, [(0, .ref (16 + s))], [], h) _
  refine te_iconst (p2 := 1) (x := 0) rfl rfl (by decide) ?_
  refine te_istore_n (p2 := 2) (lv2 := [(1, .int 0), (0, .ref (16 + s))]) rfl rfl (by decide) rfl ?_
  have lp1 : ∀ (n1 : Nat) (v1_1 : Int32) , 0 ≤ v1_1.toInt → v1_1.toInt ≤ 40 → allB h (s + 1) 0 v1_1.toInt 99 → way (vl h (s + 1) 0) v1_1.toInt → 40 - v1_1.toInt < (n1 : Int) → EvP im_K0 2 mX11_isWay (2, [(0, .ref (16 + s)), (1, .int v1_1)], [], h) (pI h (fun y => ∃ p : Int32, rd h s 1 = some (.int p) ∧ 0 ≤ p.toInt ∧ p.toInt ≤ 40 ∧ ((y = 0 ∧ ¬ way (vl h (s + 1) 0) p.toInt) ∨ (y = 1 ∧ allB h (s + 1) 0 p.toInt 99 ∧ way (vl h (s + 1) 0) p.toInt)))) := by
    intro n1
    induction n1 with
    | zero => intro v1_1 a1_1 b1_1 w1_0 w1_1 m1; exfalso; omega
    | succ n1 ih1 =>
      intro v1_1 a1_1 b1_1 w1_0 w1_1 m1
      refine te_iload_n (p2 := 3) rfl rfl rfl ?_
      refine te_aload_n (p2 := 4) rfl rfl rfl ?_
      refine tg_i (p2 := 7) (i := s) rfl rfl hI rfl (by rcases q_s with rfl | rfl | rfl | rfl <;> rfl) (by rcases q_s with rfl | rfl | rfl | rfl <;> rfl) (fun y2 a2 b2 e2 => ?_)
      refine tb_ge (p2 := 10) rfl rfl rfl rfl (fun c3 => ?_) (fun c3 => ?_)
      · refine te_iconst (p2 := 59) (x := 1) rfl rfl (by decide) ?_
        exact te_zret rfl rfl (by decide) ⟨rfl, _, rfl, y2, e2, by omega, by omega, Or.inr ⟨rfl, allB_le w1_0 (by omega), way_le w1_1 (by omega)⟩⟩
      · refine te_aload_n (p2 := 11) rfl rfl rfl ?_
        refine tg_r (p2 := 14) (i := s) (r := (16 + (s + 1))) rfl rfl hI rfl (by rcases q_s with rfl | rfl | rfl | rfl <;> rfl) (by rcases q_s with rfl | rfl | rfl | rfl <;> rfl) ?_
        refine te_iload_n (p2 := 15) rfl rfl rfl ?_
        refine tl_i (p2 := 16) (i := (s + 1)) (n := 40) rfl rfl hI rfl (by rcases q_s with rfl | rfl | rfl | rfl <;> rfl) (by rcases q_s with rfl | rfl | rfl | rfl <;> rfl) rfl (by omega) (by omega) (fun y4 a4 b4 g4 e4 => ?_)
        refine te_bipush (p2 := 18) (x := 100) rfl rfl (by decide) ?_
        refine cS_pI (p2 := 21) rfl rfl rfl rfl (t_X11_within (n := y4) (b := 100) hI ) (by decide) (fun y5 r5 => ?_)
        rcases r5 with ⟨w5, c5⟩ | ⟨w5, c5⟩
        · subst w5
          have cc5_1 := (show Int32.toInt 100 = 100 from rfl)
          refine tz_ne (p2 := 24) rfl rfl (show Int32.toInt 1 = 1 from rfl) (fun c6 => ?_) (fun c6 => absurd c6 (by omega))
          refine te_iload_n (p2 := 27) rfl rfl rfl ?_
          refine tz_le (p2 := 30) rfl rfl rfl (fun c7 => ?_) (fun c7 => ?_)
          · refine ar_inc (p2 := 55) (x := v1_1) rfl rfl (by decide) rfl (by decide) rfl (by omega) (by omega) (fun z8 e8 f8 => ?_)
            show EvP _ _ _ (55, [(1, .int z8), (0, .ref (16 + s))], [], h) _
            refine te_goto rfl ?_
            refine te_lv [(0, .ref (16 + s)), (1, .int z8)] rfl rfl ⟨rfl, rfl, trivial⟩ ?_
            exact ih1 z8 (by omega) (by omega) (allB_s (k := v1_1.toInt.toNat) w1_0 (by omega) f8 (by rw [Nat.zero_add]; exact e4) (by omega) (by omega)) (way_s (k := v1_1.toInt.toNat) w1_1 (by omega) f8 (by rw [(vl_of (c := s + 1) (o := 0) (i := v1_1.toInt.toNat) (by omega) (by rw [Nat.zero_add]; exact e4))]; omega) (fun h9 => by exfalso; omega)) (by omega)
          · refine te_aload_n (p2 := 31) rfl rfl rfl ?_
            refine tg_r (p2 := 34) (i := s) (r := (16 + (s + 1))) rfl rfl hI rfl (by rcases q_s with rfl | rfl | rfl | rfl <;> rfl) (by rcases q_s with rfl | rfl | rfl | rfl <;> rfl) ?_
            refine te_iload_n (p2 := 35) rfl rfl rfl ?_
            refine te_iconst (p2 := 36) (x := 1) rfl rfl (by decide) ?_
            refine ar_sub (p2 := 37) rfl rfl rfl (show Int32.toInt 1 = 1 from rfl) (by omega) (by omega) (fun z9 e9 f9 => ?_)
            refine tl_i (p2 := 38) (i := (s + 1)) (n := 40) rfl rfl hI rfl (by rcases q_s with rfl | rfl | rfl | rfl <;> rfl) (by rcases q_s with rfl | rfl | rfl | rfl <;> rfl) rfl (by omega) (by omega) (fun y10 a10 b10 g10 e10 => ?_)
            obtain ⟨a11, b11⟩ := allB_at w1_0 (v1_1.toInt - 1).toNat (by omega) (by omega) e10
            refine te_aload_n (p2 := 39) rfl rfl rfl ?_
            refine tg_r (p2 := 42) (i := s) (r := (16 + (s + 1))) rfl rfl hI rfl (by rcases q_s with rfl | rfl | rfl | rfl <;> rfl) (by rcases q_s with rfl | rfl | rfl | rfl <;> rfl) ?_
            refine te_iload_n (p2 := 43) rfl rfl rfl ?_
            refine tl_e (p2 := 44) (i := (s + 1)) (n := 40) (t := 0) (Or.inl rfl) rfl rfl hI rfl (by rcases q_s with rfl | rfl | rfl | rfl <;> rfl) (by omega) (by omega) e4 ?_
            refine cS_pI (p2 := 47) rfl rfl rfl rfl (c_X11_areBeside (c := y10) (o := y4) hI (by omega) (by omega)) (by decide) (fun y13 r13 => ?_)
            rcases r13 with ⟨w13_, c13⟩ | ⟨w13_, c13⟩
            · subst w13_
              refine tz_ne (p2 := 50) rfl rfl (show Int32.toInt 1 = 1 from rfl) (fun c14 => ?_) (fun c14 => absurd c14 (by omega))
              refine ar_inc (p2 := 55) (x := v1_1) rfl rfl (by decide) rfl (by decide) rfl (by omega) (by omega) (fun z15 e15 f15 => ?_)
              show EvP _ _ _ (55, [(1, .int z15), (0, .ref (16 + s))], [], h) _
              refine te_goto rfl ?_
              refine te_lv [(0, .ref (16 + s)), (1, .int z15)] rfl rfl ⟨rfl, rfl, trivial⟩ ?_
              exact ih1 z15 (by omega) (by omega) (allB_s (k := v1_1.toInt.toNat) w1_0 (by omega) f15 (by rw [Nat.zero_add]; exact e4) (by omega) (by omega)) (way_s (k := v1_1.toInt.toNat) w1_1 (by omega) f15 (by rw [(vl_of (c := s + 1) (o := 0) (i := v1_1.toInt.toNat) (by omega) (by rw [Nat.zero_add]; exact e4))]; omega) (fun _ => by rw [(vl_of (c := s + 1) (o := 0) (i := v1_1.toInt.toNat - 1) (by omega) (by rw [Nat.zero_add, show v1_1.toInt.toNat - 1 = z9.toInt.toNat by omega]; exact e10) : vl h (s + 1) 0 (v1_1.toInt.toNat - 1) = y10), (vl_of (c := s + 1) (o := 0) (i := v1_1.toInt.toNat) (by omega) (by rw [Nat.zero_add]; exact e4))]; exact c13)) (by omega)
            · subst w13_
              refine tz_ne (p2 := 50) rfl rfl (show Int32.toInt 0 = 0 from rfl) (fun c16 => absurd c16 (by omega)) (fun c16 => ?_)
              refine te_iconst (p2 := 51) (x := 0) rfl rfl (by decide) ?_
              exact te_zret rfl rfl (by decide) ⟨rfl, _, rfl, y2, e2, by omega, by omega, Or.inl ⟨rfl, (fun hw => by (have h9 := (hw v1_1.toInt.toNat (by omega)).2 (by omega)); rw [(vl_of (c := s + 1) (o := 0) (i := v1_1.toInt.toNat - 1) (by omega) (by rw [Nat.zero_add, show v1_1.toInt.toNat - 1 = z9.toInt.toNat by omega]; exact e10) : vl h (s + 1) 0 (v1_1.toInt.toNat - 1) = y10), (vl_of (c := s + 1) (o := 0) (i := v1_1.toInt.toNat) (by omega) (by rw [Nat.zero_add]; exact e4))] at h9; exact c13 h9)⟩⟩
        · subst w5
          have cc5_1 := (show Int32.toInt 100 = 100 from rfl)
          refine tz_ne (p2 := 24) rfl rfl (show Int32.toInt 0 = 0 from rfl) (fun c17 => absurd c17 (by omega)) (fun c17 => ?_)
          refine te_iconst (p2 := 25) (x := 0) rfl rfl (by decide) ?_
          exact te_zret rfl rfl (by decide) ⟨rfl, _, rfl, y2, e2, by omega, by omega, Or.inl ⟨rfl, (fun hw => by (have h9 := (hw v1_1.toInt.toNat (by omega)).1); rw [(vl_of (c := s + 1) (o := 0) (i := v1_1.toInt.toNat) (by omega) (by rw [Nat.zero_add]; exact e4))] at h9; omega)⟩⟩
  refine te_lv [(0, .ref (16 + s)), (1, .int 0)] rfl rfl ⟨rfl, rfl, trivial⟩ ?_
  exact lp1 41 0 (by decide) (by decide) (allB_0 (by decide)) (way_0 (by decide)) (by have cc0 := (show Int32.toInt 0 = 0 from rfl); omega)
abbrev Q1_rail (x1 x2 x3 : Int32) (y : Int32) (h h2 : im_H) : Prop := ((0 ≤ x1.toInt ∧ x1.toInt ≤ 2 ∧ 0 ≤ x2.toInt ∧ x2.toInt ≤ 3) ∧ ∃ q z : Int32, rd h (140 + 2 * x2.toInt.toNat) 0 = some (.int q) ∧ rd h (140 + 2 * x2.toInt.toNat) 1 = some (.int z) ∧ ((q.toInt = -1 ∧ y = -11) ∨ (q.toInt ≠ -1 ∧ okR (vl h (141 + 2 * x2.toInt.toNat) 0) x3 z ∧ y = z) ∨ (q.toInt ≠ -1 ∧ ¬ okR (vl h (141 + 2 * x2.toInt.toNat) 0) x3 z ∧ y = -2))) ∨ (¬ (0 ≤ x1.toInt ∧ x1.toInt ≤ 2 ∧ 0 ≤ x2.toInt ∧ x2.toInt ≤ 3) ∧ y = -1)
set_option maxRecDepth 20000 in
set_option maxHeartbeats 4000000 in
theorem c_X11_rail {x1 : Int32} {x2 : Int32} {x3 : Int32} {h : im_H} (hI : tI h)  : CaP 4 69 [.ref 16, .int x1, .int x2, .int x3] h (fun v h2 => tI h2 ∧ fr F_X11_rail h h2 ∧ ∃ y : Int32, v = some (.int y) ∧ Q1_rail x1 x2 x3 y h h2) := by
  refine cap_of (d := 3) (M := mX11_rail) rfl (Nat.le_of_ble_eq_true rfl) ?_
  show EvP im_K0 3 mX11_rail (0, [(0, .ref 16), (1, .int x1), (2, .int x2), (3, .int x3)], [], h) _
  have f0 : fr F_X11_rail h h := fr_rf
  refine te_iload_n (p2 := 1) rfl rfl rfl ?_
  refine te_iconst (p2 := 2) (x := 3) rfl rfl (by decide) ?_
  refine cS_pI (p2 := 5) rfl rfl rfl rfl (t_X11_within (n := x1) (b := 3) hI ) (by decide) (fun y1 r1 => ?_)
  rcases r1 with ⟨w1, c1⟩ | ⟨w1, c1⟩
  · subst w1
    have cc1_1 := (show Int32.toInt 3 = 3 from rfl)
    refine tz_eq (p2 := 8) rfl rfl (show Int32.toInt 1 = 1 from rfl) (fun c2 => absurd c2 (by omega)) (fun c2 => ?_)
    refine te_iload_n (p2 := 9) rfl rfl rfl ?_
    refine te_iconst (p2 := 10) (x := 4) rfl rfl (by decide) ?_
    refine cS_pI (p2 := 13) rfl rfl rfl rfl (t_X11_within (n := x2) (b := 4) hI ) (by decide) (fun y3 r3 => ?_)
    rcases r3 with ⟨w3, c3⟩ | ⟨w3, c3⟩
    · subst w3
      have cc3_1 := (show Int32.toInt 4 = 4 from rfl)
      refine tz_ne (p2 := 16) rfl rfl (show Int32.toInt 1 = 1 from rfl) (fun c4 => ?_) (fun c4 => absurd c4 (by omega))
      refine te_aload_n (p2 := 19) rfl rfl rfl ?_
      refine tg_r (p2 := 22) (i := 0) (r := 113) rfl rfl hI rfl rfl rfl ?_
      refine te_iload_n (p2 := 23) rfl rfl rfl ?_
      refine tl_f (p2 := 24) (i := 97) (n := 4) (c0 := 140) (sp := 2) rfl rfl hI rfl rfl (by decide) rq_97 (by omega) (by omega) (fun o5 w5 => ?_)
      have q5 : o5 = 140 ∨ o5 = 142 ∨ o5 = 144 ∨ o5 = 146 := by omega
      refine te_astore (p2 := 26) (lv2 := [(4, .ref (16 + o5)), (0, .ref 16), (1, .int x1), (2, .int x2), (3, .int x3)]) rfl rfl (by decide) rfl ?_
      refine te_aload (p2 := 28) rfl rfl rfl ?_
      refine cV_pI (p2 := 31) (i := o5) rfl rfl rfl rfl hI rfl (by rcases q5 with rfl | rfl | rfl | rfl <;> rfl) rfl (c_X8_isMissing (s := o5) hI q5) (by decide) (fun y6 r6 => ?_)
      obtain ⟨p6, e6, r6⟩ := r6
      rcases r6 with ⟨w6_, c6⟩ | ⟨w6_, c6⟩
      · subst w6_
        refine tz_eq (p2 := 34) rfl rfl (show Int32.toInt 1 = 1 from rfl) (fun c7 => absurd c7 (by omega)) (fun c7 => ?_)
        refine te_bipush (p2 := 36) (x := (-11)) rfl rfl (by decide) ?_
        obtain ⟨v8, e8, y8, w8, a8, b8, _⟩ := hI.2.1 o5 1 (.inl (0, 40, 9999999999)) (by rcases q5 with rfl | rfl | rfl | rfl <;> rfl)
        subst w8
        exact te_iret rfl rfl ⟨hI, f0, _, rfl, Or.inl ⟨by omega, p6, y8, (by rw [← w5]; exact e6), (by rw [← w5]; exact e8), Or.inl ⟨by omega, rfl⟩⟩⟩
      · subst w6_
        refine tz_eq (p2 := 34) rfl rfl (show Int32.toInt 0 = 0 from rfl) (fun c9 => ?_) (fun c9 => absurd c9 (by omega))
        refine te_aload (p2 := 39) rfl rfl rfl ?_
        refine tg_i (p2 := 42) (i := o5) rfl rfl hI rfl (by rcases q5 with rfl | rfl | rfl | rfl <;> rfl) (by rcases q5 with rfl | rfl | rfl | rfl <;> rfl) (fun y10 a10 b10 e10 => ?_)
        refine te_iconst (p2 := 43) (x := 1) rfl rfl (by decide) ?_
        refine tb_eq (p2 := 46) rfl rfl rfl (show Int32.toInt 1 = 1 from rfl) (fun c11 => ?_) (fun c11 => ?_)
        · refine te_bipush (p2 := 76) (x := (-2)) rfl rfl (by decide) ?_
          exact te_iret rfl rfl ⟨hI, f0, _, rfl, Or.inl ⟨by omega, p6, y10, (by rw [← w5]; exact e6), (by rw [← w5]; exact e10), Or.inr (Or.inr ⟨by omega, (fun ho => by (obtain ⟨h5, h6, h7, h8, _⟩ := ho); omega), rfl⟩)⟩⟩
        · refine te_aload (p2 := 48) rfl rfl rfl ?_
          refine tg_e (p2 := 51) (i := o5) (v := .int y10) rfl rfl hI rfl (by rcases q5 with rfl | rfl | rfl | rfl <;> rfl) e10 ?_
          refine te_bipush (p2 := 53) (x := 12) rfl rfl (by decide) ?_
          refine tb_gt (p2 := 56) rfl rfl rfl (show Int32.toInt 12 = 12 from rfl) (fun c12 => ?_) (fun c12 => ?_)
          · refine te_bipush (p2 := 76) (x := (-2)) rfl rfl (by decide) ?_
            exact te_iret rfl rfl ⟨hI, f0, _, rfl, Or.inl ⟨by omega, p6, y10, (by rw [← w5]; exact e6), (by rw [← w5]; exact e10), Or.inr (Or.inr ⟨by omega, (fun ho => by (obtain ⟨h5, h6, h7, h8, _⟩ := ho); omega), rfl⟩)⟩⟩
          · refine te_iload_n (p2 := 57) rfl rfl rfl ?_
            refine te_iconst (p2 := 58) (x := 0) rfl rfl (by decide) ?_
            refine te_bipush (p2 := 60) (x := 20) rfl rfl (by decide) ?_
            refine cS_pI (p2 := 63) rfl rfl rfl rfl (t_X11_between (n := x3) (a := 0) (b := 20) hI ) (by decide) (fun y13 r13 => ?_)
            rcases r13 with ⟨w13, c13⟩ | ⟨w13, c13⟩
            · subst w13
              have cc13_1 := (show Int32.toInt 0 = 0 from rfl)
              have cc13_2 := (show Int32.toInt 20 = 20 from rfl)
              refine tz_eq (p2 := 66) rfl rfl (show Int32.toInt 1 = 1 from rfl) (fun c14 => absurd c14 (by omega)) (fun c14 => ?_)
              refine te_aload (p2 := 68) rfl rfl rfl ?_
              refine cS_pI (p2 := 71) rfl rfl rfl rfl (c_X11_isWay (s := o5) hI q5) (by decide) (fun y15 r15 => ?_)
              obtain ⟨p15, e15, a15, b15, r15⟩ := r15
              have x15 : p15 = y10 := int_inj e15 e10
              rw [x15] at r15
              rcases r15 with ⟨w15_, nw15⟩ | ⟨w15_, w15, nw15⟩
              · subst w15_
                refine tz_ne (p2 := 74) rfl rfl (show Int32.toInt 0 = 0 from rfl) (fun c16 => absurd c16 (by omega)) (fun c16 => ?_)
                refine te_bipush (p2 := 76) (x := (-2)) rfl rfl (by decide) ?_
                exact te_iret rfl rfl ⟨hI, f0, _, rfl, Or.inl ⟨by omega, p6, y10, (by rw [← w5]; exact e6), (by rw [← w5]; exact e10), Or.inr (Or.inr ⟨by omega, (fun ho => absurd ho.2.2.2.2 (by rw [show 141 + 2 * x2.toInt.toNat = o5 + 1 by omega]; exact nw15)), rfl⟩)⟩⟩
              · subst w15_
                refine tz_ne (p2 := 74) rfl rfl (show Int32.toInt 1 = 1 from rfl) (fun c17 => ?_) (fun c17 => absurd c17 (by omega))
                refine te_aload_n (p2 := 78) rfl rfl rfl ?_
                refine tg_r (p2 := 81) (i := 0) (r := 17) rfl rfl hI rfl rfl rfl ?_
                refine tg_r (p2 := 84) (i := 1) (r := 24) rfl rfl hI rfl rfl rfl ?_
                refine te_iload_n (p2 := 85) rfl rfl rfl ?_
                refine tl_f (p2 := 86) (i := 8) (n := 3) (c0 := 20) (sp := 1) rfl rfl hI rfl rfl (by decide) rq_8 (by omega) (by omega) (fun o18 w18 => ?_)
                have q18 : o18 = 20 ∨ o18 = 21 ∨ o18 = 22 := by omega
                refine te_astore (p2 := 88) (lv2 := [(5, .ref (16 + o18)), (4, .ref (16 + o5)), (0, .ref 16), (1, .int x1), (2, .int x2), (3, .int x3)]) rfl rfl (by decide) rfl ?_
                refine te_aload (p2 := 90) rfl rfl rfl ?_
                refine te_aload (p2 := 92) rfl rfl rfl ?_
                refine tg_e (p2 := 95) (i := o5) (v := .int y10) rfl rfl hI rfl (by rcases q5 with rfl | rfl | rfl | rfl <;> rfl) e10 ?_
                refine tp_i (p2 := 98) (i := o18) rfl rfl hI rfl (by rcases q18 with rfl | rfl | rfl <;> rfl) (by decide) rfl rfl (by rcases q18 with rfl | rfl | rfl <;> rfl) (by omega) (by omega) (by omega) (by rcases q18 with rfl | rfl | rfl <;> rfl) (fun h19 I19 u19 => ?_)
                have f19 := fr_up (F := F_X11_rail) (a := 0) (b := 3) f0 u19 (by rcases q18 with rfl | rfl | rfl <;> decide) (by decide) (by decide)
                refine te_aload (p2 := 100) rfl rfl rfl ?_
                refine te_iload_n (p2 := 101) rfl rfl rfl ?_
                refine tp_i (p2 := 104) (i := o18) rfl rfl I19 rfl (by rcases q18 with rfl | rfl | rfl <;> rfl) (by decide) rfl rfl (by rcases q18 with rfl | rfl | rfl <;> rfl) (i32_lo _) (i32_hi _) (i32_ho _) (by rcases q18 with rfl | rfl | rfl <;> rfl) (fun h20 I20 u20 => ?_)
                have f20 := fr_up (F := F_X11_rail) (a := 0) (b := 3) f19 u20 (by rcases q18 with rfl | rfl | rfl <;> decide) (by decide) (by decide)
                refine te_aload (p2 := 106) rfl rfl rfl ?_
                refine tg_e (p2 := 109) (i := o5) (v := .int y10) rfl rfl I20 rfl (by rcases q5 with rfl | rfl | rfl | rfl <;> rfl) ((u20.2 _ _ (Or.inl (by omega))).trans ((u19.2 _ _ (Or.inl (by omega))).trans e10)) ?_
                refine tz_le (p2 := 112) rfl rfl rfl (fun c21 => ?_) (fun c21 => ?_)
                · refine te_aload (p2 := 144) rfl rfl rfl ?_
                  refine tg_e (p2 := 147) (i := o5) (v := .int y10) rfl rfl I20 rfl (by rcases q5 with rfl | rfl | rfl | rfl <;> rfl) ((u20.2 _ _ (Or.inl (by omega))).trans ((u19.2 _ _ (Or.inl (by omega))).trans e10)) ?_
                  exact te_iret rfl rfl ⟨I20, f20, _, rfl, Or.inl ⟨by omega, p6, y10, (by rw [← w5]; exact e6), (by rw [← w5]; exact e10), Or.inr (Or.inl ⟨by omega, ⟨by omega, by omega, by omega, by omega, (by rw [show 141 + 2 * x2.toInt.toNat = o5 + 1 by omega]; exact nw15)⟩, rfl⟩)⟩⟩
                · refine te_aload (p2 := 114) rfl rfl rfl ?_
                  refine te_aload (p2 := 116) rfl rfl rfl ?_
                  refine tg_r (p2 := 119) (i := o5) (r := (16 + (o5 + 1))) rfl rfl I20 rfl (by rcases q5 with rfl | rfl | rfl | rfl <;> rfl) (by rcases q5 with rfl | rfl | rfl | rfl <;> rfl) ?_
                  refine te_iconst (p2 := 120) (x := 0) rfl rfl (by decide) ?_
                  refine tl_i (p2 := 121) (i := (o5 + 1)) (n := 40) rfl rfl I20 rfl (by rcases q5 with rfl | rfl | rfl | rfl <;> rfl) (by rcases q5 with rfl | rfl | rfl | rfl <;> rfl) rfl (by decide) (by decide) (fun y22 a22 b22 g22 e22 => ?_)
                  obtain ⟨a23, b23⟩ := allB_at (allB_fr w15 (fun q => f20 _ _ (by rcases q5 with rfl | rfl | rfl | rfl <;> rfl))) (Int32.toInt 0).toNat (by have := (show Int32.toInt 0 = 0 from rfl); omega) (by rw [Nat.zero_add]) e22
                  refine tp_i (p2 := 124) (i := o18) rfl rfl I20 rfl (by rcases q18 with rfl | rfl | rfl <;> rfl) (by decide) rfl rfl (by rcases q18 with rfl | rfl | rfl <;> rfl) (by omega) (by omega) (by omega) (by rcases q18 with rfl | rfl | rfl <;> rfl) (fun h24 I24 u24 => ?_)
                  have f24 := fr_up (F := F_X11_rail) (a := 0) (b := 3) f20 u24 (by rcases q18 with rfl | rfl | rfl <;> decide) (by decide) (by decide)
                  refine te_aload (p2 := 126) rfl rfl rfl ?_
                  refine te_aload (p2 := 128) rfl rfl rfl ?_
                  refine tg_r (p2 := 131) (i := o5) (r := (16 + (o5 + 1))) rfl rfl I24 rfl (by rcases q5 with rfl | rfl | rfl | rfl <;> rfl) (by rcases q5 with rfl | rfl | rfl | rfl <;> rfl) ?_
                  refine te_aload (p2 := 133) rfl rfl rfl ?_
                  refine tg_e (p2 := 136) (i := o5) (v := .int y10) rfl rfl I24 rfl (by rcases q5 with rfl | rfl | rfl | rfl <;> rfl) ((u24.2 _ _ (Or.inl (by omega))).trans ((u20.2 _ _ (Or.inl (by omega))).trans ((u19.2 _ _ (Or.inl (by omega))).trans e10))) ?_
                  refine te_iconst (p2 := 137) (x := 1) rfl rfl (by decide) ?_
                  refine ar_sub (p2 := 138) rfl rfl rfl (show Int32.toInt 1 = 1 from rfl) (by omega) (by omega) (fun z25 e25 f25 => ?_)
                  refine tl_i (p2 := 139) (i := (o5 + 1)) (n := 40) rfl rfl I24 rfl (by rcases q5 with rfl | rfl | rfl | rfl <;> rfl) (by rcases q5 with rfl | rfl | rfl | rfl <;> rfl) rfl (by omega) (by omega) (fun y26 a26 b26 g26 e26 => ?_)
                  obtain ⟨a27, b27⟩ := allB_at (allB_fr w15 (fun q => f24 _ _ (by rcases q5 with rfl | rfl | rfl | rfl <;> rfl))) z25.toInt.toNat (by omega) (by rw [Nat.zero_add]) e26
                  refine tp_i (p2 := 142) (i := o18) rfl rfl I24 rfl (by rcases q18 with rfl | rfl | rfl <;> rfl) (by decide) rfl rfl (by rcases q18 with rfl | rfl | rfl <;> rfl) (by omega) (by omega) (by omega) (by rcases q18 with rfl | rfl | rfl <;> rfl) (fun h28 I28 u28 => ?_)
                  have f28 := fr_up (F := F_X11_rail) (a := 0) (b := 3) f24 u28 (by rcases q18 with rfl | rfl | rfl <;> decide) (by decide) (by decide)
                  refine te_aload (p2 := 144) rfl rfl rfl ?_
                  refine tg_e (p2 := 147) (i := o5) (v := .int y10) rfl rfl I28 rfl (by rcases q5 with rfl | rfl | rfl | rfl <;> rfl) ((u28.2 _ _ (Or.inl (by omega))).trans ((u24.2 _ _ (Or.inl (by omega))).trans ((u20.2 _ _ (Or.inl (by omega))).trans ((u19.2 _ _ (Or.inl (by omega))).trans e10)))) ?_
                  exact te_iret rfl rfl ⟨I28, f28, _, rfl, Or.inl ⟨by omega, p6, y10, (by rw [← w5]; exact e6), (by rw [← w5]; exact e10), Or.inr (Or.inl ⟨by omega, ⟨by omega, by omega, by omega, by omega, (by rw [show 141 + 2 * x2.toInt.toNat = o5 + 1 by omega]; exact nw15)⟩, rfl⟩)⟩⟩
            · subst w13
              have cc13_1 := (show Int32.toInt 0 = 0 from rfl)
              have cc13_2 := (show Int32.toInt 20 = 20 from rfl)
              refine tz_eq (p2 := 66) rfl rfl (show Int32.toInt 0 = 0 from rfl) (fun c29 => ?_) (fun c29 => absurd c29 (by omega))
              refine te_bipush (p2 := 76) (x := (-2)) rfl rfl (by decide) ?_
              exact te_iret rfl rfl ⟨hI, f0, _, rfl, Or.inl ⟨by omega, p6, y10, (by rw [← w5]; exact e6), (by rw [← w5]; exact e10), Or.inr (Or.inr ⟨by omega, (fun ho => by (obtain ⟨h5, h6, h7, h8, _⟩ := ho); omega), rfl⟩)⟩⟩
    · subst w3
      have cc3_1 := (show Int32.toInt 4 = 4 from rfl)
      refine tz_ne (p2 := 16) rfl rfl (show Int32.toInt 0 = 0 from rfl) (fun c30 => absurd c30 (by omega)) (fun c30 => ?_)
      refine te_iconst (p2 := 17) (x := (-1)) rfl rfl (by decide) ?_
      exact te_iret rfl rfl ⟨hI, f0, _, rfl, Or.inr ⟨by omega, rfl⟩⟩
  · subst w1
    have cc1_1 := (show Int32.toInt 3 = 3 from rfl)
    refine tz_eq (p2 := 8) rfl rfl (show Int32.toInt 0 = 0 from rfl) (fun c31 => ?_) (fun c31 => absurd c31 (by omega))
    refine te_iconst (p2 := 17) (x := (-1)) rfl rfl (by decide) ?_
    exact te_iret rfl rfl ⟨hI, f0, _, rfl, Or.inr ⟨by omega, rfl⟩⟩
abbrev Q2_rail (x1 x2 x3 : Int32) (y : Int32) (h h2 : im_H) : Prop := ((0 ≤ x1.toInt ∧ x1.toInt ≤ 2 ∧ 0 ≤ x2.toInt ∧ x2.toInt ≤ 3) ∧ ∃ q z : Int32, rd h 192 x2.toInt.toNat = some (.int q) ∧ rd h 193 x2.toInt.toNat = some (.int z) ∧ ((q.toInt = -1 ∧ y = -11) ∨ (q.toInt ≠ -1 ∧ okR (vl h 194 (40 * x2.toInt.toNat)) x3 z ∧ y = z) ∨ (q.toInt ≠ -1 ∧ ¬ okR (vl h 194 (40 * x2.toInt.toNat)) x3 z ∧ y = -2))) ∨ (¬ (0 ≤ x1.toInt ∧ x1.toInt ≤ 2 ∧ 0 ≤ x2.toInt ∧ x2.toInt ≤ 3) ∧ y = -1)
set_option maxRecDepth 20000 in
set_option maxHeartbeats 4000000 in
theorem c_X12_rail {x1 : Int32} {x2 : Int32} {x3 : Int32} {h : im_H} (hI : tI h)  : CaP 4 132 [.ref 164, .int x1, .int x2, .int x3] h (fun v h2 => tI h2 ∧ fr F_X12_rail h h2 ∧ ∃ y : Int32, v = some (.int y) ∧ Q2_rail x1 x2 x3 y h h2) := by
  refine cap_of (d := 3) (M := mX12_rail) rfl (Nat.le_of_ble_eq_true rfl) ?_
  show EvP im_K0 3 mX12_rail (0, [(0, .ref 164), (1, .int x1), (2, .int x2), (3, .int x3)], [], h) _
  have f0 : fr F_X12_rail h h := fr_rf
  refine te_iload_n (p2 := 1) rfl rfl rfl ?_
  refine te_iconst (p2 := 2) (x := 0) rfl rfl (by decide) ?_
  refine te_iconst (p2 := 3) (x := 2) rfl rfl (by decide) ?_
  refine cS_pI (p2 := 6) rfl rfl rfl rfl (t_X12_in (n := x1) (a := 0) (b := 2) hI ) (by decide) (fun y1 r1 => ?_)
  rcases r1 with ⟨w1, c1⟩ | ⟨w1, c1⟩
  · subst w1
    have cc1_1 := (show Int32.toInt 0 = 0 from rfl)
    have cc1_2 := (show Int32.toInt 2 = 2 from rfl)
    refine tz_eq (p2 := 9) rfl rfl (show Int32.toInt 1 = 1 from rfl) (fun c2 => absurd c2 (by omega)) (fun c2 => ?_)
    refine te_iload_n (p2 := 10) rfl rfl rfl ?_
    refine te_iconst (p2 := 11) (x := 0) rfl rfl (by decide) ?_
    refine te_iconst (p2 := 12) (x := 3) rfl rfl (by decide) ?_
    refine cS_pI (p2 := 15) rfl rfl rfl rfl (t_X12_in (n := x2) (a := 0) (b := 3) hI ) (by decide) (fun y3 r3 => ?_)
    rcases r3 with ⟨w3, c3⟩ | ⟨w3, c3⟩
    · subst w3
      have cc3_1 := (show Int32.toInt 0 = 0 from rfl)
      have cc3_2 := (show Int32.toInt 3 = 3 from rfl)
      refine tz_ne (p2 := 18) rfl rfl (show Int32.toInt 1 = 1 from rfl) (fun c4 => ?_) (fun c4 => absurd c4 (by omega))
      refine te_aload_n (p2 := 21) rfl rfl rfl ?_
      refine tg_r (p2 := 24) (i := 148) (r := 208) rfl rfl hI rfl rfl rfl ?_
      refine te_iload_n (p2 := 25) rfl rfl rfl ?_
      refine tl_i (p2 := 26) (i := 192) (n := 4) rfl rfl hI rfl rfl rfl rfl (by omega) (by omega) (fun y5 a5 b5 g5 e5 => ?_)
      refine te_iconst (p2 := 27) (x := (-1)) rfl rfl (by decide) ?_
      refine tb_ne (p2 := 30) rfl rfl rfl (show Int32.toInt (-1) = (-1) from rfl) (fun c6 => ?_) (fun c6 => ?_)
      · refine te_aload_n (p2 := 34) rfl rfl rfl ?_
        refine tg_r (p2 := 37) (i := 148) (r := 209) rfl rfl hI rfl rfl rfl ?_
        refine te_iload_n (p2 := 38) rfl rfl rfl ?_
        refine tl_i (p2 := 39) (i := 193) (n := 4) rfl rfl hI rfl rfl rfl rfl (by omega) (by omega) (fun y7 a7 b7 g7 e7 => ?_)
        refine te_iconst (p2 := 40) (x := 0) rfl rfl (by decide) ?_
        refine te_bipush (p2 := 42) (x := 12) rfl rfl (by decide) ?_
        refine cS_pI (p2 := 45) rfl rfl rfl rfl (t_X12_in (n := y7) (a := 0) (b := 12) hI ) (by decide) (fun y8 r8 => ?_)
        rcases r8 with ⟨w8, c8⟩ | ⟨w8, c8⟩
        · subst w8
          have cc8_1 := (show Int32.toInt 0 = 0 from rfl)
          have cc8_2 := (show Int32.toInt 12 = 12 from rfl)
          refine tz_eq (p2 := 48) rfl rfl (show Int32.toInt 1 = 1 from rfl) (fun c9 => absurd c9 (by omega)) (fun c9 => ?_)
          refine te_aload_n (p2 := 49) rfl rfl rfl ?_
          refine tg_r (p2 := 52) (i := 148) (r := 209) rfl rfl hI rfl rfl rfl ?_
          refine te_iload_n (p2 := 53) rfl rfl rfl ?_
          refine tl_e (p2 := 54) (i := 193) (n := 4) (t := 0) (Or.inl rfl) rfl rfl hI rfl rfl (by omega) (by omega) e7 ?_
          refine te_iconst (p2 := 55) (x := 1) rfl rfl (by decide) ?_
          refine tb_eq (p2 := 58) rfl rfl rfl (show Int32.toInt 1 = 1 from rfl) (fun c11 => ?_) (fun c11 => ?_)
          · refine te_iconst (p2 := 73) (x := 0) rfl rfl (by decide) ?_
            refine te_istore (p2 := 75) (lv2 := [(4, .int 0), (0, .ref 164), (1, .int x1), (2, .int x2), (3, .int x3)]) rfl rfl (by decide) rfl ?_
            refine te_iconst (p2 := 76) (x := 0) rfl rfl (by decide) ?_
            refine te_istore (p2 := 78) (lv2 := [(5, .int 0), (4, .int 0), (0, .ref 164), (1, .int x1), (2, .int x2), (3, .int x3)]) rfl rfl (by decide) rfl ?_
            have lp12 : ∀ (n12 : Nat) (v12_4 v12_5 : Int32) , 0 ≤ v12_4.toInt → v12_4.toInt ≤ 0 → 0 ≤ v12_5.toInt → v12_5.toInt ≤ 40 → 40 - v12_5.toInt < (n12 : Int) → EvP im_K0 3 mX12_rail (78, [(0, .ref 164), (1, .int x1), (2, .int x2), (3, .int x3), (4, .int v12_4), (5, .int v12_5)], [], h) (fun v h2 => tI h2 ∧ fr F_X12_rail h h2 ∧ ∃ y : Int32, v = some (.int y) ∧ Q2_rail x1 x2 x3 y h h2) := by
              intro n12
              induction n12 with
              | zero => intro v12_4 v12_5 a12_4 b12_4 a12_5 b12_5 m12; exfalso; omega
              | succ n12 ih12 =>
                intro v12_4 v12_5 a12_4 b12_4 a12_5 b12_5 m12
                refine te_iload (p2 := 80) rfl rfl rfl ?_
                refine te_aload_n (p2 := 81) rfl rfl rfl ?_
                refine tg_r (p2 := 84) (i := 148) (r := 209) rfl rfl hI rfl rfl rfl ?_
                refine te_iload_n (p2 := 85) rfl rfl rfl ?_
                refine tl_e (p2 := 86) (i := 193) (n := 4) (t := 0) (Or.inl rfl) rfl rfl hI rfl rfl (by omega) (by omega) e7 ?_
                refine tb_ge (p2 := 89) rfl rfl rfl rfl (fun c14 => ?_) (fun c14 => ?_)
                · refine te_iload (p2 := 173) rfl rfl rfl ?_
                  refine tz_ne (p2 := 176) rfl rfl rfl (fun c15 => absurd c15 (by omega)) (fun c15 => ?_)
                  refine te_bipush (p2 := 178) (x := (-2)) rfl rfl (by decide) ?_
                  exact te_iret rfl rfl ⟨hI, f0, _, rfl, Or.inl ⟨by omega, y5, y7, e5, e7, Or.inr (Or.inr ⟨by omega, (fun ho => by (obtain ⟨h5, h6, h7, h8, _⟩ := ho); omega), rfl⟩)⟩⟩
                · refine te_iload (p2 := 91) rfl rfl rfl ?_
                  refine tz_eq (p2 := 94) rfl rfl rfl (fun c16 => ?_) (fun c16 => absurd c16 (by omega))
                  refine te_iload (p2 := 173) rfl rfl rfl ?_
                  refine tz_ne (p2 := 176) rfl rfl rfl (fun c17 => absurd c17 (by omega)) (fun c17 => ?_)
                  refine te_bipush (p2 := 178) (x := (-2)) rfl rfl (by decide) ?_
                  exact te_iret rfl rfl ⟨hI, f0, _, rfl, Or.inl ⟨by omega, y5, y7, e5, e7, Or.inr (Or.inr ⟨by omega, (fun ho => by (obtain ⟨h5, h6, h7, h8, _⟩ := ho); omega), rfl⟩)⟩⟩
            refine te_lv [(0, .ref 164), (1, .int x1), (2, .int x2), (3, .int x3), (4, .int 0), (5, .int 0)] rfl rfl ⟨rfl, rfl, rfl, rfl, rfl, rfl, trivial⟩ ?_
            exact lp12 41 0 0 (by decide) (by decide) (by decide) (by decide) (by have cc0 := (show Int32.toInt 0 = 0 from rfl); omega)
          · refine te_iload_n (p2 := 59) rfl rfl rfl ?_
            refine te_iconst (p2 := 60) (x := 0) rfl rfl (by decide) ?_
            refine te_bipush (p2 := 62) (x := 20) rfl rfl (by decide) ?_
            refine cS_pI (p2 := 65) rfl rfl rfl rfl (t_X12_in (n := x3) (a := 0) (b := 20) hI ) (by decide) (fun y18 r18 => ?_)
            rcases r18 with ⟨w18, c18⟩ | ⟨w18, c18⟩
            · subst w18
              have cc18_1 := (show Int32.toInt 0 = 0 from rfl)
              have cc18_2 := (show Int32.toInt 20 = 20 from rfl)
              refine tz_eq (p2 := 68) rfl rfl (show Int32.toInt 1 = 1 from rfl) (fun c19 => absurd c19 (by omega)) (fun c19 => ?_)
              refine te_iconst (p2 := 69) (x := 1) rfl rfl (by decide) ?_
              refine te_goto rfl ?_
              refine te_istore (p2 := 75) (lv2 := [(4, .int 1), (0, .ref 164), (1, .int x1), (2, .int x2), (3, .int x3)]) rfl rfl (by decide) rfl ?_
              refine te_iconst (p2 := 76) (x := 0) rfl rfl (by decide) ?_
              refine te_istore (p2 := 78) (lv2 := [(5, .int 0), (4, .int 1), (0, .ref 164), (1, .int x1), (2, .int x2), (3, .int x3)]) rfl rfl (by decide) rfl ?_
              have lp20 : ∀ (n20 : Nat) (v20_4 v20_5 : Int32) , 0 ≤ v20_4.toInt → v20_4.toInt ≤ 1 → 0 ≤ v20_5.toInt → v20_5.toInt ≤ 40 → (v20_4.toInt = 1 → allB h 194 (40 * x2.toInt.toNat) v20_5.toInt 99) → ((v20_4.toInt = 1 ∧ way (vl h 194 (40 * x2.toInt.toNat)) v20_5.toInt) ∨ (v20_4.toInt = 0 ∧ ¬ way (vl h 194 (40 * x2.toInt.toNat)) y7.toInt)) → 40 - v20_5.toInt < (n20 : Int) → EvP im_K0 3 mX12_rail (78, [(0, .ref 164), (1, .int x1), (2, .int x2), (3, .int x3), (4, .int v20_4), (5, .int v20_5)], [], h) (fun v h2 => tI h2 ∧ fr F_X12_rail h h2 ∧ ∃ y : Int32, v = some (.int y) ∧ Q2_rail x1 x2 x3 y h h2) := by
                intro n20
                induction n20 with
                | zero => intro v20_4 v20_5 a20_4 b20_4 a20_5 b20_5 w20_0 w20_1 m20; exfalso; omega
                | succ n20 ih20 =>
                  intro v20_4 v20_5 a20_4 b20_4 a20_5 b20_5 w20_0 w20_1 m20
                  refine te_iload (p2 := 80) rfl rfl rfl ?_
                  refine te_aload_n (p2 := 81) rfl rfl rfl ?_
                  refine tg_r (p2 := 84) (i := 148) (r := 209) rfl rfl hI rfl rfl rfl ?_
                  refine te_iload_n (p2 := 85) rfl rfl rfl ?_
                  refine tl_e (p2 := 86) (i := 193) (n := 4) (t := 0) (Or.inl rfl) rfl rfl hI rfl rfl (by omega) (by omega) e7 ?_
                  refine tb_ge (p2 := 89) rfl rfl rfl rfl (fun c22 => ?_) (fun c22 => ?_)
                  · refine te_iload (p2 := 173) rfl rfl rfl ?_
                    refine tz_ne (p2 := 176) rfl rfl rfl (fun c23 => ?_) (fun c23 => ?_)
                    · refine te_iconst (p2 := 180) (x := 0) rfl rfl (by decide) ?_
                      refine te_istore (p2 := 182) (lv2 := [(5, .int 0), (0, .ref 164), (1, .int x1), (2, .int x2), (3, .int x3), (4, .int v20_4)]) rfl rfl (by decide) rfl ?_
                      have lp24 : ∀ (n24 : Nat) (v24_5 : Int32) (h24 : im_H), tI h24 → fr F_X12_rail h h24 → 0 ≤ v24_5.toInt → v24_5.toInt ≤ 12 → 12 - v24_5.toInt < (n24 : Int) → EvP im_K0 3 mX12_rail (182, [(0, .ref 164), (1, .int x1), (2, .int x2), (3, .int x3), (4, .int v20_4), (5, .int v24_5)], [], h24) (fun v h2 => tI h2 ∧ fr F_X12_rail h h2 ∧ ∃ y : Int32, v = some (.int y) ∧ Q2_rail x1 x2 x3 y h h2) := by
                        intro n24
                        induction n24 with
                        | zero => intro v24_5 h24 I24 f24 a24_5 b24_5 m24; exfalso; omega
                        | succ n24 ih24 =>
                          intro v24_5 h24 I24 f24 a24_5 b24_5 m24
                          refine te_iload (p2 := 184) rfl rfl rfl ?_
                          refine te_aload_n (p2 := 185) rfl rfl rfl ?_
                          refine tg_r (p2 := 188) (i := 148) (r := 209) rfl rfl I24 rfl rfl rfl ?_
                          refine te_iload_n (p2 := 189) rfl rfl rfl ?_
                          refine tl_e (p2 := 190) (i := 193) (n := 4) (t := 0) (Or.inl rfl) rfl rfl I24 rfl rfl (by omega) (by omega) ((f24 _ _ rfl).trans e7) ?_
                          refine tb_ge (p2 := 193) rfl rfl rfl rfl (fun c26 => ?_) (fun c26 => ?_)
                          · refine te_aload_n (p2 := 224) rfl rfl rfl ?_
                            refine tg_r (p2 := 227) (i := 148) (r := 181) rfl rfl I24 rfl rfl rfl ?_
                            refine te_iload_n (p2 := 228) rfl rfl rfl ?_
                            refine te_aload_n (p2 := 229) rfl rfl rfl ?_
                            refine tg_r (p2 := 232) (i := 148) (r := 209) rfl rfl I24 rfl rfl rfl ?_
                            refine te_iload_n (p2 := 233) rfl rfl rfl ?_
                            refine tl_e (p2 := 234) (i := 193) (n := 4) (t := 0) (Or.inl rfl) rfl rfl I24 rfl rfl (by omega) (by omega) ((f24 _ _ rfl).trans e7) ?_
                            refine ts_i (p2 := 235) (i := 165) (n := 3) rfl rfl I24 rfl rfl rfl rfl (by omega) (by omega) (by omega) (by omega) (by omega) rfl (fun h28 I28 u28 => ?_)
                            have f28 := fr_st (F := F_X12_rail) 1 f24 u28 rfl (by omega) (by omega)
                            refine te_aload_n (p2 := 236) rfl rfl rfl ?_
                            refine tg_r (p2 := 239) (i := 148) (r := 182) rfl rfl I28 rfl rfl rfl ?_
                            refine te_iload_n (p2 := 240) rfl rfl rfl ?_
                            refine te_iload_n (p2 := 241) rfl rfl rfl ?_
                            refine ts_i (p2 := 242) (i := 166) (n := 3) rfl rfl I28 rfl rfl rfl rfl (by omega) (by omega) (i32_lo _) (i32_hi _) (i32_ho _) rfl (fun h29 I29 u29 => ?_)
                            have f29 := fr_st (F := F_X12_rail) 2 f28 u29 rfl (by omega) (by omega)
                            refine te_aload_n (p2 := 243) rfl rfl rfl ?_
                            refine tg_r (p2 := 246) (i := 148) (r := 209) rfl rfl I29 rfl rfl rfl ?_
                            refine te_iload_n (p2 := 247) rfl rfl rfl ?_
                            refine tl_e (p2 := 248) (i := 193) (n := 4) (t := 0) (Or.inl rfl) rfl rfl I29 rfl rfl (by omega) (by omega) ((u29.2 _ _ (Or.inl (by decide))).trans ((u28.2 _ _ (Or.inl (by decide))).trans ((f24 _ _ rfl).trans e7))) ?_
                            exact te_iret rfl rfl ⟨I29, f29, _, rfl, Or.inl ⟨by omega, y5, y7, e5, e7, Or.inr (Or.inl ⟨by omega, ⟨by omega, by omega, by omega, by omega, way_le (w20_1.resolve_right (fun h9 => absurd h9.1 (by omega))).2 (by omega)⟩, rfl⟩)⟩⟩
                          · refine te_aload_n (p2 := 194) rfl rfl rfl ?_
                            refine tg_r (p2 := 197) (i := 148) (r := 180) rfl rfl I24 rfl rfl rfl ?_
                            refine te_bipush (p2 := 199) (x := 12) rfl rfl (by decide) ?_
                            refine te_iload_n (p2 := 200) rfl rfl rfl ?_
                            refine ar_mul (p2 := 201) rfl rfl (show Int32.toInt 12 = 12 from rfl) rfl (by omega) (by omega) (fun z31 e31 f31 => ?_)
                            refine te_iload (p2 := 203) rfl rfl rfl ?_
                            refine ar_add (p2 := 204) rfl rfl rfl rfl (by omega) (by omega) (fun z32 e32 f32 => ?_)
                            refine te_aload_n (p2 := 205) rfl rfl rfl ?_
                            refine tg_r (p2 := 208) (i := 148) (r := 210) rfl rfl I24 rfl rfl rfl ?_
                            refine te_bipush (p2 := 210) (x := 40) rfl rfl (by decide) ?_
                            refine te_iload_n (p2 := 211) rfl rfl rfl ?_
                            refine ar_mul (p2 := 212) rfl rfl (show Int32.toInt 40 = 40 from rfl) rfl (by omega) (by omega) (fun z33 e33 f33 => ?_)
                            refine te_iload (p2 := 214) rfl rfl rfl ?_
                            refine ar_add (p2 := 215) rfl rfl rfl rfl (by omega) (by omega) (fun z34 e34 f34 => ?_)
                            refine tl_i (p2 := 216) (i := 194) (n := 160) rfl rfl I24 rfl rfl rfl rfl (by omega) (by omega) (fun y35 a35 b35 g35 e35 => ?_)
                            obtain ⟨a36, b36⟩ := allB_at (allB_fr (w20_0 (by omega)) (fun q => f24 _ _ rfl)) v24_5.toInt.toNat (by omega) (by omega) e35
                            refine ts_i (p2 := 217) (i := 164) (n := 36) rfl rfl I24 rfl rfl rfl rfl (by omega) (by omega) (by omega) (by omega) (by omega) rfl (fun h37 I37 u37 => ?_)
                            have f37 := fr_st (F := F_X12_rail) 0 f24 u37 rfl (by omega) (by omega)
                            refine ar_inc (p2 := 220) (x := v24_5) rfl rfl (by decide) rfl (by decide) rfl (by omega) (by omega) (fun z38 e38 f38 => ?_)
                            show EvP _ _ _ (220, [(5, .int z38), (0, .ref 164), (1, .int x1), (2, .int x2), (3, .int x3), (4, .int v20_4)], [], h37) _
                            refine te_goto rfl ?_
                            refine te_lv [(0, .ref 164), (1, .int x1), (2, .int x2), (3, .int x3), (4, .int v20_4), (5, .int z38)] rfl rfl ⟨rfl, rfl, rfl, rfl, rfl, rfl, trivial⟩ ?_
                            exact ih24 z38 h37 I37 f37 (by omega) (by omega) (by omega)
                      refine te_lv [(0, .ref 164), (1, .int x1), (2, .int x2), (3, .int x3), (4, .int v20_4), (5, .int 0)] rfl rfl ⟨rfl, rfl, rfl, rfl, rfl, rfl, trivial⟩ ?_
                      exact lp24 13 0 h hI f0 (by decide) (by decide) (by have cc0 := (show Int32.toInt 0 = 0 from rfl); omega)
                    · refine te_bipush (p2 := 178) (x := (-2)) rfl rfl (by decide) ?_
                      exact te_iret rfl rfl ⟨hI, f0, _, rfl, Or.inl ⟨by omega, y5, y7, e5, e7, Or.inr (Or.inr ⟨by omega, (fun ho => (w20_1.resolve_left (fun h9 => absurd h9.1 (by omega))).2 ho.2.2.2.2), rfl⟩)⟩⟩
                  · refine te_iload (p2 := 91) rfl rfl rfl ?_
                    refine tz_eq (p2 := 94) rfl rfl rfl (fun c39 => ?_) (fun c39 => ?_)
                    · refine te_iload (p2 := 173) rfl rfl rfl ?_
                      refine tz_ne (p2 := 176) rfl rfl rfl (fun c40 => absurd c40 (by omega)) (fun c40 => ?_)
                      refine te_bipush (p2 := 178) (x := (-2)) rfl rfl (by decide) ?_
                      exact te_iret rfl rfl ⟨hI, f0, _, rfl, Or.inl ⟨by omega, y5, y7, e5, e7, Or.inr (Or.inr ⟨by omega, (fun ho => (w20_1.resolve_left (fun h9 => absurd h9.1 (by omega))).2 ho.2.2.2.2), rfl⟩)⟩⟩
                    · refine te_aload_n (p2 := 95) rfl rfl rfl ?_
                      refine tg_r (p2 := 98) (i := 148) (r := 210) rfl rfl hI rfl rfl rfl ?_
                      refine te_bipush (p2 := 100) (x := 40) rfl rfl (by decide) ?_
                      refine te_iload_n (p2 := 101) rfl rfl rfl ?_
                      refine ar_mul (p2 := 102) rfl rfl (show Int32.toInt 40 = 40 from rfl) rfl (by omega) (by omega) (fun z41 e41 f41 => ?_)
                      refine te_iload (p2 := 104) rfl rfl rfl ?_
                      refine ar_add (p2 := 105) rfl rfl rfl rfl (by omega) (by omega) (fun z42 e42 f42 => ?_)
                      refine tl_i (p2 := 106) (i := 194) (n := 160) rfl rfl hI rfl rfl rfl rfl (by omega) (by omega) (fun y43 a43 b43 g43 e43 => ?_)
                      refine cS_pI (p2 := 109) rfl rfl rfl rfl (t_X12_isCell (n := y43) hI ) (by decide) (fun y44 r44 => ?_)
                      rcases r44 with ⟨w44, c44⟩ | ⟨w44, c44⟩
                      · subst w44
                        refine tz_eq (p2 := 112) rfl rfl (show Int32.toInt 1 = 1 from rfl) (fun c45 => absurd c45 (by omega)) (fun c45 => ?_)
                        refine te_iload (p2 := 114) rfl rfl rfl ?_
                        refine tz_eq (p2 := 117) rfl rfl rfl (fun c46 => ?_) (fun c46 => ?_)
                        · refine te_iconst (p2 := 159) (x := 1) rfl rfl (by decide) ?_
                          refine te_goto rfl ?_
                          refine te_istore (p2 := 165) (lv2 := [(4, .int 1), (0, .ref 164), (1, .int x1), (2, .int x2), (3, .int x3), (5, .int v20_5)]) rfl rfl (by decide) rfl ?_
                          refine ar_inc (p2 := 168) (x := v20_5) rfl rfl (by decide) rfl (by decide) rfl (by omega) (by omega) (fun z47 e47 f47 => ?_)
                          show EvP _ _ _ (168, [(5, .int z47), (4, .int 1), (0, .ref 164), (1, .int x1), (2, .int x2), (3, .int x3)], [], h) _
                          refine te_goto rfl ?_
                          refine te_lv [(0, .ref 164), (1, .int x1), (2, .int x2), (3, .int x3), (4, .int 1), (5, .int z47)] rfl rfl ⟨rfl, rfl, rfl, rfl, rfl, rfl, trivial⟩ ?_
                          exact ih20 1 z47 (by decide) (by decide) (by omega) (by omega) (fun _ => allB_s (k := v20_5.toInt.toNat) (w20_0 (by omega)) (by omega) f47 (by rw [show 40 * x2.toInt.toNat + v20_5.toInt.toNat = z42.toInt.toNat by omega]; exact e43) (by omega) (by omega)) (Or.inl ⟨by decide, way_s (k := v20_5.toInt.toNat) ((w20_1.resolve_right (fun h9 => absurd h9.1 (by omega))).2) (by omega) f47 (by rw [(vl_of (c := 194) (o := 40 * x2.toInt.toNat) (i := v20_5.toInt.toNat) (by omega) (by rw [show 40 * x2.toInt.toNat + v20_5.toInt.toNat = z42.toInt.toNat by omega]; exact e43) : vl h 194 (40 * x2.toInt.toNat) v20_5.toInt.toNat = y43)]; omega) (fun h9 => by exfalso; omega)⟩) (by have cc0 := (show Int32.toInt 1 = 1 from rfl); omega)
                        · refine te_aload_n (p2 := 118) rfl rfl rfl ?_
                          refine tg_r (p2 := 121) (i := 148) (r := 210) rfl rfl hI rfl rfl rfl ?_
                          refine te_bipush (p2 := 123) (x := 40) rfl rfl (by decide) ?_
                          refine te_iload_n (p2 := 124) rfl rfl rfl ?_
                          refine ar_mul (p2 := 125) rfl rfl (show Int32.toInt 40 = 40 from rfl) rfl (by omega) (by omega) (fun z48 e48 f48 => ?_)
                          refine te_iload (p2 := 127) rfl rfl rfl ?_
                          refine tz_ne (p2 := 130) rfl rfl rfl (fun c49 => ?_) (fun c49 => absurd c49 (by omega))
                          refine te_iload (p2 := 136) rfl rfl rfl ?_
                          refine te_iconst (p2 := 137) (x := 1) rfl rfl (by decide) ?_
                          refine ar_sub (p2 := 138) rfl rfl rfl (show Int32.toInt 1 = 1 from rfl) (by omega) (by omega) (fun z50 e50 f50 => ?_)
                          refine ar_add (p2 := 139) rfl rfl rfl rfl (by omega) (by omega) (fun z51 e51 f51 => ?_)
                          refine tl_i (p2 := 140) (i := 194) (n := 160) rfl rfl hI rfl rfl rfl rfl (by omega) (by omega) (fun y52 a52 b52 g52 e52 => ?_)
                          obtain ⟨a53, b53⟩ := allB_at (w20_0 (by omega)) (v20_5.toInt - 1).toNat (by omega) (by omega) e52
                          refine te_aload_n (p2 := 141) rfl rfl rfl ?_
                          refine tg_r (p2 := 144) (i := 148) (r := 210) rfl rfl hI rfl rfl rfl ?_
                          refine te_bipush (p2 := 146) (x := 40) rfl rfl (by decide) ?_
                          refine te_iload_n (p2 := 147) rfl rfl rfl ?_
                          refine ar_mul (p2 := 148) rfl rfl (show Int32.toInt 40 = 40 from rfl) rfl (by omega) (by omega) (fun z54 e54 f54 => ?_)
                          refine te_iload (p2 := 150) rfl rfl rfl ?_
                          refine ar_add (p2 := 151) rfl rfl rfl rfl (by omega) (by omega) (fun z55 e55 f55 => ?_)
                          refine tl_i (p2 := 152) (i := 194) (n := 160) rfl rfl hI rfl rfl rfl rfl (by omega) (by omega) (fun y56 a56 b56 g56 e56 => ?_)
                          refine cS_pI (p2 := 155) rfl rfl rfl rfl (c_X12_areBeside (c := y52) (o := y56) hI (by omega) (by omega)) (by decide) (fun y57 r57 => ?_)
                          rcases r57 with ⟨w57_, c57⟩ | ⟨w57_, c57⟩
                          · subst w57_
                            refine tz_eq (p2 := 158) rfl rfl (show Int32.toInt 1 = 1 from rfl) (fun c58 => absurd c58 (by omega)) (fun c58 => ?_)
                            refine te_iconst (p2 := 159) (x := 1) rfl rfl (by decide) ?_
                            refine te_goto rfl ?_
                            refine te_istore (p2 := 165) (lv2 := [(4, .int 1), (0, .ref 164), (1, .int x1), (2, .int x2), (3, .int x3), (5, .int v20_5)]) rfl rfl (by decide) rfl ?_
                            refine ar_inc (p2 := 168) (x := v20_5) rfl rfl (by decide) rfl (by decide) rfl (by omega) (by omega) (fun z59 e59 f59 => ?_)
                            show EvP _ _ _ (168, [(5, .int z59), (4, .int 1), (0, .ref 164), (1, .int x1), (2, .int x2), (3, .int x3)], [], h) _
                            refine te_goto rfl ?_
                            refine te_lv [(0, .ref 164), (1, .int x1), (2, .int x2), (3, .int x3), (4, .int 1), (5, .int z59)] rfl rfl ⟨rfl, rfl, rfl, rfl, rfl, rfl, trivial⟩ ?_
                            exact ih20 1 z59 (by decide) (by decide) (by omega) (by omega) (fun _ => allB_s (k := v20_5.toInt.toNat) (w20_0 (by omega)) (by omega) f59 (by rw [show 40 * x2.toInt.toNat + v20_5.toInt.toNat = z42.toInt.toNat by omega]; exact e43) (by omega) (by omega)) (Or.inl ⟨by decide, way_s (k := v20_5.toInt.toNat) ((w20_1.resolve_right (fun h9 => absurd h9.1 (by omega))).2) (by omega) f59 (by rw [(vl_of (c := 194) (o := 40 * x2.toInt.toNat) (i := v20_5.toInt.toNat) (by omega) (by rw [show 40 * x2.toInt.toNat + v20_5.toInt.toNat = z42.toInt.toNat by omega]; exact e43) : vl h 194 (40 * x2.toInt.toNat) v20_5.toInt.toNat = y43)]; omega) (fun _ => by rw [(vl_of (c := 194) (o := 40 * x2.toInt.toNat) (i := v20_5.toInt.toNat - 1) (by omega) (by rw [show 40 * x2.toInt.toNat + (v20_5.toInt.toNat - 1) = z51.toInt.toNat by omega]; exact e52) : vl h 194 (40 * x2.toInt.toNat) (v20_5.toInt.toNat - 1) = y52), (vl_of (c := 194) (o := 40 * x2.toInt.toNat) (i := v20_5.toInt.toNat) (by omega) (by rw [show 40 * x2.toInt.toNat + v20_5.toInt.toNat = z55.toInt.toNat by omega]; exact e56) : vl h 194 (40 * x2.toInt.toNat) v20_5.toInt.toNat = y56)]; exact c57)⟩) (by have cc0 := (show Int32.toInt 1 = 1 from rfl); omega)
                          · subst w57_
                            refine tz_eq (p2 := 158) rfl rfl (show Int32.toInt 0 = 0 from rfl) (fun c60 => ?_) (fun c60 => absurd c60 (by omega))
                            refine te_iconst (p2 := 163) (x := 0) rfl rfl (by decide) ?_
                            refine te_istore (p2 := 165) (lv2 := [(4, .int 0), (0, .ref 164), (1, .int x1), (2, .int x2), (3, .int x3), (5, .int v20_5)]) rfl rfl (by decide) rfl ?_
                            refine ar_inc (p2 := 168) (x := v20_5) rfl rfl (by decide) rfl (by decide) rfl (by omega) (by omega) (fun z61 e61 f61 => ?_)
                            show EvP _ _ _ (168, [(5, .int z61), (4, .int 0), (0, .ref 164), (1, .int x1), (2, .int x2), (3, .int x3)], [], h) _
                            refine te_goto rfl ?_
                            refine te_lv [(0, .ref 164), (1, .int x1), (2, .int x2), (3, .int x3), (4, .int 0), (5, .int z61)] rfl rfl ⟨rfl, rfl, rfl, rfl, rfl, rfl, trivial⟩ ?_
                            exact ih20 0 z61 (by decide) (by decide) (by omega) (by omega) (fun e => absurd e (by decide)) (Or.inr ⟨by decide, (fun hw => by (have h9 := (hw v20_5.toInt.toNat (by omega)).2 (by omega)); rw [(vl_of (c := 194) (o := 40 * x2.toInt.toNat) (i := v20_5.toInt.toNat - 1) (by omega) (by rw [show 40 * x2.toInt.toNat + (v20_5.toInt.toNat - 1) = z51.toInt.toNat by omega]; exact e52) : vl h 194 (40 * x2.toInt.toNat) (v20_5.toInt.toNat - 1) = y52), (vl_of (c := 194) (o := 40 * x2.toInt.toNat) (i := v20_5.toInt.toNat) (by omega) (by rw [show 40 * x2.toInt.toNat + v20_5.toInt.toNat = z55.toInt.toNat by omega]; exact e56) : vl h 194 (40 * x2.toInt.toNat) v20_5.toInt.toNat = y56)] at h9; exact c57 h9)⟩) (by have cc0 := (show Int32.toInt 0 = 0 from rfl); omega)
                      · subst w44
                        refine tz_eq (p2 := 112) rfl rfl (show Int32.toInt 0 = 0 from rfl) (fun c62 => ?_) (fun c62 => absurd c62 (by omega))
                        refine te_iconst (p2 := 163) (x := 0) rfl rfl (by decide) ?_
                        refine te_istore (p2 := 165) (lv2 := [(4, .int 0), (0, .ref 164), (1, .int x1), (2, .int x2), (3, .int x3), (5, .int v20_5)]) rfl rfl (by decide) rfl ?_
                        refine ar_inc (p2 := 168) (x := v20_5) rfl rfl (by decide) rfl (by decide) rfl (by omega) (by omega) (fun z63 e63 f63 => ?_)
                        show EvP _ _ _ (168, [(5, .int z63), (4, .int 0), (0, .ref 164), (1, .int x1), (2, .int x2), (3, .int x3)], [], h) _
                        refine te_goto rfl ?_
                        refine te_lv [(0, .ref 164), (1, .int x1), (2, .int x2), (3, .int x3), (4, .int 0), (5, .int z63)] rfl rfl ⟨rfl, rfl, rfl, rfl, rfl, rfl, trivial⟩ ?_
                        exact ih20 0 z63 (by decide) (by decide) (by omega) (by omega) (fun e => absurd e (by decide)) (Or.inr ⟨by decide, (fun hw => by (have h9 := (hw v20_5.toInt.toNat (by omega)).1); rw [(vl_of (c := 194) (o := 40 * x2.toInt.toNat) (i := v20_5.toInt.toNat) (by omega) (by rw [show 40 * x2.toInt.toNat + v20_5.toInt.toNat = z42.toInt.toNat by omega]; exact e43) : vl h 194 (40 * x2.toInt.toNat) v20_5.toInt.toNat = y43)] at h9; omega)⟩) (by have cc0 := (show Int32.toInt 0 = 0 from rfl); omega)
              refine te_lv [(0, .ref 164), (1, .int x1), (2, .int x2), (3, .int x3), (4, .int 1), (5, .int 0)] rfl rfl ⟨rfl, rfl, rfl, rfl, rfl, rfl, trivial⟩ ?_
              exact lp20 41 1 0 (by decide) (by decide) (by decide) (by decide) (fun _ => allB_0 (by decide)) (Or.inl ⟨by decide, way_0 (by decide)⟩) (by have cc0 := (show Int32.toInt 1 = 1 from rfl); have cc1 := (show Int32.toInt 0 = 0 from rfl); omega)
            · subst w18
              have cc18_1 := (show Int32.toInt 0 = 0 from rfl)
              have cc18_2 := (show Int32.toInt 20 = 20 from rfl)
              refine tz_eq (p2 := 68) rfl rfl (show Int32.toInt 0 = 0 from rfl) (fun c64 => ?_) (fun c64 => absurd c64 (by omega))
              refine te_iconst (p2 := 73) (x := 0) rfl rfl (by decide) ?_
              refine te_istore (p2 := 75) (lv2 := [(4, .int 0), (0, .ref 164), (1, .int x1), (2, .int x2), (3, .int x3)]) rfl rfl (by decide) rfl ?_
              refine te_iconst (p2 := 76) (x := 0) rfl rfl (by decide) ?_
              refine te_istore (p2 := 78) (lv2 := [(5, .int 0), (4, .int 0), (0, .ref 164), (1, .int x1), (2, .int x2), (3, .int x3)]) rfl rfl (by decide) rfl ?_
              have lp65 : ∀ (n65 : Nat) (v65_4 v65_5 : Int32) , 0 ≤ v65_4.toInt → v65_4.toInt ≤ 0 → 0 ≤ v65_5.toInt → v65_5.toInt ≤ 40 → 40 - v65_5.toInt < (n65 : Int) → EvP im_K0 3 mX12_rail (78, [(0, .ref 164), (1, .int x1), (2, .int x2), (3, .int x3), (4, .int v65_4), (5, .int v65_5)], [], h) (fun v h2 => tI h2 ∧ fr F_X12_rail h h2 ∧ ∃ y : Int32, v = some (.int y) ∧ Q2_rail x1 x2 x3 y h h2) := by
                intro n65
                induction n65 with
                | zero => intro v65_4 v65_5 a65_4 b65_4 a65_5 b65_5 m65; exfalso; omega
                | succ n65 ih65 =>
                  intro v65_4 v65_5 a65_4 b65_4 a65_5 b65_5 m65
                  refine te_iload (p2 := 80) rfl rfl rfl ?_
                  refine te_aload_n (p2 := 81) rfl rfl rfl ?_
                  refine tg_r (p2 := 84) (i := 148) (r := 209) rfl rfl hI rfl rfl rfl ?_
                  refine te_iload_n (p2 := 85) rfl rfl rfl ?_
                  refine tl_e (p2 := 86) (i := 193) (n := 4) (t := 0) (Or.inl rfl) rfl rfl hI rfl rfl (by omega) (by omega) e7 ?_
                  refine tb_ge (p2 := 89) rfl rfl rfl rfl (fun c67 => ?_) (fun c67 => ?_)
                  · refine te_iload (p2 := 173) rfl rfl rfl ?_
                    refine tz_ne (p2 := 176) rfl rfl rfl (fun c68 => absurd c68 (by omega)) (fun c68 => ?_)
                    refine te_bipush (p2 := 178) (x := (-2)) rfl rfl (by decide) ?_
                    exact te_iret rfl rfl ⟨hI, f0, _, rfl, Or.inl ⟨by omega, y5, y7, e5, e7, Or.inr (Or.inr ⟨by omega, (fun ho => by (obtain ⟨h5, h6, h7, h8, _⟩ := ho); omega), rfl⟩)⟩⟩
                  · refine te_iload (p2 := 91) rfl rfl rfl ?_
                    refine tz_eq (p2 := 94) rfl rfl rfl (fun c69 => ?_) (fun c69 => absurd c69 (by omega))
                    refine te_iload (p2 := 173) rfl rfl rfl ?_
                    refine tz_ne (p2 := 176) rfl rfl rfl (fun c70 => absurd c70 (by omega)) (fun c70 => ?_)
                    refine te_bipush (p2 := 178) (x := (-2)) rfl rfl (by decide) ?_
                    exact te_iret rfl rfl ⟨hI, f0, _, rfl, Or.inl ⟨by omega, y5, y7, e5, e7, Or.inr (Or.inr ⟨by omega, (fun ho => by (obtain ⟨h5, h6, h7, h8, _⟩ := ho); omega), rfl⟩)⟩⟩
              refine te_lv [(0, .ref 164), (1, .int x1), (2, .int x2), (3, .int x3), (4, .int 0), (5, .int 0)] rfl rfl ⟨rfl, rfl, rfl, rfl, rfl, rfl, trivial⟩ ?_
              exact lp65 41 0 0 (by decide) (by decide) (by decide) (by decide) (by have cc0 := (show Int32.toInt 0 = 0 from rfl); omega)
        · subst w8
          have cc8_1 := (show Int32.toInt 0 = 0 from rfl)
          have cc8_2 := (show Int32.toInt 12 = 12 from rfl)
          refine tz_eq (p2 := 48) rfl rfl (show Int32.toInt 0 = 0 from rfl) (fun c71 => ?_) (fun c71 => absurd c71 (by omega))
          refine te_iconst (p2 := 73) (x := 0) rfl rfl (by decide) ?_
          refine te_istore (p2 := 75) (lv2 := [(4, .int 0), (0, .ref 164), (1, .int x1), (2, .int x2), (3, .int x3)]) rfl rfl (by decide) rfl ?_
          refine te_iconst (p2 := 76) (x := 0) rfl rfl (by decide) ?_
          refine te_istore (p2 := 78) (lv2 := [(5, .int 0), (4, .int 0), (0, .ref 164), (1, .int x1), (2, .int x2), (3, .int x3)]) rfl rfl (by decide) rfl ?_
          have lp72 : ∀ (n72 : Nat) (v72_4 v72_5 : Int32) , 0 ≤ v72_4.toInt → v72_4.toInt ≤ 0 → 0 ≤ v72_5.toInt → v72_5.toInt ≤ 40 → 40 - v72_5.toInt < (n72 : Int) → EvP im_K0 3 mX12_rail (78, [(0, .ref 164), (1, .int x1), (2, .int x2), (3, .int x3), (4, .int v72_4), (5, .int v72_5)], [], h) (fun v h2 => tI h2 ∧ fr F_X12_rail h h2 ∧ ∃ y : Int32, v = some (.int y) ∧ Q2_rail x1 x2 x3 y h h2) := by
            intro n72
            induction n72 with
            | zero => intro v72_4 v72_5 a72_4 b72_4 a72_5 b72_5 m72; exfalso; omega
            | succ n72 ih72 =>
              intro v72_4 v72_5 a72_4 b72_4 a72_5 b72_5 m72
              refine te_iload (p2 := 80) rfl rfl rfl ?_
              refine te_aload_n (p2 := 81) rfl rfl rfl ?_
              refine tg_r (p2 := 84) (i := 148) (r := 209) rfl rfl hI rfl rfl rfl ?_
              refine te_iload_n (p2 := 85) rfl rfl rfl ?_
              refine tl_e (p2 := 86) (i := 193) (n := 4) (t := 0) (Or.inl rfl) rfl rfl hI rfl rfl (by omega) (by omega) e7 ?_
              refine tb_ge (p2 := 89) rfl rfl rfl rfl (fun c74 => ?_) (fun c74 => ?_)
              · refine te_iload (p2 := 173) rfl rfl rfl ?_
                refine tz_ne (p2 := 176) rfl rfl rfl (fun c75 => absurd c75 (by omega)) (fun c75 => ?_)
                refine te_bipush (p2 := 178) (x := (-2)) rfl rfl (by decide) ?_
                exact te_iret rfl rfl ⟨hI, f0, _, rfl, Or.inl ⟨by omega, y5, y7, e5, e7, Or.inr (Or.inr ⟨by omega, (fun ho => by (obtain ⟨h5, h6, h7, h8, _⟩ := ho); omega), rfl⟩)⟩⟩
              · refine te_iload (p2 := 91) rfl rfl rfl ?_
                refine tz_eq (p2 := 94) rfl rfl rfl (fun c76 => ?_) (fun c76 => absurd c76 (by omega))
                refine te_iload (p2 := 173) rfl rfl rfl ?_
                refine tz_ne (p2 := 176) rfl rfl rfl (fun c77 => absurd c77 (by omega)) (fun c77 => ?_)
                refine te_bipush (p2 := 178) (x := (-2)) rfl rfl (by decide) ?_
                exact te_iret rfl rfl ⟨hI, f0, _, rfl, Or.inl ⟨by omega, y5, y7, e5, e7, Or.inr (Or.inr ⟨by omega, (fun ho => by (obtain ⟨h5, h6, h7, h8, _⟩ := ho); omega), rfl⟩)⟩⟩
          refine te_lv [(0, .ref 164), (1, .int x1), (2, .int x2), (3, .int x3), (4, .int 0), (5, .int 0)] rfl rfl ⟨rfl, rfl, rfl, rfl, rfl, rfl, trivial⟩ ?_
          exact lp72 41 0 0 (by decide) (by decide) (by decide) (by decide) (by have cc0 := (show Int32.toInt 0 = 0 from rfl); omega)
      · refine te_bipush (p2 := 32) (x := (-11)) rfl rfl (by decide) ?_
        obtain ⟨v78, e78, y78, w78, a78, b78, _⟩ := hI.2.1 193 x2.toInt.toNat (.inl (0, 40, 9999999999)) (tq_row rfl (by omega))
        subst w78
        exact te_iret rfl rfl ⟨hI, f0, _, rfl, Or.inl ⟨by omega, y5, y78, e5, e78, Or.inl ⟨by omega, rfl⟩⟩⟩
    · subst w3
      have cc3_1 := (show Int32.toInt 0 = 0 from rfl)
      have cc3_2 := (show Int32.toInt 3 = 3 from rfl)
      refine tz_ne (p2 := 18) rfl rfl (show Int32.toInt 0 = 0 from rfl) (fun c79 => absurd c79 (by omega)) (fun c79 => ?_)
      refine te_iconst (p2 := 19) (x := (-1)) rfl rfl (by decide) ?_
      exact te_iret rfl rfl ⟨hI, f0, _, rfl, Or.inr ⟨by omega, rfl⟩⟩
  · subst w1
    have cc1_1 := (show Int32.toInt 0 = 0 from rfl)
    have cc1_2 := (show Int32.toInt 2 = 2 from rfl)
    refine tz_eq (p2 := 9) rfl rfl (show Int32.toInt 0 = 0 from rfl) (fun c80 => ?_) (fun c80 => absurd c80 (by omega))
    refine te_iconst (p2 := 19) (x := (-1)) rfl rfl (by decide) ?_
    exact te_iret rfl rfl ⟨hI, f0, _, rfl, Or.inr ⟨by omega, rfl⟩⟩
