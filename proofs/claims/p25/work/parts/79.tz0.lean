def pulT_f (x1 n : Int32) (r : Nat → Int32) : Int32 := if 0 ≤ x1.toInt ∧ x1.toInt < n.toInt then r x1.toInt.toNat else -1
theorem pulT_e {x1 n m : Int32} {r s : Nat → Int32} (hn : n.toInt ≤ 6) (en : n = m) (er : ∀ k, k < 6 → r k = s k) : pulT_f x1 n r = pulT_f x1 m s := by
  subst en
  unfold pulT_f
  by_cases hc : 0 ≤ x1.toInt ∧ x1.toInt < n.toInt
  · rw [if_pos hc, if_pos hc, er _ (by omega)]
  · rw [if_neg hc, if_neg hc]
theorem pq_n6 {h : im_H} (hI : tI h) : (rv h 68 0).toInt ≤ 6 := by
  obtain ⟨_, e, y, w, a, b, _⟩ := hI.2.1 68 0 (.inl (0, 6, 9999999999)) rfl
  subst w
  rw [rv_of e]
  exact b
theorem pq_rd68 {h : im_H} (hI : tI h) (e : rv h 68 0 = rv h 148 41) : rd h 68 0 = rd h 148 41 := by
  obtain ⟨_, e1, y, w, _⟩ := hI.2.1 68 0 (.inl (0, 6, 9999999999)) rfl
  obtain ⟨_, e2, y2, w2, _⟩ := hI.2.1 148 41 (.inl (0, 6, 9999999999)) rfl
  subst w w2
  rw [rv_of e1, rv_of e2] at e
  rw [e1, e2, e]
theorem pq_rd69 {h : im_H} {k : Nat} (hI : tI h) (hk : k < 6) (e : rv h 69 k = rv h 183 k) : rd h 69 k = rd h 183 k := by
  obtain ⟨_, e1, y, w, _⟩ := hI.2.1 69 k (.inl ((-2147483648), 2147483647, 9999999999)) (tq_row rfl (by omega))
  obtain ⟨_, e2, y2, w2, _⟩ := hI.2.1 183 k (.inl ((-2147483648), 2147483647, 9999999999)) (tq_row rfl (by omega))
  subst w w2
  rw [rv_of e1, rv_of e2] at e
  rw [e1, e2, e]
abbrev Q1_pullTold (x1 : Int32) (y : Int32) (h h2 : im_H) : Prop := y = pulT_f x1 (rv h 68 0) (rv h 69)
set_option maxRecDepth 20000 in
set_option maxHeartbeats 4000000 in
theorem c_X11_pullTold {x1 : Int32} {h : im_H} (hI : tI h)  : CaP 8 87 [.ref 16, .int x1] h (fun v h2 => tI h2 ∧ fr F_X11_pullTold h h2 ∧ ∃ y : Int32, v = some (.int y) ∧ Q1_pullTold x1 y h h2) := by
  refine cap_of (d := 7) (M := mX11_pullTold) rfl (Nat.le_of_ble_eq_true rfl) ?_
  show EvP im_K0 7 mX11_pullTold (0, [(0, .ref 16), (1, .int x1)], [], h) _
  have f0 : fr F_X11_pullTold h h := fr_rf
  refine te_iload_n (p2 := 1) rfl rfl rfl ?_
  refine te_aload_n (p2 := 2) rfl rfl rfl ?_
  refine tg_r (p2 := 5) (i := 0) (r := 84) rfl rfl hI rfl rfl rfl ?_
  refine tg_i (p2 := 8) (i := 68) rfl rfl hI rfl rfl rfl (fun y1 a1 b1 e1 => ?_)
  refine cS_pI (p2 := 11) rfl rfl rfl rfl (t_X11_within (n := x1) (b := y1) hI ) (by decide) (fun y2 r2 => ?_)
  rcases r2 with ⟨w2, c2⟩ | ⟨w2, c2⟩
  · subst w2
    refine tz_eq (p2 := 14) rfl rfl (show Int32.toInt 1 = 1 from rfl) (fun c3 => absurd c3 (by omega)) (fun c3 => ?_)
    refine te_aload_n (p2 := 15) rfl rfl rfl ?_
    refine tg_r (p2 := 18) (i := 0) (r := 84) rfl rfl hI rfl rfl rfl ?_
    refine tg_r (p2 := 21) (i := 68) (r := 85) rfl rfl hI rfl rfl rfl ?_
    refine te_iload_n (p2 := 22) rfl rfl rfl ?_
    refine tl_i (p2 := 23) (i := 69) (n := 6) rfl rfl hI rfl rfl rfl rfl (by omega) (by omega) (fun y4 a4 b4 g4 e4 => ?_)
    refine te_goto rfl ?_
    exact te_iret rfl rfl ⟨hI, f0, _, rfl, (by show y4 = pulT_f x1 (rv h 68 0) (rv h 69); unfold pulT_f; rw [rv_of e1, if_pos (by omega), rv_of e4])⟩
  · subst w2
    refine tz_eq (p2 := 14) rfl rfl (show Int32.toInt 0 = 0 from rfl) (fun c5 => ?_) (fun c5 => absurd c5 (by omega))
    refine te_iconst (p2 := 27) (x := (-1)) rfl rfl (by decide) ?_
    exact te_iret rfl rfl ⟨hI, f0, _, rfl, (by show (-1) = pulT_f x1 (rv h 68 0) (rv h 69); unfold pulT_f; rw [rv_of e1, if_neg (by omega)])⟩
abbrev Q2_pullTold (x1 : Int32) (y : Int32) (h h2 : im_H) : Prop := y = pulT_f x1 (rv h 148 41) (rv h 183)
set_option maxRecDepth 20000 in
set_option maxHeartbeats 4000000 in
theorem c_X12_pullTold {x1 : Int32} {h : im_H} (hI : tI h)  : CaP 8 169 [.ref 164, .int x1] h (fun v h2 => tI h2 ∧ fr F_X12_pullTold h h2 ∧ ∃ y : Int32, v = some (.int y) ∧ Q2_pullTold x1 y h h2) := by
  refine cap_of (d := 7) (M := mX12_pullTold) rfl (Nat.le_of_ble_eq_true rfl) ?_
  show EvP im_K0 7 mX12_pullTold (0, [(0, .ref 164), (1, .int x1)], [], h) _
  have f0 : fr F_X12_pullTold h h := fr_rf
  refine te_iload_n (p2 := 1) rfl rfl rfl ?_
  refine te_iconst (p2 := 2) (x := 0) rfl rfl (by decide) ?_
  refine te_aload_n (p2 := 3) rfl rfl rfl ?_
  refine tg_i (p2 := 6) (i := 148) rfl rfl hI rfl rfl rfl (fun y1 a1 b1 e1 => ?_)
  refine te_iconst (p2 := 7) (x := 1) rfl rfl (by decide) ?_
  refine ar_sub (p2 := 8) rfl rfl rfl (show Int32.toInt 1 = 1 from rfl) (by omega) (by omega) (fun z2 e2 f2 => ?_)
  refine cS_pI (p2 := 11) rfl rfl rfl rfl (t_X12_in (n := x1) (a := 0) (b := z2) hI ) (by decide) (fun y3 r3 => ?_)
  rcases r3 with ⟨w3, c3⟩ | ⟨w3, c3⟩
  · subst w3
    have cc3_1 := (show Int32.toInt 0 = 0 from rfl)
    refine tz_eq (p2 := 14) rfl rfl (show Int32.toInt 1 = 1 from rfl) (fun c4 => absurd c4 (by omega)) (fun c4 => ?_)
    refine te_aload_n (p2 := 15) rfl rfl rfl ?_
    refine tg_r (p2 := 18) (i := 148) (r := 199) rfl rfl hI rfl rfl rfl ?_
    refine te_iload_n (p2 := 19) rfl rfl rfl ?_
    refine tl_i (p2 := 20) (i := 183) (n := 6) rfl rfl hI rfl rfl rfl rfl (by omega) (by omega) (fun y5 a5 b5 g5 e5 => ?_)
    refine te_goto rfl ?_
    exact te_iret rfl rfl ⟨hI, f0, _, rfl, (by show y5 = pulT_f x1 (rv h 148 41) (rv h 183); unfold pulT_f; rw [rv_of e1, if_pos (by omega), rv_of e5])⟩
  · subst w3
    have cc3_1 := (show Int32.toInt 0 = 0 from rfl)
    refine tz_eq (p2 := 14) rfl rfl (show Int32.toInt 0 = 0 from rfl) (fun c6 => ?_) (fun c6 => absurd c6 (by omega))
    refine te_iconst (p2 := 24) (x := (-1)) rfl rfl (by decide) ?_
    exact te_iret rfl rfl ⟨hI, f0, _, rfl, (by show (-1) = pulT_f x1 (rv h 148 41) (rv h 183); unfold pulT_f; rw [rv_of e1, if_neg (by omega)])⟩
