theorem aX_ld {h : im_H} {s k : Nat} (hk : k < 100) : (absX h s).ld k = rv h (s + 2) k := gd_at hk
theorem aX_hm {h : im_H} {s k : Nat} (hk : k < 24) : (absX h s).hm k = rv h (s + 3) k := gd_at hk
theorem aX_wk {h : im_H} {s k : Nat} (hk : k < 24) : (absX h s).wk k = rv h (s + 5) k := gd_at hk
theorem aX_de {h : im_H} {s k : Nat} (hk : k < 24) : (absX h s).de k = rv h (s + 7) k := gd_at hk
theorem aX_st {h : im_H} {s k : Nat} (hk : k < 16) : (absX h s).st k = rv h (s + 8) k := gd_at hk
theorem aX_up {h : im_H} {s k : Nat} (hk : k < 16) : (absX h s).up k = rv h (s + 9) k := gd_at hk
theorem aX_kp {h : im_H} {s k : Nat} (hk : k < 3) : (absX h s).kp k = rv h (s + 1) k := gd_at hk
theorem aX_hu {h : im_H} {s k : Nat} (hk : k < 24) (hd : (rv h (s + 7) k).toInt = 0) : (absX h s).hu k = rv h (s + 4) k := if_pos ⟨hk, hd⟩
theorem aM_ld {h : im_H} {k : Nat} (hk : k < 100) : (absM h).ld k = rv h 149 k := by
  refine (gd_at hk).trans ?_
  unfold rM
  rw [Nat.zero_add]
theorem aM_hm {h : im_H} {k : Nat} (hk : k < 24) : (absM h).hm k = rv h 149 (140 + k) := gd_at hk
theorem aM_wk {h : im_H} {k : Nat} (hk : k < 24) : (absM h).wk k = rv h 149 (188 + k) := gd_at hk
theorem aM_de {h : im_H} {k : Nat} (hk : k < 24) : (absM h).de k = rv h 149 (236 + k) := gd_at hk
theorem aM_st {h : im_H} {k : Nat} (hk : k < 16) : (absM h).st k = rv h 149 (124 + k) := gd_at hk
theorem aM_up {h : im_H} {k : Nat} (hk : k < 16) : (absM h).up k = rv h 149 (108 + k) := gd_at hk
theorem aM_kp {h : im_H} {k : Nat} (hk : k < 3) : (absM h).kp k = rv h 149 (100 + k) := gd_at hk
theorem aM_hu {h : im_H} {k : Nat} (hk : k < 24) (hd : (rv h 149 (236 + k)).toInt = 0) : (absM h).hu k = rv h 149 (164 + k) := if_pos ⟨hk, hd⟩
theorem mn14_e {w z : Int32} (f : (14 < w.toInt ∧ z.toInt = 14) ∨ (w.toInt ≤ 14 ∧ z.toInt = w.toInt)) : z = mn14 w := by
  unfold mn14
  have c14 := (show Int32.toInt 14 = 14 from rfl)
  split <;> exact i32_ext (by omega)
theorem mx0_e {w z : Int32} (f : (w.toInt < 0 ∧ z.toInt = 0) ∨ (0 ≤ w.toInt ∧ z.toInt = w.toInt)) : z = mx0 w := by
  unfold mx0
  have c0 := (show Int32.toInt 0 = 0 from rfl)
  split <;> exact i32_ext (by omega)
theorem mnI_e {x y z : Int32} (f : (y.toInt < x.toInt ∧ z.toInt = y.toInt) ∨ (x.toInt ≤ y.toInt ∧ z.toInt = x.toInt)) : z = mnI x y := by
  unfold mnI
  split <;> exact i32_ext (by omega)
theorem ps_0 {c : Ct} {A : Dy} {p : Nat} (hd : (A.de p).toInt ≠ 0) : 0 = psF c A p := (if_pos (Or.inl hd)).symm
theorem ps_1 {c : Ct} {A : Dy} {p : Nat} {w : Int32} (hw : w = c.sd (fcA c A p) 2) (h : w.toInt ≠ 0) : 0 = psF c A p := (if_pos (Or.inr (by rw [← hw]; exact h))).symm
theorem ps_2 {c : Ct} {A : Dy} {p : Nat} {w v m x d z : Int32} (hd : (A.de p).toInt = 0) (hw : w = c.sd (fcA c A p) 2) (h : w.toInt = 0) (hv : v = c.sd (fcA c A p) 0) (hm : m = mn14 v) (e : c.sg p - A.hu p = d) (hx : x = mx0 d) (hz : m * x = z) : z = psF c A p := by
  rw [← hz, hm, hx, ← e, hv]
  exact (if_neg (fun q => q.elim (fun a => a hd) (fun a => a (by rw [← hw]; exact h)))).symm
theorem brX_a {h h2 : im_H} {s to : Nat} {n z : Int32} (u : up h h2 s 3 (.int z)) (ht : (to : Int) = (rv h 1 1).toInt) (hz : rv h s 3 + n = z) : absX h2 s = brF (ctX h) (absX h s) to n := by
  rw [xu_ti u, ← hz]
  exact (if_pos ht).symm
theorem brX_b {h h2 : im_H} {s to : Nat} {n z : Int32} (u : up h h2 (s + 2) to (.int z)) (hk : to < 100) (ht : ¬ (to : Int) = (rv h 1 1).toInt) (hz : rv h (s + 2) to + n = z) : absX h2 s = brF (ctX h) (absX h s) to n := by
  rw [xu_ld u hk, ← hz, ← aX_ld (h := h) (s := s) hk]
  exact (if_neg ht).symm
theorem brM_a {h h2 : im_H} {to : Nat} {n z : Int32} (u : up h h2 149 104 (.int z)) (ht : (to : Int) = (rv h 148 9).toInt) (hz : rv h 149 104 + n = z) : absM h2 = brF (ctM h) (absM h) to n := by
  rw [mu_ti u, ← hz]
  exact (if_pos ht).symm
theorem brM_b {h h2 : im_H} {to : Nat} {n z : Int32} (u : up h h2 149 to (.int z)) (hk : to < 100) (ht : ¬ (to : Int) = (rv h 148 9).toInt) (hz : rv h 149 to + n = z) : absM h2 = brF (ctM h) (absM h) to n := by
  rw [mu_ld (i := to) u (by omega) hk, ← hz, ← aM_ld (h := h) hk]
  exact (if_neg ht).symm
theorem hdX {h : im_H} {r i : Nat} (q : r = 12 ∨ r = 14 ∨ r = 16 ∨ r = 18) (hi : i < 8) : (ctX h).hd ((r - 12) / 2) i = rv h (r + 1) i := by
  rcases q with rfl | rfl | rfl | rfl <;> exact if_pos ⟨by decide, hi⟩
theorem hnX {h : im_H} {r : Nat} (q : r = 12 ∨ r = 14 ∨ r = 16 ∨ r = 18) : (ctX h).hn ((r - 12) / 2) = rv h r 1 ∧ (ctX h).hf ((r - 12) / 2) = rv h r 2 ∧ (ctX h).ht ((r - 12) / 2) = rv h r 3 := by
  rcases q with rfl | rfl | rfl | rfl <;> exact ⟨rfl, rfl, rfl⟩
theorem wnX {h : im_H} {r : Nat} (hr : r < 3) : (ctX h).wn r = rv h (20 + r) 0 ∧ (ctX h).cr r = rv h (20 + r) 1 ∧ (¬ (rv h (20 + r) 0).toInt < 2 → (ctX h).wf r = rv h (20 + r) 2 ∧ (ctX h).wl r = rv h (20 + r) 3) :=
  ⟨gd_at (f := fun r => rv h (20 + r) 0) hr, gd_at (f := fun r => rv h (20 + r) 1) hr, fun hn => ⟨if_pos ⟨hr, by omega⟩, if_pos ⟨hr, by omega⟩⟩⟩
theorem rv_q {h h2 : im_H} {i k : Nat} (e : rd h2 i k = rd h i k) : rv h2 i k = rv h i k := by
  unfold rv
  rw [e]
theorem d_X0_said {s : Nat} {p key : Int32} {h : im_H} (hI : tI h) (q_s : s = 23 ∨ s = 37 ∨ s = 51) (p0 : 0 ≤ p.toInt) (p1 : p.toInt ≤ 23) : CaP 2 3 [.ref 17, .ref (16 + s), .int p, .int key] h (fun v h2 => tI h2 ∧ fr F_X0_said h h2 ∧ ∃ y : Int32, v = some (.int y) ∧ ((rv h (s + 7) p.toInt.toNat).toInt = 0 → y = (ctX h).sd (fcA (ctX h) (absX h s) p.toInt.toNat) key)) :=
  cap_imp (c_X0_said hI q_s p0 p1) (fun v h2 ⟨a, f, y, e, q⟩ => ⟨a, f, y, e, fun hd => by rw [fcA_X (by omega) hd]; exact q⟩)
set_option maxRecDepth 20000 in
set_option maxHeartbeats 4000000 in
theorem c_X0_passes {s : Nat} {p : Int32} {h : im_H} (hI : tI h) (q_s : s = 23 ∨ s = 37 ∨ s = 51) (p_p0 : 0 ≤ p.toInt) (p_p1 : p.toInt ≤ 23) : CaP 3 4 [.ref 17, .ref (16 + s), .int p] h (fun v h2 => tI h2 ∧ fr F_X0_passes h h2 ∧ ∃ y : Int32, v = some (.int y) ∧ y = psF (ctX h) (absX h s) p.toInt.toNat) := by
  refine cap_of (d := 2) (M := mX0_passes) rfl (Nat.le_of_ble_eq_true rfl) ?_
  show EvP im_K0 2 mX0_passes (0, [(0, .ref 17), (1, .ref (16 + s)), (2, .int p)], [], h) _
  have f0 : fr F_X0_passes h h := fr_rf
  refine te_aload_n (p2 := 1) rfl rfl rfl ?_
  refine tg_r (p2 := 4) (i := s) (r := (16 + (s + 7))) rfl rfl hI rfl (by rcases q_s with rfl | rfl | rfl <;> rfl) (by rcases q_s with rfl | rfl | rfl <;> rfl) ?_
  refine te_iload_n (p2 := 5) rfl rfl rfl ?_
  refine tl_b (p2 := 6) (i := (s + 7)) (n := 24) rfl rfl hI rfl (by rcases q_s with rfl | rfl | rfl <;> rfl) (by rcases q_s with rfl | rfl | rfl <;> rfl) rfl (by omega) (by omega) (fun y1 a1 e1 => ?_)
  refine tz_ne (p2 := 9) rfl rfl rfl (fun c2 => ?_) (fun c2 => ?_)
  · refine te_iconst (p2 := 20) (x := 0) rfl rfl (by decide) ?_
    exact te_iret rfl rfl ⟨hI, f0, _, rfl, ps_0 (by rw [(show (absX h s).de p.toInt.toNat = y1 from (aX_de (by omega)).trans (rv_of e1))]; omega)⟩
  · refine te_aload_n (p2 := 10) rfl rfl rfl ?_
    refine te_aload_n (p2 := 11) rfl rfl rfl ?_
    refine te_iload_n (p2 := 12) rfl rfl rfl ?_
    refine te_iconst (p2 := 13) (x := 2) rfl rfl (by decide) ?_
    refine tc_V (p2 := 16) (i := 1) rfl rfl rfl rfl hI rfl rfl rfl (d_X0_said (s := s) (p := p) (key := 2) hI q_s (by omega) (by omega)) (by decide) (fun v3 h3 hq3 => ?_)
    obtain ⟨I3, g3, y3, w3, Q3⟩ := hq3
    subst w3
    have f3 := fr_tr (F1 := F_X0_said) (F := F_X0_passes) f0 g3 (by decide)
    show EvP _ _ _ (16, [(0, .ref 17), (1, .ref (16 + s)), (2, .int p)], [.int y3], h3) _
    refine tz_eq (p2 := 19) rfl rfl rfl (fun c4 => ?_) (fun c4 => ?_)
    · refine te_aload_n (p2 := 22) rfl rfl rfl ?_
      refine te_aload_n (p2 := 23) rfl rfl rfl ?_
      refine te_iload_n (p2 := 24) rfl rfl rfl ?_
      refine te_iconst (p2 := 25) (x := 0) rfl rfl (by decide) ?_
      refine tc_V (p2 := 28) (i := 1) rfl rfl rfl rfl I3 rfl rfl rfl (d_X0_said (s := s) (p := p) (key := 0) I3 q_s (by omega) (by omega)) (by decide) (fun v5 h5 hq5 => ?_)
      obtain ⟨I5, g5, y5, w5, Q5⟩ := hq5
      subst w5
      have f5 := fr_tr (F1 := F_X0_said) (F := F_X0_passes) f3 g5 (by decide)
      show EvP _ _ _ (28, [(0, .ref 17), (1, .ref (16 + s)), (2, .int p)], [.int y5], h5) _
      refine te_bipush (p2 := 30) (x := 14) rfl rfl (by decide) ?_
      refine ar_min (p2 := 33) rfl rfl rfl rfl (show Int32.toInt 14 = 14 from rfl) (fun z6 e6 f6 => ?_)
      refine te_istore_n (p2 := 34) (lv2 := [(3, .int z6), (0, .ref 17), (1, .ref (16 + s)), (2, .int p)]) rfl rfl (by decide) rfl ?_
      refine te_iload_n (p2 := 35) rfl rfl rfl ?_
      refine te_aload_n (p2 := 36) rfl rfl rfl ?_
      refine tg_r (p2 := 39) (i := 1) (r := 19) rfl rfl I5 rfl rfl rfl ?_
      refine te_iload_n (p2 := 40) rfl rfl rfl ?_
      refine tl_i (p2 := 41) (i := 3) (n := 24) rfl rfl I5 rfl rfl rfl rfl (by omega) (by omega) (fun y7 a7 b7 g7 e7 => ?_)
      refine te_aload_n (p2 := 42) rfl rfl rfl ?_
      refine tg_r (p2 := 45) (i := s) (r := (16 + (s + 4))) rfl rfl I5 rfl (by rcases q_s with rfl | rfl | rfl <;> rfl) (by rcases q_s with rfl | rfl | rfl <;> rfl) ?_
      refine te_iload_n (p2 := 46) rfl rfl rfl ?_
      refine tl_i (p2 := 47) (i := (s + 4)) (n := 24) rfl rfl I5 rfl (by rcases q_s with rfl | rfl | rfl <;> rfl) (by rcases q_s with rfl | rfl | rfl <;> rfl) rfl (by omega) (by omega) (fun y8 a8 b8 g8 e8 => ?_)
      refine au_sub (p2 := 48) rfl rfl (fun z9 e9 => ?_)
      refine te_iconst (p2 := 49) (x := 0) rfl rfl (by decide) ?_
      refine ar_max (p2 := 52) rfl rfl rfl rfl (show Int32.toInt 0 = 0 from rfl) (fun z10 e10 f10 => ?_)
      refine au_mul (p2 := 53) rfl rfl (fun z11 e11 => ?_)
      exact te_iret rfl rfl ⟨I5, f5, _, rfl, ps_2 (w := y3) (v := y5) (by rw [(show (absX h s).de p.toInt.toNat = y1 from (aX_de (by omega)).trans (rv_of e1))]; omega) (Q3 (by rw [rv_of e1]; omega)) (by omega) (by rw [← (ctX_fr f3 (by decide)), ← (absX_fr f3 (fun q hq => by (simp only [List.mem_cons, List.not_mem_nil, or_false] at hq); subst hq; omega))]; exact Q5 (by rw [rv_of (show rd h3 (s + 7) _ = _ from (f3 _ _ (by rcases q_s with rfl | rfl | rfl <;> rfl)).trans e1)]; omega)) (mn14_e (by omega)) (show (ctX h).sg p.toInt.toNat - (absX h s).hu p.toInt.toNat = z9 from (by rw [show (ctX h).sg p.toInt.toNat = _ from (gd_at (by omega)).trans (rv_of ((f5 _ _ (by rcases q_s with rfl | rfl | rfl <;> rfl)).symm.trans e7)), aX_hu (h := h) (s := s) (by omega) (by rw [rv_of e1]; omega), rv_of ((f5 _ _ (by rcases q_s with rfl | rfl | rfl <;> rfl)).symm.trans e8)]; exact e9)) (mx0_e (by omega)) e11⟩
    · refine te_iconst (p2 := 20) (x := 0) rfl rfl (by decide) ?_
      exact te_iret rfl rfl ⟨I3, f3, _, rfl, ps_1 (w := y3) (Q3 (by rw [rv_of e1]; omega)) (by omega)⟩
set_option maxRecDepth 20000 in
set_option maxHeartbeats 4000000 in
theorem c_X0_cellByDay {s : Nat} {p : Int32} {h : im_H} (hI : tI h) (q_s : s = 23 ∨ s = 37 ∨ s = 51) (p_p0 : 0 ≤ p.toInt) (p_p1 : p.toInt ≤ 23) : CaP 4 5 [.ref 17, .ref (16 + s), .int p] h (fun v h2 => tI h2 ∧ fr F_X0_cellByDay h h2 ∧ ∃ y : Int32, v = some (.int y) ∧ y = atF (ctX h) (absX h s) p.toInt.toNat) := by
  refine cap_of (d := 3) (M := mX0_cellByDay) rfl (Nat.le_of_ble_eq_true rfl) ?_
  show EvP im_K0 3 mX0_cellByDay (0, [(0, .ref 17), (1, .ref (16 + s)), (2, .int p)], [], h) _
  have f0 : fr F_X0_cellByDay h h := fr_rf
  refine te_aload_n (p2 := 1) rfl rfl rfl ?_
  refine tg_r (p2 := 4) (i := 1) (r := 22) rfl rfl hI rfl rfl rfl ?_
  refine te_iload_n (p2 := 5) rfl rfl rfl ?_
  refine tl_i (p2 := 6) (i := 6) (n := 24) rfl rfl hI rfl rfl rfl rfl (by omega) (by omega) (fun y1 a1 b1 g1 e1 => ?_)
  refine te_istore_n (p2 := 7) (lv2 := [(3, .int y1), (0, .ref 17), (1, .ref (16 + s)), (2, .int p)]) rfl rfl (by decide) rfl ?_
  refine te_iload_n (p2 := 8) rfl rfl rfl ?_
  refine te_iconst (p2 := 9) (x := (-1)) rfl rfl (by decide) ?_
  refine tb_eq (p2 := 12) rfl rfl rfl (show Int32.toInt (-1) = (-1) from rfl) (fun c2 => ?_) (fun c2 => ?_)
  · refine te_aload_n (p2 := 34) rfl rfl rfl ?_
    refine tg_r (p2 := 37) (i := s) (r := (16 + (s + 3))) rfl rfl hI rfl (by rcases q_s with rfl | rfl | rfl <;> rfl) (by rcases q_s with rfl | rfl | rfl <;> rfl) ?_
    refine te_iload_n (p2 := 38) rfl rfl rfl ?_
    refine tl_i (p2 := 39) (i := (s + 3)) (n := 24) rfl rfl hI rfl (by rcases q_s with rfl | rfl | rfl <;> rfl) (by rcases q_s with rfl | rfl | rfl <;> rfl) rfl (by omega) (by omega) (fun y3 a3 b3 g3 e3 => ?_)
    exact te_iret rfl rfl ⟨hI, f0, _, rfl, (by unfold atF; rw [if_neg (fun q => q.1 (by rw [(show (ctX h).ro p.toInt.toNat = y1 from (gd_at (by omega)).trans (rv_of e1))]; omega))]; exact ((aX_hm (by omega)).trans (rv_of e3)).symm)⟩
  · refine te_aload_n (p2 := 13) rfl rfl rfl ?_
    refine te_aload_n (p2 := 14) rfl rfl rfl ?_
    refine te_iload_n (p2 := 15) rfl rfl rfl ?_
    refine tc_V (p2 := 18) (i := 1) rfl rfl rfl rfl hI rfl rfl rfl (c_X0_passes (s := s) (p := p) hI q_s (by omega) (by omega)) (by decide) (fun v4 h4 hq4 => ?_)
    obtain ⟨I4, g4, y4, w4, Q4⟩ := hq4
    subst w4
    have f4 := fr_tr (F1 := F_X0_passes) (F := F_X0_cellByDay) f0 g4 (by decide)
    show EvP _ _ _ (18, [(3, .int y1), (0, .ref 17), (1, .ref (16 + s)), (2, .int p)], [.int y4], h4) _
    refine tz_le (p2 := 21) rfl rfl rfl (fun c5 => ?_) (fun c5 => ?_)
    · refine te_aload_n (p2 := 34) rfl rfl rfl ?_
      refine tg_r (p2 := 37) (i := s) (r := (16 + (s + 3))) rfl rfl I4 rfl (by rcases q_s with rfl | rfl | rfl <;> rfl) (by rcases q_s with rfl | rfl | rfl <;> rfl) ?_
      refine te_iload_n (p2 := 38) rfl rfl rfl ?_
      refine tl_i (p2 := 39) (i := (s + 3)) (n := 24) rfl rfl I4 rfl (by rcases q_s with rfl | rfl | rfl <;> rfl) (by rcases q_s with rfl | rfl | rfl <;> rfl) rfl (by omega) (by omega) (fun y6 a6 b6 g6 e6 => ?_)
      exact te_iret rfl rfl ⟨I4, f4, _, rfl, (by unfold atF; rw [if_neg (fun q => absurd q.2 (by rw [← Q4]; omega))]; exact ((aX_hm (by omega)).trans (rv_of ((f4 _ _ (by rcases q_s with rfl | rfl | rfl <;> rfl)).symm.trans e6))).symm)⟩
    · refine te_aload_n (p2 := 22) rfl rfl rfl ?_
      refine tg_r (p2 := 25) (i := 1) (r := 23) rfl rfl I4 rfl rfl rfl ?_
      refine te_iload_n (p2 := 26) rfl rfl rfl ?_
      refine tl_f (p2 := 27) (i := 7) (n := 4) (c0 := 12) (sp := 2) rfl rfl I4 rfl rfl (by decide) rq_7 (by omega) (by omega) (fun o7 w7 => ?_)
      have q7 : o7 = 12 ∨ o7 = 14 ∨ o7 = 16 ∨ o7 = 18 := by omega
      refine tg_i (p2 := 30) (i := o7) rfl rfl I4 rfl (by rcases q7 with rfl | rfl | rfl | rfl <;> rfl) (by rcases q7 with rfl | rfl | rfl | rfl <;> rfl) (fun y8 a8 b8 e8 => ?_)
      refine te_goto rfl ?_
      exact te_iret rfl rfl ⟨I4, f4, _, rfl, (by unfold atF; rw [if_pos ⟨(by rw [(show (ctX h).ro p.toInt.toNat = y1 from (gd_at (by omega)).trans (rv_of e1))]; omega), (by rw [← Q4]; omega)⟩, (show (ctX h).ro p.toInt.toNat = y1 from (gd_at (by omega)).trans (rv_of e1))]; exact (show (ctX h).hf y1.toInt.toNat = y8 from (gd_at (f := fun r => rv h (12 + 2 * r) 2) (by omega)).trans (by show rv h (12 + 2 * y1.toInt.toNat) 2 = _; rw [show 12 + 2 * y1.toInt.toNat = o7 by omega]; exact rv_of ((f4 _ _ (by rcases q7 with rfl | rfl | rfl | rfl <;> rfl)).symm.trans e8))).symm)⟩
set_option maxRecDepth 20000 in
set_option maxHeartbeats 4000000 in
theorem c_X0_bring {s : Nat} {to : Int32} {loads : Int32} {h : im_H} (hI : tI h) (q_s : s = 23 ∨ s = 37 ∨ s = 51) (p_to0 : 0 ≤ to.toInt) (p_to1 : to.toInt ≤ 99) : CaP 1 10 [.ref 17, .ref (16 + s), .int to, .int loads] h (fun v h2 => tI h2 ∧ fr (F_X0_bring s) h h2 ∧ v = none ∧ absX h2 s = brF (ctX h) (absX h s) to.toInt.toNat loads) := by
  refine cap_of (d := 0) (M := mX0_bring) rfl (Nat.le_of_ble_eq_true rfl) ?_
  show EvP im_K0 0 mX0_bring (0, [(0, .ref 17), (1, .ref (16 + s)), (2, .int to), (3, .int loads)], [], h) _
  have f0 : fr (F_X0_bring s) h h := fr_rf
  refine te_iload_n (p2 := 1) rfl rfl rfl ?_
  refine te_aload_n (p2 := 2) rfl rfl rfl ?_
  refine tg_i (p2 := 5) (i := 1) rfl rfl hI rfl rfl rfl (fun y1 a1 b1 e1 => ?_)
  refine tb_ne (p2 := 8) rfl rfl rfl rfl (fun c2 => ?_) (fun c2 => ?_)
  · refine te_aload_n (p2 := 22) rfl rfl rfl ?_
    refine tg_r (p2 := 25) (i := s) (r := (16 + (s + 2))) rfl rfl hI rfl (by rcases q_s with rfl | rfl | rfl <;> rfl) (by rcases q_s with rfl | rfl | rfl <;> rfl) ?_
    refine te_iload_n (p2 := 26) rfl rfl rfl ?_
    refine te_dup2 (p2 := 27) rfl rfl ⟨rfl, rfl⟩ ?_
    refine tl_i (p2 := 28) (i := (s + 2)) (n := 100) rfl rfl hI rfl (by rcases q_s with rfl | rfl | rfl <;> rfl) (by rcases q_s with rfl | rfl | rfl <;> rfl) rfl (by omega) (by omega) (fun y3 a3 b3 g3 e3 => ?_)
    refine te_iload_n (p2 := 29) rfl rfl rfl ?_
    refine au_add (p2 := 30) rfl rfl (fun z4 e4 => ?_)
    refine ts_i (p2 := 31) (i := (s + 2)) (n := 100) rfl rfl hI rfl (by rcases q_s with rfl | rfl | rfl <;> rfl) (by rcases q_s with rfl | rfl | rfl <;> rfl) rfl (by omega) (by omega) (i32_lo _) (i32_hi _) (i32_ho _) (by rcases q_s with rfl | rfl | rfl <;> rfl) (fun h5 I5 u5 => ?_)
    have f5 := fr_st (F := (F_X0_bring s)) 0 f0 u5 rfl (by omega) (by omega)
    exact te_vret rfl rfl ⟨I5, f5, rfl, brX_b u5 (by omega) (by rw [rv_of e1]; omega) (by rw [rv_of e3]; exact e4)⟩
  · refine te_aload_n (p2 := 9) rfl rfl rfl ?_
    refine te_dup (p2 := 10) rfl rfl rfl ?_
    refine tg_i (p2 := 13) (i := s) rfl rfl hI rfl (by rcases q_s with rfl | rfl | rfl <;> rfl) (by rcases q_s with rfl | rfl | rfl <;> rfl) (fun y6 a6 b6 e6 => ?_)
    refine te_iload_n (p2 := 14) rfl rfl rfl ?_
    refine au_add (p2 := 15) rfl rfl (fun z7 e7 => ?_)
    refine tp_i (p2 := 18) (i := s) rfl rfl hI rfl (by rcases q_s with rfl | rfl | rfl <;> rfl) (by decide) rfl rfl (by rcases q_s with rfl | rfl | rfl <;> rfl) (i32_lo _) (i32_hi _) (i32_ho _) (by rcases q_s with rfl | rfl | rfl <;> rfl) (fun h8 I8 u8 => ?_)
    have f8 := fr_st (F := (F_X0_bring s)) 1 f0 u8 rfl (by decide) (by decide)
    refine te_goto rfl ?_
    exact te_vret rfl rfl ⟨I8, f8, rfl, brX_a u8 (by rw [rv_of e1]; omega) (by rw [rv_of e6]; exact e7)⟩
theorem d_X12_saysOf {k key : Int32} {h : im_H} (hI : tI h) (p0 : 0 ≤ k.toInt) (p1 : k.toInt ≤ 23) : CaP 3 144 [.ref 164, .int k, .int key] h (pI h (fun y => (rv h 149 (236 + k.toInt.toNat)).toInt = 0 → y = (ctM h).sd (fcA (ctM h) (absM h) k.toInt.toNat) key)) :=
  cap_imp (c_X12_saysOf hI p0 p1) (fun v h2 ⟨a, y, e, q⟩ => ⟨a, y, e, fun hd => by rw [fcA_M (by omega) hd]; exact q⟩)
set_option maxRecDepth 20000 in
set_option maxHeartbeats 4000000 in
theorem c_X12_worksOf {k : Int32} {h : im_H} (hI : tI h) (p_k0 : 0 ≤ k.toInt) (p_k1 : k.toInt ≤ 23) : CaP 4 146 [.ref 164, .int k] h (pI h (fun y => (rv h 149 (236 + k.toInt.toNat)).toInt = 0 → y = mn14 ((ctM h).sd (fcA (ctM h) (absM h) k.toInt.toNat) 0))) := by
  refine cap_of (d := 3) (M := mX12_worksOf) rfl (Nat.le_of_ble_eq_true rfl) ?_
  show EvP im_K0 3 mX12_worksOf (0, [(0, .ref 164), (1, .int k)], [], h) _
  refine te_aload_n (p2 := 1) rfl rfl rfl ?_
  refine te_iload_n (p2 := 2) rfl rfl rfl ?_
  refine te_iconst (p2 := 3) (x := 0) rfl rfl (by decide) ?_
  refine cV_pI (p2 := 6) (i := 148) rfl rfl rfl rfl hI rfl rfl rfl (d_X12_saysOf (k := k) (key := 0) hI (by omega) (by omega)) (by decide) (fun y1 r1 => ?_)
  refine te_istore_n (p2 := 7) (lv2 := [(2, .int y1), (0, .ref 164), (1, .int k)]) rfl rfl (by decide) rfl ?_
  refine te_iload_n (p2 := 8) rfl rfl rfl ?_
  refine te_bipush (p2 := 10) (x := 14) rfl rfl (by decide) ?_
  refine tb_le (p2 := 13) rfl rfl rfl (show Int32.toInt 14 = 14 from rfl) (fun c2 => ?_) (fun c2 => ?_)
  · refine te_iload_n (p2 := 19) rfl rfl rfl ?_
    exact te_iret rfl rfl ⟨rfl, _, rfl, (fun hd => by rw [← r1 hd]; exact mn14_e (by omega))⟩
  · refine te_bipush (p2 := 15) (x := 14) rfl rfl (by decide) ?_
    refine te_goto rfl ?_
    exact te_iret rfl rfl ⟨rfl, _, rfl, (fun hd => by rw [← r1 hd]; exact mn14_e (by (have c14 := (show Int32.toInt 14 = 14 from rfl)); omega))⟩
set_option maxRecDepth 20000 in
set_option maxHeartbeats 4000000 in
theorem c_X12_passes {k : Int32} {h : im_H} (hI : tI h) (p_k0 : 0 ≤ k.toInt) (p_k1 : k.toInt ≤ 23) : CaP 5 147 [.ref 164, .int k] h (pI h (fun y => ∀ b, dyOK b (absM h) → y = psF (ctM h) (absM h) k.toInt.toNat)) := by
  refine cap_of (d := 4) (M := mX12_passes) rfl (Nat.le_of_ble_eq_true rfl) ?_
  show EvP im_K0 4 mX12_passes (0, [(0, .ref 164), (1, .int k)], [], h) _
  refine te_aload_n (p2 := 1) rfl rfl rfl ?_
  refine tg_r (p2 := 4) (i := 148) (r := 165) rfl rfl hI rfl rfl rfl ?_
  refine te_sipush (p2 := 7) (x := 236) rfl rfl (by decide) ?_
  refine te_iload_n (p2 := 8) rfl rfl rfl ?_
  refine ar_add (p2 := 9) rfl rfl (show Int32.toInt 236 = 236 from rfl) rfl (by omega) (by omega) (fun z1 e1 f1 => ?_)
  refine tl_i (p2 := 10) (i := 149) (n := 283) rfl rfl hI rfl rfl rfl rfl (by omega) (by omega) (fun y2 a2 b2 g2 e2 => ?_)
  refine te_iconst (p2 := 11) (x := 1) rfl rfl (by decide) ?_
  refine tb_eq (p2 := 14) rfl rfl rfl (show Int32.toInt 1 = 1 from rfl) (fun c3 => ?_) (fun c3 => ?_)
  · refine te_iconst (p2 := 24) (x := 0) rfl rfl (by decide) ?_
    exact te_iret rfl rfl ⟨rfl, _, rfl, (fun b ok => ps_0 (by rw [(show (absM h).de k.toInt.toNat = y2 from (aM_de (by omega)).trans (show rv h 149 (236 + k.toInt.toNat) = y2 from (by rw [show 236 + k.toInt.toNat = z1.toInt.toNat by omega]; exact rv_of e2)))]; omega))⟩
  · refine te_aload_n (p2 := 15) rfl rfl rfl ?_
    refine te_iload_n (p2 := 16) rfl rfl rfl ?_
    refine te_iconst (p2 := 17) (x := 2) rfl rfl (by decide) ?_
    refine cV_pI (p2 := 20) (i := 148) rfl rfl rfl rfl hI rfl rfl rfl (d_X12_saysOf (k := k) (key := 2) hI (by omega) (by omega)) (by decide) (fun y4 r4 => ?_)
    refine tz_eq (p2 := 23) rfl rfl rfl (fun c5 => ?_) (fun c5 => ?_)
    · refine te_aload_n (p2 := 26) rfl rfl rfl ?_
      refine tg_r (p2 := 29) (i := 148) (r := 173) rfl rfl hI rfl rfl rfl ?_
      refine te_iload_n (p2 := 30) rfl rfl rfl ?_
      refine tl_i (p2 := 31) (i := 157) (n := 24) rfl rfl hI rfl rfl rfl rfl (by omega) (by omega) (fun y6 a6 b6 g6 e6 => ?_)
      refine te_aload_n (p2 := 32) rfl rfl rfl ?_
      refine tg_r (p2 := 35) (i := 148) (r := 165) rfl rfl hI rfl rfl rfl ?_
      refine te_sipush (p2 := 38) (x := 164) rfl rfl (by decide) ?_
      refine te_iload_n (p2 := 39) rfl rfl rfl ?_
      refine ar_add (p2 := 40) rfl rfl (show Int32.toInt 164 = 164 from rfl) rfl (by omega) (by omega) (fun z7 e7 f7 => ?_)
      refine tl_i (p2 := 41) (i := 149) (n := 283) rfl rfl hI rfl rfl rfl rfl (by omega) (by omega) (fun y8 a8 b8 g8 e8 => ?_)
      refine au_sub (p2 := 42) rfl rfl (fun z9 e9 => ?_)
      refine te_istore_n (p2 := 43) (lv2 := [(2, .int z9), (0, .ref 164), (1, .int k)]) rfl rfl (by decide) rfl ?_
      refine te_aload_n (p2 := 44) rfl rfl rfl ?_
      refine te_iload_n (p2 := 45) rfl rfl rfl ?_
      refine cV_pI (p2 := 48) (i := 148) rfl rfl rfl rfl hI rfl rfl rfl (c_X12_worksOf (k := k) hI (by omega) (by omega)) (by decide) (fun y10 r10 => ?_)
      refine te_iload_n (p2 := 49) rfl rfl rfl ?_
      refine tz_ge (p2 := 52) rfl rfl rfl (fun c11 => ?_) (fun c11 => ?_)
      · refine te_iload_n (p2 := 57) rfl rfl rfl ?_
        refine au_mul (p2 := 58) rfl rfl (fun z12 e12 => ?_)
        exact te_iret rfl rfl ⟨rfl, _, rfl, (fun b ok => by (have hd0 : y2.toInt = 0 := ((ok.2.1 k.toInt.toNat).resolve_right (by rw [(show (absM h).de k.toInt.toNat = y2 from (aM_de (by omega)).trans (show rv h 149 (236 + k.toInt.toNat) = y2 from (by rw [show 236 + k.toInt.toNat = z1.toInt.toNat by omega]; exact rv_of e2)))]; omega) |> fun t => by rw [(show (absM h).de k.toInt.toNat = y2 from (aM_de (by omega)).trans (show rv h 149 (236 + k.toInt.toNat) = y2 from (by rw [show 236 + k.toInt.toNat = z1.toInt.toNat by omega]; exact rv_of e2)))] at t; exact t)); (have hr0 : (rv h 149 (236 + k.toInt.toNat)).toInt = 0 := by rw [(show rv h 149 (236 + k.toInt.toNat) = y2 from (by rw [show 236 + k.toInt.toNat = z1.toInt.toNat by omega]; exact rv_of e2))]; exact hd0); exact ps_2 (v := (ctM h).sd (fcA (ctM h) (absM h) k.toInt.toNat) 0) (by rw [(show (absM h).de k.toInt.toNat = y2 from (aM_de (by omega)).trans (show rv h 149 (236 + k.toInt.toNat) = y2 from (by rw [show 236 + k.toInt.toNat = z1.toInt.toNat by omega]; exact rv_of e2)))]; exact hd0) (r4 hr0) (by omega) rfl (r10 hr0) (show (ctM h).sg k.toInt.toNat - (absM h).hu k.toInt.toNat = z9 from (by rw [show (ctM h).sg k.toInt.toNat = _ from (gd_at (by omega)).trans (rv_of e6), aM_hu (h := h) (by omega) hr0, (show rv h 149 (164 + k.toInt.toNat) = y8 from (by rw [show 164 + k.toInt.toNat = z7.toInt.toNat by omega]; exact rv_of e8))]; exact e9)) (mx0_e (by omega)) e12)⟩
      · refine te_iconst (p2 := 53) (x := 0) rfl rfl (by decide) ?_
        refine te_goto rfl ?_
        have n13_y10 := i32_lo y10
        have o13_y10 := i32_hi y10
        refine ar_mul (p2 := 58) rfl rfl rfl (show Int32.toInt 0 = 0 from rfl) (by omega) (by omega) (fun z13 e13 f13 => ?_)
        exact te_iret rfl rfl ⟨rfl, _, rfl, (fun b ok => by (have hd0 : y2.toInt = 0 := ((ok.2.1 k.toInt.toNat).resolve_right (by rw [(show (absM h).de k.toInt.toNat = y2 from (aM_de (by omega)).trans (show rv h 149 (236 + k.toInt.toNat) = y2 from (by rw [show 236 + k.toInt.toNat = z1.toInt.toNat by omega]; exact rv_of e2)))]; omega) |> fun t => by rw [(show (absM h).de k.toInt.toNat = y2 from (aM_de (by omega)).trans (show rv h 149 (236 + k.toInt.toNat) = y2 from (by rw [show 236 + k.toInt.toNat = z1.toInt.toNat by omega]; exact rv_of e2)))] at t; exact t)); (have hr0 : (rv h 149 (236 + k.toInt.toNat)).toInt = 0 := by rw [(show rv h 149 (236 + k.toInt.toNat) = y2 from (by rw [show 236 + k.toInt.toNat = z1.toInt.toNat by omega]; exact rv_of e2))]; exact hd0); exact ps_2 (v := (ctM h).sd (fcA (ctM h) (absM h) k.toInt.toNat) 0) (by rw [(show (absM h).de k.toInt.toNat = y2 from (aM_de (by omega)).trans (show rv h 149 (236 + k.toInt.toNat) = y2 from (by rw [show 236 + k.toInt.toNat = z1.toInt.toNat by omega]; exact rv_of e2)))]; exact hd0) (r4 hr0) (by omega) rfl (r10 hr0) (show (ctM h).sg k.toInt.toNat - (absM h).hu k.toInt.toNat = z9 from (by rw [show (ctM h).sg k.toInt.toNat = _ from (gd_at (by omega)).trans (rv_of e6), aM_hu (h := h) (by omega) hr0, (show rv h 149 (164 + k.toInt.toNat) = y8 from (by rw [show 164 + k.toInt.toNat = z7.toInt.toNat by omega]; exact rv_of e8))]; exact e9)) (mx0_e (by (have c0 := (show Int32.toInt 0 = 0 from rfl)); omega)) e13)⟩
    · refine te_iconst (p2 := 24) (x := 0) rfl rfl (by decide) ?_
      exact te_iret rfl rfl ⟨rfl, _, rfl, (fun b ok => by (have hd0 : y2.toInt = 0 := ((ok.2.1 k.toInt.toNat).resolve_right (by rw [(show (absM h).de k.toInt.toNat = y2 from (aM_de (by omega)).trans (show rv h 149 (236 + k.toInt.toNat) = y2 from (by rw [show 236 + k.toInt.toNat = z1.toInt.toNat by omega]; exact rv_of e2)))]; omega) |> fun t => by rw [(show (absM h).de k.toInt.toNat = y2 from (aM_de (by omega)).trans (show rv h 149 (236 + k.toInt.toNat) = y2 from (by rw [show 236 + k.toInt.toNat = z1.toInt.toNat by omega]; exact rv_of e2)))] at t; exact t)); (have hr0 : (rv h 149 (236 + k.toInt.toNat)).toInt = 0 := by rw [(show rv h 149 (236 + k.toInt.toNat) = y2 from (by rw [show 236 + k.toInt.toNat = z1.toInt.toNat by omega]; exact rv_of e2))]; exact hd0); exact ps_1 (r4 hr0) (by omega))⟩
theorem roR_y {h : im_H} {p n r : Nat} (e : ∃ i, i < (rv h 161 r).toInt.toNat ∧ (rv h 160 (8 * r + i)).toInt = p) : roR h p (n + 1) r = Int32.ofNat r := if_pos e
theorem roR_n {h : im_H} {p n r : Nat} (e : ¬ ∃ i, i < (rv h 161 r).toInt.toNat ∧ (rv h 160 (8 * r + i)).toInt = p) : roR h p (n + 1) r = roR h p n (r + 1) := if_neg e
set_option maxRecDepth 20000 in
set_option maxHeartbeats 4000000 in
theorem c_X12_isAt {k : Int32} {h : im_H} (hI : tI h) (p_k0 : 0 ≤ k.toInt) (p_k1 : k.toInt ≤ 23) : CaP 6 151 [.ref 164, .int k] h (pI h (fun y => ∀ b, dyOK b (absM h) → y = atF (ctM h) (absM h) k.toInt.toNat)) := by
  refine cap_of (d := 5) (M := mX12_isAt) rfl (Nat.le_of_ble_eq_true rfl) ?_
  show EvP im_K0 5 mX12_isAt (0, [(0, .ref 164), (1, .int k)], [], h) _
  refine te_iconst (p2 := 1) (x := 0) rfl rfl (by decide) ?_
  refine te_istore_n (p2 := 2) (lv2 := [(2, .int 0), (0, .ref 164), (1, .int k)]) rfl rfl (by decide) rfl ?_
  have lp1 : ∀ (n1 : Nat) (v1_2 : Int32) , 0 ≤ v1_2.toInt → v1_2.toInt ≤ 4 → (∀ b, dyOK b (absM h) → 0 < (psF (ctM h) (absM h) k.toInt.toNat).toInt → roR h k.toInt.toNat 4 0 = roR h k.toInt.toNat (4 - v1_2.toInt.toNat) v1_2.toInt.toNat) → 4 - v1_2.toInt < (n1 : Int) → EvP im_K0 5 mX12_isAt (2, [(0, .ref 164), (1, .int k), (2, .int v1_2)], [], h) (pI h (fun y => ∀ b, dyOK b (absM h) → y = atF (ctM h) (absM h) k.toInt.toNat)) := by
    intro n1
    induction n1 with
    | zero => intro v1_2 a1_2 b1_2 w1_0 m1; exfalso; omega
    | succ n1 ih1 =>
      intro v1_2 a1_2 b1_2 w1_0 m1
      refine te_iload_n (p2 := 3) rfl rfl rfl ?_
      refine te_iconst (p2 := 4) (x := 4) rfl rfl (by decide) ?_
      refine tb_ge (p2 := 7) rfl rfl rfl (show Int32.toInt 4 = 4 from rfl) (fun c2 => ?_) (fun c2 => ?_)
      · refine te_aload_n (p2 := 62) rfl rfl rfl ?_
        refine tg_r (p2 := 65) (i := 148) (r := 165) rfl rfl hI rfl rfl rfl ?_
        refine te_sipush (p2 := 68) (x := 140) rfl rfl (by decide) ?_
        refine te_iload_n (p2 := 69) rfl rfl rfl ?_
        refine ar_add (p2 := 70) rfl rfl (show Int32.toInt 140 = 140 from rfl) rfl (by omega) (by omega) (fun z3 e3 f3 => ?_)
        refine tl_i (p2 := 71) (i := 149) (n := 283) rfl rfl hI rfl rfl rfl rfl (by omega) (by omega) (fun y4 a4 b4 g4 e4 => ?_)
        exact te_iret rfl rfl ⟨rfl, _, rfl, (fun b ok => by unfold atF; rw [(show (ctM h).ro k.toInt.toNat = roR h k.toInt.toNat 4 0 from gd_at (f := fun p => roR h p 4 0) (by omega)), if_neg (fun q => q.1 (by rw [w1_0 b ok q.2, show 4 - v1_2.toInt.toNat = 0 by omega]; rfl))]; exact ((aM_hm (by omega)).trans (show rv h 149 (140 + k.toInt.toNat) = y4 from (by rw [show 140 + k.toInt.toNat = z3.toInt.toNat by omega]; exact rv_of e4))).symm)⟩
      · refine te_iconst (p2 := 8) (x := 0) rfl rfl (by decide) ?_
        refine te_istore_n (p2 := 9) (lv2 := [(3, .int 0), (0, .ref 164), (1, .int k), (2, .int v1_2)]) rfl rfl (by decide) rfl ?_
        have lp5 : ∀ (n5 : Nat) (v5_3 : Int32) , 0 ≤ v5_3.toInt → v5_3.toInt ≤ 8 → (∀ b, dyOK b (absM h) → 0 < (psF (ctM h) (absM h) k.toInt.toNat).toInt → ∀ j : Nat, j < v5_3.toInt.toNat → (rv h 160 (8 * v1_2.toInt.toNat + j)).toInt ≠ k.toInt) → 8 - v5_3.toInt < (n5 : Int) → EvP im_K0 5 mX12_isAt (9, [(0, .ref 164), (1, .int k), (2, .int v1_2), (3, .int v5_3)], [], h) (pI h (fun y => ∀ b, dyOK b (absM h) → y = atF (ctM h) (absM h) k.toInt.toNat)) := by
          intro n5
          induction n5 with
          | zero => intro v5_3 a5_3 b5_3 w5_0 m5; exfalso; omega
          | succ n5 ih5 =>
            intro v5_3 a5_3 b5_3 w5_0 m5
            refine te_iload_n (p2 := 10) rfl rfl rfl ?_
            refine te_aload_n (p2 := 11) rfl rfl rfl ?_
            refine tg_r (p2 := 14) (i := 148) (r := 177) rfl rfl hI rfl rfl rfl ?_
            refine te_iload_n (p2 := 15) rfl rfl rfl ?_
            refine tl_i (p2 := 16) (i := 161) (n := 4) rfl rfl hI rfl rfl rfl rfl (by omega) (by omega) (fun y6 a6 b6 g6 e6 => ?_)
            refine tb_ge (p2 := 19) rfl rfl rfl rfl (fun c7 => ?_) (fun c7 => ?_)
            · refine ar_inc (p2 := 58) (x := v1_2) rfl rfl (by decide) rfl (by decide) rfl (by omega) (by omega) (fun z8 e8 f8 => ?_)
              show EvP _ _ _ (58, [(2, .int z8), (0, .ref 164), (1, .int k), (3, .int v5_3)], [], h) _
              refine te_goto rfl ?_
              refine te_lv [(0, .ref 164), (1, .int k), (2, .int z8)] rfl rfl ⟨rfl, rfl, rfl, trivial⟩ ?_
              exact ih1 z8 (by omega) (by omega) (fun b ok hp => by (have h9 := w1_0 b ok hp); rw [show 4 - v1_2.toInt.toNat = (4 - z8.toInt.toNat) + 1 by omega, roR_n (h := h) (p := k.toInt.toNat) (r := v1_2.toInt.toNat) (fun ⟨j, hj, ej⟩ => w5_0 b ok hp j (by rw [rv_of e6] at hj; omega) (by omega)), show v1_2.toInt.toNat + 1 = z8.toInt.toNat by omega] at h9; exact h9) (by omega)
            · refine te_aload_n (p2 := 20) rfl rfl rfl ?_
              refine tg_r (p2 := 23) (i := 148) (r := 176) rfl rfl hI rfl rfl rfl ?_
              refine te_bipush (p2 := 25) (x := 8) rfl rfl (by decide) ?_
              refine te_iload_n (p2 := 26) rfl rfl rfl ?_
              refine ar_mul (p2 := 27) rfl rfl (show Int32.toInt 8 = 8 from rfl) rfl (by omega) (by omega) (fun z9 e9 f9 => ?_)
              refine te_iload_n (p2 := 28) rfl rfl rfl ?_
              refine ar_add (p2 := 29) rfl rfl rfl rfl (by omega) (by omega) (fun z10 e10 f10 => ?_)
              refine tl_i (p2 := 30) (i := 160) (n := 32) rfl rfl hI rfl rfl rfl rfl (by omega) (by omega) (fun y11 a11 b11 g11 e11 => ?_)
              refine te_iload_n (p2 := 31) rfl rfl rfl ?_
              refine tb_ne (p2 := 34) rfl rfl rfl rfl (fun c12 => ?_) (fun c12 => ?_)
              · refine ar_inc (p2 := 52) (x := v5_3) rfl rfl (by decide) rfl (by decide) rfl (by omega) (by omega) (fun z13 e13 f13 => ?_)
                show EvP _ _ _ (52, [(3, .int z13), (0, .ref 164), (1, .int k), (2, .int v1_2)], [], h) _
                refine te_goto rfl ?_
                refine te_lv [(0, .ref 164), (1, .int k), (2, .int v1_2), (3, .int z13)] rfl rfl ⟨rfl, rfl, rfl, rfl, trivial⟩ ?_
                exact ih5 z13 (by omega) (by omega) (fun b ok hp j hj => by (by_cases hc : j = v5_3.toInt.toNat); (· rw [hc, show 8 * v1_2.toInt.toNat + v5_3.toInt.toNat = z10.toInt.toNat by omega, rv_of e11]; omega); (· exact w5_0 b ok hp j (by omega))) (by omega)
              · refine te_aload_n (p2 := 35) rfl rfl rfl ?_
                refine te_iload_n (p2 := 36) rfl rfl rfl ?_
                refine cV_pI (p2 := 39) (i := 148) rfl rfl rfl rfl hI rfl rfl rfl (c_X12_passes (k := k) hI (by omega) (by omega)) (by decide) (fun y14 r14 => ?_)
                refine tz_le (p2 := 42) rfl rfl rfl (fun c15 => ?_) (fun c15 => ?_)
                · refine ar_inc (p2 := 52) (x := v5_3) rfl rfl (by decide) rfl (by decide) rfl (by omega) (by omega) (fun z16 e16 f16 => ?_)
                  show EvP _ _ _ (52, [(3, .int z16), (0, .ref 164), (1, .int k), (2, .int v1_2)], [], h) _
                  refine te_goto rfl ?_
                  refine te_lv [(0, .ref 164), (1, .int k), (2, .int v1_2), (3, .int z16)] rfl rfl ⟨rfl, rfl, rfl, rfl, trivial⟩ ?_
                  exact ih5 z16 (by omega) (by omega) (fun b ok hp j hj => by (by_cases hc : j = v5_3.toInt.toNat); (· rw [hc, show 8 * v1_2.toInt.toNat + v5_3.toInt.toNat = z10.toInt.toNat by omega, rv_of e11]; exact absurd hp (by rw [← r14 b ok]; omega)); (· exact w5_0 b ok hp j (by omega))) (by omega)
                · refine te_aload_n (p2 := 43) rfl rfl rfl ?_
                  refine tg_r (p2 := 46) (i := 148) (r := 178) rfl rfl hI rfl rfl rfl ?_
                  refine te_iload_n (p2 := 47) rfl rfl rfl ?_
                  refine tl_i (p2 := 48) (i := 162) (n := 4) rfl rfl hI rfl rfl rfl rfl (by omega) (by omega) (fun y17 a17 b17 g17 e17 => ?_)
                  exact te_iret rfl rfl ⟨rfl, _, rfl, (fun b ok => by (have hp : 0 < (psF (ctM h) (absM h) k.toInt.toNat).toInt := by rw [← r14 b ok]; omega); (have en0 : (Int32.ofNat v1_2.toInt.toNat).toInt = v1_2.toInt := by rw [Int32.toInt_ofNat_of_lt (by omega)]; omega); unfold atF; rw [(show (ctM h).ro k.toInt.toNat = roR h k.toInt.toNat 4 0 from gd_at (f := fun p => roR h p 4 0) (by omega)), (show roR h k.toInt.toNat 4 0 = Int32.ofNat v1_2.toInt.toNat from (by rw [w1_0 b ok hp, show 4 - v1_2.toInt.toNat = (3 - v1_2.toInt.toNat) + 1 by omega]; exact roR_y ⟨v5_3.toInt.toNat, (by rw [rv_of e6]; omega), (by rw [show 8 * v1_2.toInt.toNat + v5_3.toInt.toNat = z10.toInt.toNat by omega, rv_of e11]; omega)⟩)), if_pos ⟨by rw [en0]; omega, hp⟩, en0]; exact ((gd_at (by omega)).trans (rv_of e17)).symm)⟩
        refine te_lv [(0, .ref 164), (1, .int k), (2, .int v1_2), (3, .int 0)] rfl rfl ⟨rfl, rfl, rfl, rfl, trivial⟩ ?_
        exact lp5 9 0 (by decide) (by decide) (fun b ok hp j hj => absurd hj (Nat.not_lt_zero j)) (by have cc0 := (show Int32.toInt 0 = 0 from rfl); omega)
  refine te_lv [(0, .ref 164), (1, .int k), (2, .int 0)] rfl rfl ⟨rfl, rfl, rfl, trivial⟩ ?_
  exact lp1 5 0 (by decide) (by decide) (fun b ok hp => rfl) (by have cc0 := (show Int32.toInt 0 = 0 from rfl); omega)
set_option maxRecDepth 20000 in
set_option maxHeartbeats 4000000 in
theorem c_X12_comes {c : Int32} {n : Int32} {h : im_H} (hI : tI h) (p_c0 : 0 ≤ c.toInt) (p_c1 : c.toInt ≤ 99) : CaP 1 148 [.ref 164, .int c, .int n] h (fun v h2 => tI h2 ∧ fr F_X12_comes h h2 ∧ v = none ∧ absM h2 = brF (ctM h) (absM h) c.toInt.toNat n) := by
  refine cap_of (d := 0) (M := mX12_comes) rfl (Nat.le_of_ble_eq_true rfl) ?_
  show EvP im_K0 0 mX12_comes (0, [(0, .ref 164), (1, .int c), (2, .int n)], [], h) _
  have f0 : fr F_X12_comes h h := fr_rf
  refine te_iload_n (p2 := 1) rfl rfl rfl ?_
  refine te_aload_n (p2 := 2) rfl rfl rfl ?_
  refine tg_i (p2 := 5) (i := 148) rfl rfl hI rfl rfl rfl (fun y1 a1 b1 e1 => ?_)
  refine tb_ne (p2 := 8) rfl rfl rfl rfl (fun c2 => ?_) (fun c2 => ?_)
  · refine te_aload_n (p2 := 23) rfl rfl rfl ?_
    refine tg_r (p2 := 26) (i := 148) (r := 165) rfl rfl hI rfl rfl rfl ?_
    refine te_iload_n (p2 := 27) rfl rfl rfl ?_
    refine te_dup2 (p2 := 28) rfl rfl ⟨rfl, rfl⟩ ?_
    refine tl_i (p2 := 29) (i := 149) (n := 283) rfl rfl hI rfl rfl rfl rfl (by omega) (by omega) (fun y3 a3 b3 g3 e3 => ?_)
    refine te_iload_n (p2 := 30) rfl rfl rfl ?_
    refine au_add (p2 := 31) rfl rfl (fun z4 e4 => ?_)
    refine ts_i (p2 := 32) (i := 149) (n := 283) rfl rfl hI rfl rfl rfl rfl (by omega) (by omega) (i32_lo _) (i32_hi _) (i32_ho _) rfl (fun h5 I5 u5 => ?_)
    have f5 := fr_st (F := F_X12_comes) 0 f0 u5 rfl (by omega) (by omega)
    exact te_vret rfl rfl ⟨I5, f5, rfl, brM_b u5 (by omega) (by rw [rv_of e1]; omega) (by rw [rv_of e3]; exact e4)⟩
  · refine te_aload_n (p2 := 9) rfl rfl rfl ?_
    refine tg_r (p2 := 12) (i := 148) (r := 165) rfl rfl hI rfl rfl rfl ?_
    refine te_bipush (p2 := 14) (x := 104) rfl rfl (by decide) ?_
    refine te_dup2 (p2 := 15) rfl rfl ⟨rfl, rfl⟩ ?_
    refine tl_i (p2 := 16) (i := 149) (n := 283) rfl rfl hI rfl rfl rfl rfl (by decide) (by decide) (fun y6 a6 b6 g6 e6 => ?_)
    refine te_iload_n (p2 := 17) rfl rfl rfl ?_
    refine au_add (p2 := 18) rfl rfl (fun z7 e7 => ?_)
    refine ts_i (p2 := 19) (i := 149) (n := 283) rfl rfl hI rfl rfl rfl rfl (by decide) (by decide) (i32_lo _) (i32_hi _) (i32_ho _) rfl (fun h8 I8 u8 => ?_)
    have f8 := fr_st (F := F_X12_comes) 1 f0 u8 rfl (by decide) (by decide)
    refine te_goto rfl ?_
    exact te_vret rfl rfl ⟨I8, f8, rfl, brM_a u8 (by rw [rv_of e1]; omega) (by rw [rv_of (k := 104) e6]; exact e7)⟩
theorem xu_gv {h h2 : im_H} {s k : Nat} {v : Value} (u : up h h2 (s + 6) k v) : absX h2 s = absX h s := by
  have es := rv_f u (show s ≠ s + 6 by omega)
  unfold absX
  rw [rv_f u (show s + 2 ≠ s + 6 by omega), rv_f u (show s + 3 ≠ s + 6 by omega), rv_f u (show s + 4 ≠ s + 6 by omega), rv_f u (show s + 5 ≠ s + 6 by omega), rv_f u (show s + 7 ≠ s + 6 by omega), rv_f u (show s + 8 ≠ s + 6 by omega), rv_f u (show s + 9 ≠ s + 6 by omega), rv_f u (show s + 11 ≠ s + 6 by omega), rv_f u (show s + 12 ≠ s + 6 by omega), rv_f u (show s + 13 ≠ s + 6 by omega), rv_f u (show s + 1 ≠ s + 6 by omega), es]
theorem kpX {h h1 h2 h3 : im_H} {s f kk : Nat} {t z1 z2 z3 k1 k2 k3 y1 y2 y3 : Int32} (u1 : up h h1 (s + 1) 0 (.int z1)) (u2 : up h1 h2 (s + 1) 1 (.int z2)) (u3 : up h2 h3 (s + 1) 2 (.int z3)) (hk : ((ctX h).kd f).toInt ≠ -1) (hkk : ((ctX h).kd f).toInt.toNat = kk) (ek1 : k1 = KB.getD kk 0) (ek2 : k2 = KM.getD kk 0) (ek3 : k3 = KI.getD kk 0) (r1 : rv h (s + 1) 0 = y1) (r2 : rv h1 (s + 1) 1 = y2) (r3 : rv h2 (s + 1) 2 = y3) (e1 : y1 + t * k1 = z1) (e2 : y2 + t * k2 = z2) (e3 : y3 + t * k3 = z3) : absX h3 s = kpF (ctX h) (absX h s) f t := by
  have q2 : y2 = (absX h s).kp 1 := by rw [← r2, rv_ni u1 (Or.inr (by decide)), aX_kp (by decide)]
  have q3 : y3 = (absX h s).kp 2 := by rw [← r3, rv_ni u2 (Or.inr (by decide)), rv_ni u1 (Or.inr (by decide)), aX_kp (by decide)]
  have q1 : y1 = (absX h s).kp 0 := by rw [← r1, aX_kp (by decide)]
  rw [xu_kp u3 (by decide), xu_kp u2 (by decide), xu_kp u1 (by decide), ← e1, ← e2, ← e3, q1, q2, q3, ek1, ek2, ek3, ← hkk]
  exact (if_neg hk).symm
theorem kp_du {c : Ct} {A : Dy} {fr : Nat} {t : Int32} : (kpF c A fr t).du = A.du := by
  unfold kpF
  split <;> rfl
theorem paX {h h1 h2 : im_H} {s f : Nat} {A : Dy} {c : Ct} {fr : Nat} {t n d z1 z2 y1 y2 : Int32} (hA : absX h s = kpF c A fr t) (u1 : up h h1 s 4 (.int z1)) (u2 : up h1 h2 (s + 2) f (.int z2)) (hf : f < 100) (r1 : rv h s 4 = y1) (r2 : rv h1 (s + 2) f = y2) (e1 : y1 + d = z1) (e2 : y2 - n = z2) : absX h2 s = (Dy.s_ld (Dy.s_du (kpF c A fr t) (A.du + d)) (udt A.ld f (A.ld f - n))) := by
  have q2 : y2 = (absX h s).ld f := by rw [← r2, rv_ni u1 (Or.inl (by omega)), aX_ld hf]
  rw [xu_ld u2 hf, xu_du u1, ← e1, ← e2, q2, ← r1, show rv h s 4 = (absX h s).du from rfl, hA]
  show Dy.mk _ _ _ _ _ _ _ _ _ _ _ _ _ _ _ _ = Dy.mk _ _ _ _ _ _ _ _ _ _ _ _ _ _ _ _
  rw [kp_ld, kp_du]
theorem wkXs {H H1 H2 : im_H} {s r i p : Nat} {c : Ct} {B : Dy} {y m z x : Int32} (hc : ctX H = c) (g : absX H1 s = absX H s) (u : up H1 H2 (s + 5) p (.int z)) (hp : p < 24) (hpd : (c.hd r i).toInt.toNat = p) (hq : y = (ctX H).sd (fcA (ctX H) (absX H s) p) 0) (hm : m = mn14 y) (hx : rv H (s + 5) p = x) (ez : x + m = z) (w : absX H s = wkF c r B i) : absX H2 s = wkF c r B (i + 1) := by
  rw [xu_wk u hp, g, ← ez, ← hx, hm, hq, hc, ← aX_wk (h := H) (s := s) hp, w]
  show _ = (Dy.s_wk (wkF c r B i) (udt (wkF c r B i).wk (c.hd r i).toInt.toNat ((wkF c r B i).wk (c.hd r i).toInt.toNat + mn14 (c.sd (fcA c (wkF c r B i) (c.hd r i).toInt.toNat) 0))))
  rw [hpd]
theorem wk_rl {c : Ct} {r : Nat} {A : Dy} {X : Nat → Int32} : ∀ n, wkF c r (Dy.s_rl A (X)) n = (Dy.s_rl (wkF c r A n) (X))
  | 0 => rfl
  | n + 1 => by
    show (Dy.s_wk (wkF c r (Dy.s_rl A (X)) n) (udt (wkF c r (Dy.s_rl A (X)) n).wk (c.hd r n).toInt.toNat ((wkF c r (Dy.s_rl A (X)) n).wk (c.hd r n).toInt.toNat + mn14 (c.sd (fcA c (wkF c r (Dy.s_rl A (X)) n) (c.hd r n).toInt.toNat) 0)))) = _
    rw [wk_rl n]
    rfl
theorem br_rl {c : Ct} {A : Dy} {X : Nat → Int32} {to : Nat} {n : Int32} : brF c (Dy.s_rl A (X)) to n = (Dy.s_rl (brF c A to n) (X)) := by
  unfold brF
  split <;> rfl
theorem kp_rl {c : Ct} {A : Dy} {X : Nat → Int32} {f : Nat} {t : Int32} : kpF c (Dy.s_rl A (X)) f t = (Dy.s_rl (kpF c A f t) (X)) := by
  unfold kpF
  split <;> rfl
theorem pa_rl {c : Ct} {A : Dy} {X : Nat → Int32} {r : Nat} {n : Int32} : paF c (Dy.s_rl A (X)) r n = (Dy.s_rl (paF c A r n) (X)) := by
  unfold paF
  rw [kp_rl]
  exact (congrArg (fun t => wkF c r t (c.hn r).toInt.toNat) (br_rl (A := (Dy.s_ld (Dy.s_du (kpF c A (c.hf r).toInt.toNat (n / 10)) (A.du + n / 10 * 4)) (udt A.ld (c.hf r).toInt.toNat (A.ld (c.hf r).toInt.toNat - n)))))).trans (wk_rl _)
theorem wk_rl2 {c : Ct} {r : Nat} {A : Dy} : ∀ n, (wkF c r A n).rl = A.rl
  | 0 => rfl
  | n + 1 => wk_rl2 (c := c) (r := r) (A := A) n
theorem pa_rl2 {c : Ct} {A : Dy} {r : Nat} {n : Int32} : (paF c A r n).rl = A.rl := by
  unfold paF
  rw [wk_rl2]
  unfold brF kpF
  split <;> split <;> rfl
def roA (c : Ct) (A : Dy) (r i : Nat) : Dy := (Dy.s_rs (Dy.s_rl A (udt A.rl r 0)) (udt A.rs r (lsF c A r i).1))
theorem ps_roA {c : Ct} {A : Dy} {r i p : Nat} : psF c (roA c A r i) p = psF c A p := rfl
theorem ro_y {c : Ct} {A : Dy} {r i : Nat} {z : Int32} {k : Int32} (w : k = (lsF c A r i).2) (hz : z = psF c A (c.hd r i).toInt.toNat) (h : i = 0 ∨ z.toInt < k.toInt) : z = (lsF c A r (i + 1)).2 ∧ (lsF c A r (i + 1)).1 = c.hd r i := by
  rw [ls_y (by
    rcases h with h | h
    · exact Or.inl (by rw [h]; rfl)
    · exact Or.inr (by rw [← hz, ← w]; exact h))]
  exact ⟨hz, rfl⟩
theorem ro_n {c : Ct} {A : Dy} {r i : Nat} {z : Int32} {k : Int32} (hd : ∀ i, 0 ≤ (c.hd r i).toInt) (w : k = (lsF c A r i).2) (hz : z = psF c A (c.hd r i).toInt.toNat) (h0 : i ≠ 0) (h : ¬ z.toInt < k.toInt) : lsF c A r (i + 1) = lsF c A r i := ls_n (fun q => q.elim (fun a => h0 ((ls_0 hd).mp a)) (fun a => h (by rw [hz, w]; exact a)))
theorem roA_y {c : Ct} {A : Dy} {r i : Nat} {v : Int32} (e : (lsF c A r (i + 1)).1 = v) : (Dy.s_rs (roA c A r i) (udt (roA c A r i).rs r v)) = roA c A r (i + 1) := by
  show Dy.mk _ _ _ _ _ _ _ _ (udt (udt A.rs r (lsF c A r i).1) r v) _ _ _ _ _ _ _ = Dy.mk _ _ _ _ _ _ _ _ (udt A.rs r (lsF c A r (i + 1)).1) _ _ _ _ _ _ _
  rw [udt_2, e]
  rfl
theorem roA_n {c : Ct} {A : Dy} {r i : Nat} (e : lsF c A r (i + 1) = lsF c A r i) : roA c A r i = roA c A r (i + 1) := by
  unfold roA
  rw [e]
theorem ro_0 {c : Ct} {A : Dy} {r n : Nat} {m : Int32} (hn : (c.hn r).toInt.toNat = n) (hm : m = mnI (lsF c A r n).2 (A.ld (c.hf r).toInt.toNat)) (h : ¬ 0 < m.toInt) : roA c A r n = roF c A r := by
  unfold roF
  rw [hn, ← hm, if_neg h]
  rfl
theorem ro_1 {c : Ct} {A B : Dy} {r n : Nat} {m : Int32} (hn : (c.hn r).toInt.toNat = n) (hm : m = mnI (lsF c A r n).2 (A.ld (c.hf r).toInt.toNat)) (h : 0 < m.toInt) (hB : B = paF c (roA c A r n) r m) : (Dy.s_rl B (udt B.rl r m)) = roF c A r := by
  unfold roF
  rw [hn, ← hm, if_pos h, hB]
  have e : roA c A r n = (Dy.s_rl (((Dy.s_rs A (udt A.rs r (lsF c A r n).1)) : Dy)) (udt A.rl r 0)) := rfl
  rw [e, pa_rl]
  show Dy.mk _ _ _ _ _ _ _ (udt (udt A.rl r 0) r m) _ _ _ _ _ _ _ _ = _
  rw [udt_2]
theorem hiX_n {c : Ct} {A : Dy} {to : Int32} {p : Nat} (h : atF c A p ≠ to) : A = hiF c to A p := (if_neg (fun q => h q.2)).symm
theorem hiX_d {c : Ct} {A : Dy} {to : Int32} {p : Nat} (h : (A.de p).toInt ≠ 0) : A = hiF c to A p := (if_neg (fun q => h q.1)).symm
theorem hiX_s {c : Ct} {A : Dy} {to z : Int32} {p : Nat} (hd : (A.de p).toInt = 0) (ha : atF c A p = to) (hz : A.hu p + 3 = z) (h9 : ¬ 9 ≤ z.toInt) : (Dy.s_hu A (udt A.hu p z)) = hiF c to A p := by
  unfold hiF
  rw [if_pos ⟨hd, ha⟩, hz, if_neg h9]
theorem hiX_k {c : Ct} {A : Dy} {to z : Int32} {p : Nat} (hd : (A.de p).toInt = 0) (ha : atF c A p = to) (hz : A.hu p + 3 = z) (h9 : 9 ≤ z.toInt) : (Dy.s_de (Dy.s_hu (((Dy.s_hu A (udt A.hu p z)) : Dy)) (udt (udt A.hu p z) p 0)) (udt A.de p 1)) = hiF c to A p := by
  unfold hiF
  rw [if_pos ⟨hd, ha⟩, hz, if_pos h9, udt_2]
theorem heX_n {A : Dy} {p : Nat} (h : ¬ ((A.de p).toInt = 0 ∧ 0 < (A.hu p).toInt)) : A = heF A p := (if_neg h).symm
theorem heX_y {A : Dy} {p : Nat} {z : Int32} (h : (A.de p).toInt = 0) (h2 : 0 < (A.hu p).toInt) (hz : A.hu p - 1 = z) : (Dy.s_hu A (udt A.hu p z)) = heF A p := by
  unfold heF
  rw [if_pos ⟨h, h2⟩, hz]
theorem wa_n {c : Ct} {A : Dy} {k : Nat} (h : (A.up k).toInt ≠ 1) : A = waF c A k := (if_neg h).symm
theorem wa_s {c : Ct} {A : Dy} {k : Nat} (h : (A.up k).toInt = 1) (h2 : ¬ (weF c A k).toInt ≤ (3 * A.wi).toInt) : (Dy.s_st A (udt A.st k (weF c A k))) = waF c A k := by
  unfold waF
  rw [if_pos h, if_neg h2]
theorem wa_f {c : Ct} {A : Dy} {k : Nat} (h : (A.up k).toInt = 1) (h2 : (weF c A k).toInt ≤ (3 * A.wi).toInt) : faF c (Dy.s_st A (udt A.st k (weF c A k))) k = waF c A k := by
  unfold waF
  rw [if_pos h, if_pos h2]
theorem it_s {f : Dy → Nat → Dy} {A : Dy} {n m : Nat} (e : m = n + 1) : f (itF f A n) n = itF f A m := by
  subst e
  rfl
theorem mnI_pos {x y m : Int32} (e : m = mnI x y) (h : 0 < m.toInt) : 0 < x.toInt := by
  rw [e] at h
  unfold mnI at h
  split at h <;> omega
set_option maxRecDepth 20000 in
set_option maxHeartbeats 4000000 in
theorem c_X0_passOn {s : Nat} {r : Nat} {moved : Int32} {h : im_H} (hI : tI h) (q_s : s = 23 ∨ s = 37 ∨ s = 51) (q_r : r = 12 ∨ r = 14 ∨ r = 16 ∨ r = 18) : CaP 3 9 [.ref 17, .ref (16 + s), .ref (16 + r), .int moved] h (fun v h2 => tI h2 ∧ fr (F_X0_passOn s r) h h2 ∧ v = none ∧ ((∀ i : Nat, i < (rv h r 1).toInt.toNat → (rv h (s + 7) (rv h (r + 1) i).toInt.toNat).toInt = 0) → absX h2 s = paF (ctX h) (absX h s) ((r - 12) / 2) moved)) := by
  refine cap_of (d := 2) (M := mX0_passOn) rfl (Nat.le_of_ble_eq_true rfl) ?_
  show EvP im_K0 2 mX0_passOn (0, [(0, .ref 17), (1, .ref (16 + s)), (2, .ref (16 + r)), (3, .int moved)], [], h) _
  have f0 : fr (F_X0_passOn s r) h h := fr_rf
  refine te_iload_n (p2 := 1) rfl rfl rfl ?_
  obtain ⟨v1, e1, y1, w1, a1, b1, _⟩ := hI.2.1 r 1 (.inl (0, 8, 9999999999)) (by rcases q_r with rfl | rfl | rfl | rfl <;> rfl)
  subst w1
  obtain ⟨v2, e2, y2, w2, a2, b2, _⟩ := hI.2.1 r 2 (.inl (0, 99, 9999999999)) (by rcases q_r with rfl | rfl | rfl | rfl <;> rfl)
  subst w2
  obtain ⟨v3, e3, y3, w3, a3, b3, _⟩ := hI.2.1 r 3 (.inl (0, 99, 9999999999)) (by rcases q_r with rfl | rfl | rfl | rfl <;> rfl)
  subst w3
  refine te_bipush (p2 := 3) (x := 10) rfl rfl (by decide) ?_
  refine au_div (p2 := 4) rfl rfl (show Int32.toInt 10 = 10 from rfl) (by decide) (fun z4 e4 => ?_)
  refine te_istore (p2 := 6) (lv2 := [(4, .int z4), (0, .ref 17), (1, .ref (16 + s)), (2, .ref (16 + r)), (3, .int moved)]) rfl rfl (by decide) rfl ?_
  refine te_aload_n (p2 := 7) rfl rfl rfl ?_
  refine tg_r (p2 := 10) (i := 1) (r := 18) rfl rfl hI rfl rfl rfl ?_
  refine te_aload_n (p2 := 11) rfl rfl rfl ?_
  refine tg_e (p2 := 14) (i := r) (v := .int y2) rfl rfl hI rfl (by rcases q_r with rfl | rfl | rfl | rfl <;> rfl) e2 ?_
  refine tl_i (p2 := 15) (i := 2) (n := 100) rfl rfl hI rfl rfl rfl rfl (by omega) (by omega) (fun y5 a5 b5 g5 e5 => ?_)
  refine te_istore (p2 := 17) (lv2 := [(5, .int y5), (4, .int z4), (0, .ref 17), (1, .ref (16 + s)), (2, .ref (16 + r)), (3, .int moved)]) rfl rfl (by decide) rfl ?_
  refine te_iload (p2 := 19) rfl rfl rfl ?_
  refine te_iconst (p2 := 20) (x := (-1)) rfl rfl (by decide) ?_
  refine tb_eq (p2 := 23) rfl rfl rfl (show Int32.toInt (-1) = (-1) from rfl) (fun c6 => ?_) (fun c6 => ?_)
  · refine te_aload_n (p2 := 78) rfl rfl rfl ?_
    refine te_dup (p2 := 79) rfl rfl rfl ?_
    refine tg_i (p2 := 82) (i := s) rfl rfl hI rfl (by rcases q_s with rfl | rfl | rfl <;> rfl) (by rcases q_s with rfl | rfl | rfl <;> rfl) (fun y7 a7 b7 e7 => ?_)
    refine te_iload (p2 := 84) rfl rfl rfl ?_
    refine te_iconst (p2 := 85) (x := 4) rfl rfl (by decide) ?_
    refine au_mul (p2 := 86) rfl rfl (fun z8 e8 => ?_)
    refine au_add (p2 := 87) rfl rfl (fun z9 e9 => ?_)
    refine tp_i (p2 := 90) (i := s) rfl rfl hI rfl (by rcases q_s with rfl | rfl | rfl <;> rfl) (by decide) rfl rfl (by rcases q_s with rfl | rfl | rfl <;> rfl) (i32_lo _) (i32_hi _) (i32_ho _) (by rcases q_s with rfl | rfl | rfl <;> rfl) (fun h10 I10 u10 => ?_)
    have f10 := fr_st (F := (F_X0_passOn s r)) 4 f0 u10 rfl (by decide) (by decide)
    refine te_aload_n (p2 := 91) rfl rfl rfl ?_
    refine tg_r (p2 := 94) (i := s) (r := (16 + (s + 2))) rfl rfl I10 rfl (by rcases q_s with rfl | rfl | rfl <;> rfl) (by rcases q_s with rfl | rfl | rfl <;> rfl) ?_
    refine te_aload_n (p2 := 95) rfl rfl rfl ?_
    refine tg_e (p2 := 98) (i := r) (v := .int y2) rfl rfl I10 rfl (by rcases q_r with rfl | rfl | rfl | rfl <;> rfl) ((u10.2 _ _ (Or.inl (by omega))).trans e2) ?_
    refine te_dup2 (p2 := 99) rfl rfl ⟨rfl, rfl⟩ ?_
    refine tl_i (p2 := 100) (i := (s + 2)) (n := 100) rfl rfl I10 rfl (by rcases q_s with rfl | rfl | rfl <;> rfl) (by rcases q_s with rfl | rfl | rfl <;> rfl) rfl (by omega) (by omega) (fun y11 a11 b11 g11 e11 => ?_)
    refine te_iload_n (p2 := 101) rfl rfl rfl ?_
    refine au_sub (p2 := 102) rfl rfl (fun z12 e12 => ?_)
    refine ts_i (p2 := 103) (i := (s + 2)) (n := 100) rfl rfl I10 rfl (by rcases q_s with rfl | rfl | rfl <;> rfl) (by rcases q_s with rfl | rfl | rfl <;> rfl) rfl (by omega) (by omega) (i32_lo _) (i32_hi _) (i32_ho _) (by rcases q_s with rfl | rfl | rfl <;> rfl) (fun h13 I13 u13 => ?_)
    have f13 := fr_st (F := (F_X0_passOn s r)) 1 f10 u13 rfl (by omega) (by omega)
    refine te_aload_n (p2 := 104) rfl rfl rfl ?_
    refine te_aload_n (p2 := 105) rfl rfl rfl ?_
    refine te_aload_n (p2 := 106) rfl rfl rfl ?_
    refine tg_e (p2 := 109) (i := r) (v := .int y3) rfl rfl I13 rfl (by rcases q_r with rfl | rfl | rfl | rfl <;> rfl) ((u13.2 _ _ (Or.inl (by omega))).trans ((u10.2 _ _ (Or.inl (by omega))).trans e3)) ?_
    refine te_iload_n (p2 := 110) rfl rfl rfl ?_
    refine te_iload (p2 := 112) rfl rfl rfl ?_
    refine te_iconst (p2 := 113) (x := 4) rfl rfl (by decide) ?_
    refine au_mul (p2 := 114) rfl rfl (fun z14 e14 => ?_)
    refine au_sub (p2 := 115) rfl rfl (fun z15 e15 => ?_)
    refine tc_V (p2 := 118) (i := 1) rfl rfl rfl rfl I13 rfl rfl rfl (c_X0_bring (s := s) (to := y3) (loads := z15) I13 q_s (by omega) (by omega)) (by decide) (fun v16 h16 hq16 => ?_)
    obtain ⟨I16, g16, w16, Q16⟩ := hq16
    subst w16
    have f16 := fr_tr (F1 := (F_X0_bring s)) (F := (F_X0_passOn s r)) f13 g16 (by rcases q_s with rfl | rfl | rfl <;> rcases q_r with rfl | rfl | rfl | rfl <;> decide)
    show EvP _ _ _ (118, [(5, .int y5), (4, .int z4), (0, .ref 17), (1, .ref (16 + s)), (2, .ref (16 + r)), (3, .int moved)], [], h16) _
    refine te_iconst (p2 := 119) (x := 0) rfl rfl (by decide) ?_
    have hF : ((ctX h).hf ((r - 12) / 2)).toInt.toNat = y2.toInt.toNat := by rw [(hnX q_r).2.1, rv_of e2]
    have hT : ((ctX h).ht ((r - 12) / 2)).toInt.toNat = y3.toInt.toNat := by rw [(hnX q_r).2.2, rv_of e3]
    have hK : (ctX h).kd y2.toInt.toNat = y5 := (gd_at (by omega)).trans (rv_of e5)
    have hA : absX h s = kpF (ctX h) (absX h s) y2.toInt.toNat z4 := (if_pos (by rw [hK]; omega)).symm
    have hP := paX hA u10 u13 (by omega) (rv_of e7) (rv_of e11) e9 e12
    have hB : absX h16 s = (brF (ctX h) (Dy.s_ld (Dy.s_du (kpF (ctX h) (absX h s) ((ctX h).hf ((r - 12) / 2)).toInt.toNat (moved / 10)) ((absX h s).du + moved / 10 * 4)) (udt (absX h s).ld ((ctX h).hf ((r - 12) / 2)).toInt.toNat ((absX h s).ld ((ctX h).hf ((r - 12) / 2)).toInt.toNat - moved))) ((ctX h).ht ((r - 12) / 2)).toInt.toNat (moved - moved / 10 * 4)) := by rw [hF, hT, e4, e8, show moved - z8 = z15 from (by rw [← e8, e14]; exact e15), Q16, hP, (show ctX h13 = ctX h from ctX_fr f13 (by rcases q_s with rfl | rfl | rfl <;> rfl))]
    refine te_istore (p2 := 121) (lv2 := [(6, .int 0), (5, .int y5), (4, .int z4), (0, .ref 17), (1, .ref (16 + s)), (2, .ref (16 + r)), (3, .int moved)]) rfl rfl (by decide) rfl ?_
    have lp17 : ∀ (n17 : Nat) (v17_6 : Int32) (h17 : im_H), tI h17 → fr (F_X0_passOn s r) h h17 → 0 ≤ v17_6.toInt → v17_6.toInt ≤ 8 → v17_6.toInt ≤ y1.toInt → ((∀ i : Nat, i < (rv h r 1).toInt.toNat → (rv h (s + 7) (rv h (r + 1) i).toInt.toNat).toInt = 0) → absX h17 s = wkF (ctX h) ((r - 12) / 2) (brF (ctX h) (Dy.s_ld (Dy.s_du (kpF (ctX h) (absX h s) ((ctX h).hf ((r - 12) / 2)).toInt.toNat (moved / 10)) ((absX h s).du + moved / 10 * 4)) (udt (absX h s).ld ((ctX h).hf ((r - 12) / 2)).toInt.toNat ((absX h s).ld ((ctX h).hf ((r - 12) / 2)).toInt.toNat - moved))) ((ctX h).ht ((r - 12) / 2)).toInt.toNat (moved - moved / 10 * 4)) v17_6.toInt.toNat) → 8 - v17_6.toInt < (n17 : Int) → EvP im_K0 2 mX0_passOn (121, [(0, .ref 17), (1, .ref (16 + s)), (2, .ref (16 + r)), (3, .int moved), (4, .int z4), (5, .int y5), (6, .int v17_6)], [], h17) (fun v h2 => tI h2 ∧ fr (F_X0_passOn s r) h h2 ∧ v = none ∧ ((∀ i : Nat, i < (rv h r 1).toInt.toNat → (rv h (s + 7) (rv h (r + 1) i).toInt.toNat).toInt = 0) → absX h2 s = paF (ctX h) (absX h s) ((r - 12) / 2) moved)) := by
      intro n17
      induction n17 with
      | zero => intro v17_6 h17 I17 f17 a17_6 b17_6 l17_0 w17_0 m17; exfalso; omega
      | succ n17 ih17 =>
        intro v17_6 h17 I17 f17 a17_6 b17_6 l17_0 w17_0 m17
        refine te_iload (p2 := 123) rfl rfl rfl ?_
        refine te_aload_n (p2 := 124) rfl rfl rfl ?_
        refine tg_e (p2 := 127) (i := r) (v := .int y1) rfl rfl I17 rfl (by rcases q_r with rfl | rfl | rfl | rfl <;> rfl) ((f17 _ _ (by rcases q_r with rfl | rfl | rfl | rfl <;> rcases q_s with rfl | rfl | rfl <;> rfl)).trans e1) ?_
        refine tb_ge (p2 := 130) rfl rfl rfl rfl (fun c18 => ?_) (fun c18 => ?_)
        · exact te_vret rfl rfl ⟨I17, f17, rfl, (fun al => by rw [w17_0 al]; unfold paF; rw [(hnX q_r).1, rv_of e1, show v17_6.toInt.toNat = y1.toInt.toNat by omega])⟩
        · refine te_aload_n (p2 := 131) rfl rfl rfl ?_
          refine tg_r (p2 := 134) (i := r) (r := (16 + (r + 1))) rfl rfl I17 rfl (by rcases q_r with rfl | rfl | rfl | rfl <;> rfl) (by rcases q_r with rfl | rfl | rfl | rfl <;> rfl) ?_
          refine te_iload (p2 := 136) rfl rfl rfl ?_
          refine tl_i (p2 := 137) (i := (r + 1)) (n := 8) rfl rfl I17 rfl (by rcases q_r with rfl | rfl | rfl | rfl <;> rfl) (by rcases q_r with rfl | rfl | rfl | rfl <;> rfl) rfl (by omega) (by omega) (fun y19 a19 b19 g19 e19 => ?_)
          refine te_istore (p2 := 139) (lv2 := [(7, .int y19), (0, .ref 17), (1, .ref (16 + s)), (2, .ref (16 + r)), (3, .int moved), (4, .int z4), (5, .int y5), (6, .int v17_6)]) rfl rfl (by decide) rfl ?_
          refine te_aload_n (p2 := 140) rfl rfl rfl ?_
          refine tg_r (p2 := 143) (i := s) (r := (16 + (s + 5))) rfl rfl I17 rfl (by rcases q_s with rfl | rfl | rfl <;> rfl) (by rcases q_s with rfl | rfl | rfl <;> rfl) ?_
          refine te_iload (p2 := 145) rfl rfl rfl ?_
          refine te_dup2 (p2 := 146) rfl rfl ⟨rfl, rfl⟩ ?_
          refine tl_i (p2 := 147) (i := (s + 5)) (n := 24) rfl rfl I17 rfl (by rcases q_s with rfl | rfl | rfl <;> rfl) (by rcases q_s with rfl | rfl | rfl <;> rfl) rfl (by omega) (by omega) (fun y20 a20 b20 g20 e20 => ?_)
          refine te_aload_n (p2 := 148) rfl rfl rfl ?_
          refine te_aload_n (p2 := 149) rfl rfl rfl ?_
          refine te_iload (p2 := 151) rfl rfl rfl ?_
          refine te_iconst (p2 := 152) (x := 0) rfl rfl (by decide) ?_
          refine tc_V (p2 := 155) (i := 1) rfl rfl rfl rfl I17 rfl rfl rfl (d_X0_said (s := s) (p := y19) (key := 0) I17 q_s (by omega) (by omega)) (by decide) (fun v21 h21 hq21 => ?_)
          obtain ⟨I21, g21, y21, w21, Q21⟩ := hq21
          subst w21
          have f21 := fr_tr (F1 := F_X0_said) (F := (F_X0_passOn s r)) f17 g21 (by rcases q_s with rfl | rfl | rfl <;> rcases q_r with rfl | rfl | rfl | rfl <;> decide)
          show EvP _ _ _ (155, [(7, .int y19), (0, .ref 17), (1, .ref (16 + s)), (2, .ref (16 + r)), (3, .int moved), (4, .int z4), (5, .int y5), (6, .int v17_6)], [.int y21, .int y20, .int y19, .ref (16 + (s + 5))], h21) _
          refine te_bipush (p2 := 157) (x := 14) rfl rfl (by decide) ?_
          refine ar_min (p2 := 160) rfl rfl rfl rfl (show Int32.toInt 14 = 14 from rfl) (fun z22 e22 f22 => ?_)
          refine au_add (p2 := 161) rfl rfl (fun z23 e23 => ?_)
          refine ts_i (p2 := 162) (i := (s + 5)) (n := 24) rfl rfl I21 rfl (by rcases q_s with rfl | rfl | rfl <;> rfl) (by rcases q_s with rfl | rfl | rfl <;> rfl) rfl (by omega) (by omega) (i32_lo _) (i32_hi _) (i32_ho _) (by rcases q_s with rfl | rfl | rfl <;> rfl) (fun h24 I24 u24 => ?_)
          have f24 := fr_st (F := (F_X0_passOn s r)) 2 f21 u24 rfl (by omega) (by omega)
          refine ar_inc (p2 := 165) (x := v17_6) rfl rfl (by decide) rfl (by decide) rfl (by omega) (by omega) (fun z25 e25 f25 => ?_)
          show EvP _ _ _ (165, [(6, .int z25), (7, .int y19), (0, .ref 17), (1, .ref (16 + s)), (2, .ref (16 + r)), (3, .int moved), (4, .int z4), (5, .int y5)], [], h24) _
          refine te_goto rfl ?_
          refine te_lv [(0, .ref 17), (1, .ref (16 + s)), (2, .ref (16 + r)), (3, .int moved), (4, .int z4), (5, .int y5), (6, .int z25)] rfl rfl ⟨rfl, rfl, rfl, rfl, rfl, rfl, rfl, trivial⟩ ?_
          exact ih17 z25 h24 I24 f24 (by omega) (by omega) (by omega) (fun al => by rw [show z25.toInt.toNat = v17_6.toInt.toNat + 1 by omega]; exact wkXs (show ctX h17 = ctX h from ctX_fr f17 (by rcases q_s with rfl | rfl | rfl <;> rfl)) (absX_fr g21 (fun q hq => by (simp only [List.mem_cons, List.not_mem_nil, or_false] at hq); subst hq; omega)) u24 (by omega) (by rw [hdX q_r (by omega), (show rv h (r + 1) v17_6.toInt.toNat = y19 from rv_of ((f17 _ _ (by rcases q_s with rfl | rfl | rfl <;> rcases q_r with rfl | rfl | rfl | rfl <;> rfl)).symm.trans e19))]) (Q21 (by rw [rv_q (show rd h17 (s + 7) y19.toInt.toNat = rd h (s + 7) y19.toInt.toNat from f17 _ _ (by rcases q_s with rfl | rfl | rfl <;> rfl))]; (have h9 := al v17_6.toInt.toNat (by rw [rv_of e1]; omega)); rw [(show rv h (r + 1) v17_6.toInt.toNat = y19 from rv_of ((f17 _ _ (by rcases q_s with rfl | rfl | rfl <;> rcases q_r with rfl | rfl | rfl | rfl <;> rfl)).symm.trans e19))] at h9; exact h9)) (mn14_e (by omega)) (rv_of e20) e23 (w17_0 al)) (by omega)
    refine te_lv [(0, .ref 17), (1, .ref (16 + s)), (2, .ref (16 + r)), (3, .int moved), (4, .int z4), (5, .int y5), (6, .int 0)] rfl rfl ⟨rfl, rfl, rfl, rfl, rfl, rfl, rfl, trivial⟩ ?_
    exact lp17 9 0 h16 I16 f16 (by decide) (by decide) (by have cc0 := (show Int32.toInt 0 = 0 from rfl); omega) (fun _ => hB) (by have cc0 := (show Int32.toInt 0 = 0 from rfl); omega)
  · refine te_aload_n (p2 := 24) rfl rfl rfl ?_
    refine tg_r (p2 := 27) (i := s) (r := (16 + (s + 1))) rfl rfl hI rfl (by rcases q_s with rfl | rfl | rfl <;> rfl) (by rcases q_s with rfl | rfl | rfl <;> rfl) ?_
    refine te_iconst (p2 := 28) (x := 0) rfl rfl (by decide) ?_
    refine te_dup2 (p2 := 29) rfl rfl ⟨rfl, rfl⟩ ?_
    refine tl_i (p2 := 30) (i := (s + 1)) (n := 3) rfl rfl hI rfl (by rcases q_s with rfl | rfl | rfl <;> rfl) (by rcases q_s with rfl | rfl | rfl <;> rfl) rfl (by decide) (by decide) (fun y26 a26 b26 g26 e26 => ?_)
    refine te_iload (p2 := 32) rfl rfl rfl ?_
    refine te_gst (p2 := 35) rfl rfl (by decide) ?_
    refine te_iload (p2 := 37) rfl rfl rfl ?_
    refine tl_s (p2 := 38) (R := 0) (l := [20, 35, 20, 70, 10, 5]) (n := 6) (lo := 5) (hi := 70) rfl rfl (by decide) rfl rfl (by decide) (by omega) (by omega) (fun y27 a27 b27 e27 => ?_)
    refine au_mul (p2 := 39) rfl rfl (fun z28 e28 => ?_)
    refine au_add (p2 := 40) rfl rfl (fun z29 e29 => ?_)
    refine ts_i (p2 := 41) (i := (s + 1)) (n := 3) rfl rfl hI rfl (by rcases q_s with rfl | rfl | rfl <;> rfl) (by rcases q_s with rfl | rfl | rfl <;> rfl) rfl (by decide) (by decide) (i32_lo _) (i32_hi _) (i32_ho _) (by rcases q_s with rfl | rfl | rfl <;> rfl) (fun h30 I30 u30 => ?_)
    have f30 := fr_st (F := (F_X0_passOn s r)) 0 f0 u30 rfl (by decide) (by decide)
    refine te_aload_n (p2 := 42) rfl rfl rfl ?_
    refine tg_r (p2 := 45) (i := s) (r := (16 + (s + 1))) rfl rfl I30 rfl (by rcases q_s with rfl | rfl | rfl <;> rfl) (by rcases q_s with rfl | rfl | rfl <;> rfl) ?_
    refine te_iconst (p2 := 46) (x := 1) rfl rfl (by decide) ?_
    refine te_dup2 (p2 := 47) rfl rfl ⟨rfl, rfl⟩ ?_
    refine tl_i (p2 := 48) (i := (s + 1)) (n := 3) rfl rfl I30 rfl (by rcases q_s with rfl | rfl | rfl <;> rfl) (by rcases q_s with rfl | rfl | rfl <;> rfl) rfl (by decide) (by decide) (fun y31 a31 b31 g31 e31 => ?_)
    refine te_iload (p2 := 50) rfl rfl rfl ?_
    refine te_gst (p2 := 53) rfl rfl (by decide) ?_
    refine te_iload (p2 := 55) rfl rfl rfl ?_
    refine tl_s (p2 := 56) (R := 1) (l := [1, 4, 1, 4, 7, 4]) (n := 6) (lo := 1) (hi := 7) rfl rfl (by decide) rfl rfl (by decide) (by omega) (by omega) (fun y32 a32 b32 e32 => ?_)
    refine au_mul (p2 := 57) rfl rfl (fun z33 e33 => ?_)
    refine au_add (p2 := 58) rfl rfl (fun z34 e34 => ?_)
    refine ts_i (p2 := 59) (i := (s + 1)) (n := 3) rfl rfl I30 rfl (by rcases q_s with rfl | rfl | rfl <;> rfl) (by rcases q_s with rfl | rfl | rfl <;> rfl) rfl (by decide) (by decide) (i32_lo _) (i32_hi _) (i32_ho _) (by rcases q_s with rfl | rfl | rfl <;> rfl) (fun h35 I35 u35 => ?_)
    have f35 := fr_st (F := (F_X0_passOn s r)) 0 f30 u35 rfl (by decide) (by decide)
    refine te_aload_n (p2 := 60) rfl rfl rfl ?_
    refine tg_r (p2 := 63) (i := s) (r := (16 + (s + 1))) rfl rfl I35 rfl (by rcases q_s with rfl | rfl | rfl <;> rfl) (by rcases q_s with rfl | rfl | rfl <;> rfl) ?_
    refine te_iconst (p2 := 64) (x := 2) rfl rfl (by decide) ?_
    refine te_dup2 (p2 := 65) rfl rfl ⟨rfl, rfl⟩ ?_
    refine tl_i (p2 := 66) (i := (s + 1)) (n := 3) rfl rfl I35 rfl (by rcases q_s with rfl | rfl | rfl <;> rfl) (by rcases q_s with rfl | rfl | rfl <;> rfl) rfl (by decide) (by decide) (fun y36 a36 b36 g36 e36 => ?_)
    refine te_iload (p2 := 68) rfl rfl rfl ?_
    refine te_gst (p2 := 71) rfl rfl (by decide) ?_
    refine te_iload (p2 := 73) rfl rfl rfl ?_
    refine tl_s (p2 := 74) (R := 2) (l := [0, 0, 5, 0, 5, 0]) (n := 6) (lo := 0) (hi := 5) rfl rfl (by decide) rfl rfl (by decide) (by omega) (by omega) (fun y37 a37 b37 e37 => ?_)
    refine au_mul (p2 := 75) rfl rfl (fun z38 e38 => ?_)
    refine au_add (p2 := 76) rfl rfl (fun z39 e39 => ?_)
    refine ts_i (p2 := 77) (i := (s + 1)) (n := 3) rfl rfl I35 rfl (by rcases q_s with rfl | rfl | rfl <;> rfl) (by rcases q_s with rfl | rfl | rfl <;> rfl) rfl (by decide) (by decide) (i32_lo _) (i32_hi _) (i32_ho _) (by rcases q_s with rfl | rfl | rfl <;> rfl) (fun h40 I40 u40 => ?_)
    have f40 := fr_st (F := (F_X0_passOn s r)) 0 f35 u40 rfl (by decide) (by decide)
    refine te_aload_n (p2 := 78) rfl rfl rfl ?_
    refine te_dup (p2 := 79) rfl rfl rfl ?_
    refine tg_i (p2 := 82) (i := s) rfl rfl I40 rfl (by rcases q_s with rfl | rfl | rfl <;> rfl) (by rcases q_s with rfl | rfl | rfl <;> rfl) (fun y41 a41 b41 e41 => ?_)
    refine te_iload (p2 := 84) rfl rfl rfl ?_
    refine te_iconst (p2 := 85) (x := 4) rfl rfl (by decide) ?_
    refine au_mul (p2 := 86) rfl rfl (fun z42 e42 => ?_)
    refine au_add (p2 := 87) rfl rfl (fun z43 e43 => ?_)
    refine tp_i (p2 := 90) (i := s) rfl rfl I40 rfl (by rcases q_s with rfl | rfl | rfl <;> rfl) (by decide) rfl rfl (by rcases q_s with rfl | rfl | rfl <;> rfl) (i32_lo _) (i32_hi _) (i32_ho _) (by rcases q_s with rfl | rfl | rfl <;> rfl) (fun h44 I44 u44 => ?_)
    have f44 := fr_st (F := (F_X0_passOn s r)) 4 f40 u44 rfl (by decide) (by decide)
    refine te_aload_n (p2 := 91) rfl rfl rfl ?_
    refine tg_r (p2 := 94) (i := s) (r := (16 + (s + 2))) rfl rfl I44 rfl (by rcases q_s with rfl | rfl | rfl <;> rfl) (by rcases q_s with rfl | rfl | rfl <;> rfl) ?_
    refine te_aload_n (p2 := 95) rfl rfl rfl ?_
    refine tg_e (p2 := 98) (i := r) (v := .int y2) rfl rfl I44 rfl (by rcases q_r with rfl | rfl | rfl | rfl <;> rfl) ((u44.2 _ _ (Or.inl (by omega))).trans ((u40.2 _ _ (Or.inl (by omega))).trans ((u35.2 _ _ (Or.inl (by omega))).trans ((u30.2 _ _ (Or.inl (by omega))).trans e2)))) ?_
    refine te_dup2 (p2 := 99) rfl rfl ⟨rfl, rfl⟩ ?_
    refine tl_i (p2 := 100) (i := (s + 2)) (n := 100) rfl rfl I44 rfl (by rcases q_s with rfl | rfl | rfl <;> rfl) (by rcases q_s with rfl | rfl | rfl <;> rfl) rfl (by omega) (by omega) (fun y45 a45 b45 g45 e45 => ?_)
    refine te_iload_n (p2 := 101) rfl rfl rfl ?_
    refine au_sub (p2 := 102) rfl rfl (fun z46 e46 => ?_)
    refine ts_i (p2 := 103) (i := (s + 2)) (n := 100) rfl rfl I44 rfl (by rcases q_s with rfl | rfl | rfl <;> rfl) (by rcases q_s with rfl | rfl | rfl <;> rfl) rfl (by omega) (by omega) (i32_lo _) (i32_hi _) (i32_ho _) (by rcases q_s with rfl | rfl | rfl <;> rfl) (fun h47 I47 u47 => ?_)
    have f47 := fr_st (F := (F_X0_passOn s r)) 1 f44 u47 rfl (by omega) (by omega)
    refine te_aload_n (p2 := 104) rfl rfl rfl ?_
    refine te_aload_n (p2 := 105) rfl rfl rfl ?_
    refine te_aload_n (p2 := 106) rfl rfl rfl ?_
    refine tg_e (p2 := 109) (i := r) (v := .int y3) rfl rfl I47 rfl (by rcases q_r with rfl | rfl | rfl | rfl <;> rfl) ((u47.2 _ _ (Or.inl (by omega))).trans ((u44.2 _ _ (Or.inl (by omega))).trans ((u40.2 _ _ (Or.inl (by omega))).trans ((u35.2 _ _ (Or.inl (by omega))).trans ((u30.2 _ _ (Or.inl (by omega))).trans e3))))) ?_
    refine te_iload_n (p2 := 110) rfl rfl rfl ?_
    refine te_iload (p2 := 112) rfl rfl rfl ?_
    refine te_iconst (p2 := 113) (x := 4) rfl rfl (by decide) ?_
    refine au_mul (p2 := 114) rfl rfl (fun z48 e48 => ?_)
    refine au_sub (p2 := 115) rfl rfl (fun z49 e49 => ?_)
    refine tc_V (p2 := 118) (i := 1) rfl rfl rfl rfl I47 rfl rfl rfl (c_X0_bring (s := s) (to := y3) (loads := z49) I47 q_s (by omega) (by omega)) (by decide) (fun v50 h50 hq50 => ?_)
    obtain ⟨I50, g50, w50, Q50⟩ := hq50
    subst w50
    have f50 := fr_tr (F1 := (F_X0_bring s)) (F := (F_X0_passOn s r)) f47 g50 (by rcases q_s with rfl | rfl | rfl <;> rcases q_r with rfl | rfl | rfl | rfl <;> decide)
    show EvP _ _ _ (118, [(5, .int y5), (4, .int z4), (0, .ref 17), (1, .ref (16 + s)), (2, .ref (16 + r)), (3, .int moved)], [], h50) _
    refine te_iconst (p2 := 119) (x := 0) rfl rfl (by decide) ?_
    have hF : ((ctX h).hf ((r - 12) / 2)).toInt.toNat = y2.toInt.toNat := by rw [(hnX q_r).2.1, rv_of e2]
    have hT : ((ctX h).ht ((r - 12) / 2)).toInt.toNat = y3.toInt.toNat := by rw [(hnX q_r).2.2, rv_of e3]
    have hK : (ctX h).kd y2.toInt.toNat = y5 := (gd_at (by omega)).trans (rv_of e5)
    have hA : absX h40 s = kpF (ctX h) (absX h s) y2.toInt.toNat z4 := kpX (kk := y5.toInt.toNat) u30 u35 u40 (by rw [hK]; omega) (by rw [hK]) (show y27 = KB.getD _ 0 from e27.symm) (show y32 = KM.getD _ 0 from e32.symm) (show y37 = KI.getD _ 0 from e37.symm) (rv_of (k := 0) e26) (rv_of (k := 1) e31) (rv_of (k := 2) e36) (by rw [e28]; exact e29) (by rw [e33]; exact e34) (by rw [e38]; exact e39)
    have hP := paX hA u44 u47 (by omega) (rv_of e41) (rv_of e45) e43 e46
    have hB : absX h50 s = (brF (ctX h) (Dy.s_ld (Dy.s_du (kpF (ctX h) (absX h s) ((ctX h).hf ((r - 12) / 2)).toInt.toNat (moved / 10)) ((absX h s).du + moved / 10 * 4)) (udt (absX h s).ld ((ctX h).hf ((r - 12) / 2)).toInt.toNat ((absX h s).ld ((ctX h).hf ((r - 12) / 2)).toInt.toNat - moved))) ((ctX h).ht ((r - 12) / 2)).toInt.toNat (moved - moved / 10 * 4)) := by rw [hF, hT, e4, e42, show moved - z42 = z49 from (by rw [← e42, e48]; exact e49), Q50, hP, (show ctX h47 = ctX h from ctX_fr f47 (by rcases q_s with rfl | rfl | rfl <;> rfl))]
    refine te_istore (p2 := 121) (lv2 := [(6, .int 0), (5, .int y5), (4, .int z4), (0, .ref 17), (1, .ref (16 + s)), (2, .ref (16 + r)), (3, .int moved)]) rfl rfl (by decide) rfl ?_
    have lp51 : ∀ (n51 : Nat) (v51_6 : Int32) (h51 : im_H), tI h51 → fr (F_X0_passOn s r) h h51 → 0 ≤ v51_6.toInt → v51_6.toInt ≤ 8 → v51_6.toInt ≤ y1.toInt → ((∀ i : Nat, i < (rv h r 1).toInt.toNat → (rv h (s + 7) (rv h (r + 1) i).toInt.toNat).toInt = 0) → absX h51 s = wkF (ctX h) ((r - 12) / 2) (brF (ctX h) (Dy.s_ld (Dy.s_du (kpF (ctX h) (absX h s) ((ctX h).hf ((r - 12) / 2)).toInt.toNat (moved / 10)) ((absX h s).du + moved / 10 * 4)) (udt (absX h s).ld ((ctX h).hf ((r - 12) / 2)).toInt.toNat ((absX h s).ld ((ctX h).hf ((r - 12) / 2)).toInt.toNat - moved))) ((ctX h).ht ((r - 12) / 2)).toInt.toNat (moved - moved / 10 * 4)) v51_6.toInt.toNat) → 8 - v51_6.toInt < (n51 : Int) → EvP im_K0 2 mX0_passOn (121, [(0, .ref 17), (1, .ref (16 + s)), (2, .ref (16 + r)), (3, .int moved), (4, .int z4), (5, .int y5), (6, .int v51_6)], [], h51) (fun v h2 => tI h2 ∧ fr (F_X0_passOn s r) h h2 ∧ v = none ∧ ((∀ i : Nat, i < (rv h r 1).toInt.toNat → (rv h (s + 7) (rv h (r + 1) i).toInt.toNat).toInt = 0) → absX h2 s = paF (ctX h) (absX h s) ((r - 12) / 2) moved)) := by
      intro n51
      induction n51 with
      | zero => intro v51_6 h51 I51 f51 a51_6 b51_6 l51_0 w51_0 m51; exfalso; omega
      | succ n51 ih51 =>
        intro v51_6 h51 I51 f51 a51_6 b51_6 l51_0 w51_0 m51
        refine te_iload (p2 := 123) rfl rfl rfl ?_
        refine te_aload_n (p2 := 124) rfl rfl rfl ?_
        refine tg_e (p2 := 127) (i := r) (v := .int y1) rfl rfl I51 rfl (by rcases q_r with rfl | rfl | rfl | rfl <;> rfl) ((f51 _ _ (by rcases q_r with rfl | rfl | rfl | rfl <;> rcases q_s with rfl | rfl | rfl <;> rfl)).trans e1) ?_
        refine tb_ge (p2 := 130) rfl rfl rfl rfl (fun c52 => ?_) (fun c52 => ?_)
        · exact te_vret rfl rfl ⟨I51, f51, rfl, (fun al => by rw [w51_0 al]; unfold paF; rw [(hnX q_r).1, rv_of e1, show v51_6.toInt.toNat = y1.toInt.toNat by omega])⟩
        · refine te_aload_n (p2 := 131) rfl rfl rfl ?_
          refine tg_r (p2 := 134) (i := r) (r := (16 + (r + 1))) rfl rfl I51 rfl (by rcases q_r with rfl | rfl | rfl | rfl <;> rfl) (by rcases q_r with rfl | rfl | rfl | rfl <;> rfl) ?_
          refine te_iload (p2 := 136) rfl rfl rfl ?_
          refine tl_i (p2 := 137) (i := (r + 1)) (n := 8) rfl rfl I51 rfl (by rcases q_r with rfl | rfl | rfl | rfl <;> rfl) (by rcases q_r with rfl | rfl | rfl | rfl <;> rfl) rfl (by omega) (by omega) (fun y53 a53 b53 g53 e53 => ?_)
          refine te_istore (p2 := 139) (lv2 := [(7, .int y53), (0, .ref 17), (1, .ref (16 + s)), (2, .ref (16 + r)), (3, .int moved), (4, .int z4), (5, .int y5), (6, .int v51_6)]) rfl rfl (by decide) rfl ?_
          refine te_aload_n (p2 := 140) rfl rfl rfl ?_
          refine tg_r (p2 := 143) (i := s) (r := (16 + (s + 5))) rfl rfl I51 rfl (by rcases q_s with rfl | rfl | rfl <;> rfl) (by rcases q_s with rfl | rfl | rfl <;> rfl) ?_
          refine te_iload (p2 := 145) rfl rfl rfl ?_
          refine te_dup2 (p2 := 146) rfl rfl ⟨rfl, rfl⟩ ?_
          refine tl_i (p2 := 147) (i := (s + 5)) (n := 24) rfl rfl I51 rfl (by rcases q_s with rfl | rfl | rfl <;> rfl) (by rcases q_s with rfl | rfl | rfl <;> rfl) rfl (by omega) (by omega) (fun y54 a54 b54 g54 e54 => ?_)
          refine te_aload_n (p2 := 148) rfl rfl rfl ?_
          refine te_aload_n (p2 := 149) rfl rfl rfl ?_
          refine te_iload (p2 := 151) rfl rfl rfl ?_
          refine te_iconst (p2 := 152) (x := 0) rfl rfl (by decide) ?_
          refine tc_V (p2 := 155) (i := 1) rfl rfl rfl rfl I51 rfl rfl rfl (d_X0_said (s := s) (p := y53) (key := 0) I51 q_s (by omega) (by omega)) (by decide) (fun v55 h55 hq55 => ?_)
          obtain ⟨I55, g55, y55, w55, Q55⟩ := hq55
          subst w55
          have f55 := fr_tr (F1 := F_X0_said) (F := (F_X0_passOn s r)) f51 g55 (by rcases q_s with rfl | rfl | rfl <;> rcases q_r with rfl | rfl | rfl | rfl <;> decide)
          show EvP _ _ _ (155, [(7, .int y53), (0, .ref 17), (1, .ref (16 + s)), (2, .ref (16 + r)), (3, .int moved), (4, .int z4), (5, .int y5), (6, .int v51_6)], [.int y55, .int y54, .int y53, .ref (16 + (s + 5))], h55) _
          refine te_bipush (p2 := 157) (x := 14) rfl rfl (by decide) ?_
          refine ar_min (p2 := 160) rfl rfl rfl rfl (show Int32.toInt 14 = 14 from rfl) (fun z56 e56 f56 => ?_)
          refine au_add (p2 := 161) rfl rfl (fun z57 e57 => ?_)
          refine ts_i (p2 := 162) (i := (s + 5)) (n := 24) rfl rfl I55 rfl (by rcases q_s with rfl | rfl | rfl <;> rfl) (by rcases q_s with rfl | rfl | rfl <;> rfl) rfl (by omega) (by omega) (i32_lo _) (i32_hi _) (i32_ho _) (by rcases q_s with rfl | rfl | rfl <;> rfl) (fun h58 I58 u58 => ?_)
          have f58 := fr_st (F := (F_X0_passOn s r)) 2 f55 u58 rfl (by omega) (by omega)
          refine ar_inc (p2 := 165) (x := v51_6) rfl rfl (by decide) rfl (by decide) rfl (by omega) (by omega) (fun z59 e59 f59 => ?_)
          show EvP _ _ _ (165, [(6, .int z59), (7, .int y53), (0, .ref 17), (1, .ref (16 + s)), (2, .ref (16 + r)), (3, .int moved), (4, .int z4), (5, .int y5)], [], h58) _
          refine te_goto rfl ?_
          refine te_lv [(0, .ref 17), (1, .ref (16 + s)), (2, .ref (16 + r)), (3, .int moved), (4, .int z4), (5, .int y5), (6, .int z59)] rfl rfl ⟨rfl, rfl, rfl, rfl, rfl, rfl, rfl, trivial⟩ ?_
          exact ih51 z59 h58 I58 f58 (by omega) (by omega) (by omega) (fun al => by rw [show z59.toInt.toNat = v51_6.toInt.toNat + 1 by omega]; exact wkXs (show ctX h51 = ctX h from ctX_fr f51 (by rcases q_s with rfl | rfl | rfl <;> rfl)) (absX_fr g55 (fun q hq => by (simp only [List.mem_cons, List.not_mem_nil, or_false] at hq); subst hq; omega)) u58 (by omega) (by rw [hdX q_r (by omega), (show rv h (r + 1) v51_6.toInt.toNat = y53 from rv_of ((f51 _ _ (by rcases q_s with rfl | rfl | rfl <;> rcases q_r with rfl | rfl | rfl | rfl <;> rfl)).symm.trans e53))]) (Q55 (by rw [rv_q (show rd h51 (s + 7) y53.toInt.toNat = rd h (s + 7) y53.toInt.toNat from f51 _ _ (by rcases q_s with rfl | rfl | rfl <;> rfl))]; (have h9 := al v51_6.toInt.toNat (by rw [rv_of e1]; omega)); rw [(show rv h (r + 1) v51_6.toInt.toNat = y53 from rv_of ((f51 _ _ (by rcases q_s with rfl | rfl | rfl <;> rcases q_r with rfl | rfl | rfl | rfl <;> rfl)).symm.trans e53))] at h9; exact h9)) (mn14_e (by omega)) (rv_of e54) e57 (w51_0 al)) (by omega)
    refine te_lv [(0, .ref 17), (1, .ref (16 + s)), (2, .ref (16 + r)), (3, .int moved), (4, .int z4), (5, .int y5), (6, .int 0)] rfl rfl ⟨rfl, rfl, rfl, rfl, rfl, rfl, rfl, trivial⟩ ?_
    exact lp51 9 0 h50 I50 f50 (by decide) (by decide) (by have cc0 := (show Int32.toInt 0 = 0 from rfl); omega) (fun _ => hB) (by have cc0 := (show Int32.toInt 0 = 0 from rfl); omega)
theorem hd0X {h : im_H} (hI : tI h) {r : Nat} : ∀ i, 0 ≤ ((ctX h).hd r i).toInt := by
  intro i
  show 0 ≤ (if r < 4 ∧ i < 8 then rv h (13 + 2 * r) i else 0 : Int32).toInt
  by_cases hc : r < 4 ∧ i < 8
  · rw [if_pos hc]
    rcases (show r = 0 ∨ r = 1 ∨ r = 2 ∨ r = 3 by omega) with rfl | rfl | rfl | rfl
    · obtain ⟨_, e, y, w, a, _⟩ := hI.2.1 13 i (.inl (0, 23, 9999999999)) (tq_row rfl (by omega)); subst w; rw [show 13 + 2 * 0 = 13 from rfl, rv_of e]; exact a
    · obtain ⟨_, e, y, w, a, _⟩ := hI.2.1 15 i (.inl (0, 23, 9999999999)) (tq_row rfl (by omega)); subst w; rw [show 13 + 2 * 1 = 15 from rfl, rv_of e]; exact a
    · obtain ⟨_, e, y, w, a, _⟩ := hI.2.1 17 i (.inl (0, 23, 9999999999)) (tq_row rfl (by omega)); subst w; rw [show 13 + 2 * 2 = 17 from rfl, rv_of e]; exact a
    · obtain ⟨_, e, y, w, a, _⟩ := hI.2.1 19 i (.inl (0, 23, 9999999999)) (tq_row rfl (by omega)); subst w; rw [show 13 + 2 * 3 = 19 from rfl, rv_of e]; exact a
  · rw [if_neg hc]; decide
theorem hb23 {h : im_H} (hI : tI h) {r : Nat} : ∀ i, 0 ≤ ((ctX h).hd r i).toInt ∧ ((ctX h).hd r i).toInt ≤ 23 := by
  intro i
  show 0 ≤ (if r < 4 ∧ i < 8 then rv h (13 + 2 * r) i else 0 : Int32).toInt ∧ (if r < 4 ∧ i < 8 then rv h (13 + 2 * r) i else 0 : Int32).toInt ≤ 23
  by_cases hc : r < 4 ∧ i < 8
  · rw [if_pos hc]
    rcases (show r = 0 ∨ r = 1 ∨ r = 2 ∨ r = 3 by omega) with rfl | rfl | rfl | rfl
    · obtain ⟨_, e, y, w, a, b, _⟩ := hI.2.1 13 i (.inl (0, 23, 9999999999)) (tq_row rfl (by omega)); subst w; rw [show 13 + 2 * 0 = 13 from rfl, rv_of e]; exact ⟨a, b⟩
    · obtain ⟨_, e, y, w, a, b, _⟩ := hI.2.1 15 i (.inl (0, 23, 9999999999)) (tq_row rfl (by omega)); subst w; rw [show 13 + 2 * 1 = 15 from rfl, rv_of e]; exact ⟨a, b⟩
    · obtain ⟨_, e, y, w, a, b, _⟩ := hI.2.1 17 i (.inl (0, 23, 9999999999)) (tq_row rfl (by omega)); subst w; rw [show 13 + 2 * 2 = 17 from rfl, rv_of e]; exact ⟨a, b⟩
    · obtain ⟨_, e, y, w, a, b, _⟩ := hI.2.1 19 i (.inl (0, 23, 9999999999)) (tq_row rfl (by omega)); subst w; rw [show 13 + 2 * 3 = 19 from rfl, rv_of e]; exact ⟨a, b⟩
  · rw [if_neg hc]; decide
set_option maxRecDepth 20000 in
set_option maxHeartbeats 4000000 in
theorem c_X0_workRow {s : Nat} {rr : Int32} {h : im_H} (hI : tI h) (q_s : s = 23 ∨ s = 37 ∨ s = 51) (p_rr0 : 0 ≤ rr.toInt) (p_rr1 : rr.toInt ≤ 3) : CaP 4 8 [.ref 17, .ref (16 + s), .int rr] h (fun v h2 => tI h2 ∧ fr (F_X0_workRow s) h h2 ∧ v = none ∧ absX h2 s = roF (ctX h) (absX h s) rr.toInt.toNat) := by
  refine cap_of (d := 3) (M := mX0_workRow) rfl (Nat.le_of_ble_eq_true rfl) ?_
  show EvP im_K0 3 mX0_workRow (0, [(0, .ref 17), (1, .ref (16 + s)), (2, .int rr)], [], h) _
  have f0 : fr (F_X0_workRow s) h h := fr_rf
  refine te_aload_n (p2 := 1) rfl rfl rfl ?_
  refine tg_r (p2 := 4) (i := 1) (r := 23) rfl rfl hI rfl rfl rfl ?_
  refine te_iload_n (p2 := 5) rfl rfl rfl ?_
  refine tl_f (p2 := 6) (i := 7) (n := 4) (c0 := 12) (sp := 2) rfl rfl hI rfl rfl (by decide) rq_7 (by omega) (by omega) (fun o1 w1 => ?_)
  have q1 : o1 = 12 ∨ o1 = 14 ∨ o1 = 16 ∨ o1 = 18 := by omega
  have ho : (o1 - 12) / 2 = rr.toInt.toNat := by omega
  obtain ⟨v2, e2, y2, w2, a2, b2, _⟩ := hI.2.1 o1 1 (.inl (0, 8, 9999999999)) (by rcases q1 with rfl | rfl | rfl | rfl <;> rfl)
  subst w2
  obtain ⟨v3, e3, y3, w3, a3, b3, _⟩ := hI.2.1 o1 2 (.inl (0, 99, 9999999999)) (by rcases q1 with rfl | rfl | rfl | rfl <;> rfl)
  subst w3
  have hn := hnX (h := h) q1
  rw [ho] at hn
  refine te_astore_n (p2 := 7) (lv2 := [(3, .ref (16 + o1)), (0, .ref 17), (1, .ref (16 + s)), (2, .int rr)]) rfl rfl (by decide) rfl ?_
  refine te_aload_n (p2 := 8) rfl rfl rfl ?_
  refine tg_r (p2 := 11) (i := s) (r := (16 + (s + 11))) rfl rfl hI rfl (by rcases q_s with rfl | rfl | rfl <;> rfl) (by rcases q_s with rfl | rfl | rfl <;> rfl) ?_
  refine te_iload_n (p2 := 12) rfl rfl rfl ?_
  refine te_iconst (p2 := 13) (x := 0) rfl rfl (by decide) ?_
  refine ts_i (p2 := 14) (i := (s + 11)) (n := 4) rfl rfl hI rfl (by rcases q_s with rfl | rfl | rfl <;> rfl) (by rcases q_s with rfl | rfl | rfl <;> rfl) rfl (by omega) (by omega) (i32_lo _) (i32_hi _) (i32_ho _) (by rcases q_s with rfl | rfl | rfl <;> rfl) (fun h4 I4 u4 => ?_)
  have f4 := fr_st (F := (F_X0_workRow s)) 1 f0 u4 rfl (by omega) (by omega)
  refine te_aload_n (p2 := 15) rfl rfl rfl ?_
  refine tg_r (p2 := 18) (i := s) (r := (16 + (s + 12))) rfl rfl I4 rfl (by rcases q_s with rfl | rfl | rfl <;> rfl) (by rcases q_s with rfl | rfl | rfl <;> rfl) ?_
  refine te_iload_n (p2 := 19) rfl rfl rfl ?_
  refine te_iconst (p2 := 20) (x := (-1)) rfl rfl (by decide) ?_
  refine ts_i (p2 := 21) (i := (s + 12)) (n := 4) rfl rfl I4 rfl (by rcases q_s with rfl | rfl | rfl <;> rfl) (by rcases q_s with rfl | rfl | rfl <;> rfl) rfl (by omega) (by omega) (i32_lo _) (i32_hi _) (i32_ho _) (by rcases q_s with rfl | rfl | rfl <;> rfl) (fun h5 I5 u5 => ?_)
  have f5 := fr_st (F := (F_X0_workRow s)) 2 f4 u5 rfl (by omega) (by omega)
  refine te_iconst (p2 := 22) (x := 0) rfl rfl (by decide) ?_
  refine te_istore (p2 := 24) (lv2 := [(4, .int 0), (3, .ref (16 + o1)), (0, .ref 17), (1, .ref (16 + s)), (2, .int rr)]) rfl rfl (by decide) rfl ?_
  refine te_iconst (p2 := 25) (x := 0) rfl rfl (by decide) ?_
  refine te_istore (p2 := 27) (lv2 := [(5, .int 0), (4, .int 0), (3, .ref (16 + o1)), (0, .ref 17), (1, .ref (16 + s)), (2, .int rr)]) rfl rfl (by decide) rfl ?_
  have lp6 : ∀ (n6 : Nat) (v6_4 v6_5 : Int32) (h6 : im_H), tI h6 → fr (F_X0_workRow s) h h6 → 0 ≤ v6_5.toInt → v6_5.toInt ≤ 8 → v6_5.toInt ≤ y2.toInt → (absX h6 s = roA (ctX h) (absX h s) rr.toInt.toNat v6_5.toInt.toNat) → (v6_4 = (lsF (ctX h) (absX h s) rr.toInt.toNat v6_5.toInt.toNat).2) → 8 - v6_5.toInt < (n6 : Int) → EvP im_K0 3 mX0_workRow (27, [(0, .ref 17), (1, .ref (16 + s)), (2, .int rr), (3, .ref (16 + o1)), (4, .int v6_4), (5, .int v6_5)], [], h6) (fun v h2 => tI h2 ∧ fr (F_X0_workRow s) h h2 ∧ v = none ∧ absX h2 s = roF (ctX h) (absX h s) rr.toInt.toNat) := by
    intro n6
    induction n6 with
    | zero => intro v6_4 v6_5 h6 I6 f6 a6_5 b6_5 l6_0 w6_0 w6_1 m6; exfalso; omega
    | succ n6 ih6 =>
      intro v6_4 v6_5 h6 I6 f6 a6_5 b6_5 l6_0 w6_0 w6_1 m6
      refine te_iload (p2 := 29) rfl rfl rfl ?_
      refine te_aload_n (p2 := 30) rfl rfl rfl ?_
      refine tg_e (p2 := 33) (i := o1) (v := .int y2) rfl rfl I6 rfl (by rcases q1 with rfl | rfl | rfl | rfl <;> rfl) ((f6 _ _ (by rcases q1 with rfl | rfl | rfl | rfl <;> rcases q_s with rfl | rfl | rfl <;> rfl)).trans e2) ?_
      refine tb_ge (p2 := 36) rfl rfl rfl rfl (fun c7 => ?_) (fun c7 => ?_)
      · refine te_iload (p2 := 87) rfl rfl rfl ?_
        refine te_aload_n (p2 := 88) rfl rfl rfl ?_
        refine tg_r (p2 := 91) (i := s) (r := (16 + (s + 2))) rfl rfl I6 rfl (by rcases q_s with rfl | rfl | rfl <;> rfl) (by rcases q_s with rfl | rfl | rfl <;> rfl) ?_
        refine te_aload_n (p2 := 92) rfl rfl rfl ?_
        refine tg_e (p2 := 95) (i := o1) (v := .int y3) rfl rfl I6 rfl (by rcases q1 with rfl | rfl | rfl | rfl <;> rfl) ((f6 _ _ (by rcases q1 with rfl | rfl | rfl | rfl <;> rcases q_s with rfl | rfl | rfl <;> rfl)).trans e3) ?_
        refine tl_i (p2 := 96) (i := (s + 2)) (n := 100) rfl rfl I6 rfl (by rcases q_s with rfl | rfl | rfl <;> rfl) (by rcases q_s with rfl | rfl | rfl <;> rfl) rfl (by omega) (by omega) (fun y8 a8 b8 g8 e8 => ?_)
        refine ar_min (p2 := 99) rfl rfl rfl rfl rfl (fun z9 e9 f9 => ?_)
        refine te_istore (p2 := 101) (lv2 := [(5, .int z9), (0, .ref 17), (1, .ref (16 + s)), (2, .int rr), (3, .ref (16 + o1)), (4, .int v6_4)]) rfl rfl (by decide) rfl ?_
        refine te_iload (p2 := 103) rfl rfl rfl ?_
        refine tz_le (p2 := 106) rfl rfl rfl (fun c10 => ?_) (fun c10 => ?_)
        · exact te_vret rfl rfl ⟨I6, f6, rfl, (by rw [w6_0]; exact ro_0 (show ((ctX h).hn rr.toInt.toNat).toInt.toNat = v6_5.toInt.toNat from (by rw [hn.1, rv_of e2]; omega)) (show z9 = mnI (lsF (ctX h) (absX h s) rr.toInt.toNat v6_5.toInt.toNat).2 ((absX h s).ld ((ctX h).hf rr.toInt.toNat).toInt.toNat) from (by rw [(show ((ctX h).hf rr.toInt.toNat).toInt.toNat = y3.toInt.toNat from (by rw [hn.2.1, rv_of e3])), (show (absX h s).ld y3.toInt.toNat = y8 from (by rw [show (absX h s).ld = (absX h6 s).ld from (by rw [w6_0]; rfl), aX_ld (by omega)]; exact rv_of e8)), ← w6_1]; exact mnI_e (by omega))) (by omega))⟩
        · refine te_aload_n (p2 := 107) rfl rfl rfl ?_
          refine te_aload_n (p2 := 108) rfl rfl rfl ?_
          refine te_aload_n (p2 := 109) rfl rfl rfl ?_
          refine te_iload (p2 := 111) rfl rfl rfl ?_
          refine tc_V (p2 := 114) (i := 1) rfl rfl rfl rfl I6 rfl rfl rfl (c_X0_passOn (s := s) (r := o1) (moved := z9) I6 q_s q1) (by decide) (fun v11 h11 hq11 => ?_)
          obtain ⟨I11, g11, w11, Q11⟩ := hq11
          subst w11
          have f11 := fr_tr (F1 := (F_X0_passOn s o1)) (F := (F_X0_workRow s)) f6 g11 (by rcases q_s with rfl | rfl | rfl <;> rcases q1 with rfl | rfl | rfl | rfl <;> decide)
          show EvP _ _ _ (114, [(5, .int z9), (0, .ref 17), (1, .ref (16 + s)), (2, .int rr), (3, .ref (16 + o1)), (4, .int v6_4)], [], h11) _
          refine te_aload_n (p2 := 115) rfl rfl rfl ?_
          refine tg_r (p2 := 118) (i := s) (r := (16 + (s + 11))) rfl rfl I11 rfl (by rcases q_s with rfl | rfl | rfl <;> rfl) (by rcases q_s with rfl | rfl | rfl <;> rfl) ?_
          refine te_iload_n (p2 := 119) rfl rfl rfl ?_
          refine te_iload (p2 := 121) rfl rfl rfl ?_
          refine ts_i (p2 := 122) (i := (s + 11)) (n := 4) rfl rfl I11 rfl (by rcases q_s with rfl | rfl | rfl <;> rfl) (by rcases q_s with rfl | rfl | rfl <;> rfl) rfl (by omega) (by omega) (i32_lo _) (i32_hi _) (i32_ho _) (by rcases q_s with rfl | rfl | rfl <;> rfl) (fun h12 I12 u12 => ?_)
          have f12 := fr_st (F := (F_X0_workRow s)) 1 f11 u12 rfl (by omega) (by omega)
          exact te_vret rfl rfl ⟨I12, f12, rfl, (by rw [xu_rl u12 (by omega)]; exact ro_1 (show ((ctX h).hn rr.toInt.toNat).toInt.toNat = v6_5.toInt.toNat from (by rw [hn.1, rv_of e2]; omega)) (show z9 = mnI (lsF (ctX h) (absX h s) rr.toInt.toNat v6_5.toInt.toNat).2 ((absX h s).ld ((ctX h).hf rr.toInt.toNat).toInt.toNat) from (by rw [(show ((ctX h).hf rr.toInt.toNat).toInt.toNat = y3.toInt.toNat from (by rw [hn.2.1, rv_of e3])), (show (absX h s).ld y3.toInt.toNat = y8 from (by rw [show (absX h s).ld = (absX h6 s).ld from (by rw [w6_0]; rfl), aX_ld (by omega)]; exact rv_of e8)), ← w6_1]; exact mnI_e (by omega))) (by omega) (show absX h11 s = paF (ctX h) (roA (ctX h) (absX h s) rr.toInt.toNat v6_5.toInt.toNat) rr.toInt.toNat z9 from (by rw [Q11 (fun i hi => by (have h8 : i < v6_5.toInt.toNat := by (rw [rv_q (show rd h6 o1 1 = rd h o1 1 from f6 _ _ (by rcases q_s with rfl | rfl | rfl <;> rcases q1 with rfl | rfl | rfl | rfl <;> rfl)), rv_of e2] at hi; omega)); (have h9 := ls_al (c := ctX h) (A := absX h s) (r := rr.toInt.toNat) (n := v6_5.toInt.toNat) (hd0X hI) (mnI_pos (show z9 = mnI (lsF (ctX h) (absX h s) rr.toInt.toNat v6_5.toInt.toNat).2 ((absX h s).ld ((ctX h).hf rr.toInt.toNat).toInt.toNat) from (by rw [(show ((ctX h).hf rr.toInt.toNat).toInt.toNat = y3.toInt.toNat from (by rw [hn.2.1, rv_of e3])), (show (absX h s).ld y3.toInt.toNat = y8 from (by rw [show (absX h s).ld = (absX h6 s).ld from (by rw [w6_0]; rfl), aX_ld (by omega)]; exact rv_of e8)), ← w6_1]; exact mnI_e (by omega))) (by omega)) h8); rw [show rv h6 (o1 + 1) i = (ctX h).hd rr.toInt.toNat i from (by rw [← ho, hdX q1 (by omega)]; exact rv_q (f6 _ _ (by rcases q_s with rfl | rfl | rfl <;> rcases q1 with rfl | rfl | rfl | rfl <;> rfl)))]; (have hb := hb23 (r := rr.toInt.toNat) hI i); rw [rv_q (show rd h6 (s + 7) _ = rd h (s + 7) _ from f6 _ _ (by rcases q_s with rfl | rfl | rfl <;> rfl)), ← aX_de (by omega)]; exact h9), ho, (show ctX h6 = ctX h from ctX_fr f6 (by rcases q_s with rfl | rfl | rfl <;> rfl)), w6_0])))⟩
      · refine te_aload_n (p2 := 37) rfl rfl rfl ?_
        refine te_aload_n (p2 := 38) rfl rfl rfl ?_
        refine te_aload_n (p2 := 39) rfl rfl rfl ?_
        refine tg_r (p2 := 42) (i := o1) (r := (16 + (o1 + 1))) rfl rfl I6 rfl (by rcases q1 with rfl | rfl | rfl | rfl <;> rfl) (by rcases q1 with rfl | rfl | rfl | rfl <;> rfl) ?_
        refine te_iload (p2 := 44) rfl rfl rfl ?_
        refine tl_i (p2 := 45) (i := (o1 + 1)) (n := 8) rfl rfl I6 rfl (by rcases q1 with rfl | rfl | rfl | rfl <;> rfl) (by rcases q1 with rfl | rfl | rfl | rfl <;> rfl) rfl (by omega) (by omega) (fun y13 a13 b13 g13 e13 => ?_)
        refine tc_V (p2 := 48) (i := 1) rfl rfl rfl rfl I6 rfl rfl rfl (c_X0_passes (s := s) (p := y13) I6 q_s (by omega) (by omega)) (by decide) (fun v14 h14 hq14 => ?_)
        obtain ⟨I14, g14, y14, w14, Q14⟩ := hq14
        subst w14
        have f14 := fr_tr (F1 := F_X0_passes) (F := (F_X0_workRow s)) f6 g14 (by rcases q_s with rfl | rfl | rfl <;> decide)
        show EvP _ _ _ (48, [(0, .ref 17), (1, .ref (16 + s)), (2, .int rr), (3, .ref (16 + o1)), (4, .int v6_4), (5, .int v6_5)], [.int y14], h14) _
        refine te_istore (p2 := 50) (lv2 := [(6, .int y14), (0, .ref 17), (1, .ref (16 + s)), (2, .int rr), (3, .ref (16 + o1)), (4, .int v6_4), (5, .int v6_5)]) rfl rfl (by decide) rfl ?_
        refine te_iload (p2 := 52) rfl rfl rfl ?_
        refine tz_eq (p2 := 55) rfl rfl rfl (fun c15 => ?_) (fun c15 => ?_)
        · refine te_iload (p2 := 64) rfl rfl rfl ?_
          refine te_istore (p2 := 66) (lv2 := [(4, .int y14), (6, .int y14), (0, .ref 17), (1, .ref (16 + s)), (2, .int rr), (3, .ref (16 + o1)), (5, .int v6_5)]) rfl rfl (by decide) rfl ?_
          refine te_aload_n (p2 := 67) rfl rfl rfl ?_
          refine tg_r (p2 := 70) (i := s) (r := (16 + (s + 12))) rfl rfl I14 rfl (by rcases q_s with rfl | rfl | rfl <;> rfl) (by rcases q_s with rfl | rfl | rfl <;> rfl) ?_
          refine te_iload_n (p2 := 71) rfl rfl rfl ?_
          refine te_aload_n (p2 := 72) rfl rfl rfl ?_
          refine tg_r (p2 := 75) (i := o1) (r := (16 + (o1 + 1))) rfl rfl I14 rfl (by rcases q1 with rfl | rfl | rfl | rfl <;> rfl) (by rcases q1 with rfl | rfl | rfl | rfl <;> rfl) ?_
          refine te_iload (p2 := 77) rfl rfl rfl ?_
          refine tl_e (p2 := 78) (i := (o1 + 1)) (n := 8) (t := 0) (Or.inl rfl) rfl rfl I14 rfl (by rcases q1 with rfl | rfl | rfl | rfl <;> rfl) (by omega) (by omega) ((g14 _ _ (by rcases q1 with rfl | rfl | rfl | rfl <;> rfl)).trans e13) ?_
          refine ts_i (p2 := 79) (i := (s + 12)) (n := 4) rfl rfl I14 rfl (by rcases q_s with rfl | rfl | rfl <;> rfl) (by rcases q_s with rfl | rfl | rfl <;> rfl) rfl (by omega) (by omega) (i32_lo _) (i32_hi _) (i32_ho _) (by rcases q_s with rfl | rfl | rfl <;> rfl) (fun h17 I17 u17 => ?_)
          have f17 := fr_st (F := (F_X0_workRow s)) 2 f14 u17 rfl (by omega) (by omega)
          refine ar_inc (p2 := 82) (x := v6_5) rfl rfl (by decide) rfl (by decide) rfl (by omega) (by omega) (fun z18 e18 f18 => ?_)
          show EvP _ _ _ (82, [(5, .int z18), (4, .int y14), (6, .int y14), (0, .ref 17), (1, .ref (16 + s)), (2, .int rr), (3, .ref (16 + o1))], [], h17) _
          refine te_goto rfl ?_
          refine te_lv [(0, .ref 17), (1, .ref (16 + s)), (2, .int rr), (3, .ref (16 + o1)), (4, .int y14), (5, .int z18)] rfl rfl ⟨rfl, rfl, rfl, rfl, rfl, rfl, trivial⟩ ?_
          exact ih6 y14 z18 h17 I17 f17 (by omega) (by omega) (by omega) (by rw [show z18.toInt.toNat = v6_5.toInt.toNat + 1 by omega, xu_rs u17 (by omega), (show absX h14 s = absX h6 s from absX_fr g14 (fun q hq => by (simp only [List.mem_cons, List.not_mem_nil, or_false] at hq); subst hq; omega)), w6_0]; exact roA_y (by rw [(ro_y (i := v6_5.toInt.toNat) w6_1 (show y14 = psF (ctX h) (absX h s) ((ctX h).hd rr.toInt.toNat v6_5.toInt.toNat).toInt.toNat from (by rw [(show (ctX h).hd rr.toInt.toNat v6_5.toInt.toNat = y13 from (by rw [← ho, hdX q1 (by omega)]; exact rv_of ((f6 _ _ (by rcases q_s with rfl | rfl | rfl <;> rcases q1 with rfl | rfl | rfl | rfl <;> rfl)).symm.trans e13))), Q14, (show ctX h6 = ctX h from ctX_fr f6 (by rcases q_s with rfl | rfl | rfl <;> rfl)), w6_0]; rfl)) (by omega)).2, (show (ctX h).hd rr.toInt.toNat v6_5.toInt.toNat = y13 from (by rw [← ho, hdX q1 (by omega)]; exact rv_of ((f6 _ _ (by rcases q_s with rfl | rfl | rfl <;> rcases q1 with rfl | rfl | rfl | rfl <;> rfl)).symm.trans e13)))])) (by rw [show z18.toInt.toNat = v6_5.toInt.toNat + 1 by omega]; exact (ro_y (i := v6_5.toInt.toNat) w6_1 (show y14 = psF (ctX h) (absX h s) ((ctX h).hd rr.toInt.toNat v6_5.toInt.toNat).toInt.toNat from (by rw [(show (ctX h).hd rr.toInt.toNat v6_5.toInt.toNat = y13 from (by rw [← ho, hdX q1 (by omega)]; exact rv_of ((f6 _ _ (by rcases q_s with rfl | rfl | rfl <;> rcases q1 with rfl | rfl | rfl | rfl <;> rfl)).symm.trans e13))), Q14, (show ctX h6 = ctX h from ctX_fr f6 (by rcases q_s with rfl | rfl | rfl <;> rfl)), w6_0]; rfl)) (by omega)).1) (by omega)
        · refine te_iload (p2 := 57) rfl rfl rfl ?_
          refine te_iload (p2 := 59) rfl rfl rfl ?_
          refine tb_ge (p2 := 62) rfl rfl rfl rfl (fun c19 => ?_) (fun c19 => ?_)
          · refine ar_inc (p2 := 82) (x := v6_5) rfl rfl (by decide) rfl (by decide) rfl (by omega) (by omega) (fun z20 e20 f20 => ?_)
            show EvP _ _ _ (82, [(5, .int z20), (6, .int y14), (0, .ref 17), (1, .ref (16 + s)), (2, .int rr), (3, .ref (16 + o1)), (4, .int v6_4)], [], h14) _
            refine te_goto rfl ?_
            refine te_lv [(0, .ref 17), (1, .ref (16 + s)), (2, .int rr), (3, .ref (16 + o1)), (4, .int v6_4), (5, .int z20)] rfl rfl ⟨rfl, rfl, rfl, rfl, rfl, rfl, trivial⟩ ?_
            exact ih6 v6_4 z20 h14 I14 f14 (by omega) (by omega) (by omega) (by rw [show z20.toInt.toNat = v6_5.toInt.toNat + 1 by omega, (show absX h14 s = absX h6 s from absX_fr g14 (fun q hq => by (simp only [List.mem_cons, List.not_mem_nil, or_false] at hq); subst hq; omega)), w6_0]; exact roA_n (ro_n (hd0X hI) w6_1 (show y14 = psF (ctX h) (absX h s) ((ctX h).hd rr.toInt.toNat v6_5.toInt.toNat).toInt.toNat from (by rw [(show (ctX h).hd rr.toInt.toNat v6_5.toInt.toNat = y13 from (by rw [← ho, hdX q1 (by omega)]; exact rv_of ((f6 _ _ (by rcases q_s with rfl | rfl | rfl <;> rcases q1 with rfl | rfl | rfl | rfl <;> rfl)).symm.trans e13))), Q14, (show ctX h6 = ctX h from ctX_fr f6 (by rcases q_s with rfl | rfl | rfl <;> rfl)), w6_0]; rfl)) (by omega) (by omega))) (by rw [show z20.toInt.toNat = v6_5.toInt.toNat + 1 by omega, ro_n (hd0X hI) w6_1 (show y14 = psF (ctX h) (absX h s) ((ctX h).hd rr.toInt.toNat v6_5.toInt.toNat).toInt.toNat from (by rw [(show (ctX h).hd rr.toInt.toNat v6_5.toInt.toNat = y13 from (by rw [← ho, hdX q1 (by omega)]; exact rv_of ((f6 _ _ (by rcases q_s with rfl | rfl | rfl <;> rcases q1 with rfl | rfl | rfl | rfl <;> rfl)).symm.trans e13))), Q14, (show ctX h6 = ctX h from ctX_fr f6 (by rcases q_s with rfl | rfl | rfl <;> rfl)), w6_0]; rfl)) (by omega) (by omega)]; exact w6_1) (by omega)
          · refine te_iload (p2 := 64) rfl rfl rfl ?_
            refine te_istore (p2 := 66) (lv2 := [(4, .int y14), (6, .int y14), (0, .ref 17), (1, .ref (16 + s)), (2, .int rr), (3, .ref (16 + o1)), (5, .int v6_5)]) rfl rfl (by decide) rfl ?_
            refine te_aload_n (p2 := 67) rfl rfl rfl ?_
            refine tg_r (p2 := 70) (i := s) (r := (16 + (s + 12))) rfl rfl I14 rfl (by rcases q_s with rfl | rfl | rfl <;> rfl) (by rcases q_s with rfl | rfl | rfl <;> rfl) ?_
            refine te_iload_n (p2 := 71) rfl rfl rfl ?_
            refine te_aload_n (p2 := 72) rfl rfl rfl ?_
            refine tg_r (p2 := 75) (i := o1) (r := (16 + (o1 + 1))) rfl rfl I14 rfl (by rcases q1 with rfl | rfl | rfl | rfl <;> rfl) (by rcases q1 with rfl | rfl | rfl | rfl <;> rfl) ?_
            refine te_iload (p2 := 77) rfl rfl rfl ?_
            refine tl_e (p2 := 78) (i := (o1 + 1)) (n := 8) (t := 0) (Or.inl rfl) rfl rfl I14 rfl (by rcases q1 with rfl | rfl | rfl | rfl <;> rfl) (by omega) (by omega) ((g14 _ _ (by rcases q1 with rfl | rfl | rfl | rfl <;> rfl)).trans e13) ?_
            refine ts_i (p2 := 79) (i := (s + 12)) (n := 4) rfl rfl I14 rfl (by rcases q_s with rfl | rfl | rfl <;> rfl) (by rcases q_s with rfl | rfl | rfl <;> rfl) rfl (by omega) (by omega) (i32_lo _) (i32_hi _) (i32_ho _) (by rcases q_s with rfl | rfl | rfl <;> rfl) (fun h22 I22 u22 => ?_)
            have f22 := fr_st (F := (F_X0_workRow s)) 2 f14 u22 rfl (by omega) (by omega)
            refine ar_inc (p2 := 82) (x := v6_5) rfl rfl (by decide) rfl (by decide) rfl (by omega) (by omega) (fun z23 e23 f23 => ?_)
            show EvP _ _ _ (82, [(5, .int z23), (4, .int y14), (6, .int y14), (0, .ref 17), (1, .ref (16 + s)), (2, .int rr), (3, .ref (16 + o1))], [], h22) _
            refine te_goto rfl ?_
            refine te_lv [(0, .ref 17), (1, .ref (16 + s)), (2, .int rr), (3, .ref (16 + o1)), (4, .int y14), (5, .int z23)] rfl rfl ⟨rfl, rfl, rfl, rfl, rfl, rfl, trivial⟩ ?_
            exact ih6 y14 z23 h22 I22 f22 (by omega) (by omega) (by omega) (by rw [show z23.toInt.toNat = v6_5.toInt.toNat + 1 by omega, xu_rs u22 (by omega), (show absX h14 s = absX h6 s from absX_fr g14 (fun q hq => by (simp only [List.mem_cons, List.not_mem_nil, or_false] at hq); subst hq; omega)), w6_0]; exact roA_y (by rw [(ro_y (i := v6_5.toInt.toNat) w6_1 (show y14 = psF (ctX h) (absX h s) ((ctX h).hd rr.toInt.toNat v6_5.toInt.toNat).toInt.toNat from (by rw [(show (ctX h).hd rr.toInt.toNat v6_5.toInt.toNat = y13 from (by rw [← ho, hdX q1 (by omega)]; exact rv_of ((f6 _ _ (by rcases q_s with rfl | rfl | rfl <;> rcases q1 with rfl | rfl | rfl | rfl <;> rfl)).symm.trans e13))), Q14, (show ctX h6 = ctX h from ctX_fr f6 (by rcases q_s with rfl | rfl | rfl <;> rfl)), w6_0]; rfl)) (by omega)).2, (show (ctX h).hd rr.toInt.toNat v6_5.toInt.toNat = y13 from (by rw [← ho, hdX q1 (by omega)]; exact rv_of ((f6 _ _ (by rcases q_s with rfl | rfl | rfl <;> rcases q1 with rfl | rfl | rfl | rfl <;> rfl)).symm.trans e13)))])) (by rw [show z23.toInt.toNat = v6_5.toInt.toNat + 1 by omega]; exact (ro_y (i := v6_5.toInt.toNat) w6_1 (show y14 = psF (ctX h) (absX h s) ((ctX h).hd rr.toInt.toNat v6_5.toInt.toNat).toInt.toNat from (by rw [(show (ctX h).hd rr.toInt.toNat v6_5.toInt.toNat = y13 from (by rw [← ho, hdX q1 (by omega)]; exact rv_of ((f6 _ _ (by rcases q_s with rfl | rfl | rfl <;> rcases q1 with rfl | rfl | rfl | rfl <;> rfl)).symm.trans e13))), Q14, (show ctX h6 = ctX h from ctX_fr f6 (by rcases q_s with rfl | rfl | rfl <;> rfl)), w6_0]; rfl)) (by omega)).1) (by omega)
  refine te_lv [(0, .ref 17), (1, .ref (16 + s)), (2, .int rr), (3, .ref (16 + o1)), (4, .int 0), (5, .int 0)] rfl rfl ⟨rfl, rfl, rfl, rfl, rfl, rfl, trivial⟩ ?_
  exact lp6 9 0 0 h5 I5 f5 (by decide) (by decide) (by have cc0 := (show Int32.toInt 0 = 0 from rfl); omega) (by rw [xu_rs u5 (by omega), xu_rl u4 (by omega)]; rfl) rfl (by have cc0 := (show Int32.toInt 0 = 0 from rfl); omega)
set_option maxRecDepth 20000 in
set_option maxHeartbeats 4000000 in
theorem c_X0_driveRail {s : Nat} {rr : Int32} {h : im_H} (hI : tI h) (q_s : s = 23 ∨ s = 37 ∨ s = 51) (p_rr0 : 0 ≤ rr.toInt) (p_rr1 : rr.toInt ≤ 2) : CaP 2 11 [.ref 17, .ref (16 + s), .int rr] h (fun v h2 => tI h2 ∧ fr (F_X0_driveRail s) h h2 ∧ v = none ∧ absX h2 s = raF (ctX h) (absX h s) rr.toInt.toNat) := by
  refine cap_of (d := 1) (M := mX0_driveRail) rfl (Nat.le_of_ble_eq_true rfl) ?_
  show EvP im_K0 1 mX0_driveRail (0, [(0, .ref 17), (1, .ref (16 + s)), (2, .int rr)], [], h) _
  have f0 : fr (F_X0_driveRail s) h h := fr_rf
  refine te_aload_n (p2 := 1) rfl rfl rfl ?_
  refine tg_r (p2 := 4) (i := 1) (r := 24) rfl rfl hI rfl rfl rfl ?_
  refine te_iload_n (p2 := 5) rfl rfl rfl ?_
  refine tl_f (p2 := 6) (i := 8) (n := 3) (c0 := 20) (sp := 1) rfl rfl hI rfl rfl (by decide) rq_8 (by omega) (by omega) (fun o1 w1 => ?_)
  have q1 : o1 = 20 ∨ o1 = 21 ∨ o1 = 22 := by omega
  have ho : o1 = 20 + rr.toInt.toNat := by omega
  obtain ⟨v2, e2, y2, w2, a2, b2, _⟩ := hI.2.1 o1 0 (.inl (0, 12, 9999999999)) (by rcases q1 with rfl | rfl | rfl <;> rfl)
  subst w2
  obtain ⟨v3, e3, y3, w3, a3, b3, _⟩ := hI.2.1 o1 1 (.inl ((-2147483648), 2147483647, 9999999999)) (by rcases q1 with rfl | rfl | rfl <;> rfl)
  subst w3
  obtain ⟨v4, e4, y4, w4, a4, b4, _⟩ := hI.2.1 o1 2 (.inl (0, 99, 9999999999)) (by rcases q1 with rfl | rfl | rfl <;> rfl)
  subst w4
  obtain ⟨v5, e5, y5, w5, a5, b5, _⟩ := hI.2.1 o1 3 (.inl (0, 99, 9999999999)) (by rcases q1 with rfl | rfl | rfl <;> rfl)
  subst w5
  have wn := wnX (h := h) (r := rr.toInt.toNat) (by omega)
  rw [← ho] at wn
  refine te_astore_n (p2 := 7) (lv2 := [(3, .ref (16 + o1)), (0, .ref 17), (1, .ref (16 + s)), (2, .int rr)]) rfl rfl (by decide) rfl ?_
  refine te_aload_n (p2 := 8) rfl rfl rfl ?_
  refine tg_r (p2 := 11) (i := s) (r := (16 + (s + 13))) rfl rfl hI rfl (by rcases q_s with rfl | rfl | rfl <;> rfl) (by rcases q_s with rfl | rfl | rfl <;> rfl) ?_
  refine te_iload_n (p2 := 12) rfl rfl rfl ?_
  refine te_iconst (p2 := 13) (x := 0) rfl rfl (by decide) ?_
  refine ts_i (p2 := 14) (i := (s + 13)) (n := 3) rfl rfl hI rfl (by rcases q_s with rfl | rfl | rfl <;> rfl) (by rcases q_s with rfl | rfl | rfl <;> rfl) rfl (by omega) (by omega) (i32_lo _) (i32_hi _) (i32_ho _) (by rcases q_s with rfl | rfl | rfl <;> rfl) (fun h6 I6 u6 => ?_)
  have f6 := fr_st (F := (F_X0_driveRail s)) 0 f0 u6 rfl (by omega) (by omega)
  refine te_aload_n (p2 := 15) rfl rfl rfl ?_
  refine tg_e (p2 := 18) (i := o1) (v := .int y2) rfl rfl I6 rfl (by rcases q1 with rfl | rfl | rfl <;> rfl) ((u6.2 _ _ (Or.inl (by omega))).trans e2) ?_
  refine te_iconst (p2 := 19) (x := 2) rfl rfl (by decide) ?_
  refine tb_ge (p2 := 22) rfl rfl rfl (show Int32.toInt 2 = 2 from rfl) (fun c7 => ?_) (fun c7 => ?_)
  · refine te_bipush (p2 := 25) (x := 60) rfl rfl (by decide) ?_
    refine te_aload_n (p2 := 26) rfl rfl rfl ?_
    refine tg_e (p2 := 29) (i := o1) (v := .int y3) rfl rfl I6 rfl (by rcases q1 with rfl | rfl | rfl <;> rfl) ((u6.2 _ _ (Or.inl (by omega))).trans e3) ?_
    refine au_mul (p2 := 30) rfl rfl (fun z8 e8 => ?_)
    refine te_aload_n (p2 := 31) rfl rfl rfl ?_
    refine tg_e (p2 := 34) (i := o1) (v := .int y2) rfl rfl I6 rfl (by rcases q1 with rfl | rfl | rfl <;> rfl) ((u6.2 _ _ (Or.inl (by omega))).trans e2) ?_
    refine te_iconst (p2 := 35) (x := 1) rfl rfl (by decide) ?_
    refine ar_sub (p2 := 36) rfl rfl rfl (show Int32.toInt 1 = 1 from rfl) (by omega) (by omega) (fun z9 e9 f9 => ?_)
    refine au_div (p2 := 37) rfl rfl rfl (by omega) (fun z10 e10 => ?_)
    refine te_aload_n (p2 := 38) rfl rfl rfl ?_
    refine tg_r (p2 := 41) (i := s) (r := (16 + (s + 2))) rfl rfl I6 rfl (by rcases q_s with rfl | rfl | rfl <;> rfl) (by rcases q_s with rfl | rfl | rfl <;> rfl) ?_
    refine te_aload_n (p2 := 42) rfl rfl rfl ?_
    refine tg_e (p2 := 45) (i := o1) (v := .int y4) rfl rfl I6 rfl (by rcases q1 with rfl | rfl | rfl <;> rfl) ((u6.2 _ _ (Or.inl (by omega))).trans e4) ?_
    refine tl_i (p2 := 46) (i := (s + 2)) (n := 100) rfl rfl I6 rfl (by rcases q_s with rfl | rfl | rfl <;> rfl) (by rcases q_s with rfl | rfl | rfl <;> rfl) rfl (by omega) (by omega) (fun y11 a11 b11 g11 e11 => ?_)
    refine ar_min (p2 := 49) rfl rfl rfl rfl rfl (fun z12 e12 f12 => ?_)
    refine te_istore (p2 := 51) (lv2 := [(4, .int z12), (3, .ref (16 + o1)), (0, .ref 17), (1, .ref (16 + s)), (2, .int rr)]) rfl rfl (by decide) rfl ?_
    refine te_aload_n (p2 := 52) rfl rfl rfl ?_
    refine tg_r (p2 := 55) (i := s) (r := (16 + (s + 13))) rfl rfl I6 rfl (by rcases q_s with rfl | rfl | rfl <;> rfl) (by rcases q_s with rfl | rfl | rfl <;> rfl) ?_
    refine te_iload_n (p2 := 56) rfl rfl rfl ?_
    refine te_iload (p2 := 58) rfl rfl rfl ?_
    refine ts_i (p2 := 59) (i := (s + 13)) (n := 3) rfl rfl I6 rfl (by rcases q_s with rfl | rfl | rfl <;> rfl) (by rcases q_s with rfl | rfl | rfl <;> rfl) rfl (by omega) (by omega) (i32_lo _) (i32_hi _) (i32_ho _) (by rcases q_s with rfl | rfl | rfl <;> rfl) (fun h13 I13 u13 => ?_)
    have f13 := fr_st (F := (F_X0_driveRail s)) 0 f6 u13 rfl (by omega) (by omega)
    refine te_aload_n (p2 := 60) rfl rfl rfl ?_
    refine tg_r (p2 := 63) (i := s) (r := (16 + (s + 2))) rfl rfl I13 rfl (by rcases q_s with rfl | rfl | rfl <;> rfl) (by rcases q_s with rfl | rfl | rfl <;> rfl) ?_
    refine te_aload_n (p2 := 64) rfl rfl rfl ?_
    refine tg_e (p2 := 67) (i := o1) (v := .int y4) rfl rfl I13 rfl (by rcases q1 with rfl | rfl | rfl <;> rfl) ((u13.2 _ _ (Or.inl (by omega))).trans ((u6.2 _ _ (Or.inl (by omega))).trans e4)) ?_
    refine te_dup2 (p2 := 68) rfl rfl ⟨rfl, rfl⟩ ?_
    refine tl_e (p2 := 69) (i := (s + 2)) (n := 100) (t := 0) (Or.inl rfl) rfl rfl I13 rfl (by rcases q_s with rfl | rfl | rfl <;> rfl) (by omega) (by omega) ((u13.2 _ _ (Or.inl (by omega))).trans e11) ?_
    refine te_iload (p2 := 71) rfl rfl rfl ?_
    refine au_sub (p2 := 72) rfl rfl (fun z15 e15 => ?_)
    refine ts_i (p2 := 73) (i := (s + 2)) (n := 100) rfl rfl I13 rfl (by rcases q_s with rfl | rfl | rfl <;> rfl) (by rcases q_s with rfl | rfl | rfl <;> rfl) rfl (by omega) (by omega) (i32_lo _) (i32_hi _) (i32_ho _) (by rcases q_s with rfl | rfl | rfl <;> rfl) (fun h16 I16 u16 => ?_)
    have f16 := fr_st (F := (F_X0_driveRail s)) 1 f13 u16 rfl (by omega) (by omega)
    refine te_aload_n (p2 := 74) rfl rfl rfl ?_
    refine te_aload_n (p2 := 75) rfl rfl rfl ?_
    refine te_aload_n (p2 := 76) rfl rfl rfl ?_
    refine tg_e (p2 := 79) (i := o1) (v := .int y5) rfl rfl I16 rfl (by rcases q1 with rfl | rfl | rfl <;> rfl) ((u16.2 _ _ (Or.inl (by omega))).trans ((u13.2 _ _ (Or.inl (by omega))).trans ((u6.2 _ _ (Or.inl (by omega))).trans e5))) ?_
    refine te_iload (p2 := 81) rfl rfl rfl ?_
    refine tc_V (p2 := 84) (i := 1) rfl rfl rfl rfl I16 rfl rfl rfl (c_X0_bring (s := s) (to := y5) (loads := z12) I16 q_s (by omega) (by omega)) (by decide) (fun v17 h17 hq17 => ?_)
    obtain ⟨I17, g17, w17, Q17⟩ := hq17
    subst w17
    have f17 := fr_tr (F1 := (F_X0_bring s)) (F := (F_X0_driveRail s)) f16 g17 (by rcases q_s with rfl | rfl | rfl <;> decide)
    show EvP _ _ _ (84, [(4, .int z12), (3, .ref (16 + o1)), (0, .ref 17), (1, .ref (16 + s)), (2, .int rr)], [], h17) _
    exact te_vret rfl rfl ⟨I17, f17, rfl, (by (have e9 : z12 = mnI (60 * (ctX h).cr rr.toInt.toNat / ((ctX h).wn rr.toInt.toNat - 1)) ((absX h s).ld ((ctX h).wf rr.toInt.toNat).toInt.toNat) := (by rw [wn.1, wn.2.1, (wn.2.2 (by rw [rv_of e2]; omega)).1, rv_of e2, rv_of e3, rv_of e4, e8, e9, e10, show (absX h s).ld y4.toInt.toNat = y11 from (aX_ld (by omega)).trans (rv_of ((u6.2 _ _ (Or.inl (by omega))).symm.trans e11))]; exact mnI_e (by omega))); unfold raF; rw [if_neg (by rw [wn.1, rv_of e2]; omega), ← e9, Q17, (show ctX h16 = ctX h from ctX_fr f16 (by rcases q_s with rfl | rfl | rfl <;> rfl)), xu_ld u16 (by omega), xu_ra u13 (by omega), xu_ra u6 (by omega), ← e15, (wn.2.2 (by rw [rv_of e2]; omega)).1, (wn.2.2 (by rw [rv_of e2]; omega)).2, rv_of e4, rv_of e5]; show brF _ (Dy.mk _ _ _ _ _ _ _ _ _ (udt (udt _ _ _) _ _) _ _ _ _ _ _) _ _ = _; rw [udt_2, show y11 = (absX h s).ld y4.toInt.toNat from ((aX_ld (by omega)).trans (rv_of ((u6.2 _ _ (Or.inl (by omega))).symm.trans ((u13.2 _ _ (Or.inl (by omega))).symm.trans ((u13.2 _ _ (Or.inl (by omega))).trans e11))))).symm])⟩
  · exact te_vret rfl rfl ⟨I6, f6, rfl, (by rw [xu_ra u6 (by omega)]; unfold raF; rw [if_pos (by rw [wn.1, rv_of e2]; omega)])⟩
set_option maxRecDepth 20000 in
set_option maxHeartbeats 4000000 in
theorem c_X0_heal {s : Nat} {h : im_H} (hI : tI h) (q_s : s = 23 ∨ s = 37 ∨ s = 51) : CaP 1 15 [.ref 17, .ref (16 + s)] h (fun v h2 => tI h2 ∧ fr (F_X0_heal s) h h2 ∧ v = none ∧ absX h2 s = itF heF (absX h s) (ctX h).np.toInt.toNat) := by
  refine cap_of (d := 0) (M := mX0_heal) rfl (Nat.le_of_ble_eq_true rfl) ?_
  show EvP im_K0 0 mX0_heal (0, [(0, .ref 17), (1, .ref (16 + s))], [], h) _
  have f0 : fr (F_X0_heal s) h h := fr_rf
  refine te_iconst (p2 := 1) (x := 0) rfl rfl (by decide) ?_
  obtain ⟨v1, e1, y1, w1, a1, b1, _⟩ := hI.2.1 1 2 (.inl (0, 24, 9999999999)) rfl
  subst w1
  refine te_istore_n (p2 := 2) (lv2 := [(2, .int 0), (0, .ref 17), (1, .ref (16 + s))]) rfl rfl (by decide) rfl ?_
  have lp2 : ∀ (n2 : Nat) (v2_2 : Int32) (h2 : im_H), tI h2 → fr (F_X0_heal s) h h2 → 0 ≤ v2_2.toInt → v2_2.toInt ≤ 24 → v2_2.toInt ≤ y1.toInt → (absX h2 s = itF heF (absX h s) v2_2.toInt.toNat) → 24 - v2_2.toInt < (n2 : Int) → EvP im_K0 0 mX0_heal (2, [(0, .ref 17), (1, .ref (16 + s)), (2, .int v2_2)], [], h2) (fun v h2 => tI h2 ∧ fr (F_X0_heal s) h h2 ∧ v = none ∧ absX h2 s = itF heF (absX h s) (ctX h).np.toInt.toNat) := by
    intro n2
    induction n2 with
    | zero => intro v2_2 h2 I2 f2 a2_2 b2_2 l2_0 w2_0 m2; exfalso; omega
    | succ n2 ih2 =>
      intro v2_2 h2 I2 f2 a2_2 b2_2 l2_0 w2_0 m2
      refine te_iload_n (p2 := 3) rfl rfl rfl ?_
      refine te_aload_n (p2 := 4) rfl rfl rfl ?_
      refine tg_e (p2 := 7) (i := 1) (v := .int y1) rfl rfl I2 rfl rfl ((f2 _ _ (by rcases q_s with rfl | rfl | rfl <;> rfl)).trans e1) ?_
      refine tb_ge (p2 := 10) rfl rfl rfl rfl (fun c3 => ?_) (fun c3 => ?_)
      · exact te_vret rfl rfl ⟨I2, f2, rfl, (by rw [w2_0, show (ctX h).np = y1 from rv_of e1, show v2_2.toInt.toNat = y1.toInt.toNat by omega])⟩
      · refine te_aload_n (p2 := 11) rfl rfl rfl ?_
        refine tg_r (p2 := 14) (i := s) (r := (16 + (s + 7))) rfl rfl I2 rfl (by rcases q_s with rfl | rfl | rfl <;> rfl) (by rcases q_s with rfl | rfl | rfl <;> rfl) ?_
        refine te_iload_n (p2 := 15) rfl rfl rfl ?_
        refine tl_b (p2 := 16) (i := (s + 7)) (n := 24) rfl rfl I2 rfl (by rcases q_s with rfl | rfl | rfl <;> rfl) (by rcases q_s with rfl | rfl | rfl <;> rfl) rfl (by omega) (by omega) (fun y4 a4 e4 => ?_)
        refine tz_ne (p2 := 19) rfl rfl rfl (fun c5 => ?_) (fun c5 => ?_)
        · refine ar_inc (p2 := 41) (x := v2_2) rfl rfl (by decide) rfl (by decide) rfl (by omega) (by omega) (fun z6 e6 f6 => ?_)
          show EvP _ _ _ (41, [(2, .int z6), (0, .ref 17), (1, .ref (16 + s))], [], h2) _
          refine te_goto rfl ?_
          refine te_lv [(0, .ref 17), (1, .ref (16 + s)), (2, .int z6)] rfl rfl ⟨rfl, rfl, rfl, trivial⟩ ?_
          exact ih2 z6 h2 I2 f2 (by omega) (by omega) (by omega) (by rw [show z6.toInt.toNat = v2_2.toInt.toNat + 1 by omega]; exact (heX_n (fun q => absurd q.1 (by rw [(show (absX h2 s).de v2_2.toInt.toNat = y4 from (aX_de (by omega)).trans (rv_of e4))]; omega))).trans ((congrArg (fun A => heF A v2_2.toInt.toNat) w2_0).trans (it_s rfl))) (by omega)
        · refine te_aload_n (p2 := 20) rfl rfl rfl ?_
          refine tg_r (p2 := 23) (i := s) (r := (16 + (s + 4))) rfl rfl I2 rfl (by rcases q_s with rfl | rfl | rfl <;> rfl) (by rcases q_s with rfl | rfl | rfl <;> rfl) ?_
          refine te_iload_n (p2 := 24) rfl rfl rfl ?_
          refine tl_i (p2 := 25) (i := (s + 4)) (n := 24) rfl rfl I2 rfl (by rcases q_s with rfl | rfl | rfl <;> rfl) (by rcases q_s with rfl | rfl | rfl <;> rfl) rfl (by omega) (by omega) (fun y7 a7 b7 g7 e7 => ?_)
          refine tz_le (p2 := 28) rfl rfl rfl (fun c8 => ?_) (fun c8 => ?_)
          · refine ar_inc (p2 := 41) (x := v2_2) rfl rfl (by decide) rfl (by decide) rfl (by omega) (by omega) (fun z9 e9 f9 => ?_)
            show EvP _ _ _ (41, [(2, .int z9), (0, .ref 17), (1, .ref (16 + s))], [], h2) _
            refine te_goto rfl ?_
            refine te_lv [(0, .ref 17), (1, .ref (16 + s)), (2, .int z9)] rfl rfl ⟨rfl, rfl, rfl, trivial⟩ ?_
            exact ih2 z9 h2 I2 f2 (by omega) (by omega) (by omega) (by rw [show z9.toInt.toNat = v2_2.toInt.toNat + 1 by omega]; exact (heX_n (fun q => absurd q.2 (by rw [(show (absX h2 s).hu v2_2.toInt.toNat = y7 from (aX_hu (by omega) (by rw [rv_of e4]; omega)).trans (rv_of e7))]; omega))).trans ((congrArg (fun A => heF A v2_2.toInt.toNat) w2_0).trans (it_s rfl))) (by omega)
          · refine te_aload_n (p2 := 29) rfl rfl rfl ?_
            refine tg_r (p2 := 32) (i := s) (r := (16 + (s + 4))) rfl rfl I2 rfl (by rcases q_s with rfl | rfl | rfl <;> rfl) (by rcases q_s with rfl | rfl | rfl <;> rfl) ?_
            refine te_iload_n (p2 := 33) rfl rfl rfl ?_
            refine te_dup2 (p2 := 34) rfl rfl ⟨rfl, rfl⟩ ?_
            refine tl_e (p2 := 35) (i := (s + 4)) (n := 24) (t := 0) (Or.inl rfl) rfl rfl I2 rfl (by rcases q_s with rfl | rfl | rfl <;> rfl) (by omega) (by omega) e7 ?_
            refine te_iconst (p2 := 36) (x := 1) rfl rfl (by decide) ?_
            have n11_y7 := i32_lo y7
            have o11_y7 := i32_hi y7
            refine ar_sub (p2 := 37) rfl rfl rfl (show Int32.toInt 1 = 1 from rfl) (by omega) (by omega) (fun z11 e11 f11 => ?_)
            refine ts_i (p2 := 38) (i := (s + 4)) (n := 24) rfl rfl I2 rfl (by rcases q_s with rfl | rfl | rfl <;> rfl) (by rcases q_s with rfl | rfl | rfl <;> rfl) rfl (by omega) (by omega) (i32_lo _) (i32_hi _) (i32_ho _) (by rcases q_s with rfl | rfl | rfl <;> rfl) (fun h12 I12 u12 => ?_)
            have f12 := fr_st (F := (F_X0_heal s)) 0 f2 u12 rfl (by omega) (by omega)
            refine ar_inc (p2 := 41) (x := v2_2) rfl rfl (by decide) rfl (by decide) rfl (by omega) (by omega) (fun z13 e13 f13 => ?_)
            show EvP _ _ _ (41, [(2, .int z13), (0, .ref 17), (1, .ref (16 + s))], [], h12) _
            refine te_goto rfl ?_
            refine te_lv [(0, .ref 17), (1, .ref (16 + s)), (2, .int z13)] rfl rfl ⟨rfl, rfl, rfl, trivial⟩ ?_
            exact ih2 z13 h12 I12 f12 (by omega) (by omega) (by omega) (by rw [show z13.toInt.toNat = v2_2.toInt.toNat + 1 by omega]; exact ((xu_ha u12 (by omega) (by rw [rv_of e4]; omega)).trans (heX_y (by rw [(show (absX h2 s).de v2_2.toInt.toNat = y4 from (aX_de (by omega)).trans (rv_of e4))]; omega) (by rw [(show (absX h2 s).hu v2_2.toInt.toNat = y7 from (aX_hu (by omega) (by rw [rv_of e4]; omega)).trans (rv_of e7))]; omega) (by rw [(show (absX h2 s).hu v2_2.toInt.toNat = y7 from (aX_hu (by omega) (by rw [rv_of e4]; omega)).trans (rv_of e7))]; exact e11))).trans ((congrArg (fun A => heF A v2_2.toInt.toNat) w2_0).trans (it_s rfl))) (by omega)
  refine te_lv [(0, .ref 17), (1, .ref (16 + s)), (2, .int 0)] rfl rfl ⟨rfl, rfl, rfl, trivial⟩ ?_
  exact lp2 25 0 h hI f0 (by decide) (by decide) (by have cc0 := (show Int32.toInt 0 = 0 from rfl); omega) rfl (by have cc0 := (show Int32.toInt 0 = 0 from rfl); omega)
set_option maxRecDepth 20000 in
set_option maxHeartbeats 4000000 in
theorem d_X0_fall {s : Nat} {k : Int32} {h : im_H} (hI : tI h) (q_s : s = 23 ∨ s = 37 ∨ s = 51) (p_k0 : 0 ≤ k.toInt) (p_k1 : k.toInt ≤ 15) : CaP 5 14 [.ref 17, .ref (16 + s), .int k] h (fun v h2 => tI h2 ∧ fr (F_X0_fall s) h h2 ∧ ∃ y : Int32, v = some (.int y) ∧ absX h2 s = faF (ctX h) (absX h s) k.toInt.toNat) := by
  refine cap_of (d := 4) (M := mX0_fall) rfl (Nat.le_of_ble_eq_true rfl) ?_
  show EvP im_K0 4 mX0_fall (0, [(0, .ref 17), (1, .ref (16 + s)), (2, .int k)], [], h) _
  have f0 : fr (F_X0_fall s) h h := fr_rf
  refine te_aload_n (p2 := 1) rfl rfl rfl ?_
  obtain ⟨v1, e1, y1, w1, a1, b1, _⟩ := hI.2.1 1 2 (.inl (0, 24, 9999999999)) rfl
  subst w1
  refine tg_r (p2 := 4) (i := 1) (r := 26) rfl rfl hI rfl rfl rfl ?_
  refine te_iload_n (p2 := 5) rfl rfl rfl ?_
  refine tl_i (p2 := 6) (i := 10) (n := 16) rfl rfl hI rfl rfl rfl rfl (by omega) (by omega) (fun y2 a2 b2 g2 e2 => ?_)
  refine te_istore_n (p2 := 7) (lv2 := [(3, .int y2), (0, .ref 17), (1, .ref (16 + s)), (2, .int k)]) rfl rfl (by decide) rfl ?_
  refine te_iconst (p2 := 8) (x := 0) rfl rfl (by decide) ?_
  refine te_istore (p2 := 10) (lv2 := [(4, .int 0), (3, .int y2), (0, .ref 17), (1, .ref (16 + s)), (2, .int k)]) rfl rfl (by decide) rfl ?_
  refine te_aload_n (p2 := 11) rfl rfl rfl ?_
  refine tg_r (p2 := 14) (i := s) (r := (16 + (s + 9))) rfl rfl hI rfl (by rcases q_s with rfl | rfl | rfl <;> rfl) (by rcases q_s with rfl | rfl | rfl <;> rfl) ?_
  refine te_iload_n (p2 := 15) rfl rfl rfl ?_
  refine te_iconst (p2 := 16) (x := 0) rfl rfl (by decide) ?_
  refine ts_b (p2 := 17) (i := (s + 9)) (n := 16) rfl rfl hI rfl (by rcases q_s with rfl | rfl | rfl <;> rfl) (by rcases q_s with rfl | rfl | rfl <;> rfl) rfl (by omega) (by omega) (by decide) (by decide) (by rcases q_s with rfl | rfl | rfl <;> rfl) (fun h3 I3 u3 => ?_)
  have f3 := fr_st (F := (F_X0_fall s)) 3 f0 u3 rfl (by omega) (by omega)
  refine te_aload_n (p2 := 18) rfl rfl rfl ?_
  refine tg_r (p2 := 21) (i := s) (r := (16 + (s + 2))) rfl rfl I3 rfl (by rcases q_s with rfl | rfl | rfl <;> rfl) (by rcases q_s with rfl | rfl | rfl <;> rfl) ?_
  refine te_iload_n (p2 := 22) rfl rfl rfl ?_
  refine te_dup2 (p2 := 23) rfl rfl ⟨rfl, rfl⟩ ?_
  refine tl_i (p2 := 24) (i := (s + 2)) (n := 100) rfl rfl I3 rfl (by rcases q_s with rfl | rfl | rfl <;> rfl) (by rcases q_s with rfl | rfl | rfl <;> rfl) rfl (by omega) (by omega) (fun y4 a4 b4 g4 e4 => ?_)
  refine te_bipush (p2 := 26) (x := 20) rfl rfl (by decide) ?_
  refine au_add (p2 := 27) rfl rfl (fun z5 e5 => ?_)
  refine ts_i (p2 := 28) (i := (s + 2)) (n := 100) rfl rfl I3 rfl (by rcases q_s with rfl | rfl | rfl <;> rfl) (by rcases q_s with rfl | rfl | rfl <;> rfl) rfl (by omega) (by omega) (i32_lo _) (i32_hi _) (i32_ho _) (by rcases q_s with rfl | rfl | rfl <;> rfl) (fun h6 I6 u6 => ?_)
  have f6 := fr_st (F := (F_X0_fall s)) 0 f3 u6 rfl (by omega) (by omega)
  refine te_iconst (p2 := 29) (x := 0) rfl rfl (by decide) ?_
  refine te_istore (p2 := 31) (lv2 := [(5, .int 0), (4, .int 0), (3, .int y2), (0, .ref 17), (1, .ref (16 + s)), (2, .int k)]) rfl rfl (by decide) rfl ?_
  have lp7 : ∀ (n7 : Nat) (v7_4 v7_5 : Int32) (h7 : im_H), tI h7 → fr (F_X0_fall s) h h7 → 0 ≤ v7_5.toInt → v7_5.toInt ≤ 24 → v7_5.toInt ≤ y1.toInt → (absX h7 s = hisF (ctX h) ((ctX h).wt k.toInt.toNat) (Dy.s_ld (Dy.s_up (absX h s) (udt (absX h s).up k.toInt.toNat 0)) (udt (absX h s).ld ((ctX h).wt k.toInt.toNat).toInt.toNat ((absX h s).ld ((ctX h).wt k.toInt.toNat).toInt.toNat + 20))) v7_5.toInt.toNat) → 24 - v7_5.toInt < (n7 : Int) → EvP im_K0 4 mX0_fall (31, [(0, .ref 17), (1, .ref (16 + s)), (2, .int k), (3, .int y2), (4, .int v7_4), (5, .int v7_5)], [], h7) (fun v h2 => tI h2 ∧ fr (F_X0_fall s) h h2 ∧ ∃ y : Int32, v = some (.int y) ∧ absX h2 s = faF (ctX h) (absX h s) k.toInt.toNat) := by
    intro n7
    induction n7 with
    | zero => intro v7_4 v7_5 h7 I7 f7 a7_5 b7_5 l7_0 w7_0 m7; exfalso; omega
    | succ n7 ih7 =>
      intro v7_4 v7_5 h7 I7 f7 a7_5 b7_5 l7_0 w7_0 m7
      refine te_iload (p2 := 33) rfl rfl rfl ?_
      refine te_aload_n (p2 := 34) rfl rfl rfl ?_
      refine tg_e (p2 := 37) (i := 1) (v := .int y1) rfl rfl I7 rfl rfl ((f7 _ _ (by rcases q_s with rfl | rfl | rfl <;> rfl)).trans e1) ?_
      refine tb_ge (p2 := 40) rfl rfl rfl rfl (fun c8 => ?_) (fun c8 => ?_)
      · refine te_iload (p2 := 106) rfl rfl rfl ?_
        exact te_iret rfl rfl ⟨I7, f7, _, rfl, (by rw [w7_0]; unfold faF; rw [show (ctX h).np = y1 from rv_of e1, show v7_5.toInt.toNat = y1.toInt.toNat by omega])⟩
      · refine te_aload_n (p2 := 41) rfl rfl rfl ?_
        refine te_aload_n (p2 := 42) rfl rfl rfl ?_
        refine te_iload (p2 := 44) rfl rfl rfl ?_
        refine tc_V (p2 := 47) (i := 1) rfl rfl rfl rfl I7 rfl rfl rfl (c_X0_cellByDay (s := s) (p := v7_5) I7 q_s (by omega) (by omega)) (by decide) (fun v9 h9 hq9 => ?_)
        obtain ⟨I9, g9, y9, w9, Q9⟩ := hq9
        subst w9
        have f9 := fr_tr (F1 := F_X0_cellByDay) (F := (F_X0_fall s)) f7 g9 (by rcases q_s with rfl | rfl | rfl <;> decide)
        show EvP _ _ _ (47, [(0, .ref 17), (1, .ref (16 + s)), (2, .int k), (3, .int y2), (4, .int v7_4), (5, .int v7_5)], [.int y9], h9) _
        refine te_iload_n (p2 := 48) rfl rfl rfl ?_
        refine tb_ne (p2 := 51) rfl rfl rfl rfl (fun c10 => ?_) (fun c10 => ?_)
        · refine ar_inc (p2 := 101) (x := v7_5) rfl rfl (by decide) rfl (by decide) rfl (by omega) (by omega) (fun z11 e11 f11 => ?_)
          show EvP _ _ _ (101, [(5, .int z11), (0, .ref 17), (1, .ref (16 + s)), (2, .int k), (3, .int y2), (4, .int v7_4)], [], h9) _
          refine te_goto rfl ?_
          refine te_lv [(0, .ref 17), (1, .ref (16 + s)), (2, .int k), (3, .int y2), (4, .int v7_4), (5, .int z11)] rfl rfl ⟨rfl, rfl, rfl, rfl, rfl, rfl, trivial⟩ ?_
          exact ih7 v7_4 z11 h9 I9 f9 (by omega) (by omega) (by omega) (by rw [show z11.toInt.toNat = v7_5.toInt.toNat + 1 by omega]; exact (show absX h9 s = hiF (ctX h) ((ctX h).wt k.toInt.toNat) (absX h7 s) v7_5.toInt.toNat from (show absX h9 s = absX h7 s from absX_fr g9 (fun q hq => by (simp only [List.mem_cons, List.not_mem_nil, or_false] at hq); subst hq; omega)).trans (hiX_n (by rw [(show atF (ctX h) (absX h7 s) v7_5.toInt.toNat = y9 from (by rw [← (show ctX h7 = ctX h from ctX_fr f7 (by rcases q_s with rfl | rfl | rfl <;> rfl))]; exact Q9.symm)), (show (ctX h).wt k.toInt.toNat = y2 from (gd_at (by omega)).trans (rv_of e2))]; exact fun q => absurd (congrArg Int32.toInt q) (by omega)))).trans (congrArg (fun A => hiF (ctX h) ((ctX h).wt k.toInt.toNat) A v7_5.toInt.toNat) w7_0)) (by omega)
        · refine te_aload_n (p2 := 52) rfl rfl rfl ?_
          refine tg_r (p2 := 55) (i := s) (r := (16 + (s + 4))) rfl rfl I9 rfl (by rcases q_s with rfl | rfl | rfl <;> rfl) (by rcases q_s with rfl | rfl | rfl <;> rfl) ?_
          refine te_iload (p2 := 57) rfl rfl rfl ?_
          refine te_dup2 (p2 := 58) rfl rfl ⟨rfl, rfl⟩ ?_
          refine tl_i (p2 := 59) (i := (s + 4)) (n := 24) rfl rfl I9 rfl (by rcases q_s with rfl | rfl | rfl <;> rfl) (by rcases q_s with rfl | rfl | rfl <;> rfl) rfl (by omega) (by omega) (fun y12 a12 b12 g12 e12 => ?_)
          refine te_iconst (p2 := 60) (x := 3) rfl rfl (by decide) ?_
          refine au_add (p2 := 61) rfl rfl (fun z13 e13 => ?_)
          refine ts_i (p2 := 62) (i := (s + 4)) (n := 24) rfl rfl I9 rfl (by rcases q_s with rfl | rfl | rfl <;> rfl) (by rcases q_s with rfl | rfl | rfl <;> rfl) rfl (by omega) (by omega) (i32_lo _) (i32_hi _) (i32_ho _) (by rcases q_s with rfl | rfl | rfl <;> rfl) (fun h14 I14 u14 => ?_)
          have f14 := fr_st (F := (F_X0_fall s)) 1 f9 u14 rfl (by omega) (by omega)
          refine au_inc (p2 := 65) (x := v7_4) rfl rfl (by decide) rfl (fun z15 e15 => ?_)
          show EvP _ _ _ (65, [(4, .int z15), (0, .ref 17), (1, .ref (16 + s)), (2, .int k), (3, .int y2), (5, .int v7_5)], [], h14) _
          refine te_aload_n (p2 := 66) rfl rfl rfl ?_
          refine tg_r (p2 := 69) (i := s) (r := (16 + (s + 4))) rfl rfl I14 rfl (by rcases q_s with rfl | rfl | rfl <;> rfl) (by rcases q_s with rfl | rfl | rfl <;> rfl) ?_
          refine te_iload (p2 := 71) rfl rfl rfl ?_
          refine tl_e (p2 := 72) (i := (s + 4)) (n := 24) (t := 0) (Or.inl rfl) rfl rfl I14 rfl (by rcases q_s with rfl | rfl | rfl <;> rfl) (by omega) (by omega) u14.1 ?_
          refine te_bipush (p2 := 74) (x := 9) rfl rfl (by decide) ?_
          refine tb_lt (p2 := 77) rfl rfl rfl (show Int32.toInt 9 = 9 from rfl) (fun c17 => ?_) (fun c17 => ?_)
          · refine ar_inc (p2 := 101) (x := v7_5) rfl rfl (by decide) rfl (by decide) rfl (by omega) (by omega) (fun z18 e18 f18 => ?_)
            show EvP _ _ _ (101, [(5, .int z18), (4, .int z15), (0, .ref 17), (1, .ref (16 + s)), (2, .int k), (3, .int y2)], [], h14) _
            refine te_goto rfl ?_
            refine te_lv [(0, .ref 17), (1, .ref (16 + s)), (2, .int k), (3, .int y2), (4, .int z15), (5, .int z18)] rfl rfl ⟨rfl, rfl, rfl, rfl, rfl, rfl, trivial⟩ ?_
            exact ih7 z15 z18 h14 I14 f14 (by omega) (by omega) (by omega) (by rw [show z18.toInt.toNat = v7_5.toInt.toNat + 1 by omega]; exact (show absX h14 s = hiF (ctX h) ((ctX h).wt k.toInt.toNat) (absX h7 s) v7_5.toInt.toNat from (by (by_cases hd : (rv h9 (s + 7) v7_5.toInt.toNat).toInt = 0); (· rw [xu_ha u14 (by omega) hd, (show absX h9 s = absX h7 s from absX_fr g9 (fun q hq => by (simp only [List.mem_cons, List.not_mem_nil, or_false] at hq); subst hq; omega))]; exact hiX_s (by rw [(show (absX h7 s).de v7_5.toInt.toNat = rv h9 (s + 7) v7_5.toInt.toNat from (by rw [← (show absX h9 s = absX h7 s from absX_fr g9 (fun q hq => by (simp only [List.mem_cons, List.not_mem_nil, or_false] at hq); subst hq; omega))]; exact aX_de (by omega)))]; exact hd) (by rw [(show atF (ctX h) (absX h7 s) v7_5.toInt.toNat = y9 from (by rw [← (show ctX h7 = ctX h from ctX_fr f7 (by rcases q_s with rfl | rfl | rfl <;> rfl))]; exact Q9.symm)), (show (ctX h).wt k.toInt.toNat = y2 from (gd_at (by omega)).trans (rv_of e2))]; exact i32_ext (by omega)) (by rw [← (show absX h9 s = absX h7 s from absX_fr g9 (fun q hq => by (simp only [List.mem_cons, List.not_mem_nil, or_false] at hq); subst hq; omega)), aX_hu (by omega) hd, rv_of e12]; exact e13) (by omega)); (· rw [xu_hb u14 hd, (show absX h9 s = absX h7 s from absX_fr g9 (fun q hq => by (simp only [List.mem_cons, List.not_mem_nil, or_false] at hq); subst hq; omega))]; exact hiX_d (by rw [(show (absX h7 s).de v7_5.toInt.toNat = rv h9 (s + 7) v7_5.toInt.toNat from (by rw [← (show absX h9 s = absX h7 s from absX_fr g9 (fun q hq => by (simp only [List.mem_cons, List.not_mem_nil, or_false] at hq); subst hq; omega))]; exact aX_de (by omega)))]; exact hd)))).trans (congrArg (fun A => hiF (ctX h) ((ctX h).wt k.toInt.toNat) A v7_5.toInt.toNat) w7_0)) (by omega)
          · refine te_aload_n (p2 := 78) rfl rfl rfl ?_
            refine tg_r (p2 := 81) (i := s) (r := (16 + (s + 7))) rfl rfl I14 rfl (by rcases q_s with rfl | rfl | rfl <;> rfl) (by rcases q_s with rfl | rfl | rfl <;> rfl) ?_
            refine te_iload (p2 := 83) rfl rfl rfl ?_
            refine tl_b (p2 := 84) (i := (s + 7)) (n := 24) rfl rfl I14 rfl (by rcases q_s with rfl | rfl | rfl <;> rfl) (by rcases q_s with rfl | rfl | rfl <;> rfl) rfl (by omega) (by omega) (fun y19 a19 e19 => ?_)
            refine tz_ne (p2 := 87) rfl rfl rfl (fun c20 => ?_) (fun c20 => ?_)
            · refine ar_inc (p2 := 101) (x := v7_5) rfl rfl (by decide) rfl (by decide) rfl (by omega) (by omega) (fun z21 e21 f21 => ?_)
              show EvP _ _ _ (101, [(5, .int z21), (4, .int z15), (0, .ref 17), (1, .ref (16 + s)), (2, .int k), (3, .int y2)], [], h14) _
              refine te_goto rfl ?_
              refine te_lv [(0, .ref 17), (1, .ref (16 + s)), (2, .int k), (3, .int y2), (4, .int z15), (5, .int z21)] rfl rfl ⟨rfl, rfl, rfl, rfl, rfl, rfl, trivial⟩ ?_
              exact ih7 z15 z21 h14 I14 f14 (by omega) (by omega) (by omega) (by rw [show z21.toInt.toNat = v7_5.toInt.toNat + 1 by omega]; exact (show absX h14 s = hiF (ctX h) ((ctX h).wt k.toInt.toNat) (absX h7 s) v7_5.toInt.toNat from (by rw [xu_hb u14 (by rw [rv_of ((u14.2 _ _ (Or.inl (by omega))).symm.trans e19)]; omega), (show absX h9 s = absX h7 s from absX_fr g9 (fun q hq => by (simp only [List.mem_cons, List.not_mem_nil, or_false] at hq); subst hq; omega))]; exact hiX_d (by rw [(show (absX h7 s).de v7_5.toInt.toNat = rv h9 (s + 7) v7_5.toInt.toNat from (by rw [← (show absX h9 s = absX h7 s from absX_fr g9 (fun q hq => by (simp only [List.mem_cons, List.not_mem_nil, or_false] at hq); subst hq; omega))]; exact aX_de (by omega))), rv_of ((u14.2 _ _ (Or.inl (by omega))).symm.trans e19)]; omega))).trans (congrArg (fun A => hiF (ctX h) ((ctX h).wt k.toInt.toNat) A v7_5.toInt.toNat) w7_0)) (by omega)
            · refine te_aload_n (p2 := 88) rfl rfl rfl ?_
              refine tg_r (p2 := 91) (i := s) (r := (16 + (s + 7))) rfl rfl I14 rfl (by rcases q_s with rfl | rfl | rfl <;> rfl) (by rcases q_s with rfl | rfl | rfl <;> rfl) ?_
              refine te_iload (p2 := 93) rfl rfl rfl ?_
              refine te_iconst (p2 := 94) (x := 1) rfl rfl (by decide) ?_
              refine ts_b (p2 := 95) (i := (s + 7)) (n := 24) rfl rfl I14 rfl (by rcases q_s with rfl | rfl | rfl <;> rfl) (by rcases q_s with rfl | rfl | rfl <;> rfl) rfl (by omega) (by omega) (by decide) (by decide) (by rcases q_s with rfl | rfl | rfl <;> rfl) (fun h22 I22 u22 => ?_)
              have f22 := fr_st (F := (F_X0_fall s)) 2 f14 u22 rfl (by omega) (by omega)
              refine au_inc (p2 := 98) (x := z15) rfl rfl (by decide) rfl (fun z23 e23 => ?_)
              show EvP _ _ _ (98, [(4, .int z23), (0, .ref 17), (1, .ref (16 + s)), (2, .int k), (3, .int y2), (5, .int v7_5)], [], h22) _
              refine ar_inc (p2 := 101) (x := v7_5) rfl rfl (by decide) rfl (by decide) rfl (by omega) (by omega) (fun z24 e24 f24 => ?_)
              show EvP _ _ _ (101, [(5, .int z24), (4, .int z23), (0, .ref 17), (1, .ref (16 + s)), (2, .int k), (3, .int y2)], [], h22) _
              refine te_goto rfl ?_
              refine te_lv [(0, .ref 17), (1, .ref (16 + s)), (2, .int k), (3, .int y2), (4, .int z23), (5, .int z24)] rfl rfl ⟨rfl, rfl, rfl, rfl, rfl, rfl, trivial⟩ ?_
              exact ih7 z23 z24 h22 I22 f22 (by omega) (by omega) (by omega) (by rw [show z24.toInt.toNat = v7_5.toInt.toNat + 1 by omega]; exact (show absX h22 s = hiF (ctX h) ((ctX h).wt k.toInt.toNat) (absX h7 s) v7_5.toInt.toNat from (by rw [xu_de u22 (by omega) (by decide), xu_ha u14 (by omega) (show (rv h9 (s + 7) v7_5.toInt.toNat).toInt = 0 from (by rw [rv_of ((u14.2 _ _ (Or.inl (by omega))).symm.trans e19)]; omega)), (show absX h9 s = absX h7 s from absX_fr g9 (fun q hq => by (simp only [List.mem_cons, List.not_mem_nil, or_false] at hq); subst hq; omega))]; exact hiX_k (by rw [(show (absX h7 s).de v7_5.toInt.toNat = rv h9 (s + 7) v7_5.toInt.toNat from (by rw [← (show absX h9 s = absX h7 s from absX_fr g9 (fun q hq => by (simp only [List.mem_cons, List.not_mem_nil, or_false] at hq); subst hq; omega))]; exact aX_de (by omega)))]; exact (show (rv h9 (s + 7) v7_5.toInt.toNat).toInt = 0 from (by rw [rv_of ((u14.2 _ _ (Or.inl (by omega))).symm.trans e19)]; omega))) (by rw [(show atF (ctX h) (absX h7 s) v7_5.toInt.toNat = y9 from (by rw [← (show ctX h7 = ctX h from ctX_fr f7 (by rcases q_s with rfl | rfl | rfl <;> rfl))]; exact Q9.symm)), (show (ctX h).wt k.toInt.toNat = y2 from (gd_at (by omega)).trans (rv_of e2))]; exact i32_ext (by omega)) (by rw [← (show absX h9 s = absX h7 s from absX_fr g9 (fun q hq => by (simp only [List.mem_cons, List.not_mem_nil, or_false] at hq); subst hq; omega)), aX_hu (by omega) (show (rv h9 (s + 7) v7_5.toInt.toNat).toInt = 0 from (by rw [rv_of ((u14.2 _ _ (Or.inl (by omega))).symm.trans e19)]; omega)), rv_of e12]; exact e13) (by omega))).trans (congrArg (fun A => hiF (ctX h) ((ctX h).wt k.toInt.toNat) A v7_5.toInt.toNat) w7_0)) (by omega)
  refine te_lv [(0, .ref 17), (1, .ref (16 + s)), (2, .int k), (3, .int y2), (4, .int 0), (5, .int 0)] rfl rfl ⟨rfl, rfl, rfl, rfl, rfl, rfl, trivial⟩ ?_
  exact lp7 25 0 0 h6 I6 f6 (by decide) (by decide) (by have cc0 := (show Int32.toInt 0 = 0 from rfl); omega) (by rw [(show (ctX h).wt k.toInt.toNat = y2 from (gd_at (by omega)).trans (rv_of e2)), xu_ld u6 (by omega), xu_up u3 (by omega), ← e5, show y4 = (absX h s).ld y2.toInt.toNat from ((aX_ld (by omega)).trans (rv_of ((u3.2 _ _ (Or.inl (by omega))).symm.trans e4))).symm]; rfl) (by have cc0 := (show Int32.toInt 0 = 0 from rfl); omega)
