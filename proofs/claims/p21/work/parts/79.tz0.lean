def wkX (h : im_H) (c : Nat) : Int32 := if (rv h 2 c).toInt = -1 then 3 else ([3, 3, 2, 7, 2, 6] : List Int32).getD (rv h 2 c).toInt.toNat 0
def wkM (h : im_H) (c : Nat) : Int32 := if (rv h 152 c).toInt = -1 then 3 else rv h 156 (rv h 152 c).toInt.toNat
def wrX (h : im_H) (s k : Nat) : Int32 := rv h s 1 * wkX h (rv h 9 k).toInt.toNat / 10
def wrM (h : im_H) (k : Nat) : Int32 := rv h 149 106 * wkM h (rv h 167 k).toInt.toNat / 10
set_option maxRecDepth 20000 in
set_option maxHeartbeats 4000000 in
theorem c_X0_weakOf {c : Int32} {h : im_H} (hI : tI h) (p_c0 : 0 ≤ c.toInt) (p_c1 : c.toInt ≤ 99) : CaP 1 2 [.ref 17, .int c] h (pI h (fun y => y = wkX h c.toInt.toNat)) := by
  refine cap_of (d := 0) (M := mX0_weakOf) rfl (Nat.le_of_ble_eq_true rfl) ?_
  show EvP im_K0 0 mX0_weakOf (0, [(0, .ref 17), (1, .int c)], [], h) _
  refine te_aload_n (p2 := 1) rfl rfl rfl ?_
  refine tg_r (p2 := 4) (i := 1) (r := 18) rfl rfl hI rfl rfl rfl ?_
  refine te_iload_n (p2 := 5) rfl rfl rfl ?_
  refine tl_i (p2 := 6) (i := 2) (n := 100) rfl rfl hI rfl rfl rfl rfl (by omega) (by omega) (fun y1 a1 b1 g1 e1 => ?_)
  refine te_iconst (p2 := 7) (x := (-1)) rfl rfl (by decide) ?_
  refine tb_ne (p2 := 10) rfl rfl rfl (show Int32.toInt (-1) = (-1) from rfl) (fun c2 => ?_) (fun c2 => ?_)
  · refine te_gst (p2 := 17) rfl rfl (by decide) ?_
    refine te_aload_n (p2 := 18) rfl rfl rfl ?_
    refine tg_r (p2 := 21) (i := 1) (r := 18) rfl rfl hI rfl rfl rfl ?_
    refine te_iload_n (p2 := 22) rfl rfl rfl ?_
    refine tl_e (p2 := 23) (i := 2) (n := 100) (t := 0) (Or.inl rfl) rfl rfl hI rfl rfl (by omega) (by omega) e1 ?_
    refine tl_s (p2 := 24) (R := 3) (l := [3, 3, 2, 7, 2, 6]) (n := 6) (lo := 2) (hi := 7) rfl rfl (by decide) rfl rfl (by decide) (by omega) (by omega) (fun y4 a4 b4 e4 => ?_)
    exact te_iret rfl rfl ⟨rfl, _, rfl, (by unfold wkX; rw [rv_of e1, if_neg (by omega)]; exact e4.symm)⟩
  · refine te_iconst (p2 := 11) (x := 3) rfl rfl (by decide) ?_
    refine te_goto rfl ?_
    exact te_iret rfl rfl ⟨rfl, _, rfl, (by unfold wkX; rw [rv_of e1, if_pos (by omega)])⟩
set_option maxRecDepth 20000 in
set_option maxHeartbeats 4000000 in
theorem c_X12_weakOf {c : Int32} {h : im_H} (hI : tI h) (p_c0 : 0 ≤ c.toInt) (p_c1 : c.toInt ≤ 99) : CaP 1 122 [.ref 164, .int c] h (pI h (fun y => y = wkM h c.toInt.toNat)) := by
  refine cap_of (d := 0) (M := mX12_weakOf) rfl (Nat.le_of_ble_eq_true rfl) ?_
  show EvP im_K0 0 mX12_weakOf (0, [(0, .ref 164), (1, .int c)], [], h) _
  refine te_aload_n (p2 := 1) rfl rfl rfl ?_
  refine tg_r (p2 := 4) (i := 148) (r := 168) rfl rfl hI rfl rfl rfl ?_
  refine te_iload_n (p2 := 5) rfl rfl rfl ?_
  refine tl_i (p2 := 6) (i := 152) (n := 100) rfl rfl hI rfl rfl rfl rfl (by omega) (by omega) (fun y1 a1 b1 g1 e1 => ?_)
  refine te_iconst (p2 := 7) (x := (-1)) rfl rfl (by decide) ?_
  refine tb_ne (p2 := 10) rfl rfl rfl (show Int32.toInt (-1) = (-1) from rfl) (fun c2 => ?_) (fun c2 => ?_)
  · refine te_aload_n (p2 := 15) rfl rfl rfl ?_
    refine tg_r (p2 := 18) (i := 148) (r := 172) rfl rfl hI rfl rfl rfl ?_
    refine te_aload_n (p2 := 19) rfl rfl rfl ?_
    refine tg_r (p2 := 22) (i := 148) (r := 168) rfl rfl hI rfl rfl rfl ?_
    refine te_iload_n (p2 := 23) rfl rfl rfl ?_
    refine tl_e (p2 := 24) (i := 152) (n := 100) (t := 0) (Or.inl rfl) rfl rfl hI rfl rfl (by omega) (by omega) e1 ?_
    refine tl_i (p2 := 25) (i := 156) (n := 6) rfl rfl hI rfl rfl rfl rfl (by omega) (by omega) (fun y4 a4 b4 g4 e4 => ?_)
    exact te_iret rfl rfl ⟨rfl, _, rfl, (by unfold wkM; rw [rv_of e1, if_neg (by omega), rv_of e4])⟩
  · refine te_iconst (p2 := 11) (x := 3) rfl rfl (by decide) ?_
    refine te_goto rfl ?_
    exact te_iret rfl rfl ⟨rfl, _, rfl, (by unfold wkM; rw [rv_of e1, if_pos (by omega)])⟩
set_option maxRecDepth 20000 in
set_option maxHeartbeats 4000000 in
theorem c_X0_wearOf {s : Nat} {k : Int32} {h : im_H} (hI : tI h) (q_s : s = 23 ∨ s = 37 ∨ s = 51) (p_k0 : 0 ≤ k.toInt) (p_k1 : k.toInt ≤ 15) : CaP 2 12 [.ref 17, .ref (16 + s), .int k] h (pI h (fun y => y = wrX h s k.toInt.toNat)) := by
  refine cap_of (d := 1) (M := mX0_wearOf) rfl (Nat.le_of_ble_eq_true rfl) ?_
  show EvP im_K0 1 mX0_wearOf (0, [(0, .ref 17), (1, .ref (16 + s)), (2, .int k)], [], h) _
  refine te_aload_n (p2 := 1) rfl rfl rfl ?_
  refine tg_i (p2 := 4) (i := s) rfl rfl hI rfl (by rcases q_s with rfl | rfl | rfl <;> rfl) (by rcases q_s with rfl | rfl | rfl <;> rfl) (fun y1 a1 b1 e1 => ?_)
  refine te_aload_n (p2 := 5) rfl rfl rfl ?_
  refine te_aload_n (p2 := 6) rfl rfl rfl ?_
  refine tg_r (p2 := 9) (i := 1) (r := 25) rfl rfl hI rfl rfl rfl ?_
  refine te_iload_n (p2 := 10) rfl rfl rfl ?_
  refine tl_i (p2 := 11) (i := 9) (n := 16) rfl rfl hI rfl rfl rfl rfl (by omega) (by omega) (fun y2 a2 b2 g2 e2 => ?_)
  refine cV_pI (p2 := 14) (i := 1) rfl rfl rfl rfl hI rfl rfl rfl (c_X0_weakOf (c := y2) hI (by omega) (by omega)) (by decide) (fun y3 r3 => ?_)
  refine au_mul (p2 := 15) rfl rfl (fun z4 e4 => ?_)
  refine te_bipush (p2 := 17) (x := 10) rfl rfl (by decide) ?_
  refine au_div (p2 := 18) rfl rfl (show Int32.toInt 10 = 10 from rfl) (by decide) (fun z5 e5 => ?_)
  exact te_iret rfl rfl ⟨rfl, _, rfl, (by unfold wrX; rw [rv_of e1, rv_of e2, ← r3, e4, e5])⟩
set_option maxRecDepth 20000 in
set_option maxHeartbeats 4000000 in
theorem c_X0_wearsOut {s : Nat} {k : Int32} {h : im_H} (hI : tI h) (q_s : s = 23 ∨ s = 37 ∨ s = 51) (p_k0 : 0 ≤ k.toInt) (p_k1 : k.toInt ≤ 15) : CaP 3 13 [.ref 17, .ref (16 + s), .int k] h (fun v h2 => tI h2 ∧ fr (F_X0_wearsOut s) h h2 ∧ ∃ y : Int32, v = some (.int y) ∧ ∃ t : Int32, rd h (s + 8) k.toInt.toNat = some (.int t) ∧ rd h2 (s + 8) k.toInt.toNat = some (.int (t - wrX h s k.toInt.toNat)) ∧ (∀ j m, (j ≠ s + 8 ∨ m ≠ k.toInt.toNat) → rd h2 j m = rd h j m) ∧ ((y = 1 ∧ (t - wrX h s k.toInt.toNat).toInt ≤ (3 * rv h s 2).toInt) ∨ (y = 0 ∧ ¬ (t - wrX h s k.toInt.toNat).toInt ≤ (3 * rv h s 2).toInt))) := by
  refine cap_of (d := 2) (M := mX0_wearsOut) rfl (Nat.le_of_ble_eq_true rfl) ?_
  show EvP im_K0 2 mX0_wearsOut (0, [(0, .ref 17), (1, .ref (16 + s)), (2, .int k)], [], h) _
  have f0 : fr (F_X0_wearsOut s) h h := fr_rf
  refine te_aload_n (p2 := 1) rfl rfl rfl ?_
  refine tg_r (p2 := 4) (i := s) (r := (16 + (s + 8))) rfl rfl hI rfl (by rcases q_s with rfl | rfl | rfl <;> rfl) (by rcases q_s with rfl | rfl | rfl <;> rfl) ?_
  refine te_iload_n (p2 := 5) rfl rfl rfl ?_
  refine te_dup2 (p2 := 6) rfl rfl ⟨rfl, rfl⟩ ?_
  refine tl_i (p2 := 7) (i := (s + 8)) (n := 16) rfl rfl hI rfl (by rcases q_s with rfl | rfl | rfl <;> rfl) (by rcases q_s with rfl | rfl | rfl <;> rfl) rfl (by omega) (by omega) (fun y1 a1 b1 g1 e1 => ?_)
  refine te_aload_n (p2 := 8) rfl rfl rfl ?_
  refine te_aload_n (p2 := 9) rfl rfl rfl ?_
  refine te_iload_n (p2 := 10) rfl rfl rfl ?_
  refine cV_pI (p2 := 13) (i := 1) rfl rfl rfl rfl hI rfl rfl rfl (c_X0_wearOf (s := s) (k := k) hI q_s (by omega) (by omega)) (by decide) (fun y2 r2 => ?_)
  refine au_sub (p2 := 14) rfl rfl (fun z3 e3 => ?_)
  refine ts_i (p2 := 15) (i := (s + 8)) (n := 16) rfl rfl hI rfl (by rcases q_s with rfl | rfl | rfl <;> rfl) (by rcases q_s with rfl | rfl | rfl <;> rfl) rfl (by omega) (by omega) (i32_lo _) (i32_hi _) (i32_ho _) (by rcases q_s with rfl | rfl | rfl <;> rfl) (fun h4 I4 u4 => ?_)
  have f4 := fr_st (F := (F_X0_wearsOut s)) 0 f0 u4 rfl (by omega) (by omega)
  refine te_aload_n (p2 := 16) rfl rfl rfl ?_
  refine tg_r (p2 := 19) (i := s) (r := (16 + (s + 8))) rfl rfl I4 rfl (by rcases q_s with rfl | rfl | rfl <;> rfl) (by rcases q_s with rfl | rfl | rfl <;> rfl) ?_
  refine te_iload_n (p2 := 20) rfl rfl rfl ?_
  refine tl_e (p2 := 21) (i := (s + 8)) (n := 16) (t := 0) (Or.inl rfl) rfl rfl I4 rfl (by rcases q_s with rfl | rfl | rfl <;> rfl) (by omega) (by omega) u4.1 ?_
  refine te_iconst (p2 := 22) (x := 3) rfl rfl (by decide) ?_
  refine te_aload_n (p2 := 23) rfl rfl rfl ?_
  refine tg_i (p2 := 26) (i := s) rfl rfl I4 rfl (by rcases q_s with rfl | rfl | rfl <;> rfl) (by rcases q_s with rfl | rfl | rfl <;> rfl) (fun y6 a6 b6 e6 => ?_)
  refine au_mul (p2 := 27) rfl rfl (fun z7 e7 => ?_)
  refine tb_gt (p2 := 30) rfl rfl rfl rfl (fun c8 => ?_) (fun c8 => ?_)
  · refine te_iconst (p2 := 35) (x := 0) rfl rfl (by decide) ?_
    exact te_zret rfl rfl (by decide) ⟨I4, f4, _, rfl, y1, e1, (u4.1.trans (congrArg (fun t => some (Value.int t)) (show z3 = y1 - wrX h s k.toInt.toNat from (by rw [← r2, e3])))), u4.2, Or.inr ⟨rfl, (by rw [← (show z3 = y1 - wrX h s k.toInt.toNat from (by rw [← r2, e3])), rv_of ((f4 _ _ (by rcases q_s with rfl | rfl | rfl <;> rfl)).symm.trans e6), e7]; omega)⟩⟩
  · refine te_iconst (p2 := 31) (x := 1) rfl rfl (by decide) ?_
    refine te_goto rfl ?_
    exact te_zret rfl rfl (by decide) ⟨I4, f4, _, rfl, y1, e1, (u4.1.trans (congrArg (fun t => some (Value.int t)) (show z3 = y1 - wrX h s k.toInt.toNat from (by rw [← r2, e3])))), u4.2, Or.inl ⟨rfl, (by rw [← (show z3 = y1 - wrX h s k.toInt.toNat from (by rw [← r2, e3])), rv_of ((f4 _ _ (by rcases q_s with rfl | rfl | rfl <;> rfl)).symm.trans e6), e7]; omega)⟩⟩
set_option maxRecDepth 20000 in
set_option maxHeartbeats 4000000 in
theorem c_X12_wears {w : Int32} {h : im_H} (hI : tI h) (p_w0 : 0 ≤ w.toInt) (p_w1 : w.toInt ≤ 15) : CaP 2 153 [.ref 164, .int w] h (fun v h2 => tI h2 ∧ fr F_X12_wears h h2 ∧ ∃ y : Int32, v = some (.int y) ∧ ∃ t : Int32, rd h 149 (124 + w.toInt.toNat) = some (.int t) ∧ rd h2 149 (124 + w.toInt.toNat) = some (.int (t - wrM h w.toInt.toNat)) ∧ (∀ j m, (j ≠ 149 ∨ m ≠ 124 + w.toInt.toNat) → rd h2 j m = rd h j m) ∧ ((y = 1 ∧ (t - wrM h w.toInt.toNat).toInt ≤ (3 * rv h 149 107).toInt) ∨ (y = 0 ∧ ¬ (t - wrM h w.toInt.toNat).toInt ≤ (3 * rv h 149 107).toInt))) := by
  refine cap_of (d := 1) (M := mX12_wears) rfl (Nat.le_of_ble_eq_true rfl) ?_
  show EvP im_K0 1 mX12_wears (0, [(0, .ref 164), (1, .int w)], [], h) _
  have f0 : fr F_X12_wears h h := fr_rf
  refine te_aload_n (p2 := 1) rfl rfl rfl ?_
  refine tg_r (p2 := 4) (i := 148) (r := 165) rfl rfl hI rfl rfl rfl ?_
  refine te_bipush (p2 := 6) (x := 124) rfl rfl (by decide) ?_
  refine te_iload_n (p2 := 7) rfl rfl rfl ?_
  refine ar_add (p2 := 8) rfl rfl (show Int32.toInt 124 = 124 from rfl) rfl (by omega) (by omega) (fun z1 e1 f1 => ?_)
  refine te_dup2 (p2 := 9) rfl rfl ⟨rfl, rfl⟩ ?_
  refine tl_i (p2 := 10) (i := 149) (n := 283) rfl rfl hI rfl rfl rfl rfl (by omega) (by omega) (fun y2 a2 b2 g2 e2 => ?_)
  refine te_aload_n (p2 := 11) rfl rfl rfl ?_
  refine tg_r (p2 := 14) (i := 148) (r := 165) rfl rfl hI rfl rfl rfl ?_
  refine te_bipush (p2 := 16) (x := 106) rfl rfl (by decide) ?_
  refine tl_i (p2 := 17) (i := 149) (n := 283) rfl rfl hI rfl rfl rfl rfl (by decide) (by decide) (fun y3 a3 b3 g3 e3 => ?_)
  refine te_aload_n (p2 := 18) rfl rfl rfl ?_
  refine te_aload_n (p2 := 19) rfl rfl rfl ?_
  refine tg_r (p2 := 22) (i := 148) (r := 183) rfl rfl hI rfl rfl rfl ?_
  refine te_iload_n (p2 := 23) rfl rfl rfl ?_
  refine tl_i (p2 := 24) (i := 167) (n := 16) rfl rfl hI rfl rfl rfl rfl (by omega) (by omega) (fun y4 a4 b4 g4 e4 => ?_)
  refine cV_pI (p2 := 27) (i := 148) rfl rfl rfl rfl hI rfl rfl rfl (c_X12_weakOf (c := y4) hI (by omega) (by omega)) (by decide) (fun y5 r5 => ?_)
  refine au_mul (p2 := 28) rfl rfl (fun z6 e6 => ?_)
  refine te_bipush (p2 := 30) (x := 10) rfl rfl (by decide) ?_
  refine au_div (p2 := 31) rfl rfl (show Int32.toInt 10 = 10 from rfl) (by decide) (fun z7 e7 => ?_)
  refine au_sub (p2 := 32) rfl rfl (fun z8 e8 => ?_)
  refine ts_i (p2 := 33) (i := 149) (n := 283) rfl rfl hI rfl rfl rfl rfl (by omega) (by omega) (i32_lo _) (i32_hi _) (i32_ho _) rfl (fun h9 I9 u9 => ?_)
  have f9 := fr_st (F := F_X12_wears) 0 f0 u9 rfl (by omega) (by omega)
  refine te_aload_n (p2 := 34) rfl rfl rfl ?_
  refine tg_r (p2 := 37) (i := 148) (r := 165) rfl rfl I9 rfl rfl rfl ?_
  refine te_bipush (p2 := 39) (x := 124) rfl rfl (by decide) ?_
  refine te_iload_n (p2 := 40) rfl rfl rfl ?_
  refine ar_add (p2 := 41) rfl rfl (show Int32.toInt 124 = 124 from rfl) rfl (by omega) (by omega) (fun z10 e10 f10 => ?_)
  refine tl_i (p2 := 42) (i := 149) (n := 283) rfl rfl I9 rfl rfl rfl rfl (by omega) (by omega) (fun y11 a11 b11 g11 e11 => ?_)
  refine te_iconst (p2 := 43) (x := 3) rfl rfl (by decide) ?_
  refine te_aload_n (p2 := 44) rfl rfl rfl ?_
  refine tg_r (p2 := 47) (i := 148) (r := 165) rfl rfl I9 rfl rfl rfl ?_
  refine te_bipush (p2 := 49) (x := 107) rfl rfl (by decide) ?_
  refine tl_i (p2 := 50) (i := 149) (n := 283) rfl rfl I9 rfl rfl rfl rfl (by decide) (by decide) (fun y12 a12 b12 g12 e12 => ?_)
  refine au_mul (p2 := 51) rfl rfl (fun z13 e13 => ?_)
  refine tb_gt (p2 := 54) rfl rfl rfl rfl (fun c14 => ?_) (fun c14 => ?_)
  · refine te_iconst (p2 := 59) (x := 0) rfl rfl (by decide) ?_
    have ey15 := congrArg Int32.toInt (int_inj e11 (by rw [show z10.toInt.toNat = z1.toInt.toNat by omega]; exact u9.1))
    exact te_zret rfl rfl (by decide) ⟨I9, f9, _, rfl, y2, (by rw [(show 124 + w.toInt.toNat = z1.toInt.toNat by omega)]; exact e2), (by rw [(show 124 + w.toInt.toNat = z1.toInt.toNat by omega)]; exact u9.1.trans (congrArg (fun t => some (Value.int t)) (show z8 = y2 - wrM h w.toInt.toNat from (by rw [(show wrM h w.toInt.toNat = z7 from (by unfold wrM; rw [(rv_of (k := 106) e3 : rv h 149 106 = y3), rv_of e4, ← r5, e6, e7])), e8])))), (by rw [(show 124 + w.toInt.toNat = z1.toInt.toNat by omega)]; exact u9.2), Or.inr ⟨rfl, (by rw [← (show z8 = y2 - wrM h w.toInt.toNat from (by rw [(show wrM h w.toInt.toNat = z7 from (by unfold wrM; rw [(rv_of (k := 106) e3 : rv h 149 106 = y3), rv_of e4, ← r5, e6, e7])), e8])), (rv_of (k := 107) ((u9.2 _ _ (Or.inr (by (have := (show Int32.toInt 107 = 107 from rfl)); omega))).symm.trans e12) : rv h 149 107 = y12), e13]; omega)⟩⟩
  · refine te_iconst (p2 := 55) (x := 1) rfl rfl (by decide) ?_
    refine te_goto rfl ?_
    have ey16 := congrArg Int32.toInt (int_inj e11 (by rw [show z10.toInt.toNat = z1.toInt.toNat by omega]; exact u9.1))
    exact te_zret rfl rfl (by decide) ⟨I9, f9, _, rfl, y2, (by rw [(show 124 + w.toInt.toNat = z1.toInt.toNat by omega)]; exact e2), (by rw [(show 124 + w.toInt.toNat = z1.toInt.toNat by omega)]; exact u9.1.trans (congrArg (fun t => some (Value.int t)) (show z8 = y2 - wrM h w.toInt.toNat from (by rw [(show wrM h w.toInt.toNat = z7 from (by unfold wrM; rw [(rv_of (k := 106) e3 : rv h 149 106 = y3), rv_of e4, ← r5, e6, e7])), e8])))), (by rw [(show 124 + w.toInt.toNat = z1.toInt.toNat by omega)]; exact u9.2), Or.inl ⟨rfl, (by rw [← (show z8 = y2 - wrM h w.toInt.toNat from (by rw [(show wrM h w.toInt.toNat = z7 from (by unfold wrM; rw [(rv_of (k := 106) e3 : rv h 149 106 = y3), rv_of e4, ← r5, e6, e7])), e8])), (rv_of (k := 107) ((u9.2 _ _ (Or.inr (by (have := (show Int32.toInt 107 = 107 from rfl)); omega))).symm.trans e12) : rv h 149 107 = y12), e13]; omega)⟩⟩
set_option maxRecDepth 20000 in
set_option maxHeartbeats 4000000 in
theorem c_X0_fall {s : Nat} {k : Int32} {h : im_H} (hI : tI h) (q_s : s = 23 ∨ s = 37 ∨ s = 51) (p_k0 : 0 ≤ k.toInt) (p_k1 : k.toInt ≤ 15) : CaP 5 14 [.ref 17, .ref (16 + s), .int k] h (fun v h2 => tI h2 ∧ fr (F_X0_fall s) h h2 ∧ ∃ y : Int32, v = some (.int y) ∧ rd h2 (s + 9) k.toInt.toNat = some (.int 0) ∧ ∀ m, m ≠ k.toInt.toNat → rd h2 (s + 9) m = rd h (s + 9) m) := by
  refine cap_of (d := 4) (M := mX0_fall) rfl (Nat.le_of_ble_eq_true rfl) ?_
  show EvP im_K0 4 mX0_fall (0, [(0, .ref 17), (1, .ref (16 + s)), (2, .int k)], [], h) _
  have f0 : fr (F_X0_fall s) h h := fr_rf
  refine te_aload_n (p2 := 1) rfl rfl rfl ?_
  refine tg_r (p2 := 4) (i := 1) (r := 26) rfl rfl hI rfl rfl rfl ?_
  refine te_iload_n (p2 := 5) rfl rfl rfl ?_
  refine tl_i (p2 := 6) (i := 10) (n := 16) rfl rfl hI rfl rfl rfl rfl (by omega) (by omega) (fun y1 a1 b1 g1 e1 => ?_)
  refine te_istore_n (p2 := 7) (lv2 := [(3, .int y1), (0, .ref 17), (1, .ref (16 + s)), (2, .int k)]) rfl rfl (by decide) rfl ?_
  refine te_iconst (p2 := 8) (x := 0) rfl rfl (by decide) ?_
  refine te_istore (p2 := 10) (lv2 := [(4, .int 0), (3, .int y1), (0, .ref 17), (1, .ref (16 + s)), (2, .int k)]) rfl rfl (by decide) rfl ?_
  refine te_aload_n (p2 := 11) rfl rfl rfl ?_
  refine tg_r (p2 := 14) (i := s) (r := (16 + (s + 9))) rfl rfl hI rfl (by rcases q_s with rfl | rfl | rfl <;> rfl) (by rcases q_s with rfl | rfl | rfl <;> rfl) ?_
  refine te_iload_n (p2 := 15) rfl rfl rfl ?_
  refine te_iconst (p2 := 16) (x := 0) rfl rfl (by decide) ?_
  refine ts_b (p2 := 17) (i := (s + 9)) (n := 16) rfl rfl hI rfl (by rcases q_s with rfl | rfl | rfl <;> rfl) (by rcases q_s with rfl | rfl | rfl <;> rfl) rfl (by omega) (by omega) (by decide) (by decide) (by rcases q_s with rfl | rfl | rfl <;> rfl) (fun h2 I2 u2 => ?_)
  have f2 := fr_st (F := (F_X0_fall s)) 3 f0 u2 rfl (by omega) (by omega)
  refine te_aload_n (p2 := 18) rfl rfl rfl ?_
  refine tg_r (p2 := 21) (i := s) (r := (16 + (s + 2))) rfl rfl I2 rfl (by rcases q_s with rfl | rfl | rfl <;> rfl) (by rcases q_s with rfl | rfl | rfl <;> rfl) ?_
  refine te_iload_n (p2 := 22) rfl rfl rfl ?_
  refine te_dup2 (p2 := 23) rfl rfl ⟨rfl, rfl⟩ ?_
  refine tl_i (p2 := 24) (i := (s + 2)) (n := 100) rfl rfl I2 rfl (by rcases q_s with rfl | rfl | rfl <;> rfl) (by rcases q_s with rfl | rfl | rfl <;> rfl) rfl (by omega) (by omega) (fun y3 a3 b3 g3 e3 => ?_)
  refine te_bipush (p2 := 26) (x := 20) rfl rfl (by decide) ?_
  refine au_add (p2 := 27) rfl rfl (fun z4 e4 => ?_)
  refine ts_i (p2 := 28) (i := (s + 2)) (n := 100) rfl rfl I2 rfl (by rcases q_s with rfl | rfl | rfl <;> rfl) (by rcases q_s with rfl | rfl | rfl <;> rfl) rfl (by omega) (by omega) (i32_lo _) (i32_hi _) (i32_ho _) (by rcases q_s with rfl | rfl | rfl <;> rfl) (fun h5 I5 u5 => ?_)
  have f5 := fr_st (F := (F_X0_fall s)) 0 f2 u5 rfl (by omega) (by omega)
  refine te_iconst (p2 := 29) (x := 0) rfl rfl (by decide) ?_
  refine te_istore (p2 := 31) (lv2 := [(5, .int 0), (4, .int 0), (3, .int y1), (0, .ref 17), (1, .ref (16 + s)), (2, .int k)]) rfl rfl (by decide) rfl ?_
  have lp6 : ∀ (n6 : Nat) (v6_4 v6_5 : Int32) (h6 : im_H), tI h6 → fr (F_X0_fall s) h h6 → 0 ≤ v6_5.toInt → v6_5.toInt ≤ 24 → (∀ m : Nat, rd h6 (s + 9) m = rd h5 (s + 9) m) → 24 - v6_5.toInt < (n6 : Int) → EvP im_K0 4 mX0_fall (31, [(0, .ref 17), (1, .ref (16 + s)), (2, .int k), (3, .int y1), (4, .int v6_4), (5, .int v6_5)], [], h6) (fun v h2 => tI h2 ∧ fr (F_X0_fall s) h h2 ∧ ∃ y : Int32, v = some (.int y) ∧ rd h2 (s + 9) k.toInt.toNat = some (.int 0) ∧ ∀ m, m ≠ k.toInt.toNat → rd h2 (s + 9) m = rd h (s + 9) m) := by
    intro n6
    induction n6 with
    | zero => intro v6_4 v6_5 h6 I6 f6 a6_5 b6_5 w6_0 m6; exfalso; omega
    | succ n6 ih6 =>
      intro v6_4 v6_5 h6 I6 f6 a6_5 b6_5 w6_0 m6
      refine te_iload (p2 := 33) rfl rfl rfl ?_
      refine te_aload_n (p2 := 34) rfl rfl rfl ?_
      refine tg_i (p2 := 37) (i := 1) rfl rfl I6 rfl rfl rfl (fun y7 a7 b7 e7 => ?_)
      refine tb_ge (p2 := 40) rfl rfl rfl rfl (fun c8 => ?_) (fun c8 => ?_)
      · refine te_iload (p2 := 106) rfl rfl rfl ?_
        exact te_iret rfl rfl ⟨I6, f6, _, rfl, ((w6_0 _).trans ((u5.2 _ _ (Or.inl (by omega))).trans (u2.1))), (fun m hm => (w6_0 m).trans ((u5.2 _ _ (Or.inl (by omega))).trans (u2.2 _ _ (Or.inr hm))))⟩
      · refine te_aload_n (p2 := 41) rfl rfl rfl ?_
        refine te_aload_n (p2 := 42) rfl rfl rfl ?_
        refine te_iload (p2 := 44) rfl rfl rfl ?_
        refine cV_mI (p2 := 47) (i := 1) rfl rfl rfl rfl I6 rfl rfl rfl (t_X0_cellByDay (s := s) (p := v6_5) I6 q_s (by omega) (by omega)) (by decide) (fun y9 h9 I9 g9 r9 => ?_)
        have f9 := fr_tr (F1 := F_X0_cellByDay) (F := (F_X0_fall s)) f6 g9 (by rcases q_s with rfl | rfl | rfl <;> decide)
        refine te_iload_n (p2 := 48) rfl rfl rfl ?_
        refine tb_ne (p2 := 51) rfl rfl rfl rfl (fun c10 => ?_) (fun c10 => ?_)
        · refine ar_inc (p2 := 101) (x := v6_5) rfl rfl (by decide) rfl (by decide) rfl (by omega) (by omega) (fun z11 e11 f11 => ?_)
          show EvP _ _ _ (101, [(5, .int z11), (0, .ref 17), (1, .ref (16 + s)), (2, .int k), (3, .int y1), (4, .int v6_4)], [], h9) _
          refine te_goto rfl ?_
          refine te_lv [(0, .ref 17), (1, .ref (16 + s)), (2, .int k), (3, .int y1), (4, .int v6_4), (5, .int z11)] rfl rfl ⟨rfl, rfl, rfl, rfl, rfl, rfl, trivial⟩ ?_
          exact ih6 v6_4 z11 h9 I9 f9 (by omega) (by omega) (fun m => ((g9 _ _ (by rcases q_s with rfl | rfl | rfl <;> rfl)).trans (w6_0 m))) (by omega)
        · refine te_aload_n (p2 := 52) rfl rfl rfl ?_
          refine tg_r (p2 := 55) (i := s) (r := (16 + (s + 4))) rfl rfl I9 rfl (by rcases q_s with rfl | rfl | rfl <;> rfl) (by rcases q_s with rfl | rfl | rfl <;> rfl) ?_
          refine te_iload (p2 := 57) rfl rfl rfl ?_
          refine te_dup2 (p2 := 58) rfl rfl ⟨rfl, rfl⟩ ?_
          refine tl_i (p2 := 59) (i := (s + 4)) (n := 24) rfl rfl I9 rfl (by rcases q_s with rfl | rfl | rfl <;> rfl) (by rcases q_s with rfl | rfl | rfl <;> rfl) rfl (by omega) (by omega) (fun y12 a12 b12 g12 e12 => ?_)
          refine te_iconst (p2 := 60) (x := 3) rfl rfl (by decide) ?_
          refine au_add (p2 := 61) rfl rfl (fun z13 e13 => ?_)
          refine ts_i (p2 := 62) (i := (s + 4)) (n := 24) rfl rfl I9 rfl (by rcases q_s with rfl | rfl | rfl <;> rfl) (by rcases q_s with rfl | rfl | rfl <;> rfl) rfl (by omega) (by omega) (i32_lo _) (i32_hi _) (i32_ho _) (by rcases q_s with rfl | rfl | rfl <;> rfl) (fun h14 I14 u14 => ?_)
          have f14 := fr_st (F := (F_X0_fall s)) 1 f9 u14 rfl (by omega) (by omega)
          refine au_inc (p2 := 65) (x := v6_4) rfl rfl (by decide) rfl (fun z15 e15 => ?_)
          show EvP _ _ _ (65, [(4, .int z15), (0, .ref 17), (1, .ref (16 + s)), (2, .int k), (3, .int y1), (5, .int v6_5)], [], h14) _
          refine te_aload_n (p2 := 66) rfl rfl rfl ?_
          refine tg_r (p2 := 69) (i := s) (r := (16 + (s + 4))) rfl rfl I14 rfl (by rcases q_s with rfl | rfl | rfl <;> rfl) (by rcases q_s with rfl | rfl | rfl <;> rfl) ?_
          refine te_iload (p2 := 71) rfl rfl rfl ?_
          refine tl_e (p2 := 72) (i := (s + 4)) (n := 24) (t := 0) (Or.inl rfl) rfl rfl I14 rfl (by rcases q_s with rfl | rfl | rfl <;> rfl) (by omega) (by omega) u14.1 ?_
          refine te_bipush (p2 := 74) (x := 9) rfl rfl (by decide) ?_
          refine tb_lt (p2 := 77) rfl rfl rfl (show Int32.toInt 9 = 9 from rfl) (fun c17 => ?_) (fun c17 => ?_)
          · refine ar_inc (p2 := 101) (x := v6_5) rfl rfl (by decide) rfl (by decide) rfl (by omega) (by omega) (fun z18 e18 f18 => ?_)
            show EvP _ _ _ (101, [(5, .int z18), (4, .int z15), (0, .ref 17), (1, .ref (16 + s)), (2, .int k), (3, .int y1)], [], h14) _
            refine te_goto rfl ?_
            refine te_lv [(0, .ref 17), (1, .ref (16 + s)), (2, .int k), (3, .int y1), (4, .int z15), (5, .int z18)] rfl rfl ⟨rfl, rfl, rfl, rfl, rfl, rfl, trivial⟩ ?_
            exact ih6 z15 z18 h14 I14 f14 (by omega) (by omega) (fun m => ((u14.2 _ _ (Or.inl (by omega))).trans ((g9 _ _ (by rcases q_s with rfl | rfl | rfl <;> rfl)).trans (w6_0 m)))) (by omega)
          · refine te_aload_n (p2 := 78) rfl rfl rfl ?_
            refine tg_r (p2 := 81) (i := s) (r := (16 + (s + 7))) rfl rfl I14 rfl (by rcases q_s with rfl | rfl | rfl <;> rfl) (by rcases q_s with rfl | rfl | rfl <;> rfl) ?_
            refine te_iload (p2 := 83) rfl rfl rfl ?_
            refine tl_b (p2 := 84) (i := (s + 7)) (n := 24) rfl rfl I14 rfl (by rcases q_s with rfl | rfl | rfl <;> rfl) (by rcases q_s with rfl | rfl | rfl <;> rfl) rfl (by omega) (by omega) (fun y19 a19 e19 => ?_)
            refine tz_ne (p2 := 87) rfl rfl rfl (fun c20 => ?_) (fun c20 => ?_)
            · refine ar_inc (p2 := 101) (x := v6_5) rfl rfl (by decide) rfl (by decide) rfl (by omega) (by omega) (fun z21 e21 f21 => ?_)
              show EvP _ _ _ (101, [(5, .int z21), (4, .int z15), (0, .ref 17), (1, .ref (16 + s)), (2, .int k), (3, .int y1)], [], h14) _
              refine te_goto rfl ?_
              refine te_lv [(0, .ref 17), (1, .ref (16 + s)), (2, .int k), (3, .int y1), (4, .int z15), (5, .int z21)] rfl rfl ⟨rfl, rfl, rfl, rfl, rfl, rfl, trivial⟩ ?_
              exact ih6 z15 z21 h14 I14 f14 (by omega) (by omega) (fun m => ((u14.2 _ _ (Or.inl (by omega))).trans ((g9 _ _ (by rcases q_s with rfl | rfl | rfl <;> rfl)).trans (w6_0 m)))) (by omega)
            · refine te_aload_n (p2 := 88) rfl rfl rfl ?_
              refine tg_r (p2 := 91) (i := s) (r := (16 + (s + 7))) rfl rfl I14 rfl (by rcases q_s with rfl | rfl | rfl <;> rfl) (by rcases q_s with rfl | rfl | rfl <;> rfl) ?_
              refine te_iload (p2 := 93) rfl rfl rfl ?_
              refine te_iconst (p2 := 94) (x := 1) rfl rfl (by decide) ?_
              refine ts_b (p2 := 95) (i := (s + 7)) (n := 24) rfl rfl I14 rfl (by rcases q_s with rfl | rfl | rfl <;> rfl) (by rcases q_s with rfl | rfl | rfl <;> rfl) rfl (by omega) (by omega) (by decide) (by decide) (by rcases q_s with rfl | rfl | rfl <;> rfl) (fun h22 I22 u22 => ?_)
              have f22 := fr_st (F := (F_X0_fall s)) 2 f14 u22 rfl (by omega) (by omega)
              refine au_inc (p2 := 98) (x := z15) rfl rfl (by decide) rfl (fun z23 e23 => ?_)
              show EvP _ _ _ (98, [(4, .int z23), (0, .ref 17), (1, .ref (16 + s)), (2, .int k), (3, .int y1), (5, .int v6_5)], [], h22) _
              refine ar_inc (p2 := 101) (x := v6_5) rfl rfl (by decide) rfl (by decide) rfl (by omega) (by omega) (fun z24 e24 f24 => ?_)
              show EvP _ _ _ (101, [(5, .int z24), (4, .int z23), (0, .ref 17), (1, .ref (16 + s)), (2, .int k), (3, .int y1)], [], h22) _
              refine te_goto rfl ?_
              refine te_lv [(0, .ref 17), (1, .ref (16 + s)), (2, .int k), (3, .int y1), (4, .int z23), (5, .int z24)] rfl rfl ⟨rfl, rfl, rfl, rfl, rfl, rfl, trivial⟩ ?_
              exact ih6 z23 z24 h22 I22 f22 (by omega) (by omega) (fun m => ((u22.2 _ _ (Or.inl (by omega))).trans ((u14.2 _ _ (Or.inl (by omega))).trans ((g9 _ _ (by rcases q_s with rfl | rfl | rfl <;> rfl)).trans (w6_0 m))))) (by omega)
  refine te_lv [(0, .ref 17), (1, .ref (16 + s)), (2, .int k), (3, .int y1), (4, .int 0), (5, .int 0)] rfl rfl ⟨rfl, rfl, rfl, rfl, rfl, rfl, trivial⟩ ?_
  exact lp6 25 0 0 h5 I5 f5 (by decide) (by decide) (fun m => rfl) (by have cc0 := (show Int32.toInt 0 = 0 from rfl); omega)
set_option maxRecDepth 20000 in
set_option maxHeartbeats 4000000 in
theorem c_X12_falls {w : Int32} {h : im_H} (hI : tI h) (p_w0 : 0 ≤ w.toInt) (p_w1 : w.toInt ≤ 15) : CaP 7 152 [.ref 164, .int w] h (fun v h2 => tI h2 ∧ fr F_X12_falls h h2 ∧ v = none ∧ rd h2 149 (108 + w.toInt.toNat) = some (.int 0) ∧ ∀ m : Nat, 108 ≤ m → m < 124 → m ≠ 108 + w.toInt.toNat → rd h2 149 m = rd h 149 m) := by
  refine cap_of (d := 6) (M := mX12_falls) rfl (Nat.le_of_ble_eq_true rfl) ?_
  show EvP im_K0 6 mX12_falls (0, [(0, .ref 164), (1, .int w)], [], h) _
  have f0 : fr F_X12_falls h h := fr_rf
  refine te_aload_n (p2 := 1) rfl rfl rfl ?_
  refine tg_r (p2 := 4) (i := 148) (r := 184) rfl rfl hI rfl rfl rfl ?_
  refine te_iload_n (p2 := 5) rfl rfl rfl ?_
  refine tl_i (p2 := 6) (i := 168) (n := 16) rfl rfl hI rfl rfl rfl rfl (by omega) (by omega) (fun y1 a1 b1 g1 e1 => ?_)
  refine te_istore_n (p2 := 7) (lv2 := [(2, .int y1), (0, .ref 164), (1, .int w)]) rfl rfl (by decide) rfl ?_
  refine te_aload_n (p2 := 8) rfl rfl rfl ?_
  refine tg_r (p2 := 11) (i := 148) (r := 165) rfl rfl hI rfl rfl rfl ?_
  refine te_bipush (p2 := 13) (x := 108) rfl rfl (by decide) ?_
  refine te_iload_n (p2 := 14) rfl rfl rfl ?_
  refine ar_add (p2 := 15) rfl rfl (show Int32.toInt 108 = 108 from rfl) rfl (by omega) (by omega) (fun z2 e2 f2 => ?_)
  refine te_iconst (p2 := 16) (x := 0) rfl rfl (by decide) ?_
  refine ts_i (p2 := 17) (i := 149) (n := 283) rfl rfl hI rfl rfl rfl rfl (by omega) (by omega) (i32_lo _) (i32_hi _) (i32_ho _) rfl (fun h3 I3 u3 => ?_)
  have f3 := fr_st (F := F_X12_falls) 2 f0 u3 rfl (by omega) (by omega)
  refine te_aload_n (p2 := 18) rfl rfl rfl ?_
  refine tg_r (p2 := 21) (i := 148) (r := 165) rfl rfl I3 rfl rfl rfl ?_
  refine te_iload_n (p2 := 22) rfl rfl rfl ?_
  refine te_dup2 (p2 := 23) rfl rfl ⟨rfl, rfl⟩ ?_
  refine tl_i (p2 := 24) (i := 149) (n := 283) rfl rfl I3 rfl rfl rfl rfl (by omega) (by omega) (fun y4 a4 b4 g4 e4 => ?_)
  refine te_bipush (p2 := 26) (x := 20) rfl rfl (by decide) ?_
  refine au_add (p2 := 27) rfl rfl (fun z5 e5 => ?_)
  refine ts_i (p2 := 28) (i := 149) (n := 283) rfl rfl I3 rfl rfl rfl rfl (by omega) (by omega) (i32_lo _) (i32_hi _) (i32_ho _) rfl (fun h6 I6 u6 => ?_)
  have f6 := fr_st (F := F_X12_falls) 1 f3 u6 rfl (by omega) (by omega)
  refine te_aload_n (p2 := 29) rfl rfl rfl ?_
  refine te_iconst (p2 := 30) (x := 0) rfl rfl (by decide) ?_
  refine tp_i (p2 := 33) (i := 148) rfl rfl I6 rfl rfl (by decide) rfl rfl rfl (i32_lo _) (i32_hi _) (i32_ho _) rfl (fun h7 I7 u7 => ?_)
  have f7 := fr_st (F := F_X12_falls) 0 f6 u7 rfl (by decide) (by decide)
  refine te_aload_n (p2 := 34) rfl rfl rfl ?_
  refine te_iconst (p2 := 35) (x := 0) rfl rfl (by decide) ?_
  refine tp_i (p2 := 38) (i := 148) rfl rfl I7 rfl rfl (by decide) rfl rfl rfl (i32_lo _) (i32_hi _) (i32_ho _) rfl (fun h8 I8 u8 => ?_)
  have f8 := fr_st (F := F_X12_falls) 0 f7 u8 rfl (by decide) (by decide)
  refine te_iconst (p2 := 39) (x := 0) rfl rfl (by decide) ?_
  refine te_istore_n (p2 := 40) (lv2 := [(3, .int 0), (2, .int y1), (0, .ref 164), (1, .int w)]) rfl rfl (by decide) rfl ?_
  have lp9 : ∀ (n9 : Nat) (v9_3 : Int32) (h9 : im_H), tI h9 → fr F_X12_falls h h9 → 0 ≤ v9_3.toInt → v9_3.toInt ≤ 24 → (∀ m : Nat, 108 ≤ m → m < 124 → rd h9 149 m = rd h8 149 m) → 24 - v9_3.toInt < (n9 : Int) → EvP im_K0 6 mX12_falls (40, [(0, .ref 164), (1, .int w), (2, .int y1), (3, .int v9_3)], [], h9) (fun v h2 => tI h2 ∧ fr F_X12_falls h h2 ∧ v = none ∧ rd h2 149 (108 + w.toInt.toNat) = some (.int 0) ∧ ∀ m : Nat, 108 ≤ m → m < 124 → m ≠ 108 + w.toInt.toNat → rd h2 149 m = rd h 149 m) := by
    intro n9
    induction n9 with
    | zero => intro v9_3 h9 I9 f9 a9_3 b9_3 w9_0 m9; exfalso; omega
    | succ n9 ih9 =>
      intro v9_3 h9 I9 f9 a9_3 b9_3 w9_0 m9
      refine te_iload_n (p2 := 41) rfl rfl rfl ?_
      refine te_aload_n (p2 := 42) rfl rfl rfl ?_
      refine tg_i (p2 := 45) (i := 148) rfl rfl I9 rfl rfl rfl (fun y10 a10 b10 e10 => ?_)
      refine tb_ge (p2 := 48) rfl rfl rfl rfl (fun c11 => ?_) (fun c11 => ?_)
      · exact te_vret rfl rfl ⟨I9, f9, rfl, (by rw [show 108 + w.toInt.toNat = z2.toInt.toNat by omega]; exact (w9_0 _ (by omega) (by omega)).trans ((u8.2 _ _ (Or.inl (by decide))).trans ((u7.2 _ _ (Or.inl (by decide))).trans ((u6.2 _ _ (Or.inr (by omega))).trans (u3.1))))), (fun m h0 h1 hm => (w9_0 m h0 h1).trans ((u8.2 _ _ (Or.inl (by decide))).trans ((u7.2 _ _ (Or.inl (by decide))).trans ((u6.2 _ _ (Or.inr (by omega))).trans (u3.2 _ _ (Or.inr (by omega)))))))⟩
      · refine te_aload_n (p2 := 49) rfl rfl rfl ?_
        refine tg_r (p2 := 52) (i := 148) (r := 165) rfl rfl I9 rfl rfl rfl ?_
        refine te_sipush (p2 := 55) (x := 236) rfl rfl (by decide) ?_
        refine te_iload_n (p2 := 56) rfl rfl rfl ?_
        refine ar_add (p2 := 57) rfl rfl (show Int32.toInt 236 = 236 from rfl) rfl (by omega) (by omega) (fun z12 e12 f12 => ?_)
        refine tl_i (p2 := 58) (i := 149) (n := 283) rfl rfl I9 rfl rfl rfl rfl (by omega) (by omega) (fun y13 a13 b13 g13 e13 => ?_)
        refine tz_ne (p2 := 61) rfl rfl rfl (fun c14 => ?_) (fun c14 => ?_)
        · refine ar_inc (p2 := 133) (x := v9_3) rfl rfl (by decide) rfl (by decide) rfl (by omega) (by omega) (fun z15 e15 f15 => ?_)
          show EvP _ _ _ (133, [(3, .int z15), (0, .ref 164), (1, .int w), (2, .int y1)], [], h9) _
          refine te_goto rfl ?_
          refine te_lv [(0, .ref 164), (1, .int w), (2, .int y1), (3, .int z15)] rfl rfl ⟨rfl, rfl, rfl, rfl, trivial⟩ ?_
          exact ih9 z15 h9 I9 f9 (by omega) (by omega) (fun m h0 h1 => (w9_0 m h0 h1)) (by omega)
        · refine te_aload_n (p2 := 62) rfl rfl rfl ?_
          refine te_iload_n (p2 := 63) rfl rfl rfl ?_
          refine cV_pI (p2 := 66) (i := 148) rfl rfl rfl rfl I9 rfl rfl rfl (t_X12_isAt (k := v9_3) I9 (by omega) (by omega)) (by decide) (fun y16 r16 => ?_)
          refine te_iload_n (p2 := 67) rfl rfl rfl ?_
          refine tb_ne (p2 := 70) rfl rfl rfl rfl (fun c17 => ?_) (fun c17 => ?_)
          · refine ar_inc (p2 := 133) (x := v9_3) rfl rfl (by decide) rfl (by decide) rfl (by omega) (by omega) (fun z18 e18 f18 => ?_)
            show EvP _ _ _ (133, [(3, .int z18), (0, .ref 164), (1, .int w), (2, .int y1)], [], h9) _
            refine te_goto rfl ?_
            refine te_lv [(0, .ref 164), (1, .int w), (2, .int y1), (3, .int z18)] rfl rfl ⟨rfl, rfl, rfl, rfl, trivial⟩ ?_
            exact ih9 z18 h9 I9 f9 (by omega) (by omega) (fun m h0 h1 => (w9_0 m h0 h1)) (by omega)
          · refine te_aload_n (p2 := 71) rfl rfl rfl ?_
            refine tg_r (p2 := 74) (i := 148) (r := 165) rfl rfl I9 rfl rfl rfl ?_
            refine te_sipush (p2 := 77) (x := 164) rfl rfl (by decide) ?_
            refine te_iload_n (p2 := 78) rfl rfl rfl ?_
            refine ar_add (p2 := 79) rfl rfl (show Int32.toInt 164 = 164 from rfl) rfl (by omega) (by omega) (fun z19 e19 f19 => ?_)
            refine te_dup2 (p2 := 80) rfl rfl ⟨rfl, rfl⟩ ?_
            refine tl_i (p2 := 81) (i := 149) (n := 283) rfl rfl I9 rfl rfl rfl rfl (by omega) (by omega) (fun y20 a20 b20 g20 e20 => ?_)
            refine te_iconst (p2 := 82) (x := 3) rfl rfl (by decide) ?_
            refine au_add (p2 := 83) rfl rfl (fun z21 e21 => ?_)
            refine ts_i (p2 := 84) (i := 149) (n := 283) rfl rfl I9 rfl rfl rfl rfl (by omega) (by omega) (i32_lo _) (i32_hi _) (i32_ho _) rfl (fun h22 I22 u22 => ?_)
            have f22 := fr_st (F := F_X12_falls) 3 f9 u22 rfl (by omega) (by omega)
            refine te_aload_n (p2 := 85) rfl rfl rfl ?_
            refine te_dup (p2 := 86) rfl rfl rfl ?_
            refine tg_i (p2 := 89) (i := 148) rfl rfl I22 rfl rfl rfl (fun y23 a23 b23 e23 => ?_)
            refine te_iconst (p2 := 90) (x := 3) rfl rfl (by decide) ?_
            refine au_add (p2 := 91) rfl rfl (fun z24 e24 => ?_)
            refine tp_i (p2 := 94) (i := 148) rfl rfl I22 rfl rfl (by decide) rfl rfl rfl (i32_lo _) (i32_hi _) (i32_ho _) rfl (fun h25 I25 u25 => ?_)
            have f25 := fr_st (F := F_X12_falls) 0 f22 u25 rfl (by decide) (by decide)
            refine te_aload_n (p2 := 95) rfl rfl rfl ?_
            refine tg_r (p2 := 98) (i := 148) (r := 165) rfl rfl I25 rfl rfl rfl ?_
            refine te_sipush (p2 := 101) (x := 164) rfl rfl (by decide) ?_
            refine te_iload_n (p2 := 102) rfl rfl rfl ?_
            refine ar_add (p2 := 103) rfl rfl (show Int32.toInt 164 = 164 from rfl) rfl (by omega) (by omega) (fun z26 e26 f26 => ?_)
            refine tl_i (p2 := 104) (i := 149) (n := 283) rfl rfl I25 rfl rfl rfl rfl (by omega) (by omega) (fun y27 a27 b27 g27 e27 => ?_)
            refine te_bipush (p2 := 106) (x := 9) rfl rfl (by decide) ?_
            refine tb_lt (p2 := 109) rfl rfl rfl (show Int32.toInt 9 = 9 from rfl) (fun c28 => ?_) (fun c28 => ?_)
            · refine ar_inc (p2 := 133) (x := v9_3) rfl rfl (by decide) rfl (by decide) rfl (by omega) (by omega) (fun z29 e29 f29 => ?_)
              show EvP _ _ _ (133, [(3, .int z29), (0, .ref 164), (1, .int w), (2, .int y1)], [], h25) _
              refine te_goto rfl ?_
              refine te_lv [(0, .ref 164), (1, .int w), (2, .int y1), (3, .int z29)] rfl rfl ⟨rfl, rfl, rfl, rfl, trivial⟩ ?_
              exact ih9 z29 h25 I25 f25 (by omega) (by omega) (fun m h0 h1 => ((u25.2 _ _ (Or.inl (by decide))).trans ((u22.2 _ _ (Or.inr (by omega))).trans (w9_0 m h0 h1)))) (by omega)
            · refine te_aload_n (p2 := 110) rfl rfl rfl ?_
              refine tg_r (p2 := 113) (i := 148) (r := 165) rfl rfl I25 rfl rfl rfl ?_
              refine te_sipush (p2 := 116) (x := 236) rfl rfl (by decide) ?_
              refine te_iload_n (p2 := 117) rfl rfl rfl ?_
              refine ar_add (p2 := 118) rfl rfl (show Int32.toInt 236 = 236 from rfl) rfl (by omega) (by omega) (fun z30 e30 f30 => ?_)
              refine te_iconst (p2 := 119) (x := 1) rfl rfl (by decide) ?_
              refine ts_i (p2 := 120) (i := 149) (n := 283) rfl rfl I25 rfl rfl rfl rfl (by omega) (by omega) (i32_lo _) (i32_hi _) (i32_ho _) rfl (fun h31 I31 u31 => ?_)
              have f31 := fr_st (F := F_X12_falls) 4 f25 u31 rfl (by omega) (by omega)
              refine te_aload_n (p2 := 121) rfl rfl rfl ?_
              refine te_dup (p2 := 122) rfl rfl rfl ?_
              refine tg_i (p2 := 125) (i := 148) rfl rfl I31 rfl rfl rfl (fun y32 a32 b32 e32 => ?_)
              refine te_iconst (p2 := 126) (x := 1) rfl rfl (by decide) ?_
              refine au_add (p2 := 127) rfl rfl (fun z33 e33 => ?_)
              refine tp_i (p2 := 130) (i := 148) rfl rfl I31 rfl rfl (by decide) rfl rfl rfl (i32_lo _) (i32_hi _) (i32_ho _) rfl (fun h34 I34 u34 => ?_)
              have f34 := fr_st (F := F_X12_falls) 0 f31 u34 rfl (by decide) (by decide)
              refine ar_inc (p2 := 133) (x := v9_3) rfl rfl (by decide) rfl (by decide) rfl (by omega) (by omega) (fun z35 e35 f35 => ?_)
              show EvP _ _ _ (133, [(3, .int z35), (0, .ref 164), (1, .int w), (2, .int y1)], [], h34) _
              refine te_goto rfl ?_
              refine te_lv [(0, .ref 164), (1, .int w), (2, .int y1), (3, .int z35)] rfl rfl ⟨rfl, rfl, rfl, rfl, trivial⟩ ?_
              exact ih9 z35 h34 I34 f34 (by omega) (by omega) (fun m h0 h1 => ((u34.2 _ _ (Or.inl (by decide))).trans ((u31.2 _ _ (Or.inr (by omega))).trans ((u25.2 _ _ (Or.inl (by decide))).trans ((u22.2 _ _ (Or.inr (by omega))).trans (w9_0 m h0 h1)))))) (by omega)
  refine te_lv [(0, .ref 164), (1, .int w), (2, .int y1), (3, .int 0)] rfl rfl ⟨rfl, rfl, rfl, rfl, trivial⟩ ?_
  exact lp9 25 0 h8 I8 f8 (by decide) (by decide) (fun m _ _ => rfl) (by have cc0 := (show Int32.toInt 0 = 0 from rfl); omega)
def dS (W S U : Nat → Int32) (m : Nat) : Int32 := if (U m).toInt = 1 then S m - W m else S m
def dU (W : Nat → Int32) (g : Int32) (S U : Nat → Int32) (m : Nat) : Int32 := if (U m).toInt = 1 ∧ (S m - W m).toInt ≤ g.toInt then 0 else U m
def wl (A B : im_H → Nat → Option Value) (W : Nat → Int32) (g : Int32) (S U : Nat → Int32) (n : Int) (H : im_H) : Prop := ∀ m : Nat, m < 16 → A H m = some (.int (if (m : Int) < n then dS W S U m else S m)) ∧ B H m = some (.int (if (m : Int) < n then dU W g S U m else U m))
theorem wl_0 {A B : im_H → Nat → Option Value} {W : Nat → Int32} {g : Int32} {S U : Nat → Int32} {H : im_H} {n : Int} (hn : n ≤ 0) (h : ∀ m : Nat, m < 16 → A H m = some (.int (S m)) ∧ B H m = some (.int (U m))) : wl A B W g S U n H := by
  intro m hm
  rw [if_neg (by omega), if_neg (by omega)]
  exact h m hm
theorem wl_k {A B : im_H → Nat → Option Value} {W : Nat → Int32} {g : Int32} {S U : Nat → Int32} {H H1 : im_H} {n n2 : Int} (w : wl A B W g S U n H) (hn : n2 = n) (k : ∀ m : Nat, m < 16 → A H1 m = A H m ∧ B H1 m = B H m) : wl A B W g S U n2 H1 := by
  intro m hm
  rw [hn, (k m hm).1, (k m hm).2]
  exact w m hm
theorem wl_a {A B : im_H → Nat → Option Value} {W : Nat → Int32} {g y : Int32} {S U : Nat → Int32} {H : im_H} {k : Nat} {n n2 : Int} (w : wl A B W g S U n H) (hn : (k : Int) = n) (h2 : n2 = n + 1) (hk : k < 16) (e : B H k = some (.int y)) (hy : y.toInt ≠ 1) : wl A B W g S U n2 H := by
  intro m hm
  obtain ⟨a, b⟩ := w m hm
  by_cases hc : m = k
  · subst hc
    rw [if_neg (by omega)] at a b
    have eu : U m = y := int_inj b e
    rw [if_pos (by omega), if_pos (by omega)]
    unfold dS dU
    rw [eu, if_neg hy, if_neg (fun h => hy h.1)]
    exact ⟨a, e⟩
  · by_cases h3 : (m : Int) < n
    · rw [if_pos h3] at a b
      rw [if_pos (by omega), if_pos (by omega)]
      exact ⟨a, b⟩
    · rw [if_neg h3] at a b
      rw [if_neg (by omega), if_neg (by omega)]
      exact ⟨a, b⟩
theorem wl_b {A B : im_H → Nat → Option Value} {W : Nat → Int32} {g y t : Int32} {S U : Nat → Int32} {H H1 : im_H} {k : Nat} {n n2 : Int} (w : wl A B W g S U n H) (hn : (k : Int) = n) (h2 : n2 = n + 1) (hk : k < 16) (e : B H k = some (.int y)) (hy : y.toInt = 1) (et : A H k = some (.int t)) (n1 : A H1 k = some (.int (t - W k))) (kA : ∀ m, m ≠ k → m < 16 → A H1 m = A H m) (kB : ∀ m, m ≠ k → m < 16 → B H1 m = B H m) (hc : ((t - W k).toInt ≤ g.toInt → B H1 k = some (.int 0)) ∧ (¬ (t - W k).toInt ≤ g.toInt → B H1 k = B H k)) : wl A B W g S U n2 H1 := by
  intro m hm
  obtain ⟨a, b⟩ := w m hm
  by_cases hq : m = k
  · subst hq
    rw [if_neg (by omega)] at a b
    have eu : U m = y := int_inj b e
    have es : S m = t := int_inj a et
    rw [if_pos (by omega), if_pos (by omega)]
    unfold dS dU
    rw [eu, es, if_pos hy]
    by_cases h3 : (t - W m).toInt ≤ g.toInt
    · rw [if_pos ⟨hy, h3⟩]; exact ⟨n1, hc.1 h3⟩
    · rw [if_neg (fun h => h3 h.2)]; exact ⟨n1, (hc.2 h3).trans e⟩
  · rw [kA m hq hm, kB m hq hm]
    by_cases h3 : (m : Int) < n
    · rw [if_pos h3] at a b
      rw [if_pos (by omega), if_pos (by omega)]
      exact ⟨a, b⟩
    · rw [if_neg h3] at a b
      rw [if_neg (by omega), if_neg (by omega)]
      exact ⟨a, b⟩
theorem rv_eq {h h2 : im_H} {i k : Nat} (e : rd h2 i k = rd h i k) : rv h2 i k = rv h i k := by
  unfold rv
  rw [e]
def stW (W : Nat → Int32) (g : Int32) (n : Int) (p : (Nat → Int32) × (Nat → Int32)) : (Nat → Int32) × (Nat → Int32) := (fun m => if (m : Int) < n then dS W p.1 p.2 m else p.1 m, fun m => if (m : Int) < n then dU W g p.1 p.2 m else p.2 m)
def itW (W : Nat → Int32) (g : Int32) (n : Int) (S U : Nat → Int32) : Nat → (Nat → Int32) × (Nat → Int32)
  | 0 => (S, U)
  | d + 1 => stW W g n (itW W g n S U d)
def iw (A B : im_H → Nat → Option Value) (W : Nat → Int32) (g : Int32) (n : Int) (S U : Nat → Int32) (d : Nat) (H : im_H) : Prop := ∀ m : Nat, m < 16 → A H m = some (.int ((itW W g n S U d).1 m)) ∧ B H m = some (.int ((itW W g n S U d).2 m))
theorem iw_s {A B : im_H → Nat → Option Value} {W W2 : Nat → Int32} {g g2 : Int32} {n n2 : Int} {S U S2 U2 : Nat → Int32} {d d2 : Nat} {H H2 : im_H} (w : iw A B W g n S U d H) (hd : d2 = d + 1) (p : wl A B W2 g2 S2 U2 n2 H2) (hW : ∀ m, W2 m = W m) (hg : g2 = g) (hn : n2 = n) (hS : ∀ m x, m < 16 → A H m = some (.int x) → S2 m = x) (hU : ∀ m x, m < 16 → B H m = some (.int x) → U2 m = x) : iw A B W g n S U d2 H2 := by
  subst hd hg hn
  intro m hm
  obtain ⟨a, b⟩ := p m hm
  have e1 := hS m _ hm (w m hm).1
  have e2 := hU m _ hm (w m hm).2
  rw [a, b]
  show some (Value.int _) = some (Value.int (if (m : Int) < n2 then dS W _ _ m else _)) ∧ some (Value.int _) = some (Value.int (if (m : Int) < n2 then dU W g2 _ _ m else _))
  unfold dS dU
  rw [hW m, e1, e2]
  exact ⟨rfl, rfl⟩
abbrev AX (s : Nat) (H : im_H) (m : Nat) : Option Value := rd H (s + 8) m
abbrev BX (s : Nat) (H : im_H) (m : Nat) : Option Value := rd H (s + 9) m
abbrev wlX (h : im_H) (s : Nat) (n : Int) (H : im_H) : Prop := wl (AX s) (BX s) (wrX h s) (3 * rv h s 2) (rv h (s + 8)) (rv h (s + 9)) n H
theorem wrX_fr {h H : im_H} {s k : Nat} (f : fr (F_X0_playDay s) h H) (q_s : s = 23 ∨ s = 37 ∨ s = 51) : wrX H s k = wrX h s k := by
  have a : ∀ c, rd H 2 c = rd h 2 c := fun c => f _ _ (by rcases q_s with rfl | rfl | rfl <;> rfl)
  have b : rd H 9 k = rd h 9 k := f _ _ (by rcases q_s with rfl | rfl | rfl <;> rfl)
  have c : rd H s 1 = rd h s 1 := f _ _ (by rcases q_s with rfl | rfl | rfl <;> rfl)
  unfold wrX wkX
  rw [rv_eq b, rv_eq c, rv_eq (a _)]
set_option maxRecDepth 20000 in
set_option maxHeartbeats 4000000 in
theorem w_X0_playDay {s : Nat} {h : im_H} (hI : tI h) (q_s : s = 23 ∨ s = 37 ∨ s = 51) : CaP 6 7 [.ref 17, .ref (16 + s)] h (fun v h2 => tI h2 ∧ fr (F_X0_playDay s) h h2 ∧ v = none ∧ (∃ d : Int32, rd h s 0 = some (.int d) ∧ rd h2 s 0 = some (.int (d + 1))) ∧ ∃ n : Int32, rd h 1 9 = some (.int n) ∧ wlX h s n.toInt h2) := by
  refine cap_of (d := 5) (M := mX0_playDay) rfl (Nat.le_of_ble_eq_true rfl) ?_
  show EvP im_K0 5 mX0_playDay (0, [(0, .ref 17), (1, .ref (16 + s))], [], h) _
  have W0 : ∀ m : Nat, m < 16 → rd h (s + 8) m = some (.int (rv h (s + 8) m)) ∧ rd h (s + 9) m = some (.int (rv h (s + 9) m)) := by
    intro m hm
    obtain ⟨_, e1, x1, w1, _⟩ := hI.2.1 (s + 8) m (.inl ((-2147483648), 2147483647, 9999999999)) (by rcases q_s with rfl | rfl | rfl <;> exact tq_row rfl (by omega))
    obtain ⟨_, e2, x2, w2, _⟩ := hI.2.1 (s + 9) m (.inl (0, 1, 9999999999)) (by rcases q_s with rfl | rfl | rfl <;> exact tq_row rfl (by omega))
    subst w1; subst w2
    rw [rv_of e1, rv_of e2]
    exact ⟨e1, e2⟩
  have f0 : fr (F_X0_playDay s) h h := fr_rf
  refine te_iconst (p2 := 1) (x := 0) rfl rfl (by decide) ?_
  obtain ⟨v1, e1, y1, w1, a1, b1, _⟩ := hI.2.1 1 9 (.inl (0, 16, 9999999999)) rfl
  subst w1
  refine te_istore_n (p2 := 2) (lv2 := [(2, .int 0), (0, .ref 17), (1, .ref (16 + s))]) rfl rfl (by decide) rfl ?_
  obtain ⟨v3, e3, y3, w3, a3, b3, _⟩ := hI.2.1 s 0 (.inl ((-2147483648), 2147483647, 9999999999)) (by rcases q_s with rfl | rfl | rfl <;> rfl)
  subst w3
  have lp2 : ∀ (n2 : Nat) (v2_2 t2_dd : Int32) (h2 : im_H), tI h2 → fr (F_X0_playDay s) h h2 → 0 ≤ v2_2.toInt → v2_2.toInt ≤ 4 → rd h2 s 0 = some (.int t2_dd) → t2_dd.toInt = y3.toInt → (∀ m : Nat, rd h2 (s + 8) m = rd h (s + 8) m ∧ rd h2 (s + 9) m = rd h (s + 9) m) → 4 - v2_2.toInt < (n2 : Int) → EvP im_K0 5 mX0_playDay (2, [(0, .ref 17), (1, .ref (16 + s)), (2, .int v2_2)], [], h2) (fun v h2 => tI h2 ∧ fr (F_X0_playDay s) h h2 ∧ v = none ∧ (∃ d : Int32, rd h s 0 = some (.int d) ∧ rd h2 s 0 = some (.int (d + 1))) ∧ ∃ n : Int32, rd h 1 9 = some (.int n) ∧ wlX h s n.toInt h2) := by
    intro n2
    induction n2 with
    | zero => intro v2_2 t2_dd h2 I2 f2 a2_2 b2_2 v2_dd l2_0 w2_0 m2; exfalso; omega
    | succ n2 ih2 =>
      intro v2_2 t2_dd h2 I2 f2 a2_2 b2_2 v2_dd l2_0 w2_0 m2
      refine te_iload_n (p2 := 3) rfl rfl rfl ?_
      refine te_iconst (p2 := 4) (x := 4) rfl rfl (by decide) ?_
      refine tb_ge (p2 := 7) rfl rfl rfl (show Int32.toInt 4 = 4 from rfl) (fun c4 => ?_) (fun c4 => ?_)
      · refine te_iconst (p2 := 20) (x := 0) rfl rfl (by decide) ?_
        refine te_istore_n (p2 := 21) (lv2 := [(2, .int 0), (0, .ref 17), (1, .ref (16 + s))]) rfl rfl (by decide) rfl ?_
        have lp5 : ∀ (n5 : Nat) (v5_2 t5_dd : Int32) (h5 : im_H), tI h5 → fr (F_X0_playDay s) h h5 → 0 ≤ v5_2.toInt → v5_2.toInt ≤ 3 → rd h5 s 0 = some (.int t5_dd) → t5_dd.toInt = y3.toInt → (∀ m : Nat, rd h5 (s + 8) m = rd h (s + 8) m ∧ rd h5 (s + 9) m = rd h (s + 9) m) → 3 - v5_2.toInt < (n5 : Int) → EvP im_K0 5 mX0_playDay (21, [(0, .ref 17), (1, .ref (16 + s)), (2, .int v5_2)], [], h5) (fun v h2 => tI h2 ∧ fr (F_X0_playDay s) h h2 ∧ v = none ∧ (∃ d : Int32, rd h s 0 = some (.int d) ∧ rd h2 s 0 = some (.int (d + 1))) ∧ ∃ n : Int32, rd h 1 9 = some (.int n) ∧ wlX h s n.toInt h2) := by
          intro n5
          induction n5 with
          | zero => intro v5_2 t5_dd h5 I5 f5 a5_2 b5_2 v5_dd l5_0 w5_0 m5; exfalso; omega
          | succ n5 ih5 =>
            intro v5_2 t5_dd h5 I5 f5 a5_2 b5_2 v5_dd l5_0 w5_0 m5
            refine te_iload_n (p2 := 22) rfl rfl rfl ?_
            refine te_iconst (p2 := 23) (x := 3) rfl rfl (by decide) ?_
            refine tb_ge (p2 := 26) rfl rfl rfl (show Int32.toInt 3 = 3 from rfl) (fun c6 => ?_) (fun c6 => ?_)
            · refine te_iconst (p2 := 39) (x := 0) rfl rfl (by decide) ?_
              refine te_istore_n (p2 := 40) (lv2 := [(2, .int 0), (0, .ref 17), (1, .ref (16 + s))]) rfl rfl (by decide) rfl ?_
              have lp7 : ∀ (n7 : Nat) (v7_2 t7_dd : Int32) (h7 : im_H), tI h7 → fr (F_X0_playDay s) h h7 → 0 ≤ v7_2.toInt → v7_2.toInt ≤ 16 → rd h7 s 0 = some (.int t7_dd) → v7_2.toInt ≤ y1.toInt → t7_dd.toInt = y3.toInt → (wlX h s v7_2.toInt h7) → 16 - v7_2.toInt < (n7 : Int) → EvP im_K0 5 mX0_playDay (40, [(0, .ref 17), (1, .ref (16 + s)), (2, .int v7_2)], [], h7) (fun v h2 => tI h2 ∧ fr (F_X0_playDay s) h h2 ∧ v = none ∧ (∃ d : Int32, rd h s 0 = some (.int d) ∧ rd h2 s 0 = some (.int (d + 1))) ∧ ∃ n : Int32, rd h 1 9 = some (.int n) ∧ wlX h s n.toInt h2) := by
                intro n7
                induction n7 with
                | zero => intro v7_2 t7_dd h7 I7 f7 a7_2 b7_2 v7_dd l7_0 l7_1 w7_0 m7; exfalso; omega
                | succ n7 ih7 =>
                  intro v7_2 t7_dd h7 I7 f7 a7_2 b7_2 v7_dd l7_0 l7_1 w7_0 m7
                  refine te_iload_n (p2 := 41) rfl rfl rfl ?_
                  refine te_aload_n (p2 := 42) rfl rfl rfl ?_
                  refine tg_e (p2 := 45) (i := 1) (v := .int y1) rfl rfl I7 rfl rfl ((f7 _ _ (by rcases q_s with rfl | rfl | rfl <;> rfl)).trans e1) ?_
                  refine tb_ge (p2 := 48) rfl rfl rfl rfl (fun c8 => ?_) (fun c8 => ?_)
                  · refine te_iconst (p2 := 80) (x := 0) rfl rfl (by decide) ?_
                    refine te_istore_n (p2 := 81) (lv2 := [(2, .int 0), (0, .ref 17), (1, .ref (16 + s))]) rfl rfl (by decide) rfl ?_
                    have lp9 : ∀ (n9 : Nat) (v9_2 t9_dd : Int32) (h9 : im_H), tI h9 → fr (F_X0_playDay s) h h9 → 0 ≤ v9_2.toInt → v9_2.toInt ≤ 24 → rd h9 s 0 = some (.int t9_dd) → t9_dd.toInt = y3.toInt → (wlX h s y1.toInt h9) → 24 - v9_2.toInt < (n9 : Int) → EvP im_K0 5 mX0_playDay (81, [(0, .ref 17), (1, .ref (16 + s)), (2, .int v9_2)], [], h9) (fun v h2 => tI h2 ∧ fr (F_X0_playDay s) h h2 ∧ v = none ∧ (∃ d : Int32, rd h s 0 = some (.int d) ∧ rd h2 s 0 = some (.int (d + 1))) ∧ ∃ n : Int32, rd h 1 9 = some (.int n) ∧ wlX h s n.toInt h2) := by
                      intro n9
                      induction n9 with
                      | zero => intro v9_2 t9_dd h9 I9 f9 a9_2 b9_2 v9_dd l9_0 w9_0 m9; exfalso; omega
                      | succ n9 ih9 =>
                        intro v9_2 t9_dd h9 I9 f9 a9_2 b9_2 v9_dd l9_0 w9_0 m9
                        refine te_iload_n (p2 := 82) rfl rfl rfl ?_
                        refine te_aload_n (p2 := 83) rfl rfl rfl ?_
                        refine tg_i (p2 := 86) (i := 1) rfl rfl I9 rfl rfl rfl (fun y10 a10 b10 e10 => ?_)
                        refine tb_ge (p2 := 89) rfl rfl rfl rfl (fun c11 => ?_) (fun c11 => ?_)
                        · refine te_aload_n (p2 := 126) rfl rfl rfl ?_
                          refine tg_e (p2 := 129) (i := s) (v := .int t9_dd) rfl rfl I9 rfl (by rcases q_s with rfl | rfl | rfl <;> rfl) v9_dd ?_
                          refine te_bipush (p2 := 131) (x := 7) rfl rfl (by decide) ?_
                          refine au_rem (p2 := 132) rfl rfl (show Int32.toInt 7 = 7 from rfl) (by decide) (fun z12 e12 => ?_)
                          refine te_bipush (p2 := 134) (x := 6) rfl rfl (by decide) ?_
                          refine tb_ne (p2 := 137) rfl rfl rfl (show Int32.toInt 6 = 6 from rfl) (fun c13 => ?_) (fun c13 => ?_)
                          · refine te_aload_n (p2 := 143) rfl rfl rfl ?_
                            refine te_dup (p2 := 144) rfl rfl rfl ?_
                            refine tg_e (p2 := 147) (i := s) (v := .int t9_dd) rfl rfl I9 rfl (by rcases q_s with rfl | rfl | rfl <;> rfl) v9_dd ?_
                            refine te_iconst (p2 := 148) (x := 1) rfl rfl (by decide) ?_
                            refine au_add (p2 := 149) rfl rfl (fun z14 e14 => ?_)
                            refine tp_i (p2 := 152) (i := s) rfl rfl I9 rfl (by rcases q_s with rfl | rfl | rfl <;> rfl) (by decide) rfl rfl (by rcases q_s with rfl | rfl | rfl <;> rfl) (i32_lo _) (i32_hi _) (i32_ho _) (by rcases q_s with rfl | rfl | rfl <;> rfl) (fun h15 I15 u15 => ?_)
                            have f15 := fr_st (F := (F_X0_playDay s)) 12 f9 u15 rfl (by decide) (by decide)
                            exact te_vret rfl rfl ⟨I15, f15, rfl, ⟨y3, e3, u15.1.trans (congrArg (fun t => some (Value.int t)) (show z14 = y3 + 1 from by (rw [← (i32_ext (by omega) : t9_dd = y3)]; exact e14.symm)))⟩, y1, e1, (wl_k w9_0 rfl (fun m _ => ⟨(u15.2 _ _ (Or.inl (by omega))), (u15.2 _ _ (Or.inl (by omega)))⟩))⟩
                          · refine te_aload_n (p2 := 138) rfl rfl rfl ?_
                            refine te_aload_n (p2 := 139) rfl rfl rfl ?_
                            refine cV_mV (p2 := 142) (i := 1) rfl rfl rfl rfl I9 rfl rfl rfl (t_X0_heal (s := s) I9 q_s) (by decide) (fun h16 I16 g16 => ?_)
                            have f16 := fr_tr (F1 := (F_X0_heal s)) (F := (F_X0_playDay s)) f9 g16 (by rcases q_s with rfl | rfl | rfl <;> decide)
                            refine te_aload_n (p2 := 143) rfl rfl rfl ?_
                            refine te_dup (p2 := 144) rfl rfl rfl ?_
                            refine tg_e (p2 := 147) (i := s) (v := .int t9_dd) rfl rfl I16 rfl (by rcases q_s with rfl | rfl | rfl <;> rfl) ((g16 _ _ (by rcases q_s with rfl | rfl | rfl <;> rfl)).trans v9_dd) ?_
                            refine te_iconst (p2 := 148) (x := 1) rfl rfl (by decide) ?_
                            refine au_add (p2 := 149) rfl rfl (fun z17 e17 => ?_)
                            refine tp_i (p2 := 152) (i := s) rfl rfl I16 rfl (by rcases q_s with rfl | rfl | rfl <;> rfl) (by decide) rfl rfl (by rcases q_s with rfl | rfl | rfl <;> rfl) (i32_lo _) (i32_hi _) (i32_ho _) (by rcases q_s with rfl | rfl | rfl <;> rfl) (fun h18 I18 u18 => ?_)
                            have f18 := fr_st (F := (F_X0_playDay s)) 12 f16 u18 rfl (by decide) (by decide)
                            exact te_vret rfl rfl ⟨I18, f18, rfl, ⟨y3, e3, u18.1.trans (congrArg (fun t => some (Value.int t)) (show z17 = y3 + 1 from by (rw [← (i32_ext (by omega) : t9_dd = y3)]; exact e17.symm)))⟩, y1, e1, (wl_k w9_0 rfl (fun m _ => ⟨((u18.2 _ _ (Or.inl (by omega))).trans (g16 _ _ (by rcases q_s with rfl | rfl | rfl <;> rfl))), ((u18.2 _ _ (Or.inl (by omega))).trans (g16 _ _ (by rcases q_s with rfl | rfl | rfl <;> rfl)))⟩))⟩
                        · refine te_aload_n (p2 := 90) rfl rfl rfl ?_
                          refine tg_r (p2 := 93) (i := s) (r := (16 + (s + 7))) rfl rfl I9 rfl (by rcases q_s with rfl | rfl | rfl <;> rfl) (by rcases q_s with rfl | rfl | rfl <;> rfl) ?_
                          refine te_iload_n (p2 := 94) rfl rfl rfl ?_
                          refine tl_b (p2 := 95) (i := (s + 7)) (n := 24) rfl rfl I9 rfl (by rcases q_s with rfl | rfl | rfl <;> rfl) (by rcases q_s with rfl | rfl | rfl <;> rfl) rfl (by omega) (by omega) (fun y19 a19 e19 => ?_)
                          refine tz_ne (p2 := 98) rfl rfl rfl (fun c20 => ?_) (fun c20 => ?_)
                          · refine ar_inc (p2 := 122) (x := v9_2) rfl rfl (by decide) rfl (by decide) rfl (by omega) (by omega) (fun z21 e21 f21 => ?_)
                            show EvP _ _ _ (122, [(2, .int z21), (0, .ref 17), (1, .ref (16 + s))], [], h9) _
                            refine te_goto rfl ?_
                            refine te_lv [(0, .ref 17), (1, .ref (16 + s)), (2, .int z21)] rfl rfl ⟨rfl, rfl, rfl, trivial⟩ ?_
                            exact ih9 z21 t9_dd h9 I9 f9 (by omega) (by omega) v9_dd (by omega) (wl_k w9_0 rfl (fun m _ => ⟨rfl, rfl⟩)) (by omega)
                          · refine te_aload_n (p2 := 99) rfl rfl rfl ?_
                            refine tg_r (p2 := 102) (i := s) (r := (16 + (s + 6))) rfl rfl I9 rfl (by rcases q_s with rfl | rfl | rfl <;> rfl) (by rcases q_s with rfl | rfl | rfl <;> rfl) ?_
                            refine te_iload_n (p2 := 103) rfl rfl rfl ?_
                            refine te_dup2 (p2 := 104) rfl rfl ⟨rfl, rfl⟩ ?_
                            refine tl_i (p2 := 105) (i := (s + 6)) (n := 24) rfl rfl I9 rfl (by rcases q_s with rfl | rfl | rfl <;> rfl) (by rcases q_s with rfl | rfl | rfl <;> rfl) rfl (by omega) (by omega) (fun y22 a22 b22 g22 e22 => ?_)
                            refine te_aload_n (p2 := 106) rfl rfl rfl ?_
                            refine te_aload_n (p2 := 107) rfl rfl rfl ?_
                            refine te_iload_n (p2 := 108) rfl rfl rfl ?_
                            refine te_iconst (p2 := 109) (x := 1) rfl rfl (by decide) ?_
                            refine cV_mI (p2 := 112) (i := 1) rfl rfl rfl rfl I9 rfl rfl rfl (t_X0_said (s := s) (p := v9_2) (key := 1) I9 q_s (by omega) (by omega)) (by decide) (fun y23 h23 I23 g23 r23 => ?_)
                            have f23 := fr_tr (F1 := F_X0_said) (F := (F_X0_playDay s)) f9 g23 (by rcases q_s with rfl | rfl | rfl <;> decide)
                            refine te_bipush (p2 := 114) (x := 9) rfl rfl (by decide) ?_
                            refine ar_min (p2 := 117) rfl rfl rfl rfl (show Int32.toInt 9 = 9 from rfl) (fun z24 e24 f24 => ?_)
                            refine au_add (p2 := 118) rfl rfl (fun z25 e25 => ?_)
                            refine ts_i (p2 := 119) (i := (s + 6)) (n := 24) rfl rfl I23 rfl (by rcases q_s with rfl | rfl | rfl <;> rfl) (by rcases q_s with rfl | rfl | rfl <;> rfl) rfl (by omega) (by omega) (i32_lo _) (i32_hi _) (i32_ho _) (by rcases q_s with rfl | rfl | rfl <;> rfl) (fun h26 I26 u26 => ?_)
                            have f26 := fr_st (F := (F_X0_playDay s)) 7 f23 u26 rfl (by omega) (by omega)
                            refine ar_inc (p2 := 122) (x := v9_2) rfl rfl (by decide) rfl (by decide) rfl (by omega) (by omega) (fun z27 e27 f27 => ?_)
                            show EvP _ _ _ (122, [(2, .int z27), (0, .ref 17), (1, .ref (16 + s))], [], h26) _
                            refine te_goto rfl ?_
                            refine te_lv [(0, .ref 17), (1, .ref (16 + s)), (2, .int z27)] rfl rfl ⟨rfl, rfl, rfl, trivial⟩ ?_
                            exact ih9 z27 t9_dd h26 I26 f26 (by omega) (by omega) ((u26.2 _ _ (Or.inl (by omega))).trans ((g23 _ _ (by rcases q_s with rfl | rfl | rfl <;> rfl)).trans v9_dd)) (by omega) (wl_k w9_0 rfl (fun m _ => ⟨((u26.2 _ _ (Or.inl (by omega))).trans (g23 _ _ (by rcases q_s with rfl | rfl | rfl <;> rfl))), ((u26.2 _ _ (Or.inl (by omega))).trans (g23 _ _ (by rcases q_s with rfl | rfl | rfl <;> rfl)))⟩)) (by omega)
                    refine te_lv [(0, .ref 17), (1, .ref (16 + s)), (2, .int 0)] rfl rfl ⟨rfl, rfl, rfl, trivial⟩ ?_
                    exact lp9 25 0 t7_dd h7 I7 f7 (by decide) (by decide) v7_dd (by have cc0 := (show Int32.toInt 0 = 0 from rfl); omega) (wl_k w7_0 (by omega) (fun m _ => ⟨rfl, rfl⟩)) (by have cc0 := (show Int32.toInt 0 = 0 from rfl); omega)
                  · refine te_aload_n (p2 := 49) rfl rfl rfl ?_
                    refine tg_r (p2 := 52) (i := s) (r := (16 + (s + 9))) rfl rfl I7 rfl (by rcases q_s with rfl | rfl | rfl <;> rfl) (by rcases q_s with rfl | rfl | rfl <;> rfl) ?_
                    refine te_iload_n (p2 := 53) rfl rfl rfl ?_
                    refine tl_b (p2 := 54) (i := (s + 9)) (n := 16) rfl rfl I7 rfl (by rcases q_s with rfl | rfl | rfl <;> rfl) (by rcases q_s with rfl | rfl | rfl <;> rfl) rfl (by omega) (by omega) (fun y28 a28 e28 => ?_)
                    refine tz_eq (p2 := 57) rfl rfl rfl (fun c29 => ?_) (fun c29 => ?_)
                    · refine ar_inc (p2 := 76) (x := v7_2) rfl rfl (by decide) rfl (by decide) rfl (by omega) (by omega) (fun z30 e30 f30 => ?_)
                      show EvP _ _ _ (76, [(2, .int z30), (0, .ref 17), (1, .ref (16 + s))], [], h7) _
                      refine te_goto rfl ?_
                      refine te_lv [(0, .ref 17), (1, .ref (16 + s)), (2, .int z30)] rfl rfl ⟨rfl, rfl, rfl, trivial⟩ ?_
                      exact ih7 z30 t7_dd h7 I7 f7 (by omega) (by omega) v7_dd (by omega) (by omega) (wl_a (k := v7_2.toInt.toNat) w7_0 (by omega) f30 (by omega) e28 (by omega)) (by omega)
                    · refine te_aload_n (p2 := 58) rfl rfl rfl ?_
                      refine te_aload_n (p2 := 59) rfl rfl rfl ?_
                      refine te_iload_n (p2 := 60) rfl rfl rfl ?_
                      refine tc_V (p2 := 63) (i := 1) rfl rfl rfl rfl I7 rfl rfl rfl (c_X0_wearsOut (s := s) (k := v7_2) I7 q_s (by omega) (by omega)) (by decide) (fun v31 h31 hq31 => ?_)
                      obtain ⟨I31, g31, y31, w31, t31, Q31⟩ := hq31
                      subst w31
                      have f31 := fr_tr (F1 := (F_X0_wearsOut s)) (F := (F_X0_playDay s)) f7 g31 (by rcases q_s with rfl | rfl | rfl <;> decide)
                      rcases Q31.2.2.2 with ⟨x31, c31⟩ | ⟨x31, c31⟩
                      · subst x31
                        show EvP _ _ _ (63, [(0, .ref 17), (1, .ref (16 + s)), (2, .int v7_2)], [.int 1], h31) _
                        refine tz_eq (p2 := 66) rfl rfl (show Int32.toInt 1 = 1 from rfl) (fun c32 => absurd c32 (by omega)) (fun c32 => ?_)
                        refine te_aload_n (p2 := 67) rfl rfl rfl ?_
                        refine te_aload_n (p2 := 68) rfl rfl rfl ?_
                        refine te_iload_n (p2 := 69) rfl rfl rfl ?_
                        refine tc_V (p2 := 72) (i := 1) rfl rfl rfl rfl I31 rfl rfl rfl (c_X0_fall (s := s) (k := v7_2) I31 q_s (by omega) (by omega)) (by decide) (fun v33 h33 hq33 => ?_)
                        obtain ⟨I33, g33, y33, w33, Q33⟩ := hq33
                        subst w33
                        have f33 := fr_tr (F1 := (F_X0_fall s)) (F := (F_X0_playDay s)) f31 g33 (by rcases q_s with rfl | rfl | rfl <;> decide)
                        show EvP _ _ _ (72, [(0, .ref 17), (1, .ref (16 + s)), (2, .int v7_2)], [.int y33], h33) _
                        refine te_pop (p2 := 73) rfl rfl rfl ?_
                        refine ar_inc (p2 := 76) (x := v7_2) rfl rfl (by decide) rfl (by decide) rfl (by omega) (by omega) (fun z34 e34 f34 => ?_)
                        show EvP _ _ _ (76, [(2, .int z34), (0, .ref 17), (1, .ref (16 + s))], [], h33) _
                        refine te_goto rfl ?_
                        refine te_lv [(0, .ref 17), (1, .ref (16 + s)), (2, .int z34)] rfl rfl ⟨rfl, rfl, rfl, trivial⟩ ?_
                        exact ih7 z34 t7_dd h33 I33 f33 (by omega) (by omega) ((g33 _ _ (by rcases q_s with rfl | rfl | rfl <;> rfl)).trans ((g31 _ _ (by rcases q_s with rfl | rfl | rfl <;> rfl)).trans v7_dd)) (by omega) (by omega) (wl_b (k := v7_2.toInt.toNat) w7_0 (by omega) f34 (by omega) e28 (by omega) Q31.1 (by rw [← (show wrX h7 s v7_2.toInt.toNat = wrX h s v7_2.toInt.toNat from wrX_fr f7 q_s)]; exact ((g33 _ _ (by rcases q_s with rfl | rfl | rfl <;> rfl)).trans Q31.2.1)) (fun m hm _ => (g33 _ _ (by rcases q_s with rfl | rfl | rfl <;> rfl)).trans (Q31.2.2.1 _ _ (Or.inr hm))) (fun m hm _ => (Q33.2 m hm).trans (Q31.2.2.1 _ _ (Or.inl (by omega)))) ⟨fun _ => Q33.1, fun h9 => absurd (by rw [← (show wrX h7 s v7_2.toInt.toNat = wrX h s v7_2.toInt.toNat from wrX_fr f7 q_s), ← (show rv h7 s 2 = rv h s 2 from rv_eq (f7 _ _ (by rcases q_s with rfl | rfl | rfl <;> rfl)))]; exact c31) h9⟩) (by omega)
                      · subst x31
                        show EvP _ _ _ (63, [(0, .ref 17), (1, .ref (16 + s)), (2, .int v7_2)], [.int 0], h31) _
                        refine tz_eq (p2 := 66) rfl rfl (show Int32.toInt 0 = 0 from rfl) (fun c35 => ?_) (fun c35 => absurd c35 (by omega))
                        refine ar_inc (p2 := 76) (x := v7_2) rfl rfl (by decide) rfl (by decide) rfl (by omega) (by omega) (fun z36 e36 f36 => ?_)
                        show EvP _ _ _ (76, [(2, .int z36), (0, .ref 17), (1, .ref (16 + s))], [], h31) _
                        refine te_goto rfl ?_
                        refine te_lv [(0, .ref 17), (1, .ref (16 + s)), (2, .int z36)] rfl rfl ⟨rfl, rfl, rfl, trivial⟩ ?_
                        exact ih7 z36 t7_dd h31 I31 f31 (by omega) (by omega) ((g31 _ _ (by rcases q_s with rfl | rfl | rfl <;> rfl)).trans v7_dd) (by omega) (by omega) (wl_b (k := v7_2.toInt.toNat) w7_0 (by omega) f36 (by omega) e28 (by omega) Q31.1 (by rw [← (show wrX h7 s v7_2.toInt.toNat = wrX h s v7_2.toInt.toNat from wrX_fr f7 q_s)]; exact Q31.2.1) (fun m hm _ => Q31.2.2.1 _ _ (Or.inr hm)) (fun m _ _ => Q31.2.2.1 _ _ (Or.inl (by omega))) ⟨fun h9 => absurd (by rw [(show wrX h7 s v7_2.toInt.toNat = wrX h s v7_2.toInt.toNat from wrX_fr f7 q_s), (show rv h7 s 2 = rv h s 2 from rv_eq (f7 _ _ (by rcases q_s with rfl | rfl | rfl <;> rfl)))]; exact h9) c31, fun _ => Q31.2.2.1 _ _ (Or.inl (by omega))⟩) (by omega)
              refine te_lv [(0, .ref 17), (1, .ref (16 + s)), (2, .int 0)] rfl rfl ⟨rfl, rfl, rfl, trivial⟩ ?_
              exact lp7 17 0 t5_dd h5 I5 f5 (by decide) (by decide) v5_dd (by have cc0 := (show Int32.toInt 0 = 0 from rfl); omega) (by have cc0 := (show Int32.toInt 0 = 0 from rfl); omega) (wl_0 (by decide) (fun m hm => ⟨(w5_0 m).1.trans (W0 m hm).1, (w5_0 m).2.trans (W0 m hm).2⟩)) (by have cc0 := (show Int32.toInt 0 = 0 from rfl); omega)
            · refine te_aload_n (p2 := 27) rfl rfl rfl ?_
              refine te_aload_n (p2 := 28) rfl rfl rfl ?_
              refine te_iload_n (p2 := 29) rfl rfl rfl ?_
              refine cV_mV (p2 := 32) (i := 1) rfl rfl rfl rfl I5 rfl rfl rfl (t_X0_driveRail (s := s) (rr := v5_2) I5 q_s (by omega) (by omega)) (by decide) (fun h37 I37 g37 => ?_)
              have f37 := fr_tr (F1 := (F_X0_driveRail s)) (F := (F_X0_playDay s)) f5 g37 (by rcases q_s with rfl | rfl | rfl <;> decide)
              refine ar_inc (p2 := 35) (x := v5_2) rfl rfl (by decide) rfl (by decide) rfl (by omega) (by omega) (fun z38 e38 f38 => ?_)
              show EvP _ _ _ (35, [(2, .int z38), (0, .ref 17), (1, .ref (16 + s))], [], h37) _
              refine te_goto rfl ?_
              refine te_lv [(0, .ref 17), (1, .ref (16 + s)), (2, .int z38)] rfl rfl ⟨rfl, rfl, rfl, trivial⟩ ?_
              exact ih5 z38 t5_dd h37 I37 f37 (by omega) (by omega) ((g37 _ _ (by rcases q_s with rfl | rfl | rfl <;> rfl)).trans v5_dd) (by omega) (fun m => ⟨((g37 _ _ (by rcases q_s with rfl | rfl | rfl <;> rfl)).trans (w5_0 m).1), ((g37 _ _ (by rcases q_s with rfl | rfl | rfl <;> rfl)).trans (w5_0 m).2)⟩) (by omega)
        refine te_lv [(0, .ref 17), (1, .ref (16 + s)), (2, .int 0)] rfl rfl ⟨rfl, rfl, rfl, trivial⟩ ?_
        exact lp5 4 0 t2_dd h2 I2 f2 (by decide) (by decide) v2_dd (by have cc0 := (show Int32.toInt 0 = 0 from rfl); omega) (fun m => w2_0 m) (by have cc0 := (show Int32.toInt 0 = 0 from rfl); omega)
      · refine te_aload_n (p2 := 8) rfl rfl rfl ?_
        refine te_aload_n (p2 := 9) rfl rfl rfl ?_
        refine te_iload_n (p2 := 10) rfl rfl rfl ?_
        refine cV_mV (p2 := 13) (i := 1) rfl rfl rfl rfl I2 rfl rfl rfl (t_X0_workRow (s := s) (rr := v2_2) I2 q_s (by omega) (by omega)) (by decide) (fun h39 I39 g39 => ?_)
        have f39 := fr_tr (F1 := (F_X0_workRow s)) (F := (F_X0_playDay s)) f2 g39 (by rcases q_s with rfl | rfl | rfl <;> decide)
        refine ar_inc (p2 := 16) (x := v2_2) rfl rfl (by decide) rfl (by decide) rfl (by omega) (by omega) (fun z40 e40 f40 => ?_)
        show EvP _ _ _ (16, [(2, .int z40), (0, .ref 17), (1, .ref (16 + s))], [], h39) _
        refine te_goto rfl ?_
        refine te_lv [(0, .ref 17), (1, .ref (16 + s)), (2, .int z40)] rfl rfl ⟨rfl, rfl, rfl, trivial⟩ ?_
        exact ih2 z40 t2_dd h39 I39 f39 (by omega) (by omega) ((g39 _ _ (by rcases q_s with rfl | rfl | rfl <;> rfl)).trans v2_dd) (by omega) (fun m => ⟨((g39 _ _ (by rcases q_s with rfl | rfl | rfl <;> rfl)).trans (w2_0 m).1), ((g39 _ _ (by rcases q_s with rfl | rfl | rfl <;> rfl)).trans (w2_0 m).2)⟩) (by omega)
  refine te_lv [(0, .ref 17), (1, .ref (16 + s)), (2, .int 0)] rfl rfl ⟨rfl, rfl, rfl, trivial⟩ ?_
  exact lp2 5 0 y3 h hI f0 (by decide) (by decide) e3 (by have cc0 := (show Int32.toInt 0 = 0 from rfl); omega) (fun m => ⟨rfl, rfl⟩) (by have cc0 := (show Int32.toInt 0 = 0 from rfl); omega)
abbrev AM (H : im_H) (m : Nat) : Option Value := rd H 149 (124 + m)
abbrev BM (H : im_H) (m : Nat) : Option Value := rd H 149 (108 + m)
abbrev SM (h : im_H) (m : Nat) : Int32 := rv h 149 (124 + m)
abbrev UM (h : im_H) (m : Nat) : Int32 := rv h 149 (108 + m)
abbrev wlM (h : im_H) (n : Int) (H : im_H) : Prop := wl AM BM (wrM h) (3 * rv h 149 107) (SM h) (UM h) n H
theorem wrM_fr {h H : im_H} {k : Nat} (f : fr F_X12_goes h H) : wrM H k = wrM h k := by
  have a : ∀ c, rd H 152 c = rd h 152 c := fun c => f _ _ rfl
  have a2 : ∀ c, rd H 156 c = rd h 156 c := fun c => f _ _ rfl
  have b : rd H 167 k = rd h 167 k := f _ _ rfl
  have c : rd H 149 106 = rd h 149 106 := f _ _ rfl
  unfold wrM wkM
  rw [rv_eq b, rv_eq c, rv_eq (a _), rv_eq (a2 _)]
theorem inFn {F : List (Nat × Nat × Nat)} {o m : Nat} (h : ∀ k, k < 16 → inF F 149 (o + k) = false) (hm : m < 16) : inF F 149 (o + m) = false := h m hm
set_option maxRecDepth 20000 in
set_option maxHeartbeats 4000000 in
theorem w_X12_goes  {h : im_H} (hI : tI h)  : CaP 8 154 [.ref 164] h (fun v h2 => tI h2 ∧ fr F_X12_goes h h2 ∧ v = none ∧ (∃ d : Int32, rd h 149 105 = some (.int d) ∧ rd h2 149 105 = some (.int (d + 1))) ∧ ∃ n : Int32, rd h 148 21 = some (.int n) ∧ wlM h n.toInt h2) := by
  refine cap_of (d := 7) (M := mX12_goes) rfl (Nat.le_of_ble_eq_true rfl) ?_
  show EvP im_K0 7 mX12_goes (0, [(0, .ref 164)], [], h) _
  have W0 : ∀ m : Nat, m < 16 → rd h 149 (124 + m) = some (.int (rv h 149 (124 + m))) ∧ rd h 149 (108 + m) = some (.int (rv h 149 (108 + m))) := by
    intro m hm
    obtain ⟨_, e1, x1, w1, _⟩ := hI.2.1 149 (124 + m) (.inl ((-2147483648), 2147483647, 9999999999)) (tq_row rfl (by omega))
    obtain ⟨_, e2, x2, w2, _⟩ := hI.2.1 149 (108 + m) (.inl ((-2147483648), 2147483647, 9999999999)) (tq_row rfl (by omega))
    subst w1; subst w2
    rw [rv_of e1, rv_of e2]
    exact ⟨e1, e2⟩
  have f0 : fr F_X12_goes h h := fr_rf
  refine te_iconst (p2 := 1) (x := 0) rfl rfl (by decide) ?_
  obtain ⟨v1, e1, y1, w1, a1, b1, _⟩ := hI.2.1 148 21 (.inl (0, 16, 9999999999)) rfl
  subst w1
  refine te_istore_n (p2 := 2) (lv2 := [(1, .int 0), (0, .ref 164)]) rfl rfl (by decide) rfl ?_
  obtain ⟨v3, e3, y3, w3, a3, b3, _⟩ := hI.2.1 149 (Int32.toInt 105).toNat (.inl ((-2147483648), 2147483647, 9999999999)) (tq_row rfl (by decide))
  subst w3
  have lp2 : ∀ (n2 : Nat) (v2_1 t2_dd : Int32) (h2 : im_H), tI h2 → fr F_X12_goes h h2 → 0 ≤ v2_1.toInt → v2_1.toInt ≤ 4 → rd h2 149 (Int32.toInt 105).toNat = some (.int t2_dd) → t2_dd.toInt = y3.toInt → (∀ m : Nat, m < 16 → rd h2 149 (124 + m) = rd h 149 (124 + m) ∧ rd h2 149 (108 + m) = rd h 149 (108 + m)) → 4 - v2_1.toInt < (n2 : Int) → EvP im_K0 7 mX12_goes (2, [(0, .ref 164), (1, .int v2_1)], [], h2) (fun v h2 => tI h2 ∧ fr F_X12_goes h h2 ∧ v = none ∧ (∃ d : Int32, rd h 149 105 = some (.int d) ∧ rd h2 149 105 = some (.int (d + 1))) ∧ ∃ n : Int32, rd h 148 21 = some (.int n) ∧ wlM h n.toInt h2) := by
    intro n2
    induction n2 with
    | zero => intro v2_1 t2_dd h2 I2 f2 a2_1 b2_1 v2_dd l2_0 w2_0 m2; exfalso; omega
    | succ n2 ih2 =>
      intro v2_1 t2_dd h2 I2 f2 a2_1 b2_1 v2_dd l2_0 w2_0 m2
      refine te_iload_n (p2 := 3) rfl rfl rfl ?_
      refine te_iconst (p2 := 4) (x := 4) rfl rfl (by decide) ?_
      refine tb_ge (p2 := 7) rfl rfl rfl (show Int32.toInt 4 = 4 from rfl) (fun c4 => ?_) (fun c4 => ?_)
      · refine te_iconst (p2 := 19) (x := 0) rfl rfl (by decide) ?_
        refine te_istore_n (p2 := 20) (lv2 := [(1, .int 0), (0, .ref 164)]) rfl rfl (by decide) rfl ?_
        have lp5 : ∀ (n5 : Nat) (v5_1 t5_dd : Int32) (h5 : im_H), tI h5 → fr F_X12_goes h h5 → 0 ≤ v5_1.toInt → v5_1.toInt ≤ 3 → rd h5 149 (Int32.toInt 105).toNat = some (.int t5_dd) → t5_dd.toInt = y3.toInt → (∀ m : Nat, m < 16 → rd h5 149 (124 + m) = rd h 149 (124 + m) ∧ rd h5 149 (108 + m) = rd h 149 (108 + m)) → 3 - v5_1.toInt < (n5 : Int) → EvP im_K0 7 mX12_goes (20, [(0, .ref 164), (1, .int v5_1)], [], h5) (fun v h2 => tI h2 ∧ fr F_X12_goes h h2 ∧ v = none ∧ (∃ d : Int32, rd h 149 105 = some (.int d) ∧ rd h2 149 105 = some (.int (d + 1))) ∧ ∃ n : Int32, rd h 148 21 = some (.int n) ∧ wlM h n.toInt h2) := by
          intro n5
          induction n5 with
          | zero => intro v5_1 t5_dd h5 I5 f5 a5_1 b5_1 v5_dd l5_0 w5_0 m5; exfalso; omega
          | succ n5 ih5 =>
            intro v5_1 t5_dd h5 I5 f5 a5_1 b5_1 v5_dd l5_0 w5_0 m5
            refine te_iload_n (p2 := 21) rfl rfl rfl ?_
            refine te_iconst (p2 := 22) (x := 3) rfl rfl (by decide) ?_
            refine tb_ge (p2 := 25) rfl rfl rfl (show Int32.toInt 3 = 3 from rfl) (fun c6 => ?_) (fun c6 => ?_)
            · refine te_iconst (p2 := 37) (x := 0) rfl rfl (by decide) ?_
              refine te_istore_n (p2 := 38) (lv2 := [(1, .int 0), (0, .ref 164)]) rfl rfl (by decide) rfl ?_
              have lp7 : ∀ (n7 : Nat) (v7_1 t7_dd : Int32) (h7 : im_H), tI h7 → fr F_X12_goes h h7 → 0 ≤ v7_1.toInt → v7_1.toInt ≤ 16 → rd h7 149 (Int32.toInt 105).toNat = some (.int t7_dd) → v7_1.toInt ≤ y1.toInt → t7_dd.toInt = y3.toInt → (wlM h v7_1.toInt h7) → 16 - v7_1.toInt < (n7 : Int) → EvP im_K0 7 mX12_goes (38, [(0, .ref 164), (1, .int v7_1)], [], h7) (fun v h2 => tI h2 ∧ fr F_X12_goes h h2 ∧ v = none ∧ (∃ d : Int32, rd h 149 105 = some (.int d) ∧ rd h2 149 105 = some (.int (d + 1))) ∧ ∃ n : Int32, rd h 148 21 = some (.int n) ∧ wlM h n.toInt h2) := by
                intro n7
                induction n7 with
                | zero => intro v7_1 t7_dd h7 I7 f7 a7_1 b7_1 v7_dd l7_0 l7_1 w7_0 m7; exfalso; omega
                | succ n7 ih7 =>
                  intro v7_1 t7_dd h7 I7 f7 a7_1 b7_1 v7_dd l7_0 l7_1 w7_0 m7
                  refine te_iload_n (p2 := 39) rfl rfl rfl ?_
                  refine te_aload_n (p2 := 40) rfl rfl rfl ?_
                  refine tg_e (p2 := 43) (i := 148) (v := .int y1) rfl rfl I7 rfl rfl ((f7 _ _ rfl).trans e1) ?_
                  refine tb_ge (p2 := 46) rfl rfl rfl rfl (fun c8 => ?_) (fun c8 => ?_)
                  · refine te_iconst (p2 := 79) (x := 0) rfl rfl (by decide) ?_
                    refine te_istore_n (p2 := 80) (lv2 := [(1, .int 0), (0, .ref 164)]) rfl rfl (by decide) rfl ?_
                    have lp9 : ∀ (n9 : Nat) (v9_1 t9_dd : Int32) (h9 : im_H), tI h9 → fr F_X12_goes h h9 → 0 ≤ v9_1.toInt → v9_1.toInt ≤ 24 → rd h9 149 (Int32.toInt 105).toNat = some (.int t9_dd) → t9_dd.toInt = y3.toInt → (wlM h y1.toInt h9) → 24 - v9_1.toInt < (n9 : Int) → EvP im_K0 7 mX12_goes (80, [(0, .ref 164), (1, .int v9_1)], [], h9) (fun v h2 => tI h2 ∧ fr F_X12_goes h h2 ∧ v = none ∧ (∃ d : Int32, rd h 149 105 = some (.int d) ∧ rd h2 149 105 = some (.int (d + 1))) ∧ ∃ n : Int32, rd h 148 21 = some (.int n) ∧ wlM h n.toInt h2) := by
                      intro n9
                      induction n9 with
                      | zero => intro v9_1 t9_dd h9 I9 f9 a9_1 b9_1 v9_dd l9_0 w9_0 m9; exfalso; omega
                      | succ n9 ih9 =>
                        intro v9_1 t9_dd h9 I9 f9 a9_1 b9_1 v9_dd l9_0 w9_0 m9
                        refine te_iload_n (p2 := 81) rfl rfl rfl ?_
                        refine te_aload_n (p2 := 82) rfl rfl rfl ?_
                        refine tg_i (p2 := 85) (i := 148) rfl rfl I9 rfl rfl rfl (fun y10 a10 b10 e10 => ?_)
                        refine tb_ge (p2 := 88) rfl rfl rfl rfl (fun c11 => ?_) (fun c11 => ?_)
                        · refine te_iconst (p2 := 140) (x := 0) rfl rfl (by decide) ?_
                          refine te_istore_n (p2 := 141) (lv2 := [(1, .int 0), (0, .ref 164)]) rfl rfl (by decide) rfl ?_
                          have lp12 : ∀ (n12 : Nat) (v12_1 t12_dd : Int32) (h12 : im_H), tI h12 → fr F_X12_goes h h12 → 0 ≤ v12_1.toInt → v12_1.toInt ≤ 24 → rd h12 149 (Int32.toInt 105).toNat = some (.int t12_dd) → t12_dd.toInt = y3.toInt → (wlM h y1.toInt h12) → 24 - v12_1.toInt < (n12 : Int) → EvP im_K0 7 mX12_goes (141, [(0, .ref 164), (1, .int v12_1)], [], h12) (fun v h2 => tI h2 ∧ fr F_X12_goes h h2 ∧ v = none ∧ (∃ d : Int32, rd h 149 105 = some (.int d) ∧ rd h2 149 105 = some (.int (d + 1))) ∧ ∃ n : Int32, rd h 148 21 = some (.int n) ∧ wlM h n.toInt h2) := by
                            intro n12
                            induction n12 with
                            | zero => intro v12_1 t12_dd h12 I12 f12 a12_1 b12_1 v12_dd l12_0 w12_0 m12; exfalso; omega
                            | succ n12 ih12 =>
                              intro v12_1 t12_dd h12 I12 f12 a12_1 b12_1 v12_dd l12_0 w12_0 m12
                              refine te_iload_n (p2 := 142) rfl rfl rfl ?_
                              refine te_aload_n (p2 := 143) rfl rfl rfl ?_
                              refine tg_i (p2 := 146) (i := 148) rfl rfl I12 rfl rfl rfl (fun y13 a13 b13 e13 => ?_)
                              refine tb_ge (p2 := 149) rfl rfl rfl rfl (fun c14 => ?_) (fun c14 => ?_)
                              · refine te_aload_n (p2 := 215) rfl rfl rfl ?_
                                refine tg_r (p2 := 218) (i := 148) (r := 165) rfl rfl I12 rfl rfl rfl ?_
                                refine te_bipush (p2 := 220) (x := 105) rfl rfl (by decide) ?_
                                refine te_dup2 (p2 := 221) rfl rfl ⟨rfl, rfl⟩ ?_
                                refine tl_e (p2 := 222) (i := 149) (n := 283) (t := 0) (Or.inl rfl) rfl rfl I12 rfl rfl (by decide) (by decide) v12_dd ?_
                                refine te_iconst (p2 := 223) (x := 1) rfl rfl (by decide) ?_
                                refine au_add (p2 := 224) rfl rfl (fun z16 e16 => ?_)
                                refine ts_i (p2 := 225) (i := 149) (n := 283) rfl rfl I12 rfl rfl rfl rfl (by decide) (by decide) (i32_lo _) (i32_hi _) (i32_ho _) rfl (fun h17 I17 u17 => ?_)
                                have f17 := fr_st (F := F_X12_goes) 1 f12 u17 rfl (by decide) (by decide)
                                exact te_vret rfl rfl ⟨I17, f17, rfl, ⟨y3, e3, u17.1.trans (congrArg (fun t => some (Value.int t)) (show z16 = y3 + 1 from by (rw [← (i32_ext (by omega) : t12_dd = y3)]; exact e16.symm)))⟩, y1, e1, (wl_k w12_0 rfl (fun m hm => ⟨(u17.2 _ _ (Or.inr (by (have := (show Int32.toInt 105 = 105 from rfl)); omega))), (u17.2 _ _ (Or.inr (by (have := (show Int32.toInt 105 = 105 from rfl)); omega)))⟩))⟩
                              · refine te_aload_n (p2 := 150) rfl rfl rfl ?_
                                refine tg_r (p2 := 153) (i := 148) (r := 165) rfl rfl I12 rfl rfl rfl ?_
                                refine te_bipush (p2 := 155) (x := 105) rfl rfl (by decide) ?_
                                refine tl_e (p2 := 156) (i := 149) (n := 283) (t := 0) (Or.inl rfl) rfl rfl I12 rfl rfl (by decide) (by decide) v12_dd ?_
                                refine te_bipush (p2 := 158) (x := 7) rfl rfl (by decide) ?_
                                refine au_rem (p2 := 159) rfl rfl (show Int32.toInt 7 = 7 from rfl) (by decide) (fun z19 e19 => ?_)
                                refine te_bipush (p2 := 161) (x := 6) rfl rfl (by decide) ?_
                                refine tb_ne (p2 := 164) rfl rfl rfl (show Int32.toInt 6 = 6 from rfl) (fun c20 => ?_) (fun c20 => ?_)
                                · refine te_aload_n (p2 := 215) rfl rfl rfl ?_
                                  refine tg_r (p2 := 218) (i := 148) (r := 165) rfl rfl I12 rfl rfl rfl ?_
                                  refine te_bipush (p2 := 220) (x := 105) rfl rfl (by decide) ?_
                                  refine te_dup2 (p2 := 221) rfl rfl ⟨rfl, rfl⟩ ?_
                                  refine tl_e (p2 := 222) (i := 149) (n := 283) (t := 0) (Or.inl rfl) rfl rfl I12 rfl rfl (by decide) (by decide) v12_dd ?_
                                  refine te_iconst (p2 := 223) (x := 1) rfl rfl (by decide) ?_
                                  refine au_add (p2 := 224) rfl rfl (fun z22 e22 => ?_)
                                  refine ts_i (p2 := 225) (i := 149) (n := 283) rfl rfl I12 rfl rfl rfl rfl (by decide) (by decide) (i32_lo _) (i32_hi _) (i32_ho _) rfl (fun h23 I23 u23 => ?_)
                                  have f23 := fr_st (F := F_X12_goes) 1 f12 u23 rfl (by decide) (by decide)
                                  exact te_vret rfl rfl ⟨I23, f23, rfl, ⟨y3, e3, u23.1.trans (congrArg (fun t => some (Value.int t)) (show z22 = y3 + 1 from by (rw [← (i32_ext (by omega) : t12_dd = y3)]; exact e22.symm)))⟩, y1, e1, (wl_k w12_0 rfl (fun m hm => ⟨(u23.2 _ _ (Or.inr (by (have := (show Int32.toInt 105 = 105 from rfl)); omega))), (u23.2 _ _ (Or.inr (by (have := (show Int32.toInt 105 = 105 from rfl)); omega)))⟩))⟩
                                · refine te_aload_n (p2 := 165) rfl rfl rfl ?_
                                  refine tg_r (p2 := 168) (i := 148) (r := 165) rfl rfl I12 rfl rfl rfl ?_
                                  refine te_sipush (p2 := 171) (x := 164) rfl rfl (by decide) ?_
                                  refine te_iload_n (p2 := 172) rfl rfl rfl ?_
                                  refine ar_add (p2 := 173) rfl rfl (show Int32.toInt 164 = 164 from rfl) rfl (by omega) (by omega) (fun z24 e24 f24 => ?_)
                                  refine te_dup2 (p2 := 174) rfl rfl ⟨rfl, rfl⟩ ?_
                                  refine tl_i (p2 := 175) (i := 149) (n := 283) rfl rfl I12 rfl rfl rfl rfl (by omega) (by omega) (fun y25 a25 b25 g25 e25 => ?_)
                                  refine te_aload_n (p2 := 176) rfl rfl rfl ?_
                                  refine tg_r (p2 := 179) (i := 148) (r := 165) rfl rfl I12 rfl rfl rfl ?_
                                  refine te_sipush (p2 := 182) (x := 236) rfl rfl (by decide) ?_
                                  refine te_iload_n (p2 := 183) rfl rfl rfl ?_
                                  refine ar_add (p2 := 184) rfl rfl (show Int32.toInt 236 = 236 from rfl) rfl (by omega) (by omega) (fun z26 e26 f26 => ?_)
                                  refine tl_i (p2 := 185) (i := 149) (n := 283) rfl rfl I12 rfl rfl rfl rfl (by omega) (by omega) (fun y27 a27 b27 g27 e27 => ?_)
                                  refine tz_ne (p2 := 188) rfl rfl rfl (fun c28 => ?_) (fun c28 => ?_)
                                  · refine te_iconst (p2 := 206) (x := 0) rfl rfl (by decide) ?_
                                    have n29_y25 := i32_lo y25
                                    have o29_y25 := i32_hi y25
                                    refine ar_sub (p2 := 207) rfl rfl rfl (show Int32.toInt 0 = 0 from rfl) (by omega) (by omega) (fun z29 e29 f29 => ?_)
                                    refine ts_i (p2 := 208) (i := 149) (n := 283) rfl rfl I12 rfl rfl rfl rfl (by omega) (by omega) (i32_lo _) (i32_hi _) (i32_ho _) rfl (fun h30 I30 u30 => ?_)
                                    have f30 := fr_st (F := F_X12_goes) 3 f12 u30 rfl (by omega) (by omega)
                                    refine ar_inc (p2 := 211) (x := v12_1) rfl rfl (by decide) rfl (by decide) rfl (by omega) (by omega) (fun z31 e31 f31 => ?_)
                                    show EvP _ _ _ (211, [(1, .int z31), (0, .ref 164)], [], h30) _
                                    refine te_goto rfl ?_
                                    refine te_lv [(0, .ref 164), (1, .int z31)] rfl rfl ⟨rfl, rfl, trivial⟩ ?_
                                    exact ih12 z31 t12_dd h30 I30 f30 (by omega) (by omega) ((u30.2 _ _ (Or.inr (by have hc_ := (show Int32.toInt 105 = 105 from rfl); omega))).trans v12_dd) (by omega) (wl_k w12_0 rfl (fun m hm => ⟨(u30.2 _ _ (Or.inr (by omega))), (u30.2 _ _ (Or.inr (by omega)))⟩)) (by omega)
                                  · refine te_aload_n (p2 := 189) rfl rfl rfl ?_
                                    refine tg_r (p2 := 192) (i := 148) (r := 165) rfl rfl I12 rfl rfl rfl ?_
                                    refine te_sipush (p2 := 195) (x := 164) rfl rfl (by decide) ?_
                                    refine te_iload_n (p2 := 196) rfl rfl rfl ?_
                                    refine ar_add (p2 := 197) rfl rfl (show Int32.toInt 164 = 164 from rfl) rfl (by omega) (by omega) (fun z32 e32 f32 => ?_)
                                    refine tl_i (p2 := 198) (i := 149) (n := 283) rfl rfl I12 rfl rfl rfl rfl (by omega) (by omega) (fun y33 a33 b33 g33 e33 => ?_)
                                    refine tz_le (p2 := 201) rfl rfl rfl (fun c34 => ?_) (fun c34 => ?_)
                                    · refine te_iconst (p2 := 206) (x := 0) rfl rfl (by decide) ?_
                                      have n35_y25 := i32_lo y25
                                      have o35_y25 := i32_hi y25
                                      refine ar_sub (p2 := 207) rfl rfl rfl (show Int32.toInt 0 = 0 from rfl) (by omega) (by omega) (fun z35 e35 f35 => ?_)
                                      refine ts_i (p2 := 208) (i := 149) (n := 283) rfl rfl I12 rfl rfl rfl rfl (by omega) (by omega) (i32_lo _) (i32_hi _) (i32_ho _) rfl (fun h36 I36 u36 => ?_)
                                      have f36 := fr_st (F := F_X12_goes) 3 f12 u36 rfl (by omega) (by omega)
                                      refine ar_inc (p2 := 211) (x := v12_1) rfl rfl (by decide) rfl (by decide) rfl (by omega) (by omega) (fun z37 e37 f37 => ?_)
                                      show EvP _ _ _ (211, [(1, .int z37), (0, .ref 164)], [], h36) _
                                      refine te_goto rfl ?_
                                      refine te_lv [(0, .ref 164), (1, .int z37)] rfl rfl ⟨rfl, rfl, trivial⟩ ?_
                                      exact ih12 z37 t12_dd h36 I36 f36 (by omega) (by omega) ((u36.2 _ _ (Or.inr (by have hc_ := (show Int32.toInt 105 = 105 from rfl); omega))).trans v12_dd) (by omega) (wl_k w12_0 rfl (fun m hm => ⟨(u36.2 _ _ (Or.inr (by omega))), (u36.2 _ _ (Or.inr (by omega)))⟩)) (by omega)
                                    · refine te_iconst (p2 := 202) (x := 1) rfl rfl (by decide) ?_
                                      refine te_goto rfl ?_
                                      refine au_sub (p2 := 207) rfl rfl (fun z38 e38 => ?_)
                                      refine ts_i (p2 := 208) (i := 149) (n := 283) rfl rfl I12 rfl rfl rfl rfl (by omega) (by omega) (i32_lo _) (i32_hi _) (i32_ho _) rfl (fun h39 I39 u39 => ?_)
                                      have f39 := fr_st (F := F_X12_goes) 3 f12 u39 rfl (by omega) (by omega)
                                      refine ar_inc (p2 := 211) (x := v12_1) rfl rfl (by decide) rfl (by decide) rfl (by omega) (by omega) (fun z40 e40 f40 => ?_)
                                      show EvP _ _ _ (211, [(1, .int z40), (0, .ref 164)], [], h39) _
                                      refine te_goto rfl ?_
                                      refine te_lv [(0, .ref 164), (1, .int z40)] rfl rfl ⟨rfl, rfl, trivial⟩ ?_
                                      exact ih12 z40 t12_dd h39 I39 f39 (by omega) (by omega) ((u39.2 _ _ (Or.inr (by have hc_ := (show Int32.toInt 105 = 105 from rfl); omega))).trans v12_dd) (by omega) (wl_k w12_0 rfl (fun m hm => ⟨(u39.2 _ _ (Or.inr (by omega))), (u39.2 _ _ (Or.inr (by omega)))⟩)) (by omega)
                          refine te_lv [(0, .ref 164), (1, .int 0)] rfl rfl ⟨rfl, rfl, trivial⟩ ?_
                          exact lp12 25 0 t9_dd h9 I9 f9 (by decide) (by decide) v9_dd (by have cc0 := (show Int32.toInt 0 = 0 from rfl); omega) (wl_k w9_0 (by omega) (fun m _ => ⟨rfl, rfl⟩)) (by have cc0 := (show Int32.toInt 0 = 0 from rfl); omega)
                        · refine te_aload_n (p2 := 89) rfl rfl rfl ?_
                          refine tg_r (p2 := 92) (i := 148) (r := 165) rfl rfl I9 rfl rfl rfl ?_
                          refine te_sipush (p2 := 95) (x := 236) rfl rfl (by decide) ?_
                          refine te_iload_n (p2 := 96) rfl rfl rfl ?_
                          refine ar_add (p2 := 97) rfl rfl (show Int32.toInt 236 = 236 from rfl) rfl (by omega) (by omega) (fun z41 e41 f41 => ?_)
                          refine tl_i (p2 := 98) (i := 149) (n := 283) rfl rfl I9 rfl rfl rfl rfl (by omega) (by omega) (fun y42 a42 b42 g42 e42 => ?_)
                          refine tz_ne (p2 := 101) rfl rfl rfl (fun c43 => ?_) (fun c43 => ?_)
                          · refine ar_inc (p2 := 136) (x := v9_1) rfl rfl (by decide) rfl (by decide) rfl (by omega) (by omega) (fun z44 e44 f44 => ?_)
                            show EvP _ _ _ (136, [(1, .int z44), (0, .ref 164)], [], h9) _
                            refine te_goto rfl ?_
                            refine te_lv [(0, .ref 164), (1, .int z44)] rfl rfl ⟨rfl, rfl, trivial⟩ ?_
                            exact ih9 z44 t9_dd h9 I9 f9 (by omega) (by omega) v9_dd (by omega) (wl_k w9_0 rfl (fun m hm => ⟨rfl, rfl⟩)) (by omega)
                          · refine te_aload_n (p2 := 102) rfl rfl rfl ?_
                            refine te_iload_n (p2 := 103) rfl rfl rfl ?_
                            refine te_iconst (p2 := 104) (x := 1) rfl rfl (by decide) ?_
                            refine cV_pI (p2 := 107) (i := 148) rfl rfl rfl rfl I9 rfl rfl rfl (t_X12_saysOf (k := v9_1) (key := 1) I9 (by omega) (by omega)) (by decide) (fun y45 r45 => ?_)
                            refine te_istore_n (p2 := 108) (lv2 := [(2, .int y45), (0, .ref 164), (1, .int v9_1)]) rfl rfl (by decide) rfl ?_
                            refine te_aload_n (p2 := 109) rfl rfl rfl ?_
                            refine tg_r (p2 := 112) (i := 148) (r := 165) rfl rfl I9 rfl rfl rfl ?_
                            refine te_sipush (p2 := 115) (x := 212) rfl rfl (by decide) ?_
                            refine te_iload_n (p2 := 116) rfl rfl rfl ?_
                            refine ar_add (p2 := 117) rfl rfl (show Int32.toInt 212 = 212 from rfl) rfl (by omega) (by omega) (fun z46 e46 f46 => ?_)
                            refine te_dup2 (p2 := 118) rfl rfl ⟨rfl, rfl⟩ ?_
                            refine tl_i (p2 := 119) (i := 149) (n := 283) rfl rfl I9 rfl rfl rfl rfl (by omega) (by omega) (fun y47 a47 b47 g47 e47 => ?_)
                            refine te_iload_n (p2 := 120) rfl rfl rfl ?_
                            refine te_bipush (p2 := 122) (x := 9) rfl rfl (by decide) ?_
                            refine tb_le (p2 := 125) rfl rfl rfl (show Int32.toInt 9 = 9 from rfl) (fun c48 => ?_) (fun c48 => ?_)
                            · refine te_iload_n (p2 := 131) rfl rfl rfl ?_
                              refine au_add (p2 := 132) rfl rfl (fun z49 e49 => ?_)
                              refine ts_i (p2 := 133) (i := 149) (n := 283) rfl rfl I9 rfl rfl rfl rfl (by omega) (by omega) (i32_lo _) (i32_hi _) (i32_ho _) rfl (fun h50 I50 u50 => ?_)
                              have f50 := fr_st (F := F_X12_goes) 3 f9 u50 rfl (by omega) (by omega)
                              refine ar_inc (p2 := 136) (x := v9_1) rfl rfl (by decide) rfl (by decide) rfl (by omega) (by omega) (fun z51 e51 f51 => ?_)
                              show EvP _ _ _ (136, [(1, .int z51), (2, .int y45), (0, .ref 164)], [], h50) _
                              refine te_goto rfl ?_
                              refine te_lv [(0, .ref 164), (1, .int z51)] rfl rfl ⟨rfl, rfl, trivial⟩ ?_
                              exact ih9 z51 t9_dd h50 I50 f50 (by omega) (by omega) ((u50.2 _ _ (Or.inr (by have hc_ := (show Int32.toInt 105 = 105 from rfl); omega))).trans v9_dd) (by omega) (wl_k w9_0 rfl (fun m hm => ⟨(u50.2 _ _ (Or.inr (by omega))), (u50.2 _ _ (Or.inr (by omega)))⟩)) (by omega)
                            · refine te_bipush (p2 := 127) (x := 9) rfl rfl (by decide) ?_
                              refine te_goto rfl ?_
                              refine au_add (p2 := 132) rfl rfl (fun z52 e52 => ?_)
                              refine ts_i (p2 := 133) (i := 149) (n := 283) rfl rfl I9 rfl rfl rfl rfl (by omega) (by omega) (i32_lo _) (i32_hi _) (i32_ho _) rfl (fun h53 I53 u53 => ?_)
                              have f53 := fr_st (F := F_X12_goes) 3 f9 u53 rfl (by omega) (by omega)
                              refine ar_inc (p2 := 136) (x := v9_1) rfl rfl (by decide) rfl (by decide) rfl (by omega) (by omega) (fun z54 e54 f54 => ?_)
                              show EvP _ _ _ (136, [(1, .int z54), (2, .int y45), (0, .ref 164)], [], h53) _
                              refine te_goto rfl ?_
                              refine te_lv [(0, .ref 164), (1, .int z54)] rfl rfl ⟨rfl, rfl, trivial⟩ ?_
                              exact ih9 z54 t9_dd h53 I53 f53 (by omega) (by omega) ((u53.2 _ _ (Or.inr (by have hc_ := (show Int32.toInt 105 = 105 from rfl); omega))).trans v9_dd) (by omega) (wl_k w9_0 rfl (fun m hm => ⟨(u53.2 _ _ (Or.inr (by omega))), (u53.2 _ _ (Or.inr (by omega)))⟩)) (by omega)
                    refine te_lv [(0, .ref 164), (1, .int 0)] rfl rfl ⟨rfl, rfl, trivial⟩ ?_
                    exact lp9 25 0 t7_dd h7 I7 f7 (by decide) (by decide) v7_dd (by have cc0 := (show Int32.toInt 0 = 0 from rfl); omega) (wl_k w7_0 (by omega) (fun m _ => ⟨rfl, rfl⟩)) (by have cc0 := (show Int32.toInt 0 = 0 from rfl); omega)
                  · refine te_aload_n (p2 := 47) rfl rfl rfl ?_
                    refine tg_r (p2 := 50) (i := 148) (r := 165) rfl rfl I7 rfl rfl rfl ?_
                    refine te_bipush (p2 := 52) (x := 108) rfl rfl (by decide) ?_
                    refine te_iload_n (p2 := 53) rfl rfl rfl ?_
                    refine ar_add (p2 := 54) rfl rfl (show Int32.toInt 108 = 108 from rfl) rfl (by omega) (by omega) (fun z55 e55 f55 => ?_)
                    refine tl_i (p2 := 55) (i := 149) (n := 283) rfl rfl I7 rfl rfl rfl rfl (by omega) (by omega) (fun y56 a56 b56 g56 e56 => ?_)
                    refine te_iconst (p2 := 56) (x := 1) rfl rfl (by decide) ?_
                    refine tb_ne (p2 := 59) rfl rfl rfl (show Int32.toInt 1 = 1 from rfl) (fun c57 => ?_) (fun c57 => ?_)
                    · refine ar_inc (p2 := 75) (x := v7_1) rfl rfl (by decide) rfl (by decide) rfl (by omega) (by omega) (fun z58 e58 f58 => ?_)
                      show EvP _ _ _ (75, [(1, .int z58), (0, .ref 164)], [], h7) _
                      refine te_goto rfl ?_
                      refine te_lv [(0, .ref 164), (1, .int z58)] rfl rfl ⟨rfl, rfl, trivial⟩ ?_
                      exact ih7 z58 t7_dd h7 I7 f7 (by omega) (by omega) v7_dd (by omega) (by omega) (wl_a (k := v7_1.toInt.toNat) w7_0 (by omega) f58 (by omega) (by show rd _ 149 (108 + v7_1.toInt.toNat) = _; rw [show 108 + v7_1.toInt.toNat = z55.toInt.toNat by omega]; exact e56) (by omega)) (by omega)
                    · refine te_aload_n (p2 := 60) rfl rfl rfl ?_
                      refine te_iload_n (p2 := 61) rfl rfl rfl ?_
                      refine tc_V (p2 := 64) (i := 148) rfl rfl rfl rfl I7 rfl rfl rfl (c_X12_wears (w := v7_1) I7 (by omega) (by omega)) (by decide) (fun v59 h59 hq59 => ?_)
                      obtain ⟨I59, g59, y59, w59, t59, Q59⟩ := hq59
                      subst w59
                      have f59 := fr_tr (F1 := F_X12_wears) (F := F_X12_goes) f7 g59 (by decide)
                      rcases Q59.2.2.2 with ⟨x59, c59⟩ | ⟨x59, c59⟩
                      · subst x59
                        show EvP _ _ _ (64, [(0, .ref 164), (1, .int v7_1)], [.int 1], h59) _
                        refine tz_eq (p2 := 67) rfl rfl (show Int32.toInt 1 = 1 from rfl) (fun c60 => absurd c60 (by omega)) (fun c60 => ?_)
                        refine te_aload_n (p2 := 68) rfl rfl rfl ?_
                        refine te_iload_n (p2 := 69) rfl rfl rfl ?_
                        refine tc_V (p2 := 72) (i := 148) rfl rfl rfl rfl I59 rfl rfl rfl (c_X12_falls (w := v7_1) I59 (by omega) (by omega)) (by decide) (fun v61 h61 hq61 => ?_)
                        obtain ⟨I61, g61, w61, Q61⟩ := hq61
                        subst w61
                        have f61 := fr_tr (F1 := F_X12_falls) (F := F_X12_goes) f59 g61 (by decide)
                        show EvP _ _ _ (72, [(0, .ref 164), (1, .int v7_1)], [], h61) _
                        refine ar_inc (p2 := 75) (x := v7_1) rfl rfl (by decide) rfl (by decide) rfl (by omega) (by omega) (fun z62 e62 f62 => ?_)
                        show EvP _ _ _ (75, [(1, .int z62), (0, .ref 164)], [], h61) _
                        refine te_goto rfl ?_
                        refine te_lv [(0, .ref 164), (1, .int z62)] rfl rfl ⟨rfl, rfl, trivial⟩ ?_
                        exact ih7 z62 t7_dd h61 I61 f61 (by omega) (by omega) ((g61 _ _ (by decide)).trans ((g59 _ _ (by decide)).trans v7_dd)) (by omega) (by omega) (wl_b (k := v7_1.toInt.toNat) w7_0 (by omega) f62 (by omega) (by show rd _ 149 (108 + v7_1.toInt.toNat) = _; rw [show 108 + v7_1.toInt.toNat = z55.toInt.toNat by omega]; exact e56) (by omega) Q59.1 (by rw [← (show wrM h7 v7_1.toInt.toNat = wrM h v7_1.toInt.toNat from wrM_fr f7)]; exact ((g61 _ _ (inFn (o := 124) (by decide) (by omega))).trans Q59.2.1)) (fun m hm h16 => (g61 _ _ (inFn (o := 124) (by decide) h16)).trans (Q59.2.2.1 _ _ (Or.inr (by omega)))) (fun m hm h16 => (Q61.2 _ (by omega) (by omega) (by omega)).trans (Q59.2.2.1 _ _ (Or.inr (by omega)))) ⟨fun _ => Q61.1, fun h9 => absurd (by rw [← (show wrM h7 v7_1.toInt.toNat = wrM h v7_1.toInt.toNat from wrM_fr f7), ← (show rv h7 149 107 = rv h 149 107 from rv_eq (f7 _ _ rfl))]; exact c59) h9⟩) (by omega)
                      · subst x59
                        show EvP _ _ _ (64, [(0, .ref 164), (1, .int v7_1)], [.int 0], h59) _
                        refine tz_eq (p2 := 67) rfl rfl (show Int32.toInt 0 = 0 from rfl) (fun c63 => ?_) (fun c63 => absurd c63 (by omega))
                        refine ar_inc (p2 := 75) (x := v7_1) rfl rfl (by decide) rfl (by decide) rfl (by omega) (by omega) (fun z64 e64 f64 => ?_)
                        show EvP _ _ _ (75, [(1, .int z64), (0, .ref 164)], [], h59) _
                        refine te_goto rfl ?_
                        refine te_lv [(0, .ref 164), (1, .int z64)] rfl rfl ⟨rfl, rfl, trivial⟩ ?_
                        exact ih7 z64 t7_dd h59 I59 f59 (by omega) (by omega) ((g59 _ _ (by decide)).trans v7_dd) (by omega) (by omega) (wl_b (k := v7_1.toInt.toNat) w7_0 (by omega) f64 (by omega) (by show rd _ 149 (108 + v7_1.toInt.toNat) = _; rw [show 108 + v7_1.toInt.toNat = z55.toInt.toNat by omega]; exact e56) (by omega) Q59.1 (by rw [← (show wrM h7 v7_1.toInt.toNat = wrM h v7_1.toInt.toNat from wrM_fr f7)]; exact Q59.2.1) (fun m hm _ => Q59.2.2.1 _ _ (Or.inr (by omega))) (fun m _ _ => Q59.2.2.1 _ _ (Or.inr (by omega))) ⟨fun h9 => absurd (by rw [(show wrM h7 v7_1.toInt.toNat = wrM h v7_1.toInt.toNat from wrM_fr f7), (show rv h7 149 107 = rv h 149 107 from rv_eq (f7 _ _ rfl))]; exact h9) c59, fun _ => Q59.2.2.1 _ _ (Or.inr (by omega))⟩) (by omega)
              refine te_lv [(0, .ref 164), (1, .int 0)] rfl rfl ⟨rfl, rfl, trivial⟩ ?_
              exact lp7 17 0 t5_dd h5 I5 f5 (by decide) (by decide) v5_dd (by have cc0 := (show Int32.toInt 0 = 0 from rfl); omega) (by have cc0 := (show Int32.toInt 0 = 0 from rfl); omega) (wl_0 (by decide) (fun m hm => ⟨(w5_0 m hm).1.trans (W0 m hm).1, (w5_0 m hm).2.trans (W0 m hm).2⟩)) (by have cc0 := (show Int32.toInt 0 = 0 from rfl); omega)
            · refine te_aload_n (p2 := 26) rfl rfl rfl ?_
              refine te_iload_n (p2 := 27) rfl rfl rfl ?_
              refine cV_mV (p2 := 30) (i := 148) rfl rfl rfl rfl I5 rfl rfl rfl (t_X12_goesRail (r := v5_1) I5 (by omega) (by omega)) (by decide) (fun h65 I65 g65 => ?_)
              have f65 := fr_tr (F1 := F_X12_goesRail) (F := F_X12_goes) f5 g65 (by decide)
              refine ar_inc (p2 := 33) (x := v5_1) rfl rfl (by decide) rfl (by decide) rfl (by omega) (by omega) (fun z66 e66 f66 => ?_)
              show EvP _ _ _ (33, [(1, .int z66), (0, .ref 164)], [], h65) _
              refine te_goto rfl ?_
              refine te_lv [(0, .ref 164), (1, .int z66)] rfl rfl ⟨rfl, rfl, trivial⟩ ?_
              exact ih5 z66 t5_dd h65 I65 f65 (by omega) (by omega) ((g65 _ _ (by decide)).trans v5_dd) (by omega) (fun m hm => ⟨((g65 _ _ (inFn (by decide) hm)).trans (w5_0 m hm).1), ((g65 _ _ (inFn (by decide) hm)).trans (w5_0 m hm).2)⟩) (by omega)
        refine te_lv [(0, .ref 164), (1, .int 0)] rfl rfl ⟨rfl, rfl, trivial⟩ ?_
        exact lp5 4 0 t2_dd h2 I2 f2 (by decide) (by decide) v2_dd (by have cc0 := (show Int32.toInt 0 = 0 from rfl); omega) (fun m hm => w2_0 m hm) (by have cc0 := (show Int32.toInt 0 = 0 from rfl); omega)
      · refine te_aload_n (p2 := 8) rfl rfl rfl ?_
        refine te_iload_n (p2 := 9) rfl rfl rfl ?_
        refine cV_mV (p2 := 12) (i := 148) rfl rfl rfl rfl I2 rfl rfl rfl (t_X12_goesRow (r := v2_1) I2 (by omega) (by omega)) (by decide) (fun h67 I67 g67 => ?_)
        have f67 := fr_tr (F1 := F_X12_goesRow) (F := F_X12_goes) f2 g67 (by decide)
        refine ar_inc (p2 := 15) (x := v2_1) rfl rfl (by decide) rfl (by decide) rfl (by omega) (by omega) (fun z68 e68 f68 => ?_)
        show EvP _ _ _ (15, [(1, .int z68), (0, .ref 164)], [], h67) _
        refine te_goto rfl ?_
        refine te_lv [(0, .ref 164), (1, .int z68)] rfl rfl ⟨rfl, rfl, trivial⟩ ?_
        exact ih2 z68 t2_dd h67 I67 f67 (by omega) (by omega) ((g67 _ _ (by decide)).trans v2_dd) (by omega) (fun m hm => ⟨((g67 _ _ (inFn (by decide) hm)).trans (w2_0 m hm).1), ((g67 _ _ (inFn (by decide) hm)).trans (w2_0 m hm).2)⟩) (by omega)
  refine te_lv [(0, .ref 164), (1, .int 0)] rfl rfl ⟨rfl, rfl, trivial⟩ ?_
  exact lp2 5 0 y3 h hI f0 (by decide) (by decide) e3 (by have cc0 := (show Int32.toInt 0 = 0 from rfl); omega) (fun m _ => ⟨rfl, rfl⟩) (by have cc0 := (show Int32.toInt 0 = 0 from rfl); omega)
def runT (n d : Int32) : Int32 := if 1 ≤ n.toInt ∧ n.toInt ≤ 60 then (if 2000 < (d + n).toInt then -4 else d + n) else -2
def runD (n d : Int32) : Int32 := if 1 ≤ n.toInt ∧ n.toInt ≤ 60 then (if 2000 < (d + n).toInt then d else d + n) else d
def runN (n d : Int32) : Nat := if 1 ≤ n.toInt ∧ n.toInt ≤ 60 then (if 2000 < (d + n).toInt then 0 else n.toInt.toNat) else 0
theorem wrX_fr2 {h H : im_H} {k : Nat} (f : fr F_X11_run h H) : wrX H 23 k = wrX h 23 k := by
  have a : ∀ c, rd H 2 c = rd h 2 c := fun c => f _ _ rfl
  have b : rd H 9 k = rd h 9 k := f _ _ rfl
  have c : rd H 23 1 = rd h 23 1 := f _ _ rfl
  unfold wrX wkX
  rw [rv_eq b, rv_eq c, rv_eq (a _)]
abbrev Q1_run (x1 : Int32) (y : Int32) (h h2 : im_H) : Prop := ∃ d n : Int32, rd h 23 0 = some (.int d) ∧ rd h 1 9 = some (.int n) ∧ y = runT x1 d ∧ rd h2 23 0 = some (.int (runD x1 d)) ∧ iw (AX 23) (BX 23) (wrX h 23) (3 * rv h 23 2) n.toInt (rv h 31) (rv h 32) (runN x1 d) h2
set_option maxRecDepth 20000 in
set_option maxHeartbeats 4000000 in
theorem c_X11_run {x1 : Int32} {h : im_H} (hI : tI h)  : CaP 8 76 [.ref 16, .int x1] h (fun v h2 => tI h2 ∧ fr F_X11_run h h2 ∧ ∃ y : Int32, v = some (.int y) ∧ Q1_run x1 y h h2) := by
  refine cap_of (d := 7) (M := mX11_run) rfl (Nat.le_of_ble_eq_true rfl) ?_
  show EvP im_K0 7 mX11_run (0, [(0, .ref 16), (1, .int x1)], [], h) _
  have f0 : fr F_X11_run h h := fr_rf
  refine te_iload_n (p2 := 1) rfl rfl rfl ?_
  obtain ⟨v1, e1, y1, w1, a1, b1, _⟩ := hI.2.1 1 9 (.inl (0, 16, 9999999999)) rfl
  subst w1
  have W0 : iw (AX 23) (BX 23) (wrX h 23) (3 * rv h 23 2) y1.toInt (rv h 31) (rv h 32) 0 h := fun m hm => by (obtain ⟨_, e1, x1_, w1, _⟩ := hI.2.1 31 m (.inl ((-2147483648), 2147483647, 9999999999)) (tq_row rfl (by omega)); obtain ⟨_, e2, x2_, w2, _⟩ := hI.2.1 32 m (.inl (0, 1, 9999999999)) (tq_row rfl (by omega)); subst w1; subst w2; exact ⟨e1.trans (congrArg (fun t => some (Value.int t)) (rv_of e1).symm), e2.trans (congrArg (fun t => some (Value.int t)) (rv_of e2).symm)⟩)
  refine te_iconst (p2 := 2) (x := 1) rfl rfl (by decide) ?_
  refine te_bipush (p2 := 4) (x := 60) rfl rfl (by decide) ?_
  refine cS_pI (p2 := 7) rfl rfl rfl rfl (t_X11_between (n := x1) (a := 1) (b := 60) hI ) (by decide) (fun y2 r2 => ?_)
  rcases r2 with ⟨w2, c2⟩ | ⟨w2, c2⟩
  · subst w2
    have cc2_1 := (show Int32.toInt 1 = 1 from rfl)
    have cc2_2 := (show Int32.toInt 60 = 60 from rfl)
    refine tz_ne (p2 := 10) rfl rfl (show Int32.toInt 1 = 1 from rfl) (fun c3 => ?_) (fun c3 => absurd c3 (by omega))
    refine te_aload_n (p2 := 14) rfl rfl rfl ?_
    refine tg_r (p2 := 17) (i := 0) (r := 39) rfl rfl hI rfl rfl rfl ?_
    refine tg_i (p2 := 20) (i := 23) rfl rfl hI rfl rfl rfl (fun y4 a4 b4 e4 => ?_)
    refine te_iload_n (p2 := 21) rfl rfl rfl ?_
    refine au_add (p2 := 22) rfl rfl (fun z5 e5 => ?_)
    refine te_sipush (p2 := 25) (x := 2000) rfl rfl (by decide) ?_
    refine tb_le (p2 := 28) rfl rfl rfl (show Int32.toInt 2000 = 2000 from rfl) (fun c6 => ?_) (fun c6 => ?_)
    · refine te_iconst (p2 := 32) (x := 0) rfl rfl (by decide) ?_
      refine te_istore_n (p2 := 33) (lv2 := [(2, .int 0), (0, .ref 16), (1, .int x1)]) rfl rfl (by decide) rfl ?_
      have lp7 : ∀ (n7 : Nat) (v7_2 t7_dd : Int32) (h7 : im_H), tI h7 → fr F_X11_run h h7 → 0 ≤ v7_2.toInt → v7_2.toInt ≤ 60 → rd h7 23 0 = some (.int t7_dd) → v7_2.toInt ≤ x1.toInt → t7_dd = y4 + v7_2 → (iw (AX 23) (BX 23) (wrX h 23) (3 * rv h 23 2) y1.toInt (rv h 31) (rv h 32) v7_2.toInt.toNat h7) → x1.toInt - v7_2.toInt < (n7 : Int) → EvP im_K0 7 mX11_run (33, [(0, .ref 16), (1, .int x1), (2, .int v7_2)], [], h7) (fun v h2 => tI h2 ∧ fr F_X11_run h h2 ∧ ∃ y : Int32, v = some (.int y) ∧ Q1_run x1 y h h2) := by
        intro n7
        induction n7 with
        | zero => intro v7_2 t7_dd h7 I7 f7 a7_2 b7_2 v7_dd l7_0 w7_0 w7_1 m7; exfalso; omega
        | succ n7 ih7 =>
          intro v7_2 t7_dd h7 I7 f7 a7_2 b7_2 v7_dd l7_0 w7_0 w7_1 m7
          refine te_iload_n (p2 := 34) rfl rfl rfl ?_
          refine te_iload_n (p2 := 35) rfl rfl rfl ?_
          refine tb_ge (p2 := 38) rfl rfl rfl rfl (fun c8 => ?_) (fun c8 => ?_)
          · refine te_aload_n (p2 := 56) rfl rfl rfl ?_
            refine tg_r (p2 := 59) (i := 0) (r := 39) rfl rfl I7 rfl rfl rfl ?_
            refine tg_e (p2 := 62) (i := 23) (v := .int t7_dd) rfl rfl I7 rfl rfl v7_dd ?_
            exact te_iret rfl rfl ⟨I7, f7, _, rfl, y4, y1, e4, e1, (show t7_dd = runT x1 y4 from by (unfold runT; rw [if_pos (by omega), if_neg (by rw [e5]; omega), w7_0, (i32_ext (by omega) : v7_2 = x1)])), v7_dd.trans (congrArg (fun t => some (Value.int t)) (show t7_dd = runD x1 y4 from by (unfold runD; rw [if_pos (by omega), if_neg (by rw [e5]; omega), w7_0, (i32_ext (by omega) : v7_2 = x1)]))), (by rw [← (show v7_2.toInt.toNat = runN x1 y4 from by (unfold runN; rw [if_pos (by omega), if_neg (by rw [e5]; omega), (i32_ext (by omega) : v7_2 = x1)]))]; exact w7_1)⟩
          · refine te_aload_n (p2 := 39) rfl rfl rfl ?_
            refine tg_r (p2 := 42) (i := 0) (r := 17) rfl rfl I7 rfl rfl rfl ?_
            refine te_aload_n (p2 := 43) rfl rfl rfl ?_
            refine tg_r (p2 := 46) (i := 0) (r := 39) rfl rfl I7 rfl rfl rfl ?_
            refine tc_V (p2 := 49) (i := 1) rfl rfl rfl rfl I7 rfl rfl rfl (w_X0_playDay (s := 23) I7 (by decide)) (by decide) (fun v9 h9 hq9 => ?_)
            obtain ⟨I9, g9, w9, ⟨d9, eo9, en9⟩, n9_, ew9, Y9⟩ := hq9
            subst w9
            rw [int_inj ew9 ((f7 _ _ rfl).trans e1)] at Y9
            rw [int_inj eo9 v7_dd] at en9
            have f9 := fr_tr (F1 := (F_X0_playDay 23)) (F := F_X11_run) f7 g9 (by decide)
            show EvP _ _ _ (49, [(0, .ref 16), (1, .int x1), (2, .int v7_2)], [], h9) _
            refine ar_inc (p2 := 52) (x := v7_2) rfl rfl (by decide) rfl (by decide) rfl (by omega) (by omega) (fun z10 e10 f10 => ?_)
            show EvP _ _ _ (52, [(2, .int z10), (0, .ref 16), (1, .int x1)], [], h9) _
            refine te_goto rfl ?_
            refine te_lv [(0, .ref 16), (1, .int x1), (2, .int z10)] rfl rfl ⟨rfl, rfl, rfl, trivial⟩ ?_
            exact ih7 z10 (t7_dd + 1) h9 I9 f9 (by omega) (by omega) en9 (by omega) (by rw [← e10, w7_0, Int32.add_assoc]; rfl) (iw_s w7_1 (by omega) Y9 (fun m => wrX_fr2 f7) (by rw [rv_eq (show rd h7 23 2 = rd h 23 2 from f7 23 2 rfl)]) rfl (fun m x hm e => rv_of e) (fun m x hm e => rv_of e)) (by omega)
      refine te_lv [(0, .ref 16), (1, .int x1), (2, .int 0)] rfl rfl ⟨rfl, rfl, rfl, trivial⟩ ?_
      exact lp7 61 0 y4 h hI f0 (by decide) (by decide) e4 (by have cc0 := (show Int32.toInt 0 = 0 from rfl); omega) (Int32.add_zero _).symm W0 (by have cc0 := (show Int32.toInt 0 = 0 from rfl); omega)
    · refine te_bipush (p2 := 30) (x := (-4)) rfl rfl (by decide) ?_
      exact te_iret rfl rfl ⟨hI, f0, _, rfl, y4, y1, e4, e1, (show (-4) = runT x1 y4 from by (unfold runT; rw [e5]; (repeat' split) <;> first | (exfalso; omega) | rfl)), e4.trans (congrArg (fun t => some (Value.int t)) (show y4 = runD x1 y4 from by (unfold runD; rw [e5]; (repeat' split) <;> first | (exfalso; omega) | rfl))), (by rw [← (show 0 = runN x1 y4 from by (unfold runN; rw [e5]; (repeat' split) <;> first | (exfalso; omega) | rfl))]; exact W0)⟩
  · subst w2
    have cc2_1 := (show Int32.toInt 1 = 1 from rfl)
    have cc2_2 := (show Int32.toInt 60 = 60 from rfl)
    refine tz_ne (p2 := 10) rfl rfl (show Int32.toInt 0 = 0 from rfl) (fun c11 => absurd c11 (by omega)) (fun c11 => ?_)
    refine te_bipush (p2 := 12) (x := (-2)) rfl rfl (by decide) ?_
    obtain ⟨v12, e12, y12, w12, a12, b12, _⟩ := hI.2.1 23 0 (.inl ((-2147483648), 2147483647, 9999999999)) rfl
    subst w12
    exact te_iret rfl rfl ⟨hI, f0, _, rfl, y12, y1, e12, e1, (show (-2) = runT x1 y12 from by (unfold runT; (repeat' split) <;> first | (exfalso; omega) | rfl)), e12.trans (congrArg (fun t => some (Value.int t)) (show y12 = runD x1 y12 from by (unfold runD; (repeat' split) <;> first | (exfalso; omega) | rfl))), (by rw [← (show 0 = runN x1 y12 from by (unfold runN; (repeat' split) <;> first | (exfalso; omega) | rfl))]; exact W0)⟩
theorem wrM_fr2 {h H : im_H} {k : Nat} (f : fr F_X12_run h H) : wrM H k = wrM h k := by
  have a : ∀ c, rd H 152 c = rd h 152 c := fun c => f _ _ rfl
  have a2 : ∀ c, rd H 156 c = rd h 156 c := fun c => f _ _ rfl
  have b : rd H 167 k = rd h 167 k := f _ _ rfl
  have c : rd H 149 106 = rd h 149 106 := f _ _ rfl
  unfold wrM wkM
  rw [rv_eq b, rv_eq c, rv_eq (a _), rv_eq (a2 _)]
abbrev Q2_run (x1 : Int32) (y : Int32) (h h2 : im_H) : Prop := ∃ d n : Int32, rd h 149 (Int32.toInt 105).toNat = some (.int d) ∧ rd h 148 21 = some (.int n) ∧ y = runT x1 d ∧ rd h2 149 (Int32.toInt 105).toNat = some (.int (runD x1 d)) ∧ iw AM BM (wrM h) (3 * rv h 149 107) n.toInt (SM h) (UM h) (runN x1 d) h2
set_option maxRecDepth 20000 in
set_option maxHeartbeats 4000000 in
theorem c_X12_run {x1 : Int32} {h : im_H} (hI : tI h)  : CaP 9 155 [.ref 164, .int x1] h (fun v h2 => tI h2 ∧ fr F_X12_run h h2 ∧ ∃ y : Int32, v = some (.int y) ∧ Q2_run x1 y h h2) := by
  refine cap_of (d := 8) (M := mX12_run) rfl (Nat.le_of_ble_eq_true rfl) ?_
  show EvP im_K0 8 mX12_run (0, [(0, .ref 164), (1, .int x1)], [], h) _
  have f0 : fr F_X12_run h h := fr_rf
  refine te_iload_n (p2 := 1) rfl rfl rfl ?_
  obtain ⟨v1, e1, y1, w1, a1, b1, _⟩ := hI.2.1 148 21 (.inl (0, 16, 9999999999)) rfl
  subst w1
  have W0 : iw AM BM (wrM h) (3 * rv h 149 107) y1.toInt (SM h) (UM h) 0 h := fun m hm => by (obtain ⟨_, e1, x1_, w1, _⟩ := hI.2.1 149 (124 + m) (.inl ((-2147483648), 2147483647, 9999999999)) (tq_row rfl (by omega)); obtain ⟨_, e2, x2_, w2, _⟩ := hI.2.1 149 (108 + m) (.inl ((-2147483648), 2147483647, 9999999999)) (tq_row rfl (by omega)); subst w1; subst w2; exact ⟨e1.trans (congrArg (fun t => some (Value.int t)) (rv_of e1).symm), e2.trans (congrArg (fun t => some (Value.int t)) (rv_of e2).symm)⟩)
  refine te_iconst (p2 := 2) (x := 1) rfl rfl (by decide) ?_
  refine te_bipush (p2 := 4) (x := 60) rfl rfl (by decide) ?_
  refine cS_pI (p2 := 7) rfl rfl rfl rfl (t_X12_in (n := x1) (a := 1) (b := 60) hI ) (by decide) (fun y2 r2 => ?_)
  rcases r2 with ⟨w2, c2⟩ | ⟨w2, c2⟩
  · subst w2
    have cc2_1 := (show Int32.toInt 1 = 1 from rfl)
    have cc2_2 := (show Int32.toInt 60 = 60 from rfl)
    refine tz_ne (p2 := 10) rfl rfl (show Int32.toInt 1 = 1 from rfl) (fun c3 => ?_) (fun c3 => absurd c3 (by omega))
    refine te_aload_n (p2 := 14) rfl rfl rfl ?_
    refine tg_r (p2 := 17) (i := 148) (r := 165) rfl rfl hI rfl rfl rfl ?_
    refine te_bipush (p2 := 19) (x := 105) rfl rfl (by decide) ?_
    refine tl_i (p2 := 20) (i := 149) (n := 283) rfl rfl hI rfl rfl rfl rfl (by decide) (by decide) (fun y4 a4 b4 g4 e4 => ?_)
    refine te_iload_n (p2 := 21) rfl rfl rfl ?_
    refine au_add (p2 := 22) rfl rfl (fun z5 e5 => ?_)
    refine te_sipush (p2 := 25) (x := 2000) rfl rfl (by decide) ?_
    refine tb_le (p2 := 28) rfl rfl rfl (show Int32.toInt 2000 = 2000 from rfl) (fun c6 => ?_) (fun c6 => ?_)
    · refine te_iconst (p2 := 32) (x := 0) rfl rfl (by decide) ?_
      refine te_istore_n (p2 := 33) (lv2 := [(2, .int 0), (0, .ref 164), (1, .int x1)]) rfl rfl (by decide) rfl ?_
      have lp7 : ∀ (n7 : Nat) (v7_2 t7_dd : Int32) (h7 : im_H), tI h7 → fr F_X12_run h h7 → 0 ≤ v7_2.toInt → v7_2.toInt ≤ 60 → rd h7 149 (Int32.toInt 105).toNat = some (.int t7_dd) → v7_2.toInt ≤ x1.toInt → t7_dd = y4 + v7_2 → (iw AM BM (wrM h) (3 * rv h 149 107) y1.toInt (SM h) (UM h) v7_2.toInt.toNat h7) → x1.toInt - v7_2.toInt < (n7 : Int) → EvP im_K0 8 mX12_run (33, [(0, .ref 164), (1, .int x1), (2, .int v7_2)], [], h7) (fun v h2 => tI h2 ∧ fr F_X12_run h h2 ∧ ∃ y : Int32, v = some (.int y) ∧ Q2_run x1 y h h2) := by
        intro n7
        induction n7 with
        | zero => intro v7_2 t7_dd h7 I7 f7 a7_2 b7_2 v7_dd l7_0 w7_0 w7_1 m7; exfalso; omega
        | succ n7 ih7 =>
          intro v7_2 t7_dd h7 I7 f7 a7_2 b7_2 v7_dd l7_0 w7_0 w7_1 m7
          refine te_iload_n (p2 := 34) rfl rfl rfl ?_
          refine te_iload_n (p2 := 35) rfl rfl rfl ?_
          refine tb_ge (p2 := 38) rfl rfl rfl rfl (fun c8 => ?_) (fun c8 => ?_)
          · refine te_aload_n (p2 := 49) rfl rfl rfl ?_
            refine tg_r (p2 := 52) (i := 148) (r := 165) rfl rfl I7 rfl rfl rfl ?_
            refine te_bipush (p2 := 54) (x := 105) rfl rfl (by decide) ?_
            refine tl_e (p2 := 55) (i := 149) (n := 283) (t := 0) (Or.inl rfl) rfl rfl I7 rfl rfl (by decide) (by decide) v7_dd ?_
            exact te_iret rfl rfl ⟨I7, f7, _, rfl, y4, y1, e4, e1, (show t7_dd = runT x1 y4 from by (unfold runT; rw [if_pos (by omega), if_neg (by rw [e5]; omega), w7_0, (i32_ext (by omega) : v7_2 = x1)])), v7_dd.trans (congrArg (fun t => some (Value.int t)) (show t7_dd = runD x1 y4 from by (unfold runD; rw [if_pos (by omega), if_neg (by rw [e5]; omega), w7_0, (i32_ext (by omega) : v7_2 = x1)]))), (by rw [← (show v7_2.toInt.toNat = runN x1 y4 from by (unfold runN; rw [if_pos (by omega), if_neg (by rw [e5]; omega), (i32_ext (by omega) : v7_2 = x1)]))]; exact w7_1)⟩
          · refine te_aload_n (p2 := 39) rfl rfl rfl ?_
            refine tc_V (p2 := 42) (i := 148) rfl rfl rfl rfl I7 rfl rfl rfl (w_X12_goes  I7 ) (by decide) (fun v10 h10 hq10 => ?_)
            obtain ⟨I10, g10, w10, ⟨d10, eo10, en10⟩, n10_, ew10, Y10⟩ := hq10
            subst w10
            rw [int_inj ew10 ((f7 _ _ rfl).trans e1)] at Y10
            rw [int_inj eo10 v7_dd] at en10
            have f10 := fr_tr (F1 := F_X12_goes) (F := F_X12_run) f7 g10 (by decide)
            show EvP _ _ _ (42, [(0, .ref 164), (1, .int x1), (2, .int v7_2)], [], h10) _
            refine ar_inc (p2 := 45) (x := v7_2) rfl rfl (by decide) rfl (by decide) rfl (by omega) (by omega) (fun z11 e11 f11 => ?_)
            show EvP _ _ _ (45, [(2, .int z11), (0, .ref 164), (1, .int x1)], [], h10) _
            refine te_goto rfl ?_
            refine te_lv [(0, .ref 164), (1, .int x1), (2, .int z11)] rfl rfl ⟨rfl, rfl, rfl, trivial⟩ ?_
            exact ih7 z11 (t7_dd + 1) h10 I10 f10 (by omega) (by omega) en10 (by omega) (by rw [← e11, w7_0, Int32.add_assoc]; rfl) (iw_s w7_1 (by omega) Y10 (fun m => wrM_fr2 f7) (by rw [rv_eq (show rd h7 149 107 = rd h 149 107 from f7 149 107 rfl)]) rfl (fun m x hm e => rv_of e) (fun m x hm e => rv_of e)) (by omega)
      refine te_lv [(0, .ref 164), (1, .int x1), (2, .int 0)] rfl rfl ⟨rfl, rfl, rfl, trivial⟩ ?_
      exact lp7 61 0 y4 h hI f0 (by decide) (by decide) e4 (by have cc0 := (show Int32.toInt 0 = 0 from rfl); omega) (Int32.add_zero _).symm W0 (by have cc0 := (show Int32.toInt 0 = 0 from rfl); omega)
    · refine te_bipush (p2 := 30) (x := (-4)) rfl rfl (by decide) ?_
      exact te_iret rfl rfl ⟨hI, f0, _, rfl, y4, y1, e4, e1, (show (-4) = runT x1 y4 from by (unfold runT; rw [e5]; (repeat' split) <;> first | (exfalso; omega) | rfl)), e4.trans (congrArg (fun t => some (Value.int t)) (show y4 = runD x1 y4 from by (unfold runD; rw [e5]; (repeat' split) <;> first | (exfalso; omega) | rfl))), (by rw [← (show 0 = runN x1 y4 from by (unfold runN; rw [e5]; (repeat' split) <;> first | (exfalso; omega) | rfl))]; exact W0)⟩
  · subst w2
    have cc2_1 := (show Int32.toInt 1 = 1 from rfl)
    have cc2_2 := (show Int32.toInt 60 = 60 from rfl)
    refine tz_ne (p2 := 10) rfl rfl (show Int32.toInt 0 = 0 from rfl) (fun c12 => absurd c12 (by omega)) (fun c12 => ?_)
    refine te_bipush (p2 := 12) (x := (-2)) rfl rfl (by decide) ?_
    obtain ⟨v13, e13, y13, w13, a13, b13, _⟩ := hI.2.1 149 (Int32.toInt 105).toNat (.inl ((-2147483648), 2147483647, 9999999999)) (tq_row rfl (by decide))
    subst w13
    exact te_iret rfl rfl ⟨hI, f0, _, rfl, y13, y1, e13, e1, (show (-2) = runT x1 y13 from by (unfold runT; (repeat' split) <;> first | (exfalso; omega) | rfl)), e13.trans (congrArg (fun t => some (Value.int t)) (show y13 = runD x1 y13 from by (unfold runD; (repeat' split) <;> first | (exfalso; omega) | rfl))), (by rw [← (show 0 = runN x1 y13 from by (unfold runN; (repeat' split) <;> first | (exfalso; omega) | rfl))]; exact W0)⟩
def fWl (x1 x2 x3 p : Int32) : Int32 := if 0 ≤ x1.toInt ∧ x1.toInt ≤ 99 then (if 0 ≤ x2.toInt ∧ x2.toInt ≤ 3 ∧ 1 ≤ x3.toInt ∧ x3.toInt ≤ 99 then (if (nbr x1 x2).toInt = -1 then -3 else if 16 ≤ p.toInt then -4 else p) else -2) else -1
def gWl (x1 x2 x3 p : Int32) : Int32 := if 0 ≤ x1.toInt ∧ x1.toInt ≤ 99 then (if 0 ≤ x2.toInt ∧ x2.toInt ≤ 3 ∧ 1 ≤ x3.toInt ∧ x3.toInt ≤ 99 then (if (nbr x1 x2).toInt = -1 then p else if 16 ≤ p.toInt then p else p + 1) else p) else p
abbrev Q1_wall (x1 x2 x3 : Int32) (y : Int32) (h h2 : im_H) : Prop := ∃ p : Int32, rd h 1 9 = some (.int p) ∧ y = fWl x1 x2 x3 p ∧ rd h2 1 9 = some (.int (gWl x1 x2 x3 p)) ∧ (0 ≤ y.toInt → rd h2 9 p.toInt.toNat = some (.int x1) ∧ rd h2 10 p.toInt.toNat = some (.int (nbr x1 x2)) ∧ rd h2 31 p.toInt.toNat = some (.int x3) ∧ rd h2 32 p.toInt.toNat = some (.int 1)) ∧ (∀ k : Nat, k < 16 → (k ≠ p.toInt.toNat ∨ ¬ 0 ≤ y.toInt) → rd h2 9 k = rd h 9 k ∧ rd h2 10 k = rd h 10 k ∧ rd h2 31 k = rd h 31 k ∧ rd h2 32 k = rd h 32 k)
set_option maxRecDepth 20000 in
set_option maxHeartbeats 4000000 in
theorem c_X11_wall {x1 : Int32} {x2 : Int32} {x3 : Int32} {h : im_H} (hI : tI h)  : CaP 8 64 [.ref 16, .int x1, .int x2, .int x3] h (fun v h2 => tI h2 ∧ fr F_X11_wall h h2 ∧ ∃ y : Int32, v = some (.int y) ∧ Q1_wall x1 x2 x3 y h h2) := by
  refine cap_of (d := 7) (M := mX11_wall) rfl (Nat.le_of_ble_eq_true rfl) ?_
  show EvP im_K0 7 mX11_wall (0, [(0, .ref 16), (1, .int x1), (2, .int x2), (3, .int x3)], [], h) _
  have f0 : fr F_X11_wall h h := fr_rf
  refine te_iload_n (p2 := 1) rfl rfl rfl ?_
  refine te_bipush (p2 := 3) (x := 100) rfl rfl (by decide) ?_
  refine cS_pI (p2 := 6) rfl rfl rfl rfl (t_X11_within (n := x1) (b := 100) hI ) (by decide) (fun y1 r1 => ?_)
  rcases r1 with ⟨w1, c1⟩ | ⟨w1, c1⟩
  · subst w1
    have cc1_1 := (show Int32.toInt 100 = 100 from rfl)
    refine tz_ne (p2 := 9) rfl rfl (show Int32.toInt 1 = 1 from rfl) (fun c2 => ?_) (fun c2 => absurd c2 (by omega))
    refine te_iload_n (p2 := 12) rfl rfl rfl ?_
    refine te_iconst (p2 := 13) (x := 4) rfl rfl (by decide) ?_
    refine cS_pI (p2 := 16) rfl rfl rfl rfl (t_X11_within (n := x2) (b := 4) hI ) (by decide) (fun y3 r3 => ?_)
    rcases r3 with ⟨w3, c3⟩ | ⟨w3, c3⟩
    · subst w3
      have cc3_1 := (show Int32.toInt 4 = 4 from rfl)
      refine tz_eq (p2 := 19) rfl rfl (show Int32.toInt 1 = 1 from rfl) (fun c4 => absurd c4 (by omega)) (fun c4 => ?_)
      refine te_iload_n (p2 := 20) rfl rfl rfl ?_
      refine te_iconst (p2 := 21) (x := 1) rfl rfl (by decide) ?_
      refine te_bipush (p2 := 23) (x := 99) rfl rfl (by decide) ?_
      refine cS_pI (p2 := 26) rfl rfl rfl rfl (t_X11_between (n := x3) (a := 1) (b := 99) hI ) (by decide) (fun y5 r5 => ?_)
      rcases r5 with ⟨w5, c5⟩ | ⟨w5, c5⟩
      · subst w5
        have cc5_1 := (show Int32.toInt 1 = 1 from rfl)
        have cc5_2 := (show Int32.toInt 99 = 99 from rfl)
        refine tz_ne (p2 := 29) rfl rfl (show Int32.toInt 1 = 1 from rfl) (fun c6 => ?_) (fun c6 => absurd c6 (by omega))
        refine te_iload_n (p2 := 33) rfl rfl rfl ?_
        refine te_iload_n (p2 := 34) rfl rfl rfl ?_
        refine cS_pI (p2 := 37) rfl rfl rfl rfl (t_X11_cellOnSide (c := x1) (side := x2) hI (by omega) (by omega)) (by decide) (fun y7 r7 => ?_)
        obtain ⟨a7, b7, e7⟩ := r7
        refine te_istore (p2 := 39) (lv2 := [(4, .int y7), (0, .ref 16), (1, .int x1), (2, .int x2), (3, .int x3)]) rfl rfl (by decide) rfl ?_
        refine te_iload (p2 := 41) rfl rfl rfl ?_
        refine te_iconst (p2 := 42) (x := (-1)) rfl rfl (by decide) ?_
        refine tb_ne (p2 := 45) rfl rfl rfl (show Int32.toInt (-1) = (-1) from rfl) (fun c8 => ?_) (fun c8 => ?_)
        · refine te_aload_n (p2 := 49) rfl rfl rfl ?_
          refine tg_r (p2 := 52) (i := 0) (r := 17) rfl rfl hI rfl rfl rfl ?_
          refine tg_i (p2 := 55) (i := 1) rfl rfl hI rfl rfl rfl (fun y9 a9 b9 e9 => ?_)
          refine te_bipush (p2 := 57) (x := 16) rfl rfl (by decide) ?_
          refine tb_lt (p2 := 60) rfl rfl rfl (show Int32.toInt 16 = 16 from rfl) (fun c10 => ?_) (fun c10 => ?_)
          · refine te_aload_n (p2 := 64) rfl rfl rfl ?_
            refine tg_r (p2 := 67) (i := 0) (r := 17) rfl rfl hI rfl rfl rfl ?_
            refine tg_e (p2 := 70) (i := 1) (v := .int y9) rfl rfl hI rfl rfl e9 ?_
            refine te_istore (p2 := 72) (lv2 := [(5, .int y9), (4, .int y7), (0, .ref 16), (1, .int x1), (2, .int x2), (3, .int x3)]) rfl rfl (by decide) rfl ?_
            refine te_aload_n (p2 := 73) rfl rfl rfl ?_
            refine tg_r (p2 := 76) (i := 0) (r := 17) rfl rfl hI rfl rfl rfl ?_
            refine tg_r (p2 := 79) (i := 1) (r := 25) rfl rfl hI rfl rfl rfl ?_
            refine te_iload (p2 := 81) rfl rfl rfl ?_
            refine te_iload_n (p2 := 82) rfl rfl rfl ?_
            refine ts_i (p2 := 83) (i := 9) (n := 16) rfl rfl hI rfl rfl rfl rfl (by omega) (by omega) (by omega) (by omega) (by omega) rfl (fun h11 I11 u11 => ?_)
            have f11 := fr_st (F := F_X11_wall) 4 f0 u11 rfl (by omega) (by omega)
            refine te_aload_n (p2 := 84) rfl rfl rfl ?_
            refine tg_r (p2 := 87) (i := 0) (r := 17) rfl rfl I11 rfl rfl rfl ?_
            refine tg_r (p2 := 90) (i := 1) (r := 26) rfl rfl I11 rfl rfl rfl ?_
            refine te_iload (p2 := 92) rfl rfl rfl ?_
            refine te_iload (p2 := 94) rfl rfl rfl ?_
            refine ts_i (p2 := 95) (i := 10) (n := 16) rfl rfl I11 rfl rfl rfl rfl (by omega) (by omega) (by omega) (by omega) (by omega) rfl (fun h12 I12 u12 => ?_)
            have f12 := fr_st (F := F_X11_wall) 1 f11 u12 rfl (by omega) (by omega)
            refine te_aload_n (p2 := 96) rfl rfl rfl ?_
            refine tg_r (p2 := 99) (i := 0) (r := 39) rfl rfl I12 rfl rfl rfl ?_
            refine tg_r (p2 := 102) (i := 23) (r := 47) rfl rfl I12 rfl rfl rfl ?_
            refine te_iload (p2 := 104) rfl rfl rfl ?_
            refine te_iload_n (p2 := 105) rfl rfl rfl ?_
            refine ts_i (p2 := 106) (i := 31) (n := 16) rfl rfl I12 rfl rfl rfl rfl (by omega) (by omega) (i32_lo _) (i32_hi _) (i32_ho _) rfl (fun h13 I13 u13 => ?_)
            have f13 := fr_st (F := F_X11_wall) 2 f12 u13 rfl (by omega) (by omega)
            refine te_aload_n (p2 := 107) rfl rfl rfl ?_
            refine tg_r (p2 := 110) (i := 0) (r := 39) rfl rfl I13 rfl rfl rfl ?_
            refine tg_r (p2 := 113) (i := 23) (r := 48) rfl rfl I13 rfl rfl rfl ?_
            refine te_iload (p2 := 115) rfl rfl rfl ?_
            refine te_iconst (p2 := 116) (x := 1) rfl rfl (by decide) ?_
            refine ts_b (p2 := 117) (i := 32) (n := 16) rfl rfl I13 rfl rfl rfl rfl (by omega) (by omega) (by decide) (by decide) rfl (fun h14 I14 u14 => ?_)
            have f14 := fr_st (F := F_X11_wall) 3 f13 u14 rfl (by omega) (by omega)
            refine te_aload_n (p2 := 118) rfl rfl rfl ?_
            refine tg_r (p2 := 121) (i := 0) (r := 17) rfl rfl I14 rfl rfl rfl ?_
            refine te_dup (p2 := 122) rfl rfl rfl ?_
            refine tg_e (p2 := 125) (i := 1) (v := .int y9) rfl rfl I14 rfl rfl ((u14.2 _ _ (Or.inl (by decide))).trans ((u13.2 _ _ (Or.inl (by decide))).trans ((u12.2 _ _ (Or.inl (by decide))).trans ((u11.2 _ _ (Or.inl (by decide))).trans e9)))) ?_
            refine te_iconst (p2 := 126) (x := 1) rfl rfl (by decide) ?_
            refine ar_add (p2 := 127) rfl rfl rfl (show Int32.toInt 1 = 1 from rfl) (by omega) (by omega) (fun z15 e15 f15 => ?_)
            refine tp_i (p2 := 130) (i := 1) rfl rfl I14 rfl rfl (by decide) rfl rfl rfl (by omega) (by omega) (by omega) rfl (fun h16 I16 u16 => ?_)
            have f16 := fr_st (F := F_X11_wall) 0 f14 u16 rfl (by decide) (by decide)
            refine te_iload (p2 := 132) rfl rfl rfl ?_
            exact te_iret rfl rfl ⟨I16, f16, _, rfl, y9, e9, (show y9 = fWl x1 x2 x3 y9 from by (have n0 := congrArg Int32.toInt e7; unfold fWl; (repeat' split) <;> first | (exfalso; omega) | rfl | assumption | (exact i32_ext (by omega)) | (subst_vars; rfl))), u16.1.trans (congrArg (fun t => some (Value.int t)) (show z15 = gWl x1 x2 x3 y9 from by (have n0 := congrArg Int32.toInt e7; unfold gWl; (repeat' split) <;> first | (exfalso; omega) | rfl | assumption | (exact i32_ext (by omega)) | (subst_vars; rfl)))), (fun _ => ⟨((u16.2 _ _ (Or.inl (by decide))).trans ((u14.2 _ _ (Or.inl (by decide))).trans ((u13.2 _ _ (Or.inl (by decide))).trans ((u12.2 _ _ (Or.inl (by decide))).trans u11.1)))), (((u16.2 _ _ (Or.inl (by decide))).trans ((u14.2 _ _ (Or.inl (by decide))).trans ((u13.2 _ _ (Or.inl (by decide))).trans u12.1))).trans (congrArg (fun t => some (Value.int t)) e7)), ((u16.2 _ _ (Or.inl (by decide))).trans ((u14.2 _ _ (Or.inl (by decide))).trans u13.1)), ((u16.2 _ _ (Or.inl (by decide))).trans u14.1)⟩), (fun k h16 hk => by (have hq : k ≠ y9.toInt.toNat := hk.resolve_right (fun h9 => h9 (by omega))); exact ⟨((u16.2 _ _ (Or.inl (by decide))).trans ((u14.2 _ _ (Or.inl (by decide))).trans ((u13.2 _ _ (Or.inl (by decide))).trans ((u12.2 _ _ (Or.inl (by decide))).trans (u11.2 _ _ (Or.inr hq)))))), ((u16.2 _ _ (Or.inl (by decide))).trans ((u14.2 _ _ (Or.inl (by decide))).trans ((u13.2 _ _ (Or.inl (by decide))).trans ((u12.2 _ _ (Or.inr hq)).trans (u11.2 _ _ (Or.inl (by decide))))))), ((u16.2 _ _ (Or.inl (by decide))).trans ((u14.2 _ _ (Or.inl (by decide))).trans ((u13.2 _ _ (Or.inr hq)).trans ((u12.2 _ _ (Or.inl (by decide))).trans (u11.2 _ _ (Or.inl (by decide))))))), ((u16.2 _ _ (Or.inl (by decide))).trans ((u14.2 _ _ (Or.inr hq)).trans ((u13.2 _ _ (Or.inl (by decide))).trans ((u12.2 _ _ (Or.inl (by decide))).trans (u11.2 _ _ (Or.inl (by decide)))))))⟩)⟩
          · refine te_bipush (p2 := 62) (x := (-4)) rfl rfl (by decide) ?_
            exact te_iret rfl rfl ⟨hI, f0, _, rfl, y9, e9, (show (-4) = fWl x1 x2 x3 y9 from by (have n0 := congrArg Int32.toInt e7; have c0_ := (show Int32.toInt (-4) = (-4) from rfl); unfold fWl; (repeat' split) <;> first | (exfalso; omega) | rfl | assumption | (exact i32_ext (by omega)) | (subst_vars; rfl))), e9.trans (congrArg (fun t => some (Value.int t)) (show y9 = gWl x1 x2 x3 y9 from by (have n0 := congrArg Int32.toInt e7; have c0_ := (show Int32.toInt (-4) = (-4) from rfl); unfold gWl; (repeat' split) <;> first | (exfalso; omega) | rfl | assumption | (exact i32_ext (by omega)) | (subst_vars; rfl)))), (fun hy => absurd hy (by rw [show Int32.toInt (-4) = (-4) from rfl]; decide)), (fun k _ hk => ⟨rfl, rfl, rfl, rfl⟩)⟩
        · refine te_bipush (p2 := 47) (x := (-3)) rfl rfl (by decide) ?_
          obtain ⟨v17, e17, y17, w17, a17, b17, _⟩ := hI.2.1 1 9 (.inl (0, 16, 9999999999)) rfl
          subst w17
          exact te_iret rfl rfl ⟨hI, f0, _, rfl, y17, e17, (show (-3) = fWl x1 x2 x3 y17 from by (have n0 := congrArg Int32.toInt e7; have c0_ := (show Int32.toInt (-3) = (-3) from rfl); unfold fWl; (repeat' split) <;> first | (exfalso; omega) | rfl | assumption | (exact i32_ext (by omega)) | (subst_vars; rfl))), e17.trans (congrArg (fun t => some (Value.int t)) (show y17 = gWl x1 x2 x3 y17 from by (have n0 := congrArg Int32.toInt e7; have c0_ := (show Int32.toInt (-3) = (-3) from rfl); unfold gWl; (repeat' split) <;> first | (exfalso; omega) | rfl | assumption | (exact i32_ext (by omega)) | (subst_vars; rfl)))), (fun hy => absurd hy (by rw [show Int32.toInt (-3) = (-3) from rfl]; decide)), (fun k _ hk => ⟨rfl, rfl, rfl, rfl⟩)⟩
      · subst w5
        have cc5_1 := (show Int32.toInt 1 = 1 from rfl)
        have cc5_2 := (show Int32.toInt 99 = 99 from rfl)
        refine tz_ne (p2 := 29) rfl rfl (show Int32.toInt 0 = 0 from rfl) (fun c18 => absurd c18 (by omega)) (fun c18 => ?_)
        refine te_bipush (p2 := 31) (x := (-2)) rfl rfl (by decide) ?_
        obtain ⟨v19, e19, y19, w19, a19, b19, _⟩ := hI.2.1 1 9 (.inl (0, 16, 9999999999)) rfl
        subst w19
        exact te_iret rfl rfl ⟨hI, f0, _, rfl, y19, e19, (show (-2) = fWl x1 x2 x3 y19 from by (have c0_ := (show Int32.toInt (-2) = (-2) from rfl); unfold fWl; (repeat' split) <;> first | (exfalso; omega) | rfl | assumption | (exact i32_ext (by omega)) | (subst_vars; rfl))), e19.trans (congrArg (fun t => some (Value.int t)) (show y19 = gWl x1 x2 x3 y19 from by (have c0_ := (show Int32.toInt (-2) = (-2) from rfl); unfold gWl; (repeat' split) <;> first | (exfalso; omega) | rfl | assumption | (exact i32_ext (by omega)) | (subst_vars; rfl)))), (fun hy => absurd hy (by rw [show Int32.toInt (-2) = (-2) from rfl]; decide)), (fun k _ hk => ⟨rfl, rfl, rfl, rfl⟩)⟩
    · subst w3
      have cc3_1 := (show Int32.toInt 4 = 4 from rfl)
      refine tz_eq (p2 := 19) rfl rfl (show Int32.toInt 0 = 0 from rfl) (fun c20 => ?_) (fun c20 => absurd c20 (by omega))
      refine te_bipush (p2 := 31) (x := (-2)) rfl rfl (by decide) ?_
      obtain ⟨v21, e21, y21, w21, a21, b21, _⟩ := hI.2.1 1 9 (.inl (0, 16, 9999999999)) rfl
      subst w21
      exact te_iret rfl rfl ⟨hI, f0, _, rfl, y21, e21, (show (-2) = fWl x1 x2 x3 y21 from by (have c0_ := (show Int32.toInt (-2) = (-2) from rfl); unfold fWl; (repeat' split) <;> first | (exfalso; omega) | rfl | assumption | (exact i32_ext (by omega)) | (subst_vars; rfl))), e21.trans (congrArg (fun t => some (Value.int t)) (show y21 = gWl x1 x2 x3 y21 from by (have c0_ := (show Int32.toInt (-2) = (-2) from rfl); unfold gWl; (repeat' split) <;> first | (exfalso; omega) | rfl | assumption | (exact i32_ext (by omega)) | (subst_vars; rfl)))), (fun hy => absurd hy (by rw [show Int32.toInt (-2) = (-2) from rfl]; decide)), (fun k _ hk => ⟨rfl, rfl, rfl, rfl⟩)⟩
  · subst w1
    have cc1_1 := (show Int32.toInt 100 = 100 from rfl)
    refine tz_ne (p2 := 9) rfl rfl (show Int32.toInt 0 = 0 from rfl) (fun c22 => absurd c22 (by omega)) (fun c22 => ?_)
    refine te_iconst (p2 := 10) (x := (-1)) rfl rfl (by decide) ?_
    obtain ⟨v23, e23, y23, w23, a23, b23, _⟩ := hI.2.1 1 9 (.inl (0, 16, 9999999999)) rfl
    subst w23
    exact te_iret rfl rfl ⟨hI, f0, _, rfl, y23, e23, (show (-1) = fWl x1 x2 x3 y23 from by (have c0_ := (show Int32.toInt (-1) = (-1) from rfl); unfold fWl; (repeat' split) <;> first | (exfalso; omega) | rfl | assumption | (exact i32_ext (by omega)) | (subst_vars; rfl))), e23.trans (congrArg (fun t => some (Value.int t)) (show y23 = gWl x1 x2 x3 y23 from by (have c0_ := (show Int32.toInt (-1) = (-1) from rfl); unfold gWl; (repeat' split) <;> first | (exfalso; omega) | rfl | assumption | (exact i32_ext (by omega)) | (subst_vars; rfl)))), (fun hy => absurd hy (by rw [show Int32.toInt (-1) = (-1) from rfl]; decide)), (fun k _ hk => ⟨rfl, rfl, rfl, rfl⟩)⟩
abbrev Q2_wall (x1 x2 x3 : Int32) (y : Int32) (h h2 : im_H) : Prop := ∃ p : Int32, rd h 148 21 = some (.int p) ∧ y = fWl x1 x2 x3 p ∧ rd h2 148 21 = some (.int (gWl x1 x2 x3 p)) ∧ (0 ≤ y.toInt → rd h2 167 p.toInt.toNat = some (.int x1) ∧ rd h2 168 p.toInt.toNat = some (.int (nbr x1 x2)) ∧ rd h2 149 (124 + p.toInt.toNat) = some (.int x3) ∧ rd h2 149 (108 + p.toInt.toNat) = some (.int 1)) ∧ (∀ k : Nat, k < 16 → (k ≠ p.toInt.toNat ∨ ¬ 0 ≤ y.toInt) → rd h2 167 k = rd h 167 k ∧ rd h2 168 k = rd h 168 k ∧ rd h2 149 (124 + k) = rd h 149 (124 + k) ∧ rd h2 149 (108 + k) = rd h 149 (108 + k))
set_option maxRecDepth 20000 in
set_option maxHeartbeats 4000000 in
theorem c_X12_wall {x1 : Int32} {x2 : Int32} {x3 : Int32} {h : im_H} (hI : tI h)  : CaP 8 126 [.ref 164, .int x1, .int x2, .int x3] h (fun v h2 => tI h2 ∧ fr F_X12_wall h h2 ∧ ∃ y : Int32, v = some (.int y) ∧ Q2_wall x1 x2 x3 y h h2) := by
  refine cap_of (d := 7) (M := mX12_wall) rfl (Nat.le_of_ble_eq_true rfl) ?_
  show EvP im_K0 7 mX12_wall (0, [(0, .ref 164), (1, .int x1), (2, .int x2), (3, .int x3)], [], h) _
  have f0 : fr F_X12_wall h h := fr_rf
  refine te_iload_n (p2 := 1) rfl rfl rfl ?_
  refine cS_pI (p2 := 4) rfl rfl rfl rfl (t_X12_isCell (n := x1) hI ) (by decide) (fun y1 r1 => ?_)
  rcases r1 with ⟨w1, c1⟩ | ⟨w1, c1⟩
  · subst w1
    refine tz_ne (p2 := 7) rfl rfl (show Int32.toInt 1 = 1 from rfl) (fun c2 => ?_) (fun c2 => absurd c2 (by omega))
    refine te_iload_n (p2 := 10) rfl rfl rfl ?_
    refine te_iconst (p2 := 11) (x := 0) rfl rfl (by decide) ?_
    refine te_iconst (p2 := 12) (x := 3) rfl rfl (by decide) ?_
    refine cS_pI (p2 := 15) rfl rfl rfl rfl (t_X12_in (n := x2) (a := 0) (b := 3) hI ) (by decide) (fun y3 r3 => ?_)
    rcases r3 with ⟨w3, c3⟩ | ⟨w3, c3⟩
    · subst w3
      have cc3_1 := (show Int32.toInt 0 = 0 from rfl)
      have cc3_2 := (show Int32.toInt 3 = 3 from rfl)
      refine tz_eq (p2 := 18) rfl rfl (show Int32.toInt 1 = 1 from rfl) (fun c4 => absurd c4 (by omega)) (fun c4 => ?_)
      refine te_iload_n (p2 := 19) rfl rfl rfl ?_
      refine te_iconst (p2 := 20) (x := 1) rfl rfl (by decide) ?_
      refine te_bipush (p2 := 22) (x := 99) rfl rfl (by decide) ?_
      refine cS_pI (p2 := 25) rfl rfl rfl rfl (t_X12_in (n := x3) (a := 1) (b := 99) hI ) (by decide) (fun y5 r5 => ?_)
      rcases r5 with ⟨w5, c5⟩ | ⟨w5, c5⟩
      · subst w5
        have cc5_1 := (show Int32.toInt 1 = 1 from rfl)
        have cc5_2 := (show Int32.toInt 99 = 99 from rfl)
        refine tz_ne (p2 := 28) rfl rfl (show Int32.toInt 1 = 1 from rfl) (fun c6 => ?_) (fun c6 => absurd c6 (by omega))
        refine te_iload_n (p2 := 32) rfl rfl rfl ?_
        refine te_iload_n (p2 := 33) rfl rfl rfl ?_
        refine cS_pI (p2 := 36) rfl rfl rfl rfl (t_X12_nextTo (c := x1) (side := x2) hI (by omega) (by omega)) (by decide) (fun y7 r7 => ?_)
        obtain ⟨a7, b7, e7⟩ := r7
        refine te_iconst (p2 := 37) (x := (-1)) rfl rfl (by decide) ?_
        refine tb_ne (p2 := 40) rfl rfl rfl (show Int32.toInt (-1) = (-1) from rfl) (fun c8 => ?_) (fun c8 => ?_)
        · refine te_aload_n (p2 := 44) rfl rfl rfl ?_
          refine tg_i (p2 := 47) (i := 148) rfl rfl hI rfl rfl rfl (fun y9 a9 b9 e9 => ?_)
          refine te_bipush (p2 := 49) (x := 16) rfl rfl (by decide) ?_
          refine tb_ne (p2 := 52) rfl rfl rfl (show Int32.toInt 16 = 16 from rfl) (fun c10 => ?_) (fun c10 => ?_)
          · refine te_aload_n (p2 := 56) rfl rfl rfl ?_
            refine tg_r (p2 := 59) (i := 148) (r := 183) rfl rfl hI rfl rfl rfl ?_
            refine te_aload_n (p2 := 60) rfl rfl rfl ?_
            refine tg_e (p2 := 63) (i := 148) (v := .int y9) rfl rfl hI rfl rfl e9 ?_
            refine te_iload_n (p2 := 64) rfl rfl rfl ?_
            refine ts_i (p2 := 65) (i := 167) (n := 16) rfl rfl hI rfl rfl rfl rfl (by omega) (by omega) (by omega) (by omega) (by omega) rfl (fun h11 I11 u11 => ?_)
            have f11 := fr_st (F := F_X12_wall) 2 f0 u11 rfl (by omega) (by omega)
            refine te_aload_n (p2 := 66) rfl rfl rfl ?_
            refine tg_r (p2 := 69) (i := 148) (r := 184) rfl rfl I11 rfl rfl rfl ?_
            refine te_aload_n (p2 := 70) rfl rfl rfl ?_
            refine tg_e (p2 := 73) (i := 148) (v := .int y9) rfl rfl I11 rfl rfl ((u11.2 _ _ (Or.inl (by decide))).trans e9) ?_
            refine te_iload_n (p2 := 74) rfl rfl rfl ?_
            refine te_iload_n (p2 := 75) rfl rfl rfl ?_
            refine cS_pI (p2 := 78) rfl rfl rfl rfl (t_X12_nextTo (c := x1) (side := x2) I11 (by omega) (by omega)) (by decide) (fun y12 r12 => ?_)
            obtain ⟨a12, b12, e12⟩ := r12
            have w12 : y12 = y7 := e12.trans e7.symm
            subst w12
            refine ts_i (p2 := 79) (i := 168) (n := 16) rfl rfl I11 rfl rfl rfl rfl (by omega) (by omega) (by omega) (by omega) (by omega) rfl (fun h13 I13 u13 => ?_)
            have f13 := fr_st (F := F_X12_wall) 3 f11 u13 rfl (by omega) (by omega)
            refine te_aload_n (p2 := 80) rfl rfl rfl ?_
            refine tg_r (p2 := 83) (i := 148) (r := 165) rfl rfl I13 rfl rfl rfl ?_
            refine te_bipush (p2 := 85) (x := 108) rfl rfl (by decide) ?_
            refine te_aload_n (p2 := 86) rfl rfl rfl ?_
            refine tg_e (p2 := 89) (i := 148) (v := .int y9) rfl rfl I13 rfl rfl ((u13.2 _ _ (Or.inl (by decide))).trans ((u11.2 _ _ (Or.inl (by decide))).trans e9)) ?_
            refine ar_add (p2 := 90) rfl rfl (show Int32.toInt 108 = 108 from rfl) rfl (by omega) (by omega) (fun z14 e14 f14 => ?_)
            refine te_iconst (p2 := 91) (x := 1) rfl rfl (by decide) ?_
            refine ts_i (p2 := 92) (i := 149) (n := 283) rfl rfl I13 rfl rfl rfl rfl (by omega) (by omega) (i32_lo _) (i32_hi _) (i32_ho _) rfl (fun h15 I15 u15 => ?_)
            have f15 := fr_st (F := F_X12_wall) 1 f13 u15 rfl (by omega) (by omega)
            refine te_aload_n (p2 := 93) rfl rfl rfl ?_
            refine tg_r (p2 := 96) (i := 148) (r := 165) rfl rfl I15 rfl rfl rfl ?_
            refine te_bipush (p2 := 98) (x := 124) rfl rfl (by decide) ?_
            refine te_aload_n (p2 := 99) rfl rfl rfl ?_
            refine tg_e (p2 := 102) (i := 148) (v := .int y9) rfl rfl I15 rfl rfl ((u15.2 _ _ (Or.inl (by decide))).trans ((u13.2 _ _ (Or.inl (by decide))).trans ((u11.2 _ _ (Or.inl (by decide))).trans e9))) ?_
            refine ar_add (p2 := 103) rfl rfl (show Int32.toInt 124 = 124 from rfl) rfl (by omega) (by omega) (fun z16 e16 f16 => ?_)
            refine te_iload_n (p2 := 104) rfl rfl rfl ?_
            refine ts_i (p2 := 105) (i := 149) (n := 283) rfl rfl I15 rfl rfl rfl rfl (by omega) (by omega) (i32_lo _) (i32_hi _) (i32_ho _) rfl (fun h17 I17 u17 => ?_)
            have f17 := fr_st (F := F_X12_wall) 1 f15 u17 rfl (by omega) (by omega)
            refine te_aload_n (p2 := 106) rfl rfl rfl ?_
            refine te_dup (p2 := 107) rfl rfl rfl ?_
            refine tg_e (p2 := 110) (i := 148) (v := .int y9) rfl rfl I17 rfl rfl ((u17.2 _ _ (Or.inl (by decide))).trans ((u15.2 _ _ (Or.inl (by decide))).trans ((u13.2 _ _ (Or.inl (by decide))).trans ((u11.2 _ _ (Or.inl (by decide))).trans e9)))) ?_
            refine te_iconst (p2 := 111) (x := 1) rfl rfl (by decide) ?_
            refine ar_add (p2 := 112) rfl rfl rfl (show Int32.toInt 1 = 1 from rfl) (by omega) (by omega) (fun z18 e18 f18 => ?_)
            refine tp_i (p2 := 115) (i := 148) rfl rfl I17 rfl rfl (by decide) rfl rfl rfl (by omega) (by omega) (by omega) rfl (fun h19 I19 u19 => ?_)
            have f19 := fr_st (F := F_X12_wall) 0 f17 u19 rfl (by decide) (by decide)
            refine te_aload_n (p2 := 116) rfl rfl rfl ?_
            refine tg_e (p2 := 119) (i := 148) (v := .int z18) rfl rfl I19 rfl rfl u19.1 ?_
            refine te_iconst (p2 := 120) (x := 1) rfl rfl (by decide) ?_
            refine ar_sub (p2 := 121) rfl rfl rfl (show Int32.toInt 1 = 1 from rfl) (by omega) (by omega) (fun z20 e20 f20 => ?_)
            exact te_iret rfl rfl ⟨I19, f19, _, rfl, y9, e9, (show z20 = fWl x1 x2 x3 y9 from by (have n0 := congrArg Int32.toInt e7; unfold fWl; (repeat' split) <;> first | (exfalso; omega) | rfl | assumption | (exact i32_ext (by omega)) | (subst_vars; rfl))), u19.1.trans (congrArg (fun t => some (Value.int t)) (show z18 = gWl x1 x2 x3 y9 from by (have n0 := congrArg Int32.toInt e7; unfold gWl; (repeat' split) <;> first | (exfalso; omega) | rfl | assumption | (exact i32_ext (by omega)) | (subst_vars; rfl)))), (fun _ => ⟨((u19.2 _ _ (Or.inl (by decide))).trans ((u17.2 _ _ (Or.inl (by decide))).trans ((u15.2 _ _ (Or.inl (by decide))).trans ((u13.2 _ _ (Or.inl (by decide))).trans u11.1)))), (((u19.2 _ _ (Or.inl (by decide))).trans ((u17.2 _ _ (Or.inl (by decide))).trans ((u15.2 _ _ (Or.inl (by decide))).trans u13.1))).trans (congrArg (fun t => some (Value.int t)) e7)), (by rw [show (124 + y9.toInt.toNat) = z16.toInt.toNat by omega]; exact ((u19.2 _ _ (Or.inl (by decide))).trans u17.1)), (by rw [show (108 + y9.toInt.toNat) = z14.toInt.toNat by omega]; exact ((u19.2 _ _ (Or.inl (by decide))).trans ((u17.2 _ _ (Or.inr (by omega))).trans u15.1)))⟩), (fun k h16 hk => by (have hq : k ≠ y9.toInt.toNat := hk.resolve_right (fun h9 => h9 (by omega))); exact ⟨((u19.2 _ _ (Or.inl (by decide))).trans ((u17.2 _ _ (Or.inl (by decide))).trans ((u15.2 _ _ (Or.inl (by decide))).trans ((u13.2 _ _ (Or.inl (by decide))).trans (u11.2 _ _ (Or.inr hq)))))), ((u19.2 _ _ (Or.inl (by decide))).trans ((u17.2 _ _ (Or.inl (by decide))).trans ((u15.2 _ _ (Or.inl (by decide))).trans ((u13.2 _ _ (Or.inr hq)).trans (u11.2 _ _ (Or.inl (by decide))))))), ((u19.2 _ _ (Or.inl (by decide))).trans ((u17.2 _ _ (Or.inr (by omega))).trans ((u15.2 _ _ (Or.inr (by omega))).trans ((u13.2 _ _ (Or.inl (by decide))).trans (u11.2 _ _ (Or.inl (by decide))))))), ((u19.2 _ _ (Or.inl (by decide))).trans ((u17.2 _ _ (Or.inr (by omega))).trans ((u15.2 _ _ (Or.inr (by omega))).trans ((u13.2 _ _ (Or.inl (by decide))).trans (u11.2 _ _ (Or.inl (by decide)))))))⟩)⟩
          · refine te_bipush (p2 := 54) (x := (-4)) rfl rfl (by decide) ?_
            exact te_iret rfl rfl ⟨hI, f0, _, rfl, y9, e9, (show (-4) = fWl x1 x2 x3 y9 from by (have n0 := congrArg Int32.toInt e7; have c0_ := (show Int32.toInt (-4) = (-4) from rfl); unfold fWl; (repeat' split) <;> first | (exfalso; omega) | rfl | assumption | (exact i32_ext (by omega)) | (subst_vars; rfl))), e9.trans (congrArg (fun t => some (Value.int t)) (show y9 = gWl x1 x2 x3 y9 from by (have n0 := congrArg Int32.toInt e7; have c0_ := (show Int32.toInt (-4) = (-4) from rfl); unfold gWl; (repeat' split) <;> first | (exfalso; omega) | rfl | assumption | (exact i32_ext (by omega)) | (subst_vars; rfl)))), (fun hy => absurd hy (by rw [show Int32.toInt (-4) = (-4) from rfl]; decide)), (fun k _ hk => ⟨rfl, rfl, rfl, rfl⟩)⟩
        · refine te_bipush (p2 := 42) (x := (-3)) rfl rfl (by decide) ?_
          obtain ⟨v21, e21, y21, w21, a21, b21, _⟩ := hI.2.1 148 21 (.inl (0, 16, 9999999999)) rfl
          subst w21
          exact te_iret rfl rfl ⟨hI, f0, _, rfl, y21, e21, (show (-3) = fWl x1 x2 x3 y21 from by (have n0 := congrArg Int32.toInt e7; have c0_ := (show Int32.toInt (-3) = (-3) from rfl); unfold fWl; (repeat' split) <;> first | (exfalso; omega) | rfl | assumption | (exact i32_ext (by omega)) | (subst_vars; rfl))), e21.trans (congrArg (fun t => some (Value.int t)) (show y21 = gWl x1 x2 x3 y21 from by (have n0 := congrArg Int32.toInt e7; have c0_ := (show Int32.toInt (-3) = (-3) from rfl); unfold gWl; (repeat' split) <;> first | (exfalso; omega) | rfl | assumption | (exact i32_ext (by omega)) | (subst_vars; rfl)))), (fun hy => absurd hy (by rw [show Int32.toInt (-3) = (-3) from rfl]; decide)), (fun k _ hk => ⟨rfl, rfl, rfl, rfl⟩)⟩
      · subst w5
        have cc5_1 := (show Int32.toInt 1 = 1 from rfl)
        have cc5_2 := (show Int32.toInt 99 = 99 from rfl)
        refine tz_ne (p2 := 28) rfl rfl (show Int32.toInt 0 = 0 from rfl) (fun c22 => absurd c22 (by omega)) (fun c22 => ?_)
        refine te_bipush (p2 := 30) (x := (-2)) rfl rfl (by decide) ?_
        obtain ⟨v23, e23, y23, w23, a23, b23, _⟩ := hI.2.1 148 21 (.inl (0, 16, 9999999999)) rfl
        subst w23
        exact te_iret rfl rfl ⟨hI, f0, _, rfl, y23, e23, (show (-2) = fWl x1 x2 x3 y23 from by (have c0_ := (show Int32.toInt (-2) = (-2) from rfl); unfold fWl; (repeat' split) <;> first | (exfalso; omega) | rfl | assumption | (exact i32_ext (by omega)) | (subst_vars; rfl))), e23.trans (congrArg (fun t => some (Value.int t)) (show y23 = gWl x1 x2 x3 y23 from by (have c0_ := (show Int32.toInt (-2) = (-2) from rfl); unfold gWl; (repeat' split) <;> first | (exfalso; omega) | rfl | assumption | (exact i32_ext (by omega)) | (subst_vars; rfl)))), (fun hy => absurd hy (by rw [show Int32.toInt (-2) = (-2) from rfl]; decide)), (fun k _ hk => ⟨rfl, rfl, rfl, rfl⟩)⟩
    · subst w3
      have cc3_1 := (show Int32.toInt 0 = 0 from rfl)
      have cc3_2 := (show Int32.toInt 3 = 3 from rfl)
      refine tz_eq (p2 := 18) rfl rfl (show Int32.toInt 0 = 0 from rfl) (fun c24 => ?_) (fun c24 => absurd c24 (by omega))
      refine te_bipush (p2 := 30) (x := (-2)) rfl rfl (by decide) ?_
      obtain ⟨v25, e25, y25, w25, a25, b25, _⟩ := hI.2.1 148 21 (.inl (0, 16, 9999999999)) rfl
      subst w25
      exact te_iret rfl rfl ⟨hI, f0, _, rfl, y25, e25, (show (-2) = fWl x1 x2 x3 y25 from by (have c0_ := (show Int32.toInt (-2) = (-2) from rfl); unfold fWl; (repeat' split) <;> first | (exfalso; omega) | rfl | assumption | (exact i32_ext (by omega)) | (subst_vars; rfl))), e25.trans (congrArg (fun t => some (Value.int t)) (show y25 = gWl x1 x2 x3 y25 from by (have c0_ := (show Int32.toInt (-2) = (-2) from rfl); unfold gWl; (repeat' split) <;> first | (exfalso; omega) | rfl | assumption | (exact i32_ext (by omega)) | (subst_vars; rfl)))), (fun hy => absurd hy (by rw [show Int32.toInt (-2) = (-2) from rfl]; decide)), (fun k _ hk => ⟨rfl, rfl, rfl, rfl⟩)⟩
  · subst w1
    refine tz_ne (p2 := 7) rfl rfl (show Int32.toInt 0 = 0 from rfl) (fun c26 => absurd c26 (by omega)) (fun c26 => ?_)
    refine te_iconst (p2 := 8) (x := (-1)) rfl rfl (by decide) ?_
    obtain ⟨v27, e27, y27, w27, a27, b27, _⟩ := hI.2.1 148 21 (.inl (0, 16, 9999999999)) rfl
    subst w27
    exact te_iret rfl rfl ⟨hI, f0, _, rfl, y27, e27, (show (-1) = fWl x1 x2 x3 y27 from by (have c0_ := (show Int32.toInt (-1) = (-1) from rfl); unfold fWl; (repeat' split) <;> first | (exfalso; omega) | rfl | assumption | (exact i32_ext (by omega)) | (subst_vars; rfl))), e27.trans (congrArg (fun t => some (Value.int t)) (show y27 = gWl x1 x2 x3 y27 from by (have c0_ := (show Int32.toInt (-1) = (-1) from rfl); unfold gWl; (repeat' split) <;> first | (exfalso; omega) | rfl | assumption | (exact i32_ext (by omega)) | (subst_vars; rfl)))), (fun hy => absurd hy (by rw [show Int32.toInt (-1) = (-1) from rfl]; decide)), (fun k _ hk => ⟨rfl, rfl, rfl, rfl⟩)⟩
abbrev Q1_pull (x1 : Int32) (y : Int32) (h h2 : im_H) : Prop := ∃ n : Int32, rd h 1 9 = some (.int n) ∧ ((0 ≤ x1.toInt ∧ x1.toInt < n.toInt ∧ ∃ u : Int32, rd h 32 x1.toInt.toNat = some (.int u) ∧ ((u.toInt = 0 ∧ (∀ k : Nat, k < 16 → rd h2 32 k = rd h 32 k)) ∨ (u.toInt ≠ 0 ∧ rd h2 32 x1.toInt.toNat = some (.int 0) ∧ (∀ k : Nat, k < 16 → k ≠ x1.toInt.toNat → rd h2 32 k = rd h 32 k)))) ∨ (¬ (0 ≤ x1.toInt ∧ x1.toInt < n.toInt) ∧ (∀ k : Nat, k < 16 → rd h2 32 k = rd h 32 k)))
set_option maxRecDepth 20000 in
set_option maxHeartbeats 4000000 in
theorem c_X11_pull {x1 : Int32} {h : im_H} (hI : tI h)  : CaP 7 84 [.ref 16, .int x1] h (fun v h2 => tI h2 ∧ fr F_X11_pull h h2 ∧ ∃ y : Int32, v = some (.int y) ∧ Q1_pull x1 y h h2) := by
  refine cap_of (d := 6) (M := mX11_pull) rfl (Nat.le_of_ble_eq_true rfl) ?_
  show EvP im_K0 6 mX11_pull (0, [(0, .ref 16), (1, .int x1)], [], h) _
  have f0 : fr F_X11_pull h h := fr_rf
  refine te_iload_n (p2 := 1) rfl rfl rfl ?_
  refine te_aload_n (p2 := 2) rfl rfl rfl ?_
  refine tg_r (p2 := 5) (i := 0) (r := 17) rfl rfl hI rfl rfl rfl ?_
  refine tg_i (p2 := 8) (i := 1) rfl rfl hI rfl rfl rfl (fun y1 a1 b1 e1 => ?_)
  refine cS_pI (p2 := 11) rfl rfl rfl rfl (t_X11_within (n := x1) (b := y1) hI ) (by decide) (fun y2 r2 => ?_)
  rcases r2 with ⟨w2, c2⟩ | ⟨w2, c2⟩
  · subst w2
    refine tz_ne (p2 := 14) rfl rfl (show Int32.toInt 1 = 1 from rfl) (fun c3 => ?_) (fun c3 => absurd c3 (by omega))
    refine te_aload_n (p2 := 17) rfl rfl rfl ?_
    refine tg_r (p2 := 20) (i := 0) (r := 39) rfl rfl hI rfl rfl rfl ?_
    refine tg_r (p2 := 23) (i := 23) (r := 48) rfl rfl hI rfl rfl rfl ?_
    refine te_iload_n (p2 := 24) rfl rfl rfl ?_
    refine tl_b (p2 := 25) (i := 32) (n := 16) rfl rfl hI rfl rfl rfl rfl (by omega) (by omega) (fun y4 a4 e4 => ?_)
    refine tz_ne (p2 := 28) rfl rfl rfl (fun c5 => ?_) (fun c5 => ?_)
    · refine te_aload_n (p2 := 32) rfl rfl rfl ?_
      refine tg_r (p2 := 35) (i := 0) (r := 17) rfl rfl hI rfl rfl rfl ?_
      refine te_aload_n (p2 := 36) rfl rfl rfl ?_
      refine tg_r (p2 := 39) (i := 0) (r := 39) rfl rfl hI rfl rfl rfl ?_
      refine te_iload_n (p2 := 40) rfl rfl rfl ?_
      refine tc_V (p2 := 43) (i := 1) rfl rfl rfl rfl hI rfl rfl rfl (c_X0_fall (s := 23) (k := x1) hI (by decide) (by omega) (by omega)) (by decide) (fun v6 h6 hq6 => ?_)
      obtain ⟨I6, g6, y6, w6, Q6⟩ := hq6
      subst w6
      have f6 := fr_tr (F1 := (F_X0_fall 23)) (F := F_X11_pull) f0 g6 (by decide)
      show EvP _ _ _ (43, [(0, .ref 16), (1, .int x1)], [.int y6], h6) _
      exact te_iret rfl rfl ⟨I6, f6, _, rfl, y1, e1, Or.inl ⟨by omega, by omega, y4, e4, Or.inr ⟨by omega, Q6.1, (fun k h16 hk => Q6.2 _ hk)⟩⟩⟩
    · refine te_bipush (p2 := 30) (x := (-3)) rfl rfl (by decide) ?_
      exact te_iret rfl rfl ⟨hI, f0, _, rfl, y1, e1, Or.inl ⟨by omega, by omega, y4, e4, Or.inl ⟨by omega, (fun k _ => rfl)⟩⟩⟩
  · subst w2
    refine tz_ne (p2 := 14) rfl rfl (show Int32.toInt 0 = 0 from rfl) (fun c7 => absurd c7 (by omega)) (fun c7 => ?_)
    refine te_iconst (p2 := 15) (x := (-1)) rfl rfl (by decide) ?_
    exact te_iret rfl rfl ⟨hI, f0, _, rfl, y1, e1, Or.inr ⟨by omega, (fun k _ => rfl)⟩⟩
abbrev Q2_pull (x1 : Int32) (y : Int32) (h h2 : im_H) : Prop := ∃ n : Int32, rd h 148 21 = some (.int n) ∧ ((0 ≤ x1.toInt ∧ x1.toInt < n.toInt ∧ ∃ u : Int32, rd h 149 (108 + x1.toInt.toNat) = some (.int u) ∧ ((u.toInt = 0 ∧ (∀ k : Nat, k < 16 → rd h2 149 (108 + k) = rd h 149 (108 + k))) ∨ (u.toInt ≠ 0 ∧ rd h2 149 (108 + x1.toInt.toNat) = some (.int 0) ∧ (∀ k : Nat, k < 16 → k ≠ x1.toInt.toNat → rd h2 149 (108 + k) = rd h 149 (108 + k))))) ∨ (¬ (0 ≤ x1.toInt ∧ x1.toInt < n.toInt) ∧ (∀ k : Nat, k < 16 → rd h2 149 (108 + k) = rd h 149 (108 + k))))
set_option maxRecDepth 20000 in
set_option maxHeartbeats 4000000 in
theorem c_X12_pull {x1 : Int32} {h : im_H} (hI : tI h)  : CaP 8 165 [.ref 164, .int x1] h (fun v h2 => tI h2 ∧ fr F_X12_pull h h2 ∧ ∃ y : Int32, v = some (.int y) ∧ Q2_pull x1 y h h2) := by
  refine cap_of (d := 7) (M := mX12_pull) rfl (Nat.le_of_ble_eq_true rfl) ?_
  show EvP im_K0 7 mX12_pull (0, [(0, .ref 164), (1, .int x1)], [], h) _
  have f0 : fr F_X12_pull h h := fr_rf
  refine te_aload_n (p2 := 1) rfl rfl rfl ?_
  refine te_iload_n (p2 := 2) rfl rfl rfl ?_
  refine cV_pI (p2 := 5) (i := 148) rfl rfl rfl rfl hI rfl rfl rfl (t_X12_isWall (k := x1) hI) (by decide) (fun y1 r1 => ?_)
  obtain ⟨p1, e1, a1, b1, r1⟩ := r1
  rcases r1 with ⟨w1, c1⟩ | ⟨w1, c1⟩
  · subst w1
    refine tz_ne (p2 := 8) rfl rfl (show Int32.toInt 1 = 1 from rfl) (fun c2 => ?_) (fun c2 => absurd c2 (by omega))
    refine te_aload_n (p2 := 11) rfl rfl rfl ?_
    refine tg_r (p2 := 14) (i := 148) (r := 165) rfl rfl hI rfl rfl rfl ?_
    refine te_bipush (p2 := 16) (x := 108) rfl rfl (by decide) ?_
    refine te_iload_n (p2 := 17) rfl rfl rfl ?_
    refine ar_add (p2 := 18) rfl rfl (show Int32.toInt 108 = 108 from rfl) rfl (by omega) (by omega) (fun z3 e3 f3 => ?_)
    refine tl_i (p2 := 19) (i := 149) (n := 283) rfl rfl hI rfl rfl rfl rfl (by omega) (by omega) (fun y4 a4 b4 g4 e4 => ?_)
    refine tz_ne (p2 := 22) rfl rfl rfl (fun c5 => ?_) (fun c5 => ?_)
    · refine te_aload_n (p2 := 26) rfl rfl rfl ?_
      refine te_iload_n (p2 := 27) rfl rfl rfl ?_
      refine tc_V (p2 := 30) (i := 148) rfl rfl rfl rfl hI rfl rfl rfl (c_X12_falls (w := x1) hI (by omega) (by omega)) (by decide) (fun v6 h6 hq6 => ?_)
      obtain ⟨I6, g6, w6, Q6⟩ := hq6
      subst w6
      have f6 := fr_tr (F1 := F_X12_falls) (F := F_X12_pull) f0 g6 (by decide)
      show EvP _ _ _ (30, [(0, .ref 164), (1, .int x1)], [], h6) _
      refine te_bipush (p2 := 32) (x := 100) rfl rfl (by decide) ?_
      refine te_aload_n (p2 := 33) rfl rfl rfl ?_
      refine tg_i (p2 := 36) (i := 148) rfl rfl I6 rfl rfl rfl (fun y7 a7 b7 e7 => ?_)
      refine au_mul (p2 := 37) rfl rfl (fun z8 e8 => ?_)
      refine te_aload_n (p2 := 38) rfl rfl rfl ?_
      refine tg_i (p2 := 41) (i := 148) rfl rfl I6 rfl rfl rfl (fun y9 a9 b9 e9 => ?_)
      refine au_add (p2 := 42) rfl rfl (fun z10 e10 => ?_)
      exact te_iret rfl rfl ⟨I6, f6, _, rfl, p1, ((f6 148 21 rfl).symm.trans ((g6 _ _ (by decide)).trans e1)), Or.inl ⟨by omega, by omega, y4, (by rw [show 108 + x1.toInt.toNat = z3.toInt.toNat by omega]; exact e4), Or.inr ⟨by omega, Q6.1, (fun k h16 hk => Q6.2 _ (by omega) (by omega) (by omega))⟩⟩⟩
    · refine te_bipush (p2 := 24) (x := (-3)) rfl rfl (by decide) ?_
      exact te_iret rfl rfl ⟨hI, f0, _, rfl, p1, e1, Or.inl ⟨by omega, by omega, y4, (by rw [show 108 + x1.toInt.toNat = z3.toInt.toNat by omega]; exact e4), Or.inl ⟨by omega, (fun k _ => rfl)⟩⟩⟩
  · subst w1
    refine tz_ne (p2 := 8) rfl rfl (show Int32.toInt 0 = 0 from rfl) (fun c11 => absurd c11 (by omega)) (fun c11 => ?_)
    refine te_iconst (p2 := 9) (x := (-1)) rfl rfl (by decide) ?_
    exact te_iret rfl rfl ⟨hI, f0, _, rfl, p1, e1, Or.inr ⟨by omega, (fun k _ => rfl)⟩⟩
def wtT (x1 x2 n u t o : Int32) : Int32 := if 0 ≤ x1.toInt ∧ x1.toInt < n.toInt then (if x2.toInt = 0 then u else if x2.toInt = 1 then t else if x2.toInt = 2 then o else -2) else -1
abbrev Q1_wallTold (x1 x2 : Int32) (y : Int32) (h h2 : im_H) : Prop := ∃ n : Int32, rd h 1 9 = some (.int n) ∧ ((0 ≤ x1.toInt ∧ x1.toInt < n.toInt ∧ (x2.toInt = 0 → rd h 32 x1.toInt.toNat = some (.int y)) ∧ (x2.toInt = 1 → rd h 31 x1.toInt.toNat = some (.int y)) ∧ (x2.toInt = 2 → rd h 10 x1.toInt.toNat = some (.int y)) ∧ (¬ (0 ≤ x2.toInt ∧ x2.toInt ≤ 2) → y = -2)) ∨ (¬ (0 ≤ x1.toInt ∧ x1.toInt < n.toInt) ∧ y = -1))
set_option maxRecDepth 20000 in
set_option maxHeartbeats 4000000 in
theorem c_X11_wallTold {x1 : Int32} {x2 : Int32} {h : im_H} (hI : tI h)  : CaP 8 82 [.ref 16, .int x1, .int x2] h (fun v h2 => tI h2 ∧ fr F_X11_wallTold h h2 ∧ ∃ y : Int32, v = some (.int y) ∧ Q1_wallTold x1 x2 y h h2) := by
  refine cap_of (d := 7) (M := mX11_wallTold) rfl (Nat.le_of_ble_eq_true rfl) ?_
  show EvP im_K0 7 mX11_wallTold (0, [(0, .ref 16), (1, .int x1), (2, .int x2)], [], h) _
  have f0 : fr F_X11_wallTold h h := fr_rf
  refine te_iload_n (p2 := 1) rfl rfl rfl ?_
  refine te_aload_n (p2 := 2) rfl rfl rfl ?_
  refine tg_r (p2 := 5) (i := 0) (r := 17) rfl rfl hI rfl rfl rfl ?_
  refine tg_i (p2 := 8) (i := 1) rfl rfl hI rfl rfl rfl (fun y1 a1 b1 e1 => ?_)
  refine cS_pI (p2 := 11) rfl rfl rfl rfl (t_X11_within (n := x1) (b := y1) hI ) (by decide) (fun y2 r2 => ?_)
  rcases r2 with ⟨w2, c2⟩ | ⟨w2, c2⟩
  · subst w2
    refine tz_ne (p2 := 14) rfl rfl (show Int32.toInt 1 = 1 from rfl) (fun c3 => ?_) (fun c3 => absurd c3 (by omega))
    refine te_iload_n (p2 := 17) rfl rfl rfl ?_
    by_cases c4 : x2.toInt = 0
    · refine te_tsIn (k := 0) (p2 := 44) rfl c4 (by decide) (by decide) rfl (by decide) ?_
      refine te_aload_n (p2 := 45) rfl rfl rfl ?_
      refine tg_r (p2 := 48) (i := 0) (r := 39) rfl rfl hI rfl rfl rfl ?_
      refine tg_r (p2 := 51) (i := 23) (r := 48) rfl rfl hI rfl rfl rfl ?_
      refine te_iload_n (p2 := 52) rfl rfl rfl ?_
      refine tl_b (p2 := 53) (i := 32) (n := 16) rfl rfl hI rfl rfl rfl rfl (by omega) (by omega) (fun y5 a5 e5 => ?_)
      refine tz_eq (p2 := 56) rfl rfl rfl (fun c6 => ?_) (fun c6 => ?_)
      · refine te_iconst (p2 := 61) (x := 0) rfl rfl (by decide) ?_
        exact te_iret rfl rfl ⟨hI, f0, _, rfl, y1, e1, Or.inl ⟨by omega, by omega, (fun _ => e5.trans (congrArg (fun t => some (Value.int t)) (i32_ext (by rw [show Int32.toInt 0 = 0 from rfl]; omega)))), (fun h9 => absurd h9 (by omega)), (fun h9 => absurd h9 (by omega)), (fun h9 => absurd (by omega) h9)⟩⟩
      · refine te_iconst (p2 := 57) (x := 1) rfl rfl (by decide) ?_
        refine te_goto rfl ?_
        exact te_iret rfl rfl ⟨hI, f0, _, rfl, y1, e1, Or.inl ⟨by omega, by omega, (fun _ => e5.trans (congrArg (fun t => some (Value.int t)) (i32_ext (by rw [show Int32.toInt 1 = 1 from rfl]; omega)))), (fun h9 => absurd h9 (by omega)), (fun h9 => absurd h9 (by omega)), (fun h9 => absurd (by omega) h9)⟩⟩
    · by_cases c7 : x2.toInt = 1
      · refine te_tsIn (k := 1) (p2 := 62) rfl c7 (by decide) (by decide) rfl (by decide) ?_
        refine te_aload_n (p2 := 63) rfl rfl rfl ?_
        refine tg_r (p2 := 66) (i := 0) (r := 39) rfl rfl hI rfl rfl rfl ?_
        refine tg_r (p2 := 69) (i := 23) (r := 47) rfl rfl hI rfl rfl rfl ?_
        refine te_iload_n (p2 := 70) rfl rfl rfl ?_
        refine tl_i (p2 := 71) (i := 31) (n := 16) rfl rfl hI rfl rfl rfl rfl (by omega) (by omega) (fun y8 a8 b8 g8 e8 => ?_)
        exact te_iret rfl rfl ⟨hI, f0, _, rfl, y1, e1, Or.inl ⟨by omega, by omega, (fun h9 => absurd h9 (by omega)), (fun _ => e8), (fun h9 => absurd h9 (by omega)), (fun h9 => absurd (by omega) h9)⟩⟩
      · by_cases c9 : x2.toInt = 2
        · refine te_tsIn (k := 2) (p2 := 72) rfl c9 (by decide) (by decide) rfl (by decide) ?_
          refine te_aload_n (p2 := 73) rfl rfl rfl ?_
          refine tg_r (p2 := 76) (i := 0) (r := 17) rfl rfl hI rfl rfl rfl ?_
          refine tg_r (p2 := 79) (i := 1) (r := 26) rfl rfl hI rfl rfl rfl ?_
          refine te_iload_n (p2 := 80) rfl rfl rfl ?_
          refine tl_i (p2 := 81) (i := 10) (n := 16) rfl rfl hI rfl rfl rfl rfl (by omega) (by omega) (fun y10 a10 b10 g10 e10 => ?_)
          exact te_iret rfl rfl ⟨hI, f0, _, rfl, y1, e1, Or.inl ⟨by omega, by omega, (fun h9 => absurd h9 (by omega)), (fun h9 => absurd h9 (by omega)), (fun _ => e10), (fun h9 => absurd (by omega) h9)⟩⟩
        · refine te_tsOut (p2 := 82) rfl (by omega) (by decide) ?_
          refine te_bipush (p2 := 84) (x := (-2)) rfl rfl (by decide) ?_
          exact te_iret rfl rfl ⟨hI, f0, _, rfl, y1, e1, Or.inl ⟨by omega, by omega, (fun h9 => absurd h9 (by omega)), (fun h9 => absurd h9 (by omega)), (fun h9 => absurd h9 (by omega)), (fun _ => rfl)⟩⟩
  · subst w2
    refine tz_ne (p2 := 14) rfl rfl (show Int32.toInt 0 = 0 from rfl) (fun c11 => absurd c11 (by omega)) (fun c11 => ?_)
    refine te_iconst (p2 := 15) (x := (-1)) rfl rfl (by decide) ?_
    exact te_iret rfl rfl ⟨hI, f0, _, rfl, y1, e1, Or.inr ⟨by omega, rfl⟩⟩
abbrev Q2_wallTold (x1 x2 : Int32) (y : Int32) (h h2 : im_H) : Prop := ∃ n : Int32, rd h 148 21 = some (.int n) ∧ ((0 ≤ x1.toInt ∧ x1.toInt < n.toInt ∧ (x2.toInt = 0 → rd h 149 (108 + x1.toInt.toNat) = some (.int y)) ∧ (x2.toInt = 1 → rd h 149 (124 + x1.toInt.toNat) = some (.int y)) ∧ (x2.toInt = 2 → rd h 168 x1.toInt.toNat = some (.int y)) ∧ (¬ (0 ≤ x2.toInt ∧ x2.toInt ≤ 2) → y = -2)) ∨ (¬ (0 ≤ x1.toInt ∧ x1.toInt < n.toInt) ∧ y = -1))
set_option maxRecDepth 20000 in
set_option maxHeartbeats 4000000 in
theorem c_X12_wallTold {x1 : Int32} {x2 : Int32} {h : im_H} (hI : tI h)  : CaP 8 162 [.ref 164, .int x1, .int x2] h (fun v h2 => tI h2 ∧ fr F_X12_wallTold h h2 ∧ ∃ y : Int32, v = some (.int y) ∧ Q2_wallTold x1 x2 y h h2) := by
  refine cap_of (d := 7) (M := mX12_wallTold) rfl (Nat.le_of_ble_eq_true rfl) ?_
  show EvP im_K0 7 mX12_wallTold (0, [(0, .ref 164), (1, .int x1), (2, .int x2)], [], h) _
  have f0 : fr F_X12_wallTold h h := fr_rf
  refine te_aload_n (p2 := 1) rfl rfl rfl ?_
  refine te_iload_n (p2 := 2) rfl rfl rfl ?_
  refine cV_pI (p2 := 5) (i := 148) rfl rfl rfl rfl hI rfl rfl rfl (t_X12_isWall (k := x1) hI) (by decide) (fun y1 r1 => ?_)
  obtain ⟨p1, e1, a1, b1, r1⟩ := r1
  rcases r1 with ⟨w1, c1⟩ | ⟨w1, c1⟩
  · subst w1
    refine tz_ne (p2 := 8) rfl rfl (show Int32.toInt 1 = 1 from rfl) (fun c2 => ?_) (fun c2 => absurd c2 (by omega))
    refine te_iload_n (p2 := 11) rfl rfl rfl ?_
    refine tz_ne (p2 := 14) rfl rfl rfl (fun c3 => ?_) (fun c3 => ?_)
    · refine te_iload_n (p2 := 27) rfl rfl rfl ?_
      refine te_iconst (p2 := 28) (x := 1) rfl rfl (by decide) ?_
      refine tb_ne (p2 := 31) rfl rfl rfl (show Int32.toInt 1 = 1 from rfl) (fun c4 => ?_) (fun c4 => ?_)
      · refine te_iload_n (p2 := 44) rfl rfl rfl ?_
        refine te_iconst (p2 := 45) (x := 2) rfl rfl (by decide) ?_
        refine tb_ne (p2 := 48) rfl rfl rfl (show Int32.toInt 2 = 2 from rfl) (fun c5 => ?_) (fun c5 => ?_)
        · refine te_bipush (p2 := 59) (x := (-2)) rfl rfl (by decide) ?_
          exact te_iret rfl rfl ⟨hI, f0, _, rfl, p1, e1, Or.inl ⟨by omega, by omega, (fun h9 => absurd h9 (by omega)), (fun h9 => absurd h9 (by omega)), (fun h9 => absurd h9 (by omega)), (fun _ => rfl)⟩⟩
        · refine te_aload_n (p2 := 49) rfl rfl rfl ?_
          refine tg_r (p2 := 52) (i := 148) (r := 184) rfl rfl hI rfl rfl rfl ?_
          refine te_iload_n (p2 := 53) rfl rfl rfl ?_
          refine tl_i (p2 := 54) (i := 168) (n := 16) rfl rfl hI rfl rfl rfl rfl (by omega) (by omega) (fun y6 a6 b6 g6 e6 => ?_)
          refine te_goto rfl ?_
          exact te_iret rfl rfl ⟨hI, f0, _, rfl, p1, e1, Or.inl ⟨by omega, by omega, (fun h9 => absurd h9 (by omega)), (fun h9 => absurd h9 (by omega)), (fun _ => e6), (fun h9 => absurd (by omega) h9)⟩⟩
      · refine te_aload_n (p2 := 32) rfl rfl rfl ?_
        refine tg_r (p2 := 35) (i := 148) (r := 165) rfl rfl hI rfl rfl rfl ?_
        refine te_bipush (p2 := 37) (x := 124) rfl rfl (by decide) ?_
        refine te_iload_n (p2 := 38) rfl rfl rfl ?_
        refine ar_add (p2 := 39) rfl rfl (show Int32.toInt 124 = 124 from rfl) rfl (by omega) (by omega) (fun z7 e7 f7 => ?_)
        refine tl_i (p2 := 40) (i := 149) (n := 283) rfl rfl hI rfl rfl rfl rfl (by omega) (by omega) (fun y8 a8 b8 g8 e8 => ?_)
        refine te_goto rfl ?_
        exact te_iret rfl rfl ⟨hI, f0, _, rfl, p1, e1, Or.inl ⟨by omega, by omega, (fun h9 => absurd h9 (by omega)), (fun _ => (by rw [show 124 + x1.toInt.toNat = z7.toInt.toNat by omega]; exact e8)), (fun h9 => absurd h9 (by omega)), (fun h9 => absurd (by omega) h9)⟩⟩
    · refine te_aload_n (p2 := 15) rfl rfl rfl ?_
      refine tg_r (p2 := 18) (i := 148) (r := 165) rfl rfl hI rfl rfl rfl ?_
      refine te_bipush (p2 := 20) (x := 108) rfl rfl (by decide) ?_
      refine te_iload_n (p2 := 21) rfl rfl rfl ?_
      refine ar_add (p2 := 22) rfl rfl (show Int32.toInt 108 = 108 from rfl) rfl (by omega) (by omega) (fun z9 e9 f9 => ?_)
      refine tl_i (p2 := 23) (i := 149) (n := 283) rfl rfl hI rfl rfl rfl rfl (by omega) (by omega) (fun y10 a10 b10 g10 e10 => ?_)
      refine te_goto rfl ?_
      exact te_iret rfl rfl ⟨hI, f0, _, rfl, p1, e1, Or.inl ⟨by omega, by omega, (fun _ => (by rw [show 108 + x1.toInt.toNat = z9.toInt.toNat by omega]; exact e10)), (fun h9 => absurd h9 (by omega)), (fun h9 => absurd h9 (by omega)), (fun h9 => absurd (by omega) h9)⟩⟩
  · subst w1
    refine tz_ne (p2 := 8) rfl rfl (show Int32.toInt 0 = 0 from rfl) (fun c11 => absurd c11 (by omega)) (fun c11 => ?_)
    refine te_iconst (p2 := 9) (x := (-1)) rfl rfl (by decide) ?_
    exact te_iret rfl rfl ⟨hI, f0, _, rfl, p1, e1, Or.inr ⟨by omega, rfl⟩⟩
set_option maxRecDepth 20000 in
set_option maxHeartbeats 4000000 in
theorem c_X12_late {s : Int32} {n : Int32} {h : im_H} (hI : tI h) (p_s0 : 0 ≤ s.toInt) (p_s1 : s.toInt ≤ 3) (p_n0 : 1 ≤ n.toInt) (p_n1 : n.toInt ≤ 6) (pr0 : allB h 194 (40 * s.toInt.toNat) n.toInt 15) (pr1 : allB h 199 0 n.toInt (n.toInt - 1)) (pr2 : ∀ w : Int32, rd h 148 21 = some (.int w) → allB h 194 (40 * s.toInt.toNat) n.toInt (w.toInt - 1)) : CaP 4 166 [.ref 164, .int s, .int n] h (fun v h2 => tI h2 ∧ fr F_X12_late h h2 ∧ ∃ y : Int32, v = some (.int y) ∧ ∀ j : Nat, rd h2 149 j = rd h 149 j) := by
  refine cap_of (d := 3) (M := mX12_late) rfl (Nat.le_of_ble_eq_true rfl) ?_
  show EvP im_K0 3 mX12_late (0, [(0, .ref 164), (1, .int s), (2, .int n)], [], h) _
  have f0 : fr F_X12_late h h := fr_rf
  refine te_iconst (p2 := 1) (x := 0) rfl rfl (by decide) ?_
  obtain ⟨v1, e1, y1, w1, a1, b1, _⟩ := hI.2.1 148 21 (.inl (0, 16, 9999999999)) rfl
  subst w1
  refine te_istore_n (p2 := 2) (lv2 := [(3, .int 0), (0, .ref 164), (1, .int s), (2, .int n)]) rfl rfl (by decide) rfl ?_
  refine te_iconst (p2 := 3) (x := 0) rfl rfl (by decide) ?_
  refine te_istore (p2 := 5) (lv2 := [(4, .int 0), (3, .int 0), (0, .ref 164), (1, .int s), (2, .int n)]) rfl rfl (by decide) rfl ?_
  have lp2 : ∀ (n2 : Nat) (v2_4 : Int32) (h2 : im_H), tI h2 → fr F_X12_late h h2 → 0 ≤ v2_4.toInt → v2_4.toInt ≤ 16 → v2_4.toInt ≤ y1.toInt → (∀ m : Nat, (m : Int) < v2_4.toInt → rd h2 197 m = rd h 149 (108 + m) ∧ rd h2 198 m = rd h 149 (124 + m)) → (∀ j : Nat, rd h2 149 j = rd h 149 j) → 16 - v2_4.toInt < (n2 : Int) → EvP im_K0 3 mX12_late (5, [(0, .ref 164), (1, .int s), (2, .int n), (3, .int 0), (4, .int v2_4)], [], h2) (fun v h2 => tI h2 ∧ fr F_X12_late h h2 ∧ ∃ y : Int32, v = some (.int y) ∧ ∀ j : Nat, rd h2 149 j = rd h 149 j) := by
    intro n2
    induction n2 with
    | zero => intro v2_4 h2 I2 f2 a2_4 b2_4 l2_0 w2_0 w2_1 m2; exfalso; omega
    | succ n2 ih2 =>
      intro v2_4 h2 I2 f2 a2_4 b2_4 l2_0 w2_0 w2_1 m2
      refine te_iload (p2 := 7) rfl rfl rfl ?_
      refine te_aload_n (p2 := 8) rfl rfl rfl ?_
      refine tg_e (p2 := 11) (i := 148) (v := .int y1) rfl rfl I2 rfl rfl ((f2 _ _ rfl).trans e1) ?_
      refine tb_ge (p2 := 14) rfl rfl rfl rfl (fun c3 => ?_) (fun c3 => ?_)
      · refine te_iconst (p2 := 55) (x := 0) rfl rfl (by decide) ?_
        refine te_istore (p2 := 57) (lv2 := [(4, .int 0), (0, .ref 164), (1, .int s), (2, .int n), (3, .int 0)]) rfl rfl (by decide) rfl ?_
        have lp4 : ∀ (n4 : Nat) (v4_3 v4_4 : Int32) (h4 : im_H), tI h4 → fr F_X12_late h h4 → 0 ≤ v4_4.toInt → v4_4.toInt ≤ 6 → (∀ m : Nat, (m : Int) < y1.toInt → rd h4 197 m = rd h 149 (108 + m) ∧ rd h4 198 m = rd h 149 (124 + m)) → (∀ j : Nat, ¬ (108 ≤ j ∧ (j : Int) < 108 + y1.toInt) → ¬ (124 ≤ j ∧ (j : Int) < 124 + y1.toInt) → rd h4 149 j = rd h 149 j) → 6 - v4_4.toInt < (n4 : Int) → EvP im_K0 3 mX12_late (57, [(0, .ref 164), (1, .int s), (2, .int n), (3, .int v4_3), (4, .int v4_4)], [], h4) (fun v h2 => tI h2 ∧ fr F_X12_late h h2 ∧ ∃ y : Int32, v = some (.int y) ∧ ∀ j : Nat, rd h2 149 j = rd h 149 j) := by
          intro n4
          induction n4 with
          | zero => intro v4_3 v4_4 h4 I4 f4 a4_4 b4_4 w4_0 w4_1 m4; exfalso; omega
          | succ n4 ih4 =>
            intro v4_3 v4_4 h4 I4 f4 a4_4 b4_4 w4_0 w4_1 m4
            refine te_iload (p2 := 59) rfl rfl rfl ?_
            refine te_iload_n (p2 := 60) rfl rfl rfl ?_
            refine tb_ge (p2 := 63) rfl rfl rfl rfl (fun c5 => ?_) (fun c5 => ?_)
            · refine te_iconst (p2 := 177) (x := 0) rfl rfl (by decide) ?_
              refine te_istore (p2 := 179) (lv2 := [(4, .int 0), (0, .ref 164), (1, .int s), (2, .int n), (3, .int v4_3)]) rfl rfl (by decide) rfl ?_
              have lp6 : ∀ (n6 : Nat) (v6_4 : Int32) (h6 : im_H), tI h6 → fr F_X12_late h h6 → 0 ≤ v6_4.toInt → v6_4.toInt ≤ 16 → v6_4.toInt ≤ y1.toInt → (∀ m : Nat, (m : Int) < y1.toInt → rd h6 197 m = rd h 149 (108 + m) ∧ rd h6 198 m = rd h 149 (124 + m)) → (∀ m : Nat, (m : Int) < v6_4.toInt → rd h6 149 (108 + m) = rd h 149 (108 + m) ∧ rd h6 149 (124 + m) = rd h 149 (124 + m)) → (∀ j : Nat, ¬ (108 ≤ j ∧ (j : Int) < 108 + y1.toInt) → ¬ (124 ≤ j ∧ (j : Int) < 124 + y1.toInt) → rd h6 149 j = rd h 149 j) → 16 - v6_4.toInt < (n6 : Int) → EvP im_K0 3 mX12_late (179, [(0, .ref 164), (1, .int s), (2, .int n), (3, .int v4_3), (4, .int v6_4)], [], h6) (fun v h2 => tI h2 ∧ fr F_X12_late h h2 ∧ ∃ y : Int32, v = some (.int y) ∧ ∀ j : Nat, rd h2 149 j = rd h 149 j) := by
                intro n6
                induction n6 with
                | zero => intro v6_4 h6 I6 f6 a6_4 b6_4 l6_0 w6_0 w6_1 w6_2 m6; exfalso; omega
                | succ n6 ih6 =>
                  intro v6_4 h6 I6 f6 a6_4 b6_4 l6_0 w6_0 w6_1 w6_2 m6
                  refine te_iload (p2 := 181) rfl rfl rfl ?_
                  refine te_aload_n (p2 := 182) rfl rfl rfl ?_
                  refine tg_e (p2 := 185) (i := 148) (v := .int y1) rfl rfl I6 rfl rfl ((f6 _ _ rfl).trans e1) ?_
                  refine tb_ge (p2 := 188) rfl rfl rfl rfl (fun c7 => ?_) (fun c7 => ?_)
                  · refine te_iload_n (p2 := 229) rfl rfl rfl ?_
                    exact te_iret rfl rfl ⟨I6, f6, _, rfl, (fun j => by (by_cases ha : 108 ≤ j ∧ (j : Int) < 108 + y1.toInt); (· have e := (w6_1 (j - 108) (by omega)).1; rw [show 108 + (j - 108) = j by omega] at e; exact e); (· by_cases hb : 124 ≤ j ∧ (j : Int) < 124 + y1.toInt; (· have e := (w6_1 (j - 124) (by omega)).2; rw [show 124 + (j - 124) = j by omega] at e; exact e); (· exact w6_2 j ha hb)))⟩
                  · refine te_aload_n (p2 := 189) rfl rfl rfl ?_
                    refine tg_r (p2 := 192) (i := 148) (r := 165) rfl rfl I6 rfl rfl rfl ?_
                    refine te_bipush (p2 := 194) (x := 108) rfl rfl (by decide) ?_
                    refine te_iload (p2 := 196) rfl rfl rfl ?_
                    refine ar_add (p2 := 197) rfl rfl (show Int32.toInt 108 = 108 from rfl) rfl (by omega) (by omega) (fun z8 e8 f8 => ?_)
                    refine te_aload_n (p2 := 198) rfl rfl rfl ?_
                    refine tg_r (p2 := 201) (i := 148) (r := 213) rfl rfl I6 rfl rfl rfl ?_
                    refine te_iload (p2 := 203) rfl rfl rfl ?_
                    refine tl_i (p2 := 204) (i := 197) (n := 16) rfl rfl I6 rfl rfl rfl rfl (by omega) (by omega) (fun y9 a9 b9 g9 e9 => ?_)
                    refine ts_i (p2 := 205) (i := 149) (n := 283) rfl rfl I6 rfl rfl rfl rfl (by omega) (by omega) (i32_lo _) (i32_hi _) (i32_ho _) rfl (fun h10 I10 u10 => ?_)
                    have f10 := fr_st (F := F_X12_late) 0 f6 u10 rfl (by omega) (by omega)
                    refine te_aload_n (p2 := 206) rfl rfl rfl ?_
                    refine tg_r (p2 := 209) (i := 148) (r := 165) rfl rfl I10 rfl rfl rfl ?_
                    refine te_bipush (p2 := 211) (x := 124) rfl rfl (by decide) ?_
                    refine te_iload (p2 := 213) rfl rfl rfl ?_
                    refine ar_add (p2 := 214) rfl rfl (show Int32.toInt 124 = 124 from rfl) rfl (by omega) (by omega) (fun z11 e11 f11 => ?_)
                    refine te_aload_n (p2 := 215) rfl rfl rfl ?_
                    refine tg_r (p2 := 218) (i := 148) (r := 214) rfl rfl I10 rfl rfl rfl ?_
                    refine te_iload (p2 := 220) rfl rfl rfl ?_
                    refine tl_i (p2 := 221) (i := 198) (n := 16) rfl rfl I10 rfl rfl rfl rfl (by omega) (by omega) (fun y12 a12 b12 g12 e12 => ?_)
                    refine ts_i (p2 := 222) (i := 149) (n := 283) rfl rfl I10 rfl rfl rfl rfl (by omega) (by omega) (i32_lo _) (i32_hi _) (i32_ho _) rfl (fun h13 I13 u13 => ?_)
                    have f13 := fr_st (F := F_X12_late) 0 f10 u13 rfl (by omega) (by omega)
                    refine ar_inc (p2 := 225) (x := v6_4) rfl rfl (by decide) rfl (by decide) rfl (by omega) (by omega) (fun z14 e14 f14 => ?_)
                    show EvP _ _ _ (225, [(4, .int z14), (0, .ref 164), (1, .int s), (2, .int n), (3, .int v4_3)], [], h13) _
                    refine te_goto rfl ?_
                    refine te_lv [(0, .ref 164), (1, .int s), (2, .int n), (3, .int v4_3), (4, .int z14)] rfl rfl ⟨rfl, rfl, rfl, rfl, rfl, trivial⟩ ?_
                    exact ih6 z14 h13 I13 f13 (by omega) (by omega) (by omega) (fun m hm => ⟨((u13.2 _ _ (Or.inl (by decide))).trans ((u10.2 _ _ (Or.inl (by decide))).trans (w6_0 m hm).1)), ((u13.2 _ _ (Or.inl (by decide))).trans ((u10.2 _ _ (Or.inl (by decide))).trans (w6_0 m hm).2))⟩) (fun m hm => by (by_cases hc : m = v6_4.toInt.toNat); (· rw [hc]; exact ⟨(show rd h13 149 (108 + v6_4.toInt.toNat) = some (.int y9) from (by rw [show 108 + v6_4.toInt.toNat = z8.toInt.toNat by omega]; exact ((u13.2 _ _ (Or.inr (by omega))).trans u10.1))).trans ((w6_0 _ (by omega)).1.symm.trans e9).symm, (show rd h13 149 (124 + v6_4.toInt.toNat) = some (.int y12) from (by rw [show 124 + v6_4.toInt.toNat = z11.toInt.toNat by omega]; exact u13.1)).trans ((w6_0 _ (by omega)).2.symm.trans ((u10.2 _ _ (Or.inl (by decide))).symm.trans e12)).symm⟩); (· have hw := w6_1 m (by omega); exact ⟨((u13.2 _ _ (Or.inr (by omega))).trans (u10.2 _ _ (Or.inr (by omega)))).trans hw.1, ((u13.2 _ _ (Or.inr (by omega))).trans (u10.2 _ _ (Or.inr (by omega)))).trans hw.2⟩)) (fun j ja jb => ((u13.2 _ _ (Or.inr (by omega))).trans ((u10.2 _ _ (Or.inr (by omega))).trans (w6_2 j ja jb)))) (by omega)
              refine te_lv [(0, .ref 164), (1, .int s), (2, .int n), (3, .int v4_3), (4, .int 0)] rfl rfl ⟨rfl, rfl, rfl, rfl, rfl, trivial⟩ ?_
              exact lp6 17 0 h4 I4 f4 (by decide) (by decide) (by have cc0 := (show Int32.toInt 0 = 0 from rfl); omega) w4_0 (fun m hm => by exfalso; have := (show Int32.toInt 0 = 0 from rfl); omega) w4_1 (by have cc0 := (show Int32.toInt 0 = 0 from rfl); omega)
            · refine te_aload_n (p2 := 64) rfl rfl rfl ?_
              refine tg_r (p2 := 67) (i := 148) (r := 210) rfl rfl I4 rfl rfl rfl ?_
              refine te_bipush (p2 := 69) (x := 40) rfl rfl (by decide) ?_
              refine te_iload_n (p2 := 70) rfl rfl rfl ?_
              refine ar_mul (p2 := 71) rfl rfl (show Int32.toInt 40 = 40 from rfl) rfl (by omega) (by omega) (fun z15 e15 f15 => ?_)
              refine te_aload_n (p2 := 72) rfl rfl rfl ?_
              refine tg_r (p2 := 75) (i := 148) (r := 215) rfl rfl I4 rfl rfl rfl ?_
              refine te_iload (p2 := 77) rfl rfl rfl ?_
              refine tl_i (p2 := 78) (i := 199) (n := 6) rfl rfl I4 rfl rfl rfl rfl (by omega) (by omega) (fun y16 a16 b16 g16 e16 => ?_)
              obtain ⟨a17, b17⟩ := allB_at (allB_fr pr1 (fun q => f4 _ _ rfl)) v4_4.toInt.toNat (by omega) (by rw [Nat.zero_add]) e16
              refine ar_add (p2 := 79) rfl rfl rfl rfl (by omega) (by omega) (fun z18 e18 f18 => ?_)
              refine tl_i (p2 := 80) (i := 194) (n := 160) rfl rfl I4 rfl rfl rfl rfl (by omega) (by omega) (fun y19 a19 b19 g19 e19 => ?_)
              obtain ⟨a20, b20⟩ := allB_at (allB_fr pr0 (fun q => f4 _ _ rfl)) y16.toInt.toNat (by omega) (by omega) e19
              obtain ⟨a21, b21⟩ := allB_at (allB_fr (pr2 _ e1) (fun q => f4 _ _ rfl)) y16.toInt.toNat (by omega) (by omega) e19
              refine te_istore (p2 := 82) (lv2 := [(5, .int y19), (0, .ref 164), (1, .int s), (2, .int n), (3, .int v4_3), (4, .int v4_4)]) rfl rfl (by decide) rfl ?_
              refine te_iload_n (p2 := 83) rfl rfl rfl ?_
              refine te_aload_n (p2 := 84) rfl rfl rfl ?_
              refine tg_r (p2 := 87) (i := 148) (r := 165) rfl rfl I4 rfl rfl rfl ?_
              refine te_bipush (p2 := 89) (x := 108) rfl rfl (by decide) ?_
              refine te_iload (p2 := 91) rfl rfl rfl ?_
              refine ar_add (p2 := 92) rfl rfl (show Int32.toInt 108 = 108 from rfl) rfl (by omega) (by omega) (fun z22 e22 f22 => ?_)
              refine tl_i (p2 := 93) (i := 149) (n := 283) rfl rfl I4 rfl rfl rfl rfl (by omega) (by omega) (fun y23 a23 b23 g23 e23 => ?_)
              refine tz_ne (p2 := 96) rfl rfl rfl (fun c24 => ?_) (fun c24 => ?_)
              · refine te_iconst (p2 := 101) (x := 0) rfl rfl (by decide) ?_
                have n25_v4_3 := i32_lo v4_3
                have o25_v4_3 := i32_hi v4_3
                refine ar_add (p2 := 102) rfl rfl rfl (show Int32.toInt 0 = 0 from rfl) (by omega) (by omega) (fun z25 e25 f25 => ?_)
                refine te_istore_n (p2 := 103) (lv2 := [(3, .int z25), (5, .int y19), (0, .ref 164), (1, .int s), (2, .int n), (4, .int v4_4)]) rfl rfl (by decide) rfl ?_
                refine te_aload_n (p2 := 104) rfl rfl rfl ?_
                refine tg_r (p2 := 107) (i := 148) (r := 165) rfl rfl I4 rfl rfl rfl ?_
                refine te_bipush (p2 := 109) (x := 108) rfl rfl (by decide) ?_
                refine te_iload (p2 := 111) rfl rfl rfl ?_
                refine ar_add (p2 := 112) rfl rfl (show Int32.toInt 108 = 108 from rfl) rfl (by omega) (by omega) (fun z26 e26 f26 => ?_)
                refine te_iconst (p2 := 113) (x := 0) rfl rfl (by decide) ?_
                refine ts_i (p2 := 114) (i := 149) (n := 283) rfl rfl I4 rfl rfl rfl rfl (by omega) (by omega) (i32_lo _) (i32_hi _) (i32_ho _) rfl (fun h27 I27 u27 => ?_)
                have f27 := fr_st (F := F_X12_late) 0 f4 u27 rfl (by omega) (by omega)
                refine te_iconst (p2 := 115) (x := 0) rfl rfl (by decide) ?_
                refine te_istore (p2 := 117) (lv2 := [(6, .int 0), (3, .int z25), (5, .int y19), (0, .ref 164), (1, .int s), (2, .int n), (4, .int v4_4)]) rfl rfl (by decide) rfl ?_
                have lp28 : ∀ (n28 : Nat) (v28_6 : Int32) (h28 : im_H), tI h28 → fr F_X12_late h h28 → 0 ≤ v28_6.toInt → v28_6.toInt ≤ 16 → v28_6.toInt ≤ y1.toInt → (∀ m : Nat, (m : Int) < y1.toInt → rd h28 197 m = rd h 149 (108 + m) ∧ rd h28 198 m = rd h 149 (124 + m)) → (∀ j : Nat, ¬ (108 ≤ j ∧ (j : Int) < 108 + y1.toInt) → ¬ (124 ≤ j ∧ (j : Int) < 124 + y1.toInt) → rd h28 149 j = rd h 149 j) → 16 - v28_6.toInt < (n28 : Int) → EvP im_K0 3 mX12_late (117, [(0, .ref 164), (1, .int s), (2, .int n), (3, .int z25), (4, .int v4_4), (5, .int y19), (6, .int v28_6)], [], h28) (fun v h2 => tI h2 ∧ fr F_X12_late h h2 ∧ ∃ y : Int32, v = some (.int y) ∧ ∀ j : Nat, rd h2 149 j = rd h 149 j) := by
                  intro n28
                  induction n28 with
                  | zero => intro v28_6 h28 I28 f28 a28_6 b28_6 l28_0 w28_0 w28_1 m28; exfalso; omega
                  | succ n28 ih28 =>
                    intro v28_6 h28 I28 f28 a28_6 b28_6 l28_0 w28_0 w28_1 m28
                    refine te_iload (p2 := 119) rfl rfl rfl ?_
                    refine te_aload_n (p2 := 120) rfl rfl rfl ?_
                    refine tg_e (p2 := 123) (i := 148) (v := .int y1) rfl rfl I28 rfl rfl ((f28 _ _ rfl).trans e1) ?_
                    refine tb_ge (p2 := 126) rfl rfl rfl rfl (fun c29 => ?_) (fun c29 => ?_)
                    · refine ar_inc (p2 := 173) (x := v4_4) rfl rfl (by decide) rfl (by decide) rfl (by omega) (by omega) (fun z30 e30 f30 => ?_)
                      show EvP _ _ _ (173, [(4, .int z30), (0, .ref 164), (1, .int s), (2, .int n), (3, .int z25), (5, .int y19), (6, .int v28_6)], [], h28) _
                      refine te_goto rfl ?_
                      refine te_lv [(0, .ref 164), (1, .int s), (2, .int n), (3, .int z25), (4, .int z30)] rfl rfl ⟨rfl, rfl, rfl, rfl, rfl, trivial⟩ ?_
                      exact ih4 z25 z30 h28 I28 f28 (by omega) (by omega) w28_0 w28_1 (by omega)
                    · refine te_aload_n (p2 := 127) rfl rfl rfl ?_
                      refine tg_r (p2 := 130) (i := 148) (r := 165) rfl rfl I28 rfl rfl rfl ?_
                      refine te_bipush (p2 := 132) (x := 108) rfl rfl (by decide) ?_
                      refine te_iload (p2 := 134) rfl rfl rfl ?_
                      refine ar_add (p2 := 135) rfl rfl (show Int32.toInt 108 = 108 from rfl) rfl (by omega) (by omega) (fun z31 e31 f31 => ?_)
                      refine te_aload_n (p2 := 136) rfl rfl rfl ?_
                      refine tg_r (p2 := 139) (i := 148) (r := 165) rfl rfl I28 rfl rfl rfl ?_
                      refine te_bipush (p2 := 141) (x := 108) rfl rfl (by decide) ?_
                      refine te_iload (p2 := 143) rfl rfl rfl ?_
                      refine ar_add (p2 := 144) rfl rfl (show Int32.toInt 108 = 108 from rfl) rfl (by omega) (by omega) (fun z32 e32 f32 => ?_)
                      refine tl_i (p2 := 145) (i := 149) (n := 283) rfl rfl I28 rfl rfl rfl rfl (by omega) (by omega) (fun y33 a33 b33 g33 e33 => ?_)
                      refine te_iconst (p2 := 146) (x := 1) rfl rfl (by decide) ?_
                      refine tb_ne (p2 := 149) rfl rfl rfl (show Int32.toInt 1 = 1 from rfl) (fun c34 => ?_) (fun c34 => ?_)
                      · refine te_iconst (p2 := 163) (x := 0) rfl rfl (by decide) ?_
                        refine ts_i (p2 := 164) (i := 149) (n := 283) rfl rfl I28 rfl rfl rfl rfl (by omega) (by omega) (i32_lo _) (i32_hi _) (i32_ho _) rfl (fun h35 I35 u35 => ?_)
                        have f35 := fr_st (F := F_X12_late) 0 f28 u35 rfl (by omega) (by omega)
                        refine ar_inc (p2 := 167) (x := v28_6) rfl rfl (by decide) rfl (by decide) rfl (by omega) (by omega) (fun z36 e36 f36 => ?_)
                        show EvP _ _ _ (167, [(6, .int z36), (0, .ref 164), (1, .int s), (2, .int n), (3, .int z25), (4, .int v4_4), (5, .int y19)], [], h35) _
                        refine te_goto rfl ?_
                        refine te_lv [(0, .ref 164), (1, .int s), (2, .int n), (3, .int z25), (4, .int v4_4), (5, .int y19), (6, .int z36)] rfl rfl ⟨rfl, rfl, rfl, rfl, rfl, rfl, rfl, trivial⟩ ?_
                        exact ih28 z36 h35 I35 f35 (by omega) (by omega) (by omega) (fun m hm => ⟨((u35.2 _ _ (Or.inl (by decide))).trans (w28_0 m hm).1), ((u35.2 _ _ (Or.inl (by decide))).trans (w28_0 m hm).2)⟩) (fun j ja jb => ((u35.2 _ _ (Or.inr (by omega))).trans (w28_1 j ja jb))) (by omega)
                      · refine te_aload_n (p2 := 150) rfl rfl rfl ?_
                        refine te_iload (p2 := 152) rfl rfl rfl ?_
                        refine tc_V (p2 := 155) (i := 148) rfl rfl rfl rfl I28 rfl rfl rfl (c_X12_wears (w := v28_6) I28 (by omega) (by omega)) (by decide) (fun v37 h37 hq37 => ?_)
                        obtain ⟨I37, g37, y37, w37, t37, Q37⟩ := hq37
                        subst w37
                        have f37 := fr_tr (F1 := F_X12_wears) (F := F_X12_late) f28 g37 (by decide)
                        rcases Q37.2.2.2 with ⟨x37, c37⟩ | ⟨x37, c37⟩
                        · subst x37
                          show EvP _ _ _ (155, [(0, .ref 164), (1, .int s), (2, .int n), (3, .int z25), (4, .int v4_4), (5, .int y19), (6, .int v28_6)], [.int 1, .int z31, .ref 165], h37) _
                          refine tz_ne (p2 := 158) rfl rfl (show Int32.toInt 1 = 1 from rfl) (fun c38 => ?_) (fun c38 => absurd c38 (by omega))
                          refine te_iconst (p2 := 163) (x := 0) rfl rfl (by decide) ?_
                          refine ts_i (p2 := 164) (i := 149) (n := 283) rfl rfl I37 rfl rfl rfl rfl (by omega) (by omega) (i32_lo _) (i32_hi _) (i32_ho _) rfl (fun h39 I39 u39 => ?_)
                          have f39 := fr_st (F := F_X12_late) 0 f37 u39 rfl (by omega) (by omega)
                          refine ar_inc (p2 := 167) (x := v28_6) rfl rfl (by decide) rfl (by decide) rfl (by omega) (by omega) (fun z40 e40 f40 => ?_)
                          show EvP _ _ _ (167, [(6, .int z40), (0, .ref 164), (1, .int s), (2, .int n), (3, .int z25), (4, .int v4_4), (5, .int y19)], [], h39) _
                          refine te_goto rfl ?_
                          refine te_lv [(0, .ref 164), (1, .int s), (2, .int n), (3, .int z25), (4, .int v4_4), (5, .int y19), (6, .int z40)] rfl rfl ⟨rfl, rfl, rfl, rfl, rfl, rfl, rfl, trivial⟩ ?_
                          exact ih28 z40 h39 I39 f39 (by omega) (by omega) (by omega) (fun m hm => ⟨((u39.2 _ _ (Or.inl (by decide))).trans ((Q37.2.2.1 _ _ (Or.inl (by decide))).trans (w28_0 m hm).1)), ((u39.2 _ _ (Or.inl (by decide))).trans ((Q37.2.2.1 _ _ (Or.inl (by decide))).trans (w28_0 m hm).2))⟩) (fun j ja jb => ((u39.2 _ _ (Or.inr (by omega))).trans ((Q37.2.2.1 _ _ (Or.inr (by omega))).trans (w28_1 j ja jb)))) (by omega)
                        · subst x37
                          show EvP _ _ _ (155, [(0, .ref 164), (1, .int s), (2, .int n), (3, .int z25), (4, .int v4_4), (5, .int y19), (6, .int v28_6)], [.int 0, .int z31, .ref 165], h37) _
                          refine tz_ne (p2 := 158) rfl rfl (show Int32.toInt 0 = 0 from rfl) (fun c41 => absurd c41 (by omega)) (fun c41 => ?_)
                          refine te_iconst (p2 := 159) (x := 1) rfl rfl (by decide) ?_
                          refine te_goto rfl ?_
                          refine ts_i (p2 := 164) (i := 149) (n := 283) rfl rfl I37 rfl rfl rfl rfl (by omega) (by omega) (i32_lo _) (i32_hi _) (i32_ho _) rfl (fun h42 I42 u42 => ?_)
                          have f42 := fr_st (F := F_X12_late) 0 f37 u42 rfl (by omega) (by omega)
                          refine ar_inc (p2 := 167) (x := v28_6) rfl rfl (by decide) rfl (by decide) rfl (by omega) (by omega) (fun z43 e43 f43 => ?_)
                          show EvP _ _ _ (167, [(6, .int z43), (0, .ref 164), (1, .int s), (2, .int n), (3, .int z25), (4, .int v4_4), (5, .int y19)], [], h42) _
                          refine te_goto rfl ?_
                          refine te_lv [(0, .ref 164), (1, .int s), (2, .int n), (3, .int z25), (4, .int v4_4), (5, .int y19), (6, .int z43)] rfl rfl ⟨rfl, rfl, rfl, rfl, rfl, rfl, rfl, trivial⟩ ?_
                          exact ih28 z43 h42 I42 f42 (by omega) (by omega) (by omega) (fun m hm => ⟨((u42.2 _ _ (Or.inl (by decide))).trans ((Q37.2.2.1 _ _ (Or.inl (by decide))).trans (w28_0 m hm).1)), ((u42.2 _ _ (Or.inl (by decide))).trans ((Q37.2.2.1 _ _ (Or.inl (by decide))).trans (w28_0 m hm).2))⟩) (fun j ja jb => ((u42.2 _ _ (Or.inr (by omega))).trans ((Q37.2.2.1 _ _ (Or.inr (by omega))).trans (w28_1 j ja jb)))) (by omega)
                refine te_lv [(0, .ref 164), (1, .int s), (2, .int n), (3, .int z25), (4, .int v4_4), (5, .int y19), (6, .int 0)] rfl rfl ⟨rfl, rfl, rfl, rfl, rfl, rfl, rfl, trivial⟩ ?_
                exact lp28 17 0 h27 I27 f27 (by decide) (by decide) (by have cc0 := (show Int32.toInt 0 = 0 from rfl); omega) (fun m hm => ⟨((u27.2 _ _ (Or.inl (by decide))).trans (w4_0 m hm).1), ((u27.2 _ _ (Or.inl (by decide))).trans (w4_0 m hm).2)⟩) (fun j ja jb => ((u27.2 _ _ (Or.inr (by omega))).trans (w4_1 j ja jb))) (by have cc0 := (show Int32.toInt 0 = 0 from rfl); omega)
              · refine te_iconst (p2 := 97) (x := 1) rfl rfl (by decide) ?_
                refine te_goto rfl ?_
                refine au_add (p2 := 102) rfl rfl (fun z44 e44 => ?_)
                refine te_istore_n (p2 := 103) (lv2 := [(3, .int z44), (5, .int y19), (0, .ref 164), (1, .int s), (2, .int n), (4, .int v4_4)]) rfl rfl (by decide) rfl ?_
                refine te_aload_n (p2 := 104) rfl rfl rfl ?_
                refine tg_r (p2 := 107) (i := 148) (r := 165) rfl rfl I4 rfl rfl rfl ?_
                refine te_bipush (p2 := 109) (x := 108) rfl rfl (by decide) ?_
                refine te_iload (p2 := 111) rfl rfl rfl ?_
                refine ar_add (p2 := 112) rfl rfl (show Int32.toInt 108 = 108 from rfl) rfl (by omega) (by omega) (fun z45 e45 f45 => ?_)
                refine te_iconst (p2 := 113) (x := 0) rfl rfl (by decide) ?_
                refine ts_i (p2 := 114) (i := 149) (n := 283) rfl rfl I4 rfl rfl rfl rfl (by omega) (by omega) (i32_lo _) (i32_hi _) (i32_ho _) rfl (fun h46 I46 u46 => ?_)
                have f46 := fr_st (F := F_X12_late) 0 f4 u46 rfl (by omega) (by omega)
                refine te_iconst (p2 := 115) (x := 0) rfl rfl (by decide) ?_
                refine te_istore (p2 := 117) (lv2 := [(6, .int 0), (3, .int z44), (5, .int y19), (0, .ref 164), (1, .int s), (2, .int n), (4, .int v4_4)]) rfl rfl (by decide) rfl ?_
                have lp47 : ∀ (n47 : Nat) (v47_6 : Int32) (h47 : im_H), tI h47 → fr F_X12_late h h47 → 0 ≤ v47_6.toInt → v47_6.toInt ≤ 16 → v47_6.toInt ≤ y1.toInt → (∀ m : Nat, (m : Int) < y1.toInt → rd h47 197 m = rd h 149 (108 + m) ∧ rd h47 198 m = rd h 149 (124 + m)) → (∀ j : Nat, ¬ (108 ≤ j ∧ (j : Int) < 108 + y1.toInt) → ¬ (124 ≤ j ∧ (j : Int) < 124 + y1.toInt) → rd h47 149 j = rd h 149 j) → 16 - v47_6.toInt < (n47 : Int) → EvP im_K0 3 mX12_late (117, [(0, .ref 164), (1, .int s), (2, .int n), (3, .int z44), (4, .int v4_4), (5, .int y19), (6, .int v47_6)], [], h47) (fun v h2 => tI h2 ∧ fr F_X12_late h h2 ∧ ∃ y : Int32, v = some (.int y) ∧ ∀ j : Nat, rd h2 149 j = rd h 149 j) := by
                  intro n47
                  induction n47 with
                  | zero => intro v47_6 h47 I47 f47 a47_6 b47_6 l47_0 w47_0 w47_1 m47; exfalso; omega
                  | succ n47 ih47 =>
                    intro v47_6 h47 I47 f47 a47_6 b47_6 l47_0 w47_0 w47_1 m47
                    refine te_iload (p2 := 119) rfl rfl rfl ?_
                    refine te_aload_n (p2 := 120) rfl rfl rfl ?_
                    refine tg_e (p2 := 123) (i := 148) (v := .int y1) rfl rfl I47 rfl rfl ((f47 _ _ rfl).trans e1) ?_
                    refine tb_ge (p2 := 126) rfl rfl rfl rfl (fun c48 => ?_) (fun c48 => ?_)
                    · refine ar_inc (p2 := 173) (x := v4_4) rfl rfl (by decide) rfl (by decide) rfl (by omega) (by omega) (fun z49 e49 f49 => ?_)
                      show EvP _ _ _ (173, [(4, .int z49), (0, .ref 164), (1, .int s), (2, .int n), (3, .int z44), (5, .int y19), (6, .int v47_6)], [], h47) _
                      refine te_goto rfl ?_
                      refine te_lv [(0, .ref 164), (1, .int s), (2, .int n), (3, .int z44), (4, .int z49)] rfl rfl ⟨rfl, rfl, rfl, rfl, rfl, trivial⟩ ?_
                      exact ih4 z44 z49 h47 I47 f47 (by omega) (by omega) w47_0 w47_1 (by omega)
                    · refine te_aload_n (p2 := 127) rfl rfl rfl ?_
                      refine tg_r (p2 := 130) (i := 148) (r := 165) rfl rfl I47 rfl rfl rfl ?_
                      refine te_bipush (p2 := 132) (x := 108) rfl rfl (by decide) ?_
                      refine te_iload (p2 := 134) rfl rfl rfl ?_
                      refine ar_add (p2 := 135) rfl rfl (show Int32.toInt 108 = 108 from rfl) rfl (by omega) (by omega) (fun z50 e50 f50 => ?_)
                      refine te_aload_n (p2 := 136) rfl rfl rfl ?_
                      refine tg_r (p2 := 139) (i := 148) (r := 165) rfl rfl I47 rfl rfl rfl ?_
                      refine te_bipush (p2 := 141) (x := 108) rfl rfl (by decide) ?_
                      refine te_iload (p2 := 143) rfl rfl rfl ?_
                      refine ar_add (p2 := 144) rfl rfl (show Int32.toInt 108 = 108 from rfl) rfl (by omega) (by omega) (fun z51 e51 f51 => ?_)
                      refine tl_i (p2 := 145) (i := 149) (n := 283) rfl rfl I47 rfl rfl rfl rfl (by omega) (by omega) (fun y52 a52 b52 g52 e52 => ?_)
                      refine te_iconst (p2 := 146) (x := 1) rfl rfl (by decide) ?_
                      refine tb_ne (p2 := 149) rfl rfl rfl (show Int32.toInt 1 = 1 from rfl) (fun c53 => ?_) (fun c53 => ?_)
                      · refine te_iconst (p2 := 163) (x := 0) rfl rfl (by decide) ?_
                        refine ts_i (p2 := 164) (i := 149) (n := 283) rfl rfl I47 rfl rfl rfl rfl (by omega) (by omega) (i32_lo _) (i32_hi _) (i32_ho _) rfl (fun h54 I54 u54 => ?_)
                        have f54 := fr_st (F := F_X12_late) 0 f47 u54 rfl (by omega) (by omega)
                        refine ar_inc (p2 := 167) (x := v47_6) rfl rfl (by decide) rfl (by decide) rfl (by omega) (by omega) (fun z55 e55 f55 => ?_)
                        show EvP _ _ _ (167, [(6, .int z55), (0, .ref 164), (1, .int s), (2, .int n), (3, .int z44), (4, .int v4_4), (5, .int y19)], [], h54) _
                        refine te_goto rfl ?_
                        refine te_lv [(0, .ref 164), (1, .int s), (2, .int n), (3, .int z44), (4, .int v4_4), (5, .int y19), (6, .int z55)] rfl rfl ⟨rfl, rfl, rfl, rfl, rfl, rfl, rfl, trivial⟩ ?_
                        exact ih47 z55 h54 I54 f54 (by omega) (by omega) (by omega) (fun m hm => ⟨((u54.2 _ _ (Or.inl (by decide))).trans (w47_0 m hm).1), ((u54.2 _ _ (Or.inl (by decide))).trans (w47_0 m hm).2)⟩) (fun j ja jb => ((u54.2 _ _ (Or.inr (by omega))).trans (w47_1 j ja jb))) (by omega)
                      · refine te_aload_n (p2 := 150) rfl rfl rfl ?_
                        refine te_iload (p2 := 152) rfl rfl rfl ?_
                        refine tc_V (p2 := 155) (i := 148) rfl rfl rfl rfl I47 rfl rfl rfl (c_X12_wears (w := v47_6) I47 (by omega) (by omega)) (by decide) (fun v56 h56 hq56 => ?_)
                        obtain ⟨I56, g56, y56, w56, t56, Q56⟩ := hq56
                        subst w56
                        have f56 := fr_tr (F1 := F_X12_wears) (F := F_X12_late) f47 g56 (by decide)
                        rcases Q56.2.2.2 with ⟨x56, c56⟩ | ⟨x56, c56⟩
                        · subst x56
                          show EvP _ _ _ (155, [(0, .ref 164), (1, .int s), (2, .int n), (3, .int z44), (4, .int v4_4), (5, .int y19), (6, .int v47_6)], [.int 1, .int z50, .ref 165], h56) _
                          refine tz_ne (p2 := 158) rfl rfl (show Int32.toInt 1 = 1 from rfl) (fun c57 => ?_) (fun c57 => absurd c57 (by omega))
                          refine te_iconst (p2 := 163) (x := 0) rfl rfl (by decide) ?_
                          refine ts_i (p2 := 164) (i := 149) (n := 283) rfl rfl I56 rfl rfl rfl rfl (by omega) (by omega) (i32_lo _) (i32_hi _) (i32_ho _) rfl (fun h58 I58 u58 => ?_)
                          have f58 := fr_st (F := F_X12_late) 0 f56 u58 rfl (by omega) (by omega)
                          refine ar_inc (p2 := 167) (x := v47_6) rfl rfl (by decide) rfl (by decide) rfl (by omega) (by omega) (fun z59 e59 f59 => ?_)
                          show EvP _ _ _ (167, [(6, .int z59), (0, .ref 164), (1, .int s), (2, .int n), (3, .int z44), (4, .int v4_4), (5, .int y19)], [], h58) _
                          refine te_goto rfl ?_
                          refine te_lv [(0, .ref 164), (1, .int s), (2, .int n), (3, .int z44), (4, .int v4_4), (5, .int y19), (6, .int z59)] rfl rfl ⟨rfl, rfl, rfl, rfl, rfl, rfl, rfl, trivial⟩ ?_
                          exact ih47 z59 h58 I58 f58 (by omega) (by omega) (by omega) (fun m hm => ⟨((u58.2 _ _ (Or.inl (by decide))).trans ((Q56.2.2.1 _ _ (Or.inl (by decide))).trans (w47_0 m hm).1)), ((u58.2 _ _ (Or.inl (by decide))).trans ((Q56.2.2.1 _ _ (Or.inl (by decide))).trans (w47_0 m hm).2))⟩) (fun j ja jb => ((u58.2 _ _ (Or.inr (by omega))).trans ((Q56.2.2.1 _ _ (Or.inr (by omega))).trans (w47_1 j ja jb)))) (by omega)
                        · subst x56
                          show EvP _ _ _ (155, [(0, .ref 164), (1, .int s), (2, .int n), (3, .int z44), (4, .int v4_4), (5, .int y19), (6, .int v47_6)], [.int 0, .int z50, .ref 165], h56) _
                          refine tz_ne (p2 := 158) rfl rfl (show Int32.toInt 0 = 0 from rfl) (fun c60 => absurd c60 (by omega)) (fun c60 => ?_)
                          refine te_iconst (p2 := 159) (x := 1) rfl rfl (by decide) ?_
                          refine te_goto rfl ?_
                          refine ts_i (p2 := 164) (i := 149) (n := 283) rfl rfl I56 rfl rfl rfl rfl (by omega) (by omega) (i32_lo _) (i32_hi _) (i32_ho _) rfl (fun h61 I61 u61 => ?_)
                          have f61 := fr_st (F := F_X12_late) 0 f56 u61 rfl (by omega) (by omega)
                          refine ar_inc (p2 := 167) (x := v47_6) rfl rfl (by decide) rfl (by decide) rfl (by omega) (by omega) (fun z62 e62 f62 => ?_)
                          show EvP _ _ _ (167, [(6, .int z62), (0, .ref 164), (1, .int s), (2, .int n), (3, .int z44), (4, .int v4_4), (5, .int y19)], [], h61) _
                          refine te_goto rfl ?_
                          refine te_lv [(0, .ref 164), (1, .int s), (2, .int n), (3, .int z44), (4, .int v4_4), (5, .int y19), (6, .int z62)] rfl rfl ⟨rfl, rfl, rfl, rfl, rfl, rfl, rfl, trivial⟩ ?_
                          exact ih47 z62 h61 I61 f61 (by omega) (by omega) (by omega) (fun m hm => ⟨((u61.2 _ _ (Or.inl (by decide))).trans ((Q56.2.2.1 _ _ (Or.inl (by decide))).trans (w47_0 m hm).1)), ((u61.2 _ _ (Or.inl (by decide))).trans ((Q56.2.2.1 _ _ (Or.inl (by decide))).trans (w47_0 m hm).2))⟩) (fun j ja jb => ((u61.2 _ _ (Or.inr (by omega))).trans ((Q56.2.2.1 _ _ (Or.inr (by omega))).trans (w47_1 j ja jb)))) (by omega)
                refine te_lv [(0, .ref 164), (1, .int s), (2, .int n), (3, .int z44), (4, .int v4_4), (5, .int y19), (6, .int 0)] rfl rfl ⟨rfl, rfl, rfl, rfl, rfl, rfl, rfl, trivial⟩ ?_
                exact lp47 17 0 h46 I46 f46 (by decide) (by decide) (by have cc0 := (show Int32.toInt 0 = 0 from rfl); omega) (fun m hm => ⟨((u46.2 _ _ (Or.inl (by decide))).trans (w4_0 m hm).1), ((u46.2 _ _ (Or.inl (by decide))).trans (w4_0 m hm).2)⟩) (fun j ja jb => ((u46.2 _ _ (Or.inr (by omega))).trans (w4_1 j ja jb))) (by have cc0 := (show Int32.toInt 0 = 0 from rfl); omega)
        refine te_lv [(0, .ref 164), (1, .int s), (2, .int n), (3, .int 0), (4, .int 0)] rfl rfl ⟨rfl, rfl, rfl, rfl, rfl, trivial⟩ ?_
        exact lp4 7 0 0 h2 I2 f2 (by decide) (by decide) (fun m hm => w2_0 m (by omega)) (fun j _ _ => w2_1 j) (by have cc0 := (show Int32.toInt 0 = 0 from rfl); omega)
      · refine te_aload_n (p2 := 15) rfl rfl rfl ?_
        refine tg_r (p2 := 18) (i := 148) (r := 213) rfl rfl I2 rfl rfl rfl ?_
        refine te_iload (p2 := 20) rfl rfl rfl ?_
        refine te_aload_n (p2 := 21) rfl rfl rfl ?_
        refine tg_r (p2 := 24) (i := 148) (r := 165) rfl rfl I2 rfl rfl rfl ?_
        refine te_bipush (p2 := 26) (x := 108) rfl rfl (by decide) ?_
        refine te_iload (p2 := 28) rfl rfl rfl ?_
        refine ar_add (p2 := 29) rfl rfl (show Int32.toInt 108 = 108 from rfl) rfl (by omega) (by omega) (fun z63 e63 f63 => ?_)
        refine tl_i (p2 := 30) (i := 149) (n := 283) rfl rfl I2 rfl rfl rfl rfl (by omega) (by omega) (fun y64 a64 b64 g64 e64 => ?_)
        refine ts_i (p2 := 31) (i := 197) (n := 16) rfl rfl I2 rfl rfl rfl rfl (by omega) (by omega) (i32_lo _) (i32_hi _) (i32_ho _) rfl (fun h65 I65 u65 => ?_)
        have f65 := fr_st (F := F_X12_late) 1 f2 u65 rfl (by omega) (by omega)
        refine te_aload_n (p2 := 32) rfl rfl rfl ?_
        refine tg_r (p2 := 35) (i := 148) (r := 214) rfl rfl I65 rfl rfl rfl ?_
        refine te_iload (p2 := 37) rfl rfl rfl ?_
        refine te_aload_n (p2 := 38) rfl rfl rfl ?_
        refine tg_r (p2 := 41) (i := 148) (r := 165) rfl rfl I65 rfl rfl rfl ?_
        refine te_bipush (p2 := 43) (x := 124) rfl rfl (by decide) ?_
        refine te_iload (p2 := 45) rfl rfl rfl ?_
        refine ar_add (p2 := 46) rfl rfl (show Int32.toInt 124 = 124 from rfl) rfl (by omega) (by omega) (fun z66 e66 f66 => ?_)
        refine tl_i (p2 := 47) (i := 149) (n := 283) rfl rfl I65 rfl rfl rfl rfl (by omega) (by omega) (fun y67 a67 b67 g67 e67 => ?_)
        refine ts_i (p2 := 48) (i := 198) (n := 16) rfl rfl I65 rfl rfl rfl rfl (by omega) (by omega) (i32_lo _) (i32_hi _) (i32_ho _) rfl (fun h68 I68 u68 => ?_)
        have f68 := fr_st (F := F_X12_late) 2 f65 u68 rfl (by omega) (by omega)
        refine ar_inc (p2 := 51) (x := v2_4) rfl rfl (by decide) rfl (by decide) rfl (by omega) (by omega) (fun z69 e69 f69 => ?_)
        show EvP _ _ _ (51, [(4, .int z69), (0, .ref 164), (1, .int s), (2, .int n), (3, .int 0)], [], h68) _
        refine te_goto rfl ?_
        refine te_lv [(0, .ref 164), (1, .int s), (2, .int n), (3, .int 0), (4, .int z69)] rfl rfl ⟨rfl, rfl, rfl, rfl, rfl, trivial⟩ ?_
        exact ih2 z69 h68 I68 f68 (by omega) (by omega) (by have cc0 := (show Int32.toInt 0 = 0 from rfl); omega) (fun m hm => by (by_cases hc : m = v2_4.toInt.toNat); (· rw [hc, show 108 + v2_4.toInt.toNat = z63.toInt.toNat by omega, show 124 + v2_4.toInt.toNat = z66.toInt.toNat by omega]; exact ⟨(((u68.2 _ _ (Or.inl (by decide))).trans u65.1).trans ((w2_1 _).symm.trans e64).symm), (u68.1.trans ((w2_1 _).symm.trans ((u65.2 _ _ (Or.inl (by decide))).symm.trans e67)).symm)⟩); (· have hw := w2_0 m (by omega); exact ⟨((u68.2 _ _ (Or.inl (by decide))).trans (u65.2 _ _ (Or.inr hc))).trans hw.1, ((u68.2 _ _ (Or.inr hc)).trans (u65.2 _ _ (Or.inl (by decide)))).trans hw.2⟩)) (fun j => ((u68.2 _ _ (Or.inl (by decide))).trans (u65.2 _ _ (Or.inl (by decide)))).trans (w2_1 j)) (by have cc0 := (show Int32.toInt 0 = 0 from rfl); omega)
  refine te_lv [(0, .ref 164), (1, .int s), (2, .int n), (3, .int 0), (4, .int 0)] rfl rfl ⟨rfl, rfl, rfl, rfl, rfl, trivial⟩ ?_
  exact lp2 17 0 h hI f0 (by decide) (by decide) (by have cc0 := (show Int32.toInt 0 = 0 from rfl); omega) (fun m hm => by exfalso; have := (show Int32.toInt 0 = 0 from rfl); omega) (fun j => rfl) (by have cc0 := (show Int32.toInt 0 = 0 from rfl); omega)
abbrev Q2_pulls (x1 : Int32) (y : Int32) (h h2 : im_H) : Prop := ∀ j : Nat, rd h2 149 j = rd h 149 j
set_option maxRecDepth 20000 in
set_option maxHeartbeats 4000000 in
theorem c_X12_pulls {x1 : Int32} {h : im_H} (hI : tI h)  : CaP 5 168 [.ref 164, .int x1] h (fun v h2 => tI h2 ∧ fr F_X12_pulls h h2 ∧ ∃ y : Int32, v = some (.int y) ∧ Q2_pulls x1 y h h2) := by
  refine cap_of (d := 4) (M := mX12_pulls) rfl (Nat.le_of_ble_eq_true rfl) ?_
  show EvP im_K0 4 mX12_pulls (0, [(0, .ref 164), (1, .int x1)], [], h) _
  have f0 : fr F_X12_pulls h h := fr_rf
  refine te_iload_n (p2 := 1) rfl rfl rfl ?_
  obtain ⟨v1, e1, y1, w1, a1, b1, _⟩ := hI.2.1 148 21 (.inl (0, 16, 9999999999)) rfl
  subst w1
  refine te_iconst (p2 := 2) (x := 0) rfl rfl (by decide) ?_
  refine te_iconst (p2 := 3) (x := 3) rfl rfl (by decide) ?_
  refine cS_pI (p2 := 6) rfl rfl rfl rfl (t_X12_in (n := x1) (a := 0) (b := 3) hI ) (by decide) (fun y2 r2 => ?_)
  rcases r2 with ⟨w2, c2⟩ | ⟨w2, c2⟩
  · subst w2
    have cc2_1 := (show Int32.toInt 0 = 0 from rfl)
    have cc2_2 := (show Int32.toInt 3 = 3 from rfl)
    refine tz_ne (p2 := 9) rfl rfl (show Int32.toInt 1 = 1 from rfl) (fun c3 => ?_) (fun c3 => absurd c3 (by omega))
    refine te_aload_n (p2 := 12) rfl rfl rfl ?_
    refine tg_r (p2 := 15) (i := 148) (r := 208) rfl rfl hI rfl rfl rfl ?_
    refine te_iload_n (p2 := 16) rfl rfl rfl ?_
    refine tl_i (p2 := 17) (i := 192) (n := 4) rfl rfl hI rfl rfl rfl rfl (by omega) (by omega) (fun y4 a4 b4 g4 e4 => ?_)
    refine te_iconst (p2 := 18) (x := (-1)) rfl rfl (by decide) ?_
    refine tb_ne (p2 := 21) rfl rfl rfl (show Int32.toInt (-1) = (-1) from rfl) (fun c5 => ?_) (fun c5 => ?_)
    · refine te_aload_n (p2 := 25) rfl rfl rfl ?_
      refine tg_r (p2 := 28) (i := 148) (r := 209) rfl rfl hI rfl rfl rfl ?_
      refine te_iload_n (p2 := 29) rfl rfl rfl ?_
      refine tl_i (p2 := 30) (i := 193) (n := 4) rfl rfl hI rfl rfl rfl rfl (by omega) (by omega) (fun y6 a6 b6 g6 e6 => ?_)
      refine te_istore_n (p2 := 31) (lv2 := [(2, .int y6), (0, .ref 164), (1, .int x1)]) rfl rfl (by decide) rfl ?_
      refine te_iconst (p2 := 32) (x := 0) rfl rfl (by decide) ?_
      refine te_istore_n (p2 := 33) (lv2 := [(3, .int 0), (2, .int y6), (0, .ref 164), (1, .int x1)]) rfl rfl (by decide) rfl ?_
      refine te_iload_n (p2 := 34) rfl rfl rfl ?_
      refine te_iconst (p2 := 35) (x := 1) rfl rfl (by decide) ?_
      refine te_bipush (p2 := 37) (x := 6) rfl rfl (by decide) ?_
      refine cS_pI (p2 := 40) rfl rfl rfl rfl (t_X12_in (n := y6) (a := 1) (b := 6) hI ) (by decide) (fun y7 r7 => ?_)
      rcases r7 with ⟨w7, c7⟩ | ⟨w7, c7⟩
      · subst w7
        have cc7_1 := (show Int32.toInt 1 = 1 from rfl)
        have cc7_2 := (show Int32.toInt 6 = 6 from rfl)
        refine te_istore (p2 := 42) (lv2 := [(4, .int 1), (3, .int 0), (2, .int y6), (0, .ref 164), (1, .int x1)]) rfl rfl (by decide) rfl ?_
        refine te_iconst (p2 := 43) (x := 0) rfl rfl (by decide) ?_
        refine te_istore (p2 := 45) (lv2 := [(5, .int 0), (4, .int 1), (3, .int 0), (2, .int y6), (0, .ref 164), (1, .int x1)]) rfl rfl (by decide) rfl ?_
        have lp8 : ∀ (n8 : Nat) (v8_3 v8_4 v8_5 : Int32) , 0 ≤ v8_4.toInt → v8_4.toInt ≤ 1 → 0 ≤ v8_5.toInt → v8_5.toInt ≤ 40 → (v8_4.toInt = 1 → allB h 194 (40 * x1.toInt.toNat) v8_5.toInt 15) → (v8_4.toInt = 1 → allB h 194 (40 * x1.toInt.toNat) v8_5.toInt (y1.toInt - 1)) → 40 - v8_5.toInt < (n8 : Int) → EvP im_K0 4 mX12_pulls (45, [(0, .ref 164), (1, .int x1), (2, .int y6), (3, .int v8_3), (4, .int v8_4), (5, .int v8_5)], [], h) (fun v h2 => tI h2 ∧ fr F_X12_pulls h h2 ∧ ∃ y : Int32, v = some (.int y) ∧ Q2_pulls x1 y h h2) := by
          intro n8
          induction n8 with
          | zero => intro v8_3 v8_4 v8_5 a8_4 b8_4 a8_5 b8_5 w8_0 w8_1 m8; exfalso; omega
          | succ n8 ih8 =>
            intro v8_3 v8_4 v8_5 a8_4 b8_4 a8_5 b8_5 w8_0 w8_1 m8
            refine te_iload (p2 := 47) rfl rfl rfl ?_
            refine te_iload_n (p2 := 48) rfl rfl rfl ?_
            refine tb_ge (p2 := 51) rfl rfl rfl rfl (fun c9 => ?_) (fun c9 => ?_)
            · refine te_iload (p2 := 146) rfl rfl rfl ?_
              refine tz_ne (p2 := 149) rfl rfl rfl (fun c10 => ?_) (fun c10 => ?_)
              · refine te_iconst (p2 := 153) (x := 0) rfl rfl (by decide) ?_
                refine te_istore (p2 := 155) (lv2 := [(5, .int 0), (0, .ref 164), (1, .int x1), (2, .int y6), (3, .int v8_3), (4, .int v8_4)]) rfl rfl (by decide) rfl ?_
                have lp11 : ∀ (n11 : Nat) (v11_5 : Int32) (h11 : im_H), tI h11 → fr F_X12_pulls h h11 → 0 ≤ v11_5.toInt → v11_5.toInt ≤ 6 → v11_5.toInt ≤ y6.toInt → (∀ q : Nat, (q : Int) < v11_5.toInt → ∃ p : Int32, rd h11 199 q = some (.int p) ∧ p.toInt = q) → (∀ j : Nat, rd h11 149 j = rd h 149 j) → 6 - v11_5.toInt < (n11 : Int) → EvP im_K0 4 mX12_pulls (155, [(0, .ref 164), (1, .int x1), (2, .int y6), (3, .int v8_3), (4, .int v8_4), (5, .int v11_5)], [], h11) (fun v h2 => tI h2 ∧ fr F_X12_pulls h h2 ∧ ∃ y : Int32, v = some (.int y) ∧ Q2_pulls x1 y h h2) := by
                  intro n11
                  induction n11 with
                  | zero => intro v11_5 h11 I11 f11 a11_5 b11_5 l11_0 w11_0 w11_1 m11; exfalso; omega
                  | succ n11 ih11 =>
                    intro v11_5 h11 I11 f11 a11_5 b11_5 l11_0 w11_0 w11_1 m11
                    refine te_iload (p2 := 157) rfl rfl rfl ?_
                    refine te_iload_n (p2 := 158) rfl rfl rfl ?_
                    refine tb_ge (p2 := 161) rfl rfl rfl rfl (fun c12 => ?_) (fun c12 => ?_)
                    · refine te_iconst (p2 := 177) (x := (-1)) rfl rfl (by decide) ?_
                      refine te_istore (p2 := 179) (lv2 := [(5, .int (-1)), (0, .ref 164), (1, .int x1), (2, .int y6), (3, .int v8_3), (4, .int v8_4)]) rfl rfl (by decide) rfl ?_
                      refine te_iconst (p2 := 180) (x := 1) rfl rfl (by decide) ?_
                      refine te_istore (p2 := 182) (lv2 := [(6, .int 1), (5, .int (-1)), (0, .ref 164), (1, .int x1), (2, .int y6), (3, .int v8_3), (4, .int v8_4)]) rfl rfl (by decide) rfl ?_
                      obtain ⟨v14, e14, y14, w14, a14, b14, _⟩ := I11.2.1 199 (Int32.toInt 0).toNat (.inl (0, 5, 9999999999)) (tq_row rfl (by decide))
                      subst w14
                      obtain ⟨v15, e15, y15, w15, a15, b15, _⟩ := I11.2.1 199 (Int32.toInt 1).toNat (.inl (0, 5, 9999999999)) (tq_row rfl (by decide))
                      subst w15
                      obtain ⟨v16, e16, y16, w16, a16, b16, _⟩ := I11.2.1 199 (Int32.toInt 2).toNat (.inl (0, 5, 9999999999)) (tq_row rfl (by decide))
                      subst w16
                      obtain ⟨v17, e17, y17, w17, a17, b17, _⟩ := I11.2.1 199 (Int32.toInt 3).toNat (.inl (0, 5, 9999999999)) (tq_row rfl (by decide))
                      subst w17
                      obtain ⟨v18, e18, y18, w18, a18, b18, _⟩ := I11.2.1 199 (Int32.toInt 4).toNat (.inl (0, 5, 9999999999)) (tq_row rfl (by decide))
                      subst w18
                      obtain ⟨v19, e19, y19, w19, a19, b19, _⟩ := I11.2.1 199 (Int32.toInt 5).toNat (.inl (0, 5, 9999999999)) (tq_row rfl (by decide))
                      subst w19
                      have lp13 : ∀ (n13 : Nat) (v13_5 v13_6 t13_t0 t13_t1 t13_t2 t13_t3 t13_t4 t13_t5 : Int32) (h13 : im_H), tI h13 → fr F_X12_pulls h h13 → 0 ≤ v13_6.toInt → v13_6.toInt ≤ 1 → rd h13 199 (Int32.toInt 0).toNat = some (.int t13_t0) → rd h13 199 (Int32.toInt 1).toNat = some (.int t13_t1) → rd h13 199 (Int32.toInt 2).toNat = some (.int t13_t2) → rd h13 199 (Int32.toInt 3).toNat = some (.int t13_t3) → rd h13 199 (Int32.toInt 4).toNat = some (.int t13_t4) → rd h13 199 (Int32.toInt 5).toNat = some (.int t13_t5) → 0 ≤ t13_t0.toInt → t13_t0.toInt ≤ 5 → 0 ≤ t13_t1.toInt → t13_t1.toInt ≤ 5 → 0 ≤ t13_t2.toInt → t13_t2.toInt ≤ 5 → 0 ≤ t13_t3.toInt → t13_t3.toInt ≤ 5 → 0 ≤ t13_t4.toInt → t13_t4.toInt ≤ 5 → 0 ≤ t13_t5.toInt → t13_t5.toInt ≤ 5 → prm y6.toInt t13_t0.toInt t13_t1.toInt t13_t2.toInt t13_t3.toInt t13_t4.toInt t13_t5.toInt → (∀ j : Nat, rd h13 149 j = rd h 149 j) → 46656 - (7776 * t13_t0.toInt + 1296 * t13_t1.toInt + 216 * t13_t2.toInt + 36 * t13_t3.toInt + 6 * t13_t4.toInt + t13_t5.toInt) < (n13 : Int) → EvP im_K0 4 mX12_pulls (182, [(0, .ref 164), (1, .int x1), (2, .int y6), (3, .int v8_3), (4, .int v8_4), (5, .int v13_5), (6, .int v13_6)], [], h13) (fun v h2 => tI h2 ∧ fr F_X12_pulls h h2 ∧ ∃ y : Int32, v = some (.int y) ∧ Q2_pulls x1 y h h2) := by
                        intro n13
                        induction n13 with
                        | zero => intro v13_5 v13_6 t13_t0 t13_t1 t13_t2 t13_t3 t13_t4 t13_t5 h13 I13 f13 a13_6 b13_6 v13_t0 v13_t1 v13_t2 v13_t3 v13_t4 v13_t5 va13_t0 vb13_t0 va13_t1 vb13_t1 va13_t2 vb13_t2 va13_t3 vb13_t3 va13_t4 vb13_t4 va13_t5 vb13_t5 w13_0 w13_1 m13; exfalso; omega
                        | succ n13 ih13 =>
                          intro v13_5 v13_6 t13_t0 t13_t1 t13_t2 t13_t3 t13_t4 t13_t5 h13 I13 f13 a13_6 b13_6 v13_t0 v13_t1 v13_t2 v13_t3 v13_t4 v13_t5 va13_t0 vb13_t0 va13_t1 vb13_t1 va13_t2 vb13_t2 va13_t3 vb13_t3 va13_t4 vb13_t4 va13_t5 vb13_t5 w13_0 w13_1 m13
                          refine te_iload (p2 := 184) rfl rfl rfl ?_
                          refine tz_eq (p2 := 187) rfl rfl rfl (fun c20 => ?_) (fun c20 => ?_)
                          · refine te_aload_n (p2 := 262) rfl rfl rfl ?_
                            refine te_iload_n (p2 := 263) rfl rfl rfl ?_
                            refine tp_i (p2 := 266) (i := 148) rfl rfl I13 rfl rfl (by decide) rfl rfl rfl (by omega) (by omega) (by omega) rfl (fun h21 I21 u21 => ?_)
                            have f21 := fr_st (F := F_X12_pulls) 0 f13 u21 rfl (by decide) (by decide)
                            refine te_iload (p2 := 268) rfl rfl rfl ?_
                            exact te_iret rfl rfl ⟨I21, f21, _, rfl, (fun j => ((u21.2 _ _ (Or.inl (by decide))).trans (w13_1 j)))⟩
                          · refine te_aload_n (p2 := 188) rfl rfl rfl ?_
                            refine te_iload_n (p2 := 189) rfl rfl rfl ?_
                            refine te_iload_n (p2 := 190) rfl rfl rfl ?_
                            refine tc_V (p2 := 193) (i := 148) rfl rfl rfl rfl I13 rfl rfl rfl (c_X12_late (s := x1) (n := y6) I13 (by omega) (by omega) (by omega) (by omega) (allB_fr (allB_le (w8_0 (by omega)) (by omega)) (fun q => f13 _ _ rfl)) (allB_prm v13_t0 v13_t1 v13_t2 v13_t3 v13_t4 v13_t5 w13_0 (by omega)) (fun w_ e_ => by rw [(int_inj e_ ((f13 _ _ rfl).trans e1) : w_ = y1)]; exact (allB_fr (allB_le (w8_1 (by omega)) (by omega)) (fun q => f13 _ _ rfl)))) (by decide) (fun v22 h22 hq22 => ?_)
                            obtain ⟨I22, g22, y22, w22, Q22⟩ := hq22
                            subst w22
                            have f22 := fr_tr (F1 := F_X12_late) (F := F_X12_pulls) f13 g22 (by decide)
                            show EvP _ _ _ (193, [(0, .ref 164), (1, .int x1), (2, .int y6), (3, .int v8_3), (4, .int v8_4), (5, .int v13_5), (6, .int v13_6)], [.int y22], h22) _
                            refine te_istore (p2 := 195) (lv2 := [(7, .int y22), (0, .ref 164), (1, .int x1), (2, .int y6), (3, .int v8_3), (4, .int v8_4), (5, .int v13_5), (6, .int v13_6)]) rfl rfl (by decide) rfl ?_
                            refine te_iload (p2 := 197) rfl rfl rfl ?_
                            refine te_iconst (p2 := 198) (x := (-1)) rfl rfl (by decide) ?_
                            refine tb_eq (p2 := 201) rfl rfl rfl (show Int32.toInt (-1) = (-1) from rfl) (fun c23 => ?_) (fun c23 => ?_)
                            · refine te_iload (p2 := 210) rfl rfl rfl ?_
                              refine te_istore (p2 := 212) (lv2 := [(5, .int y22), (7, .int y22), (0, .ref 164), (1, .int x1), (2, .int y6), (3, .int v8_3), (4, .int v8_4), (6, .int v13_6)]) rfl rfl (by decide) rfl ?_
                              refine te_iconst (p2 := 213) (x := 0) rfl rfl (by decide) ?_
                              refine te_istore (p2 := 215) (lv2 := [(8, .int 0), (5, .int y22), (7, .int y22), (0, .ref 164), (1, .int x1), (2, .int y6), (3, .int v8_3), (4, .int v8_4), (6, .int v13_6)]) rfl rfl (by decide) rfl ?_
                              have lp24 : ∀ (n24 : Nat) (v24_8 t24_t0 t24_t1 t24_t2 t24_t3 t24_t4 t24_t5 : Int32) (h24 : im_H), tI h24 → fr F_X12_pulls h h24 → 0 ≤ v24_8.toInt → v24_8.toInt ≤ 6 → rd h24 199 (Int32.toInt 0).toNat = some (.int t24_t0) → rd h24 199 (Int32.toInt 1).toNat = some (.int t24_t1) → rd h24 199 (Int32.toInt 2).toNat = some (.int t24_t2) → rd h24 199 (Int32.toInt 3).toNat = some (.int t24_t3) → rd h24 199 (Int32.toInt 4).toNat = some (.int t24_t4) → rd h24 199 (Int32.toInt 5).toNat = some (.int t24_t5) → 0 ≤ t24_t0.toInt → t24_t0.toInt ≤ 5 → 0 ≤ t24_t1.toInt → t24_t1.toInt ≤ 5 → 0 ≤ t24_t2.toInt → t24_t2.toInt ≤ 5 → 0 ≤ t24_t3.toInt → t24_t3.toInt ≤ 5 → 0 ≤ t24_t4.toInt → t24_t4.toInt ≤ 5 → 0 ≤ t24_t5.toInt → t24_t5.toInt ≤ 5 → t24_t0.toInt = t13_t0.toInt → t24_t1.toInt = t13_t1.toInt → t24_t2.toInt = t13_t2.toInt → t24_t3.toInt = t13_t3.toInt → t24_t4.toInt = t13_t4.toInt → t24_t5.toInt = t13_t5.toInt → (∀ j : Nat, rd h24 149 j = rd h 149 j) → 6 - v24_8.toInt < (n24 : Int) → EvP im_K0 4 mX12_pulls (215, [(0, .ref 164), (1, .int x1), (2, .int y6), (3, .int v8_3), (4, .int v8_4), (5, .int y22), (6, .int v13_6), (7, .int y22), (8, .int v24_8)], [], h24) (fun v h2 => tI h2 ∧ fr F_X12_pulls h h2 ∧ ∃ y : Int32, v = some (.int y) ∧ Q2_pulls x1 y h h2) := by
                                intro n24
                                induction n24 with
                                | zero => intro v24_8 t24_t0 t24_t1 t24_t2 t24_t3 t24_t4 t24_t5 h24 I24 f24 a24_8 b24_8 v24_t0 v24_t1 v24_t2 v24_t3 v24_t4 v24_t5 va24_t0 vb24_t0 va24_t1 vb24_t1 va24_t2 vb24_t2 va24_t3 vb24_t3 va24_t4 vb24_t4 va24_t5 vb24_t5 l24_0 l24_1 l24_2 l24_3 l24_4 l24_5 w24_0 m24; exfalso; omega
                                | succ n24 ih24 =>
                                  intro v24_8 t24_t0 t24_t1 t24_t2 t24_t3 t24_t4 t24_t5 h24 I24 f24 a24_8 b24_8 v24_t0 v24_t1 v24_t2 v24_t3 v24_t4 v24_t5 va24_t0 vb24_t0 va24_t1 vb24_t1 va24_t2 vb24_t2 va24_t3 vb24_t3 va24_t4 vb24_t4 va24_t5 vb24_t5 l24_0 l24_1 l24_2 l24_3 l24_4 l24_5 w24_0 m24
                                  refine te_iload (p2 := 217) rfl rfl rfl ?_
                                  refine te_iload_n (p2 := 218) rfl rfl rfl ?_
                                  refine tb_ge (p2 := 221) rfl rfl rfl rfl (fun c25 => ?_) (fun c25 => ?_)
                                  · refine te_aload_n (p2 := 252) rfl rfl rfl ?_
                                    refine te_iload_n (p2 := 253) rfl rfl rfl ?_
                                    refine tc_V (p2 := 256) (i := 148) rfl rfl rfl rfl I24 rfl rfl rfl (t_X12_nextOrder (n := y6) (g0 := t24_t0) (g1 := t24_t1) (g2 := t24_t2) (g3 := t24_t3) (g4 := t24_t4) (g5 := t24_t5) I24 (by omega) (by omega) v24_t0 (by omega) (by omega) v24_t1 (by omega) (by omega) v24_t2 (by omega) (by omega) v24_t3 (by omega) (by omega) v24_t4 (by omega) (by omega) v24_t5 (by omega) (by omega) (by rw [l24_0, l24_1, l24_2, l24_3, l24_4, l24_5]; exact w13_0)) (by decide) (fun v26 h26 hq26 => ?_)
                                    obtain ⟨I26, g26, y26, w26, r26⟩ := hq26
                                    subst w26
                                    have f26 := fr_tr (F1 := [(199, 0, 5)]) (F := F_X12_pulls) f24 g26 (by decide)
                                    rcases r26 with r26 | ⟨r26, s26_0, s26_1, s26_2, s26_3, s26_4, s26_5, es26_0, es26_1, es26_2, es26_3, es26_4, es26_5, pm26, lx26⟩
                                    · subst r26
                                      show EvP _ _ _ (256, [(0, .ref 164), (1, .int x1), (2, .int y6), (3, .int v8_3), (4, .int v8_4), (5, .int y22), (6, .int v13_6), (7, .int y22), (8, .int v24_8)], [.int 0], h26) _
                                      refine te_istore (p2 := 258) (lv2 := [(6, .int 0), (0, .ref 164), (1, .int x1), (2, .int y6), (3, .int v8_3), (4, .int v8_4), (5, .int y22), (7, .int y22), (8, .int v24_8)]) rfl rfl (by decide) rfl ?_
                                      refine te_goto rfl ?_
                                      refine te_iload (p2 := 184) rfl rfl rfl ?_
                                      refine tz_eq (p2 := 187) rfl rfl (show Int32.toInt 0 = 0 from rfl) (fun c27 => ?_) (fun c27 => absurd c27 (by omega))
                                      refine te_aload_n (p2 := 262) rfl rfl rfl ?_
                                      refine te_iload_n (p2 := 263) rfl rfl rfl ?_
                                      refine tp_i (p2 := 266) (i := 148) rfl rfl I26 rfl rfl (by decide) rfl rfl rfl (by omega) (by omega) (by omega) rfl (fun h28 I28 u28 => ?_)
                                      have f28 := fr_st (F := F_X12_pulls) 0 f26 u28 rfl (by decide) (by decide)
                                      refine te_iload (p2 := 268) rfl rfl rfl ?_
                                      exact te_iret rfl rfl ⟨I28, f28, _, rfl, (fun j => ((u28.2 _ _ (Or.inl (by decide))).trans ((g26 _ _ rfl).trans (w24_0 j))))⟩
                                    · subst r26
                                      obtain ⟨v29, ex29, y29, w29, a29, b29, _⟩ := I26.2.1 199 (Int32.toInt 0).toNat (.inl (0, 5, 9999999999)) (tq_row rfl (by decide))
                                      subst w29
                                      rw [← int_inj es26_0 ex29] at a29 b29
                                      obtain ⟨v30, ex30, y30, w30, a30, b30, _⟩ := I26.2.1 199 (Int32.toInt 1).toNat (.inl (0, 5, 9999999999)) (tq_row rfl (by decide))
                                      subst w30
                                      rw [← int_inj es26_1 ex30] at a30 b30
                                      obtain ⟨v31, ex31, y31, w31, a31, b31, _⟩ := I26.2.1 199 (Int32.toInt 2).toNat (.inl (0, 5, 9999999999)) (tq_row rfl (by decide))
                                      subst w31
                                      rw [← int_inj es26_2 ex31] at a31 b31
                                      obtain ⟨v32, ex32, y32, w32, a32, b32, _⟩ := I26.2.1 199 (Int32.toInt 3).toNat (.inl (0, 5, 9999999999)) (tq_row rfl (by decide))
                                      subst w32
                                      rw [← int_inj es26_3 ex32] at a32 b32
                                      obtain ⟨v33, ex33, y33, w33, a33, b33, _⟩ := I26.2.1 199 (Int32.toInt 4).toNat (.inl (0, 5, 9999999999)) (tq_row rfl (by decide))
                                      subst w33
                                      rw [← int_inj es26_4 ex33] at a33 b33
                                      obtain ⟨v34, ex34, y34, w34, a34, b34, _⟩ := I26.2.1 199 (Int32.toInt 5).toNat (.inl (0, 5, 9999999999)) (tq_row rfl (by decide))
                                      subst w34
                                      rw [← int_inj es26_5 ex34] at a34 b34
                                      unfold lexV at lx26
                                      show EvP _ _ _ (256, [(0, .ref 164), (1, .int x1), (2, .int y6), (3, .int v8_3), (4, .int v8_4), (5, .int y22), (6, .int v13_6), (7, .int y22), (8, .int v24_8)], [.int 1], h26) _
                                      refine te_istore (p2 := 258) (lv2 := [(6, .int 1), (0, .ref 164), (1, .int x1), (2, .int y6), (3, .int v8_3), (4, .int v8_4), (5, .int y22), (7, .int y22), (8, .int v24_8)]) rfl rfl (by decide) rfl ?_
                                      refine te_goto rfl ?_
                                      refine te_lv [(0, .ref 164), (1, .int x1), (2, .int y6), (3, .int v8_3), (4, .int v8_4), (5, .int y22), (6, .int 1)] rfl rfl ⟨rfl, rfl, rfl, rfl, rfl, rfl, rfl, trivial⟩ ?_
                                      exact ih13 y22 1 s26_0 s26_1 s26_2 s26_3 s26_4 s26_5 h26 I26 f26 (by decide) (by decide) es26_0 es26_1 es26_2 es26_3 es26_4 es26_5 (by omega) (by omega) (by omega) (by omega) (by omega) (by omega) (by omega) (by omega) (by omega) (by omega) (by omega) (by omega) pm26 (fun j => ((g26 _ _ rfl).trans (w24_0 j))) (by have cc0 := (show Int32.toInt 1 = 1 from rfl); omega)
                                  · refine te_aload_n (p2 := 222) rfl rfl rfl ?_
                                    refine tg_r (p2 := 225) (i := 148) (r := 199) rfl rfl I24 rfl rfl rfl ?_
                                    refine te_iload (p2 := 227) rfl rfl rfl ?_
                                    refine te_aload_n (p2 := 228) rfl rfl rfl ?_
                                    refine tg_r (p2 := 231) (i := 148) (r := 210) rfl rfl I24 rfl rfl rfl ?_
                                    refine te_bipush (p2 := 233) (x := 40) rfl rfl (by decide) ?_
                                    refine te_iload_n (p2 := 234) rfl rfl rfl ?_
                                    refine ar_mul (p2 := 235) rfl rfl (show Int32.toInt 40 = 40 from rfl) rfl (by omega) (by omega) (fun z35 e35 f35 => ?_)
                                    refine te_aload_n (p2 := 236) rfl rfl rfl ?_
                                    refine tg_r (p2 := 239) (i := 148) (r := 215) rfl rfl I24 rfl rfl rfl ?_
                                    refine te_iload (p2 := 241) rfl rfl rfl ?_
                                    refine tl_i (p2 := 242) (i := 199) (n := 6) rfl rfl I24 rfl rfl rfl rfl (by omega) (by omega) (fun y36 a36 b36 g36 e36 => ?_)
                                    refine ar_add (p2 := 243) rfl rfl rfl rfl (by omega) (by omega) (fun z37 e37 f37 => ?_)
                                    refine tl_i (p2 := 244) (i := 194) (n := 160) rfl rfl I24 rfl rfl rfl rfl (by omega) (by omega) (fun y38 a38 b38 g38 e38 => ?_)
                                    refine ts_i (p2 := 245) (i := 183) (n := 6) rfl rfl I24 rfl rfl rfl rfl (by omega) (by omega) (i32_lo _) (i32_hi _) (i32_ho _) rfl (fun h39 I39 u39 => ?_)
                                    have f39 := fr_st (F := F_X12_pulls) 2 f24 u39 rfl (by omega) (by omega)
                                    refine ar_inc (p2 := 248) (x := v24_8) rfl rfl (by decide) rfl (by decide) rfl (by omega) (by omega) (fun z40 e40 f40 => ?_)
                                    show EvP _ _ _ (248, [(8, .int z40), (0, .ref 164), (1, .int x1), (2, .int y6), (3, .int v8_3), (4, .int v8_4), (5, .int y22), (6, .int v13_6), (7, .int y22)], [], h39) _
                                    refine te_goto rfl ?_
                                    refine te_lv [(0, .ref 164), (1, .int x1), (2, .int y6), (3, .int v8_3), (4, .int v8_4), (5, .int y22), (6, .int v13_6), (7, .int y22), (8, .int z40)] rfl rfl ⟨rfl, rfl, rfl, rfl, rfl, rfl, rfl, rfl, rfl, trivial⟩ ?_
                                    exact ih24 z40 t24_t0 t24_t1 t24_t2 t24_t3 t24_t4 t24_t5 h39 I39 f39 (by omega) (by omega) ((u39.2 _ _ (Or.inl (by decide))).trans v24_t0) ((u39.2 _ _ (Or.inl (by decide))).trans v24_t1) ((u39.2 _ _ (Or.inl (by decide))).trans v24_t2) ((u39.2 _ _ (Or.inl (by decide))).trans v24_t3) ((u39.2 _ _ (Or.inl (by decide))).trans v24_t4) ((u39.2 _ _ (Or.inl (by decide))).trans v24_t5) (by omega) (by omega) (by omega) (by omega) (by omega) (by omega) (by omega) (by omega) (by omega) (by omega) (by omega) (by omega) (by omega) (by omega) (by omega) (by omega) (by omega) (by omega) (fun j => ((u39.2 _ _ (Or.inl (by decide))).trans (w24_0 j))) (by omega)
                              refine te_lv [(0, .ref 164), (1, .int x1), (2, .int y6), (3, .int v8_3), (4, .int v8_4), (5, .int y22), (6, .int v13_6), (7, .int y22), (8, .int 0)] rfl rfl ⟨rfl, rfl, rfl, rfl, rfl, rfl, rfl, rfl, rfl, trivial⟩ ?_
                              exact lp24 7 0 t13_t0 t13_t1 t13_t2 t13_t3 t13_t4 t13_t5 h22 I22 f22 (by decide) (by decide) ((g22 _ _ rfl).trans v13_t0) ((g22 _ _ rfl).trans v13_t1) ((g22 _ _ rfl).trans v13_t2) ((g22 _ _ rfl).trans v13_t3) ((g22 _ _ rfl).trans v13_t4) ((g22 _ _ rfl).trans v13_t5) (by omega) (by omega) (by omega) (by omega) (by omega) (by omega) (by omega) (by omega) (by omega) (by omega) (by omega) (by omega) (by have cc0 := (show Int32.toInt 0 = 0 from rfl); omega) (by have cc0 := (show Int32.toInt 0 = 0 from rfl); omega) (by have cc0 := (show Int32.toInt 0 = 0 from rfl); omega) (by have cc0 := (show Int32.toInt 0 = 0 from rfl); omega) (by have cc0 := (show Int32.toInt 0 = 0 from rfl); omega) (by have cc0 := (show Int32.toInt 0 = 0 from rfl); omega) (fun j => ((Q22 j).trans (w13_1 j))) (by have cc0 := (show Int32.toInt 0 = 0 from rfl); omega)
                            · refine te_iload (p2 := 203) rfl rfl rfl ?_
                              refine te_iload (p2 := 205) rfl rfl rfl ?_
                              refine tb_ge (p2 := 208) rfl rfl rfl rfl (fun c41 => ?_) (fun c41 => ?_)
                              · refine te_aload_n (p2 := 252) rfl rfl rfl ?_
                                refine te_iload_n (p2 := 253) rfl rfl rfl ?_
                                refine tc_V (p2 := 256) (i := 148) rfl rfl rfl rfl I22 rfl rfl rfl (t_X12_nextOrder (n := y6) (g0 := t13_t0) (g1 := t13_t1) (g2 := t13_t2) (g3 := t13_t3) (g4 := t13_t4) (g5 := t13_t5) I22 (by omega) (by omega) ((g22 _ _ rfl).trans v13_t0) (by omega) (by omega) ((g22 _ _ rfl).trans v13_t1) (by omega) (by omega) ((g22 _ _ rfl).trans v13_t2) (by omega) (by omega) ((g22 _ _ rfl).trans v13_t3) (by omega) (by omega) ((g22 _ _ rfl).trans v13_t4) (by omega) (by omega) ((g22 _ _ rfl).trans v13_t5) (by omega) (by omega) w13_0) (by decide) (fun v42 h42 hq42 => ?_)
                                obtain ⟨I42, g42, y42, w42, r42⟩ := hq42
                                subst w42
                                have f42 := fr_tr (F1 := [(199, 0, 5)]) (F := F_X12_pulls) f22 g42 (by decide)
                                rcases r42 with r42 | ⟨r42, s42_0, s42_1, s42_2, s42_3, s42_4, s42_5, es42_0, es42_1, es42_2, es42_3, es42_4, es42_5, pm42, lx42⟩
                                · subst r42
                                  show EvP _ _ _ (256, [(7, .int y22), (0, .ref 164), (1, .int x1), (2, .int y6), (3, .int v8_3), (4, .int v8_4), (5, .int v13_5), (6, .int v13_6)], [.int 0], h42) _
                                  refine te_istore (p2 := 258) (lv2 := [(6, .int 0), (7, .int y22), (0, .ref 164), (1, .int x1), (2, .int y6), (3, .int v8_3), (4, .int v8_4), (5, .int v13_5)]) rfl rfl (by decide) rfl ?_
                                  refine te_goto rfl ?_
                                  refine te_iload (p2 := 184) rfl rfl rfl ?_
                                  refine tz_eq (p2 := 187) rfl rfl (show Int32.toInt 0 = 0 from rfl) (fun c43 => ?_) (fun c43 => absurd c43 (by omega))
                                  refine te_aload_n (p2 := 262) rfl rfl rfl ?_
                                  refine te_iload_n (p2 := 263) rfl rfl rfl ?_
                                  refine tp_i (p2 := 266) (i := 148) rfl rfl I42 rfl rfl (by decide) rfl rfl rfl (by omega) (by omega) (by omega) rfl (fun h44 I44 u44 => ?_)
                                  have f44 := fr_st (F := F_X12_pulls) 0 f42 u44 rfl (by decide) (by decide)
                                  refine te_iload (p2 := 268) rfl rfl rfl ?_
                                  exact te_iret rfl rfl ⟨I44, f44, _, rfl, (fun j => ((u44.2 _ _ (Or.inl (by decide))).trans ((g42 _ _ rfl).trans ((Q22 j).trans (w13_1 j)))))⟩
                                · subst r42
                                  obtain ⟨v45, ex45, y45, w45, a45, b45, _⟩ := I42.2.1 199 (Int32.toInt 0).toNat (.inl (0, 5, 9999999999)) (tq_row rfl (by decide))
                                  subst w45
                                  rw [← int_inj es42_0 ex45] at a45 b45
                                  obtain ⟨v46, ex46, y46, w46, a46, b46, _⟩ := I42.2.1 199 (Int32.toInt 1).toNat (.inl (0, 5, 9999999999)) (tq_row rfl (by decide))
                                  subst w46
                                  rw [← int_inj es42_1 ex46] at a46 b46
                                  obtain ⟨v47, ex47, y47, w47, a47, b47, _⟩ := I42.2.1 199 (Int32.toInt 2).toNat (.inl (0, 5, 9999999999)) (tq_row rfl (by decide))
                                  subst w47
                                  rw [← int_inj es42_2 ex47] at a47 b47
                                  obtain ⟨v48, ex48, y48, w48, a48, b48, _⟩ := I42.2.1 199 (Int32.toInt 3).toNat (.inl (0, 5, 9999999999)) (tq_row rfl (by decide))
                                  subst w48
                                  rw [← int_inj es42_3 ex48] at a48 b48
                                  obtain ⟨v49, ex49, y49, w49, a49, b49, _⟩ := I42.2.1 199 (Int32.toInt 4).toNat (.inl (0, 5, 9999999999)) (tq_row rfl (by decide))
                                  subst w49
                                  rw [← int_inj es42_4 ex49] at a49 b49
                                  obtain ⟨v50, ex50, y50, w50, a50, b50, _⟩ := I42.2.1 199 (Int32.toInt 5).toNat (.inl (0, 5, 9999999999)) (tq_row rfl (by decide))
                                  subst w50
                                  rw [← int_inj es42_5 ex50] at a50 b50
                                  unfold lexV at lx42
                                  show EvP _ _ _ (256, [(7, .int y22), (0, .ref 164), (1, .int x1), (2, .int y6), (3, .int v8_3), (4, .int v8_4), (5, .int v13_5), (6, .int v13_6)], [.int 1], h42) _
                                  refine te_istore (p2 := 258) (lv2 := [(6, .int 1), (7, .int y22), (0, .ref 164), (1, .int x1), (2, .int y6), (3, .int v8_3), (4, .int v8_4), (5, .int v13_5)]) rfl rfl (by decide) rfl ?_
                                  refine te_goto rfl ?_
                                  refine te_lv [(0, .ref 164), (1, .int x1), (2, .int y6), (3, .int v8_3), (4, .int v8_4), (5, .int v13_5), (6, .int 1)] rfl rfl ⟨rfl, rfl, rfl, rfl, rfl, rfl, rfl, trivial⟩ ?_
                                  exact ih13 v13_5 1 s42_0 s42_1 s42_2 s42_3 s42_4 s42_5 h42 I42 f42 (by decide) (by decide) es42_0 es42_1 es42_2 es42_3 es42_4 es42_5 (by omega) (by omega) (by omega) (by omega) (by omega) (by omega) (by omega) (by omega) (by omega) (by omega) (by omega) (by omega) pm42 (fun j => ((g42 _ _ rfl).trans ((Q22 j).trans (w13_1 j)))) (by have cc0 := (show Int32.toInt 1 = 1 from rfl); omega)
                              · refine te_iload (p2 := 210) rfl rfl rfl ?_
                                refine te_istore (p2 := 212) (lv2 := [(5, .int y22), (7, .int y22), (0, .ref 164), (1, .int x1), (2, .int y6), (3, .int v8_3), (4, .int v8_4), (6, .int v13_6)]) rfl rfl (by decide) rfl ?_
                                refine te_iconst (p2 := 213) (x := 0) rfl rfl (by decide) ?_
                                refine te_istore (p2 := 215) (lv2 := [(8, .int 0), (5, .int y22), (7, .int y22), (0, .ref 164), (1, .int x1), (2, .int y6), (3, .int v8_3), (4, .int v8_4), (6, .int v13_6)]) rfl rfl (by decide) rfl ?_
                                have lp51 : ∀ (n51 : Nat) (v51_8 t51_t0 t51_t1 t51_t2 t51_t3 t51_t4 t51_t5 : Int32) (h51 : im_H), tI h51 → fr F_X12_pulls h h51 → 0 ≤ v51_8.toInt → v51_8.toInt ≤ 6 → rd h51 199 (Int32.toInt 0).toNat = some (.int t51_t0) → rd h51 199 (Int32.toInt 1).toNat = some (.int t51_t1) → rd h51 199 (Int32.toInt 2).toNat = some (.int t51_t2) → rd h51 199 (Int32.toInt 3).toNat = some (.int t51_t3) → rd h51 199 (Int32.toInt 4).toNat = some (.int t51_t4) → rd h51 199 (Int32.toInt 5).toNat = some (.int t51_t5) → 0 ≤ t51_t0.toInt → t51_t0.toInt ≤ 5 → 0 ≤ t51_t1.toInt → t51_t1.toInt ≤ 5 → 0 ≤ t51_t2.toInt → t51_t2.toInt ≤ 5 → 0 ≤ t51_t3.toInt → t51_t3.toInt ≤ 5 → 0 ≤ t51_t4.toInt → t51_t4.toInt ≤ 5 → 0 ≤ t51_t5.toInt → t51_t5.toInt ≤ 5 → t51_t0.toInt = t13_t0.toInt → t51_t1.toInt = t13_t1.toInt → t51_t2.toInt = t13_t2.toInt → t51_t3.toInt = t13_t3.toInt → t51_t4.toInt = t13_t4.toInt → t51_t5.toInt = t13_t5.toInt → (∀ j : Nat, rd h51 149 j = rd h 149 j) → 6 - v51_8.toInt < (n51 : Int) → EvP im_K0 4 mX12_pulls (215, [(0, .ref 164), (1, .int x1), (2, .int y6), (3, .int v8_3), (4, .int v8_4), (5, .int y22), (6, .int v13_6), (7, .int y22), (8, .int v51_8)], [], h51) (fun v h2 => tI h2 ∧ fr F_X12_pulls h h2 ∧ ∃ y : Int32, v = some (.int y) ∧ Q2_pulls x1 y h h2) := by
                                  intro n51
                                  induction n51 with
                                  | zero => intro v51_8 t51_t0 t51_t1 t51_t2 t51_t3 t51_t4 t51_t5 h51 I51 f51 a51_8 b51_8 v51_t0 v51_t1 v51_t2 v51_t3 v51_t4 v51_t5 va51_t0 vb51_t0 va51_t1 vb51_t1 va51_t2 vb51_t2 va51_t3 vb51_t3 va51_t4 vb51_t4 va51_t5 vb51_t5 l51_0 l51_1 l51_2 l51_3 l51_4 l51_5 w51_0 m51; exfalso; omega
                                  | succ n51 ih51 =>
                                    intro v51_8 t51_t0 t51_t1 t51_t2 t51_t3 t51_t4 t51_t5 h51 I51 f51 a51_8 b51_8 v51_t0 v51_t1 v51_t2 v51_t3 v51_t4 v51_t5 va51_t0 vb51_t0 va51_t1 vb51_t1 va51_t2 vb51_t2 va51_t3 vb51_t3 va51_t4 vb51_t4 va51_t5 vb51_t5 l51_0 l51_1 l51_2 l51_3 l51_4 l51_5 w51_0 m51
                                    refine te_iload (p2 := 217) rfl rfl rfl ?_
                                    refine te_iload_n (p2 := 218) rfl rfl rfl ?_
                                    refine tb_ge (p2 := 221) rfl rfl rfl rfl (fun c52 => ?_) (fun c52 => ?_)
                                    · refine te_aload_n (p2 := 252) rfl rfl rfl ?_
                                      refine te_iload_n (p2 := 253) rfl rfl rfl ?_
                                      refine tc_V (p2 := 256) (i := 148) rfl rfl rfl rfl I51 rfl rfl rfl (t_X12_nextOrder (n := y6) (g0 := t51_t0) (g1 := t51_t1) (g2 := t51_t2) (g3 := t51_t3) (g4 := t51_t4) (g5 := t51_t5) I51 (by omega) (by omega) v51_t0 (by omega) (by omega) v51_t1 (by omega) (by omega) v51_t2 (by omega) (by omega) v51_t3 (by omega) (by omega) v51_t4 (by omega) (by omega) v51_t5 (by omega) (by omega) (by rw [l51_0, l51_1, l51_2, l51_3, l51_4, l51_5]; exact w13_0)) (by decide) (fun v53 h53 hq53 => ?_)
                                      obtain ⟨I53, g53, y53, w53, r53⟩ := hq53
                                      subst w53
                                      have f53 := fr_tr (F1 := [(199, 0, 5)]) (F := F_X12_pulls) f51 g53 (by decide)
                                      rcases r53 with r53 | ⟨r53, s53_0, s53_1, s53_2, s53_3, s53_4, s53_5, es53_0, es53_1, es53_2, es53_3, es53_4, es53_5, pm53, lx53⟩
                                      · subst r53
                                        show EvP _ _ _ (256, [(0, .ref 164), (1, .int x1), (2, .int y6), (3, .int v8_3), (4, .int v8_4), (5, .int y22), (6, .int v13_6), (7, .int y22), (8, .int v51_8)], [.int 0], h53) _
                                        refine te_istore (p2 := 258) (lv2 := [(6, .int 0), (0, .ref 164), (1, .int x1), (2, .int y6), (3, .int v8_3), (4, .int v8_4), (5, .int y22), (7, .int y22), (8, .int v51_8)]) rfl rfl (by decide) rfl ?_
                                        refine te_goto rfl ?_
                                        refine te_iload (p2 := 184) rfl rfl rfl ?_
                                        refine tz_eq (p2 := 187) rfl rfl (show Int32.toInt 0 = 0 from rfl) (fun c54 => ?_) (fun c54 => absurd c54 (by omega))
                                        refine te_aload_n (p2 := 262) rfl rfl rfl ?_
                                        refine te_iload_n (p2 := 263) rfl rfl rfl ?_
                                        refine tp_i (p2 := 266) (i := 148) rfl rfl I53 rfl rfl (by decide) rfl rfl rfl (by omega) (by omega) (by omega) rfl (fun h55 I55 u55 => ?_)
                                        have f55 := fr_st (F := F_X12_pulls) 0 f53 u55 rfl (by decide) (by decide)
                                        refine te_iload (p2 := 268) rfl rfl rfl ?_
                                        exact te_iret rfl rfl ⟨I55, f55, _, rfl, (fun j => ((u55.2 _ _ (Or.inl (by decide))).trans ((g53 _ _ rfl).trans (w51_0 j))))⟩
                                      · subst r53
                                        obtain ⟨v56, ex56, y56, w56, a56, b56, _⟩ := I53.2.1 199 (Int32.toInt 0).toNat (.inl (0, 5, 9999999999)) (tq_row rfl (by decide))
                                        subst w56
                                        rw [← int_inj es53_0 ex56] at a56 b56
                                        obtain ⟨v57, ex57, y57, w57, a57, b57, _⟩ := I53.2.1 199 (Int32.toInt 1).toNat (.inl (0, 5, 9999999999)) (tq_row rfl (by decide))
                                        subst w57
                                        rw [← int_inj es53_1 ex57] at a57 b57
                                        obtain ⟨v58, ex58, y58, w58, a58, b58, _⟩ := I53.2.1 199 (Int32.toInt 2).toNat (.inl (0, 5, 9999999999)) (tq_row rfl (by decide))
                                        subst w58
                                        rw [← int_inj es53_2 ex58] at a58 b58
                                        obtain ⟨v59, ex59, y59, w59, a59, b59, _⟩ := I53.2.1 199 (Int32.toInt 3).toNat (.inl (0, 5, 9999999999)) (tq_row rfl (by decide))
                                        subst w59
                                        rw [← int_inj es53_3 ex59] at a59 b59
                                        obtain ⟨v60, ex60, y60, w60, a60, b60, _⟩ := I53.2.1 199 (Int32.toInt 4).toNat (.inl (0, 5, 9999999999)) (tq_row rfl (by decide))
                                        subst w60
                                        rw [← int_inj es53_4 ex60] at a60 b60
                                        obtain ⟨v61, ex61, y61, w61, a61, b61, _⟩ := I53.2.1 199 (Int32.toInt 5).toNat (.inl (0, 5, 9999999999)) (tq_row rfl (by decide))
                                        subst w61
                                        rw [← int_inj es53_5 ex61] at a61 b61
                                        unfold lexV at lx53
                                        show EvP _ _ _ (256, [(0, .ref 164), (1, .int x1), (2, .int y6), (3, .int v8_3), (4, .int v8_4), (5, .int y22), (6, .int v13_6), (7, .int y22), (8, .int v51_8)], [.int 1], h53) _
                                        refine te_istore (p2 := 258) (lv2 := [(6, .int 1), (0, .ref 164), (1, .int x1), (2, .int y6), (3, .int v8_3), (4, .int v8_4), (5, .int y22), (7, .int y22), (8, .int v51_8)]) rfl rfl (by decide) rfl ?_
                                        refine te_goto rfl ?_
                                        refine te_lv [(0, .ref 164), (1, .int x1), (2, .int y6), (3, .int v8_3), (4, .int v8_4), (5, .int y22), (6, .int 1)] rfl rfl ⟨rfl, rfl, rfl, rfl, rfl, rfl, rfl, trivial⟩ ?_
                                        exact ih13 y22 1 s53_0 s53_1 s53_2 s53_3 s53_4 s53_5 h53 I53 f53 (by decide) (by decide) es53_0 es53_1 es53_2 es53_3 es53_4 es53_5 (by omega) (by omega) (by omega) (by omega) (by omega) (by omega) (by omega) (by omega) (by omega) (by omega) (by omega) (by omega) pm53 (fun j => ((g53 _ _ rfl).trans (w51_0 j))) (by have cc0 := (show Int32.toInt 1 = 1 from rfl); omega)
                                    · refine te_aload_n (p2 := 222) rfl rfl rfl ?_
                                      refine tg_r (p2 := 225) (i := 148) (r := 199) rfl rfl I51 rfl rfl rfl ?_
                                      refine te_iload (p2 := 227) rfl rfl rfl ?_
                                      refine te_aload_n (p2 := 228) rfl rfl rfl ?_
                                      refine tg_r (p2 := 231) (i := 148) (r := 210) rfl rfl I51 rfl rfl rfl ?_
                                      refine te_bipush (p2 := 233) (x := 40) rfl rfl (by decide) ?_
                                      refine te_iload_n (p2 := 234) rfl rfl rfl ?_
                                      refine ar_mul (p2 := 235) rfl rfl (show Int32.toInt 40 = 40 from rfl) rfl (by omega) (by omega) (fun z62 e62 f62 => ?_)
                                      refine te_aload_n (p2 := 236) rfl rfl rfl ?_
                                      refine tg_r (p2 := 239) (i := 148) (r := 215) rfl rfl I51 rfl rfl rfl ?_
                                      refine te_iload (p2 := 241) rfl rfl rfl ?_
                                      refine tl_i (p2 := 242) (i := 199) (n := 6) rfl rfl I51 rfl rfl rfl rfl (by omega) (by omega) (fun y63 a63 b63 g63 e63 => ?_)
                                      refine ar_add (p2 := 243) rfl rfl rfl rfl (by omega) (by omega) (fun z64 e64 f64 => ?_)
                                      refine tl_i (p2 := 244) (i := 194) (n := 160) rfl rfl I51 rfl rfl rfl rfl (by omega) (by omega) (fun y65 a65 b65 g65 e65 => ?_)
                                      refine ts_i (p2 := 245) (i := 183) (n := 6) rfl rfl I51 rfl rfl rfl rfl (by omega) (by omega) (i32_lo _) (i32_hi _) (i32_ho _) rfl (fun h66 I66 u66 => ?_)
                                      have f66 := fr_st (F := F_X12_pulls) 2 f51 u66 rfl (by omega) (by omega)
                                      refine ar_inc (p2 := 248) (x := v51_8) rfl rfl (by decide) rfl (by decide) rfl (by omega) (by omega) (fun z67 e67 f67 => ?_)
                                      show EvP _ _ _ (248, [(8, .int z67), (0, .ref 164), (1, .int x1), (2, .int y6), (3, .int v8_3), (4, .int v8_4), (5, .int y22), (6, .int v13_6), (7, .int y22)], [], h66) _
                                      refine te_goto rfl ?_
                                      refine te_lv [(0, .ref 164), (1, .int x1), (2, .int y6), (3, .int v8_3), (4, .int v8_4), (5, .int y22), (6, .int v13_6), (7, .int y22), (8, .int z67)] rfl rfl ⟨rfl, rfl, rfl, rfl, rfl, rfl, rfl, rfl, rfl, trivial⟩ ?_
                                      exact ih51 z67 t51_t0 t51_t1 t51_t2 t51_t3 t51_t4 t51_t5 h66 I66 f66 (by omega) (by omega) ((u66.2 _ _ (Or.inl (by decide))).trans v51_t0) ((u66.2 _ _ (Or.inl (by decide))).trans v51_t1) ((u66.2 _ _ (Or.inl (by decide))).trans v51_t2) ((u66.2 _ _ (Or.inl (by decide))).trans v51_t3) ((u66.2 _ _ (Or.inl (by decide))).trans v51_t4) ((u66.2 _ _ (Or.inl (by decide))).trans v51_t5) (by omega) (by omega) (by omega) (by omega) (by omega) (by omega) (by omega) (by omega) (by omega) (by omega) (by omega) (by omega) (by omega) (by omega) (by omega) (by omega) (by omega) (by omega) (fun j => ((u66.2 _ _ (Or.inl (by decide))).trans (w51_0 j))) (by omega)
                                refine te_lv [(0, .ref 164), (1, .int x1), (2, .int y6), (3, .int v8_3), (4, .int v8_4), (5, .int y22), (6, .int v13_6), (7, .int y22), (8, .int 0)] rfl rfl ⟨rfl, rfl, rfl, rfl, rfl, rfl, rfl, rfl, rfl, trivial⟩ ?_
                                exact lp51 7 0 t13_t0 t13_t1 t13_t2 t13_t3 t13_t4 t13_t5 h22 I22 f22 (by decide) (by decide) ((g22 _ _ rfl).trans v13_t0) ((g22 _ _ rfl).trans v13_t1) ((g22 _ _ rfl).trans v13_t2) ((g22 _ _ rfl).trans v13_t3) ((g22 _ _ rfl).trans v13_t4) ((g22 _ _ rfl).trans v13_t5) (by omega) (by omega) (by omega) (by omega) (by omega) (by omega) (by omega) (by omega) (by omega) (by omega) (by omega) (by omega) (by have cc0 := (show Int32.toInt 0 = 0 from rfl); omega) (by have cc0 := (show Int32.toInt 0 = 0 from rfl); omega) (by have cc0 := (show Int32.toInt 0 = 0 from rfl); omega) (by have cc0 := (show Int32.toInt 0 = 0 from rfl); omega) (by have cc0 := (show Int32.toInt 0 = 0 from rfl); omega) (by have cc0 := (show Int32.toInt 0 = 0 from rfl); omega) (fun j => ((Q22 j).trans (w13_1 j))) (by have cc0 := (show Int32.toInt 0 = 0 from rfl); omega)
                      refine te_lv [(0, .ref 164), (1, .int x1), (2, .int y6), (3, .int v8_3), (4, .int v8_4), (5, .int (-1)), (6, .int 1)] rfl rfl ⟨rfl, rfl, rfl, rfl, rfl, rfl, rfl, trivial⟩ ?_
                      exact lp13 46657 (-1) 1 y14 y15 y16 y17 y18 y19 h11 I11 f11 (by decide) (by decide) e14 e15 e16 e17 e18 e19 (by omega) (by omega) (by omega) (by omega) (by omega) (by omega) (by omega) (by omega) (by omega) (by omega) (by omega) (by omega) (by (have hk0 : (0 : Int) < y6.toInt → y14.toInt = 0 := fun hl => (by (obtain ⟨p, ep, fp⟩ := w11_0 0 (by omega)); rw [int_inj e14 (show rd _ 199 (Int32.toInt 0).toNat = some (.int p) from ep)]; exact fp); have hk1 : (1 : Int) < y6.toInt → y15.toInt = 1 := fun hl => (by (obtain ⟨p, ep, fp⟩ := w11_0 1 (by omega)); rw [int_inj e15 (show rd _ 199 (Int32.toInt 1).toNat = some (.int p) from ep)]; exact fp); have hk2 : (2 : Int) < y6.toInt → y16.toInt = 2 := fun hl => (by (obtain ⟨p, ep, fp⟩ := w11_0 2 (by omega)); rw [int_inj e16 (show rd _ 199 (Int32.toInt 2).toNat = some (.int p) from ep)]; exact fp); have hk3 : (3 : Int) < y6.toInt → y17.toInt = 3 := fun hl => (by (obtain ⟨p, ep, fp⟩ := w11_0 3 (by omega)); rw [int_inj e17 (show rd _ 199 (Int32.toInt 3).toNat = some (.int p) from ep)]; exact fp); have hk4 : (4 : Int) < y6.toInt → y18.toInt = 4 := fun hl => (by (obtain ⟨p, ep, fp⟩ := w11_0 4 (by omega)); rw [int_inj e18 (show rd _ 199 (Int32.toInt 4).toNat = some (.int p) from ep)]; exact fp); have hk5 : (5 : Int) < y6.toInt → y19.toInt = 5 := fun hl => (by (obtain ⟨p, ep, fp⟩ := w11_0 5 (by omega)); rw [int_inj e19 (show rd _ 199 (Int32.toInt 5).toNat = some (.int p) from ep)]; exact fp); unfold prm; omega)) (fun j => (w11_1 j)) (by have cc0 := (show Int32.toInt (-1) = (-1) from rfl); have cc1 := (show Int32.toInt 1 = 1 from rfl); omega)
                    · refine te_aload_n (p2 := 162) rfl rfl rfl ?_
                      refine tg_r (p2 := 165) (i := 148) (r := 215) rfl rfl I11 rfl rfl rfl ?_
                      refine te_iload (p2 := 167) rfl rfl rfl ?_
                      refine te_iload (p2 := 169) rfl rfl rfl ?_
                      refine ts_i (p2 := 170) (i := 199) (n := 6) rfl rfl I11 rfl rfl rfl rfl (by omega) (by omega) (by omega) (by omega) (by omega) rfl (fun h68 I68 u68 => ?_)
                      have f68 := fr_st (F := F_X12_pulls) 5 f11 u68 rfl (by omega) (by omega)
                      refine ar_inc (p2 := 173) (x := v11_5) rfl rfl (by decide) rfl (by decide) rfl (by omega) (by omega) (fun z69 e69 f69 => ?_)
                      show EvP _ _ _ (173, [(5, .int z69), (0, .ref 164), (1, .int x1), (2, .int y6), (3, .int v8_3), (4, .int v8_4)], [], h68) _
                      refine te_goto rfl ?_
                      refine te_lv [(0, .ref 164), (1, .int x1), (2, .int y6), (3, .int v8_3), (4, .int v8_4), (5, .int z69)] rfl rfl ⟨rfl, rfl, rfl, rfl, rfl, rfl, trivial⟩ ?_
                      exact ih11 z69 h68 I68 f68 (by omega) (by omega) (by omega) (fun q hq => by (by_cases hqk : q = v11_5.toInt.toNat; exact ⟨v11_5, by rw [hqk]; exact u68.1, by omega⟩; obtain ⟨p, ep, fp⟩ := w11_0 q (by omega); exact ⟨p, (u68.2 _ _ (Or.inr (by omega))).trans ep, fp⟩)) (fun j => ((u68.2 _ _ (Or.inl (by decide))).trans (w11_1 j))) (by omega)
                refine te_lv [(0, .ref 164), (1, .int x1), (2, .int y6), (3, .int v8_3), (4, .int v8_4), (5, .int 0)] rfl rfl ⟨rfl, rfl, rfl, rfl, rfl, rfl, trivial⟩ ?_
                exact lp11 7 0 h hI f0 (by decide) (by decide) (by have cc0 := (show Int32.toInt 0 = 0 from rfl); omega) (fun q hq => absurd hq (by rw [show Int32.toInt 0 = 0 from rfl]; omega)) (fun j => rfl) (by have cc0 := (show Int32.toInt 0 = 0 from rfl); omega)
              · refine te_bipush (p2 := 151) (x := (-2)) rfl rfl (by decide) ?_
                exact te_iret rfl rfl ⟨hI, f0, _, rfl, (fun j => rfl)⟩
            · refine te_iload (p2 := 53) rfl rfl rfl ?_
              refine tz_eq (p2 := 56) rfl rfl rfl (fun c70 => ?_) (fun c70 => ?_)
              · refine te_iload (p2 := 146) rfl rfl rfl ?_
                refine tz_ne (p2 := 149) rfl rfl rfl (fun c71 => absurd c71 (by omega)) (fun c71 => ?_)
                refine te_bipush (p2 := 151) (x := (-2)) rfl rfl (by decide) ?_
                exact te_iret rfl rfl ⟨hI, f0, _, rfl, (fun j => rfl)⟩
              · refine te_aload_n (p2 := 57) rfl rfl rfl ?_
                refine tg_r (p2 := 60) (i := 148) (r := 210) rfl rfl hI rfl rfl rfl ?_
                refine te_bipush (p2 := 62) (x := 40) rfl rfl (by decide) ?_
                refine te_iload_n (p2 := 63) rfl rfl rfl ?_
                refine ar_mul (p2 := 64) rfl rfl (show Int32.toInt 40 = 40 from rfl) rfl (by omega) (by omega) (fun z72 e72 f72 => ?_)
                refine te_iload (p2 := 66) rfl rfl rfl ?_
                refine ar_add (p2 := 67) rfl rfl rfl rfl (by omega) (by omega) (fun z73 e73 f73 => ?_)
                refine tl_i (p2 := 68) (i := 194) (n := 160) rfl rfl hI rfl rfl rfl rfl (by omega) (by omega) (fun y74 a74 b74 g74 e74 => ?_)
                refine te_istore (p2 := 70) (lv2 := [(6, .int y74), (0, .ref 164), (1, .int x1), (2, .int y6), (3, .int v8_3), (4, .int v8_4), (5, .int v8_5)]) rfl rfl (by decide) rfl ?_
                refine te_aload_n (p2 := 71) rfl rfl rfl ?_
                refine te_iload (p2 := 73) rfl rfl rfl ?_
                refine cV_pI (p2 := 76) (i := 148) rfl rfl rfl rfl hI rfl rfl rfl (t_X12_isWall (k := y74) hI) (by decide) (fun y75 r75 => ?_)
                obtain ⟨p75, e75, a75, b75, r75⟩ := r75
                have w75 : p75 = y1 := Value.int.inj (Option.some.inj (e75.symm.trans e1))
                rw [w75] at r75
                rcases r75 with ⟨w75, c75⟩ | ⟨w75, c75⟩
                · subst w75
                  refine tz_eq (p2 := 79) rfl rfl (show Int32.toInt 1 = 1 from rfl) (fun c76 => absurd c76 (by omega)) (fun c76 => ?_)
                  refine te_aload_n (p2 := 80) rfl rfl rfl ?_
                  refine tg_r (p2 := 83) (i := 148) (r := 165) rfl rfl hI rfl rfl rfl ?_
                  refine te_bipush (p2 := 85) (x := 108) rfl rfl (by decide) ?_
                  refine te_aload_n (p2 := 86) rfl rfl rfl ?_
                  refine te_iload (p2 := 88) rfl rfl rfl ?_
                  refine cV_pI (p2 := 91) (i := 148) rfl rfl rfl rfl hI rfl rfl rfl (t_X12_isWall (k := y74) hI) (by decide) (fun y77 r77 => ?_)
                  obtain ⟨p77, e77, a77, b77, r77⟩ := r77
                  have w77 : p77 = y1 := Value.int.inj (Option.some.inj (e77.symm.trans e1))
                  rw [w77] at r77
                  rcases r77 with ⟨w77, c77⟩ | ⟨w77, c77⟩
                  · subst w77
                    refine tz_eq (p2 := 94) rfl rfl (show Int32.toInt 1 = 1 from rfl) (fun c78 => absurd c78 (by omega)) (fun c78 => ?_)
                    refine te_iload (p2 := 96) rfl rfl rfl ?_
                    refine te_goto rfl ?_
                    refine ar_add (p2 := 101) rfl rfl (show Int32.toInt 108 = 108 from rfl) rfl (by omega) (by omega) (fun z79 e79 f79 => ?_)
                    refine tl_i (p2 := 102) (i := 149) (n := 283) rfl rfl hI rfl rfl rfl rfl (by omega) (by omega) (fun y80 a80 b80 g80 e80 => ?_)
                    refine te_iconst (p2 := 103) (x := 1) rfl rfl (by decide) ?_
                    refine tb_ne (p2 := 106) rfl rfl rfl (show Int32.toInt 1 = 1 from rfl) (fun c81 => ?_) (fun c81 => ?_)
                    · refine te_iconst (p2 := 120) (x := 0) rfl rfl (by decide) ?_
                      refine te_istore (p2 := 122) (lv2 := [(4, .int 0), (6, .int y74), (0, .ref 164), (1, .int x1), (2, .int y6), (3, .int v8_3), (5, .int v8_5)]) rfl rfl (by decide) rfl ?_
                      refine te_iload_n (p2 := 123) rfl rfl rfl ?_
                      refine te_iload (p2 := 125) rfl rfl rfl ?_
                      refine tz_eq (p2 := 128) rfl rfl (show Int32.toInt 0 = 0 from rfl) (fun c82 => ?_) (fun c82 => absurd c82 (by omega))
                      refine te_iconst (p2 := 136) (x := 0) rfl rfl (by decide) ?_
                      refine te_ior (p2 := 137) (z := v8_3) rfl rfl (Int32.or_zero) ?_
                      refine te_istore_n (p2 := 138) (lv2 := [(3, .int v8_3), (4, .int 0), (6, .int y74), (0, .ref 164), (1, .int x1), (2, .int y6), (5, .int v8_5)]) rfl rfl (by decide) rfl ?_
                      refine ar_inc (p2 := 141) (x := v8_5) rfl rfl (by decide) rfl (by decide) rfl (by omega) (by omega) (fun z84 e84 f84 => ?_)
                      show EvP _ _ _ (141, [(5, .int z84), (3, .int v8_3), (4, .int 0), (6, .int y74), (0, .ref 164), (1, .int x1), (2, .int y6)], [], h) _
                      refine te_goto rfl ?_
                      refine te_lv [(0, .ref 164), (1, .int x1), (2, .int y6), (3, .int v8_3), (4, .int 0), (5, .int z84)] rfl rfl ⟨rfl, rfl, rfl, rfl, rfl, rfl, trivial⟩ ?_
                      exact ih8 v8_3 0 z84 (by decide) (by decide) (by omega) (by omega) (fun e => absurd e (by decide)) (fun e => absurd e (by decide)) (by have cc0 := (show Int32.toInt 0 = 0 from rfl); omega)
                    · refine te_iload_n (p2 := 107) rfl rfl rfl ?_
                      refine te_iload (p2 := 109) rfl rfl rfl ?_
                      refine au_shr (p2 := 110) rfl rfl (fun z85 e85 => ?_)
                      refine te_iconst (p2 := 111) (x := 1) rfl rfl (by decide) ?_
                      refine au_and (p2 := 112) rfl rfl (fun z86 e86 => ?_)
                      refine tz_ne (p2 := 115) rfl rfl rfl (fun c87 => ?_) (fun c87 => ?_)
                      · refine te_iconst (p2 := 120) (x := 0) rfl rfl (by decide) ?_
                        refine te_istore (p2 := 122) (lv2 := [(4, .int 0), (6, .int y74), (0, .ref 164), (1, .int x1), (2, .int y6), (3, .int v8_3), (5, .int v8_5)]) rfl rfl (by decide) rfl ?_
                        refine te_iload_n (p2 := 123) rfl rfl rfl ?_
                        refine te_iload (p2 := 125) rfl rfl rfl ?_
                        refine tz_eq (p2 := 128) rfl rfl (show Int32.toInt 0 = 0 from rfl) (fun c88 => ?_) (fun c88 => absurd c88 (by omega))
                        refine te_iconst (p2 := 136) (x := 0) rfl rfl (by decide) ?_
                        refine te_ior (p2 := 137) (z := v8_3) rfl rfl (Int32.or_zero) ?_
                        refine te_istore_n (p2 := 138) (lv2 := [(3, .int v8_3), (4, .int 0), (6, .int y74), (0, .ref 164), (1, .int x1), (2, .int y6), (5, .int v8_5)]) rfl rfl (by decide) rfl ?_
                        refine ar_inc (p2 := 141) (x := v8_5) rfl rfl (by decide) rfl (by decide) rfl (by omega) (by omega) (fun z90 e90 f90 => ?_)
                        show EvP _ _ _ (141, [(5, .int z90), (3, .int v8_3), (4, .int 0), (6, .int y74), (0, .ref 164), (1, .int x1), (2, .int y6)], [], h) _
                        refine te_goto rfl ?_
                        refine te_lv [(0, .ref 164), (1, .int x1), (2, .int y6), (3, .int v8_3), (4, .int 0), (5, .int z90)] rfl rfl ⟨rfl, rfl, rfl, rfl, rfl, rfl, trivial⟩ ?_
                        exact ih8 v8_3 0 z90 (by decide) (by decide) (by omega) (by omega) (fun e => absurd e (by decide)) (fun e => absurd e (by decide)) (by have cc0 := (show Int32.toInt 0 = 0 from rfl); omega)
                      · refine te_iconst (p2 := 116) (x := 1) rfl rfl (by decide) ?_
                        refine te_goto rfl ?_
                        refine te_istore (p2 := 122) (lv2 := [(4, .int 1), (6, .int y74), (0, .ref 164), (1, .int x1), (2, .int y6), (3, .int v8_3), (5, .int v8_5)]) rfl rfl (by decide) rfl ?_
                        refine te_iload_n (p2 := 123) rfl rfl rfl ?_
                        refine te_iload (p2 := 125) rfl rfl rfl ?_
                        refine tz_eq (p2 := 128) rfl rfl (show Int32.toInt 1 = 1 from rfl) (fun c91 => absurd c91 (by omega)) (fun c91 => ?_)
                        refine te_iconst (p2 := 129) (x := 1) rfl rfl (by decide) ?_
                        refine te_iload (p2 := 131) rfl rfl rfl ?_
                        refine au_shl (p2 := 132) rfl rfl (fun z92 e92 => ?_)
                        refine te_goto rfl ?_
                        refine au_or (p2 := 137) rfl rfl (fun z93 e93 => ?_)
                        refine te_istore_n (p2 := 138) (lv2 := [(3, .int z93), (4, .int 1), (6, .int y74), (0, .ref 164), (1, .int x1), (2, .int y6), (5, .int v8_5)]) rfl rfl (by decide) rfl ?_
                        refine ar_inc (p2 := 141) (x := v8_5) rfl rfl (by decide) rfl (by decide) rfl (by omega) (by omega) (fun z94 e94 f94 => ?_)
                        show EvP _ _ _ (141, [(5, .int z94), (3, .int z93), (4, .int 1), (6, .int y74), (0, .ref 164), (1, .int x1), (2, .int y6)], [], h) _
                        refine te_goto rfl ?_
                        refine te_lv [(0, .ref 164), (1, .int x1), (2, .int y6), (3, .int z93), (4, .int 1), (5, .int z94)] rfl rfl ⟨rfl, rfl, rfl, rfl, rfl, rfl, trivial⟩ ?_
                        exact ih8 z93 1 z94 (by decide) (by decide) (by omega) (by omega) (fun _ => allB_s (k := v8_5.toInt.toNat) (w8_0 (by omega)) (by omega) f94 (by rw [show 40 * x1.toInt.toNat + v8_5.toInt.toNat = z73.toInt.toNat by omega]; exact e74) (by omega) (by omega)) (fun _ => allB_s (k := v8_5.toInt.toNat) (w8_1 (by omega)) (by omega) f94 (by rw [show 40 * x1.toInt.toNat + v8_5.toInt.toNat = z73.toInt.toNat by omega]; exact e74) (by omega) (by omega)) (by have cc0 := (show Int32.toInt 1 = 1 from rfl); omega)
                  · subst w77
                    refine tz_eq (p2 := 94) rfl rfl (show Int32.toInt 0 = 0 from rfl) (fun c95 => ?_) (fun c95 => absurd c95 (by omega))
                    refine te_iconst (p2 := 100) (x := 0) rfl rfl (by decide) ?_
                    refine te_iadd (p2 := 101) (z := 108) rfl rfl (by decide) ?_
                    refine tl_i (p2 := 102) (i := 149) (n := 283) rfl rfl hI rfl rfl rfl rfl (by decide) (by decide) (fun y97 a97 b97 g97 e97 => ?_)
                    refine te_iconst (p2 := 103) (x := 1) rfl rfl (by decide) ?_
                    refine tb_ne (p2 := 106) rfl rfl rfl (show Int32.toInt 1 = 1 from rfl) (fun c98 => ?_) (fun c98 => ?_)
                    · refine te_iconst (p2 := 120) (x := 0) rfl rfl (by decide) ?_
                      refine te_istore (p2 := 122) (lv2 := [(4, .int 0), (6, .int y74), (0, .ref 164), (1, .int x1), (2, .int y6), (3, .int v8_3), (5, .int v8_5)]) rfl rfl (by decide) rfl ?_
                      refine te_iload_n (p2 := 123) rfl rfl rfl ?_
                      refine te_iload (p2 := 125) rfl rfl rfl ?_
                      refine tz_eq (p2 := 128) rfl rfl (show Int32.toInt 0 = 0 from rfl) (fun c99 => ?_) (fun c99 => absurd c99 (by omega))
                      refine te_iconst (p2 := 136) (x := 0) rfl rfl (by decide) ?_
                      refine te_ior (p2 := 137) (z := v8_3) rfl rfl (Int32.or_zero) ?_
                      refine te_istore_n (p2 := 138) (lv2 := [(3, .int v8_3), (4, .int 0), (6, .int y74), (0, .ref 164), (1, .int x1), (2, .int y6), (5, .int v8_5)]) rfl rfl (by decide) rfl ?_
                      refine ar_inc (p2 := 141) (x := v8_5) rfl rfl (by decide) rfl (by decide) rfl (by omega) (by omega) (fun z101 e101 f101 => ?_)
                      show EvP _ _ _ (141, [(5, .int z101), (3, .int v8_3), (4, .int 0), (6, .int y74), (0, .ref 164), (1, .int x1), (2, .int y6)], [], h) _
                      refine te_goto rfl ?_
                      refine te_lv [(0, .ref 164), (1, .int x1), (2, .int y6), (3, .int v8_3), (4, .int 0), (5, .int z101)] rfl rfl ⟨rfl, rfl, rfl, rfl, rfl, rfl, trivial⟩ ?_
                      exact ih8 v8_3 0 z101 (by decide) (by decide) (by omega) (by omega) (fun e => absurd e (by decide)) (fun e => absurd e (by decide)) (by have cc0 := (show Int32.toInt 0 = 0 from rfl); omega)
                    · refine te_iload_n (p2 := 107) rfl rfl rfl ?_
                      refine te_iload (p2 := 109) rfl rfl rfl ?_
                      refine au_shr (p2 := 110) rfl rfl (fun z102 e102 => ?_)
                      refine te_iconst (p2 := 111) (x := 1) rfl rfl (by decide) ?_
                      refine au_and (p2 := 112) rfl rfl (fun z103 e103 => ?_)
                      refine tz_ne (p2 := 115) rfl rfl rfl (fun c104 => ?_) (fun c104 => ?_)
                      · refine te_iconst (p2 := 120) (x := 0) rfl rfl (by decide) ?_
                        refine te_istore (p2 := 122) (lv2 := [(4, .int 0), (6, .int y74), (0, .ref 164), (1, .int x1), (2, .int y6), (3, .int v8_3), (5, .int v8_5)]) rfl rfl (by decide) rfl ?_
                        refine te_iload_n (p2 := 123) rfl rfl rfl ?_
                        refine te_iload (p2 := 125) rfl rfl rfl ?_
                        refine tz_eq (p2 := 128) rfl rfl (show Int32.toInt 0 = 0 from rfl) (fun c105 => ?_) (fun c105 => absurd c105 (by omega))
                        refine te_iconst (p2 := 136) (x := 0) rfl rfl (by decide) ?_
                        refine te_ior (p2 := 137) (z := v8_3) rfl rfl (Int32.or_zero) ?_
                        refine te_istore_n (p2 := 138) (lv2 := [(3, .int v8_3), (4, .int 0), (6, .int y74), (0, .ref 164), (1, .int x1), (2, .int y6), (5, .int v8_5)]) rfl rfl (by decide) rfl ?_
                        refine ar_inc (p2 := 141) (x := v8_5) rfl rfl (by decide) rfl (by decide) rfl (by omega) (by omega) (fun z107 e107 f107 => ?_)
                        show EvP _ _ _ (141, [(5, .int z107), (3, .int v8_3), (4, .int 0), (6, .int y74), (0, .ref 164), (1, .int x1), (2, .int y6)], [], h) _
                        refine te_goto rfl ?_
                        refine te_lv [(0, .ref 164), (1, .int x1), (2, .int y6), (3, .int v8_3), (4, .int 0), (5, .int z107)] rfl rfl ⟨rfl, rfl, rfl, rfl, rfl, rfl, trivial⟩ ?_
                        exact ih8 v8_3 0 z107 (by decide) (by decide) (by omega) (by omega) (fun e => absurd e (by decide)) (fun e => absurd e (by decide)) (by have cc0 := (show Int32.toInt 0 = 0 from rfl); omega)
                      · refine te_iconst (p2 := 116) (x := 1) rfl rfl (by decide) ?_
                        refine te_goto rfl ?_
                        refine te_istore (p2 := 122) (lv2 := [(4, .int 1), (6, .int y74), (0, .ref 164), (1, .int x1), (2, .int y6), (3, .int v8_3), (5, .int v8_5)]) rfl rfl (by decide) rfl ?_
                        refine te_iload_n (p2 := 123) rfl rfl rfl ?_
                        refine te_iload (p2 := 125) rfl rfl rfl ?_
                        refine tz_eq (p2 := 128) rfl rfl (show Int32.toInt 1 = 1 from rfl) (fun c108 => absurd c108 (by omega)) (fun c108 => ?_)
                        refine te_iconst (p2 := 129) (x := 1) rfl rfl (by decide) ?_
                        refine te_iload (p2 := 131) rfl rfl rfl ?_
                        refine au_shl (p2 := 132) rfl rfl (fun z109 e109 => ?_)
                        refine te_goto rfl ?_
                        refine au_or (p2 := 137) rfl rfl (fun z110 e110 => ?_)
                        refine te_istore_n (p2 := 138) (lv2 := [(3, .int z110), (4, .int 1), (6, .int y74), (0, .ref 164), (1, .int x1), (2, .int y6), (5, .int v8_5)]) rfl rfl (by decide) rfl ?_
                        refine ar_inc (p2 := 141) (x := v8_5) rfl rfl (by decide) rfl (by decide) rfl (by omega) (by omega) (fun z111 e111 f111 => ?_)
                        show EvP _ _ _ (141, [(5, .int z111), (3, .int z110), (4, .int 1), (6, .int y74), (0, .ref 164), (1, .int x1), (2, .int y6)], [], h) _
                        refine te_goto rfl ?_
                        refine te_lv [(0, .ref 164), (1, .int x1), (2, .int y6), (3, .int z110), (4, .int 1), (5, .int z111)] rfl rfl ⟨rfl, rfl, rfl, rfl, rfl, rfl, trivial⟩ ?_
                        exact ih8 z110 1 z111 (by decide) (by decide) (by omega) (by omega) (fun _ => allB_s (k := v8_5.toInt.toNat) (w8_0 (by omega)) (by omega) f111 (by rw [show 40 * x1.toInt.toNat + v8_5.toInt.toNat = z73.toInt.toNat by omega]; exact e74) (by omega) (by omega)) (fun _ => allB_s (k := v8_5.toInt.toNat) (w8_1 (by omega)) (by omega) f111 (by rw [show 40 * x1.toInt.toNat + v8_5.toInt.toNat = z73.toInt.toNat by omega]; exact e74) (by omega) (by omega)) (by have cc0 := (show Int32.toInt 1 = 1 from rfl); omega)
                · subst w75
                  refine tz_eq (p2 := 79) rfl rfl (show Int32.toInt 0 = 0 from rfl) (fun c112 => ?_) (fun c112 => absurd c112 (by omega))
                  refine te_iconst (p2 := 120) (x := 0) rfl rfl (by decide) ?_
                  refine te_istore (p2 := 122) (lv2 := [(4, .int 0), (6, .int y74), (0, .ref 164), (1, .int x1), (2, .int y6), (3, .int v8_3), (5, .int v8_5)]) rfl rfl (by decide) rfl ?_
                  refine te_iload_n (p2 := 123) rfl rfl rfl ?_
                  refine te_iload (p2 := 125) rfl rfl rfl ?_
                  refine tz_eq (p2 := 128) rfl rfl (show Int32.toInt 0 = 0 from rfl) (fun c113 => ?_) (fun c113 => absurd c113 (by omega))
                  refine te_iconst (p2 := 136) (x := 0) rfl rfl (by decide) ?_
                  refine te_ior (p2 := 137) (z := v8_3) rfl rfl (Int32.or_zero) ?_
                  refine te_istore_n (p2 := 138) (lv2 := [(3, .int v8_3), (4, .int 0), (6, .int y74), (0, .ref 164), (1, .int x1), (2, .int y6), (5, .int v8_5)]) rfl rfl (by decide) rfl ?_
                  refine ar_inc (p2 := 141) (x := v8_5) rfl rfl (by decide) rfl (by decide) rfl (by omega) (by omega) (fun z115 e115 f115 => ?_)
                  show EvP _ _ _ (141, [(5, .int z115), (3, .int v8_3), (4, .int 0), (6, .int y74), (0, .ref 164), (1, .int x1), (2, .int y6)], [], h) _
                  refine te_goto rfl ?_
                  refine te_lv [(0, .ref 164), (1, .int x1), (2, .int y6), (3, .int v8_3), (4, .int 0), (5, .int z115)] rfl rfl ⟨rfl, rfl, rfl, rfl, rfl, rfl, trivial⟩ ?_
                  exact ih8 v8_3 0 z115 (by decide) (by decide) (by omega) (by omega) (fun e => absurd e (by decide)) (fun e => absurd e (by decide)) (by have cc0 := (show Int32.toInt 0 = 0 from rfl); omega)
        refine te_lv [(0, .ref 164), (1, .int x1), (2, .int y6), (3, .int 0), (4, .int 1), (5, .int 0)] rfl rfl ⟨rfl, rfl, rfl, rfl, rfl, rfl, trivial⟩ ?_
        exact lp8 41 0 1 0 (by decide) (by decide) (by decide) (by decide) (fun _ => allB_0 (by decide)) (fun _ => allB_0 (by decide)) (by have cc0 := (show Int32.toInt 0 = 0 from rfl); have cc1 := (show Int32.toInt 1 = 1 from rfl); omega)
      · subst w7
        have cc7_1 := (show Int32.toInt 1 = 1 from rfl)
        have cc7_2 := (show Int32.toInt 6 = 6 from rfl)
        refine te_istore (p2 := 42) (lv2 := [(4, .int 0), (3, .int 0), (2, .int y6), (0, .ref 164), (1, .int x1)]) rfl rfl (by decide) rfl ?_
        refine te_iconst (p2 := 43) (x := 0) rfl rfl (by decide) ?_
        refine te_istore (p2 := 45) (lv2 := [(5, .int 0), (4, .int 0), (3, .int 0), (2, .int y6), (0, .ref 164), (1, .int x1)]) rfl rfl (by decide) rfl ?_
        have lp116 : ∀ (n116 : Nat) (v116_3 v116_4 v116_5 : Int32) , 0 ≤ v116_4.toInt → v116_4.toInt ≤ 0 → 0 ≤ v116_5.toInt → v116_5.toInt ≤ 40 → 40 - v116_5.toInt < (n116 : Int) → EvP im_K0 4 mX12_pulls (45, [(0, .ref 164), (1, .int x1), (2, .int y6), (3, .int v116_3), (4, .int v116_4), (5, .int v116_5)], [], h) (fun v h2 => tI h2 ∧ fr F_X12_pulls h h2 ∧ ∃ y : Int32, v = some (.int y) ∧ Q2_pulls x1 y h h2) := by
          intro n116
          induction n116 with
          | zero => intro v116_3 v116_4 v116_5 a116_4 b116_4 a116_5 b116_5 m116; exfalso; omega
          | succ n116 ih116 =>
            intro v116_3 v116_4 v116_5 a116_4 b116_4 a116_5 b116_5 m116
            refine te_iload (p2 := 47) rfl rfl rfl ?_
            refine te_iload_n (p2 := 48) rfl rfl rfl ?_
            refine tb_ge (p2 := 51) rfl rfl rfl rfl (fun c117 => ?_) (fun c117 => ?_)
            · refine te_iload (p2 := 146) rfl rfl rfl ?_
              refine tz_ne (p2 := 149) rfl rfl rfl (fun c118 => absurd c118 (by omega)) (fun c118 => ?_)
              refine te_bipush (p2 := 151) (x := (-2)) rfl rfl (by decide) ?_
              exact te_iret rfl rfl ⟨hI, f0, _, rfl, (fun j => rfl)⟩
            · refine te_iload (p2 := 53) rfl rfl rfl ?_
              refine tz_eq (p2 := 56) rfl rfl rfl (fun c119 => ?_) (fun c119 => absurd c119 (by omega))
              refine te_iload (p2 := 146) rfl rfl rfl ?_
              refine tz_ne (p2 := 149) rfl rfl rfl (fun c120 => absurd c120 (by omega)) (fun c120 => ?_)
              refine te_bipush (p2 := 151) (x := (-2)) rfl rfl (by decide) ?_
              exact te_iret rfl rfl ⟨hI, f0, _, rfl, (fun j => rfl)⟩
        refine te_lv [(0, .ref 164), (1, .int x1), (2, .int y6), (3, .int 0), (4, .int 0), (5, .int 0)] rfl rfl ⟨rfl, rfl, rfl, rfl, rfl, rfl, trivial⟩ ?_
        exact lp116 41 0 0 0 (by decide) (by decide) (by decide) (by decide) (by have cc0 := (show Int32.toInt 0 = 0 from rfl); omega)
    · refine te_bipush (p2 := 23) (x := (-11)) rfl rfl (by decide) ?_
      exact te_iret rfl rfl ⟨hI, f0, _, rfl, (fun j => rfl)⟩
  · subst w2
    have cc2_1 := (show Int32.toInt 0 = 0 from rfl)
    have cc2_2 := (show Int32.toInt 3 = 3 from rfl)
    refine tz_ne (p2 := 9) rfl rfl (show Int32.toInt 0 = 0 from rfl) (fun c121 => absurd c121 (by omega)) (fun c121 => ?_)
    refine te_iconst (p2 := 10) (x := (-1)) rfl rfl (by decide) ?_
    exact te_iret rfl rfl ⟨hI, f0, _, rfl, (fun j => rfl)⟩
def bec (s o : Nat) (h h2 : im_H) : Prop := (rd h2 s 0 = rd h o 0 ∧ rd h2 s 1 = rd h o 1 ∧ rd h2 s 2 = rd h o 2 ∧ rd h2 s 3 = rd h o 3 ∧ rd h2 s 4 = rd h o 4) ∧ ((∀ k : Nat, (k : Int) < 3 → rd h2 (s + 1) k = rd h (o + 1) k) ∧ (∀ k : Nat, (k : Int) < 100 → rd h2 (s + 2) k = rd h (o + 2) k) ∧ (∀ k : Nat, (k : Int) < 24 → rd h2 (s + 3) k = rd h (o + 3) k) ∧ (∀ k : Nat, (k : Int) < 24 → rd h2 (s + 4) k = rd h (o + 4) k) ∧ (∀ k : Nat, (k : Int) < 24 → rd h2 (s + 5) k = rd h (o + 5) k) ∧ (∀ k : Nat, (k : Int) < 24 → rd h2 (s + 6) k = rd h (o + 6) k) ∧ (∀ k : Nat, (k : Int) < 24 → rd h2 (s + 7) k = rd h (o + 7) k) ∧ (∀ k : Nat, (k : Int) < 16 → rd h2 (s + 8) k = rd h (o + 8) k) ∧ (∀ k : Nat, (k : Int) < 16 → rd h2 (s + 9) k = rd h (o + 9) k) ∧ (∀ k : Nat, (k : Int) < 12 → rd h2 (s + 10) k = rd h (o + 10) k) ∧ (∀ k : Nat, (k : Int) < 4 → rd h2 (s + 11) k = rd h (o + 11) k) ∧ (∀ k : Nat, (k : Int) < 4 → rd h2 (s + 12) k = rd h (o + 12) k) ∧ (∀ k : Nat, (k : Int) < 3 → rd h2 (s + 13) k = rd h (o + 13) k))
theorem bec_r {s o : Nat} {h h1 h2 : im_H} (B : bec s o h h1) (e : ∀ i k, s ≤ i → i ≤ s + 13 → rd h2 i k = rd h1 i k) : bec s o h h2 := by
  obtain ⟨⟨f0, f1, f2, f3, f4⟩, r0, r1, r2, r3, r4, r5, r6, r7, r8, r9, r10, r11, r12⟩ := B
  exact ⟨⟨(e _ _ (by omega) (by omega)).trans f0, (e _ _ (by omega) (by omega)).trans f1, (e _ _ (by omega) (by omega)).trans f2, (e _ _ (by omega) (by omega)).trans f3, (e _ _ (by omega) (by omega)).trans f4⟩, fun k hk => (e _ _ (by omega) (by omega)).trans (r0 k hk), fun k hk => (e _ _ (by omega) (by omega)).trans (r1 k hk), fun k hk => (e _ _ (by omega) (by omega)).trans (r2 k hk), fun k hk => (e _ _ (by omega) (by omega)).trans (r3 k hk), fun k hk => (e _ _ (by omega) (by omega)).trans (r4 k hk), fun k hk => (e _ _ (by omega) (by omega)).trans (r5 k hk), fun k hk => (e _ _ (by omega) (by omega)).trans (r6 k hk), fun k hk => (e _ _ (by omega) (by omega)).trans (r7 k hk), fun k hk => (e _ _ (by omega) (by omega)).trans (r8 k hk), fun k hk => (e _ _ (by omega) (by omega)).trans (r9 k hk), fun k hk => (e _ _ (by omega) (by omega)).trans (r10 k hk), fun k hk => (e _ _ (by omega) (by omega)).trans (r11 k hk), fun k hk => (e _ _ (by omega) (by omega)).trans (r12 k hk)⟩
set_option maxRecDepth 20000 in
set_option maxHeartbeats 4000000 in
theorem c_X9_become {s : Nat} {o : Nat} {h : im_H} (hI : tI h) (q_s : s = 23 ∨ s = 37 ∨ s = 51) (q_o : o = 23 ∨ o = 37 ∨ o = 51) : CaP 1 46 [.ref (16 + s), .ref (16 + o)] h (fun v h2 => tI h2 ∧ fr (F_X9_become s o) h h2 ∧ v = none ∧ bec s o h h2) := by
  refine cap_of (d := 0) (M := mX9_become) rfl (Nat.le_of_ble_eq_true rfl) ?_
  show EvP im_K0 0 mX9_become (0, [(0, .ref (16 + s)), (1, .ref (16 + o))], [], h) _
  have f0 : fr (F_X9_become s o) h h := fr_rf
  refine te_aload_n (p2 := 1) rfl rfl rfl ?_
  refine te_aload_n (p2 := 2) rfl rfl rfl ?_
  refine tg_i (p2 := 5) (i := o) rfl rfl hI rfl (by rcases q_o with rfl | rfl | rfl <;> rfl) (by rcases q_o with rfl | rfl | rfl <;> rfl) (fun y1 a1 b1 e1 => ?_)
  refine tp_i (p2 := 8) (i := s) rfl rfl hI rfl (by rcases q_s with rfl | rfl | rfl <;> rfl) (by decide) rfl rfl (by rcases q_s with rfl | rfl | rfl <;> rfl) (i32_lo _) (i32_hi _) (i32_ho _) (by rcases q_s with rfl | rfl | rfl <;> rfl) (fun h2 I2 u2 => ?_)
  have f2 := fr_st (F := (F_X9_become s o)) 13 f0 u2 rfl (by decide) (by decide)
  refine te_aload_n (p2 := 9) rfl rfl rfl ?_
  refine te_aload_n (p2 := 10) rfl rfl rfl ?_
  refine tg_i (p2 := 13) (i := o) rfl rfl I2 rfl (by rcases q_o with rfl | rfl | rfl <;> rfl) (by rcases q_o with rfl | rfl | rfl <;> rfl) (fun y3 a3 b3 e3 => ?_)
  refine tp_i (p2 := 16) (i := s) rfl rfl I2 rfl (by rcases q_s with rfl | rfl | rfl <;> rfl) (by decide) rfl rfl (by rcases q_s with rfl | rfl | rfl <;> rfl) (i32_lo _) (i32_hi _) (i32_ho _) (by rcases q_s with rfl | rfl | rfl <;> rfl) (fun h4 I4 u4 => ?_)
  have f4 := fr_st (F := (F_X9_become s o)) 13 f2 u4 rfl (by decide) (by decide)
  refine te_aload_n (p2 := 17) rfl rfl rfl ?_
  refine te_aload_n (p2 := 18) rfl rfl rfl ?_
  refine tg_i (p2 := 21) (i := o) rfl rfl I4 rfl (by rcases q_o with rfl | rfl | rfl <;> rfl) (by rcases q_o with rfl | rfl | rfl <;> rfl) (fun y5 a5 b5 e5 => ?_)
  refine tp_i (p2 := 24) (i := s) rfl rfl I4 rfl (by rcases q_s with rfl | rfl | rfl <;> rfl) (by decide) rfl rfl (by rcases q_s with rfl | rfl | rfl <;> rfl) (i32_lo _) (i32_hi _) (i32_ho _) (by rcases q_s with rfl | rfl | rfl <;> rfl) (fun h6 I6 u6 => ?_)
  have f6 := fr_st (F := (F_X9_become s o)) 13 f4 u6 rfl (by decide) (by decide)
  refine te_aload_n (p2 := 25) rfl rfl rfl ?_
  refine te_aload_n (p2 := 26) rfl rfl rfl ?_
  refine tg_i (p2 := 29) (i := o) rfl rfl I6 rfl (by rcases q_o with rfl | rfl | rfl <;> rfl) (by rcases q_o with rfl | rfl | rfl <;> rfl) (fun y7 a7 b7 e7 => ?_)
  refine tp_i (p2 := 32) (i := s) rfl rfl I6 rfl (by rcases q_s with rfl | rfl | rfl <;> rfl) (by decide) rfl rfl (by rcases q_s with rfl | rfl | rfl <;> rfl) (i32_lo _) (i32_hi _) (i32_ho _) (by rcases q_s with rfl | rfl | rfl <;> rfl) (fun h8 I8 u8 => ?_)
  have f8 := fr_st (F := (F_X9_become s o)) 13 f6 u8 rfl (by decide) (by decide)
  refine te_aload_n (p2 := 33) rfl rfl rfl ?_
  refine te_aload_n (p2 := 34) rfl rfl rfl ?_
  refine tg_i (p2 := 37) (i := o) rfl rfl I8 rfl (by rcases q_o with rfl | rfl | rfl <;> rfl) (by rcases q_o with rfl | rfl | rfl <;> rfl) (fun y9 a9 b9 e9 => ?_)
  refine tp_i (p2 := 40) (i := s) rfl rfl I8 rfl (by rcases q_s with rfl | rfl | rfl <;> rfl) (by decide) rfl rfl (by rcases q_s with rfl | rfl | rfl <;> rfl) (i32_lo _) (i32_hi _) (i32_ho _) (by rcases q_s with rfl | rfl | rfl <;> rfl) (fun h10 I10 u10 => ?_)
  have f10 := fr_st (F := (F_X9_become s o)) 13 f8 u10 rfl (by decide) (by decide)
  refine te_aload_n (p2 := 41) rfl rfl rfl ?_
  refine tg_r (p2 := 44) (i := o) (r := (16 + (o + 1))) rfl rfl I10 rfl (by rcases q_o with rfl | rfl | rfl <;> rfl) (by rcases q_o with rfl | rfl | rfl <;> rfl) ?_
  refine te_iconst (p2 := 45) (x := 0) rfl rfl (by decide) ?_
  refine te_aload_n (p2 := 46) rfl rfl rfl ?_
  refine tg_r (p2 := 49) (i := s) (r := (16 + (s + 1))) rfl rfl I10 rfl (by rcases q_s with rfl | rfl | rfl <;> rfl) (by rcases q_s with rfl | rfl | rfl <;> rfl) ?_
  refine te_iconst (p2 := 50) (x := 0) rfl rfl (by decide) ?_
  refine te_iconst (p2 := 51) (x := 3) rfl rfl (by decide) ?_
  refine tc_cp (p2 := 54) (i1 := (o + 1)) (i2 := (s + 1)) (n1 := 3) (n2 := 3) rfl rfl I10 rfl rfl (by rcases q_o with rfl | rfl | rfl <;> rfl) (by rcases q_s with rfl | rfl | rfl <;> rfl) (by rcases q_o with rfl | rfl | rfl <;> rfl) (by rcases q_s with rfl | rfl | rfl <;> rfl) rfl rfl (Or.inl rfl) (show Int32.toInt 0 = 0 from rfl) (show Int32.toInt 0 = 0 from rfl) (show Int32.toInt 3 = 3 from rfl) (by decide) (by decide) (by decide) (by decide) (by decide) rfl (by rcases q_s with rfl | rfl | rfl <;> rfl) (fun h11 I11 c11 u11 => ?_)
  have f11 := fr_cp (F := (F_X9_become s o)) (i := (s + 1)) (a := 0) (b := 2) f10 u11 (List.mem_of_getElem? (i := 0) rfl) (by decide) (by decide)
  refine te_aload_n (p2 := 55) rfl rfl rfl ?_
  refine tg_r (p2 := 58) (i := o) (r := (16 + (o + 2))) rfl rfl I11 rfl (by rcases q_o with rfl | rfl | rfl <;> rfl) (by rcases q_o with rfl | rfl | rfl <;> rfl) ?_
  refine te_iconst (p2 := 59) (x := 0) rfl rfl (by decide) ?_
  refine te_aload_n (p2 := 60) rfl rfl rfl ?_
  refine tg_r (p2 := 63) (i := s) (r := (16 + (s + 2))) rfl rfl I11 rfl (by rcases q_s with rfl | rfl | rfl <;> rfl) (by rcases q_s with rfl | rfl | rfl <;> rfl) ?_
  refine te_iconst (p2 := 64) (x := 0) rfl rfl (by decide) ?_
  refine te_bipush (p2 := 66) (x := 100) rfl rfl (by decide) ?_
  refine tc_cp (p2 := 69) (i1 := (o + 2)) (i2 := (s + 2)) (n1 := 100) (n2 := 100) rfl rfl I11 rfl rfl (by rcases q_o with rfl | rfl | rfl <;> rfl) (by rcases q_s with rfl | rfl | rfl <;> rfl) (by rcases q_o with rfl | rfl | rfl <;> rfl) (by rcases q_s with rfl | rfl | rfl <;> rfl) rfl rfl (Or.inl rfl) (show Int32.toInt 0 = 0 from rfl) (show Int32.toInt 0 = 0 from rfl) (show Int32.toInt 100 = 100 from rfl) (by decide) (by decide) (by decide) (by decide) (by decide) rfl (by rcases q_s with rfl | rfl | rfl <;> rfl) (fun h12 I12 c12 u12 => ?_)
  have f12 := fr_cp (F := (F_X9_become s o)) (i := (s + 2)) (a := 0) (b := 99) f11 u12 (List.mem_of_getElem? (i := 5) rfl) (by decide) (by decide)
  refine te_aload_n (p2 := 70) rfl rfl rfl ?_
  refine tg_r (p2 := 73) (i := o) (r := (16 + (o + 3))) rfl rfl I12 rfl (by rcases q_o with rfl | rfl | rfl <;> rfl) (by rcases q_o with rfl | rfl | rfl <;> rfl) ?_
  refine te_iconst (p2 := 74) (x := 0) rfl rfl (by decide) ?_
  refine te_aload_n (p2 := 75) rfl rfl rfl ?_
  refine tg_r (p2 := 78) (i := s) (r := (16 + (s + 3))) rfl rfl I12 rfl (by rcases q_s with rfl | rfl | rfl <;> rfl) (by rcases q_s with rfl | rfl | rfl <;> rfl) ?_
  refine te_iconst (p2 := 79) (x := 0) rfl rfl (by decide) ?_
  refine te_bipush (p2 := 81) (x := 24) rfl rfl (by decide) ?_
  refine tc_cp (p2 := 84) (i1 := (o + 3)) (i2 := (s + 3)) (n1 := 24) (n2 := 24) rfl rfl I12 rfl rfl (by rcases q_o with rfl | rfl | rfl <;> rfl) (by rcases q_s with rfl | rfl | rfl <;> rfl) (by rcases q_o with rfl | rfl | rfl <;> rfl) (by rcases q_s with rfl | rfl | rfl <;> rfl) rfl rfl (Or.inl rfl) (show Int32.toInt 0 = 0 from rfl) (show Int32.toInt 0 = 0 from rfl) (show Int32.toInt 24 = 24 from rfl) (by decide) (by decide) (by decide) (by decide) (by decide) rfl (by rcases q_s with rfl | rfl | rfl <;> rfl) (fun h13 I13 c13 u13 => ?_)
  have f13 := fr_cp (F := (F_X9_become s o)) (i := (s + 3)) (a := 0) (b := 23) f12 u13 (List.mem_of_getElem? (i := 6) rfl) (by decide) (by decide)
  refine te_aload_n (p2 := 85) rfl rfl rfl ?_
  refine tg_r (p2 := 88) (i := o) (r := (16 + (o + 4))) rfl rfl I13 rfl (by rcases q_o with rfl | rfl | rfl <;> rfl) (by rcases q_o with rfl | rfl | rfl <;> rfl) ?_
  refine te_iconst (p2 := 89) (x := 0) rfl rfl (by decide) ?_
  refine te_aload_n (p2 := 90) rfl rfl rfl ?_
  refine tg_r (p2 := 93) (i := s) (r := (16 + (s + 4))) rfl rfl I13 rfl (by rcases q_s with rfl | rfl | rfl <;> rfl) (by rcases q_s with rfl | rfl | rfl <;> rfl) ?_
  refine te_iconst (p2 := 94) (x := 0) rfl rfl (by decide) ?_
  refine te_bipush (p2 := 96) (x := 24) rfl rfl (by decide) ?_
  refine tc_cp (p2 := 99) (i1 := (o + 4)) (i2 := (s + 4)) (n1 := 24) (n2 := 24) rfl rfl I13 rfl rfl (by rcases q_o with rfl | rfl | rfl <;> rfl) (by rcases q_s with rfl | rfl | rfl <;> rfl) (by rcases q_o with rfl | rfl | rfl <;> rfl) (by rcases q_s with rfl | rfl | rfl <;> rfl) rfl rfl (Or.inl rfl) (show Int32.toInt 0 = 0 from rfl) (show Int32.toInt 0 = 0 from rfl) (show Int32.toInt 24 = 24 from rfl) (by decide) (by decide) (by decide) (by decide) (by decide) rfl (by rcases q_s with rfl | rfl | rfl <;> rfl) (fun h14 I14 c14 u14 => ?_)
  have f14 := fr_cp (F := (F_X9_become s o)) (i := (s + 4)) (a := 0) (b := 23) f13 u14 (List.mem_of_getElem? (i := 7) rfl) (by decide) (by decide)
  refine te_aload_n (p2 := 100) rfl rfl rfl ?_
  refine tg_r (p2 := 103) (i := o) (r := (16 + (o + 5))) rfl rfl I14 rfl (by rcases q_o with rfl | rfl | rfl <;> rfl) (by rcases q_o with rfl | rfl | rfl <;> rfl) ?_
  refine te_iconst (p2 := 104) (x := 0) rfl rfl (by decide) ?_
  refine te_aload_n (p2 := 105) rfl rfl rfl ?_
  refine tg_r (p2 := 108) (i := s) (r := (16 + (s + 5))) rfl rfl I14 rfl (by rcases q_s with rfl | rfl | rfl <;> rfl) (by rcases q_s with rfl | rfl | rfl <;> rfl) ?_
  refine te_iconst (p2 := 109) (x := 0) rfl rfl (by decide) ?_
  refine te_bipush (p2 := 111) (x := 24) rfl rfl (by decide) ?_
  refine tc_cp (p2 := 114) (i1 := (o + 5)) (i2 := (s + 5)) (n1 := 24) (n2 := 24) rfl rfl I14 rfl rfl (by rcases q_o with rfl | rfl | rfl <;> rfl) (by rcases q_s with rfl | rfl | rfl <;> rfl) (by rcases q_o with rfl | rfl | rfl <;> rfl) (by rcases q_s with rfl | rfl | rfl <;> rfl) rfl rfl (Or.inl rfl) (show Int32.toInt 0 = 0 from rfl) (show Int32.toInt 0 = 0 from rfl) (show Int32.toInt 24 = 24 from rfl) (by decide) (by decide) (by decide) (by decide) (by decide) rfl (by rcases q_s with rfl | rfl | rfl <;> rfl) (fun h15 I15 c15 u15 => ?_)
  have f15 := fr_cp (F := (F_X9_become s o)) (i := (s + 5)) (a := 0) (b := 23) f14 u15 (List.mem_of_getElem? (i := 8) rfl) (by decide) (by decide)
  refine te_aload_n (p2 := 115) rfl rfl rfl ?_
  refine tg_r (p2 := 118) (i := o) (r := (16 + (o + 6))) rfl rfl I15 rfl (by rcases q_o with rfl | rfl | rfl <;> rfl) (by rcases q_o with rfl | rfl | rfl <;> rfl) ?_
  refine te_iconst (p2 := 119) (x := 0) rfl rfl (by decide) ?_
  refine te_aload_n (p2 := 120) rfl rfl rfl ?_
  refine tg_r (p2 := 123) (i := s) (r := (16 + (s + 6))) rfl rfl I15 rfl (by rcases q_s with rfl | rfl | rfl <;> rfl) (by rcases q_s with rfl | rfl | rfl <;> rfl) ?_
  refine te_iconst (p2 := 124) (x := 0) rfl rfl (by decide) ?_
  refine te_bipush (p2 := 126) (x := 24) rfl rfl (by decide) ?_
  refine tc_cp (p2 := 129) (i1 := (o + 6)) (i2 := (s + 6)) (n1 := 24) (n2 := 24) rfl rfl I15 rfl rfl (by rcases q_o with rfl | rfl | rfl <;> rfl) (by rcases q_s with rfl | rfl | rfl <;> rfl) (by rcases q_o with rfl | rfl | rfl <;> rfl) (by rcases q_s with rfl | rfl | rfl <;> rfl) rfl rfl (Or.inl rfl) (show Int32.toInt 0 = 0 from rfl) (show Int32.toInt 0 = 0 from rfl) (show Int32.toInt 24 = 24 from rfl) (by decide) (by decide) (by decide) (by decide) (by decide) rfl (by rcases q_s with rfl | rfl | rfl <;> rfl) (fun h16 I16 c16 u16 => ?_)
  have f16 := fr_cp (F := (F_X9_become s o)) (i := (s + 6)) (a := 0) (b := 23) f15 u16 (List.mem_of_getElem? (i := 9) rfl) (by decide) (by decide)
  refine te_aload_n (p2 := 130) rfl rfl rfl ?_
  refine tg_r (p2 := 133) (i := o) (r := (16 + (o + 7))) rfl rfl I16 rfl (by rcases q_o with rfl | rfl | rfl <;> rfl) (by rcases q_o with rfl | rfl | rfl <;> rfl) ?_
  refine te_iconst (p2 := 134) (x := 0) rfl rfl (by decide) ?_
  refine te_aload_n (p2 := 135) rfl rfl rfl ?_
  refine tg_r (p2 := 138) (i := s) (r := (16 + (s + 7))) rfl rfl I16 rfl (by rcases q_s with rfl | rfl | rfl <;> rfl) (by rcases q_s with rfl | rfl | rfl <;> rfl) ?_
  refine te_iconst (p2 := 139) (x := 0) rfl rfl (by decide) ?_
  refine te_bipush (p2 := 141) (x := 24) rfl rfl (by decide) ?_
  refine tc_cp (p2 := 144) (i1 := (o + 7)) (i2 := (s + 7)) (n1 := 24) (n2 := 24) rfl rfl I16 rfl rfl (by rcases q_o with rfl | rfl | rfl <;> rfl) (by rcases q_s with rfl | rfl | rfl <;> rfl) (by rcases q_o with rfl | rfl | rfl <;> rfl) (by rcases q_s with rfl | rfl | rfl <;> rfl) rfl rfl (Or.inr ⟨rfl, rfl, rfl⟩) (show Int32.toInt 0 = 0 from rfl) (show Int32.toInt 0 = 0 from rfl) (show Int32.toInt 24 = 24 from rfl) (by decide) (by decide) (by decide) (by decide) (by decide) rfl (by rcases q_s with rfl | rfl | rfl <;> rfl) (fun h17 I17 c17 u17 => ?_)
  have f17 := fr_cp (F := (F_X9_become s o)) (i := (s + 7)) (a := 0) (b := 23) f16 u17 (List.mem_of_getElem? (i := 10) rfl) (by decide) (by decide)
  refine te_aload_n (p2 := 145) rfl rfl rfl ?_
  refine tg_r (p2 := 148) (i := o) (r := (16 + (o + 8))) rfl rfl I17 rfl (by rcases q_o with rfl | rfl | rfl <;> rfl) (by rcases q_o with rfl | rfl | rfl <;> rfl) ?_
  refine te_iconst (p2 := 149) (x := 0) rfl rfl (by decide) ?_
  refine te_aload_n (p2 := 150) rfl rfl rfl ?_
  refine tg_r (p2 := 153) (i := s) (r := (16 + (s + 8))) rfl rfl I17 rfl (by rcases q_s with rfl | rfl | rfl <;> rfl) (by rcases q_s with rfl | rfl | rfl <;> rfl) ?_
  refine te_iconst (p2 := 154) (x := 0) rfl rfl (by decide) ?_
  refine te_bipush (p2 := 156) (x := 16) rfl rfl (by decide) ?_
  refine tc_cp (p2 := 159) (i1 := (o + 8)) (i2 := (s + 8)) (n1 := 16) (n2 := 16) rfl rfl I17 rfl rfl (by rcases q_o with rfl | rfl | rfl <;> rfl) (by rcases q_s with rfl | rfl | rfl <;> rfl) (by rcases q_o with rfl | rfl | rfl <;> rfl) (by rcases q_s with rfl | rfl | rfl <;> rfl) rfl rfl (Or.inl rfl) (show Int32.toInt 0 = 0 from rfl) (show Int32.toInt 0 = 0 from rfl) (show Int32.toInt 16 = 16 from rfl) (by decide) (by decide) (by decide) (by decide) (by decide) rfl (by rcases q_s with rfl | rfl | rfl <;> rfl) (fun h18 I18 c18 u18 => ?_)
  have f18 := fr_cp (F := (F_X9_become s o)) (i := (s + 8)) (a := 0) (b := 15) f17 u18 (List.mem_of_getElem? (i := 11) rfl) (by decide) (by decide)
  refine te_aload_n (p2 := 160) rfl rfl rfl ?_
  refine tg_r (p2 := 163) (i := o) (r := (16 + (o + 9))) rfl rfl I18 rfl (by rcases q_o with rfl | rfl | rfl <;> rfl) (by rcases q_o with rfl | rfl | rfl <;> rfl) ?_
  refine te_iconst (p2 := 164) (x := 0) rfl rfl (by decide) ?_
  refine te_aload_n (p2 := 165) rfl rfl rfl ?_
  refine tg_r (p2 := 168) (i := s) (r := (16 + (s + 9))) rfl rfl I18 rfl (by rcases q_s with rfl | rfl | rfl <;> rfl) (by rcases q_s with rfl | rfl | rfl <;> rfl) ?_
  refine te_iconst (p2 := 169) (x := 0) rfl rfl (by decide) ?_
  refine te_bipush (p2 := 171) (x := 16) rfl rfl (by decide) ?_
  refine tc_cp (p2 := 174) (i1 := (o + 9)) (i2 := (s + 9)) (n1 := 16) (n2 := 16) rfl rfl I18 rfl rfl (by rcases q_o with rfl | rfl | rfl <;> rfl) (by rcases q_s with rfl | rfl | rfl <;> rfl) (by rcases q_o with rfl | rfl | rfl <;> rfl) (by rcases q_s with rfl | rfl | rfl <;> rfl) rfl rfl (Or.inr ⟨rfl, rfl, rfl⟩) (show Int32.toInt 0 = 0 from rfl) (show Int32.toInt 0 = 0 from rfl) (show Int32.toInt 16 = 16 from rfl) (by decide) (by decide) (by decide) (by decide) (by decide) rfl (by rcases q_s with rfl | rfl | rfl <;> rfl) (fun h19 I19 c19 u19 => ?_)
  have f19 := fr_cp (F := (F_X9_become s o)) (i := (s + 9)) (a := 0) (b := 15) f18 u19 (List.mem_of_getElem? (i := 12) rfl) (by decide) (by decide)
  refine te_aload_n (p2 := 175) rfl rfl rfl ?_
  refine tg_r (p2 := 178) (i := o) (r := (16 + (o + 10))) rfl rfl I19 rfl (by rcases q_o with rfl | rfl | rfl <;> rfl) (by rcases q_o with rfl | rfl | rfl <;> rfl) ?_
  refine te_iconst (p2 := 179) (x := 0) rfl rfl (by decide) ?_
  refine te_aload_n (p2 := 180) rfl rfl rfl ?_
  refine tg_r (p2 := 183) (i := s) (r := (16 + (s + 10))) rfl rfl I19 rfl (by rcases q_s with rfl | rfl | rfl <;> rfl) (by rcases q_s with rfl | rfl | rfl <;> rfl) ?_
  refine te_iconst (p2 := 184) (x := 0) rfl rfl (by decide) ?_
  refine te_bipush (p2 := 186) (x := 12) rfl rfl (by decide) ?_
  refine tc_cp (p2 := 189) (i1 := (o + 10)) (i2 := (s + 10)) (n1 := 12) (n2 := 12) rfl rfl I19 rfl rfl (by rcases q_o with rfl | rfl | rfl <;> rfl) (by rcases q_s with rfl | rfl | rfl <;> rfl) (by rcases q_o with rfl | rfl | rfl <;> rfl) (by rcases q_s with rfl | rfl | rfl <;> rfl) rfl rfl (Or.inr ⟨rfl, rfl, rfl⟩) (show Int32.toInt 0 = 0 from rfl) (show Int32.toInt 0 = 0 from rfl) (show Int32.toInt 12 = 12 from rfl) (by decide) (by decide) (by decide) (by decide) (by decide) rfl (by rcases q_s with rfl | rfl | rfl <;> rfl) (fun h20 I20 c20 u20 => ?_)
  have f20 := fr_cp (F := (F_X9_become s o)) (i := (s + 10)) (a := 0) (b := 11) f19 u20 (List.mem_of_getElem? (i := 1) rfl) (by decide) (by decide)
  refine te_aload_n (p2 := 190) rfl rfl rfl ?_
  refine tg_r (p2 := 193) (i := o) (r := (16 + (o + 11))) rfl rfl I20 rfl (by rcases q_o with rfl | rfl | rfl <;> rfl) (by rcases q_o with rfl | rfl | rfl <;> rfl) ?_
  refine te_iconst (p2 := 194) (x := 0) rfl rfl (by decide) ?_
  refine te_aload_n (p2 := 195) rfl rfl rfl ?_
  refine tg_r (p2 := 198) (i := s) (r := (16 + (s + 11))) rfl rfl I20 rfl (by rcases q_s with rfl | rfl | rfl <;> rfl) (by rcases q_s with rfl | rfl | rfl <;> rfl) ?_
  refine te_iconst (p2 := 199) (x := 0) rfl rfl (by decide) ?_
  refine te_iconst (p2 := 200) (x := 4) rfl rfl (by decide) ?_
  refine tc_cp (p2 := 203) (i1 := (o + 11)) (i2 := (s + 11)) (n1 := 4) (n2 := 4) rfl rfl I20 rfl rfl (by rcases q_o with rfl | rfl | rfl <;> rfl) (by rcases q_s with rfl | rfl | rfl <;> rfl) (by rcases q_o with rfl | rfl | rfl <;> rfl) (by rcases q_s with rfl | rfl | rfl <;> rfl) rfl rfl (Or.inl rfl) (show Int32.toInt 0 = 0 from rfl) (show Int32.toInt 0 = 0 from rfl) (show Int32.toInt 4 = 4 from rfl) (by decide) (by decide) (by decide) (by decide) (by decide) rfl (by rcases q_s with rfl | rfl | rfl <;> rfl) (fun h21 I21 c21 u21 => ?_)
  have f21 := fr_cp (F := (F_X9_become s o)) (i := (s + 11)) (a := 0) (b := 3) f20 u21 (List.mem_of_getElem? (i := 2) rfl) (by decide) (by decide)
  refine te_aload_n (p2 := 204) rfl rfl rfl ?_
  refine tg_r (p2 := 207) (i := o) (r := (16 + (o + 12))) rfl rfl I21 rfl (by rcases q_o with rfl | rfl | rfl <;> rfl) (by rcases q_o with rfl | rfl | rfl <;> rfl) ?_
  refine te_iconst (p2 := 208) (x := 0) rfl rfl (by decide) ?_
  refine te_aload_n (p2 := 209) rfl rfl rfl ?_
  refine tg_r (p2 := 212) (i := s) (r := (16 + (s + 12))) rfl rfl I21 rfl (by rcases q_s with rfl | rfl | rfl <;> rfl) (by rcases q_s with rfl | rfl | rfl <;> rfl) ?_
  refine te_iconst (p2 := 213) (x := 0) rfl rfl (by decide) ?_
  refine te_iconst (p2 := 214) (x := 4) rfl rfl (by decide) ?_
  refine tc_cp (p2 := 217) (i1 := (o + 12)) (i2 := (s + 12)) (n1 := 4) (n2 := 4) rfl rfl I21 rfl rfl (by rcases q_o with rfl | rfl | rfl <;> rfl) (by rcases q_s with rfl | rfl | rfl <;> rfl) (by rcases q_o with rfl | rfl | rfl <;> rfl) (by rcases q_s with rfl | rfl | rfl <;> rfl) rfl rfl (Or.inl rfl) (show Int32.toInt 0 = 0 from rfl) (show Int32.toInt 0 = 0 from rfl) (show Int32.toInt 4 = 4 from rfl) (by decide) (by decide) (by decide) (by decide) (by decide) rfl (by rcases q_s with rfl | rfl | rfl <;> rfl) (fun h22 I22 c22 u22 => ?_)
  have f22 := fr_cp (F := (F_X9_become s o)) (i := (s + 12)) (a := 0) (b := 3) f21 u22 (List.mem_of_getElem? (i := 3) rfl) (by decide) (by decide)
  refine te_aload_n (p2 := 218) rfl rfl rfl ?_
  refine tg_r (p2 := 221) (i := o) (r := (16 + (o + 13))) rfl rfl I22 rfl (by rcases q_o with rfl | rfl | rfl <;> rfl) (by rcases q_o with rfl | rfl | rfl <;> rfl) ?_
  refine te_iconst (p2 := 222) (x := 0) rfl rfl (by decide) ?_
  refine te_aload_n (p2 := 223) rfl rfl rfl ?_
  refine tg_r (p2 := 226) (i := s) (r := (16 + (s + 13))) rfl rfl I22 rfl (by rcases q_s with rfl | rfl | rfl <;> rfl) (by rcases q_s with rfl | rfl | rfl <;> rfl) ?_
  refine te_iconst (p2 := 227) (x := 0) rfl rfl (by decide) ?_
  refine te_iconst (p2 := 228) (x := 3) rfl rfl (by decide) ?_
  refine tc_cp (p2 := 231) (i1 := (o + 13)) (i2 := (s + 13)) (n1 := 3) (n2 := 3) rfl rfl I22 rfl rfl (by rcases q_o with rfl | rfl | rfl <;> rfl) (by rcases q_s with rfl | rfl | rfl <;> rfl) (by rcases q_o with rfl | rfl | rfl <;> rfl) (by rcases q_s with rfl | rfl | rfl <;> rfl) rfl rfl (Or.inl rfl) (show Int32.toInt 0 = 0 from rfl) (show Int32.toInt 0 = 0 from rfl) (show Int32.toInt 3 = 3 from rfl) (by decide) (by decide) (by decide) (by decide) (by decide) rfl (by rcases q_s with rfl | rfl | rfl <;> rfl) (fun h23 I23 c23 u23 => ?_)
  have f23 := fr_cp (F := (F_X9_become s o)) (i := (s + 13)) (a := 0) (b := 2) f22 u23 (List.mem_of_getElem? (i := 4) rfl) (by decide) (by decide)
  exact te_vret rfl rfl ⟨I23, f23, rfl, ⟨((u23 _ _ (Or.inl (by omega))).trans ((u22 _ _ (Or.inl (by omega))).trans ((u21 _ _ (Or.inl (by omega))).trans ((u20 _ _ (Or.inl (by omega))).trans ((u19 _ _ (Or.inl (by omega))).trans ((u18 _ _ (Or.inl (by omega))).trans ((u17 _ _ (Or.inl (by omega))).trans ((u16 _ _ (Or.inl (by omega))).trans ((u15 _ _ (Or.inl (by omega))).trans ((u14 _ _ (Or.inl (by omega))).trans ((u13 _ _ (Or.inl (by omega))).trans ((u12 _ _ (Or.inl (by omega))).trans ((u11 _ _ (Or.inl (by omega))).trans ((u10.2 _ _ (Or.inr (by decide))).trans ((u8.2 _ _ (Or.inr (by decide))).trans ((u6.2 _ _ (Or.inr (by decide))).trans ((u4.2 _ _ (Or.inr (by decide))).trans u2.1))))))))))))))))).trans e1.symm, (((u23 _ _ (Or.inl (by omega))).trans ((u22 _ _ (Or.inl (by omega))).trans ((u21 _ _ (Or.inl (by omega))).trans ((u20 _ _ (Or.inl (by omega))).trans ((u19 _ _ (Or.inl (by omega))).trans ((u18 _ _ (Or.inl (by omega))).trans ((u17 _ _ (Or.inl (by omega))).trans ((u16 _ _ (Or.inl (by omega))).trans ((u15 _ _ (Or.inl (by omega))).trans ((u14 _ _ (Or.inl (by omega))).trans ((u13 _ _ (Or.inl (by omega))).trans ((u12 _ _ (Or.inl (by omega))).trans ((u11 _ _ (Or.inl (by omega))).trans ((u10.2 _ _ (Or.inr (by decide))).trans ((u8.2 _ _ (Or.inr (by decide))).trans ((u6.2 _ _ (Or.inr (by decide))).trans u4.1)))))))))))))))).trans e3.symm).trans (u2.2 _ _ (Or.inr (by decide))), ((((u23 _ _ (Or.inl (by omega))).trans ((u22 _ _ (Or.inl (by omega))).trans ((u21 _ _ (Or.inl (by omega))).trans ((u20 _ _ (Or.inl (by omega))).trans ((u19 _ _ (Or.inl (by omega))).trans ((u18 _ _ (Or.inl (by omega))).trans ((u17 _ _ (Or.inl (by omega))).trans ((u16 _ _ (Or.inl (by omega))).trans ((u15 _ _ (Or.inl (by omega))).trans ((u14 _ _ (Or.inl (by omega))).trans ((u13 _ _ (Or.inl (by omega))).trans ((u12 _ _ (Or.inl (by omega))).trans ((u11 _ _ (Or.inl (by omega))).trans ((u10.2 _ _ (Or.inr (by decide))).trans ((u8.2 _ _ (Or.inr (by decide))).trans u6.1))))))))))))))).trans e5.symm).trans (u4.2 _ _ (Or.inr (by decide)))).trans (u2.2 _ _ (Or.inr (by decide))), (((((u23 _ _ (Or.inl (by omega))).trans ((u22 _ _ (Or.inl (by omega))).trans ((u21 _ _ (Or.inl (by omega))).trans ((u20 _ _ (Or.inl (by omega))).trans ((u19 _ _ (Or.inl (by omega))).trans ((u18 _ _ (Or.inl (by omega))).trans ((u17 _ _ (Or.inl (by omega))).trans ((u16 _ _ (Or.inl (by omega))).trans ((u15 _ _ (Or.inl (by omega))).trans ((u14 _ _ (Or.inl (by omega))).trans ((u13 _ _ (Or.inl (by omega))).trans ((u12 _ _ (Or.inl (by omega))).trans ((u11 _ _ (Or.inl (by omega))).trans ((u10.2 _ _ (Or.inr (by decide))).trans u8.1)))))))))))))).trans e7.symm).trans (u6.2 _ _ (Or.inr (by decide)))).trans (u4.2 _ _ (Or.inr (by decide)))).trans (u2.2 _ _ (Or.inr (by decide))), ((((((u23 _ _ (Or.inl (by omega))).trans ((u22 _ _ (Or.inl (by omega))).trans ((u21 _ _ (Or.inl (by omega))).trans ((u20 _ _ (Or.inl (by omega))).trans ((u19 _ _ (Or.inl (by omega))).trans ((u18 _ _ (Or.inl (by omega))).trans ((u17 _ _ (Or.inl (by omega))).trans ((u16 _ _ (Or.inl (by omega))).trans ((u15 _ _ (Or.inl (by omega))).trans ((u14 _ _ (Or.inl (by omega))).trans ((u13 _ _ (Or.inl (by omega))).trans ((u12 _ _ (Or.inl (by omega))).trans ((u11 _ _ (Or.inl (by omega))).trans u10.1))))))))))))).trans e9.symm).trans (u8.2 _ _ (Or.inr (by decide)))).trans (u6.2 _ _ (Or.inr (by decide)))).trans (u4.2 _ _ (Or.inr (by decide)))).trans (u2.2 _ _ (Or.inr (by decide)))⟩, (fun k hk => ((((((u23 _ _ (Or.inl (by omega))).trans ((u22 _ _ (Or.inl (by omega))).trans ((u21 _ _ (Or.inl (by omega))).trans ((u20 _ _ (Or.inl (by omega))).trans ((u19 _ _ (Or.inl (by omega))).trans ((u18 _ _ (Or.inl (by omega))).trans ((u17 _ _ (Or.inl (by omega))).trans ((u16 _ _ (Or.inl (by omega))).trans ((u15 _ _ (Or.inl (by omega))).trans ((u14 _ _ (Or.inl (by omega))).trans ((u13 _ _ (Or.inl (by omega))).trans ((u12 _ _ (Or.inl (by omega))).trans ((c11 k (by omega) (by omega)).trans (congrArg (fun t => rd h10 (o + 1) t) (show (0 : Int).toNat + (k - (0 : Int).toNat) = k by omega))))))))))))))).trans (u10.2 _ _ (Or.inl (by omega)))).trans (u8.2 _ _ (Or.inl (by omega)))).trans (u6.2 _ _ (Or.inl (by omega)))).trans (u4.2 _ _ (Or.inl (by omega)))).trans (u2.2 _ _ (Or.inl (by omega)))), (fun k hk => (((((((u23 _ _ (Or.inl (by omega))).trans ((u22 _ _ (Or.inl (by omega))).trans ((u21 _ _ (Or.inl (by omega))).trans ((u20 _ _ (Or.inl (by omega))).trans ((u19 _ _ (Or.inl (by omega))).trans ((u18 _ _ (Or.inl (by omega))).trans ((u17 _ _ (Or.inl (by omega))).trans ((u16 _ _ (Or.inl (by omega))).trans ((u15 _ _ (Or.inl (by omega))).trans ((u14 _ _ (Or.inl (by omega))).trans ((u13 _ _ (Or.inl (by omega))).trans ((c12 k (by omega) (by omega)).trans (congrArg (fun t => rd h11 (o + 2) t) (show (0 : Int).toNat + (k - (0 : Int).toNat) = k by omega)))))))))))))).trans (u11 _ _ (Or.inl (by omega)))).trans (u10.2 _ _ (Or.inl (by omega)))).trans (u8.2 _ _ (Or.inl (by omega)))).trans (u6.2 _ _ (Or.inl (by omega)))).trans (u4.2 _ _ (Or.inl (by omega)))).trans (u2.2 _ _ (Or.inl (by omega)))), (fun k hk => ((((((((u23 _ _ (Or.inl (by omega))).trans ((u22 _ _ (Or.inl (by omega))).trans ((u21 _ _ (Or.inl (by omega))).trans ((u20 _ _ (Or.inl (by omega))).trans ((u19 _ _ (Or.inl (by omega))).trans ((u18 _ _ (Or.inl (by omega))).trans ((u17 _ _ (Or.inl (by omega))).trans ((u16 _ _ (Or.inl (by omega))).trans ((u15 _ _ (Or.inl (by omega))).trans ((u14 _ _ (Or.inl (by omega))).trans ((c13 k (by omega) (by omega)).trans (congrArg (fun t => rd h12 (o + 3) t) (show (0 : Int).toNat + (k - (0 : Int).toNat) = k by omega))))))))))))).trans (u12 _ _ (Or.inl (by omega)))).trans (u11 _ _ (Or.inl (by omega)))).trans (u10.2 _ _ (Or.inl (by omega)))).trans (u8.2 _ _ (Or.inl (by omega)))).trans (u6.2 _ _ (Or.inl (by omega)))).trans (u4.2 _ _ (Or.inl (by omega)))).trans (u2.2 _ _ (Or.inl (by omega)))), (fun k hk => (((((((((u23 _ _ (Or.inl (by omega))).trans ((u22 _ _ (Or.inl (by omega))).trans ((u21 _ _ (Or.inl (by omega))).trans ((u20 _ _ (Or.inl (by omega))).trans ((u19 _ _ (Or.inl (by omega))).trans ((u18 _ _ (Or.inl (by omega))).trans ((u17 _ _ (Or.inl (by omega))).trans ((u16 _ _ (Or.inl (by omega))).trans ((u15 _ _ (Or.inl (by omega))).trans ((c14 k (by omega) (by omega)).trans (congrArg (fun t => rd h13 (o + 4) t) (show (0 : Int).toNat + (k - (0 : Int).toNat) = k by omega)))))))))))).trans (u13 _ _ (Or.inl (by omega)))).trans (u12 _ _ (Or.inl (by omega)))).trans (u11 _ _ (Or.inl (by omega)))).trans (u10.2 _ _ (Or.inl (by omega)))).trans (u8.2 _ _ (Or.inl (by omega)))).trans (u6.2 _ _ (Or.inl (by omega)))).trans (u4.2 _ _ (Or.inl (by omega)))).trans (u2.2 _ _ (Or.inl (by omega)))), (fun k hk => ((((((((((u23 _ _ (Or.inl (by omega))).trans ((u22 _ _ (Or.inl (by omega))).trans ((u21 _ _ (Or.inl (by omega))).trans ((u20 _ _ (Or.inl (by omega))).trans ((u19 _ _ (Or.inl (by omega))).trans ((u18 _ _ (Or.inl (by omega))).trans ((u17 _ _ (Or.inl (by omega))).trans ((u16 _ _ (Or.inl (by omega))).trans ((c15 k (by omega) (by omega)).trans (congrArg (fun t => rd h14 (o + 5) t) (show (0 : Int).toNat + (k - (0 : Int).toNat) = k by omega))))))))))).trans (u14 _ _ (Or.inl (by omega)))).trans (u13 _ _ (Or.inl (by omega)))).trans (u12 _ _ (Or.inl (by omega)))).trans (u11 _ _ (Or.inl (by omega)))).trans (u10.2 _ _ (Or.inl (by omega)))).trans (u8.2 _ _ (Or.inl (by omega)))).trans (u6.2 _ _ (Or.inl (by omega)))).trans (u4.2 _ _ (Or.inl (by omega)))).trans (u2.2 _ _ (Or.inl (by omega)))), (fun k hk => (((((((((((u23 _ _ (Or.inl (by omega))).trans ((u22 _ _ (Or.inl (by omega))).trans ((u21 _ _ (Or.inl (by omega))).trans ((u20 _ _ (Or.inl (by omega))).trans ((u19 _ _ (Or.inl (by omega))).trans ((u18 _ _ (Or.inl (by omega))).trans ((u17 _ _ (Or.inl (by omega))).trans ((c16 k (by omega) (by omega)).trans (congrArg (fun t => rd h15 (o + 6) t) (show (0 : Int).toNat + (k - (0 : Int).toNat) = k by omega)))))))))).trans (u15 _ _ (Or.inl (by omega)))).trans (u14 _ _ (Or.inl (by omega)))).trans (u13 _ _ (Or.inl (by omega)))).trans (u12 _ _ (Or.inl (by omega)))).trans (u11 _ _ (Or.inl (by omega)))).trans (u10.2 _ _ (Or.inl (by omega)))).trans (u8.2 _ _ (Or.inl (by omega)))).trans (u6.2 _ _ (Or.inl (by omega)))).trans (u4.2 _ _ (Or.inl (by omega)))).trans (u2.2 _ _ (Or.inl (by omega)))), (fun k hk => ((((((((((((u23 _ _ (Or.inl (by omega))).trans ((u22 _ _ (Or.inl (by omega))).trans ((u21 _ _ (Or.inl (by omega))).trans ((u20 _ _ (Or.inl (by omega))).trans ((u19 _ _ (Or.inl (by omega))).trans ((u18 _ _ (Or.inl (by omega))).trans ((c17 k (by omega) (by omega)).trans (congrArg (fun t => rd h16 (o + 7) t) (show (0 : Int).toNat + (k - (0 : Int).toNat) = k by omega))))))))).trans (u16 _ _ (Or.inl (by omega)))).trans (u15 _ _ (Or.inl (by omega)))).trans (u14 _ _ (Or.inl (by omega)))).trans (u13 _ _ (Or.inl (by omega)))).trans (u12 _ _ (Or.inl (by omega)))).trans (u11 _ _ (Or.inl (by omega)))).trans (u10.2 _ _ (Or.inl (by omega)))).trans (u8.2 _ _ (Or.inl (by omega)))).trans (u6.2 _ _ (Or.inl (by omega)))).trans (u4.2 _ _ (Or.inl (by omega)))).trans (u2.2 _ _ (Or.inl (by omega)))), (fun k hk => (((((((((((((u23 _ _ (Or.inl (by omega))).trans ((u22 _ _ (Or.inl (by omega))).trans ((u21 _ _ (Or.inl (by omega))).trans ((u20 _ _ (Or.inl (by omega))).trans ((u19 _ _ (Or.inl (by omega))).trans ((c18 k (by omega) (by omega)).trans (congrArg (fun t => rd h17 (o + 8) t) (show (0 : Int).toNat + (k - (0 : Int).toNat) = k by omega)))))))).trans (u17 _ _ (Or.inl (by omega)))).trans (u16 _ _ (Or.inl (by omega)))).trans (u15 _ _ (Or.inl (by omega)))).trans (u14 _ _ (Or.inl (by omega)))).trans (u13 _ _ (Or.inl (by omega)))).trans (u12 _ _ (Or.inl (by omega)))).trans (u11 _ _ (Or.inl (by omega)))).trans (u10.2 _ _ (Or.inl (by omega)))).trans (u8.2 _ _ (Or.inl (by omega)))).trans (u6.2 _ _ (Or.inl (by omega)))).trans (u4.2 _ _ (Or.inl (by omega)))).trans (u2.2 _ _ (Or.inl (by omega)))), (fun k hk => ((((((((((((((u23 _ _ (Or.inl (by omega))).trans ((u22 _ _ (Or.inl (by omega))).trans ((u21 _ _ (Or.inl (by omega))).trans ((u20 _ _ (Or.inl (by omega))).trans ((c19 k (by omega) (by omega)).trans (congrArg (fun t => rd h18 (o + 9) t) (show (0 : Int).toNat + (k - (0 : Int).toNat) = k by omega))))))).trans (u18 _ _ (Or.inl (by omega)))).trans (u17 _ _ (Or.inl (by omega)))).trans (u16 _ _ (Or.inl (by omega)))).trans (u15 _ _ (Or.inl (by omega)))).trans (u14 _ _ (Or.inl (by omega)))).trans (u13 _ _ (Or.inl (by omega)))).trans (u12 _ _ (Or.inl (by omega)))).trans (u11 _ _ (Or.inl (by omega)))).trans (u10.2 _ _ (Or.inl (by omega)))).trans (u8.2 _ _ (Or.inl (by omega)))).trans (u6.2 _ _ (Or.inl (by omega)))).trans (u4.2 _ _ (Or.inl (by omega)))).trans (u2.2 _ _ (Or.inl (by omega)))), (fun k hk => (((((((((((((((u23 _ _ (Or.inl (by omega))).trans ((u22 _ _ (Or.inl (by omega))).trans ((u21 _ _ (Or.inl (by omega))).trans ((c20 k (by omega) (by omega)).trans (congrArg (fun t => rd h19 (o + 10) t) (show (0 : Int).toNat + (k - (0 : Int).toNat) = k by omega)))))).trans (u19 _ _ (Or.inl (by omega)))).trans (u18 _ _ (Or.inl (by omega)))).trans (u17 _ _ (Or.inl (by omega)))).trans (u16 _ _ (Or.inl (by omega)))).trans (u15 _ _ (Or.inl (by omega)))).trans (u14 _ _ (Or.inl (by omega)))).trans (u13 _ _ (Or.inl (by omega)))).trans (u12 _ _ (Or.inl (by omega)))).trans (u11 _ _ (Or.inl (by omega)))).trans (u10.2 _ _ (Or.inl (by omega)))).trans (u8.2 _ _ (Or.inl (by omega)))).trans (u6.2 _ _ (Or.inl (by omega)))).trans (u4.2 _ _ (Or.inl (by omega)))).trans (u2.2 _ _ (Or.inl (by omega)))), (fun k hk => ((((((((((((((((u23 _ _ (Or.inl (by omega))).trans ((u22 _ _ (Or.inl (by omega))).trans ((c21 k (by omega) (by omega)).trans (congrArg (fun t => rd h20 (o + 11) t) (show (0 : Int).toNat + (k - (0 : Int).toNat) = k by omega))))).trans (u20 _ _ (Or.inl (by omega)))).trans (u19 _ _ (Or.inl (by omega)))).trans (u18 _ _ (Or.inl (by omega)))).trans (u17 _ _ (Or.inl (by omega)))).trans (u16 _ _ (Or.inl (by omega)))).trans (u15 _ _ (Or.inl (by omega)))).trans (u14 _ _ (Or.inl (by omega)))).trans (u13 _ _ (Or.inl (by omega)))).trans (u12 _ _ (Or.inl (by omega)))).trans (u11 _ _ (Or.inl (by omega)))).trans (u10.2 _ _ (Or.inl (by omega)))).trans (u8.2 _ _ (Or.inl (by omega)))).trans (u6.2 _ _ (Or.inl (by omega)))).trans (u4.2 _ _ (Or.inl (by omega)))).trans (u2.2 _ _ (Or.inl (by omega)))), (fun k hk => (((((((((((((((((u23 _ _ (Or.inl (by omega))).trans ((c22 k (by omega) (by omega)).trans (congrArg (fun t => rd h21 (o + 12) t) (show (0 : Int).toNat + (k - (0 : Int).toNat) = k by omega)))).trans (u21 _ _ (Or.inl (by omega)))).trans (u20 _ _ (Or.inl (by omega)))).trans (u19 _ _ (Or.inl (by omega)))).trans (u18 _ _ (Or.inl (by omega)))).trans (u17 _ _ (Or.inl (by omega)))).trans (u16 _ _ (Or.inl (by omega)))).trans (u15 _ _ (Or.inl (by omega)))).trans (u14 _ _ (Or.inl (by omega)))).trans (u13 _ _ (Or.inl (by omega)))).trans (u12 _ _ (Or.inl (by omega)))).trans (u11 _ _ (Or.inl (by omega)))).trans (u10.2 _ _ (Or.inl (by omega)))).trans (u8.2 _ _ (Or.inl (by omega)))).trans (u6.2 _ _ (Or.inl (by omega)))).trans (u4.2 _ _ (Or.inl (by omega)))).trans (u2.2 _ _ (Or.inl (by omega)))), (fun k hk => ((((((((((((((((((c23 k (by omega) (by omega)).trans (congrArg (fun t => rd h22 (o + 13) t) (show (0 : Int).toNat + (k - (0 : Int).toNat) = k by omega))).trans (u22 _ _ (Or.inl (by omega)))).trans (u21 _ _ (Or.inl (by omega)))).trans (u20 _ _ (Or.inl (by omega)))).trans (u19 _ _ (Or.inl (by omega)))).trans (u18 _ _ (Or.inl (by omega)))).trans (u17 _ _ (Or.inl (by omega)))).trans (u16 _ _ (Or.inl (by omega)))).trans (u15 _ _ (Or.inl (by omega)))).trans (u14 _ _ (Or.inl (by omega)))).trans (u13 _ _ (Or.inl (by omega)))).trans (u12 _ _ (Or.inl (by omega)))).trans (u11 _ _ (Or.inl (by omega)))).trans (u10.2 _ _ (Or.inl (by omega)))).trans (u8.2 _ _ (Or.inl (by omega)))).trans (u6.2 _ _ (Or.inl (by omega)))).trans (u4.2 _ _ (Or.inl (by omega)))).trans (u2.2 _ _ (Or.inl (by omega))))⟩
abbrev Q1_image (y : Int32) (h h2 : im_H) : Prop := rd h 23 0 = some (.int y) ∧ bec 51 23 h h2 ∧ rd h2 0 4 = some (.int 1)
set_option maxRecDepth 20000 in
set_option maxHeartbeats 4000000 in
theorem c_X11_image  {h : im_H} (hI : tI h)  : CaP 2 102 [.ref 16] h (fun v h2 => tI h2 ∧ fr F_X11_image h h2 ∧ ∃ y : Int32, v = some (.int y) ∧ Q1_image y h h2) := by
  refine cap_of (d := 1) (M := mX11_image) rfl (Nat.le_of_ble_eq_true rfl) ?_
  show EvP im_K0 1 mX11_image (0, [(0, .ref 16)], [], h) _
  have f0 : fr F_X11_image h h := fr_rf
  refine te_aload_n (p2 := 1) rfl rfl rfl ?_
  refine tg_r (p2 := 4) (i := 0) (r := 67) rfl rfl hI rfl rfl rfl ?_
  refine te_aload_n (p2 := 5) rfl rfl rfl ?_
  refine tg_r (p2 := 8) (i := 0) (r := 39) rfl rfl hI rfl rfl rfl ?_
  obtain ⟨v2, e2, y2, w2, a2, b2, _⟩ := hI.2.1 23 0 (.inl ((-2147483648), 2147483647, 9999999999)) rfl
  subst w2
  refine tc_V (p2 := 11) (i := 51) rfl rfl rfl rfl hI rfl rfl rfl (c_X9_become (s := 51) (o := 23) hI (by decide) (by decide)) (by decide) (fun v1 h1 hq1 => ?_)
  obtain ⟨I1, g1, w1, B1⟩ := hq1
  subst w1
  have f1 := fr_tr (F1 := (F_X9_become 51 23)) (F := F_X11_image) f0 g1 (by decide)
  show EvP _ _ _ (11, [(0, .ref 16)], [], h1) _
  refine te_aload_n (p2 := 12) rfl rfl rfl ?_
  refine te_iconst (p2 := 13) (x := 1) rfl rfl (by decide) ?_
  refine tp_i (p2 := 16) (i := 0) rfl rfl I1 rfl rfl (by decide) rfl rfl rfl (by decide) (by decide) (by decide) rfl (fun h3 I3 u3 => ?_)
  have f3 := fr_st (F := F_X11_image) 0 f1 u3 rfl (by decide) (by decide)
  refine te_aload_n (p2 := 17) rfl rfl rfl ?_
  refine tg_r (p2 := 20) (i := 0) (r := 39) rfl rfl I3 rfl rfl rfl ?_
  refine tg_e (p2 := 23) (i := 23) (v := .int y2) rfl rfl I3 rfl rfl ((u3.2 _ _ (Or.inl (by decide))).trans ((g1 _ _ rfl).trans e2)) ?_
  exact te_iret rfl rfl ⟨I3, f3, _, rfl, e2, (bec_r B1 (fun i k _ _ => u3.2 _ _ (Or.inl (by omega)))), u3.1⟩
abbrev Q1_back (y : Int32) (h h2 : im_H) : Prop := ∃ b : Int32, rd h 0 4 = some (.int b) ∧ ((b.toInt = 0 ∧ y = -3 ∧ h2 = h) ∨ (b.toInt ≠ 0 ∧ rd h 51 0 = some (.int y) ∧ bec 23 51 h h2))
set_option maxRecDepth 20000 in
set_option maxHeartbeats 4000000 in
theorem c_X11_back  {h : im_H} (hI : tI h)  : CaP 2 103 [.ref 16] h (fun v h2 => tI h2 ∧ fr F_X11_back h h2 ∧ ∃ y : Int32, v = some (.int y) ∧ Q1_back y h h2) := by
  refine cap_of (d := 1) (M := mX11_back) rfl (Nat.le_of_ble_eq_true rfl) ?_
  show EvP im_K0 1 mX11_back (0, [(0, .ref 16)], [], h) _
  have f0 : fr F_X11_back h h := fr_rf
  refine te_aload_n (p2 := 1) rfl rfl rfl ?_
  refine tg_i (p2 := 4) (i := 0) rfl rfl hI rfl rfl rfl (fun y1 a1 b1 e1 => ?_)
  refine tz_ne (p2 := 7) rfl rfl rfl (fun c2 => ?_) (fun c2 => ?_)
  · refine te_aload_n (p2 := 11) rfl rfl rfl ?_
    refine tg_r (p2 := 14) (i := 0) (r := 39) rfl rfl hI rfl rfl rfl ?_
    refine te_aload_n (p2 := 15) rfl rfl rfl ?_
    refine tg_r (p2 := 18) (i := 0) (r := 67) rfl rfl hI rfl rfl rfl ?_
    obtain ⟨v4, e4, y4, w4, a4, b4, _⟩ := hI.2.1 51 0 (.inl ((-2147483648), 2147483647, 9999999999)) rfl
    subst w4
    refine tc_V (p2 := 21) (i := 23) rfl rfl rfl rfl hI rfl rfl rfl (c_X9_become (s := 23) (o := 51) hI (by decide) (by decide)) (by decide) (fun v3 h3 hq3 => ?_)
    obtain ⟨I3, g3, w3, B3⟩ := hq3
    subst w3
    have f3 := fr_tr (F1 := (F_X9_become 23 51)) (F := F_X11_back) f0 g3 (by decide)
    show EvP _ _ _ (21, [(0, .ref 16)], [], h3) _
    refine te_aload_n (p2 := 22) rfl rfl rfl ?_
    refine tg_r (p2 := 25) (i := 0) (r := 39) rfl rfl I3 rfl rfl rfl ?_
    refine tg_e (p2 := 28) (i := 23) (v := .int y4) rfl rfl I3 rfl rfl (B3.1.1.trans e4) ?_
    exact te_iret rfl rfl ⟨I3, f3, _, rfl, y1, e1, Or.inr ⟨by omega, e4, B3⟩⟩
  · refine te_bipush (p2 := 9) (x := (-3)) rfl rfl (by decide) ?_
    exact te_iret rfl rfl ⟨hI, f0, _, rfl, y1, e1, Or.inl ⟨by omega, rfl, rfl⟩⟩
abbrev Q2_image (y : Int32) (h h2 : im_H) : Prop := rd h 149 105 = some (.int y) ∧ (∀ k : Nat, (k : Int) < 283 → rd h2 151 k = rd h 149 k) ∧ rd h2 148 3 = some (.int 1)
set_option maxRecDepth 20000 in
set_option maxHeartbeats 4000000 in
theorem c_X12_image  {h : im_H} (hI : tI h)  : CaP 1 189 [.ref 164] h (fun v h2 => tI h2 ∧ fr F_X12_image h h2 ∧ ∃ y : Int32, v = some (.int y) ∧ Q2_image y h h2) := by
  refine cap_of (d := 0) (M := mX12_image) rfl (Nat.le_of_ble_eq_true rfl) ?_
  show EvP im_K0 0 mX12_image (0, [(0, .ref 164)], [], h) _
  have f0 : fr F_X12_image h h := fr_rf
  refine te_iconst (p2 := 1) (x := 0) rfl rfl (by decide) ?_
  refine te_istore_n (p2 := 2) (lv2 := [(1, .int 0), (0, .ref 164)]) rfl rfl (by decide) rfl ?_
  have lp1 : ∀ (n1 : Nat) (v1_1 : Int32) (h1 : im_H), tI h1 → fr F_X12_image h h1 → 0 ≤ v1_1.toInt → v1_1.toInt ≤ 283 → (∀ k : Nat, (k : Int) < v1_1.toInt → rd h1 151 k = rd h 149 k) → 283 - v1_1.toInt < (n1 : Int) → EvP im_K0 0 mX12_image (2, [(0, .ref 164), (1, .int v1_1)], [], h1) (fun v h2 => tI h2 ∧ fr F_X12_image h h2 ∧ ∃ y : Int32, v = some (.int y) ∧ Q2_image y h h2) := by
    intro n1
    induction n1 with
    | zero => intro v1_1 h1 I1 f1 a1_1 b1_1 w1_0 m1; exfalso; omega
    | succ n1 ih1 =>
      intro v1_1 h1 I1 f1 a1_1 b1_1 w1_0 m1
      refine te_iload_n (p2 := 3) rfl rfl rfl ?_
      refine te_sipush (p2 := 6) (x := 283) rfl rfl (by decide) ?_
      refine tb_ge (p2 := 9) rfl rfl rfl (show Int32.toInt 283 = 283 from rfl) (fun c2 => ?_) (fun c2 => ?_)
      · refine te_aload_n (p2 := 28) rfl rfl rfl ?_
        refine te_iconst (p2 := 29) (x := 1) rfl rfl (by decide) ?_
        refine tp_i (p2 := 32) (i := 148) rfl rfl I1 rfl rfl (by decide) rfl rfl rfl (by decide) (by decide) (by decide) rfl (fun h3 I3 u3 => ?_)
        have f3 := fr_st (F := F_X12_image) 0 f1 u3 rfl (by decide) (by decide)
        refine te_aload_n (p2 := 33) rfl rfl rfl ?_
        refine tg_r (p2 := 36) (i := 148) (r := 165) rfl rfl I3 rfl rfl rfl ?_
        refine te_bipush (p2 := 38) (x := 105) rfl rfl (by decide) ?_
        refine tl_i (p2 := 39) (i := 149) (n := 283) rfl rfl I3 rfl rfl rfl rfl (by decide) (by decide) (fun y4 a4 b4 g4 e4 => ?_)
        exact te_iret rfl rfl ⟨I3, f3, _, rfl, ((f3 149 105 rfl).symm.trans e4), (fun k hk => (u3.2 _ _ (Or.inl (by decide))).trans (w1_0 k (by omega))), u3.1⟩
      · refine te_aload_n (p2 := 10) rfl rfl rfl ?_
        refine tg_r (p2 := 13) (i := 148) (r := 167) rfl rfl I1 rfl rfl rfl ?_
        refine te_iload_n (p2 := 14) rfl rfl rfl ?_
        refine te_aload_n (p2 := 15) rfl rfl rfl ?_
        refine tg_r (p2 := 18) (i := 148) (r := 165) rfl rfl I1 rfl rfl rfl ?_
        refine te_iload_n (p2 := 19) rfl rfl rfl ?_
        refine tl_i (p2 := 20) (i := 149) (n := 283) rfl rfl I1 rfl rfl rfl rfl (by omega) (by omega) (fun y5 a5 b5 g5 e5 => ?_)
        refine ts_i (p2 := 21) (i := 151) (n := 283) rfl rfl I1 rfl rfl rfl rfl (by omega) (by omega) (i32_lo _) (i32_hi _) (i32_ho _) rfl (fun h6 I6 u6 => ?_)
        have f6 := fr_st (F := F_X12_image) 1 f1 u6 rfl (by omega) (by omega)
        refine ar_inc (p2 := 24) (x := v1_1) rfl rfl (by decide) rfl (by decide) rfl (by omega) (by omega) (fun z7 e7 f7 => ?_)
        show EvP _ _ _ (24, [(1, .int z7), (0, .ref 164)], [], h6) _
        refine te_goto rfl ?_
        refine te_lv [(0, .ref 164), (1, .int z7)] rfl rfl ⟨rfl, rfl, trivial⟩ ?_
        exact ih1 z7 h6 I6 f6 (by omega) (by omega) (fun k hk => by (by_cases hc : k = v1_1.toInt.toNat); (· rw [hc]; exact u6.1.trans ((((u6.2 _ _ (Or.inl (by decide))).trans e5)).symm.trans (f6 149 _ rfl))); (· exact (u6.2 _ _ (Or.inr hc)).trans (w1_0 k (by omega)))) (by omega)
  refine te_lv [(0, .ref 164), (1, .int 0)] rfl rfl ⟨rfl, rfl, trivial⟩ ?_
  exact lp1 284 0 h hI f0 (by decide) (by decide) (fun k hk => by exfalso; have := (show Int32.toInt 0 = 0 from rfl); omega) (by have cc0 := (show Int32.toInt 0 = 0 from rfl); omega)
abbrev Q2_back (y : Int32) (h h2 : im_H) : Prop := ∃ b : Int32, rd h 148 3 = some (.int b) ∧ ((b.toInt = 0 ∧ y = -3 ∧ h2 = h) ∨ (b.toInt ≠ 0 ∧ rd h 151 105 = some (.int y) ∧ (∀ k : Nat, (k : Int) < 283 → rd h2 149 k = rd h 151 k)))
set_option maxRecDepth 20000 in
set_option maxHeartbeats 4000000 in
theorem c_X12_back  {h : im_H} (hI : tI h)  : CaP 1 190 [.ref 164] h (fun v h2 => tI h2 ∧ fr F_X12_back h h2 ∧ ∃ y : Int32, v = some (.int y) ∧ Q2_back y h h2) := by
  refine cap_of (d := 0) (M := mX12_back) rfl (Nat.le_of_ble_eq_true rfl) ?_
  show EvP im_K0 0 mX12_back (0, [(0, .ref 164)], [], h) _
  have f0 : fr F_X12_back h h := fr_rf
  refine te_aload_n (p2 := 1) rfl rfl rfl ?_
  refine tg_i (p2 := 4) (i := 148) rfl rfl hI rfl rfl rfl (fun y1 a1 b1 e1 => ?_)
  refine tz_ne (p2 := 7) rfl rfl rfl (fun c2 => ?_) (fun c2 => ?_)
  · refine te_iconst (p2 := 11) (x := 0) rfl rfl (by decide) ?_
    refine te_istore_n (p2 := 12) (lv2 := [(1, .int 0), (0, .ref 164)]) rfl rfl (by decide) rfl ?_
    have lp3 : ∀ (n3 : Nat) (v3_1 : Int32) (h3 : im_H), tI h3 → fr F_X12_back h h3 → 0 ≤ v3_1.toInt → v3_1.toInt ≤ 283 → (∀ k : Nat, (k : Int) < v3_1.toInt → rd h3 149 k = rd h 151 k) → 283 - v3_1.toInt < (n3 : Int) → EvP im_K0 0 mX12_back (12, [(0, .ref 164), (1, .int v3_1)], [], h3) (fun v h2 => tI h2 ∧ fr F_X12_back h h2 ∧ ∃ y : Int32, v = some (.int y) ∧ Q2_back y h h2) := by
      intro n3
      induction n3 with
      | zero => intro v3_1 h3 I3 f3 a3_1 b3_1 w3_0 m3; exfalso; omega
      | succ n3 ih3 =>
        intro v3_1 h3 I3 f3 a3_1 b3_1 w3_0 m3
        refine te_iload_n (p2 := 13) rfl rfl rfl ?_
        refine te_sipush (p2 := 16) (x := 283) rfl rfl (by decide) ?_
        refine tb_ge (p2 := 19) rfl rfl rfl (show Int32.toInt 283 = 283 from rfl) (fun c4 => ?_) (fun c4 => ?_)
        · refine te_aload_n (p2 := 38) rfl rfl rfl ?_
          refine tg_r (p2 := 41) (i := 148) (r := 165) rfl rfl I3 rfl rfl rfl ?_
          refine te_bipush (p2 := 43) (x := 105) rfl rfl (by decide) ?_
          refine tl_i (p2 := 44) (i := 149) (n := 283) rfl rfl I3 rfl rfl rfl rfl (by decide) (by decide) (fun y5 a5 b5 g5 e5 => ?_)
          exact te_iret rfl rfl ⟨I3, f3, _, rfl, y1, e1, Or.inr ⟨by omega, (w3_0 105 (by omega)).symm.trans e5, (fun k hk => w3_0 k (by omega))⟩⟩
        · refine te_aload_n (p2 := 20) rfl rfl rfl ?_
          refine tg_r (p2 := 23) (i := 148) (r := 165) rfl rfl I3 rfl rfl rfl ?_
          refine te_iload_n (p2 := 24) rfl rfl rfl ?_
          refine te_aload_n (p2 := 25) rfl rfl rfl ?_
          refine tg_r (p2 := 28) (i := 148) (r := 167) rfl rfl I3 rfl rfl rfl ?_
          refine te_iload_n (p2 := 29) rfl rfl rfl ?_
          refine tl_i (p2 := 30) (i := 151) (n := 283) rfl rfl I3 rfl rfl rfl rfl (by omega) (by omega) (fun y6 a6 b6 g6 e6 => ?_)
          refine ts_i (p2 := 31) (i := 149) (n := 283) rfl rfl I3 rfl rfl rfl rfl (by omega) (by omega) (i32_lo _) (i32_hi _) (i32_ho _) rfl (fun h7 I7 u7 => ?_)
          have f7 := fr_st (F := F_X12_back) 0 f3 u7 rfl (by omega) (by omega)
          refine ar_inc (p2 := 34) (x := v3_1) rfl rfl (by decide) rfl (by decide) rfl (by omega) (by omega) (fun z8 e8 f8 => ?_)
          show EvP _ _ _ (34, [(1, .int z8), (0, .ref 164)], [], h7) _
          refine te_goto rfl ?_
          refine te_lv [(0, .ref 164), (1, .int z8)] rfl rfl ⟨rfl, rfl, trivial⟩ ?_
          exact ih3 z8 h7 I7 f7 (by omega) (by omega) (fun k hk => by (by_cases hc : k = v3_1.toInt.toNat); (· rw [hc]; exact u7.1.trans ((((u7.2 _ _ (Or.inl (by decide))).trans e6)).symm.trans (f7 151 _ rfl))); (· exact (u7.2 _ _ (Or.inr hc)).trans (w3_0 k (by omega)))) (by omega)
    refine te_lv [(0, .ref 164), (1, .int 0)] rfl rfl ⟨rfl, rfl, trivial⟩ ?_
    exact lp3 284 0 h hI f0 (by decide) (by decide) (fun k hk => by exfalso; have := (show Int32.toInt 0 = 0 from rfl); omega) (by have cc0 := (show Int32.toInt 0 = 0 from rfl); omega)
  · refine te_bipush (p2 := 9) (x := (-3)) rfl rfl (by decide) ?_
    exact te_iret rfl rfl ⟨hI, f0, _, rfl, y1, e1, Or.inl ⟨by omega, rfl, rfl⟩⟩
set_option maxRecDepth 20000 in
set_option maxHeartbeats 4000000 in
theorem c_X12_lays {back : Int32} {h : im_H} (hI : tI h) (p_back0 : 0 ≤ back.toInt) (p_back1 : back.toInt ≤ 1) : CaP 1 186 [.ref 164, .int back] h (fun v h2 => tI h2 ∧ fr F_X12_lays h h2 ∧ v = none ∧ (back.toInt = 0 → (∀ k : Nat, (k : Int) < 283 → rd h2 150 k = rd h 149 k) ∧ ∀ k : Nat, rd h2 149 k = rd h 149 k) ∧ (back.toInt ≠ 0 → (∀ k : Nat, (k : Int) < 283 → rd h2 149 k = rd h 150 k) ∧ ∀ k : Nat, rd h2 150 k = rd h 150 k)) := by
  refine cap_of (d := 0) (M := mX12_lays) rfl (Nat.le_of_ble_eq_true rfl) ?_
  show EvP im_K0 0 mX12_lays (0, [(0, .ref 164), (1, .int back)], [], h) _
  have f0 : fr F_X12_lays h h := fr_rf
  refine te_iconst (p2 := 1) (x := 0) rfl rfl (by decide) ?_
  refine te_istore_n (p2 := 2) (lv2 := [(2, .int 0), (0, .ref 164), (1, .int back)]) rfl rfl (by decide) rfl ?_
  have lp1 : ∀ (n1 : Nat) (v1_2 : Int32) (h1 : im_H), tI h1 → fr F_X12_lays h h1 → 0 ≤ v1_2.toInt → v1_2.toInt ≤ 283 → ((back.toInt = 0 → (∀ k : Nat, (k : Int) < v1_2.toInt → rd h1 150 k = rd h 149 k) ∧ ∀ k : Nat, rd h1 149 k = rd h 149 k) ∧ (back.toInt ≠ 0 → (∀ k : Nat, (k : Int) < v1_2.toInt → rd h1 149 k = rd h 150 k) ∧ ∀ k : Nat, rd h1 150 k = rd h 150 k)) → 283 - v1_2.toInt < (n1 : Int) → EvP im_K0 0 mX12_lays (2, [(0, .ref 164), (1, .int back), (2, .int v1_2)], [], h1) (fun v h2 => tI h2 ∧ fr F_X12_lays h h2 ∧ v = none ∧ (back.toInt = 0 → (∀ k : Nat, (k : Int) < 283 → rd h2 150 k = rd h 149 k) ∧ ∀ k : Nat, rd h2 149 k = rd h 149 k) ∧ (back.toInt ≠ 0 → (∀ k : Nat, (k : Int) < 283 → rd h2 149 k = rd h 150 k) ∧ ∀ k : Nat, rd h2 150 k = rd h 150 k)) := by
    intro n1
    induction n1 with
    | zero => intro v1_2 h1 I1 f1 a1_2 b1_2 w1_0 m1; exfalso; omega
    | succ n1 ih1 =>
      intro v1_2 h1 I1 f1 a1_2 b1_2 w1_0 m1
      refine te_iload_n (p2 := 3) rfl rfl rfl ?_
      refine te_sipush (p2 := 6) (x := 283) rfl rfl (by decide) ?_
      refine tb_ge (p2 := 9) rfl rfl rfl (show Int32.toInt 283 = 283 from rfl) (fun c2 => ?_) (fun c2 => ?_)
      · exact te_vret rfl rfl ⟨I1, f1, rfl, ⟨fun hb => ⟨fun k hk => (w1_0.1 hb).1 k (by omega), (w1_0.1 hb).2⟩, fun hb => ⟨fun k hk => (w1_0.2 hb).1 k (by omega), (w1_0.2 hb).2⟩⟩⟩
      · refine te_iload_n (p2 := 10) rfl rfl rfl ?_
        refine tz_eq (p2 := 13) rfl rfl rfl (fun c3 => ?_) (fun c3 => ?_)
        · refine te_aload_n (p2 := 29) rfl rfl rfl ?_
          refine tg_r (p2 := 32) (i := 148) (r := 166) rfl rfl I1 rfl rfl rfl ?_
          refine te_iload_n (p2 := 33) rfl rfl rfl ?_
          refine te_aload_n (p2 := 34) rfl rfl rfl ?_
          refine tg_r (p2 := 37) (i := 148) (r := 165) rfl rfl I1 rfl rfl rfl ?_
          refine te_iload_n (p2 := 38) rfl rfl rfl ?_
          refine tl_i (p2 := 39) (i := 149) (n := 283) rfl rfl I1 rfl rfl rfl rfl (by omega) (by omega) (fun y4 a4 b4 g4 e4 => ?_)
          refine ts_i (p2 := 40) (i := 150) (n := 283) rfl rfl I1 rfl rfl rfl rfl (by omega) (by omega) (i32_lo _) (i32_hi _) (i32_ho _) rfl (fun h5 I5 u5 => ?_)
          have f5 := fr_st (F := F_X12_lays) 1 f1 u5 rfl (by omega) (by omega)
          refine ar_inc (p2 := 43) (x := v1_2) rfl rfl (by decide) rfl (by decide) rfl (by omega) (by omega) (fun z6 e6 f6 => ?_)
          show EvP _ _ _ (43, [(2, .int z6), (0, .ref 164), (1, .int back)], [], h5) _
          refine te_goto rfl ?_
          refine te_lv [(0, .ref 164), (1, .int back), (2, .int z6)] rfl rfl ⟨rfl, rfl, rfl, trivial⟩ ?_
          exact ih1 z6 h5 I5 f5 (by omega) (by omega) ⟨fun hb => ⟨fun k hk => by (by_cases hc : k = v1_2.toInt.toNat); (· rw [hc]; exact u5.1.trans ((((u5.2 _ _ (Or.inl (by decide))).trans e4)).symm.trans ((u5.2 _ _ (Or.inl (by decide))).trans ((w1_0.1 hb).2 _)))); (· exact (u5.2 _ _ (Or.inr hc)).trans ((w1_0.1 hb).1 k (by omega))), fun k => (u5.2 _ _ (Or.inl (by decide))).trans ((w1_0.1 hb).2 k)⟩, fun hb => absurd (by omega) hb⟩ (by omega)
        · refine te_aload_n (p2 := 14) rfl rfl rfl ?_
          refine tg_r (p2 := 17) (i := 148) (r := 165) rfl rfl I1 rfl rfl rfl ?_
          refine te_iload_n (p2 := 18) rfl rfl rfl ?_
          refine te_aload_n (p2 := 19) rfl rfl rfl ?_
          refine tg_r (p2 := 22) (i := 148) (r := 166) rfl rfl I1 rfl rfl rfl ?_
          refine te_iload_n (p2 := 23) rfl rfl rfl ?_
          refine tl_i (p2 := 24) (i := 150) (n := 283) rfl rfl I1 rfl rfl rfl rfl (by omega) (by omega) (fun y7 a7 b7 g7 e7 => ?_)
          refine ts_i (p2 := 25) (i := 149) (n := 283) rfl rfl I1 rfl rfl rfl rfl (by omega) (by omega) (i32_lo _) (i32_hi _) (i32_ho _) rfl (fun h8 I8 u8 => ?_)
          have f8 := fr_st (F := F_X12_lays) 0 f1 u8 rfl (by omega) (by omega)
          refine te_goto rfl ?_
          refine ar_inc (p2 := 43) (x := v1_2) rfl rfl (by decide) rfl (by decide) rfl (by omega) (by omega) (fun z9 e9 f9 => ?_)
          show EvP _ _ _ (43, [(2, .int z9), (0, .ref 164), (1, .int back)], [], h8) _
          refine te_goto rfl ?_
          refine te_lv [(0, .ref 164), (1, .int back), (2, .int z9)] rfl rfl ⟨rfl, rfl, rfl, trivial⟩ ?_
          exact ih1 z9 h8 I8 f8 (by omega) (by omega) ⟨fun hb => absurd hb (by omega), fun hb => ⟨fun k hk => by (by_cases hc : k = v1_2.toInt.toNat); (· rw [hc]; exact u8.1.trans ((((u8.2 _ _ (Or.inl (by decide))).trans e7)).symm.trans ((u8.2 _ _ (Or.inl (by decide))).trans ((w1_0.2 hb).2 _)))); (· exact (u8.2 _ _ (Or.inr hc)).trans ((w1_0.2 hb).1 k (by omega))), fun k => (u8.2 _ _ (Or.inl (by decide))).trans ((w1_0.2 hb).2 k)⟩⟩ (by omega)
  refine te_lv [(0, .ref 164), (1, .int back), (2, .int 0)] rfl rfl ⟨rfl, rfl, rfl, trivial⟩ ?_
  exact lp1 284 0 h hI f0 (by decide) (by decide) ⟨fun _ => ⟨(fun k hk => by exfalso; have := (show Int32.toInt 0 = 0 from rfl); omega), fun k => rfl⟩, fun _ => ⟨(fun k hk => by exfalso; have := (show Int32.toInt 0 = 0 from rfl); omega), fun k => rfl⟩⟩ (by have cc0 := (show Int32.toInt 0 = 0 from rfl); omega)
abbrev Q2_beside (x1 x2 : Int32) (y : Int64) (h h2 : im_H) : Prop := ∀ k : Nat, (k : Int) < 283 → rd h2 149 k = rd h 149 k
set_option maxRecDepth 20000 in
set_option maxHeartbeats 4000000 in
theorem c_X12_beside {x1 : Int32} {x2 : Int32} {h : im_H} (hI : tI h)  : CaP 9 187 [.ref 164, .int x1, .int x2] h (fun v h2 => tI h2 ∧ fr F_X12_beside h h2 ∧ ∃ y : Int64, v = some (.long y) ∧ Q2_beside x1 x2 y h h2) := by
  refine cap_of (d := 8) (M := mX12_beside) rfl (Nat.le_of_ble_eq_true rfl) ?_
  show EvP im_K0 8 mX12_beside (0, [(0, .ref 164), (1, .int x1), (2, .int x2)], [], h) _
  have f0 : fr F_X12_beside h h := fr_rf
  refine te_iload_n (p2 := 1) rfl rfl rfl ?_
  refine te_iconst (p2 := 2) (x := 1) rfl rfl (by decide) ?_
  refine te_bipush (p2 := 4) (x := 60) rfl rfl (by decide) ?_
  refine cS_pI (p2 := 7) rfl rfl rfl rfl (t_X12_in (n := x1) (a := 1) (b := 60) hI ) (by decide) (fun y1 r1 => ?_)
  rcases r1 with ⟨w1, c1⟩ | ⟨w1, c1⟩
  · subst w1
    have cc1_1 := (show Int32.toInt 1 = 1 from rfl)
    have cc1_2 := (show Int32.toInt 60 = 60 from rfl)
    refine tz_eq (p2 := 10) rfl rfl (show Int32.toInt 1 = 1 from rfl) (fun c2 => absurd c2 (by omega)) (fun c2 => ?_)
    refine te_iload_n (p2 := 11) rfl rfl rfl ?_
    refine te_iconst (p2 := 12) (x := 0) rfl rfl (by decide) ?_
    refine te_iconst (p2 := 13) (x := 3) rfl rfl (by decide) ?_
    refine cS_pI (p2 := 16) rfl rfl rfl rfl (t_X12_in (n := x2) (a := 0) (b := 3) hI ) (by decide) (fun y3 r3 => ?_)
    rcases r3 with ⟨w3, c3⟩ | ⟨w3, c3⟩
    · subst w3
      have cc3_1 := (show Int32.toInt 0 = 0 from rfl)
      have cc3_2 := (show Int32.toInt 3 = 3 from rfl)
      refine tz_eq (p2 := 19) rfl rfl (show Int32.toInt 1 = 1 from rfl) (fun c4 => absurd c4 (by omega)) (fun c4 => ?_)
      refine te_aload_n (p2 := 20) rfl rfl rfl ?_
      refine tg_r (p2 := 23) (i := 148) (r := 165) rfl rfl hI rfl rfl rfl ?_
      refine te_bipush (p2 := 25) (x := 105) rfl rfl (by decide) ?_
      refine tl_i (p2 := 26) (i := 149) (n := 283) rfl rfl hI rfl rfl rfl rfl (by decide) (by decide) (fun y5 a5 b5 g5 e5 => ?_)
      refine te_iload_n (p2 := 27) rfl rfl rfl ?_
      refine au_add (p2 := 28) rfl rfl (fun z6 e6 => ?_)
      refine te_sipush (p2 := 31) (x := 2000) rfl rfl (by decide) ?_
      refine tb_le (p2 := 34) rfl rfl rfl (show Int32.toInt 2000 = 2000 from rfl) (fun c7 => ?_) (fun c7 => ?_)
      · refine te_aload_n (p2 := 39) rfl rfl rfl ?_
        refine te_iconst (p2 := 40) (x := 0) rfl rfl (by decide) ?_
        refine tc_V (p2 := 43) (i := 148) rfl rfl rfl rfl hI rfl rfl rfl (c_X12_lays (back := 0) hI (by decide) (by decide)) (by decide) (fun v8 h8 hq8 => ?_)
        obtain ⟨I8, g8, w8, L8⟩ := hq8
        subst w8
        have f8 := fr_tr (F1 := F_X12_lays) (F := F_X12_beside) f0 g8 (by decide)
        show EvP _ _ _ (43, [(0, .ref 164), (1, .int x1), (2, .int x2)], [], h8) _
        refine te_iload_n (p2 := 44) rfl rfl rfl ?_
        refine te_iconst (p2 := 45) (x := 1) rfl rfl (by decide) ?_
        refine tb_ne (p2 := 48) rfl rfl rfl (show Int32.toInt 1 = 1 from rfl) (fun c9 => ?_) (fun c9 => ?_)
        · refine te_iload_n (p2 := 59) rfl rfl rfl ?_
          refine te_iconst (p2 := 60) (x := 2) rfl rfl (by decide) ?_
          refine tb_ne (p2 := 63) rfl rfl rfl (show Int32.toInt 2 = 2 from rfl) (fun c10 => ?_) (fun c10 => ?_)
          · refine te_iconst (p2 := 78) (x := 0) rfl rfl (by decide) ?_
            refine te_istore_n (p2 := 79) (lv2 := [(3, .int 0), (0, .ref 164), (1, .int x1), (2, .int x2)]) rfl rfl (by decide) rfl ?_
            refine te_iconst (p2 := 80) (x := 0) rfl rfl (by decide) ?_
            refine te_istore (p2 := 82) (lv2 := [(4, .int 0), (3, .int 0), (0, .ref 164), (1, .int x1), (2, .int x2)]) rfl rfl (by decide) rfl ?_
            have lp11 : ∀ (n11 : Nat) (v11_4 : Int32) (h11 : im_H), tI h11 → fr F_X12_beside h h11 → 0 ≤ v11_4.toInt → v11_4.toInt ≤ 60 → v11_4.toInt ≤ x1.toInt → (∀ k : Nat, (k : Int) < 283 → rd h11 150 k = rd h 149 k) → x1.toInt - v11_4.toInt < (n11 : Int) → EvP im_K0 8 mX12_beside (82, [(0, .ref 164), (1, .int x1), (2, .int x2), (3, .int 0), (4, .int v11_4)], [], h11) (fun v h2 => tI h2 ∧ fr F_X12_beside h h2 ∧ ∃ y : Int64, v = some (.long y) ∧ Q2_beside x1 x2 y h h2) := by
              intro n11
              induction n11 with
              | zero => intro v11_4 h11 I11 f11 a11_4 b11_4 l11_0 w11_0 m11; exfalso; omega
              | succ n11 ih11 =>
                intro v11_4 h11 I11 f11 a11_4 b11_4 l11_0 w11_0 m11
                refine te_iload (p2 := 84) rfl rfl rfl ?_
                refine te_iload_n (p2 := 85) rfl rfl rfl ?_
                refine tb_ge (p2 := 88) rfl rfl rfl rfl (fun c12 => ?_) (fun c12 => ?_)
                · refine te_iload_n (p2 := 99) rfl rfl rfl ?_
                  refine tz_ne (p2 := 102) rfl rfl rfl (fun c13 => ?_) (fun c13 => ?_)
                  · refine te_iload_n (p2 := 113) rfl rfl rfl ?_
                    refine te_iconst (p2 := 114) (x := 1) rfl rfl (by decide) ?_
                    refine tb_ne (p2 := 117) rfl rfl rfl (show Int32.toInt 1 = 1 from rfl) (fun c14 => ?_) (fun c14 => ?_)
                    · refine te_iload_n (p2 := 130) rfl rfl rfl ?_
                      refine te_iconst (p2 := 131) (x := 2) rfl rfl (by decide) ?_
                      refine tb_ne (p2 := 134) rfl rfl rfl (show Int32.toInt 2 = 2 from rfl) (fun c15 => ?_) (fun c15 => ?_)
                      · refine te_aload_n (p2 := 151) rfl rfl rfl ?_
                        refine te_sipush (p2 := 154) (x := 164) rfl rfl (by decide) ?_
                        refine te_aload_n (p2 := 155) rfl rfl rfl ?_
                        refine tg_i (p2 := 158) (i := 148) rfl rfl I11 rfl rfl rfl (fun y16 a16 b16 e16 => ?_)
                        refine cV_pI (p2 := 161) (i := 148) rfl rfl rfl rfl I11 rfl rfl rfl (t_X12_sum (frm := 164) (many := y16) I11 (by decide) (by decide) (by omega) (by omega) (by have cq1 := (show Int32.toInt 164 = 164 from rfl); omega)) (by decide) (fun y17 r17 => ?_)
                        refine te_istore (p2 := 163) (lv2 := [(4, .int y17), (0, .ref 164), (1, .int x1), (2, .int x2), (3, .int 0)]) rfl rfl (by decide) rfl ?_
                        refine te_aload_n (p2 := 164) rfl rfl rfl ?_
                        refine te_iconst (p2 := 165) (x := 1) rfl rfl (by decide) ?_
                        refine tc_V (p2 := 168) (i := 148) rfl rfl rfl rfl I11 rfl rfl rfl (c_X12_lays (back := 1) I11 (by decide) (by decide)) (by decide) (fun v18 h18 hq18 => ?_)
                        obtain ⟨I18, g18, w18, L18⟩ := hq18
                        subst w18
                        have f18 := fr_tr (F1 := F_X12_lays) (F := F_X12_beside) f11 g18 (by decide)
                        show EvP _ _ _ (168, [(4, .int y17), (0, .ref 164), (1, .int x1), (2, .int x2), (3, .int 0)], [], h18) _
                        refine te_iload (p2 := 170) rfl rfl rfl ?_
                        refine te_i2l (p2 := 171) (z := (Int32.toInt64 y17)) rfl rfl rfl ?_
                        exact te_lret rfl rfl ⟨I18, f18, _, rfl, (fun k hk => ((L18.2 (by decide)).1 k hk).trans (w11_0 k hk))⟩
                      · refine te_aload_n (p2 := 135) rfl rfl rfl ?_
                        refine te_sipush (p2 := 138) (x := 236) rfl rfl (by decide) ?_
                        refine te_aload_n (p2 := 139) rfl rfl rfl ?_
                        refine tg_i (p2 := 142) (i := 148) rfl rfl I11 rfl rfl rfl (fun y19 a19 b19 e19 => ?_)
                        refine cV_pI (p2 := 145) (i := 148) rfl rfl rfl rfl I11 rfl rfl rfl (t_X12_sum (frm := 236) (many := y19) I11 (by decide) (by decide) (by omega) (by omega) (by have cq1 := (show Int32.toInt 236 = 236 from rfl); omega)) (by decide) (fun y20 r20 => ?_)
                        refine te_iload_n (p2 := 146) rfl rfl rfl ?_
                        have n21_y20 := i32_lo y20
                        have o21_y20 := i32_hi y20
                        refine ar_sub (p2 := 147) rfl rfl rfl (show Int32.toInt 0 = 0 from rfl) (by omega) (by omega) (fun z21 e21 f21 => ?_)
                        refine te_goto rfl ?_
                        refine te_istore (p2 := 163) (lv2 := [(4, .int z21), (0, .ref 164), (1, .int x1), (2, .int x2), (3, .int 0)]) rfl rfl (by decide) rfl ?_
                        refine te_aload_n (p2 := 164) rfl rfl rfl ?_
                        refine te_iconst (p2 := 165) (x := 1) rfl rfl (by decide) ?_
                        refine tc_V (p2 := 168) (i := 148) rfl rfl rfl rfl I11 rfl rfl rfl (c_X12_lays (back := 1) I11 (by decide) (by decide)) (by decide) (fun v22 h22 hq22 => ?_)
                        obtain ⟨I22, g22, w22, L22⟩ := hq22
                        subst w22
                        have f22 := fr_tr (F1 := F_X12_lays) (F := F_X12_beside) f11 g22 (by decide)
                        show EvP _ _ _ (168, [(4, .int z21), (0, .ref 164), (1, .int x1), (2, .int x2), (3, .int 0)], [], h22) _
                        refine te_iload (p2 := 170) rfl rfl rfl ?_
                        refine te_i2l (p2 := 171) (z := (Int32.toInt64 z21)) rfl rfl rfl ?_
                        exact te_lret rfl rfl ⟨I22, f22, _, rfl, (fun k hk => ((L22.2 (by decide)).1 k hk).trans (w11_0 k hk))⟩
                    · refine te_aload_n (p2 := 118) rfl rfl rfl ?_
                      refine tg_r (p2 := 121) (i := 148) (r := 165) rfl rfl I11 rfl rfl rfl ?_
                      refine te_bipush (p2 := 123) (x := 100) rfl rfl (by decide) ?_
                      refine tl_i (p2 := 124) (i := 149) (n := 283) rfl rfl I11 rfl rfl rfl rfl (by decide) (by decide) (fun y23 a23 b23 g23 e23 => ?_)
                      refine te_iload_n (p2 := 125) rfl rfl rfl ?_
                      have n24_y23 := i32_lo y23
                      have o24_y23 := i32_hi y23
                      refine ar_sub (p2 := 126) rfl rfl rfl (show Int32.toInt 0 = 0 from rfl) (by omega) (by omega) (fun z24 e24 f24 => ?_)
                      refine te_goto rfl ?_
                      refine te_istore (p2 := 163) (lv2 := [(4, .int z24), (0, .ref 164), (1, .int x1), (2, .int x2), (3, .int 0)]) rfl rfl (by decide) rfl ?_
                      refine te_aload_n (p2 := 164) rfl rfl rfl ?_
                      refine te_iconst (p2 := 165) (x := 1) rfl rfl (by decide) ?_
                      refine tc_V (p2 := 168) (i := 148) rfl rfl rfl rfl I11 rfl rfl rfl (c_X12_lays (back := 1) I11 (by decide) (by decide)) (by decide) (fun v25 h25 hq25 => ?_)
                      obtain ⟨I25, g25, w25, L25⟩ := hq25
                      subst w25
                      have f25 := fr_tr (F1 := F_X12_lays) (F := F_X12_beside) f11 g25 (by decide)
                      show EvP _ _ _ (168, [(4, .int z24), (0, .ref 164), (1, .int x1), (2, .int x2), (3, .int 0)], [], h25) _
                      refine te_iload (p2 := 170) rfl rfl rfl ?_
                      refine te_i2l (p2 := 171) (z := (Int32.toInt64 z24)) rfl rfl rfl ?_
                      exact te_lret rfl rfl ⟨I25, f25, _, rfl, (fun k hk => ((L25.2 (by decide)).1 k hk).trans (w11_0 k hk))⟩
                  · refine te_aload_n (p2 := 103) rfl rfl rfl ?_
                    refine te_iconst (p2 := 104) (x := 0) rfl rfl (by decide) ?_
                    refine te_bipush (p2 := 106) (x := 100) rfl rfl (by decide) ?_
                    refine cV_pI (p2 := 109) (i := 148) rfl rfl rfl rfl I11 rfl rfl rfl (t_X12_sum (frm := 0) (many := 100) I11 (by decide) (by decide) (by decide) (by decide) (by have cq1 := (show Int32.toInt 0 = 0 from rfl); have cq2 := (show Int32.toInt 100 = 100 from rfl); omega)) (by decide) (fun y26 r26 => ?_)
                    refine te_goto rfl ?_
                    refine te_istore (p2 := 163) (lv2 := [(4, .int y26), (0, .ref 164), (1, .int x1), (2, .int x2), (3, .int 0)]) rfl rfl (by decide) rfl ?_
                    refine te_aload_n (p2 := 164) rfl rfl rfl ?_
                    refine te_iconst (p2 := 165) (x := 1) rfl rfl (by decide) ?_
                    refine tc_V (p2 := 168) (i := 148) rfl rfl rfl rfl I11 rfl rfl rfl (c_X12_lays (back := 1) I11 (by decide) (by decide)) (by decide) (fun v27 h27 hq27 => ?_)
                    obtain ⟨I27, g27, w27, L27⟩ := hq27
                    subst w27
                    have f27 := fr_tr (F1 := F_X12_lays) (F := F_X12_beside) f11 g27 (by decide)
                    show EvP _ _ _ (168, [(4, .int y26), (0, .ref 164), (1, .int x1), (2, .int x2), (3, .int 0)], [], h27) _
                    refine te_iload (p2 := 170) rfl rfl rfl ?_
                    refine te_i2l (p2 := 171) (z := (Int32.toInt64 y26)) rfl rfl rfl ?_
                    exact te_lret rfl rfl ⟨I27, f27, _, rfl, (fun k hk => ((L27.2 (by decide)).1 k hk).trans (w11_0 k hk))⟩
                · refine te_aload_n (p2 := 89) rfl rfl rfl ?_
                  refine cV_mV (p2 := 92) (i := 148) rfl rfl rfl rfl I11 rfl rfl rfl (t_X12_goes  I11 ) (by decide) (fun h28 I28 g28 => ?_)
                  have f28 := fr_tr (F1 := F_X12_goes) (F := F_X12_beside) f11 g28 (by decide)
                  refine ar_inc (p2 := 95) (x := v11_4) rfl rfl (by decide) rfl (by decide) rfl (by omega) (by omega) (fun z29 e29 f29 => ?_)
                  show EvP _ _ _ (95, [(4, .int z29), (0, .ref 164), (1, .int x1), (2, .int x2), (3, .int 0)], [], h28) _
                  refine te_goto rfl ?_
                  refine te_lv [(0, .ref 164), (1, .int x1), (2, .int x2), (3, .int 0), (4, .int z29)] rfl rfl ⟨rfl, rfl, rfl, rfl, rfl, trivial⟩ ?_
                  exact ih11 z29 h28 I28 f28 (by omega) (by omega) (by have cc0 := (show Int32.toInt 0 = 0 from rfl); omega) (fun k hk => (g28 150 _ rfl).trans (w11_0 k hk)) (by have cc0 := (show Int32.toInt 0 = 0 from rfl); omega)
            refine te_lv [(0, .ref 164), (1, .int x1), (2, .int x2), (3, .int 0), (4, .int 0)] rfl rfl ⟨rfl, rfl, rfl, rfl, rfl, trivial⟩ ?_
            exact lp11 61 0 h8 I8 f8 (by decide) (by decide) (by have cc0 := (show Int32.toInt 0 = 0 from rfl); omega) (L8.1 (by decide)).1 (by have cc0 := (show Int32.toInt 0 = 0 from rfl); omega)
          · refine te_aload_n (p2 := 64) rfl rfl rfl ?_
            refine te_sipush (p2 := 67) (x := 236) rfl rfl (by decide) ?_
            refine te_aload_n (p2 := 68) rfl rfl rfl ?_
            refine tg_i (p2 := 71) (i := 148) rfl rfl I8 rfl rfl rfl (fun y30 a30 b30 e30 => ?_)
            refine cV_pI (p2 := 74) (i := 148) rfl rfl rfl rfl I8 rfl rfl rfl (t_X12_sum (frm := 236) (many := y30) I8 (by decide) (by decide) (by omega) (by omega) (by have cq1 := (show Int32.toInt 236 = 236 from rfl); omega)) (by decide) (fun y31 r31 => ?_)
            refine te_goto rfl ?_
            refine te_istore_n (p2 := 79) (lv2 := [(3, .int y31), (0, .ref 164), (1, .int x1), (2, .int x2)]) rfl rfl (by decide) rfl ?_
            refine te_iconst (p2 := 80) (x := 0) rfl rfl (by decide) ?_
            refine te_istore (p2 := 82) (lv2 := [(4, .int 0), (3, .int y31), (0, .ref 164), (1, .int x1), (2, .int x2)]) rfl rfl (by decide) rfl ?_
            have lp32 : ∀ (n32 : Nat) (v32_4 : Int32) (h32 : im_H), tI h32 → fr F_X12_beside h h32 → 0 ≤ v32_4.toInt → v32_4.toInt ≤ 60 → v32_4.toInt ≤ x1.toInt → (∀ k : Nat, (k : Int) < 283 → rd h32 150 k = rd h 149 k) → x1.toInt - v32_4.toInt < (n32 : Int) → EvP im_K0 8 mX12_beside (82, [(0, .ref 164), (1, .int x1), (2, .int x2), (3, .int y31), (4, .int v32_4)], [], h32) (fun v h2 => tI h2 ∧ fr F_X12_beside h h2 ∧ ∃ y : Int64, v = some (.long y) ∧ Q2_beside x1 x2 y h h2) := by
              intro n32
              induction n32 with
              | zero => intro v32_4 h32 I32 f32 a32_4 b32_4 l32_0 w32_0 m32; exfalso; omega
              | succ n32 ih32 =>
                intro v32_4 h32 I32 f32 a32_4 b32_4 l32_0 w32_0 m32
                refine te_iload (p2 := 84) rfl rfl rfl ?_
                refine te_iload_n (p2 := 85) rfl rfl rfl ?_
                refine tb_ge (p2 := 88) rfl rfl rfl rfl (fun c33 => ?_) (fun c33 => ?_)
                · refine te_iload_n (p2 := 99) rfl rfl rfl ?_
                  refine tz_ne (p2 := 102) rfl rfl rfl (fun c34 => ?_) (fun c34 => absurd c34 (by omega))
                  refine te_iload_n (p2 := 113) rfl rfl rfl ?_
                  refine te_iconst (p2 := 114) (x := 1) rfl rfl (by decide) ?_
                  refine tb_ne (p2 := 117) rfl rfl rfl (show Int32.toInt 1 = 1 from rfl) (fun c35 => ?_) (fun c35 => absurd c35 (by omega))
                  refine te_iload_n (p2 := 130) rfl rfl rfl ?_
                  refine te_iconst (p2 := 131) (x := 2) rfl rfl (by decide) ?_
                  refine tb_ne (p2 := 134) rfl rfl rfl (show Int32.toInt 2 = 2 from rfl) (fun c36 => absurd c36 (by omega)) (fun c36 => ?_)
                  refine te_aload_n (p2 := 135) rfl rfl rfl ?_
                  refine te_sipush (p2 := 138) (x := 236) rfl rfl (by decide) ?_
                  refine te_aload_n (p2 := 139) rfl rfl rfl ?_
                  refine tg_i (p2 := 142) (i := 148) rfl rfl I32 rfl rfl rfl (fun y37 a37 b37 e37 => ?_)
                  refine cV_pI (p2 := 145) (i := 148) rfl rfl rfl rfl I32 rfl rfl rfl (t_X12_sum (frm := 236) (many := y37) I32 (by decide) (by decide) (by omega) (by omega) (by have cq1 := (show Int32.toInt 236 = 236 from rfl); omega)) (by decide) (fun y38 r38 => ?_)
                  refine te_iload_n (p2 := 146) rfl rfl rfl ?_
                  refine au_sub (p2 := 147) rfl rfl (fun z39 e39 => ?_)
                  refine te_goto rfl ?_
                  refine te_istore (p2 := 163) (lv2 := [(4, .int z39), (0, .ref 164), (1, .int x1), (2, .int x2), (3, .int y31)]) rfl rfl (by decide) rfl ?_
                  refine te_aload_n (p2 := 164) rfl rfl rfl ?_
                  refine te_iconst (p2 := 165) (x := 1) rfl rfl (by decide) ?_
                  refine tc_V (p2 := 168) (i := 148) rfl rfl rfl rfl I32 rfl rfl rfl (c_X12_lays (back := 1) I32 (by decide) (by decide)) (by decide) (fun v40 h40 hq40 => ?_)
                  obtain ⟨I40, g40, w40, L40⟩ := hq40
                  subst w40
                  have f40 := fr_tr (F1 := F_X12_lays) (F := F_X12_beside) f32 g40 (by decide)
                  show EvP _ _ _ (168, [(4, .int z39), (0, .ref 164), (1, .int x1), (2, .int x2), (3, .int y31)], [], h40) _
                  refine te_iload (p2 := 170) rfl rfl rfl ?_
                  refine te_i2l (p2 := 171) (z := (Int32.toInt64 z39)) rfl rfl rfl ?_
                  exact te_lret rfl rfl ⟨I40, f40, _, rfl, (fun k hk => ((L40.2 (by decide)).1 k hk).trans (w32_0 k hk))⟩
                · refine te_aload_n (p2 := 89) rfl rfl rfl ?_
                  refine cV_mV (p2 := 92) (i := 148) rfl rfl rfl rfl I32 rfl rfl rfl (t_X12_goes  I32 ) (by decide) (fun h41 I41 g41 => ?_)
                  have f41 := fr_tr (F1 := F_X12_goes) (F := F_X12_beside) f32 g41 (by decide)
                  refine ar_inc (p2 := 95) (x := v32_4) rfl rfl (by decide) rfl (by decide) rfl (by omega) (by omega) (fun z42 e42 f42 => ?_)
                  show EvP _ _ _ (95, [(4, .int z42), (0, .ref 164), (1, .int x1), (2, .int x2), (3, .int y31)], [], h41) _
                  refine te_goto rfl ?_
                  refine te_lv [(0, .ref 164), (1, .int x1), (2, .int x2), (3, .int y31), (4, .int z42)] rfl rfl ⟨rfl, rfl, rfl, rfl, rfl, trivial⟩ ?_
                  exact ih32 z42 h41 I41 f41 (by omega) (by omega) (by omega) (fun k hk => (g41 150 _ rfl).trans (w32_0 k hk)) (by omega)
            refine te_lv [(0, .ref 164), (1, .int x1), (2, .int x2), (3, .int y31), (4, .int 0)] rfl rfl ⟨rfl, rfl, rfl, rfl, rfl, trivial⟩ ?_
            exact lp32 61 0 h8 I8 f8 (by decide) (by decide) (by have cc0 := (show Int32.toInt 0 = 0 from rfl); omega) (L8.1 (by decide)).1 (by have cc0 := (show Int32.toInt 0 = 0 from rfl); omega)
        · refine te_aload_n (p2 := 49) rfl rfl rfl ?_
          refine tg_r (p2 := 52) (i := 148) (r := 165) rfl rfl I8 rfl rfl rfl ?_
          refine te_bipush (p2 := 54) (x := 100) rfl rfl (by decide) ?_
          refine tl_i (p2 := 55) (i := 149) (n := 283) rfl rfl I8 rfl rfl rfl rfl (by decide) (by decide) (fun y43 a43 b43 g43 e43 => ?_)
          refine te_goto rfl ?_
          refine te_istore_n (p2 := 79) (lv2 := [(3, .int y43), (0, .ref 164), (1, .int x1), (2, .int x2)]) rfl rfl (by decide) rfl ?_
          refine te_iconst (p2 := 80) (x := 0) rfl rfl (by decide) ?_
          refine te_istore (p2 := 82) (lv2 := [(4, .int 0), (3, .int y43), (0, .ref 164), (1, .int x1), (2, .int x2)]) rfl rfl (by decide) rfl ?_
          have lp44 : ∀ (n44 : Nat) (v44_4 : Int32) (h44 : im_H), tI h44 → fr F_X12_beside h h44 → 0 ≤ v44_4.toInt → v44_4.toInt ≤ 60 → v44_4.toInt ≤ x1.toInt → (∀ k : Nat, (k : Int) < 283 → rd h44 150 k = rd h 149 k) → x1.toInt - v44_4.toInt < (n44 : Int) → EvP im_K0 8 mX12_beside (82, [(0, .ref 164), (1, .int x1), (2, .int x2), (3, .int y43), (4, .int v44_4)], [], h44) (fun v h2 => tI h2 ∧ fr F_X12_beside h h2 ∧ ∃ y : Int64, v = some (.long y) ∧ Q2_beside x1 x2 y h h2) := by
            intro n44
            induction n44 with
            | zero => intro v44_4 h44 I44 f44 a44_4 b44_4 l44_0 w44_0 m44; exfalso; omega
            | succ n44 ih44 =>
              intro v44_4 h44 I44 f44 a44_4 b44_4 l44_0 w44_0 m44
              refine te_iload (p2 := 84) rfl rfl rfl ?_
              refine te_iload_n (p2 := 85) rfl rfl rfl ?_
              refine tb_ge (p2 := 88) rfl rfl rfl rfl (fun c45 => ?_) (fun c45 => ?_)
              · refine te_iload_n (p2 := 99) rfl rfl rfl ?_
                refine tz_ne (p2 := 102) rfl rfl rfl (fun c46 => ?_) (fun c46 => absurd c46 (by omega))
                refine te_iload_n (p2 := 113) rfl rfl rfl ?_
                refine te_iconst (p2 := 114) (x := 1) rfl rfl (by decide) ?_
                refine tb_ne (p2 := 117) rfl rfl rfl (show Int32.toInt 1 = 1 from rfl) (fun c47 => absurd c47 (by omega)) (fun c47 => ?_)
                refine te_aload_n (p2 := 118) rfl rfl rfl ?_
                refine tg_r (p2 := 121) (i := 148) (r := 165) rfl rfl I44 rfl rfl rfl ?_
                refine te_bipush (p2 := 123) (x := 100) rfl rfl (by decide) ?_
                refine tl_i (p2 := 124) (i := 149) (n := 283) rfl rfl I44 rfl rfl rfl rfl (by decide) (by decide) (fun y48 a48 b48 g48 e48 => ?_)
                refine te_iload_n (p2 := 125) rfl rfl rfl ?_
                refine au_sub (p2 := 126) rfl rfl (fun z49 e49 => ?_)
                refine te_goto rfl ?_
                refine te_istore (p2 := 163) (lv2 := [(4, .int z49), (0, .ref 164), (1, .int x1), (2, .int x2), (3, .int y43)]) rfl rfl (by decide) rfl ?_
                refine te_aload_n (p2 := 164) rfl rfl rfl ?_
                refine te_iconst (p2 := 165) (x := 1) rfl rfl (by decide) ?_
                refine tc_V (p2 := 168) (i := 148) rfl rfl rfl rfl I44 rfl rfl rfl (c_X12_lays (back := 1) I44 (by decide) (by decide)) (by decide) (fun v50 h50 hq50 => ?_)
                obtain ⟨I50, g50, w50, L50⟩ := hq50
                subst w50
                have f50 := fr_tr (F1 := F_X12_lays) (F := F_X12_beside) f44 g50 (by decide)
                show EvP _ _ _ (168, [(4, .int z49), (0, .ref 164), (1, .int x1), (2, .int x2), (3, .int y43)], [], h50) _
                refine te_iload (p2 := 170) rfl rfl rfl ?_
                refine te_i2l (p2 := 171) (z := (Int32.toInt64 z49)) rfl rfl rfl ?_
                exact te_lret rfl rfl ⟨I50, f50, _, rfl, (fun k hk => ((L50.2 (by decide)).1 k hk).trans (w44_0 k hk))⟩
              · refine te_aload_n (p2 := 89) rfl rfl rfl ?_
                refine cV_mV (p2 := 92) (i := 148) rfl rfl rfl rfl I44 rfl rfl rfl (t_X12_goes  I44 ) (by decide) (fun h51 I51 g51 => ?_)
                have f51 := fr_tr (F1 := F_X12_goes) (F := F_X12_beside) f44 g51 (by decide)
                refine ar_inc (p2 := 95) (x := v44_4) rfl rfl (by decide) rfl (by decide) rfl (by omega) (by omega) (fun z52 e52 f52 => ?_)
                show EvP _ _ _ (95, [(4, .int z52), (0, .ref 164), (1, .int x1), (2, .int x2), (3, .int y43)], [], h51) _
                refine te_goto rfl ?_
                refine te_lv [(0, .ref 164), (1, .int x1), (2, .int x2), (3, .int y43), (4, .int z52)] rfl rfl ⟨rfl, rfl, rfl, rfl, rfl, trivial⟩ ?_
                exact ih44 z52 h51 I51 f51 (by omega) (by omega) (by omega) (fun k hk => (g51 150 _ rfl).trans (w44_0 k hk)) (by omega)
          refine te_lv [(0, .ref 164), (1, .int x1), (2, .int x2), (3, .int y43), (4, .int 0)] rfl rfl ⟨rfl, rfl, rfl, rfl, rfl, trivial⟩ ?_
          exact lp44 61 0 h8 I8 f8 (by decide) (by decide) (by have cc0 := (show Int32.toInt 0 = 0 from rfl); omega) (L8.1 (by decide)).1 (by have cc0 := (show Int32.toInt 0 = 0 from rfl); omega)
      · refine te_ldc2 (p2 := 37) (x := (-4611686018427387904)) rfl rfl rfl ?_
        exact te_lret rfl rfl ⟨hI, f0, _, rfl, (fun k hk => rfl)⟩
    · subst w3
      have cc3_1 := (show Int32.toInt 0 = 0 from rfl)
      have cc3_2 := (show Int32.toInt 3 = 3 from rfl)
      refine tz_eq (p2 := 19) rfl rfl (show Int32.toInt 0 = 0 from rfl) (fun c53 => ?_) (fun c53 => absurd c53 (by omega))
      refine te_ldc2 (p2 := 37) (x := (-4611686018427387904)) rfl rfl rfl ?_
      exact te_lret rfl rfl ⟨hI, f0, _, rfl, (fun k hk => rfl)⟩
  · subst w1
    have cc1_1 := (show Int32.toInt 1 = 1 from rfl)
    have cc1_2 := (show Int32.toInt 60 = 60 from rfl)
    refine tz_eq (p2 := 10) rfl rfl (show Int32.toInt 0 = 0 from rfl) (fun c54 => ?_) (fun c54 => absurd c54 (by omega))
    refine te_ldc2 (p2 := 37) (x := (-4611686018427387904)) rfl rfl rfl ?_
    exact te_lret rfl rfl ⟨hI, f0, _, rfl, (fun k hk => rfl)⟩
abbrev Q1_beside (x1 x2 : Int32) (y : Int64) (h h2 : im_H) : Prop := True
set_option maxRecDepth 20000 in
set_option maxHeartbeats 4000000 in
theorem c_X11_beside {x1 : Int32} {x2 : Int32} {h : im_H} (hI : tI h)  : CaP 8 100 [.ref 16, .int x1, .int x2] h (fun v h2 => tI h2 ∧ fr F_X11_beside h h2 ∧ ∃ y : Int64, v = some (.long y) ∧ Q1_beside x1 x2 y h h2) := by
  refine cap_of (d := 7) (M := mX11_beside) rfl (Nat.le_of_ble_eq_true rfl) ?_
  show EvP im_K0 7 mX11_beside (0, [(0, .ref 16), (1, .int x1), (2, .int x2)], [], h) _
  have f0 : fr F_X11_beside h h := fr_rf
  refine te_iload_n (p2 := 1) rfl rfl rfl ?_
  refine te_iconst (p2 := 2) (x := 1) rfl rfl (by decide) ?_
  refine te_bipush (p2 := 4) (x := 60) rfl rfl (by decide) ?_
  refine cS_pI (p2 := 7) rfl rfl rfl rfl (t_X11_between (n := x1) (a := 1) (b := 60) hI ) (by decide) (fun y1 r1 => ?_)
  rcases r1 with ⟨w1, c1⟩ | ⟨w1, c1⟩
  · subst w1
    have cc1_1 := (show Int32.toInt 1 = 1 from rfl)
    have cc1_2 := (show Int32.toInt 60 = 60 from rfl)
    refine tz_eq (p2 := 10) rfl rfl (show Int32.toInt 1 = 1 from rfl) (fun c2 => absurd c2 (by omega)) (fun c2 => ?_)
    refine te_iload_n (p2 := 11) rfl rfl rfl ?_
    refine te_iconst (p2 := 12) (x := 4) rfl rfl (by decide) ?_
    refine cS_pI (p2 := 15) rfl rfl rfl rfl (t_X11_within (n := x2) (b := 4) hI ) (by decide) (fun y3 r3 => ?_)
    rcases r3 with ⟨w3, c3⟩ | ⟨w3, c3⟩
    · subst w3
      have cc3_1 := (show Int32.toInt 4 = 4 from rfl)
      refine tz_eq (p2 := 18) rfl rfl (show Int32.toInt 1 = 1 from rfl) (fun c4 => absurd c4 (by omega)) (fun c4 => ?_)
      refine te_aload_n (p2 := 19) rfl rfl rfl ?_
      refine tg_r (p2 := 22) (i := 0) (r := 39) rfl rfl hI rfl rfl rfl ?_
      refine tg_i (p2 := 25) (i := 23) rfl rfl hI rfl rfl rfl (fun y5 a5 b5 e5 => ?_)
      refine te_iload_n (p2 := 26) rfl rfl rfl ?_
      refine au_add (p2 := 27) rfl rfl (fun z6 e6 => ?_)
      refine te_sipush (p2 := 30) (x := 2000) rfl rfl (by decide) ?_
      refine tb_le (p2 := 33) rfl rfl rfl (show Int32.toInt 2000 = 2000 from rfl) (fun c7 => ?_) (fun c7 => ?_)
      · refine te_aload_n (p2 := 38) rfl rfl rfl ?_
        refine tg_r (p2 := 41) (i := 0) (r := 53) rfl rfl hI rfl rfl rfl ?_
        refine te_aload_n (p2 := 42) rfl rfl rfl ?_
        refine tg_r (p2 := 45) (i := 0) (r := 39) rfl rfl hI rfl rfl rfl ?_
        refine cV_mV (p2 := 48) (i := 37) rfl rfl rfl rfl hI rfl rfl rfl (t_X9_become (s := 37) (o := 23) hI (by decide) (by decide)) (by decide) (fun h8 I8 g8 => ?_)
        have f8 := fr_tr (F1 := (F_X9_become 37 23)) (F := F_X11_beside) f0 g8 (by decide)
        refine te_iconst (p2 := 49) (x := 0) rfl rfl (by decide) ?_
        refine te_istore_n (p2 := 50) (lv2 := [(3, .int 0), (0, .ref 16), (1, .int x1), (2, .int x2)]) rfl rfl (by decide) rfl ?_
        have lp9 : ∀ (n9 : Nat) (v9_3 : Int32) (h9 : im_H), tI h9 → fr F_X11_beside h h9 → 0 ≤ v9_3.toInt → v9_3.toInt ≤ 60 → v9_3.toInt ≤ x1.toInt → x1.toInt - v9_3.toInt < (n9 : Int) → EvP im_K0 7 mX11_beside (50, [(0, .ref 16), (1, .int x1), (2, .int x2), (3, .int v9_3)], [], h9) (fun v h2 => tI h2 ∧ fr F_X11_beside h h2 ∧ ∃ y : Int64, v = some (.long y) ∧ Q1_beside x1 x2 y h h2) := by
          intro n9
          induction n9 with
          | zero => intro v9_3 h9 I9 f9 a9_3 b9_3 l9_0 m9; exfalso; omega
          | succ n9 ih9 =>
            intro v9_3 h9 I9 f9 a9_3 b9_3 l9_0 m9
            refine te_iload_n (p2 := 51) rfl rfl rfl ?_
            refine te_iload_n (p2 := 52) rfl rfl rfl ?_
            refine tb_ge (p2 := 55) rfl rfl rfl rfl (fun c10 => ?_) (fun c10 => ?_)
            · refine te_iload_n (p2 := 73) rfl rfl rfl ?_
              by_cases c11 : x2.toInt = 0
              · refine te_tsIn (k := 0) (p2 := 100) rfl c11 (by decide) (by decide) rfl (by decide) ?_
                refine te_aload_n (p2 := 101) rfl rfl rfl ?_
                refine tg_r (p2 := 104) (i := 0) (r := 53) rfl rfl I9 rfl rfl rfl ?_
                refine cV_pI (p2 := 107) (i := 37) rfl rfl rfl rfl I9 rfl rfl rfl (t_X9_allLoads (s := 37) I9 (by decide)) (by decide) (fun y12 r12 => ?_)
                refine te_i2l (p2 := 108) (z := (Int32.toInt64 y12)) rfl rfl rfl ?_
                exact te_lret rfl rfl ⟨I9, f9, _, rfl, trivial⟩
              · by_cases c13 : x2.toInt = 1
                · refine te_tsIn (k := 1) (p2 := 109) rfl c13 (by decide) (by decide) rfl (by decide) ?_
                  refine te_aload_n (p2 := 110) rfl rfl rfl ?_
                  refine tg_r (p2 := 113) (i := 0) (r := 53) rfl rfl I9 rfl rfl rfl ?_
                  refine tg_r (p2 := 116) (i := 37) (r := 54) rfl rfl I9 rfl rfl rfl ?_
                  refine te_iconst (p2 := 117) (x := 0) rfl rfl (by decide) ?_
                  refine tl_i (p2 := 118) (i := 38) (n := 3) rfl rfl I9 rfl rfl rfl rfl (by decide) (by decide) (fun y14 a14 b14 g14 e14 => ?_)
                  refine te_aload_n (p2 := 119) rfl rfl rfl ?_
                  refine tg_r (p2 := 122) (i := 0) (r := 39) rfl rfl I9 rfl rfl rfl ?_
                  refine tg_r (p2 := 125) (i := 23) (r := 40) rfl rfl I9 rfl rfl rfl ?_
                  refine te_iconst (p2 := 126) (x := 0) rfl rfl (by decide) ?_
                  refine tl_i (p2 := 127) (i := 24) (n := 3) rfl rfl I9 rfl rfl rfl rfl (by decide) (by decide) (fun y15 a15 b15 g15 e15 => ?_)
                  refine au_sub (p2 := 128) rfl rfl (fun z16 e16 => ?_)
                  refine te_i2l (p2 := 129) (z := (Int32.toInt64 z16)) rfl rfl rfl ?_
                  exact te_lret rfl rfl ⟨I9, f9, _, rfl, trivial⟩
                · by_cases c17 : x2.toInt = 2
                  · refine te_tsIn (k := 2) (p2 := 130) rfl c17 (by decide) (by decide) rfl (by decide) ?_
                    refine te_aload_n (p2 := 131) rfl rfl rfl ?_
                    refine tg_r (p2 := 134) (i := 0) (r := 53) rfl rfl I9 rfl rfl rfl ?_
                    refine cV_pI (p2 := 137) (i := 37) rfl rfl rfl rfl I9 rfl rfl rfl (t_X9_allDead (s := 37) I9 (by decide)) (by decide) (fun y18 r18 => ?_)
                    refine te_aload_n (p2 := 138) rfl rfl rfl ?_
                    refine tg_r (p2 := 141) (i := 0) (r := 39) rfl rfl I9 rfl rfl rfl ?_
                    refine cV_pI (p2 := 144) (i := 23) rfl rfl rfl rfl I9 rfl rfl rfl (t_X9_allDead (s := 23) I9 (by decide)) (by decide) (fun y19 r19 => ?_)
                    refine au_sub (p2 := 145) rfl rfl (fun z20 e20 => ?_)
                    refine te_i2l (p2 := 146) (z := (Int32.toInt64 z20)) rfl rfl rfl ?_
                    exact te_lret rfl rfl ⟨I9, f9, _, rfl, trivial⟩
                  · refine te_tsOut (p2 := 147) rfl (by omega) (by decide) ?_
                    refine te_aload_n (p2 := 148) rfl rfl rfl ?_
                    refine tg_r (p2 := 151) (i := 0) (r := 53) rfl rfl I9 rfl rfl rfl ?_
                    refine cV_pI (p2 := 154) (i := 37) rfl rfl rfl rfl I9 rfl rfl rfl (t_X9_allHurt (s := 37) I9 (by decide)) (by decide) (fun y21 r21 => ?_)
                    refine te_i2l (p2 := 155) (z := (Int32.toInt64 y21)) rfl rfl rfl ?_
                    exact te_lret rfl rfl ⟨I9, f9, _, rfl, trivial⟩
            · refine te_aload_n (p2 := 56) rfl rfl rfl ?_
              refine tg_r (p2 := 59) (i := 0) (r := 17) rfl rfl I9 rfl rfl rfl ?_
              refine te_aload_n (p2 := 60) rfl rfl rfl ?_
              refine tg_r (p2 := 63) (i := 0) (r := 53) rfl rfl I9 rfl rfl rfl ?_
              refine cV_mV (p2 := 66) (i := 1) rfl rfl rfl rfl I9 rfl rfl rfl (t_X0_playDay (s := 37) I9 (by decide)) (by decide) (fun h22 I22 g22 => ?_)
              have f22 := fr_tr (F1 := (F_X0_playDay 37)) (F := F_X11_beside) f9 g22 (by decide)
              refine ar_inc (p2 := 69) (x := v9_3) rfl rfl (by decide) rfl (by decide) rfl (by omega) (by omega) (fun z23 e23 f23 => ?_)
              show EvP _ _ _ (69, [(3, .int z23), (0, .ref 16), (1, .int x1), (2, .int x2)], [], h22) _
              refine te_goto rfl ?_
              refine te_lv [(0, .ref 16), (1, .int x1), (2, .int x2), (3, .int z23)] rfl rfl ⟨rfl, rfl, rfl, rfl, trivial⟩ ?_
              exact ih9 z23 h22 I22 f22 (by omega) (by omega) (by omega) (by omega)
        refine te_lv [(0, .ref 16), (1, .int x1), (2, .int x2), (3, .int 0)] rfl rfl ⟨rfl, rfl, rfl, rfl, trivial⟩ ?_
        exact lp9 61 0 h8 I8 f8 (by decide) (by decide) (by have cc0 := (show Int32.toInt 0 = 0 from rfl); omega) (by have cc0 := (show Int32.toInt 0 = 0 from rfl); omega)
      · refine te_ldc2 (p2 := 36) (x := (-4611686018427387904)) rfl rfl rfl ?_
        exact te_lret rfl rfl ⟨hI, f0, _, rfl, trivial⟩
    · subst w3
      have cc3_1 := (show Int32.toInt 4 = 4 from rfl)
      refine tz_eq (p2 := 18) rfl rfl (show Int32.toInt 0 = 0 from rfl) (fun c24 => ?_) (fun c24 => absurd c24 (by omega))
      refine te_ldc2 (p2 := 36) (x := (-4611686018427387904)) rfl rfl rfl ?_
      exact te_lret rfl rfl ⟨hI, f0, _, rfl, trivial⟩
  · subst w1
    have cc1_1 := (show Int32.toInt 1 = 1 from rfl)
    have cc1_2 := (show Int32.toInt 60 = 60 from rfl)
    refine tz_eq (p2 := 10) rfl rfl (show Int32.toInt 0 = 0 from rfl) (fun c25 => ?_) (fun c25 => absurd c25 (by omega))
    refine te_ldc2 (p2 := 36) (x := (-4611686018427387904)) rfl rfl rfl ?_
    exact te_lret rfl rfl ⟨hI, f0, _, rfl, trivial⟩
abbrev Q2_clear (x1 x2 : Int32) (y : Int32) (h h2 : im_H) : Prop := ∀ k : Nat, (k : Int) < 283 → rd h2 149 k = rd h 149 k
set_option maxRecDepth 20000 in
set_option maxHeartbeats 4000000 in
theorem c_X12_clear {x1 : Int32} {x2 : Int32} {h : im_H} (hI : tI h)  : CaP 9 188 [.ref 164, .int x1, .int x2] h (fun v h2 => tI h2 ∧ fr F_X12_clear h h2 ∧ ∃ y : Int32, v = some (.int y) ∧ Q2_clear x1 x2 y h h2) := by
  refine cap_of (d := 8) (M := mX12_clear) rfl (Nat.le_of_ble_eq_true rfl) ?_
  show EvP im_K0 8 mX12_clear (0, [(0, .ref 164), (1, .int x1), (2, .int x2)], [], h) _
  have f0 : fr F_X12_clear h h := fr_rf
  refine te_iload_n (p2 := 1) rfl rfl rfl ?_
  refine cS_pI (p2 := 4) rfl rfl rfl rfl (t_X12_isCell (n := x1) hI ) (by decide) (fun y1 r1 => ?_)
  rcases r1 with ⟨w1, c1⟩ | ⟨w1, c1⟩
  · subst w1
    refine tz_ne (p2 := 7) rfl rfl (show Int32.toInt 1 = 1 from rfl) (fun c2 => ?_) (fun c2 => absurd c2 (by omega))
    refine te_iload_n (p2 := 10) rfl rfl rfl ?_
    refine te_iconst (p2 := 11) (x := 1) rfl rfl (by decide) ?_
    refine te_bipush (p2 := 13) (x := 60) rfl rfl (by decide) ?_
    refine cS_pI (p2 := 16) rfl rfl rfl rfl (t_X12_in (n := x2) (a := 1) (b := 60) hI ) (by decide) (fun y3 r3 => ?_)
    rcases r3 with ⟨w3, c3⟩ | ⟨w3, c3⟩
    · subst w3
      have cc3_1 := (show Int32.toInt 1 = 1 from rfl)
      have cc3_2 := (show Int32.toInt 60 = 60 from rfl)
      refine tz_ne (p2 := 19) rfl rfl (show Int32.toInt 1 = 1 from rfl) (fun c4 => ?_) (fun c4 => absurd c4 (by omega))
      refine te_aload_n (p2 := 23) rfl rfl rfl ?_
      refine te_iconst (p2 := 24) (x := 0) rfl rfl (by decide) ?_
      refine tc_V (p2 := 27) (i := 148) rfl rfl rfl rfl hI rfl rfl rfl (c_X12_lays (back := 0) hI (by decide) (by decide)) (by decide) (fun v5 h5 hq5 => ?_)
      obtain ⟨I5, g5, w5, L5⟩ := hq5
      subst w5
      have f5 := fr_tr (F1 := F_X12_lays) (F := F_X12_clear) f0 g5 (by decide)
      show EvP _ _ _ (27, [(0, .ref 164), (1, .int x1), (2, .int x2)], [], h5) _
      refine te_iconst (p2 := 28) (x := 0) rfl rfl (by decide) ?_
      refine te_istore_n (p2 := 29) (lv2 := [(3, .int 0), (0, .ref 164), (1, .int x1), (2, .int x2)]) rfl rfl (by decide) rfl ?_
      have lp6 : ∀ (n6 : Nat) (v6_3 : Int32) (h6 : im_H), tI h6 → fr F_X12_clear h h6 → 0 ≤ v6_3.toInt → v6_3.toInt ≤ 61 → (∀ k : Nat, (k : Int) < 283 → rd h6 150 k = rd h 149 k) → 61 - v6_3.toInt < (n6 : Int) → EvP im_K0 8 mX12_clear (29, [(0, .ref 164), (1, .int x1), (2, .int x2), (3, .int v6_3)], [], h6) (fun v h2 => tI h2 ∧ fr F_X12_clear h h2 ∧ ∃ y : Int32, v = some (.int y) ∧ Q2_clear x1 x2 y h h2) := by
        intro n6
        induction n6 with
        | zero => intro v6_3 h6 I6 f6 a6_3 b6_3 w6_0 m6; exfalso; omega
        | succ n6 ih6 =>
          intro v6_3 h6 I6 f6 a6_3 b6_3 w6_0 m6
          refine te_iload_n (p2 := 30) rfl rfl rfl ?_
          refine te_iload_n (p2 := 31) rfl rfl rfl ?_
          refine tb_gt (p2 := 34) rfl rfl rfl rfl (fun c7 => ?_) (fun c7 => ?_)
          · refine te_aload_n (p2 := 54) rfl rfl rfl ?_
            refine te_iconst (p2 := 55) (x := 1) rfl rfl (by decide) ?_
            refine tc_V (p2 := 58) (i := 148) rfl rfl rfl rfl I6 rfl rfl rfl (c_X12_lays (back := 1) I6 (by decide) (by decide)) (by decide) (fun v8 h8 hq8 => ?_)
            obtain ⟨I8, g8, w8, L8⟩ := hq8
            subst w8
            have f8 := fr_tr (F1 := F_X12_lays) (F := F_X12_clear) f6 g8 (by decide)
            show EvP _ _ _ (58, [(0, .ref 164), (1, .int x1), (2, .int x2), (3, .int v6_3)], [], h8) _
            refine te_iload_n (p2 := 59) rfl rfl rfl ?_
            refine te_iload_n (p2 := 60) rfl rfl rfl ?_
            refine tb_le (p2 := 63) rfl rfl rfl rfl (fun c9 => ?_) (fun c9 => ?_)
            · refine te_iload_n (p2 := 69) rfl rfl rfl ?_
              exact te_iret rfl rfl ⟨I8, f8, _, rfl, (fun k hk => ((L8.2 (by decide)).1 k hk).trans (w6_0 k hk))⟩
            · refine te_bipush (p2 := 65) (x := (-3)) rfl rfl (by decide) ?_
              refine te_goto rfl ?_
              exact te_iret rfl rfl ⟨I8, f8, _, rfl, (fun k hk => ((L8.2 (by decide)).1 k hk).trans (w6_0 k hk))⟩
          · refine te_aload_n (p2 := 35) rfl rfl rfl ?_
            refine tg_r (p2 := 38) (i := 148) (r := 165) rfl rfl I6 rfl rfl rfl ?_
            refine te_iload_n (p2 := 39) rfl rfl rfl ?_
            refine tl_i (p2 := 40) (i := 149) (n := 283) rfl rfl I6 rfl rfl rfl rfl (by omega) (by omega) (fun y10 a10 b10 g10 e10 => ?_)
            refine tz_le (p2 := 43) rfl rfl rfl (fun c11 => ?_) (fun c11 => ?_)
            · refine te_aload_n (p2 := 54) rfl rfl rfl ?_
              refine te_iconst (p2 := 55) (x := 1) rfl rfl (by decide) ?_
              refine tc_V (p2 := 58) (i := 148) rfl rfl rfl rfl I6 rfl rfl rfl (c_X12_lays (back := 1) I6 (by decide) (by decide)) (by decide) (fun v12 h12 hq12 => ?_)
              obtain ⟨I12, g12, w12, L12⟩ := hq12
              subst w12
              have f12 := fr_tr (F1 := F_X12_lays) (F := F_X12_clear) f6 g12 (by decide)
              show EvP _ _ _ (58, [(0, .ref 164), (1, .int x1), (2, .int x2), (3, .int v6_3)], [], h12) _
              refine te_iload_n (p2 := 59) rfl rfl rfl ?_
              refine te_iload_n (p2 := 60) rfl rfl rfl ?_
              refine tb_le (p2 := 63) rfl rfl rfl rfl (fun c13 => ?_) (fun c13 => ?_)
              · refine te_iload_n (p2 := 69) rfl rfl rfl ?_
                exact te_iret rfl rfl ⟨I12, f12, _, rfl, (fun k hk => ((L12.2 (by decide)).1 k hk).trans (w6_0 k hk))⟩
              · refine te_bipush (p2 := 65) (x := (-3)) rfl rfl (by decide) ?_
                refine te_goto rfl ?_
                exact te_iret rfl rfl ⟨I12, f12, _, rfl, (fun k hk => ((L12.2 (by decide)).1 k hk).trans (w6_0 k hk))⟩
            · refine te_aload_n (p2 := 44) rfl rfl rfl ?_
              refine cV_mV (p2 := 47) (i := 148) rfl rfl rfl rfl I6 rfl rfl rfl (t_X12_goes  I6 ) (by decide) (fun h14 I14 g14 => ?_)
              have f14 := fr_tr (F1 := F_X12_goes) (F := F_X12_clear) f6 g14 (by decide)
              refine ar_inc (p2 := 50) (x := v6_3) rfl rfl (by decide) rfl (by decide) rfl (by omega) (by omega) (fun z15 e15 f15 => ?_)
              show EvP _ _ _ (50, [(3, .int z15), (0, .ref 164), (1, .int x1), (2, .int x2)], [], h14) _
              refine te_goto rfl ?_
              refine te_lv [(0, .ref 164), (1, .int x1), (2, .int x2), (3, .int z15)] rfl rfl ⟨rfl, rfl, rfl, rfl, trivial⟩ ?_
              exact ih6 z15 h14 I14 f14 (by omega) (by omega) (fun k hk => (g14 150 _ rfl).trans (w6_0 k hk)) (by omega)
      refine te_lv [(0, .ref 164), (1, .int x1), (2, .int x2), (3, .int 0)] rfl rfl ⟨rfl, rfl, rfl, rfl, trivial⟩ ?_
      exact lp6 62 0 h5 I5 f5 (by decide) (by decide) (L5.1 (by decide)).1 (by have cc0 := (show Int32.toInt 0 = 0 from rfl); omega)
    · subst w3
      have cc3_1 := (show Int32.toInt 1 = 1 from rfl)
      have cc3_2 := (show Int32.toInt 60 = 60 from rfl)
      refine tz_ne (p2 := 19) rfl rfl (show Int32.toInt 0 = 0 from rfl) (fun c16 => absurd c16 (by omega)) (fun c16 => ?_)
      refine te_bipush (p2 := 21) (x := (-2)) rfl rfl (by decide) ?_
      exact te_iret rfl rfl ⟨hI, f0, _, rfl, (fun k hk => rfl)⟩
  · subst w1
    refine tz_ne (p2 := 7) rfl rfl (show Int32.toInt 0 = 0 from rfl) (fun c17 => absurd c17 (by omega)) (fun c17 => ?_)
    refine te_iconst (p2 := 8) (x := (-1)) rfl rfl (by decide) ?_
    exact te_iret rfl rfl ⟨hI, f0, _, rfl, (fun k hk => rfl)⟩
abbrev Q1_clear (x1 x2 : Int32) (y : Int32) (h h2 : im_H) : Prop := True
set_option maxRecDepth 20000 in
set_option maxHeartbeats 4000000 in
theorem c_X11_clear {x1 : Int32} {x2 : Int32} {h : im_H} (hI : tI h)  : CaP 8 101 [.ref 16, .int x1, .int x2] h (fun v h2 => tI h2 ∧ fr F_X11_clear h h2 ∧ ∃ y : Int32, v = some (.int y) ∧ Q1_clear x1 x2 y h h2) := by
  refine cap_of (d := 7) (M := mX11_clear) rfl (Nat.le_of_ble_eq_true rfl) ?_
  show EvP im_K0 7 mX11_clear (0, [(0, .ref 16), (1, .int x1), (2, .int x2)], [], h) _
  have f0 : fr F_X11_clear h h := fr_rf
  refine te_iload_n (p2 := 1) rfl rfl rfl ?_
  refine te_bipush (p2 := 3) (x := 100) rfl rfl (by decide) ?_
  refine cS_pI (p2 := 6) rfl rfl rfl rfl (t_X11_within (n := x1) (b := 100) hI ) (by decide) (fun y1 r1 => ?_)
  rcases r1 with ⟨w1, c1⟩ | ⟨w1, c1⟩
  · subst w1
    have cc1_1 := (show Int32.toInt 100 = 100 from rfl)
    refine tz_ne (p2 := 9) rfl rfl (show Int32.toInt 1 = 1 from rfl) (fun c2 => ?_) (fun c2 => absurd c2 (by omega))
    refine te_iload_n (p2 := 12) rfl rfl rfl ?_
    refine te_iconst (p2 := 13) (x := 1) rfl rfl (by decide) ?_
    refine te_bipush (p2 := 15) (x := 60) rfl rfl (by decide) ?_
    refine cS_pI (p2 := 18) rfl rfl rfl rfl (t_X11_between (n := x2) (a := 1) (b := 60) hI ) (by decide) (fun y3 r3 => ?_)
    rcases r3 with ⟨w3, c3⟩ | ⟨w3, c3⟩
    · subst w3
      have cc3_1 := (show Int32.toInt 1 = 1 from rfl)
      have cc3_2 := (show Int32.toInt 60 = 60 from rfl)
      refine tz_ne (p2 := 21) rfl rfl (show Int32.toInt 1 = 1 from rfl) (fun c4 => ?_) (fun c4 => absurd c4 (by omega))
      refine te_aload_n (p2 := 25) rfl rfl rfl ?_
      refine tg_r (p2 := 28) (i := 0) (r := 53) rfl rfl hI rfl rfl rfl ?_
      refine te_aload_n (p2 := 29) rfl rfl rfl ?_
      refine tg_r (p2 := 32) (i := 0) (r := 39) rfl rfl hI rfl rfl rfl ?_
      refine cV_mV (p2 := 35) (i := 37) rfl rfl rfl rfl hI rfl rfl rfl (t_X9_become (s := 37) (o := 23) hI (by decide) (by decide)) (by decide) (fun h5 I5 g5 => ?_)
      have f5 := fr_tr (F1 := (F_X9_become 37 23)) (F := F_X11_clear) f0 g5 (by decide)
      refine te_iconst (p2 := 36) (x := 0) rfl rfl (by decide) ?_
      refine te_istore_n (p2 := 37) (lv2 := [(3, .int 0), (0, .ref 16), (1, .int x1), (2, .int x2)]) rfl rfl (by decide) rfl ?_
      have lp6 : ∀ (n6 : Nat) (v6_3 : Int32) (h6 : im_H), tI h6 → fr F_X11_clear h h6 → 0 ≤ v6_3.toInt → v6_3.toInt ≤ 60 → v6_3.toInt ≤ x2.toInt → x2.toInt - v6_3.toInt < (n6 : Int) → EvP im_K0 7 mX11_clear (37, [(0, .ref 16), (1, .int x1), (2, .int x2), (3, .int v6_3)], [], h6) (fun v h2 => tI h2 ∧ fr F_X11_clear h h2 ∧ ∃ y : Int32, v = some (.int y) ∧ Q1_clear x1 x2 y h h2) := by
        intro n6
        induction n6 with
        | zero => intro v6_3 h6 I6 f6 a6_3 b6_3 l6_0 m6; exfalso; omega
        | succ n6 ih6 =>
          intro v6_3 h6 I6 f6 a6_3 b6_3 l6_0 m6
          refine te_iload_n (p2 := 38) rfl rfl rfl ?_
          refine te_iload_n (p2 := 39) rfl rfl rfl ?_
          refine tb_ge (p2 := 42) rfl rfl rfl rfl (fun c7 => ?_) (fun c7 => ?_)
          · refine te_aload_n (p2 := 74) rfl rfl rfl ?_
            refine tg_r (p2 := 77) (i := 0) (r := 53) rfl rfl I6 rfl rfl rfl ?_
            refine tg_r (p2 := 80) (i := 37) (r := 55) rfl rfl I6 rfl rfl rfl ?_
            refine te_iload_n (p2 := 81) rfl rfl rfl ?_
            refine tl_i (p2 := 82) (i := 39) (n := 100) rfl rfl I6 rfl rfl rfl rfl (by omega) (by omega) (fun y8 a8 b8 g8 e8 => ?_)
            refine tz_ne (p2 := 85) rfl rfl rfl (fun c9 => ?_) (fun c9 => ?_)
            · refine te_bipush (p2 := 91) (x := (-3)) rfl rfl (by decide) ?_
              exact te_iret rfl rfl ⟨I6, f6, _, rfl, trivial⟩
            · refine te_iload_n (p2 := 86) rfl rfl rfl ?_
              refine te_goto rfl ?_
              exact te_iret rfl rfl ⟨I6, f6, _, rfl, trivial⟩
          · refine te_aload_n (p2 := 43) rfl rfl rfl ?_
            refine tg_r (p2 := 46) (i := 0) (r := 53) rfl rfl I6 rfl rfl rfl ?_
            refine tg_r (p2 := 49) (i := 37) (r := 55) rfl rfl I6 rfl rfl rfl ?_
            refine te_iload_n (p2 := 50) rfl rfl rfl ?_
            refine tl_i (p2 := 51) (i := 39) (n := 100) rfl rfl I6 rfl rfl rfl rfl (by omega) (by omega) (fun y10 a10 b10 g10 e10 => ?_)
            refine tz_ne (p2 := 54) rfl rfl rfl (fun c11 => ?_) (fun c11 => ?_)
            · refine te_aload_n (p2 := 57) rfl rfl rfl ?_
              refine tg_r (p2 := 60) (i := 0) (r := 17) rfl rfl I6 rfl rfl rfl ?_
              refine te_aload_n (p2 := 61) rfl rfl rfl ?_
              refine tg_r (p2 := 64) (i := 0) (r := 53) rfl rfl I6 rfl rfl rfl ?_
              refine cV_mV (p2 := 67) (i := 1) rfl rfl rfl rfl I6 rfl rfl rfl (t_X0_playDay (s := 37) I6 (by decide)) (by decide) (fun h12 I12 g12 => ?_)
              have f12 := fr_tr (F1 := (F_X0_playDay 37)) (F := F_X11_clear) f6 g12 (by decide)
              refine ar_inc (p2 := 70) (x := v6_3) rfl rfl (by decide) rfl (by decide) rfl (by omega) (by omega) (fun z13 e13 f13 => ?_)
              show EvP _ _ _ (70, [(3, .int z13), (0, .ref 16), (1, .int x1), (2, .int x2)], [], h12) _
              refine te_goto rfl ?_
              refine te_lv [(0, .ref 16), (1, .int x1), (2, .int x2), (3, .int z13)] rfl rfl ⟨rfl, rfl, rfl, rfl, trivial⟩ ?_
              exact ih6 z13 h12 I12 f12 (by omega) (by omega) (by omega) (by omega)
            · refine te_iload_n (p2 := 55) rfl rfl rfl ?_
              exact te_iret rfl rfl ⟨I6, f6, _, rfl, trivial⟩
      refine te_lv [(0, .ref 16), (1, .int x1), (2, .int x2), (3, .int 0)] rfl rfl ⟨rfl, rfl, rfl, rfl, trivial⟩ ?_
      exact lp6 61 0 h5 I5 f5 (by decide) (by decide) (by have cc0 := (show Int32.toInt 0 = 0 from rfl); omega) (by have cc0 := (show Int32.toInt 0 = 0 from rfl); omega)
    · subst w3
      have cc3_1 := (show Int32.toInt 1 = 1 from rfl)
      have cc3_2 := (show Int32.toInt 60 = 60 from rfl)
      refine tz_ne (p2 := 21) rfl rfl (show Int32.toInt 0 = 0 from rfl) (fun c14 => absurd c14 (by omega)) (fun c14 => ?_)
      refine te_bipush (p2 := 23) (x := (-2)) rfl rfl (by decide) ?_
      exact te_iret rfl rfl ⟨hI, f0, _, rfl, trivial⟩
  · subst w1
    have cc1_1 := (show Int32.toInt 100 = 100 from rfl)
    refine tz_ne (p2 := 9) rfl rfl (show Int32.toInt 0 = 0 from rfl) (fun c15 => absurd c15 (by omega)) (fun c15 => ?_)
    refine te_iconst (p2 := 10) (x := (-1)) rfl rfl (by decide) ?_
    exact te_iret rfl rfl ⟨hI, f0, _, rfl, trivial⟩
def wT (x1 x2 p q : Int32) : Int32 := if (0 ≤ x1.toInt ∧ x1.toInt ≤ 9 ∧ 0 ≤ x2.toInt ∧ x2.toInt ≤ 9) then 10 * p + q else -2
abbrev Q1_weather (x1 x2 : Int32) (y : Int32) (h h2 : im_H) : Prop := ∃ p q : Int32, rd h 23 1 = some (.int p) ∧ rd h 23 2 = some (.int q) ∧ y = wT x1 x2 p q ∧ ((0 ≤ x1.toInt ∧ x1.toInt ≤ 9 ∧ 0 ≤ x2.toInt ∧ x2.toInt ≤ 9) → rd h2 23 1 = some (.int x1) ∧ rd h2 23 2 = some (.int x2)) ∧ (¬ (0 ≤ x1.toInt ∧ x1.toInt ≤ 9 ∧ 0 ≤ x2.toInt ∧ x2.toInt ≤ 9) → h2 = h)
set_option maxRecDepth 20000 in
set_option maxHeartbeats 4000000 in
theorem c_X11_weather {x1 : Int32} {x2 : Int32} {h : im_H} (hI : tI h)  : CaP 8 65 [.ref 16, .int x1, .int x2] h (fun v h2 => tI h2 ∧ fr F_X11_weather h h2 ∧ ∃ y : Int32, v = some (.int y) ∧ Q1_weather x1 x2 y h h2) := by
  refine cap_of (d := 7) (M := mX11_weather) rfl (Nat.le_of_ble_eq_true rfl) ?_
  show EvP im_K0 7 mX11_weather (0, [(0, .ref 16), (1, .int x1), (2, .int x2)], [], h) _
  have f0 : fr F_X11_weather h h := fr_rf
  refine te_iload_n (p2 := 1) rfl rfl rfl ?_
  refine te_bipush (p2 := 3) (x := 10) rfl rfl (by decide) ?_
  refine cS_pI (p2 := 6) rfl rfl rfl rfl (t_X11_within (n := x1) (b := 10) hI ) (by decide) (fun y1 r1 => ?_)
  rcases r1 with ⟨w1, c1⟩ | ⟨w1, c1⟩
  · subst w1
    have cc1_1 := (show Int32.toInt 10 = 10 from rfl)
    refine tz_eq (p2 := 9) rfl rfl (show Int32.toInt 1 = 1 from rfl) (fun c2 => absurd c2 (by omega)) (fun c2 => ?_)
    refine te_iload_n (p2 := 10) rfl rfl rfl ?_
    refine te_bipush (p2 := 12) (x := 10) rfl rfl (by decide) ?_
    refine cS_pI (p2 := 15) rfl rfl rfl rfl (t_X11_within (n := x2) (b := 10) hI ) (by decide) (fun y3 r3 => ?_)
    rcases r3 with ⟨w3, c3⟩ | ⟨w3, c3⟩
    · subst w3
      have cc3_1 := (show Int32.toInt 10 = 10 from rfl)
      refine tz_ne (p2 := 18) rfl rfl (show Int32.toInt 1 = 1 from rfl) (fun c4 => ?_) (fun c4 => absurd c4 (by omega))
      refine te_bipush (p2 := 23) (x := 10) rfl rfl (by decide) ?_
      refine te_aload_n (p2 := 24) rfl rfl rfl ?_
      refine tg_r (p2 := 27) (i := 0) (r := 39) rfl rfl hI rfl rfl rfl ?_
      refine tg_i (p2 := 30) (i := 23) rfl rfl hI rfl rfl rfl (fun y5 a5 b5 e5 => ?_)
      refine au_mul (p2 := 31) rfl rfl (fun z6 e6 => ?_)
      refine te_aload_n (p2 := 32) rfl rfl rfl ?_
      refine tg_r (p2 := 35) (i := 0) (r := 39) rfl rfl hI rfl rfl rfl ?_
      refine tg_i (p2 := 38) (i := 23) rfl rfl hI rfl rfl rfl (fun y7 a7 b7 e7 => ?_)
      refine au_add (p2 := 39) rfl rfl (fun z8 e8 => ?_)
      refine te_istore_n (p2 := 40) (lv2 := [(3, .int z8), (0, .ref 16), (1, .int x1), (2, .int x2)]) rfl rfl (by decide) rfl ?_
      refine te_aload_n (p2 := 41) rfl rfl rfl ?_
      refine tg_r (p2 := 44) (i := 0) (r := 39) rfl rfl hI rfl rfl rfl ?_
      refine te_iload_n (p2 := 45) rfl rfl rfl ?_
      refine tp_i (p2 := 48) (i := 23) rfl rfl hI rfl rfl (by decide) rfl rfl rfl (i32_lo _) (i32_hi _) (i32_ho _) rfl (fun h9 I9 u9 => ?_)
      have f9 := fr_st (F := F_X11_weather) 0 f0 u9 rfl (by decide) (by decide)
      refine te_aload_n (p2 := 49) rfl rfl rfl ?_
      refine tg_r (p2 := 52) (i := 0) (r := 39) rfl rfl I9 rfl rfl rfl ?_
      refine te_iload_n (p2 := 53) rfl rfl rfl ?_
      refine tp_i (p2 := 56) (i := 23) rfl rfl I9 rfl rfl (by decide) rfl rfl rfl (i32_lo _) (i32_hi _) (i32_ho _) rfl (fun h10 I10 u10 => ?_)
      have f10 := fr_st (F := F_X11_weather) 0 f9 u10 rfl (by decide) (by decide)
      refine te_iload_n (p2 := 57) rfl rfl rfl ?_
      exact te_iret rfl rfl ⟨I10, f10, _, rfl, y5, y7, e5, e7, (by unfold wT; rw [if_pos (by omega), e6, e8]), (fun _ => ⟨((u10.2 _ _ (Or.inr (by decide))).trans u9.1), u10.1⟩), (fun hk => absurd (by omega) hk)⟩
    · subst w3
      have cc3_1 := (show Int32.toInt 10 = 10 from rfl)
      refine tz_ne (p2 := 18) rfl rfl (show Int32.toInt 0 = 0 from rfl) (fun c11 => absurd c11 (by omega)) (fun c11 => ?_)
      refine te_bipush (p2 := 20) (x := (-2)) rfl rfl (by decide) ?_
      obtain ⟨v12, e12, y12, w12, a12, b12, _⟩ := hI.2.1 23 1 (.inl ((-2147483648), 2147483647, 9999999999)) rfl
      subst w12
      obtain ⟨v13, e13, y13, w13, a13, b13, _⟩ := hI.2.1 23 2 (.inl ((-2147483648), 2147483647, 9999999999)) rfl
      subst w13
      exact te_iret rfl rfl ⟨hI, f0, _, rfl, y12, y13, e12, e13, (by unfold wT; rw [if_neg (by omega)]), (fun hk => absurd hk (by omega)), (fun _ => rfl)⟩
  · subst w1
    have cc1_1 := (show Int32.toInt 10 = 10 from rfl)
    refine tz_eq (p2 := 9) rfl rfl (show Int32.toInt 0 = 0 from rfl) (fun c14 => ?_) (fun c14 => absurd c14 (by omega))
    refine te_bipush (p2 := 20) (x := (-2)) rfl rfl (by decide) ?_
    obtain ⟨v15, e15, y15, w15, a15, b15, _⟩ := hI.2.1 23 1 (.inl ((-2147483648), 2147483647, 9999999999)) rfl
    subst w15
    obtain ⟨v16, e16, y16, w16, a16, b16, _⟩ := hI.2.1 23 2 (.inl ((-2147483648), 2147483647, 9999999999)) rfl
    subst w16
    exact te_iret rfl rfl ⟨hI, f0, _, rfl, y15, y16, e15, e16, (by unfold wT; rw [if_neg (by omega)]), (fun hk => absurd hk (by omega)), (fun _ => rfl)⟩
abbrev Q2_weather (x1 x2 : Int32) (y : Int32) (h h2 : im_H) : Prop := ∃ p q : Int32, rd h 149 106 = some (.int p) ∧ rd h 149 107 = some (.int q) ∧ y = wT x1 x2 p q ∧ ((0 ≤ x1.toInt ∧ x1.toInt ≤ 9 ∧ 0 ≤ x2.toInt ∧ x2.toInt ≤ 9) → rd h2 149 106 = some (.int x1) ∧ rd h2 149 107 = some (.int x2)) ∧ (¬ (0 ≤ x1.toInt ∧ x1.toInt ≤ 9 ∧ 0 ≤ x2.toInt ∧ x2.toInt ≤ 9) → h2 = h)
set_option maxRecDepth 20000 in
set_option maxHeartbeats 4000000 in
theorem c_X12_weather {x1 : Int32} {x2 : Int32} {h : im_H} (hI : tI h)  : CaP 8 127 [.ref 164, .int x1, .int x2] h (fun v h2 => tI h2 ∧ fr F_X12_weather h h2 ∧ ∃ y : Int32, v = some (.int y) ∧ Q2_weather x1 x2 y h h2) := by
  refine cap_of (d := 7) (M := mX12_weather) rfl (Nat.le_of_ble_eq_true rfl) ?_
  show EvP im_K0 7 mX12_weather (0, [(0, .ref 164), (1, .int x1), (2, .int x2)], [], h) _
  have f0 : fr F_X12_weather h h := fr_rf
  refine te_iload_n (p2 := 1) rfl rfl rfl ?_
  refine te_iconst (p2 := 2) (x := 0) rfl rfl (by decide) ?_
  refine te_bipush (p2 := 4) (x := 9) rfl rfl (by decide) ?_
  refine cS_pI (p2 := 7) rfl rfl rfl rfl (t_X12_in (n := x1) (a := 0) (b := 9) hI ) (by decide) (fun y1 r1 => ?_)
  rcases r1 with ⟨w1, c1⟩ | ⟨w1, c1⟩
  · subst w1
    have cc1_1 := (show Int32.toInt 0 = 0 from rfl)
    have cc1_2 := (show Int32.toInt 9 = 9 from rfl)
    refine tz_eq (p2 := 10) rfl rfl (show Int32.toInt 1 = 1 from rfl) (fun c2 => absurd c2 (by omega)) (fun c2 => ?_)
    refine te_iload_n (p2 := 11) rfl rfl rfl ?_
    refine te_iconst (p2 := 12) (x := 0) rfl rfl (by decide) ?_
    refine te_bipush (p2 := 14) (x := 9) rfl rfl (by decide) ?_
    refine cS_pI (p2 := 17) rfl rfl rfl rfl (t_X12_in (n := x2) (a := 0) (b := 9) hI ) (by decide) (fun y3 r3 => ?_)
    rcases r3 with ⟨w3, c3⟩ | ⟨w3, c3⟩
    · subst w3
      have cc3_1 := (show Int32.toInt 0 = 0 from rfl)
      have cc3_2 := (show Int32.toInt 9 = 9 from rfl)
      refine tz_ne (p2 := 20) rfl rfl (show Int32.toInt 1 = 1 from rfl) (fun c4 => ?_) (fun c4 => absurd c4 (by omega))
      refine te_bipush (p2 := 25) (x := 10) rfl rfl (by decide) ?_
      refine te_aload_n (p2 := 26) rfl rfl rfl ?_
      refine tg_r (p2 := 29) (i := 148) (r := 165) rfl rfl hI rfl rfl rfl ?_
      refine te_bipush (p2 := 31) (x := 106) rfl rfl (by decide) ?_
      refine tl_i (p2 := 32) (i := 149) (n := 283) rfl rfl hI rfl rfl rfl rfl (by decide) (by decide) (fun y5 a5 b5 g5 e5 => ?_)
      refine au_mul (p2 := 33) rfl rfl (fun z6 e6 => ?_)
      refine te_aload_n (p2 := 34) rfl rfl rfl ?_
      refine tg_r (p2 := 37) (i := 148) (r := 165) rfl rfl hI rfl rfl rfl ?_
      refine te_bipush (p2 := 39) (x := 107) rfl rfl (by decide) ?_
      refine tl_i (p2 := 40) (i := 149) (n := 283) rfl rfl hI rfl rfl rfl rfl (by decide) (by decide) (fun y7 a7 b7 g7 e7 => ?_)
      refine au_add (p2 := 41) rfl rfl (fun z8 e8 => ?_)
      refine te_istore_n (p2 := 42) (lv2 := [(3, .int z8), (0, .ref 164), (1, .int x1), (2, .int x2)]) rfl rfl (by decide) rfl ?_
      refine te_aload_n (p2 := 43) rfl rfl rfl ?_
      refine tg_r (p2 := 46) (i := 148) (r := 165) rfl rfl hI rfl rfl rfl ?_
      refine te_bipush (p2 := 48) (x := 106) rfl rfl (by decide) ?_
      refine te_iload_n (p2 := 49) rfl rfl rfl ?_
      refine ts_i (p2 := 50) (i := 149) (n := 283) rfl rfl hI rfl rfl rfl rfl (by decide) (by decide) (i32_lo _) (i32_hi _) (i32_ho _) rfl (fun h9 I9 u9 => ?_)
      have f9 := fr_st (F := F_X12_weather) 0 f0 u9 rfl (by decide) (by decide)
      refine te_aload_n (p2 := 51) rfl rfl rfl ?_
      refine tg_r (p2 := 54) (i := 148) (r := 165) rfl rfl I9 rfl rfl rfl ?_
      refine te_bipush (p2 := 56) (x := 107) rfl rfl (by decide) ?_
      refine te_iload_n (p2 := 57) rfl rfl rfl ?_
      refine ts_i (p2 := 58) (i := 149) (n := 283) rfl rfl I9 rfl rfl rfl rfl (by decide) (by decide) (i32_lo _) (i32_hi _) (i32_ho _) rfl (fun h10 I10 u10 => ?_)
      have f10 := fr_st (F := F_X12_weather) 0 f9 u10 rfl (by decide) (by decide)
      refine te_iload_n (p2 := 59) rfl rfl rfl ?_
      exact te_iret rfl rfl ⟨I10, f10, _, rfl, y5, y7, e5, e7, (by unfold wT; rw [if_pos (by omega), e6, e8]), (fun _ => ⟨((u10.2 _ _ (Or.inr (by decide))).trans u9.1), u10.1⟩), (fun hk => absurd (by omega) hk)⟩
    · subst w3
      have cc3_1 := (show Int32.toInt 0 = 0 from rfl)
      have cc3_2 := (show Int32.toInt 9 = 9 from rfl)
      refine tz_ne (p2 := 20) rfl rfl (show Int32.toInt 0 = 0 from rfl) (fun c11 => absurd c11 (by omega)) (fun c11 => ?_)
      refine te_bipush (p2 := 22) (x := (-2)) rfl rfl (by decide) ?_
      obtain ⟨v12, e12, y12, w12, a12, b12, _⟩ := hI.2.1 149 (Int32.toInt 106).toNat (.inl ((-2147483648), 2147483647, 9999999999)) (tq_row rfl (by decide))
      subst w12
      obtain ⟨v13, e13, y13, w13, a13, b13, _⟩ := hI.2.1 149 (Int32.toInt 107).toNat (.inl ((-2147483648), 2147483647, 9999999999)) (tq_row rfl (by decide))
      subst w13
      exact te_iret rfl rfl ⟨hI, f0, _, rfl, y12, y13, e12, e13, (by unfold wT; rw [if_neg (by omega)]), (fun hk => absurd hk (by omega)), (fun _ => rfl)⟩
  · subst w1
    have cc1_1 := (show Int32.toInt 0 = 0 from rfl)
    have cc1_2 := (show Int32.toInt 9 = 9 from rfl)
    refine tz_eq (p2 := 10) rfl rfl (show Int32.toInt 0 = 0 from rfl) (fun c14 => ?_) (fun c14 => absurd c14 (by omega))
    refine te_bipush (p2 := 22) (x := (-2)) rfl rfl (by decide) ?_
    obtain ⟨v15, e15, y15, w15, a15, b15, _⟩ := hI.2.1 149 (Int32.toInt 106).toNat (.inl ((-2147483648), 2147483647, 9999999999)) (tq_row rfl (by decide))
    subst w15
    obtain ⟨v16, e16, y16, w16, a16, b16, _⟩ := hI.2.1 149 (Int32.toInt 107).toNat (.inl ((-2147483648), 2147483647, 9999999999)) (tq_row rfl (by decide))
    subst w16
    exact te_iret rfl rfl ⟨hI, f0, _, rfl, y15, y16, e15, e16, (by unfold wT; rw [if_neg (by omega)]), (fun hk => absurd hk (by omega)), (fun _ => rfl)⟩
abbrev Q1_ruin (x1 x2 x3 : Int32) (y : Int32) (h h2 : im_H) : Prop := ((0 ≤ x1.toInt ∧ x1.toInt ≤ 99 ∧ 0 ≤ x2.toInt ∧ x2.toInt ≤ 5 ∧ 0 ≤ x3.toInt ∧ x3.toInt ≤ 9999) → rd h2 2 x1.toInt.toNat = some (.int x2)) ∧ (∀ k : Nat, (k ≠ x1.toInt.toNat ∨ ¬ (0 ≤ x1.toInt ∧ x1.toInt ≤ 99 ∧ 0 ≤ x2.toInt ∧ x2.toInt ≤ 5 ∧ 0 ≤ x3.toInt ∧ x3.toInt ≤ 9999)) → rd h2 2 k = rd h 2 k)
set_option maxRecDepth 20000 in
set_option maxHeartbeats 4000000 in
theorem c_X11_ruin {x1 : Int32} {x2 : Int32} {x3 : Int32} {h : im_H} (hI : tI h)  : CaP 8 61 [.ref 16, .int x1, .int x2, .int x3] h (fun v h2 => tI h2 ∧ fr F_X11_ruin h h2 ∧ ∃ y : Int32, v = some (.int y) ∧ Q1_ruin x1 x2 x3 y h h2) := by
  refine cap_of (d := 7) (M := mX11_ruin) rfl (Nat.le_of_ble_eq_true rfl) ?_
  show EvP im_K0 7 mX11_ruin (0, [(0, .ref 16), (1, .int x1), (2, .int x2), (3, .int x3)], [], h) _
  have f0 : fr F_X11_ruin h h := fr_rf
  refine te_iload_n (p2 := 1) rfl rfl rfl ?_
  refine te_bipush (p2 := 3) (x := 100) rfl rfl (by decide) ?_
  refine cS_pI (p2 := 6) rfl rfl rfl rfl (t_X11_within (n := x1) (b := 100) hI ) (by decide) (fun y1 r1 => ?_)
  rcases r1 with ⟨w1, c1⟩ | ⟨w1, c1⟩
  · subst w1
    have cc1_1 := (show Int32.toInt 100 = 100 from rfl)
    refine tz_ne (p2 := 9) rfl rfl (show Int32.toInt 1 = 1 from rfl) (fun c2 => ?_) (fun c2 => absurd c2 (by omega))
    refine te_iload_n (p2 := 12) rfl rfl rfl ?_
    refine te_bipush (p2 := 14) (x := 6) rfl rfl (by decide) ?_
    refine cS_pI (p2 := 17) rfl rfl rfl rfl (t_X11_within (n := x2) (b := 6) hI ) (by decide) (fun y3 r3 => ?_)
    rcases r3 with ⟨w3, c3⟩ | ⟨w3, c3⟩
    · subst w3
      have cc3_1 := (show Int32.toInt 6 = 6 from rfl)
      refine tz_eq (p2 := 20) rfl rfl (show Int32.toInt 1 = 1 from rfl) (fun c4 => absurd c4 (by omega)) (fun c4 => ?_)
      refine te_iload_n (p2 := 21) rfl rfl rfl ?_
      refine te_iconst (p2 := 22) (x := 0) rfl rfl (by decide) ?_
      refine te_sipush (p2 := 25) (x := 9999) rfl rfl (by decide) ?_
      refine cS_pI (p2 := 28) rfl rfl rfl rfl (t_X11_between (n := x3) (a := 0) (b := 9999) hI ) (by decide) (fun y5 r5 => ?_)
      rcases r5 with ⟨w5, c5⟩ | ⟨w5, c5⟩
      · subst w5
        have cc5_1 := (show Int32.toInt 0 = 0 from rfl)
        have cc5_2 := (show Int32.toInt 9999 = 9999 from rfl)
        refine tz_ne (p2 := 31) rfl rfl (show Int32.toInt 1 = 1 from rfl) (fun c6 => ?_) (fun c6 => absurd c6 (by omega))
        refine te_aload_n (p2 := 35) rfl rfl rfl ?_
        refine tg_r (p2 := 38) (i := 0) (r := 39) rfl rfl hI rfl rfl rfl ?_
        refine tg_r (p2 := 41) (i := 23) (r := 41) rfl rfl hI rfl rfl rfl ?_
        refine te_iload_n (p2 := 42) rfl rfl rfl ?_
        refine tl_i (p2 := 43) (i := 25) (n := 100) rfl rfl hI rfl rfl rfl rfl (by omega) (by omega) (fun y7 a7 b7 g7 e7 => ?_)
        refine te_istore (p2 := 45) (lv2 := [(4, .int y7), (0, .ref 16), (1, .int x1), (2, .int x2), (3, .int x3)]) rfl rfl (by decide) rfl ?_
        refine te_aload_n (p2 := 46) rfl rfl rfl ?_
        refine tg_r (p2 := 49) (i := 0) (r := 17) rfl rfl hI rfl rfl rfl ?_
        refine tg_r (p2 := 52) (i := 1) (r := 18) rfl rfl hI rfl rfl rfl ?_
        refine te_iload_n (p2 := 53) rfl rfl rfl ?_
        refine te_iload_n (p2 := 54) rfl rfl rfl ?_
        refine ts_i (p2 := 55) (i := 2) (n := 100) rfl rfl hI rfl rfl rfl rfl (by omega) (by omega) (by omega) (by omega) (by omega) rfl (fun h8 I8 u8 => ?_)
        have f8 := fr_st (F := F_X11_ruin) 0 f0 u8 rfl (by omega) (by omega)
        refine te_aload_n (p2 := 56) rfl rfl rfl ?_
        refine tg_r (p2 := 59) (i := 0) (r := 39) rfl rfl I8 rfl rfl rfl ?_
        refine tg_r (p2 := 62) (i := 23) (r := 41) rfl rfl I8 rfl rfl rfl ?_
        refine te_iload_n (p2 := 63) rfl rfl rfl ?_
        refine te_iload_n (p2 := 64) rfl rfl rfl ?_
        refine ts_i (p2 := 65) (i := 25) (n := 100) rfl rfl I8 rfl rfl rfl rfl (by omega) (by omega) (i32_lo _) (i32_hi _) (i32_ho _) rfl (fun h9 I9 u9 => ?_)
        have f9 := fr_st (F := F_X11_ruin) 1 f8 u9 rfl (by omega) (by omega)
        refine te_iload (p2 := 67) rfl rfl rfl ?_
        exact te_iret rfl rfl ⟨I9, f9, _, rfl, (fun _ => (u9.2 _ _ (Or.inl (by decide))).trans (u8.1)), (fun k hn => by (have hk : k ≠ x1.toInt.toNat := hn.resolve_right (fun hq => hq (by omega))); exact ((u9.2 _ _ (Or.inl (by decide))).trans (u8.2 _ _ (Or.inr hk))))⟩
      · subst w5
        have cc5_1 := (show Int32.toInt 0 = 0 from rfl)
        have cc5_2 := (show Int32.toInt 9999 = 9999 from rfl)
        refine tz_ne (p2 := 31) rfl rfl (show Int32.toInt 0 = 0 from rfl) (fun c10 => absurd c10 (by omega)) (fun c10 => ?_)
        refine te_bipush (p2 := 33) (x := (-2)) rfl rfl (by decide) ?_
        exact te_iret rfl rfl ⟨hI, f0, _, rfl, (fun hk => absurd hk (by omega)), (fun k hk => rfl)⟩
    · subst w3
      have cc3_1 := (show Int32.toInt 6 = 6 from rfl)
      refine tz_eq (p2 := 20) rfl rfl (show Int32.toInt 0 = 0 from rfl) (fun c11 => ?_) (fun c11 => absurd c11 (by omega))
      refine te_bipush (p2 := 33) (x := (-2)) rfl rfl (by decide) ?_
      exact te_iret rfl rfl ⟨hI, f0, _, rfl, (fun hk => absurd hk (by omega)), (fun k hk => rfl)⟩
  · subst w1
    have cc1_1 := (show Int32.toInt 100 = 100 from rfl)
    refine tz_ne (p2 := 9) rfl rfl (show Int32.toInt 0 = 0 from rfl) (fun c12 => absurd c12 (by omega)) (fun c12 => ?_)
    refine te_iconst (p2 := 10) (x := (-1)) rfl rfl (by decide) ?_
    exact te_iret rfl rfl ⟨hI, f0, _, rfl, (fun hk => absurd hk (by omega)), (fun k hk => rfl)⟩
abbrev Q2_ruin (x1 x2 x3 : Int32) (y : Int32) (h h2 : im_H) : Prop := ((0 ≤ x1.toInt ∧ x1.toInt ≤ 99 ∧ 0 ≤ x2.toInt ∧ x2.toInt ≤ 5 ∧ 0 ≤ x3.toInt ∧ x3.toInt ≤ 9999) → rd h2 152 x1.toInt.toNat = some (.int x2)) ∧ (∀ k : Nat, (k ≠ x1.toInt.toNat ∨ ¬ (0 ≤ x1.toInt ∧ x1.toInt ≤ 99 ∧ 0 ≤ x2.toInt ∧ x2.toInt ≤ 5 ∧ 0 ≤ x3.toInt ∧ x3.toInt ≤ 9999)) → rd h2 152 k = rd h 152 k)
set_option maxRecDepth 20000 in
set_option maxHeartbeats 4000000 in
theorem c_X12_ruin {x1 : Int32} {x2 : Int32} {x3 : Int32} {h : im_H} (hI : tI h)  : CaP 8 123 [.ref 164, .int x1, .int x2, .int x3] h (fun v h2 => tI h2 ∧ fr F_X12_ruin h h2 ∧ ∃ y : Int32, v = some (.int y) ∧ Q2_ruin x1 x2 x3 y h h2) := by
  refine cap_of (d := 7) (M := mX12_ruin) rfl (Nat.le_of_ble_eq_true rfl) ?_
  show EvP im_K0 7 mX12_ruin (0, [(0, .ref 164), (1, .int x1), (2, .int x2), (3, .int x3)], [], h) _
  have f0 : fr F_X12_ruin h h := fr_rf
  refine te_iload_n (p2 := 1) rfl rfl rfl ?_
  refine cS_pI (p2 := 4) rfl rfl rfl rfl (t_X12_isCell (n := x1) hI ) (by decide) (fun y1 r1 => ?_)
  rcases r1 with ⟨w1, c1⟩ | ⟨w1, c1⟩
  · subst w1
    refine tz_ne (p2 := 7) rfl rfl (show Int32.toInt 1 = 1 from rfl) (fun c2 => ?_) (fun c2 => absurd c2 (by omega))
    refine te_iload_n (p2 := 10) rfl rfl rfl ?_
    refine te_iconst (p2 := 11) (x := 0) rfl rfl (by decide) ?_
    refine te_iconst (p2 := 12) (x := 5) rfl rfl (by decide) ?_
    refine cS_pI (p2 := 15) rfl rfl rfl rfl (t_X12_in (n := x2) (a := 0) (b := 5) hI ) (by decide) (fun y3 r3 => ?_)
    rcases r3 with ⟨w3, c3⟩ | ⟨w3, c3⟩
    · subst w3
      have cc3_1 := (show Int32.toInt 0 = 0 from rfl)
      have cc3_2 := (show Int32.toInt 5 = 5 from rfl)
      refine tz_eq (p2 := 18) rfl rfl (show Int32.toInt 1 = 1 from rfl) (fun c4 => absurd c4 (by omega)) (fun c4 => ?_)
      refine te_iload_n (p2 := 19) rfl rfl rfl ?_
      refine te_iconst (p2 := 20) (x := 0) rfl rfl (by decide) ?_
      refine te_sipush (p2 := 23) (x := 9999) rfl rfl (by decide) ?_
      refine cS_pI (p2 := 26) rfl rfl rfl rfl (t_X12_in (n := x3) (a := 0) (b := 9999) hI ) (by decide) (fun y5 r5 => ?_)
      rcases r5 with ⟨w5, c5⟩ | ⟨w5, c5⟩
      · subst w5
        have cc5_1 := (show Int32.toInt 0 = 0 from rfl)
        have cc5_2 := (show Int32.toInt 9999 = 9999 from rfl)
        refine tz_ne (p2 := 29) rfl rfl (show Int32.toInt 1 = 1 from rfl) (fun c6 => ?_) (fun c6 => absurd c6 (by omega))
        refine te_aload_n (p2 := 33) rfl rfl rfl ?_
        refine tg_r (p2 := 36) (i := 148) (r := 165) rfl rfl hI rfl rfl rfl ?_
        refine te_iload_n (p2 := 37) rfl rfl rfl ?_
        refine tl_i (p2 := 38) (i := 149) (n := 283) rfl rfl hI rfl rfl rfl rfl (by omega) (by omega) (fun y7 a7 b7 g7 e7 => ?_)
        refine te_istore (p2 := 40) (lv2 := [(4, .int y7), (0, .ref 164), (1, .int x1), (2, .int x2), (3, .int x3)]) rfl rfl (by decide) rfl ?_
        refine te_aload_n (p2 := 41) rfl rfl rfl ?_
        refine tg_r (p2 := 44) (i := 148) (r := 165) rfl rfl hI rfl rfl rfl ?_
        refine te_iload_n (p2 := 45) rfl rfl rfl ?_
        refine te_iload_n (p2 := 46) rfl rfl rfl ?_
        refine ts_i (p2 := 47) (i := 149) (n := 283) rfl rfl hI rfl rfl rfl rfl (by omega) (by omega) (i32_lo _) (i32_hi _) (i32_ho _) rfl (fun h8 I8 u8 => ?_)
        have f8 := fr_st (F := F_X12_ruin) 0 f0 u8 rfl (by omega) (by omega)
        refine te_aload_n (p2 := 48) rfl rfl rfl ?_
        refine tg_r (p2 := 51) (i := 148) (r := 168) rfl rfl I8 rfl rfl rfl ?_
        refine te_iload_n (p2 := 52) rfl rfl rfl ?_
        refine te_iload_n (p2 := 53) rfl rfl rfl ?_
        refine ts_i (p2 := 54) (i := 152) (n := 100) rfl rfl I8 rfl rfl rfl rfl (by omega) (by omega) (by omega) (by omega) (by omega) rfl (fun h9 I9 u9 => ?_)
        have f9 := fr_st (F := F_X12_ruin) 1 f8 u9 rfl (by omega) (by omega)
        refine te_iload (p2 := 56) rfl rfl rfl ?_
        exact te_iret rfl rfl ⟨I9, f9, _, rfl, (fun _ => u9.1), (fun k hn => by (have hk : k ≠ x1.toInt.toNat := hn.resolve_right (fun hq => hq (by omega))); exact ((u9.2 _ _ (Or.inr hk)).trans (u8.2 _ _ (Or.inl (by decide)))))⟩
      · subst w5
        have cc5_1 := (show Int32.toInt 0 = 0 from rfl)
        have cc5_2 := (show Int32.toInt 9999 = 9999 from rfl)
        refine tz_ne (p2 := 29) rfl rfl (show Int32.toInt 0 = 0 from rfl) (fun c10 => absurd c10 (by omega)) (fun c10 => ?_)
        refine te_bipush (p2 := 31) (x := (-2)) rfl rfl (by decide) ?_
        exact te_iret rfl rfl ⟨hI, f0, _, rfl, (fun hk => absurd hk (by omega)), (fun k hk => rfl)⟩
    · subst w3
      have cc3_1 := (show Int32.toInt 0 = 0 from rfl)
      have cc3_2 := (show Int32.toInt 5 = 5 from rfl)
      refine tz_eq (p2 := 18) rfl rfl (show Int32.toInt 0 = 0 from rfl) (fun c11 => ?_) (fun c11 => absurd c11 (by omega))
      refine te_bipush (p2 := 31) (x := (-2)) rfl rfl (by decide) ?_
      exact te_iret rfl rfl ⟨hI, f0, _, rfl, (fun hk => absurd hk (by omega)), (fun k hk => rfl)⟩
  · subst w1
    refine tz_ne (p2 := 7) rfl rfl (show Int32.toInt 0 = 0 from rfl) (fun c12 => absurd c12 (by omega)) (fun c12 => ?_)
    refine te_iconst (p2 := 8) (x := (-1)) rfl rfl (by decide) ?_
    exact te_iret rfl rfl ⟨hI, f0, _, rfl, (fun hk => absurd hk (by omega)), (fun k hk => rfl)⟩
abbrev Q1_pulls (x1 : Int32) (y : Int32) (h h2 : im_H) : Prop := True
set_option maxRecDepth 20000 in
set_option maxHeartbeats 4000000 in
theorem c_X11_pulls {x1 : Int32} {h : im_H} (hI : tI h)  : CaP 4 85 [.ref 16, .int x1] h (fun v h2 => tI h2 ∧ fr F_X11_pulls h h2 ∧ ∃ y : Int32, v = some (.int y) ∧ Q1_pulls x1 y h h2) := by
  refine cap_of (d := 3) (M := mX11_pulls) rfl (Nat.le_of_ble_eq_true rfl) ?_
  show EvP im_K0 3 mX11_pulls (0, [(0, .ref 16), (1, .int x1)], [], h) _
  have f0 : fr F_X11_pulls h h := fr_rf
  refine te_iload_n (p2 := 1) rfl rfl rfl ?_
  refine te_iconst (p2 := 2) (x := 4) rfl rfl (by decide) ?_
  refine cS_pI (p2 := 5) rfl rfl rfl rfl (t_X11_within (n := x1) (b := 4) hI ) (by decide) (fun y1 r1 => ?_)
  rcases r1 with ⟨w1, c1⟩ | ⟨w1, c1⟩
  · subst w1
    have cc1_1 := (show Int32.toInt 4 = 4 from rfl)
    refine tz_ne (p2 := 8) rfl rfl (show Int32.toInt 1 = 1 from rfl) (fun c2 => ?_) (fun c2 => absurd c2 (by omega))
    refine te_aload_n (p2 := 11) rfl rfl rfl ?_
    refine tg_r (p2 := 14) (i := 0) (r := 113) rfl rfl hI rfl rfl rfl ?_
    refine te_iload_n (p2 := 15) rfl rfl rfl ?_
    refine tl_f (p2 := 16) (i := 97) (n := 4) (c0 := 140) (sp := 2) rfl rfl hI rfl rfl (by decide) rq_97 (by omega) (by omega) (fun o3 w3 => ?_)
    have q3 : o3 = 140 ∨ o3 = 142 ∨ o3 = 144 ∨ o3 = 146 := by omega
    refine te_astore_n (p2 := 17) (lv2 := [(2, .ref (16 + o3)), (0, .ref 16), (1, .int x1)]) rfl rfl (by decide) rfl ?_
    refine te_aload_n (p2 := 18) rfl rfl rfl ?_
    refine cV_pI (p2 := 21) (i := o3) rfl rfl rfl rfl hI rfl (by rcases q3 with rfl | rfl | rfl | rfl <;> rfl) rfl (t_X8_isMissing (s := o3) hI q3) (by decide) (fun y4 r4 => ?_)
    obtain ⟨a4, b4⟩ := r4
    refine tz_eq (p2 := 24) rfl rfl rfl (fun c5 => ?_) (fun c5 => ?_)
    · refine te_aload_n (p2 := 28) rfl rfl rfl ?_
      refine tg_i (p2 := 31) (i := o3) rfl rfl hI rfl (by rcases q3 with rfl | rfl | rfl | rfl <;> rfl) (by rcases q3 with rfl | rfl | rfl | rfl <;> rfl) (fun y6 a6 b6 e6 => ?_)
      refine te_iconst (p2 := 32) (x := 1) rfl rfl (by decide) ?_
      refine te_bipush (p2 := 34) (x := 6) rfl rfl (by decide) ?_
      refine cS_pI (p2 := 37) rfl rfl rfl rfl (t_X11_between (n := y6) (a := 1) (b := 6) hI ) (by decide) (fun y7 r7 => ?_)
      rcases r7 with ⟨w7, c7⟩ | ⟨w7, c7⟩
      · subst w7
        have cc7_1 := (show Int32.toInt 1 = 1 from rfl)
        have cc7_2 := (show Int32.toInt 6 = 6 from rfl)
        refine tz_eq (p2 := 40) rfl rfl (show Int32.toInt 1 = 1 from rfl) (fun c8 => absurd c8 (by omega)) (fun c8 => ?_)
        refine te_aload_n (p2 := 41) rfl rfl rfl ?_
        refine te_aload_n (p2 := 42) rfl rfl rfl ?_
        refine cV_pI (p2 := 45) (i := 0) rfl rfl rfl rfl hI rfl rfl rfl (t_X11_areWallsToPull (s := o3)  hI  q3) (by decide) (fun y9 r9 => ?_)
        rcases r9 with r9 | ⟨r9, p9, e9, a9, b9, w9⟩
        · refine tz_ne (p2 := 48) rfl rfl rfl (fun c10 => absurd c10 (by omega)) (fun c10 => ?_)
          refine te_bipush (p2 := 50) (x := (-2)) rfl rfl (by decide) ?_
          exact te_iret rfl rfl ⟨hI, f0, _, rfl, trivial⟩
        · have x9 : p9 = y6 := int_inj e9 e6
          rw [x9] at w9
          refine tz_ne (p2 := 48) rfl rfl rfl (fun c11 => ?_) (fun c11 => absurd c11 (by omega))
          refine te_iconst (p2 := 52) (x := 0) rfl rfl (by decide) ?_
          refine te_istore_n (p2 := 53) (lv2 := [(3, .int 0), (2, .ref (16 + o3)), (0, .ref 16), (1, .int x1)]) rfl rfl (by decide) rfl ?_
          have lp12 : ∀ (n12 : Nat) (v12_3 : Int32) (h12 : im_H), tI h12 → fr F_X11_pulls h h12 → 0 ≤ v12_3.toInt → v12_3.toInt ≤ 6 → 6 - v12_3.toInt < (n12 : Int) → EvP im_K0 3 mX11_pulls (53, [(0, .ref 16), (1, .int x1), (2, .ref (16 + o3)), (3, .int v12_3)], [], h12) (fun v h2 => tI h2 ∧ fr F_X11_pulls h h2 ∧ ∃ y : Int32, v = some (.int y) ∧ Q1_pulls x1 y h h2) := by
            intro n12
            induction n12 with
            | zero => intro v12_3 h12 I12 f12 a12_3 b12_3 m12; exfalso; omega
            | succ n12 ih12 =>
              intro v12_3 h12 I12 f12 a12_3 b12_3 m12
              refine te_iload_n (p2 := 54) rfl rfl rfl ?_
              refine te_aload_n (p2 := 55) rfl rfl rfl ?_
              refine tg_e (p2 := 58) (i := o3) (v := .int y6) rfl rfl I12 rfl (by rcases q3 with rfl | rfl | rfl | rfl <;> rfl) ((f12 _ _ (by rcases q3 with rfl | rfl | rfl | rfl <;> rfl)).trans e6) ?_
              refine tb_ge (p2 := 61) rfl rfl rfl rfl (fun c13 => ?_) (fun c13 => ?_)
              · refine te_aload_n (p2 := 94) rfl rfl rfl ?_
                refine tg_r (p2 := 97) (i := 0) (r := 84) rfl rfl I12 rfl rfl rfl ?_
                refine te_aload_n (p2 := 98) rfl rfl rfl ?_
                refine cV_mI (p2 := 101) (i := 68) rfl rfl rfl rfl I12 rfl rfl rfl (t_X3_find (s := o3) I12 q3 ⟨y6, ((f12 _ _ (by rcases q3 with rfl | rfl | rfl | rfl <;> rfl)).trans e6), by omega, by omega⟩) (by decide) (fun y14 h14 I14 g14 r14 => ?_)
                have f14 := fr_tr (F1 := F_X3_find) (F := F_X11_pulls) f12 g14 (by decide)
                exact te_iret rfl rfl ⟨I14, f14, _, rfl, trivial⟩
              · refine te_aload_n (p2 := 62) rfl rfl rfl ?_
                refine tg_r (p2 := 65) (i := 0) (r := 84) rfl rfl I12 rfl rfl rfl ?_
                refine tg_r (p2 := 68) (i := 68) (r := 87) rfl rfl I12 rfl rfl rfl ?_
                refine te_iload_n (p2 := 69) rfl rfl rfl ?_
                refine te_aload_n (p2 := 70) rfl rfl rfl ?_
                refine tg_r (p2 := 73) (i := 0) (r := 17) rfl rfl I12 rfl rfl rfl ?_
                refine te_aload_n (p2 := 74) rfl rfl rfl ?_
                refine tg_r (p2 := 77) (i := 0) (r := 39) rfl rfl I12 rfl rfl rfl ?_
                refine te_aload_n (p2 := 78) rfl rfl rfl ?_
                refine tg_r (p2 := 81) (i := o3) (r := (16 + (o3 + 1))) rfl rfl I12 rfl (by rcases q3 with rfl | rfl | rfl | rfl <;> rfl) (by rcases q3 with rfl | rfl | rfl | rfl <;> rfl) ?_
                refine te_iload_n (p2 := 82) rfl rfl rfl ?_
                refine tl_i (p2 := 83) (i := (o3 + 1)) (n := 40) rfl rfl I12 rfl (by rcases q3 with rfl | rfl | rfl | rfl <;> rfl) (by rcases q3 with rfl | rfl | rfl | rfl <;> rfl) rfl (by omega) (by omega) (fun y15 a15 b15 g15 e15 => ?_)
                obtain ⟨a16, b16⟩ := allB_at (allB_fr w9 (fun q => f12 _ _ (by rcases q3 with rfl | rfl | rfl | rfl <;> rfl))) v12_3.toInt.toNat (by omega) (by rw [Nat.zero_add]) e15
                refine cV_pI (p2 := 86) (i := 1) rfl rfl rfl rfl I12 rfl rfl rfl (t_X0_daysUntilFall (s := 23) (k := y15) I12 (by decide) (by omega) (by omega)) (by decide) (fun y17 r17 => ?_)
                obtain ⟨a17, b17⟩ := r17
                refine ts_i (p2 := 87) (i := 71) (n := 6) rfl rfl I12 rfl rfl rfl rfl (by omega) (by omega) (i32_lo _) (i32_hi _) (i32_ho _) rfl (fun h18 I18 u18 => ?_)
                have f18 := fr_st (F := F_X11_pulls) 3 f12 u18 rfl (by omega) (by omega)
                refine ar_inc (p2 := 90) (x := v12_3) rfl rfl (by decide) rfl (by decide) rfl (by omega) (by omega) (fun z19 e19 f19 => ?_)
                show EvP _ _ _ (90, [(3, .int z19), (0, .ref 16), (1, .int x1), (2, .ref (16 + o3))], [], h18) _
                refine te_goto rfl ?_
                refine te_lv [(0, .ref 16), (1, .int x1), (2, .ref (16 + o3)), (3, .int z19)] rfl rfl ⟨rfl, rfl, rfl, rfl, trivial⟩ ?_
                exact ih12 z19 h18 I18 f18 (by omega) (by omega) (by omega)
          refine te_lv [(0, .ref 16), (1, .int x1), (2, .ref (16 + o3)), (3, .int 0)] rfl rfl ⟨rfl, rfl, rfl, rfl, trivial⟩ ?_
          exact lp12 7 0 h hI f0 (by decide) (by decide) (by have cc0 := (show Int32.toInt 0 = 0 from rfl); omega)
      · subst w7
        have cc7_1 := (show Int32.toInt 1 = 1 from rfl)
        have cc7_2 := (show Int32.toInt 6 = 6 from rfl)
        refine tz_eq (p2 := 40) rfl rfl (show Int32.toInt 0 = 0 from rfl) (fun c20 => ?_) (fun c20 => absurd c20 (by omega))
        refine te_bipush (p2 := 50) (x := (-2)) rfl rfl (by decide) ?_
        exact te_iret rfl rfl ⟨hI, f0, _, rfl, trivial⟩
    · refine te_bipush (p2 := 26) (x := (-11)) rfl rfl (by decide) ?_
      exact te_iret rfl rfl ⟨hI, f0, _, rfl, trivial⟩
  · subst w1
    have cc1_1 := (show Int32.toInt 4 = 4 from rfl)
    refine tz_ne (p2 := 8) rfl rfl (show Int32.toInt 0 = 0 from rfl) (fun c21 => absurd c21 (by omega)) (fun c21 => ?_)
    refine te_iconst (p2 := 9) (x := (-1)) rfl rfl (by decide) ?_
    exact te_iret rfl rfl ⟨hI, f0, _, rfl, trivial⟩
