def wkX (h : im_H) (c : Nat) : Int32 := if (rv h 2 c).toInt = -1 then 3 else ([3, 3, 2, 7, 2, 6] : List Int32).getD (rv h 2 c).toInt.toNat 0
def wkM (h : im_H) (c : Nat) : Int32 := if (rv h 152 c).toInt = -1 then 3 else rv h 156 (rv h 152 c).toInt.toNat
def wrX (h : im_H) (s k : Nat) : Int32 := rv h s 1 * wkX h (rv h 9 k).toInt.toNat / 10
def wrM (h : im_H) (k : Nat) : Int32 := rv h 149 106 * wkM h (rv h 167 k).toInt.toNat / 10
set_option maxRecDepth 20000 in
set_option maxHeartbeats 4000000 in
theorem c_X0_weakOf {c : Int32} {h : im_H} (hI : tI h) (p_c0 : 0 ≤ c.toInt) (p_c1 : c.toInt ≤ 99) : CaP 1 2 [.ref 17, .int c] h (pI h (fun y => y = wkX h c.toInt.toNat)) := by
  refine cap_of (d := 0) (M := mX0_weakOf) rfl (Nat.le_of_ble_eq_true rfl) ?_
  show EvP im_K0 0 mX0_weakOf (0, [(0, .ref 17), (1, .int c)], [], h) _
  refine te_aload_n (p2 := 1) rfl rfl rfl ?_
  refine tg_r (p2 := 4) (i := 1) (r := 18) rfl rfl hI rfl rfl rfl ?_
  refine te_iload_n (p2 := 5) rfl rfl rfl ?_
  refine tl_i (p2 := 6) (i := 2) (n := 100) rfl rfl hI rfl rfl rfl rfl (by omega) (by omega) (fun y1 a1 b1 g1 e1 => ?_)
  refine te_iconst (p2 := 7) (x := (-1)) rfl rfl (by decide) ?_
  refine tb_ne (p2 := 10) rfl rfl rfl (show Int32.toInt (-1) = (-1) from rfl) (fun c2 => ?_) (fun c2 => ?_)
  · refine te_gst (p2 := 17) rfl rfl (by decide) ?_
    refine te_aload_n (p2 := 18) rfl rfl rfl ?_
    refine tg_r (p2 := 21) (i := 1) (r := 18) rfl rfl hI rfl rfl rfl ?_
    refine te_iload_n (p2 := 22) rfl rfl rfl ?_
    refine tl_e (p2 := 23) (i := 2) (n := 100) (t := 0) (Or.inl rfl) rfl rfl hI rfl rfl (by omega) (by omega) e1 ?_
    refine tl_s (p2 := 24) (R := 3) (l := [3, 3, 2, 7, 2, 6]) (n := 6) (lo := 2) (hi := 7) rfl rfl (by decide) rfl rfl (by decide) (by omega) (by omega) (fun y4 a4 b4 e4 => ?_)
    exact te_iret rfl rfl ⟨rfl, _, rfl, (by unfold wkX; rw [rv_of e1, if_neg (by omega)]; exact e4.symm)⟩
  · refine te_iconst (p2 := 11) (x := 3) rfl rfl (by decide) ?_
    refine te_goto rfl ?_
    exact te_iret rfl rfl ⟨rfl, _, rfl, (by unfold wkX; rw [rv_of e1, if_pos (by omega)])⟩
set_option maxRecDepth 20000 in
set_option maxHeartbeats 4000000 in
theorem c_X12_weakOf {c : Int32} {h : im_H} (hI : tI h) (p_c0 : 0 ≤ c.toInt) (p_c1 : c.toInt ≤ 99) : CaP 1 122 [.ref 164, .int c] h (pI h (fun y => y = wkM h c.toInt.toNat)) := by
  refine cap_of (d := 0) (M := mX12_weakOf) rfl (Nat.le_of_ble_eq_true rfl) ?_
  show EvP im_K0 0 mX12_weakOf (0, [(0, .ref 164), (1, .int c)], [], h) _
  refine te_aload_n (p2 := 1) rfl rfl rfl ?_
  refine tg_r (p2 := 4) (i := 148) (r := 168) rfl rfl hI rfl rfl rfl ?_
  refine te_iload_n (p2 := 5) rfl rfl rfl ?_
  refine tl_i (p2 := 6) (i := 152) (n := 100) rfl rfl hI rfl rfl rfl rfl (by omega) (by omega) (fun y1 a1 b1 g1 e1 => ?_)
  refine te_iconst (p2 := 7) (x := (-1)) rfl rfl (by decide) ?_
  refine tb_ne (p2 := 10) rfl rfl rfl (show Int32.toInt (-1) = (-1) from rfl) (fun c2 => ?_) (fun c2 => ?_)
  · refine te_aload_n (p2 := 15) rfl rfl rfl ?_
    refine tg_r (p2 := 18) (i := 148) (r := 172) rfl rfl hI rfl rfl rfl ?_
    refine te_aload_n (p2 := 19) rfl rfl rfl ?_
    refine tg_r (p2 := 22) (i := 148) (r := 168) rfl rfl hI rfl rfl rfl ?_
    refine te_iload_n (p2 := 23) rfl rfl rfl ?_
    refine tl_e (p2 := 24) (i := 152) (n := 100) (t := 0) (Or.inl rfl) rfl rfl hI rfl rfl (by omega) (by omega) e1 ?_
    refine tl_i (p2 := 25) (i := 156) (n := 6) rfl rfl hI rfl rfl rfl rfl (by omega) (by omega) (fun y4 a4 b4 g4 e4 => ?_)
    exact te_iret rfl rfl ⟨rfl, _, rfl, (by unfold wkM; rw [rv_of e1, if_neg (by omega), rv_of e4])⟩
  · refine te_iconst (p2 := 11) (x := 3) rfl rfl (by decide) ?_
    refine te_goto rfl ?_
    exact te_iret rfl rfl ⟨rfl, _, rfl, (by unfold wkM; rw [rv_of e1, if_pos (by omega)])⟩
set_option maxRecDepth 20000 in
set_option maxHeartbeats 4000000 in
theorem c_X0_wearOf {s : Nat} {k : Int32} {h : im_H} (hI : tI h) (q_s : s = 23 ∨ s = 37 ∨ s = 51) (p_k0 : 0 ≤ k.toInt) (p_k1 : k.toInt ≤ 15) : CaP 2 12 [.ref 17, .ref (16 + s), .int k] h (pI h (fun y => y = wrX h s k.toInt.toNat)) := by
  refine cap_of (d := 1) (M := mX0_wearOf) rfl (Nat.le_of_ble_eq_true rfl) ?_
  show EvP im_K0 1 mX0_wearOf (0, [(0, .ref 17), (1, .ref (16 + s)), (2, .int k)], [], h) _
  refine te_aload_n (p2 := 1) rfl rfl rfl ?_
  refine tg_i (p2 := 4) (i := s) rfl rfl hI rfl (by rcases q_s with rfl | rfl | rfl <;> rfl) (by rcases q_s with rfl | rfl | rfl <;> rfl) (fun y1 a1 b1 e1 => ?_)
  refine te_aload_n (p2 := 5) rfl rfl rfl ?_
  refine te_aload_n (p2 := 6) rfl rfl rfl ?_
  refine tg_r (p2 := 9) (i := 1) (r := 25) rfl rfl hI rfl rfl rfl ?_
  refine te_iload_n (p2 := 10) rfl rfl rfl ?_
  refine tl_i (p2 := 11) (i := 9) (n := 16) rfl rfl hI rfl rfl rfl rfl (by omega) (by omega) (fun y2 a2 b2 g2 e2 => ?_)
  refine cV_pI (p2 := 14) (i := 1) rfl rfl rfl rfl hI rfl rfl rfl (c_X0_weakOf (c := y2) hI (by omega) (by omega)) (by decide) (fun y3 r3 => ?_)
  refine au_mul (p2 := 15) rfl rfl (fun z4 e4 => ?_)
  refine te_bipush (p2 := 17) (x := 10) rfl rfl (by decide) ?_
  refine au_div (p2 := 18) rfl rfl (show Int32.toInt 10 = 10 from rfl) (by decide) (fun z5 e5 => ?_)
  exact te_iret rfl rfl ⟨rfl, _, rfl, (by unfold wrX; rw [rv_of e1, rv_of e2, ← r3, e4, e5])⟩
set_option maxRecDepth 20000 in
set_option maxHeartbeats 4000000 in
theorem c_X0_wearsOut {s : Nat} {k : Int32} {h : im_H} (hI : tI h) (q_s : s = 23 ∨ s = 37 ∨ s = 51) (p_k0 : 0 ≤ k.toInt) (p_k1 : k.toInt ≤ 15) : CaP 3 13 [.ref 17, .ref (16 + s), .int k] h (fun v h2 => tI h2 ∧ fr (F_X0_wearsOut s) h h2 ∧ ∃ y : Int32, v = some (.int y) ∧ ∃ t : Int32, rd h (s + 8) k.toInt.toNat = some (.int t) ∧ rd h2 (s + 8) k.toInt.toNat = some (.int (t - wrX h s k.toInt.toNat)) ∧ (∀ j m, (j ≠ s + 8 ∨ m ≠ k.toInt.toNat) → rd h2 j m = rd h j m) ∧ ((y = 1 ∧ (t - wrX h s k.toInt.toNat).toInt ≤ (3 * rv h s 2).toInt) ∨ (y = 0 ∧ ¬ (t - wrX h s k.toInt.toNat).toInt ≤ (3 * rv h s 2).toInt))) := by
  refine cap_of (d := 2) (M := mX0_wearsOut) rfl (Nat.le_of_ble_eq_true rfl) ?_
  show EvP im_K0 2 mX0_wearsOut (0, [(0, .ref 17), (1, .ref (16 + s)), (2, .int k)], [], h) _
  have f0 : fr (F_X0_wearsOut s) h h := fr_rf
  refine te_aload_n (p2 := 1) rfl rfl rfl ?_
  refine tg_r (p2 := 4) (i := s) (r := (16 + (s + 8))) rfl rfl hI rfl (by rcases q_s with rfl | rfl | rfl <;> rfl) (by rcases q_s with rfl | rfl | rfl <;> rfl) ?_
  refine te_iload_n (p2 := 5) rfl rfl rfl ?_
  refine te_dup2 (p2 := 6) rfl rfl ⟨rfl, rfl⟩ ?_
  refine tl_i (p2 := 7) (i := (s + 8)) (n := 16) rfl rfl hI rfl (by rcases q_s with rfl | rfl | rfl <;> rfl) (by rcases q_s with rfl | rfl | rfl <;> rfl) rfl (by omega) (by omega) (fun y1 a1 b1 g1 e1 => ?_)
  refine te_aload_n (p2 := 8) rfl rfl rfl ?_
  refine te_aload_n (p2 := 9) rfl rfl rfl ?_
  refine te_iload_n (p2 := 10) rfl rfl rfl ?_
  refine cV_pI (p2 := 13) (i := 1) rfl rfl rfl rfl hI rfl rfl rfl (c_X0_wearOf (s := s) (k := k) hI q_s (by omega) (by omega)) (by decide) (fun y2 r2 => ?_)
  refine au_sub (p2 := 14) rfl rfl (fun z3 e3 => ?_)
  refine ts_i (p2 := 15) (i := (s + 8)) (n := 16) rfl rfl hI rfl (by rcases q_s with rfl | rfl | rfl <;> rfl) (by rcases q_s with rfl | rfl | rfl <;> rfl) rfl (by omega) (by omega) (i32_lo _) (i32_hi _) (i32_ho _) (by rcases q_s with rfl | rfl | rfl <;> rfl) (fun h4 I4 u4 => ?_)
  have f4 := fr_st (F := (F_X0_wearsOut s)) 0 f0 u4 rfl (by omega) (by omega)
  refine te_aload_n (p2 := 16) rfl rfl rfl ?_
  refine tg_r (p2 := 19) (i := s) (r := (16 + (s + 8))) rfl rfl I4 rfl (by rcases q_s with rfl | rfl | rfl <;> rfl) (by rcases q_s with rfl | rfl | rfl <;> rfl) ?_
  refine te_iload_n (p2 := 20) rfl rfl rfl ?_
  refine tl_e (p2 := 21) (i := (s + 8)) (n := 16) (t := 0) (Or.inl rfl) rfl rfl I4 rfl (by rcases q_s with rfl | rfl | rfl <;> rfl) (by omega) (by omega) u4.1 ?_
  refine te_iconst (p2 := 22) (x := 3) rfl rfl (by decide) ?_
  refine te_aload_n (p2 := 23) rfl rfl rfl ?_
  refine tg_i (p2 := 26) (i := s) rfl rfl I4 rfl (by rcases q_s with rfl | rfl | rfl <;> rfl) (by rcases q_s with rfl | rfl | rfl <;> rfl) (fun y6 a6 b6 e6 => ?_)
  refine au_mul (p2 := 27) rfl rfl (fun z7 e7 => ?_)
  refine tb_gt (p2 := 30) rfl rfl rfl rfl (fun c8 => ?_) (fun c8 => ?_)
  · refine te_iconst (p2 := 35) (x := 0) rfl rfl (by decide) ?_
    exact te_zret rfl rfl (by decide) ⟨I4, f4, _, rfl, y1, e1, (u4.1.trans (congrArg (fun t => some (Value.int t)) (show z3 = y1 - wrX h s k.toInt.toNat from (by rw [← r2, e3])))), u4.2, Or.inr ⟨rfl, (by rw [← (show z3 = y1 - wrX h s k.toInt.toNat from (by rw [← r2, e3])), rv_of ((f4 _ _ (by rcases q_s with rfl | rfl | rfl <;> rfl)).symm.trans e6), e7]; omega)⟩⟩
  · refine te_iconst (p2 := 31) (x := 1) rfl rfl (by decide) ?_
    refine te_goto rfl ?_
    exact te_zret rfl rfl (by decide) ⟨I4, f4, _, rfl, y1, e1, (u4.1.trans (congrArg (fun t => some (Value.int t)) (show z3 = y1 - wrX h s k.toInt.toNat from (by rw [← r2, e3])))), u4.2, Or.inl ⟨rfl, (by rw [← (show z3 = y1 - wrX h s k.toInt.toNat from (by rw [← r2, e3])), rv_of ((f4 _ _ (by rcases q_s with rfl | rfl | rfl <;> rfl)).symm.trans e6), e7]; omega)⟩⟩
set_option maxRecDepth 20000 in
set_option maxHeartbeats 4000000 in
theorem c_X12_wears {w : Int32} {h : im_H} (hI : tI h) (p_w0 : 0 ≤ w.toInt) (p_w1 : w.toInt ≤ 15) : CaP 2 153 [.ref 164, .int w] h (fun v h2 => tI h2 ∧ fr F_X12_wears h h2 ∧ ∃ y : Int32, v = some (.int y) ∧ ∃ t : Int32, rd h 149 (124 + w.toInt.toNat) = some (.int t) ∧ rd h2 149 (124 + w.toInt.toNat) = some (.int (t - wrM h w.toInt.toNat)) ∧ (∀ j m, (j ≠ 149 ∨ m ≠ 124 + w.toInt.toNat) → rd h2 j m = rd h j m) ∧ ((y = 1 ∧ (t - wrM h w.toInt.toNat).toInt ≤ (3 * rv h 149 107).toInt) ∨ (y = 0 ∧ ¬ (t - wrM h w.toInt.toNat).toInt ≤ (3 * rv h 149 107).toInt))) := by
  refine cap_of (d := 1) (M := mX12_wears) rfl (Nat.le_of_ble_eq_true rfl) ?_
  show EvP im_K0 1 mX12_wears (0, [(0, .ref 164), (1, .int w)], [], h) _
  have f0 : fr F_X12_wears h h := fr_rf
  refine te_aload_n (p2 := 1) rfl rfl rfl ?_
  refine tg_r (p2 := 4) (i := 148) (r := 165) rfl rfl hI rfl rfl rfl ?_
  refine te_bipush (p2 := 6) (x := 124) rfl rfl (by decide) ?_
  refine te_iload_n (p2 := 7) rfl rfl rfl ?_
  refine ar_add (p2 := 8) rfl rfl (show Int32.toInt 124 = 124 from rfl) rfl (by omega) (by omega) (fun z1 e1 f1 => ?_)
  refine te_dup2 (p2 := 9) rfl rfl ⟨rfl, rfl⟩ ?_
  refine tl_i (p2 := 10) (i := 149) (n := 283) rfl rfl hI rfl rfl rfl rfl (by omega) (by omega) (fun y2 a2 b2 g2 e2 => ?_)
  refine te_aload_n (p2 := 11) rfl rfl rfl ?_
  refine tg_r (p2 := 14) (i := 148) (r := 165) rfl rfl hI rfl rfl rfl ?_
  refine te_bipush (p2 := 16) (x := 106) rfl rfl (by decide) ?_
  refine tl_i (p2 := 17) (i := 149) (n := 283) rfl rfl hI rfl rfl rfl rfl (by decide) (by decide) (fun y3 a3 b3 g3 e3 => ?_)
  refine te_aload_n (p2 := 18) rfl rfl rfl ?_
  refine te_aload_n (p2 := 19) rfl rfl rfl ?_
  refine tg_r (p2 := 22) (i := 148) (r := 183) rfl rfl hI rfl rfl rfl ?_
  refine te_iload_n (p2 := 23) rfl rfl rfl ?_
  refine tl_i (p2 := 24) (i := 167) (n := 16) rfl rfl hI rfl rfl rfl rfl (by omega) (by omega) (fun y4 a4 b4 g4 e4 => ?_)
  refine cV_pI (p2 := 27) (i := 148) rfl rfl rfl rfl hI rfl rfl rfl (c_X12_weakOf (c := y4) hI (by omega) (by omega)) (by decide) (fun y5 r5 => ?_)
  refine au_mul (p2 := 28) rfl rfl (fun z6 e6 => ?_)
  refine te_bipush (p2 := 30) (x := 10) rfl rfl (by decide) ?_
  refine au_div (p2 := 31) rfl rfl (show Int32.toInt 10 = 10 from rfl) (by decide) (fun z7 e7 => ?_)
  refine au_sub (p2 := 32) rfl rfl (fun z8 e8 => ?_)
  refine ts_i (p2 := 33) (i := 149) (n := 283) rfl rfl hI rfl rfl rfl rfl (by omega) (by omega) (i32_lo _) (i32_hi _) (i32_ho _) rfl (fun h9 I9 u9 => ?_)
  have f9 := fr_st (F := F_X12_wears) 0 f0 u9 rfl (by omega) (by omega)
  refine te_aload_n (p2 := 34) rfl rfl rfl ?_
  refine tg_r (p2 := 37) (i := 148) (r := 165) rfl rfl I9 rfl rfl rfl ?_
  refine te_bipush (p2 := 39) (x := 124) rfl rfl (by decide) ?_
  refine te_iload_n (p2 := 40) rfl rfl rfl ?_
  refine ar_add (p2 := 41) rfl rfl (show Int32.toInt 124 = 124 from rfl) rfl (by omega) (by omega) (fun z10 e10 f10 => ?_)
  refine tl_i (p2 := 42) (i := 149) (n := 283) rfl rfl I9 rfl rfl rfl rfl (by omega) (by omega) (fun y11 a11 b11 g11 e11 => ?_)
  refine te_iconst (p2 := 43) (x := 3) rfl rfl (by decide) ?_
  refine te_aload_n (p2 := 44) rfl rfl rfl ?_
  refine tg_r (p2 := 47) (i := 148) (r := 165) rfl rfl I9 rfl rfl rfl ?_
  refine te_bipush (p2 := 49) (x := 107) rfl rfl (by decide) ?_
  refine tl_i (p2 := 50) (i := 149) (n := 283) rfl rfl I9 rfl rfl rfl rfl (by decide) (by decide) (fun y12 a12 b12 g12 e12 => ?_)
  refine au_mul (p2 := 51) rfl rfl (fun z13 e13 => ?_)
  refine tb_gt (p2 := 54) rfl rfl rfl rfl (fun c14 => ?_) (fun c14 => ?_)
  · refine te_iconst (p2 := 59) (x := 0) rfl rfl (by decide) ?_
    have ey15 := congrArg Int32.toInt (int_inj e11 (by rw [show z10.toInt.toNat = z1.toInt.toNat by omega]; exact u9.1))
    exact te_zret rfl rfl (by decide) ⟨I9, f9, _, rfl, y2, (by rw [(show 124 + w.toInt.toNat = z1.toInt.toNat by omega)]; exact e2), (by rw [(show 124 + w.toInt.toNat = z1.toInt.toNat by omega)]; exact u9.1.trans (congrArg (fun t => some (Value.int t)) (show z8 = y2 - wrM h w.toInt.toNat from (by rw [(show wrM h w.toInt.toNat = z7 from (by unfold wrM; rw [(rv_of (k := 106) e3 : rv h 149 106 = y3), rv_of e4, ← r5, e6, e7])), e8])))), (by rw [(show 124 + w.toInt.toNat = z1.toInt.toNat by omega)]; exact u9.2), Or.inr ⟨rfl, (by rw [← (show z8 = y2 - wrM h w.toInt.toNat from (by rw [(show wrM h w.toInt.toNat = z7 from (by unfold wrM; rw [(rv_of (k := 106) e3 : rv h 149 106 = y3), rv_of e4, ← r5, e6, e7])), e8])), (rv_of (k := 107) ((u9.2 _ _ (Or.inr (by (have := (show Int32.toInt 107 = 107 from rfl)); omega))).symm.trans e12) : rv h 149 107 = y12), e13]; omega)⟩⟩
  · refine te_iconst (p2 := 55) (x := 1) rfl rfl (by decide) ?_
    refine te_goto rfl ?_
    have ey16 := congrArg Int32.toInt (int_inj e11 (by rw [show z10.toInt.toNat = z1.toInt.toNat by omega]; exact u9.1))
    exact te_zret rfl rfl (by decide) ⟨I9, f9, _, rfl, y2, (by rw [(show 124 + w.toInt.toNat = z1.toInt.toNat by omega)]; exact e2), (by rw [(show 124 + w.toInt.toNat = z1.toInt.toNat by omega)]; exact u9.1.trans (congrArg (fun t => some (Value.int t)) (show z8 = y2 - wrM h w.toInt.toNat from (by rw [(show wrM h w.toInt.toNat = z7 from (by unfold wrM; rw [(rv_of (k := 106) e3 : rv h 149 106 = y3), rv_of e4, ← r5, e6, e7])), e8])))), (by rw [(show 124 + w.toInt.toNat = z1.toInt.toNat by omega)]; exact u9.2), Or.inl ⟨rfl, (by rw [← (show z8 = y2 - wrM h w.toInt.toNat from (by rw [(show wrM h w.toInt.toNat = z7 from (by unfold wrM; rw [(rv_of (k := 106) e3 : rv h 149 106 = y3), rv_of e4, ← r5, e6, e7])), e8])), (rv_of (k := 107) ((u9.2 _ _ (Or.inr (by (have := (show Int32.toInt 107 = 107 from rfl)); omega))).symm.trans e12) : rv h 149 107 = y12), e13]; omega)⟩⟩
theorem wrX_e {h : im_H} {s k : Nat} (hI : tI h) (hk : k < 16) : wrX h s k = (absX h s).we * wkn (ctX h) ((ctX h).wc k).toInt.toNat / 10 := by
  obtain ⟨_, e, y, w, a, b, _⟩ := hI.2.1 9 k (.inl (0, 99, 9999999999)) (tq_row rfl (by omega))
  subst w
  unfold wrX wkX wkn
  rw [show (ctX h).wc k = y from (gd_at hk).trans (rv_of e), rv_of e, show (ctX h).kd y.toInt.toNat = rv h 2 y.toInt.toNat from gd_at (by omega)]
  rfl
theorem wrM_e {h : im_H} {k : Nat} (hI : tI h) (hB : ∀ k : Nat, rd h 156 k = (KK[k]?).map Value.int) (hk : k < 16) : wrM h k = (absM h).we * wkn (ctM h) ((ctM h).wc k).toInt.toNat / 10 := by
  obtain ⟨_, e, y, w, a, b, _⟩ := hI.2.1 167 k (.inl (0, 99, 9999999999)) (tq_row rfl (by omega))
  subst w
  unfold wrM wkM wkn
  rw [show (ctM h).wc k = y from (gd_at hk).trans (rv_of e), rv_of e, show (ctM h).kd y.toInt.toNat = rv h 152 y.toInt.toNat from gd_at (by omega)]
  have eb : ∀ j, rv h 156 j = KK.getD j 0 := fun j => by
    unfold rv
    rw [hB, List.getD_eq_getElem?_getD]
    cases KK[j]? <;> rfl
  rw [eb]
  rfl
theorem d_X0_wearsOut {s : Nat} {k : Int32} {h : im_H} (hI : tI h) (q_s : s = 23 ∨ s = 37 ∨ s = 51) (p0 : 0 ≤ k.toInt) (p1 : k.toInt ≤ 15) : CaP 3 13 [.ref 17, .ref (16 + s), .int k] h (fun v h2 => tI h2 ∧ fr (F_X0_wearsOut s) h h2 ∧ ∃ y : Int32, v = some (.int y) ∧ absX h2 s = (Dy.s_st (absX h s) (udt (absX h s).st k.toInt.toNat (weF (ctX h) (absX h s) k.toInt.toNat))) ∧ ((y = 1 ∧ (weF (ctX h) (absX h s) k.toInt.toNat).toInt ≤ (3 * (absX h s).wi).toInt) ∨ (y = 0 ∧ ¬ (weF (ctX h) (absX h s) k.toInt.toNat).toInt ≤ (3 * (absX h s).wi).toInt))) :=
  cap_imp (c_X0_wearsOut hI q_s p0 p1) (fun v h2 ⟨a, f, y, e, t, e1, e2, kp, c⟩ => by
    have ew : t - wrX h s k.toInt.toNat = weF (ctX h) (absX h s) k.toInt.toNat := by
      unfold weF
      rw [aX_st (by omega), rv_of e1, wrX_e hI (by omega)]
    rw [ew] at e2 c
    exact ⟨a, f, y, e, xu_st ⟨e2, kp⟩ (by omega), c⟩)
theorem d_X12_wears {w : Int32} {h : im_H} (hI : tI h) (p0 : 0 ≤ w.toInt) (p1 : w.toInt ≤ 15) : CaP 2 153 [.ref 164, .int w] h (fun v h2 => tI h2 ∧ fr F_X12_wears h h2 ∧ ∃ y : Int32, v = some (.int y) ∧ ((∀ k : Nat, rd h 156 k = (KK[k]?).map Value.int) → absM h2 = (Dy.s_st (absM h) (udt (absM h).st w.toInt.toNat (weF (ctM h) (absM h) w.toInt.toNat))) ∧ ((y = 1 ∧ (weF (ctM h) (absM h) w.toInt.toNat).toInt ≤ (3 * (absM h).wi).toInt) ∨ (y = 0 ∧ ¬ (weF (ctM h) (absM h) w.toInt.toNat).toInt ≤ (3 * (absM h).wi).toInt)))) :=
  cap_imp (c_X12_wears hI p0 p1) (fun v h2 ⟨a, f, y, e, t, e1, e2, kp, c⟩ => ⟨a, f, y, e, fun hB => by
    have ew : t - wrM h w.toInt.toNat = weF (ctM h) (absM h) w.toInt.toNat := by
      unfold weF
      rw [aM_st (by omega), rv_of e1, wrM_e hI hB (by omega)]
    rw [ew] at e2 c
    exact ⟨mu_st (i := w.toInt.toNat) ⟨e2, kp⟩ rfl (by omega), c⟩⟩)
def dyR (c : Ct) (A : Dy) (n : Nat) : Dy := itF (roF c) A n
def dyA (c : Ct) (A : Dy) (n : Nat) : Dy := itF (raF c) (itF (roF c) A 4) n
def dyW (c : Ct) (A : Dy) (n : Nat) : Dy := itF (waF c) (itF (raF c) (itF (roF c) A 4) 3) n
theorem dyR_0 {c : Ct} {A : Dy} {n : Nat} (e : n = 0) : A = dyR c A n := by
  subst e
  rfl
theorem it_0 {f : Dy → Nat → Dy} {A : Dy} : itF f A 0 = A := rfl
theorem dyA_0 {c : Ct} {A : Dy} {n : Nat} (e : n = 0) : dyR c A 4 = dyA c A n := by
  subst e
  exact (it_0 (f := raF c) (A := itF (roF c) A 4)).symm
theorem dyW_0 {c : Ct} {A : Dy} {n : Nat} (e : n = 0) : dyA c A 3 = dyW c A n := by
  subst e
  exact (it_0 (f := waF c) (A := itF (raF c) (itF (roF c) A 4) 3)).symm
theorem dyR_s {c : Ct} {A : Dy} {n : Nat} : roF c (dyR c A n) n = dyR c A (n + 1) := rfl
theorem dyA_s {c : Ct} {A : Dy} {n : Nat} : raF c (dyA c A n) n = dyA c A (n + 1) := rfl
theorem dyW_s {c : Ct} {A : Dy} {n : Nat} : waF c (dyW c A n) n = dyW c A (n + 1) := rfl
theorem itW_da {f : Dy → Nat → Dy} (hf : ∀ (A : Dy) (k : Nat), (f A k).da = A.da) {A : Dy} : ∀ n, (itF f A n).da = A.da
  | 0 => rfl
  | n + 1 => (hf _ _).trans (itW_da hf n)
theorem br_da {c : Ct} {A : Dy} {t : Nat} {n : Int32} : (brF c A t n).da = A.da := by
  unfold brF
  split <;> rfl
theorem wk_da {c : Ct} {r : Nat} {A : Dy} : ∀ n, (wkF c r A n).da = A.da
  | 0 => rfl
  | n + 1 => wk_da (c := c) (r := r) (A := A) n
theorem kp_da {c : Ct} {A : Dy} {f : Nat} {t : Int32} : (kpF c A f t).da = A.da := by
  unfold kpF
  split <;> rfl
theorem ro_da {c : Ct} {A : Dy} {r : Nat} : (roF c A r).da = A.da := by
  unfold roF
  split
  · show (paF c _ r _).da = A.da
    unfold paF
    rw [wk_da, br_da]
    exact kp_da
  · rfl
theorem ra_da {c : Ct} {A : Dy} {r : Nat} : (raF c A r).da = A.da := by
  unfold raF
  split
  · rfl
  · rw [br_da]
theorem hi_da {c : Ct} {t : Int32} {A : Dy} {p : Nat} : (hiF c t A p).da = A.da := by
  unfold hiF
  (repeat' split) <;> rfl
theorem his_da {c : Ct} {t : Int32} {A : Dy} : ∀ n, (hisF c t A n).da = A.da
  | 0 => rfl
  | n + 1 => hi_da.trans (his_da n)
theorem wa_da {c : Ct} {A : Dy} {k : Nat} : (waF c A k).da = A.da := by
  unfold waF
  split
  · split
    · exact his_da (A := (Dy.s_ld (Dy.s_up ((Dy.s_st A (udt A.st k (weF c A k)))) (udt A.up k 0)) (udt A.ld (c.wt k).toInt.toNat (A.ld (c.wt k).toInt.toNat + 20)))) _
    · rfl
  · rfl
theorem he_da {A : Dy} {p : Nat} : (heF A p).da = A.da := by
  unfold heF
  split <;> rfl
theorem dyW_da {c : Ct} {A : Dy} {n : Nat} : (dyW c A n).da = A.da := by
  unfold dyW
  rw [itW_da (f := waF c) (fun A k => wa_da (c := c) (A := A) (k := k)), itW_da (f := raF c) (fun A k => ra_da (c := c) (A := A) (r := k)), itW_da (f := roF c) (fun A k => ro_da (c := c) (A := A) (r := k))]
theorem dy_n {c : Ct} {A B : Dy} {n : Nat} {d z : Int32} (hn : c.nw.toInt.toNat = n) (hB : B = dyW c A n) (hd : A.da = d) (h : (d - d / 7 * 7).toInt ≠ 6) (hz : B.da + 1 = z) : (Dy.s_da B (z)) = dyF c A := by
  unfold dyF
  rw [hd, if_neg h, ← hz, hB, dyW_da, hd, hn]
  rfl
theorem dy_y {c : Ct} {A B : Dy} {n : Nat} {d z : Int32} (hn : c.nw.toInt.toNat = n) (hB : B = itF heF (dyW c A n) c.np.toInt.toNat) (hd : A.da = d) (h : (d - d / 7 * 7).toInt = 6) (hz : B.da + 1 = z) : (Dy.s_da B (z)) = dyF c A := by
  unfold dyF
  rw [hd, if_pos h, ← hz, hB, itW_da (f := heF) (fun A k => he_da (A := A) (p := k)), dyW_da, hd, hn]
  rfl
set_option maxRecDepth 20000 in
set_option maxHeartbeats 4000000 in
theorem d_X0_playDay {s : Nat} {h : im_H} (hI : tI h) (q_s : s = 23 ∨ s = 37 ∨ s = 51) : CaP 6 7 [.ref 17, .ref (16 + s)] h (fun v h2 => tI h2 ∧ fr (F_X0_playDay s) h h2 ∧ v = none ∧ absX h2 s = dyF (ctX h) (absX h s)) := by
  refine cap_of (d := 5) (M := mX0_playDay) rfl (Nat.le_of_ble_eq_true rfl) ?_
  show EvP im_K0 5 mX0_playDay (0, [(0, .ref 17), (1, .ref (16 + s))], [], h) _
  have f0 : fr (F_X0_playDay s) h h := fr_rf
  refine te_iconst (p2 := 1) (x := 0) rfl rfl (by decide) ?_
  obtain ⟨v1, e1, y1, w1, a1, b1, _⟩ := hI.2.1 1 9 (.inl (0, 16, 9999999999)) rfl
  subst w1
  refine te_istore_n (p2 := 2) (lv2 := [(2, .int 0), (0, .ref 17), (1, .ref (16 + s))]) rfl rfl (by decide) rfl ?_
  have lp2 : ∀ (n2 : Nat) (v2_2 : Int32) (h2 : im_H), tI h2 → fr (F_X0_playDay s) h h2 → 0 ≤ v2_2.toInt → v2_2.toInt ≤ 4 → (absX h2 s = dyR (ctX h) (absX h s) v2_2.toInt.toNat) → 4 - v2_2.toInt < (n2 : Int) → EvP im_K0 5 mX0_playDay (2, [(0, .ref 17), (1, .ref (16 + s)), (2, .int v2_2)], [], h2) (fun v h2 => tI h2 ∧ fr (F_X0_playDay s) h h2 ∧ v = none ∧ absX h2 s = dyF (ctX h) (absX h s)) := by
    intro n2
    induction n2 with
    | zero => intro v2_2 h2 I2 f2 a2_2 b2_2 w2_0 m2; exfalso; omega
    | succ n2 ih2 =>
      intro v2_2 h2 I2 f2 a2_2 b2_2 w2_0 m2
      refine te_iload_n (p2 := 3) rfl rfl rfl ?_
      refine te_iconst (p2 := 4) (x := 4) rfl rfl (by decide) ?_
      refine tb_ge (p2 := 7) rfl rfl rfl (show Int32.toInt 4 = 4 from rfl) (fun c3 => ?_) (fun c3 => ?_)
      · refine te_iconst (p2 := 20) (x := 0) rfl rfl (by decide) ?_
        refine te_istore_n (p2 := 21) (lv2 := [(2, .int 0), (0, .ref 17), (1, .ref (16 + s))]) rfl rfl (by decide) rfl ?_
        have lp4 : ∀ (n4 : Nat) (v4_2 : Int32) (h4 : im_H), tI h4 → fr (F_X0_playDay s) h h4 → 0 ≤ v4_2.toInt → v4_2.toInt ≤ 3 → (absX h4 s = dyA (ctX h) (absX h s) v4_2.toInt.toNat) → 3 - v4_2.toInt < (n4 : Int) → EvP im_K0 5 mX0_playDay (21, [(0, .ref 17), (1, .ref (16 + s)), (2, .int v4_2)], [], h4) (fun v h2 => tI h2 ∧ fr (F_X0_playDay s) h h2 ∧ v = none ∧ absX h2 s = dyF (ctX h) (absX h s)) := by
          intro n4
          induction n4 with
          | zero => intro v4_2 h4 I4 f4 a4_2 b4_2 w4_0 m4; exfalso; omega
          | succ n4 ih4 =>
            intro v4_2 h4 I4 f4 a4_2 b4_2 w4_0 m4
            refine te_iload_n (p2 := 22) rfl rfl rfl ?_
            refine te_iconst (p2 := 23) (x := 3) rfl rfl (by decide) ?_
            refine tb_ge (p2 := 26) rfl rfl rfl (show Int32.toInt 3 = 3 from rfl) (fun c5 => ?_) (fun c5 => ?_)
            · refine te_iconst (p2 := 39) (x := 0) rfl rfl (by decide) ?_
              refine te_istore_n (p2 := 40) (lv2 := [(2, .int 0), (0, .ref 17), (1, .ref (16 + s))]) rfl rfl (by decide) rfl ?_
              have lp6 : ∀ (n6 : Nat) (v6_2 : Int32) (h6 : im_H), tI h6 → fr (F_X0_playDay s) h h6 → 0 ≤ v6_2.toInt → v6_2.toInt ≤ 16 → v6_2.toInt ≤ y1.toInt → (absX h6 s = dyW (ctX h) (absX h s) v6_2.toInt.toNat) → 16 - v6_2.toInt < (n6 : Int) → EvP im_K0 5 mX0_playDay (40, [(0, .ref 17), (1, .ref (16 + s)), (2, .int v6_2)], [], h6) (fun v h2 => tI h2 ∧ fr (F_X0_playDay s) h h2 ∧ v = none ∧ absX h2 s = dyF (ctX h) (absX h s)) := by
                intro n6
                induction n6 with
                | zero => intro v6_2 h6 I6 f6 a6_2 b6_2 l6_0 w6_0 m6; exfalso; omega
                | succ n6 ih6 =>
                  intro v6_2 h6 I6 f6 a6_2 b6_2 l6_0 w6_0 m6
                  refine te_iload_n (p2 := 41) rfl rfl rfl ?_
                  refine te_aload_n (p2 := 42) rfl rfl rfl ?_
                  refine tg_e (p2 := 45) (i := 1) (v := .int y1) rfl rfl I6 rfl rfl ((f6 _ _ (by rcases q_s with rfl | rfl | rfl <;> rfl)).trans e1) ?_
                  refine tb_ge (p2 := 48) rfl rfl rfl rfl (fun c7 => ?_) (fun c7 => ?_)
                  · refine te_iconst (p2 := 80) (x := 0) rfl rfl (by decide) ?_
                    refine te_istore_n (p2 := 81) (lv2 := [(2, .int 0), (0, .ref 17), (1, .ref (16 + s))]) rfl rfl (by decide) rfl ?_
                    have lp8 : ∀ (n8 : Nat) (v8_2 : Int32) (h8 : im_H), tI h8 → fr (F_X0_playDay s) h h8 → 0 ≤ v8_2.toInt → v8_2.toInt ≤ 24 → (absX h8 s = dyW (ctX h) (absX h s) y1.toInt.toNat) → 24 - v8_2.toInt < (n8 : Int) → EvP im_K0 5 mX0_playDay (81, [(0, .ref 17), (1, .ref (16 + s)), (2, .int v8_2)], [], h8) (fun v h2 => tI h2 ∧ fr (F_X0_playDay s) h h2 ∧ v = none ∧ absX h2 s = dyF (ctX h) (absX h s)) := by
                      intro n8
                      induction n8 with
                      | zero => intro v8_2 h8 I8 f8 a8_2 b8_2 w8_0 m8; exfalso; omega
                      | succ n8 ih8 =>
                        intro v8_2 h8 I8 f8 a8_2 b8_2 w8_0 m8
                        refine te_iload_n (p2 := 82) rfl rfl rfl ?_
                        refine te_aload_n (p2 := 83) rfl rfl rfl ?_
                        refine tg_i (p2 := 86) (i := 1) rfl rfl I8 rfl rfl rfl (fun y9 a9 b9 e9 => ?_)
                        refine tb_ge (p2 := 89) rfl rfl rfl rfl (fun c10 => ?_) (fun c10 => ?_)
                        · refine te_aload_n (p2 := 126) rfl rfl rfl ?_
                          refine tg_i (p2 := 129) (i := s) rfl rfl I8 rfl (by rcases q_s with rfl | rfl | rfl <;> rfl) (by rcases q_s with rfl | rfl | rfl <;> rfl) (fun y11 a11 b11 e11 => ?_)
                          refine te_bipush (p2 := 131) (x := 7) rfl rfl (by decide) ?_
                          refine au_rem (p2 := 132) rfl rfl (show Int32.toInt 7 = 7 from rfl) (by decide) (fun z12 e12 => ?_)
                          refine te_bipush (p2 := 134) (x := 6) rfl rfl (by decide) ?_
                          refine tb_ne (p2 := 137) rfl rfl rfl (show Int32.toInt 6 = 6 from rfl) (fun c13 => ?_) (fun c13 => ?_)
                          · refine te_aload_n (p2 := 143) rfl rfl rfl ?_
                            refine te_dup (p2 := 144) rfl rfl rfl ?_
                            refine tg_e (p2 := 147) (i := s) (v := .int y11) rfl rfl I8 rfl (by rcases q_s with rfl | rfl | rfl <;> rfl) e11 ?_
                            refine te_iconst (p2 := 148) (x := 1) rfl rfl (by decide) ?_
                            refine au_add (p2 := 149) rfl rfl (fun z14 e14 => ?_)
                            refine tp_i (p2 := 152) (i := s) rfl rfl I8 rfl (by rcases q_s with rfl | rfl | rfl <;> rfl) (by decide) rfl rfl (by rcases q_s with rfl | rfl | rfl <;> rfl) (i32_lo _) (i32_hi _) (i32_ho _) (by rcases q_s with rfl | rfl | rfl <;> rfl) (fun h15 I15 u15 => ?_)
                            have f15 := fr_st (F := (F_X0_playDay s)) 12 f8 u15 rfl (by decide) (by decide)
                            exact te_vret rfl rfl ⟨I15, f15, rfl, (by rw [xu_da u15]; exact dy_n (show (ctX h).nw.toInt.toNat = y1.toInt.toNat from (by rw [show (ctX h).nw = y1 from rv_of e1])) w8_0 (show (absX h s).da = y11 from (dyW_da (n := y1.toInt.toNat)).symm.trans ((congrArg Dy.da w8_0).symm.trans (rv_of e11))) (by rw [e12]; omega) (by rw [show (absX h8 s).da = y11 from rv_of e11]; exact e14))⟩
                          · refine te_aload_n (p2 := 138) rfl rfl rfl ?_
                            refine te_aload_n (p2 := 139) rfl rfl rfl ?_
                            refine tc_V (p2 := 142) (i := 1) rfl rfl rfl rfl I8 rfl rfl rfl (c_X0_heal (s := s) I8 q_s) (by decide) (fun v16 h16 hq16 => ?_)
                            obtain ⟨I16, g16, w16, Q16⟩ := hq16
                            subst w16
                            have f16 := fr_tr (F1 := (F_X0_heal s)) (F := (F_X0_playDay s)) f8 g16 (by rcases q_s with rfl | rfl | rfl <;> decide)
                            show EvP _ _ _ (142, [(0, .ref 17), (1, .ref (16 + s)), (2, .int v8_2)], [], h16) _
                            refine te_aload_n (p2 := 143) rfl rfl rfl ?_
                            refine te_dup (p2 := 144) rfl rfl rfl ?_
                            refine tg_e (p2 := 147) (i := s) (v := .int y11) rfl rfl I16 rfl (by rcases q_s with rfl | rfl | rfl <;> rfl) ((g16 _ _ (by rcases q_s with rfl | rfl | rfl <;> rfl)).trans e11) ?_
                            refine te_iconst (p2 := 148) (x := 1) rfl rfl (by decide) ?_
                            refine au_add (p2 := 149) rfl rfl (fun z17 e17 => ?_)
                            refine tp_i (p2 := 152) (i := s) rfl rfl I16 rfl (by rcases q_s with rfl | rfl | rfl <;> rfl) (by decide) rfl rfl (by rcases q_s with rfl | rfl | rfl <;> rfl) (i32_lo _) (i32_hi _) (i32_ho _) (by rcases q_s with rfl | rfl | rfl <;> rfl) (fun h18 I18 u18 => ?_)
                            have f18 := fr_st (F := (F_X0_playDay s)) 12 f16 u18 rfl (by decide) (by decide)
                            exact te_vret rfl rfl ⟨I18, f18, rfl, (by rw [xu_da u18]; exact dy_y (show (ctX h).nw.toInt.toNat = y1.toInt.toNat from (by rw [show (ctX h).nw = y1 from rv_of e1])) (by rw [Q16, (show ctX h8 = ctX h from ctX_fr f8 (by rcases q_s with rfl | rfl | rfl <;> rfl)), w8_0]) (show (absX h s).da = y11 from (dyW_da (n := y1.toInt.toNat)).symm.trans ((congrArg Dy.da w8_0).symm.trans (rv_of e11))) (by rw [e12]; omega) (by rw [show (absX h16 s).da = y11 from rv_of ((g16 _ _ (by rcases q_s with rfl | rfl | rfl <;> rfl)).trans e11)]; exact e17))⟩
                        · refine te_aload_n (p2 := 90) rfl rfl rfl ?_
                          refine tg_r (p2 := 93) (i := s) (r := (16 + (s + 7))) rfl rfl I8 rfl (by rcases q_s with rfl | rfl | rfl <;> rfl) (by rcases q_s with rfl | rfl | rfl <;> rfl) ?_
                          refine te_iload_n (p2 := 94) rfl rfl rfl ?_
                          refine tl_b (p2 := 95) (i := (s + 7)) (n := 24) rfl rfl I8 rfl (by rcases q_s with rfl | rfl | rfl <;> rfl) (by rcases q_s with rfl | rfl | rfl <;> rfl) rfl (by omega) (by omega) (fun y19 a19 e19 => ?_)
                          refine tz_ne (p2 := 98) rfl rfl rfl (fun c20 => ?_) (fun c20 => ?_)
                          · refine ar_inc (p2 := 122) (x := v8_2) rfl rfl (by decide) rfl (by decide) rfl (by omega) (by omega) (fun z21 e21 f21 => ?_)
                            show EvP _ _ _ (122, [(2, .int z21), (0, .ref 17), (1, .ref (16 + s))], [], h8) _
                            refine te_goto rfl ?_
                            refine te_lv [(0, .ref 17), (1, .ref (16 + s)), (2, .int z21)] rfl rfl ⟨rfl, rfl, rfl, trivial⟩ ?_
                            exact ih8 z21 h8 I8 f8 (by omega) (by omega) w8_0 (by omega)
                          · refine te_aload_n (p2 := 99) rfl rfl rfl ?_
                            refine tg_r (p2 := 102) (i := s) (r := (16 + (s + 6))) rfl rfl I8 rfl (by rcases q_s with rfl | rfl | rfl <;> rfl) (by rcases q_s with rfl | rfl | rfl <;> rfl) ?_
                            refine te_iload_n (p2 := 103) rfl rfl rfl ?_
                            refine te_dup2 (p2 := 104) rfl rfl ⟨rfl, rfl⟩ ?_
                            refine tl_i (p2 := 105) (i := (s + 6)) (n := 24) rfl rfl I8 rfl (by rcases q_s with rfl | rfl | rfl <;> rfl) (by rcases q_s with rfl | rfl | rfl <;> rfl) rfl (by omega) (by omega) (fun y22 a22 b22 g22 e22 => ?_)
                            refine te_aload_n (p2 := 106) rfl rfl rfl ?_
                            refine te_aload_n (p2 := 107) rfl rfl rfl ?_
                            refine te_iload_n (p2 := 108) rfl rfl rfl ?_
                            refine te_iconst (p2 := 109) (x := 1) rfl rfl (by decide) ?_
                            refine tc_V (p2 := 112) (i := 1) rfl rfl rfl rfl I8 rfl rfl rfl (d_X0_said (s := s) (p := v8_2) (key := 1) I8 q_s (by omega) (by omega)) (by decide) (fun v23 h23 hq23 => ?_)
                            obtain ⟨I23, g23, y23, w23, Q23⟩ := hq23
                            subst w23
                            have f23 := fr_tr (F1 := F_X0_said) (F := (F_X0_playDay s)) f8 g23 (by rcases q_s with rfl | rfl | rfl <;> decide)
                            show EvP _ _ _ (112, [(0, .ref 17), (1, .ref (16 + s)), (2, .int v8_2)], [.int y23, .int y22, .int v8_2, .ref (16 + (s + 6))], h23) _
                            refine te_bipush (p2 := 114) (x := 9) rfl rfl (by decide) ?_
                            refine ar_min (p2 := 117) rfl rfl rfl rfl (show Int32.toInt 9 = 9 from rfl) (fun z24 e24 f24 => ?_)
                            refine au_add (p2 := 118) rfl rfl (fun z25 e25 => ?_)
                            refine ts_i (p2 := 119) (i := (s + 6)) (n := 24) rfl rfl I23 rfl (by rcases q_s with rfl | rfl | rfl <;> rfl) (by rcases q_s with rfl | rfl | rfl <;> rfl) rfl (by omega) (by omega) (i32_lo _) (i32_hi _) (i32_ho _) (by rcases q_s with rfl | rfl | rfl <;> rfl) (fun h26 I26 u26 => ?_)
                            have f26 := fr_st (F := (F_X0_playDay s)) 7 f23 u26 rfl (by omega) (by omega)
                            refine ar_inc (p2 := 122) (x := v8_2) rfl rfl (by decide) rfl (by decide) rfl (by omega) (by omega) (fun z27 e27 f27 => ?_)
                            show EvP _ _ _ (122, [(2, .int z27), (0, .ref 17), (1, .ref (16 + s))], [], h26) _
                            refine te_goto rfl ?_
                            refine te_lv [(0, .ref 17), (1, .ref (16 + s)), (2, .int z27)] rfl rfl ⟨rfl, rfl, rfl, trivial⟩ ?_
                            exact ih8 z27 h26 I26 f26 (by omega) (by omega) ((xu_gv u26).trans ((absX_fr g23 (fun q hq => by (simp only [List.mem_cons, List.not_mem_nil, or_false] at hq); subst hq; omega)).trans w8_0)) (by omega)
                    refine te_lv [(0, .ref 17), (1, .ref (16 + s)), (2, .int 0)] rfl rfl ⟨rfl, rfl, rfl, trivial⟩ ?_
                    exact lp8 25 0 h6 I6 f6 (by decide) (by decide) (by rw [w6_0, show v6_2.toInt.toNat = y1.toInt.toNat by omega]) (by have cc0 := (show Int32.toInt 0 = 0 from rfl); omega)
                  · refine te_aload_n (p2 := 49) rfl rfl rfl ?_
                    refine tg_r (p2 := 52) (i := s) (r := (16 + (s + 9))) rfl rfl I6 rfl (by rcases q_s with rfl | rfl | rfl <;> rfl) (by rcases q_s with rfl | rfl | rfl <;> rfl) ?_
                    refine te_iload_n (p2 := 53) rfl rfl rfl ?_
                    refine tl_b (p2 := 54) (i := (s + 9)) (n := 16) rfl rfl I6 rfl (by rcases q_s with rfl | rfl | rfl <;> rfl) (by rcases q_s with rfl | rfl | rfl <;> rfl) rfl (by omega) (by omega) (fun y28 a28 e28 => ?_)
                    refine tz_eq (p2 := 57) rfl rfl rfl (fun c29 => ?_) (fun c29 => ?_)
                    · refine ar_inc (p2 := 76) (x := v6_2) rfl rfl (by decide) rfl (by decide) rfl (by omega) (by omega) (fun z30 e30 f30 => ?_)
                      show EvP _ _ _ (76, [(2, .int z30), (0, .ref 17), (1, .ref (16 + s))], [], h6) _
                      refine te_goto rfl ?_
                      refine te_lv [(0, .ref 17), (1, .ref (16 + s)), (2, .int z30)] rfl rfl ⟨rfl, rfl, rfl, trivial⟩ ?_
                      exact ih6 z30 h6 I6 f6 (by omega) (by omega) (by omega) (by rw [show z30.toInt.toNat = v6_2.toInt.toNat + 1 by omega]; exact (show absX h6 s = waF (ctX h) (absX h6 s) v6_2.toInt.toNat from wa_n (by rw [(show ((absX h6 s).up v6_2.toInt.toNat).toInt = y28.toInt from (by rw [aX_up (by omega), rv_of e28]))]; omega)).trans ((congrArg (fun A => waF (ctX h) A v6_2.toInt.toNat) w6_0).trans dyW_s)) (by omega)
                    · refine te_aload_n (p2 := 58) rfl rfl rfl ?_
                      refine te_aload_n (p2 := 59) rfl rfl rfl ?_
                      refine te_iload_n (p2 := 60) rfl rfl rfl ?_
                      refine tc_V (p2 := 63) (i := 1) rfl rfl rfl rfl I6 rfl rfl rfl (d_X0_wearsOut (s := s) (k := v6_2) I6 q_s (by omega) (by omega)) (by decide) (fun v31 h31 hq31 => ?_)
                      obtain ⟨I31, g31, y31, w31, Q31, Qc31⟩ := hq31
                      subst w31
                      have f31 := fr_tr (F1 := (F_X0_wearsOut s)) (F := (F_X0_playDay s)) f6 g31 (by rcases q_s with rfl | rfl | rfl <;> decide)
                      rcases Qc31 with ⟨x31, c31⟩ | ⟨x31, c31⟩
                      · subst x31
                        show EvP _ _ _ (63, [(0, .ref 17), (1, .ref (16 + s)), (2, .int v6_2)], [.int 1], h31) _
                        refine tz_eq (p2 := 66) rfl rfl (show Int32.toInt 1 = 1 from rfl) (fun c32 => absurd c32 (by omega)) (fun c32 => ?_)
                        refine te_aload_n (p2 := 67) rfl rfl rfl ?_
                        refine te_aload_n (p2 := 68) rfl rfl rfl ?_
                        refine te_iload_n (p2 := 69) rfl rfl rfl ?_
                        refine tc_V (p2 := 72) (i := 1) rfl rfl rfl rfl I31 rfl rfl rfl (d_X0_fall (s := s) (k := v6_2) I31 q_s (by omega) (by omega)) (by decide) (fun v33 h33 hq33 => ?_)
                        obtain ⟨I33, g33, y33, w33, Q33⟩ := hq33
                        subst w33
                        have f33 := fr_tr (F1 := (F_X0_fall s)) (F := (F_X0_playDay s)) f31 g33 (by rcases q_s with rfl | rfl | rfl <;> decide)
                        show EvP _ _ _ (72, [(0, .ref 17), (1, .ref (16 + s)), (2, .int v6_2)], [.int y33], h33) _
                        refine te_pop (p2 := 73) rfl rfl rfl ?_
                        refine ar_inc (p2 := 76) (x := v6_2) rfl rfl (by decide) rfl (by decide) rfl (by omega) (by omega) (fun z34 e34 f34 => ?_)
                        show EvP _ _ _ (76, [(2, .int z34), (0, .ref 17), (1, .ref (16 + s))], [], h33) _
                        refine te_goto rfl ?_
                        refine te_lv [(0, .ref 17), (1, .ref (16 + s)), (2, .int z34)] rfl rfl ⟨rfl, rfl, rfl, trivial⟩ ?_
                        exact ih6 z34 h33 I33 f33 (by omega) (by omega) (by omega) (by rw [show z34.toInt.toNat = v6_2.toInt.toNat + 1 by omega]; exact (show absX h33 s = waF (ctX h) (absX h6 s) v6_2.toInt.toNat from (by rw [Q33, (show ctX h31 = ctX h6 from ((show ctX h31 = ctX h from ctX_fr f31 (by rcases q_s with rfl | rfl | rfl <;> rfl))).trans ((show ctX h6 = ctX h from ctX_fr f6 (by rcases q_s with rfl | rfl | rfl <;> rfl))).symm), Q31, ← (show ctX h6 = ctX h from ctX_fr f6 (by rcases q_s with rfl | rfl | rfl <;> rfl))]; exact wa_f (by rw [(show ((absX h6 s).up v6_2.toInt.toNat).toInt = y28.toInt from (by rw [aX_up (by omega), rv_of e28]))]; omega) c31)).trans ((congrArg (fun A => waF (ctX h) A v6_2.toInt.toNat) w6_0).trans dyW_s)) (by omega)
                      · subst x31
                        show EvP _ _ _ (63, [(0, .ref 17), (1, .ref (16 + s)), (2, .int v6_2)], [.int 0], h31) _
                        refine tz_eq (p2 := 66) rfl rfl (show Int32.toInt 0 = 0 from rfl) (fun c35 => ?_) (fun c35 => absurd c35 (by omega))
                        refine ar_inc (p2 := 76) (x := v6_2) rfl rfl (by decide) rfl (by decide) rfl (by omega) (by omega) (fun z36 e36 f36 => ?_)
                        show EvP _ _ _ (76, [(2, .int z36), (0, .ref 17), (1, .ref (16 + s))], [], h31) _
                        refine te_goto rfl ?_
                        refine te_lv [(0, .ref 17), (1, .ref (16 + s)), (2, .int z36)] rfl rfl ⟨rfl, rfl, rfl, trivial⟩ ?_
                        exact ih6 z36 h31 I31 f31 (by omega) (by omega) (by omega) (by rw [show z36.toInt.toNat = v6_2.toInt.toNat + 1 by omega]; exact (show absX h31 s = waF (ctX h) (absX h6 s) v6_2.toInt.toNat from (by rw [Q31, ← (show ctX h6 = ctX h from ctX_fr f6 (by rcases q_s with rfl | rfl | rfl <;> rfl))]; exact wa_s (by rw [(show ((absX h6 s).up v6_2.toInt.toNat).toInt = y28.toInt from (by rw [aX_up (by omega), rv_of e28]))]; omega) c31)).trans ((congrArg (fun A => waF (ctX h) A v6_2.toInt.toNat) w6_0).trans dyW_s)) (by omega)
              refine te_lv [(0, .ref 17), (1, .ref (16 + s)), (2, .int 0)] rfl rfl ⟨rfl, rfl, rfl, trivial⟩ ?_
              exact lp6 17 0 h4 I4 f4 (by decide) (by decide) (by have cc0 := (show Int32.toInt 0 = 0 from rfl); omega) (by rw [w4_0, show v4_2.toInt.toNat = 3 by omega]; exact dyW_0 rfl) (by have cc0 := (show Int32.toInt 0 = 0 from rfl); omega)
            · refine te_aload_n (p2 := 27) rfl rfl rfl ?_
              refine te_aload_n (p2 := 28) rfl rfl rfl ?_
              refine te_iload_n (p2 := 29) rfl rfl rfl ?_
              refine tc_V (p2 := 32) (i := 1) rfl rfl rfl rfl I4 rfl rfl rfl (c_X0_driveRail (s := s) (rr := v4_2) I4 q_s (by omega) (by omega)) (by decide) (fun v37 h37 hq37 => ?_)
              obtain ⟨I37, g37, w37, Q37⟩ := hq37
              subst w37
              have f37 := fr_tr (F1 := (F_X0_driveRail s)) (F := (F_X0_playDay s)) f4 g37 (by rcases q_s with rfl | rfl | rfl <;> decide)
              show EvP _ _ _ (32, [(0, .ref 17), (1, .ref (16 + s)), (2, .int v4_2)], [], h37) _
              refine ar_inc (p2 := 35) (x := v4_2) rfl rfl (by decide) rfl (by decide) rfl (by omega) (by omega) (fun z38 e38 f38 => ?_)
              show EvP _ _ _ (35, [(2, .int z38), (0, .ref 17), (1, .ref (16 + s))], [], h37) _
              refine te_goto rfl ?_
              refine te_lv [(0, .ref 17), (1, .ref (16 + s)), (2, .int z38)] rfl rfl ⟨rfl, rfl, rfl, trivial⟩ ?_
              exact ih4 z38 h37 I37 f37 (by omega) (by omega) (by rw [Q37, (show ctX h4 = ctX h from ctX_fr f4 (by rcases q_s with rfl | rfl | rfl <;> rfl)), w4_0, show z38.toInt.toNat = v4_2.toInt.toNat + 1 by omega]; exact dyA_s) (by omega)
        refine te_lv [(0, .ref 17), (1, .ref (16 + s)), (2, .int 0)] rfl rfl ⟨rfl, rfl, rfl, trivial⟩ ?_
        exact lp4 4 0 h2 I2 f2 (by decide) (by decide) (by rw [w2_0, show v2_2.toInt.toNat = 4 by omega]; exact dyA_0 rfl) (by have cc0 := (show Int32.toInt 0 = 0 from rfl); omega)
      · refine te_aload_n (p2 := 8) rfl rfl rfl ?_
        refine te_aload_n (p2 := 9) rfl rfl rfl ?_
        refine te_iload_n (p2 := 10) rfl rfl rfl ?_
        refine tc_V (p2 := 13) (i := 1) rfl rfl rfl rfl I2 rfl rfl rfl (c_X0_workRow (s := s) (rr := v2_2) I2 q_s (by omega) (by omega)) (by decide) (fun v39 h39 hq39 => ?_)
        obtain ⟨I39, g39, w39, Q39⟩ := hq39
        subst w39
        have f39 := fr_tr (F1 := (F_X0_workRow s)) (F := (F_X0_playDay s)) f2 g39 (by rcases q_s with rfl | rfl | rfl <;> decide)
        show EvP _ _ _ (13, [(0, .ref 17), (1, .ref (16 + s)), (2, .int v2_2)], [], h39) _
        refine ar_inc (p2 := 16) (x := v2_2) rfl rfl (by decide) rfl (by decide) rfl (by omega) (by omega) (fun z40 e40 f40 => ?_)
        show EvP _ _ _ (16, [(2, .int z40), (0, .ref 17), (1, .ref (16 + s))], [], h39) _
        refine te_goto rfl ?_
        refine te_lv [(0, .ref 17), (1, .ref (16 + s)), (2, .int z40)] rfl rfl ⟨rfl, rfl, rfl, trivial⟩ ?_
        exact ih2 z40 h39 I39 f39 (by omega) (by omega) (by rw [Q39, (show ctX h2 = ctX h from ctX_fr f2 (by rcases q_s with rfl | rfl | rfl <;> rfl)), w2_0, show z40.toInt.toNat = v2_2.toInt.toNat + 1 by omega]; exact dyR_s) (by omega)
  refine te_lv [(0, .ref 17), (1, .ref (16 + s)), (2, .int 0)] rfl rfl ⟨rfl, rfl, rfl, trivial⟩ ?_
  exact lp2 5 0 h hI f0 (by decide) (by decide) (dyR_0 rfl) (by have cc0 := (show Int32.toInt 0 = 0 from rfl); omega)
def tabM (h : im_H) : Prop := (∀ k : Nat, rd h 153 k = (KB[k]?).map Value.int) ∧ (∀ k : Nat, rd h 154 k = (KM[k]?).map Value.int) ∧ (∀ k : Nat, rd h 155 k = (KI[k]?).map Value.int) ∧ (∀ k : Nat, rd h 156 k = (KK[k]?).map Value.int)
theorem tabM_e {h H : im_H} (T : tabM h) (e : ∀ i k, 153 ≤ i → i ≤ 156 → rd H i k = rd h i k) : tabM H := ⟨fun k => (e _ _ (by decide) (by decide)).trans (T.1 k), fun k => (e _ _ (by decide) (by decide)).trans (T.2.1 k), fun k => (e _ _ (by decide) (by decide)).trans (T.2.2.1 k), fun k => (e _ _ (by decide) (by decide)).trans (T.2.2.2 k)⟩
theorem tabM_fr {F : List (Nat × Nat × Nat)} {h H : im_H} (T : tabM h) (f : fr F h H) (a : ∀ q ∈ F, q.1 < 153 ∨ 156 < q.1) : tabM H := tabM_e T (fun i k h0 h1 => f _ _ (inF_no (fun q hq e => by have := a q hq; omega)))
theorem tab_v {h : im_H} {c k : Nat} {y : Int32} {L : List Int32} (T : ∀ k : Nat, rd h c k = (L[k]?).map Value.int) (e : rd h c k = some (.int y)) : y = L.getD k 0 := by
  rw [T k] at e
  rw [List.getD_eq_getElem?_getD]
  cases hq : L[k]? with
  | none => rw [hq] at e; cases e
  | some z => rw [hq] at e; cases e; rfl
theorem mu_148 {h h2 : im_H} {k : Nat} {v : Value} (u : up h h2 148 k v) : absM h2 = absM h := by
  have e : rv h2 149 = rv h 149 := rv_f u (by decide)
  have er : ∀ o, rM h2 o = rM h o := fun o => by unfold rM; rw [e]
  unfold absM
  rw [er, er, er, er, er, er, er, er, er, er, er, e]
theorem mu_gv {h h2 : im_H} {k : Nat} {v : Value} (u : up h h2 149 k v) (hk : 212 ≤ k ∧ k < 236) : absM h2 = absM h := by
  unfold absM
  rw [gM_n (o := 0) (n := 100) u (by omega), gM_n (o := 140) (n := 24) u (by omega), gM_n (o := 188) (n := 24) u (by omega), gM_n (o := 124) (n := 16) u (by omega), gM_n (o := 108) (n := 16) u (by omega), gM_n (o := 272) (n := 4) u (by omega), gM_n (o := 276) (n := 4) u (by omega), gM_n (o := 280) (n := 3) u (by omega), gM_n (o := 100) (n := 3) u (by omega), gM_n (o := 236) (n := 24) u (by omega), hM_n u (by omega), rv_ni u (show 149 ≠ 149 ∨ 103 ≠ k from Or.inr (by omega)), rv_ni u (show 149 ≠ 149 ∨ 104 ≠ k from Or.inr (by omega)), rv_ni u (show 149 ≠ 149 ∨ 105 ≠ k from Or.inr (by omega)), rv_ni u (show 149 ≠ 149 ∨ 106 ≠ k from Or.inr (by omega)), rv_ni u (show 149 ≠ 149 ∨ 107 ≠ k from Or.inr (by omega))]
theorem mu_hb {h h2 : im_H} {i k : Nat} {z : Int32} (u : up h h2 149 k (.int z)) (hk : k = 164 + i) (hi : i < 24) (hd : (rv h 149 (236 + i)).toInt ≠ 0) : absM h2 = absM h := by
  have e : mhu (rM h2 236) (rM h2 164) = mhu (rM h 236) (rM h 164) := by
    have e1 : mhu (rM h2 236) (rM h2 164) = mhu (rM h 236) (rM h2 164) := by
      funext m
      unfold mhu rM
      by_cases hc : m < 24
      · rw [rv_ni u (Or.inr (show 236 + m ≠ k by omega))]
      · rw [if_neg (fun q => hc q.1), if_neg (fun q => hc q.1)]
    rw [e1]
    exact mhu_b hd (fun m hm => by unfold rM; exact rv_ni u (Or.inr (by omega)))
  unfold absM
  rw [gM_n (o := 0) (n := 100) u (by omega), gM_n (o := 140) (n := 24) u (by omega), gM_n (o := 188) (n := 24) u (by omega), gM_n (o := 124) (n := 16) u (by omega), gM_n (o := 108) (n := 16) u (by omega), gM_n (o := 272) (n := 4) u (by omega), gM_n (o := 276) (n := 4) u (by omega), gM_n (o := 280) (n := 3) u (by omega), gM_n (o := 100) (n := 3) u (by omega), gM_n (o := 236) (n := 24) u (by omega), e, rv_ni u (show 149 ≠ 149 ∨ 103 ≠ k from Or.inr (by omega)), rv_ni u (show 149 ≠ 149 ∨ 104 ≠ k from Or.inr (by omega)), rv_ni u (show 149 ≠ 149 ∨ 105 ≠ k from Or.inr (by omega)), rv_ni u (show 149 ≠ 149 ∨ 106 ≠ k from Or.inr (by omega)), rv_ni u (show 149 ≠ 149 ∨ 107 ≠ k from Or.inr (by omega))]
theorem aM_rs {h : im_H} {k : Nat} (hk : k < 4) : (absM h).rs k = rv h 149 (276 + k) := gd_at hk
theorem hdM {h : im_H} {r i : Nat} (hr : r < 4) (hi : i < 8) : (ctM h).hd r i = rv h 160 (8 * r + i) := if_pos ⟨hr, hi⟩
theorem hnM {h : im_H} {r : Nat} (hr : r < 4) : (ctM h).hn r = rv h 161 r ∧ (ctM h).hf r = rv h 162 r ∧ (ctM h).ht r = rv h 163 r := ⟨gd_at hr, gd_at hr, gd_at hr⟩
theorem wnM {h : im_H} {r : Nat} (hr : r < 3) : (ctM h).wn r = rv h 165 r ∧ (ctM h).cr r = rv h 166 r ∧ (¬ (rv h 165 r).toInt < 2 → (ctM h).wf r = rv h 164 (12 * r) ∧ (ctM h).wl r = rv h 164 (12 * r + ((rv h 165 r).toInt.toNat - 1))) :=
  ⟨gd_at hr, gd_at hr, fun hn => ⟨if_pos ⟨hr, by omega⟩, if_pos ⟨hr, by omega⟩⟩⟩
def bmF (c : Ct) (A : Dy) (r : Nat) (n : Int32) : Dy := brF c (Dy.s_ld (Dy.s_du (kpF c A (c.hf r).toInt.toNat (n / 10)) (A.du + n / 10 * 4)) (udt A.ld (c.hf r).toInt.toNat (A.ld (c.hf r).toInt.toNat - n))) (c.ht r).toInt.toNat (n - n / 10 * 4)
theorem kp_0 {c : Ct} {A : Dy} {f : Nat} : kpF c A f 0 = A := by
  unfold kpF
  split
  · rfl
  · rw [Int32.zero_mul, Int32.zero_mul, Int32.zero_mul, Int32.add_zero, Int32.add_zero, Int32.add_zero, udt_id (f := A.kp) rfl, udt_id (f := A.kp) rfl, udt_id (f := A.kp) rfl]
theorem br_0 {c : Ct} {A : Dy} {t : Nat} : brF c A t 0 = A := by
  unfold brF
  rw [Int32.add_zero, Int32.add_zero, udt_id rfl]
  split <;> rfl
theorem bm_0 {c : Ct} {A : Dy} {r : Nat} {n : Int32} (h : n = 0) : bmF c A r n = A := by
  subst h
  unfold bmF
  rw [show (0 : Int32) / 10 = 0 from rfl, show (0 : Int32) * 4 = 0 from rfl, show (0 : Int32) - 0 = 0 from rfl, br_0, kp_0, Int32.add_zero, Int32.sub_zero, udt_id rfl]
theorem kp_ldu {c : Ct} {A : Dy} {X : Nat → Int32} {f : Nat} {t : Int32} : kpF c (Dy.s_ld A (X)) f t = (Dy.s_ld (kpF c A f t) (X)) := by
  unfold kpF
  split <;> rfl
theorem kpM {h h1 h2 h3 : im_H} {c : Ct} {f : Nat} {t z1 z2 z3 k1 k2 k3 y1 y2 y3 : Int32} (u1 : up h h1 149 100 (.int z1)) (u2 : up h1 h2 149 101 (.int z2)) (u3 : up h2 h3 149 102 (.int z3)) (hk : (c.kd f).toInt ≠ -1) (ek1 : k1 = KB.getD (c.kd f).toInt.toNat 0) (ek2 : k2 = KM.getD (c.kd f).toInt.toNat 0) (ek3 : k3 = KI.getD (c.kd f).toInt.toNat 0) (r1 : rv h 149 100 = y1) (r2 : rv h1 149 101 = y2) (r3 : rv h2 149 102 = y3) (e1 : y1 + t * k1 = z1) (e2 : y2 + t * k2 = z2) (e3 : y3 + t * k3 = z3) : absM h3 = kpF c (absM h) f t := by
  have q1 : y1 = (absM h).kp 0 := by rw [← r1, aM_kp (by decide)]
  have q2 : y2 = (absM h).kp 1 := by rw [← r2, rv_ni u1 (Or.inr (by decide)), aM_kp (by decide)]
  have q3 : y3 = (absM h).kp 2 := by rw [← r3, rv_ni u2 (Or.inr (by decide)), rv_ni u1 (Or.inr (by decide)), aM_kp (by decide)]
  rw [mu_kp (i := 2) u3 rfl (by decide), mu_kp (i := 1) u2 rfl (by decide), mu_kp (i := 0) u1 rfl (by decide), ← e1, ← e2, ← e3, q1, q2, q3, ek1, ek2, ek3]
  exact (if_neg hk).symm
theorem ro_M {c : Ct} {A : Dy} {r n : Nat} {m : Int32} (hn : (c.hn r).toInt.toNat = n) (hm : m = mnI (lsF c A r n).2 (A.ld (c.hf r).toInt.toNat)) (h : 0 < m.toInt) : wkF c r (bmF c (Dy.s_rl (roA c A r n) (udt (roA c A r n).rl r m)) r m) n = roF c A r := by
  have e : paF c (roA c A r n) r m = wkF c r (bmF c (roA c A r n) r m) n := by
    unfold paF bmF
    rw [hn]
  have e2 : wkF c r (bmF c (Dy.s_rl (roA c A r n) (udt (roA c A r n).rl r m)) r m) n = paF c (Dy.s_rl (roA c A r n) (udt (roA c A r n).rl r m)) r m := by
    unfold paF bmF
    rw [hn]
  rw [e2, pa_rl, ← ro_1 hn hm h rfl, pa_rl2]
theorem ro_M0 {c : Ct} {A : Dy} {r n : Nat} {m : Int32} (hn : (c.hn r).toInt.toNat = n) (hm : m = mnI (lsF c A r n).2 (A.ld (c.hf r).toInt.toNat)) (h : ¬ 0 < m.toInt) (h0 : m = 0) : bmF c (Dy.s_rl (roA c A r n) (udt (roA c A r n).rl r m)) r m = roF c A r := by
  rw [bm_0 h0, ← ro_0 hn hm h, h0]
  show Dy.mk _ _ _ _ _ _ _ (udt (udt A.rl r 0) r 0) _ _ _ _ _ _ _ _ = _
  rw [udt_2]
  rfl
theorem ok_roA {c : Ct} {A : Dy} {b : Int} {r i : Nat} (h : dyOK b A) : dyOK b (roA c A r i) := h
theorem dyR_B {c : Ct} {A : Dy} {b : Int} {n : Nat} (hc : ctOK c) (hA : dyOK b A) (hb : b + 8000 ≤ 2147483647) (hn : n ≤ 4) : dyOK (b + 4000) (dyR c A n) := it_B (f := roF c) (m := 1000) (M := 4000) (fun h g => ro_B hc h g) hA (by decide) n (by omega) (by omega)
theorem dyA_B {c : Ct} {A : Dy} {b : Int} {n : Nat} (hc : ctOK c) (hA : dyOK b A) (hb : b + 8000 ≤ 2147483647) (hn : n ≤ 3) : dyOK (b + 7600) (dyA c A n) := dy_mono (it_B (f := raF c) (m := 1200) (M := 3600) (fun h g => ra_B hc h g) (dyR_B hc hA hb (Nat.le_refl 4)) (by decide) n (by omega) (by omega)) (by omega)
theorem dyW_B {c : Ct} {A : Dy} {b : Int} {n : Nat} (hc : ctOK c) (hA : dyOK b A) (hb : b + 8000 ≤ 2147483647) (hn : n ≤ 16) : dyOK (b + 7920) (dyW c A n) := dy_mono (it_B (f := waF c) (m := 20) (M := 320) (fun h g => wa_B h g) (dyA_B hc hA hb (Nat.le_refl 3)) (by decide) n (by omega) (by omega)) (by omega)
theorem dyH_B {A : Dy} {b : Int} (hA : dyOK b A) : ∀ n, dyOK b (itF heF A n)
  | 0 => hA
  | n + 1 => he_B (dyH_B hA n)
theorem he_z {A : Dy} {p : Nat} {z : Int32} (h : ¬ 0 < (A.hu p).toInt) (hz : A.hu p = z) : (Dy.s_hu A (udt A.hu p z)) = heF A p := by
  unfold heF
  rw [if_neg (fun q => h q.2), udt_id (f := A.hu) hz.symm]
theorem bmM {hc hp hd he : im_H} {c : Ct} {B : Dy} {r f tt : Nat} {m t y md mb zd zb : Int32} (hC : absM hc = (Dy.s_ld B (udt B.ld f (B.ld f - m)))) (hP : absM hp = kpF c (absM hc) f t) (ud : up hp hd 149 103 (.int zd)) (hy : rv hp 149 103 = y) (e1 : 4 * t = md) (e2 : y + md = zd) (e3 : 4 * t = mb) (e4 : m - mb = zb) (Q : absM he = brF c (absM hd) tt zb) (et : m / 10 = t) (hF : (c.hf r).toInt.toNat = f) (hT : (c.ht r).toInt.toNat = tt) : absM he = bmF c B r m := by
  subst e2 e4 e1 e3 et hF hT
  have a1 := hP.trans ((congrArg (fun A => kpF c A (c.hf r).toInt.toNat (m / 10)) hC).trans kp_ldu)
  have a2 : y = B.du := (hy.symm.trans (congrArg Dy.du a1)).trans kp_du
  have a3 := (mu_du ud).trans (congrArg (fun A : Dy => (Dy.s_du A (y + 4 * (m / 10)))) a1)
  refine Q.trans ((congrArg (fun A => brF c A (c.ht r).toInt.toNat (m - 4 * (m / 10))) a3).trans ?_)
  unfold bmF
  rw [a2, Int32.mul_comm 4 (m / 10)]
theorem ldM {hk h1 h2 : im_H} {B : Dy} {rr f j : Nat} {m z l : Int32} (w : absM hk = B) (u1 : up hk h1 149 j (.int m)) (hj : j = 272 + rr) (hr : rr < 4) (u2 : up h1 h2 149 f (.int z)) (hf : f < 100) (hl : rv h1 149 f = l) (hz : l - m = z) : absM h2 = (Dy.s_ld (((Dy.s_rl B (udt B.rl rr m)) : Dy)) (udt B.ld f (B.ld f - m))) := by
  subst hz w
  have a1 := mu_rl (i := rr) u1 hj hr
  have a2 := (mu_ld (i := f) u2 (by omega) hf).trans (congrArg (fun A : Dy => (Dy.s_ld A (udt A.ld f (l - m)))) a1)
  have a3 : l = (absM hk).ld f := by rw [← hl, rv_ni u1 (Or.inr (by omega)), aM_ld hf]
  rw [a3] at a2
  exact a2
theorem inF_no3 {F : List (Nat × Nat × Nat)} {i k : Nat} (h : ∀ q ∈ F, ¬ (q.1 = i ∧ q.2.1 ≤ k ∧ k ≤ q.2.2)) : inF F i k = false := by
  unfold inF
  rw [List.any_eq_false]
  intro q hq hc
  simp at hc
  exact h q hq ⟨hc.1.1, hc.1.2, hc.2⟩
theorem inMd {k : Nat} (h0 : 236 ≤ k) (h1 : k < 260) : inF F_X12_goesRow 149 k = false := by
  refine inF_no3 (fun q hq => ?_)
  simp only [F_X12_goesRow, List.mem_cons, List.not_mem_nil, or_false] at hq
  rcases hq with rfl | rfl | rfl
  all_goals (show ¬ (_ ∧ _ ∧ _))
  all_goals (simp only []; omega)
theorem wkMs {H H2 : im_H} {r i p j : Nat} {c : Ct} {B : Dy} {y z x : Int32} (hc : ctM H = c) (u : up H H2 149 j (.int z)) (hj : j = 188 + p) (hp : p < 24) (hpd : (c.hd r i).toInt.toNat = p) (hq : y = mn14 ((ctM H).sd (fcA (ctM H) (absM H) p) 0)) (hx : rv H 149 (188 + p) = x) (ez : x + y = z) (w : absM H = wkF c r B i) : absM H2 = wkF c r B (i + 1) := by
  rw [mu_wk (i := p) u hj hp, ← ez, ← hx, hq, hc, ← aM_wk (h := H) hp, w]
  show _ = (Dy.s_wk (wkF c r B i) (udt (wkF c r B i).wk (c.hd r i).toInt.toNat ((wkF c r B i).wk (c.hd r i).toInt.toNat + mn14 (c.sd (fcA c (wkF c r B i) (c.hd r i).toInt.toNat) 0))))
  rw [hpd]
set_option maxRecDepth 20000 in
set_option maxHeartbeats 4000000 in
theorem c_X12_goesRow {r : Int32} {h : im_H} (hI : tI h) (p_r0 : 0 ≤ r.toInt) (p_r1 : r.toInt ≤ 3) (pr0 : tabM h) (pr1 : ctOK (ctM h)) (pr2 : ∃ b, dyOK b (absM h)) : CaP 6 149 [.ref 164, .int r] h (fun v h2 => tI h2 ∧ fr F_X12_goesRow h h2 ∧ v = none ∧ absM h2 = roF (ctM h) (absM h) r.toInt.toNat) := by
  refine cap_of (d := 5) (M := mX12_goesRow) rfl (Nat.le_of_ble_eq_true rfl) ?_
  show EvP im_K0 5 mX12_goesRow (0, [(0, .ref 164), (1, .int r)], [], h) _
  have f0 : fr F_X12_goesRow h h := fr_rf
  refine te_aload_n (p2 := 1) rfl rfl rfl ?_
  obtain ⟨v1, e1, y1, w1, a1, b1, _⟩ := hI.2.1 161 r.toInt.toNat (.inl (0, 8, 9999999999)) (tq_row rfl (by omega))
  subst w1
  obtain ⟨v2, e2, y2, w2, a2, b2, _⟩ := hI.2.1 162 r.toInt.toNat (.inl (0, 99, 9999999999)) (tq_row rfl (by omega))
  subst w2
  obtain ⟨v3, e3, y3, w3, a3, b3, _⟩ := hI.2.1 163 r.toInt.toNat (.inl (0, 99, 9999999999)) (tq_row rfl (by omega))
  subst w3
  obtain ⟨b, ok⟩ := pr2
  have hn := hnM (h := h) (r := r.toInt.toNat) (by omega)
  refine tg_r (p2 := 4) (i := 148) (r := 165) rfl rfl hI rfl rfl rfl ?_
  refine te_sipush (p2 := 7) (x := 272) rfl rfl (by decide) ?_
  refine te_iload_n (p2 := 8) rfl rfl rfl ?_
  refine ar_add (p2 := 9) rfl rfl (show Int32.toInt 272 = 272 from rfl) rfl (by omega) (by omega) (fun z4 e4 f4 => ?_)
  refine te_iconst (p2 := 10) (x := 0) rfl rfl (by decide) ?_
  refine ts_i (p2 := 11) (i := 149) (n := 283) rfl rfl hI rfl rfl rfl rfl (by omega) (by omega) (i32_lo _) (i32_hi _) (i32_ho _) rfl (fun h5 I5 u5 => ?_)
  have f5 := fr_st (F := F_X12_goesRow) 2 f0 u5 rfl (by omega) (by omega)
  refine te_aload_n (p2 := 12) rfl rfl rfl ?_
  refine tg_r (p2 := 15) (i := 148) (r := 165) rfl rfl I5 rfl rfl rfl ?_
  refine te_sipush (p2 := 18) (x := 276) rfl rfl (by decide) ?_
  refine te_iload_n (p2 := 19) rfl rfl rfl ?_
  refine ar_add (p2 := 20) rfl rfl (show Int32.toInt 276 = 276 from rfl) rfl (by omega) (by omega) (fun z6 e6 f6 => ?_)
  refine te_iconst (p2 := 21) (x := (-1)) rfl rfl (by decide) ?_
  refine ts_i (p2 := 22) (i := 149) (n := 283) rfl rfl I5 rfl rfl rfl rfl (by omega) (by omega) (i32_lo _) (i32_hi _) (i32_ho _) rfl (fun h7 I7 u7 => ?_)
  have f7 := fr_st (F := F_X12_goesRow) 2 f5 u7 rfl (by omega) (by omega)
  refine te_aload_n (p2 := 23) rfl rfl rfl ?_
  refine tg_r (p2 := 26) (i := 148) (r := 177) rfl rfl I7 rfl rfl rfl ?_
  refine te_iload_n (p2 := 27) rfl rfl rfl ?_
  refine tl_e (p2 := 28) (i := 161) (n := 4) (t := 0) (Or.inl rfl) rfl rfl I7 rfl rfl (by omega) (by omega) ((u7.2 _ _ (Or.inl (by decide))).trans ((u5.2 _ _ (Or.inl (by decide))).trans e1)) ?_
  refine tz_ne (p2 := 31) rfl rfl rfl (fun c9 => ?_) (fun c9 => ?_)
  · refine te_iconst (p2 := 33) (x := 0) rfl rfl (by decide) ?_
    refine te_istore_n (p2 := 34) (lv2 := [(2, .int 0), (0, .ref 164), (1, .int r)]) rfl rfl (by decide) rfl ?_
    refine te_iconst (p2 := 35) (x := 0) rfl rfl (by decide) ?_
    refine te_istore_n (p2 := 36) (lv2 := [(3, .int 0), (2, .int 0), (0, .ref 164), (1, .int r)]) rfl rfl (by decide) rfl ?_
    have lp10 : ∀ (n10 : Nat) (v10_2 v10_3 : Int32) (h10 : im_H), tI h10 → fr F_X12_goesRow h h10 → 0 ≤ v10_3.toInt → v10_3.toInt ≤ 8 → v10_3.toInt ≤ y1.toInt → (absM h10 = roA (ctM h) (absM h) r.toInt.toNat v10_3.toInt.toNat) → (v10_2 = (lsF (ctM h) (absM h) r.toInt.toNat v10_3.toInt.toNat).2) → 8 - v10_3.toInt < (n10 : Int) → EvP im_K0 5 mX12_goesRow (36, [(0, .ref 164), (1, .int r), (2, .int v10_2), (3, .int v10_3)], [], h10) (fun v h2 => tI h2 ∧ fr F_X12_goesRow h h2 ∧ v = none ∧ absM h2 = roF (ctM h) (absM h) r.toInt.toNat) := by
      intro n10
      induction n10 with
      | zero => intro v10_2 v10_3 h10 I10 f10 a10_3 b10_3 l10_0 w10_0 w10_1 m10; exfalso; omega
      | succ n10 ih10 =>
        intro v10_2 v10_3 h10 I10 f10 a10_3 b10_3 l10_0 w10_0 w10_1 m10
        refine te_iload_n (p2 := 37) rfl rfl rfl ?_
        refine te_aload_n (p2 := 38) rfl rfl rfl ?_
        refine tg_r (p2 := 41) (i := 148) (r := 177) rfl rfl I10 rfl rfl rfl ?_
        refine te_iload_n (p2 := 42) rfl rfl rfl ?_
        refine tl_e (p2 := 43) (i := 161) (n := 4) (t := 0) (Or.inl rfl) rfl rfl I10 rfl rfl (by omega) (by omega) ((f10 _ _ rfl).trans e1) ?_
        refine tb_ge (p2 := 46) rfl rfl rfl rfl (fun c12 => ?_) (fun c12 => ?_)
        · refine te_aload_n (p2 := 109) rfl rfl rfl ?_
          refine tg_r (p2 := 112) (i := 148) (r := 178) rfl rfl I10 rfl rfl rfl ?_
          refine te_iload_n (p2 := 113) rfl rfl rfl ?_
          refine tl_e (p2 := 114) (i := 162) (n := 4) (t := 0) (Or.inl rfl) rfl rfl I10 rfl rfl (by omega) (by omega) ((f10 _ _ rfl).trans e2) ?_
          refine te_istore_n (p2 := 115) (lv2 := [(3, .int y2), (0, .ref 164), (1, .int r), (2, .int v10_2)]) rfl rfl (by decide) rfl ?_
          refine te_iload_n (p2 := 116) rfl rfl rfl ?_
          refine te_aload_n (p2 := 117) rfl rfl rfl ?_
          refine tg_r (p2 := 120) (i := 148) (r := 165) rfl rfl I10 rfl rfl rfl ?_
          refine te_iload_n (p2 := 121) rfl rfl rfl ?_
          refine tl_i (p2 := 122) (i := 149) (n := 283) rfl rfl I10 rfl rfl rfl rfl (by omega) (by omega) (fun y14 a14 b14 g14 e14 => ?_)
          refine tb_ge (p2 := 125) rfl rfl rfl rfl (fun c15 => ?_) (fun c15 => ?_)
          · refine te_aload_n (p2 := 130) rfl rfl rfl ?_
            refine tg_r (p2 := 133) (i := 148) (r := 165) rfl rfl I10 rfl rfl rfl ?_
            refine te_iload_n (p2 := 134) rfl rfl rfl ?_
            refine tl_e (p2 := 135) (i := 149) (n := 283) (t := 0) (Or.inl rfl) rfl rfl I10 rfl rfl (by omega) (by omega) e14 ?_
            refine te_istore (p2 := 137) (lv2 := [(4, .int y14), (3, .int y2), (0, .ref 164), (1, .int r), (2, .int v10_2)]) rfl rfl (by decide) rfl ?_
            refine te_aload_n (p2 := 138) rfl rfl rfl ?_
            refine tg_r (p2 := 141) (i := 148) (r := 165) rfl rfl I10 rfl rfl rfl ?_
            refine te_sipush (p2 := 144) (x := 272) rfl rfl (by decide) ?_
            refine te_iload_n (p2 := 145) rfl rfl rfl ?_
            refine ar_add (p2 := 146) rfl rfl (show Int32.toInt 272 = 272 from rfl) rfl (by omega) (by omega) (fun z17 e17 f17 => ?_)
            refine te_iload (p2 := 148) rfl rfl rfl ?_
            refine ts_i (p2 := 149) (i := 149) (n := 283) rfl rfl I10 rfl rfl rfl rfl (by omega) (by omega) (i32_lo _) (i32_hi _) (i32_ho _) rfl (fun h18 I18 u18 => ?_)
            have f18 := fr_st (F := F_X12_goesRow) 2 f10 u18 rfl (by omega) (by omega)
            refine te_aload_n (p2 := 150) rfl rfl rfl ?_
            refine tg_r (p2 := 153) (i := 148) (r := 165) rfl rfl I18 rfl rfl rfl ?_
            refine te_iload_n (p2 := 154) rfl rfl rfl ?_
            refine te_dup2 (p2 := 155) rfl rfl ⟨rfl, rfl⟩ ?_
            refine tl_i (p2 := 156) (i := 149) (n := 283) rfl rfl I18 rfl rfl rfl rfl (by omega) (by omega) (fun y19 a19 b19 g19 e19 => ?_)
            refine te_iload (p2 := 158) rfl rfl rfl ?_
            refine au_sub (p2 := 159) rfl rfl (fun z20 e20 => ?_)
            refine ts_i (p2 := 160) (i := 149) (n := 283) rfl rfl I18 rfl rfl rfl rfl (by omega) (by omega) (i32_lo _) (i32_hi _) (i32_ho _) rfl (fun h21 I21 u21 => ?_)
            have f21 := fr_st (F := F_X12_goesRow) 0 f18 u21 rfl (by omega) (by omega)
            refine te_iload (p2 := 162) rfl rfl rfl ?_
            refine te_bipush (p2 := 164) (x := 10) rfl rfl (by decide) ?_
            refine au_div (p2 := 165) rfl rfl (show Int32.toInt 10 = 10 from rfl) (by decide) (fun z22 e22 => ?_)
            refine te_istore (p2 := 167) (lv2 := [(5, .int z22), (4, .int y14), (3, .int y2), (0, .ref 164), (1, .int r), (2, .int v10_2)]) rfl rfl (by decide) rfl ?_
            refine te_aload_n (p2 := 168) rfl rfl rfl ?_
            refine tg_r (p2 := 171) (i := 148) (r := 168) rfl rfl I21 rfl rfl rfl ?_
            refine te_iload_n (p2 := 172) rfl rfl rfl ?_
            refine tl_i (p2 := 173) (i := 152) (n := 100) rfl rfl I21 rfl rfl rfl rfl (by omega) (by omega) (fun y23 a23 b23 g23 e23 => ?_)
            refine te_iconst (p2 := 174) (x := (-1)) rfl rfl (by decide) ?_
            refine tb_eq (p2 := 177) rfl rfl rfl (show Int32.toInt (-1) = (-1) from rfl) (fun c24 => ?_) (fun c24 => ?_)
            · refine te_aload_n (p2 := 250) rfl rfl rfl ?_
              refine tg_r (p2 := 253) (i := 148) (r := 165) rfl rfl I21 rfl rfl rfl ?_
              refine te_bipush (p2 := 255) (x := 103) rfl rfl (by decide) ?_
              refine te_dup2 (p2 := 256) rfl rfl ⟨rfl, rfl⟩ ?_
              refine tl_i (p2 := 257) (i := 149) (n := 283) rfl rfl I21 rfl rfl rfl rfl (by decide) (by decide) (fun y25 a25 b25 g25 e25 => ?_)
              refine te_iconst (p2 := 258) (x := 4) rfl rfl (by decide) ?_
              refine te_iload (p2 := 260) rfl rfl rfl ?_
              refine au_mul (p2 := 261) rfl rfl (fun z26 e26 => ?_)
              refine au_add (p2 := 262) rfl rfl (fun z27 e27 => ?_)
              refine ts_i (p2 := 263) (i := 149) (n := 283) rfl rfl I21 rfl rfl rfl rfl (by decide) (by decide) (i32_lo _) (i32_hi _) (i32_ho _) rfl (fun h28 I28 u28 => ?_)
              have f28 := fr_st (F := F_X12_goesRow) 0 f21 u28 rfl (by decide) (by decide)
              refine te_aload_n (p2 := 264) rfl rfl rfl ?_
              refine te_aload_n (p2 := 265) rfl rfl rfl ?_
              refine tg_r (p2 := 268) (i := 148) (r := 179) rfl rfl I28 rfl rfl rfl ?_
              refine te_iload_n (p2 := 269) rfl rfl rfl ?_
              refine tl_e (p2 := 270) (i := 163) (n := 4) (t := 0) (Or.inl rfl) rfl rfl I28 rfl rfl (by omega) (by omega) ((f28 _ _ rfl).trans e3) ?_
              refine te_iload (p2 := 272) rfl rfl rfl ?_
              refine te_iconst (p2 := 273) (x := 4) rfl rfl (by decide) ?_
              refine te_iload (p2 := 275) rfl rfl rfl ?_
              refine au_mul (p2 := 276) rfl rfl (fun z30 e30 => ?_)
              refine au_sub (p2 := 277) rfl rfl (fun z31 e31 => ?_)
              refine tc_V (p2 := 280) (i := 148) rfl rfl rfl rfl I28 rfl rfl rfl (c_X12_comes (c := y3) (n := z31) I28 (by omega) (by omega)) (by decide) (fun v32 h32 hq32 => ?_)
              obtain ⟨I32, g32, w32, Q32⟩ := hq32
              subst w32
              have f32 := fr_tr (F1 := F_X12_comes) (F := F_X12_goesRow) f28 g32 (by decide)
              show EvP _ _ _ (280, [(5, .int z22), (4, .int y14), (3, .int y2), (0, .ref 164), (1, .int r), (2, .int v10_2)], [], h32) _
              refine te_iconst (p2 := 281) (x := 0) rfl rfl (by decide) ?_
              have hN : ((ctM h).hn r.toInt.toNat).toInt.toNat = v10_3.toInt.toNat := by (rw [hn.1, rv_of e1]; omega)
              have hF : ((ctM h).hf r.toInt.toNat).toInt.toNat = y2.toInt.toNat := by rw [hn.2.1, rv_of e2]
              have hT : ((ctM h).ht r.toInt.toNat).toInt.toNat = y3.toInt.toNat := by rw [hn.2.2, rv_of e3]
              have hL : (absM h).ld y2.toInt.toNat = y14 := by (rw [show (absM h).ld = (absM h10).ld from (by rw [w10_0]; rfl), aM_ld (by omega)]; exact rv_of e14)
              have hM : y14 = mnI (lsF (ctM h) (absM h) r.toInt.toNat v10_3.toInt.toNat).2 ((absM h).ld ((ctM h).hf r.toInt.toNat).toInt.toNat) := by (rw [hF, hL, ← w10_1]; exact mnI_e (by omega))
              have hC := ldM w10_0 u18 (show _ = 272 + r.toInt.toNat by omega) (by omega) u21 (by omega) (rv_of e19) e20
              have hK : (ctM h).kd y2.toInt.toNat = y23 := (gd_at (by omega)).trans (rv_of ((f21 _ _ rfl).symm.trans e23))
              have hP : absM h21 = kpF (ctM h) (absM h21) y2.toInt.toNat z22 := (if_pos (by rw [hK]; omega)).symm
              have hB : absM h32 = bmF (ctM h) (Dy.s_rl (roA (ctM h) (absM h) r.toInt.toNat v10_3.toInt.toNat) (udt (roA (ctM h) (absM h) r.toInt.toNat v10_3.toInt.toNat).rl r.toInt.toNat y14)) r.toInt.toNat y14 := bmM hC hP u28 (rv_of (k := 103) e25) e26 e27 e30 e31 (by rw [Q32, (show ctM h28 = ctM h from ctM_fr f28 rfl)]) e22 hF hT
              refine te_istore (p2 := 283) (lv2 := [(6, .int 0), (5, .int z22), (4, .int y14), (3, .int y2), (0, .ref 164), (1, .int r), (2, .int v10_2)]) rfl rfl (by decide) rfl ?_
              have lp33 : ∀ (n33 : Nat) (v33_6 : Int32) (h33 : im_H), tI h33 → fr F_X12_goesRow h h33 → 0 ≤ v33_6.toInt → v33_6.toInt ≤ 8 → v33_6.toInt ≤ y1.toInt → (absM h33 = wkF (ctM h) r.toInt.toNat (bmF (ctM h) (Dy.s_rl (roA (ctM h) (absM h) r.toInt.toNat v10_3.toInt.toNat) (udt (roA (ctM h) (absM h) r.toInt.toNat v10_3.toInt.toNat).rl r.toInt.toNat y14)) r.toInt.toNat y14) v33_6.toInt.toNat) → (¬ 0 < y14.toInt → v33_6.toInt.toNat = 0) → 8 - v33_6.toInt < (n33 : Int) → EvP im_K0 5 mX12_goesRow (283, [(0, .ref 164), (1, .int r), (2, .int v10_2), (3, .int y2), (4, .int y14), (5, .int z22), (6, .int v33_6)], [], h33) (fun v h2 => tI h2 ∧ fr F_X12_goesRow h h2 ∧ v = none ∧ absM h2 = roF (ctM h) (absM h) r.toInt.toNat) := by
                intro n33
                induction n33 with
                | zero => intro v33_6 h33 I33 f33 a33_6 b33_6 l33_0 w33_0 w33_1 m33; exfalso; omega
                | succ n33 ih33 =>
                  intro v33_6 h33 I33 f33 a33_6 b33_6 l33_0 w33_0 w33_1 m33
                  refine te_iload (p2 := 285) rfl rfl rfl ?_
                  refine te_aload_n (p2 := 286) rfl rfl rfl ?_
                  refine tg_r (p2 := 289) (i := 148) (r := 177) rfl rfl I33 rfl rfl rfl ?_
                  refine te_iload_n (p2 := 290) rfl rfl rfl ?_
                  refine tl_e (p2 := 291) (i := 161) (n := 4) (t := 0) (Or.inl rfl) rfl rfl I33 rfl rfl (by omega) (by omega) ((f33 _ _ rfl).trans e1) ?_
                  refine tb_ge (p2 := 294) rfl rfl rfl rfl (fun c35 => ?_) (fun c35 => ?_)
                  · exact te_vret rfl rfl ⟨I33, f33, rfl, (by (by_cases hp : 0 < y14.toInt); (· rw [w33_0, show v33_6.toInt.toNat = v10_3.toInt.toNat by omega]; exact ro_M hN hM hp); (· rw [w33_0, w33_1 hp]; exact ro_M0 hN hM hp (i32_ext (by (have h9 := mnI_B (ls_B (r := r.toInt.toNat) pr1 ok v10_3.toInt.toNat) (ok.1 ((ctM h).hf r.toInt.toNat).toInt.toNat).1); rw [← hM] at h9; (have c0 := (show Int32.toInt 0 = 0 from rfl)); omega))))⟩
                  · refine te_iload (p2 := 296) rfl rfl rfl ?_
                    refine tz_le (p2 := 299) rfl rfl rfl (fun c36 => ?_) (fun c36 => ?_)
                    · exact te_vret rfl rfl ⟨I33, f33, rfl, (by (by_cases hp : 0 < y14.toInt); (· rw [w33_0, show v33_6.toInt.toNat = v10_3.toInt.toNat by omega]; exact ro_M hN hM hp); (· rw [w33_0, w33_1 hp]; exact ro_M0 hN hM hp (i32_ext (by (have h9 := mnI_B (ls_B (r := r.toInt.toNat) pr1 ok v10_3.toInt.toNat) (ok.1 ((ctM h).hf r.toInt.toNat).toInt.toNat).1); rw [← hM] at h9; (have c0 := (show Int32.toInt 0 = 0 from rfl)); omega))))⟩
                    · refine te_aload_n (p2 := 300) rfl rfl rfl ?_
                      refine tg_r (p2 := 303) (i := 148) (r := 165) rfl rfl I33 rfl rfl rfl ?_
                      refine te_sipush (p2 := 306) (x := 188) rfl rfl (by decide) ?_
                      refine te_aload_n (p2 := 307) rfl rfl rfl ?_
                      refine tg_r (p2 := 310) (i := 148) (r := 176) rfl rfl I33 rfl rfl rfl ?_
                      refine te_bipush (p2 := 312) (x := 8) rfl rfl (by decide) ?_
                      refine te_iload_n (p2 := 313) rfl rfl rfl ?_
                      refine ar_mul (p2 := 314) rfl rfl (show Int32.toInt 8 = 8 from rfl) rfl (by omega) (by omega) (fun z37 e37 f37 => ?_)
                      refine te_iload (p2 := 316) rfl rfl rfl ?_
                      refine ar_add (p2 := 317) rfl rfl rfl rfl (by omega) (by omega) (fun z38 e38 f38 => ?_)
                      refine tl_i (p2 := 318) (i := 160) (n := 32) rfl rfl I33 rfl rfl rfl rfl (by omega) (by omega) (fun y39 a39 b39 g39 e39 => ?_)
                      refine ar_add (p2 := 319) rfl rfl (show Int32.toInt 188 = 188 from rfl) rfl (by omega) (by omega) (fun z40 e40 f40 => ?_)
                      refine te_dup2 (p2 := 320) rfl rfl ⟨rfl, rfl⟩ ?_
                      refine tl_i (p2 := 321) (i := 149) (n := 283) rfl rfl I33 rfl rfl rfl rfl (by omega) (by omega) (fun y41 a41 b41 g41 e41 => ?_)
                      refine te_aload_n (p2 := 322) rfl rfl rfl ?_
                      refine te_aload_n (p2 := 323) rfl rfl rfl ?_
                      refine tg_r (p2 := 326) (i := 148) (r := 176) rfl rfl I33 rfl rfl rfl ?_
                      refine te_bipush (p2 := 328) (x := 8) rfl rfl (by decide) ?_
                      refine te_iload_n (p2 := 329) rfl rfl rfl ?_
                      refine ar_mul (p2 := 330) rfl rfl (show Int32.toInt 8 = 8 from rfl) rfl (by omega) (by omega) (fun z42 e42 f42 => ?_)
                      refine te_iload (p2 := 332) rfl rfl rfl ?_
                      refine ar_add (p2 := 333) rfl rfl rfl rfl (by omega) (by omega) (fun z43 e43 f43 => ?_)
                      refine tl_i (p2 := 334) (i := 160) (n := 32) rfl rfl I33 rfl rfl rfl rfl (by omega) (by omega) (fun y44 a44 b44 g44 e44 => ?_)
                      have hy45 := congrArg Int32.toInt (int_inj e44 (by rw [show z43.toInt.toNat = z38.toInt.toNat by omega]; exact e39))
                      refine cV_pI (p2 := 337) (i := 148) rfl rfl rfl rfl I33 rfl rfl rfl (c_X12_worksOf (k := y44) I33 (by omega) (by omega)) (by decide) (fun y46 r46 => ?_)
                      refine au_add (p2 := 338) rfl rfl (fun z47 e47 => ?_)
                      refine ts_i (p2 := 339) (i := 149) (n := 283) rfl rfl I33 rfl rfl rfl rfl (by omega) (by omega) (i32_lo _) (i32_hi _) (i32_ho _) rfl (fun h48 I48 u48 => ?_)
                      have f48 := fr_st (F := F_X12_goesRow) 1 f33 u48 rfl (by omega) (by omega)
                      refine ar_inc (p2 := 342) (x := v33_6) rfl rfl (by decide) rfl (by decide) rfl (by omega) (by omega) (fun z49 e49 f49 => ?_)
                      show EvP _ _ _ (342, [(6, .int z49), (0, .ref 164), (1, .int r), (2, .int v10_2), (3, .int y2), (4, .int y14), (5, .int z22)], [], h48) _
                      refine te_goto rfl ?_
                      refine te_lv [(0, .ref 164), (1, .int r), (2, .int v10_2), (3, .int y2), (4, .int y14), (5, .int z22), (6, .int z49)] rfl rfl ⟨rfl, rfl, rfl, rfl, rfl, rfl, rfl, trivial⟩ ?_
                      exact ih33 z49 h48 I48 f48 (by omega) (by omega) (by omega) (by rw [show z49.toInt.toNat = v33_6.toInt.toNat + 1 by omega]; exact wkMs (show ctM h33 = ctM h from ctM_fr f33 rfl) u48 (by omega) (by omega) (by rw [(show (ctM h).hd r.toInt.toNat v33_6.toInt.toNat = y44 from (by rw [hdM (by omega) (by omega), show 8 * r.toInt.toNat + v33_6.toInt.toNat = z43.toInt.toNat by omega]; exact rv_of ((f33 _ _ rfl).symm.trans e44)))]) (r46 (show (rv h33 149 (236 + y44.toInt.toNat)).toInt = 0 from (by rw [rv_q (show rd h33 149 (236 + y44.toInt.toNat) = rd h 149 (236 + y44.toInt.toNat) from f33 _ _ (inMd (by omega) (by omega))), ← aM_de (by omega), ← (show (ctM h).hd r.toInt.toNat v33_6.toInt.toNat = y44 from (by rw [hdM (by omega) (by omega), show 8 * r.toInt.toNat + v33_6.toInt.toNat = z43.toInt.toNat by omega]; exact rv_of ((f33 _ _ rfl).symm.trans e44)))]; exact ls_al (n := v10_3.toInt.toNat) (fun i => pr1.2.2.2.2 r.toInt.toNat i) (mnI_pos hM (by omega)) (by omega)))) (by rw [show 188 + y44.toInt.toNat = z40.toInt.toNat by omega]; exact rv_of e41) e47 w33_0) (fun q => absurd (by omega) q) (by omega)
              refine te_lv [(0, .ref 164), (1, .int r), (2, .int v10_2), (3, .int y2), (4, .int y14), (5, .int z22), (6, .int 0)] rfl rfl ⟨rfl, rfl, rfl, rfl, rfl, rfl, rfl, trivial⟩ ?_
              exact lp33 9 0 h32 I32 f32 (by decide) (by decide) (by have cc0 := (show Int32.toInt 0 = 0 from rfl); omega) hB (fun _ => rfl) (by have cc0 := (show Int32.toInt 0 = 0 from rfl); omega)
            · refine te_aload_n (p2 := 178) rfl rfl rfl ?_
              refine tg_r (p2 := 181) (i := 148) (r := 165) rfl rfl I21 rfl rfl rfl ?_
              refine te_bipush (p2 := 183) (x := 100) rfl rfl (by decide) ?_
              refine te_dup2 (p2 := 184) rfl rfl ⟨rfl, rfl⟩ ?_
              refine tl_i (p2 := 185) (i := 149) (n := 283) rfl rfl I21 rfl rfl rfl rfl (by decide) (by decide) (fun y50 a50 b50 g50 e50 => ?_)
              refine te_iload (p2 := 187) rfl rfl rfl ?_
              refine te_aload_n (p2 := 188) rfl rfl rfl ?_
              refine tg_r (p2 := 191) (i := 148) (r := 169) rfl rfl I21 rfl rfl rfl ?_
              refine te_aload_n (p2 := 192) rfl rfl rfl ?_
              refine tg_r (p2 := 195) (i := 148) (r := 168) rfl rfl I21 rfl rfl rfl ?_
              refine te_iload_n (p2 := 196) rfl rfl rfl ?_
              refine tl_e (p2 := 197) (i := 152) (n := 100) (t := 0) (Or.inl rfl) rfl rfl I21 rfl rfl (by omega) (by omega) e23 ?_
              refine tl_i (p2 := 198) (i := 153) (n := 6) rfl rfl I21 rfl rfl rfl rfl (by omega) (by omega) (fun y52 a52 b52 g52 e52 => ?_)
              refine au_mul (p2 := 199) rfl rfl (fun z53 e53 => ?_)
              refine au_add (p2 := 200) rfl rfl (fun z54 e54 => ?_)
              refine ts_i (p2 := 201) (i := 149) (n := 283) rfl rfl I21 rfl rfl rfl rfl (by decide) (by decide) (i32_lo _) (i32_hi _) (i32_ho _) rfl (fun h55 I55 u55 => ?_)
              have f55 := fr_st (F := F_X12_goesRow) 0 f21 u55 rfl (by decide) (by decide)
              refine te_aload_n (p2 := 202) rfl rfl rfl ?_
              refine tg_r (p2 := 205) (i := 148) (r := 165) rfl rfl I55 rfl rfl rfl ?_
              refine te_bipush (p2 := 207) (x := 101) rfl rfl (by decide) ?_
              refine te_dup2 (p2 := 208) rfl rfl ⟨rfl, rfl⟩ ?_
              refine tl_i (p2 := 209) (i := 149) (n := 283) rfl rfl I55 rfl rfl rfl rfl (by decide) (by decide) (fun y56 a56 b56 g56 e56 => ?_)
              refine te_iload (p2 := 211) rfl rfl rfl ?_
              refine te_aload_n (p2 := 212) rfl rfl rfl ?_
              refine tg_r (p2 := 215) (i := 148) (r := 170) rfl rfl I55 rfl rfl rfl ?_
              refine te_aload_n (p2 := 216) rfl rfl rfl ?_
              refine tg_r (p2 := 219) (i := 148) (r := 168) rfl rfl I55 rfl rfl rfl ?_
              refine te_iload_n (p2 := 220) rfl rfl rfl ?_
              refine tl_e (p2 := 221) (i := 152) (n := 100) (t := 0) (Or.inl rfl) rfl rfl I55 rfl rfl (by omega) (by omega) ((u55.2 _ _ (Or.inl (by decide))).trans e23) ?_
              refine tl_i (p2 := 222) (i := 154) (n := 6) rfl rfl I55 rfl rfl rfl rfl (by omega) (by omega) (fun y58 a58 b58 g58 e58 => ?_)
              refine au_mul (p2 := 223) rfl rfl (fun z59 e59 => ?_)
              refine au_add (p2 := 224) rfl rfl (fun z60 e60 => ?_)
              refine ts_i (p2 := 225) (i := 149) (n := 283) rfl rfl I55 rfl rfl rfl rfl (by decide) (by decide) (i32_lo _) (i32_hi _) (i32_ho _) rfl (fun h61 I61 u61 => ?_)
              have f61 := fr_st (F := F_X12_goesRow) 0 f55 u61 rfl (by decide) (by decide)
              refine te_aload_n (p2 := 226) rfl rfl rfl ?_
              refine tg_r (p2 := 229) (i := 148) (r := 165) rfl rfl I61 rfl rfl rfl ?_
              refine te_bipush (p2 := 231) (x := 102) rfl rfl (by decide) ?_
              refine te_dup2 (p2 := 232) rfl rfl ⟨rfl, rfl⟩ ?_
              refine tl_i (p2 := 233) (i := 149) (n := 283) rfl rfl I61 rfl rfl rfl rfl (by decide) (by decide) (fun y62 a62 b62 g62 e62 => ?_)
              refine te_iload (p2 := 235) rfl rfl rfl ?_
              refine te_aload_n (p2 := 236) rfl rfl rfl ?_
              refine tg_r (p2 := 239) (i := 148) (r := 171) rfl rfl I61 rfl rfl rfl ?_
              refine te_aload_n (p2 := 240) rfl rfl rfl ?_
              refine tg_r (p2 := 243) (i := 148) (r := 168) rfl rfl I61 rfl rfl rfl ?_
              refine te_iload_n (p2 := 244) rfl rfl rfl ?_
              refine tl_e (p2 := 245) (i := 152) (n := 100) (t := 0) (Or.inl rfl) rfl rfl I61 rfl rfl (by omega) (by omega) ((u61.2 _ _ (Or.inl (by decide))).trans ((u55.2 _ _ (Or.inl (by decide))).trans e23)) ?_
              refine tl_i (p2 := 246) (i := 155) (n := 6) rfl rfl I61 rfl rfl rfl rfl (by omega) (by omega) (fun y64 a64 b64 g64 e64 => ?_)
              refine au_mul (p2 := 247) rfl rfl (fun z65 e65 => ?_)
              refine au_add (p2 := 248) rfl rfl (fun z66 e66 => ?_)
              refine ts_i (p2 := 249) (i := 149) (n := 283) rfl rfl I61 rfl rfl rfl rfl (by decide) (by decide) (i32_lo _) (i32_hi _) (i32_ho _) rfl (fun h67 I67 u67 => ?_)
              have f67 := fr_st (F := F_X12_goesRow) 0 f61 u67 rfl (by decide) (by decide)
              refine te_aload_n (p2 := 250) rfl rfl rfl ?_
              refine tg_r (p2 := 253) (i := 148) (r := 165) rfl rfl I67 rfl rfl rfl ?_
              refine te_bipush (p2 := 255) (x := 103) rfl rfl (by decide) ?_
              refine te_dup2 (p2 := 256) rfl rfl ⟨rfl, rfl⟩ ?_
              refine tl_i (p2 := 257) (i := 149) (n := 283) rfl rfl I67 rfl rfl rfl rfl (by decide) (by decide) (fun y68 a68 b68 g68 e68 => ?_)
              refine te_iconst (p2 := 258) (x := 4) rfl rfl (by decide) ?_
              refine te_iload (p2 := 260) rfl rfl rfl ?_
              refine au_mul (p2 := 261) rfl rfl (fun z69 e69 => ?_)
              refine au_add (p2 := 262) rfl rfl (fun z70 e70 => ?_)
              refine ts_i (p2 := 263) (i := 149) (n := 283) rfl rfl I67 rfl rfl rfl rfl (by decide) (by decide) (i32_lo _) (i32_hi _) (i32_ho _) rfl (fun h71 I71 u71 => ?_)
              have f71 := fr_st (F := F_X12_goesRow) 0 f67 u71 rfl (by decide) (by decide)
              refine te_aload_n (p2 := 264) rfl rfl rfl ?_
              refine te_aload_n (p2 := 265) rfl rfl rfl ?_
              refine tg_r (p2 := 268) (i := 148) (r := 179) rfl rfl I71 rfl rfl rfl ?_
              refine te_iload_n (p2 := 269) rfl rfl rfl ?_
              refine tl_e (p2 := 270) (i := 163) (n := 4) (t := 0) (Or.inl rfl) rfl rfl I71 rfl rfl (by omega) (by omega) ((f71 _ _ rfl).trans e3) ?_
              refine te_iload (p2 := 272) rfl rfl rfl ?_
              refine te_iconst (p2 := 273) (x := 4) rfl rfl (by decide) ?_
              refine te_iload (p2 := 275) rfl rfl rfl ?_
              refine au_mul (p2 := 276) rfl rfl (fun z73 e73 => ?_)
              refine au_sub (p2 := 277) rfl rfl (fun z74 e74 => ?_)
              refine tc_V (p2 := 280) (i := 148) rfl rfl rfl rfl I71 rfl rfl rfl (c_X12_comes (c := y3) (n := z74) I71 (by omega) (by omega)) (by decide) (fun v75 h75 hq75 => ?_)
              obtain ⟨I75, g75, w75, Q75⟩ := hq75
              subst w75
              have f75 := fr_tr (F1 := F_X12_comes) (F := F_X12_goesRow) f71 g75 (by decide)
              show EvP _ _ _ (280, [(5, .int z22), (4, .int y14), (3, .int y2), (0, .ref 164), (1, .int r), (2, .int v10_2)], [], h75) _
              refine te_iconst (p2 := 281) (x := 0) rfl rfl (by decide) ?_
              have hN : ((ctM h).hn r.toInt.toNat).toInt.toNat = v10_3.toInt.toNat := by (rw [hn.1, rv_of e1]; omega)
              have hF : ((ctM h).hf r.toInt.toNat).toInt.toNat = y2.toInt.toNat := by rw [hn.2.1, rv_of e2]
              have hT : ((ctM h).ht r.toInt.toNat).toInt.toNat = y3.toInt.toNat := by rw [hn.2.2, rv_of e3]
              have hL : (absM h).ld y2.toInt.toNat = y14 := by (rw [show (absM h).ld = (absM h10).ld from (by rw [w10_0]; rfl), aM_ld (by omega)]; exact rv_of e14)
              have hM : y14 = mnI (lsF (ctM h) (absM h) r.toInt.toNat v10_3.toInt.toNat).2 ((absM h).ld ((ctM h).hf r.toInt.toNat).toInt.toNat) := by (rw [hF, hL, ← w10_1]; exact mnI_e (by omega))
              have hC := ldM w10_0 u18 (show _ = 272 + r.toInt.toNat by omega) (by omega) u21 (by omega) (rv_of e19) e20
              have hK : (ctM h).kd y2.toInt.toNat = y23 := (gd_at (by omega)).trans (rv_of ((f21 _ _ rfl).symm.trans e23))
              have hP := kpM (c := ctM h) (f := y2.toInt.toNat) (t := z22) (k1 := y52) (y1 := y50) (k2 := y58) (y2 := y56) (k3 := y64) (y3 := y62) u55 u61 u67 (by rw [hK]; omega) (by rw [hK]; exact tab_v (fun k => (f21 _ _ rfl).trans (pr0.1 k)) e52) (by rw [hK]; exact tab_v (fun k => (f55 _ _ rfl).trans (pr0.2.1 k)) e58) (by rw [hK]; exact tab_v (fun k => (f61 _ _ rfl).trans (pr0.2.2.1 k)) e64) (rv_of (k := 100) e50) (rv_of (k := 101) e56) (rv_of (k := 102) e62) (by rw [e53]; exact e54) (by rw [e59]; exact e60) (by rw [e65]; exact e66)
              have hB : absM h75 = bmF (ctM h) (Dy.s_rl (roA (ctM h) (absM h) r.toInt.toNat v10_3.toInt.toNat) (udt (roA (ctM h) (absM h) r.toInt.toNat v10_3.toInt.toNat).rl r.toInt.toNat y14)) r.toInt.toNat y14 := bmM hC hP u71 (rv_of (k := 103) e68) e69 e70 e73 e74 (by rw [Q75, (show ctM h71 = ctM h from ctM_fr f71 rfl)]) e22 hF hT
              refine te_istore (p2 := 283) (lv2 := [(6, .int 0), (5, .int z22), (4, .int y14), (3, .int y2), (0, .ref 164), (1, .int r), (2, .int v10_2)]) rfl rfl (by decide) rfl ?_
              have lp76 : ∀ (n76 : Nat) (v76_6 : Int32) (h76 : im_H), tI h76 → fr F_X12_goesRow h h76 → 0 ≤ v76_6.toInt → v76_6.toInt ≤ 8 → v76_6.toInt ≤ y1.toInt → (absM h76 = wkF (ctM h) r.toInt.toNat (bmF (ctM h) (Dy.s_rl (roA (ctM h) (absM h) r.toInt.toNat v10_3.toInt.toNat) (udt (roA (ctM h) (absM h) r.toInt.toNat v10_3.toInt.toNat).rl r.toInt.toNat y14)) r.toInt.toNat y14) v76_6.toInt.toNat) → (¬ 0 < y14.toInt → v76_6.toInt.toNat = 0) → 8 - v76_6.toInt < (n76 : Int) → EvP im_K0 5 mX12_goesRow (283, [(0, .ref 164), (1, .int r), (2, .int v10_2), (3, .int y2), (4, .int y14), (5, .int z22), (6, .int v76_6)], [], h76) (fun v h2 => tI h2 ∧ fr F_X12_goesRow h h2 ∧ v = none ∧ absM h2 = roF (ctM h) (absM h) r.toInt.toNat) := by
                intro n76
                induction n76 with
                | zero => intro v76_6 h76 I76 f76 a76_6 b76_6 l76_0 w76_0 w76_1 m76; exfalso; omega
                | succ n76 ih76 =>
                  intro v76_6 h76 I76 f76 a76_6 b76_6 l76_0 w76_0 w76_1 m76
                  refine te_iload (p2 := 285) rfl rfl rfl ?_
                  refine te_aload_n (p2 := 286) rfl rfl rfl ?_
                  refine tg_r (p2 := 289) (i := 148) (r := 177) rfl rfl I76 rfl rfl rfl ?_
                  refine te_iload_n (p2 := 290) rfl rfl rfl ?_
                  refine tl_e (p2 := 291) (i := 161) (n := 4) (t := 0) (Or.inl rfl) rfl rfl I76 rfl rfl (by omega) (by omega) ((f76 _ _ rfl).trans e1) ?_
                  refine tb_ge (p2 := 294) rfl rfl rfl rfl (fun c78 => ?_) (fun c78 => ?_)
                  · exact te_vret rfl rfl ⟨I76, f76, rfl, (by (by_cases hp : 0 < y14.toInt); (· rw [w76_0, show v76_6.toInt.toNat = v10_3.toInt.toNat by omega]; exact ro_M hN hM hp); (· rw [w76_0, w76_1 hp]; exact ro_M0 hN hM hp (i32_ext (by (have h9 := mnI_B (ls_B (r := r.toInt.toNat) pr1 ok v10_3.toInt.toNat) (ok.1 ((ctM h).hf r.toInt.toNat).toInt.toNat).1); rw [← hM] at h9; (have c0 := (show Int32.toInt 0 = 0 from rfl)); omega))))⟩
                  · refine te_iload (p2 := 296) rfl rfl rfl ?_
                    refine tz_le (p2 := 299) rfl rfl rfl (fun c79 => ?_) (fun c79 => ?_)
                    · exact te_vret rfl rfl ⟨I76, f76, rfl, (by (by_cases hp : 0 < y14.toInt); (· rw [w76_0, show v76_6.toInt.toNat = v10_3.toInt.toNat by omega]; exact ro_M hN hM hp); (· rw [w76_0, w76_1 hp]; exact ro_M0 hN hM hp (i32_ext (by (have h9 := mnI_B (ls_B (r := r.toInt.toNat) pr1 ok v10_3.toInt.toNat) (ok.1 ((ctM h).hf r.toInt.toNat).toInt.toNat).1); rw [← hM] at h9; (have c0 := (show Int32.toInt 0 = 0 from rfl)); omega))))⟩
                    · refine te_aload_n (p2 := 300) rfl rfl rfl ?_
                      refine tg_r (p2 := 303) (i := 148) (r := 165) rfl rfl I76 rfl rfl rfl ?_
                      refine te_sipush (p2 := 306) (x := 188) rfl rfl (by decide) ?_
                      refine te_aload_n (p2 := 307) rfl rfl rfl ?_
                      refine tg_r (p2 := 310) (i := 148) (r := 176) rfl rfl I76 rfl rfl rfl ?_
                      refine te_bipush (p2 := 312) (x := 8) rfl rfl (by decide) ?_
                      refine te_iload_n (p2 := 313) rfl rfl rfl ?_
                      refine ar_mul (p2 := 314) rfl rfl (show Int32.toInt 8 = 8 from rfl) rfl (by omega) (by omega) (fun z80 e80 f80 => ?_)
                      refine te_iload (p2 := 316) rfl rfl rfl ?_
                      refine ar_add (p2 := 317) rfl rfl rfl rfl (by omega) (by omega) (fun z81 e81 f81 => ?_)
                      refine tl_i (p2 := 318) (i := 160) (n := 32) rfl rfl I76 rfl rfl rfl rfl (by omega) (by omega) (fun y82 a82 b82 g82 e82 => ?_)
                      refine ar_add (p2 := 319) rfl rfl (show Int32.toInt 188 = 188 from rfl) rfl (by omega) (by omega) (fun z83 e83 f83 => ?_)
                      refine te_dup2 (p2 := 320) rfl rfl ⟨rfl, rfl⟩ ?_
                      refine tl_i (p2 := 321) (i := 149) (n := 283) rfl rfl I76 rfl rfl rfl rfl (by omega) (by omega) (fun y84 a84 b84 g84 e84 => ?_)
                      refine te_aload_n (p2 := 322) rfl rfl rfl ?_
                      refine te_aload_n (p2 := 323) rfl rfl rfl ?_
                      refine tg_r (p2 := 326) (i := 148) (r := 176) rfl rfl I76 rfl rfl rfl ?_
                      refine te_bipush (p2 := 328) (x := 8) rfl rfl (by decide) ?_
                      refine te_iload_n (p2 := 329) rfl rfl rfl ?_
                      refine ar_mul (p2 := 330) rfl rfl (show Int32.toInt 8 = 8 from rfl) rfl (by omega) (by omega) (fun z85 e85 f85 => ?_)
                      refine te_iload (p2 := 332) rfl rfl rfl ?_
                      refine ar_add (p2 := 333) rfl rfl rfl rfl (by omega) (by omega) (fun z86 e86 f86 => ?_)
                      refine tl_i (p2 := 334) (i := 160) (n := 32) rfl rfl I76 rfl rfl rfl rfl (by omega) (by omega) (fun y87 a87 b87 g87 e87 => ?_)
                      have hy88 := congrArg Int32.toInt (int_inj e87 (by rw [show z86.toInt.toNat = z81.toInt.toNat by omega]; exact e82))
                      refine cV_pI (p2 := 337) (i := 148) rfl rfl rfl rfl I76 rfl rfl rfl (c_X12_worksOf (k := y87) I76 (by omega) (by omega)) (by decide) (fun y89 r89 => ?_)
                      refine au_add (p2 := 338) rfl rfl (fun z90 e90 => ?_)
                      refine ts_i (p2 := 339) (i := 149) (n := 283) rfl rfl I76 rfl rfl rfl rfl (by omega) (by omega) (i32_lo _) (i32_hi _) (i32_ho _) rfl (fun h91 I91 u91 => ?_)
                      have f91 := fr_st (F := F_X12_goesRow) 1 f76 u91 rfl (by omega) (by omega)
                      refine ar_inc (p2 := 342) (x := v76_6) rfl rfl (by decide) rfl (by decide) rfl (by omega) (by omega) (fun z92 e92 f92 => ?_)
                      show EvP _ _ _ (342, [(6, .int z92), (0, .ref 164), (1, .int r), (2, .int v10_2), (3, .int y2), (4, .int y14), (5, .int z22)], [], h91) _
                      refine te_goto rfl ?_
                      refine te_lv [(0, .ref 164), (1, .int r), (2, .int v10_2), (3, .int y2), (4, .int y14), (5, .int z22), (6, .int z92)] rfl rfl ⟨rfl, rfl, rfl, rfl, rfl, rfl, rfl, trivial⟩ ?_
                      exact ih76 z92 h91 I91 f91 (by omega) (by omega) (by omega) (by rw [show z92.toInt.toNat = v76_6.toInt.toNat + 1 by omega]; exact wkMs (show ctM h76 = ctM h from ctM_fr f76 rfl) u91 (by omega) (by omega) (by rw [(show (ctM h).hd r.toInt.toNat v76_6.toInt.toNat = y87 from (by rw [hdM (by omega) (by omega), show 8 * r.toInt.toNat + v76_6.toInt.toNat = z86.toInt.toNat by omega]; exact rv_of ((f76 _ _ rfl).symm.trans e87)))]) (r89 (show (rv h76 149 (236 + y87.toInt.toNat)).toInt = 0 from (by rw [rv_q (show rd h76 149 (236 + y87.toInt.toNat) = rd h 149 (236 + y87.toInt.toNat) from f76 _ _ (inMd (by omega) (by omega))), ← aM_de (by omega), ← (show (ctM h).hd r.toInt.toNat v76_6.toInt.toNat = y87 from (by rw [hdM (by omega) (by omega), show 8 * r.toInt.toNat + v76_6.toInt.toNat = z86.toInt.toNat by omega]; exact rv_of ((f76 _ _ rfl).symm.trans e87)))]; exact ls_al (n := v10_3.toInt.toNat) (fun i => pr1.2.2.2.2 r.toInt.toNat i) (mnI_pos hM (by omega)) (by omega)))) (by rw [show 188 + y87.toInt.toNat = z83.toInt.toNat by omega]; exact rv_of e84) e90 w76_0) (fun q => absurd (by omega) q) (by omega)
              refine te_lv [(0, .ref 164), (1, .int r), (2, .int v10_2), (3, .int y2), (4, .int y14), (5, .int z22), (6, .int 0)] rfl rfl ⟨rfl, rfl, rfl, rfl, rfl, rfl, rfl, trivial⟩ ?_
              exact lp76 9 0 h75 I75 f75 (by decide) (by decide) (by have cc0 := (show Int32.toInt 0 = 0 from rfl); omega) hB (fun _ => rfl) (by have cc0 := (show Int32.toInt 0 = 0 from rfl); omega)
          · refine te_iload_n (p2 := 126) rfl rfl rfl ?_
            refine te_goto rfl ?_
            refine te_istore (p2 := 137) (lv2 := [(4, .int v10_2), (3, .int y2), (0, .ref 164), (1, .int r), (2, .int v10_2)]) rfl rfl (by decide) rfl ?_
            refine te_aload_n (p2 := 138) rfl rfl rfl ?_
            refine tg_r (p2 := 141) (i := 148) (r := 165) rfl rfl I10 rfl rfl rfl ?_
            refine te_sipush (p2 := 144) (x := 272) rfl rfl (by decide) ?_
            refine te_iload_n (p2 := 145) rfl rfl rfl ?_
            refine ar_add (p2 := 146) rfl rfl (show Int32.toInt 272 = 272 from rfl) rfl (by omega) (by omega) (fun z93 e93 f93 => ?_)
            refine te_iload (p2 := 148) rfl rfl rfl ?_
            refine ts_i (p2 := 149) (i := 149) (n := 283) rfl rfl I10 rfl rfl rfl rfl (by omega) (by omega) (i32_lo _) (i32_hi _) (i32_ho _) rfl (fun h94 I94 u94 => ?_)
            have f94 := fr_st (F := F_X12_goesRow) 2 f10 u94 rfl (by omega) (by omega)
            refine te_aload_n (p2 := 150) rfl rfl rfl ?_
            refine tg_r (p2 := 153) (i := 148) (r := 165) rfl rfl I94 rfl rfl rfl ?_
            refine te_iload_n (p2 := 154) rfl rfl rfl ?_
            refine te_dup2 (p2 := 155) rfl rfl ⟨rfl, rfl⟩ ?_
            refine tl_i (p2 := 156) (i := 149) (n := 283) rfl rfl I94 rfl rfl rfl rfl (by omega) (by omega) (fun y95 a95 b95 g95 e95 => ?_)
            refine te_iload (p2 := 158) rfl rfl rfl ?_
            refine au_sub (p2 := 159) rfl rfl (fun z96 e96 => ?_)
            refine ts_i (p2 := 160) (i := 149) (n := 283) rfl rfl I94 rfl rfl rfl rfl (by omega) (by omega) (i32_lo _) (i32_hi _) (i32_ho _) rfl (fun h97 I97 u97 => ?_)
            have f97 := fr_st (F := F_X12_goesRow) 0 f94 u97 rfl (by omega) (by omega)
            refine te_iload (p2 := 162) rfl rfl rfl ?_
            refine te_bipush (p2 := 164) (x := 10) rfl rfl (by decide) ?_
            refine au_div (p2 := 165) rfl rfl (show Int32.toInt 10 = 10 from rfl) (by decide) (fun z98 e98 => ?_)
            refine te_istore (p2 := 167) (lv2 := [(5, .int z98), (4, .int v10_2), (3, .int y2), (0, .ref 164), (1, .int r), (2, .int v10_2)]) rfl rfl (by decide) rfl ?_
            refine te_aload_n (p2 := 168) rfl rfl rfl ?_
            refine tg_r (p2 := 171) (i := 148) (r := 168) rfl rfl I97 rfl rfl rfl ?_
            refine te_iload_n (p2 := 172) rfl rfl rfl ?_
            refine tl_i (p2 := 173) (i := 152) (n := 100) rfl rfl I97 rfl rfl rfl rfl (by omega) (by omega) (fun y99 a99 b99 g99 e99 => ?_)
            refine te_iconst (p2 := 174) (x := (-1)) rfl rfl (by decide) ?_
            refine tb_eq (p2 := 177) rfl rfl rfl (show Int32.toInt (-1) = (-1) from rfl) (fun c100 => ?_) (fun c100 => ?_)
            · refine te_aload_n (p2 := 250) rfl rfl rfl ?_
              refine tg_r (p2 := 253) (i := 148) (r := 165) rfl rfl I97 rfl rfl rfl ?_
              refine te_bipush (p2 := 255) (x := 103) rfl rfl (by decide) ?_
              refine te_dup2 (p2 := 256) rfl rfl ⟨rfl, rfl⟩ ?_
              refine tl_i (p2 := 257) (i := 149) (n := 283) rfl rfl I97 rfl rfl rfl rfl (by decide) (by decide) (fun y101 a101 b101 g101 e101 => ?_)
              refine te_iconst (p2 := 258) (x := 4) rfl rfl (by decide) ?_
              refine te_iload (p2 := 260) rfl rfl rfl ?_
              refine au_mul (p2 := 261) rfl rfl (fun z102 e102 => ?_)
              refine au_add (p2 := 262) rfl rfl (fun z103 e103 => ?_)
              refine ts_i (p2 := 263) (i := 149) (n := 283) rfl rfl I97 rfl rfl rfl rfl (by decide) (by decide) (i32_lo _) (i32_hi _) (i32_ho _) rfl (fun h104 I104 u104 => ?_)
              have f104 := fr_st (F := F_X12_goesRow) 0 f97 u104 rfl (by decide) (by decide)
              refine te_aload_n (p2 := 264) rfl rfl rfl ?_
              refine te_aload_n (p2 := 265) rfl rfl rfl ?_
              refine tg_r (p2 := 268) (i := 148) (r := 179) rfl rfl I104 rfl rfl rfl ?_
              refine te_iload_n (p2 := 269) rfl rfl rfl ?_
              refine tl_e (p2 := 270) (i := 163) (n := 4) (t := 0) (Or.inl rfl) rfl rfl I104 rfl rfl (by omega) (by omega) ((f104 _ _ rfl).trans e3) ?_
              refine te_iload (p2 := 272) rfl rfl rfl ?_
              refine te_iconst (p2 := 273) (x := 4) rfl rfl (by decide) ?_
              refine te_iload (p2 := 275) rfl rfl rfl ?_
              refine au_mul (p2 := 276) rfl rfl (fun z106 e106 => ?_)
              refine au_sub (p2 := 277) rfl rfl (fun z107 e107 => ?_)
              refine tc_V (p2 := 280) (i := 148) rfl rfl rfl rfl I104 rfl rfl rfl (c_X12_comes (c := y3) (n := z107) I104 (by omega) (by omega)) (by decide) (fun v108 h108 hq108 => ?_)
              obtain ⟨I108, g108, w108, Q108⟩ := hq108
              subst w108
              have f108 := fr_tr (F1 := F_X12_comes) (F := F_X12_goesRow) f104 g108 (by decide)
              show EvP _ _ _ (280, [(5, .int z98), (4, .int v10_2), (3, .int y2), (0, .ref 164), (1, .int r), (2, .int v10_2)], [], h108) _
              refine te_iconst (p2 := 281) (x := 0) rfl rfl (by decide) ?_
              have hN : ((ctM h).hn r.toInt.toNat).toInt.toNat = v10_3.toInt.toNat := by (rw [hn.1, rv_of e1]; omega)
              have hF : ((ctM h).hf r.toInt.toNat).toInt.toNat = y2.toInt.toNat := by rw [hn.2.1, rv_of e2]
              have hT : ((ctM h).ht r.toInt.toNat).toInt.toNat = y3.toInt.toNat := by rw [hn.2.2, rv_of e3]
              have hL : (absM h).ld y2.toInt.toNat = y14 := by (rw [show (absM h).ld = (absM h10).ld from (by rw [w10_0]; rfl), aM_ld (by omega)]; exact rv_of e14)
              have hM : v10_2 = mnI (lsF (ctM h) (absM h) r.toInt.toNat v10_3.toInt.toNat).2 ((absM h).ld ((ctM h).hf r.toInt.toNat).toInt.toNat) := by (rw [hF, hL, ← w10_1]; exact mnI_e (by omega))
              have hC := ldM w10_0 u94 (show _ = 272 + r.toInt.toNat by omega) (by omega) u97 (by omega) (rv_of e95) e96
              have hK : (ctM h).kd y2.toInt.toNat = y99 := (gd_at (by omega)).trans (rv_of ((f97 _ _ rfl).symm.trans e99))
              have hP : absM h97 = kpF (ctM h) (absM h97) y2.toInt.toNat z98 := (if_pos (by rw [hK]; omega)).symm
              have hB : absM h108 = bmF (ctM h) (Dy.s_rl (roA (ctM h) (absM h) r.toInt.toNat v10_3.toInt.toNat) (udt (roA (ctM h) (absM h) r.toInt.toNat v10_3.toInt.toNat).rl r.toInt.toNat v10_2)) r.toInt.toNat v10_2 := bmM hC hP u104 (rv_of (k := 103) e101) e102 e103 e106 e107 (by rw [Q108, (show ctM h104 = ctM h from ctM_fr f104 rfl)]) e98 hF hT
              refine te_istore (p2 := 283) (lv2 := [(6, .int 0), (5, .int z98), (4, .int v10_2), (3, .int y2), (0, .ref 164), (1, .int r), (2, .int v10_2)]) rfl rfl (by decide) rfl ?_
              have lp109 : ∀ (n109 : Nat) (v109_6 : Int32) (h109 : im_H), tI h109 → fr F_X12_goesRow h h109 → 0 ≤ v109_6.toInt → v109_6.toInt ≤ 8 → v109_6.toInt ≤ y1.toInt → (absM h109 = wkF (ctM h) r.toInt.toNat (bmF (ctM h) (Dy.s_rl (roA (ctM h) (absM h) r.toInt.toNat v10_3.toInt.toNat) (udt (roA (ctM h) (absM h) r.toInt.toNat v10_3.toInt.toNat).rl r.toInt.toNat v10_2)) r.toInt.toNat v10_2) v109_6.toInt.toNat) → (¬ 0 < v10_2.toInt → v109_6.toInt.toNat = 0) → 8 - v109_6.toInt < (n109 : Int) → EvP im_K0 5 mX12_goesRow (283, [(0, .ref 164), (1, .int r), (2, .int v10_2), (3, .int y2), (4, .int v10_2), (5, .int z98), (6, .int v109_6)], [], h109) (fun v h2 => tI h2 ∧ fr F_X12_goesRow h h2 ∧ v = none ∧ absM h2 = roF (ctM h) (absM h) r.toInt.toNat) := by
                intro n109
                induction n109 with
                | zero => intro v109_6 h109 I109 f109 a109_6 b109_6 l109_0 w109_0 w109_1 m109; exfalso; omega
                | succ n109 ih109 =>
                  intro v109_6 h109 I109 f109 a109_6 b109_6 l109_0 w109_0 w109_1 m109
                  refine te_iload (p2 := 285) rfl rfl rfl ?_
                  refine te_aload_n (p2 := 286) rfl rfl rfl ?_
                  refine tg_r (p2 := 289) (i := 148) (r := 177) rfl rfl I109 rfl rfl rfl ?_
                  refine te_iload_n (p2 := 290) rfl rfl rfl ?_
                  refine tl_e (p2 := 291) (i := 161) (n := 4) (t := 0) (Or.inl rfl) rfl rfl I109 rfl rfl (by omega) (by omega) ((f109 _ _ rfl).trans e1) ?_
                  refine tb_ge (p2 := 294) rfl rfl rfl rfl (fun c111 => ?_) (fun c111 => ?_)
                  · exact te_vret rfl rfl ⟨I109, f109, rfl, (by (by_cases hp : 0 < v10_2.toInt); (· rw [w109_0, show v109_6.toInt.toNat = v10_3.toInt.toNat by omega]; exact ro_M hN hM hp); (· rw [w109_0, w109_1 hp]; exact ro_M0 hN hM hp (i32_ext (by (have h9 := mnI_B (ls_B (r := r.toInt.toNat) pr1 ok v10_3.toInt.toNat) (ok.1 ((ctM h).hf r.toInt.toNat).toInt.toNat).1); rw [← hM] at h9; (have c0 := (show Int32.toInt 0 = 0 from rfl)); omega))))⟩
                  · refine te_iload (p2 := 296) rfl rfl rfl ?_
                    refine tz_le (p2 := 299) rfl rfl rfl (fun c112 => ?_) (fun c112 => ?_)
                    · exact te_vret rfl rfl ⟨I109, f109, rfl, (by (by_cases hp : 0 < v10_2.toInt); (· rw [w109_0, show v109_6.toInt.toNat = v10_3.toInt.toNat by omega]; exact ro_M hN hM hp); (· rw [w109_0, w109_1 hp]; exact ro_M0 hN hM hp (i32_ext (by (have h9 := mnI_B (ls_B (r := r.toInt.toNat) pr1 ok v10_3.toInt.toNat) (ok.1 ((ctM h).hf r.toInt.toNat).toInt.toNat).1); rw [← hM] at h9; (have c0 := (show Int32.toInt 0 = 0 from rfl)); omega))))⟩
                    · refine te_aload_n (p2 := 300) rfl rfl rfl ?_
                      refine tg_r (p2 := 303) (i := 148) (r := 165) rfl rfl I109 rfl rfl rfl ?_
                      refine te_sipush (p2 := 306) (x := 188) rfl rfl (by decide) ?_
                      refine te_aload_n (p2 := 307) rfl rfl rfl ?_
                      refine tg_r (p2 := 310) (i := 148) (r := 176) rfl rfl I109 rfl rfl rfl ?_
                      refine te_bipush (p2 := 312) (x := 8) rfl rfl (by decide) ?_
                      refine te_iload_n (p2 := 313) rfl rfl rfl ?_
                      refine ar_mul (p2 := 314) rfl rfl (show Int32.toInt 8 = 8 from rfl) rfl (by omega) (by omega) (fun z113 e113 f113 => ?_)
                      refine te_iload (p2 := 316) rfl rfl rfl ?_
                      refine ar_add (p2 := 317) rfl rfl rfl rfl (by omega) (by omega) (fun z114 e114 f114 => ?_)
                      refine tl_i (p2 := 318) (i := 160) (n := 32) rfl rfl I109 rfl rfl rfl rfl (by omega) (by omega) (fun y115 a115 b115 g115 e115 => ?_)
                      refine ar_add (p2 := 319) rfl rfl (show Int32.toInt 188 = 188 from rfl) rfl (by omega) (by omega) (fun z116 e116 f116 => ?_)
                      refine te_dup2 (p2 := 320) rfl rfl ⟨rfl, rfl⟩ ?_
                      refine tl_i (p2 := 321) (i := 149) (n := 283) rfl rfl I109 rfl rfl rfl rfl (by omega) (by omega) (fun y117 a117 b117 g117 e117 => ?_)
                      refine te_aload_n (p2 := 322) rfl rfl rfl ?_
                      refine te_aload_n (p2 := 323) rfl rfl rfl ?_
                      refine tg_r (p2 := 326) (i := 148) (r := 176) rfl rfl I109 rfl rfl rfl ?_
                      refine te_bipush (p2 := 328) (x := 8) rfl rfl (by decide) ?_
                      refine te_iload_n (p2 := 329) rfl rfl rfl ?_
                      refine ar_mul (p2 := 330) rfl rfl (show Int32.toInt 8 = 8 from rfl) rfl (by omega) (by omega) (fun z118 e118 f118 => ?_)
                      refine te_iload (p2 := 332) rfl rfl rfl ?_
                      refine ar_add (p2 := 333) rfl rfl rfl rfl (by omega) (by omega) (fun z119 e119 f119 => ?_)
                      refine tl_i (p2 := 334) (i := 160) (n := 32) rfl rfl I109 rfl rfl rfl rfl (by omega) (by omega) (fun y120 a120 b120 g120 e120 => ?_)
                      have hy121 := congrArg Int32.toInt (int_inj e120 (by rw [show z119.toInt.toNat = z114.toInt.toNat by omega]; exact e115))
                      refine cV_pI (p2 := 337) (i := 148) rfl rfl rfl rfl I109 rfl rfl rfl (c_X12_worksOf (k := y120) I109 (by omega) (by omega)) (by decide) (fun y122 r122 => ?_)
                      refine au_add (p2 := 338) rfl rfl (fun z123 e123 => ?_)
                      refine ts_i (p2 := 339) (i := 149) (n := 283) rfl rfl I109 rfl rfl rfl rfl (by omega) (by omega) (i32_lo _) (i32_hi _) (i32_ho _) rfl (fun h124 I124 u124 => ?_)
                      have f124 := fr_st (F := F_X12_goesRow) 1 f109 u124 rfl (by omega) (by omega)
                      refine ar_inc (p2 := 342) (x := v109_6) rfl rfl (by decide) rfl (by decide) rfl (by omega) (by omega) (fun z125 e125 f125 => ?_)
                      show EvP _ _ _ (342, [(6, .int z125), (0, .ref 164), (1, .int r), (2, .int v10_2), (3, .int y2), (4, .int v10_2), (5, .int z98)], [], h124) _
                      refine te_goto rfl ?_
                      refine te_lv [(0, .ref 164), (1, .int r), (2, .int v10_2), (3, .int y2), (4, .int v10_2), (5, .int z98), (6, .int z125)] rfl rfl ⟨rfl, rfl, rfl, rfl, rfl, rfl, rfl, trivial⟩ ?_
                      exact ih109 z125 h124 I124 f124 (by omega) (by omega) (by omega) (by rw [show z125.toInt.toNat = v109_6.toInt.toNat + 1 by omega]; exact wkMs (show ctM h109 = ctM h from ctM_fr f109 rfl) u124 (by omega) (by omega) (by rw [(show (ctM h).hd r.toInt.toNat v109_6.toInt.toNat = y120 from (by rw [hdM (by omega) (by omega), show 8 * r.toInt.toNat + v109_6.toInt.toNat = z119.toInt.toNat by omega]; exact rv_of ((f109 _ _ rfl).symm.trans e120)))]) (r122 (show (rv h109 149 (236 + y120.toInt.toNat)).toInt = 0 from (by rw [rv_q (show rd h109 149 (236 + y120.toInt.toNat) = rd h 149 (236 + y120.toInt.toNat) from f109 _ _ (inMd (by omega) (by omega))), ← aM_de (by omega), ← (show (ctM h).hd r.toInt.toNat v109_6.toInt.toNat = y120 from (by rw [hdM (by omega) (by omega), show 8 * r.toInt.toNat + v109_6.toInt.toNat = z119.toInt.toNat by omega]; exact rv_of ((f109 _ _ rfl).symm.trans e120)))]; exact ls_al (n := v10_3.toInt.toNat) (fun i => pr1.2.2.2.2 r.toInt.toNat i) (mnI_pos hM (by omega)) (by omega)))) (by rw [show 188 + y120.toInt.toNat = z116.toInt.toNat by omega]; exact rv_of e117) e123 w109_0) (fun q => absurd (by omega) q) (by omega)
              refine te_lv [(0, .ref 164), (1, .int r), (2, .int v10_2), (3, .int y2), (4, .int v10_2), (5, .int z98), (6, .int 0)] rfl rfl ⟨rfl, rfl, rfl, rfl, rfl, rfl, rfl, trivial⟩ ?_
              exact lp109 9 0 h108 I108 f108 (by decide) (by decide) (by have cc0 := (show Int32.toInt 0 = 0 from rfl); omega) hB (fun _ => rfl) (by have cc0 := (show Int32.toInt 0 = 0 from rfl); omega)
            · refine te_aload_n (p2 := 178) rfl rfl rfl ?_
              refine tg_r (p2 := 181) (i := 148) (r := 165) rfl rfl I97 rfl rfl rfl ?_
              refine te_bipush (p2 := 183) (x := 100) rfl rfl (by decide) ?_
              refine te_dup2 (p2 := 184) rfl rfl ⟨rfl, rfl⟩ ?_
              refine tl_i (p2 := 185) (i := 149) (n := 283) rfl rfl I97 rfl rfl rfl rfl (by decide) (by decide) (fun y126 a126 b126 g126 e126 => ?_)
              refine te_iload (p2 := 187) rfl rfl rfl ?_
              refine te_aload_n (p2 := 188) rfl rfl rfl ?_
              refine tg_r (p2 := 191) (i := 148) (r := 169) rfl rfl I97 rfl rfl rfl ?_
              refine te_aload_n (p2 := 192) rfl rfl rfl ?_
              refine tg_r (p2 := 195) (i := 148) (r := 168) rfl rfl I97 rfl rfl rfl ?_
              refine te_iload_n (p2 := 196) rfl rfl rfl ?_
              refine tl_e (p2 := 197) (i := 152) (n := 100) (t := 0) (Or.inl rfl) rfl rfl I97 rfl rfl (by omega) (by omega) e99 ?_
              refine tl_i (p2 := 198) (i := 153) (n := 6) rfl rfl I97 rfl rfl rfl rfl (by omega) (by omega) (fun y128 a128 b128 g128 e128 => ?_)
              refine au_mul (p2 := 199) rfl rfl (fun z129 e129 => ?_)
              refine au_add (p2 := 200) rfl rfl (fun z130 e130 => ?_)
              refine ts_i (p2 := 201) (i := 149) (n := 283) rfl rfl I97 rfl rfl rfl rfl (by decide) (by decide) (i32_lo _) (i32_hi _) (i32_ho _) rfl (fun h131 I131 u131 => ?_)
              have f131 := fr_st (F := F_X12_goesRow) 0 f97 u131 rfl (by decide) (by decide)
              refine te_aload_n (p2 := 202) rfl rfl rfl ?_
              refine tg_r (p2 := 205) (i := 148) (r := 165) rfl rfl I131 rfl rfl rfl ?_
              refine te_bipush (p2 := 207) (x := 101) rfl rfl (by decide) ?_
              refine te_dup2 (p2 := 208) rfl rfl ⟨rfl, rfl⟩ ?_
              refine tl_i (p2 := 209) (i := 149) (n := 283) rfl rfl I131 rfl rfl rfl rfl (by decide) (by decide) (fun y132 a132 b132 g132 e132 => ?_)
              refine te_iload (p2 := 211) rfl rfl rfl ?_
              refine te_aload_n (p2 := 212) rfl rfl rfl ?_
              refine tg_r (p2 := 215) (i := 148) (r := 170) rfl rfl I131 rfl rfl rfl ?_
              refine te_aload_n (p2 := 216) rfl rfl rfl ?_
              refine tg_r (p2 := 219) (i := 148) (r := 168) rfl rfl I131 rfl rfl rfl ?_
              refine te_iload_n (p2 := 220) rfl rfl rfl ?_
              refine tl_e (p2 := 221) (i := 152) (n := 100) (t := 0) (Or.inl rfl) rfl rfl I131 rfl rfl (by omega) (by omega) ((u131.2 _ _ (Or.inl (by decide))).trans e99) ?_
              refine tl_i (p2 := 222) (i := 154) (n := 6) rfl rfl I131 rfl rfl rfl rfl (by omega) (by omega) (fun y134 a134 b134 g134 e134 => ?_)
              refine au_mul (p2 := 223) rfl rfl (fun z135 e135 => ?_)
              refine au_add (p2 := 224) rfl rfl (fun z136 e136 => ?_)
              refine ts_i (p2 := 225) (i := 149) (n := 283) rfl rfl I131 rfl rfl rfl rfl (by decide) (by decide) (i32_lo _) (i32_hi _) (i32_ho _) rfl (fun h137 I137 u137 => ?_)
              have f137 := fr_st (F := F_X12_goesRow) 0 f131 u137 rfl (by decide) (by decide)
              refine te_aload_n (p2 := 226) rfl rfl rfl ?_
              refine tg_r (p2 := 229) (i := 148) (r := 165) rfl rfl I137 rfl rfl rfl ?_
              refine te_bipush (p2 := 231) (x := 102) rfl rfl (by decide) ?_
              refine te_dup2 (p2 := 232) rfl rfl ⟨rfl, rfl⟩ ?_
              refine tl_i (p2 := 233) (i := 149) (n := 283) rfl rfl I137 rfl rfl rfl rfl (by decide) (by decide) (fun y138 a138 b138 g138 e138 => ?_)
              refine te_iload (p2 := 235) rfl rfl rfl ?_
              refine te_aload_n (p2 := 236) rfl rfl rfl ?_
              refine tg_r (p2 := 239) (i := 148) (r := 171) rfl rfl I137 rfl rfl rfl ?_
              refine te_aload_n (p2 := 240) rfl rfl rfl ?_
              refine tg_r (p2 := 243) (i := 148) (r := 168) rfl rfl I137 rfl rfl rfl ?_
              refine te_iload_n (p2 := 244) rfl rfl rfl ?_
              refine tl_e (p2 := 245) (i := 152) (n := 100) (t := 0) (Or.inl rfl) rfl rfl I137 rfl rfl (by omega) (by omega) ((u137.2 _ _ (Or.inl (by decide))).trans ((u131.2 _ _ (Or.inl (by decide))).trans e99)) ?_
              refine tl_i (p2 := 246) (i := 155) (n := 6) rfl rfl I137 rfl rfl rfl rfl (by omega) (by omega) (fun y140 a140 b140 g140 e140 => ?_)
              refine au_mul (p2 := 247) rfl rfl (fun z141 e141 => ?_)
              refine au_add (p2 := 248) rfl rfl (fun z142 e142 => ?_)
              refine ts_i (p2 := 249) (i := 149) (n := 283) rfl rfl I137 rfl rfl rfl rfl (by decide) (by decide) (i32_lo _) (i32_hi _) (i32_ho _) rfl (fun h143 I143 u143 => ?_)
              have f143 := fr_st (F := F_X12_goesRow) 0 f137 u143 rfl (by decide) (by decide)
              refine te_aload_n (p2 := 250) rfl rfl rfl ?_
              refine tg_r (p2 := 253) (i := 148) (r := 165) rfl rfl I143 rfl rfl rfl ?_
              refine te_bipush (p2 := 255) (x := 103) rfl rfl (by decide) ?_
              refine te_dup2 (p2 := 256) rfl rfl ⟨rfl, rfl⟩ ?_
              refine tl_i (p2 := 257) (i := 149) (n := 283) rfl rfl I143 rfl rfl rfl rfl (by decide) (by decide) (fun y144 a144 b144 g144 e144 => ?_)
              refine te_iconst (p2 := 258) (x := 4) rfl rfl (by decide) ?_
              refine te_iload (p2 := 260) rfl rfl rfl ?_
              refine au_mul (p2 := 261) rfl rfl (fun z145 e145 => ?_)
              refine au_add (p2 := 262) rfl rfl (fun z146 e146 => ?_)
              refine ts_i (p2 := 263) (i := 149) (n := 283) rfl rfl I143 rfl rfl rfl rfl (by decide) (by decide) (i32_lo _) (i32_hi _) (i32_ho _) rfl (fun h147 I147 u147 => ?_)
              have f147 := fr_st (F := F_X12_goesRow) 0 f143 u147 rfl (by decide) (by decide)
              refine te_aload_n (p2 := 264) rfl rfl rfl ?_
              refine te_aload_n (p2 := 265) rfl rfl rfl ?_
              refine tg_r (p2 := 268) (i := 148) (r := 179) rfl rfl I147 rfl rfl rfl ?_
              refine te_iload_n (p2 := 269) rfl rfl rfl ?_
              refine tl_e (p2 := 270) (i := 163) (n := 4) (t := 0) (Or.inl rfl) rfl rfl I147 rfl rfl (by omega) (by omega) ((f147 _ _ rfl).trans e3) ?_
              refine te_iload (p2 := 272) rfl rfl rfl ?_
              refine te_iconst (p2 := 273) (x := 4) rfl rfl (by decide) ?_
              refine te_iload (p2 := 275) rfl rfl rfl ?_
              refine au_mul (p2 := 276) rfl rfl (fun z149 e149 => ?_)
              refine au_sub (p2 := 277) rfl rfl (fun z150 e150 => ?_)
              refine tc_V (p2 := 280) (i := 148) rfl rfl rfl rfl I147 rfl rfl rfl (c_X12_comes (c := y3) (n := z150) I147 (by omega) (by omega)) (by decide) (fun v151 h151 hq151 => ?_)
              obtain ⟨I151, g151, w151, Q151⟩ := hq151
              subst w151
              have f151 := fr_tr (F1 := F_X12_comes) (F := F_X12_goesRow) f147 g151 (by decide)
              show EvP _ _ _ (280, [(5, .int z98), (4, .int v10_2), (3, .int y2), (0, .ref 164), (1, .int r), (2, .int v10_2)], [], h151) _
              refine te_iconst (p2 := 281) (x := 0) rfl rfl (by decide) ?_
              have hN : ((ctM h).hn r.toInt.toNat).toInt.toNat = v10_3.toInt.toNat := by (rw [hn.1, rv_of e1]; omega)
              have hF : ((ctM h).hf r.toInt.toNat).toInt.toNat = y2.toInt.toNat := by rw [hn.2.1, rv_of e2]
              have hT : ((ctM h).ht r.toInt.toNat).toInt.toNat = y3.toInt.toNat := by rw [hn.2.2, rv_of e3]
              have hL : (absM h).ld y2.toInt.toNat = y14 := by (rw [show (absM h).ld = (absM h10).ld from (by rw [w10_0]; rfl), aM_ld (by omega)]; exact rv_of e14)
              have hM : v10_2 = mnI (lsF (ctM h) (absM h) r.toInt.toNat v10_3.toInt.toNat).2 ((absM h).ld ((ctM h).hf r.toInt.toNat).toInt.toNat) := by (rw [hF, hL, ← w10_1]; exact mnI_e (by omega))
              have hC := ldM w10_0 u94 (show _ = 272 + r.toInt.toNat by omega) (by omega) u97 (by omega) (rv_of e95) e96
              have hK : (ctM h).kd y2.toInt.toNat = y99 := (gd_at (by omega)).trans (rv_of ((f97 _ _ rfl).symm.trans e99))
              have hP := kpM (c := ctM h) (f := y2.toInt.toNat) (t := z98) (k1 := y128) (y1 := y126) (k2 := y134) (y2 := y132) (k3 := y140) (y3 := y138) u131 u137 u143 (by rw [hK]; omega) (by rw [hK]; exact tab_v (fun k => (f97 _ _ rfl).trans (pr0.1 k)) e128) (by rw [hK]; exact tab_v (fun k => (f131 _ _ rfl).trans (pr0.2.1 k)) e134) (by rw [hK]; exact tab_v (fun k => (f137 _ _ rfl).trans (pr0.2.2.1 k)) e140) (rv_of (k := 100) e126) (rv_of (k := 101) e132) (rv_of (k := 102) e138) (by rw [e129]; exact e130) (by rw [e135]; exact e136) (by rw [e141]; exact e142)
              have hB : absM h151 = bmF (ctM h) (Dy.s_rl (roA (ctM h) (absM h) r.toInt.toNat v10_3.toInt.toNat) (udt (roA (ctM h) (absM h) r.toInt.toNat v10_3.toInt.toNat).rl r.toInt.toNat v10_2)) r.toInt.toNat v10_2 := bmM hC hP u147 (rv_of (k := 103) e144) e145 e146 e149 e150 (by rw [Q151, (show ctM h147 = ctM h from ctM_fr f147 rfl)]) e98 hF hT
              refine te_istore (p2 := 283) (lv2 := [(6, .int 0), (5, .int z98), (4, .int v10_2), (3, .int y2), (0, .ref 164), (1, .int r), (2, .int v10_2)]) rfl rfl (by decide) rfl ?_
              have lp152 : ∀ (n152 : Nat) (v152_6 : Int32) (h152 : im_H), tI h152 → fr F_X12_goesRow h h152 → 0 ≤ v152_6.toInt → v152_6.toInt ≤ 8 → v152_6.toInt ≤ y1.toInt → (absM h152 = wkF (ctM h) r.toInt.toNat (bmF (ctM h) (Dy.s_rl (roA (ctM h) (absM h) r.toInt.toNat v10_3.toInt.toNat) (udt (roA (ctM h) (absM h) r.toInt.toNat v10_3.toInt.toNat).rl r.toInt.toNat v10_2)) r.toInt.toNat v10_2) v152_6.toInt.toNat) → (¬ 0 < v10_2.toInt → v152_6.toInt.toNat = 0) → 8 - v152_6.toInt < (n152 : Int) → EvP im_K0 5 mX12_goesRow (283, [(0, .ref 164), (1, .int r), (2, .int v10_2), (3, .int y2), (4, .int v10_2), (5, .int z98), (6, .int v152_6)], [], h152) (fun v h2 => tI h2 ∧ fr F_X12_goesRow h h2 ∧ v = none ∧ absM h2 = roF (ctM h) (absM h) r.toInt.toNat) := by
                intro n152
                induction n152 with
                | zero => intro v152_6 h152 I152 f152 a152_6 b152_6 l152_0 w152_0 w152_1 m152; exfalso; omega
                | succ n152 ih152 =>
                  intro v152_6 h152 I152 f152 a152_6 b152_6 l152_0 w152_0 w152_1 m152
                  refine te_iload (p2 := 285) rfl rfl rfl ?_
                  refine te_aload_n (p2 := 286) rfl rfl rfl ?_
                  refine tg_r (p2 := 289) (i := 148) (r := 177) rfl rfl I152 rfl rfl rfl ?_
                  refine te_iload_n (p2 := 290) rfl rfl rfl ?_
                  refine tl_e (p2 := 291) (i := 161) (n := 4) (t := 0) (Or.inl rfl) rfl rfl I152 rfl rfl (by omega) (by omega) ((f152 _ _ rfl).trans e1) ?_
                  refine tb_ge (p2 := 294) rfl rfl rfl rfl (fun c154 => ?_) (fun c154 => ?_)
                  · exact te_vret rfl rfl ⟨I152, f152, rfl, (by (by_cases hp : 0 < v10_2.toInt); (· rw [w152_0, show v152_6.toInt.toNat = v10_3.toInt.toNat by omega]; exact ro_M hN hM hp); (· rw [w152_0, w152_1 hp]; exact ro_M0 hN hM hp (i32_ext (by (have h9 := mnI_B (ls_B (r := r.toInt.toNat) pr1 ok v10_3.toInt.toNat) (ok.1 ((ctM h).hf r.toInt.toNat).toInt.toNat).1); rw [← hM] at h9; (have c0 := (show Int32.toInt 0 = 0 from rfl)); omega))))⟩
                  · refine te_iload (p2 := 296) rfl rfl rfl ?_
                    refine tz_le (p2 := 299) rfl rfl rfl (fun c155 => ?_) (fun c155 => ?_)
                    · exact te_vret rfl rfl ⟨I152, f152, rfl, (by (by_cases hp : 0 < v10_2.toInt); (· rw [w152_0, show v152_6.toInt.toNat = v10_3.toInt.toNat by omega]; exact ro_M hN hM hp); (· rw [w152_0, w152_1 hp]; exact ro_M0 hN hM hp (i32_ext (by (have h9 := mnI_B (ls_B (r := r.toInt.toNat) pr1 ok v10_3.toInt.toNat) (ok.1 ((ctM h).hf r.toInt.toNat).toInt.toNat).1); rw [← hM] at h9; (have c0 := (show Int32.toInt 0 = 0 from rfl)); omega))))⟩
                    · refine te_aload_n (p2 := 300) rfl rfl rfl ?_
                      refine tg_r (p2 := 303) (i := 148) (r := 165) rfl rfl I152 rfl rfl rfl ?_
                      refine te_sipush (p2 := 306) (x := 188) rfl rfl (by decide) ?_
                      refine te_aload_n (p2 := 307) rfl rfl rfl ?_
                      refine tg_r (p2 := 310) (i := 148) (r := 176) rfl rfl I152 rfl rfl rfl ?_
                      refine te_bipush (p2 := 312) (x := 8) rfl rfl (by decide) ?_
                      refine te_iload_n (p2 := 313) rfl rfl rfl ?_
                      refine ar_mul (p2 := 314) rfl rfl (show Int32.toInt 8 = 8 from rfl) rfl (by omega) (by omega) (fun z156 e156 f156 => ?_)
                      refine te_iload (p2 := 316) rfl rfl rfl ?_
                      refine ar_add (p2 := 317) rfl rfl rfl rfl (by omega) (by omega) (fun z157 e157 f157 => ?_)
                      refine tl_i (p2 := 318) (i := 160) (n := 32) rfl rfl I152 rfl rfl rfl rfl (by omega) (by omega) (fun y158 a158 b158 g158 e158 => ?_)
                      refine ar_add (p2 := 319) rfl rfl (show Int32.toInt 188 = 188 from rfl) rfl (by omega) (by omega) (fun z159 e159 f159 => ?_)
                      refine te_dup2 (p2 := 320) rfl rfl ⟨rfl, rfl⟩ ?_
                      refine tl_i (p2 := 321) (i := 149) (n := 283) rfl rfl I152 rfl rfl rfl rfl (by omega) (by omega) (fun y160 a160 b160 g160 e160 => ?_)
                      refine te_aload_n (p2 := 322) rfl rfl rfl ?_
                      refine te_aload_n (p2 := 323) rfl rfl rfl ?_
                      refine tg_r (p2 := 326) (i := 148) (r := 176) rfl rfl I152 rfl rfl rfl ?_
                      refine te_bipush (p2 := 328) (x := 8) rfl rfl (by decide) ?_
                      refine te_iload_n (p2 := 329) rfl rfl rfl ?_
                      refine ar_mul (p2 := 330) rfl rfl (show Int32.toInt 8 = 8 from rfl) rfl (by omega) (by omega) (fun z161 e161 f161 => ?_)
                      refine te_iload (p2 := 332) rfl rfl rfl ?_
                      refine ar_add (p2 := 333) rfl rfl rfl rfl (by omega) (by omega) (fun z162 e162 f162 => ?_)
                      refine tl_i (p2 := 334) (i := 160) (n := 32) rfl rfl I152 rfl rfl rfl rfl (by omega) (by omega) (fun y163 a163 b163 g163 e163 => ?_)
                      have hy164 := congrArg Int32.toInt (int_inj e163 (by rw [show z162.toInt.toNat = z157.toInt.toNat by omega]; exact e158))
                      refine cV_pI (p2 := 337) (i := 148) rfl rfl rfl rfl I152 rfl rfl rfl (c_X12_worksOf (k := y163) I152 (by omega) (by omega)) (by decide) (fun y165 r165 => ?_)
                      refine au_add (p2 := 338) rfl rfl (fun z166 e166 => ?_)
                      refine ts_i (p2 := 339) (i := 149) (n := 283) rfl rfl I152 rfl rfl rfl rfl (by omega) (by omega) (i32_lo _) (i32_hi _) (i32_ho _) rfl (fun h167 I167 u167 => ?_)
                      have f167 := fr_st (F := F_X12_goesRow) 1 f152 u167 rfl (by omega) (by omega)
                      refine ar_inc (p2 := 342) (x := v152_6) rfl rfl (by decide) rfl (by decide) rfl (by omega) (by omega) (fun z168 e168 f168 => ?_)
                      show EvP _ _ _ (342, [(6, .int z168), (0, .ref 164), (1, .int r), (2, .int v10_2), (3, .int y2), (4, .int v10_2), (5, .int z98)], [], h167) _
                      refine te_goto rfl ?_
                      refine te_lv [(0, .ref 164), (1, .int r), (2, .int v10_2), (3, .int y2), (4, .int v10_2), (5, .int z98), (6, .int z168)] rfl rfl ⟨rfl, rfl, rfl, rfl, rfl, rfl, rfl, trivial⟩ ?_
                      exact ih152 z168 h167 I167 f167 (by omega) (by omega) (by omega) (by rw [show z168.toInt.toNat = v152_6.toInt.toNat + 1 by omega]; exact wkMs (show ctM h152 = ctM h from ctM_fr f152 rfl) u167 (by omega) (by omega) (by rw [(show (ctM h).hd r.toInt.toNat v152_6.toInt.toNat = y163 from (by rw [hdM (by omega) (by omega), show 8 * r.toInt.toNat + v152_6.toInt.toNat = z162.toInt.toNat by omega]; exact rv_of ((f152 _ _ rfl).symm.trans e163)))]) (r165 (show (rv h152 149 (236 + y163.toInt.toNat)).toInt = 0 from (by rw [rv_q (show rd h152 149 (236 + y163.toInt.toNat) = rd h 149 (236 + y163.toInt.toNat) from f152 _ _ (inMd (by omega) (by omega))), ← aM_de (by omega), ← (show (ctM h).hd r.toInt.toNat v152_6.toInt.toNat = y163 from (by rw [hdM (by omega) (by omega), show 8 * r.toInt.toNat + v152_6.toInt.toNat = z162.toInt.toNat by omega]; exact rv_of ((f152 _ _ rfl).symm.trans e163)))]; exact ls_al (n := v10_3.toInt.toNat) (fun i => pr1.2.2.2.2 r.toInt.toNat i) (mnI_pos hM (by omega)) (by omega)))) (by rw [show 188 + y163.toInt.toNat = z159.toInt.toNat by omega]; exact rv_of e160) e166 w152_0) (fun q => absurd (by omega) q) (by omega)
              refine te_lv [(0, .ref 164), (1, .int r), (2, .int v10_2), (3, .int y2), (4, .int v10_2), (5, .int z98), (6, .int 0)] rfl rfl ⟨rfl, rfl, rfl, rfl, rfl, rfl, rfl, trivial⟩ ?_
              exact lp152 9 0 h151 I151 f151 (by decide) (by decide) (by have cc0 := (show Int32.toInt 0 = 0 from rfl); omega) hB (fun _ => rfl) (by have cc0 := (show Int32.toInt 0 = 0 from rfl); omega)
        · refine te_aload_n (p2 := 47) rfl rfl rfl ?_
          refine tg_r (p2 := 50) (i := 148) (r := 176) rfl rfl I10 rfl rfl rfl ?_
          refine te_bipush (p2 := 52) (x := 8) rfl rfl (by decide) ?_
          refine te_iload_n (p2 := 53) rfl rfl rfl ?_
          refine ar_mul (p2 := 54) rfl rfl (show Int32.toInt 8 = 8 from rfl) rfl (by omega) (by omega) (fun z169 e169 f169 => ?_)
          refine te_iload_n (p2 := 55) rfl rfl rfl ?_
          refine ar_add (p2 := 56) rfl rfl rfl rfl (by omega) (by omega) (fun z170 e170 f170 => ?_)
          refine tl_i (p2 := 57) (i := 160) (n := 32) rfl rfl I10 rfl rfl rfl rfl (by omega) (by omega) (fun y171 a171 b171 g171 e171 => ?_)
          refine te_istore (p2 := 59) (lv2 := [(4, .int y171), (0, .ref 164), (1, .int r), (2, .int v10_2), (3, .int v10_3)]) rfl rfl (by decide) rfl ?_
          refine te_aload_n (p2 := 60) rfl rfl rfl ?_
          refine te_iload (p2 := 62) rfl rfl rfl ?_
          refine cV_pI (p2 := 65) (i := 148) rfl rfl rfl rfl I10 rfl rfl rfl (c_X12_passes (k := y171) I10 (by omega) (by omega)) (by decide) (fun y172 r172 => ?_)
          refine te_istore (p2 := 67) (lv2 := [(5, .int y172), (4, .int y171), (0, .ref 164), (1, .int r), (2, .int v10_2), (3, .int v10_3)]) rfl rfl (by decide) rfl ?_
          refine te_aload_n (p2 := 68) rfl rfl rfl ?_
          refine tg_r (p2 := 71) (i := 148) (r := 165) rfl rfl I10 rfl rfl rfl ?_
          refine te_sipush (p2 := 74) (x := 276) rfl rfl (by decide) ?_
          refine te_iload_n (p2 := 75) rfl rfl rfl ?_
          refine ar_add (p2 := 76) rfl rfl (show Int32.toInt 276 = 276 from rfl) rfl (by omega) (by omega) (fun z173 e173 f173 => ?_)
          refine tl_i (p2 := 77) (i := 149) (n := 283) rfl rfl I10 rfl rfl rfl rfl (by omega) (by omega) (fun y174 a174 b174 g174 e174 => ?_)
          refine te_iconst (p2 := 78) (x := (-1)) rfl rfl (by decide) ?_
          refine tb_eq (p2 := 81) rfl rfl rfl (show Int32.toInt (-1) = (-1) from rfl) (fun c175 => ?_) (fun c175 => ?_)
          · refine te_aload_n (p2 := 88) rfl rfl rfl ?_
            refine tg_r (p2 := 91) (i := 148) (r := 165) rfl rfl I10 rfl rfl rfl ?_
            refine te_sipush (p2 := 94) (x := 276) rfl rfl (by decide) ?_
            refine te_iload_n (p2 := 95) rfl rfl rfl ?_
            refine ar_add (p2 := 96) rfl rfl (show Int32.toInt 276 = 276 from rfl) rfl (by omega) (by omega) (fun z176 e176 f176 => ?_)
            refine te_iload (p2 := 98) rfl rfl rfl ?_
            refine ts_i (p2 := 99) (i := 149) (n := 283) rfl rfl I10 rfl rfl rfl rfl (by omega) (by omega) (i32_lo _) (i32_hi _) (i32_ho _) rfl (fun h177 I177 u177 => ?_)
            have f177 := fr_st (F := F_X12_goesRow) 2 f10 u177 rfl (by omega) (by omega)
            refine te_iload (p2 := 101) rfl rfl rfl ?_
            refine te_istore_n (p2 := 102) (lv2 := [(2, .int y172), (5, .int y172), (4, .int y171), (0, .ref 164), (1, .int r), (3, .int v10_3)]) rfl rfl (by decide) rfl ?_
            refine ar_inc (p2 := 105) (x := v10_3) rfl rfl (by decide) rfl (by decide) rfl (by omega) (by omega) (fun z178 e178 f178 => ?_)
            show EvP _ _ _ (105, [(3, .int z178), (2, .int y172), (5, .int y172), (4, .int y171), (0, .ref 164), (1, .int r)], [], h177) _
            refine te_goto rfl ?_
            refine te_lv [(0, .ref 164), (1, .int r), (2, .int y172), (3, .int z178)] rfl rfl ⟨rfl, rfl, rfl, rfl, trivial⟩ ?_
            exact ih10 y172 z178 h177 I177 f177 (by omega) (by omega) (by omega) (by rw [show z178.toInt.toNat = v10_3.toInt.toNat + 1 by omega, mu_rs (i := r.toInt.toNat) u177 (by omega) (by omega), w10_0]; exact roA_y (by rw [ls_y (by rw [← (show y174 = (lsF (ctM h) (absM h) r.toInt.toNat v10_3.toInt.toNat).1 from (by (have h9 : (absM h10).rs r.toInt.toNat = y174 := (aM_rs (by omega)).trans (by rw [show 276 + r.toInt.toNat = z173.toInt.toNat by omega]; exact rv_of e174)); rw [w10_0] at h9; exact h9.symm.trans udt_s)), ← (show y172 = psF (ctM h) (absM h) ((ctM h).hd r.toInt.toNat v10_3.toInt.toNat).toInt.toNat from (by rw [(show (ctM h).hd r.toInt.toNat v10_3.toInt.toNat = y171 from (by rw [hdM (by omega) (by omega), show 8 * r.toInt.toNat + v10_3.toInt.toNat = z170.toInt.toNat by omega]; exact rv_of ((f10 _ _ rfl).symm.trans e171))), r172 b (by rw [w10_0]; exact ok_roA ok), (show ctM h10 = ctM h from ctM_fr f10 rfl), w10_0]; rfl)), ← w10_1]; omega), (show (ctM h).hd r.toInt.toNat v10_3.toInt.toNat = y171 from (by rw [hdM (by omega) (by omega), show 8 * r.toInt.toNat + v10_3.toInt.toNat = z170.toInt.toNat by omega]; exact rv_of ((f10 _ _ rfl).symm.trans e171)))])) (by rw [show z178.toInt.toNat = v10_3.toInt.toNat + 1 by omega, ls_y (by rw [← (show y174 = (lsF (ctM h) (absM h) r.toInt.toNat v10_3.toInt.toNat).1 from (by (have h9 : (absM h10).rs r.toInt.toNat = y174 := (aM_rs (by omega)).trans (by rw [show 276 + r.toInt.toNat = z173.toInt.toNat by omega]; exact rv_of e174)); rw [w10_0] at h9; exact h9.symm.trans udt_s)), ← (show y172 = psF (ctM h) (absM h) ((ctM h).hd r.toInt.toNat v10_3.toInt.toNat).toInt.toNat from (by rw [(show (ctM h).hd r.toInt.toNat v10_3.toInt.toNat = y171 from (by rw [hdM (by omega) (by omega), show 8 * r.toInt.toNat + v10_3.toInt.toNat = z170.toInt.toNat by omega]; exact rv_of ((f10 _ _ rfl).symm.trans e171))), r172 b (by rw [w10_0]; exact ok_roA ok), (show ctM h10 = ctM h from ctM_fr f10 rfl), w10_0]; rfl)), ← w10_1]; omega)]; exact (show y172 = psF (ctM h) (absM h) ((ctM h).hd r.toInt.toNat v10_3.toInt.toNat).toInt.toNat from (by rw [(show (ctM h).hd r.toInt.toNat v10_3.toInt.toNat = y171 from (by rw [hdM (by omega) (by omega), show 8 * r.toInt.toNat + v10_3.toInt.toNat = z170.toInt.toNat by omega]; exact rv_of ((f10 _ _ rfl).symm.trans e171))), r172 b (by rw [w10_0]; exact ok_roA ok), (show ctM h10 = ctM h from ctM_fr f10 rfl), w10_0]; rfl))) (by omega)
          · refine te_iload (p2 := 83) rfl rfl rfl ?_
            refine te_iload_n (p2 := 84) rfl rfl rfl ?_
            refine tb_ge (p2 := 87) rfl rfl rfl rfl (fun c179 => ?_) (fun c179 => ?_)
            · refine ar_inc (p2 := 105) (x := v10_3) rfl rfl (by decide) rfl (by decide) rfl (by omega) (by omega) (fun z180 e180 f180 => ?_)
              show EvP _ _ _ (105, [(3, .int z180), (5, .int y172), (4, .int y171), (0, .ref 164), (1, .int r), (2, .int v10_2)], [], h10) _
              refine te_goto rfl ?_
              refine te_lv [(0, .ref 164), (1, .int r), (2, .int v10_2), (3, .int z180)] rfl rfl ⟨rfl, rfl, rfl, rfl, trivial⟩ ?_
              exact ih10 v10_2 z180 h10 I10 f10 (by omega) (by omega) (by omega) (by rw [show z180.toInt.toNat = v10_3.toInt.toNat + 1 by omega, w10_0]; exact roA_n (ls_n (by rw [← (show y174 = (lsF (ctM h) (absM h) r.toInt.toNat v10_3.toInt.toNat).1 from (by (have h9 : (absM h10).rs r.toInt.toNat = y174 := (aM_rs (by omega)).trans (by rw [show 276 + r.toInt.toNat = z173.toInt.toNat by omega]; exact rv_of e174)); rw [w10_0] at h9; exact h9.symm.trans udt_s)), ← (show y172 = psF (ctM h) (absM h) ((ctM h).hd r.toInt.toNat v10_3.toInt.toNat).toInt.toNat from (by rw [(show (ctM h).hd r.toInt.toNat v10_3.toInt.toNat = y171 from (by rw [hdM (by omega) (by omega), show 8 * r.toInt.toNat + v10_3.toInt.toNat = z170.toInt.toNat by omega]; exact rv_of ((f10 _ _ rfl).symm.trans e171))), r172 b (by rw [w10_0]; exact ok_roA ok), (show ctM h10 = ctM h from ctM_fr f10 rfl), w10_0]; rfl)), ← w10_1]; omega))) (by rw [show z180.toInt.toNat = v10_3.toInt.toNat + 1 by omega, ls_n (by rw [← (show y174 = (lsF (ctM h) (absM h) r.toInt.toNat v10_3.toInt.toNat).1 from (by (have h9 : (absM h10).rs r.toInt.toNat = y174 := (aM_rs (by omega)).trans (by rw [show 276 + r.toInt.toNat = z173.toInt.toNat by omega]; exact rv_of e174)); rw [w10_0] at h9; exact h9.symm.trans udt_s)), ← (show y172 = psF (ctM h) (absM h) ((ctM h).hd r.toInt.toNat v10_3.toInt.toNat).toInt.toNat from (by rw [(show (ctM h).hd r.toInt.toNat v10_3.toInt.toNat = y171 from (by rw [hdM (by omega) (by omega), show 8 * r.toInt.toNat + v10_3.toInt.toNat = z170.toInt.toNat by omega]; exact rv_of ((f10 _ _ rfl).symm.trans e171))), r172 b (by rw [w10_0]; exact ok_roA ok), (show ctM h10 = ctM h from ctM_fr f10 rfl), w10_0]; rfl)), ← w10_1]; omega)]; exact w10_1) (by omega)
            · refine te_aload_n (p2 := 88) rfl rfl rfl ?_
              refine tg_r (p2 := 91) (i := 148) (r := 165) rfl rfl I10 rfl rfl rfl ?_
              refine te_sipush (p2 := 94) (x := 276) rfl rfl (by decide) ?_
              refine te_iload_n (p2 := 95) rfl rfl rfl ?_
              refine ar_add (p2 := 96) rfl rfl (show Int32.toInt 276 = 276 from rfl) rfl (by omega) (by omega) (fun z181 e181 f181 => ?_)
              refine te_iload (p2 := 98) rfl rfl rfl ?_
              refine ts_i (p2 := 99) (i := 149) (n := 283) rfl rfl I10 rfl rfl rfl rfl (by omega) (by omega) (i32_lo _) (i32_hi _) (i32_ho _) rfl (fun h182 I182 u182 => ?_)
              have f182 := fr_st (F := F_X12_goesRow) 2 f10 u182 rfl (by omega) (by omega)
              refine te_iload (p2 := 101) rfl rfl rfl ?_
              refine te_istore_n (p2 := 102) (lv2 := [(2, .int y172), (5, .int y172), (4, .int y171), (0, .ref 164), (1, .int r), (3, .int v10_3)]) rfl rfl (by decide) rfl ?_
              refine ar_inc (p2 := 105) (x := v10_3) rfl rfl (by decide) rfl (by decide) rfl (by omega) (by omega) (fun z183 e183 f183 => ?_)
              show EvP _ _ _ (105, [(3, .int z183), (2, .int y172), (5, .int y172), (4, .int y171), (0, .ref 164), (1, .int r)], [], h182) _
              refine te_goto rfl ?_
              refine te_lv [(0, .ref 164), (1, .int r), (2, .int y172), (3, .int z183)] rfl rfl ⟨rfl, rfl, rfl, rfl, trivial⟩ ?_
              exact ih10 y172 z183 h182 I182 f182 (by omega) (by omega) (by omega) (by rw [show z183.toInt.toNat = v10_3.toInt.toNat + 1 by omega, mu_rs (i := r.toInt.toNat) u182 (by omega) (by omega), w10_0]; exact roA_y (by rw [ls_y (by rw [← (show y174 = (lsF (ctM h) (absM h) r.toInt.toNat v10_3.toInt.toNat).1 from (by (have h9 : (absM h10).rs r.toInt.toNat = y174 := (aM_rs (by omega)).trans (by rw [show 276 + r.toInt.toNat = z173.toInt.toNat by omega]; exact rv_of e174)); rw [w10_0] at h9; exact h9.symm.trans udt_s)), ← (show y172 = psF (ctM h) (absM h) ((ctM h).hd r.toInt.toNat v10_3.toInt.toNat).toInt.toNat from (by rw [(show (ctM h).hd r.toInt.toNat v10_3.toInt.toNat = y171 from (by rw [hdM (by omega) (by omega), show 8 * r.toInt.toNat + v10_3.toInt.toNat = z170.toInt.toNat by omega]; exact rv_of ((f10 _ _ rfl).symm.trans e171))), r172 b (by rw [w10_0]; exact ok_roA ok), (show ctM h10 = ctM h from ctM_fr f10 rfl), w10_0]; rfl)), ← w10_1]; omega), (show (ctM h).hd r.toInt.toNat v10_3.toInt.toNat = y171 from (by rw [hdM (by omega) (by omega), show 8 * r.toInt.toNat + v10_3.toInt.toNat = z170.toInt.toNat by omega]; exact rv_of ((f10 _ _ rfl).symm.trans e171)))])) (by rw [show z183.toInt.toNat = v10_3.toInt.toNat + 1 by omega, ls_y (by rw [← (show y174 = (lsF (ctM h) (absM h) r.toInt.toNat v10_3.toInt.toNat).1 from (by (have h9 : (absM h10).rs r.toInt.toNat = y174 := (aM_rs (by omega)).trans (by rw [show 276 + r.toInt.toNat = z173.toInt.toNat by omega]; exact rv_of e174)); rw [w10_0] at h9; exact h9.symm.trans udt_s)), ← (show y172 = psF (ctM h) (absM h) ((ctM h).hd r.toInt.toNat v10_3.toInt.toNat).toInt.toNat from (by rw [(show (ctM h).hd r.toInt.toNat v10_3.toInt.toNat = y171 from (by rw [hdM (by omega) (by omega), show 8 * r.toInt.toNat + v10_3.toInt.toNat = z170.toInt.toNat by omega]; exact rv_of ((f10 _ _ rfl).symm.trans e171))), r172 b (by rw [w10_0]; exact ok_roA ok), (show ctM h10 = ctM h from ctM_fr f10 rfl), w10_0]; rfl)), ← w10_1]; omega)]; exact (show y172 = psF (ctM h) (absM h) ((ctM h).hd r.toInt.toNat v10_3.toInt.toNat).toInt.toNat from (by rw [(show (ctM h).hd r.toInt.toNat v10_3.toInt.toNat = y171 from (by rw [hdM (by omega) (by omega), show 8 * r.toInt.toNat + v10_3.toInt.toNat = z170.toInt.toNat by omega]; exact rv_of ((f10 _ _ rfl).symm.trans e171))), r172 b (by rw [w10_0]; exact ok_roA ok), (show ctM h10 = ctM h from ctM_fr f10 rfl), w10_0]; rfl))) (by omega)
    refine te_lv [(0, .ref 164), (1, .int r), (2, .int 0), (3, .int 0)] rfl rfl ⟨rfl, rfl, rfl, rfl, trivial⟩ ?_
    exact lp10 9 0 0 h7 I7 f7 (by decide) (by decide) (by have cc0 := (show Int32.toInt 0 = 0 from rfl); omega) (by rw [mu_rs (i := r.toInt.toNat) u7 (by omega) (by omega), mu_rl (i := r.toInt.toNat) u5 (by omega) (by omega)]; rfl) rfl (by have cc0 := (show Int32.toInt 0 = 0 from rfl); omega)
  · exact te_vret rfl rfl ⟨I7, f7, rfl, (by rw [mu_rs (i := r.toInt.toNat) u7 (by omega) (by omega), mu_rl (i := r.toInt.toNat) u5 (by omega) (by omega)]; exact ro_0 (c := ctM h) (A := absM h) (n := 0) (by rw [hn.1, rv_of e1]; omega) rfl (by show ¬ 0 < (mnI 0 _).toInt; unfold mnI; (have c0 := (show Int32.toInt 0 = 0 from rfl)); split <;> omega))⟩
theorem raM {h h1 h2 h3 he : im_H} {c : Ct} {rr f tt j j2 : Nat} {m z l : Int32} (u0 : up h h1 149 j (.int 0)) (hj : j = 280 + rr) (hr : rr < 3) (u1 : up h1 h2 149 j2 (.int m)) (hj2 : j2 = 280 + rr) (u2 : up h2 h3 149 f (.int z)) (hf : f < 100) (hl : rv h2 149 f = l) (hz : l - m = z) (Q : absM he = brF c (absM h3) tt m) (hm : m = mnI (60 * c.cr rr / (c.wn rr - 1)) ((absM h).ld f)) (hw : ¬ (c.wn rr).toInt < 2) (hF : (c.wf rr).toInt.toNat = f) (hT : (c.wl rr).toInt.toNat = tt) : absM he = raF c (absM h) rr := by
  have a1 := (mu_ra (i := rr) u1 hj2 hr).trans (congrArg (fun A : Dy => (Dy.s_ra A (udt A.ra rr m))) (mu_ra (i := rr) u0 hj hr))
  have a3 : l = (absM h).ld f := by rw [← hl, rv_ni u1 (Or.inr (by omega)), rv_ni u0 (Or.inr (by omega)), aM_ld hf]
  have a2 := (mu_ld (i := f) u2 (by omega) hf).trans (congrArg (fun A : Dy => (Dy.s_ld A (udt A.ld f z))) a1)
  refine Q.trans ((congrArg (fun A => brF c A tt m) a2).trans ?_)
  unfold raF
  rw [if_neg hw, hF, hT, ← hm, ← hz, a3]
  show brF c (Dy.mk _ _ _ _ _ _ _ _ _ (udt (udt _ _ _) _ _) _ _ _ _ _ _) tt m = _
  rw [udt_2]
set_option maxRecDepth 20000 in
set_option maxHeartbeats 4000000 in
theorem c_X12_goesRail {r : Int32} {h : im_H} (hI : tI h) (p_r0 : 0 ≤ r.toInt) (p_r1 : r.toInt ≤ 2) : CaP 2 150 [.ref 164, .int r] h (fun v h2 => tI h2 ∧ fr F_X12_goesRail h h2 ∧ v = none ∧ absM h2 = raF (ctM h) (absM h) r.toInt.toNat) := by
  refine cap_of (d := 1) (M := mX12_goesRail) rfl (Nat.le_of_ble_eq_true rfl) ?_
  show EvP im_K0 1 mX12_goesRail (0, [(0, .ref 164), (1, .int r)], [], h) _
  have f0 : fr F_X12_goesRail h h := fr_rf
  refine te_aload_n (p2 := 1) rfl rfl rfl ?_
  obtain ⟨v1, e1, y1, w1, a1, b1, _⟩ := hI.2.1 165 r.toInt.toNat (.inl (0, 12, 1)) (tq_row rfl (by omega))
  subst w1
  obtain ⟨v2, e2, y2, w2, a2, b2, _⟩ := hI.2.1 166 r.toInt.toNat (.inl ((-2147483648), 2147483647, 9999999999)) (tq_row rfl (by omega))
  subst w2
  have wn := wnM (h := h) (r := r.toInt.toNat) (by omega)
  have hne : y1.toInt ≠ 1 := by (obtain ⟨_, e_, x_, w_, _, _, c_⟩ := hI.2.1 165 r.toInt.toNat (.inl (0, 12, 1)) (tq_row rfl (by omega)); subst w_; rw [int_inj e1 e_]; exact c_)
  refine tg_r (p2 := 4) (i := 148) (r := 165) rfl rfl hI rfl rfl rfl ?_
  refine te_sipush (p2 := 7) (x := 280) rfl rfl (by decide) ?_
  refine te_iload_n (p2 := 8) rfl rfl rfl ?_
  refine ar_add (p2 := 9) rfl rfl (show Int32.toInt 280 = 280 from rfl) rfl (by omega) (by omega) (fun z3 e3 f3 => ?_)
  refine te_iconst (p2 := 10) (x := 0) rfl rfl (by decide) ?_
  refine ts_i (p2 := 11) (i := 149) (n := 283) rfl rfl hI rfl rfl rfl rfl (by omega) (by omega) (i32_lo _) (i32_hi _) (i32_ho _) rfl (fun h4 I4 u4 => ?_)
  have f4 := fr_st (F := F_X12_goesRail) 2 f0 u4 rfl (by omega) (by omega)
  refine te_aload_n (p2 := 12) rfl rfl rfl ?_
  refine tg_r (p2 := 15) (i := 148) (r := 181) rfl rfl I4 rfl rfl rfl ?_
  refine te_iload_n (p2 := 16) rfl rfl rfl ?_
  refine tl_e (p2 := 17) (i := 165) (n := 3) (t := 0) (Or.inl rfl) rfl rfl I4 rfl rfl (by omega) (by omega) ((u4.2 _ _ (Or.inl (by decide))).trans e1) ?_
  refine tz_ne (p2 := 20) rfl rfl rfl (fun c6 => ?_) (fun c6 => ?_)
  · refine te_aload_n (p2 := 22) rfl rfl rfl ?_
    refine tg_r (p2 := 25) (i := 148) (r := 180) rfl rfl I4 rfl rfl rfl ?_
    refine te_bipush (p2 := 27) (x := 12) rfl rfl (by decide) ?_
    refine te_iload_n (p2 := 28) rfl rfl rfl ?_
    refine ar_mul (p2 := 29) rfl rfl (show Int32.toInt 12 = 12 from rfl) rfl (by omega) (by omega) (fun z7 e7 f7 => ?_)
    refine tl_i (p2 := 30) (i := 164) (n := 36) rfl rfl I4 rfl rfl rfl rfl (by omega) (by omega) (fun y8 a8 b8 g8 e8 => ?_)
    refine te_istore_n (p2 := 31) (lv2 := [(2, .int y8), (0, .ref 164), (1, .int r)]) rfl rfl (by decide) rfl ?_
    refine te_bipush (p2 := 33) (x := 60) rfl rfl (by decide) ?_
    refine te_aload_n (p2 := 34) rfl rfl rfl ?_
    refine tg_r (p2 := 37) (i := 148) (r := 182) rfl rfl I4 rfl rfl rfl ?_
    refine te_iload_n (p2 := 38) rfl rfl rfl ?_
    refine tl_e (p2 := 39) (i := 166) (n := 3) (t := 0) (Or.inl rfl) rfl rfl I4 rfl rfl (by omega) (by omega) ((u4.2 _ _ (Or.inl (by decide))).trans e2) ?_
    refine au_mul (p2 := 40) rfl rfl (fun z10 e10 => ?_)
    refine te_aload_n (p2 := 41) rfl rfl rfl ?_
    refine tg_r (p2 := 44) (i := 148) (r := 181) rfl rfl I4 rfl rfl rfl ?_
    refine te_iload_n (p2 := 45) rfl rfl rfl ?_
    refine tl_e (p2 := 46) (i := 165) (n := 3) (t := 0) (Or.inl rfl) rfl rfl I4 rfl rfl (by omega) (by omega) ((u4.2 _ _ (Or.inl (by decide))).trans e1) ?_
    refine te_iconst (p2 := 47) (x := 1) rfl rfl (by decide) ?_
    refine ar_sub (p2 := 48) rfl rfl rfl (show Int32.toInt 1 = 1 from rfl) (by omega) (by omega) (fun z12 e12 f12 => ?_)
    refine au_div (p2 := 49) rfl rfl rfl (by omega) (fun z13 e13 => ?_)
    refine te_istore_n (p2 := 50) (lv2 := [(3, .int z13), (2, .int y8), (0, .ref 164), (1, .int r)]) rfl rfl (by decide) rfl ?_
    refine te_iload_n (p2 := 51) rfl rfl rfl ?_
    refine te_aload_n (p2 := 52) rfl rfl rfl ?_
    refine tg_r (p2 := 55) (i := 148) (r := 165) rfl rfl I4 rfl rfl rfl ?_
    refine te_iload_n (p2 := 56) rfl rfl rfl ?_
    refine tl_i (p2 := 57) (i := 149) (n := 283) rfl rfl I4 rfl rfl rfl rfl (by omega) (by omega) (fun y14 a14 b14 g14 e14 => ?_)
    refine tb_ge (p2 := 60) rfl rfl rfl rfl (fun c15 => ?_) (fun c15 => ?_)
    · refine te_aload_n (p2 := 65) rfl rfl rfl ?_
      refine tg_r (p2 := 68) (i := 148) (r := 165) rfl rfl I4 rfl rfl rfl ?_
      refine te_iload_n (p2 := 69) rfl rfl rfl ?_
      refine tl_e (p2 := 70) (i := 149) (n := 283) (t := 0) (Or.inl rfl) rfl rfl I4 rfl rfl (by omega) (by omega) e14 ?_
      refine te_istore (p2 := 72) (lv2 := [(4, .int y14), (3, .int z13), (2, .int y8), (0, .ref 164), (1, .int r)]) rfl rfl (by decide) rfl ?_
      refine te_aload_n (p2 := 73) rfl rfl rfl ?_
      refine tg_r (p2 := 76) (i := 148) (r := 165) rfl rfl I4 rfl rfl rfl ?_
      refine te_sipush (p2 := 79) (x := 280) rfl rfl (by decide) ?_
      refine te_iload_n (p2 := 80) rfl rfl rfl ?_
      refine ar_add (p2 := 81) rfl rfl (show Int32.toInt 280 = 280 from rfl) rfl (by omega) (by omega) (fun z17 e17 f17 => ?_)
      refine te_iload (p2 := 83) rfl rfl rfl ?_
      refine ts_i (p2 := 84) (i := 149) (n := 283) rfl rfl I4 rfl rfl rfl rfl (by omega) (by omega) (i32_lo _) (i32_hi _) (i32_ho _) rfl (fun h18 I18 u18 => ?_)
      have f18 := fr_st (F := F_X12_goesRail) 2 f4 u18 rfl (by omega) (by omega)
      refine te_aload_n (p2 := 85) rfl rfl rfl ?_
      refine tg_r (p2 := 88) (i := 148) (r := 165) rfl rfl I18 rfl rfl rfl ?_
      refine te_iload_n (p2 := 89) rfl rfl rfl ?_
      refine te_dup2 (p2 := 90) rfl rfl ⟨rfl, rfl⟩ ?_
      refine tl_i (p2 := 91) (i := 149) (n := 283) rfl rfl I18 rfl rfl rfl rfl (by omega) (by omega) (fun y19 a19 b19 g19 e19 => ?_)
      refine te_iload (p2 := 93) rfl rfl rfl ?_
      refine au_sub (p2 := 94) rfl rfl (fun z20 e20 => ?_)
      refine ts_i (p2 := 95) (i := 149) (n := 283) rfl rfl I18 rfl rfl rfl rfl (by omega) (by omega) (i32_lo _) (i32_hi _) (i32_ho _) rfl (fun h21 I21 u21 => ?_)
      have f21 := fr_st (F := F_X12_goesRail) 0 f18 u21 rfl (by omega) (by omega)
      refine te_aload_n (p2 := 96) rfl rfl rfl ?_
      refine te_aload_n (p2 := 97) rfl rfl rfl ?_
      refine tg_r (p2 := 100) (i := 148) (r := 180) rfl rfl I21 rfl rfl rfl ?_
      refine te_bipush (p2 := 102) (x := 12) rfl rfl (by decide) ?_
      refine te_iload_n (p2 := 103) rfl rfl rfl ?_
      refine ar_mul (p2 := 104) rfl rfl (show Int32.toInt 12 = 12 from rfl) rfl (by omega) (by omega) (fun z22 e22 f22 => ?_)
      refine te_aload_n (p2 := 105) rfl rfl rfl ?_
      refine tg_r (p2 := 108) (i := 148) (r := 181) rfl rfl I21 rfl rfl rfl ?_
      refine te_iload_n (p2 := 109) rfl rfl rfl ?_
      refine tl_e (p2 := 110) (i := 165) (n := 3) (t := 0) (Or.inl rfl) rfl rfl I21 rfl rfl (by omega) (by omega) ((u21.2 _ _ (Or.inl (by decide))).trans ((u18.2 _ _ (Or.inl (by decide))).trans ((u4.2 _ _ (Or.inl (by decide))).trans e1))) ?_
      refine ar_add (p2 := 111) rfl rfl rfl rfl (by omega) (by omega) (fun z24 e24 f24 => ?_)
      refine te_iconst (p2 := 112) (x := 1) rfl rfl (by decide) ?_
      refine ar_sub (p2 := 113) rfl rfl rfl (show Int32.toInt 1 = 1 from rfl) (by omega) (by omega) (fun z25 e25 f25 => ?_)
      refine tl_i (p2 := 114) (i := 164) (n := 36) rfl rfl I21 rfl rfl rfl rfl (by omega) (by omega) (fun y26 a26 b26 g26 e26 => ?_)
      refine te_iload (p2 := 116) rfl rfl rfl ?_
      refine tc_V (p2 := 119) (i := 148) rfl rfl rfl rfl I21 rfl rfl rfl (c_X12_comes (c := y26) (n := y14) I21 (by omega) (by omega)) (by decide) (fun v27 h27 hq27 => ?_)
      obtain ⟨I27, g27, w27, Q27⟩ := hq27
      subst w27
      have f27 := fr_tr (F1 := F_X12_comes) (F := F_X12_goesRail) f21 g27 (by decide)
      show EvP _ _ _ (119, [(4, .int y14), (3, .int z13), (2, .int y8), (0, .ref 164), (1, .int r)], [], h27) _
      exact te_vret rfl rfl ⟨I27, f27, rfl, (by (have e9 : y14 = mnI (60 * (ctM h).cr r.toInt.toNat / ((ctM h).wn r.toInt.toNat - 1)) ((absM h).ld y8.toInt.toNat) := (by rw [wn.1, wn.2.1, rv_of e1, rv_of e2, e10, e12, e13, show (absM h).ld y8.toInt.toNat = y14 from (aM_ld (by omega)).trans (rv_of ((u4.2 _ _ (Or.inr (by omega))).symm.trans e14))]; exact mnI_e (by omega))); exact raM (rr := r.toInt.toNat) (c := ctM h) u4 (by omega) (by omega) u18 (by omega) u21 (by omega) (rv_of e19) e20 (by rw [Q27, (show ctM h21 = ctM h from ctM_fr f21 rfl)]) e9 (by rw [wn.1, rv_of e1]; omega) (by rw [(show ((ctM h).wf r.toInt.toNat) = y8 from (by rw [(wn.2.2 (by rw [rv_of e1]; omega)).1, show 12 * r.toInt.toNat = z7.toInt.toNat by omega]; exact rv_of ((f4 _ _ rfl).symm.trans e8)))]) (by rw [(show ((ctM h).wl r.toInt.toNat) = y26 from (by rw [(wn.2.2 (by rw [rv_of e1]; omega)).2, rv_of e1, show 12 * r.toInt.toNat + (y1.toInt.toNat - 1) = z25.toInt.toNat by omega]; exact rv_of ((f21 _ _ rfl).symm.trans e26)))]))⟩
    · refine te_iload_n (p2 := 61) rfl rfl rfl ?_
      refine te_goto rfl ?_
      refine te_istore (p2 := 72) (lv2 := [(4, .int z13), (3, .int z13), (2, .int y8), (0, .ref 164), (1, .int r)]) rfl rfl (by decide) rfl ?_
      refine te_aload_n (p2 := 73) rfl rfl rfl ?_
      refine tg_r (p2 := 76) (i := 148) (r := 165) rfl rfl I4 rfl rfl rfl ?_
      refine te_sipush (p2 := 79) (x := 280) rfl rfl (by decide) ?_
      refine te_iload_n (p2 := 80) rfl rfl rfl ?_
      refine ar_add (p2 := 81) rfl rfl (show Int32.toInt 280 = 280 from rfl) rfl (by omega) (by omega) (fun z28 e28 f28 => ?_)
      refine te_iload (p2 := 83) rfl rfl rfl ?_
      refine ts_i (p2 := 84) (i := 149) (n := 283) rfl rfl I4 rfl rfl rfl rfl (by omega) (by omega) (i32_lo _) (i32_hi _) (i32_ho _) rfl (fun h29 I29 u29 => ?_)
      have f29 := fr_st (F := F_X12_goesRail) 2 f4 u29 rfl (by omega) (by omega)
      refine te_aload_n (p2 := 85) rfl rfl rfl ?_
      refine tg_r (p2 := 88) (i := 148) (r := 165) rfl rfl I29 rfl rfl rfl ?_
      refine te_iload_n (p2 := 89) rfl rfl rfl ?_
      refine te_dup2 (p2 := 90) rfl rfl ⟨rfl, rfl⟩ ?_
      refine tl_i (p2 := 91) (i := 149) (n := 283) rfl rfl I29 rfl rfl rfl rfl (by omega) (by omega) (fun y30 a30 b30 g30 e30 => ?_)
      refine te_iload (p2 := 93) rfl rfl rfl ?_
      refine au_sub (p2 := 94) rfl rfl (fun z31 e31 => ?_)
      refine ts_i (p2 := 95) (i := 149) (n := 283) rfl rfl I29 rfl rfl rfl rfl (by omega) (by omega) (i32_lo _) (i32_hi _) (i32_ho _) rfl (fun h32 I32 u32 => ?_)
      have f32 := fr_st (F := F_X12_goesRail) 0 f29 u32 rfl (by omega) (by omega)
      refine te_aload_n (p2 := 96) rfl rfl rfl ?_
      refine te_aload_n (p2 := 97) rfl rfl rfl ?_
      refine tg_r (p2 := 100) (i := 148) (r := 180) rfl rfl I32 rfl rfl rfl ?_
      refine te_bipush (p2 := 102) (x := 12) rfl rfl (by decide) ?_
      refine te_iload_n (p2 := 103) rfl rfl rfl ?_
      refine ar_mul (p2 := 104) rfl rfl (show Int32.toInt 12 = 12 from rfl) rfl (by omega) (by omega) (fun z33 e33 f33 => ?_)
      refine te_aload_n (p2 := 105) rfl rfl rfl ?_
      refine tg_r (p2 := 108) (i := 148) (r := 181) rfl rfl I32 rfl rfl rfl ?_
      refine te_iload_n (p2 := 109) rfl rfl rfl ?_
      refine tl_e (p2 := 110) (i := 165) (n := 3) (t := 0) (Or.inl rfl) rfl rfl I32 rfl rfl (by omega) (by omega) ((u32.2 _ _ (Or.inl (by decide))).trans ((u29.2 _ _ (Or.inl (by decide))).trans ((u4.2 _ _ (Or.inl (by decide))).trans e1))) ?_
      refine ar_add (p2 := 111) rfl rfl rfl rfl (by omega) (by omega) (fun z35 e35 f35 => ?_)
      refine te_iconst (p2 := 112) (x := 1) rfl rfl (by decide) ?_
      refine ar_sub (p2 := 113) rfl rfl rfl (show Int32.toInt 1 = 1 from rfl) (by omega) (by omega) (fun z36 e36 f36 => ?_)
      refine tl_i (p2 := 114) (i := 164) (n := 36) rfl rfl I32 rfl rfl rfl rfl (by omega) (by omega) (fun y37 a37 b37 g37 e37 => ?_)
      refine te_iload (p2 := 116) rfl rfl rfl ?_
      refine tc_V (p2 := 119) (i := 148) rfl rfl rfl rfl I32 rfl rfl rfl (c_X12_comes (c := y37) (n := z13) I32 (by omega) (by omega)) (by decide) (fun v38 h38 hq38 => ?_)
      obtain ⟨I38, g38, w38, Q38⟩ := hq38
      subst w38
      have f38 := fr_tr (F1 := F_X12_comes) (F := F_X12_goesRail) f32 g38 (by decide)
      show EvP _ _ _ (119, [(4, .int z13), (3, .int z13), (2, .int y8), (0, .ref 164), (1, .int r)], [], h38) _
      exact te_vret rfl rfl ⟨I38, f38, rfl, (by (have e9 : z13 = mnI (60 * (ctM h).cr r.toInt.toNat / ((ctM h).wn r.toInt.toNat - 1)) ((absM h).ld y8.toInt.toNat) := (by rw [wn.1, wn.2.1, rv_of e1, rv_of e2, e10, e12, e13, show (absM h).ld y8.toInt.toNat = y14 from (aM_ld (by omega)).trans (rv_of ((u4.2 _ _ (Or.inr (by omega))).symm.trans e14))]; exact mnI_e (by omega))); exact raM (rr := r.toInt.toNat) (c := ctM h) u4 (by omega) (by omega) u29 (by omega) u32 (by omega) (rv_of e30) e31 (by rw [Q38, (show ctM h32 = ctM h from ctM_fr f32 rfl)]) e9 (by rw [wn.1, rv_of e1]; omega) (by rw [(show ((ctM h).wf r.toInt.toNat) = y8 from (by rw [(wn.2.2 (by rw [rv_of e1]; omega)).1, show 12 * r.toInt.toNat = z7.toInt.toNat by omega]; exact rv_of ((f4 _ _ rfl).symm.trans e8)))]) (by rw [(show ((ctM h).wl r.toInt.toNat) = y37 from (by rw [(wn.2.2 (by rw [rv_of e1]; omega)).2, rv_of e1, show 12 * r.toInt.toNat + (y1.toInt.toNat - 1) = z36.toInt.toNat by omega]; exact rv_of ((f32 _ _ rfl).symm.trans e37)))]))⟩
  · exact te_vret rfl rfl ⟨I4, f4, rfl, (by rw [mu_ra (i := r.toInt.toNat) u4 (by omega) (by omega)]; unfold raF; rw [if_pos (by rw [wn.1, rv_of e1]; omega)])⟩
theorem fa_A {c : Ct} {A : Dy} {b : Int} {k : Nat} (hA : dyOK b A) (hb : b + 20 ≤ 2147483647) : dyOK (b + 20) (Dy.s_ld (Dy.s_up A (udt A.up k 0)) (udt A.ld (c.wt k).toInt.toNat (A.ld (c.wt k).toInt.toNat + 20))) := by
  have h2 := hA.1 (c.wt k).toInt.toNat
  have e := i32_addE (x := A.ld (c.wt k).toInt.toNat) (show Int32.toInt 20 = 20 from rfl) (by omega) (by omega)
  have hM := dy_mono (b2 := b + 20) hA (by omega)
  exact ⟨udt_B (P := fun x => 0 ≤ x.toInt ∧ x.toInt ≤ b + 20) hM.1 (by rw [e]; omega), hM.2.1, udt_B (P := fun x => x.toInt = 0 ∨ x.toInt = 1) hM.2.2.1 (Or.inl rfl), hM.2.2.2.1, hM.2.2.2.2⟩
theorem hiM_s {h h1 : im_H} {A : Dy} {c : Ct} {to z : Int32} {p k : Nat} (w : absM h = A) (u : up h h1 149 k (.int z)) (hk : k = 164 + p) (hp : p < 24) (hd : (rv h 149 (236 + p)).toInt = 0) (ha : atF c (absM h) p = to) (hz : rv h 149 (164 + p) + 3 = z) (h9 : ¬ 9 ≤ z.toInt) : absM h1 = hiF c to A p := by
  subst w
  rw [mu_ha (i := p) u hk hp hd]
  exact hiX_s (by rw [aM_de hp]; exact hd) ha (by rw [aM_hu hp hd]; exact hz) h9
theorem hiM_k {h h1 h2 h3 h4 : im_H} {A : Dy} {c : Ct} {to z : Int32} {p k j a a2 : Nat} {v v2 : Value} (w : absM h = A) (u : up h h1 149 k (.int z)) (hk : k = 164 + p) (hp : p < 24) (hd : (rv h 149 (236 + p)).toInt = 0) (ha : atF c (absM h) p = to) (hz : rv h 149 (164 + p) + 3 = z) (h9 : 9 ≤ z.toInt) (u2 : up h1 h2 148 a v) (u3 : up h2 h3 149 j (.int 1)) (hj : j = 236 + p) (u4 : up h3 h4 148 a2 v2) : absM h4 = hiF c to A p := by
  subst w
  rw [mu_148 u4, mu_de (i := p) u3 hj hp (by decide), mu_148 u2, mu_ha (i := p) u hk hp hd]
  exact hiX_k (by rw [aM_de hp]; exact hd) ha (by rw [aM_hu hp hd]; exact hz) h9
set_option maxRecDepth 20000 in
set_option maxHeartbeats 4000000 in
theorem d_X12_falls {w : Int32} {h : im_H} (hI : tI h) (p_w0 : 0 ≤ w.toInt) (p_w1 : w.toInt ≤ 15) (pr0 : ∃ b, dyOK b (absM h) ∧ b + 20 ≤ 2147483647) : CaP 7 152 [.ref 164, .int w] h (fun v h2 => tI h2 ∧ fr F_X12_falls h h2 ∧ v = none ∧ absM h2 = faF (ctM h) (absM h) w.toInt.toNat) := by
  refine cap_of (d := 6) (M := mX12_falls) rfl (Nat.le_of_ble_eq_true rfl) ?_
  show EvP im_K0 6 mX12_falls (0, [(0, .ref 164), (1, .int w)], [], h) _
  have f0 : fr F_X12_falls h h := fr_rf
  refine te_aload_n (p2 := 1) rfl rfl rfl ?_
  obtain ⟨v1, e1, y1, w1, a1, b1, _⟩ := hI.2.1 148 10 (.inl (0, 24, 9999999999)) rfl
  subst w1
  obtain ⟨b, ok, hb⟩ := pr0
  have okA : dyOK (b + 20) (Dy.s_ld (Dy.s_up (absM h) (udt (absM h).up w.toInt.toNat 0)) (udt (absM h).ld ((ctM h).wt w.toInt.toNat).toInt.toNat ((absM h).ld ((ctM h).wt w.toInt.toNat).toInt.toNat + 20))) := fa_A ok hb
  refine tg_r (p2 := 4) (i := 148) (r := 184) rfl rfl hI rfl rfl rfl ?_
  refine te_iload_n (p2 := 5) rfl rfl rfl ?_
  refine tl_i (p2 := 6) (i := 168) (n := 16) rfl rfl hI rfl rfl rfl rfl (by omega) (by omega) (fun y2 a2 b2 g2 e2 => ?_)
  refine te_istore_n (p2 := 7) (lv2 := [(2, .int y2), (0, .ref 164), (1, .int w)]) rfl rfl (by decide) rfl ?_
  refine te_aload_n (p2 := 8) rfl rfl rfl ?_
  refine tg_r (p2 := 11) (i := 148) (r := 165) rfl rfl hI rfl rfl rfl ?_
  refine te_bipush (p2 := 13) (x := 108) rfl rfl (by decide) ?_
  refine te_iload_n (p2 := 14) rfl rfl rfl ?_
  refine ar_add (p2 := 15) rfl rfl (show Int32.toInt 108 = 108 from rfl) rfl (by omega) (by omega) (fun z3 e3 f3 => ?_)
  refine te_iconst (p2 := 16) (x := 0) rfl rfl (by decide) ?_
  refine ts_i (p2 := 17) (i := 149) (n := 283) rfl rfl hI rfl rfl rfl rfl (by omega) (by omega) (i32_lo _) (i32_hi _) (i32_ho _) rfl (fun h4 I4 u4 => ?_)
  have f4 := fr_st (F := F_X12_falls) 2 f0 u4 rfl (by omega) (by omega)
  refine te_aload_n (p2 := 18) rfl rfl rfl ?_
  refine tg_r (p2 := 21) (i := 148) (r := 165) rfl rfl I4 rfl rfl rfl ?_
  refine te_iload_n (p2 := 22) rfl rfl rfl ?_
  refine te_dup2 (p2 := 23) rfl rfl ⟨rfl, rfl⟩ ?_
  refine tl_i (p2 := 24) (i := 149) (n := 283) rfl rfl I4 rfl rfl rfl rfl (by omega) (by omega) (fun y5 a5 b5 g5 e5 => ?_)
  refine te_bipush (p2 := 26) (x := 20) rfl rfl (by decide) ?_
  refine au_add (p2 := 27) rfl rfl (fun z6 e6 => ?_)
  refine ts_i (p2 := 28) (i := 149) (n := 283) rfl rfl I4 rfl rfl rfl rfl (by omega) (by omega) (i32_lo _) (i32_hi _) (i32_ho _) rfl (fun h7 I7 u7 => ?_)
  have f7 := fr_st (F := F_X12_falls) 1 f4 u7 rfl (by omega) (by omega)
  refine te_aload_n (p2 := 29) rfl rfl rfl ?_
  refine te_iconst (p2 := 30) (x := 0) rfl rfl (by decide) ?_
  refine tp_i (p2 := 33) (i := 148) rfl rfl I7 rfl rfl (by decide) rfl rfl rfl (i32_lo _) (i32_hi _) (i32_ho _) rfl (fun h8 I8 u8 => ?_)
  have f8 := fr_st (F := F_X12_falls) 0 f7 u8 rfl (by decide) (by decide)
  refine te_aload_n (p2 := 34) rfl rfl rfl ?_
  refine te_iconst (p2 := 35) (x := 0) rfl rfl (by decide) ?_
  refine tp_i (p2 := 38) (i := 148) rfl rfl I8 rfl rfl (by decide) rfl rfl rfl (i32_lo _) (i32_hi _) (i32_ho _) rfl (fun h9 I9 u9 => ?_)
  have f9 := fr_st (F := F_X12_falls) 0 f8 u9 rfl (by decide) (by decide)
  refine te_iconst (p2 := 39) (x := 0) rfl rfl (by decide) ?_
  refine te_istore_n (p2 := 40) (lv2 := [(3, .int 0), (2, .int y2), (0, .ref 164), (1, .int w)]) rfl rfl (by decide) rfl ?_
  have lp10 : ∀ (n10 : Nat) (v10_3 : Int32) (h10 : im_H), tI h10 → fr F_X12_falls h h10 → 0 ≤ v10_3.toInt → v10_3.toInt ≤ 24 → v10_3.toInt ≤ y1.toInt → (absM h10 = hisF (ctM h) ((ctM h).wt w.toInt.toNat) (Dy.s_ld (Dy.s_up (absM h) (udt (absM h).up w.toInt.toNat 0)) (udt (absM h).ld ((ctM h).wt w.toInt.toNat).toInt.toNat ((absM h).ld ((ctM h).wt w.toInt.toNat).toInt.toNat + 20))) v10_3.toInt.toNat) → 24 - v10_3.toInt < (n10 : Int) → EvP im_K0 6 mX12_falls (40, [(0, .ref 164), (1, .int w), (2, .int y2), (3, .int v10_3)], [], h10) (fun v h2 => tI h2 ∧ fr F_X12_falls h h2 ∧ v = none ∧ absM h2 = faF (ctM h) (absM h) w.toInt.toNat) := by
    intro n10
    induction n10 with
    | zero => intro v10_3 h10 I10 f10 a10_3 b10_3 l10_0 w10_0 m10; exfalso; omega
    | succ n10 ih10 =>
      intro v10_3 h10 I10 f10 a10_3 b10_3 l10_0 w10_0 m10
      refine te_iload_n (p2 := 41) rfl rfl rfl ?_
      refine te_aload_n (p2 := 42) rfl rfl rfl ?_
      refine tg_e (p2 := 45) (i := 148) (v := .int y1) rfl rfl I10 rfl rfl ((f10 _ _ rfl).trans e1) ?_
      refine tb_ge (p2 := 48) rfl rfl rfl rfl (fun c11 => ?_) (fun c11 => ?_)
      · exact te_vret rfl rfl ⟨I10, f10, rfl, (by rw [w10_0]; unfold faF; rw [show (ctM h).np = y1 from rv_of e1, show v10_3.toInt.toNat = y1.toInt.toNat by omega])⟩
      · refine te_aload_n (p2 := 49) rfl rfl rfl ?_
        refine tg_r (p2 := 52) (i := 148) (r := 165) rfl rfl I10 rfl rfl rfl ?_
        refine te_sipush (p2 := 55) (x := 236) rfl rfl (by decide) ?_
        refine te_iload_n (p2 := 56) rfl rfl rfl ?_
        refine ar_add (p2 := 57) rfl rfl (show Int32.toInt 236 = 236 from rfl) rfl (by omega) (by omega) (fun z12 e12 f12 => ?_)
        refine tl_i (p2 := 58) (i := 149) (n := 283) rfl rfl I10 rfl rfl rfl rfl (by omega) (by omega) (fun y13 a13 b13 g13 e13 => ?_)
        refine tz_ne (p2 := 61) rfl rfl rfl (fun c14 => ?_) (fun c14 => ?_)
        · refine ar_inc (p2 := 133) (x := v10_3) rfl rfl (by decide) rfl (by decide) rfl (by omega) (by omega) (fun z15 e15 f15 => ?_)
          show EvP _ _ _ (133, [(3, .int z15), (0, .ref 164), (1, .int w), (2, .int y2)], [], h10) _
          refine te_goto rfl ?_
          refine te_lv [(0, .ref 164), (1, .int w), (2, .int y2), (3, .int z15)] rfl rfl ⟨rfl, rfl, rfl, rfl, trivial⟩ ?_
          exact ih10 z15 h10 I10 f10 (by omega) (by omega) (by omega) (by rw [show z15.toInt.toNat = v10_3.toInt.toNat + 1 by omega]; exact (show absM h10 = hiF (ctM h) ((ctM h).wt w.toInt.toNat) (hisF (ctM h) ((ctM h).wt w.toInt.toNat) (Dy.s_ld (Dy.s_up (absM h) (udt (absM h).up w.toInt.toNat 0)) (udt (absM h).ld ((ctM h).wt w.toInt.toNat).toInt.toNat ((absM h).ld ((ctM h).wt w.toInt.toNat).toInt.toNat + 20))) v10_3.toInt.toNat) v10_3.toInt.toNat from (w10_0.trans (hiX_d (by rw [← w10_0, aM_de (by omega), (show rv h10 149 (236 + v10_3.toInt.toNat) = y13 from (by rw [show 236 + v10_3.toInt.toNat = z12.toInt.toNat by omega]; exact rv_of e13))]; omega))))) (by omega)
        · refine te_aload_n (p2 := 62) rfl rfl rfl ?_
          refine te_iload_n (p2 := 63) rfl rfl rfl ?_
          refine cV_pI (p2 := 66) (i := 148) rfl rfl rfl rfl I10 rfl rfl rfl (c_X12_isAt (k := v10_3) I10 (by omega) (by omega)) (by decide) (fun y16 r16 => ?_)
          refine te_iload_n (p2 := 67) rfl rfl rfl ?_
          refine tb_ne (p2 := 70) rfl rfl rfl rfl (fun c17 => ?_) (fun c17 => ?_)
          · refine ar_inc (p2 := 133) (x := v10_3) rfl rfl (by decide) rfl (by decide) rfl (by omega) (by omega) (fun z18 e18 f18 => ?_)
            show EvP _ _ _ (133, [(3, .int z18), (0, .ref 164), (1, .int w), (2, .int y2)], [], h10) _
            refine te_goto rfl ?_
            refine te_lv [(0, .ref 164), (1, .int w), (2, .int y2), (3, .int z18)] rfl rfl ⟨rfl, rfl, rfl, rfl, trivial⟩ ?_
            exact ih10 z18 h10 I10 f10 (by omega) (by omega) (by omega) (by rw [show z18.toInt.toNat = v10_3.toInt.toNat + 1 by omega]; exact (show absM h10 = hiF (ctM h) ((ctM h).wt w.toInt.toNat) (hisF (ctM h) ((ctM h).wt w.toInt.toNat) (Dy.s_ld (Dy.s_up (absM h) (udt (absM h).up w.toInt.toNat 0)) (udt (absM h).ld ((ctM h).wt w.toInt.toNat).toInt.toNat ((absM h).ld ((ctM h).wt w.toInt.toNat).toInt.toNat + 20))) v10_3.toInt.toNat) v10_3.toInt.toNat from (w10_0.trans (hiX_n (by rw [← w10_0, (show atF (ctM h) (absM h10) v10_3.toInt.toNat = y16 from (by rw [← (show ctM h10 = ctM h from ctM_fr f10 rfl)]; exact (r16 (b + 20) (by rw [w10_0]; exact his_B okA _)).symm)), (show (ctM h).wt w.toInt.toNat = y2 from (gd_at (by omega)).trans (rv_of e2))]; exact fun q => absurd (congrArg Int32.toInt q) (by omega)))))) (by omega)
          · refine te_aload_n (p2 := 71) rfl rfl rfl ?_
            refine tg_r (p2 := 74) (i := 148) (r := 165) rfl rfl I10 rfl rfl rfl ?_
            refine te_sipush (p2 := 77) (x := 164) rfl rfl (by decide) ?_
            refine te_iload_n (p2 := 78) rfl rfl rfl ?_
            refine ar_add (p2 := 79) rfl rfl (show Int32.toInt 164 = 164 from rfl) rfl (by omega) (by omega) (fun z19 e19 f19 => ?_)
            refine te_dup2 (p2 := 80) rfl rfl ⟨rfl, rfl⟩ ?_
            refine tl_i (p2 := 81) (i := 149) (n := 283) rfl rfl I10 rfl rfl rfl rfl (by omega) (by omega) (fun y20 a20 b20 g20 e20 => ?_)
            refine te_iconst (p2 := 82) (x := 3) rfl rfl (by decide) ?_
            refine au_add (p2 := 83) rfl rfl (fun z21 e21 => ?_)
            refine ts_i (p2 := 84) (i := 149) (n := 283) rfl rfl I10 rfl rfl rfl rfl (by omega) (by omega) (i32_lo _) (i32_hi _) (i32_ho _) rfl (fun h22 I22 u22 => ?_)
            have f22 := fr_st (F := F_X12_falls) 3 f10 u22 rfl (by omega) (by omega)
            refine te_aload_n (p2 := 85) rfl rfl rfl ?_
            refine te_dup (p2 := 86) rfl rfl rfl ?_
            refine tg_i (p2 := 89) (i := 148) rfl rfl I22 rfl rfl rfl (fun y23 a23 b23 e23 => ?_)
            refine te_iconst (p2 := 90) (x := 3) rfl rfl (by decide) ?_
            refine au_add (p2 := 91) rfl rfl (fun z24 e24 => ?_)
            refine tp_i (p2 := 94) (i := 148) rfl rfl I22 rfl rfl (by decide) rfl rfl rfl (i32_lo _) (i32_hi _) (i32_ho _) rfl (fun h25 I25 u25 => ?_)
            have f25 := fr_st (F := F_X12_falls) 0 f22 u25 rfl (by decide) (by decide)
            refine te_aload_n (p2 := 95) rfl rfl rfl ?_
            refine tg_r (p2 := 98) (i := 148) (r := 165) rfl rfl I25 rfl rfl rfl ?_
            refine te_sipush (p2 := 101) (x := 164) rfl rfl (by decide) ?_
            refine te_iload_n (p2 := 102) rfl rfl rfl ?_
            refine ar_add (p2 := 103) rfl rfl (show Int32.toInt 164 = 164 from rfl) rfl (by omega) (by omega) (fun z26 e26 f26 => ?_)
            refine tl_i (p2 := 104) (i := 149) (n := 283) rfl rfl I25 rfl rfl rfl rfl (by omega) (by omega) (fun y27 a27 b27 g27 e27 => ?_)
            refine te_bipush (p2 := 106) (x := 9) rfl rfl (by decide) ?_
            refine tb_lt (p2 := 109) rfl rfl rfl (show Int32.toInt 9 = 9 from rfl) (fun c28 => ?_) (fun c28 => ?_)
            · refine ar_inc (p2 := 133) (x := v10_3) rfl rfl (by decide) rfl (by decide) rfl (by omega) (by omega) (fun z29 e29 f29 => ?_)
              show EvP _ _ _ (133, [(3, .int z29), (0, .ref 164), (1, .int w), (2, .int y2)], [], h25) _
              refine te_goto rfl ?_
              refine te_lv [(0, .ref 164), (1, .int w), (2, .int y2), (3, .int z29)] rfl rfl ⟨rfl, rfl, rfl, rfl, trivial⟩ ?_
              exact ih10 z29 h25 I25 f25 (by omega) (by omega) (by omega) (by rw [show z29.toInt.toNat = v10_3.toInt.toNat + 1 by omega]; exact (show absM h25 = hiF (ctM h) ((ctM h).wt w.toInt.toNat) (hisF (ctM h) ((ctM h).wt w.toInt.toNat) (Dy.s_ld (Dy.s_up (absM h) (udt (absM h).up w.toInt.toNat 0)) (udt (absM h).ld ((ctM h).wt w.toInt.toNat).toInt.toNat ((absM h).ld ((ctM h).wt w.toInt.toNat).toInt.toNat + 20))) v10_3.toInt.toNat) v10_3.toInt.toNat from (by rw [mu_148 u25]; exact hiM_s w10_0 u22 (by omega) (by omega) (by rw [(show rv h10 149 (236 + v10_3.toInt.toNat) = y13 from (by rw [show 236 + v10_3.toInt.toNat = z12.toInt.toNat by omega]; exact rv_of e13))]; omega) (by rw [(show atF (ctM h) (absM h10) v10_3.toInt.toNat = y16 from (by rw [← (show ctM h10 = ctM h from ctM_fr f10 rfl)]; exact (r16 (b + 20) (by rw [w10_0]; exact his_B okA _)).symm)), (show (ctM h).wt w.toInt.toNat = y2 from (gd_at (by omega)).trans (rv_of e2))]; exact i32_ext (by omega)) (by rw [show 164 + v10_3.toInt.toNat = z19.toInt.toNat by omega, rv_of e20]; exact e21) (by (have e9 := (show y27.toInt = z21.toInt from congrArg Int32.toInt (int_inj e27 (by rw [show z26.toInt.toNat = z19.toInt.toNat by omega]; exact (u25.2 _ _ (Or.inl (by decide))).trans u22.1)))); omega)))) (by omega)
            · refine te_aload_n (p2 := 110) rfl rfl rfl ?_
              refine tg_r (p2 := 113) (i := 148) (r := 165) rfl rfl I25 rfl rfl rfl ?_
              refine te_sipush (p2 := 116) (x := 236) rfl rfl (by decide) ?_
              refine te_iload_n (p2 := 117) rfl rfl rfl ?_
              refine ar_add (p2 := 118) rfl rfl (show Int32.toInt 236 = 236 from rfl) rfl (by omega) (by omega) (fun z30 e30 f30 => ?_)
              refine te_iconst (p2 := 119) (x := 1) rfl rfl (by decide) ?_
              refine ts_i (p2 := 120) (i := 149) (n := 283) rfl rfl I25 rfl rfl rfl rfl (by omega) (by omega) (i32_lo _) (i32_hi _) (i32_ho _) rfl (fun h31 I31 u31 => ?_)
              have f31 := fr_st (F := F_X12_falls) 4 f25 u31 rfl (by omega) (by omega)
              refine te_aload_n (p2 := 121) rfl rfl rfl ?_
              refine te_dup (p2 := 122) rfl rfl rfl ?_
              refine tg_i (p2 := 125) (i := 148) rfl rfl I31 rfl rfl rfl (fun y32 a32 b32 e32 => ?_)
              refine te_iconst (p2 := 126) (x := 1) rfl rfl (by decide) ?_
              refine au_add (p2 := 127) rfl rfl (fun z33 e33 => ?_)
              refine tp_i (p2 := 130) (i := 148) rfl rfl I31 rfl rfl (by decide) rfl rfl rfl (i32_lo _) (i32_hi _) (i32_ho _) rfl (fun h34 I34 u34 => ?_)
              have f34 := fr_st (F := F_X12_falls) 0 f31 u34 rfl (by decide) (by decide)
              refine ar_inc (p2 := 133) (x := v10_3) rfl rfl (by decide) rfl (by decide) rfl (by omega) (by omega) (fun z35 e35 f35 => ?_)
              show EvP _ _ _ (133, [(3, .int z35), (0, .ref 164), (1, .int w), (2, .int y2)], [], h34) _
              refine te_goto rfl ?_
              refine te_lv [(0, .ref 164), (1, .int w), (2, .int y2), (3, .int z35)] rfl rfl ⟨rfl, rfl, rfl, rfl, trivial⟩ ?_
              exact ih10 z35 h34 I34 f34 (by omega) (by omega) (by omega) (by rw [show z35.toInt.toNat = v10_3.toInt.toNat + 1 by omega]; exact (show absM h34 = hiF (ctM h) ((ctM h).wt w.toInt.toNat) (hisF (ctM h) ((ctM h).wt w.toInt.toNat) (Dy.s_ld (Dy.s_up (absM h) (udt (absM h).up w.toInt.toNat 0)) (udt (absM h).ld ((ctM h).wt w.toInt.toNat).toInt.toNat ((absM h).ld ((ctM h).wt w.toInt.toNat).toInt.toNat + 20))) v10_3.toInt.toNat) v10_3.toInt.toNat from (hiM_k w10_0 u22 (by omega) (by omega) (by rw [(show rv h10 149 (236 + v10_3.toInt.toNat) = y13 from (by rw [show 236 + v10_3.toInt.toNat = z12.toInt.toNat by omega]; exact rv_of e13))]; omega) (by rw [(show atF (ctM h) (absM h10) v10_3.toInt.toNat = y16 from (by rw [← (show ctM h10 = ctM h from ctM_fr f10 rfl)]; exact (r16 (b + 20) (by rw [w10_0]; exact his_B okA _)).symm)), (show (ctM h).wt w.toInt.toNat = y2 from (gd_at (by omega)).trans (rv_of e2))]; exact i32_ext (by omega)) (by rw [show 164 + v10_3.toInt.toNat = z19.toInt.toNat by omega, rv_of e20]; exact e21) (by (have e9 := (show y27.toInt = z21.toInt from congrArg Int32.toInt (int_inj e27 (by rw [show z26.toInt.toNat = z19.toInt.toNat by omega]; exact (u25.2 _ _ (Or.inl (by decide))).trans u22.1)))); omega) u25 u31 (by omega) u34))) (by omega)
  refine te_lv [(0, .ref 164), (1, .int w), (2, .int y2), (3, .int 0)] rfl rfl ⟨rfl, rfl, rfl, rfl, trivial⟩ ?_
  exact lp10 25 0 h9 I9 f9 (by decide) (by decide) (by have cc0 := (show Int32.toInt 0 = 0 from rfl); omega) (by rw [(show (ctM h).wt w.toInt.toNat = y2 from (gd_at (by omega)).trans (rv_of e2)), mu_148 u9, mu_148 u8, mu_ld (i := y2.toInt.toNat) u7 (by omega) (by omega), mu_up (i := w.toInt.toNat) u4 (by omega) (by omega), ← e6, show y5 = (absM h).ld y2.toInt.toNat from ((aM_ld (by omega)).trans (rv_of ((u4.2 _ _ (Or.inr (by omega))).symm.trans e5))).symm]; rfl) (by have cc0 := (show Int32.toInt 0 = 0 from rfl); omega)
theorem da_it {c : Ct} {A : Dy} {n m : Nat} : (itF heF (dyW c A n) m).da = A.da := (itW_da (f := heF) (fun A k => he_da (A := A) (p := k)) m).trans dyW_da
theorem dyH_s {A : Dy} {n : Nat} : heF (itF heF A n) n = itF heF A (n + 1) := rfl
theorem dyH_0 {A : Dy} {n : Nat} (e : n = 0) : A = itF heF A n := by
  subst e
  rfl
theorem st_B {A : Dy} {b : Int} {k : Nat} {v : Int32} (h : dyOK b A) : dyOK b (Dy.s_st A (udt A.st k v)) := h
theorem sub0 {x z : Int32} (h : x - 0 = z) : x = z := by
  rw [Int32.sub_zero] at h
  exact h
theorem heM_d {h h1 : im_H} {A : Dy} {p k : Nat} {z : Int32} (w : absM h = A) (u : up h h1 149 k (.int z)) (hk : k = 164 + p) (hp : p < 24) (hd : (rv h 149 (236 + p)).toInt ≠ 0) : absM h1 = heF A p := by
  subst w
  rw [mu_hb (i := p) u hk hp hd]
  exact heX_n (fun q => hd (by rw [← aM_de hp]; exact q.1))
theorem heM_z {h h1 : im_H} {A : Dy} {p k : Nat} {z : Int32} (w : absM h = A) (u : up h h1 149 k (.int z)) (hk : k = 164 + p) (hp : p < 24) (hd : (rv h 149 (236 + p)).toInt = 0) (hz : rv h 149 (164 + p) = z) (h0 : ¬ 0 < z.toInt) : absM h1 = heF A p := by
  subst w
  rw [mu_ha (i := p) u hk hp hd]
  exact he_z (by rw [aM_hu hp hd, hz]; exact h0) (by rw [aM_hu hp hd]; exact hz)
theorem heM_y {h h1 : im_H} {A : Dy} {p k : Nat} {z : Int32} (w : absM h = A) (u : up h h1 149 k (.int z)) (hk : k = 164 + p) (hp : p < 24) (hd : (rv h 149 (236 + p)).toInt = 0) (h0 : 0 < (rv h 149 (164 + p)).toInt) (hz : rv h 149 (164 + p) - 1 = z) : absM h1 = heF A p := by
  subst w
  rw [mu_ha (i := p) u hk hp hd]
  exact heX_y (by rw [aM_de hp]; exact hd) (by rw [aM_hu hp hd]; exact h0) (by rw [aM_hu hp hd]; exact hz)
set_option maxRecDepth 20000 in
set_option maxHeartbeats 4000000 in
theorem d_X12_goes  {h : im_H} (hI : tI h) (pr0 : tabM h) (pr1 : ctOK (ctM h)) (pr2 : ∃ b, dyOK b (absM h) ∧ b + 8000 ≤ 2147483647) : CaP 8 154 [.ref 164] h (fun v h2 => tI h2 ∧ fr F_X12_goes h h2 ∧ v = none ∧ absM h2 = dyF (ctM h) (absM h)) := by
  refine cap_of (d := 7) (M := mX12_goes) rfl (Nat.le_of_ble_eq_true rfl) ?_
  show EvP im_K0 7 mX12_goes (0, [(0, .ref 164)], [], h) _
  have f0 : fr F_X12_goes h h := fr_rf
  refine te_iconst (p2 := 1) (x := 0) rfl rfl (by decide) ?_
  obtain ⟨v1, e1, y1, w1, a1, b1, _⟩ := hI.2.1 148 21 (.inl (0, 16, 9999999999)) rfl
  subst w1
  obtain ⟨v2, e2, y2, w2, a2, b2, _⟩ := hI.2.1 148 10 (.inl (0, 24, 9999999999)) rfl
  subst w2
  obtain ⟨b, ok, hb⟩ := pr2
  refine te_istore_n (p2 := 2) (lv2 := [(1, .int 0), (0, .ref 164)]) rfl rfl (by decide) rfl ?_
  have lp3 : ∀ (n3 : Nat) (v3_1 : Int32) (h3 : im_H), tI h3 → fr F_X12_goes h h3 → 0 ≤ v3_1.toInt → v3_1.toInt ≤ 4 → (absM h3 = dyR (ctM h) (absM h) v3_1.toInt.toNat) → 4 - v3_1.toInt < (n3 : Int) → EvP im_K0 7 mX12_goes (2, [(0, .ref 164), (1, .int v3_1)], [], h3) (fun v h2 => tI h2 ∧ fr F_X12_goes h h2 ∧ v = none ∧ absM h2 = dyF (ctM h) (absM h)) := by
    intro n3
    induction n3 with
    | zero => intro v3_1 h3 I3 f3 a3_1 b3_1 w3_0 m3; exfalso; omega
    | succ n3 ih3 =>
      intro v3_1 h3 I3 f3 a3_1 b3_1 w3_0 m3
      refine te_iload_n (p2 := 3) rfl rfl rfl ?_
      refine te_iconst (p2 := 4) (x := 4) rfl rfl (by decide) ?_
      refine tb_ge (p2 := 7) rfl rfl rfl (show Int32.toInt 4 = 4 from rfl) (fun c4 => ?_) (fun c4 => ?_)
      · refine te_iconst (p2 := 19) (x := 0) rfl rfl (by decide) ?_
        refine te_istore_n (p2 := 20) (lv2 := [(1, .int 0), (0, .ref 164)]) rfl rfl (by decide) rfl ?_
        have lp5 : ∀ (n5 : Nat) (v5_1 : Int32) (h5 : im_H), tI h5 → fr F_X12_goes h h5 → 0 ≤ v5_1.toInt → v5_1.toInt ≤ 3 → (absM h5 = dyA (ctM h) (absM h) v5_1.toInt.toNat) → 3 - v5_1.toInt < (n5 : Int) → EvP im_K0 7 mX12_goes (20, [(0, .ref 164), (1, .int v5_1)], [], h5) (fun v h2 => tI h2 ∧ fr F_X12_goes h h2 ∧ v = none ∧ absM h2 = dyF (ctM h) (absM h)) := by
          intro n5
          induction n5 with
          | zero => intro v5_1 h5 I5 f5 a5_1 b5_1 w5_0 m5; exfalso; omega
          | succ n5 ih5 =>
            intro v5_1 h5 I5 f5 a5_1 b5_1 w5_0 m5
            refine te_iload_n (p2 := 21) rfl rfl rfl ?_
            refine te_iconst (p2 := 22) (x := 3) rfl rfl (by decide) ?_
            refine tb_ge (p2 := 25) rfl rfl rfl (show Int32.toInt 3 = 3 from rfl) (fun c6 => ?_) (fun c6 => ?_)
            · refine te_iconst (p2 := 37) (x := 0) rfl rfl (by decide) ?_
              refine te_istore_n (p2 := 38) (lv2 := [(1, .int 0), (0, .ref 164)]) rfl rfl (by decide) rfl ?_
              have lp7 : ∀ (n7 : Nat) (v7_1 : Int32) (h7 : im_H), tI h7 → fr F_X12_goes h h7 → 0 ≤ v7_1.toInt → v7_1.toInt ≤ 16 → v7_1.toInt ≤ y1.toInt → (absM h7 = dyW (ctM h) (absM h) v7_1.toInt.toNat) → 16 - v7_1.toInt < (n7 : Int) → EvP im_K0 7 mX12_goes (38, [(0, .ref 164), (1, .int v7_1)], [], h7) (fun v h2 => tI h2 ∧ fr F_X12_goes h h2 ∧ v = none ∧ absM h2 = dyF (ctM h) (absM h)) := by
                intro n7
                induction n7 with
                | zero => intro v7_1 h7 I7 f7 a7_1 b7_1 l7_0 w7_0 m7; exfalso; omega
                | succ n7 ih7 =>
                  intro v7_1 h7 I7 f7 a7_1 b7_1 l7_0 w7_0 m7
                  refine te_iload_n (p2 := 39) rfl rfl rfl ?_
                  refine te_aload_n (p2 := 40) rfl rfl rfl ?_
                  refine tg_e (p2 := 43) (i := 148) (v := .int y1) rfl rfl I7 rfl rfl ((f7 _ _ rfl).trans e1) ?_
                  refine tb_ge (p2 := 46) rfl rfl rfl rfl (fun c8 => ?_) (fun c8 => ?_)
                  · refine te_iconst (p2 := 79) (x := 0) rfl rfl (by decide) ?_
                    refine te_istore_n (p2 := 80) (lv2 := [(1, .int 0), (0, .ref 164)]) rfl rfl (by decide) rfl ?_
                    have lp9 : ∀ (n9 : Nat) (v9_1 : Int32) (h9 : im_H), tI h9 → fr F_X12_goes h h9 → 0 ≤ v9_1.toInt → v9_1.toInt ≤ 24 → (absM h9 = dyW (ctM h) (absM h) y1.toInt.toNat) → 24 - v9_1.toInt < (n9 : Int) → EvP im_K0 7 mX12_goes (80, [(0, .ref 164), (1, .int v9_1)], [], h9) (fun v h2 => tI h2 ∧ fr F_X12_goes h h2 ∧ v = none ∧ absM h2 = dyF (ctM h) (absM h)) := by
                      intro n9
                      induction n9 with
                      | zero => intro v9_1 h9 I9 f9 a9_1 b9_1 w9_0 m9; exfalso; omega
                      | succ n9 ih9 =>
                        intro v9_1 h9 I9 f9 a9_1 b9_1 w9_0 m9
                        refine te_iload_n (p2 := 81) rfl rfl rfl ?_
                        refine te_aload_n (p2 := 82) rfl rfl rfl ?_
                        refine tg_e (p2 := 85) (i := 148) (v := .int y2) rfl rfl I9 rfl rfl ((f9 _ _ rfl).trans e2) ?_
                        refine tb_ge (p2 := 88) rfl rfl rfl rfl (fun c10 => ?_) (fun c10 => ?_)
                        · refine te_iconst (p2 := 140) (x := 0) rfl rfl (by decide) ?_
                          refine te_istore_n (p2 := 141) (lv2 := [(1, .int 0), (0, .ref 164)]) rfl rfl (by decide) rfl ?_
                          have lp11 : ∀ (n11 : Nat) (v11_1 : Int32) (h11 : im_H), tI h11 → fr F_X12_goes h h11 → 0 ≤ v11_1.toInt → v11_1.toInt ≤ 24 → v11_1.toInt ≤ y2.toInt → (absM h11 = itF heF (dyW (ctM h) (absM h) y1.toInt.toNat) v11_1.toInt.toNat) → (((absM h).da - (absM h).da / 7 * 7).toInt ≠ 6 → v11_1.toInt.toNat = 0) → 24 - v11_1.toInt < (n11 : Int) → EvP im_K0 7 mX12_goes (141, [(0, .ref 164), (1, .int v11_1)], [], h11) (fun v h2 => tI h2 ∧ fr F_X12_goes h h2 ∧ v = none ∧ absM h2 = dyF (ctM h) (absM h)) := by
                            intro n11
                            induction n11 with
                            | zero => intro v11_1 h11 I11 f11 a11_1 b11_1 l11_0 w11_0 w11_1 m11; exfalso; omega
                            | succ n11 ih11 =>
                              intro v11_1 h11 I11 f11 a11_1 b11_1 l11_0 w11_0 w11_1 m11
                              refine te_iload_n (p2 := 142) rfl rfl rfl ?_
                              refine te_aload_n (p2 := 143) rfl rfl rfl ?_
                              refine tg_e (p2 := 146) (i := 148) (v := .int y2) rfl rfl I11 rfl rfl ((f11 _ _ rfl).trans e2) ?_
                              refine tb_ge (p2 := 149) rfl rfl rfl rfl (fun c12 => ?_) (fun c12 => ?_)
                              · refine te_aload_n (p2 := 215) rfl rfl rfl ?_
                                refine tg_r (p2 := 218) (i := 148) (r := 165) rfl rfl I11 rfl rfl rfl ?_
                                refine te_bipush (p2 := 220) (x := 105) rfl rfl (by decide) ?_
                                refine te_dup2 (p2 := 221) rfl rfl ⟨rfl, rfl⟩ ?_
                                refine tl_i (p2 := 222) (i := 149) (n := 283) rfl rfl I11 rfl rfl rfl rfl (by decide) (by decide) (fun y13 a13 b13 g13 e13 => ?_)
                                refine te_iconst (p2 := 223) (x := 1) rfl rfl (by decide) ?_
                                refine au_add (p2 := 224) rfl rfl (fun z14 e14 => ?_)
                                refine ts_i (p2 := 225) (i := 149) (n := 283) rfl rfl I11 rfl rfl rfl rfl (by decide) (by decide) (i32_lo _) (i32_hi _) (i32_ho _) rfl (fun h15 I15 u15 => ?_)
                                have f15 := fr_st (F := F_X12_goes) 1 f11 u15 rfl (by decide) (by decide)
                                exact te_vret rfl rfl ⟨I15, f15, rfl, (by (by_cases hr : ((absM h).da - (absM h).da / 7 * 7).toInt = 6); (· rw [mu_da u15]; exact dy_y (show (ctM h).nw.toInt.toNat = y1.toInt.toNat from (by rw [show (ctM h).nw = y1 from rv_of e1])) (by rw [w11_0, show (ctM h).np = y2 from rv_of e2, show v11_1.toInt.toNat = y2.toInt.toNat by omega]) rfl hr (by rw [show (absM h11).da = y13 from rv_of (k := 105) e13]; exact e14)); (· exact (by rw [mu_da u15]; exact dy_n (show (ctM h).nw.toInt.toNat = y1.toInt.toNat from (by rw [show (ctM h).nw = y1 from rv_of e1])) (by rw [w11_0, w11_1 hr]; rfl) rfl hr (by rw [show (absM h11).da = y13 from rv_of (k := 105) e13]; exact e14))))⟩
                              · refine te_aload_n (p2 := 150) rfl rfl rfl ?_
                                refine tg_r (p2 := 153) (i := 148) (r := 165) rfl rfl I11 rfl rfl rfl ?_
                                refine te_bipush (p2 := 155) (x := 105) rfl rfl (by decide) ?_
                                refine tl_i (p2 := 156) (i := 149) (n := 283) rfl rfl I11 rfl rfl rfl rfl (by decide) (by decide) (fun y16 a16 b16 g16 e16 => ?_)
                                refine te_bipush (p2 := 158) (x := 7) rfl rfl (by decide) ?_
                                refine au_rem (p2 := 159) rfl rfl (show Int32.toInt 7 = 7 from rfl) (by decide) (fun z17 e17 => ?_)
                                refine te_bipush (p2 := 161) (x := 6) rfl rfl (by decide) ?_
                                refine tb_ne (p2 := 164) rfl rfl rfl (show Int32.toInt 6 = 6 from rfl) (fun c18 => ?_) (fun c18 => ?_)
                                · refine te_aload_n (p2 := 215) rfl rfl rfl ?_
                                  refine tg_r (p2 := 218) (i := 148) (r := 165) rfl rfl I11 rfl rfl rfl ?_
                                  refine te_bipush (p2 := 220) (x := 105) rfl rfl (by decide) ?_
                                  refine te_dup2 (p2 := 221) rfl rfl ⟨rfl, rfl⟩ ?_
                                  refine tl_e (p2 := 222) (i := 149) (n := 283) (t := 0) (Or.inl rfl) rfl rfl I11 rfl rfl (by decide) (by decide) e16 ?_
                                  refine te_iconst (p2 := 223) (x := 1) rfl rfl (by decide) ?_
                                  refine au_add (p2 := 224) rfl rfl (fun z20 e20 => ?_)
                                  refine ts_i (p2 := 225) (i := 149) (n := 283) rfl rfl I11 rfl rfl rfl rfl (by decide) (by decide) (i32_lo _) (i32_hi _) (i32_ho _) rfl (fun h21 I21 u21 => ?_)
                                  have f21 := fr_st (F := F_X12_goes) 1 f11 u21 rfl (by decide) (by decide)
                                  exact te_vret rfl rfl ⟨I21, f21, rfl, (by rw [mu_da u21]; exact dy_n (show (ctM h).nw.toInt.toNat = y1.toInt.toNat from (by rw [show (ctM h).nw = y1 from rv_of e1])) (by rw [w11_0, w11_1 (by rw [(show (absM h).da = y16 from (da_it (n := y1.toInt.toNat) (m := v11_1.toInt.toNat)).symm.trans ((congrArg Dy.da w11_0).symm.trans (rv_of (k := 105) e16))), e17]; omega)]; rfl) rfl (by rw [(show (absM h).da = y16 from (da_it (n := y1.toInt.toNat) (m := v11_1.toInt.toNat)).symm.trans ((congrArg Dy.da w11_0).symm.trans (rv_of (k := 105) e16))), e17]; omega) (by rw [show (absM h11).da = y16 from rv_of (k := 105) e16]; exact e20))⟩
                                · refine te_aload_n (p2 := 165) rfl rfl rfl ?_
                                  refine tg_r (p2 := 168) (i := 148) (r := 165) rfl rfl I11 rfl rfl rfl ?_
                                  refine te_sipush (p2 := 171) (x := 164) rfl rfl (by decide) ?_
                                  refine te_iload_n (p2 := 172) rfl rfl rfl ?_
                                  refine ar_add (p2 := 173) rfl rfl (show Int32.toInt 164 = 164 from rfl) rfl (by omega) (by omega) (fun z22 e22 f22 => ?_)
                                  refine te_dup2 (p2 := 174) rfl rfl ⟨rfl, rfl⟩ ?_
                                  refine tl_i (p2 := 175) (i := 149) (n := 283) rfl rfl I11 rfl rfl rfl rfl (by omega) (by omega) (fun y23 a23 b23 g23 e23 => ?_)
                                  refine te_aload_n (p2 := 176) rfl rfl rfl ?_
                                  refine tg_r (p2 := 179) (i := 148) (r := 165) rfl rfl I11 rfl rfl rfl ?_
                                  refine te_sipush (p2 := 182) (x := 236) rfl rfl (by decide) ?_
                                  refine te_iload_n (p2 := 183) rfl rfl rfl ?_
                                  refine ar_add (p2 := 184) rfl rfl (show Int32.toInt 236 = 236 from rfl) rfl (by omega) (by omega) (fun z24 e24 f24 => ?_)
                                  refine tl_i (p2 := 185) (i := 149) (n := 283) rfl rfl I11 rfl rfl rfl rfl (by omega) (by omega) (fun y25 a25 b25 g25 e25 => ?_)
                                  refine tz_ne (p2 := 188) rfl rfl rfl (fun c26 => ?_) (fun c26 => ?_)
                                  · refine te_iconst (p2 := 206) (x := 0) rfl rfl (by decide) ?_
                                    have n27_y23 := i32_lo y23
                                    have o27_y23 := i32_hi y23
                                    refine ar_sub (p2 := 207) rfl rfl rfl (show Int32.toInt 0 = 0 from rfl) (by omega) (by omega) (fun z27 e27 f27 => ?_)
                                    refine ts_i (p2 := 208) (i := 149) (n := 283) rfl rfl I11 rfl rfl rfl rfl (by omega) (by omega) (i32_lo _) (i32_hi _) (i32_ho _) rfl (fun h28 I28 u28 => ?_)
                                    have f28 := fr_st (F := F_X12_goes) 3 f11 u28 rfl (by omega) (by omega)
                                    refine ar_inc (p2 := 211) (x := v11_1) rfl rfl (by decide) rfl (by decide) rfl (by omega) (by omega) (fun z29 e29 f29 => ?_)
                                    show EvP _ _ _ (211, [(1, .int z29), (0, .ref 164)], [], h28) _
                                    refine te_goto rfl ?_
                                    refine te_lv [(0, .ref 164), (1, .int z29)] rfl rfl ⟨rfl, rfl, trivial⟩ ?_
                                    exact ih11 z29 h28 I28 f28 (by omega) (by omega) (by omega) (by rw [show z29.toInt.toNat = v11_1.toInt.toNat + 1 by omega]; exact (show _ = heF _ v11_1.toInt.toNat from heM_d w11_0 u28 (by omega) (by omega) (by rw [(show rv h11 149 (236 + v11_1.toInt.toNat) = y25 from (by rw [show 236 + v11_1.toInt.toNat = z24.toInt.toNat by omega]; exact rv_of e25))]; omega)).trans dyH_s) (fun q => absurd (by rw [(show (absM h).da = y16 from (da_it (n := y1.toInt.toNat) (m := v11_1.toInt.toNat)).symm.trans ((congrArg Dy.da w11_0).symm.trans (rv_of (k := 105) e16))), e17]; omega) q) (by omega)
                                  · refine te_aload_n (p2 := 189) rfl rfl rfl ?_
                                    refine tg_r (p2 := 192) (i := 148) (r := 165) rfl rfl I11 rfl rfl rfl ?_
                                    refine te_sipush (p2 := 195) (x := 164) rfl rfl (by decide) ?_
                                    refine te_iload_n (p2 := 196) rfl rfl rfl ?_
                                    refine ar_add (p2 := 197) rfl rfl (show Int32.toInt 164 = 164 from rfl) rfl (by omega) (by omega) (fun z30 e30 f30 => ?_)
                                    refine tl_i (p2 := 198) (i := 149) (n := 283) rfl rfl I11 rfl rfl rfl rfl (by omega) (by omega) (fun y31 a31 b31 g31 e31 => ?_)
                                    refine tz_le (p2 := 201) rfl rfl rfl (fun c32 => ?_) (fun c32 => ?_)
                                    · refine te_iconst (p2 := 206) (x := 0) rfl rfl (by decide) ?_
                                      have n33_y23 := i32_lo y23
                                      have o33_y23 := i32_hi y23
                                      refine ar_sub (p2 := 207) rfl rfl rfl (show Int32.toInt 0 = 0 from rfl) (by omega) (by omega) (fun z33 e33 f33 => ?_)
                                      refine ts_i (p2 := 208) (i := 149) (n := 283) rfl rfl I11 rfl rfl rfl rfl (by omega) (by omega) (i32_lo _) (i32_hi _) (i32_ho _) rfl (fun h34 I34 u34 => ?_)
                                      have f34 := fr_st (F := F_X12_goes) 3 f11 u34 rfl (by omega) (by omega)
                                      refine ar_inc (p2 := 211) (x := v11_1) rfl rfl (by decide) rfl (by decide) rfl (by omega) (by omega) (fun z35 e35 f35 => ?_)
                                      show EvP _ _ _ (211, [(1, .int z35), (0, .ref 164)], [], h34) _
                                      refine te_goto rfl ?_
                                      refine te_lv [(0, .ref 164), (1, .int z35)] rfl rfl ⟨rfl, rfl, trivial⟩ ?_
                                      exact ih11 z35 h34 I34 f34 (by omega) (by omega) (by omega) (by rw [show z35.toInt.toNat = v11_1.toInt.toNat + 1 by omega]; exact (show _ = heF _ v11_1.toInt.toNat from heM_z w11_0 u34 (by omega) (by omega) (by rw [(show rv h11 149 (236 + v11_1.toInt.toNat) = y25 from (by rw [show 236 + v11_1.toInt.toNat = z24.toInt.toNat by omega]; exact rv_of e25))]; omega) (by rw [(show rv h11 149 (164 + v11_1.toInt.toNat) = y23 from (by rw [show 164 + v11_1.toInt.toNat = z22.toInt.toNat by omega]; exact rv_of e23))]; exact sub0 e33) (by rw [← sub0 e33]; (have e9 := (show y31.toInt = y23.toInt from congrArg Int32.toInt (int_inj e31 (by rw [show z30.toInt.toNat = z22.toInt.toNat by omega]; exact e23)))); omega)).trans dyH_s) (fun q => absurd (by rw [(show (absM h).da = y16 from (da_it (n := y1.toInt.toNat) (m := v11_1.toInt.toNat)).symm.trans ((congrArg Dy.da w11_0).symm.trans (rv_of (k := 105) e16))), e17]; omega) q) (by omega)
                                    · refine te_iconst (p2 := 202) (x := 1) rfl rfl (by decide) ?_
                                      refine te_goto rfl ?_
                                      refine au_sub (p2 := 207) rfl rfl (fun z36 e36 => ?_)
                                      refine ts_i (p2 := 208) (i := 149) (n := 283) rfl rfl I11 rfl rfl rfl rfl (by omega) (by omega) (i32_lo _) (i32_hi _) (i32_ho _) rfl (fun h37 I37 u37 => ?_)
                                      have f37 := fr_st (F := F_X12_goes) 3 f11 u37 rfl (by omega) (by omega)
                                      refine ar_inc (p2 := 211) (x := v11_1) rfl rfl (by decide) rfl (by decide) rfl (by omega) (by omega) (fun z38 e38 f38 => ?_)
                                      show EvP _ _ _ (211, [(1, .int z38), (0, .ref 164)], [], h37) _
                                      refine te_goto rfl ?_
                                      refine te_lv [(0, .ref 164), (1, .int z38)] rfl rfl ⟨rfl, rfl, trivial⟩ ?_
                                      exact ih11 z38 h37 I37 f37 (by omega) (by omega) (by omega) (by rw [show z38.toInt.toNat = v11_1.toInt.toNat + 1 by omega]; exact (show _ = heF _ v11_1.toInt.toNat from heM_y w11_0 u37 (by omega) (by omega) (by rw [(show rv h11 149 (236 + v11_1.toInt.toNat) = y25 from (by rw [show 236 + v11_1.toInt.toNat = z24.toInt.toNat by omega]; exact rv_of e25))]; omega) (by rw [(show rv h11 149 (164 + v11_1.toInt.toNat) = y23 from (by rw [show 164 + v11_1.toInt.toNat = z22.toInt.toNat by omega]; exact rv_of e23))]; (have e9 := (show y31.toInt = y23.toInt from congrArg Int32.toInt (int_inj e31 (by rw [show z30.toInt.toNat = z22.toInt.toNat by omega]; exact e23)))); omega) (by rw [(show rv h11 149 (164 + v11_1.toInt.toNat) = y23 from (by rw [show 164 + v11_1.toInt.toNat = z22.toInt.toNat by omega]; exact rv_of e23))]; exact e36)).trans dyH_s) (fun q => absurd (by rw [(show (absM h).da = y16 from (da_it (n := y1.toInt.toNat) (m := v11_1.toInt.toNat)).symm.trans ((congrArg Dy.da w11_0).symm.trans (rv_of (k := 105) e16))), e17]; omega) q) (by omega)
                          refine te_lv [(0, .ref 164), (1, .int 0)] rfl rfl ⟨rfl, rfl, trivial⟩ ?_
                          exact lp11 25 0 h9 I9 f9 (by decide) (by decide) (by have cc0 := (show Int32.toInt 0 = 0 from rfl); omega) (by rw [w9_0]; exact dyH_0 rfl) (fun _ => rfl) (by have cc0 := (show Int32.toInt 0 = 0 from rfl); omega)
                        · refine te_aload_n (p2 := 89) rfl rfl rfl ?_
                          refine tg_r (p2 := 92) (i := 148) (r := 165) rfl rfl I9 rfl rfl rfl ?_
                          refine te_sipush (p2 := 95) (x := 236) rfl rfl (by decide) ?_
                          refine te_iload_n (p2 := 96) rfl rfl rfl ?_
                          refine ar_add (p2 := 97) rfl rfl (show Int32.toInt 236 = 236 from rfl) rfl (by omega) (by omega) (fun z39 e39 f39 => ?_)
                          refine tl_i (p2 := 98) (i := 149) (n := 283) rfl rfl I9 rfl rfl rfl rfl (by omega) (by omega) (fun y40 a40 b40 g40 e40 => ?_)
                          refine tz_ne (p2 := 101) rfl rfl rfl (fun c41 => ?_) (fun c41 => ?_)
                          · refine ar_inc (p2 := 136) (x := v9_1) rfl rfl (by decide) rfl (by decide) rfl (by omega) (by omega) (fun z42 e42 f42 => ?_)
                            show EvP _ _ _ (136, [(1, .int z42), (0, .ref 164)], [], h9) _
                            refine te_goto rfl ?_
                            refine te_lv [(0, .ref 164), (1, .int z42)] rfl rfl ⟨rfl, rfl, trivial⟩ ?_
                            exact ih9 z42 h9 I9 f9 (by omega) (by omega) w9_0 (by omega)
                          · refine te_aload_n (p2 := 102) rfl rfl rfl ?_
                            refine te_iload_n (p2 := 103) rfl rfl rfl ?_
                            refine te_iconst (p2 := 104) (x := 1) rfl rfl (by decide) ?_
                            refine cV_pI (p2 := 107) (i := 148) rfl rfl rfl rfl I9 rfl rfl rfl (d_X12_saysOf (k := v9_1) (key := 1) I9 (by omega) (by omega)) (by decide) (fun y43 r43 => ?_)
                            refine te_istore_n (p2 := 108) (lv2 := [(2, .int y43), (0, .ref 164), (1, .int v9_1)]) rfl rfl (by decide) rfl ?_
                            refine te_aload_n (p2 := 109) rfl rfl rfl ?_
                            refine tg_r (p2 := 112) (i := 148) (r := 165) rfl rfl I9 rfl rfl rfl ?_
                            refine te_sipush (p2 := 115) (x := 212) rfl rfl (by decide) ?_
                            refine te_iload_n (p2 := 116) rfl rfl rfl ?_
                            refine ar_add (p2 := 117) rfl rfl (show Int32.toInt 212 = 212 from rfl) rfl (by omega) (by omega) (fun z44 e44 f44 => ?_)
                            refine te_dup2 (p2 := 118) rfl rfl ⟨rfl, rfl⟩ ?_
                            refine tl_i (p2 := 119) (i := 149) (n := 283) rfl rfl I9 rfl rfl rfl rfl (by omega) (by omega) (fun y45 a45 b45 g45 e45 => ?_)
                            refine te_iload_n (p2 := 120) rfl rfl rfl ?_
                            refine te_bipush (p2 := 122) (x := 9) rfl rfl (by decide) ?_
                            refine tb_le (p2 := 125) rfl rfl rfl (show Int32.toInt 9 = 9 from rfl) (fun c46 => ?_) (fun c46 => ?_)
                            · refine te_iload_n (p2 := 131) rfl rfl rfl ?_
                              refine au_add (p2 := 132) rfl rfl (fun z47 e47 => ?_)
                              refine ts_i (p2 := 133) (i := 149) (n := 283) rfl rfl I9 rfl rfl rfl rfl (by omega) (by omega) (i32_lo _) (i32_hi _) (i32_ho _) rfl (fun h48 I48 u48 => ?_)
                              have f48 := fr_st (F := F_X12_goes) 3 f9 u48 rfl (by omega) (by omega)
                              refine ar_inc (p2 := 136) (x := v9_1) rfl rfl (by decide) rfl (by decide) rfl (by omega) (by omega) (fun z49 e49 f49 => ?_)
                              show EvP _ _ _ (136, [(1, .int z49), (2, .int y43), (0, .ref 164)], [], h48) _
                              refine te_goto rfl ?_
                              refine te_lv [(0, .ref 164), (1, .int z49)] rfl rfl ⟨rfl, rfl, trivial⟩ ?_
                              exact ih9 z49 h48 I48 f48 (by omega) (by omega) ((mu_gv u48 (by omega)).trans w9_0) (by omega)
                            · refine te_bipush (p2 := 127) (x := 9) rfl rfl (by decide) ?_
                              refine te_goto rfl ?_
                              refine au_add (p2 := 132) rfl rfl (fun z50 e50 => ?_)
                              refine ts_i (p2 := 133) (i := 149) (n := 283) rfl rfl I9 rfl rfl rfl rfl (by omega) (by omega) (i32_lo _) (i32_hi _) (i32_ho _) rfl (fun h51 I51 u51 => ?_)
                              have f51 := fr_st (F := F_X12_goes) 3 f9 u51 rfl (by omega) (by omega)
                              refine ar_inc (p2 := 136) (x := v9_1) rfl rfl (by decide) rfl (by decide) rfl (by omega) (by omega) (fun z52 e52 f52 => ?_)
                              show EvP _ _ _ (136, [(1, .int z52), (2, .int y43), (0, .ref 164)], [], h51) _
                              refine te_goto rfl ?_
                              refine te_lv [(0, .ref 164), (1, .int z52)] rfl rfl ⟨rfl, rfl, trivial⟩ ?_
                              exact ih9 z52 h51 I51 f51 (by omega) (by omega) ((mu_gv u51 (by omega)).trans w9_0) (by omega)
                    refine te_lv [(0, .ref 164), (1, .int 0)] rfl rfl ⟨rfl, rfl, trivial⟩ ?_
                    exact lp9 25 0 h7 I7 f7 (by decide) (by decide) (by rw [w7_0, show v7_1.toInt.toNat = y1.toInt.toNat by omega]) (by have cc0 := (show Int32.toInt 0 = 0 from rfl); omega)
                  · refine te_aload_n (p2 := 47) rfl rfl rfl ?_
                    refine tg_r (p2 := 50) (i := 148) (r := 165) rfl rfl I7 rfl rfl rfl ?_
                    refine te_bipush (p2 := 52) (x := 108) rfl rfl (by decide) ?_
                    refine te_iload_n (p2 := 53) rfl rfl rfl ?_
                    refine ar_add (p2 := 54) rfl rfl (show Int32.toInt 108 = 108 from rfl) rfl (by omega) (by omega) (fun z53 e53 f53 => ?_)
                    refine tl_i (p2 := 55) (i := 149) (n := 283) rfl rfl I7 rfl rfl rfl rfl (by omega) (by omega) (fun y54 a54 b54 g54 e54 => ?_)
                    refine te_iconst (p2 := 56) (x := 1) rfl rfl (by decide) ?_
                    refine tb_ne (p2 := 59) rfl rfl rfl (show Int32.toInt 1 = 1 from rfl) (fun c55 => ?_) (fun c55 => ?_)
                    · refine ar_inc (p2 := 75) (x := v7_1) rfl rfl (by decide) rfl (by decide) rfl (by omega) (by omega) (fun z56 e56 f56 => ?_)
                      show EvP _ _ _ (75, [(1, .int z56), (0, .ref 164)], [], h7) _
                      refine te_goto rfl ?_
                      refine te_lv [(0, .ref 164), (1, .int z56)] rfl rfl ⟨rfl, rfl, trivial⟩ ?_
                      exact ih7 z56 h7 I7 f7 (by omega) (by omega) (by omega) (by rw [show z56.toInt.toNat = v7_1.toInt.toNat + 1 by omega]; exact (show absM h7 = waF (ctM h) (absM h7) v7_1.toInt.toNat from wa_n (by rw [(show ((absM h7).up v7_1.toInt.toNat).toInt = y54.toInt from (by rw [aM_up (by omega), show 108 + v7_1.toInt.toNat = z53.toInt.toNat by omega, rv_of e54]))]; omega)).trans ((congrArg (fun A => waF (ctM h) A v7_1.toInt.toNat) w7_0).trans dyW_s)) (by omega)
                    · refine te_aload_n (p2 := 60) rfl rfl rfl ?_
                      refine te_iload_n (p2 := 61) rfl rfl rfl ?_
                      refine tc_V (p2 := 64) (i := 148) rfl rfl rfl rfl I7 rfl rfl rfl (d_X12_wears (w := v7_1) I7 (by omega) (by omega)) (by decide) (fun v57 h57 hq57 => ?_)
                      obtain ⟨I57, g57, y57, w57, Q57⟩ := hq57
                      subst w57
                      obtain ⟨Qa57, Qc57⟩ := Q57 ((tabM_fr pr0 f7 (fun q hq => by (have h9 := (show ∀ q ∈ F_X12_goes, q.1 < 153 ∨ 156 < q.1 by decide)); exact h9 q hq))).2.2.2
                      have f57 := fr_tr (F1 := F_X12_wears) (F := F_X12_goes) f7 g57 (by decide)
                      rcases Qc57 with ⟨x57, c57⟩ | ⟨x57, c57⟩
                      · subst x57
                        show EvP _ _ _ (64, [(0, .ref 164), (1, .int v7_1)], [.int 1], h57) _
                        refine tz_eq (p2 := 67) rfl rfl (show Int32.toInt 1 = 1 from rfl) (fun c58 => absurd c58 (by omega)) (fun c58 => ?_)
                        refine te_aload_n (p2 := 68) rfl rfl rfl ?_
                        refine te_iload_n (p2 := 69) rfl rfl rfl ?_
                        refine tc_V (p2 := 72) (i := 148) rfl rfl rfl rfl I57 rfl rfl rfl (d_X12_falls (w := v7_1) I57 (by omega) (by omega) ⟨b + 7920, by rw [Qa57, w7_0]; exact st_B (dyW_B pr1 ok hb (by omega)), by omega⟩) (by decide) (fun v59 h59 hq59 => ?_)
                        obtain ⟨I59, g59, w59, Q59⟩ := hq59
                        subst w59
                        have f59 := fr_tr (F1 := F_X12_falls) (F := F_X12_goes) f57 g59 (by decide)
                        show EvP _ _ _ (72, [(0, .ref 164), (1, .int v7_1)], [], h59) _
                        refine ar_inc (p2 := 75) (x := v7_1) rfl rfl (by decide) rfl (by decide) rfl (by omega) (by omega) (fun z60 e60 f60 => ?_)
                        show EvP _ _ _ (75, [(1, .int z60), (0, .ref 164)], [], h59) _
                        refine te_goto rfl ?_
                        refine te_lv [(0, .ref 164), (1, .int z60)] rfl rfl ⟨rfl, rfl, trivial⟩ ?_
                        exact ih7 z60 h59 I59 f59 (by omega) (by omega) (by omega) (by rw [show z60.toInt.toNat = v7_1.toInt.toNat + 1 by omega]; exact (show absM h59 = waF (ctM h) (absM h7) v7_1.toInt.toNat from (by rw [Q59, (show ctM h57 = ctM h7 from ((show ctM h57 = ctM h from ctM_fr f57 rfl)).trans ((show ctM h7 = ctM h from ctM_fr f7 rfl)).symm), Qa57, ← (show ctM h7 = ctM h from ctM_fr f7 rfl)]; exact wa_f (by rw [(show ((absM h7).up v7_1.toInt.toNat).toInt = y54.toInt from (by rw [aM_up (by omega), show 108 + v7_1.toInt.toNat = z53.toInt.toNat by omega, rv_of e54]))]; omega) c57)).trans ((congrArg (fun A => waF (ctM h) A v7_1.toInt.toNat) w7_0).trans dyW_s)) (by omega)
                      · subst x57
                        show EvP _ _ _ (64, [(0, .ref 164), (1, .int v7_1)], [.int 0], h57) _
                        refine tz_eq (p2 := 67) rfl rfl (show Int32.toInt 0 = 0 from rfl) (fun c61 => ?_) (fun c61 => absurd c61 (by omega))
                        refine ar_inc (p2 := 75) (x := v7_1) rfl rfl (by decide) rfl (by decide) rfl (by omega) (by omega) (fun z62 e62 f62 => ?_)
                        show EvP _ _ _ (75, [(1, .int z62), (0, .ref 164)], [], h57) _
                        refine te_goto rfl ?_
                        refine te_lv [(0, .ref 164), (1, .int z62)] rfl rfl ⟨rfl, rfl, trivial⟩ ?_
                        exact ih7 z62 h57 I57 f57 (by omega) (by omega) (by omega) (by rw [show z62.toInt.toNat = v7_1.toInt.toNat + 1 by omega]; exact (show absM h57 = waF (ctM h) (absM h7) v7_1.toInt.toNat from (by rw [Qa57, ← (show ctM h7 = ctM h from ctM_fr f7 rfl)]; exact wa_s (by rw [(show ((absM h7).up v7_1.toInt.toNat).toInt = y54.toInt from (by rw [aM_up (by omega), show 108 + v7_1.toInt.toNat = z53.toInt.toNat by omega, rv_of e54]))]; omega) c57)).trans ((congrArg (fun A => waF (ctM h) A v7_1.toInt.toNat) w7_0).trans dyW_s)) (by omega)
              refine te_lv [(0, .ref 164), (1, .int 0)] rfl rfl ⟨rfl, rfl, trivial⟩ ?_
              exact lp7 17 0 h5 I5 f5 (by decide) (by decide) (by have cc0 := (show Int32.toInt 0 = 0 from rfl); omega) (by rw [w5_0, show v5_1.toInt.toNat = 3 by omega]; exact dyW_0 rfl) (by have cc0 := (show Int32.toInt 0 = 0 from rfl); omega)
            · refine te_aload_n (p2 := 26) rfl rfl rfl ?_
              refine te_iload_n (p2 := 27) rfl rfl rfl ?_
              refine tc_V (p2 := 30) (i := 148) rfl rfl rfl rfl I5 rfl rfl rfl (c_X12_goesRail (r := v5_1) I5 (by omega) (by omega)) (by decide) (fun v63 h63 hq63 => ?_)
              obtain ⟨I63, g63, w63, Q63⟩ := hq63
              subst w63
              have f63 := fr_tr (F1 := F_X12_goesRail) (F := F_X12_goes) f5 g63 (by decide)
              show EvP _ _ _ (30, [(0, .ref 164), (1, .int v5_1)], [], h63) _
              refine ar_inc (p2 := 33) (x := v5_1) rfl rfl (by decide) rfl (by decide) rfl (by omega) (by omega) (fun z64 e64 f64 => ?_)
              show EvP _ _ _ (33, [(1, .int z64), (0, .ref 164)], [], h63) _
              refine te_goto rfl ?_
              refine te_lv [(0, .ref 164), (1, .int z64)] rfl rfl ⟨rfl, rfl, trivial⟩ ?_
              exact ih5 z64 h63 I63 f63 (by omega) (by omega) (by rw [Q63, (show ctM h5 = ctM h from ctM_fr f5 rfl), w5_0, show z64.toInt.toNat = v5_1.toInt.toNat + 1 by omega]; exact dyA_s) (by omega)
        refine te_lv [(0, .ref 164), (1, .int 0)] rfl rfl ⟨rfl, rfl, trivial⟩ ?_
        exact lp5 4 0 h3 I3 f3 (by decide) (by decide) (by rw [w3_0, show v3_1.toInt.toNat = 4 by omega]; exact dyA_0 rfl) (by have cc0 := (show Int32.toInt 0 = 0 from rfl); omega)
      · refine te_aload_n (p2 := 8) rfl rfl rfl ?_
        refine te_iload_n (p2 := 9) rfl rfl rfl ?_
        refine tc_V (p2 := 12) (i := 148) rfl rfl rfl rfl I3 rfl rfl rfl (c_X12_goesRow (r := v3_1) I3 (by omega) (by omega) (tabM_fr pr0 f3 (fun q hq => by (have h9 := (show ∀ q ∈ F_X12_goes, q.1 < 153 ∨ 156 < q.1 by decide)); exact h9 q hq)) (by rw [(show ctM h3 = ctM h from ctM_fr f3 rfl)]; exact pr1) ⟨_, by rw [w3_0]; exact dyR_B pr1 ok hb (by omega)⟩) (by decide) (fun v65 h65 hq65 => ?_)
        obtain ⟨I65, g65, w65, Q65⟩ := hq65
        subst w65
        have f65 := fr_tr (F1 := F_X12_goesRow) (F := F_X12_goes) f3 g65 (by decide)
        show EvP _ _ _ (12, [(0, .ref 164), (1, .int v3_1)], [], h65) _
        refine ar_inc (p2 := 15) (x := v3_1) rfl rfl (by decide) rfl (by decide) rfl (by omega) (by omega) (fun z66 e66 f66 => ?_)
        show EvP _ _ _ (15, [(1, .int z66), (0, .ref 164)], [], h65) _
        refine te_goto rfl ?_
        refine te_lv [(0, .ref 164), (1, .int z66)] rfl rfl ⟨rfl, rfl, trivial⟩ ?_
        exact ih3 z66 h65 I65 f65 (by omega) (by omega) (by rw [Q65, (show ctM h3 = ctM h from ctM_fr f3 rfl), w3_0, show z66.toInt.toNat = v3_1.toInt.toNat + 1 by omega]; exact dyR_s) (by omega)
  refine te_lv [(0, .ref 164), (1, .int 0)] rfl rfl ⟨rfl, rfl, trivial⟩ ?_
  exact lp3 5 0 h hI f0 (by decide) (by decide) (dyR_0 rfl) (by have cc0 := (show Int32.toInt 0 = 0 from rfl); omega)
