/-! small facts for scripts: branches, places, the tests of bounds -/
theorem ob_eq2 {h : im_H} {i c n : Nat} {fs : List Value} (hn : h.length = n) (hi : i < n) : im_obj (h.set i (.inr (c, fs))) (16 + i) c = some fs := ob_eq (by omega)
theorem ia_eq2 {h : im_H} {i t n : Nat} {l : List Int32} (hn : h.length = n) (hi : i < n) : im_ia (h.set i (.inl (t, .inl l))) (16 + i) t = some l := ia_eq (by omega)
theorem i32_ext {x y : Int32} (h : x.toInt = y.toInt) : x = y := Int32.toInt_inj.mp h
theorem cn_eq_T {x y : Int32} {a b : Int} (hx : x.toInt = a) (hy : y.toInt = b) (h : a = b) : im_cnd .eq x y = true := decide_eq_true (i32_ext (by omega))
theorem cn_eq_F {x y : Int32} {a b : Int} (hx : x.toInt = a) (hy : y.toInt = b) (h : ¬ (a = b)) : im_cnd .eq x y = false := decide_eq_false (fun e => h (by rw [← hx, ← hy, e]))
theorem cn_ne_T {x y : Int32} {a b : Int} (hx : x.toInt = a) (hy : y.toInt = b) (h : ¬ a = b) : im_cnd .ne x y = true := decide_eq_true (fun e => h (by rw [← hx, ← hy, e]))
theorem cn_ne_F {x y : Int32} {a b : Int} (hx : x.toInt = a) (hy : y.toInt = b) (h : ¬ (¬ a = b)) : im_cnd .ne x y = false := decide_eq_false (fun e => h (fun e2 => e (i32_ext (by omega))))
theorem cn_lt_T {x y : Int32} {a b : Int} (hx : x.toInt = a) (hy : y.toInt = b) (h : a < b) : im_cnd .lt x y = true := decide_eq_true (Int32.lt_iff_toInt_lt.mpr (by omega))
theorem cn_lt_F {x y : Int32} {a b : Int} (hx : x.toInt = a) (hy : y.toInt = b) (h : ¬ (a < b)) : im_cnd .lt x y = false := decide_eq_false (fun e => h (by have := Int32.lt_iff_toInt_lt.mp e; omega))
theorem cn_ge_T {x y : Int32} {a b : Int} (hx : x.toInt = a) (hy : y.toInt = b) (h : b ≤ a) : im_cnd .ge x y = true := decide_eq_true (Int32.le_iff_toInt_le.mpr (by omega))
theorem cn_ge_F {x y : Int32} {a b : Int} (hx : x.toInt = a) (hy : y.toInt = b) (h : ¬ (b ≤ a)) : im_cnd .ge x y = false := decide_eq_false (fun e => h (by have := Int32.le_iff_toInt_le.mp e; omega))
theorem cn_gt_T {x y : Int32} {a b : Int} (hx : x.toInt = a) (hy : y.toInt = b) (h : b < a) : im_cnd .gt x y = true := decide_eq_true (Int32.lt_iff_toInt_lt.mpr (by omega))
theorem cn_gt_F {x y : Int32} {a b : Int} (hx : x.toInt = a) (hy : y.toInt = b) (h : ¬ (b < a)) : im_cnd .gt x y = false := decide_eq_false (fun e => h (by have := Int32.lt_iff_toInt_lt.mp e; omega))
theorem cn_le_T {x y : Int32} {a b : Int} (hx : x.toInt = a) (hy : y.toInt = b) (h : a ≤ b) : im_cnd .le x y = true := decide_eq_true (Int32.le_iff_toInt_le.mpr (by omega))
theorem cn_le_F {x y : Int32} {a b : Int} (hx : x.toInt = a) (hy : y.toInt = b) (h : ¬ (a ≤ b)) : im_cnd .le x y = false := decide_eq_false (fun e => h (by have := Int32.le_iff_toInt_le.mp e; omega))
theorem clamp_of_toInt {x : Int32} {k : Nat} (h : x.toInt = k) : x.toNatClampNeg = k := by
  show x.toInt.toNat = k
  omega
theorem in_at {α : Type} {l : List α} {n : Nat} {x : Int32} (hl : l.length = n) (h0 : 0 ≤ x.toInt) (h1 : x.toInt < n) : im_in x l.length = true := by
  rw [hl]
  have h2 : ¬ x < 0 := fun e => by have := Int32.lt_iff_toInt_lt.mp e; have e0 : (0 : Int32).toInt = 0 := rfl; omega
  have h3 : x.toNatClampNeg = x.toInt.toNat := rfl
  simp only [im_in, Bool.not_eq_true', Bool.or_eq_false_iff, decide_eq_false_iff_not]
  exact ⟨h2, by omega⟩
theorem rd_at {l : List Int32} {v x : Int32} (lo hi : Nat) (H : ∀ k, k < hi + 1 → lo ≤ k → l.getD k 0 = v) (h0 : (lo : Int) ≤ x.toInt) (h1 : x.toInt ≤ hi) : l.getD x.toNatClampNeg 0 = v := by
  have h3 : x.toNatClampNeg = x.toInt.toNat := rfl
  rw [h3]
  exact H _ (by omega) (by omega)
theorem qin_pt {l : List (Option Nat)} {t : Nat} {x : Int32} (k : Nat) (h : x.toInt = k) (hk : k < l.length) (ht : 3 ≤ t ∧ t < 8) : im_in x l.length = true ∧ 3 ≤ t ∧ t < 8 := ⟨in_at rfl (by omega) (by omega), ht⟩
theorem qrd_pt {l : List (Option Nat)} {v : Value} {x : Int32} (k : Nat) (h : x.toInt = k) (hv : im_rf (l.getD k none) = v) : im_rf (l.getD x.toNatClampNeg none) = v := by
  rw [clamp_of_toInt h]; exact hv
section PRM
variable {K : im_K} {d : Nat} {M : im_M} {pc p2 : Nat} {lv lv2 : im_L} {st : List Value} {h : im_H} {r : Option Value × im_H}
theorem sp_tsIn {dflt lo hi off : Int} {offs : Array Int} {a b w : Nat} {x : Int32} (k : Int) (ha : im_at M pc = some (.tableswitch dflt lo hi offs, [a, b, w])) (hx : x.toInt = k) (h1 : ¬ k < lo) (h2 : ¬ hi < k) (ho : offs[(k - lo).toNat]? = some off) (hp : (pc : Int) + off = (p2 : Int)) (kk : Ev K d M (p2, lv, st, h) r) : Ev K d M (pc, lv, .int x :: st, h) r := by
  refine ev_step (st_at ha ?_) kk
  show ((im_1i (.int x :: st)).bind fun q =>
      if q.1.toInt < lo ∨ hi < q.1.toInt then (if (pc : Int) + dflt = (a : Int) then im_nx a lv q.2 h else none)
      else (offs[(q.1.toInt - lo).toNat]?).bind fun off => if (pc : Int) + off = ((((pc : Int) + off).toNat : Nat) : Int) then im_nx ((pc : Int) + off).toNat lv q.2 h else none) = _
  simp only [im_1i, Option.bind_some, hx]
  rw [if_neg (by omega), ho]
  simp only [Option.bind_some, hp, Int.toNat_natCast, if_true]
  rfl
theorem sp_tsOut {dflt lo hi : Int} {offs : Array Int} {b w : Nat} {x : Int32} (ha : im_at M pc = some (.tableswitch dflt lo hi offs, [p2, b, w])) (hx : x.toInt < lo ∨ hi < x.toInt) (hp : (pc : Int) + dflt = (p2 : Int)) (kk : Ev K d M (p2, lv, st, h) r) : Ev K d M (pc, lv, .int x :: st, h) r := by
  refine ev_step (st_at ha ?_) kk
  show ((im_1i (.int x :: st)).bind fun q =>
      if q.1.toInt < lo ∨ hi < q.1.toInt then (if (pc : Int) + dflt = (p2 : Int) then im_nx p2 lv q.2 h else none)
      else (offs[(q.1.toInt - lo).toNat]?).bind fun off => if (pc : Int) + off = ((((pc : Int) + off).toNat : Nat) : Int) then im_nx ((pc : Int) + off).toNat lv q.2 h else none) = _
  simp only [im_1i, Option.bind_some, if_pos hx, if_pos hp]
  rfl
theorem sp_ls {dflt : Int} {ps : Array (Int × Int)} {w : Nat} {x : Int32} {off : Int} (ha : im_at M pc = some (.lookupswitch dflt ps, [0, 0, w])) (hs : (ps.toList.zip (ps.toList.drop 1)).all (fun (a, next) => a.1 < next.1) = true) (ho : Op.lookupswitch.offset ps.toList dflt x.toInt = off) (hp : (pc : Int) + off = (p2 : Int)) (kk : Ev K d M (p2, lv, st, h) r) : Ev K d M (pc, lv, .int x :: st, h) r := by
  refine ev_step (st_at ha ?_) kk
  show ((im_1i (.int x :: st)).bind fun q =>
      if (ps.toList.zip (ps.toList.drop 1)).all (fun (a, next) => a.1 < next.1) = true ∧ (pc : Int) + Op.lookupswitch.offset ps.toList dflt q.1.toInt = ((((pc : Int) + Op.lookupswitch.offset ps.toList dflt q.1.toInt).toNat : Nat) : Int) then im_nx ((pc : Int) + Op.lookupswitch.offset ps.toList dflt q.1.toInt).toNat lv q.2 h else none) = _
  simp only [im_1i, Option.bind_some, ho, hp, Int.toNat_natCast, hs, and_self, if_true]
  rfl
theorem cl_within_T {n bv : Int32} {b : Int} (hb : bv.toInt = b) (hn : 0 ≤ n.toInt ∧ n.toInt < b) : Ca (d + 1) 110 [.int n, .int bv] h (some (.int 1), h) := by
  refine ca_of (M := mX11_within) rfl (Nat.le_of_ble_eq_true rfl) ?_
  show Ev im_K0 d mX11_within (0, [(0, .int n), (1, .int bv)], [], h) _
  refine sp_iload_n (p2 := 1) rfl rfl rfl ?_
  refine st_ifc (b := false) rfl (cn_lt_F rfl (show Int32.toInt 0 = 0 from rfl) (by omega)) ?_
  show Ev _ _ _ (4, _, _, _) _
  refine sp_iload_n (p2 := 5) rfl rfl rfl ?_
  refine sp_iload_n (p2 := 6) rfl rfl rfl ?_
  refine st_icmp (b := false) rfl (cn_ge_F rfl hb (by omega)) ?_
  show Ev _ _ _ (9, _, _, _) _
  refine sp_iconst (p2 := 10) (x := 1) rfl rfl (by decide) ?_
  refine sp_goto rfl ?_
  exact sp_zret rfl rfl (by decide)
theorem cl_within_F {n bv : Int32} {b : Int} (hb : bv.toInt = b) (hn : n.toInt < 0 ∨ b ≤ n.toInt) : Ca (d + 1) 110 [.int n, .int bv] h (some (.int 0), h) := by
  refine ca_of (M := mX11_within) rfl (Nat.le_of_ble_eq_true rfl) ?_
  show Ev im_K0 d mX11_within (0, [(0, .int n), (1, .int bv)], [], h) _
  refine sp_iload_n (p2 := 1) rfl rfl rfl ?_
  by_cases h0 : n.toInt < 0
  · refine st_ifc (b := true) rfl (cn_lt_T rfl (show Int32.toInt 0 = 0 from rfl) h0) ?_
    show Ev _ _ _ (13, _, _, _) _
    refine sp_iconst (p2 := 14) (x := 0) rfl rfl (by decide) ?_
    exact sp_zret rfl rfl (by decide)
  · refine st_ifc (b := false) rfl (cn_lt_F rfl (show Int32.toInt 0 = 0 from rfl) h0) ?_
    show Ev _ _ _ (4, _, _, _) _
    refine sp_iload_n (p2 := 5) rfl rfl rfl ?_
    refine sp_iload_n (p2 := 6) rfl rfl rfl ?_
    refine st_icmp (b := true) rfl (cn_ge_T rfl hb (by omega)) ?_
    show Ev _ _ _ (13, _, _, _) _
    refine sp_iconst (p2 := 14) (x := 0) rfl rfl (by decide) ?_
    exact sp_zret rfl rfl (by decide)
theorem cl_between_T {n av bv : Int32} {a b : Int} (ha : av.toInt = a) (hb : bv.toInt = b) (hn : a ≤ n.toInt ∧ n.toInt ≤ b) : Ca (d + 1) 111 [.int n, .int av, .int bv] h (some (.int 1), h) := by
  refine ca_of (M := mX11_between) rfl (Nat.le_of_ble_eq_true rfl) ?_
  show Ev im_K0 d mX11_between (0, [(0, .int n), (1, .int av), (2, .int bv)], [], h) _
  refine sp_iload_n (p2 := 1) rfl rfl rfl ?_
  refine sp_iload_n (p2 := 2) rfl rfl rfl ?_
  refine st_icmp (b := false) rfl (cn_lt_F rfl ha (by omega)) ?_
  show Ev _ _ _ (5, _, _, _) _
  refine sp_iload_n (p2 := 6) rfl rfl rfl ?_
  refine sp_iload_n (p2 := 7) rfl rfl rfl ?_
  refine st_icmp (b := false) rfl (cn_gt_F rfl hb (by omega)) ?_
  show Ev _ _ _ (10, _, _, _) _
  refine sp_iconst (p2 := 11) (x := 1) rfl rfl (by decide) ?_
  refine sp_goto rfl ?_
  exact sp_zret rfl rfl (by decide)
theorem cl_between_F {n av bv : Int32} {a b : Int} (ha : av.toInt = a) (hb : bv.toInt = b) (hn : n.toInt < a ∨ b < n.toInt) : Ca (d + 1) 111 [.int n, .int av, .int bv] h (some (.int 0), h) := by
  refine ca_of (M := mX11_between) rfl (Nat.le_of_ble_eq_true rfl) ?_
  show Ev im_K0 d mX11_between (0, [(0, .int n), (1, .int av), (2, .int bv)], [], h) _
  refine sp_iload_n (p2 := 1) rfl rfl rfl ?_
  refine sp_iload_n (p2 := 2) rfl rfl rfl ?_
  by_cases h0 : n.toInt < a
  · refine st_icmp (b := true) rfl (cn_lt_T rfl ha h0) ?_
    show Ev _ _ _ (14, _, _, _) _
    refine sp_iconst (p2 := 15) (x := 0) rfl rfl (by decide) ?_
    exact sp_zret rfl rfl (by decide)
  · refine st_icmp (b := false) rfl (cn_lt_F rfl ha h0) ?_
    show Ev _ _ _ (5, _, _, _) _
    refine sp_iload_n (p2 := 6) rfl rfl rfl ?_
    refine sp_iload_n (p2 := 7) rfl rfl rfl ?_
    refine st_icmp (b := true) rfl (cn_gt_T rfl hb (by omega)) ?_
    show Ev _ _ _ (14, _, _, _) _
    refine sp_iconst (p2 := 15) (x := 0) rfl rfl (by decide) ?_
    exact sp_zret rfl rfl (by decide)
theorem cl_in_T {n av bv : Int32} {a b : Int} (ha : av.toInt = a) (hb : bv.toInt = b) (hn : a ≤ n.toInt ∧ n.toInt ≤ b) : Ca (d + 1) 117 [.int n, .int av, .int bv] h (some (.int 1), h) := by
  refine ca_of (M := mX12_in) rfl (Nat.le_of_ble_eq_true rfl) ?_
  show Ev im_K0 d mX12_in (0, [(0, .int n), (1, .int av), (2, .int bv)], [], h) _
  refine sp_iload_n (p2 := 1) rfl rfl rfl ?_
  refine sp_iload_n (p2 := 2) rfl rfl rfl ?_
  refine st_icmp (b := false) rfl (cn_lt_F rfl ha (by omega)) ?_
  show Ev _ _ _ (5, _, _, _) _
  refine sp_iload_n (p2 := 6) rfl rfl rfl ?_
  refine sp_iload_n (p2 := 7) rfl rfl rfl ?_
  refine st_icmp (b := false) rfl (cn_gt_F rfl hb (by omega)) ?_
  show Ev _ _ _ (10, _, _, _) _
  refine sp_iconst (p2 := 11) (x := 1) rfl rfl (by decide) ?_
  refine sp_goto rfl ?_
  exact sp_zret rfl rfl (by decide)
theorem cl_in_F {n av bv : Int32} {a b : Int} (ha : av.toInt = a) (hb : bv.toInt = b) (hn : n.toInt < a ∨ b < n.toInt) : Ca (d + 1) 117 [.int n, .int av, .int bv] h (some (.int 0), h) := by
  refine ca_of (M := mX12_in) rfl (Nat.le_of_ble_eq_true rfl) ?_
  show Ev im_K0 d mX12_in (0, [(0, .int n), (1, .int av), (2, .int bv)], [], h) _
  refine sp_iload_n (p2 := 1) rfl rfl rfl ?_
  refine sp_iload_n (p2 := 2) rfl rfl rfl ?_
  by_cases h0 : n.toInt < a
  · refine st_icmp (b := true) rfl (cn_lt_T rfl ha h0) ?_
    show Ev _ _ _ (14, _, _, _) _
    refine sp_iconst (p2 := 15) (x := 0) rfl rfl (by decide) ?_
    exact sp_zret rfl rfl (by decide)
  · refine st_icmp (b := false) rfl (cn_lt_F rfl ha h0) ?_
    show Ev _ _ _ (5, _, _, _) _
    refine sp_iload_n (p2 := 6) rfl rfl rfl ?_
    refine sp_iload_n (p2 := 7) rfl rfl rfl ?_
    refine st_icmp (b := true) rfl (cn_gt_T rfl hb (by omega)) ?_
    show Ev _ _ _ (14, _, _, _) _
    refine sp_iconst (p2 := 15) (x := 0) rfl rfl (by decide) ?_
    exact sp_zret rfl rfl (by decide)
theorem cl_isCell_T {n : Int32} (hn : 0 ≤ n.toInt ∧ n.toInt ≤ 99) : Ca (d + 2) 118 [.int n] h (some (.int 1), h) := by
  refine ca_of (M := mX12_isCell) rfl (Nat.le_of_ble_eq_true rfl) ?_
  show Ev im_K0 (d + 1) mX12_isCell (0, [(0, .int n)], [], h) _
  refine sp_iload_n (p2 := 1) rfl rfl rfl ?_
  refine sp_iconst (p2 := 2) (x := 0) rfl rfl (by decide) ?_
  refine sp_bipush (p2 := 4) (x := 99) rfl rfl (by decide) ?_
  refine st_callS rfl rfl rfl (cl_in_T (a := 0) (b := 99) rfl rfl (by omega)) ?_
  show Ev _ _ _ (7, _, [.int 1], _) _
  exact sp_zret rfl rfl (by decide)
theorem cl_isCell_F {n : Int32} (hn : n.toInt < 0 ∨ 99 < n.toInt) : Ca (d + 2) 118 [.int n] h (some (.int 0), h) := by
  refine ca_of (M := mX12_isCell) rfl (Nat.le_of_ble_eq_true rfl) ?_
  show Ev im_K0 (d + 1) mX12_isCell (0, [(0, .int n)], [], h) _
  refine sp_iload_n (p2 := 1) rfl rfl rfl ?_
  refine sp_iconst (p2 := 2) (x := 0) rfl rfl (by decide) ?_
  refine sp_bipush (p2 := 4) (x := 99) rfl rfl (by decide) ?_
  refine st_callS rfl rfl rfl (cl_in_F (a := 0) (b := 99) rfl rfl (by omega)) ?_
  show Ev _ _ _ (7, _, [.int 0], _) _
  exact sp_zret rfl rfl (by decide)
end PRM
section PRN
variable {K : im_K} {d : Nat} {M : im_M} {pc p2 : Nat} {lv lv2 : im_L} {st : List Value} {h : im_H} {r : Option Value × im_H}
theorem sp_gst {idx a b x : Nat} (ha : im_at M pc = some (.getstatic idx, [a, b, 0, 0, x])) (hp : pc + 3 = p2) (h5 : a < 5) (k : Ev K d M (p2, lv, .ref a :: st, h) r) : Ev K d M (pc, lv, st, h) r := by
  subst hp
  refine ev_step (st_at ha ?_) k
  show (if a < 5 then im_nx (pc + 3) lv (.ref a :: st) h else none) = _
  rw [if_pos h5]; rfl
theorem sp_ldc2 {idx a y : Nat} {x : Int64} (ha : im_at M pc = some (.ldc2_w idx, [a, 0, 0, 0, y])) (hp : pc + 3 = p2) (hx : K.2.2.1[a]? = some x) (k : Ev K d M (p2, lv, .long x :: st, h) r) : Ev K d M (pc, lv, st, h) r := by
  subst hp
  refine ev_step (st_at ha ?_) k
  show ((K.2.2.1[a]?).bind fun x => im_nx (pc + 3) lv (.long x :: st) h) = _
  rw [hx]; rfl
theorem sp_i2l {x : Int32} {z : Int64} (ha : im_at M pc = some (.i2l, [])) (hp : pc + 1 = p2) (hz : x.toInt64 = z) (k : Ev K d M (p2, lv, .long z :: st, h) r) : Ev K d M (pc, lv, .int x :: st, h) r := by
  subst hp; subst hz
  exact ev_step (st_at ha rfl) k
theorem sp_l2i {x : Int64} {z : Int32} (ha : im_at M pc = some (.l2i, [])) (hp : pc + 1 = p2) (hz : x.toInt32 = z) (k : Ev K d M (p2, lv, .int z :: st, h) r) : Ev K d M (pc, lv, .long x :: st, h) r := by
  subst hp; subst hz
  exact ev_step (st_at ha rfl) k
theorem sp_lshr {x z : Int64} {y : Int32} (ha : im_at M pc = some (.lshr, [])) (hp : pc + 1 = p2) (hz : x >>> (y.toInt64 &&& 63) = z) (k : Ev K d M (p2, lv, .long z :: st, h) r) : Ev K d M (pc, lv, .int y :: .long x :: st, h) r := by
  subst hp; subst hz
  exact ev_step (st_at ha rfl) k
theorem sp_land {x y z : Int64} (ha : im_at M pc = some (.land, [])) (hp : pc + 1 = p2) (hz : x &&& y = z) (k : Ev K d M (p2, lv, .long z :: st, h) r) : Ev K d M (pc, lv, .long y :: .long x :: st, h) r := by
  subst hp; subst hz
  exact ev_step (st_at ha rfl) k
theorem sp_max {idx w z0 a : Nat} {x y z : Int32} (ha : im_at M pc = some (.invokestatic idx, [0, 5, w, z0, a])) (hp : pc + 3 = p2) (hc : im_cat st = true) (hz : (if x < y then y else x) = z) (k : Ev K d M (p2, lv, .int z :: st, h) r) : Ev K d M (pc, lv, .int y :: .int x :: st, h) r := by
  subst hp; subst hz
  refine ev_step (st_at ha ?_) k
  show ((im_1i (.int y :: .int x :: st)).bind fun q => (im_1i q.2).bind fun u => if im_cat u.2 then im_nx (pc + 3) lv (.int (if u.1 < q.1 then q.1 else u.1) :: u.2) h else none) = _
  simp only [im_1i, Option.bind_some, if_pos hc]
  rfl
theorem sp_min {idx w z0 a : Nat} {x y z : Int32} (ha : im_at M pc = some (.invokestatic idx, [0, 6, w, z0, a])) (hp : pc + 3 = p2) (hc : im_cat st = true) (hz : (if y < x then y else x) = z) (k : Ev K d M (p2, lv, .int z :: st, h) r) : Ev K d M (pc, lv, .int y :: .int x :: st, h) r := by
  subst hp; subst hz
  refine ev_step (st_at ha ?_) k
  show ((im_1i (.int y :: .int x :: st)).bind fun q => (im_1i q.2).bind fun u => if im_cat u.2 then im_nx (pc + 3) lv (.int (if q.1 < u.1 then q.1 else u.1) :: u.2) h else none) = _
  simp only [im_1i, Option.bind_some, if_pos hc]
  rfl
theorem sp_alen {R : Nat} {l : List Int32} {x : Int32} (ha : im_at M pc = some (.arraylength, [])) (hp : pc + 1 = p2) (hR : 16 ≤ R) (hl : im_ia h R 0 = some l) (hx : Int32.ofNat l.length = x) (k : Ev K d M (p2, lv, .int x :: st, h) r) : Ev K d M (pc, lv, .ref R :: st, h) r := by
  subst hp; subst hx
  refine ev_step (st_at ha ?_) k
  obtain ⟨i, rfl, hc⟩ := im_ia_eq hl
  show ((im_1r (.ref (16 + i) :: st)).bind fun q => (if 16 ≤ q.1 then im_len h q.1 else (K.1[q.1]?).map List.length).bind fun n => im_nx (pc + 1) lv (.int (Int32.ofNat n) :: q.2) h) = _
  simp only [im_1r, Option.bind_some, if_pos hR, im_len]
  rw [show 16 + i - 16 = i by omega, hc]
  rfl
end PRN
