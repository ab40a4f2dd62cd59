set_option maxRecDepth 20000 in
set_option maxHeartbeats 4000000 in
theorem rep0 {n : Nat} : ∀ k, k < n → (List.replicate n (0 : Int32)).getD k 0 = 0 := by
  intro k hk
  rw [List.getD_eq_getElem?_getD, List.getElem?_replicate, if_pos hk]
  rfl
set_option maxRecDepth 20000 in
set_option maxHeartbeats 4000000 in
theorem allLoads0_lp {g : im_H} {R Q : Nat} {fs : List Value} {A : List Int32} (ho : im_obj g R 9 = some fs) (hf : fs[6]? = some (.ref Q)) (hq : 16 ≤ Q) (ha : im_ia g Q 0 = some A) (hl : A.length = 100) (hz : ∀ k, k < 100 → A.getD k 0 = 0) : ∀ (m : Nat) (k : Int32), 0 ≤ k.toInt → k.toInt + m = 100 → Ev im_K0 18 mX9_allLoads (4, [(2, .int k), (1, .int 0), (0, .ref R)], [], g) (some (.int 0), g) := by
  intro m
  induction m with
  | zero =>
    intro k k0 hm
    refine sp_iload_n (p2 := 5) rfl rfl rfl ?_
    refine sp_bipush (p2 := 7) (x := 100) rfl rfl (by decide) ?_
    refine st_icmp (b := true) rfl (cn_ge_T rfl (show Int32.toInt 100 = 100 from rfl) (by omega)) ?_
    show Ev _ _ _ (25, _, _, _) _
    refine sp_iload_n (p2 := 26) rfl rfl rfl ?_
    exact sp_iret rfl rfl
  | succ m ih =>
    intro k k0 hm
    have fk : Int32.toInt (k + 1) = Int32.toInt k + 1 := i32_addE (show Int32.toInt 1 = 1 from rfl) (by omega) (by omega)
    have he := ih (k + 1) (by omega) (by omega)
    refine sp_iload_n (p2 := 5) rfl rfl rfl ?_
    refine sp_bipush (p2 := 7) (x := 100) rfl rfl (by decide) ?_
    refine st_icmp (b := false) rfl (cn_ge_F rfl (show Int32.toInt 100 = 100 from rfl) (by omega)) ?_
    show Ev _ _ _ (10, _, _, _) _
    refine sp_iload_n (p2 := 11) rfl rfl rfl ?_
    refine sp_aload_n (p2 := 12) rfl rfl rfl ?_
    refine st_get rfl ho hf ?_
    show Ev _ _ _ (15, _, _, _) _
    refine sp_iload_n (p2 := 16) rfl rfl rfl ?_
    refine st_iald (x := 0) rfl hq ha (in_at (n := 100) hl (by omega) (by omega)) (rd_at 0 99 (fun k hk _ => hz k (by omega)) (by omega) (by omega)) ?_
    show Ev _ _ _ (17, _, _, _) _
    refine sp_iadd (p2 := 18) (z := 0) rfl rfl (by decide) ?_
    refine sp_istore_n (p2 := 19) (lv2 := [(1, .int 0), (2, .int k), (0, .ref R)]) rfl rfl (by decide) rfl ?_
    refine sp_iinc (p2 := 22) (y := k + 1) (lv2 := [(2, .int (k + 1)), (1, .int 0), (0, .ref R)]) rfl rfl (by decide) rfl rfl rfl ?_
    refine sp_goto rfl ?_
    exact he
set_option maxRecDepth 20000 in
set_option maxHeartbeats 4000000 in
theorem allLoads0 {g : im_H} {R Q : Nat} {fs : List Value} {A : List Int32} (ho : im_obj g R 9 = some fs) (hf : fs[6]? = some (.ref Q)) (hq : 16 ≤ Q) (ha : im_ia g Q 0 = some A) (hl : A.length = 100) (hz : ∀ k, k < 100 → A.getD k 0 = 0) : Ca 19 47 [.ref R] g (some (.int 0), g) := by
  refine ca_of (d := 18) (M := mX9_allLoads) rfl (Nat.le_of_ble_eq_true rfl) ?_
  show Ev im_K0 18 mX9_allLoads (0, [(0, .ref R)], [], g) _
  refine sp_iconst (p2 := 1) (x := 0) rfl rfl (by decide) ?_
  refine sp_istore_n (p2 := 2) (lv2 := [(1, .int 0), (0, .ref R)]) rfl rfl (by decide) rfl ?_
  refine sp_iconst (p2 := 3) (x := 0) rfl rfl (by decide) ?_
  refine sp_istore_n (p2 := 4) (lv2 := [(2, .int 0), (1, .int 0), (0, .ref R)]) rfl rfl (by decide) rfl ?_
  exact allLoads0_lp ho hf hq ha hl hz 100 0 (by decide) (by decide)
set_option maxRecDepth 20000 in
set_option maxHeartbeats 4000000 in
theorem allDead0_lp {g : im_H} {R Q : Nat} {fs : List Value} {A : List Int32} (ho : im_obj g R 9 = some fs) (hf : fs[11]? = some (.ref Q)) (hq : 16 ≤ Q) (ha : im_ia g Q 1 = some A) (hl : A.length = 24) (hz : ∀ k, k < 24 → A.getD k 0 = 0) : ∀ (m : Nat) (k : Int32), 0 ≤ k.toInt → k.toInt + m = 24 → Ev im_K0 18 mX9_allDead (4, [(2, .int k), (1, .int 0), (0, .ref R)], [], g) (some (.int 0), g) := by
  intro m
  induction m with
  | zero =>
    intro k k0 hm
    refine sp_iload_n (p2 := 5) rfl rfl rfl ?_
    refine sp_bipush (p2 := 7) (x := 24) rfl rfl (by decide) ?_
    refine st_icmp (b := true) rfl (cn_ge_T rfl (show Int32.toInt 24 = 24 from rfl) (by omega)) ?_
    show Ev _ _ _ (33, _, _, _) _
    refine sp_iload_n (p2 := 34) rfl rfl rfl ?_
    exact sp_iret rfl rfl
  | succ m ih =>
    intro k k0 hm
    have fk : Int32.toInt (k + 1) = Int32.toInt k + 1 := i32_addE (show Int32.toInt 1 = 1 from rfl) (by omega) (by omega)
    have he := ih (k + 1) (by omega) (by omega)
    refine sp_iload_n (p2 := 5) rfl rfl rfl ?_
    refine sp_bipush (p2 := 7) (x := 24) rfl rfl (by decide) ?_
    refine st_icmp (b := false) rfl (cn_ge_F rfl (show Int32.toInt 24 = 24 from rfl) (by omega)) ?_
    show Ev _ _ _ (10, _, _, _) _
    refine sp_iload_n (p2 := 11) rfl rfl rfl ?_
    refine sp_aload_n (p2 := 12) rfl rfl rfl ?_
    refine st_get rfl ho hf ?_
    show Ev _ _ _ (15, _, _, _) _
    refine sp_iload_n (p2 := 16) rfl rfl rfl ?_
    refine st_bald (x := 0) rfl ha (in_at (n := 24) hl (by omega) (by omega)) (rd_at 0 23 (fun k hk _ => hz k (by omega)) (by omega) (by omega)) ?_
    show Ev _ _ _ (17, _, _, _) _
    refine st_ifc (b := true) rfl (by decide) ?_
    show Ev _ _ _ (24, _, _, _) _
    refine sp_iconst (p2 := 25) (x := 0) rfl rfl (by decide) ?_
    refine sp_iadd (p2 := 26) (z := 0) rfl rfl (by decide) ?_
    refine sp_istore_n (p2 := 27) (lv2 := [(1, .int 0), (2, .int k), (0, .ref R)]) rfl rfl (by decide) rfl ?_
    refine sp_iinc (p2 := 30) (y := k + 1) (lv2 := [(2, .int (k + 1)), (1, .int 0), (0, .ref R)]) rfl rfl (by decide) rfl rfl rfl ?_
    refine sp_goto rfl ?_
    exact he
set_option maxRecDepth 20000 in
set_option maxHeartbeats 4000000 in
theorem allDead0 {g : im_H} {R Q : Nat} {fs : List Value} {A : List Int32} (ho : im_obj g R 9 = some fs) (hf : fs[11]? = some (.ref Q)) (hq : 16 ≤ Q) (ha : im_ia g Q 1 = some A) (hl : A.length = 24) (hz : ∀ k, k < 24 → A.getD k 0 = 0) : Ca 19 48 [.ref R] g (some (.int 0), g) := by
  refine ca_of (d := 18) (M := mX9_allDead) rfl (Nat.le_of_ble_eq_true rfl) ?_
  show Ev im_K0 18 mX9_allDead (0, [(0, .ref R)], [], g) _
  refine sp_iconst (p2 := 1) (x := 0) rfl rfl (by decide) ?_
  refine sp_istore_n (p2 := 2) (lv2 := [(1, .int 0), (0, .ref R)]) rfl rfl (by decide) rfl ?_
  refine sp_iconst (p2 := 3) (x := 0) rfl rfl (by decide) ?_
  refine sp_istore_n (p2 := 4) (lv2 := [(2, .int 0), (1, .int 0), (0, .ref R)]) rfl rfl (by decide) rfl ?_
  exact allDead0_lp ho hf hq ha hl hz 24 0 (by decide) (by decide)
set_option maxRecDepth 20000 in
set_option maxHeartbeats 4000000 in
theorem allHurt0_lp {g : im_H} {R Q : Nat} {fs : List Value} {A : List Int32} (ho : im_obj g R 9 = some fs) (hf : fs[8]? = some (.ref Q)) (hq : 16 ≤ Q) (ha : im_ia g Q 0 = some A) (hl : A.length = 24) (hz : ∀ k, k < 24 → A.getD k 0 = 0) : ∀ (m : Nat) (k : Int32), 0 ≤ k.toInt → k.toInt + m = 24 → Ev im_K0 18 mX9_allHurt (4, [(2, .int k), (1, .int 0), (0, .ref R)], [], g) (some (.int 0), g) := by
  intro m
  induction m with
  | zero =>
    intro k k0 hm
    refine sp_iload_n (p2 := 5) rfl rfl rfl ?_
    refine sp_bipush (p2 := 7) (x := 24) rfl rfl (by decide) ?_
    refine st_icmp (b := true) rfl (cn_ge_T rfl (show Int32.toInt 24 = 24 from rfl) (by omega)) ?_
    show Ev _ _ _ (25, _, _, _) _
    refine sp_iload_n (p2 := 26) rfl rfl rfl ?_
    exact sp_iret rfl rfl
  | succ m ih =>
    intro k k0 hm
    have fk : Int32.toInt (k + 1) = Int32.toInt k + 1 := i32_addE (show Int32.toInt 1 = 1 from rfl) (by omega) (by omega)
    have he := ih (k + 1) (by omega) (by omega)
    refine sp_iload_n (p2 := 5) rfl rfl rfl ?_
    refine sp_bipush (p2 := 7) (x := 24) rfl rfl (by decide) ?_
    refine st_icmp (b := false) rfl (cn_ge_F rfl (show Int32.toInt 24 = 24 from rfl) (by omega)) ?_
    show Ev _ _ _ (10, _, _, _) _
    refine sp_iload_n (p2 := 11) rfl rfl rfl ?_
    refine sp_aload_n (p2 := 12) rfl rfl rfl ?_
    refine st_get rfl ho hf ?_
    show Ev _ _ _ (15, _, _, _) _
    refine sp_iload_n (p2 := 16) rfl rfl rfl ?_
    refine st_iald (x := 0) rfl hq ha (in_at (n := 24) hl (by omega) (by omega)) (rd_at 0 23 (fun k hk _ => hz k (by omega)) (by omega) (by omega)) ?_
    show Ev _ _ _ (17, _, _, _) _
    refine sp_iadd (p2 := 18) (z := 0) rfl rfl (by decide) ?_
    refine sp_istore_n (p2 := 19) (lv2 := [(1, .int 0), (2, .int k), (0, .ref R)]) rfl rfl (by decide) rfl ?_
    refine sp_iinc (p2 := 22) (y := k + 1) (lv2 := [(2, .int (k + 1)), (1, .int 0), (0, .ref R)]) rfl rfl (by decide) rfl rfl rfl ?_
    refine sp_goto rfl ?_
    exact he
set_option maxRecDepth 20000 in
set_option maxHeartbeats 4000000 in
theorem allHurt0 {g : im_H} {R Q : Nat} {fs : List Value} {A : List Int32} (ho : im_obj g R 9 = some fs) (hf : fs[8]? = some (.ref Q)) (hq : 16 ≤ Q) (ha : im_ia g Q 0 = some A) (hl : A.length = 24) (hz : ∀ k, k < 24 → A.getD k 0 = 0) : Ca 19 49 [.ref R] g (some (.int 0), g) := by
  refine ca_of (d := 18) (M := mX9_allHurt) rfl (Nat.le_of_ble_eq_true rfl) ?_
  show Ev im_K0 18 mX9_allHurt (0, [(0, .ref R)], [], g) _
  refine sp_iconst (p2 := 1) (x := 0) rfl rfl (by decide) ?_
  refine sp_istore_n (p2 := 2) (lv2 := [(1, .int 0), (0, .ref R)]) rfl rfl (by decide) rfl ?_
  refine sp_iconst (p2 := 3) (x := 0) rfl rfl (by decide) ?_
  refine sp_istore_n (p2 := 4) (lv2 := [(2, .int 0), (1, .int 0), (0, .ref R)]) rfl rfl (by decide) rfl ?_
  exact allHurt0_lp ho hf hq ha hl hz 24 0 (by decide) (by decide)
set_option maxRecDepth 20000 in
set_option maxHeartbeats 4000000 in
theorem sum0_lp {g : im_H} {A : List Int32} (ho : im_obj g 164 12 = some [.ref 165, .ref 166, .ref 167, .int 0, .ref 168, .ref 169, .ref 170, .ref 171, .ref 172, .int (-1), .int 0, .ref 173, .ref 174, .ref 175, .ref 176, .ref 177, .ref 178, .ref 179, .ref 180, .ref 181, .ref 182, .int 0, .ref 183, .ref 184, .int 0, .ref 185, .ref 186, .ref 187, .ref 188, .int 0, .ref 189, .ref 190, .ref 191, .ref 192, .ref 193, .int 0, .ref 194, .ref 195, .ref 196, .ref 197, .ref 198, .int 0, .ref 199, .int 0, .ref 200, .int 0, .int 0, .int (-1), .ref 201, .ref 202, .ref 203, .ref 204, .ref 205, .ref 206, .ref 207, .ref 208, .ref 209, .ref 210, .ref 211, .ref 212, .int 0, .int 0, .int 0, .ref 213, .ref 214, .ref 215]) (ha : im_ia g 165 0 = some A) (hl : A.length = 283) (hz : ∀ k, k < 105 → A.getD k 0 = 0) : ∀ (m : Nat) (k : Int32), 0 ≤ k.toInt → k.toInt + m = 100 → Ev im_K0 18 mX12_sum (5, [(4, .int k), (3, .int 0), (0, .ref 164), (1, .int 0), (2, .int 100)], [], g) (some (.int 0), g) := by
  intro m
  induction m with
  | zero =>
    intro k k0 hm
    refine sp_iload (p2 := 7) rfl rfl rfl ?_
    refine sp_iload_n (p2 := 8) rfl rfl rfl ?_
    refine st_icmp (b := true) rfl (cn_ge_T rfl (show Int32.toInt 100 = 100 from rfl) (by omega)) ?_
    show Ev _ _ _ (29, _, _, _) _
    refine sp_iload_n (p2 := 30) rfl rfl rfl ?_
    exact sp_iret rfl rfl
  | succ m ih =>
    intro k k0 hm
    have fk : Int32.toInt (k + 1) = Int32.toInt k + 1 := i32_addE (show Int32.toInt 1 = 1 from rfl) (by omega) (by omega)
    have he := ih (k + 1) (by omega) (by omega)
    refine sp_iload (p2 := 7) rfl rfl rfl ?_
    refine sp_iload_n (p2 := 8) rfl rfl rfl ?_
    refine st_icmp (b := false) rfl (cn_ge_F rfl (show Int32.toInt 100 = 100 from rfl) (by omega)) ?_
    show Ev _ _ _ (11, _, _, _) _
    refine sp_iload_n (p2 := 12) rfl rfl rfl ?_
    refine sp_aload_n (p2 := 13) rfl rfl rfl ?_
    refine st_get rfl ho rfl ?_
    show Ev _ _ _ (16, _, _, _) _
    refine sp_iload_n (p2 := 17) rfl rfl rfl ?_
    refine sp_iload (p2 := 19) rfl rfl rfl ?_
    refine sp_iadd (p2 := 20) (z := k) rfl rfl (Int32.zero_add k) ?_
    refine st_iald (x := 0) rfl (by decide) ha (in_at (n := 283) hl (by omega) (by omega)) (rd_at 0 99 (fun k hk _ => hz k (by omega)) (by omega) (by omega)) ?_
    show Ev _ _ _ (21, _, _, _) _
    refine sp_iadd (p2 := 22) (z := 0) rfl rfl (by decide) ?_
    refine sp_istore_n (p2 := 23) (lv2 := [(3, .int 0), (4, .int k), (0, .ref 164), (1, .int 0), (2, .int 100)]) rfl rfl (by decide) rfl ?_
    refine sp_iinc (p2 := 26) (y := k + 1) (lv2 := [(4, .int (k + 1)), (3, .int 0), (0, .ref 164), (1, .int 0), (2, .int 100)]) rfl rfl (by decide) rfl rfl rfl ?_
    refine sp_goto rfl ?_
    exact he
set_option maxRecDepth 20000 in
set_option maxHeartbeats 4000000 in
theorem sum0 {g : im_H} {A : List Int32} (ho : im_obj g 164 12 = some [.ref 165, .ref 166, .ref 167, .int 0, .ref 168, .ref 169, .ref 170, .ref 171, .ref 172, .int (-1), .int 0, .ref 173, .ref 174, .ref 175, .ref 176, .ref 177, .ref 178, .ref 179, .ref 180, .ref 181, .ref 182, .int 0, .ref 183, .ref 184, .int 0, .ref 185, .ref 186, .ref 187, .ref 188, .int 0, .ref 189, .ref 190, .ref 191, .ref 192, .ref 193, .int 0, .ref 194, .ref 195, .ref 196, .ref 197, .ref 198, .int 0, .ref 199, .int 0, .ref 200, .int 0, .int 0, .int (-1), .ref 201, .ref 202, .ref 203, .ref 204, .ref 205, .ref 206, .ref 207, .ref 208, .ref 209, .ref 210, .ref 211, .ref 212, .int 0, .int 0, .int 0, .ref 213, .ref 214, .ref 215]) (ha : im_ia g 165 0 = some A) (hl : A.length = 283) (hz : ∀ k, k < 105 → A.getD k 0 = 0) : Ca 19 163 [.ref 164, .int 0, .int 100] g (some (.int 0), g) := by
  refine ca_of (d := 18) (M := mX12_sum) rfl (Nat.le_of_ble_eq_true rfl) ?_
  show Ev im_K0 18 mX12_sum (0, [(0, .ref 164), (1, .int 0), (2, .int 100)], [], g) _
  refine sp_iconst (p2 := 1) (x := 0) rfl rfl (by decide) ?_
  refine sp_istore_n (p2 := 2) (lv2 := [(3, .int 0), (0, .ref 164), (1, .int 0), (2, .int 100)]) rfl rfl (by decide) rfl ?_
  refine sp_iconst (p2 := 3) (x := 0) rfl rfl (by decide) ?_
  refine sp_istore (p2 := 5) (lv2 := [(4, .int 0), (3, .int 0), (0, .ref 164), (1, .int 0), (2, .int 100)]) rfl rfl (by decide) rfl ?_
  exact sum0_lp ho ha hl hz 100 0 (by decide) (by decide)
/-- what is known of p: its size, DAY, the places ahead of DAY -/
abbrev PA (A : List Int32) (d : Int32) : Prop := A.length = 283 ∧ A.getD 105 0 = d ∧ ∀ k, k < 105 → A.getD k 0 = 0
set_option maxRecDepth 20000 in
set_option maxHeartbeats 4000000 in
theorem getD_ne {A : List Int32} {j k : Nat} {x : Int32} (h : j ≠ k) : (A.set j x).getD k 0 = A.getD k 0 := by
  rw [List.getD_eq_getElem?_getD, List.getD_eq_getElem?_getD, List.getElem?_set_ne h]
set_option maxRecDepth 20000 in
set_option maxHeartbeats 4000000 in
theorem getD_eq {A : List Int32} {j : Nat} {x : Int32} (h : j < A.length) : (A.set j x).getD j 0 = x := by
  rw [List.getD_eq_getElem?_getD, List.getElem?_set_self h]
  rfl
set_option maxRecDepth 20000 in
set_option maxHeartbeats 4000000 in
theorem pa_set {A : List Int32} {d x : Int32} {j : Nat} (hj : 106 ≤ j) (h : PA A d) : PA (A.set j x) d := ⟨ll_set h.1, (getD_ne (by omega)).trans h.2.1, fun k hk => (getD_ne (by omega)).trans (h.2.2 k hk)⟩
set_option maxRecDepth 20000 in
set_option maxHeartbeats 4000000 in
theorem pa_day {A : List Int32} {d x : Int32} (h : PA A d) : PA (A.set 105 x) x := ⟨ll_set h.1, getD_eq (by rw [h.1]; decide), fun k hk => (getD_ne (by omega)).trans (h.2.2 k hk)⟩
