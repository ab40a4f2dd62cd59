theorem i32_addE {x y : Int32} {b : Int} (hy : y.toInt = b) (h1 : -2147483648 ≤ x.toInt + b) (h2 : x.toInt + b ≤ 2147483647) : (x + y).toInt = x.toInt + b := by
  rw [Int32.toInt_add, hy, Int.bmod_def]
  omega
theorem i32_subE {x y : Int32} {b : Int} (hy : y.toInt = b) (h1 : -2147483648 ≤ x.toInt - b) (h2 : x.toInt - b ≤ 2147483647) : (x - y).toInt = x.toInt - b := by
  rw [Int32.toInt_sub, hy, Int.bmod_def]
  omega
theorem i32_div10 {x : Int32} (h : 0 ≤ x.toInt) : (x / 10).toInt = x.toInt / 10 := by
  have hm : x.toInt < 2147483648 := Int32.toInt_lt x
  rw [Int32.toInt_div, show Int32.toInt 10 = 10 from rfl, Int.tdiv_eq_ediv_of_nonneg h, Int.bmod_def]
  omega
theorem i32_div7 {x : Int32} (h : 0 ≤ x.toInt) : (x / 7).toInt = x.toInt / 7 := by
  have hm : x.toInt < 2147483648 := Int32.toInt_lt x
  rw [Int32.toInt_div, show Int32.toInt 7 = 7 from rfl, Int.tdiv_eq_ediv_of_nonneg h, Int.bmod_def]
  omega
theorem i32_rem10 {x : Int32} (h : 0 ≤ x.toInt) : (x - x / 10 * 10).toInt = x.toInt % 10 := by
  have hm : x.toInt < 2147483648 := Int32.toInt_lt x
  have e := i32_div10 h
  rw [Int32.toInt_sub, Int32.toInt_mul, e, show Int32.toInt 10 = 10 from rfl, Int.bmod_def, Int.bmod_def]
  omega
theorem i32_rem7 {x : Int32} (h : 0 ≤ x.toInt) : (x - x / 7 * 7).toInt = x.toInt % 7 := by
  have hm : x.toInt < 2147483648 := Int32.toInt_lt x
  have e := i32_div7 h
  rw [Int32.toInt_sub, Int32.toInt_mul, e, show Int32.toInt 7 = 7 from rfl, Int.bmod_def, Int.bmod_def]
  omega
theorem ll_set {l : List Int32} {n i : Nat} {x : Int32} (h : l.length = n) : (l.set i x).length = n := by rw [List.length_set]; exact h
theorem ob_fr {g h : im_H} {i c : Nat} {fs : List Value} (e : g[i]? = h[i]?) (f : im_obj h (16 + i) c = some fs) : im_obj g (16 + i) c = some fs := by
  unfold im_obj at f ⊢
  rw [show 16 + i - 16 = i by omega] at f ⊢
  rw [e]; exact f
theorem ia_fr {g h : im_H} {i c : Nat} {l : List Int32} (e : g[i]? = h[i]?) (f : im_ia h (16 + i) c = some l) : im_ia g (16 + i) c = some l := by
  unfold im_ia at f ⊢
  rw [show 16 + i - 16 = i by omega] at f ⊢
  rw [e]; exact f
theorem qa_fr {g h : im_H} {i : Nat} {q : Nat × List (Option Nat)} (e : g[i]? = h[i]?) (f : im_qa h (16 + i) = some q) : im_qa g (16 + i) = some q := by
  unfold im_qa at f ⊢
  rw [show 16 + i - 16 = i by omega] at f ⊢
  rw [e]; exact f
