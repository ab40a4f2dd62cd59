/-! numbers with a name each; rows by the spec -/
theorem ls_nil {d k : Int} : Op.lookupswitch.offset [] d k = d := rfl
theorem ls_ne {a o k d z : Int} {r : List (Int × Int)} (h : ¬ a = k) (e : Op.lookupswitch.offset r d k = z) : Op.lookupswitch.offset ((a, o) :: r) d k = z := by
  rw [Op.lookupswitch.offset_cons, if_neg h]; exact e
theorem i32_lo (x : Int32) : -2147483648 ≤ x.toInt := Int32.le_toInt x
theorem i32_hi (x : Int32) : x.toInt ≤ 2147483647 := by have := Int32.toInt_lt x; omega
theorem i32_ho (x : Int32) : x.toInt ≠ 9999999999 := by have := Int32.toInt_lt x; omega
theorem rq_7 : ∀ k, k < 4 → tq tT 7 k = some (.inr (.inl (16 + (12 + 2 * k)))) := by
  intro k hk
  rcases (show k = 0 ∨ k = 1 ∨ k = 2 ∨ k = 3 by omega) with rfl | rfl | rfl | rfl
  · rfl
  · rfl
  · rfl
  · rfl
theorem rq_8 : ∀ k, k < 3 → tq tT 8 k = some (.inr (.inl (16 + (20 + 1 * k)))) := by
  intro k hk
  rcases (show k = 0 ∨ k = 1 ∨ k = 2 by omega) with rfl | rfl | rfl
  · rfl
  · rfl
  · rfl
theorem rq_67 : ∀ k, k < 6 → tq tT 67 k = some (.inr (.inl (16 + (98 + 7 * k)))) := by
  intro k hk
  rcases (show k = 0 ∨ k = 1 ∨ k = 2 ∨ k = 3 ∨ k = 4 ∨ k = 5 by omega) with rfl | rfl | rfl | rfl | rfl | rfl
  · rfl
  · rfl
  · rfl
  · rfl
  · rfl
  · rfl
theorem rq_78 : ∀ k, k < 8 → tq tT 78 k = some (.inr (.inl (16 + (79 + 1 * k)))) := by
  intro k hk
  rcases (show k = 0 ∨ k = 1 ∨ k = 2 ∨ k = 3 ∨ k = 4 ∨ k = 5 ∨ k = 6 ∨ k = 7 by omega) with rfl | rfl | rfl | rfl | rfl | rfl | rfl | rfl
  · rfl
  · rfl
  · rfl
  · rfl
  · rfl
  · rfl
  · rfl
  · rfl
theorem rq_97 : ∀ k, k < 4 → tq tT 97 k = some (.inr (.inl (16 + (140 + 2 * k)))) := by
  intro k hk
  rcases (show k = 0 ∨ k = 1 ∨ k = 2 ∨ k = 3 by omega) with rfl | rfl | rfl | rfl
  · rfl
  · rfl
  · rfl
  · rfl
/-- the CELL beside one on a side (-1: none) -/
def nbr (c s : Int32) : Int32 := if s.toInt = 0 then (if c.toInt < 90 then c + 10 else -1) else if s.toInt = 1 then (if c.toInt % 10 < 9 then c + 1 else -1) else if s.toInt = 2 then (if 10 ≤ c.toInt then c - 10 else -1) else (if 0 < c.toInt % 10 then c - 1 else -1)
section AR
variable {K : im_K} {d : Nat} {M : im_M} {pc p2 : Nat} {lv lv2 : im_L} {st : List Value} {h : im_H} {Q : Option Value → im_H → Prop}
theorem ar_add {x y : Int32} {a b : Int} (ha : im_at M pc = some (.iadd, [])) (hp : pc + 1 = p2) (hx : x.toInt = a) (hy : y.toInt = b) (h1 : -2147483648 ≤ a + b) (h2 : a + b ≤ 2147483647) (k : ∀ z : Int32, x + y = z → z.toInt = a + b → EvP K d M (p2, lv, .int z :: st, h) Q) : EvP K d M (pc, lv, .int y :: .int x :: st, h) Q :=
  te_iadd ha hp rfl (k _ rfl (by rw [i32_addE hy (by rw [hx]; exact h1) (by rw [hx]; exact h2), hx]))
theorem ar_sub {x y : Int32} {a b : Int} (ha : im_at M pc = some (.isub, [])) (hp : pc + 1 = p2) (hx : x.toInt = a) (hy : y.toInt = b) (h1 : -2147483648 ≤ a - b) (h2 : a - b ≤ 2147483647) (k : ∀ z : Int32, x - y = z → z.toInt = a - b → EvP K d M (p2, lv, .int z :: st, h) Q) : EvP K d M (pc, lv, .int y :: .int x :: st, h) Q :=
  te_isub ha hp rfl (k _ rfl (by rw [i32_subE hy (by rw [hx]; exact h1) (by rw [hx]; exact h2), hx]))
theorem i32_mulE {x y : Int32} {a b : Int} (hx : x.toInt = a) (hy : y.toInt = b) (h1 : -2147483648 ≤ a * b) (h2 : a * b ≤ 2147483647) : (x * y).toInt = a * b := by
  rw [Int32.toInt_mul, hx, hy, Int.bmod_def]
  generalize a * b = c at *
  omega
theorem ar_mul {x y : Int32} {a b : Int} (ha : im_at M pc = some (.imul, [])) (hp : pc + 1 = p2) (hx : x.toInt = a) (hy : y.toInt = b) (h1 : -2147483648 ≤ a * b) (h2 : a * b ≤ 2147483647) (k : ∀ z : Int32, x * y = z → z.toInt = a * b → EvP K d M (p2, lv, .int z :: st, h) Q) : EvP K d M (pc, lv, .int y :: .int x :: st, h) Q :=
  te_imul ha hp rfl (k _ rfl (i32_mulE hx hy h1 h2))
theorem au_add {x y : Int32} (ha : im_at M pc = some (.iadd, [])) (hp : pc + 1 = p2) (k : ∀ z : Int32, x + y = z → EvP K d M (p2, lv, .int z :: st, h) Q) : EvP K d M (pc, lv, .int y :: .int x :: st, h) Q := te_iadd ha hp rfl (k _ rfl)
theorem au_sub {x y : Int32} (ha : im_at M pc = some (.isub, [])) (hp : pc + 1 = p2) (k : ∀ z : Int32, x - y = z → EvP K d M (p2, lv, .int z :: st, h) Q) : EvP K d M (pc, lv, .int y :: .int x :: st, h) Q := te_isub ha hp rfl (k _ rfl)
theorem au_mul {x y : Int32} (ha : im_at M pc = some (.imul, [])) (hp : pc + 1 = p2) (k : ∀ z : Int32, x * y = z → EvP K d M (p2, lv, .int z :: st, h) Q) : EvP K d M (pc, lv, .int y :: .int x :: st, h) Q := te_imul ha hp rfl (k _ rfl)
theorem au_and {x y : Int32} (ha : im_at M pc = some (.iand, [])) (hp : pc + 1 = p2) (k : ∀ z : Int32, x &&& y = z → EvP K d M (p2, lv, .int z :: st, h) Q) : EvP K d M (pc, lv, .int y :: .int x :: st, h) Q := te_iand ha hp rfl (k _ rfl)
theorem au_or {x y : Int32} (ha : im_at M pc = some (.ior, [])) (hp : pc + 1 = p2) (k : ∀ z : Int32, x ||| y = z → EvP K d M (p2, lv, .int z :: st, h) Q) : EvP K d M (pc, lv, .int y :: .int x :: st, h) Q := te_ior ha hp rfl (k _ rfl)
theorem au_shl {x y : Int32} (ha : im_at M pc = some (.ishl, [])) (hp : pc + 1 = p2) (k : ∀ z : Int32, x <<< (y &&& 31) = z → EvP K d M (p2, lv, .int z :: st, h) Q) : EvP K d M (pc, lv, .int y :: .int x :: st, h) Q := te_ishl ha hp rfl (k _ rfl)
theorem au_shr {x y : Int32} (ha : im_at M pc = some (.ishr, [])) (hp : pc + 1 = p2) (k : ∀ z : Int32, x >>> (y &&& 31) = z → EvP K d M (p2, lv, .int z :: st, h) Q) : EvP K d M (pc, lv, .int y :: .int x :: st, h) Q := te_ishr ha hp rfl (k _ rfl)
theorem i32_ne0 {y : Int32} {b : Int} (hy : y.toInt = b) (h0 : b ≠ 0) : ¬ y = 0 := fun e => h0 (by rw [← hy, e]; rfl)
theorem au_div {x y : Int32} {b : Int} (ha : im_at M pc = some (.idiv, [])) (hp : pc + 1 = p2) (hy : y.toInt = b) (h0 : b ≠ 0) (k : ∀ z : Int32, x / y = z → EvP K d M (p2, lv, .int z :: st, h) Q) : EvP K d M (pc, lv, .int y :: .int x :: st, h) Q := te_idiv ha hp (i32_ne0 hy h0) rfl (k _ rfl)
theorem au_rem {x y : Int32} {b : Int} (ha : im_at M pc = some (.irem, [])) (hp : pc + 1 = p2) (hy : y.toInt = b) (h0 : b ≠ 0) (k : ∀ z : Int32, x - x / y * y = z → EvP K d M (p2, lv, .int z :: st, h) Q) : EvP K d M (pc, lv, .int y :: .int x :: st, h) Q := te_irem ha hp (i32_ne0 hy h0) rfl (k _ rfl)
theorem i32_divE {x y : Int32} {a b : Int} (hx : x.toInt = a) (hy : y.toInt = b) (ha : 0 ≤ a) (hb : 0 < b) : (x / y).toInt = a / b := by
  have hm : x.toInt < 2147483648 := Int32.toInt_lt x
  have h1 : 0 ≤ a / b := Int.ediv_nonneg ha (Int.le_of_lt hb)
  have h2 : a / b ≤ a := Int.ediv_le_self b ha
  rw [Int32.toInt_div, hx, hy, Int.tdiv_eq_ediv_of_nonneg ha, Int.bmod_def]
  generalize a / b = c at *
  omega
theorem i32_remE {x y : Int32} {a b : Int} (hx : x.toInt = a) (hy : y.toInt = b) (ha : 0 ≤ a) (hb : 0 < b) : (x - x / y * y).toInt = a % b := by
  have hm : x.toInt < 2147483648 := Int32.toInt_lt x
  have h1 : 0 ≤ a / b := Int.ediv_nonneg ha (Int.le_of_lt hb)
  have h3 : a / b * b ≤ a := Int.ediv_mul_le a (by omega)
  have h4 : a % b = a - a / b * b := by rw [Int.emod_def, Int.mul_comm]
  have h5 : 0 ≤ a / b * b := Int.mul_nonneg h1 (Int.le_of_lt hb)
  rw [Int32.toInt_sub, i32_mulE (i32_divE hx hy ha hb) hy (by omega) (by omega), hx, h4, Int.bmod_def]
  generalize a / b * b = c at *
  omega
theorem ar_div {x y : Int32} {a b : Int} (hi : im_at M pc = some (.idiv, [])) (hp : pc + 1 = p2) (hx : x.toInt = a) (hy : y.toInt = b) (ha : 0 ≤ a) (hb : 0 < b) (k : ∀ z : Int32, x / y = z → z.toInt = a / b → EvP K d M (p2, lv, .int z :: st, h) Q) : EvP K d M (pc, lv, .int y :: .int x :: st, h) Q := te_idiv hi hp (i32_ne0 hy (by omega)) rfl (k _ rfl (i32_divE hx hy ha hb))
theorem ar_rem {x y : Int32} {a b : Int} (hi : im_at M pc = some (.irem, [])) (hp : pc + 1 = p2) (hx : x.toInt = a) (hy : y.toInt = b) (ha : 0 ≤ a) (hb : 0 < b) (k : ∀ z : Int32, x - x / y * y = z → z.toInt = a % b → EvP K d M (p2, lv, .int z :: st, h) Q) : EvP K d M (pc, lv, .int y :: .int x :: st, h) Q := te_irem hi hp (i32_ne0 hy (by omega)) rfl (k _ rfl (i32_remE hx hy ha hb))
theorem ar_inc {k0 : Nat} {n : Int} {x : Int32} {a : Int} (ha : im_at M pc = some (.iinc k0 n, [])) (hp : pc + 3 = p2) (hk : k0 < M.2.2.1) (hx : im_lk lv k0 = some (.int x)) (hn : (Int32.ofInt n).toInt = n) (hv : x.toInt = a) (h1 : -2147483648 ≤ a + n) (h2 : a + n ≤ 2147483647) (k : ∀ z : Int32, x + Int32.ofInt n = z → z.toInt = a + n → EvP K d M (p2, im_pt lv k0 (.int z), st, h) Q) : EvP K d M (pc, lv, st, h) Q :=
  te_iinc ha hp hk hx rfl rfl (k _ rfl (by rw [i32_addE hn (by rw [hv]; exact h1) (by rw [hv]; exact h2), hv]))
theorem au_inc {k0 : Nat} {n : Int} {x : Int32} (ha : im_at M pc = some (.iinc k0 n, [])) (hp : pc + 3 = p2) (hk : k0 < M.2.2.1) (hx : im_lk lv k0 = some (.int x)) (k : ∀ z : Int32, x + Int32.ofInt n = z → EvP K d M (p2, im_pt lv k0 (.int z), st, h) Q) : EvP K d M (pc, lv, st, h) Q := te_iinc ha hp hk hx rfl rfl (k _ rfl)
theorem ar_max {idx x1 : Nat} {x y : Int32} {a b : Int} (ha : im_at M pc = some (.invokestatic idx, [0, 5, 2, 0, x1])) (hp : pc + 3 = p2) (hc : im_cat st = true) (hx : x.toInt = a) (hy : y.toInt = b) (k : ∀ z : Int32, (if x < y then y else x) = z → ((a < b ∧ z.toInt = b) ∨ (b ≤ a ∧ z.toInt = a)) → EvP K d M (p2, lv, .int z :: st, h) Q) : EvP K d M (pc, lv, .int y :: .int x :: st, h) Q := by
  refine te_max2 ha hp hc (k _ rfl ?_)
  by_cases hl : x < y
  · rw [if_pos hl]; exact Or.inl ⟨by rw [← hx, ← hy]; exact Int32.lt_iff_toInt_lt.mp hl, hy⟩
  · rw [if_neg hl]; exact Or.inr ⟨by have hn : ¬ _ := fun e => hl (Int32.lt_iff_toInt_lt.mpr e); omega, hx⟩
theorem ar_min {idx x1 : Nat} {x y : Int32} {a b : Int} (ha : im_at M pc = some (.invokestatic idx, [0, 6, 2, 0, x1])) (hp : pc + 3 = p2) (hc : im_cat st = true) (hx : x.toInt = a) (hy : y.toInt = b) (k : ∀ z : Int32, (if y < x then y else x) = z → ((b < a ∧ z.toInt = b) ∨ (a ≤ b ∧ z.toInt = a)) → EvP K d M (p2, lv, .int z :: st, h) Q) : EvP K d M (pc, lv, .int y :: .int x :: st, h) Q := by
  refine te_min2 ha hp hc (k _ rfl ?_)
  by_cases hl : y < x
  · rw [if_pos hl]; exact Or.inl ⟨by rw [← hx, ← hy]; exact Int32.lt_iff_toInt_lt.mp hl, hy⟩
  · rw [if_neg hl]; exact Or.inr ⟨by have hn : ¬ _ := fun e => hl (Int32.lt_iff_toInt_lt.mpr e); omega, hx⟩
theorem tp_i {idx a b x R i n : Nat} {ty : FieldType} {v : Int32} {lo hi ho : Int} (ha : im_at M pc = some (.putfield idx, [a, b, 0, 0, x])) (hp : pc + 3 = p2) (hI : tI h) (hR : R = 16 + i) (hs : tS[i]? = some (3, a, n)) (hb : b < n) (hK : ((K.2.1[a]?).bind fun t => t[b]?) = some ty) (hf : im_fit ty (.int v) = true) (ht : tq tT i b = some (.inl (lo, hi, ho))) (b0 : lo ≤ v.toInt) (b1 : v.toInt ≤ hi) (b2 : v.toInt ≠ ho) (hsp : spc i = false) (k : ∀ h2, tI h2 → up h h2 i b (.int v) → EvP K d M (p2, lv, st, h2) Q) : EvP K d M (pc, lv, .int v :: .ref R :: st, h) Q :=
  tp_f ha hp hI hR hs hb hK hf (fun t e => by rw [ht] at e; cases e; exact ⟨v, rfl, b0, b1, b2⟩) hsp k
theorem fit_b {v : Int32} (h : v.toInt = 0 ∨ v.toInt = 1) : im_fit .boolean (.int v) = true := by
  rcases h with h | h
  · have : v = 0 := i32_ext h
    subst this; rfl
  · have : v = 1 := i32_ext h
    subst this; rfl
theorem b01 {v : Int32} (h : v.toInt = 0 ∨ v.toInt = 1) : v = 0 ∨ v = 1 := by
  rcases h with h | h
  · exact Or.inl (i32_ext h)
  · exact Or.inr (i32_ext h)
theorem tp_n {idx a b x R i n r : Nat} {ty : FieldType} {rs : List Nat} (ha : im_at M pc = some (.putfield idx, [a, b, 0, 0, x])) (hp : pc + 3 = p2) (hI : tI h) (hR : R = 16 + i) (hs : tS[i]? = some (3, a, n)) (hb : b < n) (hK : ((K.2.1[a]?).bind fun t => t[b]?) = some ty) (hf : im_fit ty (.ref r) = true) (ht : tq tT i b = some (.inr (.inr rs))) (hr : r ∈ rs) (hsp : spc i = false) (k : ∀ h2, tI h2 → up h h2 i b (.ref r) → EvP K d M (p2, lv, st, h2) Q) : EvP K d M (pc, lv, .ref r :: .ref R :: st, h) Q :=
  tp_f ha hp hI hR hs hb hK hf (fun t e => by rw [ht] at e; cases e; exact Or.inr ⟨r, hr, rfl⟩) hsp k
theorem tp_0 {idx a b x R i n : Nat} {ty : FieldType} {rs : List Nat} (ha : im_at M pc = some (.putfield idx, [a, b, 0, 0, x])) (hp : pc + 3 = p2) (hI : tI h) (hR : R = 16 + i) (hs : tS[i]? = some (3, a, n)) (hb : b < n) (hK : ((K.2.1[a]?).bind fun t => t[b]?) = some ty) (hf : im_fit ty .null = true) (ht : tq tT i b = some (.inr (.inr rs))) (hsp : spc i = false) (k : ∀ h2, tI h2 → up h h2 i b .null → EvP K d M (p2, lv, st, h2) Q) : EvP K d M (pc, lv, .null :: .ref R :: st, h) Q :=
  tp_f ha hp hI hR hs hb hK hf (fun t e => by rw [ht] at e; cases e; exact Or.inl rfl) hsp k
theorem tl_f {R i n t c0 sp : Nat} {j : Int32} (ha : im_at M pc = some (.aaload, [])) (hp : pc + 1 = p2) (hI : tI h) (hR : R = 16 + i) (hs : tS[i]? = some (2, t, n)) (ht : 3 ≤ t ∧ t < 8) (hq : ∀ k, k < n → tq tT i k = some (.inr (.inl (16 + (c0 + sp * k))))) (h0 : 0 ≤ j.toInt) (h1 : j.toInt < n) (k : ∀ q, q = c0 + sp * j.toInt.toNat → EvP K d M (p2, lv, .ref (16 + q) :: st, h) Q) : EvP K d M (pc, lv, .int j :: .ref R :: st, h) Q :=
  tl_q (f := fun k => 16 + (c0 + sp * k)) ha hp hI hR hs ht hq h0 h1 (k _ rfl)
theorem te_len {R i n t : Nat} {x : Int32} (ht : t = 0 ∨ t = 1) (ha : im_at M pc = some (.arraylength, [])) (hp : pc + 1 = p2) (hI : tI h) (hR : R = 16 + i) (hs : tS[i]? = some (0, t, n)) (hx : Int32.ofNat n = x) (k : EvP K d M (p2, lv, .int x :: st, h) Q) : EvP K d M (pc, lv, .ref R :: st, h) Q := by
  subst hp; subst hR; subst hx
  obtain ⟨l, hl, hn⟩ := sh_ia (h := h) (by rw [hI.1]; exact hs)
  refine evp (fun r => ev_step (st_at ha ?_)) k
  obtain ⟨j, hj, hc⟩ := im_ia_eq hl
  have : j = i := by omega
  subst this
  show ((if 16 ≤ 16 + j then im_len h (16 + j) else (K.1[16 + j]?).map List.length).bind fun n => im_nx (pc + 1) lv (.int (Int32.ofNat n) :: st) h) = _
  rw [if_pos (by omega)]
  unfold im_len
  rw [if_pos (by omega), show 16 + j - 16 = j by omega, hc]
  rcases ht with rfl | rfl
  · simp only [show (0 : Nat) < 2 from by decide, if_true, Option.bind_some, hn]
    rfl
  · simp only [show (1 : Nat) < 2 from by decide, if_true, Option.bind_some, hn]
    rfl
theorem fr_st {F : List (Nat × Nat × Nat)} {h0 h h2 : im_H} {i k a b : Nat} {v : Value} (n : Nat) (hf : fr F h0 h) (hu : up h h2 i k v) (hm : F[n]? = some (i, a, b)) (ha : a ≤ k) (hb : k ≤ b) : fr F h0 h2 := fr_up hf hu (List.mem_of_getElem? hm) ha hb
end AR
