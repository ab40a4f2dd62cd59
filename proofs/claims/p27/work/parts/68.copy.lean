/-! rows copied into rows -/
theorem tO_ne {h h2 : im_H} {i : Nat} (hO : tO h) (hu : ∀ j m, j ≠ i → rd h2 j m = rd h j m) (hs : spc i = false) : tO h2 := by
  intro o l m c f ho hl hc hm h3 hf
  have hs2 : i ∉ [101, 102, 108, 109, 115, 116, 122, 123, 129, 130, 136, 137] := by simpa [spc] using hs
  have e1 : o + 3 ≠ i := by
    intro e
    apply hs2
    rw [← e]
    simp only [List.mem_cons, List.not_mem_nil, or_false] at ho ⊢
    omega
  have e2 : o + 4 ≠ i := by
    intro e
    apply hs2
    rw [← e]
    simp only [List.mem_cons, List.not_mem_nil, or_false] at ho ⊢
    omega
  rw [hu _ _ e1] at hc
  rw [hu _ _ e2] at hf
  exact hO o l m c f ho hl hc hm h3 hf
theorem cpy_get {l0 l1 : List Int32} {sp dp n k : Nat} (h0 : sp + n ≤ l0.length) (h1 : dp + n ≤ l1.length) : (im_cpy l0 l1 sp dp n)[k]? = if dp ≤ k ∧ k < dp + n then l0[sp + (k - dp)]? else l1[k]? := by
  unfold im_cpy
  by_cases h2 : k < dp
  · rw [if_neg (by omega), List.getElem?_append_left (by rw [List.length_take]; omega), List.getElem?_take_of_lt h2]
  · rw [List.getElem?_append_right (by rw [List.length_take]; omega), List.length_take, Nat.min_eq_left (by omega)]
    by_cases h3 : k < dp + n
    · rw [if_pos (by omega), List.getElem?_append_left (by rw [List.length_take, List.length_drop]; omega), List.getElem?_take_of_lt (by omega), List.getElem?_drop]
    · rw [if_neg (by omega), List.getElem?_append_right (by rw [List.length_take, List.length_drop]; omega), List.length_take, List.length_drop, List.getElem?_drop]
      congr 1
      omega
theorem row_of {h : im_H} {i t n m : Nat} {lo hi ho : Int} {l : List Int32} (hI : tI h) (hl : im_ia h (16 + i) t = some l) (hn : l.length = n) (ht : tT.getD i [] = [(0, m, .inl (lo, hi, ho))]) (hm : m + 1 = n) {k : Nat} (hk : k < n) : ∃ x, l[k]? = some x ∧ lo ≤ x.toInt ∧ x.toInt ≤ hi ∧ x.toInt ≠ ho := by
  obtain ⟨v, hv, x, rfl, a, b, c⟩ := hI.2.1 i k _ (tq_row ht (by omega))
  rw [rd_ia hl] at hv
  obtain ⟨y, hy, e⟩ := Option.map_eq_some_iff.mp hv
  cases e
  exact ⟨x, hy, a, b, c⟩
theorem tc_cp {K : im_K} {d : Nat} {M : im_M} {pc p2 : Nat} {lv : im_L} {st : List Value} {h : im_H} {Q : Option Value → im_H → Prop} {idx x1 t i1 i2 n1 n2 m1 m2 R1 R2 : Nat} {sp dp len : Int32} {lo hi ho a b c : Int} (ha : im_at M pc = some (.invokestatic idx, [0, 3, 5, t, x1])) (hp : pc + 3 = p2) (hI : tI h) (hR1 : R1 = 16 + i1) (hR2 : R2 = 16 + i2) (hs1 : tS[i1]? = some (0, t, n1)) (hs2 : tS[i2]? = some (0, t, n2)) (ht1 : tT.getD i1 [] = [(0, m1, .inl (lo, hi, ho))]) (ht2 : tT.getD i2 [] = [(0, m2, .inl (lo, hi, ho))]) (hm1 : m1 + 1 = n1) (hm2 : m2 + 1 = n2) (hb : t = 0 ∨ (t = 1 ∧ lo = 0 ∧ hi = 1)) (hsp : sp.toInt = a) (hdp : dp.toInt = b) (hln : len.toInt = c) (h0 : 0 ≤ c) (h1 : 0 ≤ b) (h2 : 0 ≤ a) (h3 : a + c ≤ n1) (h4 : b + c ≤ n2) (hc : im_cat st = true) (hso : spc i2 = false) (k : ∀ h2, tI h2 → (∀ q : Nat, b ≤ q → (q : Int) < b + c → rd h2 i2 q = rd h i1 (a.toNat + (q - b.toNat))) → (∀ j q : Nat, (j ≠ i2 ∨ (q : Int) < b ∨ b + c ≤ q) → rd h2 j q = rd h j q) → EvP K d M (p2, lv, st, h2) Q) : EvP K d M (pc, lv, .int len :: .int dp :: .ref R2 :: .int sp :: .ref R1 :: st, h) Q := by
  subst hp; subst hR1; subst hR2
  obtain ⟨l0, hl0, hn0⟩ := sh_ia (h := h) (by rw [hI.1]; exact hs1)
  obtain ⟨l1, hl1, hn1⟩ := sh_ia (h := h) (by rw [hI.1]; exact hs2)
  have e1 : sp.toNatClampNeg = a.toNat := by show sp.toInt.toNat = _; rw [hsp]
  have e2 : dp.toNatClampNeg = b.toNat := by show dp.toInt.toNat = _; rw [hdp]
  have e3 : len.toNatClampNeg = c.toNat := by show len.toInt.toNat = _; rw [hln]
  have g1 : ¬ len < 0 := fun e => by have := Int32.lt_iff_toInt_lt.mp e; rw [hln, show Int32.toInt 0 = 0 from rfl] at this; omega
  have g2 : ¬ dp < 0 := fun e => by have := Int32.lt_iff_toInt_lt.mp e; rw [hdp, show Int32.toInt 0 = 0 from rfl] at this; omega
  have g3 : ¬ sp < 0 := fun e => by have := Int32.lt_iff_toInt_lt.mp e; rw [hsp, show Int32.toInt 0 = 0 from rfl] at this; omega
  have g4 : sp.toNatClampNeg + len.toNatClampNeg ≤ l0.length := by rw [e1, e3, hn0]; omega
  have g5 : dp.toNatClampNeg + len.toNatClampNeg ≤ l1.length := by rw [e2, e3, hn1]; omega
  have g6 : (t == 0 || im_bits l0) = true := by
    rcases hb with rfl | ⟨rfl, rfl, rfl⟩
    · rfl
    · rw [Bool.or_eq_true]
      right
      unfold im_bits
      rw [List.all_eq_true]
      intro x hx
      obtain ⟨q, hq, rfl⟩ := List.mem_iff_getElem.mp hx
      obtain ⟨y, hy, a1, a2, _⟩ := row_of hI hl0 hn0 ht1 hm1 (k := q) (by omega)
      rw [List.getElem?_eq_getElem hq] at hy
      cases hy
      rcases b01 (v := l0[q]) (by omega) with e | e <;> rw [e] <;> rfl
  obtain ⟨q, hq, hcell⟩ := im_ia_eq hl1
  have : q = i2 := by omega
  subst this
  have hil : q < h.length := (List.getElem?_eq_some_iff.mp hcell).1
  have hrd : ∀ m : Nat, rd (h.set q (.inl (t, .inl (im_cpy l0 l1 sp.toNatClampNeg dp.toNatClampNeg len.toNatClampNeg)))) q m = if b.toNat ≤ m ∧ m < b.toNat + c.toNat then rd h i1 (a.toNat + (m - b.toNat)) else rd h q m := by
    intro m
    rw [rd_eq hil, rd_ia hl0, rd_ia hl1]
    show ((im_cpy l0 l1 sp.toNatClampNeg dp.toNatClampNeg len.toNatClampNeg)[m]?).map Value.int = _
    rw [cpy_get g4 g5, e1, e2, e3]
    by_cases hw : b.toNat ≤ m ∧ m < b.toNat + c.toNat
    · rw [if_pos hw, if_pos hw]
    · rw [if_neg hw, if_neg hw]
  have hne : ∀ j m : Nat, j ≠ q → rd (h.set q (.inl (t, .inl (im_cpy l0 l1 sp.toNatClampNeg dp.toNatClampNeg len.toNatClampNeg)))) j m = rd h j m := fun j m hj => rd_ne hj
  have hT : tI (h.set q (.inl (t, .inl (im_cpy l0 l1 sp.toNatClampNeg dp.toNatClampNeg len.toNatClampNeg)))) := by
    refine ⟨?_, fun j m u hu => ?_, tO_ne hI.2.2 hne hso⟩
    · rw [sh_set hcell (by simp [im_sh, im_cpy_len l0 l1 _ _ _ g4 g5])]
      exact hI.1
    · by_cases hj : j = q
      · subst hj
        rw [hrd m]
        by_cases hw : b.toNat ≤ m ∧ m < b.toNat + c.toNat
        · rw [if_pos hw]
          have e5 : tq tT j m = some (.inl (lo, hi, ho)) := tq_row ht2 (by omega)
          rw [e5] at hu
          cases hu
          exact hI.2.1 i1 _ _ (tq_row ht1 (by omega))
        · rw [if_neg hw]
          exact hI.2.1 j m u hu
      · rw [hne j m hj]
        exact hI.2.1 j m u hu
  refine evp (fun r => ev_step (st_at ha ?_)) (k _ hT (fun m hm1 hm2 => ?_) (fun j m hjm => ?_))
  · show im_copy pc lv (.int len :: .int dp :: .ref (16 + q) :: .int sp :: .ref (16 + i1) :: st) h t = _
    unfold im_copy
    simp only [im_1i, im_1r, Option.bind_some, hl0, hl1]
    rw [if_pos (by simp only [Bool.and_eq_true, Bool.not_eq_true', decide_eq_false_iff_not, decide_eq_true_eq]; exact ⟨⟨⟨⟨⟨⟨g1, g2⟩, g3⟩, g4⟩, g5⟩, g6⟩, hc⟩), show 16 + q - 16 = q by omega]
    rfl
  · rw [hrd m, if_pos (by omega)]
  · by_cases hj : j = q
    · subst hj
      rw [hrd m, if_neg (by omega)]
    · exact hne j m hj
theorem fr_cp {F : List (Nat × Nat × Nat)} {h0 h h2 : im_H} {i a b : Nat} {lo hi : Int} (hf : fr F h0 h) (hu : ∀ j q : Nat, (j ≠ i ∨ (q : Int) < lo ∨ lo + hi ≤ q) → rd h2 j q = rd h j q) (hm : (i, a, b) ∈ F) (ha : (a : Int) ≤ lo) (hb : lo + hi ≤ b + 1) : fr F h0 h2 := by
  intro j m hjm
  rw [hu j m ?_]
  · exact hf j m hjm
  · by_cases hj : j = i
    · refine Or.inr ?_
      by_cases hw : (m : Int) < lo
      · exact Or.inl hw
      · by_cases hw2 : lo + hi ≤ m
        · exact Or.inr hw2
        · exfalso
          subst hj
          rw [inF_of hm (by omega) (by omega)] at hjm
          cases hjm
    · exact Or.inl hj
/-! texts -/
section TX
variable {K : im_K} {d : Nat} {M : im_M} {pc p2 : Nat} {lv : im_L} {st : List Value} {h : im_H} {Q : Option Value → im_H → Prop}
theorem te_txl {idx x1 R : Nat} {l : List Int32} {x : Int32} (ha : im_at M pc = some (.invokevirtual idx, [0, 1, 0, 0, x1])) (hp : pc + 3 = p2) (hR : 6 ≤ R) (hc : im_cat st = true) (hl : K.2.2.2[R - 6]? = some l) (hx : Int32.ofNat l.length = x) (k : EvP K d M (p2, lv, .int x :: st, h) Q) : EvP K d M (pc, lv, .ref R :: st, h) Q := by
  subst hp; subst hx
  refine evp (fun r => ev_step (st_at ha ?_)) k
  show (if 6 ≤ R ∧ im_cat st then (K.2.2.2[R - 6]?).bind fun l => im_nx (pc + 3) lv (.int (Int32.ofNat l.length) :: st) h else none) = _
  rw [if_pos ⟨hR, hc⟩, hl]
  rfl
theorem te_txc {idx x1 R n : Nat} {l : List Int32} {j : Int32} {lo hi : Int} (ha : im_at M pc = some (.invokevirtual idx, [0, 2, 1, 0, x1])) (hp : pc + 3 = p2) (hR : 6 ≤ R) (hc : im_cat st = true) (hl : K.2.2.2[R - 6]? = some l) (hb : ∀ k, k < n → lo ≤ (l.getD k 0).toInt ∧ (l.getD k 0).toInt ≤ hi) (hn : l.length = n) (h0 : 0 ≤ j.toInt) (h1 : j.toInt < n) (k : ∀ y : Int32, lo ≤ y.toInt → y.toInt ≤ hi → l.getD j.toInt.toNat 0 = y → EvP K d M (p2, lv, .int y :: st, h) Q) : EvP K d M (pc, lv, .int j :: .ref R :: st, h) Q := by
  subst hp
  have hk : j.toInt.toNat < n := by omega
  refine evp (fun r => ev_step (st_at ha ?_)) (k _ (hb _ hk).1 (hb _ hk).2 rfl)
  show (if 6 ≤ R ∧ im_cat st then (K.2.2.2[R - 6]?).bind fun l => if im_in j l.length then im_nx (pc + 3) lv (.int (l.getD j.toNatClampNeg 0) :: st) h else none else none) = _
  rw [if_pos ⟨hR, hc⟩, hl]
  simp only [Option.bind_some]
  rw [if_pos (in_at hn h0 (by omega))]
  rfl
end TX
