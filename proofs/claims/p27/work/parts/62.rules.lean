/-! RULES over the invariant -/
/-- in each ORDER's lines, as far as a line's tests are counted, a test's field is one -/
def tO (h : im_H) : Prop := ∀ (o l i : Nat) (c f : Int32), o ∈ [98, 105, 112, 119, 126, 133] → l < 8 → rd h (o + 3) l = some (.int c) → (i : Int) < c.toInt → i < 3 → rd h (o + 4) (3 * l + i) = some (.int f) → 0 ≤ f.toInt
def spc (i : Nat) : Bool := decide (i ∈ [101, 102, 108, 109, 115, 116, 122, 123, 129, 130, 136, 137])
theorem tO_up {h h2 : im_H} {i k : Nat} {v : Value} (hO : tO h) (hu : up h h2 i k v) (hs : spc i = false) : tO h2 := by
  intro o l m c f ho hl hc hm h3 hf
  have hs2 : i ∉ [101, 102, 108, 109, 115, 116, 122, 123, 129, 130, 136, 137] := by simpa [spc] using hs
  have e1 : o + 3 ≠ i := by
    intro e
    apply hs2
    rw [← e]
    simp only [List.mem_cons, List.not_mem_nil, or_false] at ho ⊢
    omega
  have e2 : o + 4 ≠ i := by
    intro e
    apply hs2
    rw [← e]
    simp only [List.mem_cons, List.not_mem_nil, or_false] at ho ⊢
    omega
  rw [hu.2 _ _ (Or.inl e1)] at hc
  rw [hu.2 _ _ (Or.inl e2)] at hf
  exact hO o l m c f ho hl hc hm h3 hf
def tI (h : im_H) : Prop := im_shs h = tS ∧ (∀ i k t, tq tT i k = some t → ∃ v, rd h i k = some v ∧ okV t v) ∧ tO h
theorem up_of {h : im_H} {i k : Nat} {e e2 : im_E} {v : Value} (he : h[i]? = some e) (h1 : rdE e2 k = some v) (h2 : ∀ m, m ≠ k → rdE e2 m = rdE e m) : up h (h.set i e2) i k v := by
  have hi : i < h.length := (List.getElem?_eq_some_iff.mp he).1
  refine ⟨by rw [rd_eq hi]; exact h1, fun j m hjm => ?_⟩
  by_cases hj : j = i
  · subst hj
    rw [rd_eq hi, h2 m (by rcases hjm with h | h; exact absurd rfl h; exact h)]
    unfold rd
    rw [he]
    rfl
  · exact rd_ne hj
theorem tI_stO {h : im_H} {i k : Nat} {e e2 : im_E} {v : Value} (hI : tI h) (he : h[i]? = some e) (hs : im_sh e2 = im_sh e) (h1 : rdE e2 k = some v) (h2 : ∀ m, m ≠ k → rdE e2 m = rdE e m) (ho : ∀ t, tq tT i k = some t → okV t v) (hO : up h (h.set i e2) i k v → tO (h.set i e2)) : tI (h.set i e2) ∧ up h (h.set i e2) i k v := by
  have hu := up_of he h1 h2
  refine ⟨⟨by rw [sh_set he hs]; exact hI.1, fun j m t ht => ?_, hO hu⟩, hu⟩
  by_cases hjm : j = i ∧ m = k
  · obtain ⟨rfl, rfl⟩ := hjm
    exact ⟨v, hu.1, ho t ht⟩
  · rw [hu.2 j m (by by_cases hj : j = i; exact Or.inr (fun hm => hjm ⟨hj, hm⟩); exact Or.inl hj)]
    exact hI.2.1 j m t ht
theorem tI_st {h : im_H} {i k : Nat} {e e2 : im_E} {v : Value} (hI : tI h) (he : h[i]? = some e) (hs : im_sh e2 = im_sh e) (h1 : rdE e2 k = some v) (h2 : ∀ m, m ≠ k → rdE e2 m = rdE e m) (ho : ∀ t, tq tT i k = some t → okV t v) (hsp : spc i = false) : tI (h.set i e2) ∧ up h (h.set i e2) i k v := tI_stO hI he hs h1 h2 ho (fun hu => tO_up hI.2.2 hu hsp)
/-- nothing changes but the places of F (cell, from, to) -/
def inF (F : List (Nat × Nat × Nat)) (i k : Nat) : Bool := F.any (fun q => decide (q.1 = i) && decide (q.2.1 ≤ k) && decide (k ≤ q.2.2))
def fr (F : List (Nat × Nat × Nat)) (h h2 : im_H) : Prop := ∀ i k, inF F i k = false → rd h2 i k = rd h i k
theorem fr_rf {F : List (Nat × Nat × Nat)} {h : im_H} : fr F h h := fun _ _ _ => rfl
theorem inF_of {F : List (Nat × Nat × Nat)} {i a b k : Nat} (hm : (i, a, b) ∈ F) (ha : a ≤ k) (hb : k ≤ b) : inF F i k = true := by
  unfold inF
  rw [List.any_eq_true]
  exact ⟨_, hm, by simp [ha, hb]⟩
theorem fr_up {F : List (Nat × Nat × Nat)} {h0 h h2 : im_H} {i k a b : Nat} {v : Value} (hf : fr F h0 h) (hu : up h h2 i k v) (hm : (i, a, b) ∈ F) (ha : a ≤ k) (hb : k ≤ b) : fr F h0 h2 := by
  intro j m hjm
  rw [hu.2 j m ?_]
  · exact hf j m hjm
  · by_cases hj : j = i
    · refine Or.inr fun hm2 => ?_
      subst hj; subst hm2
      rw [inF_of hm ha hb] at hjm
      cases hjm
    · exact Or.inl hj
def subF (F1 F : List (Nat × Nat × Nat)) : Bool := F1.all (fun q => F.any (fun p => decide (p.1 = q.1) && decide (p.2.1 ≤ q.2.1) && decide (q.2.2 ≤ p.2.2)))
theorem inF_sub {F1 F : List (Nat × Nat × Nat)} (hs : subF F1 F = true) {i k : Nat} (h : inF F i k = false) : inF F1 i k = false := by
  cases h1 : inF F1 i k with
  | false => rfl
  | true =>
    exfalso
    unfold inF at h1
    obtain ⟨q, hq, h2⟩ := List.any_eq_true.mp h1
    obtain ⟨p, hp, h3⟩ := List.any_eq_true.mp (List.all_eq_true.mp hs q hq)
    simp only [Bool.and_eq_true, decide_eq_true_eq] at h2 h3
    have : inF F i k = true := by
      unfold inF
      rw [List.any_eq_true]
      refine ⟨p, hp, ?_⟩
      simp only [Bool.and_eq_true, decide_eq_true_eq]
      omega
    rw [this] at h
    cases h
theorem fr_tr {F1 F : List (Nat × Nat × Nat)} {h0 h h2 : im_H} (hf : fr F h0 h) (h1 : fr F1 h h2) (hs : subF F1 F = true) : fr F h0 h2 := fun i k hk => (h1 i k (inF_sub hs hk)).trans (hf i k hk)
section TR
variable {K : im_K} {d : Nat} {M : im_M} {pc p2 : Nat} {lv lv2 : im_L} {st : List Value} {h : im_H} {Q : Option Value → im_H → Prop}
theorem tg_e {idx a b x R i n : Nat} {v : Value} (ha : im_at M pc = some (.getfield idx, [a, b, 0, 0, x])) (hp : pc + 3 = p2) (hI : tI h) (hR : R = 16 + i) (hs : tS[i]? = some (3, a, n)) (e : rd h i b = some v) (k : EvP K d M (p2, lv, v :: st, h) Q) : EvP K d M (pc, lv, .ref R :: st, h) Q := by
  subst hp; subst hR
  obtain ⟨fs, ho, hl⟩ := sh_obj (h := h) (by rw [hI.1]; exact hs)
  exact evp (fun r => st_get ha ho (by rw [← rd_obj ho]; exact e)) k
theorem tg_i {idx a b x R i n : Nat} {lo hi ho : Int} (ha : im_at M pc = some (.getfield idx, [a, b, 0, 0, x])) (hp : pc + 3 = p2) (hI : tI h) (hR : R = 16 + i) (hs : tS[i]? = some (3, a, n)) (ht : tq tT i b = some (.inl (lo, hi, ho))) (k : ∀ y : Int32, lo ≤ y.toInt → y.toInt ≤ hi → rd h i b = some (.int y) → EvP K d M (p2, lv, .int y :: st, h) Q) : EvP K d M (pc, lv, .ref R :: st, h) Q := by
  obtain ⟨v, hv, y, rfl, h1, h2, _⟩ := hI.2.1 i b _ ht
  exact tg_e ha hp hI hR hs hv (k y h1 h2 hv)
theorem tg_r {idx a b x R i n r : Nat} (ha : im_at M pc = some (.getfield idx, [a, b, 0, 0, x])) (hp : pc + 3 = p2) (hI : tI h) (hR : R = 16 + i) (hs : tS[i]? = some (3, a, n)) (ht : tq tT i b = some (.inr (.inl r))) (k : EvP K d M (p2, lv, .ref r :: st, h) Q) : EvP K d M (pc, lv, .ref R :: st, h) Q := by
  obtain ⟨v, hv, rfl⟩ := hI.2.1 i b _ ht
  exact tg_e ha hp hI hR hs hv k
theorem tg_n {idx a b x R i n : Nat} {rs : List Nat} (ha : im_at M pc = some (.getfield idx, [a, b, 0, 0, x])) (hp : pc + 3 = p2) (hI : tI h) (hR : R = 16 + i) (hs : tS[i]? = some (3, a, n)) (ht : tq tT i b = some (.inr (.inr rs))) (k1 : rd h i b = some .null → EvP K d M (p2, lv, .null :: st, h) Q) (k2 : ∀ r, r ∈ rs → rd h i b = some (.ref r) → EvP K d M (p2, lv, .ref r :: st, h) Q) : EvP K d M (pc, lv, .ref R :: st, h) Q := by
  obtain ⟨v, hv, rfl | ⟨r, hr, rfl⟩⟩ := hI.2.1 i b _ ht
  · exact tg_e ha hp hI hR hs hv (k1 hv)
  · exact tg_e ha hp hI hR hs hv (k2 r hr hv)
theorem tp_f {idx a b x R i n : Nat} {ty : FieldType} {v : Value} (ha : im_at M pc = some (.putfield idx, [a, b, 0, 0, x])) (hp : pc + 3 = p2) (hI : tI h) (hR : R = 16 + i) (hs : tS[i]? = some (3, a, n)) (hb : b < n) (hK : ((K.2.1[a]?).bind fun t => t[b]?) = some ty) (hf : im_fit ty v = true) (ho : ∀ t, tq tT i b = some t → okV t v) (hsp : spc i = false) (k : ∀ h2, tI h2 → up h h2 i b v → EvP K d M (p2, lv, st, h2) Q) : EvP K d M (pc, lv, v :: .ref R :: st, h) Q := by
  subst hp; subst hR
  obtain ⟨fs, hob, hl⟩ := sh_obj (h := h) (by rw [hI.1]; exact hs)
  obtain ⟨j, hj, hc⟩ := im_obj_eq hob
  have : j = i := by omega
  subst this
  have hbl : b < fs.length := by omega
  obtain ⟨h1, h2⟩ := tI_st (e2 := .inr (a, fs.set b v)) (k := b) (v := v) hI hc (by simp [im_sh]) (by show (fs.set b v)[b]? = _; rw [List.getElem?_set_self hbl]) (fun m hm => by show (fs.set b v)[m]? = fs[m]?; rw [List.getElem?_set_ne (fun e => hm e.symm)]) ho hsp
  exact evp (fun r => st_put ha rfl hob hK hf hbl) (k _ h1 h2)
theorem tl_e {R i n t : Nat} {j y : Int32} (ht : t = 0 ∨ t = 1) (ha : im_at M pc = some (if t = 0 then .iaload else .baload, [])) (hp : pc + 1 = p2) (hI : tI h) (hR : R = 16 + i) (hs : tS[i]? = some (0, t, n)) (h0 : 0 ≤ j.toInt) (h1 : j.toInt < n) (e : rd h i j.toInt.toNat = some (.int y)) (k : EvP K d M (p2, lv, .int y :: st, h) Q) : EvP K d M (pc, lv, .int j :: .ref R :: st, h) Q := by
  subst hp; subst hR
  obtain ⟨l, hl, hn⟩ := sh_ia (h := h) (by rw [hI.1]; exact hs)
  have hy : l.getD j.toNatClampNeg 0 = y := by
    rw [rd_ia hl] at e
    rw [show j.toNatClampNeg = j.toInt.toNat from rfl, List.getD_eq_getElem?_getD]
    cases hq : l[j.toInt.toNat]? with
    | none => rw [hq] at e; cases e
    | some z => rw [hq] at e; cases e; rfl
  rcases ht with rfl | rfl
  · exact evp (fun r => st_iald ha (by omega) hl (in_at hn h0 (by omega)) hy) k
  · exact evp (fun r => st_bald ha hl (in_at hn h0 (by omega)) hy) k
theorem tl_i {R i n m : Nat} {j : Int32} {lo hi ho : Int} (ha : im_at M pc = some (.iaload, [])) (hp : pc + 1 = p2) (hI : tI h) (hR : R = 16 + i) (hs : tS[i]? = some (0, 0, n)) (ht : tT.getD i [] = [(0, m, .inl (lo, hi, ho))]) (hm : m + 1 = n) (h0 : 0 ≤ j.toInt) (h1 : j.toInt < n) (k : ∀ y : Int32, lo ≤ y.toInt → y.toInt ≤ hi → y.toInt ≠ ho → rd h i j.toInt.toNat = some (.int y) → EvP K d M (p2, lv, .int y :: st, h) Q) : EvP K d M (pc, lv, .int j :: .ref R :: st, h) Q := by
  obtain ⟨v, hv, y, rfl, a1, a2, a3⟩ := hI.2.1 i j.toInt.toNat _ (tq_row ht (by omega))
  exact tl_e (t := 0) (Or.inl rfl) ha hp hI hR hs h0 h1 hv (k y a1 a2 a3 hv)
theorem tl_b {R i n m : Nat} {j : Int32} (ha : im_at M pc = some (.baload, [])) (hp : pc + 1 = p2) (hI : tI h) (hR : R = 16 + i) (hs : tS[i]? = some (0, 1, n)) {ho : Int} (ht : tT.getD i [] = [(0, m, .inl (0, 1, ho))]) (hm : m + 1 = n) (h0 : 0 ≤ j.toInt) (h1 : j.toInt < n) (k : ∀ y : Int32, (y.toInt = 0 ∨ y.toInt = 1) → rd h i j.toInt.toNat = some (.int y) → EvP K d M (p2, lv, .int y :: st, h) Q) : EvP K d M (pc, lv, .int j :: .ref R :: st, h) Q := by
  obtain ⟨v, hv, y, rfl, a1, a2, a3⟩ := hI.2.1 i j.toInt.toNat _ (tq_row ht (by omega))
  exact tl_e (t := 1) (Or.inr rfl) ha hp hI hR hs h0 h1 hv (k y (by omega) hv)
theorem ts_st {i n t : Nat} {l : List Int32} {j x : Int32} (hI : tI h) (hl : im_ia h (16 + i) t = some l) (hn : l.length = n) (h0 : 0 ≤ j.toInt) (h1 : j.toInt < n) (ho : ∀ u, tq tT i j.toInt.toNat = some u → okV u (.int x)) (hsp : spc i = false) : tI (h.set i (.inl (t, .inl (l.set j.toNatClampNeg x)))) ∧ up h (h.set i (.inl (t, .inl (l.set j.toNatClampNeg x)))) i j.toInt.toNat (.int x) := by
  obtain ⟨q, hq, hc⟩ := im_ia_eq hl
  have : q = i := by omega
  subst this
  refine tI_st hI hc (by simp [im_sh]) ?_ ?_ ho hsp
  · show ((l.set j.toInt.toNat x)[j.toInt.toNat]?).map Value.int = _
    rw [List.getElem?_set_self (by omega)]
    rfl
  · intro m hm
    show ((l.set j.toInt.toNat x)[m]?).map Value.int = (l[m]?).map Value.int
    rw [List.getElem?_set_ne (fun e => hm e.symm)]
theorem ts_i {R i n m : Nat} {j x : Int32} {lo hi ho : Int} (ha : im_at M pc = some (.iastore, [])) (hp : pc + 1 = p2) (hI : tI h) (hR : R = 16 + i) (hs : tS[i]? = some (0, 0, n)) (ht : tT.getD i [] = [(0, m, .inl (lo, hi, ho))]) (hm : m + 1 = n) (h0 : 0 ≤ j.toInt) (h1 : j.toInt < n) (b0 : lo ≤ x.toInt) (b1 : x.toInt ≤ hi) (b2 : x.toInt ≠ ho) (hsp : spc i = false) (k : ∀ h2, tI h2 → up h h2 i j.toInt.toNat (.int x) → EvP K d M (p2, lv, st, h2) Q) : EvP K d M (pc, lv, .int x :: .int j :: .ref R :: st, h) Q := by
  subst hp; subst hR
  obtain ⟨l, hl, hn⟩ := sh_ia (h := h) (by rw [hI.1]; exact hs)
  obtain ⟨h3, h4⟩ := ts_st (x := x) hI hl hn h0 h1 (fun u hu => by rw [tq_row ht (by omega)] at hu; cases hu; exact ⟨x, rfl, b0, b1, b2⟩) hsp
  exact evp (fun r => st_iast ha rfl hl (in_at hn h0 (by omega))) (k _ h3 h4)
theorem ts_b {R i n m : Nat} {j x : Int32} {ho : Int} (ha : im_at M pc = some (.bastore, [])) (hp : pc + 1 = p2) (hI : tI h) (hR : R = 16 + i) (hs : tS[i]? = some (0, 1, n)) (ht : tT.getD i [] = [(0, m, .inl (0, 1, ho))]) (hm : m + 1 = n) (h0 : 0 ≤ j.toInt) (h1 : j.toInt < n) (b0 : x = 0 ∨ x = 1) (b2 : x.toInt ≠ ho) (hsp : spc i = false) (k : ∀ h2, tI h2 → up h h2 i j.toInt.toNat (.int x) → EvP K d M (p2, lv, st, h2) Q) : EvP K d M (pc, lv, .int x :: .int j :: .ref R :: st, h) Q := by
  subst hp; subst hR
  obtain ⟨l, hl, hn⟩ := sh_ia (h := h) (by rw [hI.1]; exact hs)
  have hb : 0 ≤ x.toInt ∧ x.toInt ≤ 1 := by rcases b0 with rfl | rfl <;> decide
  obtain ⟨h3, h4⟩ := ts_st (x := x) hI hl hn h0 h1 (fun u hu => by rw [tq_row ht (by omega)] at hu; cases hu; exact ⟨x, rfl, hb.1, hb.2, b2⟩) hsp
  exact evp (fun r => st_bast ha rfl hl (in_at hn h0 (by omega)) b0) (k _ h3 h4)
/-- a row of references that never changes -/
theorem tl_q {R i n t : Nat} {j : Int32} {f : Nat → Nat} (ha : im_at M pc = some (.aaload, [])) (hp : pc + 1 = p2) (hI : tI h) (hR : R = 16 + i) (hs : tS[i]? = some (2, t, n)) (ht : 3 ≤ t ∧ t < 8) (hq : ∀ k, k < n → tq tT i k = some (.inr (.inl (f k)))) (h0 : 0 ≤ j.toInt) (h1 : j.toInt < n) (k : EvP K d M (p2, lv, .ref (f j.toInt.toNat) :: st, h) Q) : EvP K d M (pc, lv, .int j :: .ref R :: st, h) Q := by
  subst hp; subst hR
  have hk : j.toInt.toNat < n := by omega
  obtain ⟨v, hv, rfl⟩ := hI.2.1 i j.toInt.toNat _ (hq _ hk)
  have hsh : (im_shs h)[i]? = some (2, t, n) := by rw [hI.1]; exact hs
  unfold im_shs at hsh
  rw [List.getElem?_map] at hsh
  unfold rd at hv
  cases hx : h[i]? with
  | none => rw [hx] at hsh; cases hsh
  | some x =>
    rw [hx] at hsh hv
    rcases x with ⟨t2, l | l | l⟩ | ⟨c2, fs⟩
    · simp [im_sh] at hsh
    · simp [im_sh] at hsh
    · simp [im_sh] at hsh
      obtain ⟨rfl, hn⟩ := hsh
      have hqa : im_qa h (16 + i) = some (t2, l) := by
        unfold im_qa
        rw [if_pos (by omega), show 16 + i - 16 = i by omega, hx]
      have hv2 : im_rf (l.getD j.toNatClampNeg none) = .ref (f j.toInt.toNat) := by
        have hv3 : (l[j.toInt.toNat]?).map im_rf = some (.ref (f j.toInt.toNat)) := hv
        rw [show j.toNatClampNeg = j.toInt.toNat from rfl, List.getD_eq_getElem?_getD]
        cases hw : l[j.toInt.toNat]? with
        | none => rw [hw] at hv3; cases hv3
        | some z => rw [hw] at hv3; exact Option.some.inj hv3
      exact evp (fun r => st_aald ha hqa ⟨in_at hn h0 (by omega), ht⟩ hv2) k
    · simp [im_sh] at hsh
/-- a static row -/
theorem tl_s {R n : Nat} {l : List Int32} {j : Int32} {lo hi : Int} (ha : im_at M pc = some (.iaload, [])) (hp : pc + 1 = p2) (hR : ¬ 16 ≤ R) (hl : K.1[R]? = some l) (hn : l.length = n) (hb : ∀ k, k < n → lo ≤ (l.getD k 0).toInt ∧ (l.getD k 0).toInt ≤ hi) (h0 : 0 ≤ j.toInt) (h1 : j.toInt < n) (k : ∀ y : Int32, lo ≤ y.toInt → y.toInt ≤ hi → l.getD j.toInt.toNat 0 = y → EvP K d M (p2, lv, .int y :: st, h) Q) : EvP K d M (pc, lv, .int j :: .ref R :: st, h) Q := by
  subst hp
  have hk : j.toInt.toNat < n := by omega
  exact evp (fun r => st_isld ha hR hl (in_at hn h0 (by omega)) rfl) (k _ (hb _ hk).1 (hb _ hk).2 rfl)
end TR
