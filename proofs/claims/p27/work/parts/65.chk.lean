/-! the heap behind the constructors meets the spec -/
def okB (t : tv) (v : Option Value) : Bool := match t, v with
  | .inl (lo, hi, ho), some (.int x) => decide (lo ≤ x.toInt) && decide (x.toInt ≤ hi) && decide (x.toInt ≠ ho)
  | .inr (.inl r), some (.ref q) => decide (q = r)
  | .inr (.inr _), some .null => true
  | .inr (.inr rs), some (.ref q) => decide (q ∈ rs)
  | _, _ => false
theorem okB_ok {t : tv} {v : Option Value} (h : okB t v = true) : ∃ w, v = some w ∧ okV t w := by
  rcases t with ⟨lo, hi, ho⟩ | r | rs
  · cases v with
    | none => cases h
    | some w =>
      cases w <;> first | (cases h; done) | skip
      rename_i x
      simp only [okB, Bool.and_eq_true, decide_eq_true_eq] at h
      exact ⟨_, rfl, x, rfl, h.1.1, h.1.2, h.2⟩
  · cases v with
    | none => cases h
    | some w =>
      cases w <;> first | (cases h; done) | skip
      simp only [okB, decide_eq_true_eq] at h
      exact ⟨_, rfl, by rw [h]; rfl⟩
  · cases v with
    | none => cases h
    | some w =>
      cases w <;> first | (cases h; done) | skip
      · exact ⟨_, rfl, Or.inl rfl⟩
      · simp only [okB, decide_eq_true_eq] at h
        exact ⟨_, rfl, Or.inr ⟨_, h, rfl⟩⟩
def chkT (h : im_H) : Bool := (List.range 200).all fun i => (tT.getD i []).all fun q => (List.range (q.2.1 + 1)).all fun k => decide (k < q.1) || okB q.2.2 (rd h i k)
theorem tI_of {h : im_H} (hs : im_shs h = tS) (hc : chkT h = true) (hO : tO h) : tI h := by
  refine ⟨hs, fun i k t ht => ?_, hO⟩
  unfold tq at ht
  obtain ⟨q, hq, rfl⟩ := Option.map_eq_some_iff.mp ht
  have hi : i < 200 := by
    by_cases h2 : i < 200
    · exact h2
    · have h3 : tT.getD i [] = [] := by
        rw [List.getD_eq_getElem?_getD, List.getElem?_eq_none (by show tT.length ≤ i; exact Nat.le_trans (show tT.length ≤ 200 by decide +kernel) (Nat.le_of_not_lt h2))]
        rfl
      rw [h3] at hq
      cases hq
  have hp := List.find?_some hq
  have hm := List.mem_of_find?_eq_some hq
  simp only [Bool.and_eq_true, decide_eq_true_eq] at hp
  have h1 := List.all_eq_true.mp (List.all_eq_true.mp (List.all_eq_true.mp hc i (List.mem_range.mpr hi)) q hm) k (List.mem_range.mpr (by omega))
  rw [Bool.or_eq_true] at h1
  rcases h1 with h1 | h1
  · rw [decide_eq_true_eq] at h1; omega
  · exact okB_ok h1
theorem tO_hh : tO hh := by
  have e : ∀ o ∈ [98, 105, 112, 119, 126, 133], ∀ l, l < 8 → rd hh (o + 3) l = some (.int 0) := by decide +kernel
  intro o l i c f ho hl hc hi h3 hf
  rw [e o ho l hl] at hc
  cases hc
  exact absurd hi (by rw [show Int32.toInt 0 = 0 from rfl]; omega)
theorem tI_hh : tI hh := tI_of (by decide +kernel) (by decide +kernel) tO_hh
