def pulT_f (x1 n : Int32) (r : Nat → Int32) : Int32 := if 0 ≤ x1.toInt ∧ x1.toInt < n.toInt then r x1.toInt.toNat else -1
theorem pulT_e {x1 n m : Int32} {r s : Nat → Int32} (hn : n.toInt ≤ 6) (en : n = m) (er : ∀ k, k < 6 → r k = s k) : pulT_f x1 n r = pulT_f x1 m s := by
  subst en
  unfold pulT_f
  by_cases hc : 0 ≤ x1.toInt ∧ x1.toInt < n.toInt
  · rw [if_pos hc, if_pos hc, er _ (by omega)]
  · rw [if_neg hc, if_neg hc]
theorem pq_n6 {h : im_H} (hI : tI h) : (rv h 68 0).toInt ≤ 6 := by
  obtain ⟨_, e, y, w, a, b, _⟩ := hI.2.1 68 0 (.inl (0, 6, 9999999999)) rfl
  subst w
  rw [rv_of e]
  exact b
theorem pq_rd68 {h : im_H} (hI : tI h) (e : rv h 68 0 = rv h 148 41) : rd h 68 0 = rd h 148 41 := by
  obtain ⟨_, e1, y, w, _⟩ := hI.2.1 68 0 (.inl (0, 6, 9999999999)) rfl
  obtain ⟨_, e2, y2, w2, _⟩ := hI.2.1 148 41 (.inl (0, 6, 9999999999)) rfl
  subst w w2
  rw [rv_of e1, rv_of e2] at e
  rw [e1, e2, e]
theorem pq_rd69 {h : im_H} {k : Nat} (hI : tI h) (hk : k < 6) (e : rv h 69 k = rv h 183 k) : rd h 69 k = rd h 183 k := by
  obtain ⟨_, e1, y, w, _⟩ := hI.2.1 69 k (.inl ((-2147483648), 2147483647, 9999999999)) (tq_row rfl (by omega))
  obtain ⟨_, e2, y2, w2, _⟩ := hI.2.1 183 k (.inl ((-2147483648), 2147483647, 9999999999)) (tq_row rfl (by omega))
  subst w w2
  rw [rv_of e1, rv_of e2] at e
  rw [e1, e2, e]
