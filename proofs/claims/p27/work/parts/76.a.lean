/-! the first numbers of a row lie within bounds -/
def allB (h : im_H) (c off : Nat) (n hi : Int) : Prop := ∀ q : Nat, (q : Int) < n → ∃ p : Int32, rd h c (off + q) = some (.int p) ∧ 0 ≤ p.toInt ∧ p.toInt ≤ hi
theorem allB_0 {h : im_H} {c off : Nat} {n hi : Int} (hn : n ≤ 0) : allB h c off n hi := fun q hq => by omega
theorem allB_s {h : im_H} {c off k : Nat} {n n2 hi : Int} {p : Int32} (ha : allB h c off n hi) (hk : (k : Int) = n) (h2 : n2 = n + 1) (e : rd h c (off + k) = some (.int p)) (h0 : 0 ≤ p.toInt) (h1 : p.toInt ≤ hi) : allB h c off n2 hi := by
  intro q hq
  by_cases hqk : q = k
  · subst hqk; exact ⟨p, e, h0, h1⟩
  · exact ha q (by omega)
theorem allB_le {h : im_H} {c off : Nat} {n n2 hi : Int} (ha : allB h c off n hi) (h2 : n2 ≤ n) : allB h c off n2 hi := fun q hq => ha q (by omega)
theorem allB_fr {h h2 : im_H} {c off : Nat} {n hi : Int} (ha : allB h c off n hi) (hf : ∀ q, rd h2 c q = rd h c q) : allB h2 c off n hi := fun q hq => by rw [hf]; exact ha q hq
theorem allB_at {h : im_H} {c off m : Nat} {n hi : Int} {y : Int32} (ha : allB h c off n hi) (k : Nat) (hk : (k : Int) < n) (hm : m = off + k) (e : rd h c m = some (.int y)) : 0 ≤ y.toInt ∧ y.toInt ≤ hi := by
  obtain ⟨p, e2, h0, h1⟩ := ha k hk
  subst hm
  rw [e] at e2
  cases e2
  exact ⟨h0, h1⟩
theorem int_inj {o : Option Value} {x y : Int32} (h1 : o = some (.int x)) (h2 : o = some (.int y)) : x = y := by
  rw [h1] at h2
  cases h2
  rfl
