/-! orders of six places: all unlike, the next one greater -/
def prm (n t0 t1 t2 t3 t4 t5 : Int) : Prop := (0 < n → 0 ≤ t0 ∧ t0 < n) ∧ (1 < n → 0 ≤ t1 ∧ t1 < n ∧ t0 ≠ t1) ∧ (2 < n → 0 ≤ t2 ∧ t2 < n ∧ t0 ≠ t2 ∧ t1 ≠ t2) ∧ (3 < n → 0 ≤ t3 ∧ t3 < n ∧ t0 ≠ t3 ∧ t1 ≠ t3 ∧ t2 ≠ t3) ∧ (4 < n → 0 ≤ t4 ∧ t4 < n ∧ t0 ≠ t4 ∧ t1 ≠ t4 ∧ t2 ≠ t4 ∧ t3 ≠ t4) ∧ (5 < n → 0 ≤ t5 ∧ t5 < n ∧ t0 ≠ t5 ∧ t1 ≠ t5 ∧ t2 ≠ t5 ∧ t3 ≠ t5 ∧ t4 ≠ t5)
def lexV (t0 t1 t2 t3 t4 t5 : Int) : Int := 7776 * t0 + 1296 * t1 + 216 * t2 + 36 * t3 + 6 * t4 + t5
theorem allB_prm {h : im_H} {t0 t1 t2 t3 t4 t5 : Int32} {n : Int} (e0 : rd h 199 (Int32.toInt 0).toNat = some (.int t0)) (e1 : rd h 199 (Int32.toInt 1).toNat = some (.int t1)) (e2 : rd h 199 (Int32.toInt 2).toNat = some (.int t2)) (e3 : rd h 199 (Int32.toInt 3).toNat = some (.int t3)) (e4 : rd h 199 (Int32.toInt 4).toNat = some (.int t4)) (e5 : rd h 199 (Int32.toInt 5).toNat = some (.int t5)) (hp : prm n t0.toInt t1.toInt t2.toInt t3.toInt t4.toInt t5.toInt) (hn : n ≤ 6) : allB h 199 0 n (n - 1) := by
  intro q hq
  unfold prm at hp
  rcases (show q = 0 ∨ q = 1 ∨ q = 2 ∨ q = 3 ∨ q = 4 ∨ q = 5 by omega) with rfl | rfl | rfl | rfl | rfl | rfl
  · exact ⟨t0, e0, by omega, by omega⟩
  · exact ⟨t1, e1, by omega, by omega⟩
  · exact ⟨t2, e2, by omega, by omega⟩
  · exact ⟨t3, e3, by omega, by omega⟩
  · exact ⟨t4, e4, by omega, by omega⟩
  · exact ⟨t5, e5, by omega, by omega⟩
