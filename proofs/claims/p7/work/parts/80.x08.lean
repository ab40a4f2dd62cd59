/-! the tables are what the class files say: a long body, by ranges -/
def im_okR (ms : List im_M) (M : im_M) (a b : Nat) : Bool := (List.range b).all (fun i => match M.2.2.2.2.2.2.2.2[a + i]? with
  | some l => l.all (fun q => im_okI ms M q.1 q.2)
  | none => true)
theorem im_okC_of {ms : List im_M} {M : im_M} {b : Nat} (k : Nat) (hl : M.2.2.2.2.2.2.2.2.length ≤ b * k) (hb : 0 < b) (h : ∀ i, i < k → im_okR ms M (b * i) b = true) : im_okC ms M = true := by
  refine List.all_eq_true.mpr fun l hm => ?_
  obtain ⟨n, hn, rfl⟩ := List.mem_iff_getElem.mp hm
  have h1 : n / b < k := (Nat.div_lt_iff_lt_mul hb).mpr (by rw [Nat.mul_comm]; omega)
  have h2 := List.all_eq_true.mp (h (n / b) h1) (n % b) (List.mem_range.mpr (Nat.mod_lt _ hb))
  rw [Nat.div_add_mod, List.getElem?_eq_getElem hn] at h2
  exact h2
theorem orX12_init_0 : im_okR im_ms mX12_init (24 * 0) 24 = true := by decide +kernel
