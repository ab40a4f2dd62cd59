set_option maxRecDepth 20000 in
theorem whole_start {p : Program} {e : Env} {s : State} {m : MethodId} {below : List Frame} {meth : Method} {c : Code} (l : Launch) {b L : Nat} {xs : Nat → Int32} (hL : L ≤ 6) (C0 : lw_At p s m meth c b L xs) : W p l e room_1 s m #[Value.ref b] below meth c s.heap [] 0 0 (lw_Z below #[Value.ref b] s) (entryFrame m ([Value.ref b] : List Value).toArray 4) := by
  obtain ⟨h2, s2, f0, h0⟩ := law_p1 (l := (List.range L).map xs) (by simpa using hL)
  exact law_of_run l (by omega) C0 (d := 20) (f := f0) (n := f0) (h2 := h2) (by decide) (h0 f0 f0 (Nat.le_refl _) (Nat.le_refl _)) (by rw [im_shs_len s2]; exact hh_small.1) (by rw [im_shs_sl s2]; exact hh_small.2)
