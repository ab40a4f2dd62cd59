set_option maxRecDepth 20000 in
theorem whole_start {p : Program} {e : Env} {s : State} {m : MethodId} {below : List Frame} {meth : Method} {c : Code} (l : Launch) {b L : Nat} {xs : Nat → Int32} (hL : L ≤ 3072) (C0 : lw_At p s m meth c b L xs) : W p l e room_1 s m #[Value.ref b] below meth c s.heap [] 0 0 (lw_Z below #[Value.ref b] s) (entryFrame m ([Value.ref b] : List Value).toArray 4) := by
  obtain ⟨v, h2, ⟨f0, h0⟩, rfl, I2⟩ := lk_in (lk_loop (l := (List.range L).map xs) (by rw [List.length_map, List.length_range]; omega) (by rw [List.length_map, List.length_range]; omega) 513 0 0 hh rfl (by rw [List.length_map, List.length_range]; omega) tI_hh rel_hh)
  have s2 : im_shs h2 = im_shs hh := I2.1.trans tS_hh.symm
  exact law_of_run l (by omega) C0 (d := 20) (f := f0) (n := f0) (h2 := h2) (by decide) (h0 f0 f0 (Nat.le_refl _) (Nat.le_refl _)) (by rw [im_shs_len s2]; exact hh_small.1) (by rw [im_shs_sl s2]; exact hh_small.2)
