/-! THE LAW out of a run of the interpreter -/
theorem im_iret_inv {K : im_K} {M : im_M} {i : Instr} {a b w z pc : Nat} {lv : im_L} {st : List Value} {h : im_H} {v : Option Value} (hs : im_ins K M i a b w z pc lv st h = some (.inr (.inr v))) (hb : M.2.2.2.1 = some .boolean) : i = .ireturn ∧ ∃ x, v = some (.int x) ∧ st = [.int x] := by
  by_cases hi : im_isC i = false
  · exact absurd hs (im_nxs hi _)
  cases i
  case ireturn =>
    refine ⟨rfl, ?_⟩
    obtain ⟨u, h1, hs1⟩ := im_bd hs
    have e3 := im_1i_eq h1
    split at hs1
    · rename_i hr1 hr2
      cases hs1
      rw [hr2] at e3
      exact ⟨_, rfl, e3⟩
    · rename_i hr1 hr2
      obtain ⟨h01, hs2⟩ := im_ite _ hs1
      cases hs2
      rw [hr2] at e3
      exact ⟨_, rfl, e3⟩
    · cases hs1
  case lreturn =>
    obtain ⟨u, h1, hs1⟩ := im_bd hs
    split at hs1
    · rename_i hr1 hr2
      rw [hb] at hr1; cases hr1
    · cases hs1
  case return_ =>
    have hs : (match M.2.2.2.1, st with
      | none, [] => (some (.inr (.inr none)) : Option im_O)
      | _, _ => none) = some (Sum.inr (Sum.inr v)) := hs
    rw [hb] at hs
    cases hs
  case invokestatic idx =>
    exfalso
    rcases b with _ | _ | _ | _ | _ | _ | _ | b
    · obtain ⟨_, _, hs⟩ := im_bd hs
      obtain ⟨_, hs⟩ := im_ite _ hs
      cases hs
    · cases hs
    · cases hs
    · have hs : im_copy pc lv st h z = some (.inr (.inr v)) := hs
      obtain ⟨_, _, hs⟩ := im_bd hs
      obtain ⟨_, _, hs⟩ := im_bd hs
      obtain ⟨_, _, hs⟩ := im_bd hs
      obtain ⟨_, _, hs⟩ := im_bd hs
      obtain ⟨_, _, hs⟩ := im_bd hs
      obtain ⟨_, _, hs⟩ := im_bd hs
      obtain ⟨_, _, hs⟩ := im_bd hs
      obtain ⟨_, hs⟩ := im_ite _ hs
      exact absurd hs (nx_nx _)
    · cases hs
    · obtain ⟨_, _, hs⟩ := im_bd hs
      obtain ⟨_, _, hs⟩ := im_bd hs
      obtain ⟨_, hs⟩ := im_ite _ hs
      exact absurd hs (nx_nx _)
    · obtain ⟨_, _, hs⟩ := im_bd hs
      obtain ⟨_, _, hs⟩ := im_bd hs
      obtain ⟨_, hs⟩ := im_ite _ hs
      exact absurd hs (nx_nx _)
    · cases hs
  case invokespecial idx =>
    exfalso
    rcases b with _ | _ | _ | _ | _ | b
    · obtain ⟨_, _, hs⟩ := im_bd hs
      obtain ⟨_, _, hs⟩ := im_bd hs
      obtain ⟨_, hs⟩ := im_ite _ hs
      cases hs
    · cases hs
    · cases hs
    · cases hs
    · obtain ⟨r, h3, hs⟩ := im_bd hs
      obtain ⟨_, hs⟩ := im_ite _ hs
      exact absurd hs (nx_nx _)
    · cases hs
  case invokevirtual idx =>
    exfalso
    rcases b with _ | _ | _ | b
    · obtain ⟨_, _, hs⟩ := im_bd hs
      obtain ⟨_, _, hs⟩ := im_bd hs
      obtain ⟨_, _, hs⟩ := im_bd hs
      obtain ⟨_, hs⟩ := im_ite _ hs
      cases hs
    · obtain ⟨r, h3, hs⟩ := im_bd hs
      obtain ⟨_, hs⟩ := im_ite _ hs
      obtain ⟨_, _, hs⟩ := im_bd hs
      exact absurd hs (nx_nx _)
    · obtain ⟨r, h3, hs⟩ := im_bd hs
      obtain ⟨_, _, hs⟩ := im_bd hs
      obtain ⟨_, hs⟩ := im_ite _ hs
      obtain ⟨_, _, hs⟩ := im_bd hs
      obtain ⟨_, hs⟩ := im_ite _ hs
      exact absurd hs (nx_nx _)
    · cases hs
  all_goals exact absurd rfl hi
theorem im_K0_of {D : va_G} {ca : Nat → ClassId} {ad : Nat → Nat} {base : Nat} {xs : List Int32} {U : State} {H : Heap} (h : im_SF D ca ad base (im_K1 xs) U H) : im_SF D ca ad base im_K0 U H :=
  ⟨h.1, h.2.1, h.2.2.1, h.2.2.2.1, fun k l hl => h.2.2.2.2.1 k l (by
    have hl2 : im_tb[k]? = some l := hl
    show (im_tb ++ [xs])[k]? = some l
    rw [List.getElem?_append_left (List.getElem?_eq_some_iff.mp hl2).1]
    exact hl2), h.2.2.2.2.2⟩
theorem im_gms : im_good_ms im_ms := fun _ M hj => im_ms_all M (List.mem_of_getElem? hj)
set_option maxRecDepth 20000 in
theorem law_of_run {p : Program} {e : Env} {s : State} {m : MethodId} {below : List Frame} {meth : Method} {c : Code} (l : Launch) {b L : Nat} {xs : Nat → Int32} (hL : L < 2 ^ 31) (C0 : lw_At p s m meth c b L xs) {d f n : Nat} {h2 : im_H} (hd : d ≤ 1000) (hrun : im_run (im_K1 ((List.range L).map xs)) mL_law (im_call im_K0 im_ms d f) n (0, [(0, .ref 5)], [], []) = some (some (.int 1), h2)) (hc9 : h2.length ≤ 600000) (hs9 : im_sl h2 ≤ 7302250) : W p l e room_1 s m #[Value.ref b] below meth c s.heap [] 0 0 (lw_Z below #[Value.ref b] s) (entryFrame m ([Value.ref b] : List Value).toArray 4) := by
  obtain ⟨D, ca, ad, had, had5, hSF⟩ := im_start hL C0
  obtain ⟨hx, hb, hr, hml, hown, hts, hX, hbl, hlocks, hgv⟩ := C0
  have hwT : ∀ w ∈ im_ws, w.before #[Value.ref b] s = true := fun w h => hts w (im_ws_tbl h)
  have C : im_Cx D ca ad s.heap.size (im_K1 ((List.range L).map xs)) mL_law p room_1 s m #[Value.ref b] meth c := ⟨hx, hb, hml, hown, hwT, hSF, fun h => absurd h (by decide +kernel), by decide, by decide, had, rfl, rfl, rfl⟩
  have hl := lv_entry ([.ref b] : List Value) (n := 4) (Nat.le_of_ble_eq_true rfl)
  rw [lg_entry_eq]
  generalize (lg_sl ([.ref b] : List Value) ++ List.replicate (4 - (lg_sl ([.ref b] : List Value)).length) Slot.unset).toArray = ls at hl ⊢
  have hl : lv_has ls 4 (im_ml ad [(0, .ref 5)]) := by
    show lv_has ls 4 [(0, .ref (ad 5))]
    rw [had5]
    exact hl
  have hR := im_run_sound (l := l) (e := e) (below := below) (Q := lw_Z below #[Value.ref b] s) C (d := d) (show d + 9 ≤ 2048 by omega) (show 64 * (d + 1) + 400 ≤ 84000 by omega) okL_law (im_K0_of hSF) (im_sound had rfl rfl rfl im_gms d f) n _ _ h2 hrun
  refine hR.2 0 0 ls s.heap [] 0 0 (show h2.length ≤ 0 + 600000 by omega) (show im_sl h2 ≤ 0 + 7302250 by omega) ⟨hl, fun k q h => by simp [im_w] at h, rfl, va_S.rf, rfl, rfl⟩ ?_
  intro q pc2 lv2 st2 ls2 H2 locs2 cells2 slots2 hokI hs hI
  obtain ⟨hi, x, hx1, hst⟩ := im_iret_inv hs rfl
  cases hx1
  obtain ⟨hl2, hP2, hz2, hS2, hc2, hq2⟩ := hI
  simp only [im_okI, Bool.and_eq_true, decide_eq_true_eq] at hokI
  have hdg := hokI.1
  rw [hi] at hdg
  rw [hst]
  refine va_forget (fun q hq => hS2.2.2 q hq) ?_
  refine W.widen (k := 600000) (n := 7302250) (by omega) (by omega) ?_
  exact lw_ret hx hb hr hlocks hdg
