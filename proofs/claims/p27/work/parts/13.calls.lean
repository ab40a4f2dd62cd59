/-! CALLS -/
abbrev im_wsM (M : im_M) : List Cond := Cond.code M.1 M.2.1 M.2.2.1 M.2.2.2.1 :: im_ws
theorem im_okM_spec {M : im_M} (h : im_okM M = true) : plainName M.1.cls = true ∧ (M.1.cls ≠ "java/lang/invoke/MethodHandle" ∧ M.1.cls ≠ "java/lang/invoke/VarHandle" ∧ (parseMethodDescriptor M.1.desc).map (fun d => d.parameters.length) = some M.2.2.2.2.2.1) ∧ M.2.2.1 ≤ 30 ∧ Cond.code M.1 M.2.1 M.2.2.1 M.2.2.2.1 ∈ im_ws ∧ Cond.initialized M.1.cls ∈ im_ws ∧ (M.2.2.2.2.2.2.1 = true → Cond.static M.1 ∈ im_ws) ∧ (M.2.2.2.2.2.2.1 = false → Cond.instanceMethod M.1 ∈ im_ws ∧ (¬ M.1.name = "<init>" → Cond.selects M.1.cls M.1 M.1 ∈ im_ws ∧ ∃ r, vwCl[M.2.2.2.2.1]? = some r ∧ r.1 = M.1.cls)) := by
  simp only [im_okM, Bool.and_eq_true, decide_eq_true_eq] at h
  obtain ⟨⟨⟨⟨⟨⟨⟨a1, a2⟩, a3⟩, a4⟩, a5⟩, a6⟩, a7⟩, a8⟩ := h
  refine ⟨a1, ⟨a2, a3, a4⟩, a5, im_twS a6, im_twS a7, fun hs => ?_, fun hs => ?_⟩
  · rw [hs] at a8
    exact im_twS a8
  · rw [hs] at a8
    simp only [Bool.false_eq_true, if_false, Bool.and_eq_true, Bool.or_eq_true, decide_eq_true_eq] at a8
    refine ⟨im_twS a8.1, fun hn => ?_⟩
    rcases a8.2 with e | e
    · exact absurd e hn
    · refine ⟨im_twS e.1, ?_⟩
      have e2 := e.2
      split at e2
      · rename_i r hr
        exact ⟨r, hr, of_decide_eq_true e2⟩
      · cases e2
theorem im_room1 {d mc ns : Nat} {R : Room} (h : d + 9 ≤ R.frames) : (im_rm d mc ns).frames + 1 ≤ R.frames := by
  simp only [im_rm]; omega
set_option maxRecDepth 20000 in
theorem im_room2 {d mc ns k : Nat} {R : Room} (hk : k ≤ 30) (h : 64 * (d + 1) + 400 ≤ R.locals) : 8 + (k + 11) + (im_rm d mc ns).locals ≤ R.locals := by
  simp only [im_rm]; omega
theorem sm_max_s : Cond.static Lib.Math.max.name ∈ im_ws := im_twS (x := 927) (by decide +kernel)
theorem sm_max_c : Cond.code Lib.Math.max.name Lib.Math.max.code 2 (some .int) ∈ im_ws := im_twS (x := 928) (by decide +kernel)
theorem sm_min_s : Cond.static Lib.Math.min.name ∈ im_ws := im_twS (x := 987) (by decide +kernel)
theorem sm_min_c : Cond.code Lib.Math.min.name Lib.Math.min.code 2 (some .int) ∈ im_ws := im_twS (x := 988) (by decide +kernel)
theorem sm_ini : Cond.initialized "java/lang/Math" ∈ im_ws := im_twS (x := 275) (by decide +kernel)
section IMC
variable {p : Program} {l : Launch} {e : Env} {R : Room} {s : State} {m : MethodId} {args : Array Value} {below : List Frame} {meth : Method} {c : Code} {Q : State → Prop} {D : va_G} {ca : Nat → ClassId} {ad : Nat → Nat} {base nL : Nat} {K : im_K} {M : im_M} {pc : Nat} {lv : im_L} {st : List Value} {h : im_H} {c2 : im_C} {ms : List im_M}

/-- behind a call -/
theorem im_called {H : Heap} {locs : List Loc} {cells slots mc ns : Nat} {ls : Array Slot} {st0 rest : List Value} {a : Array Value} {v : Option Value} {h2 : im_H} (hr : va_Run p l e R s m args below meth c H locs cells slots mc ns (F0 m pc ls st0) rest (im_Q D ca ad base v h2 a) (im_up base)) (hS : va_S (im_up base) s.heap H locs)
    (kk : ∀ (H1 : Heap) (locs1 : List Loc), va_P D vwCl (im_w ca ad h2) H1 → va_S (im_up base) s.heap H1 locs1 → W p l e R s m args below meth c H1 locs1 (cells + mc) (slots + ns) Q (F0 m (pc + 3) ls ((v.map (im_v ad)).toList ++ rest))) : W p l e R s m args below meth c H locs cells slots Q (F0 m pc ls st0) := by
  intro T hT X
  obtain ⟨w, st₀, t, T', L, h0, X', hL, e1, e2, ⟨⟨hv, hP⟩, hz, hk⟩, st⟩ := hr T hT X
  cases hv
  rw [h0] at hz hk
  obtain ⟨t2, a1, b1⟩ := kk T'.heap (locs ++ L) (by rw [e1]; exact hP) ⟨Nat.le_trans hS.1 (by rw [e1]; exact hz), fun q h1 h2 => by rw [e1, hk q (Nat.lt_of_lt_of_le h1 hS.1) h2]; exact hS.2.1 q h1 h2, fun q hq => by
      rcases List.mem_append.mp hq with h | h
      · exact hS.2.2 q h
      · exact hL q h⟩ T' rfl X'
  exact ⟨t2, st t2 a1, b1⟩
theorem im_take_eq {n : Nat} {st : List Value} {q : List Value × List Value} (hq : im_take n st = some q) : st = q.1.reverse ++ q.2 ∧ q.1.length = n := by
  obtain ⟨h1, h2⟩ := im_ite _ hq
  cases h2
  refine ⟨?_, ?_⟩
  · show st = ((st.take n).reverse).reverse ++ st.drop n
    rw [List.reverse_reverse, List.take_append_drop]
  · show ((st.take n).reverse).length = n
    rw [List.length_reverse, List.length_take]; omega
/-- what a callee's contract says -/
def im_Met (D : va_G) (ca : Nat → ClassId) (ad : Nat → Nat) (base : Nat) (K : im_K) (l : Launch) (d : Nat) (N : im_M) (as : List Value) (h : im_H) (v : Option Value) (h2 : im_H) : Prop :=
  Met l N.1 (im_wsM N) (im_rm d (h2.length - h.length) (im_sl h2 - im_sl h)) (im_P D ca ad base K as h) (im_Q D ca ad base v h2) (h2.length - h.length) (im_sl h2 - im_sl h) (im_up base)
/-- a step that is a call is a call of the machine -/
def im_GoC (D : va_G) (ca : Nat → ClassId) (ad : Nat → Nat) (base nL : Nat) (p : Program) (l : Launch) (e : Env) (R : Room) (s : State) (m : MethodId) (args : Array Value) (below : List Frame) (meth : Method) (c : Code) (Q : State → Prop) (pc : Nat) (lv : im_L) (st : List Value) (h : im_H) (rest : List Value) (v : Option Value) (h2 : im_H) : Prop :=
  ∀ (n0 s0 : Nat) (ls : Array Slot) (H : Heap) (locs : List Loc) (cells slots : Nat), h2.length ≤ n0 + R.cells → im_sl h2 ≤ s0 + R.slots → im_St D ca ad base nL n0 s0 s lv h ls H locs cells slots →
    (∀ (ls2 : Array Slot) (H2 : Heap) (locs2 : List Loc) (cells2 slots2 : Nat), im_St D ca ad base nL n0 s0 s lv h2 ls2 H2 locs2 cells2 slots2 → W p l e R s m args below meth c H2 locs2 cells2 slots2 Q (F0 m (pc + 3) ls2 ((v.toList ++ rest).map (im_v ad)))) →
    W p l e R s m args below meth c H locs cells slots Q (F0 m pc ls (st.map (im_v ad)))
theorem im_goC {h2 : im_H} {rest : List Value} {v : Option Value} (had : ∀ i, ad (16 + i) = base + i) (hm1 : h.length ≤ h2.length) (hm2 : im_sl h ≤ im_sl h2) (run : ∀ (ls : Array Slot) (H : Heap) (locs : List Loc) (cells slots : Nat), lv_has ls nL (im_ml ad lv) → H.size = base + h.length → va_P D vwCl (im_w ca ad h) H → va_S (im_up base) s.heap H locs → cells + (h2.length - h.length) ≤ R.cells ∧ slots + (im_sl h2 - im_sl h) ≤ R.slots → ∃ a, va_Run p l e R s m args below meth c H locs cells slots (h2.length - h.length) (im_sl h2 - im_sl h) (F0 m pc ls (st.map (im_v ad))) (rest.map (im_v ad)) (im_Q D ca ad base v h2 a) (im_up base)) : im_GoC D ca ad base nL p l e R s m args below meth c Q pc lv st h rest v h2 := by
  intro n0 s0 ls H locs cells slots hc1 hs1 hI kk T hT X
  obtain ⟨hl, hP, hz, hS, hc, hq⟩ := hI
  subst hT
  have hsz := im_size had X hP hS hz hc
  obtain ⟨a, hr⟩ := run ls T.heap locs cells slots hl hsz hP hS ⟨by omega, by omega⟩
  refine im_called hr hS (fun H1 locs1 hP1 hS1 => ?_) T rfl X
  have := kk ls H1 locs1 (cells + (h2.length - h.length)) (slots + (im_sl h2 - im_sl h)) ⟨hl, hP1, hz, hS1, by omega, by omega⟩
  rw [List.map_append] at this
  rw [show (v.map (im_v ad)).toList = v.toList.map (im_v ad) by cases v <;> rfl]
  exact this
theorem is_callS (C : im_Cx D ca ad base K M p R s m args meth c) {d : Nat} (hRf : d + 9 ≤ R.frames) (hRl : 64 * (d + 1) + 400 ≤ R.locals) (hn : nL = M.2.2.1) {idx a w z x : Nat} (hdg : decode M.2.1 pc = .ok (.invokestatic idx, 3)) (hok : im_ok2 ms M (.invokestatic idx) a 0 w z x pc = true) {q : Nat × List Value × List Value} (hs : im_ins K M (.invokestatic idx) a 0 w z pc lv st h = some (.inr (.inl q))) {K2 : im_K} (hSF2 : im_SF D ca ad base K2 s s.heap) {N : im_M} (hN : ms[q.1]? = some N) (hNok : im_okM N = true) {v : Option Value} {h2 : im_H} (hm1 : h.length ≤ h2.length) (hm2 : im_sl h ≤ im_sl h2) (hM : im_Met D ca ad base K2 l d N q.2.1 h v h2) : im_GoC D ca ad base nL p l e R s m args below meth c Q pc lv st h q.2.2 v h2 := by
  obtain ⟨hx, hb, hml, hown, hts, hSF, hin, hR1, hR2, had, hfty, hlc, htx⟩ := C
  obtain ⟨u, h1, hs1⟩ := im_bd hs
  obtain ⟨hcat, hs2⟩ := im_ite _ hs1
  cases hs2
  obtain ⟨hst, hlen⟩ := im_take_eq h1
  have hok : (match ms[a]? with
      | some N => N.2.2.2.2.2.2.1 && decide (N.2.2.2.2.2.1 = w) && (im_tw x (.methodLink M.1.cls idx N.1) || decide (Cond.methodLinkNest M.1.cls idx N.1 "RubbleCity" ∈ im_nw))
      | none => false) = true := hok
  have hN : ms[a]? = some N := hN
  rw [hN] at hok
  simp only [Bool.and_eq_true, decide_eq_true_eq, Bool.or_eq_true] at hok
  obtain ⟨⟨hstat, hw⟩, hlk⟩ := hok
  obtain ⟨-, ⟨d1, d2, d3⟩, hml2, hcode, hini, hst2, -⟩ := im_okM_spec hNok
  refine im_goC had hm1 hm2 fun ls H locs cells slots hl hsz hP hS hf => ⟨(u.1.map (im_v ad)).toArray, ?_⟩
  have hp : PreS s H (im_P D ca ad base K2 u.1 h) (u.1.map (im_v ad)) := ⟨im_P_blind, fun U hU hW => im_P_at hU hW hsz hP hS hSF2⟩
  have hstk : st.map (im_v ad) = (u.1.map (im_v ad)).reverse ++ u.2.map (im_v ad) := by rw [hst, List.map_append, List.map_reverse]
  have hnn : (u.1.map (im_v ad)).length = N.2.2.2.2.2.1 := by rw [List.length_map, hlen, hw]
  rcases hlk with hlk | hlk
  · exact va_runS ⟨hx, hb, hml, hown, hts⟩ hM ⟨callB_of _ hts (im_good hcode) rfl rfl rfl (hts _ hini) (hts _ (im_twS hlk)) ⟨d1, d2, d3⟩ ⟨im_room1 hRf, im_room2 hml2 hRl⟩, hts _ (hst2 hstat)⟩ hp rfl hnn (by rw [← hn]; exact hl.1) hstk (lv_room (im_cat_le hcat)) hdg hf
  · exact va_runSN ⟨hx, hb, hml, hown, hts⟩ hM ⟨va_cnB _ hts (im_good hcode) rfl rfl rfl (hSF.2.1 _ hlk) (hts _ hini) ⟨d1, d2, d3⟩ ⟨im_room1 hRf, im_room2 hml2 hRl⟩, hts _ (hst2 hstat), trivial⟩ hp rfl hnn (by rw [← hn]; exact hl.1) hstk (lv_room (im_cat_le hcat)) hdg hf
theorem is_callI (C : im_Cx D ca ad base K M p R s m args meth c) {d : Nat} (hRf : d + 9 ≤ R.frames) (hRl : 64 * (d + 1) + 400 ≤ R.locals) (hn : nL = M.2.2.1) {idx a w z x : Nat} (hdg : decode M.2.1 pc = .ok (.invokespecial idx, 3)) (hok : im_ok2 ms M (.invokespecial idx) a 0 w z x pc = true) {q : Nat × List Value × List Value} (hs : im_ins K M (.invokespecial idx) a 0 w z pc lv st h = some (.inr (.inl q))) {K2 : im_K} (hSF2 : im_SF D ca ad base K2 s s.heap) {N : im_M} (hN : ms[q.1]? = some N) (hNok : im_okM N = true) (hret : N.2.2.2.1 = none) {v : Option Value} {h2 : im_H} (hm1 : h.length ≤ h2.length) (hm2 : im_sl h ≤ im_sl h2) (hM : im_Met D ca ad base K2 l d N q.2.1 h v h2) : im_GoC D ca ad base nL p l e R s m args below meth c Q pc lv st h q.2.2 v h2 := by
  obtain ⟨hx, hb, hml, hown, hts, hSF, hin, hR1, hR2, had, hfty, hlc, htx⟩ := C
  obtain ⟨u, h1, hs1⟩ := im_bd hs
  obtain ⟨r, h3, hs2⟩ := im_bd hs1
  obtain ⟨hcat, hs3⟩ := im_ite _ hs2
  cases hs3
  obtain ⟨hst, hlen⟩ := im_take_eq h1
  rw [im_1r_eq h3] at hst
  have hok : (match ms[a]? with
      | some N => !N.2.2.2.2.2.2.1 && decide (N.2.2.2.2.2.1 = w) && decide (N.1.name = "<init>") && (im_tw x (.methodLink M.1.cls idx N.1) || decide (Cond.methodLinkNest M.1.cls idx N.1 "RubbleCity" ∈ im_nw))
      | none => false) = true := hok
  have hN : ms[a]? = some N := hN
  rw [hN] at hok
  simp only [Bool.and_eq_true, decide_eq_true_eq, Bool.or_eq_true, Bool.not_eq_true'] at hok
  obtain ⟨⟨⟨hstat, hw⟩, hnm⟩, hlk⟩ := hok
  obtain ⟨-, ⟨d1, d2, d3⟩, hml2, hcode, hini, -, hst2⟩ := im_okM_spec hNok
  obtain ⟨hinst, -⟩ := hst2 hstat
  refine im_goC had hm1 hm2 fun ls H locs cells slots hl hsz hP hS hf => ⟨(Value.ref (ad r.1) :: u.1.map (im_v ad)).toArray, ?_⟩
  have hp : PreS s H (im_P D ca ad base K2 (.ref r.1 :: u.1) h) (.ref (ad r.1) :: u.1.map (im_v ad)) := ⟨im_P_blind, fun U hU hW => im_P_at (as := .ref r.1 :: u.1) hU hW hsz hP hS hSF2⟩
  have hstk : st.map (im_v ad) = (u.1.map (im_v ad)).reverse ++ .ref (ad r.1) :: r.2.map (im_v ad) := by rw [hst, List.map_append, List.map_reverse]; rfl
  have hnn : (u.1.map (im_v ad)).length = N.2.2.2.2.2.1 := by rw [List.length_map, hlen, hw]
  unfold im_Met at hM
  have hwsM : im_wsM N = Cond.code N.1 N.2.1 N.2.2.1 none :: im_ws := by rw [← hret]
  rcases hlk with hlk | hlk
  · exact va_runI ⟨hx, hb, hml, hown, hts⟩ hM ⟨callB_of _ hts (im_good hcode) hwsM rfl rfl (hts _ hini) (hts _ (im_twS hlk)) ⟨d1, d2, d3⟩ ⟨im_room1 hRf, im_room2 hml2 hRl⟩, hnm, hts _ hinst⟩ hp rfl hnn (by rw [← hn]; exact hl.1) hstk (lv_room (im_cat_le hcat)) hdg hf
  · exact va_runIN ⟨hx, hb, hml, hown, hts⟩ hM ⟨va_cnB _ hts (im_good hcode) hwsM rfl rfl (hSF.2.1 _ hlk) (hts _ hini) ⟨d1, d2, d3⟩ ⟨im_room1 hRf, im_room2 hml2 hRl⟩, hnm, hts _ hinst⟩ hp rfl hnn (by rw [← hn]; exact hl.1) hstk (lv_room (im_cat_le hcat)) hdg hf
theorem is_callV (C : im_Cx D ca ad base K M p R s m args meth c) {d : Nat} (hRf : d + 9 ≤ R.frames) (hRl : 64 * (d + 1) + 400 ≤ R.locals) (hn : nL = M.2.2.1) {idx a w z x : Nat} (hdg : decode M.2.1 pc = .ok (.invokevirtual idx, 3)) (hok : im_ok2 ms M (.invokevirtual idx) a 0 w z x pc = true) {q : Nat × List Value × List Value} (hs : im_ins K M (.invokevirtual idx) a 0 w z pc lv st h = some (.inr (.inl q))) {K2 : im_K} (hSF2 : im_SF D ca ad base K2 s s.heap) {N : im_M} (hN : ms[q.1]? = some N) (hNok : im_okM N = true) {v : Option Value} {h2 : im_H} (hm1 : h.length ≤ h2.length) (hm2 : im_sl h ≤ im_sl h2) (hM : im_Met D ca ad base K2 l d N q.2.1 h v h2) : im_GoC D ca ad base nL p l e R s m args below meth c Q pc lv st h q.2.2 v h2 := by
  obtain ⟨hx, hb, hml, hown, hts, hSF, hin, hR1, hR2, had, hfty, hlc, htx⟩ := C
  obtain ⟨u, h1, hs1⟩ := im_bd hs
  obtain ⟨r, h3, hs2⟩ := im_bd hs1
  obtain ⟨fs, h4, hs3⟩ := im_bd hs2
  obtain ⟨hcat, hs4⟩ := im_ite _ hs3
  cases hs4
  obtain ⟨hst, hlen⟩ := im_take_eq h1
  rw [im_1r_eq h3] at hst
  have hok : (match ms[a]? with
      | some N => !N.2.2.2.2.2.2.1 && decide (N.2.2.2.2.1 = z) && decide (N.2.2.2.2.2.1 = w) && !decide (N.1.name = "<init>") && im_tw x (.methodLink M.1.cls idx N.1)
      | none => false) = true := hok
  have hN : ms[a]? = some N := hN
  rw [hN] at hok
  simp only [Bool.and_eq_true, decide_eq_true_eq, Bool.not_eq_true', decide_eq_false_iff_not] at hok
  obtain ⟨⟨⟨⟨hstat, hz⟩, hw⟩, hnm⟩, hlk⟩ := hok
  obtain ⟨-, ⟨d1, d2, d3⟩, hml2, hcode, hini, -, hst2⟩ := im_okM_spec hNok
  obtain ⟨hinst, hsel⟩ := hst2 hstat
  obtain ⟨hsel, r9, hr9, hr8⟩ := hsel hnm
  obtain ⟨i, hi, hc⟩ := im_obj_eq h4
  refine im_goC had hm1 hm2 fun ls H locs cells slots hl hsz hP hS hf => ⟨(Value.ref (ad r.1) :: u.1.map (im_v ad)).toArray, ?_⟩
  have hrecv := va_recv hSF.1 hP (ci := z) (q0 := i) (q := r9) (by rw [← hz]; exact hr9) (im_w_at (ca := ca) (ad := ad) hc)
  rw [hr8] at hrecv
  have hp : PreV s H N.1.cls (ad r.1) (im_P D ca ad base K2 (.ref r.1 :: u.1) h) (u.1.map (im_v ad)) := ⟨im_P_blind, by rw [hi]; exact hrecv, fun U hU hW => im_P_at (as := .ref r.1 :: u.1) hU hW hsz hP hS hSF2⟩
  have hstk : st.map (im_v ad) = (u.1.map (im_v ad)).reverse ++ .ref (ad r.1) :: r.2.map (im_v ad) := by rw [hst, List.map_append, List.map_reverse]; rfl
  have hnn : (u.1.map (im_v ad)).length = N.2.2.2.2.2.1 := by rw [List.length_map, hlen, hw]
  exact va_runV ⟨hx, hb, hml, hown, hts⟩ hM ⟨callB_of _ hts (im_good hcode) rfl rfl rfl (hts _ hini) (hts _ (im_twS hlk)) ⟨d1, d2, d3⟩ ⟨im_room1 hRf, im_room2 hml2 hRl⟩, hts _ hinst, hts _ hsel⟩ hp rfl hnn (by rw [← hn]; exact hl.1) hstk (lv_room (im_cat_le hcat)) hdg hf
theorem is_strlen (C : im_Cx D ca ad base K M p R s m args meth c) (hRf : 9 ≤ R.frames) (hRl : 400 ≤ R.locals) (hn : nL = M.2.2.1) {idx a w z x : Nat} (hdg : decode M.2.1 pc = .ok (.invokevirtual idx, 3)) (hok : im_ok2 ms M (.invokevirtual idx) a 1 w z x pc = true) (hs : im_ins K M (.invokevirtual idx) a 1 w z pc lv st h = some (.inl c2)) : im_Go D ca ad base nL p l e R s m args below meth c Q pc lv st h c2 := by
  obtain ⟨hx, hb, hml, hown, hts, hSF, hin, hR1, hR2, had, hfty, hlc, htx⟩ := C
  have hok : im_tw x (.methodLink M.1.cls idx yJ0_length_8abf5) = true := hok
  obtain ⟨r, h1, hs1⟩ := im_bd hs
  obtain ⟨⟨h6, hcat⟩, hs2⟩ := im_ite _ hs1
  obtain ⟨l0, h2, hs3⟩ := im_bd hs2
  cases im_1r_eq h1
  cases im_nx_eq hs3
  rw [htx] at h2
  obtain ⟨k, hk⟩ : ∃ k, r.1 = 6 + k := ⟨r.1 - 6, by omega⟩
  rw [show r.1 - 6 = k by omega] at h2
  have hk4 : k < 4 := (List.getElem?_eq_some_iff.mp h2).1
  have hl0 : im_txt.getD k [] = l0 := by rw [List.getD_eq_getElem?_getD, h2]; rfl
  refine ⟨⟨Nat.le_refl _, Nat.le_refl _⟩, fun n0 s0 ls H locs cells slots q1 q2 hI kk => ?_⟩
  have kk := kk ls H locs cells slots hI
  obtain ⟨hl, hP, hz, hS, hc, hq⟩ := hI
  have q1 : h.length ≤ n0 + R.cells := q1
  have q2 : im_sl h ≤ s0 + R.slots := q2
  rw [List.map_cons, show im_v ad (.ref r.1) = .ref (ad (6 + k)) by rw [← hk]; rfl]
  refine W.callR (W.runV (As := []) (rest := r.2.map (im_v ad)) ⟨hx, hb, hml, hown, hts⟩ (c_length l D ca ad base K hk4) (C := "java/lang/String") ⟨callB_of 0 hts (im_good sw_length_code) rfl rfl rfl (hts _ sw_iniS) (hts _ (im_twS hok)) (by decide +kernel) ⟨by show 2 + 1 ≤ _; omega, by show 8 + (1 + 11) + 128 ≤ _; omega⟩, hts _ sw_length_inst, hts _ sw_length_sel⟩ ⟨im_PS_blind, vk_recv hSF.2.2.2.2.2.2.1 hk4 hS, fun U hU hW => im_PS_at (as := [.ref (ad (6 + k))]) hU hW hS hSF⟩ rfl rfl (by rw [← hn]; exact hl.1) rfl (lv_room (im_cat_le hcat)) hdg ⟨by omega, by omega⟩) ?_
  rw [hl0]
  exact kk
theorem is_charAt (C : im_Cx D ca ad base K M p R s m args meth c) (hRf : 9 ≤ R.frames) (hRl : 400 ≤ R.locals) (hn : nL = M.2.2.1) {idx a w z x : Nat} (hdg : decode M.2.1 pc = .ok (.invokevirtual idx, 3)) (hok : im_ok2 ms M (.invokevirtual idx) a 2 w z x pc = true) (hs : im_ins K M (.invokevirtual idx) a 2 w z pc lv st h = some (.inl c2)) : im_Go D ca ad base nL p l e R s m args below meth c Q pc lv st h c2 := by
  obtain ⟨hx, hb, hml, hown, hts, hSF, hin, hR1, hR2, had, hfty, hlc, htx⟩ := C
  have hok : im_tw x (.methodLink M.1.cls idx yJ0_charAt_5068e) = true := hok
  obtain ⟨i, h0, hs0⟩ := im_bd hs
  obtain ⟨r, h1, hs1⟩ := im_bd hs0
  obtain ⟨⟨h6, hcat⟩, hs2⟩ := im_ite _ hs1
  obtain ⟨l0, h2, hs3⟩ := im_bd hs2
  obtain ⟨h7, hs4⟩ := im_ite _ hs3
  have e1 := im_1i_eq h0
  rw [im_1r_eq h1] at e1
  cases im_nx_eq hs4
  subst e1
  rw [htx] at h2
  obtain ⟨k, hk⟩ : ∃ k, r.1 = 6 + k := ⟨r.1 - 6, by omega⟩
  rw [show r.1 - 6 = k by omega] at h2
  have hk4 : k < 4 := (List.getElem?_eq_some_iff.mp h2).1
  have hl0 : im_txt.getD k [] = l0 := by rw [List.getD_eq_getElem?_getD, h2]; rfl
  refine ⟨⟨Nat.le_refl _, Nat.le_refl _⟩, fun n0 s0 ls H locs cells slots q1 q2 hI kk => ?_⟩
  have kk := kk ls H locs cells slots hI
  obtain ⟨hl, hP, hz, hS, hc, hq⟩ := hI
  have q1 : h.length ≤ n0 + R.cells := q1
  have q2 : im_sl h ≤ s0 + R.slots := q2
  rw [List.map_cons, List.map_cons, show im_v ad (.ref r.1) = .ref (ad (6 + k)) by rw [← hk]; rfl]
  refine W.callR (W.runV (As := [.int i.1]) (rest := r.2.map (im_v ad)) ⟨hx, hb, hml, hown, hts⟩ (c_charAt l D ca ad base K hk4 (i := i.1) (by rw [hl0]; exact im_in_vp h7)) (C := "java/lang/String") ⟨callB_of 1 hts (im_good sw_charAt_code) rfl rfl rfl (hts _ sw_iniS) (hts _ (im_twS hok)) (by decide +kernel) ⟨by show 4 + 1 ≤ _; omega, by show 8 + (2 + 11) + 256 ≤ _; omega⟩, hts _ sw_charAt_inst, hts _ sw_charAt_sel⟩ ⟨im_PS_blind, vk_recv hSF.2.2.2.2.2.2.1 hk4 hS, fun U hU hW => im_PS_at (as := [.ref (ad (6 + k)), .int i.1]) hU hW hS hSF⟩ rfl rfl (by rw [← hn]; exact hl.1) rfl (lv_room (im_cat_le hcat)) hdg ⟨by omega, by omega⟩) ?_
  rw [hl0]
  exact kk
theorem is_max (C : im_Cx D ca ad base K M p R s m args meth c) (hn : nL = M.2.2.1) {idx a w z x : Nat} (hdg : decode M.2.1 pc = .ok (.invokestatic idx, 3)) (hok : im_ok2 ms M (.invokestatic idx) a 5 w z x pc = true) (hs : im_ins K M (.invokestatic idx) a 5 w z pc lv st h = some (.inl c2)) : im_Go D ca ad base nL p l e R s m args below meth c Q pc lv st h c2 := by
  obtain ⟨hx, hb, hml, hown, hts, hSF, hin, hR1, hR2, had, hfty, hlc, htx⟩ := C
  have hok : im_tw x (.methodLink M.1.cls idx Lib.Math.max.name) = true := hok
  obtain ⟨q, h1, hs1⟩ := im_bd hs
  obtain ⟨u, h2, hs2⟩ := im_bd hs1
  obtain ⟨hcat, hs3⟩ := im_ite _ hs2
  have e1 := im_1i_eq h1
  rw [im_1i_eq h2] at e1
  cases im_nx_eq hs3
  subst e1
  refine ⟨⟨Nat.le_refl _, Nat.le_refl _⟩, fun n0 s0 ls H locs cells slots q1 q2 hI kk => ?_⟩
  have kk := kk ls H locs cells slots hI
  obtain ⟨hl, hP, hz, hS, hc, hq⟩ := hI
  have q1 : h.length ≤ n0 + R.cells := q1
  have q2 : im_sl h ≤ s0 + R.slots := q2
  have hc9 := im_cat_le (ad := ad) hcat
  exact va_mmax hx hb (by rw [hml, ← hn, hl.1]) hown (hts _ (im_twS hok)) (hts _ sm_max_s) (hts _ sm_ini) (hts _ sm_max_c) hR1 (by omega) (by omega) (by omega) hdg kk
theorem is_min (C : im_Cx D ca ad base K M p R s m args meth c) (hn : nL = M.2.2.1) {idx a w z x : Nat} (hdg : decode M.2.1 pc = .ok (.invokestatic idx, 3)) (hok : im_ok2 ms M (.invokestatic idx) a 6 w z x pc = true) (hs : im_ins K M (.invokestatic idx) a 6 w z pc lv st h = some (.inl c2)) : im_Go D ca ad base nL p l e R s m args below meth c Q pc lv st h c2 := by
  obtain ⟨hx, hb, hml, hown, hts, hSF, hin, hR1, hR2, had, hfty, hlc, htx⟩ := C
  have hok : im_tw x (.methodLink M.1.cls idx Lib.Math.min.name) = true := hok
  obtain ⟨q, h1, hs1⟩ := im_bd hs
  obtain ⟨u, h2, hs2⟩ := im_bd hs1
  obtain ⟨hcat, hs3⟩ := im_ite _ hs2
  have e1 := im_1i_eq h1
  rw [im_1i_eq h2] at e1
  cases im_nx_eq hs3
  subst e1
  refine ⟨⟨Nat.le_refl _, Nat.le_refl _⟩, fun n0 s0 ls H locs cells slots q1 q2 hI kk => ?_⟩
  have kk := kk ls H locs cells slots hI
  obtain ⟨hl, hP, hz, hS, hc, hq⟩ := hI
  have q1 : h.length ≤ n0 + R.cells := q1
  have q2 : im_sl h ≤ s0 + R.slots := q2
  have hc9 := im_cat_le (ad := ad) hcat
  exact va_mmin hx hb (by rw [hml, ← hn, hl.1]) hown (hts _ (im_twS hok)) (hts _ sm_min_s) (hts _ sm_ini) (hts _ sm_min_c) hR1 (by omega) (by omega) (by omega) hdg kk
end IMC
