/-! INSTRUCTIONS that read and write cells -/
theorem im_fit_ok {ad : Nat → Nat} {ty : FieldType} {v : Value} (h : im_fit ty v = true) : narrow ty (im_v ad v) = im_v ad v ∧ fits ty (im_v ad v) = true := by
  unfold im_fit at h
  split at h
  · exact ⟨rfl, rfl⟩
  · rename_i x
    simp only [Bool.or_eq_true, decide_eq_true_eq] at h
    rcases h with rfl | rfl
    · exact ⟨rfl, rfl⟩
    · exact ⟨rfl, rfl⟩
  · exact ⟨rfl, rfl⟩
  · exact ⟨rfl, rfl⟩
  · exact ⟨rfl, rfl⟩
  · exact ⟨rfl, rfl⟩
  · cases h
theorem im_getD_map {fs : List Value} {b : Nat} {v : Value} (ad : Nat → Nat) (h : fs[b]? = some v) : (fs.map (im_v ad))[b]? = some (im_v ad v) := by rw [List.getElem?_map, h]; rfl
theorem im_upd {l : List Int32} {k : Nat} {x : Int32} (hk : k < l.length) : upd (fun j => l.getD j 0) k x = fun j => (l.set k x).getD j 0 := by
  funext j
  simp only [upd, List.getD_eq_getElem?_getD, List.getElem?_set]
  by_cases h : j = k
  · subst h; simp [hk]
  · simp [h, Ne.symm h]
theorem im_updL {l : List Int64} {k : Nat} {x : Int64} (hk : k < l.length) : vp_updL (fun j => l.getD j 0) k x = fun j => (l.set k x).getD j 0 := by
  funext j
  simp only [vp_updL, List.getD_eq_getElem?_getD, List.getElem?_set]
  by_cases h : j = k
  · subst h; simp [hk]
  · simp [h, Ne.symm h]
theorem im_updQ {ad : Nat → Nat} {l : List (Option Nat)} {k x : Nat} (hk : k < l.length) : va_up (fun j => (l.getD j none).map ad) k (some (ad x)) = fun j => ((l.set k (some x)).getD j none).map ad := by
  funext j
  simp only [va_up, List.getD_eq_getElem?_getD, List.getElem?_set]
  by_cases h : j = k
  · subst h; simp [hk]
  · simp [h, Ne.symm h]
theorem im_in_lt {i : Int32} {n : Nat} (h : vp_in i n) : i.toNatClampNeg < n := Nat.not_le.mp fun q => h (Or.inr q)
section IMH
variable {p : Program} {l : Launch} {e : Env} {R : Room} {s : State} {m : MethodId} {args : Array Value} {below : List Frame} {meth : Method} {c : Code} {Q : State → Prop} {D : va_G} {ca : Nat → ClassId} {ad : Nat → Nat} {base nL : Nat} {K : im_K} {M : im_M} {pc : Nat} {lv : im_L} {st : List Value} {h : im_H} {c2 : im_C} {ms : List im_M}
/-- one cell is changed, its size isn't -/
theorem im_go2 {pc2 i : Nat} {st2 : List Value} {x y : im_E} (hx : h[i]? = some x) (hy : im_sl1 y = im_sl1 x) (k : ∀ (ls : Array Slot) (H : Heap) (locs : List Loc) (cells slots : Nat), va_P D vwCl (im_w ca ad h) H → va_S (im_up base) s.heap H locs → (∀ (H1 : Heap) (locs1 : List Loc), va_P D vwCl ((im_w ca ad h).set i (ad (16 + i), im_e ca ad y)) H1 → va_S (im_up base) s.heap H1 locs1 → W p l e R s m args below meth c H1 locs1 cells slots Q (F0 m pc2 ls (st2.map (im_v ad)))) → W p l e R s m args below meth c H locs cells slots Q (F0 m pc ls (st.map (im_v ad)))) : im_Go D ca ad base nL p l e R s m args below meth c Q pc lv st h (pc2, lv, st2, h.set i y) := by
  have e1 : (h.set i y).length = h.length := List.length_set
  have e2 : im_sl (h.set i y) = im_sl h := im_sl_set hx hy
  refine ⟨⟨Nat.le_of_eq e1.symm, Nat.le_of_eq e2.symm⟩, fun n0 s0 ls H locs cells slots _ _ hI kk => ?_⟩
  obtain ⟨hl, hP, hz, hS, hc, hq⟩ := hI
  refine k ls H locs cells slots hP hS fun H1 locs1 hP1 hS1 => ?_
  rw [im_w_set] at hP1
  exact kk ls H1 locs1 cells slots ⟨hl, hP1, hz, hS1, by show cells + n0 = (h.set i y).length; rw [e1]; exact hc, by show slots + s0 = im_sl (h.set i y); rw [e2]; exact hq⟩
/-- reading alone -/
theorem im_go3 {pc2 : Nat} {st2 : List Value} (k : ∀ (ls : Array Slot) (H : Heap) (locs : List Loc) (cells slots : Nat), va_P D vwCl (im_w ca ad h) H → va_S (im_up base) s.heap H locs → W p l e R s m args below meth c H locs cells slots Q (F0 m pc2 ls (st2.map (im_v ad))) → W p l e R s m args below meth c H locs cells slots Q (F0 m pc ls (st.map (im_v ad)))) : im_Go D ca ad base nL p l e R s m args below meth c Q pc lv st h (pc2, lv, st2, h) :=
  ⟨⟨Nat.le_refl _, Nat.le_refl _⟩, fun _ _ ls H locs cells slots _ _ hI kk => k ls H locs cells slots hI.2.1 hI.2.2.2.1 (kk ls H locs cells slots hI)⟩
theorem is_getfield (C : im_Cx D ca ad base K M p R s m args meth c) {idx a b w z x : Nat} (hdg : decode M.2.1 pc = .ok (.getfield idx, 3)) (hok : im_ok2 ms M (.getfield idx) a b w z x pc = true) (hs : im_ins K M (.getfield idx) a b w z pc lv st h = some (.inl c2)) : im_Go D ca ad base nL p l e R s m args below meth c Q pc lv st h c2 := by
  obtain ⟨hx, hb, hml, hown, hts, hSF, -, -, -, had, -, -, -⟩ := C
  have hok : (match vwCl[a]? with
    | some r => decide (b < r.2.2) && im_tw x (.fieldLink M.1.cls idx (r.2.1 b).1 (r.2.1 b).2.1 (r.2.1 b).2.2.1)
    | none => false) = true := hok
  split at hok
  · rename_i r hr
    simp only [Bool.and_eq_true, decide_eq_true_eq] at hok
    obtain ⟨q, h1, hs1⟩ := im_bd hs
    obtain ⟨fs, h2, hs2⟩ := im_bd hs1
    obtain ⟨v, h3, hs3⟩ := im_bd hs2
    obtain ⟨i, hi, hc⟩ := im_obj_eq h2
    have e1 := im_1r_eq h1
    cases im_nx_eq hs3
    subst e1
    refine im_go3 fun ls H locs cells slots hP hS k => ?_
    have hw := im_w_at (ca := ca) (ad := ad) hc
    rw [List.map_cons, show im_v ad (.ref q.1) = .ref (ad (16 + i)) by rw [← hi]; rfl]
    exact va_get (C := r.1) (T := r.2.1) (N := r.2.2) hx hb hts (im_cls_all hr).2.2.1 hown hSF.1 hP i hw hr b hok.1 (hts _ (im_twS hok.2)) (fun _ h9 => h9) (im_getD_map ad h3) hdg k
  · cases hok
theorem is_putfield (C : im_Cx D ca ad base K M p R s m args meth c) {idx a b w z x : Nat} (hdg : decode M.2.1 pc = .ok (.putfield idx, 3)) (hok : im_ok2 ms M (.putfield idx) a b w z x pc = true) (hs : im_ins K M (.putfield idx) a b w z pc lv st h = some (.inl c2)) : im_Go D ca ad base nL p l e R s m args below meth c Q pc lv st h c2 := by
  obtain ⟨hx, hb, hml, hown, hts, hSF, hin, -, -, had, hfty, -, -⟩ := C
  have hok : (match vwCl[a]? with
    | some r => decide (b < r.2.2) && im_tw x (.fieldLink M.1.cls idx (r.2.1 b).1 (r.2.1 b).2.1 (r.2.1 b).2.2.1) && (!(r.2.1 b).2.2.2 || (decide (M.1.name = "<init>") && decide ((r.2.1 b).1 = M.1.cls)))
    | none => false) = true := hok
  split at hok
  · rename_i r hr
    simp only [Bool.and_eq_true, decide_eq_true_eq, Bool.or_eq_true, Bool.not_eq_true'] at hok
    obtain ⟨⟨hbN, hlk⟩, hfin⟩ := hok
    obtain ⟨v, h1, hs1⟩ := im_bd hs
    obtain ⟨q, h2, hs2⟩ := im_bd hs1
    obtain ⟨fs, h3, hs3⟩ := im_bd hs2
    obtain ⟨tys, h4, hs4⟩ := im_bd hs3
    obtain ⟨ty, h5, hs5⟩ := im_bd hs4
    obtain ⟨h6, hs6⟩ := im_ite _ hs5
    obtain ⟨i, hi, hc⟩ := im_obj_eq h3
    have e1 := im_pop_eq h1
    rw [im_1r_eq h2] at e1
    cases im_nx_eq hs6
    subst e1
    obtain ⟨c1, c2, c3, c4⟩ := im_cls_all hr
    have hty : im_tyf a b = ty := by
      rw [hfty] at h4
      simp [im_tyf, List.getD_eq_getElem?_getD, h4, h5]
    have hft := im_fit_ok (ad := ad) h6.1
    have hw := im_w_at (ca := ca) (ad := ad) hc
    have hpd : parseFieldDescriptor (r.2.1 b).2.2.1 = some ty := by rw [c2 b hbN, hty]
    rw [show q.1 - 16 = i by omega]
    refine im_go2 hc (by simp [im_sl1]) fun ls H locs cells slots hP hS kk => ?_
    rw [List.map_cons, List.map_cons, show im_v ad (.ref q.1) = .ref (ad (16 + i)) by rw [← hi]; rfl]
    have hkk : ∀ (H1 : Heap) (locs1 : List Loc), va_P D vwCl ((im_w ca ad h).set i (ad (16 + i), .inr (a, (fs.map (im_v ad)).set b (im_v ad v.1)))) H1 → va_D (im_up base) ((im_w ca ad h).set i (ad (16 + i), .inr (a, (fs.map (im_v ad)).set b (im_v ad v.1)))) → va_S (im_up base) s.heap H1 locs1 → W p l e R s m args below meth c H1 locs1 cells slots Q (F0 m (pc + 3) ls (q.2.map (im_v ad))) := fun H1 locs1 hP1 _ hS1 => by
      rw [← List.map_set] at hP1
      exact kk H1 locs1 hP1 hS1
    by_cases hf : (r.2.1 b).2.2.2 = true
    · rcases hfin with hf0 | ⟨hin2, hdecl⟩
      · rw [hf] at hf0; cases hf0
      · exact va_putF (C := r.1) (T := r.2.1) (N := r.2.2) hx hb hts c3 (im_tyf a) c2 c4 hown hSF.1 hP (im_w_D had h) hS i hw hr b hbN (hts _ (im_twS hlk)) (fun _ h9 => h9) hf (hin hin2) hdecl hpd hft.1 hft.2 (by rw [List.length_map]; exact h6.2) hdg hkk
    · exact va_put (C := r.1) (T := r.2.1) (N := r.2.2) hx hb hts c3 (im_tyf a) c2 c4 hown hSF.1 hP (im_w_D had h) hS i hw hr b hbN (hts _ (im_twS hlk)) (fun _ h9 => h9) (by simpa using hf) hpd hft.1 hft.2 (by rw [List.length_map]; exact h6.2) hdg hkk
  · cases hok
end IMH
