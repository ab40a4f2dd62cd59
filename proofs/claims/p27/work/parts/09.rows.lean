/-! STATICS, CONSTANTS, ROWS -/
section IMA
variable {p : Program} {l : Launch} {e : Env} {R : Room} {s : State} {m : MethodId} {args : Array Value} {below : List Frame} {meth : Method} {c : Code} {Q : State → Prop} {D : va_G} {ca : Nat → ClassId} {ad : Nat → Nat} {base nL : Nat} {K : im_K} {M : im_M} {pc : Nat} {lv : im_L} {st : List Value} {h : im_H} {c2 : im_C} {ms : List im_M}
theorem is_getstatic (C : im_Cx D ca ad base K M p R s m args meth c) {idx : Nat} {a b w z x : Nat} (hdg : decode M.2.1 pc = .ok (.getstatic idx, 3)) (hok : im_ok2 ms M (.getstatic idx) a b w z x pc = true) (hs : im_ins K M (.getstatic idx) a b w z pc lv st h = some (.inl c2)) : im_Go D ca ad base nL p l e R s m args below meth c Q pc lv st h c2 := by
  obtain ⟨hx, hb, hml, hown, hts, hSF, hin, hR1, hR2, had, hfty, hlc, htx⟩ := C
  have hok : (match im_sn[a]? with
    | some n => if b = 0 then im_tw x (.fieldLink M.1.cls idx "RubbleCity" n "[I") else decide (Cond.fieldLinkNest M.1.cls idx "RubbleCity" n "[I" "RubbleCity" ∈ im_nw)
    | none => false) = true := hok
  obtain ⟨h1, hs1⟩ := im_ite _ hs
  split at hok
  · rename_i n hn
    have hZ := hSF.2.2.2.1 a n hn
    cases im_nx_eq hs1
    by_cases hb0 : b = 0
    · rw [if_pos hb0] at hok
      exact im_go3 fun ls H locs cells slots hP hS k => va_gets hx hb hZ hS hown (hts _ (im_twS hok)) (fun _ h9 => h9) hdg k
    · rw [if_neg hb0] at hok
      have hN := va_Nw.use (A := args) rfl (hSF.2.1 _ (of_decide_eq_true hok))
      exact im_go3 fun ls H locs cells slots hP hS k => va_getsN hx hb hZ hS hown hN (fun _ h9 => h9) hdg k
  · cases hok
theorem is_ldc (C : im_Cx D ca ad base K M p R s m args meth c) {idx : Nat} {a b w z x : Nat} (hdg : decode M.2.1 pc = .ok (.ldc idx, 2)) (hok : im_ok2 ms M (.ldc idx) a b w z x pc = true) (hs : im_ins K M (.ldc idx) a b w z pc lv st h = some (.inl c2)) : im_Go D ca ad base nL p l e R s m args below meth c Q pc lv st h c2 := by
  obtain ⟨hx, hb, hml, hown, hts, hSF, hin, hR1, hR2, had, hfty, hlc, htx⟩ := C
  have hok : (match im_str[a]? with
    | some t => decide (M.1.cls = t.1) && decide (idx = t.2.1)
    | none => false) = true := hok
  obtain ⟨h1, hs1⟩ := im_ite _ hs
  split at hok
  · rename_i t ht
    simp only [Bool.and_eq_true, decide_eq_true_eq] at hok
    have hZ := hSF.2.2.2.2.2.1 a t ht
    cases im_nx_eq hs1
    rw [← hok.1, ← hok.2] at hZ
    exact im_go3 fun ls H locs cells slots hP hS k => va_ldcS hx hb hown hZ hdg k
  · cases hok
theorem is_ldc2_w (C : im_Cx D ca ad base K M p R s m args meth c) {idx : Nat} {a b w z x : Nat} (hdg : decode M.2.1 pc = .ok (.ldc2_w idx, 3)) (hok : im_ok2 ms M (.ldc2_w idx) a b w z x pc = true) (hs : im_ins K M (.ldc2_w idx) a b w z pc lv st h = some (.inl c2)) : im_Go D ca ad base nL p l e R s m args below meth c Q pc lv st h c2 := by
  obtain ⟨hx, hb, hml, hown, hts, hSF, hin, hR1, hR2, had, hfty, hlc, htx⟩ := C
  have hok : (match im_lc[a]? with
    | some v => im_tw x (.constantLong M.1.cls idx v)
    | none => false) = true := hok
  obtain ⟨v, h1, hs1⟩ := im_bd hs
  rw [hlc] at h1
  rw [h1] at hok
  cases im_nx_eq hs1
  exact im_go0 fun ls H locs cells slots hl k => lv_ldc2 hx hb hown (hts _ (im_twS hok)) hdg k
theorem im_ref {ad : Nat → Nat} {r i : Nat} (hi : r = 16 + i) (st : List Value) : (Value.ref r :: st).map (im_v ad) = .ref (ad (16 + i)) :: st.map (im_v ad) := by rw [← hi]; rfl
theorem im_tys_at (ca : Nat → ClassId) {t : Nat} (h : t < 8) : ∃ ty, (im_tys ca)[t]? = some (ca t, ty) := by
  rcases (show t = 0 ∨ t = 1 ∨ t = 2 ∨ t = 3 ∨ t = 4 ∨ t = 5 ∨ t = 6 ∨ t = 7 by omega) with rfl | rfl | rfl | rfl | rfl | rfl | rfl | rfl <;> exact ⟨_, rfl⟩
theorem im_len_eq {h : im_H} {r n : Nat} (e : im_len h r = some n) : ∃ i x t v, r = 16 + i ∧ h[i]? = some x ∧ t < 8 ∧ ∀ (ca : Nat → ClassId) (ad : Nat → Nat), ∃ f, im_e ca ad x = .inl (ca t, n, f) ∧ v = Int32.ofNat n := by
  unfold im_len at e
  split at e
  · rename_i hr
    split at e
    · rename_i t l hq
      obtain ⟨h1, h2⟩ := im_ite _ e
      cases h2
      exact ⟨r - 16, _, t, _, by omega, hq, by omega, fun ca ad => ⟨_, rfl, rfl⟩⟩
    · rename_i t l hq
      obtain ⟨h1, h2⟩ := im_ite _ e
      cases h2
      exact ⟨r - 16, _, t, _, by omega, hq, by omega, fun ca ad => ⟨_, rfl, rfl⟩⟩
    · rename_i t l hq
      obtain ⟨h1, h2⟩ := im_ite _ e
      cases h2
      exact ⟨r - 16, _, t, _, by omega, hq, by omega, fun ca ad => ⟨_, rfl, rfl⟩⟩
    · cases e
  · cases e
theorem is_arraylength (C : im_Cx D ca ad base K M p R s m args meth c)  {a b w z x : Nat} (hdg : decode M.2.1 pc = .ok (.arraylength, 1)) (hs : im_ins K M (.arraylength) a b w z pc lv st h = some (.inl c2)) : im_Go D ca ad base nL p l e R s m args below meth c Q pc lv st h c2 := by
  obtain ⟨hx, hb, hml, hown, hts, hSF, hin, hR1, hR2, had, hfty, hlc, htx⟩ := C
  obtain ⟨q, h1, hs1⟩ := im_bd hs
  obtain ⟨n, h2, hs2⟩ := im_bd hs1
  cases im_1r_eq h1
  cases im_nx_eq hs2
  by_cases hr : 16 ≤ q.1
  · rw [if_pos hr] at h2
    obtain ⟨i, y, t, v, hi, hy, ht, hf⟩ := im_len_eq h2
    obtain ⟨f, hf, -⟩ := hf ca ad
    obtain ⟨ty, hty⟩ := im_tys_at ca ht
    refine im_go3 fun ls H locs cells slots hP hS k => ?_
    rw [im_ref hi]
    have hw := im_w_at (ca := ca) (ad := ad) hy
    rw [hf] at hw
    exact va_alen hx hb hSF.1 hP i t hw hty rfl hdg k
  · rw [if_neg hr] at h2
    obtain ⟨l0, h3, rfl⟩ := Option.map_eq_some_iff.mp h2
    have hT := hSF.2.2.2.2.1 q.1 l0 h3
    exact im_go3 fun ls H locs cells slots hP hS k => va_tlen hx hb hT hS rfl hdg k
theorem is_iaload (C : im_Cx D ca ad base K M p R s m args meth c)  {a b w z x : Nat} (hdg : decode M.2.1 pc = .ok (.iaload, 1)) (hs : im_ins K M (.iaload) a b w z pc lv st h = some (.inl c2)) : im_Go D ca ad base nL p l e R s m args below meth c Q pc lv st h c2 := by
  obtain ⟨hx, hb, hml, hown, hts, hSF, hin, hR1, hR2, had, hfty, hlc, htx⟩ := C
  obtain ⟨q, h1, hs1⟩ := im_bd hs
  obtain ⟨r, h2, hs2⟩ := im_bd hs1
  obtain ⟨l0, h3, hs3⟩ := im_bd hs2
  obtain ⟨h4, hs4⟩ := im_ite _ hs3
  have e1 := im_1i_eq h1
  rw [im_1r_eq h2] at e1
  cases im_nx_eq hs4
  subst e1
  by_cases hr : 16 ≤ r.1
  · rw [if_pos hr] at h3
    obtain ⟨i, hi, hc⟩ := im_ia_eq h3
    refine im_go3 fun ls H locs cells slots hP hS k => ?_
    rw [List.map_cons, im_ref hi]
    exact va_iald hx hb hSF.1 hP i 0 (im_w_at (ca := ca) (ad := ad) hc) rfl (im_in_vp h4) hdg k
  · rw [if_neg hr] at h3
    have hT := hSF.2.2.2.2.1 r.1 l0 h3
    exact im_go3 fun ls H locs cells slots hP hS k => va_ti hx hb hT hS (im_in_vp h4) rfl hdg k
theorem is_baload (C : im_Cx D ca ad base K M p R s m args meth c)  {a b w z x : Nat} (hdg : decode M.2.1 pc = .ok (.baload, 1)) (hs : im_ins K M (.baload) a b w z pc lv st h = some (.inl c2)) : im_Go D ca ad base nL p l e R s m args below meth c Q pc lv st h c2 := by
  obtain ⟨hx, hb, hml, hown, hts, hSF, hin, hR1, hR2, had, hfty, hlc, htx⟩ := C
  obtain ⟨q, h1, hs1⟩ := im_bd hs
  obtain ⟨r, h2, hs2⟩ := im_bd hs1
  obtain ⟨l0, h3, hs3⟩ := im_bd hs2
  obtain ⟨h4, hs4⟩ := im_ite _ hs3
  have e1 := im_1i_eq h1
  rw [im_1r_eq h2] at e1
  cases im_nx_eq hs4
  subst e1
  obtain ⟨i, hi, hc⟩ := im_ia_eq h3
  refine im_go3 fun ls H locs cells slots hP hS k => ?_
  rw [List.map_cons, im_ref hi]
  exact va_zald hx hb hSF.1 hP i 1 (im_w_at (ca := ca) (ad := ad) hc) rfl (im_in_vp h4) hdg k
theorem is_laload (C : im_Cx D ca ad base K M p R s m args meth c)  {a b w z x : Nat} (hdg : decode M.2.1 pc = .ok (.laload, 1)) (hs : im_ins K M (.laload) a b w z pc lv st h = some (.inl c2)) : im_Go D ca ad base nL p l e R s m args below meth c Q pc lv st h c2 := by
  obtain ⟨hx, hb, hml, hown, hts, hSF, hin, hR1, hR2, had, hfty, hlc, htx⟩ := C
  obtain ⟨q, h1, hs1⟩ := im_bd hs
  obtain ⟨r, h2, hs2⟩ := im_bd hs1
  obtain ⟨l0, h3, hs3⟩ := im_bd hs2
  obtain ⟨h4, hs4⟩ := im_ite _ hs3
  have e1 := im_1i_eq h1
  rw [im_1r_eq h2] at e1
  cases im_nx_eq hs4
  subst e1
  obtain ⟨i, hi, hc⟩ := im_la_eq h3
  refine im_go3 fun ls H locs cells slots hP hS k => ?_
  rw [List.map_cons, im_ref hi]
  exact va_lald hx hb hSF.1 hP i 2 (im_w_at (ca := ca) (ad := ad) hc) rfl (im_in_vp h4) hdg k
theorem im_rf_v (ad : Nat → Nat) (o : Option Nat) : im_v ad (im_rf o) = va_rf (o.map ad) := by cases o <;> rfl
theorem is_aaload (C : im_Cx D ca ad base K M p R s m args meth c)  {a b w z x : Nat} (hdg : decode M.2.1 pc = .ok (.aaload, 1)) (hs : im_ins K M (.aaload) a b w z pc lv st h = some (.inl c2)) : im_Go D ca ad base nL p l e R s m args below meth c Q pc lv st h c2 := by
  obtain ⟨hx, hb, hml, hown, hts, hSF, hin, hR1, hR2, had, hfty, hlc, htx⟩ := C
  obtain ⟨q, h1, hs1⟩ := im_bd hs
  obtain ⟨r, h2, hs2⟩ := im_bd hs1
  obtain ⟨l0, h3, hs3⟩ := im_bd hs2
  obtain ⟨h4, hs4⟩ := im_ite _ hs3
  have e1 := im_1i_eq h1
  rw [im_1r_eq h2] at e1
  cases im_nx_eq hs4
  subst e1
  obtain ⟨i, hi, hc⟩ := im_qa_eq h3
  refine im_go3 fun ls H locs cells slots hP hS k => ?_
  rw [List.map_cons, im_rf_v] at k
  rw [List.map_cons, im_ref hi]
  have hw := im_w_at (ca := ca) (ad := ad) hc
  obtain ⟨hin4, ht3, ht8⟩ := h4
  have hin5 := im_in_vp hin4
  have hlt := im_in_lt hin5
  have hrow : ∀ (ty : FieldType), ty.isReference = true → (im_tys ca)[l0.1]? = some (ca l0.1, ty) → W p l e R s m args below meth c H locs cells slots Q (F0 m pc ls (.int q.1 :: .ref (ad (16 + i)) :: r.2.map (im_v ad))) := fun ty hrf hty =>
    W.aald (v := va_rf ((l0.2.getD q.1.toNatClampNeg none).map ad)) (ty := ty) hx hb (hP i _ hw) ((hSF.1.2 l0.1 _ hty).1 l0.2.length (fun j => va_rf ((l0.2.getD j none).map ad))) hrf (fun q => by cases q) (by show ¬ (q.1 < 0 ∨ (arrV _ _ _).slots.size ≤ _); rw [arrV_size]; exact hin5) (by show (arrV _ _ _).slots[_]? = _; rw [arrV_read _ _ hlt]) rfl rfl hdg k
  rcases (show l0.1 = 3 ∨ l0.1 = 4 ∨ l0.1 = 5 ∨ l0.1 = 6 ∨ l0.1 = 7 by omega) with e9 | e9 | e9 | e9 | e9
  · exact hrow (.object RX7) rfl (by rw [e9]; rfl)
  · exact hrow (.object RX5) rfl (by rw [e9]; rfl)
  · exact hrow (.object RX1) rfl (by rw [e9]; rfl)
  · exact hrow (.object RX8) rfl (by rw [e9]; rfl)
  · exact hrow (.array .int) rfl (by rw [e9]; rfl)
theorem is_iastore (C : im_Cx D ca ad base K M p R s m args meth c)  {a b w z x : Nat} (hdg : decode M.2.1 pc = .ok (.iastore, 1)) (hs : im_ins K M (.iastore) a b w z pc lv st h = some (.inl c2)) : im_Go D ca ad base nL p l e R s m args below meth c Q pc lv st h c2 := by
  obtain ⟨hx, hb, hml, hown, hts, hSF, hin, hR1, hR2, had, hfty, hlc, htx⟩ := C
  obtain ⟨y, h1, hs1⟩ := im_bd hs
  obtain ⟨q, h2, hs2⟩ := im_bd hs1
  obtain ⟨r, h3, hs3⟩ := im_bd hs2
  obtain ⟨l0, h4, hs4⟩ := im_bd hs3
  obtain ⟨h5, hs5⟩ := im_ite _ hs4
  have e1 := im_1i_eq h1
  rw [im_1i_eq h2, im_1r_eq h3] at e1
  cases im_nx_eq hs5
  subst e1
  obtain ⟨i, hi, hc⟩ := im_ia_eq h4
  rw [show r.1 - 16 = i by omega]
  refine im_go2 hc (by simp [im_sl1]) fun ls H locs cells slots hP hS kk => ?_
  rw [List.map_cons, List.map_cons, im_ref hi]
  refine va_iast hx hb hSF.1 hP (im_w_D had h) hS i 0 (im_w_at (ca := ca) (ad := ad) hc) rfl (im_in_vp h5) hdg fun H1 locs1 hP1 _ hS1 => kk H1 locs1 ?_ hS1
  rw [im_upd (im_in_lt (im_in_vp h5))] at hP1
  simpa [im_e] using hP1
theorem is_bastore (C : im_Cx D ca ad base K M p R s m args meth c)  {a b w z x : Nat} (hdg : decode M.2.1 pc = .ok (.bastore, 1)) (hs : im_ins K M (.bastore) a b w z pc lv st h = some (.inl c2)) : im_Go D ca ad base nL p l e R s m args below meth c Q pc lv st h c2 := by
  obtain ⟨hx, hb, hml, hown, hts, hSF, hin, hR1, hR2, had, hfty, hlc, htx⟩ := C
  obtain ⟨y, h1, hs1⟩ := im_bd hs
  obtain ⟨q, h2, hs2⟩ := im_bd hs1
  obtain ⟨r, h3, hs3⟩ := im_bd hs2
  obtain ⟨l0, h4, hs4⟩ := im_bd hs3
  obtain ⟨h5, hs5⟩ := im_ite _ hs4
  have e1 := im_1i_eq h1
  rw [im_1i_eq h2, im_1r_eq h3] at e1
  cases im_nx_eq hs5
  subst e1
  obtain ⟨i, hi, hc⟩ := im_ia_eq h4
  rw [show r.1 - 16 = i by omega]
  refine im_go2 hc (by simp [im_sl1]) fun ls H locs cells slots hP hS kk => ?_
  rw [List.map_cons, List.map_cons, im_ref hi]
  refine va_zast hx hb hSF.1 hP (im_w_D had h) hS i 1 (im_w_at (ca := ca) (ad := ad) hc) rfl (im_in_vp h5.1) hdg fun H1 locs1 hP1 _ hS1 => kk H1 locs1 ?_ hS1
  have hnar : vp_nar .boolean y.1 = y.1 := by
    rcases h5.2 with e9 | e9 <;> (rw [e9]; decide +kernel)
  rw [hnar, im_upd (im_in_lt (im_in_vp h5.1))] at hP1
  simpa [im_e] using hP1
theorem is_lastore (C : im_Cx D ca ad base K M p R s m args meth c)  {a b w z x : Nat} (hdg : decode M.2.1 pc = .ok (.lastore, 1)) (hs : im_ins K M (.lastore) a b w z pc lv st h = some (.inl c2)) : im_Go D ca ad base nL p l e R s m args below meth c Q pc lv st h c2 := by
  obtain ⟨hx, hb, hml, hown, hts, hSF, hin, hR1, hR2, had, hfty, hlc, htx⟩ := C
  obtain ⟨y, h1, hs1⟩ := im_bd hs
  obtain ⟨q, h2, hs2⟩ := im_bd hs1
  obtain ⟨r, h3, hs3⟩ := im_bd hs2
  obtain ⟨l0, h4, hs4⟩ := im_bd hs3
  obtain ⟨h5, hs5⟩ := im_ite _ hs4
  have e1 := im_1l_eq h1
  rw [im_1i_eq h2, im_1r_eq h3] at e1
  cases im_nx_eq hs5
  subst e1
  obtain ⟨i, hi, hc⟩ := im_la_eq h4
  rw [show r.1 - 16 = i by omega]
  refine im_go2 hc (by simp [im_sl1]) fun ls H locs cells slots hP hS kk => ?_
  rw [List.map_cons, List.map_cons, im_ref hi]
  refine va_last hx hb hSF.1 hP (im_w_D had h) hS i 2 (im_w_at (ca := ca) (ad := ad) hc) rfl (im_in_vp h5) hdg fun H1 locs1 hP1 _ hS1 => kk H1 locs1 ?_ hS1
  rw [im_updL (im_in_lt (im_in_vp h5))] at hP1
  simpa [im_e] using hP1
theorem is_aastore (C : im_Cx D ca ad base K M p R s m args meth c)  {a b w z x : Nat} (hdg : decode M.2.1 pc = .ok (.aastore, 1)) (hs : im_ins K M (.aastore) a b w z pc lv st h = some (.inl c2)) : im_Go D ca ad base nL p l e R s m args below meth c Q pc lv st h c2 := by
  obtain ⟨hx, hb, hml, hown, hts, hSF, hin, hR1, hR2, had, hfty, hlc, htx⟩ := C
  obtain ⟨y, h1, hs1⟩ := im_bd hs
  obtain ⟨q, h2, hs2⟩ := im_bd hs1
  obtain ⟨r, h3, hs3⟩ := im_bd hs2
  obtain ⟨l0, h4, hs4⟩ := im_bd hs3
  obtain ⟨fs, h6, hs5⟩ := im_bd hs4
  obtain ⟨h5, hs6⟩ := im_ite _ hs5
  have e1 := im_1r_eq h1
  rw [im_1i_eq h2, im_1r_eq h3] at e1
  cases im_nx_eq hs6
  subst e1
  obtain ⟨i, hi, hc⟩ := im_qa_eq h4
  obtain ⟨j, hj, hd⟩ := im_obj_eq h6
  rw [show r.1 - 16 = i by omega]
  refine im_go2 hc (by simp [im_sl1]) fun ls H locs cells slots hP hS kk => ?_
  rw [List.map_cons, List.map_cons, im_ref hi, show im_v ad (.ref y.1) = .ref (ad (16 + j)) by rw [← hj]; rfl]
  have hin5 := im_in_vp h5.1
  have hkk : ∀ (H1 : Heap) (locs1 : List Loc), va_P D vwCl ((im_w ca ad h).set i (ad (16 + i), .inl (ca l0.1, l0.2.length, .inr (.inr (.inr (.inr (va_up (fun j => (l0.2.getD j none).map ad) q.1.toNatClampNeg (some (ad (16 + j)))))))))) H1 → va_D (im_up base) ((im_w ca ad h).set i (ad (16 + i), .inl (ca l0.1, l0.2.length, .inr (.inr (.inr (.inr (va_up (fun j => (l0.2.getD j none).map ad) q.1.toNatClampNeg (some (ad (16 + j)))))))))) → va_S (im_up base) s.heap H1 locs1 → W p l e R s m args below meth c H1 locs1 cells slots Q (F0 m (pc + 1) ls (r.2.map (im_v ad))) := fun H1 locs1 hP1 _ hS1 => by
    refine kk H1 locs1 ?_ hS1
    rw [im_updQ (im_in_lt hin5)] at hP1
    rw [hj]
    simpa [im_e] using hP1
  have hw := im_w_at (ca := ca) (ad := ad) hc
  have hv := im_w_at (ca := ca) (ad := ad) hd
  obtain ⟨-, ht3, ht7⟩ := h5
  rcases (show l0.1 = 3 ∨ l0.1 = 4 ∨ l0.1 = 5 ∨ l0.1 = 6 by omega) with e9 | e9 | e9 | e9
  · rw [e9] at hv hw hkk
    exact va_astq (r := (RX7, TX7, 4)) hx hb hSF.1 hP (im_w_D had h) hS i 3 j 7 hw rfl hv rfl hin5 hdg hkk
  · rw [e9] at hv hw hkk
    exact va_astq (r := (RX5, TX5, 4)) hx hb hSF.1 hP (im_w_D had h) hS i 4 j 5 hw rfl hv rfl hin5 hdg hkk
  · rw [e9] at hv hw hkk
    exact va_astq (r := (RX1, TX1, 7)) hx hb hSF.1 hP (im_w_D had h) hS i 5 j 1 hw rfl hv rfl hin5 hdg hkk
  · rw [e9] at hv hw hkk
    exact va_astq (r := (RX8, TX8, 3)) hx hb hSF.1 hP (im_w_D had h) hS i 6 j 8 hw rfl hv rfl hin5 hdg hkk
end IMA
