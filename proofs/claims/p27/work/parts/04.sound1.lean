/-! WHAT THE INTERPRETER'S CELLS STAND FOR on the machine; the words that a row of the tables must have; the rows of single instructions -/
def im_v (ad : Nat → Nat) (v : Value) : Value := match v with
  | .ref r => .ref (ad r)
  | v => v
def im_e (ca : Nat → ClassId) (ad : Nat → Nat) (x : im_E) : va_E := match x with
  | .inl (t, .inl l) => .inl (ca t, l.length, .inl (fun j => l.getD j 0))
  | .inl (t, .inr (.inl l)) => .inl (ca t, l.length, .inr (.inl (fun j => l.getD j 0)))
  | .inl (t, .inr (.inr l)) => .inl (ca t, l.length, .inr (.inr (.inr (.inr (fun j => (l.getD j none).map ad)))))
  | .inr (ci, fs) => .inr (ci, fs.map (im_v ad))
def im_w (ca : Nat → ClassId) (ad : Nat → Nat) (h : im_H) : va_W := h.mapIdx fun i x => (ad (16 + i), im_e ca ad x)
abbrev im_up (base : Nat) : Nat → Prop := fun q => base ≤ q
def im_tys (ca : Nat → ClassId) : List (ClassId × FieldType) := [(ca 0, .int), (ca 1, .boolean), (ca 2, .long), (ca 3, .object RX7), (ca 4, .object RX5), (ca 5, .object RX1), (ca 6, .object RX8), (ca 7, .array .int)]
theorem im_w_get (ca : Nat → ClassId) (ad : Nat → Nat) (h : im_H) (i : Nat) : (im_w ca ad h)[i]? = (h[i]?).map (fun x => (ad (16 + i), im_e ca ad x)) := by
  simp [im_w, List.getElem?_mapIdx]
theorem im_w_at {ca : Nat → ClassId} {ad : Nat → Nat} {h : im_H} {i : Nat} {x : im_E} (hx : h[i]? = some x) : (im_w ca ad h)[i]? = some (ad (16 + i), im_e ca ad x) := by
  rw [im_w_get, hx]; rfl
theorem im_w_set {ca : Nat → ClassId} {ad : Nat → Nat} {h : im_H} {i : Nat} {x : im_E} : (im_w ca ad h).set i (ad (16 + i), im_e ca ad x) = im_w ca ad (h.set i x) := by
  apply List.ext_getElem?
  intro j
  rw [im_w_get, List.getElem?_set, List.getElem?_set, im_w_get]
  by_cases hj : i = j
  · subst hj
    simp only [if_true]
    by_cases hl : i < h.length
    · simp [hl, im_w]
    · simp [hl, im_w]
  · simp [hj]
theorem im_w_app (ca : Nat → ClassId) (ad : Nat → Nat) (h : im_H) (x : im_E) : im_w ca ad (h ++ [x]) = im_w ca ad h ++ [(ad (16 + h.length), im_e ca ad x)] := by
  simp [im_w, List.mapIdx_append]
theorem im_w_D {ca : Nat → ClassId} {ad : Nat → Nat} {base : Nat} (had : ∀ i, ad (16 + i) = base + i) (h : im_H) : va_D (im_up base) (im_w ca ad h) := by
  refine ⟨fun i j p q hi hj e => ?_, fun k q hk => ?_⟩
  · rw [im_w_get] at hi hj
    obtain ⟨x, -, rfl⟩ := Option.map_eq_some_iff.mp hi
    obtain ⟨y, -, rfl⟩ := Option.map_eq_some_iff.mp hj
    have e2 : ad (16 + i) = ad (16 + j) := e
    rw [had, had] at e2
    omega
  · rw [im_w_get] at hk
    obtain ⟨x, -, rfl⟩ := Option.map_eq_some_iff.mp hk
    show base ≤ ad (16 + k)
    rw [had]; omega
theorem im_cat_v (ad : Nat → Nat) (v : Value) : (im_v ad v).category = v.category := by cases v <;> rfl
theorem im_cat_l (ad : Nat → Nat) (st : List Value) : ((st.map (im_v ad)).map fun v => v.category).sum = (st.map fun v => v.category).sum := by
  rw [List.map_map]
  congr 1
  exact List.map_congr_left (fun v _ => im_cat_v ad v)
theorem im_cat_le {ad : Nat → Nat} {st : List Value} (h : im_cat st = true) : ((st.map (im_v ad)).map fun v => v.category).sum ≤ 8 := by
  rw [im_cat_l]; exact of_decide_eq_true h
-- locals
abbrev im_ml (ad : Nat → Nat) (lv : im_L) : List (Nat × Value) := lv.map fun q => (q.1, im_v ad q.2)
theorem im_lk_mem {lv : im_L} {k : Nat} {v : Value} (h : im_lk lv k = some v) : (k, v) ∈ lv := by
  unfold im_lk at h
  obtain ⟨q, hq, rfl⟩ := Option.map_eq_some_iff.mp h
  have h1 := List.mem_of_find?_eq_some hq
  have h2 : (q.1 == k) = true := List.find?_some (p := fun q : Nat × Value => q.1 == k) hq
  have h3 : q.1 = k := by simpa using h2
  subst h3
  exact h1
theorem im_lk_at {ad : Nat → Nat} {lv : im_L} {k nL : Nat} {v : Value} {ls : Array Slot} (h : im_lk lv k = some v) (hl : lv_has ls nL (im_ml ad lv)) : ls[k]? = some (.val (im_v ad v)) :=
  hl.2.2 (k, im_v ad v) (List.mem_map.mpr ⟨(k, v), im_lk_mem h, rfl⟩)
theorem im_pt_ml (ad : Nat → Nat) (lv : im_L) (k : Nat) (v : Value) : (k, im_v ad v) :: (im_ml ad lv).filter (fun q => !(q.1 == k) && !(q.1 + 1 == k && q.2.category == 2)) = im_ml ad (im_pt lv k v) := by
  simp only [im_ml, im_pt, List.map_cons, List.filter_map]
  congr 2
  apply List.filter_congr
  intro q _
  simp [Function.comp, im_cat_v]
-- the stack
theorem im_1i_eq {st : List Value} {q : Int32 × List Value} (h : im_1i st = some q) : st = .int q.1 :: q.2 := by
  unfold im_1i at h
  split at h
  · cases h; rfl
  · cases h
theorem im_1l_eq {st : List Value} {q : Int64 × List Value} (h : im_1l st = some q) : st = .long q.1 :: q.2 := by
  unfold im_1l at h
  split at h
  · cases h; rfl
  · cases h
theorem im_1r_eq {st : List Value} {q : Nat × List Value} (h : im_1r st = some q) : st = .ref q.1 :: q.2 := by
  unfold im_1r at h
  split at h
  · cases h; rfl
  · cases h
theorem im_pop_eq {st : List Value} {q : Value × List Value} (h : im_pop st = some q) : st = q.1 :: q.2 := by
  unfold im_pop at h
  split at h
  · cases h; rfl
  · cases h
theorem im_1v_eq {v : Value} {x : Int32} (h : im_1v v = some x) : v = .int x := by
  unfold im_1v at h
  split at h
  · cases h; rfl
  · cases h
theorem im_isI_eq {v : Value} (h : im_isI v = true) : ∃ x, v = .int x := by
  unfold im_isI at h
  split at h
  · exact ⟨_, rfl⟩
  · cases h
theorem im_isL_eq {v : Value} (h : im_isL v = true) : ∃ x, v = .long x := by
  unfold im_isL at h
  split at h
  · exact ⟨_, rfl⟩
  · cases h
theorem im_isR_eq {v : Value} (h : im_isR v = true) : ∃ x, v = .ref x := by
  unfold im_isR at h
  split at h
  · exact ⟨_, rfl⟩
  · cases h
theorem im_bd {α β : Type} {o : Option α} {f : α → Option β} {b : β} (h : o.bind f = some b) : ∃ a, o = some a ∧ f a = some b := Option.bind_eq_some_iff.mp h
theorem im_ite {α : Type} {c : Prop} (d : Decidable c) {x : Option α} {b : α} (h : (@ite _ c d x none) = some b) : c ∧ x = some b := by
  by_cases hc : c
  · rw [if_pos hc] at h; exact ⟨hc, h⟩
  · rw [if_neg hc] at h; cases h
theorem im_nx_eq {pc : Nat} {lv : im_L} {st : List Value} {h : im_H} {c2 : im_C} (e : im_nx pc lv st h = some (.inl c2)) : c2 = (pc, lv, st, h) := by
  unfold im_nx at e
  cases e; rfl
theorem im_in_vp {i : Int32} {n : Nat} (h : im_in i n = true) : vp_in i n := by
  simp only [im_in, Bool.not_eq_true', Bool.or_eq_false_iff, decide_eq_false_iff_not] at h
  exact fun q => q.elim h.1 h.2
-- cells
theorem im_obj_eq {h : im_H} {r ci : Nat} {fs : List Value} (e : im_obj h r ci = some fs) : ∃ i, r = 16 + i ∧ h[i]? = some (.inr (ci, fs)) := by
  unfold im_obj at e
  split at e
  · rename_i hr
    split at e
    · rename_i c f hq
      split at e
      · rename_i hc
        cases e
        subst hc
        exact ⟨r - 16, by omega, hq⟩
      · cases e
    · cases e
  · cases e
theorem im_ia_eq {h : im_H} {r t : Nat} {l : List Int32} (e : im_ia h r t = some l) : ∃ i, r = 16 + i ∧ h[i]? = some (.inl (t, .inl l)) := by
  unfold im_ia at e
  split at e
  · rename_i hr
    split at e
    · rename_i c f hq
      split at e
      · rename_i hc
        cases e
        subst hc
        exact ⟨r - 16, by omega, hq⟩
      · cases e
    · cases e
  · cases e
theorem im_la_eq {h : im_H} {r : Nat} {l : List Int64} (e : im_la h r = some l) : ∃ i, r = 16 + i ∧ h[i]? = some (.inl (2, .inr (.inl l))) := by
  unfold im_la at e
  split at e
  · rename_i hr
    split at e
    · rename_i c f hq
      split at e
      · rename_i hc
        cases e
        subst hc
        exact ⟨r - 16, by omega, hq⟩
      · cases e
    · cases e
  · cases e
theorem im_qa_eq {h : im_H} {r : Nat} {q : Nat × List (Option Nat)} (e : im_qa h r = some q) : ∃ i, r = 16 + i ∧ h[i]? = some (.inl (q.1, .inr (.inr q.2))) := by
  unfold im_qa at e
  split at e
  · rename_i hr
    split at e
    · rename_i hq
      cases e
      exact ⟨r - 16, by omega, hq⟩
    · cases e
  · cases e
-- the room that cells take
theorem im_sl_set {h : im_H} {i : Nat} {x y : im_E} (hx : h[i]? = some x) (e : im_sl1 y = im_sl1 x) : im_sl (h.set i y) = im_sl h := by
  unfold im_sl
  induction h generalizing i with
  | nil => simp at hx
  | cons a t ih =>
    cases i with
    | zero =>
      simp only [List.getElem?_cons_zero, Option.some.injEq] at hx
      subst hx
      simp [e]
    | succ i =>
      simp only [List.getElem?_cons_succ] at hx
      simp only [List.set_cons_succ, List.map_cons, List.sum_cons, ih hx]
theorem im_sl_app (h k : im_H) : im_sl (h ++ k) = im_sl h + im_sl k := by simp [im_sl]
