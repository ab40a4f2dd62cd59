/-! TOTALITY: runs told by what their end meets; heaps told by what stands at each place (cell, place in it) -/
def EvP (K : im_K) (d : Nat) (M : im_M) (c : im_C) (Q : Option Value → im_H → Prop) : Prop := ∃ v h, Ev K d M c (v, h) ∧ Q v h
def CaP (d j : Nat) (as : List Value) (h : im_H) (Q : Option Value → im_H → Prop) : Prop := ∃ v h2, Ca d j as h (v, h2) ∧ Q v h2
theorem evp {K : im_K} {d : Nat} {M : im_M} {c c2 : im_C} {Q : Option Value → im_H → Prop} (f : ∀ r, Ev K d M c2 r → Ev K d M c r) (k : EvP K d M c2 Q) : EvP K d M c Q := by
  obtain ⟨v, h, e, q⟩ := k
  exact ⟨v, h, f _ e, q⟩
theorem evp_imp {K : im_K} {d : Nat} {M : im_M} {c : im_C} {Q Q2 : Option Value → im_H → Prop} (k : EvP K d M c Q) (f : ∀ v h, Q v h → Q2 v h) : EvP K d M c Q2 := by
  obtain ⟨v, h, e, q⟩ := k
  exact ⟨v, h, e, f _ _ q⟩
theorem cap_of {d j : Nat} {M : im_M} {as : List Value} {h : im_H} {Q : Option Value → im_H → Prop} (hj : im_ms[j]? = some M) (hl : (lg_sl as).length ≤ M.2.2.1) (k : EvP im_K0 d M (0, lv_args 0 as, [], h) Q) : CaP (d + 1) j as h Q := by
  obtain ⟨v, h2, e, q⟩ := k
  exact ⟨v, h2, ca_of hj hl e, q⟩
theorem cap_imp {d j : Nat} {as : List Value} {h : im_H} {Q Q2 : Option Value → im_H → Prop} (k : CaP d j as h Q) (f : ∀ v h2, Q v h2 → Q2 v h2) : CaP d j as h Q2 := by
  obtain ⟨v, h2, e, q⟩ := k
  exact ⟨v, h2, e, f _ _ q⟩
theorem cap_le {d d2 j : Nat} {as : List Value} {h : im_H} {Q : Option Value → im_H → Prop} (k : CaP d j as h Q) (hd : d ≤ d2) : CaP d2 j as h Q := by
  obtain ⟨v, h2, e, q⟩ := k
  exact ⟨v, h2, ca_more e hd, q⟩
/-! what stands at a place -/
def rdE (e : im_E) (k : Nat) : Option Value := match e with
  | .inl (_, .inl l) => (l[k]?).map Value.int
  | .inl (_, .inr (.inl l)) => (l[k]?).map Value.long
  | .inl (_, .inr (.inr l)) => (l[k]?).map im_rf
  | .inr (_, fs) => fs[k]?
def rd (h : im_H) (i k : Nat) : Option Value := (h[i]?).bind fun e => rdE e k
theorem rd_obj {h : im_H} {i c b : Nat} {fs : List Value} (ho : im_obj h (16 + i) c = some fs) : rd h i b = fs[b]? := by
  obtain ⟨k, hk, hc⟩ := im_obj_eq ho
  have : k = i := by omega
  subst this
  unfold rd
  rw [hc]
  rfl
theorem rd_ia {h : im_H} {i t b : Nat} {l : List Int32} (ho : im_ia h (16 + i) t = some l) : rd h i b = (l[b]?).map Value.int := by
  obtain ⟨k, hk, hc⟩ := im_ia_eq ho
  have : k = i := by omega
  subst this
  unfold rd
  rw [hc]
  rfl
theorem rd_ne {h : im_H} {i j k : Nat} {e : im_E} (hj : j ≠ i) : rd (h.set i e) j k = rd h j k := by
  unfold rd
  rw [List.getElem?_set_ne (fun e => hj e.symm)]
theorem rd_eq {h : im_H} {i k : Nat} {e : im_E} (hi : i < h.length) : rd (h.set i e) i k = rdE e k := by
  unfold rd
  rw [List.getElem?_set_self hi]
  rfl
/-- one place is written -/
def up (h h2 : im_H) (i k : Nat) (v : Value) : Prop := rd h2 i k = some v ∧ ∀ j m, (j ≠ i ∨ m ≠ k) → rd h2 j m = rd h j m
/-- what may stand at a place: a number from .. to .. but one; this reference; null or one of these -/
abbrev tv : Type := (Int × Int × Int) ⊕ (Nat ⊕ List Nat)
def okV (t : tv) (v : Value) : Prop := match t with
  | .inl (lo, hi, ho) => ∃ x : Int32, v = .int x ∧ lo ≤ x.toInt ∧ x.toInt ≤ hi ∧ x.toInt ≠ ho
  | .inr (.inl r) => v = .ref r
  | .inr (.inr rs) => v = .null ∨ ∃ r, r ∈ rs ∧ v = .ref r
abbrev tSeg : Type := List (Nat × Nat × tv)
def tq (T : List tSeg) (i k : Nat) : Option tv := ((T.getD i []).find? (fun q => decide (q.1 ≤ k) && decide (k ≤ q.2.1))).map (fun q => q.2.2)
theorem tq_row {T : List tSeg} {i k m : Nat} {t : tv} (e : T.getD i [] = [(0, m, t)]) (hk : k ≤ m) : tq T i k = some t := by
  unfold tq
  rw [e]
  simp [hk]
