/-! A STEP, A BODY, A METHOD -/
def im_MX (h : im_H) (o : Option im_O) : Prop := ∀ c2, o = some (.inl c2) → h.length ≤ c2.2.2.2.length ∧ im_sl h ≤ im_sl c2.2.2.2
theorem mx_none {h : im_H} : im_MX h none := fun _ q => by cases q
theorem mx_inr {h : im_H} {y : (Nat × List Value × List Value) ⊕ Option Value} : im_MX h (some (.inr y)) := fun _ q => by cases q
theorem mx_nx {h : im_H} {pc : Nat} {lv : im_L} {st : List Value} : im_MX h (im_nx pc lv st h) := fun c2 q => by cases im_nx_eq q; exact ⟨Nat.le_refl _, Nat.le_refl _⟩
theorem mx_bind {α : Type} {h : im_H} {o : Option α} {f : α → Option im_O} (k : ∀ a, o = some a → im_MX h (f a)) : im_MX h (o.bind f) := fun c2 q => by
  obtain ⟨a, h1, h2⟩ := im_bd q
  exact k a h1 c2 h2
theorem mx_ite {h : im_H} {c : Prop} {d : Decidable c} {x y : Option im_O} (k1 : c → im_MX h x) (k2 : ¬ c → im_MX h y) : im_MX h (@ite _ c d x y) := by
  by_cases hc : c
  · rw [if_pos hc]; exact k1 hc
  · rw [if_neg hc]; exact k2 hc
theorem mx_set {h : im_H} {pc : Nat} {lv : im_L} {st : List Value} {i : Nat} {x y : im_E} (hx : h[i]? = some x) (e : im_sl1 y = im_sl1 x) : im_MX h (im_nx pc lv st (h.set i y)) := fun c2 q => by
  cases im_nx_eq q
  exact ⟨by show h.length ≤ (h.set i y).length; rw [List.length_set]; exact Nat.le_refl _, by show im_sl h ≤ im_sl (h.set i y); rw [im_sl_set hx e]; exact Nat.le_refl _⟩
theorem mx_app {h k : im_H} {pc : Nat} {lv : im_L} {st : List Value} : im_MX h (im_nx pc lv st (h ++ k)) := fun c2 q => by
  cases im_nx_eq q
  exact ⟨by show h.length ≤ (h ++ k).length; rw [List.length_append]; omega, by show im_sl h ≤ im_sl (h ++ k); rw [im_sl_app]; omega⟩
theorem mx_app2 {h k k2 : im_H} {pc : Nat} {lv : im_L} {st : List Value} : im_MX h (im_nx pc lv st ((h ++ k) ++ k2)) := by
  rw [List.append_assoc]; exact mx_app
theorem im_mono {K : im_K} {M : im_M} {i : Instr} {a b w z pc : Nat} {lv : im_L} {st : List Value} {h : im_H} : im_MX h (im_ins K M i a b w z pc lv st h) := by
  cases i
  case putfield idx =>
    refine mx_bind fun v _ => mx_bind fun q _ => mx_bind fun fs h3 => mx_bind fun tys _ => mx_bind fun ty _ => mx_ite (fun _ => ?_) (fun _ => mx_none)
    obtain ⟨i, hi, hc⟩ := im_obj_eq h3
    rw [show q.1 - 16 = i by omega]
    exact mx_set hc (by simp [im_sl1])
  case iastore =>
    refine mx_bind fun v _ => mx_bind fun q _ => mx_bind fun r _ => mx_bind fun l0 h3 => mx_ite (fun _ => ?_) (fun _ => mx_none)
    obtain ⟨i, hi, hc⟩ := im_ia_eq h3
    rw [show r.1 - 16 = i by omega]
    exact mx_set hc (by simp [im_sl1])
  case bastore =>
    refine mx_bind fun v _ => mx_bind fun q _ => mx_bind fun r _ => mx_bind fun l0 h3 => mx_ite (fun _ => ?_) (fun _ => mx_none)
    obtain ⟨i, hi, hc⟩ := im_ia_eq h3
    rw [show r.1 - 16 = i by omega]
    exact mx_set hc (by simp [im_sl1])
  case lastore =>
    refine mx_bind fun v _ => mx_bind fun q _ => mx_bind fun r _ => mx_bind fun l0 h3 => mx_ite (fun _ => ?_) (fun _ => mx_none)
    obtain ⟨i, hi, hc⟩ := im_la_eq h3
    rw [show r.1 - 16 = i by omega]
    exact mx_set hc (by simp [im_sl1])
  case aastore =>
    refine mx_bind fun v _ => mx_bind fun q _ => mx_bind fun r _ => mx_bind fun l0 h3 => mx_bind fun _ _ => mx_ite (fun _ => ?_) (fun _ => mx_none)
    obtain ⟨i, hi, hc⟩ := im_qa_eq h3
    rw [show r.1 - 16 = i by omega]
    exact mx_set hc (by simp [im_sl1])
  case new idx => exact mx_bind fun _ _ => mx_app
  case newarray t =>
    refine mx_bind fun q _ => mx_ite (fun _ => mx_none) (fun _ => ?_)
    split
    · exact mx_app
    · exact mx_app
    · exact mx_app
    · exact mx_none
  case anewarray idx => exact mx_bind fun _ _ => mx_ite (fun _ => mx_none) (fun _ => mx_app)
  case multianewarray idx n => exact mx_bind fun _ _ => mx_bind fun _ _ => mx_ite (fun _ => mx_none) (fun _ => mx_app2)
  case invokestatic idx =>
    show im_MX h (match b with
      | 0 => (im_take w st).bind fun q => if im_cat q.2 then some (.inr (.inl (a, q.1, q.2))) else none
      | 3 => im_copy pc lv st h z
      | 5 => (im_1i st).bind fun q => (im_1i q.2).bind fun u => if im_cat u.2 then im_nx (pc + 3) lv (.int (if u.1 < q.1 then q.1 else u.1) :: u.2) h else none
      | 6 => (im_1i st).bind fun q => (im_1i q.2).bind fun u => if im_cat u.2 then im_nx (pc + 3) lv (.int (if q.1 < u.1 then q.1 else u.1) :: u.2) h else none
      | _ => none)
    split
    · exact mx_bind fun _ _ => mx_ite (fun _ => mx_inr) (fun _ => mx_none)
    · refine mx_bind fun n _ => mx_bind fun dp _ => mx_bind fun d _ => mx_bind fun sp _ => mx_bind fun s0 _ => mx_bind fun l0 h6 => mx_bind fun l1 h7 => mx_ite (fun h8 => ?_) (fun _ => mx_none)
      simp only [Bool.and_eq_true, Bool.not_eq_true', decide_eq_false_iff_not, decide_eq_true_eq, Bool.or_eq_true, beq_iff_eq] at h8
      obtain ⟨⟨⟨⟨⟨⟨g1, g2⟩, g3⟩, g4⟩, g5⟩, g6⟩, g7⟩ := h8
      obtain ⟨j, hj, hd⟩ := im_ia_eq h7
      rw [show d.1 - 16 = j by omega]
      exact mx_set hd (by simp [im_sl1, im_cpy_len l0 l1 _ _ _ g4 g5])
    · exact mx_bind fun _ _ => mx_bind fun _ _ => mx_ite (fun _ => mx_nx) (fun _ => mx_none)
    · exact mx_bind fun _ _ => mx_bind fun _ _ => mx_ite (fun _ => mx_nx) (fun _ => mx_none)
    · exact mx_none
  case invokespecial idx =>
    show im_MX h (match b with
      | 0 => (im_take w st).bind fun q => (im_1r q.2).bind fun r => if im_cat r.2 then some (.inr (.inl (a, .ref r.1 :: q.1, r.2))) else none
      | 4 => (im_1r st).bind fun r => if im_cat r.2 then im_nx (pc + 3) lv r.2 h else none
      | _ => none)
    split
    · exact mx_bind fun _ _ => mx_bind fun _ _ => mx_ite (fun _ => mx_inr) (fun _ => mx_none)
    · exact mx_bind fun _ _ => mx_ite (fun _ => mx_nx) (fun _ => mx_none)
    · exact mx_none
  case invokevirtual idx =>
    show im_MX h (match b with
      | 0 => (im_take w st).bind fun q => (im_1r q.2).bind fun r => (im_obj h r.1 z).bind fun _ => if im_cat r.2 then some (.inr (.inl (a, .ref r.1 :: q.1, r.2))) else none
      | 1 => (im_1r st).bind fun r => if 6 ≤ r.1 ∧ im_cat r.2 then (K.2.2.2[r.1 - 6]?).bind fun l => im_nx (pc + 3) lv (.int (Int32.ofNat l.length) :: r.2) h else none
      | 2 => (im_1i st).bind fun q => (im_1r q.2).bind fun r => if 6 ≤ r.1 ∧ im_cat r.2 then (K.2.2.2[r.1 - 6]?).bind fun l => if im_in q.1 l.length then im_nx (pc + 3) lv (.int (l.getD q.1.toNatClampNeg 0) :: r.2) h else none else none
      | _ => none)
    split
    · exact mx_bind fun _ _ => mx_bind fun _ _ => mx_bind fun _ _ => mx_ite (fun _ => mx_inr) (fun _ => mx_none)
    · exact mx_bind fun _ _ => mx_ite (fun _ => mx_bind fun _ _ => mx_nx) (fun _ => mx_none)
    · exact mx_bind fun _ _ => mx_bind fun _ _ => mx_ite (fun _ => mx_bind fun _ _ => mx_ite (fun _ => mx_nx) (fun _ => mx_none)) (fun _ => mx_none)
    · exact mx_none
  case ireturn =>
    refine mx_bind fun q _ => ?_
    split
    · exact mx_inr
    · exact mx_ite (fun _ => mx_inr) (fun _ => mx_none)
    · exact mx_none
  case lreturn =>
    refine mx_bind fun q _ => ?_
    split
    · exact mx_inr
    · exact mx_none
  case return_ =>
    show im_MX h (match M.2.2.2.1, st with
      | none, [] => some (.inr (.inr none))
      | _, _ => none)
    split
    · exact mx_inr
    · exact mx_none
  case ifnonnull off =>
    show im_MX h (match st with
      | .ref _ :: r => im_nx a lv r h
      | .null :: r => im_nx (pc + 3) lv r h
      | _ => none)
    split
    · exact mx_nx
    · exact mx_nx
    · exact mx_none
  all_goals first
    | exact mx_none
    | exact mx_nx
    | exact mx_bind fun _ _ => mx_nx
    | exact mx_ite (fun _ => mx_nx) (fun _ => mx_none)
    | exact mx_bind fun _ _ => mx_ite (fun _ => mx_nx) (fun _ => mx_none)
    | exact mx_bind fun _ _ => mx_bind fun _ _ => mx_nx
    | exact mx_bind fun _ _ => mx_bind fun _ _ => mx_bind fun _ _ => mx_nx
    | exact mx_bind fun _ _ => mx_bind fun _ _ => mx_ite (fun _ => mx_nx) (fun _ => mx_none)
    | exact mx_bind fun _ _ => mx_bind fun _ _ => mx_bind fun _ _ => mx_ite (fun _ => mx_nx) (fun _ => mx_none)
    | exact mx_bind fun _ _ => mx_ite (fun _ => mx_ite (fun _ => mx_nx) (fun _ => mx_none)) (fun _ => mx_bind fun _ _ => mx_ite (fun _ => mx_nx) (fun _ => mx_none))
