/-! SHAPES: what makes no cell keeps each cell's kind, class and length -/
def im_sh (e : im_E) : Nat × Nat × Nat := match e with
  | .inl (t, .inl l) => (0, t, l.length)
  | .inl (t, .inr (.inl l)) => (1, t, l.length)
  | .inl (t, .inr (.inr l)) => (2, t, l.length)
  | .inr (c, fs) => (3, c, fs.length)
def im_shs (h : im_H) : List (Nat × Nat × Nat) := h.map im_sh
theorem im_sl1_sh (e : im_E) : im_sl1 e = (im_sh e).2.2 := by
  rcases e with ⟨t, l | l | l⟩ | ⟨c, fs⟩ <;> rfl
theorem im_sl_sh (h : im_H) : im_sl h = ((im_shs h).map (fun q => q.2.2)).sum := by
  unfold im_sl im_shs
  rw [List.map_map]
  congr 1
  exact List.map_congr_left fun e _ => im_sl1_sh e
theorem im_shs_len {h h2 : im_H} (e : im_shs h2 = im_shs h) : h2.length = h.length := by
  have := congrArg List.length e
  simpa [im_shs] using this
theorem im_shs_sl {h h2 : im_H} (e : im_shs h2 = im_shs h) : im_sl h2 = im_sl h := by rw [im_sl_sh, im_sl_sh, e]
theorem sh_set {h : im_H} {i : Nat} {x y : im_E} (hx : h[i]? = some x) (e : im_sh y = im_sh x) : im_shs (h.set i y) = im_shs h := by
  unfold im_shs
  apply List.ext_getElem?
  intro j
  rw [List.getElem?_map, List.getElem?_map]
  by_cases hj : i = j
  · subst hj
    have hl : i < h.length := (List.getElem?_eq_some_iff.mp hx).1
    rw [List.getElem?_set_self hl, hx]
    simp [e]
  · rw [List.getElem?_set_ne hj]
theorem sh_obj {h : im_H} {i c n : Nat} (e : (im_shs h)[i]? = some (3, c, n)) : ∃ fs, im_obj h (16 + i) c = some fs ∧ fs.length = n := by
  unfold im_shs at e
  rw [List.getElem?_map] at e
  cases hx : h[i]? with
  | none => rw [hx] at e; cases e
  | some x =>
    rw [hx] at e
    rcases x with ⟨t, l | l | l⟩ | ⟨c2, fs⟩
    · simp [im_sh] at e
    · simp [im_sh] at e
    · simp [im_sh] at e
    · simp [im_sh] at e
      refine ⟨fs, ?_, e.2⟩
      unfold im_obj
      rw [if_pos (by omega), show 16 + i - 16 = i by omega, hx]
      simp [e.1]
theorem sh_ia {h : im_H} {i t n : Nat} (e : (im_shs h)[i]? = some (0, t, n)) : ∃ l, im_ia h (16 + i) t = some l ∧ l.length = n := by
  unfold im_shs at e
  rw [List.getElem?_map] at e
  cases hx : h[i]? with
  | none => rw [hx] at e; cases e
  | some x =>
    rw [hx] at e
    rcases x with ⟨t2, l | l | l⟩ | ⟨c2, fs⟩
    · simp [im_sh] at e
      refine ⟨l, ?_, e.2⟩
      unfold im_ia
      rw [if_pos (by omega), show 16 + i - 16 = i by omega, hx]
      simp [e.1]
    · simp [im_sh] at e
    · simp [im_sh] at e
    · simp [im_sh] at e
def im_SX (h : im_H) (o : Option im_O) : Prop := ∀ c2, o = some (.inl c2) → im_shs c2.2.2.2 = im_shs h
theorem sx_none {h : im_H} : im_SX h none := fun _ q => by cases q
theorem sx_inr {h : im_H} {y : (Nat × List Value × List Value) ⊕ Option Value} : im_SX h (some (.inr y)) := fun _ q => by cases q
theorem sx_nx {h : im_H} {pc : Nat} {lv : im_L} {st : List Value} : im_SX h (im_nx pc lv st h) := fun c2 q => by cases im_nx_eq q; rfl
theorem sx_bind {α : Type} {h : im_H} {o : Option α} {f : α → Option im_O} (k : ∀ a, o = some a → im_SX h (f a)) : im_SX h (o.bind f) := fun c2 q => by
  obtain ⟨a, h1, h2⟩ := im_bd q
  exact k a h1 c2 h2
theorem sx_ite {h : im_H} {c : Prop} {d : Decidable c} {x y : Option im_O} (k1 : c → im_SX h x) (k2 : ¬ c → im_SX h y) : im_SX h (@ite _ c d x y) := by
  by_cases hc : c
  · rw [if_pos hc]; exact k1 hc
  · rw [if_neg hc]; exact k2 hc
theorem sx_set {h : im_H} {pc : Nat} {lv : im_L} {st : List Value} {i : Nat} {x y : im_E} (hx : h[i]? = some x) (e : im_sh y = im_sh x) : im_SX h (im_nx pc lv st (h.set i y)) := fun c2 q => by
  cases im_nx_eq q
  exact sh_set hx e
def im_al (i : Instr) : Bool := match i with
  | .new _ | .newarray _ | .anewarray _ | .multianewarray _ _ => true
  | _ => false
theorem im_shp {K : im_K} {M : im_M} {i : Instr} {a b w z pc : Nat} {lv : im_L} {st : List Value} {h : im_H} (hal : im_al i = false) : im_SX h (im_ins K M i a b w z pc lv st h) := by
  cases i
  case putfield idx =>
    refine sx_bind fun v _ => sx_bind fun q _ => sx_bind fun fs h3 => sx_bind fun tys _ => sx_bind fun ty _ => sx_ite (fun _ => ?_) (fun _ => sx_none)
    obtain ⟨i, hi, hc⟩ := im_obj_eq h3
    rw [show q.1 - 16 = i by omega]
    exact sx_set hc (by simp [im_sh])
  case iastore =>
    refine sx_bind fun v _ => sx_bind fun q _ => sx_bind fun r _ => sx_bind fun l0 h3 => sx_ite (fun _ => ?_) (fun _ => sx_none)
    obtain ⟨i, hi, hc⟩ := im_ia_eq h3
    rw [show r.1 - 16 = i by omega]
    exact sx_set hc (by simp [im_sh])
  case bastore =>
    refine sx_bind fun v _ => sx_bind fun q _ => sx_bind fun r _ => sx_bind fun l0 h3 => sx_ite (fun _ => ?_) (fun _ => sx_none)
    obtain ⟨i, hi, hc⟩ := im_ia_eq h3
    rw [show r.1 - 16 = i by omega]
    exact sx_set hc (by simp [im_sh])
  case lastore =>
    refine sx_bind fun v _ => sx_bind fun q _ => sx_bind fun r _ => sx_bind fun l0 h3 => sx_ite (fun _ => ?_) (fun _ => sx_none)
    obtain ⟨i, hi, hc⟩ := im_la_eq h3
    rw [show r.1 - 16 = i by omega]
    exact sx_set hc (by simp [im_sh])
  case aastore =>
    refine sx_bind fun v _ => sx_bind fun q _ => sx_bind fun r _ => sx_bind fun l0 h3 => sx_bind fun _ _ => sx_ite (fun _ => ?_) (fun _ => sx_none)
    obtain ⟨i, hi, hc⟩ := im_qa_eq h3
    rw [show r.1 - 16 = i by omega]
    exact sx_set hc (by simp [im_sh])
  case new idx => cases hal
  case newarray t => cases hal
  case anewarray idx => cases hal
  case multianewarray idx n => cases hal
  case invokestatic idx =>
    show im_SX h (match b with
      | 0 => (im_take w st).bind fun q => if im_cat q.2 then some (.inr (.inl (a, q.1, q.2))) else none
      | 3 => im_copy pc lv st h z
      | 5 => (im_1i st).bind fun q => (im_1i q.2).bind fun u => if im_cat u.2 then im_nx (pc + 3) lv (.int (if u.1 < q.1 then q.1 else u.1) :: u.2) h else none
      | 6 => (im_1i st).bind fun q => (im_1i q.2).bind fun u => if im_cat u.2 then im_nx (pc + 3) lv (.int (if q.1 < u.1 then q.1 else u.1) :: u.2) h else none
      | _ => none)
    split
    · exact sx_bind fun _ _ => sx_ite (fun _ => sx_inr) (fun _ => sx_none)
    · refine sx_bind fun n _ => sx_bind fun dp _ => sx_bind fun d _ => sx_bind fun sp _ => sx_bind fun s0 _ => sx_bind fun l0 h6 => sx_bind fun l1 h7 => sx_ite (fun h8 => ?_) (fun _ => sx_none)
      simp only [Bool.and_eq_true, Bool.not_eq_true', decide_eq_false_iff_not, decide_eq_true_eq, Bool.or_eq_true, beq_iff_eq] at h8
      obtain ⟨⟨⟨⟨⟨⟨g1, g2⟩, g3⟩, g4⟩, g5⟩, g6⟩, g7⟩ := h8
      obtain ⟨j, hj, hd⟩ := im_ia_eq h7
      rw [show d.1 - 16 = j by omega]
      exact sx_set hd (by simp [im_sh, im_cpy_len l0 l1 _ _ _ g4 g5])
    · exact sx_bind fun _ _ => sx_bind fun _ _ => sx_ite (fun _ => sx_nx) (fun _ => sx_none)
    · exact sx_bind fun _ _ => sx_bind fun _ _ => sx_ite (fun _ => sx_nx) (fun _ => sx_none)
    · exact sx_none
  case invokespecial idx =>
    show im_SX h (match b with
      | 0 => (im_take w st).bind fun q => (im_1r q.2).bind fun r => if im_cat r.2 then some (.inr (.inl (a, .ref r.1 :: q.1, r.2))) else none
      | 4 => (im_1r st).bind fun r => if im_cat r.2 then im_nx (pc + 3) lv r.2 h else none
      | _ => none)
    split
    · exact sx_bind fun _ _ => sx_bind fun _ _ => sx_ite (fun _ => sx_inr) (fun _ => sx_none)
    · exact sx_bind fun _ _ => sx_ite (fun _ => sx_nx) (fun _ => sx_none)
    · exact sx_none
  case invokevirtual idx =>
    show im_SX h (match b with
      | 0 => (im_take w st).bind fun q => (im_1r q.2).bind fun r => (im_obj h r.1 z).bind fun _ => if im_cat r.2 then some (.inr (.inl (a, .ref r.1 :: q.1, r.2))) else none
      | 1 => (im_1r st).bind fun r => if 6 ≤ r.1 ∧ im_cat r.2 then (K.2.2.2[r.1 - 6]?).bind fun l => im_nx (pc + 3) lv (.int (Int32.ofNat l.length) :: r.2) h else none
      | 2 => (im_1i st).bind fun q => (im_1r q.2).bind fun r => if 6 ≤ r.1 ∧ im_cat r.2 then (K.2.2.2[r.1 - 6]?).bind fun l => if im_in q.1 l.length then im_nx (pc + 3) lv (.int (l.getD q.1.toNatClampNeg 0) :: r.2) h else none else none
      | _ => none)
    split
    · exact sx_bind fun _ _ => sx_bind fun _ _ => sx_bind fun _ _ => sx_ite (fun _ => sx_inr) (fun _ => sx_none)
    · exact sx_bind fun _ _ => sx_ite (fun _ => sx_bind fun _ _ => sx_nx) (fun _ => sx_none)
    · exact sx_bind fun _ _ => sx_bind fun _ _ => sx_ite (fun _ => sx_bind fun _ _ => sx_ite (fun _ => sx_nx) (fun _ => sx_none)) (fun _ => sx_none)
    · exact sx_none
  case ireturn =>
    refine sx_bind fun q _ => ?_
    split
    · exact sx_inr
    · exact sx_ite (fun _ => sx_inr) (fun _ => sx_none)
    · exact sx_none
  case lreturn =>
    refine sx_bind fun q _ => ?_
    split
    · exact sx_inr
    · exact sx_none
  case return_ =>
    show im_SX h (match M.2.2.2.1, st with
      | none, [] => some (.inr (.inr none))
      | _, _ => none)
    split
    · exact sx_inr
    · exact sx_none
  case ifnonnull off =>
    show im_SX h (match st with
      | .ref _ :: r => im_nx a lv r h
      | .null :: r => im_nx (pc + 3) lv r h
      | _ => none)
    split
    · exact sx_nx
    · exact sx_nx
    · exact sx_none
  all_goals first
    | exact sx_none
    | exact sx_nx
    | exact sx_bind fun _ _ => sx_nx
    | exact sx_ite (fun _ => sx_nx) (fun _ => sx_none)
    | exact sx_bind fun _ _ => sx_ite (fun _ => sx_nx) (fun _ => sx_none)
    | exact sx_bind fun _ _ => sx_bind fun _ _ => sx_nx
    | exact sx_bind fun _ _ => sx_bind fun _ _ => sx_bind fun _ _ => sx_nx
    | exact sx_bind fun _ _ => sx_bind fun _ _ => sx_ite (fun _ => sx_nx) (fun _ => sx_none)
    | exact sx_bind fun _ _ => sx_bind fun _ _ => sx_bind fun _ _ => sx_ite (fun _ => sx_nx) (fun _ => sx_none)
    | exact sx_bind fun _ _ => sx_ite (fun _ => sx_ite (fun _ => sx_nx) (fun _ => sx_none)) (fun _ => sx_bind fun _ _ => sx_ite (fun _ => sx_nx) (fun _ => sx_none))
/-- a call goes to the method that its row names -/
theorem ins_call {K : im_K} {M : im_M} {i : Instr} {a b w z pc : Nat} {lv : im_L} {st : List Value} {h : im_H} {q : Nat × List Value × List Value} (hs : im_ins K M i a b w z pc lv st h = some (.inr (.inl q))) : (q.1 = a ∧ b = 0) ∧ ((∃ x, i = .invokestatic x) ∨ (∃ x, i = .invokespecial x) ∨ (∃ x, i = .invokevirtual x)) := by
  by_cases hi : im_isC i = false
  · exact absurd hs (im_nxs hi _)
  cases i
  case ireturn =>
    obtain ⟨u, h1, hs1⟩ := im_bd hs
    split at hs1
    · cases hs1
    · obtain ⟨_, hs2⟩ := im_ite _ hs1
      cases hs2
    · cases hs1
  case lreturn =>
    obtain ⟨u, h1, hs1⟩ := im_bd hs
    split at hs1
    · cases hs1
    · cases hs1
  case return_ =>
    have hs : (match M.2.2.2.1, st with
      | none, [] => (some (.inr (.inr none)) : Option im_O)
      | _, _ => none) = some (Sum.inr (Sum.inl q)) := hs
    split at hs
    · cases hs
    · cases hs
  case invokestatic idx =>
    refine ⟨?_, Or.inl ⟨_, rfl⟩⟩
    rcases b with _ | _ | _ | _ | _ | _ | _ | b
    · obtain ⟨_, _, hs⟩ := im_bd hs
      obtain ⟨_, hs⟩ := im_ite _ hs
      cases hs; exact ⟨rfl, rfl⟩
    · cases hs
    · cases hs
    · have hs : im_copy pc lv st h z = some (.inr (.inl q)) := hs
      obtain ⟨_, _, hs⟩ := im_bd hs
      obtain ⟨_, _, hs⟩ := im_bd hs
      obtain ⟨_, _, hs⟩ := im_bd hs
      obtain ⟨_, _, hs⟩ := im_bd hs
      obtain ⟨_, _, hs⟩ := im_bd hs
      obtain ⟨_, _, hs⟩ := im_bd hs
      obtain ⟨_, _, hs⟩ := im_bd hs
      obtain ⟨_, hs⟩ := im_ite _ hs
      exact absurd hs (nx_nx _)
    · cases hs
    · obtain ⟨_, _, hs⟩ := im_bd hs
      obtain ⟨_, _, hs⟩ := im_bd hs
      obtain ⟨_, hs⟩ := im_ite _ hs
      exact absurd hs (nx_nx _)
    · obtain ⟨_, _, hs⟩ := im_bd hs
      obtain ⟨_, _, hs⟩ := im_bd hs
      obtain ⟨_, hs⟩ := im_ite _ hs
      exact absurd hs (nx_nx _)
    · cases hs
  case invokespecial idx =>
    refine ⟨?_, Or.inr (Or.inl ⟨_, rfl⟩)⟩
    rcases b with _ | _ | _ | _ | _ | b
    · obtain ⟨_, _, hs⟩ := im_bd hs
      obtain ⟨_, _, hs⟩ := im_bd hs
      obtain ⟨_, hs⟩ := im_ite _ hs
      cases hs; exact ⟨rfl, rfl⟩
    · cases hs
    · cases hs
    · cases hs
    · obtain ⟨r, h3, hs⟩ := im_bd hs
      obtain ⟨_, hs⟩ := im_ite _ hs
      exact absurd hs (nx_nx _)
    · cases hs
  case invokevirtual idx =>
    refine ⟨?_, Or.inr (Or.inr ⟨_, rfl⟩)⟩
    rcases b with _ | _ | _ | b
    · obtain ⟨_, _, hs⟩ := im_bd hs
      obtain ⟨_, _, hs⟩ := im_bd hs
      obtain ⟨_, _, hs⟩ := im_bd hs
      obtain ⟨_, hs⟩ := im_ite _ hs
      cases hs; exact ⟨rfl, rfl⟩
    · obtain ⟨r, h3, hs⟩ := im_bd hs
      obtain ⟨_, hs⟩ := im_ite _ hs
      obtain ⟨_, _, hs⟩ := im_bd hs
      exact absurd hs (nx_nx _)
    · obtain ⟨r, h3, hs⟩ := im_bd hs
      obtain ⟨_, _, hs⟩ := im_bd hs
      obtain ⟨_, hs⟩ := im_ite _ hs
      obtain ⟨_, _, hs⟩ := im_bd hs
      obtain ⟨_, hs⟩ := im_ite _ hs
      exact absurd hs (nx_nx _)
    · cases hs
  all_goals exact absurd rfl hi
def im_bad (j : Nat) : Bool := [0, 17, 19, 22, 28, 35, 36, 39, 40, 45, 50, 60, 116].contains j
def im_naI (q : im_I) : Bool := match q.1 with
  | .new _ | .newarray _ | .anewarray _ | .multianewarray _ _ | .invokespecial _ => false
  | .invokestatic _ | .invokevirtual _ => !(im_bad (q.2.getD 0 0)) || !(q.2.getD 1 0 == 0)
  | _ => true
def im_naM (M : im_M) : Bool := M.2.2.2.2.2.2.2.2.all (fun l => l.all (fun q => im_naI q.2))
theorem na_at {M : im_M} {pc : Nat} {q : im_I} (h : im_naM M = true) (ha : im_at M pc = some q) : im_naI q = true := by
  unfold im_at at ha
  split at ha
  · cases ha
  · rename_i l hl
    obtain ⟨u, h1, rfl⟩ := Option.map_eq_some_iff.mp ha
    exact List.all_eq_true.mp (List.all_eq_true.mp h l (List.mem_of_getElem? hl)) u (List.mem_of_find?_eq_some h1)
theorem na_al {q : im_I} (h : im_naI q = true) : im_al q.1 = false := by
  obtain ⟨i, l⟩ := q
  cases i <;> first | rfl | cases h
theorem na_run {K : im_K} {M : im_M} {call : Nat → List Value → im_H → Option (Option Value × im_H)} (hM : im_naM M = true) (hc : ∀ j as h r, im_bad j = false → call j as h = some r → im_shs r.2 = im_shs h) : ∀ (n : Nat) (c : im_C) (r : Option Value × im_H), im_run K M call n c = some r → im_shs r.2 = im_shs c.2.2.2 := by
  intro n
  induction n with
  | zero => intro c r h; cases h
  | succ n ih =>
    intro c r h
    obtain ⟨pc, lv, st, hp⟩ := c
    simp only [im_run] at h
    cases hs : im_step K M (pc, lv, st, hp) with
    | none => rw [hs] at h; cases h
    | some o =>
      rw [hs] at h
      have hs0 := hs
      unfold im_step at hs0
      cases hq : im_at M pc with
      | none => simp only [hq] at hs0; cases hs0
      | some q =>
        simp only [hq] at hs0
        have hna := na_at hM hq
        cases o with
        | inl c2 => rw [ih c2 r h]; exact im_shp (na_al hna) c2 hs0
        | inr y =>
          cases y with
          | inl u =>
            simp only at h
            cases hu : call u.1 u.2.1 hp with
            | none => rw [hu] at h; cases h
            | some v =>
              rw [hu] at h
              obtain ⟨⟨e1, e3⟩, e2⟩ := ins_call hs0
              have hb : im_bad u.1 = false := by
                rw [e1]
                obtain ⟨i, l⟩ := q
                simp only at e2
                simp only at e3
                rcases e2 with ⟨x, rfl⟩ | ⟨x, rfl⟩ | ⟨x, rfl⟩
                · simp only [im_naI, e3] at hna
                  simpa using hna
                · simp [im_naI] at hna
                · simp only [im_naI, e3] at hna
                  simpa using hna
              rw [ih _ r h]
              exact hc _ _ _ _ hb hu
          | inr v =>
            simp only [Option.some.injEq] at h
            rw [← h]
theorem na_all : (List.range 198).all (fun j => im_bad j || match im_ms[j]? with
  | some M => im_naM M
  | none => false) = true := by decide +kernel
theorem na_call : ∀ (d f j : Nat) (as : List Value) (h : im_H) (r : Option Value × im_H), im_bad j = false → im_call im_K0 im_ms d f j as h = some r → im_shs r.2 = im_shs h := by
  intro d
  induction d with
  | zero => intro f j as h r _ hr; cases hr
  | succ d ih =>
    intro f j as h r hb hr
    simp only [im_call] at hr
    cases hj : im_ms[j]? with
    | none => rw [hj] at hr; cases hr
    | some M =>
      rw [hj] at hr
      obtain ⟨hl, hr⟩ := im_ite _ hr
      have hlt : j < 198 := (List.getElem?_eq_some_iff.mp hj).1
      have h1 := List.all_eq_true.mp na_all j (List.mem_range.mpr hlt)
      rw [hb, hj] at h1
      exact na_run (by simpa using h1) (fun j as h r hb hc => ih f j as h r hb hc) f _ r hr
theorem ca_sh {d j : Nat} {as : List Value} {h : im_H} {r : Option Value × im_H} (hb : im_bad j = false) (hc : Ca d j as h r) : im_shs r.2 = im_shs h := by
  obtain ⟨f0, h0⟩ := hc
  exact na_call d f0 j as h r hb (h0 f0 (Nat.le_refl _))
