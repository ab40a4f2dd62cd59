/-! LOCALS: a run goes on with more of them, in any order -/
def lvN : im_L → Bool
  | [] => true
  | q :: r => !(r.any (fun p => p.1 == q.1)) && lvN r
def lvS : im_L → im_L → Prop
  | [], _ => True
  | q :: r, lv => im_lk lv q.1 = some q.2 ∧ lvS r lv
theorem lk_cons {q : Nat × Value} {r : im_L} {j : Nat} : im_lk (q :: r) j = if q.1 = j then some q.2 else im_lk r j := by
  unfold im_lk
  by_cases h : q.1 = j
  · rw [List.find?_cons_of_pos (by simp [h]), if_pos h]; rfl
  · rw [List.find?_cons_of_neg (by simp [h]), if_neg h]
theorem lvS_lk : ∀ {lv2 lv : im_L}, lvS lv2 lv → ∀ j v, im_lk lv2 j = some v → im_lk lv j = some v
  | [], _, _, j, v, h => by cases h
  | q :: r, lv, hs, j, v, h => by
    rw [lk_cons] at h
    by_cases hq : q.1 = j
    · rw [if_pos hq] at h
      cases h
      rw [← hq]
      exact hs.1
    · rw [if_neg hq] at h
      exact lvS_lk hs.2 j v h
theorem lk_none : ∀ {lv : im_L} {j : Nat}, lv.any (fun p => p.1 == j) = false → im_lk lv j = none
  | [], _, _ => rfl
  | q :: r, j, h => by
    simp only [List.any_cons, Bool.or_eq_false_iff, beq_eq_false_iff_ne] at h
    rw [lk_cons, if_neg h.1]
    exact lk_none h.2
theorem any_fl {P : Nat × Value → Bool} {j : Nat} : ∀ {lv : im_L}, lv.any (fun p => p.1 == j) = false → (lv.filter P).any (fun p => p.1 == j) = false
  | [], _ => rfl
  | q :: r, h => by
    simp only [List.any_cons, Bool.or_eq_false_iff] at h
    by_cases hp : P q = true
    · rw [List.filter_cons_of_pos hp]
      simp only [List.any_cons, Bool.or_eq_false_iff]
      exact ⟨h.1, any_fl h.2⟩
    · rw [List.filter_cons_of_neg hp]
      exact any_fl h.2
theorem lvN_fl {P : Nat × Value → Bool} : ∀ {lv : im_L}, lvN lv = true → lvN (lv.filter P) = true
  | [], _ => rfl
  | q :: r, h => by
    simp only [lvN, Bool.and_eq_true, Bool.not_eq_true'] at h
    by_cases hp : P q = true
    · rw [List.filter_cons_of_pos hp]
      simp only [lvN, Bool.and_eq_true, Bool.not_eq_true']
      exact ⟨any_fl h.1, lvN_fl h.2⟩
    · rw [List.filter_cons_of_neg hp]
      exact lvN_fl h.2
theorem lk_fl {P : Nat × Value → Bool} {j : Nat} : ∀ {lv : im_L}, lvN lv = true → im_lk (lv.filter P) j = (im_lk lv j).bind (fun w => if P (j, w) then some w else none)
  | [], _ => rfl
  | q :: r, h => by
    simp only [lvN, Bool.and_eq_true, Bool.not_eq_true'] at h
    rw [lk_cons]
    by_cases hq : q.1 = j
    · subst hq
      rw [if_pos rfl]
      simp only [Option.bind_some]
      by_cases hp : P q = true
      · rw [List.filter_cons_of_pos hp, lk_cons, if_pos rfl, if_pos hp]
      · rw [List.filter_cons_of_neg hp, if_neg hp]
        exact lk_none (any_fl h.1)
    · rw [if_neg hq]
      by_cases hp : P q = true
      · rw [List.filter_cons_of_pos hp, lk_cons, if_neg hq]
        exact lk_fl h.2
      · rw [List.filter_cons_of_neg hp]
        exact lk_fl h.2
theorem lvN_pt {lv : im_L} {k : Nat} {v : Value} (h : lvN lv = true) : lvN (im_pt lv k v) = true := by
  unfold im_pt
  simp only [lvN, Bool.and_eq_true, Bool.not_eq_true']
  refine ⟨?_, lvN_fl h⟩
  rw [List.any_eq_false]
  intro p hp
  have := (List.mem_filter.mp hp).2
  simp only [Bool.and_eq_true, Bool.not_eq_true', beq_eq_false_iff_ne] at this
  simpa using this.1
def lvR (lv2 lv : im_L) : Prop := (∀ j v, im_lk lv2 j = some v → im_lk lv j = some v) ∧ lvN lv2 = true ∧ lvN lv = true
theorem lvR_pt {lv2 lv : im_L} (k : Nat) (v : Value) (h : lvR lv2 lv) : lvR (im_pt lv2 k v) (im_pt lv k v) := by
  refine ⟨fun j w hj => ?_, lvN_pt h.2.1, lvN_pt h.2.2⟩
  unfold im_pt at hj ⊢
  rw [lk_cons] at hj ⊢
  by_cases hk : k = j
  · rw [if_pos hk] at hj ⊢; exact hj
  · rw [if_neg hk] at hj ⊢
    rw [lk_fl h.2.1] at hj
    rw [lk_fl h.2.2]
    obtain ⟨u, hu, hw⟩ := im_bd hj
    rw [h.1 j u hu]
    exact hw
def lvO (o o2 : im_O) : Prop := match o, o2 with
  | .inl c, .inl c2 => c2.1 = c.1 ∧ c2.2.2 = c.2.2 ∧ lvR c.2.1 c2.2.1
  | .inr y, .inr y2 => y2 = y
  | _, _ => False
def lvX (lv2 lv : im_L) (o o2 : Option im_O) : Prop := ∀ q, o = some q → ∃ q2, o2 = some q2 ∧ lvO q q2
section LX
variable {lv2 lv : im_L}
theorem lx_none {o : Option im_O} : lvX lv2 lv none o := fun _ q => by cases q
theorem lx_inr {y : (Nat × List Value × List Value) ⊕ Option Value} : lvX lv2 lv (some (.inr y)) (some (.inr y)) := fun q e => by cases e; exact ⟨_, rfl, rfl⟩
theorem lx_nx {pc : Nat} {st : List Value} {h : im_H} (hR : lvR lv2 lv) : lvX lv2 lv (im_nx pc lv2 st h) (im_nx pc lv st h) := fun q e => by
  unfold im_nx at e
  cases e
  exact ⟨_, rfl, rfl, rfl, hR⟩
theorem lx_bind {α : Type} {o : Option α} {f f2 : α → Option im_O} (k : ∀ a, lvX lv2 lv (f a) (f2 a)) : lvX lv2 lv (o.bind f) (o.bind f2) := fun q e => by
  obtain ⟨a, h1, h2⟩ := im_bd e
  obtain ⟨q2, h3, h4⟩ := k a q h2
  exact ⟨q2, by rw [h1]; exact h3, h4⟩
theorem lx_lk {j : Nat} {f f2 : Value → Option im_O} (hR : lvR lv2 lv) (k : ∀ a, lvX lv2 lv (f a) (f2 a)) : lvX lv2 lv ((im_lk lv2 j).bind f) ((im_lk lv j).bind f2) := fun q e => by
  obtain ⟨a, h1, h2⟩ := im_bd e
  obtain ⟨q2, h3, h4⟩ := k a q h2
  exact ⟨q2, by rw [hR.1 j a h1]; exact h3, h4⟩
theorem lx_ite {c : Prop} {d : Decidable c} {x y x2 y2 : Option im_O} (k1 : lvX lv2 lv x x2) (k2 : lvX lv2 lv y y2) : lvX lv2 lv (@ite _ c d x y) (@ite _ c d x2 y2) := by
  by_cases hc : c
  · rw [if_pos hc, if_pos hc]; exact k1
  · rw [if_neg hc, if_neg hc]; exact k2
theorem lx_nxp {pc : Nat} {st : List Value} {h : im_H} {j : Nat} {v : Value} (hR : lvR lv2 lv) : lvX lv2 lv (im_nx pc (im_pt lv2 j v) st h) (im_nx pc (im_pt lv j v) st h) := fun q e => by
  unfold im_nx at e
  cases e
  exact ⟨_, rfl, rfl, rfl, lvR_pt j v hR⟩
theorem im_lvx {K : im_K} {M : im_M} {i : Instr} {a b w z pc : Nat} {st : List Value} {h : im_H} (hR : lvR lv2 lv) : lvX lv2 lv (im_ins K M i a b w z pc lv2 st h) (im_ins K M i a b w z pc lv st h) := by
  cases i
  case aload_n k => exact lx_lk hR fun _ => lx_ite (lx_nx hR) lx_none
  case aload k => exact lx_lk hR fun _ => lx_ite (lx_nx hR) lx_none
  case iload_n k => exact lx_lk hR fun _ => lx_ite (lx_nx hR) lx_none
  case iload k => exact lx_lk hR fun _ => lx_ite (lx_nx hR) lx_none
  case lload_n k => exact lx_lk hR fun _ => lx_ite (lx_nx hR) lx_none
  case iinc k n => exact lx_lk hR fun _ => lx_bind fun _ => lx_ite (lx_nxp hR) lx_none
  case istore_n k => exact lx_bind fun _ => lx_ite (lx_nxp hR) lx_none
  case istore k => exact lx_bind fun _ => lx_ite (lx_nxp hR) lx_none
  case astore_n k => exact lx_bind fun _ => lx_ite (lx_nxp hR) lx_none
  case astore k => exact lx_bind fun _ => lx_ite (lx_nxp hR) lx_none
  case newarray t =>
    refine lx_bind fun q => lx_ite lx_none ?_
    rcases a with _ | _ | _ | a
    · exact lx_nx hR
    · exact lx_nx hR
    · exact lx_nx hR
    · exact lx_none
  case invokestatic idx =>
    rcases b with _ | _ | _ | _ | _ | _ | _ | b
    · exact lx_bind fun _ => lx_ite lx_inr lx_none
    · exact lx_none
    · exact lx_none
    · exact lx_bind fun _ => lx_bind fun _ => lx_bind fun _ => lx_bind fun _ => lx_bind fun _ => lx_bind fun _ => lx_bind fun _ => lx_ite (lx_nx hR) lx_none
    · exact lx_none
    · exact lx_bind fun _ => lx_bind fun _ => lx_ite (lx_nx hR) lx_none
    · exact lx_bind fun _ => lx_bind fun _ => lx_ite (lx_nx hR) lx_none
    · exact lx_none
  case invokespecial idx =>
    rcases b with _ | _ | _ | _ | _ | b
    · exact lx_bind fun _ => lx_bind fun _ => lx_ite lx_inr lx_none
    · exact lx_none
    · exact lx_none
    · exact lx_none
    · exact lx_bind fun _ => lx_ite (lx_nx hR) lx_none
    · exact lx_none
  case invokevirtual idx =>
    rcases b with _ | _ | _ | b
    · exact lx_bind fun _ => lx_bind fun _ => lx_bind fun _ => lx_ite lx_inr lx_none
    · exact lx_bind fun _ => lx_ite (lx_bind fun _ => lx_nx hR) lx_none
    · exact lx_bind fun _ => lx_bind fun _ => lx_ite (lx_bind fun _ => lx_ite (lx_nx hR) lx_none) lx_none
    · exact lx_none
  case ireturn =>
    refine lx_bind fun q => ?_
    split
    · exact lx_inr
    · exact lx_ite lx_inr lx_none
    · exact lx_none
  case lreturn =>
    refine lx_bind fun q => ?_
    split
    · exact lx_inr
    · exact lx_none
  case return_ =>
    show lvX lv2 lv (match M.2.2.2.1, st with
      | none, [] => some (.inr (.inr none))
      | _, _ => none) (match M.2.2.2.1, st with
      | none, [] => some (.inr (.inr none))
      | _, _ => none)
    split
    · exact lx_inr
    · exact lx_none
  case ifnonnull off =>
    show lvX lv2 lv (match st with
      | .ref _ :: r => im_nx a lv2 r h
      | .null :: r => im_nx (pc + 3) lv2 r h
      | _ => none) (match st with
      | .ref _ :: r => im_nx a lv r h
      | .null :: r => im_nx (pc + 3) lv r h
      | _ => none)
    split
    · exact lx_nx hR
    · exact lx_nx hR
    · exact lx_none
  all_goals first
    | exact lx_none
    | exact lx_nx hR
    | exact lx_bind fun _ => lx_nx hR
    | exact lx_ite (lx_nx hR) lx_none
    | exact lx_bind fun _ => lx_ite (lx_nx hR) lx_none
    | exact lx_bind fun _ => lx_ite lx_none (lx_nx hR)
    | exact lx_bind fun _ => lx_bind fun _ => lx_nx hR
    | exact lx_bind fun _ => lx_bind fun _ => lx_bind fun _ => lx_nx hR
    | exact lx_bind fun _ => lx_bind fun _ => lx_ite (lx_nx hR) lx_none
    | exact lx_bind fun _ => lx_bind fun _ => lx_ite lx_none (lx_nx hR)
    | exact lx_bind fun _ => lx_bind fun _ => lx_bind fun _ => lx_ite (lx_nx hR) lx_none
    | exact lx_bind fun _ => lx_bind fun _ => lx_bind fun _ => lx_bind fun _ => lx_ite (lx_nx hR) lx_none
    | exact lx_bind fun _ => lx_bind fun _ => lx_bind fun _ => lx_bind fun _ => lx_bind fun _ => lx_ite (lx_nx hR) lx_none
    | exact lx_bind fun _ => lx_ite (lx_ite (lx_nx hR) lx_none) (lx_bind fun _ => lx_ite (lx_nx hR) lx_none)
end LX
theorem im_run_lv {K : im_K} {M : im_M} {call : Nat → List Value → im_H → Option (Option Value × im_H)} : ∀ (n : Nat) (pc : Nat) (lv2 lv : im_L) (st : List Value) (h : im_H) (r : Option Value × im_H), lvR lv2 lv → im_run K M call n (pc, lv2, st, h) = some r → im_run K M call n (pc, lv, st, h) = some r := by
  intro n
  induction n with
  | zero => intro pc lv2 lv st h r _ e; cases e
  | succ n ih =>
    intro pc lv2 lv st h r hR e
    simp only [im_run] at e ⊢
    cases hs : im_step K M (pc, lv2, st, h) with
    | none => rw [hs] at e; cases e
    | some o =>
      rw [hs] at e
      have hs2 : ∃ o2, im_step K M (pc, lv, st, h) = some o2 ∧ lvO o o2 := by
        unfold im_step at hs ⊢
        cases hq : im_at M pc with
        | none => simp only [hq] at hs; cases hs
        | some q =>
          simp only [hq] at hs ⊢
          exact im_lvx hR o hs
      obtain ⟨o2, ho, hO⟩ := hs2
      rw [ho]
      cases o with
      | inl c =>
        cases o2 with
        | inl c2 =>
          obtain ⟨p1, l1, s1, h1⟩ := c
          obtain ⟨p2, l2, s2, h2⟩ := c2
          obtain ⟨e1, e2, e3⟩ := hO
          simp only at e1 e2 e3
          cases e1
          cases e2
          exact ih _ _ _ _ _ _ e3 e
        | inr y => exact absurd hO id
      | inr y =>
        cases o2 with
        | inl c2 => exact absurd hO id
        | inr y2 =>
          cases (show y2 = y from hO)
          cases y with
          | inl u =>
            simp only at e ⊢
            cases hu : call u.1 u.2.1 h with
            | none => rw [hu] at e; cases e
            | some v =>
              rw [hu] at e
              exact ih _ _ _ _ _ _ hR e
          | inr v => exact e
theorem ev_lv {K : im_K} {d : Nat} {M : im_M} {pc : Nat} {lv : im_L} {st : List Value} {h : im_H} {r : Option Value × im_H} (lv2 : im_L) (h1 : lvN lv2 = true) (h2 : lvN lv = true) (hs : lvS lv2 lv) (k : Ev K d M (pc, lv2, st, h) r) : Ev K d M (pc, lv, st, h) r := by
  obtain ⟨f0, h0⟩ := k
  exact ⟨f0, fun f n hf hn => im_run_lv n _ _ _ _ _ _ ⟨lvS_lk hs, h1, h2⟩ (h0 f n hf hn)⟩
theorem te_lv {K : im_K} {d : Nat} {M : im_M} {pc : Nat} {lv : im_L} {st : List Value} {h : im_H} {Q : Option Value → im_H → Prop} (lv2 : im_L) (h1 : lvN lv2 = true) (h2 : lvN lv = true) (hs : lvS lv2 lv) (k : EvP K d M (pc, lv2, st, h) Q) : EvP K d M (pc, lv, st, h) Q := evp (fun r => ev_lv lv2 h1 h2 hs) k
