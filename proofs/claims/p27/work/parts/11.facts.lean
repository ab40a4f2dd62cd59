/-! WHAT STANDS ALL THE TIME goes along to a callee -/
theorem im_AOA.moved {u U : State} (hvm : u.vm.Alike U.vm) (h : im_AOA u) : im_AOA U := by
  have h0 := h
  unfold im_AOA Cond.before Cond.holds at h0
  simp only [Cond.value, beq_iff_eq] at h0
  obtain ⟨comp, h1, h2⟩ := Option.bind_eq_some_iff.mp h0
  obtain ⟨c, h3, h4⟩ := Option.bind_eq_some_iff.mp h2
  obtain ⟨k, h5, h6⟩ := Option.map_eq_some_iff.mp h4
  obtain ⟨k', hk', he⟩ := hvm.2.2 _ _ h5
  have hi : (U.vm.classes.findIdx? fun (x : Class) => match x.kind with | .array component _ => component == comp | _ => false) = some c := by
    have e1 := va_idx_bare U.vm comp
    have e2 := va_idx_bare u.vm comp
    first | rw [hvm.bare_eq] at e1 | rw [← hvm.bare_eq] at e1
    exact e1.symm.trans (e2.trans h3)
  have hkind : k'.kind = k.kind := by rw [he]
  have f1 : U.vm.findClass (FieldType.array .int).toString = some comp := by rw [hvm.findClass]; exact h1
  have f2 : ∀ n, U.vm.findClass n = u.vm.findClass n := fun n => hvm.findClass n _
  unfold im_AOA Cond.before Cond.holds
  simp only [Cond.value]
  rw [f1, Option.bind_some]
  refine (congrArg (fun o : Option Nat => (o.bind (fun c => (U.vm.classes[c]?).map fun (k : Class) => match k.kind with | .array _ ty => decide (ty = FieldType.array .int) && decide (U.vm.findClass ("[" ++ (FieldType.array .int).toString) = some c) | _ => false) == some true)) hi).trans ?_
  simp only [Option.bind_some, hk', Option.map_some, hkind, f2, beq_iff_eq]
  exact congrArg some h6
theorem im_nw_form : ∀ w ∈ im_nw, (∃ a i x h, w = Cond.methodLinkNest a i x h) ∨ (∃ a i b n d h, w = Cond.fieldLinkNest a i b n d h) := by
  intro w hw
  simp only [im_nw, List.mem_cons, List.not_mem_nil, or_false] at hw
  rcases hw with rfl | rfl | rfl | rfl | rfl | rfl | rfl | rfl | rfl | rfl | rfl | rfl | rfl
  all_goals first
    | exact Or.inl ⟨_, _, _, _, rfl⟩
    | exact Or.inr ⟨_, _, _, _, _, _, rfl⟩
theorem im_SF.warm {D : va_G} {ca : Nat → ClassId} {ad : Nat → Nat} {base : Nat} {K : im_K} {s U : State} {H H1 : Heap} (hW : s.WarmedH U.vm) (hk : ∀ a : Nat, a < H.size → ¬ im_up base a → H1[a]? = H[a]?) (h : im_SF D ca ad base K s H) : im_SF D ca ad base K U H1 := by
  obtain ⟨h1, h2, ⟨a1, a2, a3, a4, a5⟩, h4, h5, h6, h7, h8, h9⟩ := h
  have hv := hW.alike
  refine ⟨va_K.moved hv h1, fun w hw => ?_, ⟨va_AO.moved hv a1, va_AO.moved hv a2, va_AO.moved hv a3, va_AO.moved hv a4, im_AOA.moved hv a5⟩, fun k n hn => (va_Z.moved hv (h4 k n hn)).kept hk, fun k l hl => (va_T.moved hv (h5 k l hl)).kept hk, fun k x hx => vk_R.warm hW (h6 k x hx), (vk_S.moved hv h7).kept hk, (va_Z.moved hv h8).kept hk, (va_Zq.moved hv h9).kept hk⟩
  rcases im_nw_form w hw with ⟨a, i, x, hh, rfl⟩ | ⟨a, i, b, n, d, hh, rfl⟩
  · exact va_Nw.warmM hW (h2 _ hw)
  · exact va_Nw.warmF hW (h2 _ hw)
/-- a start: the arguments, the cells, what stands -/
def im_P (D : va_G) (ca : Nat → ClassId) (ad : Nat → Nat) (base : Nat) (K : im_K) (as : List Value) (h : im_H) : Array Value → State → Prop := va_Pc (as.map (im_v ad)) (fun U => U.heap.size = base + h.length ∧ va_P D vwCl (im_w ca ad h) U.heap ∧ im_SF D ca ad base K U U.heap)
/-- an end: the answer, the cells -/
def im_Q (D : va_G) (ca : Nat → ClassId) (ad : Nat → Nat) (base : Nat) (v : Option Value) (h : im_H) : Array Value → State → Outcome → State → Prop := fun _ st oc t => (oc = .returned (v.map (im_v ad)) ∧ va_P D vwCl (im_w ca ad h) t.heap) ∧ va_F (im_up base) st t
theorem im_P_blind {D : va_G} {ca : Nat → ClassId} {ad : Nat → Nat} {base : Nat} {K : im_K} {as : List Value} {h : im_H} : FrameBlind (im_P D ca ad base K as h) := by
  intro a U g mk q
  obtain ⟨q0, q1, qP, qS⟩ := q
  exact ⟨q0, q1, qP, im_SF.warm (U := U.calling g mk a) (State.WarmedH.refl U) (fun _ _ _ => rfl) qS⟩
theorem im_P_at {D : va_G} {ca : Nat → ClassId} {ad : Nat → Nat} {base : Nat} {K : im_K} {as : List Value} {h : im_H} {s U : State} {H : Heap} {locs : List Loc} (hU : U.heap = H) (hW : s.WarmedH U.vm) (hz : H.size = base + h.length) (hP : va_P D vwCl (im_w ca ad h) H) (hS : va_S (im_up base) s.heap H locs) (hSF : im_SF D ca ad base K s s.heap) : im_P D ca ad base K as h (as.map (im_v ad)).toArray U :=
  ⟨rfl, by rw [hU]; exact hz, by rw [hU]; exact hP, by rw [hU]; exact im_SF.warm hW hS.2.1 hSF⟩
