/-! A STEP, A BODY, A METHOD: the interpreter is sound -/
/-- no call, no end -/
def im_NX (o : Option im_O) : Prop := ∀ y, ¬ o = some (.inr y)
theorem nx_none : im_NX none := fun _ q => by cases q
theorem nx_nx {h : im_H} {pc : Nat} {lv : im_L} {st : List Value} : im_NX (im_nx pc lv st h) := fun _ q => by unfold im_nx at q; cases q
theorem nx_bind {α : Type} {o : Option α} {f : α → Option im_O} (k : ∀ a, im_NX (f a)) : im_NX (o.bind f) := fun y q => by
  obtain ⟨a, h1, h2⟩ := im_bd q
  exact k a y h2
theorem nx_ite {c : Prop} {d : Decidable c} {x y : Option im_O} (k1 : im_NX x) (k2 : im_NX y) : im_NX (@ite _ c d x y) := by
  by_cases hc : c
  · rw [if_pos hc]; exact k1
  · rw [if_neg hc]; exact k2
/-- what a call or an end can be -/
def im_isC (i : Instr) : Bool := match i with
  | .invokestatic _ | .invokespecial _ | .invokevirtual _ | .ireturn | .lreturn | .return_ => true
  | _ => false
theorem im_nxs {K : im_K} {M : im_M} {i : Instr} {a b w z pc : Nat} {lv : im_L} {st : List Value} {h : im_H} (hi : im_isC i = false) : im_NX (im_ins K M i a b w z pc lv st h) := by
  cases i
  case newarray t =>
    refine nx_bind fun q => nx_ite nx_none ?_
    split
    · exact nx_nx
    · exact nx_nx
    · exact nx_nx
    · exact nx_none
  case ifnonnull off =>
    show im_NX (match st with
      | .ref _ :: r => im_nx a lv r h
      | .null :: r => im_nx (pc + 3) lv r h
      | _ => none)
    split
    · exact nx_nx
    · exact nx_nx
    · exact nx_none
  all_goals first
    | (cases hi; done)
    | exact nx_none
    | exact nx_nx
    | exact nx_bind fun _ => nx_nx
    | exact nx_ite nx_nx nx_none
    | exact nx_bind fun _ => nx_ite nx_nx nx_none
    | exact nx_bind fun _ => nx_ite nx_none nx_nx
    | exact nx_bind fun _ => nx_bind fun _ => nx_nx
    | exact nx_bind fun _ => nx_bind fun _ => nx_bind fun _ => nx_nx
    | exact nx_bind fun _ => nx_bind fun _ => nx_ite nx_nx nx_none
    | exact nx_bind fun _ => nx_bind fun _ => nx_ite nx_none nx_nx
    | exact nx_bind fun _ => nx_bind fun _ => nx_bind fun _ => nx_ite nx_nx nx_none
    | exact nx_bind fun _ => nx_bind fun _ => nx_bind fun _ => nx_bind fun _ => nx_ite nx_nx nx_none
    | exact nx_bind fun _ => nx_bind fun _ => nx_bind fun _ => nx_bind fun _ => nx_bind fun _ => nx_ite nx_nx nx_none
    | exact nx_bind fun _ => nx_ite (nx_ite nx_nx nx_none) (nx_bind fun _ => nx_ite nx_nx nx_none)
section IMR
variable {p : Program} {l : Launch} {e : Env} {R : Room} {s : State} {m : MethodId} {args : Array Value} {below : List Frame} {meth : Method} {c : Code} {Q : State → Prop} {D : va_G} {ca : Nat → ClassId} {ad : Nat → Nat} {base nL : Nat} {K : im_K} {M : im_M} {pc : Nat} {lv : im_L} {st : List Value} {h : im_H} {c2 : im_C} {ms : List im_M}
theorem im_ins_go (C : im_Cx D ca ad base K M p R s m args meth c) (hRf : 9 ≤ R.frames) (hRl : 400 ≤ R.locals) (hn : nL = M.2.2.1) {i : Instr} {a b w z x : Nat} (hdg : decode M.2.1 pc = .ok (i, im_ln i w)) (hok : im_ok2 ms M i a b w z x pc = true) (hs : im_ins K M i a b w z pc lv st h = some (.inl c2)) : im_Go D ca ad base nL p l e R s m args below meth c Q pc lv st h c2 := by
  have hx := C.1
  have hb := C.2.1
  cases i
  case aload_n k => exact is_aload_n hx hb hdg hs
  case aload k => exact is_aload hx hb hdg hs
  case iload_n k => exact is_iload_n hx hb hdg hs
  case iload k => exact is_iload hx hb hdg hs
  case lload_n k => exact is_lload_n hx hb hdg hs
  case iconst n => exact is_iconst hx hb hdg hs
  case bipush n => exact is_bipush hx hb hdg hs
  case sipush n => exact is_sipush hx hb hdg hs
  case istore_n k => exact is_istore_n hx hb hdg hn hs
  case istore k => exact is_istore hx hb hdg hn hs
  case astore_n k => exact is_astore_n hx hb hdg hn hs
  case astore k => exact is_astore hx hb hdg hn hs
  case iinc k n => exact is_iinc hx hb hdg hn hs
  case pop => exact is_pop hx hb hdg hs
  case pop2 => exact is_pop2 hx hb hdg hs
  case dup => exact is_dup hx hb hdg hs
  case dup2 => exact is_dup2 hx hb hdg hs
  case aconst_null => exact is_aconst_null hx hb hdg hs
  case iadd => exact is_iadd hx hb hdg hs
  case isub => exact is_isub hx hb hdg hs
  case imul => exact is_imul hx hb hdg hs
  case iand => exact is_iand hx hb hdg hs
  case ior => exact is_ior hx hb hdg hs
  case ishl => exact is_ishl hx hb hdg hs
  case ishr => exact is_ishr hx hb hdg hs
  case idiv => exact is_idiv hx hb hdg hs
  case irem => exact is_irem hx hb hdg hs
  case land => exact is_land hx hb hdg hs
  case lor => exact is_lor hx hb hdg hs
  case lcmp => exact is_lcmp hx hb hdg hs
  case lshl => exact is_lshl hx hb hdg hs
  case lshr => exact is_lshr hx hb hdg hs
  case i2l => exact is_i2l hx hb hdg hs
  case i2b => exact is_i2b hx hb hdg hs
  case i2s => exact is_i2s hx hb hdg hs
  case l2i => exact is_l2i hx hb hdg hs
  case goto off => exact is_goto hx hb hdg (of_decide_eq_true hok) hs
  case ifnonnull off => exact is_ifnonnull hx hb hdg (of_decide_eq_true hok) hs
  case tableswitch d lo hi offs => exact is_tableswitch hx hb hdg hs
  case lookupswitch d ps => exact is_lookupswitch hx hb hdg hs
  case getfield idx => exact is_getfield C hdg hok hs
  case putfield idx => exact is_putfield C hdg hok hs
  case getstatic idx => exact is_getstatic C hdg hok hs
  case ldc idx => exact is_ldc C hdg hok hs
  case ldc2_w idx => exact is_ldc2_w C hdg hok hs
  case new idx => exact is_new C hdg hok hs
  case anewarray idx => exact is_anewarray C hdg hok hs
  case newarray t => exact is_newarray C hdg hok hs
  case multianewarray idx n2 => exact is_multianewarray C hdg hok hs
  case arraylength => exact is_arraylength C (x := x) hdg hs
  case iaload => exact is_iaload C (x := x) hdg hs
  case baload => exact is_baload C (x := x) hdg hs
  case laload => exact is_laload C (x := x) hdg hs
  case aaload => exact is_aaload C (x := x) hdg hs
  case iastore => exact is_iastore C (x := x) hdg hs
  case bastore => exact is_bastore C (x := x) hdg hs
  case lastore => exact is_lastore C (x := x) hdg hs
  case aastore => exact is_aastore C (x := x) hdg hs
  case ifCond cnd off =>
    cases cnd
    · exact is_if_eq hx hb hdg (of_decide_eq_true hok) hs
    · exact is_if_ne hx hb hdg (of_decide_eq_true hok) hs
    · exact is_if_lt hx hb hdg (of_decide_eq_true hok) hs
    · exact is_if_ge hx hb hdg (of_decide_eq_true hok) hs
    · exact is_if_gt hx hb hdg (of_decide_eq_true hok) hs
    · exact is_if_le hx hb hdg (of_decide_eq_true hok) hs
  case if_icmp cnd off =>
    cases cnd
    · exact is_icmp_eq hx hb hdg (of_decide_eq_true hok) hs
    · exact is_icmp_ne hx hb hdg (of_decide_eq_true hok) hs
    · exact is_icmp_lt hx hb hdg (of_decide_eq_true hok) hs
    · exact is_icmp_ge hx hb hdg (of_decide_eq_true hok) hs
    · exact is_icmp_gt hx hb hdg (of_decide_eq_true hok) hs
    · exact is_icmp_le hx hb hdg (of_decide_eq_true hok) hs
  case invokestatic idx =>
    rcases b with _ | _ | _ | _ | _ | _ | _ | b
    · obtain ⟨q, h1, hs1⟩ := im_bd hs
      obtain ⟨h2, hs2⟩ := im_ite _ hs1
      cases hs2
    · cases hs
    · cases hs
    · exact is_copy C hdg hn hok hs
    · cases hs
    · exact is_max C hn hdg hok hs
    · exact is_min C hn hdg hok hs
    · cases hs
  case invokespecial idx =>
    rcases b with _ | _ | _ | _ | _ | b
    · obtain ⟨q, h1, hs1⟩ := im_bd hs
      obtain ⟨r, h3, hs2⟩ := im_bd hs1
      obtain ⟨h2, hs3⟩ := im_ite _ hs2
      cases hs3
    · cases hs
    · cases hs
    · cases hs
    · exact is_objInit C hdg hn hok hs
    · cases hs
  case invokevirtual idx =>
    rcases b with _ | _ | _ | b
    · obtain ⟨q, h1, hs1⟩ := im_bd hs
      obtain ⟨r, h3, hs2⟩ := im_bd hs1
      obtain ⟨r2, h4, hs3⟩ := im_bd hs2
      obtain ⟨h2, hs4⟩ := im_ite _ hs3
      cases hs4
    · exact is_strlen C hRf hRl hn hdg hok hs
    · exact is_charAt C hRf hRl hn hdg hok hs
    · cases hs
  case ireturn =>
    obtain ⟨q, h1, hs1⟩ := im_bd hs
    split at hs1
    · cases hs1
    · obtain ⟨-, hs2⟩ := im_ite _ hs1
      cases hs2
    · cases hs1
  case lreturn =>
    obtain ⟨q, h1, hs1⟩ := im_bd hs
    split at hs1
    · cases hs1
    · cases hs1
  case return_ =>
    have hs : (match M.2.2.2.1, st with
      | none, [] => (some (.inr (.inr none)) : Option im_O)
      | _, _ => none) = some (Sum.inl c2) := hs
    split at hs
    · cases hs
    · cases hs
  all_goals cases hs
theorem im_ins_call (C : im_Cx D ca ad base K M p R s m args meth c) {d : Nat} (hRf : d + 9 ≤ R.frames) (hRl : 64 * (d + 1) + 400 ≤ R.locals) (hn : nL = M.2.2.1) {i : Instr} {a b w z x : Nat} (hdg : decode M.2.1 pc = .ok (i, im_ln i w)) (hok : im_ok2 ms M i a b w z x pc = true) {q : Nat × List Value × List Value} (hs : im_ins K M i a b w z pc lv st h = some (.inr (.inl q))) {K2 : im_K} (hSF2 : im_SF D ca ad base K2 s s.heap) {N : im_M} (hN : ms[q.1]? = some N) (hNok : im_okM N = true) (hret : N.1.name = "<init>" → N.2.2.2.1 = none) {v : Option Value} {h2 : im_H} (hm1 : h.length ≤ h2.length) (hm2 : im_sl h ≤ im_sl h2) (hM : im_Met D ca ad base K2 l d N q.2.1 h v h2) : im_GoC D ca ad base nL p l e R s m args below meth c Q pc lv st h q.2.2 v h2 := by
  by_cases hi : im_isC i = false
  · exact absurd hs (im_nxs hi _)
  cases i
  case invokestatic idx =>
    rcases b with _ | _ | _ | _ | _ | _ | _ | b
    · exact is_callS C hRf hRl hn hdg hok hs hSF2 hN hNok hm1 hm2 hM
    · cases hs
    · cases hs
    · have hs : im_copy pc lv st h z = some (.inr (.inl q)) := hs
      obtain ⟨_, _, hs⟩ := im_bd hs
      obtain ⟨_, _, hs⟩ := im_bd hs
      obtain ⟨_, _, hs⟩ := im_bd hs
      obtain ⟨_, _, hs⟩ := im_bd hs
      obtain ⟨_, _, hs⟩ := im_bd hs
      obtain ⟨_, _, hs⟩ := im_bd hs
      obtain ⟨_, _, hs⟩ := im_bd hs
      obtain ⟨_, hs⟩ := im_ite _ hs
      exact absurd hs (nx_nx _)
    · cases hs
    · obtain ⟨_, _, hs⟩ := im_bd hs
      obtain ⟨_, _, hs⟩ := im_bd hs
      obtain ⟨_, hs⟩ := im_ite _ hs
      exact absurd hs (nx_nx _)
    · obtain ⟨_, _, hs⟩ := im_bd hs
      obtain ⟨_, _, hs⟩ := im_bd hs
      obtain ⟨_, hs⟩ := im_ite _ hs
      exact absurd hs (nx_nx _)
    · cases hs
  case invokespecial idx =>
    rcases b with _ | _ | _ | _ | _ | b
    · refine is_callI C hRf hRl hn hdg hok hs hSF2 hN hNok (hret ?_) hm1 hm2 hM
      obtain ⟨u, h1, hs1⟩ := im_bd hs
      obtain ⟨r, h3, hs2⟩ := im_bd hs1
      obtain ⟨hcat, hs3⟩ := im_ite _ hs2
      cases hs3
      have hok : (match ms[a]? with
        | some N => !N.2.2.2.2.2.2.1 && decide (N.2.2.2.2.2.1 = w) && decide (N.1.name = "<init>") && (im_tw x (.methodLink M.1.cls idx N.1) || decide (Cond.methodLinkNest M.1.cls idx N.1 "RubbleCity" ∈ im_nw))
        | none => false) = true := hok
      have hN : ms[a]? = some N := hN
      rw [hN] at hok
      simp only [Bool.and_eq_true, decide_eq_true_eq] at hok
      exact hok.1.2
    · cases hs
    · cases hs
    · cases hs
    · obtain ⟨r, h3, hs1⟩ := im_bd hs
      obtain ⟨_, hs2⟩ := im_ite _ hs1
      exact absurd hs2 (nx_nx _)
    · cases hs
  case invokevirtual idx =>
    rcases b with _ | _ | _ | b
    · exact is_callV C hRf hRl hn hdg hok hs hSF2 hN hNok hm1 hm2 hM
    · obtain ⟨r, h3, hs1⟩ := im_bd hs
      obtain ⟨_, hs2⟩ := im_ite _ hs1
      obtain ⟨_, _, hs3⟩ := im_bd hs2
      exact absurd hs3 (nx_nx _)
    · obtain ⟨r, h3, hs1⟩ := im_bd hs
      obtain ⟨_, _, hs2⟩ := im_bd hs1
      obtain ⟨_, hs3⟩ := im_ite _ hs2
      obtain ⟨_, _, hs4⟩ := im_bd hs3
      obtain ⟨_, hs5⟩ := im_ite _ hs4
      exact absurd hs5 (nx_nx _)
    · cases hs
  case ireturn =>
    obtain ⟨u, h1, hs1⟩ := im_bd hs
    split at hs1
    · cases hs1
    · obtain ⟨-, hs2⟩ := im_ite _ hs1
      cases hs2
    · cases hs1
  case lreturn =>
    obtain ⟨u, h1, hs1⟩ := im_bd hs
    split at hs1
    · cases hs1
    · cases hs1
  case return_ =>
    have hs : (match M.2.2.2.1, st with
      | none, [] => (some (.inr (.inr none)) : Option im_O)
      | _, _ => none) = some (Sum.inr (Sum.inl q)) := hs
    split at hs
    · cases hs
    · cases hs
  all_goals exact absurd rfl hi
theorem im_at_ok {q : im_I} (hC : im_okC ms M = true) (hq : im_at M pc = some q) : im_okI ms M pc q = true := by
  unfold im_at at hq
  split at hq
  · cases hq
  · rename_i l0 hl0
    obtain ⟨u, hu, rfl⟩ := Option.map_eq_some_iff.mp hq
    have h1 := List.mem_of_find?_eq_some hu
    have h2 : (u.1 == pc) = true := List.find?_some (p := fun q : Nat × im_I => q.1 == pc) hu
    have h3 : u.1 = pc := by simpa using h2
    have h4 := List.all_eq_true.mp (List.all_eq_true.mp hC l0 (List.mem_of_getElem? hl0)) u h1
    rw [h3] at h4
    exact h4
/-- A BODY -/
theorem im_run_sound (C : im_Cx D ca ad base K M p R s m args meth c) {d : Nat} (hRf : d + 9 ≤ R.frames) (hRl : 64 * (d + 1) + 400 ≤ R.locals) (hC : im_okC ms M = true) {K2 : im_K} (hSF2 : im_SF D ca ad base K2 s s.heap) {call : Nat → List Value → im_H → Option (Option Value × im_H)} (hcall : ∀ j as h v h2, call j as h = some (v, h2) → ∃ N, ms[j]? = some N ∧ im_okM N = true ∧ (N.1.name = "<init>" → N.2.2.2.1 = none) ∧ h.length ≤ h2.length ∧ im_sl h ≤ im_sl h2 ∧ im_Met D ca ad base K2 l d N as h v h2) :
    ∀ (n : Nat) (cf : im_C) (v : Option Value) (h2 : im_H), im_run K M call n cf = some (v, h2) → (cf.2.2.2.length ≤ h2.length ∧ im_sl cf.2.2.2 ≤ im_sl h2) ∧ ∀ (n0 s0 : Nat) (ls : Array Slot) (H : Heap) (locs : List Loc) (cells slots : Nat), h2.length ≤ n0 + R.cells → im_sl h2 ≤ s0 + R.slots → im_St D ca ad base M.2.2.1 n0 s0 s cf.2.1 cf.2.2.2 ls H locs cells slots →
      (∀ (q : im_I) (pc2 : Nat) (lv2 : im_L) (st2 : List Value) (ls2 : Array Slot) (H2 : Heap) (locs2 : List Loc) (cells2 slots2 : Nat), im_okI ms M pc2 q = true → im_ins K M q.1 (q.2.getD 0 0) (q.2.getD 1 0) (q.2.getD 2 0) (q.2.getD 3 0) pc2 lv2 st2 h2 = some (.inr (.inr v)) → im_St D ca ad base M.2.2.1 n0 s0 s lv2 h2 ls2 H2 locs2 cells2 slots2 → W p l e R s m args below meth c H2 locs2 cells2 slots2 Q (F0 m pc2 ls2 (st2.map (im_v ad)))) →
      W p l e R s m args below meth c H locs cells slots Q (F0 m cf.1 ls (cf.2.2.1.map (im_v ad))) := by
  intro n
  induction n with
  | zero => intro cf v h2 hr; cases hr
  | succ n ih =>
    intro cf v h2 hr
    obtain ⟨pc, lv, st, h⟩ := cf
    have hr : (match im_step K M (pc, lv, st, h) with
      | none => none
      | some (.inl c2) => im_run K M call n c2
      | some (.inr (.inl q)) => match call q.1 q.2.1 h with
        | none => none
        | some r => im_run K M call n (pc + 3, lv, r.1.toList ++ q.2.2, r.2)
      | some (.inr (.inr v)) => some (v, h)) = some (v, h2) := hr
    cases hstep : im_step K M (pc, lv, st, h) with
    | none => rw [hstep] at hr; cases hr
    | some o =>
      rw [hstep] at hr
      have hstep2 := hstep
      unfold im_step at hstep2
      cases hat : im_at M pc with
      | none => simp only [hat] at hstep2; cases hstep2
      | some q =>
        simp only [hat] at hstep2
        have hokI := im_at_ok hC hat
        have hokI2 := hokI
        simp only [im_okI, Bool.and_eq_true, decide_eq_true_eq] at hokI2
        obtain ⟨hdg, hok⟩ := hokI2
        cases o with
        | inl c2 =>
          have hr : im_run K M call n c2 = some (v, h2) := hr
          obtain ⟨⟨i1, i2⟩, ih2⟩ := ih c2 v h2 hr
          obtain ⟨g1, g2⟩ := im_mono c2 hstep2
          have hgo := im_ins_go (l := l) (e := e) (below := below) (Q := Q) C (by omega) (by omega) rfl hdg hok hstep2
          refine ⟨⟨Nat.le_trans g1 i1, Nat.le_trans g2 i2⟩, fun n0 s0 ls H locs cells slots hc1 hs1 hI hE => ?_⟩
          exact hgo.2 n0 s0 ls H locs cells slots (Nat.le_trans i1 hc1) (Nat.le_trans i2 hs1) hI fun ls2 H2 locs2 cells2 slots2 hI2 => ih2 n0 s0 ls2 H2 locs2 cells2 slots2 hc1 hs1 hI2 hE
        | inr y =>
          cases y with
          | inl u =>
            have hr : (match call u.1 u.2.1 h with
              | none => none
              | some r => im_run K M call n (pc + 3, lv, r.1.toList ++ u.2.2, r.2)) = some (v, h2) := hr
            cases hcl : call u.1 u.2.1 h with
            | none => rw [hcl] at hr; cases hr
            | some r =>
              rw [hcl] at hr
              have hr : im_run K M call n (pc + 3, lv, r.1.toList ++ u.2.2, r.2) = some (v, h2) := hr
              obtain ⟨⟨i1, i2⟩, ih2⟩ := ih _ v h2 hr
              obtain ⟨N, hN, hNok, hret, g1, g2, hM⟩ := hcall u.1 u.2.1 h r.1 r.2 hcl
              have i1 : r.2.length ≤ h2.length := i1
              have i2 : im_sl r.2 ≤ im_sl h2 := i2
              have hgo := im_ins_call (e := e) (below := below) (Q := Q) C hRf hRl rfl hdg hok hstep2 hSF2 hN hNok hret g1 g2 hM
              refine ⟨⟨Nat.le_trans g1 i1, Nat.le_trans g2 i2⟩, fun n0 s0 ls H locs cells slots hc1 hs1 hI hE => ?_⟩
              exact hgo n0 s0 ls H locs cells slots (Nat.le_trans i1 hc1) (Nat.le_trans i2 hs1) hI fun ls2 H2 locs2 cells2 slots2 hI2 => ih2 n0 s0 ls2 H2 locs2 cells2 slots2 hc1 hs1 hI2 hE
          | inr w =>
            have hr : some (w, h) = some (v, h2) := hr
            cases hr
            exact ⟨⟨Nat.le_refl _, Nat.le_refl _⟩, fun n0 s0 ls H locs cells slots hc1 hs1 hI hE => hE q pc lv st ls H locs cells slots hokI hstep2 hI⟩
end IMR
