/-! A METHOD -/
theorem im_end {p : Program} {l : Launch} {e : Env} {R : Room} {s : State} {m : MethodId} {args : Array Value} {below : List Frame} {meth : Method} {c : Code} {D : va_G} {ca : Nat → ClassId} {ad : Nat → Nat} {base : Nat} {K : im_K} {M : im_M} {ms : List im_M} {h2 : im_H} {v : Option Value} {n0 s0 : Nat} (hx : p.tables.exec = Jvm.exec) (hb : c.code = M.2.1) (hr : meth.sig.returnType = M.2.2.2.1) (hlocks : meth.locks = false) {q : im_I} {pc : Nat} {lv : im_L} {st : List Value} {ls : Array Slot} {H : Heap} {locs : List Loc} {cells slots : Nat} (hokI : im_okI ms M pc q = true) (hs : im_ins K M q.1 (q.2.getD 0 0) (q.2.getD 1 0) (q.2.getD 2 0) (q.2.getD 3 0) pc lv st h2 = some (.inr (.inr v))) (hI : im_St D ca ad base M.2.2.1 n0 s0 s lv h2 ls H locs cells slots) :
    W p l e R s m args below meth c H locs cells slots (MQ below (im_Q D ca ad base v h2) args s (h2.length - n0) (im_sl h2 - s0) (im_up base)) (F0 m pc ls (st.map (im_v ad))) := by
  simp only [im_okI, Bool.and_eq_true, decide_eq_true_eq] at hokI
  obtain ⟨hdg, -⟩ := hokI
  obtain ⟨i, nums⟩ := q
  obtain ⟨hl, hP, hz, hS, hc, hq⟩ := hI
  have e1 : h2.length - n0 = cells := by omega
  have e2 : im_sl h2 - s0 = slots := by omega
  rw [e1, e2]
  have hs : im_ins K M i (nums.getD 0 0) (nums.getD 1 0) (nums.getD 2 0) (nums.getD 3 0) pc lv st h2 = some (.inr (.inr v)) := hs
  have hdg : decode M.2.1 pc = .ok (i, im_ln i (nums.getD 2 0)) := hdg
  by_cases hi : im_isC i = false
  · exact absurd hs (im_nxs hi _)
  cases i
  case ireturn =>
    obtain ⟨u, h1, hs1⟩ := im_bd hs
    have e3 := im_1i_eq h1
    split at hs1
    · rename_i hr1 hr2
      cases hs1
      rw [hr2] at e3
      subst e3
      exact W.iret hx hb (by rw [hr, hr1]) (fun t ht hW => ⟨⟨rfl, by rw [ht]; exact hP⟩, hS.F ht⟩) hS.2.2 hdg hlocks
    · rename_i hr1 hr2
      obtain ⟨h01, hs2⟩ := im_ite _ hs1
      cases hs2
      rw [hr2] at e3
      subst e3
      refine W.zret (ty := .boolean) hx hb (by rw [hr, hr1]) ?_ (fun t ht hW => ⟨⟨rfl, by rw [ht]; exact hP⟩, hS.F ht⟩) hS.2.2 hdg hlocks
      rcases h01 with e9 | e9 <;> (rw [e9]; rfl)
    · cases hs1
  case lreturn =>
    obtain ⟨u, h1, hs1⟩ := im_bd hs
    have e3 := im_1l_eq h1
    split at hs1
    · rename_i hr1 hr2
      cases hs1
      rw [hr2] at e3
      subst e3
      exact W.lret hx hb (by rw [hr, hr1]) (fun t ht hW => ⟨⟨rfl, by rw [ht]; exact hP⟩, hS.F ht⟩) hS.2.2 hdg hlocks
    · cases hs1
  case return_ =>
    have hs : (match M.2.2.2.1, st with
      | none, [] => (some (.inr (.inr none)) : Option im_O)
      | _, _ => none) = some (Sum.inr (Sum.inr v)) := hs
    split at hs
    · cases hs
      exact W.vret hx hb (by rw [hr]; assumption) (fun t ht hW => ⟨⟨rfl, by rw [ht]; exact hP⟩, hS.F ht⟩) hS.2.2 hdg hlocks
    · cases hs
  case invokestatic idx =>
    exfalso
    generalize nums.getD 1 0 = b at hs
    rcases b with _ | _ | _ | _ | _ | _ | _ | b
    · obtain ⟨_, _, hs⟩ := im_bd hs
      obtain ⟨_, hs⟩ := im_ite _ hs
      cases hs
    · cases hs
    · cases hs
    · have hs : im_copy pc lv st h2 (nums.getD 3 0) = some (.inr (.inr v)) := hs
      obtain ⟨_, _, hs⟩ := im_bd hs
      obtain ⟨_, _, hs⟩ := im_bd hs
      obtain ⟨_, _, hs⟩ := im_bd hs
      obtain ⟨_, _, hs⟩ := im_bd hs
      obtain ⟨_, _, hs⟩ := im_bd hs
      obtain ⟨_, _, hs⟩ := im_bd hs
      obtain ⟨_, _, hs⟩ := im_bd hs
      obtain ⟨_, hs⟩ := im_ite _ hs
      exact absurd hs (nx_nx _)
    · cases hs
    · obtain ⟨_, _, hs⟩ := im_bd hs
      obtain ⟨_, _, hs⟩ := im_bd hs
      obtain ⟨_, hs⟩ := im_ite _ hs
      exact absurd hs (nx_nx _)
    · obtain ⟨_, _, hs⟩ := im_bd hs
      obtain ⟨_, _, hs⟩ := im_bd hs
      obtain ⟨_, hs⟩ := im_ite _ hs
      exact absurd hs (nx_nx _)
    · cases hs
  case invokespecial idx =>
    exfalso
    generalize nums.getD 1 0 = b at hs
    rcases b with _ | _ | _ | _ | _ | b
    · obtain ⟨_, _, hs⟩ := im_bd hs
      obtain ⟨_, _, hs⟩ := im_bd hs
      obtain ⟨_, hs⟩ := im_ite _ hs
      cases hs
    · cases hs
    · cases hs
    · cases hs
    · obtain ⟨r, h3, hs⟩ := im_bd hs
      obtain ⟨_, hs⟩ := im_ite _ hs
      exact absurd hs (nx_nx _)
    · cases hs
  case invokevirtual idx =>
    exfalso
    generalize nums.getD 1 0 = b at hs
    rcases b with _ | _ | _ | b
    · obtain ⟨_, _, hs⟩ := im_bd hs
      obtain ⟨_, _, hs⟩ := im_bd hs
      obtain ⟨_, _, hs⟩ := im_bd hs
      obtain ⟨_, hs⟩ := im_ite _ hs
      cases hs
    · obtain ⟨r, h3, hs⟩ := im_bd hs
      obtain ⟨_, hs⟩ := im_ite _ hs
      obtain ⟨_, _, hs⟩ := im_bd hs
      exact absurd hs (nx_nx _)
    · obtain ⟨r, h3, hs⟩ := im_bd hs
      obtain ⟨_, _, hs⟩ := im_bd hs
      obtain ⟨_, hs⟩ := im_ite _ hs
      obtain ⟨_, _, hs⟩ := im_bd hs
      obtain ⟨_, hs⟩ := im_ite _ hs
      exact absurd hs (nx_nx _)
    · cases hs
  all_goals exact absurd rfl hi
/-- what the table of methods must be -/
def im_good_ms (ms : List im_M) : Prop := ∀ (j : Nat) (M : im_M), ms[j]? = some M → im_okC ms M = true ∧ im_okM M = true ∧ (M.1.name = "<init>" → M.2.2.2.1 = none)
/-- values that a method may take: none wider than its locals -/
theorem im_sl_entry {ad : Nat → Nat} (as : List Value) : (lg_sl (as.map (im_v ad))).length = (lg_sl as).length := by
  induction as with
  | nil => rfl
  | cons v t ih =>
    simp only [lg_sl, List.map_cons, List.flatMap_cons, List.length_append] at ih ⊢
    rw [ih, im_cat_v]
    by_cases h : v.category = 2 <;> simp [h]
theorem im_args {ad : Nat → Nat} : ∀ (as : List Value) (k : Nat), lv_args k (as.map (im_v ad)) = im_ml ad (lv_args k as) := by
  intro as
  induction as with
  | nil => intro k; rfl
  | cons v t ih =>
    intro k
    simp only [List.map_cons, lv_args, im_ml]
    rw [im_cat_v, ih]
theorem im_run_mono {K : im_K} {M : im_M} {call : Nat → List Value → im_H → Option (Option Value × im_H)} (hcall : ∀ j as h v h2, call j as h = some (v, h2) → h.length ≤ h2.length ∧ im_sl h ≤ im_sl h2) : ∀ (n : Nat) (cf : im_C) (v : Option Value) (h2 : im_H), im_run K M call n cf = some (v, h2) → cf.2.2.2.length ≤ h2.length ∧ im_sl cf.2.2.2 ≤ im_sl h2 := by
  intro n
  induction n with
  | zero => intro cf v h2 hr; cases hr
  | succ n ih =>
    intro cf v h2 hr
    obtain ⟨pc, lv, st, h⟩ := cf
    have hr : (match im_step K M (pc, lv, st, h) with
      | none => none
      | some (.inl c2) => im_run K M call n c2
      | some (.inr (.inl q)) => match call q.1 q.2.1 h with
        | none => none
        | some r => im_run K M call n (pc + 3, lv, r.1.toList ++ q.2.2, r.2)
      | some (.inr (.inr v)) => some (v, h)) = some (v, h2) := hr
    cases hstep : im_step K M (pc, lv, st, h) with
    | none => rw [hstep] at hr; cases hr
    | some o =>
      rw [hstep] at hr
      cases o with
      | inl c2 =>
        have hr : im_run K M call n c2 = some (v, h2) := hr
        obtain ⟨i1, i2⟩ := ih c2 v h2 hr
        unfold im_step at hstep
        cases hat : im_at M pc with
        | none => simp only [hat] at hstep; cases hstep
        | some q =>
          simp only [hat] at hstep
          obtain ⟨g1, g2⟩ := im_mono c2 hstep
          exact ⟨Nat.le_trans g1 i1, Nat.le_trans g2 i2⟩
      | inr y =>
        cases y with
        | inl u =>
          have hr : (match call u.1 u.2.1 h with
            | none => none
            | some r => im_run K M call n (pc + 3, lv, r.1.toList ++ u.2.2, r.2)) = some (v, h2) := hr
          cases hcl : call u.1 u.2.1 h with
          | none => rw [hcl] at hr; cases hr
          | some r =>
            rw [hcl] at hr
            have hr : im_run K M call n (pc + 3, lv, r.1.toList ++ u.2.2, r.2) = some (v, h2) := hr
            obtain ⟨i1, i2⟩ := ih _ v h2 hr
            obtain ⟨g1, g2⟩ := hcall u.1 u.2.1 h r.1 r.2 hcl
            exact ⟨Nat.le_trans g1 i1, Nat.le_trans g2 i2⟩
        | inr w =>
          have hr : some (w, h) = some (v, h2) := hr
          cases hr
          exact ⟨Nat.le_refl _, Nat.le_refl _⟩
set_option maxRecDepth 20000 in
theorem im_sound {D : va_G} {ca : Nat → ClassId} {ad : Nat → Nat} {base : Nat} {K : im_K} {l : Launch} {ms : List im_M} (had : ∀ i, ad (16 + i) = base + i) (hfty : K.2.1 = im_fty) (hlc : K.2.2.1 = im_lc) (htx : K.2.2.2 = im_txt) (hms : im_good_ms ms) :
    ∀ (d f j : Nat) (as : List Value) (h : im_H) (v : Option Value) (h2 : im_H), im_call K ms d f j as h = some (v, h2) → ∃ N, ms[j]? = some N ∧ im_okM N = true ∧ (N.1.name = "<init>" → N.2.2.2.1 = none) ∧ h.length ≤ h2.length ∧ im_sl h ≤ im_sl h2 ∧ im_Met D ca ad base K l d N as h v h2 := by
  intro d
  induction d with
  | zero => intro f j as h v h2 hr; cases hr
  | succ d ih =>
    intro f j as h v h2 hr
    have hr : (match ms[j]? with
      | none => none
      | some M => if (lg_sl as).length ≤ M.2.2.1 then im_run K M (im_call K ms d f) f (0, lv_args 0 as, [], h) else none) = some (v, h2) := hr
    cases hj : ms[j]? with
    | none => rw [hj] at hr; cases hr
    | some M =>
      rw [hj] at hr
      obtain ⟨hlen, hr⟩ := im_ite _ hr
      obtain ⟨hC, hM, hret⟩ := hms j M hj
      have ihf := ih f
      obtain ⟨g1, g2⟩ := im_run_mono (fun j as h v h2 hc => by obtain ⟨N, -, -, -, g1, g2, -⟩ := ihf j as h v h2 hc; exact ⟨g1, g2⟩) f _ v h2 hr
      refine ⟨M, rfl, hM, hret, g1, g2, ?_⟩
      obtain ⟨hpl, -, hml30, -⟩ := im_okM_spec hM
      refine Met.ofW (cc := M.2.1) (maxL := M.2.2.1) (ret := M.2.2.2.1) hpl rfl ?_
      intro p e s m args below meth c s₁ B hml hv
      obtain ⟨rfl, hsz, hP, hSF⟩ := hv
      have hts0 := atoms_spec (ws := im_wsM M) B.pre
      have hts : ∀ w ∈ im_ws, w.before (as.map (im_v ad)).toArray s = true := fun w h => hts0 w (List.mem_cons_of_mem _ h)
      have hown : s.vm.findClass M.1.cls = some m.cls := findClass_of_methodNamed B.named
      have hlocks := B.notSynchronized
      have C : im_Cx D ca ad base K M p (im_rm (d + 1) (h2.length - h.length) (im_sl h2 - im_sl h)) s m (as.map (im_v ad)).toArray meth c := ⟨B.exec, B.bytes, hml, hown, hts, hSF, fun hn => by rw [(name_of_methodNamed B.named B.method).1]; exact hn, by show 1 ≤ d + 1 + 8; omega, by show 64 ≤ 64 * (d + 1) + 400; omega, had, hfty, hlc, htx⟩
      have hl := lv_entry (as.map (im_v ad)) (n := M.2.2.1) (by rw [im_sl_entry]; exact hlen)
      rw [lg_entry_eq]
      generalize (lg_sl (as.map (im_v ad)) ++ List.replicate (M.2.2.1 - (lg_sl (as.map (im_v ad))).length) Slot.unset).toArray = ls at hl ⊢
      rw [im_args] at hl
      have hrun := im_run_sound (l := l) (e := e) (below := below) (Q := MQ below (im_Q D ca ad base v h2) (as.map (im_v ad)).toArray s (h2.length - h.length) (im_sl h2 - im_sl h) (im_up base)) C (d := d) (by show d + 9 ≤ d + 1 + 8; omega) (Nat.le_refl _) hC hSF ihf f _ v h2 hr
      exact hrun.2 h.length (im_sl h) ls s.heap [] 0 0 (by show h2.length ≤ h.length + (h2.length - h.length); omega) (by show im_sl h2 ≤ im_sl h + (im_sl h2 - im_sl h); omega) ⟨hl, hP, hsz, va_S.rf, Nat.zero_add _, Nat.zero_add _⟩ (fun q pc2 lv2 st2 ls2 H2 locs2 cells2 slots2 h1 h3 h4 => im_end B.exec B.bytes B.returns hlocks h1 h3 h4)
