/-! RUNS OF THE INTERPRETER, without fuel -/
def Ev (K : im_K) (d : Nat) (M : im_M) (c : im_C) (r : Option Value × im_H) : Prop := ∃ f0, ∀ f n, f0 ≤ f → f0 ≤ n → im_run K M (im_call im_K0 im_ms d f) n c = some r
def Ca (d j : Nat) (as : List Value) (h : im_H) (r : Option Value × im_H) : Prop := ∃ f0, ∀ f, f0 ≤ f → im_call im_K0 im_ms d f j as h = some r
theorem ev_step {K : im_K} {d : Nat} {M : im_M} {c c2 : im_C} {r : Option Value × im_H} (h : im_step K M c = some (.inl c2)) (k : Ev K d M c2 r) : Ev K d M c r := by
  obtain ⟨f0, h0⟩ := k
  refine ⟨f0 + 1, fun f n hf hn => ?_⟩
  obtain ⟨n, rfl⟩ : ∃ m, n = m + 1 := ⟨n - 1, by omega⟩
  simp only [im_run, h]
  exact h0 f n (by omega) (by omega)
theorem ev_ret {K : im_K} {d : Nat} {M : im_M} {c : im_C} {v : Option Value} (h : im_step K M c = some (.inr (.inr v))) : Ev K d M c (v, c.2.2.2) := by
  refine ⟨1, fun f n hf hn => ?_⟩
  obtain ⟨n, rfl⟩ : ∃ m, n = m + 1 := ⟨n - 1, by omega⟩
  simp only [im_run, h]
theorem ev_call {K : im_K} {d : Nat} {M : im_M} {c : im_C} {q : Nat × List Value × List Value} {v : Option Value} {h2 : im_H} {r : Option Value × im_H} (h : im_step K M c = some (.inr (.inl q))) (hc : Ca d q.1 q.2.1 c.2.2.2 (v, h2)) (k : Ev K d M (c.1 + 3, c.2.1, v.toList ++ q.2.2, h2) r) : Ev K d M c r := by
  obtain ⟨f0, h0⟩ := k
  obtain ⟨f1, h1⟩ := hc
  refine ⟨f0 + f1 + 1, fun f n hf hn => ?_⟩
  obtain ⟨n, rfl⟩ : ∃ m, n = m + 1 := ⟨n - 1, by omega⟩
  simp only [im_run, h, h1 f (by omega)]
  exact h0 f n (by omega) (by omega)
theorem ca_of {d j : Nat} {M : im_M} {as : List Value} {h : im_H} {r : Option Value × im_H} (hj : im_ms[j]? = some M) (hl : (lg_sl as).length ≤ M.2.2.1) (k : Ev im_K0 d M (0, lv_args 0 as, [], h) r) : Ca (d + 1) j as h r := by
  obtain ⟨f0, h0⟩ := k
  refine ⟨f0, fun f hf => ?_⟩
  simp only [im_call, hj, if_pos hl]
  exact h0 f f hf hf
theorem im_run_more {K : im_K} {M : im_M} {call call2 : Nat → List Value → im_H → Option (Option Value × im_H)} (hc : ∀ j as h r, call j as h = some r → call2 j as h = some r) : ∀ (n : Nat) (c : im_C) (r : Option Value × im_H), im_run K M call n c = some r → ∀ n2, n ≤ n2 → im_run K M call2 n2 c = some r := by
  intro n
  induction n with
  | zero => intro c r h; cases h
  | succ n ih =>
    intro c r h n2 hn
    obtain ⟨n2, rfl⟩ : ∃ m, n2 = m + 1 := ⟨n2 - 1, by omega⟩
    simp only [im_run] at h ⊢
    cases hs : im_step K M c with
    | none => rw [hs] at h; cases h
    | some o =>
      rw [hs] at h
      cases o with
      | inl c2 => exact ih c2 r h n2 (by omega)
      | inr y =>
        cases y with
        | inl q =>
          simp only at h ⊢
          cases hq : call q.1 q.2.1 c.2.2.2 with
          | none => rw [hq] at h; cases h
          | some v =>
            rw [hq] at h
            rw [hc _ _ _ _ hq]
            exact ih _ r h n2 (by omega)
        | inr v => exact h
theorem im_call_more : ∀ (d d2 f f2 : Nat), d ≤ d2 → f ≤ f2 → ∀ (j : Nat) (as : List Value) (h : im_H) (r : Option Value × im_H), im_call im_K0 im_ms d f j as h = some r → im_call im_K0 im_ms d2 f2 j as h = some r := by
  intro d
  induction d with
  | zero => intro d2 f f2 _ _ j as h r hr; cases hr
  | succ d ih =>
    intro d2 f f2 hd hf j as h r hr
    obtain ⟨d2, rfl⟩ : ∃ m, d2 = m + 1 := ⟨d2 - 1, by omega⟩
    simp only [im_call] at hr ⊢
    cases hj : im_ms[j]? with
    | none => rw [hj] at hr; cases hr
    | some M =>
      rw [hj] at hr
      obtain ⟨hl, hr⟩ := im_ite _ hr
      simp only [if_pos hl]
      exact im_run_more (fun j as h r hc => ih d2 f f2 (by omega) hf j as h r hc) f _ r hr f2 hf
theorem ca_dec {d d2 f j : Nat} {as : List Value} {h : im_H} {r : Option Value × im_H} (hd : d ≤ d2) (hr : im_call im_K0 im_ms d f j as h = some r) : Ca d2 j as h r := ⟨f, fun f2 hf => im_call_more d d2 f f2 hd hf j as h r hr⟩
theorem ca_more {d d2 j : Nat} {as : List Value} {h : im_H} {r : Option Value × im_H} (hr : Ca d j as h r) (hd : d ≤ d2) : Ca d2 j as h r := by
  obtain ⟨f0, h0⟩ := hr
  exact ⟨f0, fun f hf => im_call_more d d2 f f hd (Nat.le_refl _) j as h r (h0 f hf)⟩
/-! what a cell is, over stores -/
theorem ob_ne {h : im_H} {i r c : Nat} {fs : List Value} {x : im_E} (hr : r ≠ 16 + i) (e : im_obj h r c = some fs) : im_obj (h.set i x) r c = some fs := by
  obtain ⟨k, rfl, hk⟩ := im_obj_eq e
  unfold im_obj
  rw [if_pos (by omega), show 16 + k - 16 = k by omega, List.getElem?_set_ne (by omega), hk]
  simp
theorem ob_eq {h : im_H} {i c : Nat} {fs : List Value} (hi : i < h.length) : im_obj (h.set i (.inr (c, fs))) (16 + i) c = some fs := by
  unfold im_obj
  rw [if_pos (by omega), show 16 + i - 16 = i by omega, List.getElem?_set_self hi]
  simp
theorem ia_ne {h : im_H} {i r t : Nat} {l : List Int32} {x : im_E} (hr : r ≠ 16 + i) (e : im_ia h r t = some l) : im_ia (h.set i x) r t = some l := by
  obtain ⟨k, rfl, hk⟩ := im_ia_eq e
  unfold im_ia
  rw [if_pos (by omega), show 16 + k - 16 = k by omega, List.getElem?_set_ne (by omega), hk]
  simp
theorem ia_eq {h : im_H} {i t : Nat} {l : List Int32} (hi : i < h.length) : im_ia (h.set i (.inl (t, .inl l))) (16 + i) t = some l := by
  unfold im_ia
  rw [if_pos (by omega), show 16 + i - 16 = i by omega, List.getElem?_set_self hi]
  simp
theorem qa_ne {h : im_H} {i r : Nat} {q : Nat × List (Option Nat)} {x : im_E} (hr : r ≠ 16 + i) (e : im_qa h r = some q) : im_qa (h.set i x) r = some q := by
  obtain ⟨k, rfl, hk⟩ := im_qa_eq e
  unfold im_qa
  rw [if_pos (by omega), show 16 + k - 16 = k by omega, List.getElem?_set_ne (by omega), hk]
theorem sl_len {h : im_H} {i n : Nat} {x : im_E} (e : h.length = n) : (h.set i x).length = n := by rw [List.length_set]; exact e
/-! single steps, with what they need told -/
section STP
variable {K : im_K} {d : Nat} {M : im_M} {pc : Nat} {lv : im_L} {st : List Value} {h : im_H} {r : Option Value × im_H}
theorem st_at {q : im_I} {o : im_O} (ha : im_at M pc = some q) (hi : im_ins K M q.1 (q.2.getD 0 0) (q.2.getD 1 0) (q.2.getD 2 0) (q.2.getD 3 0) pc lv st h = some o) : im_step K M (pc, lv, st, h) = some o := by
  unfold im_step
  simp only [ha]
  exact hi
theorem st_get {idx a b x : Nat} {R : Nat} {fs : List Value} {v : Value} (ha : im_at M pc = some (.getfield idx, [a, b, 0, 0, x])) (ho : im_obj h R a = some fs) (hv : fs[b]? = some v) (k : Ev K d M (pc + 3, lv, v :: st, h) r) : Ev K d M (pc, lv, .ref R :: st, h) r := by
  refine ev_step (st_at ha ?_) k
  show ((im_1r (.ref R :: st)).bind fun q => (im_obj h q.1 a).bind fun fs => (fs[b]?).bind fun v => im_nx (pc + 3) lv (v :: q.2) h) = _
  simp only [im_1r, Option.bind_some, ho, hv]
  rfl
theorem st_put {idx a b x : Nat} {R i : Nat} {fs : List Value} {ty : FieldType} {v : Value} (ha : im_at M pc = some (.putfield idx, [a, b, 0, 0, x])) (hR : R = 16 + i) (ho : im_obj h R a = some fs) (hK : ((K.2.1[a]?).bind fun t => t[b]?) = some ty) (hf : im_fit ty v = true) (hb : b < fs.length) (k : Ev K d M (pc + 3, lv, st, h.set i (.inr (a, fs.set b v))) r) : Ev K d M (pc, lv, v :: .ref R :: st, h) r := by
  subst hR
  refine ev_step (st_at ha ?_) k
  obtain ⟨t, ht, hty⟩ := im_bd hK
  show ((im_pop (v :: .ref (16 + i) :: st)).bind fun v => (im_1r v.2).bind fun q => (im_obj h q.1 a).bind fun fs => (K.2.1[a]?).bind fun tys => (tys[b]?).bind fun ty =>
      if im_fit ty v.1 = true ∧ b < fs.length then im_nx (pc + 3) lv q.2 (h.set (q.1 - 16) (.inr (a, fs.set b v.1))) else none) = _
  simp only [im_pop, im_1r, Option.bind_some, ho, ht, hty, hf, hb, and_self, if_true]
  rw [show 16 + i - 16 = i by omega]
  rfl
theorem st_iald {R : Nat} {l : List Int32} {j x : Int32} (ha : im_at M pc = some (.iaload, [])) (hR : 16 ≤ R) (hl : im_ia h R 0 = some l) (hj : im_in j l.length = true) (hx : l.getD j.toNatClampNeg 0 = x) (k : Ev K d M (pc + 1, lv, .int x :: st, h) r) : Ev K d M (pc, lv, .int j :: .ref R :: st, h) r := by
  refine ev_step (st_at ha ?_) k
  show ((im_1i (.int j :: .ref R :: st)).bind fun q => (im_1r q.2).bind fun r => (if 16 ≤ r.1 then im_ia h r.1 0 else K.1[r.1]?).bind fun l =>
      if im_in q.1 l.length then im_nx (pc + 1) lv (.int (l.getD q.1.toNatClampNeg 0) :: r.2) h else none) = _
  simp only [im_1i, im_1r, Option.bind_some, if_pos hR, hl, hj, if_true, hx]
  rfl
theorem st_isld {R : Nat} {l : List Int32} {j x : Int32} (ha : im_at M pc = some (.iaload, [])) (hR : ¬ 16 ≤ R) (hl : K.1[R]? = some l) (hj : im_in j l.length = true) (hx : l.getD j.toNatClampNeg 0 = x) (k : Ev K d M (pc + 1, lv, .int x :: st, h) r) : Ev K d M (pc, lv, .int j :: .ref R :: st, h) r := by
  refine ev_step (st_at ha ?_) k
  show ((im_1i (.int j :: .ref R :: st)).bind fun q => (im_1r q.2).bind fun r => (if 16 ≤ r.1 then im_ia h r.1 0 else K.1[r.1]?).bind fun l =>
      if im_in q.1 l.length then im_nx (pc + 1) lv (.int (l.getD q.1.toNatClampNeg 0) :: r.2) h else none) = _
  simp only [im_1i, im_1r, Option.bind_some, if_neg hR, hl, hj, if_true, hx]
  rfl
theorem st_bald {R : Nat} {l : List Int32} {j x : Int32} (ha : im_at M pc = some (.baload, [])) (hl : im_ia h R 1 = some l) (hj : im_in j l.length = true) (hx : l.getD j.toNatClampNeg 0 = x) (k : Ev K d M (pc + 1, lv, .int x :: st, h) r) : Ev K d M (pc, lv, .int j :: .ref R :: st, h) r := by
  refine ev_step (st_at ha ?_) k
  show ((im_1i (.int j :: .ref R :: st)).bind fun q => (im_1r q.2).bind fun r => (im_ia h r.1 1).bind fun l =>
      if im_in q.1 l.length then im_nx (pc + 1) lv (.int (l.getD q.1.toNatClampNeg 0) :: r.2) h else none) = _
  simp only [im_1i, im_1r, Option.bind_some, hl, hj, if_true, hx]
  rfl
theorem st_aald {R t : Nat} {l : List (Option Nat)} {j : Int32} {v : Value} (ha : im_at M pc = some (.aaload, [])) (hl : im_qa h R = some (t, l)) (hj : im_in j l.length = true ∧ 3 ≤ t ∧ t < 8) (hv : im_rf (l.getD j.toNatClampNeg none) = v) (k : Ev K d M (pc + 1, lv, v :: st, h) r) : Ev K d M (pc, lv, .int j :: .ref R :: st, h) r := by
  refine ev_step (st_at ha ?_) k
  show ((im_1i (.int j :: .ref R :: st)).bind fun q => (im_1r q.2).bind fun r => (im_qa h r.1).bind fun l =>
      if im_in q.1 l.2.length ∧ 3 ≤ l.1 ∧ l.1 < 8 then im_nx (pc + 1) lv (im_rf (l.2.getD q.1.toNatClampNeg none) :: r.2) h else none) = _
  simp only [im_1i, im_1r, Option.bind_some, hl, hj, and_self, if_true, hv]
  rfl
theorem st_iast {R i : Nat} {l : List Int32} {j x : Int32} (ha : im_at M pc = some (.iastore, [])) (hR : R = 16 + i) (hl : im_ia h R 0 = some l) (hj : im_in j l.length = true) (k : Ev K d M (pc + 1, lv, st, h.set i (.inl (0, .inl (l.set j.toNatClampNeg x)))) r) : Ev K d M (pc, lv, .int x :: .int j :: .ref R :: st, h) r := by
  subst hR
  refine ev_step (st_at ha ?_) k
  show ((im_1i (.int x :: .int j :: .ref (16 + i) :: st)).bind fun x => (im_1i x.2).bind fun q => (im_1r q.2).bind fun r => (im_ia h r.1 0).bind fun l =>
      if im_in q.1 l.length then im_nx (pc + 1) lv r.2 (h.set (r.1 - 16) (.inl (0, .inl (l.set q.1.toNatClampNeg x.1)))) else none) = _
  simp only [im_1i, im_1r, Option.bind_some, hl, hj, if_true]
  rw [show 16 + i - 16 = i by omega]
  rfl
theorem st_bast {R i : Nat} {l : List Int32} {j x : Int32} (ha : im_at M pc = some (.bastore, [])) (hR : R = 16 + i) (hl : im_ia h R 1 = some l) (hj : im_in j l.length = true) (hx : x = 0 ∨ x = 1) (k : Ev K d M (pc + 1, lv, st, h.set i (.inl (1, .inl (l.set j.toNatClampNeg x)))) r) : Ev K d M (pc, lv, .int x :: .int j :: .ref R :: st, h) r := by
  subst hR
  refine ev_step (st_at ha ?_) k
  show ((im_1i (.int x :: .int j :: .ref (16 + i) :: st)).bind fun x => (im_1i x.2).bind fun q => (im_1r q.2).bind fun r => (im_ia h r.1 1).bind fun l =>
      if im_in q.1 l.length ∧ (x.1 = 0 ∨ x.1 = 1) then im_nx (pc + 1) lv r.2 (h.set (r.1 - 16) (.inl (1, .inl (l.set q.1.toNatClampNeg x.1)))) else none) = _
  simp only [im_1i, im_1r, Option.bind_some, hl, hj, hx, and_self, if_true]
  rw [show 16 + i - 16 = i by omega]
  rfl
/-- a branch on two ints, decided -/
theorem st_icmp {cnd : ClassFile.Cond} {off : Int} {a : Nat} {x y : Int32} {b : Bool} (ha : im_at M pc = some (.if_icmp cnd off, [a])) (hb : im_cnd cnd x y = b) (k : Ev K d M (bif b then a else pc + 3, lv, st, h) r) : Ev K d M (pc, lv, .int y :: .int x :: st, h) r := by
  subst hb
  exact ev_step (st_at ha rfl) k
theorem st_ifc {cnd : ClassFile.Cond} {off : Int} {a : Nat} {x : Int32} {b : Bool} (ha : im_at M pc = some (.ifCond cnd off, [a])) (hb : im_cnd cnd x 0 = b) (k : Ev K d M (bif b then a else pc + 3, lv, st, h) r) : Ev K d M (pc, lv, .int x :: st, h) r := by
  subst hb
  exact ev_step (st_at ha rfl) k
theorem st_callS {idx j w z x : Nat} {q : List Value × List Value} {v : Option Value} {h2 : im_H} (ha : im_at M pc = some (.invokestatic idx, [j, 0, w, z, x])) (ht : im_take w st = some q) (hc : im_cat q.2 = true) (hC : Ca d j q.1 h (v, h2)) (k : Ev K d M (pc + 3, lv, v.toList ++ q.2, h2) r) : Ev K d M (pc, lv, st, h) r := by
  refine ev_call (q := (j, q.1, q.2)) (st_at ha ?_) hC k
  show ((im_take w st).bind fun q => if im_cat q.2 then (some (.inr (.inl (j, q.1, q.2))) : Option im_O) else none) = _
  simp only [ht, Option.bind_some, hc, if_true]
theorem st_callV {idx j w z x R : Nat} {q : List Value × List Value} {rest fs : List Value} {v : Option Value} {h2 : im_H} (ha : im_at M pc = some (.invokevirtual idx, [j, 0, w, z, x])) (ht : im_take w st = some q) (hq : q.2 = .ref R :: rest) (ho : im_obj h R z = some fs) (hc : im_cat rest = true) (hC : Ca d j (.ref R :: q.1) h (v, h2)) (k : Ev K d M (pc + 3, lv, v.toList ++ rest, h2) r) : Ev K d M (pc, lv, st, h) r := by
  refine ev_call (q := (j, .ref R :: q.1, rest)) (st_at ha ?_) hC k
  show ((im_take w st).bind fun q => (im_1r q.2).bind fun r => (im_obj h r.1 z).bind fun _ => if im_cat r.2 then (some (.inr (.inl (j, .ref r.1 :: q.1, r.2))) : Option im_O) else none) = _
  simp only [ht, Option.bind_some, hq, im_1r, ho, hc, if_true]
theorem st_callI {idx j w z x R : Nat} {q : List Value × List Value} {rest : List Value} {v : Option Value} {h2 : im_H} (ha : im_at M pc = some (.invokespecial idx, [j, 0, w, z, x])) (ht : im_take w st = some q) (hq : q.2 = .ref R :: rest) (hc : im_cat rest = true) (hC : Ca d j (.ref R :: q.1) h (v, h2)) (k : Ev K d M (pc + 3, lv, v.toList ++ rest, h2) r) : Ev K d M (pc, lv, st, h) r := by
  refine ev_call (q := (j, .ref R :: q.1, rest)) (st_at ha ?_) hC k
  show ((im_take w st).bind fun q => (im_1r q.2).bind fun r => if im_cat r.2 then (some (.inr (.inl (j, .ref r.1 :: q.1, r.2))) : Option im_O) else none) = _
  simp only [ht, Option.bind_some, hq, im_1r, hc, if_true]
end STP
/-! plain steps -/
section STQ
variable {K : im_K} {d : Nat} {M : im_M} {pc p2 : Nat} {lv lv2 : im_L} {st : List Value} {h : im_H} {r : Option Value × im_H}
theorem sp_aload_n {k0 : Fin 4} {x : Nat} (ha : im_at M pc = some (.aload_n k0, [])) (hp : pc + 1 = p2) (hl : im_lk lv k0 = some (.ref x)) (k : Ev K d M (p2, lv, .ref x :: st, h) r) : Ev K d M (pc, lv, st, h) r := by
  subst hp
  refine ev_step (st_at ha ?_) k
  show ((im_lk lv k0).bind fun v => if im_isR v then im_nx (pc + 1) lv (v :: st) h else none) = _
  rw [hl]
  rfl
theorem sp_aload {k0 : Nat} {x : Nat} (ha : im_at M pc = some (.aload k0, [])) (hp : pc + 2 = p2) (hl : im_lk lv k0 = some (.ref x)) (k : Ev K d M (p2, lv, .ref x :: st, h) r) : Ev K d M (pc, lv, st, h) r := by
  subst hp
  refine ev_step (st_at ha ?_) k
  show ((im_lk lv k0).bind fun v => if im_isR v then im_nx (pc + 2) lv (v :: st) h else none) = _
  rw [hl]
  rfl
theorem sp_iload_n {k0 : Fin 4} {x : Int32} (ha : im_at M pc = some (.iload_n k0, [])) (hp : pc + 1 = p2) (hl : im_lk lv k0 = some (.int x)) (k : Ev K d M (p2, lv, .int x :: st, h) r) : Ev K d M (pc, lv, st, h) r := by
  subst hp
  refine ev_step (st_at ha ?_) k
  show ((im_lk lv k0).bind fun v => if im_isI v then im_nx (pc + 1) lv (v :: st) h else none) = _
  rw [hl]
  rfl
theorem sp_iload {k0 : Nat} {x : Int32} (ha : im_at M pc = some (.iload k0, [])) (hp : pc + 2 = p2) (hl : im_lk lv k0 = some (.int x)) (k : Ev K d M (p2, lv, .int x :: st, h) r) : Ev K d M (pc, lv, st, h) r := by
  subst hp
  refine ev_step (st_at ha ?_) k
  show ((im_lk lv k0).bind fun v => if im_isI v then im_nx (pc + 2) lv (v :: st) h else none) = _
  rw [hl]
  rfl
theorem sp_lload_n {k0 : Fin 4} {x : Int64} (ha : im_at M pc = some (.lload_n k0, [])) (hp : pc + 1 = p2) (hl : im_lk lv k0 = some (.long x)) (k : Ev K d M (p2, lv, .long x :: st, h) r) : Ev K d M (pc, lv, st, h) r := by
  subst hp
  refine ev_step (st_at ha ?_) k
  show ((im_lk lv k0).bind fun v => if im_isL v then im_nx (pc + 1) lv (v :: st) h else none) = _
  rw [hl]
  rfl
theorem sp_iconst {n : Int} {x : Int32} (ha : im_at M pc = some (.iconst n, [])) (hp : pc + 1 = p2) (hv : Int32.ofInt n = x) (k : Ev K d M (p2, lv, .int x :: st, h) r) : Ev K d M (pc, lv, st, h) r := by
  subst hp; subst hv
  exact ev_step (st_at ha rfl) k
theorem sp_bipush {n : Int} {x : Int32} (ha : im_at M pc = some (.bipush n, [])) (hp : pc + 2 = p2) (hv : (Int8.ofInt n).toInt32 = x) (k : Ev K d M (p2, lv, .int x :: st, h) r) : Ev K d M (pc, lv, st, h) r := by
  subst hp; subst hv
  exact ev_step (st_at ha rfl) k
theorem sp_sipush {n : Int} {x : Int32} (ha : im_at M pc = some (.sipush n, [])) (hp : pc + 3 = p2) (hv : (Int16.ofInt n).toInt32 = x) (k : Ev K d M (p2, lv, .int x :: st, h) r) : Ev K d M (pc, lv, st, h) r := by
  subst hp; subst hv
  exact ev_step (st_at ha rfl) k
theorem sp_null  (ha : im_at M pc = some (.aconst_null, [])) (hp : pc + 1 = p2) (k : Ev K d M (p2, lv, .null :: st, h) r) : Ev K d M (pc, lv, st, h) r := by
  subst hp
  exact ev_step (st_at ha rfl) k
theorem sp_istore_n {k0 : Fin 4} {x : Int32} (ha : im_at M pc = some (.istore_n k0, [])) (hp : pc + 1 = p2) (hk : (k0 : Nat) < M.2.2.1) (hl : im_pt lv k0 (.int x) = lv2) (k : Ev K d M (p2, lv2, st, h) r) : Ev K d M (pc, lv, .int x :: st, h) r := by
  subst hp; subst hl
  refine ev_step (st_at ha ?_) k
  show ((im_1i (.int x :: st)).bind fun q => if k0 < M.2.2.1 then im_nx (pc + 1) (im_pt lv k0 (.int q.1)) q.2 h else none) = _
  simp only [im_1i, Option.bind_some, if_pos hk]
  rfl
theorem sp_istore {k0 : Nat} {x : Int32} (ha : im_at M pc = some (.istore k0, [])) (hp : pc + 2 = p2) (hk : (k0 : Nat) < M.2.2.1) (hl : im_pt lv k0 (.int x) = lv2) (k : Ev K d M (p2, lv2, st, h) r) : Ev K d M (pc, lv, .int x :: st, h) r := by
  subst hp; subst hl
  refine ev_step (st_at ha ?_) k
  show ((im_1i (.int x :: st)).bind fun q => if k0 < M.2.2.1 then im_nx (pc + 2) (im_pt lv k0 (.int q.1)) q.2 h else none) = _
  simp only [im_1i, Option.bind_some, if_pos hk]
  rfl
theorem sp_astore_n {k0 : Fin 4} {x : Nat} (ha : im_at M pc = some (.astore_n k0, [])) (hp : pc + 1 = p2) (hk : (k0 : Nat) < M.2.2.1) (hl : im_pt lv k0 (.ref x) = lv2) (k : Ev K d M (p2, lv2, st, h) r) : Ev K d M (pc, lv, .ref x :: st, h) r := by
  subst hp; subst hl
  refine ev_step (st_at ha ?_) k
  show ((im_1r (.ref x :: st)).bind fun q => if k0 < M.2.2.1 then im_nx (pc + 1) (im_pt lv k0 (.ref q.1)) q.2 h else none) = _
  simp only [im_1r, Option.bind_some, if_pos hk]
  rfl
theorem sp_astore {k0 : Nat} {x : Nat} (ha : im_at M pc = some (.astore k0, [])) (hp : pc + 2 = p2) (hk : (k0 : Nat) < M.2.2.1) (hl : im_pt lv k0 (.ref x) = lv2) (k : Ev K d M (p2, lv2, st, h) r) : Ev K d M (pc, lv, .ref x :: st, h) r := by
  subst hp; subst hl
  refine ev_step (st_at ha ?_) k
  show ((im_1r (.ref x :: st)).bind fun q => if k0 < M.2.2.1 then im_nx (pc + 2) (im_pt lv k0 (.ref q.1)) q.2 h else none) = _
  simp only [im_1r, Option.bind_some, if_pos hk]
  rfl
theorem sp_iinc {k0 : Nat} {n : Int} {x y : Int32} (ha : im_at M pc = some (.iinc k0 n, [])) (hp : pc + 3 = p2) (hk : k0 < M.2.2.1) (hx : im_lk lv k0 = some (.int x)) (hy : x + Int32.ofInt n = y) (hl : im_pt lv k0 (.int y) = lv2) (k : Ev K d M (p2, lv2, st, h) r) : Ev K d M (pc, lv, st, h) r := by
  subst hp; subst hy; subst hl
  refine ev_step (st_at ha ?_) k
  show ((im_lk lv k0).bind fun v => (im_1v v).bind fun x => if k0 < M.2.2.1 then im_nx (pc + 3) (im_pt lv k0 (.int (x + Int32.ofInt n))) st h else none) = _
  simp only [hx, im_1v, Option.bind_some, if_pos hk]
  rfl
theorem sp_dup {v : Value} (ha : im_at M pc = some (.dup, [])) (hp : pc + 1 = p2) (hv : v.category = 1) (k : Ev K d M (p2, lv, v :: v :: st, h) r) : Ev K d M (pc, lv, v :: st, h) r := by
  subst hp
  refine ev_step (st_at ha ?_) k
  show ((im_pop (v :: st)).bind fun q => if q.1.category = 1 then im_nx (pc + 1) lv (q.1 :: q.1 :: q.2) h else none) = _
  simp only [im_pop, Option.bind_some, if_pos hv]
  rfl
theorem sp_dup2 {v w : Value} (ha : im_at M pc = some (.dup2, [])) (hp : pc + 1 = p2) (hv : v.category = 1 ∧ w.category = 1) (k : Ev K d M (p2, lv, v :: w :: v :: w :: st, h) r) : Ev K d M (pc, lv, v :: w :: st, h) r := by
  subst hp
  refine ev_step (st_at ha ?_) k
  show ((im_pop (v :: w :: st)).bind fun q => (im_pop q.2).bind fun u => if q.1.category = 1 ∧ u.1.category = 1 then im_nx (pc + 1) lv (q.1 :: u.1 :: q.1 :: u.1 :: u.2) h else none) = _
  simp only [im_pop, Option.bind_some, if_pos hv]
  rfl
theorem sp_pop {v : Value} (ha : im_at M pc = some (.pop, [])) (hp : pc + 1 = p2) (hv : v.category = 1) (k : Ev K d M (p2, lv, st, h) r) : Ev K d M (pc, lv, v :: st, h) r := by
  subst hp
  refine ev_step (st_at ha ?_) k
  show ((im_pop (v :: st)).bind fun q => if q.1.category = 1 then im_nx (pc + 1) lv q.2 h else none) = _
  simp only [im_pop, Option.bind_some, if_pos hv]
  rfl
theorem sp_iadd {x y z : Int32} (ha : im_at M pc = some (.iadd, [])) (hp : pc + 1 = p2) (hz : x + y = z) (k : Ev K d M (p2, lv, .int z :: st, h) r) : Ev K d M (pc, lv, .int y :: .int x :: st, h) r := by
  subst hp; subst hz
  exact ev_step (st_at ha rfl) k
theorem sp_isub {x y z : Int32} (ha : im_at M pc = some (.isub, [])) (hp : pc + 1 = p2) (hz : x - y = z) (k : Ev K d M (p2, lv, .int z :: st, h) r) : Ev K d M (pc, lv, .int y :: .int x :: st, h) r := by
  subst hp; subst hz
  exact ev_step (st_at ha rfl) k
theorem sp_imul {x y z : Int32} (ha : im_at M pc = some (.imul, [])) (hp : pc + 1 = p2) (hz : x * y = z) (k : Ev K d M (p2, lv, .int z :: st, h) r) : Ev K d M (pc, lv, .int y :: .int x :: st, h) r := by
  subst hp; subst hz
  exact ev_step (st_at ha rfl) k
theorem sp_iand {x y z : Int32} (ha : im_at M pc = some (.iand, [])) (hp : pc + 1 = p2) (hz : x &&& y = z) (k : Ev K d M (p2, lv, .int z :: st, h) r) : Ev K d M (pc, lv, .int y :: .int x :: st, h) r := by
  subst hp; subst hz
  exact ev_step (st_at ha rfl) k
theorem sp_ior {x y z : Int32} (ha : im_at M pc = some (.ior, [])) (hp : pc + 1 = p2) (hz : x ||| y = z) (k : Ev K d M (p2, lv, .int z :: st, h) r) : Ev K d M (pc, lv, .int y :: .int x :: st, h) r := by
  subst hp; subst hz
  exact ev_step (st_at ha rfl) k
theorem sp_ishl {x y z : Int32} (ha : im_at M pc = some (.ishl, [])) (hp : pc + 1 = p2) (hz : x <<< (y &&& 31) = z) (k : Ev K d M (p2, lv, .int z :: st, h) r) : Ev K d M (pc, lv, .int y :: .int x :: st, h) r := by
  subst hp; subst hz
  exact ev_step (st_at ha rfl) k
theorem sp_ishr {x y z : Int32} (ha : im_at M pc = some (.ishr, [])) (hp : pc + 1 = p2) (hz : x >>> (y &&& 31) = z) (k : Ev K d M (p2, lv, .int z :: st, h) r) : Ev K d M (pc, lv, .int y :: .int x :: st, h) r := by
  subst hp; subst hz
  exact ev_step (st_at ha rfl) k
theorem sp_idiv {x y z : Int32} (ha : im_at M pc = some (.idiv, [])) (hp : pc + 1 = p2) (hy : ¬ y = 0) (hz : x / y = z) (k : Ev K d M (p2, lv, .int z :: st, h) r) : Ev K d M (pc, lv, .int y :: .int x :: st, h) r := by
  subst hp; subst hz
  refine ev_step (st_at ha ?_) k
  show ((im_1i (.int y :: .int x :: st)).bind fun q => (im_1i q.2).bind fun w => (if q.1 = 0 then none else some (w.1 / q.1)).bind fun z => im_nx (pc + 1) lv (.int z :: w.2) h) = _
  simp only [im_1i, Option.bind_some, if_neg hy]
  rfl
theorem sp_irem {x y z : Int32} (ha : im_at M pc = some (.irem, [])) (hp : pc + 1 = p2) (hy : ¬ y = 0) (hz : x - x / y * y = z) (k : Ev K d M (p2, lv, .int z :: st, h) r) : Ev K d M (pc, lv, .int y :: .int x :: st, h) r := by
  subst hp; subst hz
  refine ev_step (st_at ha ?_) k
  show ((im_1i (.int y :: .int x :: st)).bind fun q => (im_1i q.2).bind fun w => (if q.1 = 0 then none else some (w.1 - w.1 / q.1 * q.1)).bind fun z => im_nx (pc + 1) lv (.int z :: w.2) h) = _
  simp only [im_1i, Option.bind_some, if_neg hy]
  rfl
theorem sp_goto {off : Int} {a : Nat} (ha : im_at M pc = some (.goto off, [a]))  (k : Ev K d M (a, lv, st, h) r) : Ev K d M (pc, lv, st, h) r := by
  exact ev_step (st_at ha rfl) k
theorem sp_iret {x : Int32} (ha : im_at M pc = some (.ireturn, [])) (hr : M.2.2.2.1 = some .int) : Ev K d M (pc, lv, [.int x], h) (some (.int x), h) := by
  refine ev_ret (c := (pc, lv, [.int x], h)) (st_at ha ?_)
  show ((im_1i [.int x]).bind fun q => match M.2.2.2.1, q.2 with
    | some .int, [] => (some (.inr (.inr (some (.int q.1)))) : Option im_O)
    | some .boolean, [] => if q.1 = 0 ∨ q.1 = 1 then (some (.inr (.inr (some (.int q.1)))) : Option im_O) else none
    | _, _ => none) = _
  rw [hr]
  rfl
theorem sp_zret {x : Int32} (ha : im_at M pc = some (.ireturn, [])) (hr : M.2.2.2.1 = some .boolean) (hx : x = 0 ∨ x = 1) : Ev K d M (pc, lv, [.int x], h) (some (.int x), h) := by
  refine ev_ret (c := (pc, lv, [.int x], h)) (st_at ha ?_)
  show ((im_1i [.int x]).bind fun q => match M.2.2.2.1, q.2 with
    | some .int, [] => (some (.inr (.inr (some (.int q.1)))) : Option im_O)
    | some .boolean, [] => if q.1 = 0 ∨ q.1 = 1 then (some (.inr (.inr (some (.int q.1)))) : Option im_O) else none
    | _, _ => none) = _
  rw [hr]
  simp only [im_1i, Option.bind_some, if_pos hx]
theorem sp_vret (ha : im_at M pc = some (.return_, [])) (hr : M.2.2.2.1 = none) : Ev K d M (pc, lv, [], h) (none, h) := by
  refine ev_ret (c := (pc, lv, [], h)) (st_at ha ?_)
  show (match M.2.2.2.1, ([] : List Value) with
      | none, [] => (some (.inr (.inr none)) : Option im_O)
      | _, _ => none) = _
  rw [hr]
theorem sp_lret {x : Int64} (ha : im_at M pc = some (.lreturn, [])) (hr : M.2.2.2.1 = some .long) : Ev K d M (pc, lv, [.long x], h) (some (.long x), h) := by
  refine ev_ret (c := (pc, lv, [.long x], h)) (st_at ha ?_)
  show ((im_1l [.long x]).bind fun q => match M.2.2.2.1, q.2 with
      | some .long, [] => (some (.inr (.inr (some (.long q.1)))) : Option im_O)
      | _, _ => none) = _
  rw [hr]
  rfl
end STQ
