/-! calls by what their end meets -/
abbrev pI (h : im_H) (R : Int32 → Prop) : Option Value → im_H → Prop := fun v h2 => h2 = h ∧ ∃ y : Int32, v = some (.int y) ∧ R y
abbrev pL (h : im_H) : Option Value → im_H → Prop := fun v h2 => h2 = h ∧ ∃ y : Int64, v = some (.long y)
abbrev mI (h : im_H) (F : List (Nat × Nat × Nat)) (R : Int32 → Prop) : Option Value → im_H → Prop := fun v h2 => tI h2 ∧ fr F h h2 ∧ ∃ y : Int32, v = some (.int y) ∧ R y
abbrev mL (h : im_H) (F : List (Nat × Nat × Nat)) : Option Value → im_H → Prop := fun v h2 => tI h2 ∧ fr F h h2 ∧ ∃ y : Int64, v = some (.long y)
abbrev mV (h : im_H) (F : List (Nat × Nat × Nat)) : Option Value → im_H → Prop := fun v h2 => tI h2 ∧ fr F h h2 ∧ v = none
section CC
variable {K : im_K} {d : Nat} {M : im_M} {pc p2 : Nat} {lv lv2 : im_L} {st : List Value} {h : im_H} {Q : Option Value → im_H → Prop} {F : List (Nat × Nat × Nat)} {R : Int32 → Prop}
theorem cS_pI {idx j w z x d1 : Nat} {q : List Value × List Value} (ha : im_at M pc = some (.invokestatic idx, [j, 0, w, z, x])) (hp : pc + 3 = p2) (ht : im_take w st = some q) (hc : im_cat q.2 = true) (hC : CaP d1 j q.1 h (pI h R)) (hd : d1 ≤ d) (k : ∀ y, R y → EvP K d M (p2, lv, .int y :: q.2, h) Q) : EvP K d M (pc, lv, st, h) Q :=
  tc_S ha hp ht hc hC hd (fun v h2 hq => by obtain ⟨e, y, rfl, r⟩ := hq; rw [e]; exact k y r)
theorem cS_mI {idx j w z x d1 : Nat} {q : List Value × List Value} (ha : im_at M pc = some (.invokestatic idx, [j, 0, w, z, x])) (hp : pc + 3 = p2) (ht : im_take w st = some q) (hc : im_cat q.2 = true) (hC : CaP d1 j q.1 h (mI h F R)) (hd : d1 ≤ d) (k : ∀ y h2, tI h2 → fr F h h2 → R y → EvP K d M (p2, lv, .int y :: q.2, h2) Q) : EvP K d M (pc, lv, st, h) Q :=
  tc_S ha hp ht hc hC hd (fun v h2 hq => by obtain ⟨e, f, y, rfl, r⟩ := hq; exact k y h2 e f r)
theorem cS_mV {idx j w z x d1 : Nat} {q : List Value × List Value} (ha : im_at M pc = some (.invokestatic idx, [j, 0, w, z, x])) (hp : pc + 3 = p2) (ht : im_take w st = some q) (hc : im_cat q.2 = true) (hC : CaP d1 j q.1 h (mV h F)) (hd : d1 ≤ d) (k : ∀ h2, tI h2 → fr F h h2 → EvP K d M (p2, lv, q.2, h2) Q) : EvP K d M (pc, lv, st, h) Q :=
  tc_S ha hp ht hc hC hd (fun v h2 hq => by obtain ⟨e, f, rfl⟩ := hq; exact k h2 e f)
variable {i n Rf : Nat}
theorem cV_pI {idx j w z x d1 : Nat} {q : List Value × List Value} {rest : List Value} (ha : im_at M pc = some (.invokevirtual idx, [j, 0, w, z, x])) (hp : pc + 3 = p2) (ht : im_take w st = some q) (hq : q.2 = .ref Rf :: rest) (hI : tI h) (hR : Rf = 16 + i) (hs : tS[i]? = some (3, z, n)) (hc : im_cat rest = true) (hC : CaP d1 j (.ref Rf :: q.1) h (pI h R)) (hd : d1 ≤ d) (k : ∀ y, R y → EvP K d M (p2, lv, .int y :: rest, h) Q) : EvP K d M (pc, lv, st, h) Q :=
  tc_V ha hp ht hq hI hR hs hc hC hd (fun v h2 hq => by obtain ⟨e, y, rfl, r⟩ := hq; rw [e]; exact k y r)
theorem cV_pL {idx j w z x d1 : Nat} {q : List Value × List Value} {rest : List Value} (ha : im_at M pc = some (.invokevirtual idx, [j, 0, w, z, x])) (hp : pc + 3 = p2) (ht : im_take w st = some q) (hq : q.2 = .ref Rf :: rest) (hI : tI h) (hR : Rf = 16 + i) (hs : tS[i]? = some (3, z, n)) (hc : im_cat rest = true) (hC : CaP d1 j (.ref Rf :: q.1) h (pL h)) (hd : d1 ≤ d) (k : ∀ y, EvP K d M (p2, lv, .long y :: rest, h) Q) : EvP K d M (pc, lv, st, h) Q :=
  tc_V ha hp ht hq hI hR hs hc hC hd (fun v h2 hq => by obtain ⟨e, y, rfl⟩ := hq; rw [e]; exact k y)
theorem cV_mI {idx j w z x d1 : Nat} {q : List Value × List Value} {rest : List Value} (ha : im_at M pc = some (.invokevirtual idx, [j, 0, w, z, x])) (hp : pc + 3 = p2) (ht : im_take w st = some q) (hq : q.2 = .ref Rf :: rest) (hI : tI h) (hR : Rf = 16 + i) (hs : tS[i]? = some (3, z, n)) (hc : im_cat rest = true) (hC : CaP d1 j (.ref Rf :: q.1) h (mI h F R)) (hd : d1 ≤ d) (k : ∀ y h2, tI h2 → fr F h h2 → R y → EvP K d M (p2, lv, .int y :: rest, h2) Q) : EvP K d M (pc, lv, st, h) Q :=
  tc_V ha hp ht hq hI hR hs hc hC hd (fun v h2 hq => by obtain ⟨e, f, y, rfl, r⟩ := hq; exact k y h2 e f r)
theorem cV_mV {idx j w z x d1 : Nat} {q : List Value × List Value} {rest : List Value} (ha : im_at M pc = some (.invokevirtual idx, [j, 0, w, z, x])) (hp : pc + 3 = p2) (ht : im_take w st = some q) (hq : q.2 = .ref Rf :: rest) (hI : tI h) (hR : Rf = 16 + i) (hs : tS[i]? = some (3, z, n)) (hc : im_cat rest = true) (hC : CaP d1 j (.ref Rf :: q.1) h (mV h F)) (hd : d1 ≤ d) (k : ∀ h2, tI h2 → fr F h h2 → EvP K d M (p2, lv, rest, h2) Q) : EvP K d M (pc, lv, st, h) Q :=
  tc_V ha hp ht hq hI hR hs hc hC hd (fun v h2 hq => by obtain ⟨e, f, rfl⟩ := hq; exact k h2 e f)
end CC
