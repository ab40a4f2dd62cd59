/-! INSTRUCTIONS that touch stack and locals alone -/
def im_Cx (D : va_G) (ca : Nat → ClassId) (ad : Nat → Nat) (base : Nat) (K : im_K) (M : im_M) (p : Program) (R : Room) (s : State) (m : MethodId) (args : Array Value) (meth : Method) (c : Code) : Prop :=
  p.tables.exec = Jvm.exec ∧ c.code = M.2.1 ∧ c.maxLocals = M.2.2.1 ∧ s.vm.findClass M.1.cls = some m.cls ∧ (∀ w ∈ im_ws, w.before args s = true) ∧ im_SF D ca ad base K s s.heap ∧ (M.1.name = "<init>" → meth.name = "<init>") ∧ 1 ≤ R.frames ∧ 64 ≤ R.locals ∧ (∀ i, ad (16 + i) = base + i) ∧ K.2.1 = im_fty ∧ K.2.2.1 = im_lc ∧ K.2.2.2 = im_txt
def im_St (D : va_G) (ca : Nat → ClassId) (ad : Nat → Nat) (base nL n0 s0 : Nat) (s : State) (lv : im_L) (h : im_H) (ls : Array Slot) (H : Heap) (locs : List Loc) (cells slots : Nat) : Prop :=
  lv_has ls nL (im_ml ad lv) ∧ va_P D vwCl (im_w ca ad h) H ∧ s.heap.size = base + n0 ∧ va_S (im_up base) s.heap H locs ∧ cells + n0 = h.length ∧ slots + s0 = im_sl h
/-- a step of the interpreter is a step of the machine -/
def im_Go (D : va_G) (ca : Nat → ClassId) (ad : Nat → Nat) (base nL : Nat) (p : Program) (l : Launch) (e : Env) (R : Room) (s : State) (m : MethodId) (args : Array Value) (below : List Frame) (meth : Method) (c : Code) (Q : State → Prop) (pc : Nat) (lv : im_L) (st : List Value) (h : im_H) (c2 : im_C) : Prop :=
  (h.length ≤ c2.2.2.2.length ∧ im_sl h ≤ im_sl c2.2.2.2) ∧ ∀ (n0 s0 : Nat) (ls : Array Slot) (H : Heap) (locs : List Loc) (cells slots : Nat), c2.2.2.2.length ≤ n0 + R.cells → im_sl c2.2.2.2 ≤ s0 + R.slots → im_St D ca ad base nL n0 s0 s lv h ls H locs cells slots →
    (∀ (ls2 : Array Slot) (H2 : Heap) (locs2 : List Loc) (cells2 slots2 : Nat), im_St D ca ad base nL n0 s0 s c2.2.1 c2.2.2.2 ls2 H2 locs2 cells2 slots2 → W p l e R s m args below meth c H2 locs2 cells2 slots2 Q (F0 m c2.1 ls2 (c2.2.2.1.map (im_v ad)))) →
    W p l e R s m args below meth c H locs cells slots Q (F0 m pc ls (st.map (im_v ad)))
section IMP
variable {p : Program} {l : Launch} {e : Env} {R : Room} {s : State} {m : MethodId} {args : Array Value} {below : List Frame} {meth : Method} {c : Code} {Q : State → Prop} {D : va_G} {ca : Nat → ClassId} {ad : Nat → Nat} {base nL : Nat} {K : im_K} {M : im_M} {pc : Nat} {lv : im_L} {st : List Value} {h : im_H} {c2 : im_C}
/-- the cells and the locals stay -/
theorem im_go0 {pc2 : Nat} {st2 : List Value} (k : ∀ (ls : Array Slot) (H : Heap) (locs : List Loc) (cells slots : Nat), lv_has ls nL (im_ml ad lv) → W p l e R s m args below meth c H locs cells slots Q (F0 m pc2 ls (st2.map (im_v ad))) → W p l e R s m args below meth c H locs cells slots Q (F0 m pc ls (st.map (im_v ad)))) : im_Go D ca ad base nL p l e R s m args below meth c Q pc lv st h (pc2, lv, st2, h) :=
  ⟨⟨Nat.le_refl _, Nat.le_refl _⟩, fun _ _ ls H locs cells slots _ _ hI kk => k ls H locs cells slots hI.1 (kk ls H locs cells slots hI)⟩
/-- the cells stay -/
theorem im_go1 {pc2 : Nat} {lv2 : im_L} {st2 : List Value} (k : ∀ (ls : Array Slot) (H : Heap) (locs : List Loc) (cells slots : Nat), lv_has ls nL (im_ml ad lv) → (∀ ls2 : Array Slot, lv_has ls2 nL (im_ml ad lv2) → W p l e R s m args below meth c H locs cells slots Q (F0 m pc2 ls2 (st2.map (im_v ad)))) → W p l e R s m args below meth c H locs cells slots Q (F0 m pc ls (st.map (im_v ad)))) : im_Go D ca ad base nL p l e R s m args below meth c Q pc lv st h (pc2, lv2, st2, h) :=
  ⟨⟨Nat.le_refl _, Nat.le_refl _⟩, fun _ _ ls H locs cells slots _ _ hI kk => k ls H locs cells slots hI.1 (fun ls2 h2 => kk ls2 H locs cells slots ⟨h2, hI.2⟩)⟩
theorem im_go_bin {f : Int32 → Int32 → Option Int32} (hs : im_bin pc lv st h f = some (.inl c2)) (row : ∀ (x y z : Int32) (rest : List Value), f x y = some z → ∀ (ls : Array Slot) (H : Heap) (locs : List Loc) (cells slots : Nat), W p l e R s m args below meth c H locs cells slots Q (F0 m (pc + 1) ls (.int z :: rest)) → W p l e R s m args below meth c H locs cells slots Q (F0 m pc ls (.int y :: .int x :: rest))) : im_Go D ca ad base nL p l e R s m args below meth c Q pc lv st h c2 := by
  obtain ⟨q, h1, hs1⟩ := im_bd hs
  obtain ⟨u, h2, hs2⟩ := im_bd hs1
  obtain ⟨z, h3, hs3⟩ := im_bd hs2
  have e1 := im_1i_eq h1
  rw [im_1i_eq h2] at e1
  cases im_nx_eq hs3
  subst e1
  exact im_go0 fun ls H locs cells slots _ k => row u.1 q.1 z _ h3 ls H locs cells slots k
theorem im_go_binl {f : Int64 → Int64 → Value} (hs : im_binl pc lv st h f = some (.inl c2)) (hf : ∀ x y, im_v ad (f x y) = f x y) (row : ∀ (x y : Int64) (rest : List Value) (ls : Array Slot) (H : Heap) (locs : List Loc) (cells slots : Nat), W p l e R s m args below meth c H locs cells slots Q (F0 m (pc + 1) ls (f x y :: rest)) → W p l e R s m args below meth c H locs cells slots Q (F0 m pc ls (.long y :: .long x :: rest))) : im_Go D ca ad base nL p l e R s m args below meth c Q pc lv st h c2 := by
  obtain ⟨q, h1, hs1⟩ := im_bd hs
  obtain ⟨u, h2, hs2⟩ := im_bd hs1
  have e1 := im_1l_eq h1
  rw [im_1l_eq h2] at e1
  cases im_nx_eq hs2
  subst e1
  refine im_go0 fun ls H locs cells slots _ k => row u.1 q.1 _ ls H locs cells slots ?_
  rw [List.map_cons, hf] at k
  exact k
theorem im_go_shl {f : Int64 → Int32 → Int64} (hs : im_shl pc lv st h f = some (.inl c2)) (row : ∀ (x : Int64) (y : Int32) (rest : List Value) (ls : Array Slot) (H : Heap) (locs : List Loc) (cells slots : Nat), W p l e R s m args below meth c H locs cells slots Q (F0 m (pc + 1) ls (.long (f x y) :: rest)) → W p l e R s m args below meth c H locs cells slots Q (F0 m pc ls (.int y :: .long x :: rest))) : im_Go D ca ad base nL p l e R s m args below meth c Q pc lv st h c2 := by
  obtain ⟨q, h1, hs1⟩ := im_bd hs
  obtain ⟨u, h2, hs2⟩ := im_bd hs1
  have e1 := im_1i_eq h1
  rw [im_1l_eq h2] at e1
  cases im_nx_eq hs2
  subst e1
  exact im_go0 fun ls H locs cells slots _ k => row u.1 q.1 _ ls H locs cells slots k
theorem im_go_un {f : Int32 → Value} (hs : im_un pc lv st h f = some (.inl c2)) (hf : ∀ x, im_v ad (f x) = f x) (row : ∀ (x : Int32) (rest : List Value) (ls : Array Slot) (H : Heap) (locs : List Loc) (cells slots : Nat), W p l e R s m args below meth c H locs cells slots Q (F0 m (pc + 1) ls (f x :: rest)) → W p l e R s m args below meth c H locs cells slots Q (F0 m pc ls (.int x :: rest))) : im_Go D ca ad base nL p l e R s m args below meth c Q pc lv st h c2 := by
  obtain ⟨q, h1, hs1⟩ := im_bd hs
  have e1 := im_1i_eq h1
  cases im_nx_eq hs1
  subst e1
  refine im_go0 fun ls H locs cells slots _ k => row q.1 _ ls H locs cells slots ?_
  rw [List.map_cons, hf] at k
  exact k
theorem is_aload_n (hx : p.tables.exec = Jvm.exec) (hb : c.code = M.2.1) {k : Fin 4} {a b w z : Nat} (hdg : decode M.2.1 pc = .ok (.aload_n k, 1))  (hs : im_ins K M (.aload_n k) a b w z pc lv st h = some (.inl c2)) : im_Go D ca ad base nL p l e R s m args below meth c Q pc lv st h c2 := by
  obtain ⟨v, h1, hs1⟩ := im_bd hs
  obtain ⟨h2, hs2⟩ := im_ite _ hs1
  obtain ⟨x, rfl⟩ := im_isR_eq h2
  cases im_nx_eq hs2
  exact im_go0 fun ls H locs cells slots hl k => lv_aload_n hx hb hdg rfl (im_lk_at h1 hl) k
theorem is_aload (hx : p.tables.exec = Jvm.exec) (hb : c.code = M.2.1) {k : Nat} {a b w z : Nat} (hdg : decode M.2.1 pc = .ok (.aload k, 2))  (hs : im_ins K M (.aload k) a b w z pc lv st h = some (.inl c2)) : im_Go D ca ad base nL p l e R s m args below meth c Q pc lv st h c2 := by
  obtain ⟨v, h1, hs1⟩ := im_bd hs
  obtain ⟨h2, hs2⟩ := im_ite _ hs1
  obtain ⟨x, rfl⟩ := im_isR_eq h2
  cases im_nx_eq hs2
  exact im_go0 fun ls H locs cells slots hl k => lv_aload hx hb hdg (im_lk_at h1 hl) k
theorem is_iload_n (hx : p.tables.exec = Jvm.exec) (hb : c.code = M.2.1) {k : Fin 4} {a b w z : Nat} (hdg : decode M.2.1 pc = .ok (.iload_n k, 1))  (hs : im_ins K M (.iload_n k) a b w z pc lv st h = some (.inl c2)) : im_Go D ca ad base nL p l e R s m args below meth c Q pc lv st h c2 := by
  obtain ⟨v, h1, hs1⟩ := im_bd hs
  obtain ⟨h2, hs2⟩ := im_ite _ hs1
  obtain ⟨x, rfl⟩ := im_isI_eq h2
  cases im_nx_eq hs2
  exact im_go0 fun ls H locs cells slots hl k => lv_iload_n hx hb hdg rfl (im_lk_at h1 hl) k
theorem is_iload (hx : p.tables.exec = Jvm.exec) (hb : c.code = M.2.1) {k : Nat} {a b w z : Nat} (hdg : decode M.2.1 pc = .ok (.iload k, 2))  (hs : im_ins K M (.iload k) a b w z pc lv st h = some (.inl c2)) : im_Go D ca ad base nL p l e R s m args below meth c Q pc lv st h c2 := by
  obtain ⟨v, h1, hs1⟩ := im_bd hs
  obtain ⟨h2, hs2⟩ := im_ite _ hs1
  obtain ⟨x, rfl⟩ := im_isI_eq h2
  cases im_nx_eq hs2
  exact im_go0 fun ls H locs cells slots hl k => lv_iload hx hb hdg (im_lk_at h1 hl) k
theorem is_lload_n (hx : p.tables.exec = Jvm.exec) (hb : c.code = M.2.1) {k : Fin 4} {a b w z : Nat} (hdg : decode M.2.1 pc = .ok (.lload_n k, 1))  (hs : im_ins K M (.lload_n k) a b w z pc lv st h = some (.inl c2)) : im_Go D ca ad base nL p l e R s m args below meth c Q pc lv st h c2 := by
  obtain ⟨v, h1, hs1⟩ := im_bd hs
  obtain ⟨h2, hs2⟩ := im_ite _ hs1
  obtain ⟨x, rfl⟩ := im_isL_eq h2
  cases im_nx_eq hs2
  exact im_go0 fun ls H locs cells slots hl k => lv_lload_n hx hb hdg rfl (im_lk_at h1 hl) k
theorem is_iconst (hx : p.tables.exec = Jvm.exec) (hb : c.code = M.2.1) {n : Int} {a b w z : Nat} (hdg : decode M.2.1 pc = .ok (.iconst n, 1))  (hs : im_ins K M (.iconst n) a b w z pc lv st h = some (.inl c2)) : im_Go D ca ad base nL p l e R s m args below meth c Q pc lv st h c2 := by
  cases im_nx_eq hs
  exact im_go0 fun ls H locs cells slots hl k => lv_iconst hx hb hdg rfl k
theorem is_bipush (hx : p.tables.exec = Jvm.exec) (hb : c.code = M.2.1) {n : Int} {a b w z : Nat} (hdg : decode M.2.1 pc = .ok (.bipush n, 2))  (hs : im_ins K M (.bipush n) a b w z pc lv st h = some (.inl c2)) : im_Go D ca ad base nL p l e R s m args below meth c Q pc lv st h c2 := by
  cases im_nx_eq hs
  exact im_go0 fun ls H locs cells slots hl k => lv_bipush hx hb hdg rfl k
theorem is_sipush (hx : p.tables.exec = Jvm.exec) (hb : c.code = M.2.1) {n : Int} {a b w z : Nat} (hdg : decode M.2.1 pc = .ok (.sipush n, 3))  (hs : im_ins K M (.sipush n) a b w z pc lv st h = some (.inl c2)) : im_Go D ca ad base nL p l e R s m args below meth c Q pc lv st h c2 := by
  cases im_nx_eq hs
  exact im_go0 fun ls H locs cells slots hl k => lv_sipush hx hb hdg rfl k
theorem is_aconst_null (hx : p.tables.exec = Jvm.exec) (hb : c.code = M.2.1)  {a b w z : Nat} (hdg : decode M.2.1 pc = .ok (.aconst_null, 1))  (hs : im_ins K M (.aconst_null) a b w z pc lv st h = some (.inl c2)) : im_Go D ca ad base nL p l e R s m args below meth c Q pc lv st h c2 := by
  cases im_nx_eq hs
  exact im_go0 fun ls H locs cells slots hl k => lv_null hx hb hdg k
theorem is_istore_n (hx : p.tables.exec = Jvm.exec) (hb : c.code = M.2.1) {k : Fin 4} {a b w z : Nat} (hdg : decode M.2.1 pc = .ok (.istore_n k, 1)) (hn : nL = M.2.2.1) (hs : im_ins K M (.istore_n k) a b w z pc lv st h = some (.inl c2)) : im_Go D ca ad base nL p l e R s m args below meth c Q pc lv st h c2 := by
  obtain ⟨q, h1, hs1⟩ := im_bd hs
  obtain ⟨h2, hs2⟩ := im_ite _ hs1
  cases im_1i_eq h1
  cases im_nx_eq hs2
  exact im_go1 fun ls H locs cells slots hl kk => lv_istore_n hx hb hdg rfl hl (hn ▸ h2) (im_pt_ml ad lv _ (.int q.1)) (fun ls2 h3 => kk ls2 h3)
theorem is_istore (hx : p.tables.exec = Jvm.exec) (hb : c.code = M.2.1) {k : Nat} {a b w z : Nat} (hdg : decode M.2.1 pc = .ok (.istore k, 2)) (hn : nL = M.2.2.1) (hs : im_ins K M (.istore k) a b w z pc lv st h = some (.inl c2)) : im_Go D ca ad base nL p l e R s m args below meth c Q pc lv st h c2 := by
  obtain ⟨q, h1, hs1⟩ := im_bd hs
  obtain ⟨h2, hs2⟩ := im_ite _ hs1
  cases im_1i_eq h1
  cases im_nx_eq hs2
  exact im_go1 fun ls H locs cells slots hl kk => lv_istore hx hb hdg hl (hn ▸ h2) (im_pt_ml ad lv _ (.int q.1)) (fun ls2 h3 => kk ls2 h3)
theorem is_astore_n (hx : p.tables.exec = Jvm.exec) (hb : c.code = M.2.1) {k : Fin 4} {a b w z : Nat} (hdg : decode M.2.1 pc = .ok (.astore_n k, 1)) (hn : nL = M.2.2.1) (hs : im_ins K M (.astore_n k) a b w z pc lv st h = some (.inl c2)) : im_Go D ca ad base nL p l e R s m args below meth c Q pc lv st h c2 := by
  obtain ⟨q, h1, hs1⟩ := im_bd hs
  obtain ⟨h2, hs2⟩ := im_ite _ hs1
  cases im_1r_eq h1
  cases im_nx_eq hs2
  exact im_go1 fun ls H locs cells slots hl kk => lv_astore_n hx hb hdg rfl hl (hn ▸ h2) (im_pt_ml ad lv _ (.ref q.1)) (fun ls2 h3 => kk ls2 h3)
theorem is_astore (hx : p.tables.exec = Jvm.exec) (hb : c.code = M.2.1) {k : Nat} {a b w z : Nat} (hdg : decode M.2.1 pc = .ok (.astore k, 2)) (hn : nL = M.2.2.1) (hs : im_ins K M (.astore k) a b w z pc lv st h = some (.inl c2)) : im_Go D ca ad base nL p l e R s m args below meth c Q pc lv st h c2 := by
  obtain ⟨q, h1, hs1⟩ := im_bd hs
  obtain ⟨h2, hs2⟩ := im_ite _ hs1
  cases im_1r_eq h1
  cases im_nx_eq hs2
  exact im_go1 fun ls H locs cells slots hl kk => lv_astore hx hb hdg hl (hn ▸ h2) (im_pt_ml ad lv _ (.ref q.1)) (fun ls2 h3 => kk ls2 h3)
theorem is_iinc (hx : p.tables.exec = Jvm.exec) (hb : c.code = M.2.1) {k : Nat} {n : Int} {a b w z : Nat} (hdg : decode M.2.1 pc = .ok (.iinc k n, 3)) (hn : nL = M.2.2.1) (hs : im_ins K M (.iinc k n) a b w z pc lv st h = some (.inl c2)) : im_Go D ca ad base nL p l e R s m args below meth c Q pc lv st h c2 := by
  obtain ⟨v, h1, hs1⟩ := im_bd hs
  obtain ⟨x, h2, hs2⟩ := im_bd hs1
  obtain ⟨h3, hs3⟩ := im_ite _ hs2
  cases im_1v_eq h2
  cases im_nx_eq hs3
  refine im_go1 fun ls H locs cells slots hl kk => ?_
  obtain ⟨j, hj⟩ := List.getElem?_of_mem (List.mem_map.mpr ⟨(k, Value.int x), im_lk_mem h1, rfl⟩ : (k, im_v ad (.int x)) ∈ im_ml ad lv)
  exact lv_iinc hx hb hdg hl hj rfl (hn ▸ h3) (im_pt_ml ad lv _ (.int (x + Int32.ofInt n))) (fun ls2 h3 => kk ls2 h3)
theorem is_pop (hx : p.tables.exec = Jvm.exec) (hb : c.code = M.2.1)  {a b w z : Nat} (hdg : decode M.2.1 pc = .ok (.pop, 1))  (hs : im_ins K M (.pop) a b w z pc lv st h = some (.inl c2)) : im_Go D ca ad base nL p l e R s m args below meth c Q pc lv st h c2 := by
  obtain ⟨q, h1, hs1⟩ := im_bd hs
  obtain ⟨h2, hs2⟩ := im_ite _ hs1
  cases im_pop_eq h1
  cases im_nx_eq hs2
  exact im_go0 fun ls H locs cells slots hl k => lv_pop hx hb hdg (by rw [im_cat_v]; exact h2) k
theorem is_pop2 (hx : p.tables.exec = Jvm.exec) (hb : c.code = M.2.1)  {a b w z : Nat} (hdg : decode M.2.1 pc = .ok (.pop2, 1))  (hs : im_ins K M (.pop2) a b w z pc lv st h = some (.inl c2)) : im_Go D ca ad base nL p l e R s m args below meth c Q pc lv st h c2 := by
  obtain ⟨q, h1, hs1⟩ := im_bd hs
  obtain ⟨h2, hs2⟩ := im_ite _ hs1
  cases im_pop_eq h1
  cases im_nx_eq hs2
  exact im_go0 fun ls H locs cells slots hl k => lv_pop2_2 hx hb hdg (by rw [im_cat_v]; exact h2) k
theorem is_dup (hx : p.tables.exec = Jvm.exec) (hb : c.code = M.2.1)  {a b w z : Nat} (hdg : decode M.2.1 pc = .ok (.dup, 1))  (hs : im_ins K M (.dup) a b w z pc lv st h = some (.inl c2)) : im_Go D ca ad base nL p l e R s m args below meth c Q pc lv st h c2 := by
  obtain ⟨q, h1, hs1⟩ := im_bd hs
  obtain ⟨h2, hs2⟩ := im_ite _ hs1
  cases im_pop_eq h1
  cases im_nx_eq hs2
  exact im_go0 fun ls H locs cells slots hl k => lv_dup hx hb hdg (by rw [im_cat_v]; exact h2) k
theorem is_dup2 (hx : p.tables.exec = Jvm.exec) (hb : c.code = M.2.1)  {a b w z : Nat} (hdg : decode M.2.1 pc = .ok (.dup2, 1))  (hs : im_ins K M (.dup2) a b w z pc lv st h = some (.inl c2)) : im_Go D ca ad base nL p l e R s m args below meth c Q pc lv st h c2 := by
  obtain ⟨q, h1, hs1⟩ := im_bd hs
  obtain ⟨u, h3, hs2⟩ := im_bd hs1
  obtain ⟨h2, hs3⟩ := im_ite _ hs2
  have e1 := im_pop_eq h1
  rw [im_pop_eq h3] at e1
  cases im_nx_eq hs3
  subst e1
  exact im_go0 fun ls H locs cells slots hl k => lv_dup2_11 hx hb hdg (by rw [im_cat_v]; exact h2.1) (by rw [im_cat_v]; exact h2.2) k
theorem is_iadd (hx : p.tables.exec = Jvm.exec) (hb : c.code = M.2.1)  {a b w z : Nat} (hdg : decode M.2.1 pc = .ok (.iadd, 1))  (hs : im_ins K M (.iadd) a b w z pc lv st h = some (.inl c2)) : im_Go D ca ad base nL p l e R s m args below meth c Q pc lv st h c2 := by
  have hs : im_bin pc lv st h (fun x y => some (x + y)) = some (.inl c2) := hs
  refine im_go_bin hs fun x y z rest hz ls H locs cells slots k => ?_
  cases hz
  exact lv_iadd hx hb hdg k
theorem is_isub (hx : p.tables.exec = Jvm.exec) (hb : c.code = M.2.1)  {a b w z : Nat} (hdg : decode M.2.1 pc = .ok (.isub, 1))  (hs : im_ins K M (.isub) a b w z pc lv st h = some (.inl c2)) : im_Go D ca ad base nL p l e R s m args below meth c Q pc lv st h c2 := by
  have hs : im_bin pc lv st h (fun x y => some (x - y)) = some (.inl c2) := hs
  refine im_go_bin hs fun x y z rest hz ls H locs cells slots k => ?_
  cases hz
  exact lv_isub hx hb hdg k
theorem is_imul (hx : p.tables.exec = Jvm.exec) (hb : c.code = M.2.1)  {a b w z : Nat} (hdg : decode M.2.1 pc = .ok (.imul, 1))  (hs : im_ins K M (.imul) a b w z pc lv st h = some (.inl c2)) : im_Go D ca ad base nL p l e R s m args below meth c Q pc lv st h c2 := by
  have hs : im_bin pc lv st h (fun x y => some (x * y)) = some (.inl c2) := hs
  refine im_go_bin hs fun x y z rest hz ls H locs cells slots k => ?_
  cases hz
  exact lv_imul hx hb hdg k
theorem is_iand (hx : p.tables.exec = Jvm.exec) (hb : c.code = M.2.1)  {a b w z : Nat} (hdg : decode M.2.1 pc = .ok (.iand, 1))  (hs : im_ins K M (.iand) a b w z pc lv st h = some (.inl c2)) : im_Go D ca ad base nL p l e R s m args below meth c Q pc lv st h c2 := by
  have hs : im_bin pc lv st h (fun x y => some (x &&& y)) = some (.inl c2) := hs
  refine im_go_bin hs fun x y z rest hz ls H locs cells slots k => ?_
  cases hz
  exact lv_iand hx hb hdg k
theorem is_ior (hx : p.tables.exec = Jvm.exec) (hb : c.code = M.2.1)  {a b w z : Nat} (hdg : decode M.2.1 pc = .ok (.ior, 1))  (hs : im_ins K M (.ior) a b w z pc lv st h = some (.inl c2)) : im_Go D ca ad base nL p l e R s m args below meth c Q pc lv st h c2 := by
  have hs : im_bin pc lv st h (fun x y => some (x ||| y)) = some (.inl c2) := hs
  refine im_go_bin hs fun x y z rest hz ls H locs cells slots k => ?_
  cases hz
  exact lv_ior hx hb hdg k
theorem is_ishl (hx : p.tables.exec = Jvm.exec) (hb : c.code = M.2.1)  {a b w z : Nat} (hdg : decode M.2.1 pc = .ok (.ishl, 1))  (hs : im_ins K M (.ishl) a b w z pc lv st h = some (.inl c2)) : im_Go D ca ad base nL p l e R s m args below meth c Q pc lv st h c2 := by
  have hs : im_bin pc lv st h (fun x y => some (x <<< (y &&& 31))) = some (.inl c2) := hs
  refine im_go_bin hs fun x y z rest hz ls H locs cells slots k => ?_
  cases hz
  exact lv_ishl hx hb hdg k
theorem is_ishr (hx : p.tables.exec = Jvm.exec) (hb : c.code = M.2.1)  {a b w z : Nat} (hdg : decode M.2.1 pc = .ok (.ishr, 1))  (hs : im_ins K M (.ishr) a b w z pc lv st h = some (.inl c2)) : im_Go D ca ad base nL p l e R s m args below meth c Q pc lv st h c2 := by
  have hs : im_bin pc lv st h (fun x y => some (x >>> (y &&& 31))) = some (.inl c2) := hs
  refine im_go_bin hs fun x y z rest hz ls H locs cells slots k => ?_
  cases hz
  exact lv_ishr hx hb hdg k
theorem is_idiv (hx : p.tables.exec = Jvm.exec) (hb : c.code = M.2.1)  {a b w z : Nat} (hdg : decode M.2.1 pc = .ok (.idiv, 1))  (hs : im_ins K M (.idiv) a b w z pc lv st h = some (.inl c2)) : im_Go D ca ad base nL p l e R s m args below meth c Q pc lv st h c2 := by
  have hs : im_bin pc lv st h (fun x y => if y = 0 then none else some (x / y)) = some (.inl c2) := hs
  refine im_go_bin hs fun x y z rest hz ls H locs cells slots k => ?_
  by_cases h0 : y = 0
  · rw [if_pos h0] at hz; cases hz
  · rw [if_neg h0] at hz
    cases hz
    exact lv_idiv hx hb hdg h0 k
theorem is_irem (hx : p.tables.exec = Jvm.exec) (hb : c.code = M.2.1)  {a b w z : Nat} (hdg : decode M.2.1 pc = .ok (.irem, 1))  (hs : im_ins K M (.irem) a b w z pc lv st h = some (.inl c2)) : im_Go D ca ad base nL p l e R s m args below meth c Q pc lv st h c2 := by
  have hs : im_bin pc lv st h (fun x y => if y = 0 then none else some (x - x / y * y)) = some (.inl c2) := hs
  refine im_go_bin hs fun x y z rest hz ls H locs cells slots k => ?_
  by_cases h0 : y = 0
  · rw [if_pos h0] at hz; cases hz
  · rw [if_neg h0] at hz
    cases hz
    exact lv_irem hx hb hdg h0 k
theorem is_land (hx : p.tables.exec = Jvm.exec) (hb : c.code = M.2.1)  {a b w z : Nat} (hdg : decode M.2.1 pc = .ok (.land, 1))  (hs : im_ins K M (.land) a b w z pc lv st h = some (.inl c2)) : im_Go D ca ad base nL p l e R s m args below meth c Q pc lv st h c2 := by
  have hs : im_binl pc lv st h (fun x y => .long (x &&& y)) = some (.inl c2) := hs
  exact im_go_binl hs (fun _ _ => rfl) fun x y rest ls H locs cells slots k => lv_land hx hb hdg k
theorem is_lor (hx : p.tables.exec = Jvm.exec) (hb : c.code = M.2.1)  {a b w z : Nat} (hdg : decode M.2.1 pc = .ok (.lor, 1))  (hs : im_ins K M (.lor) a b w z pc lv st h = some (.inl c2)) : im_Go D ca ad base nL p l e R s m args below meth c Q pc lv st h c2 := by
  have hs : im_binl pc lv st h (fun x y => .long (x ||| y)) = some (.inl c2) := hs
  exact im_go_binl hs (fun _ _ => rfl) fun x y rest ls H locs cells slots k => lv_lor hx hb hdg k
theorem is_lcmp (hx : p.tables.exec = Jvm.exec) (hb : c.code = M.2.1)  {a b w z : Nat} (hdg : decode M.2.1 pc = .ok (.lcmp, 1))  (hs : im_ins K M (.lcmp) a b w z pc lv st h = some (.inl c2)) : im_Go D ca ad base nL p l e R s m args below meth c Q pc lv st h c2 := by
  have hs : im_binl pc lv st h (fun x y => .int (lg_cmp x y)) = some (.inl c2) := hs
  exact im_go_binl hs (fun _ _ => rfl) fun x y rest ls H locs cells slots k => W.lcmp hx hb hdg k
theorem is_lshl (hx : p.tables.exec = Jvm.exec) (hb : c.code = M.2.1)  {a b w z : Nat} (hdg : decode M.2.1 pc = .ok (.lshl, 1))  (hs : im_ins K M (.lshl) a b w z pc lv st h = some (.inl c2)) : im_Go D ca ad base nL p l e R s m args below meth c Q pc lv st h c2 := by
  have hs : im_shl pc lv st h (fun x y => x <<< (y.toInt64 &&& 63)) = some (.inl c2) := hs
  exact im_go_shl hs fun x y rest ls H locs cells slots k => lv_lshl hx hb hdg rfl k
theorem is_lshr (hx : p.tables.exec = Jvm.exec) (hb : c.code = M.2.1)  {a b w z : Nat} (hdg : decode M.2.1 pc = .ok (.lshr, 1))  (hs : im_ins K M (.lshr) a b w z pc lv st h = some (.inl c2)) : im_Go D ca ad base nL p l e R s m args below meth c Q pc lv st h c2 := by
  have hs : im_shl pc lv st h (fun x y => x >>> (y.toInt64 &&& 63)) = some (.inl c2) := hs
  exact im_go_shl hs fun x y rest ls H locs cells slots k => lv_lshr hx hb hdg rfl k
theorem is_i2l (hx : p.tables.exec = Jvm.exec) (hb : c.code = M.2.1)  {a b w z : Nat} (hdg : decode M.2.1 pc = .ok (.i2l, 1))  (hs : im_ins K M (.i2l) a b w z pc lv st h = some (.inl c2)) : im_Go D ca ad base nL p l e R s m args below meth c Q pc lv st h c2 := by
  have hs : im_un pc lv st h (fun x => .long x.toInt64) = some (.inl c2) := hs
  exact im_go_un hs (fun _ => rfl) fun x rest ls H locs cells slots k => lv_i2l hx hb hdg rfl k
theorem is_i2b (hx : p.tables.exec = Jvm.exec) (hb : c.code = M.2.1)  {a b w z : Nat} (hdg : decode M.2.1 pc = .ok (.i2b, 1))  (hs : im_ins K M (.i2b) a b w z pc lv st h = some (.inl c2)) : im_Go D ca ad base nL p l e R s m args below meth c Q pc lv st h c2 := by
  have hs : im_un pc lv st h (fun x => .int x.toInt8.toInt32) = some (.inl c2) := hs
  exact im_go_un hs (fun _ => rfl) fun x rest ls H locs cells slots k => lv_i2b hx hb hdg rfl k
theorem is_i2s (hx : p.tables.exec = Jvm.exec) (hb : c.code = M.2.1)  {a b w z : Nat} (hdg : decode M.2.1 pc = .ok (.i2s, 1))  (hs : im_ins K M (.i2s) a b w z pc lv st h = some (.inl c2)) : im_Go D ca ad base nL p l e R s m args below meth c Q pc lv st h c2 := by
  have hs : im_un pc lv st h (fun x => .int x.toInt16.toInt32) = some (.inl c2) := hs
  exact im_go_un hs (fun _ => rfl) fun x rest ls H locs cells slots k => lv_i2s hx hb hdg rfl k
theorem is_l2i (hx : p.tables.exec = Jvm.exec) (hb : c.code = M.2.1)  {a b w z : Nat} (hdg : decode M.2.1 pc = .ok (.l2i, 1))  (hs : im_ins K M (.l2i) a b w z pc lv st h = some (.inl c2)) : im_Go D ca ad base nL p l e R s m args below meth c Q pc lv st h c2 := by
  obtain ⟨q, h1, hs1⟩ := im_bd hs
  cases im_1l_eq h1
  cases im_nx_eq hs1
  exact im_go0 fun ls H locs cells slots hl k => lv_l2i hx hb hdg rfl k
theorem is_goto (hx : p.tables.exec = Jvm.exec) (hb : c.code = M.2.1) {off : Int} {a b w z : Nat} (hdg : decode M.2.1 pc = .ok (.goto off, 3)) (ht : (pc : Int) + off = (a : Int)) (hs : im_ins K M (.goto off) a b w z pc lv st h = some (.inl c2)) : im_Go D ca ad base nL p l e R s m args below meth c Q pc lv st h c2 := by
  cases im_nx_eq hs
  exact im_go0 fun ls H locs cells slots hl k => lv_goto hx hb hdg ht k
theorem is_if_eq (hx : p.tables.exec = Jvm.exec) (hb : c.code = M.2.1) {off : Int} {a b w z : Nat} (hdg : decode M.2.1 pc = .ok (.ifCond .eq off, 3)) (ht : (pc : Int) + off = (a : Int)) (hs : im_ins K M (.ifCond .eq off) a b w z pc lv st h = some (.inl c2)) : im_Go D ca ad base nL p l e R s m args below meth c Q pc lv st h c2 := by
  obtain ⟨q, h1, hs1⟩ := im_bd hs
  cases im_1i_eq h1
  cases im_nx_eq hs1
  refine im_go0 fun ls H locs cells slots hl k => lv_if_eq hx hb hdg ht (fun hc => ?_) (fun hc => ?_)
  · rw [show im_cnd .eq q.1 0 = true from decide_eq_true hc] at k; exact k
  · rw [show im_cnd .eq q.1 0 = false from decide_eq_false hc] at k; exact k
theorem is_icmp_eq (hx : p.tables.exec = Jvm.exec) (hb : c.code = M.2.1) {off : Int} {a b w z : Nat} (hdg : decode M.2.1 pc = .ok (.if_icmp .eq off, 3)) (ht : (pc : Int) + off = (a : Int)) (hs : im_ins K M (.if_icmp .eq off) a b w z pc lv st h = some (.inl c2)) : im_Go D ca ad base nL p l e R s m args below meth c Q pc lv st h c2 := by
  obtain ⟨q, h1, hs1⟩ := im_bd hs
  obtain ⟨u, h2, hs2⟩ := im_bd hs1
  have e1 := im_1i_eq h1
  rw [im_1i_eq h2] at e1
  cases im_nx_eq hs2
  subst e1
  refine im_go0 fun ls H locs cells slots hl k => lv_icmp_eq hx hb hdg ht (fun hc => ?_) (fun hc => ?_)
  · rw [show im_cnd .eq u.1 q.1 = true from decide_eq_true hc] at k; exact k
  · rw [show im_cnd .eq u.1 q.1 = false from decide_eq_false hc] at k; exact k
theorem is_if_ne (hx : p.tables.exec = Jvm.exec) (hb : c.code = M.2.1) {off : Int} {a b w z : Nat} (hdg : decode M.2.1 pc = .ok (.ifCond .ne off, 3)) (ht : (pc : Int) + off = (a : Int)) (hs : im_ins K M (.ifCond .ne off) a b w z pc lv st h = some (.inl c2)) : im_Go D ca ad base nL p l e R s m args below meth c Q pc lv st h c2 := by
  obtain ⟨q, h1, hs1⟩ := im_bd hs
  cases im_1i_eq h1
  cases im_nx_eq hs1
  refine im_go0 fun ls H locs cells slots hl k => lv_if_ne hx hb hdg ht (fun hc => ?_) (fun hc => ?_)
  · rw [show im_cnd .ne q.1 0 = true from decide_eq_true hc] at k; exact k
  · rw [show im_cnd .ne q.1 0 = false from decide_eq_false (fun z => z hc)] at k; exact k
theorem is_icmp_ne (hx : p.tables.exec = Jvm.exec) (hb : c.code = M.2.1) {off : Int} {a b w z : Nat} (hdg : decode M.2.1 pc = .ok (.if_icmp .ne off, 3)) (ht : (pc : Int) + off = (a : Int)) (hs : im_ins K M (.if_icmp .ne off) a b w z pc lv st h = some (.inl c2)) : im_Go D ca ad base nL p l e R s m args below meth c Q pc lv st h c2 := by
  obtain ⟨q, h1, hs1⟩ := im_bd hs
  obtain ⟨u, h2, hs2⟩ := im_bd hs1
  have e1 := im_1i_eq h1
  rw [im_1i_eq h2] at e1
  cases im_nx_eq hs2
  subst e1
  refine im_go0 fun ls H locs cells slots hl k => lv_icmp_ne hx hb hdg ht (fun hc => ?_) (fun hc => ?_)
  · rw [show im_cnd .ne u.1 q.1 = true from decide_eq_true hc] at k; exact k
  · rw [show im_cnd .ne u.1 q.1 = false from decide_eq_false (fun z => z hc)] at k; exact k
theorem is_if_lt (hx : p.tables.exec = Jvm.exec) (hb : c.code = M.2.1) {off : Int} {a b w z : Nat} (hdg : decode M.2.1 pc = .ok (.ifCond .lt off, 3)) (ht : (pc : Int) + off = (a : Int)) (hs : im_ins K M (.ifCond .lt off) a b w z pc lv st h = some (.inl c2)) : im_Go D ca ad base nL p l e R s m args below meth c Q pc lv st h c2 := by
  obtain ⟨q, h1, hs1⟩ := im_bd hs
  cases im_1i_eq h1
  cases im_nx_eq hs1
  refine im_go0 fun ls H locs cells slots hl k => lv_if_lt hx hb hdg ht (fun hc => ?_) (fun hc => ?_)
  · rw [show im_cnd .lt q.1 0 = true from decide_eq_true hc] at k; exact k
  · rw [show im_cnd .lt q.1 0 = false from decide_eq_false hc] at k; exact k
theorem is_icmp_lt (hx : p.tables.exec = Jvm.exec) (hb : c.code = M.2.1) {off : Int} {a b w z : Nat} (hdg : decode M.2.1 pc = .ok (.if_icmp .lt off, 3)) (ht : (pc : Int) + off = (a : Int)) (hs : im_ins K M (.if_icmp .lt off) a b w z pc lv st h = some (.inl c2)) : im_Go D ca ad base nL p l e R s m args below meth c Q pc lv st h c2 := by
  obtain ⟨q, h1, hs1⟩ := im_bd hs
  obtain ⟨u, h2, hs2⟩ := im_bd hs1
  have e1 := im_1i_eq h1
  rw [im_1i_eq h2] at e1
  cases im_nx_eq hs2
  subst e1
  refine im_go0 fun ls H locs cells slots hl k => lv_icmp_lt hx hb hdg ht (fun hc => ?_) (fun hc => ?_)
  · rw [show im_cnd .lt u.1 q.1 = true from decide_eq_true hc] at k; exact k
  · rw [show im_cnd .lt u.1 q.1 = false from decide_eq_false hc] at k; exact k
theorem is_if_ge (hx : p.tables.exec = Jvm.exec) (hb : c.code = M.2.1) {off : Int} {a b w z : Nat} (hdg : decode M.2.1 pc = .ok (.ifCond .ge off, 3)) (ht : (pc : Int) + off = (a : Int)) (hs : im_ins K M (.ifCond .ge off) a b w z pc lv st h = some (.inl c2)) : im_Go D ca ad base nL p l e R s m args below meth c Q pc lv st h c2 := by
  obtain ⟨q, h1, hs1⟩ := im_bd hs
  cases im_1i_eq h1
  cases im_nx_eq hs1
  refine im_go0 fun ls H locs cells slots hl k => lv_if_ge hx hb hdg ht (fun hc => ?_) (fun hc => ?_)
  · rw [show im_cnd .ge q.1 0 = true from decide_eq_true hc] at k; exact k
  · rw [show im_cnd .ge q.1 0 = false from decide_eq_false hc] at k; exact k
theorem is_icmp_ge (hx : p.tables.exec = Jvm.exec) (hb : c.code = M.2.1) {off : Int} {a b w z : Nat} (hdg : decode M.2.1 pc = .ok (.if_icmp .ge off, 3)) (ht : (pc : Int) + off = (a : Int)) (hs : im_ins K M (.if_icmp .ge off) a b w z pc lv st h = some (.inl c2)) : im_Go D ca ad base nL p l e R s m args below meth c Q pc lv st h c2 := by
  obtain ⟨q, h1, hs1⟩ := im_bd hs
  obtain ⟨u, h2, hs2⟩ := im_bd hs1
  have e1 := im_1i_eq h1
  rw [im_1i_eq h2] at e1
  cases im_nx_eq hs2
  subst e1
  refine im_go0 fun ls H locs cells slots hl k => lv_icmp_ge hx hb hdg ht (fun hc => ?_) (fun hc => ?_)
  · rw [show im_cnd .ge u.1 q.1 = true from decide_eq_true hc] at k; exact k
  · rw [show im_cnd .ge u.1 q.1 = false from decide_eq_false hc] at k; exact k
theorem is_if_gt (hx : p.tables.exec = Jvm.exec) (hb : c.code = M.2.1) {off : Int} {a b w z : Nat} (hdg : decode M.2.1 pc = .ok (.ifCond .gt off, 3)) (ht : (pc : Int) + off = (a : Int)) (hs : im_ins K M (.ifCond .gt off) a b w z pc lv st h = some (.inl c2)) : im_Go D ca ad base nL p l e R s m args below meth c Q pc lv st h c2 := by
  obtain ⟨q, h1, hs1⟩ := im_bd hs
  cases im_1i_eq h1
  cases im_nx_eq hs1
  refine im_go0 fun ls H locs cells slots hl k => lv_if_gt hx hb hdg ht (fun hc => ?_) (fun hc => ?_)
  · rw [show im_cnd .gt q.1 0 = true from decide_eq_true hc] at k; exact k
  · rw [show im_cnd .gt q.1 0 = false from decide_eq_false hc] at k; exact k
theorem is_icmp_gt (hx : p.tables.exec = Jvm.exec) (hb : c.code = M.2.1) {off : Int} {a b w z : Nat} (hdg : decode M.2.1 pc = .ok (.if_icmp .gt off, 3)) (ht : (pc : Int) + off = (a : Int)) (hs : im_ins K M (.if_icmp .gt off) a b w z pc lv st h = some (.inl c2)) : im_Go D ca ad base nL p l e R s m args below meth c Q pc lv st h c2 := by
  obtain ⟨q, h1, hs1⟩ := im_bd hs
  obtain ⟨u, h2, hs2⟩ := im_bd hs1
  have e1 := im_1i_eq h1
  rw [im_1i_eq h2] at e1
  cases im_nx_eq hs2
  subst e1
  refine im_go0 fun ls H locs cells slots hl k => lv_icmp_gt hx hb hdg ht (fun hc => ?_) (fun hc => ?_)
  · rw [show im_cnd .gt u.1 q.1 = true from decide_eq_true hc] at k; exact k
  · rw [show im_cnd .gt u.1 q.1 = false from decide_eq_false hc] at k; exact k
theorem is_if_le (hx : p.tables.exec = Jvm.exec) (hb : c.code = M.2.1) {off : Int} {a b w z : Nat} (hdg : decode M.2.1 pc = .ok (.ifCond .le off, 3)) (ht : (pc : Int) + off = (a : Int)) (hs : im_ins K M (.ifCond .le off) a b w z pc lv st h = some (.inl c2)) : im_Go D ca ad base nL p l e R s m args below meth c Q pc lv st h c2 := by
  obtain ⟨q, h1, hs1⟩ := im_bd hs
  cases im_1i_eq h1
  cases im_nx_eq hs1
  refine im_go0 fun ls H locs cells slots hl k => lv_if_le hx hb hdg ht (fun hc => ?_) (fun hc => ?_)
  · rw [show im_cnd .le q.1 0 = true from decide_eq_true hc] at k; exact k
  · rw [show im_cnd .le q.1 0 = false from decide_eq_false hc] at k; exact k
theorem is_icmp_le (hx : p.tables.exec = Jvm.exec) (hb : c.code = M.2.1) {off : Int} {a b w z : Nat} (hdg : decode M.2.1 pc = .ok (.if_icmp .le off, 3)) (ht : (pc : Int) + off = (a : Int)) (hs : im_ins K M (.if_icmp .le off) a b w z pc lv st h = some (.inl c2)) : im_Go D ca ad base nL p l e R s m args below meth c Q pc lv st h c2 := by
  obtain ⟨q, h1, hs1⟩ := im_bd hs
  obtain ⟨u, h2, hs2⟩ := im_bd hs1
  have e1 := im_1i_eq h1
  rw [im_1i_eq h2] at e1
  cases im_nx_eq hs2
  subst e1
  refine im_go0 fun ls H locs cells slots hl k => lv_icmp_le hx hb hdg ht (fun hc => ?_) (fun hc => ?_)
  · rw [show im_cnd .le u.1 q.1 = true from decide_eq_true hc] at k; exact k
  · rw [show im_cnd .le u.1 q.1 = false from decide_eq_false hc] at k; exact k
theorem is_ifnonnull (hx : p.tables.exec = Jvm.exec) (hb : c.code = M.2.1) {off : Int} {a b w z : Nat} (hdg : decode M.2.1 pc = .ok (.ifnonnull off, 3)) (ht : (pc : Int) + off = (a : Int)) (hs : im_ins K M (.ifnonnull off) a b w z pc lv st h = some (.inl c2)) : im_Go D ca ad base nL p l e R s m args below meth c Q pc lv st h c2 := by
  have hs : (match st with
    | .ref _ :: r => im_nx a lv r h
    | .null :: r => im_nx (pc + 3) lv r h
    | _ => none) = some (.inl c2) := hs
  split at hs
  · cases im_nx_eq hs
    exact im_go0 fun ls H locs cells slots hl k => lv_ifnonnull hx hb hdg ht k
  · cases im_nx_eq hs
    exact im_go0 fun ls H locs cells slots hl k => lv_ifnonnullN hx hb hdg k
  · cases hs
theorem is_tableswitch (hx : p.tables.exec = Jvm.exec) (hb : c.code = M.2.1) {dflt lo hi : Int} {offs : Array Int} {len : Nat} {a b w z : Nat} (hdg : decode M.2.1 pc = .ok (.tableswitch dflt lo hi offs, len))  (hs : im_ins K M (.tableswitch dflt lo hi offs) a b w z pc lv st h = some (.inl c2)) : im_Go D ca ad base nL p l e R s m args below meth c Q pc lv st h c2 := by
  obtain ⟨q, h1, hs1⟩ := im_bd hs
  cases im_1i_eq h1
  by_cases ho : q.1.toInt < lo ∨ hi < q.1.toInt
  · rw [if_pos ho] at hs1
    obtain ⟨h2, hs2⟩ := im_ite _ hs1
    cases im_nx_eq hs2
    exact im_go0 fun ls H locs cells slots hl k => lv_tableOut hx hb hdg ho h2 k
  · rw [if_neg ho] at hs1
    obtain ⟨off, h3, hs2⟩ := im_bd hs1
    obtain ⟨h2, hs3⟩ := im_ite _ hs2
    cases im_nx_eq hs3
    exact im_go0 fun ls H locs cells slots hl k => lv_tableIn hx hb hdg (fun z => ho (Or.inl z)) (fun z => ho (Or.inr z)) h3 h2 k
theorem is_lookupswitch (hx : p.tables.exec = Jvm.exec) (hb : c.code = M.2.1) {dflt : Int} {ps : Array (Int × Int)} {len : Nat} {a b w z : Nat} (hdg : decode M.2.1 pc = .ok (.lookupswitch dflt ps, len))  (hs : im_ins K M (.lookupswitch dflt ps) a b w z pc lv st h = some (.inl c2)) : im_Go D ca ad base nL p l e R s m args below meth c Q pc lv st h c2 := by
  obtain ⟨q, h1, hs1⟩ := im_bd hs
  cases im_1i_eq h1
  obtain ⟨h2, hs2⟩ := im_ite _ hs1
  cases im_nx_eq hs2
  exact im_go0 fun ls H locs cells slots hl k => lv_lookup hx hb hdg h2.1 rfl h2.2 k
end IMP
