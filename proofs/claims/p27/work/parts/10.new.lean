/-! NEW CELLS; arraycopy; Object's constructor -/
theorem im_w_native : Cond.native arraycopyName ∈ im_ws := im_twS (x := 1245) (by decide +kernel)
theorem im_w_static : Cond.static arraycopyName ∈ im_ws := im_twS (x := 1244) (by decide +kernel)
theorem im_w_system : Cond.initialized "java/lang/System" ∈ im_ws := im_twS (x := 276) (by decide +kernel)
theorem im_w_oi : Cond.instanceMethod objectInit ∈ im_ws := im_twS (x := 283) (by decide +kernel)
theorem im_w_oc : Cond.code objectInit ⟨#[0xb1]⟩ 1 none ∈ im_ws := im_twS (x := 284) (by decide +kernel)
theorem im_w_int : Cond.arrayClass .int ∈ im_ws := im_twS (x := 323) (by decide +kernel)
theorem im_w_bool : Cond.arrayClass .boolean ∈ im_ws := im_twS (x := 521) (by decide +kernel)
theorem im_w_long : Cond.arrayClass .long ∈ im_ws := im_twS (x := 1551) (by decide +kernel)
def im_ip : List (Nat × Nat) := [(286, 258), (668, 268), (635, 267), (544, 264), (606, 266), (324, 261), (566, 265), (298, 260), (705, 269), (407, 262), (523, 263), (278, 257), (1319, 270)]
def im_instB (ci : Nat) : Bool := match vwCl[ci]? with
  | some r => im_tw (im_ip.getD ci (0, 0)).1 (.instantiable r.1 r.2.2) && im_tw (im_ip.getD ci (0, 0)).2 (.initialized r.1)
  | none => false
theorem im_instA : (List.range 13).all im_instB = true := by decide +kernel
theorem im_inst {ci : Nat} {r : vw_C} (h : vwCl[ci]? = some r) : Cond.instantiable r.1 r.2.2 ∈ im_ws ∧ Cond.initialized r.1 ∈ im_ws := by
  have hl : ci < 13 := (List.getElem?_eq_some_iff.mp h).1
  have hB := List.all_eq_true.mp im_instA ci (List.mem_range.mpr hl)
  unfold im_instB at hB
  rw [h] at hB
  simp only [Bool.and_eq_true] at hB
  exact ⟨im_twS hB.1, im_twS hB.2⟩
/-- a new cell lies just behind the others -/
theorem im_fresh {D : va_G} {ca : Nat → ClassId} {ad : Nat → Nat} {base q : Nat} {h : im_H} {x : va_E} {H1 : Heap} (had : ∀ i, ad (16 + i) = base + i) (hP : va_P D vwCl (im_w ca ad h ++ [(q, x)]) H1) (hD : va_D (im_up base) (im_w ca ad h ++ [(q, x)])) (hz : H1.size ≤ base + h.length + 1) : q = ad (16 + h.length) := by
  have hlen : (im_w ca ad h).length = h.length := by simp [im_w]
  have hl : (im_w ca ad h ++ [(q, x)])[h.length]? = some (q, x) := by
    rw [List.getElem?_append_right (by omega), hlen]; simp
  have h1 : q < H1.size := (hP _ _ hl).lt
  have h2 : base ≤ q := hD.2 _ _ hl
  rw [had]
  by_cases hq : q < base + h.length
  · exfalso
    have hi : q - base < h.length := by omega
    obtain ⟨y, hy⟩ : ∃ y, h[q - base]? = some y := ⟨_, List.getElem?_eq_getElem hi⟩
    have hw : (im_w ca ad h ++ [(q, x)])[q - base]? = some (ad (16 + (q - base)), im_e ca ad y) := by
      rw [List.getElem?_append_left (by omega)]; exact im_w_at hy
    have := hD.1 _ _ _ _ hw hl (by show ad (16 + (q - base)) = q; rw [had]; omega)
    omega
  · omega
theorem im_rep (n j : Nat) : (List.replicate n (0 : Int32)).getD j 0 = 0 := by
  simp [List.getD_eq_getElem?_getD, List.getElem?_replicate]
  split <;> rfl
theorem im_repL (n j : Nat) : (List.replicate n (0 : Int64)).getD j 0 = 0 := by
  simp [List.getD_eq_getElem?_getD, List.getElem?_replicate]
  split <;> rfl
theorem im_repQ (ad : Nat → Nat) (n : Nat) : (fun j => ((List.replicate n (none : Option Nat)).getD j none).map ad) = fun _ => none := by
  funext j
  simp [List.getD_eq_getElem?_getD, List.getElem?_replicate]
  split <;> simp
section IMN
variable {p : Program} {l : Launch} {e : Env} {R : Room} {s : State} {m : MethodId} {args : Array Value} {below : List Frame} {meth : Method} {c : Code} {Q : State → Prop} {D : va_G} {ca : Nat → ClassId} {ad : Nat → Nat} {base nL : Nat} {K : im_K} {M : im_M} {pc : Nat} {lv : im_L} {st : List Value} {h : im_H} {c2 : im_C} {ms : List im_M}

/-- one cell more -/
theorem im_goN {pc2 : Nat} {st2 : List Value} {y : im_E} (had : ∀ i, ad (16 + i) = base + i) (k : ∀ (ls : Array Slot) (H : Heap) (locs : List Loc) (cells slots : Nat), cells + 1 ≤ R.cells → slots + im_sl1 y ≤ R.slots → va_P D vwCl (im_w ca ad h) H → va_S (im_up base) s.heap H locs → (∀ q, s.heap.size ≤ q → im_up base q) → (∀ (q : Nat) (H1 : Heap), va_P D vwCl (im_w ca ad h ++ [(q, im_e ca ad y)]) H1 → va_D (im_up base) (im_w ca ad h ++ [(q, im_e ca ad y)]) → va_S (im_up base) s.heap H1 locs → W p l e R s m args below meth c H1 locs (cells + 1) (slots + im_sl1 y) Q (F0 m pc2 ls (.ref q :: st2.map (im_v ad)))) → W p l e R s m args below meth c H locs cells slots Q (F0 m pc ls (st.map (im_v ad)))) : im_Go D ca ad base nL p l e R s m args below meth c Q pc lv st h (pc2, lv, .ref (16 + h.length) :: st2, h ++ [y]) := by
  have e1 : (h ++ [y]).length = h.length + 1 := by simp
  have e2 : im_sl (h ++ [y]) = im_sl h + im_sl1 y := by rw [im_sl_app]; simp [im_sl]
  refine ⟨⟨by show h.length ≤ (h ++ [y]).length; omega, by show im_sl h ≤ im_sl (h ++ [y]); omega⟩, fun n0 s0 ls H locs cells slots hc1 hs1 hI kk => ?_⟩
  obtain ⟨hl, hP, hz, hS, hc, hq⟩ := hI
  have hc1 : (h ++ [y]).length ≤ n0 + R.cells := hc1
  have hs1 : im_sl (h ++ [y]) ≤ s0 + R.slots := hs1
  refine k ls H locs cells slots (by omega) (by omega) hP hS (fun q hq => by show base ≤ q; omega) fun q H1 hP1 hD1 hS1 => ?_
  intro T hT X
  have hX := X.heapSize
  rw [hT] at hX
  have hqe := im_fresh had hP1 hD1 (by omega)
  subst hqe
  rw [← im_w_app] at hP1
  exact kk ls H1 locs (cells + 1) (slots + im_sl1 y) ⟨hl, hP1, hz, hS1, by show cells + 1 + n0 = (h ++ [y]).length; omega, by show slots + im_sl1 y + s0 = im_sl (h ++ [y]); omega⟩ T hT X
theorem is_new (C : im_Cx D ca ad base K M p R s m args meth c) {idx : Nat} {a b w z x : Nat} (hdg : decode M.2.1 pc = .ok (.new idx, 3)) (hok : im_ok2 ms M (.new idx) a b w z x pc = true) (hs : im_ins K M (.new idx) a b w z pc lv st h = some (.inl c2)) : im_Go D ca ad base nL p l e R s m args below meth c Q pc lv st h c2 := by
  obtain ⟨hx, hb, hml, hown, hts, hSF, hin, hR1, hR2, had, hfty, hlc, htx⟩ := C
  have hok : (match vwCl[a]? with
    | some r => im_tw x (.classLink M.1.cls idx r.1)
    | none => false) = true := hok
  obtain ⟨tys, h1, hs1⟩ := im_bd hs
  split at hok
  · rename_i r hr
    cases im_nx_eq hs1
    rw [hfty] at h1
    obtain ⟨c1, c2, c3, c4⟩ := im_cls_all hr
    have hlen : tys.length = r.2.2 := by rw [← c1]; simp [List.getD_eq_getElem?_getD, h1]
    refine im_goN had fun ls H locs cells slots hc hsl hP hS hA kk => ?_
    have hsl : slots + (tys.map defaultValue).length ≤ R.slots := hsl
    rw [List.length_map, hlen] at hsl
    have hkk : ∀ (q : Nat) (H1 : Heap), va_P D vwCl (im_w ca ad h ++ [(q, .inr (a, (tys.map defaultValue).map (im_v ad)))]) H1 → va_D (im_up base) (im_w ca ad h ++ [(q, .inr (a, (tys.map defaultValue).map (im_v ad)))]) → va_S (im_up base) s.heap H1 locs → W p l e R s m args below meth c H1 locs (cells + 1) (slots + r.2.2) Q (F0 m (pc + 3) ls (.ref q :: st.map (im_v ad))) := fun q H1 h1 h2 h3 => by
      have := kk q H1 h1 h2 h3
      rw [show im_sl1 (.inr (a, tys.map defaultValue)) = r.2.2 by simp [im_sl1, hlen]] at this
      exact this
    exact va_new (C := r.1) (T := r.2.1) (N := r.2.2) hx hb hts c3 (im_tyf a) c2 hown (hts _ (im_twS hok)) (hts _ (im_inst hr).1) (hts _ (im_inst hr).2) hSF.1 hP (im_w_D had h) hS hA hr (fun j hj => by
      have ht : tys[j]? = some (im_tyf a j) := by
        simp only [im_tyf, List.getD_eq_getElem?_getD, h1, Option.getD_some]
        rw [List.getElem?_eq_getElem (by omega)]; rfl
      show defaultValue (im_tyf a j) = ((tys.map defaultValue).map (im_v ad)).getD j .null
      rw [List.getD_eq_getElem?_getD, List.getElem?_map, List.getElem?_map, ht]
      show defaultValue (im_tyf a j) = im_v ad (defaultValue (im_tyf a j))
      cases im_tyf a j <;> rfl) hc hsl hdg hkk
  · cases hok
theorem is_newarray (C : im_Cx D ca ad base K M p R s m args meth c) {t : ArrayType} {a b w z x : Nat} (hdg : decode M.2.1 pc = .ok (.newarray t, 2)) (hok : im_ok2 ms M (.newarray t) a b w z x pc = true) (hs : im_ins K M (.newarray t) a b w z pc lv st h = some (.inl c2)) : im_Go D ca ad base nL p l e R s m args below meth c Q pc lv st h c2 := by
  obtain ⟨hx, hb, hml, hown, hts, hSF, hin, hR1, hR2, had, hfty, hlc, htx⟩ := C
  have hok : (decide (a < 3) && decide (newarray.typeOf t = im_ty a)) = true := hok
  simp only [Bool.and_eq_true, decide_eq_true_eq] at hok
  obtain ⟨q, h1, hs1⟩ := im_bd hs
  cases im_1i_eq h1
  by_cases hn : q.1 < 0 ∨ 4096 < q.1.toNatClampNeg
  · rw [if_pos hn] at hs1; cases hs1
  rw [if_neg hn] at hs1
  have hn0 : ¬ q.1 < 0 := fun z => hn (Or.inl z)
  have hn1 : q.1.toNatClampNeg ≤ 4096 := Nat.not_lt.mp fun z => hn (Or.inr z)
  obtain ⟨ha3, hty⟩ := hok
  rcases (show a = 0 ∨ a = 1 ∨ a = 2 by omega) with rfl | rfl | rfl
  · cases im_nx_eq hs1
    refine im_goN had fun ls H locs cells slots hc hsl hP hS hA kk => ?_
    have hsl : slots + (List.replicate q.1.toNatClampNeg (0 : Int32)).length ≤ R.slots := hsl
    rw [List.length_replicate] at hsl
    refine va_newa (ty := .int) (a0 := ((List.replicate q.1.toNatClampNeg (0 : Int32)).length, .inl (fun j => (List.replicate q.1.toNatClampNeg (0 : Int32)).getD j 0))) hx hb (by rw [hty]; exact hts _ im_w_int) hty hSF.1 hP (im_w_D had h) hS hA (fun cA => by rw [vp_cell_i, List.length_replicate]; exact congrArg (arrV cA _) (funext fun j => by rw [im_rep]; rfl)) hn0 rfl (by show _ * 4 ≤ _; omega) hc hsl hdg fun r cA H1 hK1 hP1 hD1 hS1 => ?_
    have hcA : ca 0 = cA := Option.some.inj ((hSF.1.2 0 _ rfl).2.symm.trans (hK1.2 8 (cA, .int) rfl).2)
    subst hcA
    have := kk r H1 hP1 hD1 hS1
    rw [show im_sl1 (.inl (0, .inl (List.replicate q.1.toNatClampNeg (0 : Int32)))) = q.1.toNatClampNeg by simp [im_sl1]] at this
    exact this
  · cases im_nx_eq hs1
    refine im_goN had fun ls H locs cells slots hc hsl hP hS hA kk => ?_
    have hsl : slots + (List.replicate q.1.toNatClampNeg (0 : Int32)).length ≤ R.slots := hsl
    rw [List.length_replicate] at hsl
    refine va_newa (ty := .boolean) (a0 := ((List.replicate q.1.toNatClampNeg (0 : Int32)).length, .inl (fun j => (List.replicate q.1.toNatClampNeg (0 : Int32)).getD j 0))) hx hb (by rw [hty]; exact hts _ im_w_bool) hty hSF.1 hP (im_w_D had h) hS hA (fun cA => by rw [vp_cell_i, List.length_replicate]; exact congrArg (arrV cA _) (funext fun j => by rw [im_rep]; rfl)) hn0 rfl (by show _ * 1 ≤ _; omega) hc hsl hdg fun r cA H1 hK1 hP1 hD1 hS1 => ?_
    have hcA : ca 1 = cA := Option.some.inj ((hSF.1.2 1 _ rfl).2.symm.trans (hK1.2 8 (cA, .boolean) rfl).2)
    subst hcA
    have := kk r H1 hP1 hD1 hS1
    rw [show im_sl1 (.inl (1, .inl (List.replicate q.1.toNatClampNeg (0 : Int32)))) = q.1.toNatClampNeg by simp [im_sl1]] at this
    exact this
  · cases im_nx_eq hs1
    refine im_goN had fun ls H locs cells slots hc hsl hP hS hA kk => ?_
    have hsl : slots + (List.replicate q.1.toNatClampNeg (0 : Int64)).length ≤ R.slots := hsl
    rw [List.length_replicate] at hsl
    refine va_newa (ty := .long) (a0 := ((List.replicate q.1.toNatClampNeg (0 : Int64)).length, .inr (.inl (fun j => (List.replicate q.1.toNatClampNeg (0 : Int64)).getD j 0)))) hx hb (by rw [hty]; exact hts _ im_w_long) hty hSF.1 hP (im_w_D had h) hS hA (fun cA => by rw [vp_cell_l, List.length_replicate]; exact congrArg (arrV cA _) (funext fun j => by rw [im_repL]; rfl)) hn0 rfl (by show _ * 8 ≤ _; omega) hc hsl hdg fun r cA H1 hK1 hP1 hD1 hS1 => ?_
    have hcA : ca 2 = cA := Option.some.inj ((hSF.1.2 2 _ rfl).2.symm.trans (hK1.2 8 (cA, .long) rfl).2)
    subst hcA
    have := kk r H1 hP1 hD1 hS1
    rw [show im_sl1 (.inl (2, .inr (.inl (List.replicate q.1.toNatClampNeg (0 : Int64))))) = q.1.toNatClampNeg by simp [im_sl1]] at this
    exact this
theorem is_anewarray (C : im_Cx D ca ad base K M p R s m args meth c) {idx : Nat} {a b w z x : Nat} (hdg : decode M.2.1 pc = .ok (.anewarray idx, 3)) (hok : im_ok2 ms M (.anewarray idx) a b w z x pc = true) (hs : im_ins K M (.anewarray idx) a b w z pc lv st h = some (.inl c2)) : im_Go D ca ad base nL p l e R s m args below meth c Q pc lv st h c2 := by
  obtain ⟨hx, hb, hml, hown, hts, hSF, hin, hR1, hR2, had, hfty, hlc, htx⟩ := C
  have hok : (decide (3 ≤ a) && decide (a < 7) && im_tw x (.classLink M.1.cls idx (im_cn a))) = true := hok
  simp only [Bool.and_eq_true, decide_eq_true_eq] at hok
  obtain ⟨⟨ha3, ha7⟩, hlk⟩ := hok
  obtain ⟨q, h1, hs1⟩ := im_bd hs
  cases im_1i_eq h1
  by_cases hn : q.1 < 0 ∨ 4096 < q.1.toNatClampNeg
  · rw [if_pos hn] at hs1; cases hs1
  rw [if_neg hn] at hs1
  have hn0 : ¬ q.1 < 0 := fun z => hn (Or.inl z)
  have hn1 : q.1.toNatClampNeg ≤ 4096 := Nat.not_lt.mp fun z => hn (Or.inr z)
  cases im_nx_eq hs1
  refine im_goN had fun ls H locs cells slots hc hsl hP hS hA kk => ?_
  have hsl : slots + (List.replicate q.1.toNatClampNeg (none : Option Nat)).length ≤ R.slots := hsl
  rw [List.length_replicate] at hsl
  have hgo : ∀ C : String, im_cn a = C → va_AO C s → (im_tys ca)[a]? = some (ca a, .object C) → W p l e R s m args below meth c H locs cells slots Q (F0 m pc ls (.int q.1 :: q.2.map (im_v ad))) := fun C hC hAO hty => by
    refine va_newq (C := C) hx hb hown (by rw [← hC]; exact hts _ (im_twS hlk)) hAO hSF.1 hP (im_w_D had h) hS hA hn0 rfl (by omega) hc hsl hdg fun r cA H1 hK1 hP1 hD1 hS1 => ?_
    obtain ⟨-, k1, m1, -, -, -, f1⟩ := hSF.1.2 a _ hty
    obtain ⟨-, k2, m2, -, -, -, f2⟩ := hK1.2 8 (cA, .object C) rfl
    have hcA : ca a = cA := Option.some.inj (f1.symm.trans f2)
    subst hcA
    have he : im_e ca ad (.inl (a, .inr (.inr (List.replicate q.1.toNatClampNeg none)))) = .inl (ca a, q.1.toNatClampNeg, .inr (.inr (.inr (.inr (fun _ => none))))) := by
      simp only [im_e, List.length_replicate, im_repQ]
    have := kk r H1 (by rw [he]; exact hP1) (by rw [he]; exact hD1) hS1
    rw [show im_sl1 (.inl (a, .inr (.inr (List.replicate q.1.toNatClampNeg (none : Option Nat))))) = q.1.toNatClampNeg by simp [im_sl1]] at this
    exact this
  obtain ⟨a1, a2, a3, a4, -⟩ := hSF.2.2.1
  rcases (show a = 3 ∨ a = 4 ∨ a = 5 ∨ a = 6 by omega) with rfl | rfl | rfl | rfl
  · exact hgo RX7 rfl a1 rfl
  · exact hgo RX5 rfl a2 rfl
  · exact hgo RX1 rfl a3 rfl
  · exact hgo RX8 rfl a4 rfl
theorem im_size {T : State} {locs : List Loc} {cells slots n0 : Nat} (had : ∀ i, ad (16 + i) = base + i) (X : Stand p l e R s m args below meth c T locs cells slots) (hP : va_P D vwCl (im_w ca ad h) T.heap) (hS : va_S (im_up base) s.heap T.heap locs) (hz : s.heap.size = base + n0) (hc : cells + n0 = h.length) : T.heap.size = base + h.length := by
  have h1 := X.heapSize
  have h2 := hS.1
  by_cases h0 : h.length = 0
  · omega
  · obtain ⟨y, hy⟩ : ∃ y, h[h.length - 1]? = some y := ⟨_, List.getElem?_eq_getElem (by omega)⟩
    have h3 : ad (16 + (h.length - 1)) < T.heap.size := (hP _ _ (im_w_at (ca := ca) (ad := ad) hy)).lt
    rw [had] at h3
    omega
theorem is_multianewarray (C : im_Cx D ca ad base K M p R s m args meth c) {idx n2 : Nat} {a b w z x : Nat} (hdg : decode M.2.1 pc = .ok (.multianewarray idx n2, 4)) (hok : im_ok2 ms M (.multianewarray idx n2) a b w z x pc = true) (hs : im_ins K M (.multianewarray idx n2) a b w z pc lv st h = some (.inl c2)) : im_Go D ca ad base nL p l e R s m args below meth c Q pc lv st h c2 := by
  obtain ⟨hx, hb, hml, hown, hts, hSF, hin, hR1, hR2, had, hfty, hlc, htx⟩ := C
  have hok : (decide (n2 = 2) && im_tw x (.classLink M.1.cls idx "[[I")) = true := hok
  simp only [Bool.and_eq_true, decide_eq_true_eq] at hok
  obtain ⟨rfl, hlk⟩ := hok
  obtain ⟨k, h1, hs1⟩ := im_bd hs
  obtain ⟨n, h2, hs2⟩ := im_bd hs1
  have e1 := im_1i_eq h1
  rw [im_1i_eq h2] at e1
  by_cases hn : k.1 < 0 ∨ 4096 < k.1.toNatClampNeg ∨ n.1 < 0 ∨ 4096 < n.1.toNatClampNeg
  · rw [if_pos hn] at hs2; cases hs2
  rw [if_neg hn] at hs2
  have hk0 : ¬ k.1 < 0 := fun z => hn (Or.inl z)
  have hk1 : k.1.toNatClampNeg ≤ 4096 := Nat.not_lt.mp fun z => hn (Or.inr (Or.inl z))
  have hn0 : ¬ n.1 < 0 := fun z => hn (Or.inr (Or.inr (Or.inl z)))
  have hn1 : n.1.toNatClampNeg ≤ 4096 := Nat.not_lt.mp fun z => hn (Or.inr (Or.inr (Or.inr z)))
  cases im_nx_eq hs2
  subst e1
  generalize hN : n.1.toNatClampNeg = N at *
  generalize hKk : k.1.toNatClampNeg = K9 at *
  have e2 : ((h ++ [(Sum.inl (7, Sum.inr (Sum.inr (im_mul (16 + h.length) N))) : im_E)]) ++ List.replicate N (Sum.inl (0, Sum.inl (List.replicate K9 (0 : Int32))) : im_E)).length = h.length + 1 + N := by simp; omega
  have e3 : im_sl ((h ++ [(Sum.inl (7, Sum.inr (Sum.inr (im_mul (16 + h.length) N))) : im_E)]) ++ List.replicate N (Sum.inl (0, Sum.inl (List.replicate K9 (0 : Int32))) : im_E)) = im_sl h + N + N * K9 := by
    rw [im_sl_app, im_sl_app]
    simp [im_sl, im_sl1, im_mul]
  refine ⟨⟨by show h.length ≤ _; rw [e2]; omega, by show im_sl h ≤ _; rw [e3]; omega⟩, fun n0 s0 ls H locs cells slots hc1 hs1 hI kk => ?_⟩
  obtain ⟨hl, hP, hz, hS, hc, hq⟩ := hI
  have hc1 : h.length + 1 + N ≤ n0 + R.cells := by rw [← e2]; exact hc1
  have hs1 : im_sl h + N + N * K9 ≤ s0 + R.slots := by rw [← e3]; exact hs1
  intro T hT X
  subst hT
  have hsz := im_size had X hP hS hz hc
  obtain ⟨vm₁, cA, comp, -, fA, fC, hO, -, X', step⟩ := X.multianewarray2F hx hown (hts _ (im_twS hlk)) (show (Cond.arrayOver (.array .int)).before args s = true from hSF.2.2.1.2.2.2.2) (hts _ im_w_int) (g := F0 m pc ls ((Value.int k.1 :: Value.int n.1 :: n.2).map (im_v ad))) rfl (by rw [hb]; exact hdg) rfl hn0 hk0 (by rw [hN]; omega) (by rw [hKk]; show _ * 4 ≤ _; omega) (by rw [hKk]; omega) rfl rfl (by rw [hN]; omega) (by rw [hN, hKk]; omega)
  rw [hN, hKk] at X' step
  have hcA : ca 7 = cA := Option.some.inj ((hSF.1.2 7 _ rfl).2.symm.trans fA)
  have hcC : ca 0 = comp := Option.some.inj ((hSF.1.2 0 _ rfl).2.symm.trans fC)
  subst hcA
  subst hcC
  have f0 := Jvm.Free.Multi.fill_facts (T.setVm vm₁) (ca 7) (ca 0) N K9 (defaultValue .int) N
  have f3 := Jvm.Free.Multi.fill_inner (T.setVm vm₁) (ca 7) (ca 0) N K9 (defaultValue .int) N
  have f4 : ∀ q, q < T.heap.size → (Jvm.Free.Multi.fill (T.setVm vm₁) (ca 7) (ca 0) N K9 (defaultValue .int) N).heap[q]? = T.heap[q]? := fun q hq => Jvm.Free.Multi.fill_old (T.setVm vm₁) (ca 7) (ca 0) N K9 (defaultValue .int) (a := q) hq N
  generalize hF : Jvm.Free.Multi.fill (T.setVm vm₁) (ca 7) (ca 0) N K9 (defaultValue .int) N = F at X' step f0 f3 f4
  have hh : (T.setVm vm₁).heap = T.heap := rfl
  rw [hh] at f0 f3
  have hP1 : va_P D vwCl (im_w ca ad ((h ++ [(Sum.inl (7, Sum.inr (Sum.inr (im_mul (16 + h.length) N))) : im_E)]) ++ List.replicate N (Sum.inl (0, Sum.inl (List.replicate K9 (0 : Int32))) : im_E))) F.heap := by
    intro i y hy
    rw [im_w_get] at hy
    obtain ⟨y0, hy0, rfl⟩ := Option.map_eq_some_iff.mp hy
    by_cases hi : i < h.length
    · rw [List.getElem?_append_left (by simp; omega), List.getElem?_append_left hi] at hy0
      have := hP i _ (im_w_at hy0)
      exact this.kept (f4 _ this.lt)
    · by_cases hi2 : i = h.length
      · rw [List.getElem?_append_left (by simp; omega), List.getElem?_append_right (by omega), hi2] at hy0
        simp only [Nat.sub_self, List.getElem?_cons_zero, Option.some.injEq] at hy0
        subst hy0
        show F.heap[ad (16 + i)]? = some (vp_cell _ _)
        rw [had, hi2, ← hsz, f0.2.1, vr_outer, vp_cell_q]
        simp only [im_mul, List.length_map, List.length_range]
        refine congrArg (fun z => some (arrV _ _ z)) (funext fun j => congrArg va_rf ?_)
        simp only [List.getD_eq_getElem?_getD, List.getElem?_map]
        by_cases hj : j < N
        · rw [List.getElem?_range hj, if_pos hj]
          show some (T.heap.size + 1 + j) = some (ad (16 + h.length + 1 + j))
          rw [show 16 + h.length + 1 + j = 16 + (h.length + 1 + j) by omega, had, hsz]
          congr 1; omega
        · rw [List.getElem?_eq_none (by simp; omega), if_neg hj]; rfl
      · rw [List.getElem?_append_right (by simp; omega)] at hy0
        have hlt : i - (h ++ [(Sum.inl (7, Sum.inr (Sum.inr (im_mul (16 + h.length) N))) : im_E)]).length < N := by
          have := (List.getElem?_eq_some_iff.mp hy0).1
          simpa using this
        rw [List.getElem?_replicate] at hy0
        simp only [hlt, if_true, Option.some.injEq] at hy0
        subst hy0
        simp only [List.length_append, List.length_cons, List.length_nil] at hlt
        show F.heap[ad (16 + i)]? = some (vp_cell _ _)
        rw [had, show base + i = T.heap.size + 1 + (i - (h.length + 1)) by omega, f3 _ (by omega), vp_cell_i, List.length_replicate]
        show some ({ cls := ca 0, slots := Array.replicate K9 (.int 0), vm := .none } : Cell) = _
        rw [arrV_new]
        exact congrArg (fun z => some (arrV _ _ z)) (funext fun j => by rw [im_rep])
  obtain ⟨t, a1, b1⟩ := kk ls F.heap locs (cells + 1 + N) (slots + N + N * K9) ⟨hl, hP1, hz, ⟨by rw [f0.1]; have := hS.1; omega, fun q hq1 hq2 => (f4 q (Nat.lt_of_lt_of_le hq1 hS.1)).trans (hS.2.1 q hq1 hq2), hS.2.2⟩, by show cells + 1 + N + n0 = _; rw [e2]; omega, by show slots + N + N * K9 + s0 = _; rw [e3]; omega⟩ F rfl X'
  refine ⟨t, step t ?_, b1⟩
  have e9 : T.heap.size = ad (16 + h.length) := by rw [had, hsz]
  rw [e9]
  exact a1
theorem is_objInit (C : im_Cx D ca ad base K M p R s m args meth c) {idx : Nat} {a w z x : Nat} (hdg : decode M.2.1 pc = .ok (.invokespecial idx, 3)) (hn : nL = M.2.2.1) (hok : im_ok2 ms M (.invokespecial idx) a 4 w z x pc = true) (hs : im_ins K M (.invokespecial idx) a 4 w z pc lv st h = some (.inl c2)) : im_Go D ca ad base nL p l e R s m args below meth c Q pc lv st h c2 := by
  obtain ⟨hx, hb, hml, hown, hts, hSF, hin, hR1, hR2, had, hfty, hlc, htx⟩ := C
  have hok : im_tw x (.methodLink M.1.cls idx objectInit) = true := hok
  obtain ⟨r, h1, hs1⟩ := im_bd hs
  obtain ⟨h2, hs2⟩ := im_ite _ hs1
  cases im_1r_eq h1
  cases im_nx_eq hs2
  refine im_go0 fun ls H locs cells slots hl k => ?_
  refine W.objInit (a := ad r.1) (rest := r.2.map (im_v ad)) hx hb hown (hts _ (im_twS hok)) (hts _ im_w_oi) (hts _ im_w_oc) rfl (by rw [hml, ← hn]; exact hl.1) rfl hdg hR1 (Nat.le_trans (Nat.add_le_add_right (lv_room (m := m) (pc := pc) (ls := ls) (rest := []) (im_cat_le h2)) 12) (by omega)) k
theorem im_go2l {pc2 i : Nat} {st2 : List Value} {x y : im_E} (hx : h[i]? = some x) (hy : im_sl1 y = im_sl1 x) (k : ∀ (ls : Array Slot) (H : Heap) (locs : List Loc) (cells slots : Nat), lv_has ls nL (im_ml ad lv) → va_P D vwCl (im_w ca ad h) H → va_S (im_up base) s.heap H locs → (∀ (H1 : Heap) (locs1 : List Loc), va_P D vwCl ((im_w ca ad h).set i (ad (16 + i), im_e ca ad y)) H1 → va_S (im_up base) s.heap H1 locs1 → W p l e R s m args below meth c H1 locs1 cells slots Q (F0 m pc2 ls (st2.map (im_v ad)))) → W p l e R s m args below meth c H locs cells slots Q (F0 m pc ls (st.map (im_v ad)))) : im_Go D ca ad base nL p l e R s m args below meth c Q pc lv st h (pc2, lv, st2, h.set i y) := by
  have e1 : (h.set i y).length = h.length := List.length_set
  have e2 : im_sl (h.set i y) = im_sl h := im_sl_set hx hy
  refine ⟨⟨Nat.le_of_eq e1.symm, Nat.le_of_eq e2.symm⟩, fun n0 s0 ls H locs cells slots _ _ hI kk => ?_⟩
  obtain ⟨hl, hP, hz, hS, hc, hq⟩ := hI
  refine k ls H locs cells slots hl hP hS fun H1 locs1 hP1 hS1 => ?_
  rw [im_w_set] at hP1
  exact kk ls H1 locs1 cells slots ⟨hl, hP1, hz, hS1, by show cells + n0 = (h.set i y).length; rw [e1]; exact hc, by show slots + s0 = im_sl (h.set i y); rw [e2]; exact hq⟩
theorem im_cpy_f {α : Type} (d : α) (l0 l1 : List α) (sp dp n : Nat) (h0 : sp + n ≤ l0.length) (h1 : dp + n ≤ l1.length) : va_cpy (fun j => l0.getD j d) (fun j => l1.getD j d) sp dp n = fun j => (im_cpy l0 l1 sp dp n).getD j d := by
  have e : (l1.take dp).length = dp := by rw [List.length_take]; omega
  have e2 : ((l0.drop sp).take n).length = n := by rw [List.length_take, List.length_drop]; omega
  funext k
  simp only [va_cpy, im_cpy, List.getD_eq_getElem?_getD]
  by_cases hk : dp ≤ k ∧ k < dp + n
  · rw [if_pos hk, List.getElem?_append_right (by rw [e]; omega), e, List.getElem?_append_left (by rw [e2]; omega), List.getElem?_take_of_lt (by omega), List.getElem?_drop]
  · rw [if_neg hk]
    by_cases hk2 : k < dp
    · rw [List.getElem?_append_left (by rw [e]; omega), List.getElem?_take_of_lt hk2]
    · rw [List.getElem?_append_right (by rw [e]; omega), e, List.getElem?_append_right (by rw [e2]; omega), e2, List.getElem?_drop, show dp + n + (k - dp - n) = k by omega]
theorem im_cpy_len {α : Type} (l0 l1 : List α) (sp dp n : Nat) (h0 : sp + n ≤ l0.length) (h1 : dp + n ≤ l1.length) : (im_cpy l0 l1 sp dp n).length = l1.length := by
  simp [im_cpy]; omega
theorem is_copy (C : im_Cx D ca ad base K M p R s m args meth c) {idx : Nat} {a w z x : Nat} (hdg : decode M.2.1 pc = .ok (.invokestatic idx, 3)) (hn : nL = M.2.2.1) (hok : im_ok2 ms M (.invokestatic idx) a 3 w z x pc = true) (hs : im_ins K M (.invokestatic idx) a 3 w z pc lv st h = some (.inl c2)) : im_Go D ca ad base nL p l e R s m args below meth c Q pc lv st h c2 := by
  obtain ⟨hx, hb, hml, hown, hts, hSF, hin, hR1, hR2, had, hfty, hlc, htx⟩ := C
  have hok : (decide (z < 2) && im_tw x (.methodLink M.1.cls idx arraycopyName)) = true := hok
  simp only [Bool.and_eq_true, decide_eq_true_eq] at hok
  obtain ⟨hz2, hlk⟩ := hok
  have hs : im_copy pc lv st h z = some (.inl c2) := hs
  obtain ⟨n, h1, hs1⟩ := im_bd hs
  obtain ⟨dp, h2, hs2⟩ := im_bd hs1
  obtain ⟨d, h3, hs3⟩ := im_bd hs2
  obtain ⟨sp, h4, hs4⟩ := im_bd hs3
  obtain ⟨s0, h5, hs5⟩ := im_bd hs4
  obtain ⟨l0, h6, hs6⟩ := im_bd hs5
  obtain ⟨l1, h7, hs7⟩ := im_bd hs6
  obtain ⟨h8, hs8⟩ := im_ite _ hs7
  have e1 := im_1i_eq h1
  rw [im_1i_eq h2, im_1r_eq h3, im_1i_eq h4, im_1r_eq h5] at e1
  cases im_nx_eq hs8
  subst e1
  simp only [Bool.and_eq_true, Bool.not_eq_true', decide_eq_false_iff_not, decide_eq_true_eq, Bool.or_eq_true, beq_iff_eq] at h8
  obtain ⟨⟨⟨⟨⟨⟨g1, g2⟩, g3⟩, g4⟩, g5⟩, g6⟩, g7⟩ := h8
  obtain ⟨i, hi, hc⟩ := im_ia_eq h6
  obtain ⟨j, hj, hd⟩ := im_ia_eq h7
  rw [show d.1 - 16 = j by omega]
  have hlen := im_cpy_len l0 l1 _ _ _ g4 g5
  refine im_go2l hd (by simp [im_sl1, hlen]) fun ls H locs cells slots hl hP hS kk => ?_
  rw [List.map_cons, List.map_cons, im_ref hj, List.map_cons, im_ref hi]
  have hw0 := im_w_at (ca := ca) (ad := ad) hc
  have hw1 := im_w_at (ca := ca) (ad := ad) hd
  have hkk : ∀ (H1 : Heap) (locs1 : List Loc), va_P D vwCl ((im_w ca ad h).set j (ad (16 + j), .inl (ca z, l1.length, .inl (va_cpy (fun j => l0.getD j 0) (fun j => l1.getD j 0) sp.1.toNatClampNeg dp.1.toNatClampNeg n.1.toNatClampNeg)))) H1 → va_D (im_up base) ((im_w ca ad h).set j (ad (16 + j), .inl (ca z, l1.length, .inl (va_cpy (fun j => l0.getD j 0) (fun j => l1.getD j 0) sp.1.toNatClampNeg dp.1.toNatClampNeg n.1.toNatClampNeg)))) → va_S (im_up base) s.heap H1 locs1 → W p l e R s m args below meth c H1 locs1 cells slots Q (F0 m (pc + 3) ls (s0.2.map (im_v ad))) := fun H1 locs1 hP1 _ hS1 => by
    refine kk H1 locs1 ?_ hS1
    rw [im_cpy_f 0 l0 l1 _ _ _ g4 g5] at hP1
    simp only [im_e, hlen]
    exact hP1
  have hRl : ((s0.2.map (im_v ad)).map fun v => v.category).sum + (nativeFrameWords "java/lang/System" "arraycopy" 5 + 11) ≤ R.locals := by
    have h9 := im_cat_le (ad := ad) g7
    have h10 : nativeFrameWords "java/lang/System" "arraycopy" 5 = 7 := by decide +kernel
    omega
  have hmls : c.maxLocals = ls.size := by rw [hml, ← hn, hl.1]
  rcases (show z = 0 ∨ z = 1 by omega) with rfl | rfl
  · exact va_copyi hx hb hmls hown (hts _ (im_twS hlk)) (hts _ im_w_native) (hts _ im_w_static) (hts _ im_w_system) hSF.1 hP (im_w_D had h) hS i j 0 0 hw0 hw1 rfl rfl rfl g3 g2 g1 g4 g5 (fun _ _ => rfl) hR1 hRl hdg hkk
  · refine va_copyi hx hb hmls hown (hts _ (im_twS hlk)) (hts _ im_w_native) (hts _ im_w_static) (hts _ im_w_system) hSF.1 hP (im_w_D had h) hS i j 1 1 hw0 hw1 rfl rfl rfl g3 g2 g1 g4 g5 (fun k9 hk9 => ?_) hR1 hRl hdg hkk
    have hb9 : im_bits l0 = true := g6.resolve_left (by decide)
    have hlt : sp.1.toNatClampNeg + k9 < l0.length := by omega
    have := List.all_eq_true.mp hb9 _ (List.getElem_mem hlt)
    simp only [Bool.or_eq_true, decide_eq_true_eq] at this
    rw [List.getD_eq_getElem?_getD, List.getElem?_eq_getElem hlt]
    show fits .boolean (.int l0[sp.1.toNatClampNeg + k9]) = true
    rcases this with e9 | e9 <;> (rw [e9]; rfl)
end IMN
