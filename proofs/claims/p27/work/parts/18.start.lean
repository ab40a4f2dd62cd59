/-! THE START: what stands at the law's entry -/
def im_tb : List (List Int32) := [[20, 35, 20, 70, 10, 5], [1, 4, 1, 4, 7, 4], [0, 0, 5, 0, 5, 0], [3, 3, 2, 7, 2, 6], [-1, 0, 0, 1, 2, 1]]
def im_K0 : im_K := (im_tb, im_fty, im_lc, im_txt)
def im_K1 (xs : List Int32) : im_K := (im_tb ++ [xs], im_fty, im_lc, im_txt)
def im_fl : List Cond := flatC (Jvm.Cond.and given_1 narrow_1)
theorem se_arr : ∀ k, k < 5 → Cond.arrayOf (.static "RubbleCity" (im_sn.getD k "") "[I") .int ∈ im_fl := by decide +kernel
theorem se_len : ∀ k, k < 5 → Cond.eq (.length (.static "RubbleCity" (im_sn.getD k "") "[I")) (.int 6) ∈ im_fl := by decide +kernel
theorem se_el : ∀ k, k < 5 → ∀ j, j < 6 → Cond.eq (.elem (.static "RubbleCity" (im_sn.getD k "") "[I") (.int (Int32.ofNat j))) (.int ((im_tb.getD k []).getD j 0)) ∈ im_fl := by decide +kernel
def im_sr (i : Nat) : Term := .string "RubbleCity$Tape" ([32, 59, 76, 81].getD i 0)
theorem se_ex : ∀ i, i < 4 → Cond.exactly (im_sr i) "java/lang/String" ∈ im_fl := by decide +kernel
theorem se_co : ∀ i, i < 4 → Cond.eq (.field (im_sr i) "java/lang/String" "coder" "B") (.int 0) ∈ im_fl := by decide +kernel
theorem se_va : ∀ i, i < 4 → Cond.arrayOf (.field (im_sr i) "java/lang/String" "value" "[B") .byte ∈ im_fl := by decide +kernel
theorem se_vl : ∀ i, i < 4 → Cond.eq (.length (.field (im_sr i) "java/lang/String" "value" "[B")) (.int (Int32.ofNat ((im_txt.map List.length).getD i 0))) ∈ im_fl := by decide +kernel
theorem se_ve : ∀ i, i < 4 → ∀ j, j < (im_txt.map List.length).getD i 0 → Cond.eq (.elem (.field (im_sr i) "java/lang/String" "value" "[B") (.int (Int32.ofNat j))) (.int ((im_txt.getD i []).getD j 0)) ∈ im_fl := by decide +kernel
theorem se_ne : ∀ i, i < 4 → ∀ j, j < 4 → i ≠ j → (Cond.not (Cond.eq (im_sr i) (im_sr j)) ∈ im_fl ∨ Cond.not (Cond.eq (im_sr j) (im_sr i)) ∈ im_fl) := by decide +kernel
theorem se_cs : Cond.eq (.static "java/lang/String" "COMPACT_STRINGS" "Z") (.int 1) ∈ im_fl := by decide +kernel
theorem se_si : Cond.isRef (.static "jdk/internal/util/Preconditions" "SIOOBE_FORMATTER" "Ljava/util/function/BiFunction;") ∈ im_fl := by decide +kernel
theorem se_ls : ∀ k, k < 5 → lw_tbl[[741, 743, 745, 767, 1031].getD k 0]? = some (Cond.laysStatic "RubbleCity" (im_sn.getD k "") "[I") := by decide +kernel
theorem se_lcs : lw_tbl[629]? = some (Cond.laysStatic "java/lang/String" "COMPACT_STRINGS" "Z") := by decide +kernel
theorem se_lsi : lw_tbl[645]? = some (Cond.laysStatic "jdk/internal/util/Preconditions" "SIOOBE_FORMATTER" "Ljava/util/function/BiFunction;") := by decide +kernel
theorem se_sr : ∀ k, k < 4 → ∀ x, im_str[k]? = some x → lw_tbl[[615, 687, 696, 697].getD k 0]? = some (Cond.stringRef x.1 x.2.1 x.2.2) ∧ im_sr k = .string x.1 x.2.1 := by
  intro k hk x hx
  rcases (show k = 0 ∨ k = 1 ∨ k = 2 ∨ k = 3 by omega) with rfl | rfl | rfl | rfl <;> (cases hx; exact ⟨by decide +kernel, rfl⟩)
theorem se_ini : lw_tbl[35]? = some (Cond.initialized "RubbleCity") := by decide +kernel
theorem se_ov0 : lw_tbl[70]? = some (Cond.arrayOver (.object RX7)) := by decide +kernel
theorem se_ov1 : lw_tbl[72]? = some (Cond.arrayOver (.object RX5)) := by decide +kernel
theorem se_ov2 : lw_tbl[304]? = some (Cond.arrayOver (.object RX1)) := by decide +kernel
theorem se_ov3 : lw_tbl[429]? = some (Cond.arrayOver (.object RX8)) := by decide +kernel
theorem se_ova : lw_tbl[374]? = some (Cond.arrayOver (.array .int)) := by decide +kernel
theorem se_nw : im_nw.map some = [77, 103, 286, 307, 329, 369, 431, 468, 740, 742, 744, 766, 896].map (fun i => lw_tbl[i]?) := by decide +kernel
theorem im_prim {args : Array Value} {s : State} {ty : FieldType} (h : (Cond.arrayClass ty).before args s = true) : ∃ cA, ArrOfT s cA ty ∧ s.vm.findClass ("[" ++ ty.toString) = some cA := by
  obtain ⟨c, k, comp, h1, h2, h3⟩ := Cond.arrayClass_spec h
  exact ⟨c, fun n z => ⟨fun k h => (by cases h), k, h2, comp, h3⟩, h1⟩
theorem im_objA {s : State} {C : String} (h : va_AO C s) : ∃ cA, ArrOfT s cA (.object C) ∧ va_RA s cA (.object C) := by
  obtain ⟨comp, c, k, h1, h2, h3, h4, h5⟩ := Cond.arrayOver_spec h
  exact ⟨c, fun n z => ⟨fun k h => (by cases h), k, h3, comp, h4⟩, k, comp, h3, h4, h1, h5⟩
theorem im_arrA {s : State} (h : im_AOA s) : ∃ cA, ArrOfT s cA (.array .int) ∧ va_RA s cA (.array .int) := by
  unfold im_AOA Cond.before Cond.holds at h
  simp only [Cond.value, beq_iff_eq] at h
  obtain ⟨comp, h1, h2⟩ := Option.bind_eq_some_iff.mp h
  obtain ⟨c, h3, h4⟩ := Option.bind_eq_some_iff.mp h2
  obtain ⟨k, h5, h6⟩ := Option.map_eq_some_iff.mp h4
  split at h6
  · rename_i co ty hk
    simp only [Bool.and_eq_true, decide_eq_true_eq] at h6
    obtain ⟨h7, h8⟩ := h6
    subst h7
    exact ⟨c, fun n z => ⟨fun k h => (by cases h), k, h5, co, hk⟩, h8⟩
  · cases h6
theorem im_ws_tbl {w : Cond} (h : w ∈ im_ws) : w ∈ lw_tbl := (List.mem_filter.mp h).1
set_option maxHeartbeats 2000000 in
theorem im_start {p : Program} {s : State} {m : MethodId} {meth : Method} {c : Code} {b L : Nat} {xs : Nat → Int32} (hL : L < 2 ^ 31) (C0 : lw_At p s m meth c b L xs) : ∃ (D : va_G) (ca : Nat → ClassId) (ad : Nat → Nat), (∀ i, ad (16 + i) = s.heap.size + i) ∧ ad 5 = b ∧ im_SF D ca ad s.heap.size (im_K1 ((List.range L).map xs)) s s.heap := by
  obtain ⟨hx, hb, hr, hml, hown, hts, hX, hbl, hlocks, hgv⟩ := C0
  have hs : ∀ c ∈ im_fl, c.before #[Value.ref b] s = true := flat_of_before _ hgv
  have hm : ∀ {i : Nat} {w : Cond}, lw_tbl[i]? = some w → w.before #[Value.ref b] s = true := fun h => hts _ (List.mem_of_getElem? h)
  have hA : ∀ a : Nat, a < s.heap.size → ¬ im_up s.heap.size a := fun a h q => absurd (show s.heap.size ≤ a from q) (by omega)
  -- the classes
  have hcl : ∀ ci : Nat, ∃ q : ClassId × (Nat → Nat), ∀ r, vwCl[ci]? = some r → u_Kn s r.1 r.2.1 r.2.2 q.1 q.2 := by
    intro ci
    cases hr9 : vwCl[ci]? with
    | none => exact ⟨(0, fun _ => 0), fun r h => by cases h⟩
    | some r =>
      obtain ⟨cC, iS, h9⟩ := u_known (C := r.1) (T := r.2.1) (N := r.2.2) (n := r.2.2) hts (fun w h => im_ws_tbl ((im_cls_all hr9).2.2.1 w h)) (hts _ (im_ws_tbl (im_inst hr9).1))
      exact ⟨(cC, iS), fun r2 h => by cases h; exact h9⟩
  obtain ⟨fc, hfc⟩ := Classical.axiomOfChoice hcl
  -- the arrays' classes
  obtain ⟨c0, p0, q0⟩ := im_prim (hts _ (im_ws_tbl im_w_int))
  obtain ⟨c1, p1, q1⟩ := im_prim (hts _ (im_ws_tbl im_w_bool))
  obtain ⟨c2, p2, q2⟩ := im_prim (hts _ (im_ws_tbl im_w_long))
  have a3 : va_AO RX7 s := va_AO.of (hm se_ov0)
  have a4 : va_AO RX5 s := va_AO.of (hm se_ov1)
  have a5 : va_AO RX1 s := va_AO.of (hm se_ov2)
  have a6 : va_AO RX8 s := va_AO.of (hm se_ov3)
  have a7 : im_AOA s := hm se_ova
  obtain ⟨c3, p3⟩ := im_objA a3
  obtain ⟨c4, p4⟩ := im_objA a4
  obtain ⟨c5, p5⟩ := im_objA a5
  obtain ⟨c6, p6⟩ := im_objA a6
  obtain ⟨c7, p7⟩ := im_arrA a7
  -- the statics
  have hst : ∀ k : Nat, ∃ t : Nat, k < 5 → (Term.static "RubbleCity" (im_sn.getD k "") "[I").eval #[Value.ref b] s none [] s = some (.ref t) ∧ va_T .int t 6 (fun j => .int ((im_tb.getD k []).getD j 0)) (im_up s.heap.size) s s.heap := by
    intro k
    by_cases hk : k < 5
    · obtain ⟨t, h1, h2⟩ := va_Tof (N := 6) (f := fun j => .int ((im_tb.getD k []).getD j 0)) (A := im_up s.heap.size) (by decide) (hs _ (se_arr k hk)) (va_eqt (hs _ (se_len k hk))) (fun j hj => va_eqt (hs _ (se_el k hk j hj))) hA
      exact ⟨t, fun _ => ⟨h1, h2⟩⟩
    · exact ⟨0, fun h => absurd h hk⟩
  obtain ⟨st, hst⟩ := Classical.axiomOfChoice hst
  -- the texts
  obtain ⟨adK, adV, hvS, hvE⟩ := vk_Sof (args := #[Value.ref b]) (s := s) (N := 4) (tm := im_sr) (len := im_txt.map List.length) (byt := im_txt) (A := im_up s.heap.size) (by decide +kernel) (fun i hi => hs _ (se_ex i hi)) (fun i hi => hs _ (se_co i hi)) (fun i hi => hs _ (se_va i hi)) (fun i hi => hs _ (se_vl i hi)) (fun i hi j hj => hs _ (se_ve i hi j hj)) (fun i j hi hj hne => (se_ne i hi j hj hne).imp (fun h => hs _ h) (fun h => hs _ h)) hA
  let ad : Nat → Nat := fun r => if r < 5 then st r else if r = 5 then b else if r < 10 then adK (r - 6) else if r < 14 then adV (r - 10) else s.heap.size + (r - 16)
  have ad0 : ∀ k, k < 5 → ad k = st k := fun k hk => by simp only [ad, if_pos hk]
  have ad5 : ad 5 = b := rfl
  have ad6 : ∀ k, k < 4 → ad (6 + k) = adK k := fun k hk => by
    simp only [ad]
    rw [if_neg (by omega), if_neg (by omega), if_pos (by omega)]
    congr 1; omega
  have ad10 : ∀ k, k < 4 → ad (10 + k) = adV k := fun k hk => by
    simp only [ad]
    rw [if_neg (by omega), if_neg (by omega), if_neg (by omega), if_pos (by omega)]
    congr 1; omega
  have ad16 : ∀ i, ad (16 + i) = s.heap.size + i := fun i => by
    simp only [ad]
    rw [if_neg (by omega), if_neg (by omega), if_neg (by omega), if_neg (by omega)]
    congr 1; omega
  refine ⟨(fun ci => (fc ci).1, fun ci => (fc ci).2), fun t => [c0, c1, c2, c3, c4, c5, c6, c7].getD t 0, ad, ad16, ad5, ⟨fun ci r hr => hfc ci r hr, fun k q hq => ?_⟩, fun w hw => ?_, ⟨a3, a4, a5, a6, a7⟩, fun k n hn => ?_, fun k l hl => ?_, fun k x hx => ?_, ⟨fun i hi => ?_, fun i j hi hj h => ?_⟩, va_Zof (hm se_lcs) (hts _ (im_ws_tbl sw_iniS)) (va_eqi (hs _ se_cs)) hA, va_Zqof (hm se_lsi) (hts _ (im_ws_tbl sw_iniP)) (hs _ se_si) hA⟩
  · have hk : k < 8 := (List.getElem?_eq_some_iff.mp hq).1
    rcases (show k = 0 ∨ k = 1 ∨ k = 2 ∨ k = 3 ∨ k = 4 ∨ k = 5 ∨ k = 6 ∨ k = 7 by omega) with rfl | rfl | rfl | rfl | rfl | rfl | rfl | rfl
    · cases hq; exact ⟨p0, q0⟩
    · cases hq; exact ⟨p1, q1⟩
    · cases hq; exact ⟨p2, q2⟩
    · cases hq; exact p3
    · cases hq; exact p4
    · cases hq; exact p5
    · cases hq; exact p6
    · cases hq; exact p7
  · have h1 : some w ∈ im_nw.map some := List.mem_map.mpr ⟨w, hw, rfl⟩
    rw [se_nw] at h1
    obtain ⟨i, -, hi⟩ := List.mem_map.mp h1
    have h2 := hm hi
    rcases im_nw_form w hw with ⟨a, i, x, hh, rfl⟩ | ⟨a, i, b, n, d, hh, rfl⟩
    · exact va_Nw.of rfl h2
    · exact va_Nw.of rfl h2
  · have hk : k < 5 := (List.getElem?_eq_some_iff.mp hn).1
    have hn2 : im_sn.getD k "" = n := by rw [List.getD_eq_getElem?_getD, hn]; rfl
    have h1 := (hst k hk).1
    have h2 := se_ls k hk
    rw [hn2] at h1 h2
    rw [ad0 k hk]
    exact va_Zref (hm h2) (hm se_ini) h1 hA
  · by_cases hk : k < 5
    · have hl2 : im_tb[k]? = some l := by
        have : (im_tb ++ [(List.range L).map xs])[k]? = some l := hl
        rwa [List.getElem?_append_left (by exact hk)] at this
      have hl3 : im_tb.getD k [] = l := by rw [List.getD_eq_getElem?_getD, hl2]; rfl
      have h1 := (hst k hk).2
      rw [hl3] at h1
      have hlen : l.length = 6 := by
        rw [← hl3]
        exact (show ∀ k, k < 5 → (im_tb.getD k []).length = 6 by decide) k hk
      rw [ad0 k hk, hlen]
      exact h1
    · have hk5 : k = 5 := by
        have : k < (im_tb ++ [(List.range L).map xs]).length := (List.getElem?_eq_some_iff.mp hl).1
        have h6 : (im_tb ++ [(List.range L).map xs]).length = 6 := rfl
        omega
      subst hk5
      have hl2 : (List.range L).map xs = l := Option.some.inj hl
      obtain ⟨scr, h1, h2, h3, h4, h5⟩ := hX
      rw [ad5, ← hl2, List.length_map, List.length_range]
      refine ⟨scr, h1, h2, h3, Nat.le_of_eq h4.symm, by rw [h4], fun j hj => ?_, hA b hbl⟩
      rw [h5 j hj]
      show some (Value.int (xs j)) = some (Value.int (((List.range L).map xs).getD j 0))
      rw [List.getD_eq_getElem?_getD, List.getElem?_map, List.getElem?_range hj]
      rfl
  · have hk : k < 4 := (List.getElem?_eq_some_iff.mp hx).1
    obtain ⟨h1, h2⟩ := se_sr k hk x hx
    have h3 := hvE k hk
    rw [h2] at h3
    rw [ad6 k hk]
    exact vk_R.of (hm h1) h3
  · dsimp only
    rw [ad6 i hi, ad10 i hi]
    exact hvS.1 i hi
  · dsimp only at h
    rw [ad6 i hi, ad6 j hj] at h
    exact hvS.2 i j hi hj h
