/-! THE JDK's length() and charAt() over the texts -/
theorem sw_coder_code : Cond.code yJ0_coder_7d493 cJ0_coder_7d493 1 (some .byte) ∈ im_ws := im_twS (x := 881) (by decide +kernel)
theorem sw_coder_inst : Cond.instanceMethod yJ0_coder_7d493 ∈ im_ws := im_twS (x := 879) (by decide +kernel)
theorem sw_coder_sel : Cond.selects "java/lang/String" yJ0_coder_7d493 yJ0_coder_7d493 ∈ im_ws := im_twS (x := 880) (by decide +kernel)
theorem sw_isLatin1_code : Cond.code yJ0_isLatin1_aae02 cJ0_isLatin1_aae02 1 (some .boolean) ∈ im_ws := im_twS (x := 891) (by decide +kernel)
theorem sw_isLatin1_inst : Cond.instanceMethod yJ0_isLatin1_aae02 ∈ im_ws := im_twS (x := 889) (by decide +kernel)
theorem sw_isLatin1_sel : Cond.selects "java/lang/String" yJ0_isLatin1_aae02 yJ0_isLatin1_aae02 ∈ im_ws := im_twS (x := 890) (by decide +kernel)
theorem sw_length_code : Cond.code yJ0_length_8abf5 cJ0_length_8abf5 1 (some .int) ∈ im_ws := im_twS (x := 877) (by decide +kernel)
theorem sw_length_inst : Cond.instanceMethod yJ0_length_8abf5 ∈ im_ws := im_twS (x := 875) (by decide +kernel)
theorem sw_length_sel : Cond.selects "java/lang/String" yJ0_length_8abf5 yJ0_length_8abf5 ∈ im_ws := im_twS (x := 876) (by decide +kernel)
theorem sw_charAt_code : Cond.code yJ0_charAt_5068e cJ0_charAt_5068e 2 (some .char) ∈ im_ws := im_twS (x := 887) (by decide +kernel)
theorem sw_charAt_inst : Cond.instanceMethod yJ0_charAt_5068e ∈ im_ws := im_twS (x := 885) (by decide +kernel)
theorem sw_charAt_sel : Cond.selects "java/lang/String" yJ0_charAt_5068e yJ0_charAt_5068e ∈ im_ws := im_twS (x := 886) (by decide +kernel)
theorem sw_chk_code : Cond.code yJ0_checkIndex_df160 cJ0_checkIndex_df160 2 none ∈ im_ws := im_twS (x := 897) (by decide +kernel)
theorem sw_chk_stat : Cond.static yJ0_checkIndex_df160 ∈ im_ws := im_twS (x := 896) (by decide +kernel)
theorem sw_lchar_code : Cond.code yJ1_charAt_3b067 cJ1_charAt_3b067 2 (some .char) ∈ im_ws := im_twS (x := 894) (by decide +kernel)
theorem sw_lchar_stat : Cond.static yJ1_charAt_3b067 ∈ im_ws := im_twS (x := 893) (by decide +kernel)
theorem sw_pre_code : Cond.code yJ3_checkIndex_8e157 cJ3_checkIndex_8e157 3 (some .int) ∈ im_ws := im_twS (x := 902) (by decide +kernel)
theorem sw_pre_stat : Cond.static yJ3_checkIndex_8e157 ∈ im_ws := im_twS (x := 901) (by decide +kernel)
theorem sw_iniS : Cond.initialized "java/lang/String" ∈ im_ws := im_twS (x := 271) (by decide +kernel)
theorem sw_iniL : Cond.initialized "java/lang/StringLatin1" ∈ im_ws := im_twS (x := 272) (by decide +kernel)
theorem sw_iniP : Cond.initialized "jdk/internal/util/Preconditions" ∈ im_ws := im_twS (x := 273) (by decide +kernel)
theorem sw_fCS : Cond.fieldLink "java/lang/String" 38 "java/lang/String" "COMPACT_STRINGS" "Z" ∈ im_ws := im_twS (x := 882) (by decide +kernel)
theorem sw_fco : Cond.fieldLink "java/lang/String" 15 "java/lang/String" "coder" "B" ∈ im_ws := im_twS (x := 1889) (by decide +kernel)
theorem sw_fva : Cond.fieldLink "java/lang/String" 9 "java/lang/String" "value" "[B" ∈ im_ws := im_twS (x := 1888) (by decide +kernel)
theorem sw_fSI : Cond.fieldLink "java/lang/String" 1053 "jdk/internal/util/Preconditions" "SIOOBE_FORMATTER" "Ljava/util/function/BiFunction;" ∈ im_ws := im_twS (x := 898) (by decide +kernel)
theorem sw_m335 : Cond.methodLink "java/lang/String" 335 yJ0_coder_7d493 ∈ im_ws := im_twS (x := 878) (by decide +kernel)
theorem sw_m492 : Cond.methodLink "java/lang/String" 492 yJ0_isLatin1_aae02 ∈ im_ws := im_twS (x := 888) (by decide +kernel)
theorem sw_m495 : Cond.methodLink "java/lang/String" 495 yJ1_charAt_3b067 ∈ im_ws := im_twS (x := 892) (by decide +kernel)
theorem sw_m9 : Cond.methodLink "java/lang/StringLatin1" 9 yJ0_checkIndex_df160 ∈ im_ws := im_twS (x := 895) (by decide +kernel)
theorem sw_m1059 : Cond.methodLink "java/lang/String" 1059 yJ3_checkIndex_8e157 ∈ im_ws := im_twS (x := 900) (by decide +kernel)
def im_rm (d mc ms : Nat) : Room := { frames := d + 8, cells := mc, slots := ms, locals := 64 * d + 400 }
def sr_rm (d : Nat) : Room := { frames := d, cells := 0, slots := 0, locals := 64 * d }
theorem im_good {x : Cond} (h : x ∈ im_ws) : GoodIn im_ws (x :: im_ws) := fun w hw => by
  have hm : w ∈ im_ws := (List.mem_cons.mp hw).elim (fun e => e ▸ h) id
  exact ⟨hm, good_of_word (List.mem_filter.mp hm).2⟩
def im_PS (D : va_G) (ca : Nat → ClassId) (ad : Nat → Nat) (base : Nat) (K : im_K) (as : List Value) : Array Value → State → Prop := va_Pc as (fun U => im_SF D ca ad base K U U.heap)
theorem im_PS_blind {D : va_G} {ca : Nat → ClassId} {ad : Nat → Nat} {base : Nat} {K : im_K} {as : List Value} : FrameBlind (im_PS D ca ad base K as) := by
  intro a U g mk q
  exact ⟨q.1, im_SF.warm (U := U.calling g mk a) (State.WarmedH.refl U) (fun _ _ _ => rfl) q.2⟩
theorem im_PS_at {D : va_G} {ca : Nat → ClassId} {ad : Nat → Nat} {base : Nat} {K : im_K} {as : List Value} {s U : State} {H : Heap} {locs : List Loc} (hU : U.heap = H) (hW : s.WarmedH U.vm) (hS : va_S (im_up base) s.heap H locs) (hSF : im_SF D ca ad base K s s.heap) : im_PS D ca ad base K as as.toArray U :=
  ⟨rfl, by show im_SF D ca ad base K U U.heap; rw [hU]; exact im_SF.warm hW hS.2.1 hSF⟩
def im_QN : Array Value → State → Outcome → State → Prop := fun _ st o t => o = .returned none ∧ t.heap = st.heap
theorem stx_len : ∀ k, k < 4 → Int32.ofNat ((im_txt.map List.length).getD k 0) >>> ((0 : Int32) &&& 31) = Int32.ofNat (im_txt.getD k []).length := by decide +kernel
theorem stx_len2 : ∀ k, k < 4 → (im_txt.map List.length).getD k 0 = (im_txt.getD k []).length := by decide +kernel
theorem stx_chr : ∀ k, k < 4 → ∀ j, j < 40 → (((im_txt.getD k []).getD j 0 &&& 255).toUInt32 % 65536).toInt32 = (im_txt.getD k []).getD j 0 := by decide +kernel
theorem stx_nar : ∀ k, k < 4 → ∀ j, j < 40 → narrow .char (.int ((im_txt.getD k []).getD j 0)) = .int ((im_txt.getD k []).getD j 0) := by decide +kernel
theorem stx_le : ∀ k, k < 4 → (im_txt.getD k []).length ≤ 40 := by decide +kernel
set_option maxRecDepth 20000 in
set_option maxHeartbeats 2000000 in
theorem c_coder (l : Launch) (D : va_G) (ca : Nat → ClassId) (ad : Nat → Nat) (base : Nat) (K : im_K) {k : Nat} (hk : k < 4) : Met l yJ0_coder_7d493 (Cond.code yJ0_coder_7d493 cJ0_coder_7d493 1 (some .byte) :: im_ws) (sr_rm 1) (im_PS D ca ad base K [.ref (ad (6 + k))]) (QcRead 0) 0 0 (fun _ => False) := by
  refine Met.ofW (cc := cJ0_coder_7d493) (maxL := 1) (ret := (some .byte)) (by decide) rfl ?_
  intro p e s m args below meth c s₁ B hml hv
  obtain ⟨rfl, hSF⟩ := hv
  have hx := B.exec
  have hb := B.bytes
  have hr := B.returns
  have hts0 := atoms_spec (ws := Cond.code yJ0_coder_7d493 cJ0_coder_7d493 1 (some .byte) :: im_ws) B.pre
  have hts : ∀ w ∈ im_ws, w.before ([.ref (ad (6 + k))] : List Value).toArray s = true := fun w h => hts0 w (List.mem_cons_of_mem _ h)
  have hown : s.vm.findClass "java/lang/String" = some m.cls := findClass_of_methodNamed B.named
  have hlocks := B.notSynchronized
  have hS : va_S (im_up base) s.heap s.heap [] := va_S.rf
  have hK4 := hSF.2.2.2.2.2.2.1
  have hl := lv_entry ([.ref (ad (6 + k))] : List Value) (n := 1) (Nat.le_of_ble_eq_true rfl)
  rw [lg_entry_eq]
  generalize (lg_sl ([.ref (ad (6 + k))] : List Value) ++ List.replicate (1 - (lg_sl ([.ref (ad (6 + k))] : List Value)).length) Slot.unset).toArray = ls at hl ⊢
  have hl : lv_has ls 1 [(0, .ref (ad (6 + k)))] := hl
  refine va_gets hx hb hSF.2.2.2.2.2.2.2.1 hS hown (hts _ sw_fCS) (fun _ h9 => h9) (show decode cJ0_coder_7d493 0 = .ok (.getstatic 38, 3) by decide +kernel) ?_
  refine lv_if_eq (tgt := 13) hx hb (show decode cJ0_coder_7d493 3 = .ok (.ifCond .eq 10, 3) by decide +kernel) (by decide) (fun h0 => absurd h0 (by decide)) (fun _ => ?_)
  refine lv_aload_n hx hb (show decode cJ0_coder_7d493 6 = .ok (.aload_n 0, 1) by decide +kernel) rfl (lv_at hl 0 rfl) ?_
  refine vk_getf hx hb (hK4.1 k hk).2.1 hS hown (hts _ sw_fco) (fun _ h9 => h9) (show decode cJ0_coder_7d493 7 = .ok (.getfield 15, 3) by decide +kernel) ?_
  refine lv_goto (tgt := 14) hx hb (show decode cJ0_coder_7d493 10 = .ok (.goto 4, 3) by decide +kernel) (by decide) ?_
  exact W.zret (ty := .byte) hx hb hr rfl (fun t ht hW => ⟨rfl, ht⟩) t_nil (show decode cJ0_coder_7d493 14 = .ok (.ireturn, 1) by decide +kernel)
set_option maxRecDepth 20000 in
set_option maxHeartbeats 2000000 in
theorem c_isLatin1 (l : Launch) (D : va_G) (ca : Nat → ClassId) (ad : Nat → Nat) (base : Nat) (K : im_K) {k : Nat} (hk : k < 4) : Met l yJ0_isLatin1_aae02 (Cond.code yJ0_isLatin1_aae02 cJ0_isLatin1_aae02 1 (some .boolean) :: im_ws) (sr_rm 1) (im_PS D ca ad base K [.ref (ad (6 + k))]) (QcRead 1) 0 0 (fun _ => False) := by
  refine Met.ofW (cc := cJ0_isLatin1_aae02) (maxL := 1) (ret := (some .boolean)) (by decide) rfl ?_
  intro p e s m args below meth c s₁ B hml hv
  obtain ⟨rfl, hSF⟩ := hv
  have hx := B.exec
  have hb := B.bytes
  have hr := B.returns
  have hts0 := atoms_spec (ws := Cond.code yJ0_isLatin1_aae02 cJ0_isLatin1_aae02 1 (some .boolean) :: im_ws) B.pre
  have hts : ∀ w ∈ im_ws, w.before ([.ref (ad (6 + k))] : List Value).toArray s = true := fun w h => hts0 w (List.mem_cons_of_mem _ h)
  have hown : s.vm.findClass "java/lang/String" = some m.cls := findClass_of_methodNamed B.named
  have hlocks := B.notSynchronized
  have hS : va_S (im_up base) s.heap s.heap [] := va_S.rf
  have hK4 := hSF.2.2.2.2.2.2.1
  have hl := lv_entry ([.ref (ad (6 + k))] : List Value) (n := 1) (Nat.le_of_ble_eq_true rfl)
  rw [lg_entry_eq]
  generalize (lg_sl ([.ref (ad (6 + k))] : List Value) ++ List.replicate (1 - (lg_sl ([.ref (ad (6 + k))] : List Value)).length) Slot.unset).toArray = ls at hl ⊢
  have hl : lv_has ls 1 [(0, .ref (ad (6 + k)))] := hl
  refine va_gets hx hb hSF.2.2.2.2.2.2.2.1 hS hown (hts _ sw_fCS) (fun _ h9 => h9) (show decode cJ0_isLatin1_aae02 0 = .ok (.getstatic 38, 3) by decide +kernel) ?_
  refine lv_if_eq (tgt := 17) hx hb (show decode cJ0_isLatin1_aae02 3 = .ok (.ifCond .eq 14, 3) by decide +kernel) (by decide) (fun h0 => absurd h0 (by decide)) (fun _ => ?_)
  refine lv_aload_n hx hb (show decode cJ0_isLatin1_aae02 6 = .ok (.aload_n 0, 1) by decide +kernel) rfl (lv_at hl 0 rfl) ?_
  refine vk_getf hx hb (hK4.1 k hk).2.1 hS hown (hts _ sw_fco) (fun _ h9 => h9) (show decode cJ0_isLatin1_aae02 7 = .ok (.getfield 15, 3) by decide +kernel) ?_
  refine lv_if_ne (tgt := 17) hx hb (show decode cJ0_isLatin1_aae02 10 = .ok (.ifCond .ne 7, 3) by decide +kernel) (by decide) (fun h0 => absurd rfl h0) (fun _ => ?_)
  refine lv_iconst (v := 1) hx hb (show decode cJ0_isLatin1_aae02 13 = .ok (.iconst 1, 1) by decide +kernel) (by decide) ?_
  refine lv_goto (tgt := 18) hx hb (show decode cJ0_isLatin1_aae02 14 = .ok (.goto 4, 3) by decide +kernel) (by decide) ?_
  exact W.zret (ty := .boolean) hx hb hr rfl (fun t ht hW => ⟨rfl, ht⟩) t_nil (show decode cJ0_isLatin1_aae02 18 = .ok (.ireturn, 1) by decide +kernel)
set_option maxRecDepth 20000 in
set_option maxHeartbeats 2000000 in
theorem c_length (l : Launch) (D : va_G) (ca : Nat → ClassId) (ad : Nat → Nat) (base : Nat) (K : im_K) {k : Nat} (hk : k < 4) : Met l yJ0_length_8abf5 (Cond.code yJ0_length_8abf5 cJ0_length_8abf5 1 (some .int) :: im_ws) (sr_rm 2) (im_PS D ca ad base K [.ref (ad (6 + k))]) (QcRead (Int32.ofNat (im_txt.getD k []).length)) 0 0 (fun _ => False) := by
  refine Met.ofW (cc := cJ0_length_8abf5) (maxL := 1) (ret := (some .int)) (by decide) rfl ?_
  intro p e s m args below meth c s₁ B hml hv
  obtain ⟨rfl, hSF⟩ := hv
  have hx := B.exec
  have hb := B.bytes
  have hr := B.returns
  have hts0 := atoms_spec (ws := Cond.code yJ0_length_8abf5 cJ0_length_8abf5 1 (some .int) :: im_ws) B.pre
  have hts : ∀ w ∈ im_ws, w.before ([.ref (ad (6 + k))] : List Value).toArray s = true := fun w h => hts0 w (List.mem_cons_of_mem _ h)
  have hown : s.vm.findClass "java/lang/String" = some m.cls := findClass_of_methodNamed B.named
  have hlocks := B.notSynchronized
  have hS : va_S (im_up base) s.heap s.heap [] := va_S.rf
  have hK4 := hSF.2.2.2.2.2.2.1
  have hl := lv_entry ([.ref (ad (6 + k))] : List Value) (n := 1) (Nat.le_of_ble_eq_true rfl)
  rw [lg_entry_eq]
  generalize (lg_sl ([.ref (ad (6 + k))] : List Value) ++ List.replicate (1 - (lg_sl ([.ref (ad (6 + k))] : List Value)).length) Slot.unset).toArray = ls at hl ⊢
  have hl : lv_has ls 1 [(0, .ref (ad (6 + k)))] := hl
  refine lv_aload_n hx hb (show decode cJ0_length_8abf5 0 = .ok (.aload_n 0, 1) by decide +kernel) rfl (lv_at hl 0 rfl) ?_
  refine vk_getf hx hb (hK4.1 k hk).2.2.1 hS hown (hts _ sw_fva) (fun _ h9 => h9) (show decode cJ0_length_8abf5 1 = .ok (.getfield 9, 3) by decide +kernel) ?_
  refine va_tlen hx hb (hK4.1 k hk).2.2.2 hS rfl (show decode cJ0_length_8abf5 4 = .ok (.arraylength, 1) by decide +kernel) ?_
  refine lv_aload_n hx hb (show decode cJ0_length_8abf5 5 = .ok (.aload_n 0, 1) by decide +kernel) rfl (lv_at hl 0 rfl) ?_
  refine W.callR (W.runV (As := []) (rest := [.int (Int32.ofNat ((im_txt.map List.length).getD k 0))]) ⟨hx, hb, hml, hown, hts⟩ (c_coder l D ca ad base K hk) (C := "java/lang/String") ⟨callB_of 0 hts (im_good sw_coder_code) rfl rfl rfl (hts _ sw_iniS) (hts _ sw_m335) (by decide +kernel) ⟨Nat.le_of_ble_eq_true rfl, Nat.le_of_ble_eq_true rfl⟩, hts _ sw_coder_inst, hts _ sw_coder_sel⟩ ⟨im_PS_blind, vk_recv hK4 hk hS, fun U hU hW => im_PS_at (as := [.ref (ad (6 + k))]) hU hW hS hSF⟩ rfl rfl hl.1 rfl (lv_room (Nat.le_of_ble_eq_true rfl)) (show decode cJ0_length_8abf5 6 = .ok (.invokevirtual 335, 3) by decide +kernel) ⟨Nat.le_of_ble_eq_true rfl, Nat.le_of_ble_eq_true rfl⟩) ?_
  refine lv_ishr hx hb (show decode cJ0_length_8abf5 9 = .ok (.ishr, 1) by decide +kernel) ?_
  rw [stx_len k hk]
  exact W.iret hx hb hr (fun t ht hW => ⟨rfl, ht⟩) t_nil (show decode cJ0_length_8abf5 10 = .ok (.ireturn, 1) by decide +kernel)
set_option maxRecDepth 20000 in
set_option maxHeartbeats 2000000 in
theorem c_pre (l : Launch) (D : va_G) (ca : Nat → ClassId) (ad : Nat → Nat) (base : Nat) (K : im_K) {i n : Int32} {f : Value} (h0 : ¬ i < 0) (h1 : i < n) (hf : f.category = 1) : Met l yJ3_checkIndex_8e157 (Cond.code yJ3_checkIndex_8e157 cJ3_checkIndex_8e157 3 (some .int) :: im_ws) (sr_rm 1) (im_PS D ca ad base K [.int i, .int n, f]) (QcRead i) 0 0 (fun _ => False) := by
  refine Met.ofW (cc := cJ3_checkIndex_8e157) (maxL := 3) (ret := (some .int)) (by decide) rfl ?_
  intro p e s m args below meth c s₁ B hml hv
  obtain ⟨rfl, hSF⟩ := hv
  have hx := B.exec
  have hb := B.bytes
  have hr := B.returns
  have hts0 := atoms_spec (ws := Cond.code yJ3_checkIndex_8e157 cJ3_checkIndex_8e157 3 (some .int) :: im_ws) B.pre
  have hts : ∀ w ∈ im_ws, w.before ([.int i, .int n, f] : List Value).toArray s = true := fun w h => hts0 w (List.mem_cons_of_mem _ h)
  have hown : s.vm.findClass "jdk/internal/util/Preconditions" = some m.cls := findClass_of_methodNamed B.named
  have hlocks := B.notSynchronized
  have hS : va_S (im_up base) s.heap s.heap [] := va_S.rf
  have hK4 := hSF.2.2.2.2.2.2.1
  have hl := lv_entry ([.int i, .int n, f] : List Value) (n := 3) (by cases f <;> first | exact Nat.le_of_ble_eq_true rfl | cases hf)
  rw [lg_entry_eq]
  generalize (lg_sl ([.int i, .int n, f] : List Value) ++ List.replicate (3 - (lg_sl ([.int i, .int n, f] : List Value)).length) Slot.unset).toArray = ls at hl ⊢
  have hl : lv_has ls 3 [(0, .int i), (1, .int n)] := lv_sub hl [0, 1] rfl
  refine lv_iload_n hx hb (show decode cJ3_checkIndex_8e157 0 = .ok (.iload_n 0, 1) by decide +kernel) rfl (lv_at hl 0 rfl) ?_
  refine lv_if_lt (tgt := 9) hx hb (show decode cJ3_checkIndex_8e157 1 = .ok (.ifCond .lt 8, 3) by decide +kernel) (by decide) (fun z => absurd z h0) (fun _ => ?_)
  refine lv_iload_n hx hb (show decode cJ3_checkIndex_8e157 4 = .ok (.iload_n 0, 1) by decide +kernel) rfl (lv_at hl 0 rfl) ?_
  refine lv_iload_n hx hb (show decode cJ3_checkIndex_8e157 5 = .ok (.iload_n 1, 1) by decide +kernel) rfl (lv_at hl 1 rfl) ?_
  refine lv_icmp_lt (tgt := 16) hx hb (show decode cJ3_checkIndex_8e157 6 = .ok (.if_icmp .lt 10, 3) by decide +kernel) (by decide) (fun _ => ?_) (fun z => absurd h1 z)
  refine lv_iload_n hx hb (show decode cJ3_checkIndex_8e157 16 = .ok (.iload_n 0, 1) by decide +kernel) rfl (lv_at hl 0 rfl) ?_
  exact W.iret hx hb hr (fun t ht hW => ⟨rfl, ht⟩) t_nil (show decode cJ3_checkIndex_8e157 17 = .ok (.ireturn, 1) by decide +kernel)
set_option maxRecDepth 20000 in
set_option maxHeartbeats 2000000 in
theorem c_chk (l : Launch) (D : va_G) (ca : Nat → ClassId) (ad : Nat → Nat) (base : Nat) (K : im_K) {i n : Int32} (h0 : ¬ i < 0) (h1 : i < n) : Met l yJ0_checkIndex_df160 (Cond.code yJ0_checkIndex_df160 cJ0_checkIndex_df160 2 none :: im_ws) (sr_rm 2) (im_PS D ca ad base K [.int i, .int n]) (im_QN) 0 0 (fun _ => False) := by
  refine Met.ofW (cc := cJ0_checkIndex_df160) (maxL := 2) (ret := none) (by decide) rfl ?_
  intro p e s m args below meth c s₁ B hml hv
  obtain ⟨rfl, hSF⟩ := hv
  have hx := B.exec
  have hb := B.bytes
  have hr := B.returns
  have hts0 := atoms_spec (ws := Cond.code yJ0_checkIndex_df160 cJ0_checkIndex_df160 2 none :: im_ws) B.pre
  have hts : ∀ w ∈ im_ws, w.before ([.int i, .int n] : List Value).toArray s = true := fun w h => hts0 w (List.mem_cons_of_mem _ h)
  have hown : s.vm.findClass "java/lang/String" = some m.cls := findClass_of_methodNamed B.named
  have hlocks := B.notSynchronized
  have hS : va_S (im_up base) s.heap s.heap [] := va_S.rf
  have hK4 := hSF.2.2.2.2.2.2.1
  have hl := lv_entry ([.int i, .int n] : List Value) (n := 2) (Nat.le_of_ble_eq_true rfl)
  rw [lg_entry_eq]
  generalize (lg_sl ([.int i, .int n] : List Value) ++ List.replicate (2 - (lg_sl ([.int i, .int n] : List Value)).length) Slot.unset).toArray = ls at hl ⊢
  have hl : lv_has ls 2 [(0, .int i), (1, .int n)] := hl
  refine lv_iload_n hx hb (show decode cJ0_checkIndex_df160 0 = .ok (.iload_n 0, 1) by decide +kernel) rfl (lv_at hl 0 rfl) ?_
  refine lv_iload_n hx hb (show decode cJ0_checkIndex_df160 1 = .ok (.iload_n 1, 1) by decide +kernel) rfl (lv_at hl 1 rfl) ?_
  rcases hSF.2.2.2.2.2.2.2.2 with hZ | ⟨t9, hZ⟩
  · refine va_gets hx hb hZ hS hown (hts _ sw_fSI) (fun _ h9 => h9) (show decode cJ0_checkIndex_df160 2 = .ok (.getstatic 1053, 3) by decide +kernel) ?_
    refine W.callR (W.runS (As := [.int i, .int n, .null]) (rest := []) ⟨hx, hb, hml, hown, hts⟩ (c_pre l D ca ad base K (f := .null) h0 h1 rfl) ⟨callB_of 3 hts (im_good sw_pre_code) rfl rfl rfl (hts _ sw_iniP) (hts _ sw_m1059) (by decide +kernel) ⟨Nat.le_of_ble_eq_true rfl, Nat.le_of_ble_eq_true rfl⟩, hts _ sw_pre_stat⟩ ⟨im_PS_blind, fun U hU hW => im_PS_at (as := [.int i, .int n, .null]) hU hW hS hSF⟩ rfl rfl hl.1 rfl (lv_room (Nat.le_of_ble_eq_true rfl)) (show decode cJ0_checkIndex_df160 5 = .ok (.invokestatic 1059, 3) by decide +kernel) ⟨Nat.le_of_ble_eq_true rfl, Nat.le_of_ble_eq_true rfl⟩) ?_
    refine lv_pop hx hb (show decode cJ0_checkIndex_df160 8 = .ok (.pop, 1) by decide +kernel) rfl ?_
    exact W.vret hx hb hr (fun t ht hW => ⟨rfl, ht⟩) t_nil (show decode cJ0_checkIndex_df160 9 = .ok (.return_, 1) by decide +kernel)
  · refine va_gets hx hb hZ hS hown (hts _ sw_fSI) (fun _ h9 => h9) (show decode cJ0_checkIndex_df160 2 = .ok (.getstatic 1053, 3) by decide +kernel) ?_
    refine W.callR (W.runS (As := [.int i, .int n, .ref t9]) (rest := []) ⟨hx, hb, hml, hown, hts⟩ (c_pre l D ca ad base K (f := .ref t9) h0 h1 rfl) ⟨callB_of 3 hts (im_good sw_pre_code) rfl rfl rfl (hts _ sw_iniP) (hts _ sw_m1059) (by decide +kernel) ⟨Nat.le_of_ble_eq_true rfl, Nat.le_of_ble_eq_true rfl⟩, hts _ sw_pre_stat⟩ ⟨im_PS_blind, fun U hU hW => im_PS_at (as := [.int i, .int n, .ref t9]) hU hW hS hSF⟩ rfl rfl hl.1 rfl (lv_room (Nat.le_of_ble_eq_true rfl)) (show decode cJ0_checkIndex_df160 5 = .ok (.invokestatic 1059, 3) by decide +kernel) ⟨Nat.le_of_ble_eq_true rfl, Nat.le_of_ble_eq_true rfl⟩) ?_
    refine lv_pop hx hb (show decode cJ0_checkIndex_df160 8 = .ok (.pop, 1) by decide +kernel) rfl ?_
    exact W.vret hx hb hr (fun t ht hW => ⟨rfl, ht⟩) t_nil (show decode cJ0_checkIndex_df160 9 = .ok (.return_, 1) by decide +kernel)
set_option maxRecDepth 20000 in
set_option maxHeartbeats 2000000 in
theorem c_lchar (l : Launch) (D : va_G) (ca : Nat → ClassId) (ad : Nat → Nat) (base : Nat) (K : im_K) {k : Nat} (hk : k < 4) {i : Int32} (hi : vp_in i (im_txt.getD k []).length) : Met l yJ1_charAt_3b067 (Cond.code yJ1_charAt_3b067 cJ1_charAt_3b067 2 (some .char) :: im_ws) (sr_rm 3) (im_PS D ca ad base K [.ref (ad (10 + k)), .int i]) (QcRead ((im_txt.getD k []).getD i.toNatClampNeg 0)) 0 0 (fun _ => False) := by
  refine Met.ofW (cc := cJ1_charAt_3b067) (maxL := 2) (ret := (some .char)) (by decide) rfl ?_
  intro p e s m args below meth c s₁ B hml hv
  obtain ⟨rfl, hSF⟩ := hv
  have hx := B.exec
  have hb := B.bytes
  have hr := B.returns
  have hts0 := atoms_spec (ws := Cond.code yJ1_charAt_3b067 cJ1_charAt_3b067 2 (some .char) :: im_ws) B.pre
  have hts : ∀ w ∈ im_ws, w.before ([.ref (ad (10 + k)), .int i] : List Value).toArray s = true := fun w h => hts0 w (List.mem_cons_of_mem _ h)
  have hown : s.vm.findClass "java/lang/StringLatin1" = some m.cls := findClass_of_methodNamed B.named
  have hlocks := B.notSynchronized
  have hS : va_S (im_up base) s.heap s.heap [] := va_S.rf
  have hK4 := hSF.2.2.2.2.2.2.1
  have hl := lv_entry ([.ref (ad (10 + k)), .int i] : List Value) (n := 2) (Nat.le_of_ble_eq_true rfl)
  rw [lg_entry_eq]
  generalize (lg_sl ([.ref (ad (10 + k)), .int i] : List Value) ++ List.replicate (2 - (lg_sl ([.ref (ad (10 + k)), .int i] : List Value)).length) Slot.unset).toArray = ls at hl ⊢
  have hl : lv_has ls 2 [(0, .ref (ad (10 + k))), (1, .int i)] := hl
  have hT := (hK4.1 k hk).2.2.2
  rw [stx_len2 k hk] at hT
  obtain ⟨j, hj, rfl⟩ := vp_in_of hi (by have := stx_le k hk; omega)
  have hj40 : j < 40 := by have := stx_le k hk; omega
  have hcl : (nI j).toNatClampNeg = j := nI_clamp (by omega)
  refine lv_iload_n hx hb (show decode cJ1_charAt_3b067 0 = .ok (.iload_n 1, 1) by decide +kernel) rfl (lv_at hl 1 rfl) ?_
  refine lv_aload_n hx hb (show decode cJ1_charAt_3b067 1 = .ok (.aload_n 0, 1) by decide +kernel) rfl (lv_at hl 0 rfl) ?_
  refine va_tlen hx hb hT hS rfl (show decode cJ1_charAt_3b067 2 = .ok (.arraylength, 1) by decide +kernel) ?_
  refine t_callN (W.runS (As := [.int (nI j), .int (Int32.ofNat (im_txt.getD k []).length)]) (rest := []) ⟨hx, hb, hml, hown, hts⟩ (c_chk l D ca ad base K (nI_pos (by omega)) (nI_lt hj (by have := stx_le k hk; omega))) ⟨callB_of 2 hts (im_good sw_chk_code) rfl rfl rfl (hts _ sw_iniS) (hts _ sw_m9) (by decide +kernel) ⟨Nat.le_of_ble_eq_true rfl, Nat.le_of_ble_eq_true rfl⟩, hts _ sw_chk_stat⟩ ⟨im_PS_blind, fun U hU hW => im_PS_at (as := [.int (nI j), .int (Int32.ofNat (im_txt.getD k []).length)]) hU hW hS hSF⟩ rfl rfl hl.1 rfl (lv_room (Nat.le_of_ble_eq_true rfl)) (show decode cJ1_charAt_3b067 3 = .ok (.invokestatic 9, 3) by decide +kernel) ⟨Nat.le_of_ble_eq_true rfl, Nat.le_of_ble_eq_true rfl⟩) (fun st v t hq => Outcome.returned.inj hq.1) (fun st0 t L hL h0 hq => ?_)
  have hLe : L = [] := by
    cases L with
    | nil => rfl
    | cons a _ => exact (hL a List.mem_cons_self).elim
  subst hLe
  have hth : t.heap = s.heap := hq.2.trans h0
  rw [hth, List.append_nil]
  refine W.eq (g2 := F0 m 6 ls []) rfl ?_
  refine lv_aload_n hx hb (show decode cJ1_charAt_3b067 6 = .ok (.aload_n 0, 1) by decide +kernel) rfl (lv_at hl 0 rfl) ?_
  refine lv_iload_n hx hb (show decode cJ1_charAt_3b067 7 = .ok (.iload_n 1, 1) by decide +kernel) rfl (lv_at hl 1 rfl) ?_
  refine va_tb hx hb hT hS hi rfl (show decode cJ1_charAt_3b067 8 = .ok (.baload, 1) by decide +kernel) ?_
  refine lv_sipush (v := 255) hx hb (show decode cJ1_charAt_3b067 9 = .ok (.sipush 255, 3) by decide +kernel) (by decide +kernel) ?_
  refine lv_iand hx hb (show decode cJ1_charAt_3b067 12 = .ok (.iand, 1) by decide +kernel) ?_
  refine lv_i2c hx hb (show decode cJ1_charAt_3b067 13 = .ok (.i2c, 1) by decide +kernel) rfl ?_
  rw [hcl, stx_chr k hk j hj40]
  exact W.zret (ty := .char) hx hb hr (stx_nar k hk j hj40) (fun t ht hW => ⟨rfl, ht⟩) t_nil (show decode cJ1_charAt_3b067 14 = .ok (.ireturn, 1) by decide +kernel)
set_option maxRecDepth 20000 in
set_option maxHeartbeats 2000000 in
theorem c_charAt (l : Launch) (D : va_G) (ca : Nat → ClassId) (ad : Nat → Nat) (base : Nat) (K : im_K) {k : Nat} (hk : k < 4) {i : Int32} (hi : vp_in i (im_txt.getD k []).length) : Met l yJ0_charAt_5068e (Cond.code yJ0_charAt_5068e cJ0_charAt_5068e 2 (some .char) :: im_ws) (sr_rm 4) (im_PS D ca ad base K [.ref (ad (6 + k)), .int i]) (QcRead ((im_txt.getD k []).getD i.toNatClampNeg 0)) 0 0 (fun _ => False) := by
  refine Met.ofW (cc := cJ0_charAt_5068e) (maxL := 2) (ret := (some .char)) (by decide) rfl ?_
  intro p e s m args below meth c s₁ B hml hv
  obtain ⟨rfl, hSF⟩ := hv
  have hx := B.exec
  have hb := B.bytes
  have hr := B.returns
  have hts0 := atoms_spec (ws := Cond.code yJ0_charAt_5068e cJ0_charAt_5068e 2 (some .char) :: im_ws) B.pre
  have hts : ∀ w ∈ im_ws, w.before ([.ref (ad (6 + k)), .int i] : List Value).toArray s = true := fun w h => hts0 w (List.mem_cons_of_mem _ h)
  have hown : s.vm.findClass "java/lang/String" = some m.cls := findClass_of_methodNamed B.named
  have hlocks := B.notSynchronized
  have hS : va_S (im_up base) s.heap s.heap [] := va_S.rf
  have hK4 := hSF.2.2.2.2.2.2.1
  have hl := lv_entry ([.ref (ad (6 + k)), .int i] : List Value) (n := 2) (Nat.le_of_ble_eq_true rfl)
  rw [lg_entry_eq]
  generalize (lg_sl ([.ref (ad (6 + k)), .int i] : List Value) ++ List.replicate (2 - (lg_sl ([.ref (ad (6 + k)), .int i] : List Value)).length) Slot.unset).toArray = ls at hl ⊢
  have hl : lv_has ls 2 [(0, .ref (ad (6 + k))), (1, .int i)] := hl
  refine lv_aload_n hx hb (show decode cJ0_charAt_5068e 0 = .ok (.aload_n 0, 1) by decide +kernel) rfl (lv_at hl 0 rfl) ?_
  refine W.callR (W.runV (As := []) (rest := []) ⟨hx, hb, hml, hown, hts⟩ (c_isLatin1 l D ca ad base K hk) (C := "java/lang/String") ⟨callB_of 0 hts (im_good sw_isLatin1_code) rfl rfl rfl (hts _ sw_iniS) (hts _ sw_m492) (by decide +kernel) ⟨Nat.le_of_ble_eq_true rfl, Nat.le_of_ble_eq_true rfl⟩, hts _ sw_isLatin1_inst, hts _ sw_isLatin1_sel⟩ ⟨im_PS_blind, vk_recv hK4 hk hS, fun U hU hW => im_PS_at (as := [.ref (ad (6 + k))]) hU hW hS hSF⟩ rfl rfl hl.1 rfl (lv_room (Nat.le_of_ble_eq_true rfl)) (show decode cJ0_charAt_5068e 1 = .ok (.invokevirtual 492, 3) by decide +kernel) ⟨Nat.le_of_ble_eq_true rfl, Nat.le_of_ble_eq_true rfl⟩) ?_
  refine W.eq (g2 := F0 m 4 ls [.int 1]) rfl ?_
  refine lv_if_eq (tgt := 16) hx hb (show decode cJ0_charAt_5068e 4 = .ok (.ifCond .eq 12, 3) by decide +kernel) (by decide) (fun h0 => absurd h0 (by decide)) (fun _ => ?_)
  refine lv_aload_n hx hb (show decode cJ0_charAt_5068e 7 = .ok (.aload_n 0, 1) by decide +kernel) rfl (lv_at hl 0 rfl) ?_
  refine vk_getf hx hb (hK4.1 k hk).2.2.1 hS hown (hts _ sw_fva) (fun _ h9 => h9) (show decode cJ0_charAt_5068e 8 = .ok (.getfield 9, 3) by decide +kernel) ?_
  refine lv_iload_n hx hb (show decode cJ0_charAt_5068e 11 = .ok (.iload_n 1, 1) by decide +kernel) rfl (lv_at hl 1 rfl) ?_
  refine W.callR (W.runS (As := [.ref (ad (10 + k)), .int i]) (rest := []) ⟨hx, hb, hml, hown, hts⟩ (c_lchar l D ca ad base K hk hi) ⟨callB_of 2 hts (im_good sw_lchar_code) rfl rfl rfl (hts _ sw_iniL) (hts _ sw_m495) (by decide +kernel) ⟨Nat.le_of_ble_eq_true rfl, Nat.le_of_ble_eq_true rfl⟩, hts _ sw_lchar_stat⟩ ⟨im_PS_blind, fun U hU hW => im_PS_at (as := [.ref (ad (10 + k)), .int i]) hU hW hS hSF⟩ rfl rfl hl.1 rfl (lv_room (Nat.le_of_ble_eq_true rfl)) (show decode cJ0_charAt_5068e 12 = .ok (.invokestatic 495, 3) by decide +kernel) ⟨Nat.le_of_ble_eq_true rfl, Nat.le_of_ble_eq_true rfl⟩) ?_
  refine W.eq (g2 := F0 m 15 ls [.int ((im_txt.getD k []).getD i.toNatClampNeg 0)]) rfl ?_
  obtain ⟨j, hj, rfl⟩ := vp_in_of hi (by have := stx_le k hk; omega)
  have hj40 : j < 40 := by have := stx_le k hk; omega
  have hcl : (nI j).toNatClampNeg = j := nI_clamp (by omega)
  exact W.zret (ty := .char) hx hb hr (by rw [hcl]; exact stx_nar k hk j hj40) (fun t ht hW => ⟨rfl, ht⟩) t_nil (show decode cJ0_charAt_5068e 15 = .ok (.ireturn, 1) by decide +kernel)
