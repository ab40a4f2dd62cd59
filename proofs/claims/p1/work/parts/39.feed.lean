abbrev FX (g : im_H) (t : Int32) : Prop := g.length = 200 ∧ (∀ i, 148 ≤ i → g[i]? = hh[i]?) ∧ im_obj g 16 11 = some [.ref 17, .ref 39, .ref 53, .ref 67, .int 0, .ref 81, .ref 83, .int 0, .int (-1), .ref 84, .ref 88, .ref 93, .ref 107, .ref 113] ∧ im_obj g 81 10 = some [.ref 82, .int t, .int 0] ∧ (∃ T : List Int32, T.length = 160 ∧ im_ia g 82 0 = some T)
set_option maxRecDepth 20000 in
set_option maxHeartbeats 4000000 in
theorem feedX_lp (w : Int64) (x1 : Int32) (h8 : x1.toInt ≤ 8) : ∀ (m : Nat) (g : im_H) (i t : Int32), FX g t → i.toInt + 1 = m → 0 ≤ t.toInt → t.toInt + m = x1.toInt → ∃ g1 : im_H, Ev im_K0 19 mX11_feed (36, [(4, .int i), (0, .ref 16), (1, .long w), (3, .int x1)], [], g) (some (.int x1), g1) ∧ (g1.length = 200 ∧ (∀ i, 148 ≤ i → g1[i]? = hh[i]?)) := by
  intro m
  induction m with
  | zero =>
    intro g i t hp hi t0 ht
    have e : t = x1 := i32_ext (by omega)
    obtain ⟨g_len, fr, g_0, g_65, ⟨T, hT, g_66⟩⟩ := hp
    rw [← e]
    refine ⟨g, ?_, g_len, fr⟩
    refine sp_iload (p2 := 38) rfl rfl rfl ?_
    refine st_ifc (b := true) rfl (cn_lt_T rfl (show Int32.toInt 0 = 0 from rfl) (by omega)) ?_
    show Ev _ _ _ (87, _, _, _) _
    refine sp_aload_n (p2 := 88) rfl rfl rfl ?_
    refine st_get rfl g_0 rfl ?_
    show Ev _ _ _ (91, _, _, _) _
    refine st_get rfl g_65 rfl ?_
    show Ev _ _ _ (94, _, _, _) _
    exact sp_iret rfl rfl
  | succ m ih =>
    intro g i t hp hi t0 ht
    obtain ⟨g_len, fr, g_0, g_65, ⟨T, hT, g_66⟩⟩ := hp
    have fi : Int32.toInt (i + (-1)) = Int32.toInt i + (-1) := i32_addE (show Int32.toInt (-1) = -1 from rfl) (by omega) (by omega)
    have ft : Int32.toInt (t + 1) = Int32.toInt t + 1 := i32_addE (show Int32.toInt 1 = 1 from rfl) (by omega) (by omega)
    obtain ⟨g1, he, hq⟩ := ih ((g.set 66 (.inl (0, .inl ((T).set (Int32.toNatClampNeg t) ((Int64.toInt32 (w >>> (Int32.toInt64 (8 * i) &&& 63))) &&& 255))))).set 65 (.inr (10, [.ref 82, .int ((t + 1)), .int 0]))) (i + (-1)) (t + 1) ⟨(sl_len (sl_len g_len)), (fr_set (by decide) (fr_set (by decide) fr)), (ob_ne (by decide) (ob_ne (by decide) g_0)), (ob_eq2 (sl_len g_len) (by decide)), ⟨_, (ll_set hT), (ia_ne (by decide) (ia_eq2 g_len (by decide)))⟩⟩ (by omega) (by omega) (by omega)
    refine ⟨g1, ?_, hq⟩
    refine sp_iload (p2 := 38) rfl rfl rfl ?_
    refine st_ifc (b := false) rfl (cn_lt_F rfl (show Int32.toInt 0 = 0 from rfl) (by omega)) ?_
    show Ev _ _ _ (41, _, _, _) _
    refine sp_aload_n (p2 := 42) rfl rfl rfl ?_
    refine st_get rfl g_0 rfl ?_
    show Ev _ _ _ (45, _, _, _) _
    refine st_get rfl g_65 rfl ?_
    show Ev _ _ _ (48, _, _, _) _
    refine sp_aload_n (p2 := 49) rfl rfl rfl ?_
    refine st_get rfl g_0 rfl ?_
    show Ev _ _ _ (52, _, _, _) _
    refine st_get rfl g_65 rfl ?_
    show Ev _ _ _ (55, _, _, _) _
    refine sp_lload_n (p2 := 56) rfl rfl rfl ?_
    refine sp_bipush (p2 := 58) (x := 8) rfl rfl (by decide) ?_
    refine sp_iload (p2 := 60) rfl rfl rfl ?_
    refine sp_imul (p2 := 61) (z := (8 * i)) rfl rfl rfl ?_
    refine sp_lshr (p2 := 62) (z := (w >>> (Int32.toInt64 (8 * i) &&& 63))) rfl rfl rfl ?_
    refine sp_l2i (p2 := 63) (z := (Int64.toInt32 (w >>> (Int32.toInt64 (8 * i) &&& 63)))) rfl rfl rfl ?_
    refine sp_sipush (p2 := 66) (x := 255) rfl rfl (by decide) ?_
    refine sp_iand (p2 := 67) (z := ((Int64.toInt32 (w >>> (Int32.toInt64 (8 * i) &&& 63))) &&& 255)) rfl rfl rfl ?_
    refine st_iast (i := 66) rfl rfl g_66 (in_at (n := 160) hT (by omega) (by omega)) ?_
    show Ev _ _ _ (68, [(4, .int i), (0, .ref 16), (1, .long w), (3, .int x1)], [], (g.set 66 (.inl (0, .inl ((T).set (Int32.toNatClampNeg t) ((Int64.toInt32 (w >>> (Int32.toInt64 (8 * i) &&& 63))) &&& 255)))))) _
    refine sp_aload_n (p2 := 69) rfl rfl rfl ?_
    refine st_get rfl (ob_ne (by decide) g_0) rfl ?_
    show Ev _ _ _ (72, _, _, _) _
    refine sp_dup (p2 := 73) rfl rfl rfl ?_
    refine st_get rfl (ob_ne (by decide) g_65) rfl ?_
    show Ev _ _ _ (76, _, _, _) _
    refine sp_iconst (p2 := 77) (x := 1) rfl rfl (by decide) ?_
    have f1 : Int32.toInt (t + 1) = Int32.toInt t + 1 := i32_addE (show Int32.toInt 1 = 1 from rfl) (by omega) (by omega)
    refine sp_iadd (p2 := 78) (z := (t + 1)) rfl rfl rfl ?_
    refine st_put (i := 65) rfl rfl (ob_ne (by decide) g_65) rfl rfl (Nat.le_of_ble_eq_true rfl) ?_
    show Ev _ _ _ (81, [(4, .int i), (0, .ref 16), (1, .long w), (3, .int x1)], [], ((g.set 66 (.inl (0, .inl ((T).set (Int32.toNatClampNeg t) ((Int64.toInt32 (w >>> (Int32.toInt64 (8 * i) &&& 63))) &&& 255))))).set 65 (.inr (10, [.ref 82, .int ((t + 1)), .int 0])))) _
    refine sp_iinc (p2 := 84) (y := (i + (-1))) (lv2 := [(4, .int ((i + (-1)))), (0, .ref 16), (1, .long w), (3, .int x1)]) rfl rfl (by decide) rfl rfl rfl ?_
    refine sp_goto rfl ?_
    exact he
abbrev FM (g : im_H) (t : Int32) : Prop := g.length = 200 ∧ im_obj g 164 12 = some [.ref 165, .ref 166, .ref 167, .int 0, .ref 168, .ref 169, .ref 170, .ref 171, .ref 172, .int (-1), .int 0, .ref 173, .ref 174, .ref 175, .ref 176, .ref 177, .ref 178, .ref 179, .ref 180, .ref 181, .ref 182, .int 0, .ref 183, .ref 184, .int 0, .ref 185, .ref 186, .ref 187, .ref 188, .int 0, .ref 189, .ref 190, .ref 191, .ref 192, .ref 193, .int 0, .ref 194, .ref 195, .ref 196, .ref 197, .ref 198, .int 0, .ref 199, .int 0, .ref 200, .int t, .int 0, .int (-1), .ref 201, .ref 202, .ref 203, .ref 204, .ref 205, .ref 206, .ref 207, .ref 208, .ref 209, .ref 210, .ref 211, .ref 212, .int 0, .int 0, .int 0, .ref 213, .ref 214, .ref 215] ∧ (∃ T : List Int32, T.length = 160 ∧ im_ia g 200 0 = some T)
set_option maxRecDepth 20000 in
set_option maxHeartbeats 4000000 in
theorem feedM_lp (w : Int64) (x1 : Int32) (h8 : x1.toInt ≤ 8) : ∀ (m : Nat) (g : im_H) (i t : Int32), FM g t → i.toInt + 1 = m → 0 ≤ t.toInt → t.toInt + m = x1.toInt → ∃ g1 : im_H, Ev im_K0 19 mX12_feed (33, [(4, .int i), (0, .ref 164), (1, .long w), (3, .int x1)], [], g) (some (.int x1), g1) ∧ True := by
  intro m
  induction m with
  | zero =>
    intro g i t hp hi t0 ht
    have e : t = x1 := i32_ext (by omega)
    obtain ⟨g_len, g_148, ⟨T, hT, g_184⟩⟩ := hp
    rw [← e]
    refine ⟨g, ?_, trivial⟩
    refine sp_iload (p2 := 35) rfl rfl rfl ?_
    refine st_ifc (b := true) rfl (cn_lt_T rfl (show Int32.toInt 0 = 0 from rfl) (by omega)) ?_
    show Ev _ _ _ (75, _, _, _) _
    refine sp_aload_n (p2 := 76) rfl rfl rfl ?_
    refine st_get rfl g_148 rfl ?_
    show Ev _ _ _ (79, _, _, _) _
    exact sp_iret rfl rfl
  | succ m ih =>
    intro g i t hp hi t0 ht
    obtain ⟨g_len, g_148, ⟨T, hT, g_184⟩⟩ := hp
    have fi : Int32.toInt (i + (-1)) = Int32.toInt i + (-1) := i32_addE (show Int32.toInt (-1) = -1 from rfl) (by omega) (by omega)
    have ft : Int32.toInt (t + 1) = Int32.toInt t + 1 := i32_addE (show Int32.toInt 1 = 1 from rfl) (by omega) (by omega)
    obtain ⟨g1, he, hq⟩ := ih ((g.set 184 (.inl (0, .inl ((T).set (Int32.toNatClampNeg t) (Int64.toInt32 ((w >>> (Int32.toInt64 (8 * i) &&& 63)) &&& 255)))))).set 148 (.inr (12, [.ref 165, .ref 166, .ref 167, .int 0, .ref 168, .ref 169, .ref 170, .ref 171, .ref 172, .int (-1), .int 0, .ref 173, .ref 174, .ref 175, .ref 176, .ref 177, .ref 178, .ref 179, .ref 180, .ref 181, .ref 182, .int 0, .ref 183, .ref 184, .int 0, .ref 185, .ref 186, .ref 187, .ref 188, .int 0, .ref 189, .ref 190, .ref 191, .ref 192, .ref 193, .int 0, .ref 194, .ref 195, .ref 196, .ref 197, .ref 198, .int 0, .ref 199, .int 0, .ref 200, .int ((t + 1)), .int 0, .int (-1), .ref 201, .ref 202, .ref 203, .ref 204, .ref 205, .ref 206, .ref 207, .ref 208, .ref 209, .ref 210, .ref 211, .ref 212, .int 0, .int 0, .int 0, .ref 213, .ref 214, .ref 215]))) (i + (-1)) (t + 1) ⟨(sl_len (sl_len g_len)), (ob_eq2 (sl_len g_len) (by decide)), ⟨_, (ll_set hT), (ia_ne (by decide) (ia_eq2 g_len (by decide)))⟩⟩ (by omega) (by omega) (by omega)
    refine ⟨g1, ?_, hq⟩
    refine sp_iload (p2 := 35) rfl rfl rfl ?_
    refine st_ifc (b := false) rfl (cn_lt_F rfl (show Int32.toInt 0 = 0 from rfl) (by omega)) ?_
    show Ev _ _ _ (38, _, _, _) _
    refine sp_aload_n (p2 := 39) rfl rfl rfl ?_
    refine st_get rfl g_148 rfl ?_
    show Ev _ _ _ (42, _, _, _) _
    refine sp_aload_n (p2 := 43) rfl rfl rfl ?_
    refine st_get rfl g_148 rfl ?_
    show Ev _ _ _ (46, _, _, _) _
    refine sp_lload_n (p2 := 47) rfl rfl rfl ?_
    refine sp_bipush (p2 := 49) (x := 8) rfl rfl (by decide) ?_
    refine sp_iload (p2 := 51) rfl rfl rfl ?_
    refine sp_imul (p2 := 52) (z := (8 * i)) rfl rfl rfl ?_
    refine sp_lshr (p2 := 53) (z := (w >>> (Int32.toInt64 (8 * i) &&& 63))) rfl rfl rfl ?_
    refine sp_ldc2 (p2 := 56) (x := 255) rfl rfl rfl ?_
    refine sp_land (p2 := 57) (z := ((w >>> (Int32.toInt64 (8 * i) &&& 63)) &&& 255)) rfl rfl rfl ?_
    refine sp_l2i (p2 := 58) (z := (Int64.toInt32 ((w >>> (Int32.toInt64 (8 * i) &&& 63)) &&& 255))) rfl rfl rfl ?_
    refine st_iast (i := 184) rfl rfl g_184 (in_at (n := 160) hT (by omega) (by omega)) ?_
    show Ev _ _ _ (59, [(4, .int i), (0, .ref 164), (1, .long w), (3, .int x1)], [], (g.set 184 (.inl (0, .inl ((T).set (Int32.toNatClampNeg t) (Int64.toInt32 ((w >>> (Int32.toInt64 (8 * i) &&& 63)) &&& 255))))))) _
    refine sp_aload_n (p2 := 60) rfl rfl rfl ?_
    refine sp_dup (p2 := 61) rfl rfl rfl ?_
    refine st_get rfl (ob_ne (by decide) g_148) rfl ?_
    show Ev _ _ _ (64, _, _, _) _
    refine sp_iconst (p2 := 65) (x := 1) rfl rfl (by decide) ?_
    have f1 : Int32.toInt (t + 1) = Int32.toInt t + 1 := i32_addE (show Int32.toInt 1 = 1 from rfl) (by omega) (by omega)
    refine sp_iadd (p2 := 66) (z := (t + 1)) rfl rfl rfl ?_
    refine st_put (i := 148) rfl rfl (ob_ne (by decide) g_148) rfl rfl (Nat.le_of_ble_eq_true rfl) ?_
    show Ev _ _ _ (69, [(4, .int i), (0, .ref 164), (1, .long w), (3, .int x1)], [], ((g.set 184 (.inl (0, .inl ((T).set (Int32.toNatClampNeg t) (Int64.toInt32 ((w >>> (Int32.toInt64 (8 * i) &&& 63)) &&& 255)))))).set 148 (.inr (12, [.ref 165, .ref 166, .ref 167, .int 0, .ref 168, .ref 169, .ref 170, .ref 171, .ref 172, .int (-1), .int 0, .ref 173, .ref 174, .ref 175, .ref 176, .ref 177, .ref 178, .ref 179, .ref 180, .ref 181, .ref 182, .int 0, .ref 183, .ref 184, .int 0, .ref 185, .ref 186, .ref 187, .ref 188, .int 0, .ref 189, .ref 190, .ref 191, .ref 192, .ref 193, .int 0, .ref 194, .ref 195, .ref 196, .ref 197, .ref 198, .int 0, .ref 199, .int 0, .ref 200, .int ((t + 1)), .int 0, .int (-1), .ref 201, .ref 202, .ref 203, .ref 204, .ref 205, .ref 206, .ref 207, .ref 208, .ref 209, .ref 210, .ref 211, .ref 212, .int 0, .int 0, .int 0, .ref 213, .ref 214, .ref 215])))) _
    refine sp_iinc (p2 := 72) (y := (i + (-1))) (lv2 := [(4, .int ((i + (-1)))), (0, .ref 164), (1, .long w), (3, .int x1)]) rfl rfl (by decide) rfl rfl rfl ?_
    refine sp_goto rfl ?_
    exact he
set_option maxRecDepth 20000 in
set_option maxHeartbeats 4000000 in
theorem q_feed (w : Int64) (x1 : Int32) : ∃ (v : Value) (h1 h2 : im_H), Ca 20 72 [.ref 16, .long w, .int x1] hh (some v, h1) ∧ Ca 20 134 [.ref 164, .long w, .int x1] h1 (some v, h2) := by
  by_cases h1 : x1.toInt ≤ 0
  · refine ⟨.int (-2), hh, hh, ?_, ?_⟩
    · refine ca_of (d := 19) (M := mX11_feed) rfl (Nat.le_of_ble_eq_true rfl) ?_
      show Ev im_K0 19 mX11_feed (0, [(0, .ref 16), (1, .long w), (3, .int x1)], [], hh) _
      refine sp_iload_n (p2 := 1) rfl rfl rfl ?_
      refine sp_iconst (p2 := 2) (x := 1) rfl rfl (by decide) ?_
      refine sp_bipush (p2 := 4) (x := 8) rfl rfl (by decide) ?_
      refine st_callS rfl rfl rfl (cl_between_F (a := 1) (b := 8) rfl rfl (by omega)) ?_
      show Ev _ _ _ (7, [(0, .ref 16), (1, .long w), (3, .int x1)], [.int 0], hh) _
      refine st_ifc (b := false) rfl (by decide) ?_
      show Ev _ _ _ (10, _, _, _) _
      refine sp_bipush (p2 := 12) (x := (-2)) rfl rfl (by decide) ?_
      exact sp_iret rfl rfl
    · refine ca_of (d := 19) (M := mX12_feed) rfl (Nat.le_of_ble_eq_true rfl) ?_
      show Ev im_K0 19 mX12_feed (0, [(0, .ref 164), (1, .long w), (3, .int x1)], [], hh) _
      refine sp_iload_n (p2 := 1) rfl rfl rfl ?_
      refine sp_iconst (p2 := 2) (x := 1) rfl rfl (by decide) ?_
      refine sp_bipush (p2 := 4) (x := 8) rfl rfl (by decide) ?_
      refine st_callS rfl rfl rfl (cl_in_F (a := 1) (b := 8) rfl rfl (by omega)) ?_
      show Ev _ _ _ (7, [(0, .ref 164), (1, .long w), (3, .int x1)], [.int 0], hh) _
      refine st_ifc (b := false) rfl (by decide) ?_
      show Ev _ _ _ (10, _, _, _) _
      refine sp_bipush (p2 := 12) (x := (-2)) rfl rfl (by decide) ?_
      exact sp_iret rfl rfl
  · by_cases h2 : x1.toInt ≤ 8
    · obtain ⟨m, hm⟩ : ∃ m : Nat, (m : Int) = x1.toInt := ⟨x1.toInt.toNat, by omega⟩
      have fx : Int32.toInt (x1 - 1) = Int32.toInt x1 - 1 := i32_subE (show Int32.toInt 1 = 1 from rfl) (by omega) (by omega)
      obtain ⟨g1, he1, g1_len, fr1⟩ := feedX_lp w x1 (by omega) m hh (x1 - 1) 0 ⟨hh_len, fun _ _ => rfl, hh_0, hh_65, ⟨_, rfl, hh_66⟩⟩ (by omega) (by decide) (by rw [show Int32.toInt 0 = 0 from rfl]; omega)
      obtain ⟨g2, he2, _⟩ := feedM_lp w x1 (by omega) m g1 (x1 - 1) 0 ⟨g1_len, ob_fr (fr1 148 (by decide)) hh_148, ⟨_, rfl, ia_fr (fr1 184 (by decide)) hh_184⟩⟩ (by omega) (by decide) (by rw [show Int32.toInt 0 = 0 from rfl]; omega)
      have g1_148 := ob_fr (fr1 148 (by decide)) hh_148
      refine ⟨.int x1, g1, g2, ?_, ?_⟩
      · refine ca_of (d := 19) (M := mX11_feed) rfl (Nat.le_of_ble_eq_true rfl) ?_
        show Ev im_K0 19 mX11_feed (0, [(0, .ref 16), (1, .long w), (3, .int x1)], [], hh) _
        refine sp_iload_n (p2 := 1) rfl rfl rfl ?_
        refine sp_iconst (p2 := 2) (x := 1) rfl rfl (by decide) ?_
        refine sp_bipush (p2 := 4) (x := 8) rfl rfl (by decide) ?_
        refine st_callS rfl rfl rfl (cl_between_T (a := 1) (b := 8) rfl rfl (by omega)) ?_
        show Ev _ _ _ (7, [(0, .ref 16), (1, .long w), (3, .int x1)], [.int 1], hh) _
        refine st_ifc (b := true) rfl (by decide) ?_
        show Ev _ _ _ (13, _, _, _) _
        refine sp_aload_n (p2 := 14) rfl rfl rfl ?_
        refine st_get rfl hh_0 rfl ?_
        show Ev _ _ _ (17, _, _, _) _
        refine st_get rfl hh_65 rfl ?_
        show Ev _ _ _ (20, _, _, _) _
        refine sp_iload_n (p2 := 21) rfl rfl rfl ?_
        refine sp_iadd (p2 := 22) (z := x1) rfl rfl (Int32.zero_add _) ?_
        refine sp_sipush (p2 := 25) (x := 160) rfl rfl (by decide) ?_
        refine st_icmp (b := true) rfl (cn_le_T rfl (show Int32.toInt 160 = 160 from rfl) (by omega)) ?_
        show Ev _ _ _ (31, _, _, _) _
        refine sp_iload_n (p2 := 32) rfl rfl rfl ?_
        refine sp_iconst (p2 := 33) (x := 1) rfl rfl (by decide) ?_
        have f1 : Int32.toInt (x1 - 1) = Int32.toInt x1 - 1 := i32_subE (show Int32.toInt 1 = 1 from rfl) (by omega) (by omega)
        refine sp_isub (p2 := 34) (z := (x1 - 1)) rfl rfl rfl ?_
        refine sp_istore (p2 := 36) (lv2 := [(4, .int ((x1 - 1))), (0, .ref 16), (1, .long w), (3, .int x1)]) rfl rfl (by decide) rfl ?_
        exact he1
      · refine ca_of (d := 19) (M := mX12_feed) rfl (Nat.le_of_ble_eq_true rfl) ?_
        show Ev im_K0 19 mX12_feed (0, [(0, .ref 164), (1, .long w), (3, .int x1)], [], g1) _
        refine sp_iload_n (p2 := 1) rfl rfl rfl ?_
        refine sp_iconst (p2 := 2) (x := 1) rfl rfl (by decide) ?_
        refine sp_bipush (p2 := 4) (x := 8) rfl rfl (by decide) ?_
        refine st_callS rfl rfl rfl (cl_in_T (a := 1) (b := 8) rfl rfl (by omega)) ?_
        show Ev _ _ _ (7, [(0, .ref 164), (1, .long w), (3, .int x1)], [.int 1], g1) _
        refine st_ifc (b := true) rfl (by decide) ?_
        show Ev _ _ _ (13, _, _, _) _
        refine sp_aload_n (p2 := 14) rfl rfl rfl ?_
        refine st_get rfl g1_148 rfl ?_
        show Ev _ _ _ (17, _, _, _) _
        refine sp_iload_n (p2 := 18) rfl rfl rfl ?_
        refine sp_iadd (p2 := 19) (z := x1) rfl rfl (Int32.zero_add _) ?_
        refine sp_sipush (p2 := 22) (x := 160) rfl rfl (by decide) ?_
        refine st_icmp (b := true) rfl (cn_le_T rfl (show Int32.toInt 160 = 160 from rfl) (by omega)) ?_
        show Ev _ _ _ (28, _, _, _) _
        refine sp_iload_n (p2 := 29) rfl rfl rfl ?_
        refine sp_iconst (p2 := 30) (x := 1) rfl rfl (by decide) ?_
        have f2 : Int32.toInt (x1 - 1) = Int32.toInt x1 - 1 := i32_subE (show Int32.toInt 1 = 1 from rfl) (by omega) (by omega)
        refine sp_isub (p2 := 31) (z := (x1 - 1)) rfl rfl rfl ?_
        refine sp_istore (p2 := 33) (lv2 := [(4, .int ((x1 - 1))), (0, .ref 164), (1, .long w), (3, .int x1)]) rfl rfl (by decide) rfl ?_
        exact he2
    · refine ⟨.int (-2), hh, hh, ?_, ?_⟩
      · refine ca_of (d := 19) (M := mX11_feed) rfl (Nat.le_of_ble_eq_true rfl) ?_
        show Ev im_K0 19 mX11_feed (0, [(0, .ref 16), (1, .long w), (3, .int x1)], [], hh) _
        refine sp_iload_n (p2 := 1) rfl rfl rfl ?_
        refine sp_iconst (p2 := 2) (x := 1) rfl rfl (by decide) ?_
        refine sp_bipush (p2 := 4) (x := 8) rfl rfl (by decide) ?_
        refine st_callS rfl rfl rfl (cl_between_F (a := 1) (b := 8) rfl rfl (by omega)) ?_
        show Ev _ _ _ (7, [(0, .ref 16), (1, .long w), (3, .int x1)], [.int 0], hh) _
        refine st_ifc (b := false) rfl (by decide) ?_
        show Ev _ _ _ (10, _, _, _) _
        refine sp_bipush (p2 := 12) (x := (-2)) rfl rfl (by decide) ?_
        exact sp_iret rfl rfl
      · refine ca_of (d := 19) (M := mX12_feed) rfl (Nat.le_of_ble_eq_true rfl) ?_
        show Ev im_K0 19 mX12_feed (0, [(0, .ref 164), (1, .long w), (3, .int x1)], [], hh) _
        refine sp_iload_n (p2 := 1) rfl rfl rfl ?_
        refine sp_iconst (p2 := 2) (x := 1) rfl rfl (by decide) ?_
        refine sp_bipush (p2 := 4) (x := 8) rfl rfl (by decide) ?_
        refine st_callS rfl rfl rfl (cl_in_F (a := 1) (b := 8) rfl rfl (by omega)) ?_
        show Ev _ _ _ (7, [(0, .ref 164), (1, .long w), (3, .int x1)], [.int 0], hh) _
        refine st_ifc (b := false) rfl (by decide) ?_
        show Ev _ _ _ (10, _, _, _) _
        refine sp_bipush (p2 := 12) (x := (-2)) rfl rfl (by decide) ?_
        exact sp_iret rfl rfl
