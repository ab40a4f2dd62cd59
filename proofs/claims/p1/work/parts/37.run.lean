abbrev Pnow (g : im_H) (d : Int32) : Prop := g.length = 200 ∧ (∀ i, 148 ≤ i → g[i]? = hh[i]?) ∧ im_obj g 16 11 = some [.ref 17, .ref 39, .ref 53, .ref 67, .int 0, .ref 81, .ref 83, .int 0, .int (-1), .ref 84, .ref 88, .ref 93, .ref 107, .ref 113] ∧ im_obj g 17 0 = some [.ref 18, .int (-1), .int 0, .ref 19, .ref 20, .ref 21, .ref 22, .ref 23, .ref 24, .int 0, .ref 25, .ref 26, .null, .ref 27] ∧ im_qa g 23 = some (3, [some 28, some 30, some 32, some 34]) ∧ im_qa g 24 = some (4, [some 36, some 37, some 38]) ∧ im_obj g 28 7 = some [.ref 29, .int 0, .int 0, .int 0] ∧ im_obj g 30 7 = some [.ref 31, .int 0, .int 0, .int 0] ∧ im_obj g 32 7 = some [.ref 33, .int 0, .int 0, .int 0] ∧ im_obj g 34 7 = some [.ref 35, .int 0, .int 0, .int 0] ∧ im_obj g 36 5 = some [.int 0, .int 0, .int 0, .int 0] ∧ im_obj g 37 5 = some [.int 0, .int 0, .int 0, .int 0] ∧ im_obj g 38 5 = some [.int 0, .int 0, .int 0, .int 0] ∧ im_obj g 39 9 = some [.int d, .int 0, .int 0, .int 0, .int 0, .ref 40, .ref 41, .ref 42, .ref 43, .ref 44, .ref 45, .ref 46, .ref 47, .ref 48, .ref 49, .ref 50, .ref 51, .ref 52] ∧ im_ia g 41 0 = some ((List.replicate 100 0 : List Int32)) ∧ im_ia g 50 0 = some (([0, 0, 0, 0] : List Int32)) ∧ im_ia g 52 0 = some (([0, 0, 0] : List Int32)) ∧ (∃ s1 s2 s3 s4 : Int32, im_ia g 51 0 = some ([s1, s2, s3, s4]))
abbrev Paside (g : im_H) (d : Int32) : Prop := g.length = 200 ∧ (∀ i, 148 ≤ i → g[i]? = hh[i]?) ∧ im_obj g 16 11 = some [.ref 17, .ref 39, .ref 53, .ref 67, .int 0, .ref 81, .ref 83, .int 0, .int (-1), .ref 84, .ref 88, .ref 93, .ref 107, .ref 113] ∧ im_obj g 17 0 = some [.ref 18, .int (-1), .int 0, .ref 19, .ref 20, .ref 21, .ref 22, .ref 23, .ref 24, .int 0, .ref 25, .ref 26, .null, .ref 27] ∧ im_qa g 23 = some (3, [some 28, some 30, some 32, some 34]) ∧ im_qa g 24 = some (4, [some 36, some 37, some 38]) ∧ im_obj g 28 7 = some [.ref 29, .int 0, .int 0, .int 0] ∧ im_obj g 30 7 = some [.ref 31, .int 0, .int 0, .int 0] ∧ im_obj g 32 7 = some [.ref 33, .int 0, .int 0, .int 0] ∧ im_obj g 34 7 = some [.ref 35, .int 0, .int 0, .int 0] ∧ im_obj g 36 5 = some [.int 0, .int 0, .int 0, .int 0] ∧ im_obj g 37 5 = some [.int 0, .int 0, .int 0, .int 0] ∧ im_obj g 38 5 = some [.int 0, .int 0, .int 0, .int 0] ∧ im_obj g 39 9 = some [.int 0, .int 0, .int 0, .int 0, .int 0, .ref 40, .ref 41, .ref 42, .ref 43, .ref 44, .ref 45, .ref 46, .ref 47, .ref 48, .ref 49, .ref 50, .ref 51, .ref 52] ∧ im_ia g 40 0 = some (([0, 0, 0] : List Int32)) ∧ im_ia g 46 1 = some ((List.replicate 24 0 : List Int32)) ∧ im_obj g 53 9 = some [.int d, .int 0, .int 0, .int 0, .int 0, .ref 54, .ref 55, .ref 56, .ref 57, .ref 58, .ref 59, .ref 60, .ref 61, .ref 62, .ref 63, .ref 64, .ref 65, .ref 66] ∧ im_ia g 54 0 = some (([0, 0, 0] : List Int32)) ∧ im_ia g 55 0 = some ((List.replicate 100 0 : List Int32)) ∧ im_ia g 57 0 = some ((List.replicate 24 0 : List Int32)) ∧ im_ia g 60 1 = some ((List.replicate 24 0 : List Int32)) ∧ im_ia g 64 0 = some (([0, 0, 0, 0] : List Int32)) ∧ im_ia g 66 0 = some (([0, 0, 0] : List Int32)) ∧ (∃ s1 s2 s3 s4 : Int32, im_ia g 65 0 = some ([s1, s2, s3, s4]))
abbrev PM (g : im_H) (d : Int32) : Prop := g.length = 200 ∧ im_obj g 164 12 = some [.ref 165, .ref 166, .ref 167, .int 0, .ref 168, .ref 169, .ref 170, .ref 171, .ref 172, .int (-1), .int 0, .ref 173, .ref 174, .ref 175, .ref 176, .ref 177, .ref 178, .ref 179, .ref 180, .ref 181, .ref 182, .int 0, .ref 183, .ref 184, .int 0, .ref 185, .ref 186, .ref 187, .ref 188, .int 0, .ref 189, .ref 190, .ref 191, .ref 192, .ref 193, .int 0, .ref 194, .ref 195, .ref 196, .ref 197, .ref 198, .int 0, .ref 199, .int 0, .ref 200, .int 0, .int 0, .int (-1), .ref 201, .ref 202, .ref 203, .ref 204, .ref 205, .ref 206, .ref 207, .ref 208, .ref 209, .ref 210, .ref 211, .ref 212, .int 0, .int 0, .int 0, .ref 213, .ref 214, .ref 215] ∧ im_ia g 177 0 = some (([0, 0, 0, 0] : List Int32)) ∧ im_ia g 181 0 = some (([0, 0, 0] : List Int32)) ∧ (∃ A : List Int32, PA A d ∧ im_ia g 165 0 = some A) ∧ (∃ K : List Int32, K.length = 283 ∧ im_ia g 166 0 = some K)
abbrev LM (g : im_H) : Prop := g.length = 200 ∧ im_obj g 164 12 = some [.ref 165, .ref 166, .ref 167, .int 0, .ref 168, .ref 169, .ref 170, .ref 171, .ref 172, .int (-1), .int 0, .ref 173, .ref 174, .ref 175, .ref 176, .ref 177, .ref 178, .ref 179, .ref 180, .ref 181, .ref 182, .int 0, .ref 183, .ref 184, .int 0, .ref 185, .ref 186, .ref 187, .ref 188, .int 0, .ref 189, .ref 190, .ref 191, .ref 192, .ref 193, .int 0, .ref 194, .ref 195, .ref 196, .ref 197, .ref 198, .int 0, .ref 199, .int 0, .ref 200, .int 0, .int 0, .int (-1), .ref 201, .ref 202, .ref 203, .ref 204, .ref 205, .ref 206, .ref 207, .ref 208, .ref 209, .ref 210, .ref 211, .ref 212, .int 0, .int 0, .int 0, .ref 213, .ref 214, .ref 215] ∧ (∃ A : List Int32, A.length = 283 ∧ im_ia g 165 0 = some A) ∧ (∃ K : List Int32, K.length = 283 ∧ im_ia g 166 0 = some K)
set_option maxRecDepth 20000 in
set_option maxHeartbeats 4000000 in
theorem Pnow_0 : Pnow hh 0 := ⟨hh_len, fun _ _ => rfl, hh_0, hh_1, hh_7, hh_8, hh_12, hh_14, hh_16, hh_18, hh_20, hh_21, hh_22, hh_23, hh_25, hh_34, hh_36, ⟨0, 0, 0, 0, hh_35⟩⟩
set_option maxRecDepth 20000 in
set_option maxHeartbeats 4000000 in
theorem Paside_0 : Paside hh 0 := ⟨hh_len, fun _ _ => rfl, hh_0, hh_1, hh_7, hh_8, hh_12, hh_14, hh_16, hh_18, hh_20, hh_21, hh_22, hh_23, hh_24, hh_30, hh_37, hh_38, hh_39, hh_41, hh_44, hh_48, hh_50, ⟨0, 0, 0, 0, hh_49⟩⟩
set_option maxRecDepth 20000 in
set_option maxHeartbeats 4000000 in
theorem PA_0 : PA (List.replicate 140 0 ++ (List.replicate 24 (-1) ++ (List.replicate 119 0)) : List Int32) 0 := ⟨rfl, rfl, by decide⟩
set_option maxRecDepth 20000 in
set_option maxHeartbeats 4000000 in
theorem PM_0 {g : im_H} (gl : g.length = 200) (fr : ∀ i, 148 ≤ i → g[i]? = hh[i]?) : PM g 0 := ⟨gl, ob_fr (fr 148 (by decide)) hh_148, ia_fr (fr 161 (by decide)) hh_161, ia_fr (fr 165 (by decide)) hh_165, ⟨_, PA_0, ia_fr (fr 149 (by decide)) hh_149⟩, ⟨_, rfl, ia_fr (fr 150 (by decide)) hh_150⟩⟩
set_option maxRecDepth 20000 in
set_option maxHeartbeats 4000000 in
theorem pd_now (g : im_H) (d : Int32) (hp : Pnow g d) (h0 : 0 ≤ d.toInt) (h1 : d.toInt ≤ 60) : ∃ g1 : im_H, Ca 19 7 [.ref 17, .ref 39] g (none, g1) ∧ Pnow g1 (d + 1) := by
  obtain ⟨g_len, fr, g_0, g_1, g_7, g_8, g_12, g_14, g_16, g_18, g_20, g_21, g_22, g_23, g_25, g_34, g_36, ⟨s1, s2, s3, s4, g_35⟩⟩ := hp
  by_cases h1 : Int32.toInt (d - d / 7 * 7) ≤ 5
  · refine ⟨((((((((((((g.set 34 (.inl (0, .inl ((([0, 0, 0, 0] : List Int32)).set 0 0)))).set 35 (.inl (0, .inl (([s1, s2, s3, s4]).set 0 (-1))))).set 34 (.inl (0, .inl (((([0, 0, 0, 0] : List Int32)).set 0 0).set 1 0)))).set 35 (.inl (0, .inl ((([s1, s2, s3, s4]).set 0 (-1)).set 1 (-1))))).set 34 (.inl (0, .inl ((((([0, 0, 0, 0] : List Int32)).set 0 0).set 1 0).set 2 0)))).set 35 (.inl (0, .inl (((([s1, s2, s3, s4]).set 0 (-1)).set 1 (-1)).set 2 (-1))))).set 34 (.inl (0, .inl (((((([0, 0, 0, 0] : List Int32)).set 0 0).set 1 0).set 2 0).set 3 0)))).set 35 (.inl (0, .inl ((((([s1, s2, s3, s4]).set 0 (-1)).set 1 (-1)).set 2 (-1)).set 3 (-1))))).set 36 (.inl (0, .inl ((([0, 0, 0] : List Int32)).set 0 0)))).set 36 (.inl (0, .inl (((([0, 0, 0] : List Int32)).set 0 0).set 1 0)))).set 36 (.inl (0, .inl ((((([0, 0, 0] : List Int32)).set 0 0).set 1 0).set 2 0)))).set 23 (.inr (9, [.int ((d + 1)), .int 0, .int 0, .int 0, .int 0, .ref 40, .ref 41, .ref 42, .ref 43, .ref 44, .ref 45, .ref 46, .ref 47, .ref 48, .ref 49, .ref 50, .ref 51, .ref 52]))), ?_, ?_⟩
    · refine ca_of (d := 18) (M := mX0_playDay) rfl (Nat.le_of_ble_eq_true rfl) ?_
      show Ev im_K0 18 mX0_playDay (0, [(0, .ref 17), (1, .ref 39)], [], g) _
      refine sp_iconst (p2 := 1) (x := 0) rfl rfl (by decide) ?_
      refine sp_istore_n (p2 := 2) (lv2 := [(2, .int 0), (0, .ref 17), (1, .ref 39)]) rfl rfl (by decide) rfl ?_
      refine sp_iload_n (p2 := 3) rfl rfl rfl ?_
      refine sp_iconst (p2 := 4) (x := 4) rfl rfl (by decide) ?_
      refine st_icmp (b := false) rfl (by decide) ?_
      show Ev _ _ _ (7, _, _, _) _
      refine sp_aload_n (p2 := 8) rfl rfl rfl ?_
      refine sp_aload_n (p2 := 9) rfl rfl rfl ?_
      refine sp_iload_n (p2 := 10) rfl rfl rfl ?_
      have c1 : Ca 18 8 [.ref 17, .ref 39, .int 0] g (none, ((g.set 34 (.inl (0, .inl ((([0, 0, 0, 0] : List Int32)).set 0 0)))).set 35 (.inl (0, .inl (([s1, s2, s3, s4]).set 0 (-1)))))) := by
        refine ca_of (d := 17) (M := mX0_workRow) rfl (Nat.le_of_ble_eq_true rfl) ?_
        show Ev im_K0 17 mX0_workRow (0, [(0, .ref 17), (1, .ref 39), (2, .int 0)], [], g) _
        refine sp_aload_n (p2 := 1) rfl rfl rfl ?_
        refine st_get rfl g_1 rfl ?_
        show Ev _ _ _ (4, _, _, _) _
        refine sp_iload_n (p2 := 5) rfl rfl rfl ?_
        refine st_aald (v := .ref 28) rfl g_7 (by decide) rfl ?_
        show Ev _ _ _ (6, _, _, _) _
        refine sp_astore_n (p2 := 7) (lv2 := [(3, .ref 28), (0, .ref 17), (1, .ref 39), (2, .int 0)]) rfl rfl (by decide) rfl ?_
        refine sp_aload_n (p2 := 8) rfl rfl rfl ?_
        refine st_get rfl g_23 rfl ?_
        show Ev _ _ _ (11, _, _, _) _
        refine sp_iload_n (p2 := 12) rfl rfl rfl ?_
        refine sp_iconst (p2 := 13) (x := 0) rfl rfl (by decide) ?_
        refine st_iast (i := 34) rfl rfl g_34 rfl ?_
        show Ev _ _ _ (14, [(3, .ref 28), (0, .ref 17), (1, .ref 39), (2, .int 0)], [], (g.set 34 (.inl (0, .inl ((([0, 0, 0, 0] : List Int32)).set 0 0))))) _
        refine sp_aload_n (p2 := 15) rfl rfl rfl ?_
        refine st_get rfl (ob_ne (by decide) g_23) rfl ?_
        show Ev _ _ _ (18, _, _, _) _
        refine sp_iload_n (p2 := 19) rfl rfl rfl ?_
        refine sp_iconst (p2 := 20) (x := (-1)) rfl rfl (by decide) ?_
        refine st_iast (i := 35) rfl rfl (ia_ne (by decide) g_35) rfl ?_
        show Ev _ _ _ (21, [(3, .ref 28), (0, .ref 17), (1, .ref 39), (2, .int 0)], [], ((g.set 34 (.inl (0, .inl ((([0, 0, 0, 0] : List Int32)).set 0 0)))).set 35 (.inl (0, .inl (([s1, s2, s3, s4]).set 0 (-1)))))) _
        refine sp_iconst (p2 := 22) (x := 0) rfl rfl (by decide) ?_
        refine sp_istore (p2 := 24) (lv2 := [(4, .int 0), (3, .ref 28), (0, .ref 17), (1, .ref 39), (2, .int 0)]) rfl rfl (by decide) rfl ?_
        refine sp_iconst (p2 := 25) (x := 0) rfl rfl (by decide) ?_
        refine sp_istore (p2 := 27) (lv2 := [(5, .int 0), (4, .int 0), (3, .ref 28), (0, .ref 17), (1, .ref 39), (2, .int 0)]) rfl rfl (by decide) rfl ?_
        refine sp_iload (p2 := 29) rfl rfl rfl ?_
        refine sp_aload_n (p2 := 30) rfl rfl rfl ?_
        refine st_get rfl (ob_ne (by decide) (ob_ne (by decide) g_12)) rfl ?_
        show Ev _ _ _ (33, _, _, _) _
        refine st_icmp (b := true) rfl (by decide) ?_
        show Ev _ _ _ (85, _, _, _) _
        refine sp_iload (p2 := 87) rfl rfl rfl ?_
        refine sp_aload_n (p2 := 88) rfl rfl rfl ?_
        refine st_get rfl (ob_ne (by decide) (ob_ne (by decide) g_23)) rfl ?_
        show Ev _ _ _ (91, _, _, _) _
        refine sp_aload_n (p2 := 92) rfl rfl rfl ?_
        refine st_get rfl (ob_ne (by decide) (ob_ne (by decide) g_12)) rfl ?_
        show Ev _ _ _ (95, _, _, _) _
        refine st_iald (x := 0) rfl (by decide) (ia_ne (by decide) (ia_ne (by decide) g_25)) rfl rfl ?_
        show Ev _ _ _ (96, _, _, _) _
        refine sp_min (p2 := 99) (z := 0) rfl rfl rfl (by decide) ?_
        refine sp_istore (p2 := 101) (lv2 := [(5, .int 0), (4, .int 0), (3, .ref 28), (0, .ref 17), (1, .ref 39), (2, .int 0)]) rfl rfl (by decide) rfl ?_
        refine sp_iload (p2 := 103) rfl rfl rfl ?_
        refine st_ifc (b := true) rfl (by decide) ?_
        show Ev _ _ _ (122, _, _, _) _
        exact sp_vret rfl rfl
      refine st_callV (R := 17) rfl rfl rfl g_1 rfl c1 ?_
      show Ev _ _ _ (13, [(2, .int 0), (0, .ref 17), (1, .ref 39)], [], ((g.set 34 (.inl (0, .inl ((([0, 0, 0, 0] : List Int32)).set 0 0)))).set 35 (.inl (0, .inl (([s1, s2, s3, s4]).set 0 (-1)))))) _
      refine sp_iinc (p2 := 16) (y := 1) (lv2 := [(2, .int 1), (0, .ref 17), (1, .ref 39)]) rfl rfl (by decide) rfl (by decide) rfl ?_
      refine sp_goto rfl ?_
      refine sp_iload_n (p2 := 3) rfl rfl rfl ?_
      refine sp_iconst (p2 := 4) (x := 4) rfl rfl (by decide) ?_
      refine st_icmp (b := false) rfl (by decide) ?_
      show Ev _ _ _ (7, _, _, _) _
      refine sp_aload_n (p2 := 8) rfl rfl rfl ?_
      refine sp_aload_n (p2 := 9) rfl rfl rfl ?_
      refine sp_iload_n (p2 := 10) rfl rfl rfl ?_
      have c2 : Ca 18 8 [.ref 17, .ref 39, .int 1] ((g.set 34 (.inl (0, .inl ((([0, 0, 0, 0] : List Int32)).set 0 0)))).set 35 (.inl (0, .inl (([s1, s2, s3, s4]).set 0 (-1))))) (none, ((((g.set 34 (.inl (0, .inl ((([0, 0, 0, 0] : List Int32)).set 0 0)))).set 35 (.inl (0, .inl (([s1, s2, s3, s4]).set 0 (-1))))).set 34 (.inl (0, .inl (((([0, 0, 0, 0] : List Int32)).set 0 0).set 1 0)))).set 35 (.inl (0, .inl ((([s1, s2, s3, s4]).set 0 (-1)).set 1 (-1)))))) := by
        refine ca_of (d := 17) (M := mX0_workRow) rfl (Nat.le_of_ble_eq_true rfl) ?_
        show Ev im_K0 17 mX0_workRow (0, [(0, .ref 17), (1, .ref 39), (2, .int 1)], [], ((g.set 34 (.inl (0, .inl ((([0, 0, 0, 0] : List Int32)).set 0 0)))).set 35 (.inl (0, .inl (([s1, s2, s3, s4]).set 0 (-1)))))) _
        refine sp_aload_n (p2 := 1) rfl rfl rfl ?_
        refine st_get rfl (ob_ne (by decide) (ob_ne (by decide) g_1)) rfl ?_
        show Ev _ _ _ (4, _, _, _) _
        refine sp_iload_n (p2 := 5) rfl rfl rfl ?_
        refine st_aald (v := .ref 30) rfl (qa_ne (by decide) (qa_ne (by decide) g_7)) (by decide) rfl ?_
        show Ev _ _ _ (6, _, _, _) _
        refine sp_astore_n (p2 := 7) (lv2 := [(3, .ref 30), (0, .ref 17), (1, .ref 39), (2, .int 1)]) rfl rfl (by decide) rfl ?_
        refine sp_aload_n (p2 := 8) rfl rfl rfl ?_
        refine st_get rfl (ob_ne (by decide) (ob_ne (by decide) g_23)) rfl ?_
        show Ev _ _ _ (11, _, _, _) _
        refine sp_iload_n (p2 := 12) rfl rfl rfl ?_
        refine sp_iconst (p2 := 13) (x := 0) rfl rfl (by decide) ?_
        refine st_iast (i := 34) rfl rfl (ia_ne (by decide) (ia_eq2 g_len (by decide))) rfl ?_
        show Ev _ _ _ (14, [(3, .ref 30), (0, .ref 17), (1, .ref 39), (2, .int 1)], [], (((g.set 34 (.inl (0, .inl ((([0, 0, 0, 0] : List Int32)).set 0 0)))).set 35 (.inl (0, .inl (([s1, s2, s3, s4]).set 0 (-1))))).set 34 (.inl (0, .inl (((([0, 0, 0, 0] : List Int32)).set 0 0).set 1 0))))) _
        refine sp_aload_n (p2 := 15) rfl rfl rfl ?_
        refine st_get rfl (ob_ne (by decide) (ob_ne (by decide) (ob_ne (by decide) g_23))) rfl ?_
        show Ev _ _ _ (18, _, _, _) _
        refine sp_iload_n (p2 := 19) rfl rfl rfl ?_
        refine sp_iconst (p2 := 20) (x := (-1)) rfl rfl (by decide) ?_
        refine st_iast (i := 35) rfl rfl (ia_ne (by decide) (ia_eq2 (sl_len g_len) (by decide))) rfl ?_
        show Ev _ _ _ (21, [(3, .ref 30), (0, .ref 17), (1, .ref 39), (2, .int 1)], [], ((((g.set 34 (.inl (0, .inl ((([0, 0, 0, 0] : List Int32)).set 0 0)))).set 35 (.inl (0, .inl (([s1, s2, s3, s4]).set 0 (-1))))).set 34 (.inl (0, .inl (((([0, 0, 0, 0] : List Int32)).set 0 0).set 1 0)))).set 35 (.inl (0, .inl ((([s1, s2, s3, s4]).set 0 (-1)).set 1 (-1)))))) _
        refine sp_iconst (p2 := 22) (x := 0) rfl rfl (by decide) ?_
        refine sp_istore (p2 := 24) (lv2 := [(4, .int 0), (3, .ref 30), (0, .ref 17), (1, .ref 39), (2, .int 1)]) rfl rfl (by decide) rfl ?_
        refine sp_iconst (p2 := 25) (x := 0) rfl rfl (by decide) ?_
        refine sp_istore (p2 := 27) (lv2 := [(5, .int 0), (4, .int 0), (3, .ref 30), (0, .ref 17), (1, .ref 39), (2, .int 1)]) rfl rfl (by decide) rfl ?_
        refine sp_iload (p2 := 29) rfl rfl rfl ?_
        refine sp_aload_n (p2 := 30) rfl rfl rfl ?_
        refine st_get rfl (ob_ne (by decide) (ob_ne (by decide) (ob_ne (by decide) (ob_ne (by decide) g_14)))) rfl ?_
        show Ev _ _ _ (33, _, _, _) _
        refine st_icmp (b := true) rfl (by decide) ?_
        show Ev _ _ _ (85, _, _, _) _
        refine sp_iload (p2 := 87) rfl rfl rfl ?_
        refine sp_aload_n (p2 := 88) rfl rfl rfl ?_
        refine st_get rfl (ob_ne (by decide) (ob_ne (by decide) (ob_ne (by decide) (ob_ne (by decide) g_23)))) rfl ?_
        show Ev _ _ _ (91, _, _, _) _
        refine sp_aload_n (p2 := 92) rfl rfl rfl ?_
        refine st_get rfl (ob_ne (by decide) (ob_ne (by decide) (ob_ne (by decide) (ob_ne (by decide) g_14)))) rfl ?_
        show Ev _ _ _ (95, _, _, _) _
        refine st_iald (x := 0) rfl (by decide) (ia_ne (by decide) (ia_ne (by decide) (ia_ne (by decide) (ia_ne (by decide) g_25)))) rfl rfl ?_
        show Ev _ _ _ (96, _, _, _) _
        refine sp_min (p2 := 99) (z := 0) rfl rfl rfl (by decide) ?_
        refine sp_istore (p2 := 101) (lv2 := [(5, .int 0), (4, .int 0), (3, .ref 30), (0, .ref 17), (1, .ref 39), (2, .int 1)]) rfl rfl (by decide) rfl ?_
        refine sp_iload (p2 := 103) rfl rfl rfl ?_
        refine st_ifc (b := true) rfl (by decide) ?_
        show Ev _ _ _ (122, _, _, _) _
        exact sp_vret rfl rfl
      refine st_callV (R := 17) rfl rfl rfl (ob_ne (by decide) (ob_ne (by decide) g_1)) rfl c2 ?_
      show Ev _ _ _ (13, [(2, .int 1), (0, .ref 17), (1, .ref 39)], [], ((((g.set 34 (.inl (0, .inl ((([0, 0, 0, 0] : List Int32)).set 0 0)))).set 35 (.inl (0, .inl (([s1, s2, s3, s4]).set 0 (-1))))).set 34 (.inl (0, .inl (((([0, 0, 0, 0] : List Int32)).set 0 0).set 1 0)))).set 35 (.inl (0, .inl ((([s1, s2, s3, s4]).set 0 (-1)).set 1 (-1)))))) _
      refine sp_iinc (p2 := 16) (y := 2) (lv2 := [(2, .int 2), (0, .ref 17), (1, .ref 39)]) rfl rfl (by decide) rfl (by decide) rfl ?_
      refine sp_goto rfl ?_
      refine sp_iload_n (p2 := 3) rfl rfl rfl ?_
      refine sp_iconst (p2 := 4) (x := 4) rfl rfl (by decide) ?_
      refine st_icmp (b := false) rfl (by decide) ?_
      show Ev _ _ _ (7, _, _, _) _
      refine sp_aload_n (p2 := 8) rfl rfl rfl ?_
      refine sp_aload_n (p2 := 9) rfl rfl rfl ?_
      refine sp_iload_n (p2 := 10) rfl rfl rfl ?_
      have c3 : Ca 18 8 [.ref 17, .ref 39, .int 2] ((((g.set 34 (.inl (0, .inl ((([0, 0, 0, 0] : List Int32)).set 0 0)))).set 35 (.inl (0, .inl (([s1, s2, s3, s4]).set 0 (-1))))).set 34 (.inl (0, .inl (((([0, 0, 0, 0] : List Int32)).set 0 0).set 1 0)))).set 35 (.inl (0, .inl ((([s1, s2, s3, s4]).set 0 (-1)).set 1 (-1))))) (none, ((((((g.set 34 (.inl (0, .inl ((([0, 0, 0, 0] : List Int32)).set 0 0)))).set 35 (.inl (0, .inl (([s1, s2, s3, s4]).set 0 (-1))))).set 34 (.inl (0, .inl (((([0, 0, 0, 0] : List Int32)).set 0 0).set 1 0)))).set 35 (.inl (0, .inl ((([s1, s2, s3, s4]).set 0 (-1)).set 1 (-1))))).set 34 (.inl (0, .inl ((((([0, 0, 0, 0] : List Int32)).set 0 0).set 1 0).set 2 0)))).set 35 (.inl (0, .inl (((([s1, s2, s3, s4]).set 0 (-1)).set 1 (-1)).set 2 (-1)))))) := by
        refine ca_of (d := 17) (M := mX0_workRow) rfl (Nat.le_of_ble_eq_true rfl) ?_
        show Ev im_K0 17 mX0_workRow (0, [(0, .ref 17), (1, .ref 39), (2, .int 2)], [], ((((g.set 34 (.inl (0, .inl ((([0, 0, 0, 0] : List Int32)).set 0 0)))).set 35 (.inl (0, .inl (([s1, s2, s3, s4]).set 0 (-1))))).set 34 (.inl (0, .inl (((([0, 0, 0, 0] : List Int32)).set 0 0).set 1 0)))).set 35 (.inl (0, .inl ((([s1, s2, s3, s4]).set 0 (-1)).set 1 (-1)))))) _
        refine sp_aload_n (p2 := 1) rfl rfl rfl ?_
        refine st_get rfl (ob_ne (by decide) (ob_ne (by decide) (ob_ne (by decide) (ob_ne (by decide) g_1)))) rfl ?_
        show Ev _ _ _ (4, _, _, _) _
        refine sp_iload_n (p2 := 5) rfl rfl rfl ?_
        refine st_aald (v := .ref 32) rfl (qa_ne (by decide) (qa_ne (by decide) (qa_ne (by decide) (qa_ne (by decide) g_7)))) (by decide) rfl ?_
        show Ev _ _ _ (6, _, _, _) _
        refine sp_astore_n (p2 := 7) (lv2 := [(3, .ref 32), (0, .ref 17), (1, .ref 39), (2, .int 2)]) rfl rfl (by decide) rfl ?_
        refine sp_aload_n (p2 := 8) rfl rfl rfl ?_
        refine st_get rfl (ob_ne (by decide) (ob_ne (by decide) (ob_ne (by decide) (ob_ne (by decide) g_23)))) rfl ?_
        show Ev _ _ _ (11, _, _, _) _
        refine sp_iload_n (p2 := 12) rfl rfl rfl ?_
        refine sp_iconst (p2 := 13) (x := 0) rfl rfl (by decide) ?_
        refine st_iast (i := 34) rfl rfl (ia_ne (by decide) (ia_eq2 (sl_len (sl_len g_len)) (by decide))) rfl ?_
        show Ev _ _ _ (14, [(3, .ref 32), (0, .ref 17), (1, .ref 39), (2, .int 2)], [], (((((g.set 34 (.inl (0, .inl ((([0, 0, 0, 0] : List Int32)).set 0 0)))).set 35 (.inl (0, .inl (([s1, s2, s3, s4]).set 0 (-1))))).set 34 (.inl (0, .inl (((([0, 0, 0, 0] : List Int32)).set 0 0).set 1 0)))).set 35 (.inl (0, .inl ((([s1, s2, s3, s4]).set 0 (-1)).set 1 (-1))))).set 34 (.inl (0, .inl ((((([0, 0, 0, 0] : List Int32)).set 0 0).set 1 0).set 2 0))))) _
        refine sp_aload_n (p2 := 15) rfl rfl rfl ?_
        refine st_get rfl (ob_ne (by decide) (ob_ne (by decide) (ob_ne (by decide) (ob_ne (by decide) (ob_ne (by decide) g_23))))) rfl ?_
        show Ev _ _ _ (18, _, _, _) _
        refine sp_iload_n (p2 := 19) rfl rfl rfl ?_
        refine sp_iconst (p2 := 20) (x := (-1)) rfl rfl (by decide) ?_
        refine st_iast (i := 35) rfl rfl (ia_ne (by decide) (ia_eq2 (sl_len (sl_len (sl_len g_len))) (by decide))) rfl ?_
        show Ev _ _ _ (21, [(3, .ref 32), (0, .ref 17), (1, .ref 39), (2, .int 2)], [], ((((((g.set 34 (.inl (0, .inl ((([0, 0, 0, 0] : List Int32)).set 0 0)))).set 35 (.inl (0, .inl (([s1, s2, s3, s4]).set 0 (-1))))).set 34 (.inl (0, .inl (((([0, 0, 0, 0] : List Int32)).set 0 0).set 1 0)))).set 35 (.inl (0, .inl ((([s1, s2, s3, s4]).set 0 (-1)).set 1 (-1))))).set 34 (.inl (0, .inl ((((([0, 0, 0, 0] : List Int32)).set 0 0).set 1 0).set 2 0)))).set 35 (.inl (0, .inl (((([s1, s2, s3, s4]).set 0 (-1)).set 1 (-1)).set 2 (-1)))))) _
        refine sp_iconst (p2 := 22) (x := 0) rfl rfl (by decide) ?_
        refine sp_istore (p2 := 24) (lv2 := [(4, .int 0), (3, .ref 32), (0, .ref 17), (1, .ref 39), (2, .int 2)]) rfl rfl (by decide) rfl ?_
        refine sp_iconst (p2 := 25) (x := 0) rfl rfl (by decide) ?_
        refine sp_istore (p2 := 27) (lv2 := [(5, .int 0), (4, .int 0), (3, .ref 32), (0, .ref 17), (1, .ref 39), (2, .int 2)]) rfl rfl (by decide) rfl ?_
        refine sp_iload (p2 := 29) rfl rfl rfl ?_
        refine sp_aload_n (p2 := 30) rfl rfl rfl ?_
        refine st_get rfl (ob_ne (by decide) (ob_ne (by decide) (ob_ne (by decide) (ob_ne (by decide) (ob_ne (by decide) (ob_ne (by decide) g_16)))))) rfl ?_
        show Ev _ _ _ (33, _, _, _) _
        refine st_icmp (b := true) rfl (by decide) ?_
        show Ev _ _ _ (85, _, _, _) _
        refine sp_iload (p2 := 87) rfl rfl rfl ?_
        refine sp_aload_n (p2 := 88) rfl rfl rfl ?_
        refine st_get rfl (ob_ne (by decide) (ob_ne (by decide) (ob_ne (by decide) (ob_ne (by decide) (ob_ne (by decide) (ob_ne (by decide) g_23)))))) rfl ?_
        show Ev _ _ _ (91, _, _, _) _
        refine sp_aload_n (p2 := 92) rfl rfl rfl ?_
        refine st_get rfl (ob_ne (by decide) (ob_ne (by decide) (ob_ne (by decide) (ob_ne (by decide) (ob_ne (by decide) (ob_ne (by decide) g_16)))))) rfl ?_
        show Ev _ _ _ (95, _, _, _) _
        refine st_iald (x := 0) rfl (by decide) (ia_ne (by decide) (ia_ne (by decide) (ia_ne (by decide) (ia_ne (by decide) (ia_ne (by decide) (ia_ne (by decide) g_25)))))) rfl rfl ?_
        show Ev _ _ _ (96, _, _, _) _
        refine sp_min (p2 := 99) (z := 0) rfl rfl rfl (by decide) ?_
        refine sp_istore (p2 := 101) (lv2 := [(5, .int 0), (4, .int 0), (3, .ref 32), (0, .ref 17), (1, .ref 39), (2, .int 2)]) rfl rfl (by decide) rfl ?_
        refine sp_iload (p2 := 103) rfl rfl rfl ?_
        refine st_ifc (b := true) rfl (by decide) ?_
        show Ev _ _ _ (122, _, _, _) _
        exact sp_vret rfl rfl
      refine st_callV (R := 17) rfl rfl rfl (ob_ne (by decide) (ob_ne (by decide) (ob_ne (by decide) (ob_ne (by decide) g_1)))) rfl c3 ?_
      show Ev _ _ _ (13, [(2, .int 2), (0, .ref 17), (1, .ref 39)], [], ((((((g.set 34 (.inl (0, .inl ((([0, 0, 0, 0] : List Int32)).set 0 0)))).set 35 (.inl (0, .inl (([s1, s2, s3, s4]).set 0 (-1))))).set 34 (.inl (0, .inl (((([0, 0, 0, 0] : List Int32)).set 0 0).set 1 0)))).set 35 (.inl (0, .inl ((([s1, s2, s3, s4]).set 0 (-1)).set 1 (-1))))).set 34 (.inl (0, .inl ((((([0, 0, 0, 0] : List Int32)).set 0 0).set 1 0).set 2 0)))).set 35 (.inl (0, .inl (((([s1, s2, s3, s4]).set 0 (-1)).set 1 (-1)).set 2 (-1)))))) _
      refine sp_iinc (p2 := 16) (y := 3) (lv2 := [(2, .int 3), (0, .ref 17), (1, .ref 39)]) rfl rfl (by decide) rfl (by decide) rfl ?_
      refine sp_goto rfl ?_
      refine sp_iload_n (p2 := 3) rfl rfl rfl ?_
      refine sp_iconst (p2 := 4) (x := 4) rfl rfl (by decide) ?_
      refine st_icmp (b := false) rfl (by decide) ?_
      show Ev _ _ _ (7, _, _, _) _
      refine sp_aload_n (p2 := 8) rfl rfl rfl ?_
      refine sp_aload_n (p2 := 9) rfl rfl rfl ?_
      refine sp_iload_n (p2 := 10) rfl rfl rfl ?_
      have c4 : Ca 18 8 [.ref 17, .ref 39, .int 3] ((((((g.set 34 (.inl (0, .inl ((([0, 0, 0, 0] : List Int32)).set 0 0)))).set 35 (.inl (0, .inl (([s1, s2, s3, s4]).set 0 (-1))))).set 34 (.inl (0, .inl (((([0, 0, 0, 0] : List Int32)).set 0 0).set 1 0)))).set 35 (.inl (0, .inl ((([s1, s2, s3, s4]).set 0 (-1)).set 1 (-1))))).set 34 (.inl (0, .inl ((((([0, 0, 0, 0] : List Int32)).set 0 0).set 1 0).set 2 0)))).set 35 (.inl (0, .inl (((([s1, s2, s3, s4]).set 0 (-1)).set 1 (-1)).set 2 (-1))))) (none, ((((((((g.set 34 (.inl (0, .inl ((([0, 0, 0, 0] : List Int32)).set 0 0)))).set 35 (.inl (0, .inl (([s1, s2, s3, s4]).set 0 (-1))))).set 34 (.inl (0, .inl (((([0, 0, 0, 0] : List Int32)).set 0 0).set 1 0)))).set 35 (.inl (0, .inl ((([s1, s2, s3, s4]).set 0 (-1)).set 1 (-1))))).set 34 (.inl (0, .inl ((((([0, 0, 0, 0] : List Int32)).set 0 0).set 1 0).set 2 0)))).set 35 (.inl (0, .inl (((([s1, s2, s3, s4]).set 0 (-1)).set 1 (-1)).set 2 (-1))))).set 34 (.inl (0, .inl (((((([0, 0, 0, 0] : List Int32)).set 0 0).set 1 0).set 2 0).set 3 0)))).set 35 (.inl (0, .inl ((((([s1, s2, s3, s4]).set 0 (-1)).set 1 (-1)).set 2 (-1)).set 3 (-1)))))) := by
        refine ca_of (d := 17) (M := mX0_workRow) rfl (Nat.le_of_ble_eq_true rfl) ?_
        show Ev im_K0 17 mX0_workRow (0, [(0, .ref 17), (1, .ref 39), (2, .int 3)], [], ((((((g.set 34 (.inl (0, .inl ((([0, 0, 0, 0] : List Int32)).set 0 0)))).set 35 (.inl (0, .inl (([s1, s2, s3, s4]).set 0 (-1))))).set 34 (.inl (0, .inl (((([0, 0, 0, 0] : List Int32)).set 0 0).set 1 0)))).set 35 (.inl (0, .inl ((([s1, s2, s3, s4]).set 0 (-1)).set 1 (-1))))).set 34 (.inl (0, .inl ((((([0, 0, 0, 0] : List Int32)).set 0 0).set 1 0).set 2 0)))).set 35 (.inl (0, .inl (((([s1, s2, s3, s4]).set 0 (-1)).set 1 (-1)).set 2 (-1)))))) _
        refine sp_aload_n (p2 := 1) rfl rfl rfl ?_
        refine st_get rfl (ob_ne (by decide) (ob_ne (by decide) (ob_ne (by decide) (ob_ne (by decide) (ob_ne (by decide) (ob_ne (by decide) g_1)))))) rfl ?_
        show Ev _ _ _ (4, _, _, _) _
        refine sp_iload_n (p2 := 5) rfl rfl rfl ?_
        refine st_aald (v := .ref 34) rfl (qa_ne (by decide) (qa_ne (by decide) (qa_ne (by decide) (qa_ne (by decide) (qa_ne (by decide) (qa_ne (by decide) g_7)))))) (by decide) rfl ?_
        show Ev _ _ _ (6, _, _, _) _
        refine sp_astore_n (p2 := 7) (lv2 := [(3, .ref 34), (0, .ref 17), (1, .ref 39), (2, .int 3)]) rfl rfl (by decide) rfl ?_
        refine sp_aload_n (p2 := 8) rfl rfl rfl ?_
        refine st_get rfl (ob_ne (by decide) (ob_ne (by decide) (ob_ne (by decide) (ob_ne (by decide) (ob_ne (by decide) (ob_ne (by decide) g_23)))))) rfl ?_
        show Ev _ _ _ (11, _, _, _) _
        refine sp_iload_n (p2 := 12) rfl rfl rfl ?_
        refine sp_iconst (p2 := 13) (x := 0) rfl rfl (by decide) ?_
        refine st_iast (i := 34) rfl rfl (ia_ne (by decide) (ia_eq2 (sl_len (sl_len (sl_len (sl_len g_len)))) (by decide))) rfl ?_
        show Ev _ _ _ (14, [(3, .ref 34), (0, .ref 17), (1, .ref 39), (2, .int 3)], [], (((((((g.set 34 (.inl (0, .inl ((([0, 0, 0, 0] : List Int32)).set 0 0)))).set 35 (.inl (0, .inl (([s1, s2, s3, s4]).set 0 (-1))))).set 34 (.inl (0, .inl (((([0, 0, 0, 0] : List Int32)).set 0 0).set 1 0)))).set 35 (.inl (0, .inl ((([s1, s2, s3, s4]).set 0 (-1)).set 1 (-1))))).set 34 (.inl (0, .inl ((((([0, 0, 0, 0] : List Int32)).set 0 0).set 1 0).set 2 0)))).set 35 (.inl (0, .inl (((([s1, s2, s3, s4]).set 0 (-1)).set 1 (-1)).set 2 (-1))))).set 34 (.inl (0, .inl (((((([0, 0, 0, 0] : List Int32)).set 0 0).set 1 0).set 2 0).set 3 0))))) _
        refine sp_aload_n (p2 := 15) rfl rfl rfl ?_
        refine st_get rfl (ob_ne (by decide) (ob_ne (by decide) (ob_ne (by decide) (ob_ne (by decide) (ob_ne (by decide) (ob_ne (by decide) (ob_ne (by decide) g_23))))))) rfl ?_
        show Ev _ _ _ (18, _, _, _) _
        refine sp_iload_n (p2 := 19) rfl rfl rfl ?_
        refine sp_iconst (p2 := 20) (x := (-1)) rfl rfl (by decide) ?_
        refine st_iast (i := 35) rfl rfl (ia_ne (by decide) (ia_eq2 (sl_len (sl_len (sl_len (sl_len (sl_len g_len))))) (by decide))) rfl ?_
        show Ev _ _ _ (21, [(3, .ref 34), (0, .ref 17), (1, .ref 39), (2, .int 3)], [], ((((((((g.set 34 (.inl (0, .inl ((([0, 0, 0, 0] : List Int32)).set 0 0)))).set 35 (.inl (0, .inl (([s1, s2, s3, s4]).set 0 (-1))))).set 34 (.inl (0, .inl (((([0, 0, 0, 0] : List Int32)).set 0 0).set 1 0)))).set 35 (.inl (0, .inl ((([s1, s2, s3, s4]).set 0 (-1)).set 1 (-1))))).set 34 (.inl (0, .inl ((((([0, 0, 0, 0] : List Int32)).set 0 0).set 1 0).set 2 0)))).set 35 (.inl (0, .inl (((([s1, s2, s3, s4]).set 0 (-1)).set 1 (-1)).set 2 (-1))))).set 34 (.inl (0, .inl (((((([0, 0, 0, 0] : List Int32)).set 0 0).set 1 0).set 2 0).set 3 0)))).set 35 (.inl (0, .inl ((((([s1, s2, s3, s4]).set 0 (-1)).set 1 (-1)).set 2 (-1)).set 3 (-1)))))) _
        refine sp_iconst (p2 := 22) (x := 0) rfl rfl (by decide) ?_
        refine sp_istore (p2 := 24) (lv2 := [(4, .int 0), (3, .ref 34), (0, .ref 17), (1, .ref 39), (2, .int 3)]) rfl rfl (by decide) rfl ?_
        refine sp_iconst (p2 := 25) (x := 0) rfl rfl (by decide) ?_
        refine sp_istore (p2 := 27) (lv2 := [(5, .int 0), (4, .int 0), (3, .ref 34), (0, .ref 17), (1, .ref 39), (2, .int 3)]) rfl rfl (by decide) rfl ?_
        refine sp_iload (p2 := 29) rfl rfl rfl ?_
        refine sp_aload_n (p2 := 30) rfl rfl rfl ?_
        refine st_get rfl (ob_ne (by decide) (ob_ne (by decide) (ob_ne (by decide) (ob_ne (by decide) (ob_ne (by decide) (ob_ne (by decide) (ob_ne (by decide) (ob_ne (by decide) g_18)))))))) rfl ?_
        show Ev _ _ _ (33, _, _, _) _
        refine st_icmp (b := true) rfl (by decide) ?_
        show Ev _ _ _ (85, _, _, _) _
        refine sp_iload (p2 := 87) rfl rfl rfl ?_
        refine sp_aload_n (p2 := 88) rfl rfl rfl ?_
        refine st_get rfl (ob_ne (by decide) (ob_ne (by decide) (ob_ne (by decide) (ob_ne (by decide) (ob_ne (by decide) (ob_ne (by decide) (ob_ne (by decide) (ob_ne (by decide) g_23)))))))) rfl ?_
        show Ev _ _ _ (91, _, _, _) _
        refine sp_aload_n (p2 := 92) rfl rfl rfl ?_
        refine st_get rfl (ob_ne (by decide) (ob_ne (by decide) (ob_ne (by decide) (ob_ne (by decide) (ob_ne (by decide) (ob_ne (by decide) (ob_ne (by decide) (ob_ne (by decide) g_18)))))))) rfl ?_
        show Ev _ _ _ (95, _, _, _) _
        refine st_iald (x := 0) rfl (by decide) (ia_ne (by decide) (ia_ne (by decide) (ia_ne (by decide) (ia_ne (by decide) (ia_ne (by decide) (ia_ne (by decide) (ia_ne (by decide) (ia_ne (by decide) g_25)))))))) rfl rfl ?_
        show Ev _ _ _ (96, _, _, _) _
        refine sp_min (p2 := 99) (z := 0) rfl rfl rfl (by decide) ?_
        refine sp_istore (p2 := 101) (lv2 := [(5, .int 0), (4, .int 0), (3, .ref 34), (0, .ref 17), (1, .ref 39), (2, .int 3)]) rfl rfl (by decide) rfl ?_
        refine sp_iload (p2 := 103) rfl rfl rfl ?_
        refine st_ifc (b := true) rfl (by decide) ?_
        show Ev _ _ _ (122, _, _, _) _
        exact sp_vret rfl rfl
      refine st_callV (R := 17) rfl rfl rfl (ob_ne (by decide) (ob_ne (by decide) (ob_ne (by decide) (ob_ne (by decide) (ob_ne (by decide) (ob_ne (by decide) g_1)))))) rfl c4 ?_
      show Ev _ _ _ (13, [(2, .int 3), (0, .ref 17), (1, .ref 39)], [], ((((((((g.set 34 (.inl (0, .inl ((([0, 0, 0, 0] : List Int32)).set 0 0)))).set 35 (.inl (0, .inl (([s1, s2, s3, s4]).set 0 (-1))))).set 34 (.inl (0, .inl (((([0, 0, 0, 0] : List Int32)).set 0 0).set 1 0)))).set 35 (.inl (0, .inl ((([s1, s2, s3, s4]).set 0 (-1)).set 1 (-1))))).set 34 (.inl (0, .inl ((((([0, 0, 0, 0] : List Int32)).set 0 0).set 1 0).set 2 0)))).set 35 (.inl (0, .inl (((([s1, s2, s3, s4]).set 0 (-1)).set 1 (-1)).set 2 (-1))))).set 34 (.inl (0, .inl (((((([0, 0, 0, 0] : List Int32)).set 0 0).set 1 0).set 2 0).set 3 0)))).set 35 (.inl (0, .inl ((((([s1, s2, s3, s4]).set 0 (-1)).set 1 (-1)).set 2 (-1)).set 3 (-1)))))) _
      refine sp_iinc (p2 := 16) (y := 4) (lv2 := [(2, .int 4), (0, .ref 17), (1, .ref 39)]) rfl rfl (by decide) rfl (by decide) rfl ?_
      refine sp_goto rfl ?_
      refine sp_iload_n (p2 := 3) rfl rfl rfl ?_
      refine sp_iconst (p2 := 4) (x := 4) rfl rfl (by decide) ?_
      refine st_icmp (b := true) rfl (by decide) ?_
      show Ev _ _ _ (19, _, _, _) _
      refine sp_iconst (p2 := 20) (x := 0) rfl rfl (by decide) ?_
      refine sp_istore_n (p2 := 21) (lv2 := [(2, .int 0), (0, .ref 17), (1, .ref 39)]) rfl rfl (by decide) rfl ?_
      refine sp_iload_n (p2 := 22) rfl rfl rfl ?_
      refine sp_iconst (p2 := 23) (x := 3) rfl rfl (by decide) ?_
      refine st_icmp (b := false) rfl (by decide) ?_
      show Ev _ _ _ (26, _, _, _) _
      refine sp_aload_n (p2 := 27) rfl rfl rfl ?_
      refine sp_aload_n (p2 := 28) rfl rfl rfl ?_
      refine sp_iload_n (p2 := 29) rfl rfl rfl ?_
      have c5 : Ca 18 11 [.ref 17, .ref 39, .int 0] ((((((((g.set 34 (.inl (0, .inl ((([0, 0, 0, 0] : List Int32)).set 0 0)))).set 35 (.inl (0, .inl (([s1, s2, s3, s4]).set 0 (-1))))).set 34 (.inl (0, .inl (((([0, 0, 0, 0] : List Int32)).set 0 0).set 1 0)))).set 35 (.inl (0, .inl ((([s1, s2, s3, s4]).set 0 (-1)).set 1 (-1))))).set 34 (.inl (0, .inl ((((([0, 0, 0, 0] : List Int32)).set 0 0).set 1 0).set 2 0)))).set 35 (.inl (0, .inl (((([s1, s2, s3, s4]).set 0 (-1)).set 1 (-1)).set 2 (-1))))).set 34 (.inl (0, .inl (((((([0, 0, 0, 0] : List Int32)).set 0 0).set 1 0).set 2 0).set 3 0)))).set 35 (.inl (0, .inl ((((([s1, s2, s3, s4]).set 0 (-1)).set 1 (-1)).set 2 (-1)).set 3 (-1))))) (none, (((((((((g.set 34 (.inl (0, .inl ((([0, 0, 0, 0] : List Int32)).set 0 0)))).set 35 (.inl (0, .inl (([s1, s2, s3, s4]).set 0 (-1))))).set 34 (.inl (0, .inl (((([0, 0, 0, 0] : List Int32)).set 0 0).set 1 0)))).set 35 (.inl (0, .inl ((([s1, s2, s3, s4]).set 0 (-1)).set 1 (-1))))).set 34 (.inl (0, .inl ((((([0, 0, 0, 0] : List Int32)).set 0 0).set 1 0).set 2 0)))).set 35 (.inl (0, .inl (((([s1, s2, s3, s4]).set 0 (-1)).set 1 (-1)).set 2 (-1))))).set 34 (.inl (0, .inl (((((([0, 0, 0, 0] : List Int32)).set 0 0).set 1 0).set 2 0).set 3 0)))).set 35 (.inl (0, .inl ((((([s1, s2, s3, s4]).set 0 (-1)).set 1 (-1)).set 2 (-1)).set 3 (-1))))).set 36 (.inl (0, .inl ((([0, 0, 0] : List Int32)).set 0 0))))) := by
        refine ca_of (d := 17) (M := mX0_driveRail) rfl (Nat.le_of_ble_eq_true rfl) ?_
        show Ev im_K0 17 mX0_driveRail (0, [(0, .ref 17), (1, .ref 39), (2, .int 0)], [], ((((((((g.set 34 (.inl (0, .inl ((([0, 0, 0, 0] : List Int32)).set 0 0)))).set 35 (.inl (0, .inl (([s1, s2, s3, s4]).set 0 (-1))))).set 34 (.inl (0, .inl (((([0, 0, 0, 0] : List Int32)).set 0 0).set 1 0)))).set 35 (.inl (0, .inl ((([s1, s2, s3, s4]).set 0 (-1)).set 1 (-1))))).set 34 (.inl (0, .inl ((((([0, 0, 0, 0] : List Int32)).set 0 0).set 1 0).set 2 0)))).set 35 (.inl (0, .inl (((([s1, s2, s3, s4]).set 0 (-1)).set 1 (-1)).set 2 (-1))))).set 34 (.inl (0, .inl (((((([0, 0, 0, 0] : List Int32)).set 0 0).set 1 0).set 2 0).set 3 0)))).set 35 (.inl (0, .inl ((((([s1, s2, s3, s4]).set 0 (-1)).set 1 (-1)).set 2 (-1)).set 3 (-1)))))) _
        refine sp_aload_n (p2 := 1) rfl rfl rfl ?_
        refine st_get rfl (ob_ne (by decide) (ob_ne (by decide) (ob_ne (by decide) (ob_ne (by decide) (ob_ne (by decide) (ob_ne (by decide) (ob_ne (by decide) (ob_ne (by decide) g_1)))))))) rfl ?_
        show Ev _ _ _ (4, _, _, _) _
        refine sp_iload_n (p2 := 5) rfl rfl rfl ?_
        refine st_aald (v := .ref 36) rfl (qa_ne (by decide) (qa_ne (by decide) (qa_ne (by decide) (qa_ne (by decide) (qa_ne (by decide) (qa_ne (by decide) (qa_ne (by decide) (qa_ne (by decide) g_8)))))))) (by decide) rfl ?_
        show Ev _ _ _ (6, _, _, _) _
        refine sp_astore_n (p2 := 7) (lv2 := [(3, .ref 36), (0, .ref 17), (1, .ref 39), (2, .int 0)]) rfl rfl (by decide) rfl ?_
        refine sp_aload_n (p2 := 8) rfl rfl rfl ?_
        refine st_get rfl (ob_ne (by decide) (ob_ne (by decide) (ob_ne (by decide) (ob_ne (by decide) (ob_ne (by decide) (ob_ne (by decide) (ob_ne (by decide) (ob_ne (by decide) g_23)))))))) rfl ?_
        show Ev _ _ _ (11, _, _, _) _
        refine sp_iload_n (p2 := 12) rfl rfl rfl ?_
        refine sp_iconst (p2 := 13) (x := 0) rfl rfl (by decide) ?_
        refine st_iast (i := 36) rfl rfl (ia_ne (by decide) (ia_ne (by decide) (ia_ne (by decide) (ia_ne (by decide) (ia_ne (by decide) (ia_ne (by decide) (ia_ne (by decide) (ia_ne (by decide) g_36)))))))) rfl ?_
        show Ev _ _ _ (14, [(3, .ref 36), (0, .ref 17), (1, .ref 39), (2, .int 0)], [], (((((((((g.set 34 (.inl (0, .inl ((([0, 0, 0, 0] : List Int32)).set 0 0)))).set 35 (.inl (0, .inl (([s1, s2, s3, s4]).set 0 (-1))))).set 34 (.inl (0, .inl (((([0, 0, 0, 0] : List Int32)).set 0 0).set 1 0)))).set 35 (.inl (0, .inl ((([s1, s2, s3, s4]).set 0 (-1)).set 1 (-1))))).set 34 (.inl (0, .inl ((((([0, 0, 0, 0] : List Int32)).set 0 0).set 1 0).set 2 0)))).set 35 (.inl (0, .inl (((([s1, s2, s3, s4]).set 0 (-1)).set 1 (-1)).set 2 (-1))))).set 34 (.inl (0, .inl (((((([0, 0, 0, 0] : List Int32)).set 0 0).set 1 0).set 2 0).set 3 0)))).set 35 (.inl (0, .inl ((((([s1, s2, s3, s4]).set 0 (-1)).set 1 (-1)).set 2 (-1)).set 3 (-1))))).set 36 (.inl (0, .inl ((([0, 0, 0] : List Int32)).set 0 0))))) _
        refine sp_aload_n (p2 := 15) rfl rfl rfl ?_
        refine st_get rfl (ob_ne (by decide) (ob_ne (by decide) (ob_ne (by decide) (ob_ne (by decide) (ob_ne (by decide) (ob_ne (by decide) (ob_ne (by decide) (ob_ne (by decide) (ob_ne (by decide) g_20))))))))) rfl ?_
        show Ev _ _ _ (18, _, _, _) _
        refine sp_iconst (p2 := 19) (x := 2) rfl rfl (by decide) ?_
        refine st_icmp (b := false) rfl (by decide) ?_
        show Ev _ _ _ (22, _, _, _) _
        exact sp_vret rfl rfl
      refine st_callV (R := 17) rfl rfl rfl (ob_ne (by decide) (ob_ne (by decide) (ob_ne (by decide) (ob_ne (by decide) (ob_ne (by decide) (ob_ne (by decide) (ob_ne (by decide) (ob_ne (by decide) g_1)))))))) rfl c5 ?_
      show Ev _ _ _ (32, [(2, .int 0), (0, .ref 17), (1, .ref 39)], [], (((((((((g.set 34 (.inl (0, .inl ((([0, 0, 0, 0] : List Int32)).set 0 0)))).set 35 (.inl (0, .inl (([s1, s2, s3, s4]).set 0 (-1))))).set 34 (.inl (0, .inl (((([0, 0, 0, 0] : List Int32)).set 0 0).set 1 0)))).set 35 (.inl (0, .inl ((([s1, s2, s3, s4]).set 0 (-1)).set 1 (-1))))).set 34 (.inl (0, .inl ((((([0, 0, 0, 0] : List Int32)).set 0 0).set 1 0).set 2 0)))).set 35 (.inl (0, .inl (((([s1, s2, s3, s4]).set 0 (-1)).set 1 (-1)).set 2 (-1))))).set 34 (.inl (0, .inl (((((([0, 0, 0, 0] : List Int32)).set 0 0).set 1 0).set 2 0).set 3 0)))).set 35 (.inl (0, .inl ((((([s1, s2, s3, s4]).set 0 (-1)).set 1 (-1)).set 2 (-1)).set 3 (-1))))).set 36 (.inl (0, .inl ((([0, 0, 0] : List Int32)).set 0 0))))) _
      refine sp_iinc (p2 := 35) (y := 1) (lv2 := [(2, .int 1), (0, .ref 17), (1, .ref 39)]) rfl rfl (by decide) rfl (by decide) rfl ?_
      refine sp_goto rfl ?_
      refine sp_iload_n (p2 := 22) rfl rfl rfl ?_
      refine sp_iconst (p2 := 23) (x := 3) rfl rfl (by decide) ?_
      refine st_icmp (b := false) rfl (by decide) ?_
      show Ev _ _ _ (26, _, _, _) _
      refine sp_aload_n (p2 := 27) rfl rfl rfl ?_
      refine sp_aload_n (p2 := 28) rfl rfl rfl ?_
      refine sp_iload_n (p2 := 29) rfl rfl rfl ?_
      have c6 : Ca 18 11 [.ref 17, .ref 39, .int 1] (((((((((g.set 34 (.inl (0, .inl ((([0, 0, 0, 0] : List Int32)).set 0 0)))).set 35 (.inl (0, .inl (([s1, s2, s3, s4]).set 0 (-1))))).set 34 (.inl (0, .inl (((([0, 0, 0, 0] : List Int32)).set 0 0).set 1 0)))).set 35 (.inl (0, .inl ((([s1, s2, s3, s4]).set 0 (-1)).set 1 (-1))))).set 34 (.inl (0, .inl ((((([0, 0, 0, 0] : List Int32)).set 0 0).set 1 0).set 2 0)))).set 35 (.inl (0, .inl (((([s1, s2, s3, s4]).set 0 (-1)).set 1 (-1)).set 2 (-1))))).set 34 (.inl (0, .inl (((((([0, 0, 0, 0] : List Int32)).set 0 0).set 1 0).set 2 0).set 3 0)))).set 35 (.inl (0, .inl ((((([s1, s2, s3, s4]).set 0 (-1)).set 1 (-1)).set 2 (-1)).set 3 (-1))))).set 36 (.inl (0, .inl ((([0, 0, 0] : List Int32)).set 0 0)))) (none, ((((((((((g.set 34 (.inl (0, .inl ((([0, 0, 0, 0] : List Int32)).set 0 0)))).set 35 (.inl (0, .inl (([s1, s2, s3, s4]).set 0 (-1))))).set 34 (.inl (0, .inl (((([0, 0, 0, 0] : List Int32)).set 0 0).set 1 0)))).set 35 (.inl (0, .inl ((([s1, s2, s3, s4]).set 0 (-1)).set 1 (-1))))).set 34 (.inl (0, .inl ((((([0, 0, 0, 0] : List Int32)).set 0 0).set 1 0).set 2 0)))).set 35 (.inl (0, .inl (((([s1, s2, s3, s4]).set 0 (-1)).set 1 (-1)).set 2 (-1))))).set 34 (.inl (0, .inl (((((([0, 0, 0, 0] : List Int32)).set 0 0).set 1 0).set 2 0).set 3 0)))).set 35 (.inl (0, .inl ((((([s1, s2, s3, s4]).set 0 (-1)).set 1 (-1)).set 2 (-1)).set 3 (-1))))).set 36 (.inl (0, .inl ((([0, 0, 0] : List Int32)).set 0 0)))).set 36 (.inl (0, .inl (((([0, 0, 0] : List Int32)).set 0 0).set 1 0))))) := by
        refine ca_of (d := 17) (M := mX0_driveRail) rfl (Nat.le_of_ble_eq_true rfl) ?_
        show Ev im_K0 17 mX0_driveRail (0, [(0, .ref 17), (1, .ref 39), (2, .int 1)], [], (((((((((g.set 34 (.inl (0, .inl ((([0, 0, 0, 0] : List Int32)).set 0 0)))).set 35 (.inl (0, .inl (([s1, s2, s3, s4]).set 0 (-1))))).set 34 (.inl (0, .inl (((([0, 0, 0, 0] : List Int32)).set 0 0).set 1 0)))).set 35 (.inl (0, .inl ((([s1, s2, s3, s4]).set 0 (-1)).set 1 (-1))))).set 34 (.inl (0, .inl ((((([0, 0, 0, 0] : List Int32)).set 0 0).set 1 0).set 2 0)))).set 35 (.inl (0, .inl (((([s1, s2, s3, s4]).set 0 (-1)).set 1 (-1)).set 2 (-1))))).set 34 (.inl (0, .inl (((((([0, 0, 0, 0] : List Int32)).set 0 0).set 1 0).set 2 0).set 3 0)))).set 35 (.inl (0, .inl ((((([s1, s2, s3, s4]).set 0 (-1)).set 1 (-1)).set 2 (-1)).set 3 (-1))))).set 36 (.inl (0, .inl ((([0, 0, 0] : List Int32)).set 0 0))))) _
        refine sp_aload_n (p2 := 1) rfl rfl rfl ?_
        refine st_get rfl (ob_ne (by decide) (ob_ne (by decide) (ob_ne (by decide) (ob_ne (by decide) (ob_ne (by decide) (ob_ne (by decide) (ob_ne (by decide) (ob_ne (by decide) (ob_ne (by decide) g_1))))))))) rfl ?_
        show Ev _ _ _ (4, _, _, _) _
        refine sp_iload_n (p2 := 5) rfl rfl rfl ?_
        refine st_aald (v := .ref 37) rfl (qa_ne (by decide) (qa_ne (by decide) (qa_ne (by decide) (qa_ne (by decide) (qa_ne (by decide) (qa_ne (by decide) (qa_ne (by decide) (qa_ne (by decide) (qa_ne (by decide) g_8))))))))) (by decide) rfl ?_
        show Ev _ _ _ (6, _, _, _) _
        refine sp_astore_n (p2 := 7) (lv2 := [(3, .ref 37), (0, .ref 17), (1, .ref 39), (2, .int 1)]) rfl rfl (by decide) rfl ?_
        refine sp_aload_n (p2 := 8) rfl rfl rfl ?_
        refine st_get rfl (ob_ne (by decide) (ob_ne (by decide) (ob_ne (by decide) (ob_ne (by decide) (ob_ne (by decide) (ob_ne (by decide) (ob_ne (by decide) (ob_ne (by decide) (ob_ne (by decide) g_23))))))))) rfl ?_
        show Ev _ _ _ (11, _, _, _) _
        refine sp_iload_n (p2 := 12) rfl rfl rfl ?_
        refine sp_iconst (p2 := 13) (x := 0) rfl rfl (by decide) ?_
        refine st_iast (i := 36) rfl rfl (ia_eq2 (sl_len (sl_len (sl_len (sl_len (sl_len (sl_len (sl_len (sl_len g_len)))))))) (by decide)) rfl ?_
        show Ev _ _ _ (14, [(3, .ref 37), (0, .ref 17), (1, .ref 39), (2, .int 1)], [], ((((((((((g.set 34 (.inl (0, .inl ((([0, 0, 0, 0] : List Int32)).set 0 0)))).set 35 (.inl (0, .inl (([s1, s2, s3, s4]).set 0 (-1))))).set 34 (.inl (0, .inl (((([0, 0, 0, 0] : List Int32)).set 0 0).set 1 0)))).set 35 (.inl (0, .inl ((([s1, s2, s3, s4]).set 0 (-1)).set 1 (-1))))).set 34 (.inl (0, .inl ((((([0, 0, 0, 0] : List Int32)).set 0 0).set 1 0).set 2 0)))).set 35 (.inl (0, .inl (((([s1, s2, s3, s4]).set 0 (-1)).set 1 (-1)).set 2 (-1))))).set 34 (.inl (0, .inl (((((([0, 0, 0, 0] : List Int32)).set 0 0).set 1 0).set 2 0).set 3 0)))).set 35 (.inl (0, .inl ((((([s1, s2, s3, s4]).set 0 (-1)).set 1 (-1)).set 2 (-1)).set 3 (-1))))).set 36 (.inl (0, .inl ((([0, 0, 0] : List Int32)).set 0 0)))).set 36 (.inl (0, .inl (((([0, 0, 0] : List Int32)).set 0 0).set 1 0))))) _
        refine sp_aload_n (p2 := 15) rfl rfl rfl ?_
        refine st_get rfl (ob_ne (by decide) (ob_ne (by decide) (ob_ne (by decide) (ob_ne (by decide) (ob_ne (by decide) (ob_ne (by decide) (ob_ne (by decide) (ob_ne (by decide) (ob_ne (by decide) (ob_ne (by decide) g_21)))))))))) rfl ?_
        show Ev _ _ _ (18, _, _, _) _
        refine sp_iconst (p2 := 19) (x := 2) rfl rfl (by decide) ?_
        refine st_icmp (b := false) rfl (by decide) ?_
        show Ev _ _ _ (22, _, _, _) _
        exact sp_vret rfl rfl
      refine st_callV (R := 17) rfl rfl rfl (ob_ne (by decide) (ob_ne (by decide) (ob_ne (by decide) (ob_ne (by decide) (ob_ne (by decide) (ob_ne (by decide) (ob_ne (by decide) (ob_ne (by decide) (ob_ne (by decide) g_1))))))))) rfl c6 ?_
      show Ev _ _ _ (32, [(2, .int 1), (0, .ref 17), (1, .ref 39)], [], ((((((((((g.set 34 (.inl (0, .inl ((([0, 0, 0, 0] : List Int32)).set 0 0)))).set 35 (.inl (0, .inl (([s1, s2, s3, s4]).set 0 (-1))))).set 34 (.inl (0, .inl (((([0, 0, 0, 0] : List Int32)).set 0 0).set 1 0)))).set 35 (.inl (0, .inl ((([s1, s2, s3, s4]).set 0 (-1)).set 1 (-1))))).set 34 (.inl (0, .inl ((((([0, 0, 0, 0] : List Int32)).set 0 0).set 1 0).set 2 0)))).set 35 (.inl (0, .inl (((([s1, s2, s3, s4]).set 0 (-1)).set 1 (-1)).set 2 (-1))))).set 34 (.inl (0, .inl (((((([0, 0, 0, 0] : List Int32)).set 0 0).set 1 0).set 2 0).set 3 0)))).set 35 (.inl (0, .inl ((((([s1, s2, s3, s4]).set 0 (-1)).set 1 (-1)).set 2 (-1)).set 3 (-1))))).set 36 (.inl (0, .inl ((([0, 0, 0] : List Int32)).set 0 0)))).set 36 (.inl (0, .inl (((([0, 0, 0] : List Int32)).set 0 0).set 1 0))))) _
      refine sp_iinc (p2 := 35) (y := 2) (lv2 := [(2, .int 2), (0, .ref 17), (1, .ref 39)]) rfl rfl (by decide) rfl (by decide) rfl ?_
      refine sp_goto rfl ?_
      refine sp_iload_n (p2 := 22) rfl rfl rfl ?_
      refine sp_iconst (p2 := 23) (x := 3) rfl rfl (by decide) ?_
      refine st_icmp (b := false) rfl (by decide) ?_
      show Ev _ _ _ (26, _, _, _) _
      refine sp_aload_n (p2 := 27) rfl rfl rfl ?_
      refine sp_aload_n (p2 := 28) rfl rfl rfl ?_
      refine sp_iload_n (p2 := 29) rfl rfl rfl ?_
      have c7 : Ca 18 11 [.ref 17, .ref 39, .int 2] ((((((((((g.set 34 (.inl (0, .inl ((([0, 0, 0, 0] : List Int32)).set 0 0)))).set 35 (.inl (0, .inl (([s1, s2, s3, s4]).set 0 (-1))))).set 34 (.inl (0, .inl (((([0, 0, 0, 0] : List Int32)).set 0 0).set 1 0)))).set 35 (.inl (0, .inl ((([s1, s2, s3, s4]).set 0 (-1)).set 1 (-1))))).set 34 (.inl (0, .inl ((((([0, 0, 0, 0] : List Int32)).set 0 0).set 1 0).set 2 0)))).set 35 (.inl (0, .inl (((([s1, s2, s3, s4]).set 0 (-1)).set 1 (-1)).set 2 (-1))))).set 34 (.inl (0, .inl (((((([0, 0, 0, 0] : List Int32)).set 0 0).set 1 0).set 2 0).set 3 0)))).set 35 (.inl (0, .inl ((((([s1, s2, s3, s4]).set 0 (-1)).set 1 (-1)).set 2 (-1)).set 3 (-1))))).set 36 (.inl (0, .inl ((([0, 0, 0] : List Int32)).set 0 0)))).set 36 (.inl (0, .inl (((([0, 0, 0] : List Int32)).set 0 0).set 1 0)))) (none, (((((((((((g.set 34 (.inl (0, .inl ((([0, 0, 0, 0] : List Int32)).set 0 0)))).set 35 (.inl (0, .inl (([s1, s2, s3, s4]).set 0 (-1))))).set 34 (.inl (0, .inl (((([0, 0, 0, 0] : List Int32)).set 0 0).set 1 0)))).set 35 (.inl (0, .inl ((([s1, s2, s3, s4]).set 0 (-1)).set 1 (-1))))).set 34 (.inl (0, .inl ((((([0, 0, 0, 0] : List Int32)).set 0 0).set 1 0).set 2 0)))).set 35 (.inl (0, .inl (((([s1, s2, s3, s4]).set 0 (-1)).set 1 (-1)).set 2 (-1))))).set 34 (.inl (0, .inl (((((([0, 0, 0, 0] : List Int32)).set 0 0).set 1 0).set 2 0).set 3 0)))).set 35 (.inl (0, .inl ((((([s1, s2, s3, s4]).set 0 (-1)).set 1 (-1)).set 2 (-1)).set 3 (-1))))).set 36 (.inl (0, .inl ((([0, 0, 0] : List Int32)).set 0 0)))).set 36 (.inl (0, .inl (((([0, 0, 0] : List Int32)).set 0 0).set 1 0)))).set 36 (.inl (0, .inl ((((([0, 0, 0] : List Int32)).set 0 0).set 1 0).set 2 0))))) := by
        refine ca_of (d := 17) (M := mX0_driveRail) rfl (Nat.le_of_ble_eq_true rfl) ?_
        show Ev im_K0 17 mX0_driveRail (0, [(0, .ref 17), (1, .ref 39), (2, .int 2)], [], ((((((((((g.set 34 (.inl (0, .inl ((([0, 0, 0, 0] : List Int32)).set 0 0)))).set 35 (.inl (0, .inl (([s1, s2, s3, s4]).set 0 (-1))))).set 34 (.inl (0, .inl (((([0, 0, 0, 0] : List Int32)).set 0 0).set 1 0)))).set 35 (.inl (0, .inl ((([s1, s2, s3, s4]).set 0 (-1)).set 1 (-1))))).set 34 (.inl (0, .inl ((((([0, 0, 0, 0] : List Int32)).set 0 0).set 1 0).set 2 0)))).set 35 (.inl (0, .inl (((([s1, s2, s3, s4]).set 0 (-1)).set 1 (-1)).set 2 (-1))))).set 34 (.inl (0, .inl (((((([0, 0, 0, 0] : List Int32)).set 0 0).set 1 0).set 2 0).set 3 0)))).set 35 (.inl (0, .inl ((((([s1, s2, s3, s4]).set 0 (-1)).set 1 (-1)).set 2 (-1)).set 3 (-1))))).set 36 (.inl (0, .inl ((([0, 0, 0] : List Int32)).set 0 0)))).set 36 (.inl (0, .inl (((([0, 0, 0] : List Int32)).set 0 0).set 1 0))))) _
        refine sp_aload_n (p2 := 1) rfl rfl rfl ?_
        refine st_get rfl (ob_ne (by decide) (ob_ne (by decide) (ob_ne (by decide) (ob_ne (by decide) (ob_ne (by decide) (ob_ne (by decide) (ob_ne (by decide) (ob_ne (by decide) (ob_ne (by decide) (ob_ne (by decide) g_1)))))))))) rfl ?_
        show Ev _ _ _ (4, _, _, _) _
        refine sp_iload_n (p2 := 5) rfl rfl rfl ?_
        refine st_aald (v := .ref 38) rfl (qa_ne (by decide) (qa_ne (by decide) (qa_ne (by decide) (qa_ne (by decide) (qa_ne (by decide) (qa_ne (by decide) (qa_ne (by decide) (qa_ne (by decide) (qa_ne (by decide) (qa_ne (by decide) g_8)))))))))) (by decide) rfl ?_
        show Ev _ _ _ (6, _, _, _) _
        refine sp_astore_n (p2 := 7) (lv2 := [(3, .ref 38), (0, .ref 17), (1, .ref 39), (2, .int 2)]) rfl rfl (by decide) rfl ?_
        refine sp_aload_n (p2 := 8) rfl rfl rfl ?_
        refine st_get rfl (ob_ne (by decide) (ob_ne (by decide) (ob_ne (by decide) (ob_ne (by decide) (ob_ne (by decide) (ob_ne (by decide) (ob_ne (by decide) (ob_ne (by decide) (ob_ne (by decide) (ob_ne (by decide) g_23)))))))))) rfl ?_
        show Ev _ _ _ (11, _, _, _) _
        refine sp_iload_n (p2 := 12) rfl rfl rfl ?_
        refine sp_iconst (p2 := 13) (x := 0) rfl rfl (by decide) ?_
        refine st_iast (i := 36) rfl rfl (ia_eq2 (sl_len (sl_len (sl_len (sl_len (sl_len (sl_len (sl_len (sl_len (sl_len g_len))))))))) (by decide)) rfl ?_
        show Ev _ _ _ (14, [(3, .ref 38), (0, .ref 17), (1, .ref 39), (2, .int 2)], [], (((((((((((g.set 34 (.inl (0, .inl ((([0, 0, 0, 0] : List Int32)).set 0 0)))).set 35 (.inl (0, .inl (([s1, s2, s3, s4]).set 0 (-1))))).set 34 (.inl (0, .inl (((([0, 0, 0, 0] : List Int32)).set 0 0).set 1 0)))).set 35 (.inl (0, .inl ((([s1, s2, s3, s4]).set 0 (-1)).set 1 (-1))))).set 34 (.inl (0, .inl ((((([0, 0, 0, 0] : List Int32)).set 0 0).set 1 0).set 2 0)))).set 35 (.inl (0, .inl (((([s1, s2, s3, s4]).set 0 (-1)).set 1 (-1)).set 2 (-1))))).set 34 (.inl (0, .inl (((((([0, 0, 0, 0] : List Int32)).set 0 0).set 1 0).set 2 0).set 3 0)))).set 35 (.inl (0, .inl ((((([s1, s2, s3, s4]).set 0 (-1)).set 1 (-1)).set 2 (-1)).set 3 (-1))))).set 36 (.inl (0, .inl ((([0, 0, 0] : List Int32)).set 0 0)))).set 36 (.inl (0, .inl (((([0, 0, 0] : List Int32)).set 0 0).set 1 0)))).set 36 (.inl (0, .inl ((((([0, 0, 0] : List Int32)).set 0 0).set 1 0).set 2 0))))) _
        refine sp_aload_n (p2 := 15) rfl rfl rfl ?_
        refine st_get rfl (ob_ne (by decide) (ob_ne (by decide) (ob_ne (by decide) (ob_ne (by decide) (ob_ne (by decide) (ob_ne (by decide) (ob_ne (by decide) (ob_ne (by decide) (ob_ne (by decide) (ob_ne (by decide) (ob_ne (by decide) g_22))))))))))) rfl ?_
        show Ev _ _ _ (18, _, _, _) _
        refine sp_iconst (p2 := 19) (x := 2) rfl rfl (by decide) ?_
        refine st_icmp (b := false) rfl (by decide) ?_
        show Ev _ _ _ (22, _, _, _) _
        exact sp_vret rfl rfl
      refine st_callV (R := 17) rfl rfl rfl (ob_ne (by decide) (ob_ne (by decide) (ob_ne (by decide) (ob_ne (by decide) (ob_ne (by decide) (ob_ne (by decide) (ob_ne (by decide) (ob_ne (by decide) (ob_ne (by decide) (ob_ne (by decide) g_1)))))))))) rfl c7 ?_
      show Ev _ _ _ (32, [(2, .int 2), (0, .ref 17), (1, .ref 39)], [], (((((((((((g.set 34 (.inl (0, .inl ((([0, 0, 0, 0] : List Int32)).set 0 0)))).set 35 (.inl (0, .inl (([s1, s2, s3, s4]).set 0 (-1))))).set 34 (.inl (0, .inl (((([0, 0, 0, 0] : List Int32)).set 0 0).set 1 0)))).set 35 (.inl (0, .inl ((([s1, s2, s3, s4]).set 0 (-1)).set 1 (-1))))).set 34 (.inl (0, .inl ((((([0, 0, 0, 0] : List Int32)).set 0 0).set 1 0).set 2 0)))).set 35 (.inl (0, .inl (((([s1, s2, s3, s4]).set 0 (-1)).set 1 (-1)).set 2 (-1))))).set 34 (.inl (0, .inl (((((([0, 0, 0, 0] : List Int32)).set 0 0).set 1 0).set 2 0).set 3 0)))).set 35 (.inl (0, .inl ((((([s1, s2, s3, s4]).set 0 (-1)).set 1 (-1)).set 2 (-1)).set 3 (-1))))).set 36 (.inl (0, .inl ((([0, 0, 0] : List Int32)).set 0 0)))).set 36 (.inl (0, .inl (((([0, 0, 0] : List Int32)).set 0 0).set 1 0)))).set 36 (.inl (0, .inl ((((([0, 0, 0] : List Int32)).set 0 0).set 1 0).set 2 0))))) _
      refine sp_iinc (p2 := 35) (y := 3) (lv2 := [(2, .int 3), (0, .ref 17), (1, .ref 39)]) rfl rfl (by decide) rfl (by decide) rfl ?_
      refine sp_goto rfl ?_
      refine sp_iload_n (p2 := 22) rfl rfl rfl ?_
      refine sp_iconst (p2 := 23) (x := 3) rfl rfl (by decide) ?_
      refine st_icmp (b := true) rfl (by decide) ?_
      show Ev _ _ _ (38, _, _, _) _
      refine sp_iconst (p2 := 39) (x := 0) rfl rfl (by decide) ?_
      refine sp_istore_n (p2 := 40) (lv2 := [(2, .int 0), (0, .ref 17), (1, .ref 39)]) rfl rfl (by decide) rfl ?_
      refine sp_iload_n (p2 := 41) rfl rfl rfl ?_
      refine sp_aload_n (p2 := 42) rfl rfl rfl ?_
      refine st_get rfl (ob_ne (by decide) (ob_ne (by decide) (ob_ne (by decide) (ob_ne (by decide) (ob_ne (by decide) (ob_ne (by decide) (ob_ne (by decide) (ob_ne (by decide) (ob_ne (by decide) (ob_ne (by decide) (ob_ne (by decide) g_1))))))))))) rfl ?_
      show Ev _ _ _ (45, _, _, _) _
      refine st_icmp (b := true) rfl (by decide) ?_
      show Ev _ _ _ (79, _, _, _) _
      refine sp_iconst (p2 := 80) (x := 0) rfl rfl (by decide) ?_
      refine sp_istore_n (p2 := 81) (lv2 := [(2, .int 0), (0, .ref 17), (1, .ref 39)]) rfl rfl (by decide) rfl ?_
      refine sp_iload_n (p2 := 82) rfl rfl rfl ?_
      refine sp_aload_n (p2 := 83) rfl rfl rfl ?_
      refine st_get rfl (ob_ne (by decide) (ob_ne (by decide) (ob_ne (by decide) (ob_ne (by decide) (ob_ne (by decide) (ob_ne (by decide) (ob_ne (by decide) (ob_ne (by decide) (ob_ne (by decide) (ob_ne (by decide) (ob_ne (by decide) g_1))))))))))) rfl ?_
      show Ev _ _ _ (86, _, _, _) _
      refine st_icmp (b := true) rfl (by decide) ?_
      show Ev _ _ _ (125, _, _, _) _
      refine sp_aload_n (p2 := 126) rfl rfl rfl ?_
      refine st_get rfl (ob_ne (by decide) (ob_ne (by decide) (ob_ne (by decide) (ob_ne (by decide) (ob_ne (by decide) (ob_ne (by decide) (ob_ne (by decide) (ob_ne (by decide) (ob_ne (by decide) (ob_ne (by decide) (ob_ne (by decide) g_23))))))))))) rfl ?_
      show Ev _ _ _ (129, _, _, _) _
      refine sp_bipush (p2 := 131) (x := 7) rfl rfl (by decide) ?_
      have f1 : Int32.toInt (d - d / 7 * 7) = Int32.toInt d % 7 := i32_rem7 (by omega)
      refine sp_irem (p2 := 132) (z := (d - d / 7 * 7)) rfl rfl (by decide) rfl ?_
      refine sp_bipush (p2 := 134) (x := 6) rfl rfl (by decide) ?_
      refine st_icmp (b := true) rfl (cn_ne_T rfl (show Int32.toInt 6 = 6 from rfl) (by omega)) ?_
      show Ev _ _ _ (142, _, _, _) _
      refine sp_aload_n (p2 := 143) rfl rfl rfl ?_
      refine sp_dup (p2 := 144) rfl rfl rfl ?_
      refine st_get rfl (ob_ne (by decide) (ob_ne (by decide) (ob_ne (by decide) (ob_ne (by decide) (ob_ne (by decide) (ob_ne (by decide) (ob_ne (by decide) (ob_ne (by decide) (ob_ne (by decide) (ob_ne (by decide) (ob_ne (by decide) g_23))))))))))) rfl ?_
      show Ev _ _ _ (147, _, _, _) _
      refine sp_iconst (p2 := 148) (x := 1) rfl rfl (by decide) ?_
      have f2 : Int32.toInt (d + 1) = Int32.toInt d + 1 := i32_addE (show Int32.toInt 1 = 1 from rfl) (by omega) (by omega)
      refine sp_iadd (p2 := 149) (z := (d + 1)) rfl rfl rfl ?_
      refine st_put (i := 23) rfl rfl (ob_ne (by decide) (ob_ne (by decide) (ob_ne (by decide) (ob_ne (by decide) (ob_ne (by decide) (ob_ne (by decide) (ob_ne (by decide) (ob_ne (by decide) (ob_ne (by decide) (ob_ne (by decide) (ob_ne (by decide) g_23))))))))))) rfl rfl (Nat.le_of_ble_eq_true rfl) ?_
      show Ev _ _ _ (152, [(2, .int 0), (0, .ref 17), (1, .ref 39)], [], ((((((((((((g.set 34 (.inl (0, .inl ((([0, 0, 0, 0] : List Int32)).set 0 0)))).set 35 (.inl (0, .inl (([s1, s2, s3, s4]).set 0 (-1))))).set 34 (.inl (0, .inl (((([0, 0, 0, 0] : List Int32)).set 0 0).set 1 0)))).set 35 (.inl (0, .inl ((([s1, s2, s3, s4]).set 0 (-1)).set 1 (-1))))).set 34 (.inl (0, .inl ((((([0, 0, 0, 0] : List Int32)).set 0 0).set 1 0).set 2 0)))).set 35 (.inl (0, .inl (((([s1, s2, s3, s4]).set 0 (-1)).set 1 (-1)).set 2 (-1))))).set 34 (.inl (0, .inl (((((([0, 0, 0, 0] : List Int32)).set 0 0).set 1 0).set 2 0).set 3 0)))).set 35 (.inl (0, .inl ((((([s1, s2, s3, s4]).set 0 (-1)).set 1 (-1)).set 2 (-1)).set 3 (-1))))).set 36 (.inl (0, .inl ((([0, 0, 0] : List Int32)).set 0 0)))).set 36 (.inl (0, .inl (((([0, 0, 0] : List Int32)).set 0 0).set 1 0)))).set 36 (.inl (0, .inl ((((([0, 0, 0] : List Int32)).set 0 0).set 1 0).set 2 0)))).set 23 (.inr (9, [.int ((d + 1)), .int 0, .int 0, .int 0, .int 0, .ref 40, .ref 41, .ref 42, .ref 43, .ref 44, .ref 45, .ref 46, .ref 47, .ref 48, .ref 49, .ref 50, .ref 51, .ref 52])))) _
      exact sp_vret rfl rfl
    · exact ⟨(sl_len (sl_len (sl_len (sl_len (sl_len (sl_len (sl_len (sl_len (sl_len (sl_len (sl_len (sl_len g_len)))))))))))), (fr_set (by decide) (fr_set (by decide) (fr_set (by decide) (fr_set (by decide) (fr_set (by decide) (fr_set (by decide) (fr_set (by decide) (fr_set (by decide) (fr_set (by decide) (fr_set (by decide) (fr_set (by decide) (fr_set (by decide) fr)))))))))))), (ob_ne (by decide) (ob_ne (by decide) (ob_ne (by decide) (ob_ne (by decide) (ob_ne (by decide) (ob_ne (by decide) (ob_ne (by decide) (ob_ne (by decide) (ob_ne (by decide) (ob_ne (by decide) (ob_ne (by decide) (ob_ne (by decide) g_0)))))))))))), (ob_ne (by decide) (ob_ne (by decide) (ob_ne (by decide) (ob_ne (by decide) (ob_ne (by decide) (ob_ne (by decide) (ob_ne (by decide) (ob_ne (by decide) (ob_ne (by decide) (ob_ne (by decide) (ob_ne (by decide) (ob_ne (by decide) g_1)))))))))))), (qa_ne (by decide) (qa_ne (by decide) (qa_ne (by decide) (qa_ne (by decide) (qa_ne (by decide) (qa_ne (by decide) (qa_ne (by decide) (qa_ne (by decide) (qa_ne (by decide) (qa_ne (by decide) (qa_ne (by decide) (qa_ne (by decide) g_7)))))))))))), (qa_ne (by decide) (qa_ne (by decide) (qa_ne (by decide) (qa_ne (by decide) (qa_ne (by decide) (qa_ne (by decide) (qa_ne (by decide) (qa_ne (by decide) (qa_ne (by decide) (qa_ne (by decide) (qa_ne (by decide) (qa_ne (by decide) g_8)))))))))))), (ob_ne (by decide) (ob_ne (by decide) (ob_ne (by decide) (ob_ne (by decide) (ob_ne (by decide) (ob_ne (by decide) (ob_ne (by decide) (ob_ne (by decide) (ob_ne (by decide) (ob_ne (by decide) (ob_ne (by decide) (ob_ne (by decide) g_12)))))))))))), (ob_ne (by decide) (ob_ne (by decide) (ob_ne (by decide) (ob_ne (by decide) (ob_ne (by decide) (ob_ne (by decide) (ob_ne (by decide) (ob_ne (by decide) (ob_ne (by decide) (ob_ne (by decide) (ob_ne (by decide) (ob_ne (by decide) g_14)))))))))))), (ob_ne (by decide) (ob_ne (by decide) (ob_ne (by decide) (ob_ne (by decide) (ob_ne (by decide) (ob_ne (by decide) (ob_ne (by decide) (ob_ne (by decide) (ob_ne (by decide) (ob_ne (by decide) (ob_ne (by decide) (ob_ne (by decide) g_16)))))))))))), (ob_ne (by decide) (ob_ne (by decide) (ob_ne (by decide) (ob_ne (by decide) (ob_ne (by decide) (ob_ne (by decide) (ob_ne (by decide) (ob_ne (by decide) (ob_ne (by decide) (ob_ne (by decide) (ob_ne (by decide) (ob_ne (by decide) g_18)))))))))))), (ob_ne (by decide) (ob_ne (by decide) (ob_ne (by decide) (ob_ne (by decide) (ob_ne (by decide) (ob_ne (by decide) (ob_ne (by decide) (ob_ne (by decide) (ob_ne (by decide) (ob_ne (by decide) (ob_ne (by decide) (ob_ne (by decide) g_20)))))))))))), (ob_ne (by decide) (ob_ne (by decide) (ob_ne (by decide) (ob_ne (by decide) (ob_ne (by decide) (ob_ne (by decide) (ob_ne (by decide) (ob_ne (by decide) (ob_ne (by decide) (ob_ne (by decide) (ob_ne (by decide) (ob_ne (by decide) g_21)))))))))))), (ob_ne (by decide) (ob_ne (by decide) (ob_ne (by decide) (ob_ne (by decide) (ob_ne (by decide) (ob_ne (by decide) (ob_ne (by decide) (ob_ne (by decide) (ob_ne (by decide) (ob_ne (by decide) (ob_ne (by decide) (ob_ne (by decide) g_22)))))))))))), (ob_eq2 (sl_len (sl_len (sl_len (sl_len (sl_len (sl_len (sl_len (sl_len (sl_len (sl_len (sl_len g_len))))))))))) (by decide)), (ia_ne (by decide) (ia_ne (by decide) (ia_ne (by decide) (ia_ne (by decide) (ia_ne (by decide) (ia_ne (by decide) (ia_ne (by decide) (ia_ne (by decide) (ia_ne (by decide) (ia_ne (by decide) (ia_ne (by decide) (ia_ne (by decide) g_25)))))))))))), (ia_ne (by decide) (ia_ne (by decide) (ia_ne (by decide) (ia_ne (by decide) (ia_ne (by decide) (ia_eq2 (sl_len (sl_len (sl_len (sl_len (sl_len (sl_len g_len)))))) (by decide))))))), (ia_ne (by decide) (ia_eq2 (sl_len (sl_len (sl_len (sl_len (sl_len (sl_len (sl_len (sl_len (sl_len (sl_len g_len)))))))))) (by decide))), ⟨_, _, _, _, (ia_ne (by decide) (ia_ne (by decide) (ia_ne (by decide) (ia_ne (by decide) (ia_eq2 (sl_len (sl_len (sl_len (sl_len (sl_len (sl_len (sl_len g_len))))))) (by decide))))))⟩⟩
  · refine ⟨((((((((((((g.set 34 (.inl (0, .inl ((([0, 0, 0, 0] : List Int32)).set 0 0)))).set 35 (.inl (0, .inl (([s1, s2, s3, s4]).set 0 (-1))))).set 34 (.inl (0, .inl (((([0, 0, 0, 0] : List Int32)).set 0 0).set 1 0)))).set 35 (.inl (0, .inl ((([s1, s2, s3, s4]).set 0 (-1)).set 1 (-1))))).set 34 (.inl (0, .inl ((((([0, 0, 0, 0] : List Int32)).set 0 0).set 1 0).set 2 0)))).set 35 (.inl (0, .inl (((([s1, s2, s3, s4]).set 0 (-1)).set 1 (-1)).set 2 (-1))))).set 34 (.inl (0, .inl (((((([0, 0, 0, 0] : List Int32)).set 0 0).set 1 0).set 2 0).set 3 0)))).set 35 (.inl (0, .inl ((((([s1, s2, s3, s4]).set 0 (-1)).set 1 (-1)).set 2 (-1)).set 3 (-1))))).set 36 (.inl (0, .inl ((([0, 0, 0] : List Int32)).set 0 0)))).set 36 (.inl (0, .inl (((([0, 0, 0] : List Int32)).set 0 0).set 1 0)))).set 36 (.inl (0, .inl ((((([0, 0, 0] : List Int32)).set 0 0).set 1 0).set 2 0)))).set 23 (.inr (9, [.int ((d + 1)), .int 0, .int 0, .int 0, .int 0, .ref 40, .ref 41, .ref 42, .ref 43, .ref 44, .ref 45, .ref 46, .ref 47, .ref 48, .ref 49, .ref 50, .ref 51, .ref 52]))), ?_, ?_⟩
    · refine ca_of (d := 18) (M := mX0_playDay) rfl (Nat.le_of_ble_eq_true rfl) ?_
      show Ev im_K0 18 mX0_playDay (0, [(0, .ref 17), (1, .ref 39)], [], g) _
      refine sp_iconst (p2 := 1) (x := 0) rfl rfl (by decide) ?_
      refine sp_istore_n (p2 := 2) (lv2 := [(2, .int 0), (0, .ref 17), (1, .ref 39)]) rfl rfl (by decide) rfl ?_
      refine sp_iload_n (p2 := 3) rfl rfl rfl ?_
      refine sp_iconst (p2 := 4) (x := 4) rfl rfl (by decide) ?_
      refine st_icmp (b := false) rfl (by decide) ?_
      show Ev _ _ _ (7, _, _, _) _
      refine sp_aload_n (p2 := 8) rfl rfl rfl ?_
      refine sp_aload_n (p2 := 9) rfl rfl rfl ?_
      refine sp_iload_n (p2 := 10) rfl rfl rfl ?_
      have c1 : Ca 18 8 [.ref 17, .ref 39, .int 0] g (none, ((g.set 34 (.inl (0, .inl ((([0, 0, 0, 0] : List Int32)).set 0 0)))).set 35 (.inl (0, .inl (([s1, s2, s3, s4]).set 0 (-1)))))) := by
        refine ca_of (d := 17) (M := mX0_workRow) rfl (Nat.le_of_ble_eq_true rfl) ?_
        show Ev im_K0 17 mX0_workRow (0, [(0, .ref 17), (1, .ref 39), (2, .int 0)], [], g) _
        refine sp_aload_n (p2 := 1) rfl rfl rfl ?_
        refine st_get rfl g_1 rfl ?_
        show Ev _ _ _ (4, _, _, _) _
        refine sp_iload_n (p2 := 5) rfl rfl rfl ?_
        refine st_aald (v := .ref 28) rfl g_7 (by decide) rfl ?_
        show Ev _ _ _ (6, _, _, _) _
        refine sp_astore_n (p2 := 7) (lv2 := [(3, .ref 28), (0, .ref 17), (1, .ref 39), (2, .int 0)]) rfl rfl (by decide) rfl ?_
        refine sp_aload_n (p2 := 8) rfl rfl rfl ?_
        refine st_get rfl g_23 rfl ?_
        show Ev _ _ _ (11, _, _, _) _
        refine sp_iload_n (p2 := 12) rfl rfl rfl ?_
        refine sp_iconst (p2 := 13) (x := 0) rfl rfl (by decide) ?_
        refine st_iast (i := 34) rfl rfl g_34 rfl ?_
        show Ev _ _ _ (14, [(3, .ref 28), (0, .ref 17), (1, .ref 39), (2, .int 0)], [], (g.set 34 (.inl (0, .inl ((([0, 0, 0, 0] : List Int32)).set 0 0))))) _
        refine sp_aload_n (p2 := 15) rfl rfl rfl ?_
        refine st_get rfl (ob_ne (by decide) g_23) rfl ?_
        show Ev _ _ _ (18, _, _, _) _
        refine sp_iload_n (p2 := 19) rfl rfl rfl ?_
        refine sp_iconst (p2 := 20) (x := (-1)) rfl rfl (by decide) ?_
        refine st_iast (i := 35) rfl rfl (ia_ne (by decide) g_35) rfl ?_
        show Ev _ _ _ (21, [(3, .ref 28), (0, .ref 17), (1, .ref 39), (2, .int 0)], [], ((g.set 34 (.inl (0, .inl ((([0, 0, 0, 0] : List Int32)).set 0 0)))).set 35 (.inl (0, .inl (([s1, s2, s3, s4]).set 0 (-1)))))) _
        refine sp_iconst (p2 := 22) (x := 0) rfl rfl (by decide) ?_
        refine sp_istore (p2 := 24) (lv2 := [(4, .int 0), (3, .ref 28), (0, .ref 17), (1, .ref 39), (2, .int 0)]) rfl rfl (by decide) rfl ?_
        refine sp_iconst (p2 := 25) (x := 0) rfl rfl (by decide) ?_
        refine sp_istore (p2 := 27) (lv2 := [(5, .int 0), (4, .int 0), (3, .ref 28), (0, .ref 17), (1, .ref 39), (2, .int 0)]) rfl rfl (by decide) rfl ?_
        refine sp_iload (p2 := 29) rfl rfl rfl ?_
        refine sp_aload_n (p2 := 30) rfl rfl rfl ?_
        refine st_get rfl (ob_ne (by decide) (ob_ne (by decide) g_12)) rfl ?_
        show Ev _ _ _ (33, _, _, _) _
        refine st_icmp (b := true) rfl (by decide) ?_
        show Ev _ _ _ (85, _, _, _) _
        refine sp_iload (p2 := 87) rfl rfl rfl ?_
        refine sp_aload_n (p2 := 88) rfl rfl rfl ?_
        refine st_get rfl (ob_ne (by decide) (ob_ne (by decide) g_23)) rfl ?_
        show Ev _ _ _ (91, _, _, _) _
        refine sp_aload_n (p2 := 92) rfl rfl rfl ?_
        refine st_get rfl (ob_ne (by decide) (ob_ne (by decide) g_12)) rfl ?_
        show Ev _ _ _ (95, _, _, _) _
        refine st_iald (x := 0) rfl (by decide) (ia_ne (by decide) (ia_ne (by decide) g_25)) rfl rfl ?_
        show Ev _ _ _ (96, _, _, _) _
        refine sp_min (p2 := 99) (z := 0) rfl rfl rfl (by decide) ?_
        refine sp_istore (p2 := 101) (lv2 := [(5, .int 0), (4, .int 0), (3, .ref 28), (0, .ref 17), (1, .ref 39), (2, .int 0)]) rfl rfl (by decide) rfl ?_
        refine sp_iload (p2 := 103) rfl rfl rfl ?_
        refine st_ifc (b := true) rfl (by decide) ?_
        show Ev _ _ _ (122, _, _, _) _
        exact sp_vret rfl rfl
      refine st_callV (R := 17) rfl rfl rfl g_1 rfl c1 ?_
      show Ev _ _ _ (13, [(2, .int 0), (0, .ref 17), (1, .ref 39)], [], ((g.set 34 (.inl (0, .inl ((([0, 0, 0, 0] : List Int32)).set 0 0)))).set 35 (.inl (0, .inl (([s1, s2, s3, s4]).set 0 (-1)))))) _
      refine sp_iinc (p2 := 16) (y := 1) (lv2 := [(2, .int 1), (0, .ref 17), (1, .ref 39)]) rfl rfl (by decide) rfl (by decide) rfl ?_
      refine sp_goto rfl ?_
      refine sp_iload_n (p2 := 3) rfl rfl rfl ?_
      refine sp_iconst (p2 := 4) (x := 4) rfl rfl (by decide) ?_
      refine st_icmp (b := false) rfl (by decide) ?_
      show Ev _ _ _ (7, _, _, _) _
      refine sp_aload_n (p2 := 8) rfl rfl rfl ?_
      refine sp_aload_n (p2 := 9) rfl rfl rfl ?_
      refine sp_iload_n (p2 := 10) rfl rfl rfl ?_
      have c2 : Ca 18 8 [.ref 17, .ref 39, .int 1] ((g.set 34 (.inl (0, .inl ((([0, 0, 0, 0] : List Int32)).set 0 0)))).set 35 (.inl (0, .inl (([s1, s2, s3, s4]).set 0 (-1))))) (none, ((((g.set 34 (.inl (0, .inl ((([0, 0, 0, 0] : List Int32)).set 0 0)))).set 35 (.inl (0, .inl (([s1, s2, s3, s4]).set 0 (-1))))).set 34 (.inl (0, .inl (((([0, 0, 0, 0] : List Int32)).set 0 0).set 1 0)))).set 35 (.inl (0, .inl ((([s1, s2, s3, s4]).set 0 (-1)).set 1 (-1)))))) := by
        refine ca_of (d := 17) (M := mX0_workRow) rfl (Nat.le_of_ble_eq_true rfl) ?_
        show Ev im_K0 17 mX0_workRow (0, [(0, .ref 17), (1, .ref 39), (2, .int 1)], [], ((g.set 34 (.inl (0, .inl ((([0, 0, 0, 0] : List Int32)).set 0 0)))).set 35 (.inl (0, .inl (([s1, s2, s3, s4]).set 0 (-1)))))) _
        refine sp_aload_n (p2 := 1) rfl rfl rfl ?_
        refine st_get rfl (ob_ne (by decide) (ob_ne (by decide) g_1)) rfl ?_
        show Ev _ _ _ (4, _, _, _) _
        refine sp_iload_n (p2 := 5) rfl rfl rfl ?_
        refine st_aald (v := .ref 30) rfl (qa_ne (by decide) (qa_ne (by decide) g_7)) (by decide) rfl ?_
        show Ev _ _ _ (6, _, _, _) _
        refine sp_astore_n (p2 := 7) (lv2 := [(3, .ref 30), (0, .ref 17), (1, .ref 39), (2, .int 1)]) rfl rfl (by decide) rfl ?_
        refine sp_aload_n (p2 := 8) rfl rfl rfl ?_
        refine st_get rfl (ob_ne (by decide) (ob_ne (by decide) g_23)) rfl ?_
        show Ev _ _ _ (11, _, _, _) _
        refine sp_iload_n (p2 := 12) rfl rfl rfl ?_
        refine sp_iconst (p2 := 13) (x := 0) rfl rfl (by decide) ?_
        refine st_iast (i := 34) rfl rfl (ia_ne (by decide) (ia_eq2 g_len (by decide))) rfl ?_
        show Ev _ _ _ (14, [(3, .ref 30), (0, .ref 17), (1, .ref 39), (2, .int 1)], [], (((g.set 34 (.inl (0, .inl ((([0, 0, 0, 0] : List Int32)).set 0 0)))).set 35 (.inl (0, .inl (([s1, s2, s3, s4]).set 0 (-1))))).set 34 (.inl (0, .inl (((([0, 0, 0, 0] : List Int32)).set 0 0).set 1 0))))) _
        refine sp_aload_n (p2 := 15) rfl rfl rfl ?_
        refine st_get rfl (ob_ne (by decide) (ob_ne (by decide) (ob_ne (by decide) g_23))) rfl ?_
        show Ev _ _ _ (18, _, _, _) _
        refine sp_iload_n (p2 := 19) rfl rfl rfl ?_
        refine sp_iconst (p2 := 20) (x := (-1)) rfl rfl (by decide) ?_
        refine st_iast (i := 35) rfl rfl (ia_ne (by decide) (ia_eq2 (sl_len g_len) (by decide))) rfl ?_
        show Ev _ _ _ (21, [(3, .ref 30), (0, .ref 17), (1, .ref 39), (2, .int 1)], [], ((((g.set 34 (.inl (0, .inl ((([0, 0, 0, 0] : List Int32)).set 0 0)))).set 35 (.inl (0, .inl (([s1, s2, s3, s4]).set 0 (-1))))).set 34 (.inl (0, .inl (((([0, 0, 0, 0] : List Int32)).set 0 0).set 1 0)))).set 35 (.inl (0, .inl ((([s1, s2, s3, s4]).set 0 (-1)).set 1 (-1)))))) _
        refine sp_iconst (p2 := 22) (x := 0) rfl rfl (by decide) ?_
        refine sp_istore (p2 := 24) (lv2 := [(4, .int 0), (3, .ref 30), (0, .ref 17), (1, .ref 39), (2, .int 1)]) rfl rfl (by decide) rfl ?_
        refine sp_iconst (p2 := 25) (x := 0) rfl rfl (by decide) ?_
        refine sp_istore (p2 := 27) (lv2 := [(5, .int 0), (4, .int 0), (3, .ref 30), (0, .ref 17), (1, .ref 39), (2, .int 1)]) rfl rfl (by decide) rfl ?_
        refine sp_iload (p2 := 29) rfl rfl rfl ?_
        refine sp_aload_n (p2 := 30) rfl rfl rfl ?_
        refine st_get rfl (ob_ne (by decide) (ob_ne (by decide) (ob_ne (by decide) (ob_ne (by decide) g_14)))) rfl ?_
        show Ev _ _ _ (33, _, _, _) _
        refine st_icmp (b := true) rfl (by decide) ?_
        show Ev _ _ _ (85, _, _, _) _
        refine sp_iload (p2 := 87) rfl rfl rfl ?_
        refine sp_aload_n (p2 := 88) rfl rfl rfl ?_
        refine st_get rfl (ob_ne (by decide) (ob_ne (by decide) (ob_ne (by decide) (ob_ne (by decide) g_23)))) rfl ?_
        show Ev _ _ _ (91, _, _, _) _
        refine sp_aload_n (p2 := 92) rfl rfl rfl ?_
        refine st_get rfl (ob_ne (by decide) (ob_ne (by decide) (ob_ne (by decide) (ob_ne (by decide) g_14)))) rfl ?_
        show Ev _ _ _ (95, _, _, _) _
        refine st_iald (x := 0) rfl (by decide) (ia_ne (by decide) (ia_ne (by decide) (ia_ne (by decide) (ia_ne (by decide) g_25)))) rfl rfl ?_
        show Ev _ _ _ (96, _, _, _) _
        refine sp_min (p2 := 99) (z := 0) rfl rfl rfl (by decide) ?_
        refine sp_istore (p2 := 101) (lv2 := [(5, .int 0), (4, .int 0), (3, .ref 30), (0, .ref 17), (1, .ref 39), (2, .int 1)]) rfl rfl (by decide) rfl ?_
        refine sp_iload (p2 := 103) rfl rfl rfl ?_
        refine st_ifc (b := true) rfl (by decide) ?_
        show Ev _ _ _ (122, _, _, _) _
        exact sp_vret rfl rfl
      refine st_callV (R := 17) rfl rfl rfl (ob_ne (by decide) (ob_ne (by decide) g_1)) rfl c2 ?_
      show Ev _ _ _ (13, [(2, .int 1), (0, .ref 17), (1, .ref 39)], [], ((((g.set 34 (.inl (0, .inl ((([0, 0, 0, 0] : List Int32)).set 0 0)))).set 35 (.inl (0, .inl (([s1, s2, s3, s4]).set 0 (-1))))).set 34 (.inl (0, .inl (((([0, 0, 0, 0] : List Int32)).set 0 0).set 1 0)))).set 35 (.inl (0, .inl ((([s1, s2, s3, s4]).set 0 (-1)).set 1 (-1)))))) _
      refine sp_iinc (p2 := 16) (y := 2) (lv2 := [(2, .int 2), (0, .ref 17), (1, .ref 39)]) rfl rfl (by decide) rfl (by decide) rfl ?_
      refine sp_goto rfl ?_
      refine sp_iload_n (p2 := 3) rfl rfl rfl ?_
      refine sp_iconst (p2 := 4) (x := 4) rfl rfl (by decide) ?_
      refine st_icmp (b := false) rfl (by decide) ?_
      show Ev _ _ _ (7, _, _, _) _
      refine sp_aload_n (p2 := 8) rfl rfl rfl ?_
      refine sp_aload_n (p2 := 9) rfl rfl rfl ?_
      refine sp_iload_n (p2 := 10) rfl rfl rfl ?_
      have c3 : Ca 18 8 [.ref 17, .ref 39, .int 2] ((((g.set 34 (.inl (0, .inl ((([0, 0, 0, 0] : List Int32)).set 0 0)))).set 35 (.inl (0, .inl (([s1, s2, s3, s4]).set 0 (-1))))).set 34 (.inl (0, .inl (((([0, 0, 0, 0] : List Int32)).set 0 0).set 1 0)))).set 35 (.inl (0, .inl ((([s1, s2, s3, s4]).set 0 (-1)).set 1 (-1))))) (none, ((((((g.set 34 (.inl (0, .inl ((([0, 0, 0, 0] : List Int32)).set 0 0)))).set 35 (.inl (0, .inl (([s1, s2, s3, s4]).set 0 (-1))))).set 34 (.inl (0, .inl (((([0, 0, 0, 0] : List Int32)).set 0 0).set 1 0)))).set 35 (.inl (0, .inl ((([s1, s2, s3, s4]).set 0 (-1)).set 1 (-1))))).set 34 (.inl (0, .inl ((((([0, 0, 0, 0] : List Int32)).set 0 0).set 1 0).set 2 0)))).set 35 (.inl (0, .inl (((([s1, s2, s3, s4]).set 0 (-1)).set 1 (-1)).set 2 (-1)))))) := by
        refine ca_of (d := 17) (M := mX0_workRow) rfl (Nat.le_of_ble_eq_true rfl) ?_
        show Ev im_K0 17 mX0_workRow (0, [(0, .ref 17), (1, .ref 39), (2, .int 2)], [], ((((g.set 34 (.inl (0, .inl ((([0, 0, 0, 0] : List Int32)).set 0 0)))).set 35 (.inl (0, .inl (([s1, s2, s3, s4]).set 0 (-1))))).set 34 (.inl (0, .inl (((([0, 0, 0, 0] : List Int32)).set 0 0).set 1 0)))).set 35 (.inl (0, .inl ((([s1, s2, s3, s4]).set 0 (-1)).set 1 (-1)))))) _
        refine sp_aload_n (p2 := 1) rfl rfl rfl ?_
        refine st_get rfl (ob_ne (by decide) (ob_ne (by decide) (ob_ne (by decide) (ob_ne (by decide) g_1)))) rfl ?_
        show Ev _ _ _ (4, _, _, _) _
        refine sp_iload_n (p2 := 5) rfl rfl rfl ?_
        refine st_aald (v := .ref 32) rfl (qa_ne (by decide) (qa_ne (by decide) (qa_ne (by decide) (qa_ne (by decide) g_7)))) (by decide) rfl ?_
        show Ev _ _ _ (6, _, _, _) _
        refine sp_astore_n (p2 := 7) (lv2 := [(3, .ref 32), (0, .ref 17), (1, .ref 39), (2, .int 2)]) rfl rfl (by decide) rfl ?_
        refine sp_aload_n (p2 := 8) rfl rfl rfl ?_
        refine st_get rfl (ob_ne (by decide) (ob_ne (by decide) (ob_ne (by decide) (ob_ne (by decide) g_23)))) rfl ?_
        show Ev _ _ _ (11, _, _, _) _
        refine sp_iload_n (p2 := 12) rfl rfl rfl ?_
        refine sp_iconst (p2 := 13) (x := 0) rfl rfl (by decide) ?_
        refine st_iast (i := 34) rfl rfl (ia_ne (by decide) (ia_eq2 (sl_len (sl_len g_len)) (by decide))) rfl ?_
        show Ev _ _ _ (14, [(3, .ref 32), (0, .ref 17), (1, .ref 39), (2, .int 2)], [], (((((g.set 34 (.inl (0, .inl ((([0, 0, 0, 0] : List Int32)).set 0 0)))).set 35 (.inl (0, .inl (([s1, s2, s3, s4]).set 0 (-1))))).set 34 (.inl (0, .inl (((([0, 0, 0, 0] : List Int32)).set 0 0).set 1 0)))).set 35 (.inl (0, .inl ((([s1, s2, s3, s4]).set 0 (-1)).set 1 (-1))))).set 34 (.inl (0, .inl ((((([0, 0, 0, 0] : List Int32)).set 0 0).set 1 0).set 2 0))))) _
        refine sp_aload_n (p2 := 15) rfl rfl rfl ?_
        refine st_get rfl (ob_ne (by decide) (ob_ne (by decide) (ob_ne (by decide) (ob_ne (by decide) (ob_ne (by decide) g_23))))) rfl ?_
        show Ev _ _ _ (18, _, _, _) _
        refine sp_iload_n (p2 := 19) rfl rfl rfl ?_
        refine sp_iconst (p2 := 20) (x := (-1)) rfl rfl (by decide) ?_
        refine st_iast (i := 35) rfl rfl (ia_ne (by decide) (ia_eq2 (sl_len (sl_len (sl_len g_len))) (by decide))) rfl ?_
        show Ev _ _ _ (21, [(3, .ref 32), (0, .ref 17), (1, .ref 39), (2, .int 2)], [], ((((((g.set 34 (.inl (0, .inl ((([0, 0, 0, 0] : List Int32)).set 0 0)))).set 35 (.inl (0, .inl (([s1, s2, s3, s4]).set 0 (-1))))).set 34 (.inl (0, .inl (((([0, 0, 0, 0] : List Int32)).set 0 0).set 1 0)))).set 35 (.inl (0, .inl ((([s1, s2, s3, s4]).set 0 (-1)).set 1 (-1))))).set 34 (.inl (0, .inl ((((([0, 0, 0, 0] : List Int32)).set 0 0).set 1 0).set 2 0)))).set 35 (.inl (0, .inl (((([s1, s2, s3, s4]).set 0 (-1)).set 1 (-1)).set 2 (-1)))))) _
        refine sp_iconst (p2 := 22) (x := 0) rfl rfl (by decide) ?_
        refine sp_istore (p2 := 24) (lv2 := [(4, .int 0), (3, .ref 32), (0, .ref 17), (1, .ref 39), (2, .int 2)]) rfl rfl (by decide) rfl ?_
        refine sp_iconst (p2 := 25) (x := 0) rfl rfl (by decide) ?_
        refine sp_istore (p2 := 27) (lv2 := [(5, .int 0), (4, .int 0), (3, .ref 32), (0, .ref 17), (1, .ref 39), (2, .int 2)]) rfl rfl (by decide) rfl ?_
        refine sp_iload (p2 := 29) rfl rfl rfl ?_
        refine sp_aload_n (p2 := 30) rfl rfl rfl ?_
        refine st_get rfl (ob_ne (by decide) (ob_ne (by decide) (ob_ne (by decide) (ob_ne (by decide) (ob_ne (by decide) (ob_ne (by decide) g_16)))))) rfl ?_
        show Ev _ _ _ (33, _, _, _) _
        refine st_icmp (b := true) rfl (by decide) ?_
        show Ev _ _ _ (85, _, _, _) _
        refine sp_iload (p2 := 87) rfl rfl rfl ?_
        refine sp_aload_n (p2 := 88) rfl rfl rfl ?_
        refine st_get rfl (ob_ne (by decide) (ob_ne (by decide) (ob_ne (by decide) (ob_ne (by decide) (ob_ne (by decide) (ob_ne (by decide) g_23)))))) rfl ?_
        show Ev _ _ _ (91, _, _, _) _
        refine sp_aload_n (p2 := 92) rfl rfl rfl ?_
        refine st_get rfl (ob_ne (by decide) (ob_ne (by decide) (ob_ne (by decide) (ob_ne (by decide) (ob_ne (by decide) (ob_ne (by decide) g_16)))))) rfl ?_
        show Ev _ _ _ (95, _, _, _) _
        refine st_iald (x := 0) rfl (by decide) (ia_ne (by decide) (ia_ne (by decide) (ia_ne (by decide) (ia_ne (by decide) (ia_ne (by decide) (ia_ne (by decide) g_25)))))) rfl rfl ?_
        show Ev _ _ _ (96, _, _, _) _
        refine sp_min (p2 := 99) (z := 0) rfl rfl rfl (by decide) ?_
        refine sp_istore (p2 := 101) (lv2 := [(5, .int 0), (4, .int 0), (3, .ref 32), (0, .ref 17), (1, .ref 39), (2, .int 2)]) rfl rfl (by decide) rfl ?_
        refine sp_iload (p2 := 103) rfl rfl rfl ?_
        refine st_ifc (b := true) rfl (by decide) ?_
        show Ev _ _ _ (122, _, _, _) _
        exact sp_vret rfl rfl
      refine st_callV (R := 17) rfl rfl rfl (ob_ne (by decide) (ob_ne (by decide) (ob_ne (by decide) (ob_ne (by decide) g_1)))) rfl c3 ?_
      show Ev _ _ _ (13, [(2, .int 2), (0, .ref 17), (1, .ref 39)], [], ((((((g.set 34 (.inl (0, .inl ((([0, 0, 0, 0] : List Int32)).set 0 0)))).set 35 (.inl (0, .inl (([s1, s2, s3, s4]).set 0 (-1))))).set 34 (.inl (0, .inl (((([0, 0, 0, 0] : List Int32)).set 0 0).set 1 0)))).set 35 (.inl (0, .inl ((([s1, s2, s3, s4]).set 0 (-1)).set 1 (-1))))).set 34 (.inl (0, .inl ((((([0, 0, 0, 0] : List Int32)).set 0 0).set 1 0).set 2 0)))).set 35 (.inl (0, .inl (((([s1, s2, s3, s4]).set 0 (-1)).set 1 (-1)).set 2 (-1)))))) _
      refine sp_iinc (p2 := 16) (y := 3) (lv2 := [(2, .int 3), (0, .ref 17), (1, .ref 39)]) rfl rfl (by decide) rfl (by decide) rfl ?_
      refine sp_goto rfl ?_
      refine sp_iload_n (p2 := 3) rfl rfl rfl ?_
      refine sp_iconst (p2 := 4) (x := 4) rfl rfl (by decide) ?_
      refine st_icmp (b := false) rfl (by decide) ?_
      show Ev _ _ _ (7, _, _, _) _
      refine sp_aload_n (p2 := 8) rfl rfl rfl ?_
      refine sp_aload_n (p2 := 9) rfl rfl rfl ?_
      refine sp_iload_n (p2 := 10) rfl rfl rfl ?_
      have c4 : Ca 18 8 [.ref 17, .ref 39, .int 3] ((((((g.set 34 (.inl (0, .inl ((([0, 0, 0, 0] : List Int32)).set 0 0)))).set 35 (.inl (0, .inl (([s1, s2, s3, s4]).set 0 (-1))))).set 34 (.inl (0, .inl (((([0, 0, 0, 0] : List Int32)).set 0 0).set 1 0)))).set 35 (.inl (0, .inl ((([s1, s2, s3, s4]).set 0 (-1)).set 1 (-1))))).set 34 (.inl (0, .inl ((((([0, 0, 0, 0] : List Int32)).set 0 0).set 1 0).set 2 0)))).set 35 (.inl (0, .inl (((([s1, s2, s3, s4]).set 0 (-1)).set 1 (-1)).set 2 (-1))))) (none, ((((((((g.set 34 (.inl (0, .inl ((([0, 0, 0, 0] : List Int32)).set 0 0)))).set 35 (.inl (0, .inl (([s1, s2, s3, s4]).set 0 (-1))))).set 34 (.inl (0, .inl (((([0, 0, 0, 0] : List Int32)).set 0 0).set 1 0)))).set 35 (.inl (0, .inl ((([s1, s2, s3, s4]).set 0 (-1)).set 1 (-1))))).set 34 (.inl (0, .inl ((((([0, 0, 0, 0] : List Int32)).set 0 0).set 1 0).set 2 0)))).set 35 (.inl (0, .inl (((([s1, s2, s3, s4]).set 0 (-1)).set 1 (-1)).set 2 (-1))))).set 34 (.inl (0, .inl (((((([0, 0, 0, 0] : List Int32)).set 0 0).set 1 0).set 2 0).set 3 0)))).set 35 (.inl (0, .inl ((((([s1, s2, s3, s4]).set 0 (-1)).set 1 (-1)).set 2 (-1)).set 3 (-1)))))) := by
        refine ca_of (d := 17) (M := mX0_workRow) rfl (Nat.le_of_ble_eq_true rfl) ?_
        show Ev im_K0 17 mX0_workRow (0, [(0, .ref 17), (1, .ref 39), (2, .int 3)], [], ((((((g.set 34 (.inl (0, .inl ((([0, 0, 0, 0] : List Int32)).set 0 0)))).set 35 (.inl (0, .inl (([s1, s2, s3, s4]).set 0 (-1))))).set 34 (.inl (0, .inl (((([0, 0, 0, 0] : List Int32)).set 0 0).set 1 0)))).set 35 (.inl (0, .inl ((([s1, s2, s3, s4]).set 0 (-1)).set 1 (-1))))).set 34 (.inl (0, .inl ((((([0, 0, 0, 0] : List Int32)).set 0 0).set 1 0).set 2 0)))).set 35 (.inl (0, .inl (((([s1, s2, s3, s4]).set 0 (-1)).set 1 (-1)).set 2 (-1)))))) _
        refine sp_aload_n (p2 := 1) rfl rfl rfl ?_
        refine st_get rfl (ob_ne (by decide) (ob_ne (by decide) (ob_ne (by decide) (ob_ne (by decide) (ob_ne (by decide) (ob_ne (by decide) g_1)))))) rfl ?_
        show Ev _ _ _ (4, _, _, _) _
        refine sp_iload_n (p2 := 5) rfl rfl rfl ?_
        refine st_aald (v := .ref 34) rfl (qa_ne (by decide) (qa_ne (by decide) (qa_ne (by decide) (qa_ne (by decide) (qa_ne (by decide) (qa_ne (by decide) g_7)))))) (by decide) rfl ?_
        show Ev _ _ _ (6, _, _, _) _
        refine sp_astore_n (p2 := 7) (lv2 := [(3, .ref 34), (0, .ref 17), (1, .ref 39), (2, .int 3)]) rfl rfl (by decide) rfl ?_
        refine sp_aload_n (p2 := 8) rfl rfl rfl ?_
        refine st_get rfl (ob_ne (by decide) (ob_ne (by decide) (ob_ne (by decide) (ob_ne (by decide) (ob_ne (by decide) (ob_ne (by decide) g_23)))))) rfl ?_
        show Ev _ _ _ (11, _, _, _) _
        refine sp_iload_n (p2 := 12) rfl rfl rfl ?_
        refine sp_iconst (p2 := 13) (x := 0) rfl rfl (by decide) ?_
        refine st_iast (i := 34) rfl rfl (ia_ne (by decide) (ia_eq2 (sl_len (sl_len (sl_len (sl_len g_len)))) (by decide))) rfl ?_
        show Ev _ _ _ (14, [(3, .ref 34), (0, .ref 17), (1, .ref 39), (2, .int 3)], [], (((((((g.set 34 (.inl (0, .inl ((([0, 0, 0, 0] : List Int32)).set 0 0)))).set 35 (.inl (0, .inl (([s1, s2, s3, s4]).set 0 (-1))))).set 34 (.inl (0, .inl (((([0, 0, 0, 0] : List Int32)).set 0 0).set 1 0)))).set 35 (.inl (0, .inl ((([s1, s2, s3, s4]).set 0 (-1)).set 1 (-1))))).set 34 (.inl (0, .inl ((((([0, 0, 0, 0] : List Int32)).set 0 0).set 1 0).set 2 0)))).set 35 (.inl (0, .inl (((([s1, s2, s3, s4]).set 0 (-1)).set 1 (-1)).set 2 (-1))))).set 34 (.inl (0, .inl (((((([0, 0, 0, 0] : List Int32)).set 0 0).set 1 0).set 2 0).set 3 0))))) _
        refine sp_aload_n (p2 := 15) rfl rfl rfl ?_
        refine st_get rfl (ob_ne (by decide) (ob_ne (by decide) (ob_ne (by decide) (ob_ne (by decide) (ob_ne (by decide) (ob_ne (by decide) (ob_ne (by decide) g_23))))))) rfl ?_
        show Ev _ _ _ (18, _, _, _) _
        refine sp_iload_n (p2 := 19) rfl rfl rfl ?_
        refine sp_iconst (p2 := 20) (x := (-1)) rfl rfl (by decide) ?_
        refine st_iast (i := 35) rfl rfl (ia_ne (by decide) (ia_eq2 (sl_len (sl_len (sl_len (sl_len (sl_len g_len))))) (by decide))) rfl ?_
        show Ev _ _ _ (21, [(3, .ref 34), (0, .ref 17), (1, .ref 39), (2, .int 3)], [], ((((((((g.set 34 (.inl (0, .inl ((([0, 0, 0, 0] : List Int32)).set 0 0)))).set 35 (.inl (0, .inl (([s1, s2, s3, s4]).set 0 (-1))))).set 34 (.inl (0, .inl (((([0, 0, 0, 0] : List Int32)).set 0 0).set 1 0)))).set 35 (.inl (0, .inl ((([s1, s2, s3, s4]).set 0 (-1)).set 1 (-1))))).set 34 (.inl (0, .inl ((((([0, 0, 0, 0] : List Int32)).set 0 0).set 1 0).set 2 0)))).set 35 (.inl (0, .inl (((([s1, s2, s3, s4]).set 0 (-1)).set 1 (-1)).set 2 (-1))))).set 34 (.inl (0, .inl (((((([0, 0, 0, 0] : List Int32)).set 0 0).set 1 0).set 2 0).set 3 0)))).set 35 (.inl (0, .inl ((((([s1, s2, s3, s4]).set 0 (-1)).set 1 (-1)).set 2 (-1)).set 3 (-1)))))) _
        refine sp_iconst (p2 := 22) (x := 0) rfl rfl (by decide) ?_
        refine sp_istore (p2 := 24) (lv2 := [(4, .int 0), (3, .ref 34), (0, .ref 17), (1, .ref 39), (2, .int 3)]) rfl rfl (by decide) rfl ?_
        refine sp_iconst (p2 := 25) (x := 0) rfl rfl (by decide) ?_
        refine sp_istore (p2 := 27) (lv2 := [(5, .int 0), (4, .int 0), (3, .ref 34), (0, .ref 17), (1, .ref 39), (2, .int 3)]) rfl rfl (by decide) rfl ?_
        refine sp_iload (p2 := 29) rfl rfl rfl ?_
        refine sp_aload_n (p2 := 30) rfl rfl rfl ?_
        refine st_get rfl (ob_ne (by decide) (ob_ne (by decide) (ob_ne (by decide) (ob_ne (by decide) (ob_ne (by decide) (ob_ne (by decide) (ob_ne (by decide) (ob_ne (by decide) g_18)))))))) rfl ?_
        show Ev _ _ _ (33, _, _, _) _
        refine st_icmp (b := true) rfl (by decide) ?_
        show Ev _ _ _ (85, _, _, _) _
        refine sp_iload (p2 := 87) rfl rfl rfl ?_
        refine sp_aload_n (p2 := 88) rfl rfl rfl ?_
        refine st_get rfl (ob_ne (by decide) (ob_ne (by decide) (ob_ne (by decide) (ob_ne (by decide) (ob_ne (by decide) (ob_ne (by decide) (ob_ne (by decide) (ob_ne (by decide) g_23)))))))) rfl ?_
        show Ev _ _ _ (91, _, _, _) _
        refine sp_aload_n (p2 := 92) rfl rfl rfl ?_
        refine st_get rfl (ob_ne (by decide) (ob_ne (by decide) (ob_ne (by decide) (ob_ne (by decide) (ob_ne (by decide) (ob_ne (by decide) (ob_ne (by decide) (ob_ne (by decide) g_18)))))))) rfl ?_
        show Ev _ _ _ (95, _, _, _) _
        refine st_iald (x := 0) rfl (by decide) (ia_ne (by decide) (ia_ne (by decide) (ia_ne (by decide) (ia_ne (by decide) (ia_ne (by decide) (ia_ne (by decide) (ia_ne (by decide) (ia_ne (by decide) g_25)))))))) rfl rfl ?_
        show Ev _ _ _ (96, _, _, _) _
        refine sp_min (p2 := 99) (z := 0) rfl rfl rfl (by decide) ?_
        refine sp_istore (p2 := 101) (lv2 := [(5, .int 0), (4, .int 0), (3, .ref 34), (0, .ref 17), (1, .ref 39), (2, .int 3)]) rfl rfl (by decide) rfl ?_
        refine sp_iload (p2 := 103) rfl rfl rfl ?_
        refine st_ifc (b := true) rfl (by decide) ?_
        show Ev _ _ _ (122, _, _, _) _
        exact sp_vret rfl rfl
      refine st_callV (R := 17) rfl rfl rfl (ob_ne (by decide) (ob_ne (by decide) (ob_ne (by decide) (ob_ne (by decide) (ob_ne (by decide) (ob_ne (by decide) g_1)))))) rfl c4 ?_
      show Ev _ _ _ (13, [(2, .int 3), (0, .ref 17), (1, .ref 39)], [], ((((((((g.set 34 (.inl (0, .inl ((([0, 0, 0, 0] : List Int32)).set 0 0)))).set 35 (.inl (0, .inl (([s1, s2, s3, s4]).set 0 (-1))))).set 34 (.inl (0, .inl (((([0, 0, 0, 0] : List Int32)).set 0 0).set 1 0)))).set 35 (.inl (0, .inl ((([s1, s2, s3, s4]).set 0 (-1)).set 1 (-1))))).set 34 (.inl (0, .inl ((((([0, 0, 0, 0] : List Int32)).set 0 0).set 1 0).set 2 0)))).set 35 (.inl (0, .inl (((([s1, s2, s3, s4]).set 0 (-1)).set 1 (-1)).set 2 (-1))))).set 34 (.inl (0, .inl (((((([0, 0, 0, 0] : List Int32)).set 0 0).set 1 0).set 2 0).set 3 0)))).set 35 (.inl (0, .inl ((((([s1, s2, s3, s4]).set 0 (-1)).set 1 (-1)).set 2 (-1)).set 3 (-1)))))) _
      refine sp_iinc (p2 := 16) (y := 4) (lv2 := [(2, .int 4), (0, .ref 17), (1, .ref 39)]) rfl rfl (by decide) rfl (by decide) rfl ?_
      refine sp_goto rfl ?_
      refine sp_iload_n (p2 := 3) rfl rfl rfl ?_
      refine sp_iconst (p2 := 4) (x := 4) rfl rfl (by decide) ?_
      refine st_icmp (b := true) rfl (by decide) ?_
      show Ev _ _ _ (19, _, _, _) _
      refine sp_iconst (p2 := 20) (x := 0) rfl rfl (by decide) ?_
      refine sp_istore_n (p2 := 21) (lv2 := [(2, .int 0), (0, .ref 17), (1, .ref 39)]) rfl rfl (by decide) rfl ?_
      refine sp_iload_n (p2 := 22) rfl rfl rfl ?_
      refine sp_iconst (p2 := 23) (x := 3) rfl rfl (by decide) ?_
      refine st_icmp (b := false) rfl (by decide) ?_
      show Ev _ _ _ (26, _, _, _) _
      refine sp_aload_n (p2 := 27) rfl rfl rfl ?_
      refine sp_aload_n (p2 := 28) rfl rfl rfl ?_
      refine sp_iload_n (p2 := 29) rfl rfl rfl ?_
      have c5 : Ca 18 11 [.ref 17, .ref 39, .int 0] ((((((((g.set 34 (.inl (0, .inl ((([0, 0, 0, 0] : List Int32)).set 0 0)))).set 35 (.inl (0, .inl (([s1, s2, s3, s4]).set 0 (-1))))).set 34 (.inl (0, .inl (((([0, 0, 0, 0] : List Int32)).set 0 0).set 1 0)))).set 35 (.inl (0, .inl ((([s1, s2, s3, s4]).set 0 (-1)).set 1 (-1))))).set 34 (.inl (0, .inl ((((([0, 0, 0, 0] : List Int32)).set 0 0).set 1 0).set 2 0)))).set 35 (.inl (0, .inl (((([s1, s2, s3, s4]).set 0 (-1)).set 1 (-1)).set 2 (-1))))).set 34 (.inl (0, .inl (((((([0, 0, 0, 0] : List Int32)).set 0 0).set 1 0).set 2 0).set 3 0)))).set 35 (.inl (0, .inl ((((([s1, s2, s3, s4]).set 0 (-1)).set 1 (-1)).set 2 (-1)).set 3 (-1))))) (none, (((((((((g.set 34 (.inl (0, .inl ((([0, 0, 0, 0] : List Int32)).set 0 0)))).set 35 (.inl (0, .inl (([s1, s2, s3, s4]).set 0 (-1))))).set 34 (.inl (0, .inl (((([0, 0, 0, 0] : List Int32)).set 0 0).set 1 0)))).set 35 (.inl (0, .inl ((([s1, s2, s3, s4]).set 0 (-1)).set 1 (-1))))).set 34 (.inl (0, .inl ((((([0, 0, 0, 0] : List Int32)).set 0 0).set 1 0).set 2 0)))).set 35 (.inl (0, .inl (((([s1, s2, s3, s4]).set 0 (-1)).set 1 (-1)).set 2 (-1))))).set 34 (.inl (0, .inl (((((([0, 0, 0, 0] : List Int32)).set 0 0).set 1 0).set 2 0).set 3 0)))).set 35 (.inl (0, .inl ((((([s1, s2, s3, s4]).set 0 (-1)).set 1 (-1)).set 2 (-1)).set 3 (-1))))).set 36 (.inl (0, .inl ((([0, 0, 0] : List Int32)).set 0 0))))) := by
        refine ca_of (d := 17) (M := mX0_driveRail) rfl (Nat.le_of_ble_eq_true rfl) ?_
        show Ev im_K0 17 mX0_driveRail (0, [(0, .ref 17), (1, .ref 39), (2, .int 0)], [], ((((((((g.set 34 (.inl (0, .inl ((([0, 0, 0, 0] : List Int32)).set 0 0)))).set 35 (.inl (0, .inl (([s1, s2, s3, s4]).set 0 (-1))))).set 34 (.inl (0, .inl (((([0, 0, 0, 0] : List Int32)).set 0 0).set 1 0)))).set 35 (.inl (0, .inl ((([s1, s2, s3, s4]).set 0 (-1)).set 1 (-1))))).set 34 (.inl (0, .inl ((((([0, 0, 0, 0] : List Int32)).set 0 0).set 1 0).set 2 0)))).set 35 (.inl (0, .inl (((([s1, s2, s3, s4]).set 0 (-1)).set 1 (-1)).set 2 (-1))))).set 34 (.inl (0, .inl (((((([0, 0, 0, 0] : List Int32)).set 0 0).set 1 0).set 2 0).set 3 0)))).set 35 (.inl (0, .inl ((((([s1, s2, s3, s4]).set 0 (-1)).set 1 (-1)).set 2 (-1)).set 3 (-1)))))) _
        refine sp_aload_n (p2 := 1) rfl rfl rfl ?_
        refine st_get rfl (ob_ne (by decide) (ob_ne (by decide) (ob_ne (by decide) (ob_ne (by decide) (ob_ne (by decide) (ob_ne (by decide) (ob_ne (by decide) (ob_ne (by decide) g_1)))))))) rfl ?_
        show Ev _ _ _ (4, _, _, _) _
        refine sp_iload_n (p2 := 5) rfl rfl rfl ?_
        refine st_aald (v := .ref 36) rfl (qa_ne (by decide) (qa_ne (by decide) (qa_ne (by decide) (qa_ne (by decide) (qa_ne (by decide) (qa_ne (by decide) (qa_ne (by decide) (qa_ne (by decide) g_8)))))))) (by decide) rfl ?_
        show Ev _ _ _ (6, _, _, _) _
        refine sp_astore_n (p2 := 7) (lv2 := [(3, .ref 36), (0, .ref 17), (1, .ref 39), (2, .int 0)]) rfl rfl (by decide) rfl ?_
        refine sp_aload_n (p2 := 8) rfl rfl rfl ?_
        refine st_get rfl (ob_ne (by decide) (ob_ne (by decide) (ob_ne (by decide) (ob_ne (by decide) (ob_ne (by decide) (ob_ne (by decide) (ob_ne (by decide) (ob_ne (by decide) g_23)))))))) rfl ?_
        show Ev _ _ _ (11, _, _, _) _
        refine sp_iload_n (p2 := 12) rfl rfl rfl ?_
        refine sp_iconst (p2 := 13) (x := 0) rfl rfl (by decide) ?_
        refine st_iast (i := 36) rfl rfl (ia_ne (by decide) (ia_ne (by decide) (ia_ne (by decide) (ia_ne (by decide) (ia_ne (by decide) (ia_ne (by decide) (ia_ne (by decide) (ia_ne (by decide) g_36)))))))) rfl ?_
        show Ev _ _ _ (14, [(3, .ref 36), (0, .ref 17), (1, .ref 39), (2, .int 0)], [], (((((((((g.set 34 (.inl (0, .inl ((([0, 0, 0, 0] : List Int32)).set 0 0)))).set 35 (.inl (0, .inl (([s1, s2, s3, s4]).set 0 (-1))))).set 34 (.inl (0, .inl (((([0, 0, 0, 0] : List Int32)).set 0 0).set 1 0)))).set 35 (.inl (0, .inl ((([s1, s2, s3, s4]).set 0 (-1)).set 1 (-1))))).set 34 (.inl (0, .inl ((((([0, 0, 0, 0] : List Int32)).set 0 0).set 1 0).set 2 0)))).set 35 (.inl (0, .inl (((([s1, s2, s3, s4]).set 0 (-1)).set 1 (-1)).set 2 (-1))))).set 34 (.inl (0, .inl (((((([0, 0, 0, 0] : List Int32)).set 0 0).set 1 0).set 2 0).set 3 0)))).set 35 (.inl (0, .inl ((((([s1, s2, s3, s4]).set 0 (-1)).set 1 (-1)).set 2 (-1)).set 3 (-1))))).set 36 (.inl (0, .inl ((([0, 0, 0] : List Int32)).set 0 0))))) _
        refine sp_aload_n (p2 := 15) rfl rfl rfl ?_
        refine st_get rfl (ob_ne (by decide) (ob_ne (by decide) (ob_ne (by decide) (ob_ne (by decide) (ob_ne (by decide) (ob_ne (by decide) (ob_ne (by decide) (ob_ne (by decide) (ob_ne (by decide) g_20))))))))) rfl ?_
        show Ev _ _ _ (18, _, _, _) _
        refine sp_iconst (p2 := 19) (x := 2) rfl rfl (by decide) ?_
        refine st_icmp (b := false) rfl (by decide) ?_
        show Ev _ _ _ (22, _, _, _) _
        exact sp_vret rfl rfl
      refine st_callV (R := 17) rfl rfl rfl (ob_ne (by decide) (ob_ne (by decide) (ob_ne (by decide) (ob_ne (by decide) (ob_ne (by decide) (ob_ne (by decide) (ob_ne (by decide) (ob_ne (by decide) g_1)))))))) rfl c5 ?_
      show Ev _ _ _ (32, [(2, .int 0), (0, .ref 17), (1, .ref 39)], [], (((((((((g.set 34 (.inl (0, .inl ((([0, 0, 0, 0] : List Int32)).set 0 0)))).set 35 (.inl (0, .inl (([s1, s2, s3, s4]).set 0 (-1))))).set 34 (.inl (0, .inl (((([0, 0, 0, 0] : List Int32)).set 0 0).set 1 0)))).set 35 (.inl (0, .inl ((([s1, s2, s3, s4]).set 0 (-1)).set 1 (-1))))).set 34 (.inl (0, .inl ((((([0, 0, 0, 0] : List Int32)).set 0 0).set 1 0).set 2 0)))).set 35 (.inl (0, .inl (((([s1, s2, s3, s4]).set 0 (-1)).set 1 (-1)).set 2 (-1))))).set 34 (.inl (0, .inl (((((([0, 0, 0, 0] : List Int32)).set 0 0).set 1 0).set 2 0).set 3 0)))).set 35 (.inl (0, .inl ((((([s1, s2, s3, s4]).set 0 (-1)).set 1 (-1)).set 2 (-1)).set 3 (-1))))).set 36 (.inl (0, .inl ((([0, 0, 0] : List Int32)).set 0 0))))) _
      refine sp_iinc (p2 := 35) (y := 1) (lv2 := [(2, .int 1), (0, .ref 17), (1, .ref 39)]) rfl rfl (by decide) rfl (by decide) rfl ?_
      refine sp_goto rfl ?_
      refine sp_iload_n (p2 := 22) rfl rfl rfl ?_
      refine sp_iconst (p2 := 23) (x := 3) rfl rfl (by decide) ?_
      refine st_icmp (b := false) rfl (by decide) ?_
      show Ev _ _ _ (26, _, _, _) _
      refine sp_aload_n (p2 := 27) rfl rfl rfl ?_
      refine sp_aload_n (p2 := 28) rfl rfl rfl ?_
      refine sp_iload_n (p2 := 29) rfl rfl rfl ?_
      have c6 : Ca 18 11 [.ref 17, .ref 39, .int 1] (((((((((g.set 34 (.inl (0, .inl ((([0, 0, 0, 0] : List Int32)).set 0 0)))).set 35 (.inl (0, .inl (([s1, s2, s3, s4]).set 0 (-1))))).set 34 (.inl (0, .inl (((([0, 0, 0, 0] : List Int32)).set 0 0).set 1 0)))).set 35 (.inl (0, .inl ((([s1, s2, s3, s4]).set 0 (-1)).set 1 (-1))))).set 34 (.inl (0, .inl ((((([0, 0, 0, 0] : List Int32)).set 0 0).set 1 0).set 2 0)))).set 35 (.inl (0, .inl (((([s1, s2, s3, s4]).set 0 (-1)).set 1 (-1)).set 2 (-1))))).set 34 (.inl (0, .inl (((((([0, 0, 0, 0] : List Int32)).set 0 0).set 1 0).set 2 0).set 3 0)))).set 35 (.inl (0, .inl ((((([s1, s2, s3, s4]).set 0 (-1)).set 1 (-1)).set 2 (-1)).set 3 (-1))))).set 36 (.inl (0, .inl ((([0, 0, 0] : List Int32)).set 0 0)))) (none, ((((((((((g.set 34 (.inl (0, .inl ((([0, 0, 0, 0] : List Int32)).set 0 0)))).set 35 (.inl (0, .inl (([s1, s2, s3, s4]).set 0 (-1))))).set 34 (.inl (0, .inl (((([0, 0, 0, 0] : List Int32)).set 0 0).set 1 0)))).set 35 (.inl (0, .inl ((([s1, s2, s3, s4]).set 0 (-1)).set 1 (-1))))).set 34 (.inl (0, .inl ((((([0, 0, 0, 0] : List Int32)).set 0 0).set 1 0).set 2 0)))).set 35 (.inl (0, .inl (((([s1, s2, s3, s4]).set 0 (-1)).set 1 (-1)).set 2 (-1))))).set 34 (.inl (0, .inl (((((([0, 0, 0, 0] : List Int32)).set 0 0).set 1 0).set 2 0).set 3 0)))).set 35 (.inl (0, .inl ((((([s1, s2, s3, s4]).set 0 (-1)).set 1 (-1)).set 2 (-1)).set 3 (-1))))).set 36 (.inl (0, .inl ((([0, 0, 0] : List Int32)).set 0 0)))).set 36 (.inl (0, .inl (((([0, 0, 0] : List Int32)).set 0 0).set 1 0))))) := by
        refine ca_of (d := 17) (M := mX0_driveRail) rfl (Nat.le_of_ble_eq_true rfl) ?_
        show Ev im_K0 17 mX0_driveRail (0, [(0, .ref 17), (1, .ref 39), (2, .int 1)], [], (((((((((g.set 34 (.inl (0, .inl ((([0, 0, 0, 0] : List Int32)).set 0 0)))).set 35 (.inl (0, .inl (([s1, s2, s3, s4]).set 0 (-1))))).set 34 (.inl (0, .inl (((([0, 0, 0, 0] : List Int32)).set 0 0).set 1 0)))).set 35 (.inl (0, .inl ((([s1, s2, s3, s4]).set 0 (-1)).set 1 (-1))))).set 34 (.inl (0, .inl ((((([0, 0, 0, 0] : List Int32)).set 0 0).set 1 0).set 2 0)))).set 35 (.inl (0, .inl (((([s1, s2, s3, s4]).set 0 (-1)).set 1 (-1)).set 2 (-1))))).set 34 (.inl (0, .inl (((((([0, 0, 0, 0] : List Int32)).set 0 0).set 1 0).set 2 0).set 3 0)))).set 35 (.inl (0, .inl ((((([s1, s2, s3, s4]).set 0 (-1)).set 1 (-1)).set 2 (-1)).set 3 (-1))))).set 36 (.inl (0, .inl ((([0, 0, 0] : List Int32)).set 0 0))))) _
        refine sp_aload_n (p2 := 1) rfl rfl rfl ?_
        refine st_get rfl (ob_ne (by decide) (ob_ne (by decide) (ob_ne (by decide) (ob_ne (by decide) (ob_ne (by decide) (ob_ne (by decide) (ob_ne (by decide) (ob_ne (by decide) (ob_ne (by decide) g_1))))))))) rfl ?_
        show Ev _ _ _ (4, _, _, _) _
        refine sp_iload_n (p2 := 5) rfl rfl rfl ?_
        refine st_aald (v := .ref 37) rfl (qa_ne (by decide) (qa_ne (by decide) (qa_ne (by decide) (qa_ne (by decide) (qa_ne (by decide) (qa_ne (by decide) (qa_ne (by decide) (qa_ne (by decide) (qa_ne (by decide) g_8))))))))) (by decide) rfl ?_
        show Ev _ _ _ (6, _, _, _) _
        refine sp_astore_n (p2 := 7) (lv2 := [(3, .ref 37), (0, .ref 17), (1, .ref 39), (2, .int 1)]) rfl rfl (by decide) rfl ?_
        refine sp_aload_n (p2 := 8) rfl rfl rfl ?_
        refine st_get rfl (ob_ne (by decide) (ob_ne (by decide) (ob_ne (by decide) (ob_ne (by decide) (ob_ne (by decide) (ob_ne (by decide) (ob_ne (by decide) (ob_ne (by decide) (ob_ne (by decide) g_23))))))))) rfl ?_
        show Ev _ _ _ (11, _, _, _) _
        refine sp_iload_n (p2 := 12) rfl rfl rfl ?_
        refine sp_iconst (p2 := 13) (x := 0) rfl rfl (by decide) ?_
        refine st_iast (i := 36) rfl rfl (ia_eq2 (sl_len (sl_len (sl_len (sl_len (sl_len (sl_len (sl_len (sl_len g_len)))))))) (by decide)) rfl ?_
        show Ev _ _ _ (14, [(3, .ref 37), (0, .ref 17), (1, .ref 39), (2, .int 1)], [], ((((((((((g.set 34 (.inl (0, .inl ((([0, 0, 0, 0] : List Int32)).set 0 0)))).set 35 (.inl (0, .inl (([s1, s2, s3, s4]).set 0 (-1))))).set 34 (.inl (0, .inl (((([0, 0, 0, 0] : List Int32)).set 0 0).set 1 0)))).set 35 (.inl (0, .inl ((([s1, s2, s3, s4]).set 0 (-1)).set 1 (-1))))).set 34 (.inl (0, .inl ((((([0, 0, 0, 0] : List Int32)).set 0 0).set 1 0).set 2 0)))).set 35 (.inl (0, .inl (((([s1, s2, s3, s4]).set 0 (-1)).set 1 (-1)).set 2 (-1))))).set 34 (.inl (0, .inl (((((([0, 0, 0, 0] : List Int32)).set 0 0).set 1 0).set 2 0).set 3 0)))).set 35 (.inl (0, .inl ((((([s1, s2, s3, s4]).set 0 (-1)).set 1 (-1)).set 2 (-1)).set 3 (-1))))).set 36 (.inl (0, .inl ((([0, 0, 0] : List Int32)).set 0 0)))).set 36 (.inl (0, .inl (((([0, 0, 0] : List Int32)).set 0 0).set 1 0))))) _
        refine sp_aload_n (p2 := 15) rfl rfl rfl ?_
        refine st_get rfl (ob_ne (by decide) (ob_ne (by decide) (ob_ne (by decide) (ob_ne (by decide) (ob_ne (by decide) (ob_ne (by decide) (ob_ne (by decide) (ob_ne (by decide) (ob_ne (by decide) (ob_ne (by decide) g_21)))))))))) rfl ?_
        show Ev _ _ _ (18, _, _, _) _
        refine sp_iconst (p2 := 19) (x := 2) rfl rfl (by decide) ?_
        refine st_icmp (b := false) rfl (by decide) ?_
        show Ev _ _ _ (22, _, _, _) _
        exact sp_vret rfl rfl
      refine st_callV (R := 17) rfl rfl rfl (ob_ne (by decide) (ob_ne (by decide) (ob_ne (by decide) (ob_ne (by decide) (ob_ne (by decide) (ob_ne (by decide) (ob_ne (by decide) (ob_ne (by decide) (ob_ne (by decide) g_1))))))))) rfl c6 ?_
      show Ev _ _ _ (32, [(2, .int 1), (0, .ref 17), (1, .ref 39)], [], ((((((((((g.set 34 (.inl (0, .inl ((([0, 0, 0, 0] : List Int32)).set 0 0)))).set 35 (.inl (0, .inl (([s1, s2, s3, s4]).set 0 (-1))))).set 34 (.inl (0, .inl (((([0, 0, 0, 0] : List Int32)).set 0 0).set 1 0)))).set 35 (.inl (0, .inl ((([s1, s2, s3, s4]).set 0 (-1)).set 1 (-1))))).set 34 (.inl (0, .inl ((((([0, 0, 0, 0] : List Int32)).set 0 0).set 1 0).set 2 0)))).set 35 (.inl (0, .inl (((([s1, s2, s3, s4]).set 0 (-1)).set 1 (-1)).set 2 (-1))))).set 34 (.inl (0, .inl (((((([0, 0, 0, 0] : List Int32)).set 0 0).set 1 0).set 2 0).set 3 0)))).set 35 (.inl (0, .inl ((((([s1, s2, s3, s4]).set 0 (-1)).set 1 (-1)).set 2 (-1)).set 3 (-1))))).set 36 (.inl (0, .inl ((([0, 0, 0] : List Int32)).set 0 0)))).set 36 (.inl (0, .inl (((([0, 0, 0] : List Int32)).set 0 0).set 1 0))))) _
      refine sp_iinc (p2 := 35) (y := 2) (lv2 := [(2, .int 2), (0, .ref 17), (1, .ref 39)]) rfl rfl (by decide) rfl (by decide) rfl ?_
      refine sp_goto rfl ?_
      refine sp_iload_n (p2 := 22) rfl rfl rfl ?_
      refine sp_iconst (p2 := 23) (x := 3) rfl rfl (by decide) ?_
      refine st_icmp (b := false) rfl (by decide) ?_
      show Ev _ _ _ (26, _, _, _) _
      refine sp_aload_n (p2 := 27) rfl rfl rfl ?_
      refine sp_aload_n (p2 := 28) rfl rfl rfl ?_
      refine sp_iload_n (p2 := 29) rfl rfl rfl ?_
      have c7 : Ca 18 11 [.ref 17, .ref 39, .int 2] ((((((((((g.set 34 (.inl (0, .inl ((([0, 0, 0, 0] : List Int32)).set 0 0)))).set 35 (.inl (0, .inl (([s1, s2, s3, s4]).set 0 (-1))))).set 34 (.inl (0, .inl (((([0, 0, 0, 0] : List Int32)).set 0 0).set 1 0)))).set 35 (.inl (0, .inl ((([s1, s2, s3, s4]).set 0 (-1)).set 1 (-1))))).set 34 (.inl (0, .inl ((((([0, 0, 0, 0] : List Int32)).set 0 0).set 1 0).set 2 0)))).set 35 (.inl (0, .inl (((([s1, s2, s3, s4]).set 0 (-1)).set 1 (-1)).set 2 (-1))))).set 34 (.inl (0, .inl (((((([0, 0, 0, 0] : List Int32)).set 0 0).set 1 0).set 2 0).set 3 0)))).set 35 (.inl (0, .inl ((((([s1, s2, s3, s4]).set 0 (-1)).set 1 (-1)).set 2 (-1)).set 3 (-1))))).set 36 (.inl (0, .inl ((([0, 0, 0] : List Int32)).set 0 0)))).set 36 (.inl (0, .inl (((([0, 0, 0] : List Int32)).set 0 0).set 1 0)))) (none, (((((((((((g.set 34 (.inl (0, .inl ((([0, 0, 0, 0] : List Int32)).set 0 0)))).set 35 (.inl (0, .inl (([s1, s2, s3, s4]).set 0 (-1))))).set 34 (.inl (0, .inl (((([0, 0, 0, 0] : List Int32)).set 0 0).set 1 0)))).set 35 (.inl (0, .inl ((([s1, s2, s3, s4]).set 0 (-1)).set 1 (-1))))).set 34 (.inl (0, .inl ((((([0, 0, 0, 0] : List Int32)).set 0 0).set 1 0).set 2 0)))).set 35 (.inl (0, .inl (((([s1, s2, s3, s4]).set 0 (-1)).set 1 (-1)).set 2 (-1))))).set 34 (.inl (0, .inl (((((([0, 0, 0, 0] : List Int32)).set 0 0).set 1 0).set 2 0).set 3 0)))).set 35 (.inl (0, .inl ((((([s1, s2, s3, s4]).set 0 (-1)).set 1 (-1)).set 2 (-1)).set 3 (-1))))).set 36 (.inl (0, .inl ((([0, 0, 0] : List Int32)).set 0 0)))).set 36 (.inl (0, .inl (((([0, 0, 0] : List Int32)).set 0 0).set 1 0)))).set 36 (.inl (0, .inl ((((([0, 0, 0] : List Int32)).set 0 0).set 1 0).set 2 0))))) := by
        refine ca_of (d := 17) (M := mX0_driveRail) rfl (Nat.le_of_ble_eq_true rfl) ?_
        show Ev im_K0 17 mX0_driveRail (0, [(0, .ref 17), (1, .ref 39), (2, .int 2)], [], ((((((((((g.set 34 (.inl (0, .inl ((([0, 0, 0, 0] : List Int32)).set 0 0)))).set 35 (.inl (0, .inl (([s1, s2, s3, s4]).set 0 (-1))))).set 34 (.inl (0, .inl (((([0, 0, 0, 0] : List Int32)).set 0 0).set 1 0)))).set 35 (.inl (0, .inl ((([s1, s2, s3, s4]).set 0 (-1)).set 1 (-1))))).set 34 (.inl (0, .inl ((((([0, 0, 0, 0] : List Int32)).set 0 0).set 1 0).set 2 0)))).set 35 (.inl (0, .inl (((([s1, s2, s3, s4]).set 0 (-1)).set 1 (-1)).set 2 (-1))))).set 34 (.inl (0, .inl (((((([0, 0, 0, 0] : List Int32)).set 0 0).set 1 0).set 2 0).set 3 0)))).set 35 (.inl (0, .inl ((((([s1, s2, s3, s4]).set 0 (-1)).set 1 (-1)).set 2 (-1)).set 3 (-1))))).set 36 (.inl (0, .inl ((([0, 0, 0] : List Int32)).set 0 0)))).set 36 (.inl (0, .inl (((([0, 0, 0] : List Int32)).set 0 0).set 1 0))))) _
        refine sp_aload_n (p2 := 1) rfl rfl rfl ?_
        refine st_get rfl (ob_ne (by decide) (ob_ne (by decide) (ob_ne (by decide) (ob_ne (by decide) (ob_ne (by decide) (ob_ne (by decide) (ob_ne (by decide) (ob_ne (by decide) (ob_ne (by decide) (ob_ne (by decide) g_1)))))))))) rfl ?_
        show Ev _ _ _ (4, _, _, _) _
        refine sp_iload_n (p2 := 5) rfl rfl rfl ?_
        refine st_aald (v := .ref 38) rfl (qa_ne (by decide) (qa_ne (by decide) (qa_ne (by decide) (qa_ne (by decide) (qa_ne (by decide) (qa_ne (by decide) (qa_ne (by decide) (qa_ne (by decide) (qa_ne (by decide) (qa_ne (by decide) g_8)))))))))) (by decide) rfl ?_
        show Ev _ _ _ (6, _, _, _) _
        refine sp_astore_n (p2 := 7) (lv2 := [(3, .ref 38), (0, .ref 17), (1, .ref 39), (2, .int 2)]) rfl rfl (by decide) rfl ?_
        refine sp_aload_n (p2 := 8) rfl rfl rfl ?_
        refine st_get rfl (ob_ne (by decide) (ob_ne (by decide) (ob_ne (by decide) (ob_ne (by decide) (ob_ne (by decide) (ob_ne (by decide) (ob_ne (by decide) (ob_ne (by decide) (ob_ne (by decide) (ob_ne (by decide) g_23)))))))))) rfl ?_
        show Ev _ _ _ (11, _, _, _) _
        refine sp_iload_n (p2 := 12) rfl rfl rfl ?_
        refine sp_iconst (p2 := 13) (x := 0) rfl rfl (by decide) ?_
        refine st_iast (i := 36) rfl rfl (ia_eq2 (sl_len (sl_len (sl_len (sl_len (sl_len (sl_len (sl_len (sl_len (sl_len g_len))))))))) (by decide)) rfl ?_
        show Ev _ _ _ (14, [(3, .ref 38), (0, .ref 17), (1, .ref 39), (2, .int 2)], [], (((((((((((g.set 34 (.inl (0, .inl ((([0, 0, 0, 0] : List Int32)).set 0 0)))).set 35 (.inl (0, .inl (([s1, s2, s3, s4]).set 0 (-1))))).set 34 (.inl (0, .inl (((([0, 0, 0, 0] : List Int32)).set 0 0).set 1 0)))).set 35 (.inl (0, .inl ((([s1, s2, s3, s4]).set 0 (-1)).set 1 (-1))))).set 34 (.inl (0, .inl ((((([0, 0, 0, 0] : List Int32)).set 0 0).set 1 0).set 2 0)))).set 35 (.inl (0, .inl (((([s1, s2, s3, s4]).set 0 (-1)).set 1 (-1)).set 2 (-1))))).set 34 (.inl (0, .inl (((((([0, 0, 0, 0] : List Int32)).set 0 0).set 1 0).set 2 0).set 3 0)))).set 35 (.inl (0, .inl ((((([s1, s2, s3, s4]).set 0 (-1)).set 1 (-1)).set 2 (-1)).set 3 (-1))))).set 36 (.inl (0, .inl ((([0, 0, 0] : List Int32)).set 0 0)))).set 36 (.inl (0, .inl (((([0, 0, 0] : List Int32)).set 0 0).set 1 0)))).set 36 (.inl (0, .inl ((((([0, 0, 0] : List Int32)).set 0 0).set 1 0).set 2 0))))) _
        refine sp_aload_n (p2 := 15) rfl rfl rfl ?_
        refine st_get rfl (ob_ne (by decide) (ob_ne (by decide) (ob_ne (by decide) (ob_ne (by decide) (ob_ne (by decide) (ob_ne (by decide) (ob_ne (by decide) (ob_ne (by decide) (ob_ne (by decide) (ob_ne (by decide) (ob_ne (by decide) g_22))))))))))) rfl ?_
        show Ev _ _ _ (18, _, _, _) _
        refine sp_iconst (p2 := 19) (x := 2) rfl rfl (by decide) ?_
        refine st_icmp (b := false) rfl (by decide) ?_
        show Ev _ _ _ (22, _, _, _) _
        exact sp_vret rfl rfl
      refine st_callV (R := 17) rfl rfl rfl (ob_ne (by decide) (ob_ne (by decide) (ob_ne (by decide) (ob_ne (by decide) (ob_ne (by decide) (ob_ne (by decide) (ob_ne (by decide) (ob_ne (by decide) (ob_ne (by decide) (ob_ne (by decide) g_1)))))))))) rfl c7 ?_
      show Ev _ _ _ (32, [(2, .int 2), (0, .ref 17), (1, .ref 39)], [], (((((((((((g.set 34 (.inl (0, .inl ((([0, 0, 0, 0] : List Int32)).set 0 0)))).set 35 (.inl (0, .inl (([s1, s2, s3, s4]).set 0 (-1))))).set 34 (.inl (0, .inl (((([0, 0, 0, 0] : List Int32)).set 0 0).set 1 0)))).set 35 (.inl (0, .inl ((([s1, s2, s3, s4]).set 0 (-1)).set 1 (-1))))).set 34 (.inl (0, .inl ((((([0, 0, 0, 0] : List Int32)).set 0 0).set 1 0).set 2 0)))).set 35 (.inl (0, .inl (((([s1, s2, s3, s4]).set 0 (-1)).set 1 (-1)).set 2 (-1))))).set 34 (.inl (0, .inl (((((([0, 0, 0, 0] : List Int32)).set 0 0).set 1 0).set 2 0).set 3 0)))).set 35 (.inl (0, .inl ((((([s1, s2, s3, s4]).set 0 (-1)).set 1 (-1)).set 2 (-1)).set 3 (-1))))).set 36 (.inl (0, .inl ((([0, 0, 0] : List Int32)).set 0 0)))).set 36 (.inl (0, .inl (((([0, 0, 0] : List Int32)).set 0 0).set 1 0)))).set 36 (.inl (0, .inl ((((([0, 0, 0] : List Int32)).set 0 0).set 1 0).set 2 0))))) _
      refine sp_iinc (p2 := 35) (y := 3) (lv2 := [(2, .int 3), (0, .ref 17), (1, .ref 39)]) rfl rfl (by decide) rfl (by decide) rfl ?_
      refine sp_goto rfl ?_
      refine sp_iload_n (p2 := 22) rfl rfl rfl ?_
      refine sp_iconst (p2 := 23) (x := 3) rfl rfl (by decide) ?_
      refine st_icmp (b := true) rfl (by decide) ?_
      show Ev _ _ _ (38, _, _, _) _
      refine sp_iconst (p2 := 39) (x := 0) rfl rfl (by decide) ?_
      refine sp_istore_n (p2 := 40) (lv2 := [(2, .int 0), (0, .ref 17), (1, .ref 39)]) rfl rfl (by decide) rfl ?_
      refine sp_iload_n (p2 := 41) rfl rfl rfl ?_
      refine sp_aload_n (p2 := 42) rfl rfl rfl ?_
      refine st_get rfl (ob_ne (by decide) (ob_ne (by decide) (ob_ne (by decide) (ob_ne (by decide) (ob_ne (by decide) (ob_ne (by decide) (ob_ne (by decide) (ob_ne (by decide) (ob_ne (by decide) (ob_ne (by decide) (ob_ne (by decide) g_1))))))))))) rfl ?_
      show Ev _ _ _ (45, _, _, _) _
      refine st_icmp (b := true) rfl (by decide) ?_
      show Ev _ _ _ (79, _, _, _) _
      refine sp_iconst (p2 := 80) (x := 0) rfl rfl (by decide) ?_
      refine sp_istore_n (p2 := 81) (lv2 := [(2, .int 0), (0, .ref 17), (1, .ref 39)]) rfl rfl (by decide) rfl ?_
      refine sp_iload_n (p2 := 82) rfl rfl rfl ?_
      refine sp_aload_n (p2 := 83) rfl rfl rfl ?_
      refine st_get rfl (ob_ne (by decide) (ob_ne (by decide) (ob_ne (by decide) (ob_ne (by decide) (ob_ne (by decide) (ob_ne (by decide) (ob_ne (by decide) (ob_ne (by decide) (ob_ne (by decide) (ob_ne (by decide) (ob_ne (by decide) g_1))))))))))) rfl ?_
      show Ev _ _ _ (86, _, _, _) _
      refine st_icmp (b := true) rfl (by decide) ?_
      show Ev _ _ _ (125, _, _, _) _
      refine sp_aload_n (p2 := 126) rfl rfl rfl ?_
      refine st_get rfl (ob_ne (by decide) (ob_ne (by decide) (ob_ne (by decide) (ob_ne (by decide) (ob_ne (by decide) (ob_ne (by decide) (ob_ne (by decide) (ob_ne (by decide) (ob_ne (by decide) (ob_ne (by decide) (ob_ne (by decide) g_23))))))))))) rfl ?_
      show Ev _ _ _ (129, _, _, _) _
      refine sp_bipush (p2 := 131) (x := 7) rfl rfl (by decide) ?_
      have f1 : Int32.toInt (d - d / 7 * 7) = Int32.toInt d % 7 := i32_rem7 (by omega)
      refine sp_irem (p2 := 132) (z := (d - d / 7 * 7)) rfl rfl (by decide) rfl ?_
      refine sp_bipush (p2 := 134) (x := 6) rfl rfl (by decide) ?_
      refine st_icmp (b := false) rfl (cn_ne_F rfl (show Int32.toInt 6 = 6 from rfl) (by omega)) ?_
      show Ev _ _ _ (137, _, _, _) _
      refine sp_aload_n (p2 := 138) rfl rfl rfl ?_
      refine sp_aload_n (p2 := 139) rfl rfl rfl ?_
      have c8 : Ca 18 15 [.ref 17, .ref 39] (((((((((((g.set 34 (.inl (0, .inl ((([0, 0, 0, 0] : List Int32)).set 0 0)))).set 35 (.inl (0, .inl (([s1, s2, s3, s4]).set 0 (-1))))).set 34 (.inl (0, .inl (((([0, 0, 0, 0] : List Int32)).set 0 0).set 1 0)))).set 35 (.inl (0, .inl ((([s1, s2, s3, s4]).set 0 (-1)).set 1 (-1))))).set 34 (.inl (0, .inl ((((([0, 0, 0, 0] : List Int32)).set 0 0).set 1 0).set 2 0)))).set 35 (.inl (0, .inl (((([s1, s2, s3, s4]).set 0 (-1)).set 1 (-1)).set 2 (-1))))).set 34 (.inl (0, .inl (((((([0, 0, 0, 0] : List Int32)).set 0 0).set 1 0).set 2 0).set 3 0)))).set 35 (.inl (0, .inl ((((([s1, s2, s3, s4]).set 0 (-1)).set 1 (-1)).set 2 (-1)).set 3 (-1))))).set 36 (.inl (0, .inl ((([0, 0, 0] : List Int32)).set 0 0)))).set 36 (.inl (0, .inl (((([0, 0, 0] : List Int32)).set 0 0).set 1 0)))).set 36 (.inl (0, .inl ((((([0, 0, 0] : List Int32)).set 0 0).set 1 0).set 2 0)))) (none, (((((((((((g.set 34 (.inl (0, .inl ((([0, 0, 0, 0] : List Int32)).set 0 0)))).set 35 (.inl (0, .inl (([s1, s2, s3, s4]).set 0 (-1))))).set 34 (.inl (0, .inl (((([0, 0, 0, 0] : List Int32)).set 0 0).set 1 0)))).set 35 (.inl (0, .inl ((([s1, s2, s3, s4]).set 0 (-1)).set 1 (-1))))).set 34 (.inl (0, .inl ((((([0, 0, 0, 0] : List Int32)).set 0 0).set 1 0).set 2 0)))).set 35 (.inl (0, .inl (((([s1, s2, s3, s4]).set 0 (-1)).set 1 (-1)).set 2 (-1))))).set 34 (.inl (0, .inl (((((([0, 0, 0, 0] : List Int32)).set 0 0).set 1 0).set 2 0).set 3 0)))).set 35 (.inl (0, .inl ((((([s1, s2, s3, s4]).set 0 (-1)).set 1 (-1)).set 2 (-1)).set 3 (-1))))).set 36 (.inl (0, .inl ((([0, 0, 0] : List Int32)).set 0 0)))).set 36 (.inl (0, .inl (((([0, 0, 0] : List Int32)).set 0 0).set 1 0)))).set 36 (.inl (0, .inl ((((([0, 0, 0] : List Int32)).set 0 0).set 1 0).set 2 0))))) := by
        refine ca_of (d := 17) (M := mX0_heal) rfl (Nat.le_of_ble_eq_true rfl) ?_
        show Ev im_K0 17 mX0_heal (0, [(0, .ref 17), (1, .ref 39)], [], (((((((((((g.set 34 (.inl (0, .inl ((([0, 0, 0, 0] : List Int32)).set 0 0)))).set 35 (.inl (0, .inl (([s1, s2, s3, s4]).set 0 (-1))))).set 34 (.inl (0, .inl (((([0, 0, 0, 0] : List Int32)).set 0 0).set 1 0)))).set 35 (.inl (0, .inl ((([s1, s2, s3, s4]).set 0 (-1)).set 1 (-1))))).set 34 (.inl (0, .inl ((((([0, 0, 0, 0] : List Int32)).set 0 0).set 1 0).set 2 0)))).set 35 (.inl (0, .inl (((([s1, s2, s3, s4]).set 0 (-1)).set 1 (-1)).set 2 (-1))))).set 34 (.inl (0, .inl (((((([0, 0, 0, 0] : List Int32)).set 0 0).set 1 0).set 2 0).set 3 0)))).set 35 (.inl (0, .inl ((((([s1, s2, s3, s4]).set 0 (-1)).set 1 (-1)).set 2 (-1)).set 3 (-1))))).set 36 (.inl (0, .inl ((([0, 0, 0] : List Int32)).set 0 0)))).set 36 (.inl (0, .inl (((([0, 0, 0] : List Int32)).set 0 0).set 1 0)))).set 36 (.inl (0, .inl ((((([0, 0, 0] : List Int32)).set 0 0).set 1 0).set 2 0))))) _
        refine sp_iconst (p2 := 1) (x := 0) rfl rfl (by decide) ?_
        refine sp_istore_n (p2 := 2) (lv2 := [(2, .int 0), (0, .ref 17), (1, .ref 39)]) rfl rfl (by decide) rfl ?_
        refine sp_iload_n (p2 := 3) rfl rfl rfl ?_
        refine sp_aload_n (p2 := 4) rfl rfl rfl ?_
        refine st_get rfl (ob_ne (by decide) (ob_ne (by decide) (ob_ne (by decide) (ob_ne (by decide) (ob_ne (by decide) (ob_ne (by decide) (ob_ne (by decide) (ob_ne (by decide) (ob_ne (by decide) (ob_ne (by decide) (ob_ne (by decide) g_1))))))))))) rfl ?_
        show Ev _ _ _ (7, _, _, _) _
        refine st_icmp (b := true) rfl (by decide) ?_
        show Ev _ _ _ (44, _, _, _) _
        exact sp_vret rfl rfl
      refine st_callV (R := 17) rfl rfl rfl (ob_ne (by decide) (ob_ne (by decide) (ob_ne (by decide) (ob_ne (by decide) (ob_ne (by decide) (ob_ne (by decide) (ob_ne (by decide) (ob_ne (by decide) (ob_ne (by decide) (ob_ne (by decide) (ob_ne (by decide) g_1))))))))))) rfl c8 ?_
      show Ev _ _ _ (142, [(2, .int 0), (0, .ref 17), (1, .ref 39)], [], (((((((((((g.set 34 (.inl (0, .inl ((([0, 0, 0, 0] : List Int32)).set 0 0)))).set 35 (.inl (0, .inl (([s1, s2, s3, s4]).set 0 (-1))))).set 34 (.inl (0, .inl (((([0, 0, 0, 0] : List Int32)).set 0 0).set 1 0)))).set 35 (.inl (0, .inl ((([s1, s2, s3, s4]).set 0 (-1)).set 1 (-1))))).set 34 (.inl (0, .inl ((((([0, 0, 0, 0] : List Int32)).set 0 0).set 1 0).set 2 0)))).set 35 (.inl (0, .inl (((([s1, s2, s3, s4]).set 0 (-1)).set 1 (-1)).set 2 (-1))))).set 34 (.inl (0, .inl (((((([0, 0, 0, 0] : List Int32)).set 0 0).set 1 0).set 2 0).set 3 0)))).set 35 (.inl (0, .inl ((((([s1, s2, s3, s4]).set 0 (-1)).set 1 (-1)).set 2 (-1)).set 3 (-1))))).set 36 (.inl (0, .inl ((([0, 0, 0] : List Int32)).set 0 0)))).set 36 (.inl (0, .inl (((([0, 0, 0] : List Int32)).set 0 0).set 1 0)))).set 36 (.inl (0, .inl ((((([0, 0, 0] : List Int32)).set 0 0).set 1 0).set 2 0))))) _
      refine sp_aload_n (p2 := 143) rfl rfl rfl ?_
      refine sp_dup (p2 := 144) rfl rfl rfl ?_
      refine st_get rfl (ob_ne (by decide) (ob_ne (by decide) (ob_ne (by decide) (ob_ne (by decide) (ob_ne (by decide) (ob_ne (by decide) (ob_ne (by decide) (ob_ne (by decide) (ob_ne (by decide) (ob_ne (by decide) (ob_ne (by decide) g_23))))))))))) rfl ?_
      show Ev _ _ _ (147, _, _, _) _
      refine sp_iconst (p2 := 148) (x := 1) rfl rfl (by decide) ?_
      have f2 : Int32.toInt (d + 1) = Int32.toInt d + 1 := i32_addE (show Int32.toInt 1 = 1 from rfl) (by omega) (by omega)
      refine sp_iadd (p2 := 149) (z := (d + 1)) rfl rfl rfl ?_
      refine st_put (i := 23) rfl rfl (ob_ne (by decide) (ob_ne (by decide) (ob_ne (by decide) (ob_ne (by decide) (ob_ne (by decide) (ob_ne (by decide) (ob_ne (by decide) (ob_ne (by decide) (ob_ne (by decide) (ob_ne (by decide) (ob_ne (by decide) g_23))))))))))) rfl rfl (Nat.le_of_ble_eq_true rfl) ?_
      show Ev _ _ _ (152, [(2, .int 0), (0, .ref 17), (1, .ref 39)], [], ((((((((((((g.set 34 (.inl (0, .inl ((([0, 0, 0, 0] : List Int32)).set 0 0)))).set 35 (.inl (0, .inl (([s1, s2, s3, s4]).set 0 (-1))))).set 34 (.inl (0, .inl (((([0, 0, 0, 0] : List Int32)).set 0 0).set 1 0)))).set 35 (.inl (0, .inl ((([s1, s2, s3, s4]).set 0 (-1)).set 1 (-1))))).set 34 (.inl (0, .inl ((((([0, 0, 0, 0] : List Int32)).set 0 0).set 1 0).set 2 0)))).set 35 (.inl (0, .inl (((([s1, s2, s3, s4]).set 0 (-1)).set 1 (-1)).set 2 (-1))))).set 34 (.inl (0, .inl (((((([0, 0, 0, 0] : List Int32)).set 0 0).set 1 0).set 2 0).set 3 0)))).set 35 (.inl (0, .inl ((((([s1, s2, s3, s4]).set 0 (-1)).set 1 (-1)).set 2 (-1)).set 3 (-1))))).set 36 (.inl (0, .inl ((([0, 0, 0] : List Int32)).set 0 0)))).set 36 (.inl (0, .inl (((([0, 0, 0] : List Int32)).set 0 0).set 1 0)))).set 36 (.inl (0, .inl ((((([0, 0, 0] : List Int32)).set 0 0).set 1 0).set 2 0)))).set 23 (.inr (9, [.int ((d + 1)), .int 0, .int 0, .int 0, .int 0, .ref 40, .ref 41, .ref 42, .ref 43, .ref 44, .ref 45, .ref 46, .ref 47, .ref 48, .ref 49, .ref 50, .ref 51, .ref 52])))) _
      exact sp_vret rfl rfl
    · exact ⟨(sl_len (sl_len (sl_len (sl_len (sl_len (sl_len (sl_len (sl_len (sl_len (sl_len (sl_len (sl_len g_len)))))))))))), (fr_set (by decide) (fr_set (by decide) (fr_set (by decide) (fr_set (by decide) (fr_set (by decide) (fr_set (by decide) (fr_set (by decide) (fr_set (by decide) (fr_set (by decide) (fr_set (by decide) (fr_set (by decide) (fr_set (by decide) fr)))))))))))), (ob_ne (by decide) (ob_ne (by decide) (ob_ne (by decide) (ob_ne (by decide) (ob_ne (by decide) (ob_ne (by decide) (ob_ne (by decide) (ob_ne (by decide) (ob_ne (by decide) (ob_ne (by decide) (ob_ne (by decide) (ob_ne (by decide) g_0)))))))))))), (ob_ne (by decide) (ob_ne (by decide) (ob_ne (by decide) (ob_ne (by decide) (ob_ne (by decide) (ob_ne (by decide) (ob_ne (by decide) (ob_ne (by decide) (ob_ne (by decide) (ob_ne (by decide) (ob_ne (by decide) (ob_ne (by decide) g_1)))))))))))), (qa_ne (by decide) (qa_ne (by decide) (qa_ne (by decide) (qa_ne (by decide) (qa_ne (by decide) (qa_ne (by decide) (qa_ne (by decide) (qa_ne (by decide) (qa_ne (by decide) (qa_ne (by decide) (qa_ne (by decide) (qa_ne (by decide) g_7)))))))))))), (qa_ne (by decide) (qa_ne (by decide) (qa_ne (by decide) (qa_ne (by decide) (qa_ne (by decide) (qa_ne (by decide) (qa_ne (by decide) (qa_ne (by decide) (qa_ne (by decide) (qa_ne (by decide) (qa_ne (by decide) (qa_ne (by decide) g_8)))))))))))), (ob_ne (by decide) (ob_ne (by decide) (ob_ne (by decide) (ob_ne (by decide) (ob_ne (by decide) (ob_ne (by decide) (ob_ne (by decide) (ob_ne (by decide) (ob_ne (by decide) (ob_ne (by decide) (ob_ne (by decide) (ob_ne (by decide) g_12)))))))))))), (ob_ne (by decide) (ob_ne (by decide) (ob_ne (by decide) (ob_ne (by decide) (ob_ne (by decide) (ob_ne (by decide) (ob_ne (by decide) (ob_ne (by decide) (ob_ne (by decide) (ob_ne (by decide) (ob_ne (by decide) (ob_ne (by decide) g_14)))))))))))), (ob_ne (by decide) (ob_ne (by decide) (ob_ne (by decide) (ob_ne (by decide) (ob_ne (by decide) (ob_ne (by decide) (ob_ne (by decide) (ob_ne (by decide) (ob_ne (by decide) (ob_ne (by decide) (ob_ne (by decide) (ob_ne (by decide) g_16)))))))))))), (ob_ne (by decide) (ob_ne (by decide) (ob_ne (by decide) (ob_ne (by decide) (ob_ne (by decide) (ob_ne (by decide) (ob_ne (by decide) (ob_ne (by decide) (ob_ne (by decide) (ob_ne (by decide) (ob_ne (by decide) (ob_ne (by decide) g_18)))))))))))), (ob_ne (by decide) (ob_ne (by decide) (ob_ne (by decide) (ob_ne (by decide) (ob_ne (by decide) (ob_ne (by decide) (ob_ne (by decide) (ob_ne (by decide) (ob_ne (by decide) (ob_ne (by decide) (ob_ne (by decide) (ob_ne (by decide) g_20)))))))))))), (ob_ne (by decide) (ob_ne (by decide) (ob_ne (by decide) (ob_ne (by decide) (ob_ne (by decide) (ob_ne (by decide) (ob_ne (by decide) (ob_ne (by decide) (ob_ne (by decide) (ob_ne (by decide) (ob_ne (by decide) (ob_ne (by decide) g_21)))))))))))), (ob_ne (by decide) (ob_ne (by decide) (ob_ne (by decide) (ob_ne (by decide) (ob_ne (by decide) (ob_ne (by decide) (ob_ne (by decide) (ob_ne (by decide) (ob_ne (by decide) (ob_ne (by decide) (ob_ne (by decide) (ob_ne (by decide) g_22)))))))))))), (ob_eq2 (sl_len (sl_len (sl_len (sl_len (sl_len (sl_len (sl_len (sl_len (sl_len (sl_len (sl_len g_len))))))))))) (by decide)), (ia_ne (by decide) (ia_ne (by decide) (ia_ne (by decide) (ia_ne (by decide) (ia_ne (by decide) (ia_ne (by decide) (ia_ne (by decide) (ia_ne (by decide) (ia_ne (by decide) (ia_ne (by decide) (ia_ne (by decide) (ia_ne (by decide) g_25)))))))))))), (ia_ne (by decide) (ia_ne (by decide) (ia_ne (by decide) (ia_ne (by decide) (ia_ne (by decide) (ia_eq2 (sl_len (sl_len (sl_len (sl_len (sl_len (sl_len g_len)))))) (by decide))))))), (ia_ne (by decide) (ia_eq2 (sl_len (sl_len (sl_len (sl_len (sl_len (sl_len (sl_len (sl_len (sl_len (sl_len g_len)))))))))) (by decide))), ⟨_, _, _, _, (ia_ne (by decide) (ia_ne (by decide) (ia_ne (by decide) (ia_ne (by decide) (ia_eq2 (sl_len (sl_len (sl_len (sl_len (sl_len (sl_len (sl_len g_len))))))) (by decide))))))⟩⟩
set_option maxRecDepth 20000 in
set_option maxHeartbeats 4000000 in
theorem runX_lp (x1 : Int32) (h60 : x1.toInt ≤ 60) (out : ∀ g : im_H, Pnow g x1 → ∃ g1 : im_H, Ev im_K0 19 mX11_run (33, [(2, .int x1), (0, .ref 16), (1, .int x1)], [], g) (some (.int x1), g1) ∧ (g1.length = 200 ∧ (∀ i, 148 ≤ i → g1[i]? = hh[i]?))) : ∀ (m : Nat) (g : im_H) (d : Int32), Pnow g d → 0 ≤ d.toInt → d.toInt + m = x1.toInt → ∃ g1 : im_H, Ev im_K0 19 mX11_run (33, [(2, .int d), (0, .ref 16), (1, .int x1)], [], g) (some (.int x1), g1) ∧ (g1.length = 200 ∧ (∀ i, 148 ≤ i → g1[i]? = hh[i]?)) := by
  intro m
  induction m with
  | zero =>
    intro g d hp d0 hm
    have e : d = x1 := i32_ext (by omega)
    rw [e] at hp ⊢
    exact out g hp
  | succ m ih =>
    intro g d hp d0 hm
    obtain ⟨g2, hc, hp2⟩ := pd_now g d hp d0 (by omega)
    have fd : Int32.toInt (d + 1) = Int32.toInt d + 1 := i32_addE (show Int32.toInt 1 = 1 from rfl) (by omega) (by omega)
    obtain ⟨g1, he, hq⟩ := ih g2 (d + 1) hp2 (by omega) (by omega)
    obtain ⟨g_len, fr, g_0, g_1, g_7, g_8, g_12, g_14, g_16, g_18, g_20, g_21, g_22, g_23, g_25, g_34, g_36, ⟨s1, s2, s3, s4, g_35⟩⟩ := hp
    refine ⟨g1, ?_, hq⟩
    refine sp_iload_n (p2 := 34) rfl rfl rfl ?_
    refine sp_iload_n (p2 := 35) rfl rfl rfl ?_
    refine st_icmp (b := false) rfl (cn_ge_F rfl rfl (by omega)) ?_
    show Ev _ _ _ (38, _, _, _) _
    refine sp_aload_n (p2 := 39) rfl rfl rfl ?_
    refine st_get rfl g_0 rfl ?_
    show Ev _ _ _ (42, _, _, _) _
    refine sp_aload_n (p2 := 43) rfl rfl rfl ?_
    refine st_get rfl g_0 rfl ?_
    show Ev _ _ _ (46, _, _, _) _
    refine st_callV (R := 17) rfl rfl rfl g_1 rfl hc ?_
    show Ev _ _ _ (49, [(2, .int d), (0, .ref 16), (1, .int x1)], [], g2) _
    refine sp_iinc (p2 := 52) (y := (d + 1)) (lv2 := [(2, .int ((d + 1))), (0, .ref 16), (1, .int x1)]) rfl rfl (by decide) rfl rfl rfl ?_
    refine sp_goto rfl ?_
    exact he
set_option maxRecDepth 20000 in
set_option maxHeartbeats 4000000 in
theorem runX_out (x1 : Int32) (g : im_H) (hp : Pnow g x1) : ∃ g1 : im_H, Ev im_K0 19 mX11_run (33, [(2, .int x1), (0, .ref 16), (1, .int x1)], [], g) (some (.int x1), g1) ∧ (g1.length = 200 ∧ (∀ i, 148 ≤ i → g1[i]? = hh[i]?)) := by
  obtain ⟨g_len, fr, g_0, g_1, g_7, g_8, g_12, g_14, g_16, g_18, g_20, g_21, g_22, g_23, g_25, g_34, g_36, ⟨s1, s2, s3, s4, g_35⟩⟩ := hp
  refine ⟨g, ?_, ?_⟩
  · refine sp_iload_n (p2 := 34) rfl rfl rfl ?_
    refine sp_iload_n (p2 := 35) rfl rfl rfl ?_
    refine st_icmp (b := true) rfl (cn_ge_T rfl rfl (by omega)) ?_
    show Ev _ _ _ (55, _, _, _) _
    refine sp_aload_n (p2 := 56) rfl rfl rfl ?_
    refine st_get rfl g_0 rfl ?_
    show Ev _ _ _ (59, _, _, _) _
    refine st_get rfl g_23 rfl ?_
    show Ev _ _ _ (62, _, _, _) _
    exact sp_iret rfl rfl
  · exact ⟨g_len, fr⟩
set_option maxRecDepth 20000 in
set_option maxHeartbeats 4000000 in
theorem goes_d (g : im_H) (d : Int32) (hp : PM g d) (h0 : 0 ≤ d.toInt) (h1 : d.toInt ≤ 60) : ∃ g1 : im_H, Ca 19 154 [.ref 164] g (none, g1) ∧ PM g1 (d + 1) := by
  obtain ⟨g_len, g_148, g_161, g_165, ⟨A, hA, g_149⟩, ⟨K, hK, g_150⟩⟩ := hp
  refine ⟨((((((((((((g.set 149 (.inl (0, .inl ((A).set 272 0)))).set 149 (.inl (0, .inl (((A).set 272 0).set 276 (-1))))).set 149 (.inl (0, .inl ((((A).set 272 0).set 276 (-1)).set 273 0)))).set 149 (.inl (0, .inl (((((A).set 272 0).set 276 (-1)).set 273 0).set 277 (-1))))).set 149 (.inl (0, .inl ((((((A).set 272 0).set 276 (-1)).set 273 0).set 277 (-1)).set 274 0)))).set 149 (.inl (0, .inl (((((((A).set 272 0).set 276 (-1)).set 273 0).set 277 (-1)).set 274 0).set 278 (-1))))).set 149 (.inl (0, .inl ((((((((A).set 272 0).set 276 (-1)).set 273 0).set 277 (-1)).set 274 0).set 278 (-1)).set 275 0)))).set 149 (.inl (0, .inl (((((((((A).set 272 0).set 276 (-1)).set 273 0).set 277 (-1)).set 274 0).set 278 (-1)).set 275 0).set 279 (-1))))).set 149 (.inl (0, .inl ((((((((((A).set 272 0).set 276 (-1)).set 273 0).set 277 (-1)).set 274 0).set 278 (-1)).set 275 0).set 279 (-1)).set 280 0)))).set 149 (.inl (0, .inl (((((((((((A).set 272 0).set 276 (-1)).set 273 0).set 277 (-1)).set 274 0).set 278 (-1)).set 275 0).set 279 (-1)).set 280 0).set 281 0)))).set 149 (.inl (0, .inl ((((((((((((A).set 272 0).set 276 (-1)).set 273 0).set 277 (-1)).set 274 0).set 278 (-1)).set 275 0).set 279 (-1)).set 280 0).set 281 0).set 282 0)))).set 149 (.inl (0, .inl (((((((((((((A).set 272 0).set 276 (-1)).set 273 0).set 277 (-1)).set 274 0).set 278 (-1)).set 275 0).set 279 (-1)).set 280 0).set 281 0).set 282 0).set 105 (d + 1))))), ?_, ?_⟩
  · refine ca_of (d := 18) (M := mX12_goes) rfl (Nat.le_of_ble_eq_true rfl) ?_
    show Ev im_K0 18 mX12_goes (0, [(0, .ref 164)], [], g) _
    refine sp_iconst (p2 := 1) (x := 0) rfl rfl (by decide) ?_
    refine sp_istore_n (p2 := 2) (lv2 := [(1, .int 0), (0, .ref 164)]) rfl rfl (by decide) rfl ?_
    refine sp_iload_n (p2 := 3) rfl rfl rfl ?_
    refine sp_iconst (p2 := 4) (x := 4) rfl rfl (by decide) ?_
    refine st_icmp (b := false) rfl (by decide) ?_
    show Ev _ _ _ (7, _, _, _) _
    refine sp_aload_n (p2 := 8) rfl rfl rfl ?_
    refine sp_iload_n (p2 := 9) rfl rfl rfl ?_
    have c1 : Ca 18 149 [.ref 164, .int 0] g (none, ((g.set 149 (.inl (0, .inl ((A).set 272 0)))).set 149 (.inl (0, .inl (((A).set 272 0).set 276 (-1)))))) := by
      refine ca_of (d := 17) (M := mX12_goesRow) rfl (Nat.le_of_ble_eq_true rfl) ?_
      show Ev im_K0 17 mX12_goesRow (0, [(0, .ref 164), (1, .int 0)], [], g) _
      refine sp_aload_n (p2 := 1) rfl rfl rfl ?_
      refine st_get rfl g_148 rfl ?_
      show Ev _ _ _ (4, _, _, _) _
      refine sp_sipush (p2 := 7) (x := 272) rfl rfl (by decide) ?_
      refine sp_iload_n (p2 := 8) rfl rfl rfl ?_
      refine sp_iadd (p2 := 9) (z := 272) rfl rfl (by decide) ?_
      refine sp_iconst (p2 := 10) (x := 0) rfl rfl (by decide) ?_
      refine st_iast (i := 149) rfl rfl g_149 (in_at (n := 283) hA.1 (by decide) (by decide)) ?_
      show Ev _ _ _ (11, [(0, .ref 164), (1, .int 0)], [], (g.set 149 (.inl (0, .inl ((A).set 272 0))))) _
      refine sp_aload_n (p2 := 12) rfl rfl rfl ?_
      refine st_get rfl (ob_ne (by decide) g_148) rfl ?_
      show Ev _ _ _ (15, _, _, _) _
      refine sp_sipush (p2 := 18) (x := 276) rfl rfl (by decide) ?_
      refine sp_iload_n (p2 := 19) rfl rfl rfl ?_
      refine sp_iadd (p2 := 20) (z := 276) rfl rfl (by decide) ?_
      refine sp_iconst (p2 := 21) (x := (-1)) rfl rfl (by decide) ?_
      refine st_iast (i := 149) rfl rfl (ia_eq2 g_len (by decide)) (in_at (n := 283) (pa_set (by decide) hA).1 (by decide) (by decide)) ?_
      show Ev _ _ _ (22, [(0, .ref 164), (1, .int 0)], [], ((g.set 149 (.inl (0, .inl ((A).set 272 0)))).set 149 (.inl (0, .inl (((A).set 272 0).set 276 (-1)))))) _
      refine sp_aload_n (p2 := 23) rfl rfl rfl ?_
      refine st_get rfl (ob_ne (by decide) (ob_ne (by decide) g_148)) rfl ?_
      show Ev _ _ _ (26, _, _, _) _
      refine sp_iload_n (p2 := 27) rfl rfl rfl ?_
      refine st_iald (x := 0) rfl (by decide) (ia_ne (by decide) (ia_ne (by decide) g_161)) rfl rfl ?_
      show Ev _ _ _ (28, _, _, _) _
      refine st_ifc (b := false) rfl (by decide) ?_
      show Ev _ _ _ (31, _, _, _) _
      exact sp_vret rfl rfl
    refine st_callV (R := 164) rfl rfl rfl g_148 rfl c1 ?_
    show Ev _ _ _ (12, [(1, .int 0), (0, .ref 164)], [], ((g.set 149 (.inl (0, .inl ((A).set 272 0)))).set 149 (.inl (0, .inl (((A).set 272 0).set 276 (-1)))))) _
    refine sp_iinc (p2 := 15) (y := 1) (lv2 := [(1, .int 1), (0, .ref 164)]) rfl rfl (by decide) rfl (by decide) rfl ?_
    refine sp_goto rfl ?_
    refine sp_iload_n (p2 := 3) rfl rfl rfl ?_
    refine sp_iconst (p2 := 4) (x := 4) rfl rfl (by decide) ?_
    refine st_icmp (b := false) rfl (by decide) ?_
    show Ev _ _ _ (7, _, _, _) _
    refine sp_aload_n (p2 := 8) rfl rfl rfl ?_
    refine sp_iload_n (p2 := 9) rfl rfl rfl ?_
    have c2 : Ca 18 149 [.ref 164, .int 1] ((g.set 149 (.inl (0, .inl ((A).set 272 0)))).set 149 (.inl (0, .inl (((A).set 272 0).set 276 (-1))))) (none, ((((g.set 149 (.inl (0, .inl ((A).set 272 0)))).set 149 (.inl (0, .inl (((A).set 272 0).set 276 (-1))))).set 149 (.inl (0, .inl ((((A).set 272 0).set 276 (-1)).set 273 0)))).set 149 (.inl (0, .inl (((((A).set 272 0).set 276 (-1)).set 273 0).set 277 (-1)))))) := by
      refine ca_of (d := 17) (M := mX12_goesRow) rfl (Nat.le_of_ble_eq_true rfl) ?_
      show Ev im_K0 17 mX12_goesRow (0, [(0, .ref 164), (1, .int 1)], [], ((g.set 149 (.inl (0, .inl ((A).set 272 0)))).set 149 (.inl (0, .inl (((A).set 272 0).set 276 (-1)))))) _
      refine sp_aload_n (p2 := 1) rfl rfl rfl ?_
      refine st_get rfl (ob_ne (by decide) (ob_ne (by decide) g_148)) rfl ?_
      show Ev _ _ _ (4, _, _, _) _
      refine sp_sipush (p2 := 7) (x := 272) rfl rfl (by decide) ?_
      refine sp_iload_n (p2 := 8) rfl rfl rfl ?_
      refine sp_iadd (p2 := 9) (z := 273) rfl rfl (by decide) ?_
      refine sp_iconst (p2 := 10) (x := 0) rfl rfl (by decide) ?_
      refine st_iast (i := 149) rfl rfl (ia_eq2 (sl_len g_len) (by decide)) (in_at (n := 283) (pa_set (by decide) (pa_set (by decide) hA)).1 (by decide) (by decide)) ?_
      show Ev _ _ _ (11, [(0, .ref 164), (1, .int 1)], [], (((g.set 149 (.inl (0, .inl ((A).set 272 0)))).set 149 (.inl (0, .inl (((A).set 272 0).set 276 (-1))))).set 149 (.inl (0, .inl ((((A).set 272 0).set 276 (-1)).set 273 0))))) _
      refine sp_aload_n (p2 := 12) rfl rfl rfl ?_
      refine st_get rfl (ob_ne (by decide) (ob_ne (by decide) (ob_ne (by decide) g_148))) rfl ?_
      show Ev _ _ _ (15, _, _, _) _
      refine sp_sipush (p2 := 18) (x := 276) rfl rfl (by decide) ?_
      refine sp_iload_n (p2 := 19) rfl rfl rfl ?_
      refine sp_iadd (p2 := 20) (z := 277) rfl rfl (by decide) ?_
      refine sp_iconst (p2 := 21) (x := (-1)) rfl rfl (by decide) ?_
      refine st_iast (i := 149) rfl rfl (ia_eq2 (sl_len (sl_len g_len)) (by decide)) (in_at (n := 283) (pa_set (by decide) (pa_set (by decide) (pa_set (by decide) hA))).1 (by decide) (by decide)) ?_
      show Ev _ _ _ (22, [(0, .ref 164), (1, .int 1)], [], ((((g.set 149 (.inl (0, .inl ((A).set 272 0)))).set 149 (.inl (0, .inl (((A).set 272 0).set 276 (-1))))).set 149 (.inl (0, .inl ((((A).set 272 0).set 276 (-1)).set 273 0)))).set 149 (.inl (0, .inl (((((A).set 272 0).set 276 (-1)).set 273 0).set 277 (-1)))))) _
      refine sp_aload_n (p2 := 23) rfl rfl rfl ?_
      refine st_get rfl (ob_ne (by decide) (ob_ne (by decide) (ob_ne (by decide) (ob_ne (by decide) g_148)))) rfl ?_
      show Ev _ _ _ (26, _, _, _) _
      refine sp_iload_n (p2 := 27) rfl rfl rfl ?_
      refine st_iald (x := 0) rfl (by decide) (ia_ne (by decide) (ia_ne (by decide) (ia_ne (by decide) (ia_ne (by decide) g_161)))) rfl rfl ?_
      show Ev _ _ _ (28, _, _, _) _
      refine st_ifc (b := false) rfl (by decide) ?_
      show Ev _ _ _ (31, _, _, _) _
      exact sp_vret rfl rfl
    refine st_callV (R := 164) rfl rfl rfl (ob_ne (by decide) (ob_ne (by decide) g_148)) rfl c2 ?_
    show Ev _ _ _ (12, [(1, .int 1), (0, .ref 164)], [], ((((g.set 149 (.inl (0, .inl ((A).set 272 0)))).set 149 (.inl (0, .inl (((A).set 272 0).set 276 (-1))))).set 149 (.inl (0, .inl ((((A).set 272 0).set 276 (-1)).set 273 0)))).set 149 (.inl (0, .inl (((((A).set 272 0).set 276 (-1)).set 273 0).set 277 (-1)))))) _
    refine sp_iinc (p2 := 15) (y := 2) (lv2 := [(1, .int 2), (0, .ref 164)]) rfl rfl (by decide) rfl (by decide) rfl ?_
    refine sp_goto rfl ?_
    refine sp_iload_n (p2 := 3) rfl rfl rfl ?_
    refine sp_iconst (p2 := 4) (x := 4) rfl rfl (by decide) ?_
    refine st_icmp (b := false) rfl (by decide) ?_
    show Ev _ _ _ (7, _, _, _) _
    refine sp_aload_n (p2 := 8) rfl rfl rfl ?_
    refine sp_iload_n (p2 := 9) rfl rfl rfl ?_
    have c3 : Ca 18 149 [.ref 164, .int 2] ((((g.set 149 (.inl (0, .inl ((A).set 272 0)))).set 149 (.inl (0, .inl (((A).set 272 0).set 276 (-1))))).set 149 (.inl (0, .inl ((((A).set 272 0).set 276 (-1)).set 273 0)))).set 149 (.inl (0, .inl (((((A).set 272 0).set 276 (-1)).set 273 0).set 277 (-1))))) (none, ((((((g.set 149 (.inl (0, .inl ((A).set 272 0)))).set 149 (.inl (0, .inl (((A).set 272 0).set 276 (-1))))).set 149 (.inl (0, .inl ((((A).set 272 0).set 276 (-1)).set 273 0)))).set 149 (.inl (0, .inl (((((A).set 272 0).set 276 (-1)).set 273 0).set 277 (-1))))).set 149 (.inl (0, .inl ((((((A).set 272 0).set 276 (-1)).set 273 0).set 277 (-1)).set 274 0)))).set 149 (.inl (0, .inl (((((((A).set 272 0).set 276 (-1)).set 273 0).set 277 (-1)).set 274 0).set 278 (-1)))))) := by
      refine ca_of (d := 17) (M := mX12_goesRow) rfl (Nat.le_of_ble_eq_true rfl) ?_
      show Ev im_K0 17 mX12_goesRow (0, [(0, .ref 164), (1, .int 2)], [], ((((g.set 149 (.inl (0, .inl ((A).set 272 0)))).set 149 (.inl (0, .inl (((A).set 272 0).set 276 (-1))))).set 149 (.inl (0, .inl ((((A).set 272 0).set 276 (-1)).set 273 0)))).set 149 (.inl (0, .inl (((((A).set 272 0).set 276 (-1)).set 273 0).set 277 (-1)))))) _
      refine sp_aload_n (p2 := 1) rfl rfl rfl ?_
      refine st_get rfl (ob_ne (by decide) (ob_ne (by decide) (ob_ne (by decide) (ob_ne (by decide) g_148)))) rfl ?_
      show Ev _ _ _ (4, _, _, _) _
      refine sp_sipush (p2 := 7) (x := 272) rfl rfl (by decide) ?_
      refine sp_iload_n (p2 := 8) rfl rfl rfl ?_
      refine sp_iadd (p2 := 9) (z := 274) rfl rfl (by decide) ?_
      refine sp_iconst (p2 := 10) (x := 0) rfl rfl (by decide) ?_
      refine st_iast (i := 149) rfl rfl (ia_eq2 (sl_len (sl_len (sl_len g_len))) (by decide)) (in_at (n := 283) (pa_set (by decide) (pa_set (by decide) (pa_set (by decide) (pa_set (by decide) hA)))).1 (by decide) (by decide)) ?_
      show Ev _ _ _ (11, [(0, .ref 164), (1, .int 2)], [], (((((g.set 149 (.inl (0, .inl ((A).set 272 0)))).set 149 (.inl (0, .inl (((A).set 272 0).set 276 (-1))))).set 149 (.inl (0, .inl ((((A).set 272 0).set 276 (-1)).set 273 0)))).set 149 (.inl (0, .inl (((((A).set 272 0).set 276 (-1)).set 273 0).set 277 (-1))))).set 149 (.inl (0, .inl ((((((A).set 272 0).set 276 (-1)).set 273 0).set 277 (-1)).set 274 0))))) _
      refine sp_aload_n (p2 := 12) rfl rfl rfl ?_
      refine st_get rfl (ob_ne (by decide) (ob_ne (by decide) (ob_ne (by decide) (ob_ne (by decide) (ob_ne (by decide) g_148))))) rfl ?_
      show Ev _ _ _ (15, _, _, _) _
      refine sp_sipush (p2 := 18) (x := 276) rfl rfl (by decide) ?_
      refine sp_iload_n (p2 := 19) rfl rfl rfl ?_
      refine sp_iadd (p2 := 20) (z := 278) rfl rfl (by decide) ?_
      refine sp_iconst (p2 := 21) (x := (-1)) rfl rfl (by decide) ?_
      refine st_iast (i := 149) rfl rfl (ia_eq2 (sl_len (sl_len (sl_len (sl_len g_len)))) (by decide)) (in_at (n := 283) (pa_set (by decide) (pa_set (by decide) (pa_set (by decide) (pa_set (by decide) (pa_set (by decide) hA))))).1 (by decide) (by decide)) ?_
      show Ev _ _ _ (22, [(0, .ref 164), (1, .int 2)], [], ((((((g.set 149 (.inl (0, .inl ((A).set 272 0)))).set 149 (.inl (0, .inl (((A).set 272 0).set 276 (-1))))).set 149 (.inl (0, .inl ((((A).set 272 0).set 276 (-1)).set 273 0)))).set 149 (.inl (0, .inl (((((A).set 272 0).set 276 (-1)).set 273 0).set 277 (-1))))).set 149 (.inl (0, .inl ((((((A).set 272 0).set 276 (-1)).set 273 0).set 277 (-1)).set 274 0)))).set 149 (.inl (0, .inl (((((((A).set 272 0).set 276 (-1)).set 273 0).set 277 (-1)).set 274 0).set 278 (-1)))))) _
      refine sp_aload_n (p2 := 23) rfl rfl rfl ?_
      refine st_get rfl (ob_ne (by decide) (ob_ne (by decide) (ob_ne (by decide) (ob_ne (by decide) (ob_ne (by decide) (ob_ne (by decide) g_148)))))) rfl ?_
      show Ev _ _ _ (26, _, _, _) _
      refine sp_iload_n (p2 := 27) rfl rfl rfl ?_
      refine st_iald (x := 0) rfl (by decide) (ia_ne (by decide) (ia_ne (by decide) (ia_ne (by decide) (ia_ne (by decide) (ia_ne (by decide) (ia_ne (by decide) g_161)))))) rfl rfl ?_
      show Ev _ _ _ (28, _, _, _) _
      refine st_ifc (b := false) rfl (by decide) ?_
      show Ev _ _ _ (31, _, _, _) _
      exact sp_vret rfl rfl
    refine st_callV (R := 164) rfl rfl rfl (ob_ne (by decide) (ob_ne (by decide) (ob_ne (by decide) (ob_ne (by decide) g_148)))) rfl c3 ?_
    show Ev _ _ _ (12, [(1, .int 2), (0, .ref 164)], [], ((((((g.set 149 (.inl (0, .inl ((A).set 272 0)))).set 149 (.inl (0, .inl (((A).set 272 0).set 276 (-1))))).set 149 (.inl (0, .inl ((((A).set 272 0).set 276 (-1)).set 273 0)))).set 149 (.inl (0, .inl (((((A).set 272 0).set 276 (-1)).set 273 0).set 277 (-1))))).set 149 (.inl (0, .inl ((((((A).set 272 0).set 276 (-1)).set 273 0).set 277 (-1)).set 274 0)))).set 149 (.inl (0, .inl (((((((A).set 272 0).set 276 (-1)).set 273 0).set 277 (-1)).set 274 0).set 278 (-1)))))) _
    refine sp_iinc (p2 := 15) (y := 3) (lv2 := [(1, .int 3), (0, .ref 164)]) rfl rfl (by decide) rfl (by decide) rfl ?_
    refine sp_goto rfl ?_
    refine sp_iload_n (p2 := 3) rfl rfl rfl ?_
    refine sp_iconst (p2 := 4) (x := 4) rfl rfl (by decide) ?_
    refine st_icmp (b := false) rfl (by decide) ?_
    show Ev _ _ _ (7, _, _, _) _
    refine sp_aload_n (p2 := 8) rfl rfl rfl ?_
    refine sp_iload_n (p2 := 9) rfl rfl rfl ?_
    have c4 : Ca 18 149 [.ref 164, .int 3] ((((((g.set 149 (.inl (0, .inl ((A).set 272 0)))).set 149 (.inl (0, .inl (((A).set 272 0).set 276 (-1))))).set 149 (.inl (0, .inl ((((A).set 272 0).set 276 (-1)).set 273 0)))).set 149 (.inl (0, .inl (((((A).set 272 0).set 276 (-1)).set 273 0).set 277 (-1))))).set 149 (.inl (0, .inl ((((((A).set 272 0).set 276 (-1)).set 273 0).set 277 (-1)).set 274 0)))).set 149 (.inl (0, .inl (((((((A).set 272 0).set 276 (-1)).set 273 0).set 277 (-1)).set 274 0).set 278 (-1))))) (none, ((((((((g.set 149 (.inl (0, .inl ((A).set 272 0)))).set 149 (.inl (0, .inl (((A).set 272 0).set 276 (-1))))).set 149 (.inl (0, .inl ((((A).set 272 0).set 276 (-1)).set 273 0)))).set 149 (.inl (0, .inl (((((A).set 272 0).set 276 (-1)).set 273 0).set 277 (-1))))).set 149 (.inl (0, .inl ((((((A).set 272 0).set 276 (-1)).set 273 0).set 277 (-1)).set 274 0)))).set 149 (.inl (0, .inl (((((((A).set 272 0).set 276 (-1)).set 273 0).set 277 (-1)).set 274 0).set 278 (-1))))).set 149 (.inl (0, .inl ((((((((A).set 272 0).set 276 (-1)).set 273 0).set 277 (-1)).set 274 0).set 278 (-1)).set 275 0)))).set 149 (.inl (0, .inl (((((((((A).set 272 0).set 276 (-1)).set 273 0).set 277 (-1)).set 274 0).set 278 (-1)).set 275 0).set 279 (-1)))))) := by
      refine ca_of (d := 17) (M := mX12_goesRow) rfl (Nat.le_of_ble_eq_true rfl) ?_
      show Ev im_K0 17 mX12_goesRow (0, [(0, .ref 164), (1, .int 3)], [], ((((((g.set 149 (.inl (0, .inl ((A).set 272 0)))).set 149 (.inl (0, .inl (((A).set 272 0).set 276 (-1))))).set 149 (.inl (0, .inl ((((A).set 272 0).set 276 (-1)).set 273 0)))).set 149 (.inl (0, .inl (((((A).set 272 0).set 276 (-1)).set 273 0).set 277 (-1))))).set 149 (.inl (0, .inl ((((((A).set 272 0).set 276 (-1)).set 273 0).set 277 (-1)).set 274 0)))).set 149 (.inl (0, .inl (((((((A).set 272 0).set 276 (-1)).set 273 0).set 277 (-1)).set 274 0).set 278 (-1)))))) _
      refine sp_aload_n (p2 := 1) rfl rfl rfl ?_
      refine st_get rfl (ob_ne (by decide) (ob_ne (by decide) (ob_ne (by decide) (ob_ne (by decide) (ob_ne (by decide) (ob_ne (by decide) g_148)))))) rfl ?_
      show Ev _ _ _ (4, _, _, _) _
      refine sp_sipush (p2 := 7) (x := 272) rfl rfl (by decide) ?_
      refine sp_iload_n (p2 := 8) rfl rfl rfl ?_
      refine sp_iadd (p2 := 9) (z := 275) rfl rfl (by decide) ?_
      refine sp_iconst (p2 := 10) (x := 0) rfl rfl (by decide) ?_
      refine st_iast (i := 149) rfl rfl (ia_eq2 (sl_len (sl_len (sl_len (sl_len (sl_len g_len))))) (by decide)) (in_at (n := 283) (pa_set (by decide) (pa_set (by decide) (pa_set (by decide) (pa_set (by decide) (pa_set (by decide) (pa_set (by decide) hA)))))).1 (by decide) (by decide)) ?_
      show Ev _ _ _ (11, [(0, .ref 164), (1, .int 3)], [], (((((((g.set 149 (.inl (0, .inl ((A).set 272 0)))).set 149 (.inl (0, .inl (((A).set 272 0).set 276 (-1))))).set 149 (.inl (0, .inl ((((A).set 272 0).set 276 (-1)).set 273 0)))).set 149 (.inl (0, .inl (((((A).set 272 0).set 276 (-1)).set 273 0).set 277 (-1))))).set 149 (.inl (0, .inl ((((((A).set 272 0).set 276 (-1)).set 273 0).set 277 (-1)).set 274 0)))).set 149 (.inl (0, .inl (((((((A).set 272 0).set 276 (-1)).set 273 0).set 277 (-1)).set 274 0).set 278 (-1))))).set 149 (.inl (0, .inl ((((((((A).set 272 0).set 276 (-1)).set 273 0).set 277 (-1)).set 274 0).set 278 (-1)).set 275 0))))) _
      refine sp_aload_n (p2 := 12) rfl rfl rfl ?_
      refine st_get rfl (ob_ne (by decide) (ob_ne (by decide) (ob_ne (by decide) (ob_ne (by decide) (ob_ne (by decide) (ob_ne (by decide) (ob_ne (by decide) g_148))))))) rfl ?_
      show Ev _ _ _ (15, _, _, _) _
      refine sp_sipush (p2 := 18) (x := 276) rfl rfl (by decide) ?_
      refine sp_iload_n (p2 := 19) rfl rfl rfl ?_
      refine sp_iadd (p2 := 20) (z := 279) rfl rfl (by decide) ?_
      refine sp_iconst (p2 := 21) (x := (-1)) rfl rfl (by decide) ?_
      refine st_iast (i := 149) rfl rfl (ia_eq2 (sl_len (sl_len (sl_len (sl_len (sl_len (sl_len g_len)))))) (by decide)) (in_at (n := 283) (pa_set (by decide) (pa_set (by decide) (pa_set (by decide) (pa_set (by decide) (pa_set (by decide) (pa_set (by decide) (pa_set (by decide) hA))))))).1 (by decide) (by decide)) ?_
      show Ev _ _ _ (22, [(0, .ref 164), (1, .int 3)], [], ((((((((g.set 149 (.inl (0, .inl ((A).set 272 0)))).set 149 (.inl (0, .inl (((A).set 272 0).set 276 (-1))))).set 149 (.inl (0, .inl ((((A).set 272 0).set 276 (-1)).set 273 0)))).set 149 (.inl (0, .inl (((((A).set 272 0).set 276 (-1)).set 273 0).set 277 (-1))))).set 149 (.inl (0, .inl ((((((A).set 272 0).set 276 (-1)).set 273 0).set 277 (-1)).set 274 0)))).set 149 (.inl (0, .inl (((((((A).set 272 0).set 276 (-1)).set 273 0).set 277 (-1)).set 274 0).set 278 (-1))))).set 149 (.inl (0, .inl ((((((((A).set 272 0).set 276 (-1)).set 273 0).set 277 (-1)).set 274 0).set 278 (-1)).set 275 0)))).set 149 (.inl (0, .inl (((((((((A).set 272 0).set 276 (-1)).set 273 0).set 277 (-1)).set 274 0).set 278 (-1)).set 275 0).set 279 (-1)))))) _
      refine sp_aload_n (p2 := 23) rfl rfl rfl ?_
      refine st_get rfl (ob_ne (by decide) (ob_ne (by decide) (ob_ne (by decide) (ob_ne (by decide) (ob_ne (by decide) (ob_ne (by decide) (ob_ne (by decide) (ob_ne (by decide) g_148)))))))) rfl ?_
      show Ev _ _ _ (26, _, _, _) _
      refine sp_iload_n (p2 := 27) rfl rfl rfl ?_
      refine st_iald (x := 0) rfl (by decide) (ia_ne (by decide) (ia_ne (by decide) (ia_ne (by decide) (ia_ne (by decide) (ia_ne (by decide) (ia_ne (by decide) (ia_ne (by decide) (ia_ne (by decide) g_161)))))))) rfl rfl ?_
      show Ev _ _ _ (28, _, _, _) _
      refine st_ifc (b := false) rfl (by decide) ?_
      show Ev _ _ _ (31, _, _, _) _
      exact sp_vret rfl rfl
    refine st_callV (R := 164) rfl rfl rfl (ob_ne (by decide) (ob_ne (by decide) (ob_ne (by decide) (ob_ne (by decide) (ob_ne (by decide) (ob_ne (by decide) g_148)))))) rfl c4 ?_
    show Ev _ _ _ (12, [(1, .int 3), (0, .ref 164)], [], ((((((((g.set 149 (.inl (0, .inl ((A).set 272 0)))).set 149 (.inl (0, .inl (((A).set 272 0).set 276 (-1))))).set 149 (.inl (0, .inl ((((A).set 272 0).set 276 (-1)).set 273 0)))).set 149 (.inl (0, .inl (((((A).set 272 0).set 276 (-1)).set 273 0).set 277 (-1))))).set 149 (.inl (0, .inl ((((((A).set 272 0).set 276 (-1)).set 273 0).set 277 (-1)).set 274 0)))).set 149 (.inl (0, .inl (((((((A).set 272 0).set 276 (-1)).set 273 0).set 277 (-1)).set 274 0).set 278 (-1))))).set 149 (.inl (0, .inl ((((((((A).set 272 0).set 276 (-1)).set 273 0).set 277 (-1)).set 274 0).set 278 (-1)).set 275 0)))).set 149 (.inl (0, .inl (((((((((A).set 272 0).set 276 (-1)).set 273 0).set 277 (-1)).set 274 0).set 278 (-1)).set 275 0).set 279 (-1)))))) _
    refine sp_iinc (p2 := 15) (y := 4) (lv2 := [(1, .int 4), (0, .ref 164)]) rfl rfl (by decide) rfl (by decide) rfl ?_
    refine sp_goto rfl ?_
    refine sp_iload_n (p2 := 3) rfl rfl rfl ?_
    refine sp_iconst (p2 := 4) (x := 4) rfl rfl (by decide) ?_
    refine st_icmp (b := true) rfl (by decide) ?_
    show Ev _ _ _ (18, _, _, _) _
    refine sp_iconst (p2 := 19) (x := 0) rfl rfl (by decide) ?_
    refine sp_istore_n (p2 := 20) (lv2 := [(1, .int 0), (0, .ref 164)]) rfl rfl (by decide) rfl ?_
    refine sp_iload_n (p2 := 21) rfl rfl rfl ?_
    refine sp_iconst (p2 := 22) (x := 3) rfl rfl (by decide) ?_
    refine st_icmp (b := false) rfl (by decide) ?_
    show Ev _ _ _ (25, _, _, _) _
    refine sp_aload_n (p2 := 26) rfl rfl rfl ?_
    refine sp_iload_n (p2 := 27) rfl rfl rfl ?_
    have c5 : Ca 18 150 [.ref 164, .int 0] ((((((((g.set 149 (.inl (0, .inl ((A).set 272 0)))).set 149 (.inl (0, .inl (((A).set 272 0).set 276 (-1))))).set 149 (.inl (0, .inl ((((A).set 272 0).set 276 (-1)).set 273 0)))).set 149 (.inl (0, .inl (((((A).set 272 0).set 276 (-1)).set 273 0).set 277 (-1))))).set 149 (.inl (0, .inl ((((((A).set 272 0).set 276 (-1)).set 273 0).set 277 (-1)).set 274 0)))).set 149 (.inl (0, .inl (((((((A).set 272 0).set 276 (-1)).set 273 0).set 277 (-1)).set 274 0).set 278 (-1))))).set 149 (.inl (0, .inl ((((((((A).set 272 0).set 276 (-1)).set 273 0).set 277 (-1)).set 274 0).set 278 (-1)).set 275 0)))).set 149 (.inl (0, .inl (((((((((A).set 272 0).set 276 (-1)).set 273 0).set 277 (-1)).set 274 0).set 278 (-1)).set 275 0).set 279 (-1))))) (none, (((((((((g.set 149 (.inl (0, .inl ((A).set 272 0)))).set 149 (.inl (0, .inl (((A).set 272 0).set 276 (-1))))).set 149 (.inl (0, .inl ((((A).set 272 0).set 276 (-1)).set 273 0)))).set 149 (.inl (0, .inl (((((A).set 272 0).set 276 (-1)).set 273 0).set 277 (-1))))).set 149 (.inl (0, .inl ((((((A).set 272 0).set 276 (-1)).set 273 0).set 277 (-1)).set 274 0)))).set 149 (.inl (0, .inl (((((((A).set 272 0).set 276 (-1)).set 273 0).set 277 (-1)).set 274 0).set 278 (-1))))).set 149 (.inl (0, .inl ((((((((A).set 272 0).set 276 (-1)).set 273 0).set 277 (-1)).set 274 0).set 278 (-1)).set 275 0)))).set 149 (.inl (0, .inl (((((((((A).set 272 0).set 276 (-1)).set 273 0).set 277 (-1)).set 274 0).set 278 (-1)).set 275 0).set 279 (-1))))).set 149 (.inl (0, .inl ((((((((((A).set 272 0).set 276 (-1)).set 273 0).set 277 (-1)).set 274 0).set 278 (-1)).set 275 0).set 279 (-1)).set 280 0))))) := by
      refine ca_of (d := 17) (M := mX12_goesRail) rfl (Nat.le_of_ble_eq_true rfl) ?_
      show Ev im_K0 17 mX12_goesRail (0, [(0, .ref 164), (1, .int 0)], [], ((((((((g.set 149 (.inl (0, .inl ((A).set 272 0)))).set 149 (.inl (0, .inl (((A).set 272 0).set 276 (-1))))).set 149 (.inl (0, .inl ((((A).set 272 0).set 276 (-1)).set 273 0)))).set 149 (.inl (0, .inl (((((A).set 272 0).set 276 (-1)).set 273 0).set 277 (-1))))).set 149 (.inl (0, .inl ((((((A).set 272 0).set 276 (-1)).set 273 0).set 277 (-1)).set 274 0)))).set 149 (.inl (0, .inl (((((((A).set 272 0).set 276 (-1)).set 273 0).set 277 (-1)).set 274 0).set 278 (-1))))).set 149 (.inl (0, .inl ((((((((A).set 272 0).set 276 (-1)).set 273 0).set 277 (-1)).set 274 0).set 278 (-1)).set 275 0)))).set 149 (.inl (0, .inl (((((((((A).set 272 0).set 276 (-1)).set 273 0).set 277 (-1)).set 274 0).set 278 (-1)).set 275 0).set 279 (-1)))))) _
      refine sp_aload_n (p2 := 1) rfl rfl rfl ?_
      refine st_get rfl (ob_ne (by decide) (ob_ne (by decide) (ob_ne (by decide) (ob_ne (by decide) (ob_ne (by decide) (ob_ne (by decide) (ob_ne (by decide) (ob_ne (by decide) g_148)))))))) rfl ?_
      show Ev _ _ _ (4, _, _, _) _
      refine sp_sipush (p2 := 7) (x := 280) rfl rfl (by decide) ?_
      refine sp_iload_n (p2 := 8) rfl rfl rfl ?_
      refine sp_iadd (p2 := 9) (z := 280) rfl rfl (by decide) ?_
      refine sp_iconst (p2 := 10) (x := 0) rfl rfl (by decide) ?_
      refine st_iast (i := 149) rfl rfl (ia_eq2 (sl_len (sl_len (sl_len (sl_len (sl_len (sl_len (sl_len g_len))))))) (by decide)) (in_at (n := 283) (pa_set (by decide) (pa_set (by decide) (pa_set (by decide) (pa_set (by decide) (pa_set (by decide) (pa_set (by decide) (pa_set (by decide) (pa_set (by decide) hA)))))))).1 (by decide) (by decide)) ?_
      show Ev _ _ _ (11, [(0, .ref 164), (1, .int 0)], [], (((((((((g.set 149 (.inl (0, .inl ((A).set 272 0)))).set 149 (.inl (0, .inl (((A).set 272 0).set 276 (-1))))).set 149 (.inl (0, .inl ((((A).set 272 0).set 276 (-1)).set 273 0)))).set 149 (.inl (0, .inl (((((A).set 272 0).set 276 (-1)).set 273 0).set 277 (-1))))).set 149 (.inl (0, .inl ((((((A).set 272 0).set 276 (-1)).set 273 0).set 277 (-1)).set 274 0)))).set 149 (.inl (0, .inl (((((((A).set 272 0).set 276 (-1)).set 273 0).set 277 (-1)).set 274 0).set 278 (-1))))).set 149 (.inl (0, .inl ((((((((A).set 272 0).set 276 (-1)).set 273 0).set 277 (-1)).set 274 0).set 278 (-1)).set 275 0)))).set 149 (.inl (0, .inl (((((((((A).set 272 0).set 276 (-1)).set 273 0).set 277 (-1)).set 274 0).set 278 (-1)).set 275 0).set 279 (-1))))).set 149 (.inl (0, .inl ((((((((((A).set 272 0).set 276 (-1)).set 273 0).set 277 (-1)).set 274 0).set 278 (-1)).set 275 0).set 279 (-1)).set 280 0))))) _
      refine sp_aload_n (p2 := 12) rfl rfl rfl ?_
      refine st_get rfl (ob_ne (by decide) (ob_ne (by decide) (ob_ne (by decide) (ob_ne (by decide) (ob_ne (by decide) (ob_ne (by decide) (ob_ne (by decide) (ob_ne (by decide) (ob_ne (by decide) g_148))))))))) rfl ?_
      show Ev _ _ _ (15, _, _, _) _
      refine sp_iload_n (p2 := 16) rfl rfl rfl ?_
      refine st_iald (x := 0) rfl (by decide) (ia_ne (by decide) (ia_ne (by decide) (ia_ne (by decide) (ia_ne (by decide) (ia_ne (by decide) (ia_ne (by decide) (ia_ne (by decide) (ia_ne (by decide) (ia_ne (by decide) g_165))))))))) rfl rfl ?_
      show Ev _ _ _ (17, _, _, _) _
      refine st_ifc (b := false) rfl (by decide) ?_
      show Ev _ _ _ (20, _, _, _) _
      exact sp_vret rfl rfl
    refine st_callV (R := 164) rfl rfl rfl (ob_ne (by decide) (ob_ne (by decide) (ob_ne (by decide) (ob_ne (by decide) (ob_ne (by decide) (ob_ne (by decide) (ob_ne (by decide) (ob_ne (by decide) g_148)))))))) rfl c5 ?_
    show Ev _ _ _ (30, [(1, .int 0), (0, .ref 164)], [], (((((((((g.set 149 (.inl (0, .inl ((A).set 272 0)))).set 149 (.inl (0, .inl (((A).set 272 0).set 276 (-1))))).set 149 (.inl (0, .inl ((((A).set 272 0).set 276 (-1)).set 273 0)))).set 149 (.inl (0, .inl (((((A).set 272 0).set 276 (-1)).set 273 0).set 277 (-1))))).set 149 (.inl (0, .inl ((((((A).set 272 0).set 276 (-1)).set 273 0).set 277 (-1)).set 274 0)))).set 149 (.inl (0, .inl (((((((A).set 272 0).set 276 (-1)).set 273 0).set 277 (-1)).set 274 0).set 278 (-1))))).set 149 (.inl (0, .inl ((((((((A).set 272 0).set 276 (-1)).set 273 0).set 277 (-1)).set 274 0).set 278 (-1)).set 275 0)))).set 149 (.inl (0, .inl (((((((((A).set 272 0).set 276 (-1)).set 273 0).set 277 (-1)).set 274 0).set 278 (-1)).set 275 0).set 279 (-1))))).set 149 (.inl (0, .inl ((((((((((A).set 272 0).set 276 (-1)).set 273 0).set 277 (-1)).set 274 0).set 278 (-1)).set 275 0).set 279 (-1)).set 280 0))))) _
    refine sp_iinc (p2 := 33) (y := 1) (lv2 := [(1, .int 1), (0, .ref 164)]) rfl rfl (by decide) rfl (by decide) rfl ?_
    refine sp_goto rfl ?_
    refine sp_iload_n (p2 := 21) rfl rfl rfl ?_
    refine sp_iconst (p2 := 22) (x := 3) rfl rfl (by decide) ?_
    refine st_icmp (b := false) rfl (by decide) ?_
    show Ev _ _ _ (25, _, _, _) _
    refine sp_aload_n (p2 := 26) rfl rfl rfl ?_
    refine sp_iload_n (p2 := 27) rfl rfl rfl ?_
    have c6 : Ca 18 150 [.ref 164, .int 1] (((((((((g.set 149 (.inl (0, .inl ((A).set 272 0)))).set 149 (.inl (0, .inl (((A).set 272 0).set 276 (-1))))).set 149 (.inl (0, .inl ((((A).set 272 0).set 276 (-1)).set 273 0)))).set 149 (.inl (0, .inl (((((A).set 272 0).set 276 (-1)).set 273 0).set 277 (-1))))).set 149 (.inl (0, .inl ((((((A).set 272 0).set 276 (-1)).set 273 0).set 277 (-1)).set 274 0)))).set 149 (.inl (0, .inl (((((((A).set 272 0).set 276 (-1)).set 273 0).set 277 (-1)).set 274 0).set 278 (-1))))).set 149 (.inl (0, .inl ((((((((A).set 272 0).set 276 (-1)).set 273 0).set 277 (-1)).set 274 0).set 278 (-1)).set 275 0)))).set 149 (.inl (0, .inl (((((((((A).set 272 0).set 276 (-1)).set 273 0).set 277 (-1)).set 274 0).set 278 (-1)).set 275 0).set 279 (-1))))).set 149 (.inl (0, .inl ((((((((((A).set 272 0).set 276 (-1)).set 273 0).set 277 (-1)).set 274 0).set 278 (-1)).set 275 0).set 279 (-1)).set 280 0)))) (none, ((((((((((g.set 149 (.inl (0, .inl ((A).set 272 0)))).set 149 (.inl (0, .inl (((A).set 272 0).set 276 (-1))))).set 149 (.inl (0, .inl ((((A).set 272 0).set 276 (-1)).set 273 0)))).set 149 (.inl (0, .inl (((((A).set 272 0).set 276 (-1)).set 273 0).set 277 (-1))))).set 149 (.inl (0, .inl ((((((A).set 272 0).set 276 (-1)).set 273 0).set 277 (-1)).set 274 0)))).set 149 (.inl (0, .inl (((((((A).set 272 0).set 276 (-1)).set 273 0).set 277 (-1)).set 274 0).set 278 (-1))))).set 149 (.inl (0, .inl ((((((((A).set 272 0).set 276 (-1)).set 273 0).set 277 (-1)).set 274 0).set 278 (-1)).set 275 0)))).set 149 (.inl (0, .inl (((((((((A).set 272 0).set 276 (-1)).set 273 0).set 277 (-1)).set 274 0).set 278 (-1)).set 275 0).set 279 (-1))))).set 149 (.inl (0, .inl ((((((((((A).set 272 0).set 276 (-1)).set 273 0).set 277 (-1)).set 274 0).set 278 (-1)).set 275 0).set 279 (-1)).set 280 0)))).set 149 (.inl (0, .inl (((((((((((A).set 272 0).set 276 (-1)).set 273 0).set 277 (-1)).set 274 0).set 278 (-1)).set 275 0).set 279 (-1)).set 280 0).set 281 0))))) := by
      refine ca_of (d := 17) (M := mX12_goesRail) rfl (Nat.le_of_ble_eq_true rfl) ?_
      show Ev im_K0 17 mX12_goesRail (0, [(0, .ref 164), (1, .int 1)], [], (((((((((g.set 149 (.inl (0, .inl ((A).set 272 0)))).set 149 (.inl (0, .inl (((A).set 272 0).set 276 (-1))))).set 149 (.inl (0, .inl ((((A).set 272 0).set 276 (-1)).set 273 0)))).set 149 (.inl (0, .inl (((((A).set 272 0).set 276 (-1)).set 273 0).set 277 (-1))))).set 149 (.inl (0, .inl ((((((A).set 272 0).set 276 (-1)).set 273 0).set 277 (-1)).set 274 0)))).set 149 (.inl (0, .inl (((((((A).set 272 0).set 276 (-1)).set 273 0).set 277 (-1)).set 274 0).set 278 (-1))))).set 149 (.inl (0, .inl ((((((((A).set 272 0).set 276 (-1)).set 273 0).set 277 (-1)).set 274 0).set 278 (-1)).set 275 0)))).set 149 (.inl (0, .inl (((((((((A).set 272 0).set 276 (-1)).set 273 0).set 277 (-1)).set 274 0).set 278 (-1)).set 275 0).set 279 (-1))))).set 149 (.inl (0, .inl ((((((((((A).set 272 0).set 276 (-1)).set 273 0).set 277 (-1)).set 274 0).set 278 (-1)).set 275 0).set 279 (-1)).set 280 0))))) _
      refine sp_aload_n (p2 := 1) rfl rfl rfl ?_
      refine st_get rfl (ob_ne (by decide) (ob_ne (by decide) (ob_ne (by decide) (ob_ne (by decide) (ob_ne (by decide) (ob_ne (by decide) (ob_ne (by decide) (ob_ne (by decide) (ob_ne (by decide) g_148))))))))) rfl ?_
      show Ev _ _ _ (4, _, _, _) _
      refine sp_sipush (p2 := 7) (x := 280) rfl rfl (by decide) ?_
      refine sp_iload_n (p2 := 8) rfl rfl rfl ?_
      refine sp_iadd (p2 := 9) (z := 281) rfl rfl (by decide) ?_
      refine sp_iconst (p2 := 10) (x := 0) rfl rfl (by decide) ?_
      refine st_iast (i := 149) rfl rfl (ia_eq2 (sl_len (sl_len (sl_len (sl_len (sl_len (sl_len (sl_len (sl_len g_len)))))))) (by decide)) (in_at (n := 283) (pa_set (by decide) (pa_set (by decide) (pa_set (by decide) (pa_set (by decide) (pa_set (by decide) (pa_set (by decide) (pa_set (by decide) (pa_set (by decide) (pa_set (by decide) hA))))))))).1 (by decide) (by decide)) ?_
      show Ev _ _ _ (11, [(0, .ref 164), (1, .int 1)], [], ((((((((((g.set 149 (.inl (0, .inl ((A).set 272 0)))).set 149 (.inl (0, .inl (((A).set 272 0).set 276 (-1))))).set 149 (.inl (0, .inl ((((A).set 272 0).set 276 (-1)).set 273 0)))).set 149 (.inl (0, .inl (((((A).set 272 0).set 276 (-1)).set 273 0).set 277 (-1))))).set 149 (.inl (0, .inl ((((((A).set 272 0).set 276 (-1)).set 273 0).set 277 (-1)).set 274 0)))).set 149 (.inl (0, .inl (((((((A).set 272 0).set 276 (-1)).set 273 0).set 277 (-1)).set 274 0).set 278 (-1))))).set 149 (.inl (0, .inl ((((((((A).set 272 0).set 276 (-1)).set 273 0).set 277 (-1)).set 274 0).set 278 (-1)).set 275 0)))).set 149 (.inl (0, .inl (((((((((A).set 272 0).set 276 (-1)).set 273 0).set 277 (-1)).set 274 0).set 278 (-1)).set 275 0).set 279 (-1))))).set 149 (.inl (0, .inl ((((((((((A).set 272 0).set 276 (-1)).set 273 0).set 277 (-1)).set 274 0).set 278 (-1)).set 275 0).set 279 (-1)).set 280 0)))).set 149 (.inl (0, .inl (((((((((((A).set 272 0).set 276 (-1)).set 273 0).set 277 (-1)).set 274 0).set 278 (-1)).set 275 0).set 279 (-1)).set 280 0).set 281 0))))) _
      refine sp_aload_n (p2 := 12) rfl rfl rfl ?_
      refine st_get rfl (ob_ne (by decide) (ob_ne (by decide) (ob_ne (by decide) (ob_ne (by decide) (ob_ne (by decide) (ob_ne (by decide) (ob_ne (by decide) (ob_ne (by decide) (ob_ne (by decide) (ob_ne (by decide) g_148)))))))))) rfl ?_
      show Ev _ _ _ (15, _, _, _) _
      refine sp_iload_n (p2 := 16) rfl rfl rfl ?_
      refine st_iald (x := 0) rfl (by decide) (ia_ne (by decide) (ia_ne (by decide) (ia_ne (by decide) (ia_ne (by decide) (ia_ne (by decide) (ia_ne (by decide) (ia_ne (by decide) (ia_ne (by decide) (ia_ne (by decide) (ia_ne (by decide) g_165)))))))))) rfl rfl ?_
      show Ev _ _ _ (17, _, _, _) _
      refine st_ifc (b := false) rfl (by decide) ?_
      show Ev _ _ _ (20, _, _, _) _
      exact sp_vret rfl rfl
    refine st_callV (R := 164) rfl rfl rfl (ob_ne (by decide) (ob_ne (by decide) (ob_ne (by decide) (ob_ne (by decide) (ob_ne (by decide) (ob_ne (by decide) (ob_ne (by decide) (ob_ne (by decide) (ob_ne (by decide) g_148))))))))) rfl c6 ?_
    show Ev _ _ _ (30, [(1, .int 1), (0, .ref 164)], [], ((((((((((g.set 149 (.inl (0, .inl ((A).set 272 0)))).set 149 (.inl (0, .inl (((A).set 272 0).set 276 (-1))))).set 149 (.inl (0, .inl ((((A).set 272 0).set 276 (-1)).set 273 0)))).set 149 (.inl (0, .inl (((((A).set 272 0).set 276 (-1)).set 273 0).set 277 (-1))))).set 149 (.inl (0, .inl ((((((A).set 272 0).set 276 (-1)).set 273 0).set 277 (-1)).set 274 0)))).set 149 (.inl (0, .inl (((((((A).set 272 0).set 276 (-1)).set 273 0).set 277 (-1)).set 274 0).set 278 (-1))))).set 149 (.inl (0, .inl ((((((((A).set 272 0).set 276 (-1)).set 273 0).set 277 (-1)).set 274 0).set 278 (-1)).set 275 0)))).set 149 (.inl (0, .inl (((((((((A).set 272 0).set 276 (-1)).set 273 0).set 277 (-1)).set 274 0).set 278 (-1)).set 275 0).set 279 (-1))))).set 149 (.inl (0, .inl ((((((((((A).set 272 0).set 276 (-1)).set 273 0).set 277 (-1)).set 274 0).set 278 (-1)).set 275 0).set 279 (-1)).set 280 0)))).set 149 (.inl (0, .inl (((((((((((A).set 272 0).set 276 (-1)).set 273 0).set 277 (-1)).set 274 0).set 278 (-1)).set 275 0).set 279 (-1)).set 280 0).set 281 0))))) _
    refine sp_iinc (p2 := 33) (y := 2) (lv2 := [(1, .int 2), (0, .ref 164)]) rfl rfl (by decide) rfl (by decide) rfl ?_
    refine sp_goto rfl ?_
    refine sp_iload_n (p2 := 21) rfl rfl rfl ?_
    refine sp_iconst (p2 := 22) (x := 3) rfl rfl (by decide) ?_
    refine st_icmp (b := false) rfl (by decide) ?_
    show Ev _ _ _ (25, _, _, _) _
    refine sp_aload_n (p2 := 26) rfl rfl rfl ?_
    refine sp_iload_n (p2 := 27) rfl rfl rfl ?_
    have c7 : Ca 18 150 [.ref 164, .int 2] ((((((((((g.set 149 (.inl (0, .inl ((A).set 272 0)))).set 149 (.inl (0, .inl (((A).set 272 0).set 276 (-1))))).set 149 (.inl (0, .inl ((((A).set 272 0).set 276 (-1)).set 273 0)))).set 149 (.inl (0, .inl (((((A).set 272 0).set 276 (-1)).set 273 0).set 277 (-1))))).set 149 (.inl (0, .inl ((((((A).set 272 0).set 276 (-1)).set 273 0).set 277 (-1)).set 274 0)))).set 149 (.inl (0, .inl (((((((A).set 272 0).set 276 (-1)).set 273 0).set 277 (-1)).set 274 0).set 278 (-1))))).set 149 (.inl (0, .inl ((((((((A).set 272 0).set 276 (-1)).set 273 0).set 277 (-1)).set 274 0).set 278 (-1)).set 275 0)))).set 149 (.inl (0, .inl (((((((((A).set 272 0).set 276 (-1)).set 273 0).set 277 (-1)).set 274 0).set 278 (-1)).set 275 0).set 279 (-1))))).set 149 (.inl (0, .inl ((((((((((A).set 272 0).set 276 (-1)).set 273 0).set 277 (-1)).set 274 0).set 278 (-1)).set 275 0).set 279 (-1)).set 280 0)))).set 149 (.inl (0, .inl (((((((((((A).set 272 0).set 276 (-1)).set 273 0).set 277 (-1)).set 274 0).set 278 (-1)).set 275 0).set 279 (-1)).set 280 0).set 281 0)))) (none, (((((((((((g.set 149 (.inl (0, .inl ((A).set 272 0)))).set 149 (.inl (0, .inl (((A).set 272 0).set 276 (-1))))).set 149 (.inl (0, .inl ((((A).set 272 0).set 276 (-1)).set 273 0)))).set 149 (.inl (0, .inl (((((A).set 272 0).set 276 (-1)).set 273 0).set 277 (-1))))).set 149 (.inl (0, .inl ((((((A).set 272 0).set 276 (-1)).set 273 0).set 277 (-1)).set 274 0)))).set 149 (.inl (0, .inl (((((((A).set 272 0).set 276 (-1)).set 273 0).set 277 (-1)).set 274 0).set 278 (-1))))).set 149 (.inl (0, .inl ((((((((A).set 272 0).set 276 (-1)).set 273 0).set 277 (-1)).set 274 0).set 278 (-1)).set 275 0)))).set 149 (.inl (0, .inl (((((((((A).set 272 0).set 276 (-1)).set 273 0).set 277 (-1)).set 274 0).set 278 (-1)).set 275 0).set 279 (-1))))).set 149 (.inl (0, .inl ((((((((((A).set 272 0).set 276 (-1)).set 273 0).set 277 (-1)).set 274 0).set 278 (-1)).set 275 0).set 279 (-1)).set 280 0)))).set 149 (.inl (0, .inl (((((((((((A).set 272 0).set 276 (-1)).set 273 0).set 277 (-1)).set 274 0).set 278 (-1)).set 275 0).set 279 (-1)).set 280 0).set 281 0)))).set 149 (.inl (0, .inl ((((((((((((A).set 272 0).set 276 (-1)).set 273 0).set 277 (-1)).set 274 0).set 278 (-1)).set 275 0).set 279 (-1)).set 280 0).set 281 0).set 282 0))))) := by
      refine ca_of (d := 17) (M := mX12_goesRail) rfl (Nat.le_of_ble_eq_true rfl) ?_
      show Ev im_K0 17 mX12_goesRail (0, [(0, .ref 164), (1, .int 2)], [], ((((((((((g.set 149 (.inl (0, .inl ((A).set 272 0)))).set 149 (.inl (0, .inl (((A).set 272 0).set 276 (-1))))).set 149 (.inl (0, .inl ((((A).set 272 0).set 276 (-1)).set 273 0)))).set 149 (.inl (0, .inl (((((A).set 272 0).set 276 (-1)).set 273 0).set 277 (-1))))).set 149 (.inl (0, .inl ((((((A).set 272 0).set 276 (-1)).set 273 0).set 277 (-1)).set 274 0)))).set 149 (.inl (0, .inl (((((((A).set 272 0).set 276 (-1)).set 273 0).set 277 (-1)).set 274 0).set 278 (-1))))).set 149 (.inl (0, .inl ((((((((A).set 272 0).set 276 (-1)).set 273 0).set 277 (-1)).set 274 0).set 278 (-1)).set 275 0)))).set 149 (.inl (0, .inl (((((((((A).set 272 0).set 276 (-1)).set 273 0).set 277 (-1)).set 274 0).set 278 (-1)).set 275 0).set 279 (-1))))).set 149 (.inl (0, .inl ((((((((((A).set 272 0).set 276 (-1)).set 273 0).set 277 (-1)).set 274 0).set 278 (-1)).set 275 0).set 279 (-1)).set 280 0)))).set 149 (.inl (0, .inl (((((((((((A).set 272 0).set 276 (-1)).set 273 0).set 277 (-1)).set 274 0).set 278 (-1)).set 275 0).set 279 (-1)).set 280 0).set 281 0))))) _
      refine sp_aload_n (p2 := 1) rfl rfl rfl ?_
      refine st_get rfl (ob_ne (by decide) (ob_ne (by decide) (ob_ne (by decide) (ob_ne (by decide) (ob_ne (by decide) (ob_ne (by decide) (ob_ne (by decide) (ob_ne (by decide) (ob_ne (by decide) (ob_ne (by decide) g_148)))))))))) rfl ?_
      show Ev _ _ _ (4, _, _, _) _
      refine sp_sipush (p2 := 7) (x := 280) rfl rfl (by decide) ?_
      refine sp_iload_n (p2 := 8) rfl rfl rfl ?_
      refine sp_iadd (p2 := 9) (z := 282) rfl rfl (by decide) ?_
      refine sp_iconst (p2 := 10) (x := 0) rfl rfl (by decide) ?_
      refine st_iast (i := 149) rfl rfl (ia_eq2 (sl_len (sl_len (sl_len (sl_len (sl_len (sl_len (sl_len (sl_len (sl_len g_len))))))))) (by decide)) (in_at (n := 283) (pa_set (by decide) (pa_set (by decide) (pa_set (by decide) (pa_set (by decide) (pa_set (by decide) (pa_set (by decide) (pa_set (by decide) (pa_set (by decide) (pa_set (by decide) (pa_set (by decide) hA)))))))))).1 (by decide) (by decide)) ?_
      show Ev _ _ _ (11, [(0, .ref 164), (1, .int 2)], [], (((((((((((g.set 149 (.inl (0, .inl ((A).set 272 0)))).set 149 (.inl (0, .inl (((A).set 272 0).set 276 (-1))))).set 149 (.inl (0, .inl ((((A).set 272 0).set 276 (-1)).set 273 0)))).set 149 (.inl (0, .inl (((((A).set 272 0).set 276 (-1)).set 273 0).set 277 (-1))))).set 149 (.inl (0, .inl ((((((A).set 272 0).set 276 (-1)).set 273 0).set 277 (-1)).set 274 0)))).set 149 (.inl (0, .inl (((((((A).set 272 0).set 276 (-1)).set 273 0).set 277 (-1)).set 274 0).set 278 (-1))))).set 149 (.inl (0, .inl ((((((((A).set 272 0).set 276 (-1)).set 273 0).set 277 (-1)).set 274 0).set 278 (-1)).set 275 0)))).set 149 (.inl (0, .inl (((((((((A).set 272 0).set 276 (-1)).set 273 0).set 277 (-1)).set 274 0).set 278 (-1)).set 275 0).set 279 (-1))))).set 149 (.inl (0, .inl ((((((((((A).set 272 0).set 276 (-1)).set 273 0).set 277 (-1)).set 274 0).set 278 (-1)).set 275 0).set 279 (-1)).set 280 0)))).set 149 (.inl (0, .inl (((((((((((A).set 272 0).set 276 (-1)).set 273 0).set 277 (-1)).set 274 0).set 278 (-1)).set 275 0).set 279 (-1)).set 280 0).set 281 0)))).set 149 (.inl (0, .inl ((((((((((((A).set 272 0).set 276 (-1)).set 273 0).set 277 (-1)).set 274 0).set 278 (-1)).set 275 0).set 279 (-1)).set 280 0).set 281 0).set 282 0))))) _
      refine sp_aload_n (p2 := 12) rfl rfl rfl ?_
      refine st_get rfl (ob_ne (by decide) (ob_ne (by decide) (ob_ne (by decide) (ob_ne (by decide) (ob_ne (by decide) (ob_ne (by decide) (ob_ne (by decide) (ob_ne (by decide) (ob_ne (by decide) (ob_ne (by decide) (ob_ne (by decide) g_148))))))))))) rfl ?_
      show Ev _ _ _ (15, _, _, _) _
      refine sp_iload_n (p2 := 16) rfl rfl rfl ?_
      refine st_iald (x := 0) rfl (by decide) (ia_ne (by decide) (ia_ne (by decide) (ia_ne (by decide) (ia_ne (by decide) (ia_ne (by decide) (ia_ne (by decide) (ia_ne (by decide) (ia_ne (by decide) (ia_ne (by decide) (ia_ne (by decide) (ia_ne (by decide) g_165))))))))))) rfl rfl ?_
      show Ev _ _ _ (17, _, _, _) _
      refine st_ifc (b := false) rfl (by decide) ?_
      show Ev _ _ _ (20, _, _, _) _
      exact sp_vret rfl rfl
    refine st_callV (R := 164) rfl rfl rfl (ob_ne (by decide) (ob_ne (by decide) (ob_ne (by decide) (ob_ne (by decide) (ob_ne (by decide) (ob_ne (by decide) (ob_ne (by decide) (ob_ne (by decide) (ob_ne (by decide) (ob_ne (by decide) g_148)))))))))) rfl c7 ?_
    show Ev _ _ _ (30, [(1, .int 2), (0, .ref 164)], [], (((((((((((g.set 149 (.inl (0, .inl ((A).set 272 0)))).set 149 (.inl (0, .inl (((A).set 272 0).set 276 (-1))))).set 149 (.inl (0, .inl ((((A).set 272 0).set 276 (-1)).set 273 0)))).set 149 (.inl (0, .inl (((((A).set 272 0).set 276 (-1)).set 273 0).set 277 (-1))))).set 149 (.inl (0, .inl ((((((A).set 272 0).set 276 (-1)).set 273 0).set 277 (-1)).set 274 0)))).set 149 (.inl (0, .inl (((((((A).set 272 0).set 276 (-1)).set 273 0).set 277 (-1)).set 274 0).set 278 (-1))))).set 149 (.inl (0, .inl ((((((((A).set 272 0).set 276 (-1)).set 273 0).set 277 (-1)).set 274 0).set 278 (-1)).set 275 0)))).set 149 (.inl (0, .inl (((((((((A).set 272 0).set 276 (-1)).set 273 0).set 277 (-1)).set 274 0).set 278 (-1)).set 275 0).set 279 (-1))))).set 149 (.inl (0, .inl ((((((((((A).set 272 0).set 276 (-1)).set 273 0).set 277 (-1)).set 274 0).set 278 (-1)).set 275 0).set 279 (-1)).set 280 0)))).set 149 (.inl (0, .inl (((((((((((A).set 272 0).set 276 (-1)).set 273 0).set 277 (-1)).set 274 0).set 278 (-1)).set 275 0).set 279 (-1)).set 280 0).set 281 0)))).set 149 (.inl (0, .inl ((((((((((((A).set 272 0).set 276 (-1)).set 273 0).set 277 (-1)).set 274 0).set 278 (-1)).set 275 0).set 279 (-1)).set 280 0).set 281 0).set 282 0))))) _
    refine sp_iinc (p2 := 33) (y := 3) (lv2 := [(1, .int 3), (0, .ref 164)]) rfl rfl (by decide) rfl (by decide) rfl ?_
    refine sp_goto rfl ?_
    refine sp_iload_n (p2 := 21) rfl rfl rfl ?_
    refine sp_iconst (p2 := 22) (x := 3) rfl rfl (by decide) ?_
    refine st_icmp (b := true) rfl (by decide) ?_
    show Ev _ _ _ (36, _, _, _) _
    refine sp_iconst (p2 := 37) (x := 0) rfl rfl (by decide) ?_
    refine sp_istore_n (p2 := 38) (lv2 := [(1, .int 0), (0, .ref 164)]) rfl rfl (by decide) rfl ?_
    refine sp_iload_n (p2 := 39) rfl rfl rfl ?_
    refine sp_aload_n (p2 := 40) rfl rfl rfl ?_
    refine st_get rfl (ob_ne (by decide) (ob_ne (by decide) (ob_ne (by decide) (ob_ne (by decide) (ob_ne (by decide) (ob_ne (by decide) (ob_ne (by decide) (ob_ne (by decide) (ob_ne (by decide) (ob_ne (by decide) (ob_ne (by decide) g_148))))))))))) rfl ?_
    show Ev _ _ _ (43, _, _, _) _
    refine st_icmp (b := true) rfl (by decide) ?_
    show Ev _ _ _ (78, _, _, _) _
    refine sp_iconst (p2 := 79) (x := 0) rfl rfl (by decide) ?_
    refine sp_istore_n (p2 := 80) (lv2 := [(1, .int 0), (0, .ref 164)]) rfl rfl (by decide) rfl ?_
    refine sp_iload_n (p2 := 81) rfl rfl rfl ?_
    refine sp_aload_n (p2 := 82) rfl rfl rfl ?_
    refine st_get rfl (ob_ne (by decide) (ob_ne (by decide) (ob_ne (by decide) (ob_ne (by decide) (ob_ne (by decide) (ob_ne (by decide) (ob_ne (by decide) (ob_ne (by decide) (ob_ne (by decide) (ob_ne (by decide) (ob_ne (by decide) g_148))))))))))) rfl ?_
    show Ev _ _ _ (85, _, _, _) _
    refine st_icmp (b := true) rfl (by decide) ?_
    show Ev _ _ _ (139, _, _, _) _
    refine sp_iconst (p2 := 140) (x := 0) rfl rfl (by decide) ?_
    refine sp_istore_n (p2 := 141) (lv2 := [(1, .int 0), (0, .ref 164)]) rfl rfl (by decide) rfl ?_
    refine sp_iload_n (p2 := 142) rfl rfl rfl ?_
    refine sp_aload_n (p2 := 143) rfl rfl rfl ?_
    refine st_get rfl (ob_ne (by decide) (ob_ne (by decide) (ob_ne (by decide) (ob_ne (by decide) (ob_ne (by decide) (ob_ne (by decide) (ob_ne (by decide) (ob_ne (by decide) (ob_ne (by decide) (ob_ne (by decide) (ob_ne (by decide) g_148))))))))))) rfl ?_
    show Ev _ _ _ (146, _, _, _) _
    refine st_icmp (b := true) rfl (by decide) ?_
    show Ev _ _ _ (214, _, _, _) _
    refine sp_aload_n (p2 := 215) rfl rfl rfl ?_
    refine st_get rfl (ob_ne (by decide) (ob_ne (by decide) (ob_ne (by decide) (ob_ne (by decide) (ob_ne (by decide) (ob_ne (by decide) (ob_ne (by decide) (ob_ne (by decide) (ob_ne (by decide) (ob_ne (by decide) (ob_ne (by decide) g_148))))))))))) rfl ?_
    show Ev _ _ _ (218, _, _, _) _
    refine sp_bipush (p2 := 220) (x := 105) rfl rfl (by decide) ?_
    refine sp_dup2 (p2 := 221) rfl rfl ⟨rfl, rfl⟩ ?_
    refine st_iald (x := d) rfl (by decide) (ia_eq2 (sl_len (sl_len (sl_len (sl_len (sl_len (sl_len (sl_len (sl_len (sl_len (sl_len g_len)))))))))) (by decide)) (in_at (n := 283) (pa_set (by decide) (pa_set (by decide) (pa_set (by decide) (pa_set (by decide) (pa_set (by decide) (pa_set (by decide) (pa_set (by decide) (pa_set (by decide) (pa_set (by decide) (pa_set (by decide) (pa_set (by decide) hA))))))))))).1 (by decide) (by decide)) (pa_set (by decide) (pa_set (by decide) (pa_set (by decide) (pa_set (by decide) (pa_set (by decide) (pa_set (by decide) (pa_set (by decide) (pa_set (by decide) (pa_set (by decide) (pa_set (by decide) (pa_set (by decide) hA))))))))))).2.1 ?_
    show Ev _ _ _ (222, [(1, .int 0), (0, .ref 164)], [.int d, .int 105, .ref 165], (((((((((((g.set 149 (.inl (0, .inl ((A).set 272 0)))).set 149 (.inl (0, .inl (((A).set 272 0).set 276 (-1))))).set 149 (.inl (0, .inl ((((A).set 272 0).set 276 (-1)).set 273 0)))).set 149 (.inl (0, .inl (((((A).set 272 0).set 276 (-1)).set 273 0).set 277 (-1))))).set 149 (.inl (0, .inl ((((((A).set 272 0).set 276 (-1)).set 273 0).set 277 (-1)).set 274 0)))).set 149 (.inl (0, .inl (((((((A).set 272 0).set 276 (-1)).set 273 0).set 277 (-1)).set 274 0).set 278 (-1))))).set 149 (.inl (0, .inl ((((((((A).set 272 0).set 276 (-1)).set 273 0).set 277 (-1)).set 274 0).set 278 (-1)).set 275 0)))).set 149 (.inl (0, .inl (((((((((A).set 272 0).set 276 (-1)).set 273 0).set 277 (-1)).set 274 0).set 278 (-1)).set 275 0).set 279 (-1))))).set 149 (.inl (0, .inl ((((((((((A).set 272 0).set 276 (-1)).set 273 0).set 277 (-1)).set 274 0).set 278 (-1)).set 275 0).set 279 (-1)).set 280 0)))).set 149 (.inl (0, .inl (((((((((((A).set 272 0).set 276 (-1)).set 273 0).set 277 (-1)).set 274 0).set 278 (-1)).set 275 0).set 279 (-1)).set 280 0).set 281 0)))).set 149 (.inl (0, .inl ((((((((((((A).set 272 0).set 276 (-1)).set 273 0).set 277 (-1)).set 274 0).set 278 (-1)).set 275 0).set 279 (-1)).set 280 0).set 281 0).set 282 0))))) _
    refine sp_iconst (p2 := 223) (x := 1) rfl rfl (by decide) ?_
    have f1 : Int32.toInt (d + 1) = Int32.toInt d + 1 := i32_addE (show Int32.toInt 1 = 1 from rfl) (by omega) (by omega)
    refine sp_iadd (p2 := 224) (z := (d + 1)) rfl rfl rfl ?_
    refine st_iast (i := 149) rfl rfl (ia_eq2 (sl_len (sl_len (sl_len (sl_len (sl_len (sl_len (sl_len (sl_len (sl_len (sl_len g_len)))))))))) (by decide)) (in_at (n := 283) (pa_set (by decide) (pa_set (by decide) (pa_set (by decide) (pa_set (by decide) (pa_set (by decide) (pa_set (by decide) (pa_set (by decide) (pa_set (by decide) (pa_set (by decide) (pa_set (by decide) (pa_set (by decide) hA))))))))))).1 (by decide) (by decide)) ?_
    show Ev _ _ _ (225, [(1, .int 0), (0, .ref 164)], [], ((((((((((((g.set 149 (.inl (0, .inl ((A).set 272 0)))).set 149 (.inl (0, .inl (((A).set 272 0).set 276 (-1))))).set 149 (.inl (0, .inl ((((A).set 272 0).set 276 (-1)).set 273 0)))).set 149 (.inl (0, .inl (((((A).set 272 0).set 276 (-1)).set 273 0).set 277 (-1))))).set 149 (.inl (0, .inl ((((((A).set 272 0).set 276 (-1)).set 273 0).set 277 (-1)).set 274 0)))).set 149 (.inl (0, .inl (((((((A).set 272 0).set 276 (-1)).set 273 0).set 277 (-1)).set 274 0).set 278 (-1))))).set 149 (.inl (0, .inl ((((((((A).set 272 0).set 276 (-1)).set 273 0).set 277 (-1)).set 274 0).set 278 (-1)).set 275 0)))).set 149 (.inl (0, .inl (((((((((A).set 272 0).set 276 (-1)).set 273 0).set 277 (-1)).set 274 0).set 278 (-1)).set 275 0).set 279 (-1))))).set 149 (.inl (0, .inl ((((((((((A).set 272 0).set 276 (-1)).set 273 0).set 277 (-1)).set 274 0).set 278 (-1)).set 275 0).set 279 (-1)).set 280 0)))).set 149 (.inl (0, .inl (((((((((((A).set 272 0).set 276 (-1)).set 273 0).set 277 (-1)).set 274 0).set 278 (-1)).set 275 0).set 279 (-1)).set 280 0).set 281 0)))).set 149 (.inl (0, .inl ((((((((((((A).set 272 0).set 276 (-1)).set 273 0).set 277 (-1)).set 274 0).set 278 (-1)).set 275 0).set 279 (-1)).set 280 0).set 281 0).set 282 0)))).set 149 (.inl (0, .inl (((((((((((((A).set 272 0).set 276 (-1)).set 273 0).set 277 (-1)).set 274 0).set 278 (-1)).set 275 0).set 279 (-1)).set 280 0).set 281 0).set 282 0).set 105 (d + 1)))))) _
    exact sp_vret rfl rfl
  · exact ⟨(sl_len (sl_len (sl_len (sl_len (sl_len (sl_len (sl_len (sl_len (sl_len (sl_len (sl_len (sl_len g_len)))))))))))), (ob_ne (by decide) (ob_ne (by decide) (ob_ne (by decide) (ob_ne (by decide) (ob_ne (by decide) (ob_ne (by decide) (ob_ne (by decide) (ob_ne (by decide) (ob_ne (by decide) (ob_ne (by decide) (ob_ne (by decide) (ob_ne (by decide) g_148)))))))))))), (ia_ne (by decide) (ia_ne (by decide) (ia_ne (by decide) (ia_ne (by decide) (ia_ne (by decide) (ia_ne (by decide) (ia_ne (by decide) (ia_ne (by decide) (ia_ne (by decide) (ia_ne (by decide) (ia_ne (by decide) (ia_ne (by decide) g_161)))))))))))), (ia_ne (by decide) (ia_ne (by decide) (ia_ne (by decide) (ia_ne (by decide) (ia_ne (by decide) (ia_ne (by decide) (ia_ne (by decide) (ia_ne (by decide) (ia_ne (by decide) (ia_ne (by decide) (ia_ne (by decide) (ia_ne (by decide) g_165)))))))))))), ⟨_, (pa_day (pa_set (by decide) (pa_set (by decide) (pa_set (by decide) (pa_set (by decide) (pa_set (by decide) (pa_set (by decide) (pa_set (by decide) (pa_set (by decide) (pa_set (by decide) (pa_set (by decide) (pa_set (by decide) hA)))))))))))), (ia_eq2 (sl_len (sl_len (sl_len (sl_len (sl_len (sl_len (sl_len (sl_len (sl_len (sl_len (sl_len g_len))))))))))) (by decide))⟩, ⟨_, hK, (ia_ne (by decide) (ia_ne (by decide) (ia_ne (by decide) (ia_ne (by decide) (ia_ne (by decide) (ia_ne (by decide) (ia_ne (by decide) (ia_ne (by decide) (ia_ne (by decide) (ia_ne (by decide) (ia_ne (by decide) (ia_ne (by decide) g_150))))))))))))⟩⟩
set_option maxRecDepth 20000 in
set_option maxHeartbeats 4000000 in
theorem runM_lp (x1 : Int32) (h60 : x1.toInt ≤ 60) (out : ∀ g : im_H, PM g x1 → ∃ g1 : im_H, Ev im_K0 19 mX12_run (33, [(2, .int x1), (0, .ref 164), (1, .int x1)], [], g) (some (.int x1), g1) ∧ True) : ∀ (m : Nat) (g : im_H) (d : Int32), PM g d → 0 ≤ d.toInt → d.toInt + m = x1.toInt → ∃ g1 : im_H, Ev im_K0 19 mX12_run (33, [(2, .int d), (0, .ref 164), (1, .int x1)], [], g) (some (.int x1), g1) ∧ True := by
  intro m
  induction m with
  | zero =>
    intro g d hp d0 hm
    have e : d = x1 := i32_ext (by omega)
    rw [e] at hp ⊢
    exact out g hp
  | succ m ih =>
    intro g d hp d0 hm
    obtain ⟨g2, hc, hp2⟩ := goes_d g d hp d0 (by omega)
    have fd : Int32.toInt (d + 1) = Int32.toInt d + 1 := i32_addE (show Int32.toInt 1 = 1 from rfl) (by omega) (by omega)
    obtain ⟨g1, he, hq⟩ := ih g2 (d + 1) hp2 (by omega) (by omega)
    obtain ⟨g_len, g_148, g_161, g_165, ⟨A, hA, g_149⟩, ⟨K, hK, g_150⟩⟩ := hp
    refine ⟨g1, ?_, hq⟩
    refine sp_iload_n (p2 := 34) rfl rfl rfl ?_
    refine sp_iload_n (p2 := 35) rfl rfl rfl ?_
    refine st_icmp (b := false) rfl (cn_ge_F rfl rfl (by omega)) ?_
    show Ev _ _ _ (38, _, _, _) _
    refine sp_aload_n (p2 := 39) rfl rfl rfl ?_
    refine st_callV (R := 164) rfl rfl rfl g_148 rfl hc ?_
    show Ev _ _ _ (42, [(2, .int d), (0, .ref 164), (1, .int x1)], [], g2) _
    refine sp_iinc (p2 := 45) (y := (d + 1)) (lv2 := [(2, .int ((d + 1))), (0, .ref 164), (1, .int x1)]) rfl rfl (by decide) rfl rfl rfl ?_
    refine sp_goto rfl ?_
    exact he
set_option maxRecDepth 20000 in
set_option maxHeartbeats 4000000 in
theorem runM_out (x1 : Int32) (g : im_H) (hp : PM g x1) : ∃ g1 : im_H, Ev im_K0 19 mX12_run (33, [(2, .int x1), (0, .ref 164), (1, .int x1)], [], g) (some (.int x1), g1) ∧ True := by
  obtain ⟨g_len, g_148, g_161, g_165, ⟨A, hA, g_149⟩, ⟨K, hK, g_150⟩⟩ := hp
  refine ⟨g, ?_, ?_⟩
  · refine sp_iload_n (p2 := 34) rfl rfl rfl ?_
    refine sp_iload_n (p2 := 35) rfl rfl rfl ?_
    refine st_icmp (b := true) rfl (cn_ge_T rfl rfl (by omega)) ?_
    show Ev _ _ _ (48, _, _, _) _
    refine sp_aload_n (p2 := 49) rfl rfl rfl ?_
    refine st_get rfl g_148 rfl ?_
    show Ev _ _ _ (52, _, _, _) _
    refine sp_bipush (p2 := 54) (x := 105) rfl rfl (by decide) ?_
    refine st_iald (x := x1) rfl (by decide) g_149 (in_at (n := 283) hA.1 (by decide) (by decide)) hA.2.1 ?_
    show Ev _ _ _ (55, [(2, .int x1), (0, .ref 164), (1, .int x1)], [.int x1], g) _
    exact sp_iret rfl rfl
  · exact trivial
set_option maxRecDepth 20000 in
set_option maxHeartbeats 4000000 in
theorem q_run (x1 : Int32) : ∃ (v : Value) (h1 h2 : im_H), Ca 20 76 [.ref 16, .int x1] hh (some v, h1) ∧ Ca 20 155 [.ref 164, .int x1] h1 (some v, h2) := by
  by_cases h1 : x1.toInt ≤ 0
  · refine ⟨.int (-2), hh, hh, ?_, ?_⟩
    · refine ca_of (d := 19) (M := mX11_run) rfl (Nat.le_of_ble_eq_true rfl) ?_
      show Ev im_K0 19 mX11_run (0, [(0, .ref 16), (1, .int x1)], [], hh) _
      refine sp_iload_n (p2 := 1) rfl rfl rfl ?_
      refine sp_iconst (p2 := 2) (x := 1) rfl rfl (by decide) ?_
      refine sp_bipush (p2 := 4) (x := 60) rfl rfl (by decide) ?_
      refine st_callS rfl rfl rfl (cl_between_F (a := 1) (b := 60) rfl rfl (by omega)) ?_
      show Ev _ _ _ (7, [(0, .ref 16), (1, .int x1)], [.int 0], hh) _
      refine st_ifc (b := false) rfl (by decide) ?_
      show Ev _ _ _ (10, _, _, _) _
      refine sp_bipush (p2 := 12) (x := (-2)) rfl rfl (by decide) ?_
      exact sp_iret rfl rfl
    · refine ca_of (d := 19) (M := mX12_run) rfl (Nat.le_of_ble_eq_true rfl) ?_
      show Ev im_K0 19 mX12_run (0, [(0, .ref 164), (1, .int x1)], [], hh) _
      refine sp_iload_n (p2 := 1) rfl rfl rfl ?_
      refine sp_iconst (p2 := 2) (x := 1) rfl rfl (by decide) ?_
      refine sp_bipush (p2 := 4) (x := 60) rfl rfl (by decide) ?_
      refine st_callS rfl rfl rfl (cl_in_F (a := 1) (b := 60) rfl rfl (by omega)) ?_
      show Ev _ _ _ (7, [(0, .ref 164), (1, .int x1)], [.int 0], hh) _
      refine st_ifc (b := false) rfl (by decide) ?_
      show Ev _ _ _ (10, _, _, _) _
      refine sp_bipush (p2 := 12) (x := (-2)) rfl rfl (by decide) ?_
      exact sp_iret rfl rfl
  · by_cases h2 : x1.toInt ≤ 60
    · obtain ⟨m, hm⟩ : ∃ m : Nat, (m : Int) = x1.toInt := ⟨x1.toInt.toNat, by omega⟩
      obtain ⟨g1, he1, g1_len, fr1⟩ := runX_lp x1 (by omega) (runX_out x1) m hh 0 Pnow_0 (by decide) (by rw [show Int32.toInt 0 = 0 from rfl]; omega)
      obtain ⟨g2, he2, _⟩ := runM_lp x1 (by omega) (runM_out x1) m g1 0 (PM_0 g1_len fr1) (by decide) (by rw [show Int32.toInt 0 = 0 from rfl]; omega)
      have g1_148 := ob_fr (fr1 148 (by decide)) hh_148
      have g1_149 := ia_fr (fr1 149 (by decide)) hh_149
      refine ⟨.int x1, g1, g2, ?_, ?_⟩
      · refine ca_of (d := 19) (M := mX11_run) rfl (Nat.le_of_ble_eq_true rfl) ?_
        show Ev im_K0 19 mX11_run (0, [(0, .ref 16), (1, .int x1)], [], hh) _
        refine sp_iload_n (p2 := 1) rfl rfl rfl ?_
        refine sp_iconst (p2 := 2) (x := 1) rfl rfl (by decide) ?_
        refine sp_bipush (p2 := 4) (x := 60) rfl rfl (by decide) ?_
        refine st_callS rfl rfl rfl (cl_between_T (a := 1) (b := 60) rfl rfl (by omega)) ?_
        show Ev _ _ _ (7, [(0, .ref 16), (1, .int x1)], [.int 1], hh) _
        refine st_ifc (b := true) rfl (by decide) ?_
        show Ev _ _ _ (13, _, _, _) _
        refine sp_aload_n (p2 := 14) rfl rfl rfl ?_
        refine st_get rfl hh_0 rfl ?_
        show Ev _ _ _ (17, _, _, _) _
        refine st_get rfl hh_23 rfl ?_
        show Ev _ _ _ (20, _, _, _) _
        refine sp_iload_n (p2 := 21) rfl rfl rfl ?_
        refine sp_iadd (p2 := 22) (z := x1) rfl rfl (Int32.zero_add _) ?_
        refine sp_sipush (p2 := 25) (x := 2000) rfl rfl (by decide) ?_
        refine st_icmp (b := true) rfl (cn_le_T rfl (show Int32.toInt 2000 = 2000 from rfl) (by omega)) ?_
        show Ev _ _ _ (31, _, _, _) _
        refine sp_iconst (p2 := 32) (x := 0) rfl rfl (by decide) ?_
        refine sp_istore_n (p2 := 33) (lv2 := [(2, .int 0), (0, .ref 16), (1, .int x1)]) rfl rfl (by decide) rfl ?_
        exact he1
      · refine ca_of (d := 19) (M := mX12_run) rfl (Nat.le_of_ble_eq_true rfl) ?_
        show Ev im_K0 19 mX12_run (0, [(0, .ref 164), (1, .int x1)], [], g1) _
        refine sp_iload_n (p2 := 1) rfl rfl rfl ?_
        refine sp_iconst (p2 := 2) (x := 1) rfl rfl (by decide) ?_
        refine sp_bipush (p2 := 4) (x := 60) rfl rfl (by decide) ?_
        refine st_callS rfl rfl rfl (cl_in_T (a := 1) (b := 60) rfl rfl (by omega)) ?_
        show Ev _ _ _ (7, [(0, .ref 164), (1, .int x1)], [.int 1], g1) _
        refine st_ifc (b := true) rfl (by decide) ?_
        show Ev _ _ _ (13, _, _, _) _
        refine sp_aload_n (p2 := 14) rfl rfl rfl ?_
        refine st_get rfl g1_148 rfl ?_
        show Ev _ _ _ (17, _, _, _) _
        refine sp_bipush (p2 := 19) (x := 105) rfl rfl (by decide) ?_
        refine st_iald (x := 0) rfl (by decide) g1_149 rfl rfl ?_
        show Ev _ _ _ (20, _, _, _) _
        refine sp_iload_n (p2 := 21) rfl rfl rfl ?_
        refine sp_iadd (p2 := 22) (z := x1) rfl rfl (Int32.zero_add _) ?_
        refine sp_sipush (p2 := 25) (x := 2000) rfl rfl (by decide) ?_
        refine st_icmp (b := true) rfl (cn_le_T rfl (show Int32.toInt 2000 = 2000 from rfl) (by omega)) ?_
        show Ev _ _ _ (31, _, _, _) _
        refine sp_iconst (p2 := 32) (x := 0) rfl rfl (by decide) ?_
        refine sp_istore_n (p2 := 33) (lv2 := [(2, .int 0), (0, .ref 164), (1, .int x1)]) rfl rfl (by decide) rfl ?_
        exact he2
    · refine ⟨.int (-2), hh, hh, ?_, ?_⟩
      · refine ca_of (d := 19) (M := mX11_run) rfl (Nat.le_of_ble_eq_true rfl) ?_
        show Ev im_K0 19 mX11_run (0, [(0, .ref 16), (1, .int x1)], [], hh) _
        refine sp_iload_n (p2 := 1) rfl rfl rfl ?_
        refine sp_iconst (p2 := 2) (x := 1) rfl rfl (by decide) ?_
        refine sp_bipush (p2 := 4) (x := 60) rfl rfl (by decide) ?_
        refine st_callS rfl rfl rfl (cl_between_F (a := 1) (b := 60) rfl rfl (by omega)) ?_
        show Ev _ _ _ (7, [(0, .ref 16), (1, .int x1)], [.int 0], hh) _
        refine st_ifc (b := false) rfl (by decide) ?_
        show Ev _ _ _ (10, _, _, _) _
        refine sp_bipush (p2 := 12) (x := (-2)) rfl rfl (by decide) ?_
        exact sp_iret rfl rfl
      · refine ca_of (d := 19) (M := mX12_run) rfl (Nat.le_of_ble_eq_true rfl) ?_
        show Ev im_K0 19 mX12_run (0, [(0, .ref 164), (1, .int x1)], [], hh) _
        refine sp_iload_n (p2 := 1) rfl rfl rfl ?_
        refine sp_iconst (p2 := 2) (x := 1) rfl rfl (by decide) ?_
        refine sp_bipush (p2 := 4) (x := 60) rfl rfl (by decide) ?_
        refine st_callS rfl rfl rfl (cl_in_F (a := 1) (b := 60) rfl rfl (by omega)) ?_
        show Ev _ _ _ (7, [(0, .ref 164), (1, .int x1)], [.int 0], hh) _
        refine st_ifc (b := false) rfl (by decide) ?_
        show Ev _ _ _ (10, _, _, _) _
        refine sp_bipush (p2 := 12) (x := (-2)) rfl rfl (by decide) ?_
        exact sp_iret rfl rfl
