set_option maxRecDepth 20000 in
set_option maxHeartbeats 4000000 in
theorem pd_aside (g : im_H) (d : Int32) (hp : Paside g d) (h0 : 0 ≤ d.toInt) (h1 : d.toInt ≤ 60) : ∃ g1 : im_H, Ca 19 7 [.ref 17, .ref 53] g (none, g1) ∧ Paside g1 (d + 1) := by
  obtain ⟨g_len, fr, g_0, g_1, g_7, g_8, g_12, g_14, g_16, g_18, g_20, g_21, g_22, g_23, g_24, g_30, g_37, g_38, g_39, g_41, g_44, g_48, g_50, ⟨s1, s2, s3, s4, g_49⟩⟩ := hp
  by_cases h1 : Int32.toInt (d - d / 7 * 7) ≤ 5
  · refine ⟨((((((((((((g.set 48 (.inl (0, .inl ((([0, 0, 0, 0] : List Int32)).set 0 0)))).set 49 (.inl (0, .inl (([s1, s2, s3, s4]).set 0 (-1))))).set 48 (.inl (0, .inl (((([0, 0, 0, 0] : List Int32)).set 0 0).set 1 0)))).set 49 (.inl (0, .inl ((([s1, s2, s3, s4]).set 0 (-1)).set 1 (-1))))).set 48 (.inl (0, .inl ((((([0, 0, 0, 0] : List Int32)).set 0 0).set 1 0).set 2 0)))).set 49 (.inl (0, .inl (((([s1, s2, s3, s4]).set 0 (-1)).set 1 (-1)).set 2 (-1))))).set 48 (.inl (0, .inl (((((([0, 0, 0, 0] : List Int32)).set 0 0).set 1 0).set 2 0).set 3 0)))).set 49 (.inl (0, .inl ((((([s1, s2, s3, s4]).set 0 (-1)).set 1 (-1)).set 2 (-1)).set 3 (-1))))).set 50 (.inl (0, .inl ((([0, 0, 0] : List Int32)).set 0 0)))).set 50 (.inl (0, .inl (((([0, 0, 0] : List Int32)).set 0 0).set 1 0)))).set 50 (.inl (0, .inl ((((([0, 0, 0] : List Int32)).set 0 0).set 1 0).set 2 0)))).set 37 (.inr (9, [.int ((d + 1)), .int 0, .int 0, .int 0, .int 0, .ref 54, .ref 55, .ref 56, .ref 57, .ref 58, .ref 59, .ref 60, .ref 61, .ref 62, .ref 63, .ref 64, .ref 65, .ref 66]))), ?_, ?_⟩
    · refine ca_of (d := 18) (M := mX0_playDay) rfl (Nat.le_of_ble_eq_true rfl) ?_
      show Ev im_K0 18 mX0_playDay (0, [(0, .ref 17), (1, .ref 53)], [], g) _
      refine sp_iconst (p2 := 1) (x := 0) rfl rfl (by decide) ?_
      refine sp_istore_n (p2 := 2) (lv2 := [(2, .int 0), (0, .ref 17), (1, .ref 53)]) rfl rfl (by decide) rfl ?_
      refine sp_iload_n (p2 := 3) rfl rfl rfl ?_
      refine sp_iconst (p2 := 4) (x := 4) rfl rfl (by decide) ?_
      refine st_icmp (b := false) rfl (by decide) ?_
      show Ev _ _ _ (7, _, _, _) _
      refine sp_aload_n (p2 := 8) rfl rfl rfl ?_
      refine sp_aload_n (p2 := 9) rfl rfl rfl ?_
      refine sp_iload_n (p2 := 10) rfl rfl rfl ?_
      have c1 : Ca 18 8 [.ref 17, .ref 53, .int 0] g (none, ((g.set 48 (.inl (0, .inl ((([0, 0, 0, 0] : List Int32)).set 0 0)))).set 49 (.inl (0, .inl (([s1, s2, s3, s4]).set 0 (-1)))))) := by
        refine ca_of (d := 17) (M := mX0_workRow) rfl (Nat.le_of_ble_eq_true rfl) ?_
        show Ev im_K0 17 mX0_workRow (0, [(0, .ref 17), (1, .ref 53), (2, .int 0)], [], g) _
        refine sp_aload_n (p2 := 1) rfl rfl rfl ?_
        refine st_get rfl g_1 rfl ?_
        show Ev _ _ _ (4, _, _, _) _
        refine sp_iload_n (p2 := 5) rfl rfl rfl ?_
        refine st_aald (v := .ref 28) rfl g_7 (by decide) rfl ?_
        show Ev _ _ _ (6, _, _, _) _
        refine sp_astore_n (p2 := 7) (lv2 := [(3, .ref 28), (0, .ref 17), (1, .ref 53), (2, .int 0)]) rfl rfl (by decide) rfl ?_
        refine sp_aload_n (p2 := 8) rfl rfl rfl ?_
        refine st_get rfl g_37 rfl ?_
        show Ev _ _ _ (11, _, _, _) _
        refine sp_iload_n (p2 := 12) rfl rfl rfl ?_
        refine sp_iconst (p2 := 13) (x := 0) rfl rfl (by decide) ?_
        refine st_iast (i := 48) rfl rfl g_48 rfl ?_
        show Ev _ _ _ (14, [(3, .ref 28), (0, .ref 17), (1, .ref 53), (2, .int 0)], [], (g.set 48 (.inl (0, .inl ((([0, 0, 0, 0] : List Int32)).set 0 0))))) _
        refine sp_aload_n (p2 := 15) rfl rfl rfl ?_
        refine st_get rfl (ob_ne (by decide) g_37) rfl ?_
        show Ev _ _ _ (18, _, _, _) _
        refine sp_iload_n (p2 := 19) rfl rfl rfl ?_
        refine sp_iconst (p2 := 20) (x := (-1)) rfl rfl (by decide) ?_
        refine st_iast (i := 49) rfl rfl (ia_ne (by decide) g_49) rfl ?_
        show Ev _ _ _ (21, [(3, .ref 28), (0, .ref 17), (1, .ref 53), (2, .int 0)], [], ((g.set 48 (.inl (0, .inl ((([0, 0, 0, 0] : List Int32)).set 0 0)))).set 49 (.inl (0, .inl (([s1, s2, s3, s4]).set 0 (-1)))))) _
        refine sp_iconst (p2 := 22) (x := 0) rfl rfl (by decide) ?_
        refine sp_istore (p2 := 24) (lv2 := [(4, .int 0), (3, .ref 28), (0, .ref 17), (1, .ref 53), (2, .int 0)]) rfl rfl (by decide) rfl ?_
        refine sp_iconst (p2 := 25) (x := 0) rfl rfl (by decide) ?_
        refine sp_istore (p2 := 27) (lv2 := [(5, .int 0), (4, .int 0), (3, .ref 28), (0, .ref 17), (1, .ref 53), (2, .int 0)]) rfl rfl (by decide) rfl ?_
        refine sp_iload (p2 := 29) rfl rfl rfl ?_
        refine sp_aload_n (p2 := 30) rfl rfl rfl ?_
        refine st_get rfl (ob_ne (by decide) (ob_ne (by decide) g_12)) rfl ?_
        show Ev _ _ _ (33, _, _, _) _
        refine st_icmp (b := true) rfl (by decide) ?_
        show Ev _ _ _ (85, _, _, _) _
        refine sp_iload (p2 := 87) rfl rfl rfl ?_
        refine sp_aload_n (p2 := 88) rfl rfl rfl ?_
        refine st_get rfl (ob_ne (by decide) (ob_ne (by decide) g_37)) rfl ?_
        show Ev _ _ _ (91, _, _, _) _
        refine sp_aload_n (p2 := 92) rfl rfl rfl ?_
        refine st_get rfl (ob_ne (by decide) (ob_ne (by decide) g_12)) rfl ?_
        show Ev _ _ _ (95, _, _, _) _
        refine st_iald (x := 0) rfl (by decide) (ia_ne (by decide) (ia_ne (by decide) g_39)) rfl rfl ?_
        show Ev _ _ _ (96, _, _, _) _
        refine sp_min (p2 := 99) (z := 0) rfl rfl rfl (by decide) ?_
        refine sp_istore (p2 := 101) (lv2 := [(5, .int 0), (4, .int 0), (3, .ref 28), (0, .ref 17), (1, .ref 53), (2, .int 0)]) rfl rfl (by decide) rfl ?_
        refine sp_iload (p2 := 103) rfl rfl rfl ?_
        refine st_ifc (b := true) rfl (by decide) ?_
        show Ev _ _ _ (122, _, _, _) _
        exact sp_vret rfl rfl
      refine st_callV (R := 17) rfl rfl rfl g_1 rfl c1 ?_
      show Ev _ _ _ (13, [(2, .int 0), (0, .ref 17), (1, .ref 53)], [], ((g.set 48 (.inl (0, .inl ((([0, 0, 0, 0] : List Int32)).set 0 0)))).set 49 (.inl (0, .inl (([s1, s2, s3, s4]).set 0 (-1)))))) _
      refine sp_iinc (p2 := 16) (y := 1) (lv2 := [(2, .int 1), (0, .ref 17), (1, .ref 53)]) rfl rfl (by decide) rfl (by decide) rfl ?_
      refine sp_goto rfl ?_
      refine sp_iload_n (p2 := 3) rfl rfl rfl ?_
      refine sp_iconst (p2 := 4) (x := 4) rfl rfl (by decide) ?_
      refine st_icmp (b := false) rfl (by decide) ?_
      show Ev _ _ _ (7, _, _, _) _
      refine sp_aload_n (p2 := 8) rfl rfl rfl ?_
      refine sp_aload_n (p2 := 9) rfl rfl rfl ?_
      refine sp_iload_n (p2 := 10) rfl rfl rfl ?_
      have c2 : Ca 18 8 [.ref 17, .ref 53, .int 1] ((g.set 48 (.inl (0, .inl ((([0, 0, 0, 0] : List Int32)).set 0 0)))).set 49 (.inl (0, .inl (([s1, s2, s3, s4]).set 0 (-1))))) (none, ((((g.set 48 (.inl (0, .inl ((([0, 0, 0, 0] : List Int32)).set 0 0)))).set 49 (.inl (0, .inl (([s1, s2, s3, s4]).set 0 (-1))))).set 48 (.inl (0, .inl (((([0, 0, 0, 0] : List Int32)).set 0 0).set 1 0)))).set 49 (.inl (0, .inl ((([s1, s2, s3, s4]).set 0 (-1)).set 1 (-1)))))) := by
        refine ca_of (d := 17) (M := mX0_workRow) rfl (Nat.le_of_ble_eq_true rfl) ?_
        show Ev im_K0 17 mX0_workRow (0, [(0, .ref 17), (1, .ref 53), (2, .int 1)], [], ((g.set 48 (.inl (0, .inl ((([0, 0, 0, 0] : List Int32)).set 0 0)))).set 49 (.inl (0, .inl (([s1, s2, s3, s4]).set 0 (-1)))))) _
        refine sp_aload_n (p2 := 1) rfl rfl rfl ?_
        refine st_get rfl (ob_ne (by decide) (ob_ne (by decide) g_1)) rfl ?_
        show Ev _ _ _ (4, _, _, _) _
        refine sp_iload_n (p2 := 5) rfl rfl rfl ?_
        refine st_aald (v := .ref 30) rfl (qa_ne (by decide) (qa_ne (by decide) g_7)) (by decide) rfl ?_
        show Ev _ _ _ (6, _, _, _) _
        refine sp_astore_n (p2 := 7) (lv2 := [(3, .ref 30), (0, .ref 17), (1, .ref 53), (2, .int 1)]) rfl rfl (by decide) rfl ?_
        refine sp_aload_n (p2 := 8) rfl rfl rfl ?_
        refine st_get rfl (ob_ne (by decide) (ob_ne (by decide) g_37)) rfl ?_
        show Ev _ _ _ (11, _, _, _) _
        refine sp_iload_n (p2 := 12) rfl rfl rfl ?_
        refine sp_iconst (p2 := 13) (x := 0) rfl rfl (by decide) ?_
        refine st_iast (i := 48) rfl rfl (ia_ne (by decide) (ia_eq2 g_len (by decide))) rfl ?_
        show Ev _ _ _ (14, [(3, .ref 30), (0, .ref 17), (1, .ref 53), (2, .int 1)], [], (((g.set 48 (.inl (0, .inl ((([0, 0, 0, 0] : List Int32)).set 0 0)))).set 49 (.inl (0, .inl (([s1, s2, s3, s4]).set 0 (-1))))).set 48 (.inl (0, .inl (((([0, 0, 0, 0] : List Int32)).set 0 0).set 1 0))))) _
        refine sp_aload_n (p2 := 15) rfl rfl rfl ?_
        refine st_get rfl (ob_ne (by decide) (ob_ne (by decide) (ob_ne (by decide) g_37))) rfl ?_
        show Ev _ _ _ (18, _, _, _) _
        refine sp_iload_n (p2 := 19) rfl rfl rfl ?_
        refine sp_iconst (p2 := 20) (x := (-1)) rfl rfl (by decide) ?_
        refine st_iast (i := 49) rfl rfl (ia_ne (by decide) (ia_eq2 (sl_len g_len) (by decide))) rfl ?_
        show Ev _ _ _ (21, [(3, .ref 30), (0, .ref 17), (1, .ref 53), (2, .int 1)], [], ((((g.set 48 (.inl (0, .inl ((([0, 0, 0, 0] : List Int32)).set 0 0)))).set 49 (.inl (0, .inl (([s1, s2, s3, s4]).set 0 (-1))))).set 48 (.inl (0, .inl (((([0, 0, 0, 0] : List Int32)).set 0 0).set 1 0)))).set 49 (.inl (0, .inl ((([s1, s2, s3, s4]).set 0 (-1)).set 1 (-1)))))) _
        refine sp_iconst (p2 := 22) (x := 0) rfl rfl (by decide) ?_
        refine sp_istore (p2 := 24) (lv2 := [(4, .int 0), (3, .ref 30), (0, .ref 17), (1, .ref 53), (2, .int 1)]) rfl rfl (by decide) rfl ?_
        refine sp_iconst (p2 := 25) (x := 0) rfl rfl (by decide) ?_
        refine sp_istore (p2 := 27) (lv2 := [(5, .int 0), (4, .int 0), (3, .ref 30), (0, .ref 17), (1, .ref 53), (2, .int 1)]) rfl rfl (by decide) rfl ?_
        refine sp_iload (p2 := 29) rfl rfl rfl ?_
        refine sp_aload_n (p2 := 30) rfl rfl rfl ?_
        refine st_get rfl (ob_ne (by decide) (ob_ne (by decide) (ob_ne (by decide) (ob_ne (by decide) g_14)))) rfl ?_
        show Ev _ _ _ (33, _, _, _) _
        refine st_icmp (b := true) rfl (by decide) ?_
        show Ev _ _ _ (85, _, _, _) _
        refine sp_iload (p2 := 87) rfl rfl rfl ?_
        refine sp_aload_n (p2 := 88) rfl rfl rfl ?_
        refine st_get rfl (ob_ne (by decide) (ob_ne (by decide) (ob_ne (by decide) (ob_ne (by decide) g_37)))) rfl ?_
        show Ev _ _ _ (91, _, _, _) _
        refine sp_aload_n (p2 := 92) rfl rfl rfl ?_
        refine st_get rfl (ob_ne (by decide) (ob_ne (by decide) (ob_ne (by decide) (ob_ne (by decide) g_14)))) rfl ?_
        show Ev _ _ _ (95, _, _, _) _
        refine st_iald (x := 0) rfl (by decide) (ia_ne (by decide) (ia_ne (by decide) (ia_ne (by decide) (ia_ne (by decide) g_39)))) rfl rfl ?_
        show Ev _ _ _ (96, _, _, _) _
        refine sp_min (p2 := 99) (z := 0) rfl rfl rfl (by decide) ?_
        refine sp_istore (p2 := 101) (lv2 := [(5, .int 0), (4, .int 0), (3, .ref 30), (0, .ref 17), (1, .ref 53), (2, .int 1)]) rfl rfl (by decide) rfl ?_
        refine sp_iload (p2 := 103) rfl rfl rfl ?_
        refine st_ifc (b := true) rfl (by decide) ?_
        show Ev _ _ _ (122, _, _, _) _
        exact sp_vret rfl rfl
      refine st_callV (R := 17) rfl rfl rfl (ob_ne (by decide) (ob_ne (by decide) g_1)) rfl c2 ?_
      show Ev _ _ _ (13, [(2, .int 1), (0, .ref 17), (1, .ref 53)], [], ((((g.set 48 (.inl (0, .inl ((([0, 0, 0, 0] : List Int32)).set 0 0)))).set 49 (.inl (0, .inl (([s1, s2, s3, s4]).set 0 (-1))))).set 48 (.inl (0, .inl (((([0, 0, 0, 0] : List Int32)).set 0 0).set 1 0)))).set 49 (.inl (0, .inl ((([s1, s2, s3, s4]).set 0 (-1)).set 1 (-1)))))) _
      refine sp_iinc (p2 := 16) (y := 2) (lv2 := [(2, .int 2), (0, .ref 17), (1, .ref 53)]) rfl rfl (by decide) rfl (by decide) rfl ?_
      refine sp_goto rfl ?_
      refine sp_iload_n (p2 := 3) rfl rfl rfl ?_
      refine sp_iconst (p2 := 4) (x := 4) rfl rfl (by decide) ?_
      refine st_icmp (b := false) rfl (by decide) ?_
      show Ev _ _ _ (7, _, _, _) _
      refine sp_aload_n (p2 := 8) rfl rfl rfl ?_
      refine sp_aload_n (p2 := 9) rfl rfl rfl ?_
      refine sp_iload_n (p2 := 10) rfl rfl rfl ?_
      have c3 : Ca 18 8 [.ref 17, .ref 53, .int 2] ((((g.set 48 (.inl (0, .inl ((([0, 0, 0, 0] : List Int32)).set 0 0)))).set 49 (.inl (0, .inl (([s1, s2, s3, s4]).set 0 (-1))))).set 48 (.inl (0, .inl (((([0, 0, 0, 0] : List Int32)).set 0 0).set 1 0)))).set 49 (.inl (0, .inl ((([s1, s2, s3, s4]).set 0 (-1)).set 1 (-1))))) (none, ((((((g.set 48 (.inl (0, .inl ((([0, 0, 0, 0] : List Int32)).set 0 0)))).set 49 (.inl (0, .inl (([s1, s2, s3, s4]).set 0 (-1))))).set 48 (.inl (0, .inl (((([0, 0, 0, 0] : List Int32)).set 0 0).set 1 0)))).set 49 (.inl (0, .inl ((([s1, s2, s3, s4]).set 0 (-1)).set 1 (-1))))).set 48 (.inl (0, .inl ((((([0, 0, 0, 0] : List Int32)).set 0 0).set 1 0).set 2 0)))).set 49 (.inl (0, .inl (((([s1, s2, s3, s4]).set 0 (-1)).set 1 (-1)).set 2 (-1)))))) := by
        refine ca_of (d := 17) (M := mX0_workRow) rfl (Nat.le_of_ble_eq_true rfl) ?_
        show Ev im_K0 17 mX0_workRow (0, [(0, .ref 17), (1, .ref 53), (2, .int 2)], [], ((((g.set 48 (.inl (0, .inl ((([0, 0, 0, 0] : List Int32)).set 0 0)))).set 49 (.inl (0, .inl (([s1, s2, s3, s4]).set 0 (-1))))).set 48 (.inl (0, .inl (((([0, 0, 0, 0] : List Int32)).set 0 0).set 1 0)))).set 49 (.inl (0, .inl ((([s1, s2, s3, s4]).set 0 (-1)).set 1 (-1)))))) _
        refine sp_aload_n (p2 := 1) rfl rfl rfl ?_
        refine st_get rfl (ob_ne (by decide) (ob_ne (by decide) (ob_ne (by decide) (ob_ne (by decide) g_1)))) rfl ?_
        show Ev _ _ _ (4, _, _, _) _
        refine sp_iload_n (p2 := 5) rfl rfl rfl ?_
        refine st_aald (v := .ref 32) rfl (qa_ne (by decide) (qa_ne (by decide) (qa_ne (by decide) (qa_ne (by decide) g_7)))) (by decide) rfl ?_
        show Ev _ _ _ (6, _, _, _) _
        refine sp_astore_n (p2 := 7) (lv2 := [(3, .ref 32), (0, .ref 17), (1, .ref 53), (2, .int 2)]) rfl rfl (by decide) rfl ?_
        refine sp_aload_n (p2 := 8) rfl rfl rfl ?_
        refine st_get rfl (ob_ne (by decide) (ob_ne (by decide) (ob_ne (by decide) (ob_ne (by decide) g_37)))) rfl ?_
        show Ev _ _ _ (11, _, _, _) _
        refine sp_iload_n (p2 := 12) rfl rfl rfl ?_
        refine sp_iconst (p2 := 13) (x := 0) rfl rfl (by decide) ?_
        refine st_iast (i := 48) rfl rfl (ia_ne (by decide) (ia_eq2 (sl_len (sl_len g_len)) (by decide))) rfl ?_
        show Ev _ _ _ (14, [(3, .ref 32), (0, .ref 17), (1, .ref 53), (2, .int 2)], [], (((((g.set 48 (.inl (0, .inl ((([0, 0, 0, 0] : List Int32)).set 0 0)))).set 49 (.inl (0, .inl (([s1, s2, s3, s4]).set 0 (-1))))).set 48 (.inl (0, .inl (((([0, 0, 0, 0] : List Int32)).set 0 0).set 1 0)))).set 49 (.inl (0, .inl ((([s1, s2, s3, s4]).set 0 (-1)).set 1 (-1))))).set 48 (.inl (0, .inl ((((([0, 0, 0, 0] : List Int32)).set 0 0).set 1 0).set 2 0))))) _
        refine sp_aload_n (p2 := 15) rfl rfl rfl ?_
        refine st_get rfl (ob_ne (by decide) (ob_ne (by decide) (ob_ne (by decide) (ob_ne (by decide) (ob_ne (by decide) g_37))))) rfl ?_
        show Ev _ _ _ (18, _, _, _) _
        refine sp_iload_n (p2 := 19) rfl rfl rfl ?_
        refine sp_iconst (p2 := 20) (x := (-1)) rfl rfl (by decide) ?_
        refine st_iast (i := 49) rfl rfl (ia_ne (by decide) (ia_eq2 (sl_len (sl_len (sl_len g_len))) (by decide))) rfl ?_
        show Ev _ _ _ (21, [(3, .ref 32), (0, .ref 17), (1, .ref 53), (2, .int 2)], [], ((((((g.set 48 (.inl (0, .inl ((([0, 0, 0, 0] : List Int32)).set 0 0)))).set 49 (.inl (0, .inl (([s1, s2, s3, s4]).set 0 (-1))))).set 48 (.inl (0, .inl (((([0, 0, 0, 0] : List Int32)).set 0 0).set 1 0)))).set 49 (.inl (0, .inl ((([s1, s2, s3, s4]).set 0 (-1)).set 1 (-1))))).set 48 (.inl (0, .inl ((((([0, 0, 0, 0] : List Int32)).set 0 0).set 1 0).set 2 0)))).set 49 (.inl (0, .inl (((([s1, s2, s3, s4]).set 0 (-1)).set 1 (-1)).set 2 (-1)))))) _
        refine sp_iconst (p2 := 22) (x := 0) rfl rfl (by decide) ?_
        refine sp_istore (p2 := 24) (lv2 := [(4, .int 0), (3, .ref 32), (0, .ref 17), (1, .ref 53), (2, .int 2)]) rfl rfl (by decide) rfl ?_
        refine sp_iconst (p2 := 25) (x := 0) rfl rfl (by decide) ?_
        refine sp_istore (p2 := 27) (lv2 := [(5, .int 0), (4, .int 0), (3, .ref 32), (0, .ref 17), (1, .ref 53), (2, .int 2)]) rfl rfl (by decide) rfl ?_
        refine sp_iload (p2 := 29) rfl rfl rfl ?_
        refine sp_aload_n (p2 := 30) rfl rfl rfl ?_
        refine st_get rfl (ob_ne (by decide) (ob_ne (by decide) (ob_ne (by decide) (ob_ne (by decide) (ob_ne (by decide) (ob_ne (by decide) g_16)))))) rfl ?_
        show Ev _ _ _ (33, _, _, _) _
        refine st_icmp (b := true) rfl (by decide) ?_
        show Ev _ _ _ (85, _, _, _) _
        refine sp_iload (p2 := 87) rfl rfl rfl ?_
        refine sp_aload_n (p2 := 88) rfl rfl rfl ?_
        refine st_get rfl (ob_ne (by decide) (ob_ne (by decide) (ob_ne (by decide) (ob_ne (by decide) (ob_ne (by decide) (ob_ne (by decide) g_37)))))) rfl ?_
        show Ev _ _ _ (91, _, _, _) _
        refine sp_aload_n (p2 := 92) rfl rfl rfl ?_
        refine st_get rfl (ob_ne (by decide) (ob_ne (by decide) (ob_ne (by decide) (ob_ne (by decide) (ob_ne (by decide) (ob_ne (by decide) g_16)))))) rfl ?_
        show Ev _ _ _ (95, _, _, _) _
        refine st_iald (x := 0) rfl (by decide) (ia_ne (by decide) (ia_ne (by decide) (ia_ne (by decide) (ia_ne (by decide) (ia_ne (by decide) (ia_ne (by decide) g_39)))))) rfl rfl ?_
        show Ev _ _ _ (96, _, _, _) _
        refine sp_min (p2 := 99) (z := 0) rfl rfl rfl (by decide) ?_
        refine sp_istore (p2 := 101) (lv2 := [(5, .int 0), (4, .int 0), (3, .ref 32), (0, .ref 17), (1, .ref 53), (2, .int 2)]) rfl rfl (by decide) rfl ?_
        refine sp_iload (p2 := 103) rfl rfl rfl ?_
        refine st_ifc (b := true) rfl (by decide) ?_
        show Ev _ _ _ (122, _, _, _) _
        exact sp_vret rfl rfl
      refine st_callV (R := 17) rfl rfl rfl (ob_ne (by decide) (ob_ne (by decide) (ob_ne (by decide) (ob_ne (by decide) g_1)))) rfl c3 ?_
      show Ev _ _ _ (13, [(2, .int 2), (0, .ref 17), (1, .ref 53)], [], ((((((g.set 48 (.inl (0, .inl ((([0, 0, 0, 0] : List Int32)).set 0 0)))).set 49 (.inl (0, .inl (([s1, s2, s3, s4]).set 0 (-1))))).set 48 (.inl (0, .inl (((([0, 0, 0, 0] : List Int32)).set 0 0).set 1 0)))).set 49 (.inl (0, .inl ((([s1, s2, s3, s4]).set 0 (-1)).set 1 (-1))))).set 48 (.inl (0, .inl ((((([0, 0, 0, 0] : List Int32)).set 0 0).set 1 0).set 2 0)))).set 49 (.inl (0, .inl (((([s1, s2, s3, s4]).set 0 (-1)).set 1 (-1)).set 2 (-1)))))) _
      refine sp_iinc (p2 := 16) (y := 3) (lv2 := [(2, .int 3), (0, .ref 17), (1, .ref 53)]) rfl rfl (by decide) rfl (by decide) rfl ?_
      refine sp_goto rfl ?_
      refine sp_iload_n (p2 := 3) rfl rfl rfl ?_
      refine sp_iconst (p2 := 4) (x := 4) rfl rfl (by decide) ?_
      refine st_icmp (b := false) rfl (by decide) ?_
      show Ev _ _ _ (7, _, _, _) _
      refine sp_aload_n (p2 := 8) rfl rfl rfl ?_
      refine sp_aload_n (p2 := 9) rfl rfl rfl ?_
      refine sp_iload_n (p2 := 10) rfl rfl rfl ?_
      have c4 : Ca 18 8 [.ref 17, .ref 53, .int 3] ((((((g.set 48 (.inl (0, .inl ((([0, 0, 0, 0] : List Int32)).set 0 0)))).set 49 (.inl (0, .inl (([s1, s2, s3, s4]).set 0 (-1))))).set 48 (.inl (0, .inl (((([0, 0, 0, 0] : List Int32)).set 0 0).set 1 0)))).set 49 (.inl (0, .inl ((([s1, s2, s3, s4]).set 0 (-1)).set 1 (-1))))).set 48 (.inl (0, .inl ((((([0, 0, 0, 0] : List Int32)).set 0 0).set 1 0).set 2 0)))).set 49 (.inl (0, .inl (((([s1, s2, s3, s4]).set 0 (-1)).set 1 (-1)).set 2 (-1))))) (none, ((((((((g.set 48 (.inl (0, .inl ((([0, 0, 0, 0] : List Int32)).set 0 0)))).set 49 (.inl (0, .inl (([s1, s2, s3, s4]).set 0 (-1))))).set 48 (.inl (0, .inl (((([0, 0, 0, 0] : List Int32)).set 0 0).set 1 0)))).set 49 (.inl (0, .inl ((([s1, s2, s3, s4]).set 0 (-1)).set 1 (-1))))).set 48 (.inl (0, .inl ((((([0, 0, 0, 0] : List Int32)).set 0 0).set 1 0).set 2 0)))).set 49 (.inl (0, .inl (((([s1, s2, s3, s4]).set 0 (-1)).set 1 (-1)).set 2 (-1))))).set 48 (.inl (0, .inl (((((([0, 0, 0, 0] : List Int32)).set 0 0).set 1 0).set 2 0).set 3 0)))).set 49 (.inl (0, .inl ((((([s1, s2, s3, s4]).set 0 (-1)).set 1 (-1)).set 2 (-1)).set 3 (-1)))))) := by
        refine ca_of (d := 17) (M := mX0_workRow) rfl (Nat.le_of_ble_eq_true rfl) ?_
        show Ev im_K0 17 mX0_workRow (0, [(0, .ref 17), (1, .ref 53), (2, .int 3)], [], ((((((g.set 48 (.inl (0, .inl ((([0, 0, 0, 0] : List Int32)).set 0 0)))).set 49 (.inl (0, .inl (([s1, s2, s3, s4]).set 0 (-1))))).set 48 (.inl (0, .inl (((([0, 0, 0, 0] : List Int32)).set 0 0).set 1 0)))).set 49 (.inl (0, .inl ((([s1, s2, s3, s4]).set 0 (-1)).set 1 (-1))))).set 48 (.inl (0, .inl ((((([0, 0, 0, 0] : List Int32)).set 0 0).set 1 0).set 2 0)))).set 49 (.inl (0, .inl (((([s1, s2, s3, s4]).set 0 (-1)).set 1 (-1)).set 2 (-1)))))) _
        refine sp_aload_n (p2 := 1) rfl rfl rfl ?_
        refine st_get rfl (ob_ne (by decide) (ob_ne (by decide) (ob_ne (by decide) (ob_ne (by decide) (ob_ne (by decide) (ob_ne (by decide) g_1)))))) rfl ?_
        show Ev _ _ _ (4, _, _, _) _
        refine sp_iload_n (p2 := 5) rfl rfl rfl ?_
        refine st_aald (v := .ref 34) rfl (qa_ne (by decide) (qa_ne (by decide) (qa_ne (by decide) (qa_ne (by decide) (qa_ne (by decide) (qa_ne (by decide) g_7)))))) (by decide) rfl ?_
        show Ev _ _ _ (6, _, _, _) _
        refine sp_astore_n (p2 := 7) (lv2 := [(3, .ref 34), (0, .ref 17), (1, .ref 53), (2, .int 3)]) rfl rfl (by decide) rfl ?_
        refine sp_aload_n (p2 := 8) rfl rfl rfl ?_
        refine st_get rfl (ob_ne (by decide) (ob_ne (by decide) (ob_ne (by decide) (ob_ne (by decide) (ob_ne (by decide) (ob_ne (by decide) g_37)))))) rfl ?_
        show Ev _ _ _ (11, _, _, _) _
        refine sp_iload_n (p2 := 12) rfl rfl rfl ?_
        refine sp_iconst (p2 := 13) (x := 0) rfl rfl (by decide) ?_
        refine st_iast (i := 48) rfl rfl (ia_ne (by decide) (ia_eq2 (sl_len (sl_len (sl_len (sl_len g_len)))) (by decide))) rfl ?_
        show Ev _ _ _ (14, [(3, .ref 34), (0, .ref 17), (1, .ref 53), (2, .int 3)], [], (((((((g.set 48 (.inl (0, .inl ((([0, 0, 0, 0] : List Int32)).set 0 0)))).set 49 (.inl (0, .inl (([s1, s2, s3, s4]).set 0 (-1))))).set 48 (.inl (0, .inl (((([0, 0, 0, 0] : List Int32)).set 0 0).set 1 0)))).set 49 (.inl (0, .inl ((([s1, s2, s3, s4]).set 0 (-1)).set 1 (-1))))).set 48 (.inl (0, .inl ((((([0, 0, 0, 0] : List Int32)).set 0 0).set 1 0).set 2 0)))).set 49 (.inl (0, .inl (((([s1, s2, s3, s4]).set 0 (-1)).set 1 (-1)).set 2 (-1))))).set 48 (.inl (0, .inl (((((([0, 0, 0, 0] : List Int32)).set 0 0).set 1 0).set 2 0).set 3 0))))) _
        refine sp_aload_n (p2 := 15) rfl rfl rfl ?_
        refine st_get rfl (ob_ne (by decide) (ob_ne (by decide) (ob_ne (by decide) (ob_ne (by decide) (ob_ne (by decide) (ob_ne (by decide) (ob_ne (by decide) g_37))))))) rfl ?_
        show Ev _ _ _ (18, _, _, _) _
        refine sp_iload_n (p2 := 19) rfl rfl rfl ?_
        refine sp_iconst (p2 := 20) (x := (-1)) rfl rfl (by decide) ?_
        refine st_iast (i := 49) rfl rfl (ia_ne (by decide) (ia_eq2 (sl_len (sl_len (sl_len (sl_len (sl_len g_len))))) (by decide))) rfl ?_
        show Ev _ _ _ (21, [(3, .ref 34), (0, .ref 17), (1, .ref 53), (2, .int 3)], [], ((((((((g.set 48 (.inl (0, .inl ((([0, 0, 0, 0] : List Int32)).set 0 0)))).set 49 (.inl (0, .inl (([s1, s2, s3, s4]).set 0 (-1))))).set 48 (.inl (0, .inl (((([0, 0, 0, 0] : List Int32)).set 0 0).set 1 0)))).set 49 (.inl (0, .inl ((([s1, s2, s3, s4]).set 0 (-1)).set 1 (-1))))).set 48 (.inl (0, .inl ((((([0, 0, 0, 0] : List Int32)).set 0 0).set 1 0).set 2 0)))).set 49 (.inl (0, .inl (((([s1, s2, s3, s4]).set 0 (-1)).set 1 (-1)).set 2 (-1))))).set 48 (.inl (0, .inl (((((([0, 0, 0, 0] : List Int32)).set 0 0).set 1 0).set 2 0).set 3 0)))).set 49 (.inl (0, .inl ((((([s1, s2, s3, s4]).set 0 (-1)).set 1 (-1)).set 2 (-1)).set 3 (-1)))))) _
        refine sp_iconst (p2 := 22) (x := 0) rfl rfl (by decide) ?_
        refine sp_istore (p2 := 24) (lv2 := [(4, .int 0), (3, .ref 34), (0, .ref 17), (1, .ref 53), (2, .int 3)]) rfl rfl (by decide) rfl ?_
        refine sp_iconst (p2 := 25) (x := 0) rfl rfl (by decide) ?_
        refine sp_istore (p2 := 27) (lv2 := [(5, .int 0), (4, .int 0), (3, .ref 34), (0, .ref 17), (1, .ref 53), (2, .int 3)]) rfl rfl (by decide) rfl ?_
        refine sp_iload (p2 := 29) rfl rfl rfl ?_
        refine sp_aload_n (p2 := 30) rfl rfl rfl ?_
        refine st_get rfl (ob_ne (by decide) (ob_ne (by decide) (ob_ne (by decide) (ob_ne (by decide) (ob_ne (by decide) (ob_ne (by decide) (ob_ne (by decide) (ob_ne (by decide) g_18)))))))) rfl ?_
        show Ev _ _ _ (33, _, _, _) _
        refine st_icmp (b := true) rfl (by decide) ?_
        show Ev _ _ _ (85, _, _, _) _
        refine sp_iload (p2 := 87) rfl rfl rfl ?_
        refine sp_aload_n (p2 := 88) rfl rfl rfl ?_
        refine st_get rfl (ob_ne (by decide) (ob_ne (by decide) (ob_ne (by decide) (ob_ne (by decide) (ob_ne (by decide) (ob_ne (by decide) (ob_ne (by decide) (ob_ne (by decide) g_37)))))))) rfl ?_
        show Ev _ _ _ (91, _, _, _) _
        refine sp_aload_n (p2 := 92) rfl rfl rfl ?_
        refine st_get rfl (ob_ne (by decide) (ob_ne (by decide) (ob_ne (by decide) (ob_ne (by decide) (ob_ne (by decide) (ob_ne (by decide) (ob_ne (by decide) (ob_ne (by decide) g_18)))))))) rfl ?_
        show Ev _ _ _ (95, _, _, _) _
        refine st_iald (x := 0) rfl (by decide) (ia_ne (by decide) (ia_ne (by decide) (ia_ne (by decide) (ia_ne (by decide) (ia_ne (by decide) (ia_ne (by decide) (ia_ne (by decide) (ia_ne (by decide) g_39)))))))) rfl rfl ?_
        show Ev _ _ _ (96, _, _, _) _
        refine sp_min (p2 := 99) (z := 0) rfl rfl rfl (by decide) ?_
        refine sp_istore (p2 := 101) (lv2 := [(5, .int 0), (4, .int 0), (3, .ref 34), (0, .ref 17), (1, .ref 53), (2, .int 3)]) rfl rfl (by decide) rfl ?_
        refine sp_iload (p2 := 103) rfl rfl rfl ?_
        refine st_ifc (b := true) rfl (by decide) ?_
        show Ev _ _ _ (122, _, _, _) _
        exact sp_vret rfl rfl
      refine st_callV (R := 17) rfl rfl rfl (ob_ne (by decide) (ob_ne (by decide) (ob_ne (by decide) (ob_ne (by decide) (ob_ne (by decide) (ob_ne (by decide) g_1)))))) rfl c4 ?_
      show Ev _ _ _ (13, [(2, .int 3), (0, .ref 17), (1, .ref 53)], [], ((((((((g.set 48 (.inl (0, .inl ((([0, 0, 0, 0] : List Int32)).set 0 0)))).set 49 (.inl (0, .inl (([s1, s2, s3, s4]).set 0 (-1))))).set 48 (.inl (0, .inl (((([0, 0, 0, 0] : List Int32)).set 0 0).set 1 0)))).set 49 (.inl (0, .inl ((([s1, s2, s3, s4]).set 0 (-1)).set 1 (-1))))).set 48 (.inl (0, .inl ((((([0, 0, 0, 0] : List Int32)).set 0 0).set 1 0).set 2 0)))).set 49 (.inl (0, .inl (((([s1, s2, s3, s4]).set 0 (-1)).set 1 (-1)).set 2 (-1))))).set 48 (.inl (0, .inl (((((([0, 0, 0, 0] : List Int32)).set 0 0).set 1 0).set 2 0).set 3 0)))).set 49 (.inl (0, .inl ((((([s1, s2, s3, s4]).set 0 (-1)).set 1 (-1)).set 2 (-1)).set 3 (-1)))))) _
      refine sp_iinc (p2 := 16) (y := 4) (lv2 := [(2, .int 4), (0, .ref 17), (1, .ref 53)]) rfl rfl (by decide) rfl (by decide) rfl ?_
      refine sp_goto rfl ?_
      refine sp_iload_n (p2 := 3) rfl rfl rfl ?_
      refine sp_iconst (p2 := 4) (x := 4) rfl rfl (by decide) ?_
      refine st_icmp (b := true) rfl (by decide) ?_
      show Ev _ _ _ (19, _, _, _) _
      refine sp_iconst (p2 := 20) (x := 0) rfl rfl (by decide) ?_
      refine sp_istore_n (p2 := 21) (lv2 := [(2, .int 0), (0, .ref 17), (1, .ref 53)]) rfl rfl (by decide) rfl ?_
      refine sp_iload_n (p2 := 22) rfl rfl rfl ?_
      refine sp_iconst (p2 := 23) (x := 3) rfl rfl (by decide) ?_
      refine st_icmp (b := false) rfl (by decide) ?_
      show Ev _ _ _ (26, _, _, _) _
      refine sp_aload_n (p2 := 27) rfl rfl rfl ?_
      refine sp_aload_n (p2 := 28) rfl rfl rfl ?_
      refine sp_iload_n (p2 := 29) rfl rfl rfl ?_
      have c5 : Ca 18 11 [.ref 17, .ref 53, .int 0] ((((((((g.set 48 (.inl (0, .inl ((([0, 0, 0, 0] : List Int32)).set 0 0)))).set 49 (.inl (0, .inl (([s1, s2, s3, s4]).set 0 (-1))))).set 48 (.inl (0, .inl (((([0, 0, 0, 0] : List Int32)).set 0 0).set 1 0)))).set 49 (.inl (0, .inl ((([s1, s2, s3, s4]).set 0 (-1)).set 1 (-1))))).set 48 (.inl (0, .inl ((((([0, 0, 0, 0] : List Int32)).set 0 0).set 1 0).set 2 0)))).set 49 (.inl (0, .inl (((([s1, s2, s3, s4]).set 0 (-1)).set 1 (-1)).set 2 (-1))))).set 48 (.inl (0, .inl (((((([0, 0, 0, 0] : List Int32)).set 0 0).set 1 0).set 2 0).set 3 0)))).set 49 (.inl (0, .inl ((((([s1, s2, s3, s4]).set 0 (-1)).set 1 (-1)).set 2 (-1)).set 3 (-1))))) (none, (((((((((g.set 48 (.inl (0, .inl ((([0, 0, 0, 0] : List Int32)).set 0 0)))).set 49 (.inl (0, .inl (([s1, s2, s3, s4]).set 0 (-1))))).set 48 (.inl (0, .inl (((([0, 0, 0, 0] : List Int32)).set 0 0).set 1 0)))).set 49 (.inl (0, .inl ((([s1, s2, s3, s4]).set 0 (-1)).set 1 (-1))))).set 48 (.inl (0, .inl ((((([0, 0, 0, 0] : List Int32)).set 0 0).set 1 0).set 2 0)))).set 49 (.inl (0, .inl (((([s1, s2, s3, s4]).set 0 (-1)).set 1 (-1)).set 2 (-1))))).set 48 (.inl (0, .inl (((((([0, 0, 0, 0] : List Int32)).set 0 0).set 1 0).set 2 0).set 3 0)))).set 49 (.inl (0, .inl ((((([s1, s2, s3, s4]).set 0 (-1)).set 1 (-1)).set 2 (-1)).set 3 (-1))))).set 50 (.inl (0, .inl ((([0, 0, 0] : List Int32)).set 0 0))))) := by
        refine ca_of (d := 17) (M := mX0_driveRail) rfl (Nat.le_of_ble_eq_true rfl) ?_
        show Ev im_K0 17 mX0_driveRail (0, [(0, .ref 17), (1, .ref 53), (2, .int 0)], [], ((((((((g.set 48 (.inl (0, .inl ((([0, 0, 0, 0] : List Int32)).set 0 0)))).set 49 (.inl (0, .inl (([s1, s2, s3, s4]).set 0 (-1))))).set 48 (.inl (0, .inl (((([0, 0, 0, 0] : List Int32)).set 0 0).set 1 0)))).set 49 (.inl (0, .inl ((([s1, s2, s3, s4]).set 0 (-1)).set 1 (-1))))).set 48 (.inl (0, .inl ((((([0, 0, 0, 0] : List Int32)).set 0 0).set 1 0).set 2 0)))).set 49 (.inl (0, .inl (((([s1, s2, s3, s4]).set 0 (-1)).set 1 (-1)).set 2 (-1))))).set 48 (.inl (0, .inl (((((([0, 0, 0, 0] : List Int32)).set 0 0).set 1 0).set 2 0).set 3 0)))).set 49 (.inl (0, .inl ((((([s1, s2, s3, s4]).set 0 (-1)).set 1 (-1)).set 2 (-1)).set 3 (-1)))))) _
        refine sp_aload_n (p2 := 1) rfl rfl rfl ?_
        refine st_get rfl (ob_ne (by decide) (ob_ne (by decide) (ob_ne (by decide) (ob_ne (by decide) (ob_ne (by decide) (ob_ne (by decide) (ob_ne (by decide) (ob_ne (by decide) g_1)))))))) rfl ?_
        show Ev _ _ _ (4, _, _, _) _
        refine sp_iload_n (p2 := 5) rfl rfl rfl ?_
        refine st_aald (v := .ref 36) rfl (qa_ne (by decide) (qa_ne (by decide) (qa_ne (by decide) (qa_ne (by decide) (qa_ne (by decide) (qa_ne (by decide) (qa_ne (by decide) (qa_ne (by decide) g_8)))))))) (by decide) rfl ?_
        show Ev _ _ _ (6, _, _, _) _
        refine sp_astore_n (p2 := 7) (lv2 := [(3, .ref 36), (0, .ref 17), (1, .ref 53), (2, .int 0)]) rfl rfl (by decide) rfl ?_
        refine sp_aload_n (p2 := 8) rfl rfl rfl ?_
        refine st_get rfl (ob_ne (by decide) (ob_ne (by decide) (ob_ne (by decide) (ob_ne (by decide) (ob_ne (by decide) (ob_ne (by decide) (ob_ne (by decide) (ob_ne (by decide) g_37)))))))) rfl ?_
        show Ev _ _ _ (11, _, _, _) _
        refine sp_iload_n (p2 := 12) rfl rfl rfl ?_
        refine sp_iconst (p2 := 13) (x := 0) rfl rfl (by decide) ?_
        refine st_iast (i := 50) rfl rfl (ia_ne (by decide) (ia_ne (by decide) (ia_ne (by decide) (ia_ne (by decide) (ia_ne (by decide) (ia_ne (by decide) (ia_ne (by decide) (ia_ne (by decide) g_50)))))))) rfl ?_
        show Ev _ _ _ (14, [(3, .ref 36), (0, .ref 17), (1, .ref 53), (2, .int 0)], [], (((((((((g.set 48 (.inl (0, .inl ((([0, 0, 0, 0] : List Int32)).set 0 0)))).set 49 (.inl (0, .inl (([s1, s2, s3, s4]).set 0 (-1))))).set 48 (.inl (0, .inl (((([0, 0, 0, 0] : List Int32)).set 0 0).set 1 0)))).set 49 (.inl (0, .inl ((([s1, s2, s3, s4]).set 0 (-1)).set 1 (-1))))).set 48 (.inl (0, .inl ((((([0, 0, 0, 0] : List Int32)).set 0 0).set 1 0).set 2 0)))).set 49 (.inl (0, .inl (((([s1, s2, s3, s4]).set 0 (-1)).set 1 (-1)).set 2 (-1))))).set 48 (.inl (0, .inl (((((([0, 0, 0, 0] : List Int32)).set 0 0).set 1 0).set 2 0).set 3 0)))).set 49 (.inl (0, .inl ((((([s1, s2, s3, s4]).set 0 (-1)).set 1 (-1)).set 2 (-1)).set 3 (-1))))).set 50 (.inl (0, .inl ((([0, 0, 0] : List Int32)).set 0 0))))) _
        refine sp_aload_n (p2 := 15) rfl rfl rfl ?_
        refine st_get rfl (ob_ne (by decide) (ob_ne (by decide) (ob_ne (by decide) (ob_ne (by decide) (ob_ne (by decide) (ob_ne (by decide) (ob_ne (by decide) (ob_ne (by decide) (ob_ne (by decide) g_20))))))))) rfl ?_
        show Ev _ _ _ (18, _, _, _) _
        refine sp_iconst (p2 := 19) (x := 2) rfl rfl (by decide) ?_
        refine st_icmp (b := false) rfl (by decide) ?_
        show Ev _ _ _ (22, _, _, _) _
        exact sp_vret rfl rfl
      refine st_callV (R := 17) rfl rfl rfl (ob_ne (by decide) (ob_ne (by decide) (ob_ne (by decide) (ob_ne (by decide) (ob_ne (by decide) (ob_ne (by decide) (ob_ne (by decide) (ob_ne (by decide) g_1)))))))) rfl c5 ?_
      show Ev _ _ _ (32, [(2, .int 0), (0, .ref 17), (1, .ref 53)], [], (((((((((g.set 48 (.inl (0, .inl ((([0, 0, 0, 0] : List Int32)).set 0 0)))).set 49 (.inl (0, .inl (([s1, s2, s3, s4]).set 0 (-1))))).set 48 (.inl (0, .inl (((([0, 0, 0, 0] : List Int32)).set 0 0).set 1 0)))).set 49 (.inl (0, .inl ((([s1, s2, s3, s4]).set 0 (-1)).set 1 (-1))))).set 48 (.inl (0, .inl ((((([0, 0, 0, 0] : List Int32)).set 0 0).set 1 0).set 2 0)))).set 49 (.inl (0, .inl (((([s1, s2, s3, s4]).set 0 (-1)).set 1 (-1)).set 2 (-1))))).set 48 (.inl (0, .inl (((((([0, 0, 0, 0] : List Int32)).set 0 0).set 1 0).set 2 0).set 3 0)))).set 49 (.inl (0, .inl ((((([s1, s2, s3, s4]).set 0 (-1)).set 1 (-1)).set 2 (-1)).set 3 (-1))))).set 50 (.inl (0, .inl ((([0, 0, 0] : List Int32)).set 0 0))))) _
      refine sp_iinc (p2 := 35) (y := 1) (lv2 := [(2, .int 1), (0, .ref 17), (1, .ref 53)]) rfl rfl (by decide) rfl (by decide) rfl ?_
      refine sp_goto rfl ?_
      refine sp_iload_n (p2 := 22) rfl rfl rfl ?_
      refine sp_iconst (p2 := 23) (x := 3) rfl rfl (by decide) ?_
      refine st_icmp (b := false) rfl (by decide) ?_
      show Ev _ _ _ (26, _, _, _) _
      refine sp_aload_n (p2 := 27) rfl rfl rfl ?_
      refine sp_aload_n (p2 := 28) rfl rfl rfl ?_
      refine sp_iload_n (p2 := 29) rfl rfl rfl ?_
      have c6 : Ca 18 11 [.ref 17, .ref 53, .int 1] (((((((((g.set 48 (.inl (0, .inl ((([0, 0, 0, 0] : List Int32)).set 0 0)))).set 49 (.inl (0, .inl (([s1, s2, s3, s4]).set 0 (-1))))).set 48 (.inl (0, .inl (((([0, 0, 0, 0] : List Int32)).set 0 0).set 1 0)))).set 49 (.inl (0, .inl ((([s1, s2, s3, s4]).set 0 (-1)).set 1 (-1))))).set 48 (.inl (0, .inl ((((([0, 0, 0, 0] : List Int32)).set 0 0).set 1 0).set 2 0)))).set 49 (.inl (0, .inl (((([s1, s2, s3, s4]).set 0 (-1)).set 1 (-1)).set 2 (-1))))).set 48 (.inl (0, .inl (((((([0, 0, 0, 0] : List Int32)).set 0 0).set 1 0).set 2 0).set 3 0)))).set 49 (.inl (0, .inl ((((([s1, s2, s3, s4]).set 0 (-1)).set 1 (-1)).set 2 (-1)).set 3 (-1))))).set 50 (.inl (0, .inl ((([0, 0, 0] : List Int32)).set 0 0)))) (none, ((((((((((g.set 48 (.inl (0, .inl ((([0, 0, 0, 0] : List Int32)).set 0 0)))).set 49 (.inl (0, .inl (([s1, s2, s3, s4]).set 0 (-1))))).set 48 (.inl (0, .inl (((([0, 0, 0, 0] : List Int32)).set 0 0).set 1 0)))).set 49 (.inl (0, .inl ((([s1, s2, s3, s4]).set 0 (-1)).set 1 (-1))))).set 48 (.inl (0, .inl ((((([0, 0, 0, 0] : List Int32)).set 0 0).set 1 0).set 2 0)))).set 49 (.inl (0, .inl (((([s1, s2, s3, s4]).set 0 (-1)).set 1 (-1)).set 2 (-1))))).set 48 (.inl (0, .inl (((((([0, 0, 0, 0] : List Int32)).set 0 0).set 1 0).set 2 0).set 3 0)))).set 49 (.inl (0, .inl ((((([s1, s2, s3, s4]).set 0 (-1)).set 1 (-1)).set 2 (-1)).set 3 (-1))))).set 50 (.inl (0, .inl ((([0, 0, 0] : List Int32)).set 0 0)))).set 50 (.inl (0, .inl (((([0, 0, 0] : List Int32)).set 0 0).set 1 0))))) := by
        refine ca_of (d := 17) (M := mX0_driveRail) rfl (Nat.le_of_ble_eq_true rfl) ?_
        show Ev im_K0 17 mX0_driveRail (0, [(0, .ref 17), (1, .ref 53), (2, .int 1)], [], (((((((((g.set 48 (.inl (0, .inl ((([0, 0, 0, 0] : List Int32)).set 0 0)))).set 49 (.inl (0, .inl (([s1, s2, s3, s4]).set 0 (-1))))).set 48 (.inl (0, .inl (((([0, 0, 0, 0] : List Int32)).set 0 0).set 1 0)))).set 49 (.inl (0, .inl ((([s1, s2, s3, s4]).set 0 (-1)).set 1 (-1))))).set 48 (.inl (0, .inl ((((([0, 0, 0, 0] : List Int32)).set 0 0).set 1 0).set 2 0)))).set 49 (.inl (0, .inl (((([s1, s2, s3, s4]).set 0 (-1)).set 1 (-1)).set 2 (-1))))).set 48 (.inl (0, .inl (((((([0, 0, 0, 0] : List Int32)).set 0 0).set 1 0).set 2 0).set 3 0)))).set 49 (.inl (0, .inl ((((([s1, s2, s3, s4]).set 0 (-1)).set 1 (-1)).set 2 (-1)).set 3 (-1))))).set 50 (.inl (0, .inl ((([0, 0, 0] : List Int32)).set 0 0))))) _
        refine sp_aload_n (p2 := 1) rfl rfl rfl ?_
        refine st_get rfl (ob_ne (by decide) (ob_ne (by decide) (ob_ne (by decide) (ob_ne (by decide) (ob_ne (by decide) (ob_ne (by decide) (ob_ne (by decide) (ob_ne (by decide) (ob_ne (by decide) g_1))))))))) rfl ?_
        show Ev _ _ _ (4, _, _, _) _
        refine sp_iload_n (p2 := 5) rfl rfl rfl ?_
        refine st_aald (v := .ref 37) rfl (qa_ne (by decide) (qa_ne (by decide) (qa_ne (by decide) (qa_ne (by decide) (qa_ne (by decide) (qa_ne (by decide) (qa_ne (by decide) (qa_ne (by decide) (qa_ne (by decide) g_8))))))))) (by decide) rfl ?_
        show Ev _ _ _ (6, _, _, _) _
        refine sp_astore_n (p2 := 7) (lv2 := [(3, .ref 37), (0, .ref 17), (1, .ref 53), (2, .int 1)]) rfl rfl (by decide) rfl ?_
        refine sp_aload_n (p2 := 8) rfl rfl rfl ?_
        refine st_get rfl (ob_ne (by decide) (ob_ne (by decide) (ob_ne (by decide) (ob_ne (by decide) (ob_ne (by decide) (ob_ne (by decide) (ob_ne (by decide) (ob_ne (by decide) (ob_ne (by decide) g_37))))))))) rfl ?_
        show Ev _ _ _ (11, _, _, _) _
        refine sp_iload_n (p2 := 12) rfl rfl rfl ?_
        refine sp_iconst (p2 := 13) (x := 0) rfl rfl (by decide) ?_
        refine st_iast (i := 50) rfl rfl (ia_eq2 (sl_len (sl_len (sl_len (sl_len (sl_len (sl_len (sl_len (sl_len g_len)))))))) (by decide)) rfl ?_
        show Ev _ _ _ (14, [(3, .ref 37), (0, .ref 17), (1, .ref 53), (2, .int 1)], [], ((((((((((g.set 48 (.inl (0, .inl ((([0, 0, 0, 0] : List Int32)).set 0 0)))).set 49 (.inl (0, .inl (([s1, s2, s3, s4]).set 0 (-1))))).set 48 (.inl (0, .inl (((([0, 0, 0, 0] : List Int32)).set 0 0).set 1 0)))).set 49 (.inl (0, .inl ((([s1, s2, s3, s4]).set 0 (-1)).set 1 (-1))))).set 48 (.inl (0, .inl ((((([0, 0, 0, 0] : List Int32)).set 0 0).set 1 0).set 2 0)))).set 49 (.inl (0, .inl (((([s1, s2, s3, s4]).set 0 (-1)).set 1 (-1)).set 2 (-1))))).set 48 (.inl (0, .inl (((((([0, 0, 0, 0] : List Int32)).set 0 0).set 1 0).set 2 0).set 3 0)))).set 49 (.inl (0, .inl ((((([s1, s2, s3, s4]).set 0 (-1)).set 1 (-1)).set 2 (-1)).set 3 (-1))))).set 50 (.inl (0, .inl ((([0, 0, 0] : List Int32)).set 0 0)))).set 50 (.inl (0, .inl (((([0, 0, 0] : List Int32)).set 0 0).set 1 0))))) _
        refine sp_aload_n (p2 := 15) rfl rfl rfl ?_
        refine st_get rfl (ob_ne (by decide) (ob_ne (by decide) (ob_ne (by decide) (ob_ne (by decide) (ob_ne (by decide) (ob_ne (by decide) (ob_ne (by decide) (ob_ne (by decide) (ob_ne (by decide) (ob_ne (by decide) g_21)))))))))) rfl ?_
        show Ev _ _ _ (18, _, _, _) _
        refine sp_iconst (p2 := 19) (x := 2) rfl rfl (by decide) ?_
        refine st_icmp (b := false) rfl (by decide) ?_
        show Ev _ _ _ (22, _, _, _) _
        exact sp_vret rfl rfl
      refine st_callV (R := 17) rfl rfl rfl (ob_ne (by decide) (ob_ne (by decide) (ob_ne (by decide) (ob_ne (by decide) (ob_ne (by decide) (ob_ne (by decide) (ob_ne (by decide) (ob_ne (by decide) (ob_ne (by decide) g_1))))))))) rfl c6 ?_
      show Ev _ _ _ (32, [(2, .int 1), (0, .ref 17), (1, .ref 53)], [], ((((((((((g.set 48 (.inl (0, .inl ((([0, 0, 0, 0] : List Int32)).set 0 0)))).set 49 (.inl (0, .inl (([s1, s2, s3, s4]).set 0 (-1))))).set 48 (.inl (0, .inl (((([0, 0, 0, 0] : List Int32)).set 0 0).set 1 0)))).set 49 (.inl (0, .inl ((([s1, s2, s3, s4]).set 0 (-1)).set 1 (-1))))).set 48 (.inl (0, .inl ((((([0, 0, 0, 0] : List Int32)).set 0 0).set 1 0).set 2 0)))).set 49 (.inl (0, .inl (((([s1, s2, s3, s4]).set 0 (-1)).set 1 (-1)).set 2 (-1))))).set 48 (.inl (0, .inl (((((([0, 0, 0, 0] : List Int32)).set 0 0).set 1 0).set 2 0).set 3 0)))).set 49 (.inl (0, .inl ((((([s1, s2, s3, s4]).set 0 (-1)).set 1 (-1)).set 2 (-1)).set 3 (-1))))).set 50 (.inl (0, .inl ((([0, 0, 0] : List Int32)).set 0 0)))).set 50 (.inl (0, .inl (((([0, 0, 0] : List Int32)).set 0 0).set 1 0))))) _
      refine sp_iinc (p2 := 35) (y := 2) (lv2 := [(2, .int 2), (0, .ref 17), (1, .ref 53)]) rfl rfl (by decide) rfl (by decide) rfl ?_
      refine sp_goto rfl ?_
      refine sp_iload_n (p2 := 22) rfl rfl rfl ?_
      refine sp_iconst (p2 := 23) (x := 3) rfl rfl (by decide) ?_
      refine st_icmp (b := false) rfl (by decide) ?_
      show Ev _ _ _ (26, _, _, _) _
      refine sp_aload_n (p2 := 27) rfl rfl rfl ?_
      refine sp_aload_n (p2 := 28) rfl rfl rfl ?_
      refine sp_iload_n (p2 := 29) rfl rfl rfl ?_
      have c7 : Ca 18 11 [.ref 17, .ref 53, .int 2] ((((((((((g.set 48 (.inl (0, .inl ((([0, 0, 0, 0] : List Int32)).set 0 0)))).set 49 (.inl (0, .inl (([s1, s2, s3, s4]).set 0 (-1))))).set 48 (.inl (0, .inl (((([0, 0, 0, 0] : List Int32)).set 0 0).set 1 0)))).set 49 (.inl (0, .inl ((([s1, s2, s3, s4]).set 0 (-1)).set 1 (-1))))).set 48 (.inl (0, .inl ((((([0, 0, 0, 0] : List Int32)).set 0 0).set 1 0).set 2 0)))).set 49 (.inl (0, .inl (((([s1, s2, s3, s4]).set 0 (-1)).set 1 (-1)).set 2 (-1))))).set 48 (.inl (0, .inl (((((([0, 0, 0, 0] : List Int32)).set 0 0).set 1 0).set 2 0).set 3 0)))).set 49 (.inl (0, .inl ((((([s1, s2, s3, s4]).set 0 (-1)).set 1 (-1)).set 2 (-1)).set 3 (-1))))).set 50 (.inl (0, .inl ((([0, 0, 0] : List Int32)).set 0 0)))).set 50 (.inl (0, .inl (((([0, 0, 0] : List Int32)).set 0 0).set 1 0)))) (none, (((((((((((g.set 48 (.inl (0, .inl ((([0, 0, 0, 0] : List Int32)).set 0 0)))).set 49 (.inl (0, .inl (([s1, s2, s3, s4]).set 0 (-1))))).set 48 (.inl (0, .inl (((([0, 0, 0, 0] : List Int32)).set 0 0).set 1 0)))).set 49 (.inl (0, .inl ((([s1, s2, s3, s4]).set 0 (-1)).set 1 (-1))))).set 48 (.inl (0, .inl ((((([0, 0, 0, 0] : List Int32)).set 0 0).set 1 0).set 2 0)))).set 49 (.inl (0, .inl (((([s1, s2, s3, s4]).set 0 (-1)).set 1 (-1)).set 2 (-1))))).set 48 (.inl (0, .inl (((((([0, 0, 0, 0] : List Int32)).set 0 0).set 1 0).set 2 0).set 3 0)))).set 49 (.inl (0, .inl ((((([s1, s2, s3, s4]).set 0 (-1)).set 1 (-1)).set 2 (-1)).set 3 (-1))))).set 50 (.inl (0, .inl ((([0, 0, 0] : List Int32)).set 0 0)))).set 50 (.inl (0, .inl (((([0, 0, 0] : List Int32)).set 0 0).set 1 0)))).set 50 (.inl (0, .inl ((((([0, 0, 0] : List Int32)).set 0 0).set 1 0).set 2 0))))) := by
        refine ca_of (d := 17) (M := mX0_driveRail) rfl (Nat.le_of_ble_eq_true rfl) ?_
        show Ev im_K0 17 mX0_driveRail (0, [(0, .ref 17), (1, .ref 53), (2, .int 2)], [], ((((((((((g.set 48 (.inl (0, .inl ((([0, 0, 0, 0] : List Int32)).set 0 0)))).set 49 (.inl (0, .inl (([s1, s2, s3, s4]).set 0 (-1))))).set 48 (.inl (0, .inl (((([0, 0, 0, 0] : List Int32)).set 0 0).set 1 0)))).set 49 (.inl (0, .inl ((([s1, s2, s3, s4]).set 0 (-1)).set 1 (-1))))).set 48 (.inl (0, .inl ((((([0, 0, 0, 0] : List Int32)).set 0 0).set 1 0).set 2 0)))).set 49 (.inl (0, .inl (((([s1, s2, s3, s4]).set 0 (-1)).set 1 (-1)).set 2 (-1))))).set 48 (.inl (0, .inl (((((([0, 0, 0, 0] : List Int32)).set 0 0).set 1 0).set 2 0).set 3 0)))).set 49 (.inl (0, .inl ((((([s1, s2, s3, s4]).set 0 (-1)).set 1 (-1)).set 2 (-1)).set 3 (-1))))).set 50 (.inl (0, .inl ((([0, 0, 0] : List Int32)).set 0 0)))).set 50 (.inl (0, .inl (((([0, 0, 0] : List Int32)).set 0 0).set 1 0))))) _
        refine sp_aload_n (p2 := 1) rfl rfl rfl ?_
        refine st_get rfl (ob_ne (by decide) (ob_ne (by decide) (ob_ne (by decide) (ob_ne (by decide) (ob_ne (by decide) (ob_ne (by decide) (ob_ne (by decide) (ob_ne (by decide) (ob_ne (by decide) (ob_ne (by decide) g_1)))))))))) rfl ?_
        show Ev _ _ _ (4, _, _, _) _
        refine sp_iload_n (p2 := 5) rfl rfl rfl ?_
        refine st_aald (v := .ref 38) rfl (qa_ne (by decide) (qa_ne (by decide) (qa_ne (by decide) (qa_ne (by decide) (qa_ne (by decide) (qa_ne (by decide) (qa_ne (by decide) (qa_ne (by decide) (qa_ne (by decide) (qa_ne (by decide) g_8)))))))))) (by decide) rfl ?_
        show Ev _ _ _ (6, _, _, _) _
        refine sp_astore_n (p2 := 7) (lv2 := [(3, .ref 38), (0, .ref 17), (1, .ref 53), (2, .int 2)]) rfl rfl (by decide) rfl ?_
        refine sp_aload_n (p2 := 8) rfl rfl rfl ?_
        refine st_get rfl (ob_ne (by decide) (ob_ne (by decide) (ob_ne (by decide) (ob_ne (by decide) (ob_ne (by decide) (ob_ne (by decide) (ob_ne (by decide) (ob_ne (by decide) (ob_ne (by decide) (ob_ne (by decide) g_37)))))))))) rfl ?_
        show Ev _ _ _ (11, _, _, _) _
        refine sp_iload_n (p2 := 12) rfl rfl rfl ?_
        refine sp_iconst (p2 := 13) (x := 0) rfl rfl (by decide) ?_
        refine st_iast (i := 50) rfl rfl (ia_eq2 (sl_len (sl_len (sl_len (sl_len (sl_len (sl_len (sl_len (sl_len (sl_len g_len))))))))) (by decide)) rfl ?_
        show Ev _ _ _ (14, [(3, .ref 38), (0, .ref 17), (1, .ref 53), (2, .int 2)], [], (((((((((((g.set 48 (.inl (0, .inl ((([0, 0, 0, 0] : List Int32)).set 0 0)))).set 49 (.inl (0, .inl (([s1, s2, s3, s4]).set 0 (-1))))).set 48 (.inl (0, .inl (((([0, 0, 0, 0] : List Int32)).set 0 0).set 1 0)))).set 49 (.inl (0, .inl ((([s1, s2, s3, s4]).set 0 (-1)).set 1 (-1))))).set 48 (.inl (0, .inl ((((([0, 0, 0, 0] : List Int32)).set 0 0).set 1 0).set 2 0)))).set 49 (.inl (0, .inl (((([s1, s2, s3, s4]).set 0 (-1)).set 1 (-1)).set 2 (-1))))).set 48 (.inl (0, .inl (((((([0, 0, 0, 0] : List Int32)).set 0 0).set 1 0).set 2 0).set 3 0)))).set 49 (.inl (0, .inl ((((([s1, s2, s3, s4]).set 0 (-1)).set 1 (-1)).set 2 (-1)).set 3 (-1))))).set 50 (.inl (0, .inl ((([0, 0, 0] : List Int32)).set 0 0)))).set 50 (.inl (0, .inl (((([0, 0, 0] : List Int32)).set 0 0).set 1 0)))).set 50 (.inl (0, .inl ((((([0, 0, 0] : List Int32)).set 0 0).set 1 0).set 2 0))))) _
        refine sp_aload_n (p2 := 15) rfl rfl rfl ?_
        refine st_get rfl (ob_ne (by decide) (ob_ne (by decide) (ob_ne (by decide) (ob_ne (by decide) (ob_ne (by decide) (ob_ne (by decide) (ob_ne (by decide) (ob_ne (by decide) (ob_ne (by decide) (ob_ne (by decide) (ob_ne (by decide) g_22))))))))))) rfl ?_
        show Ev _ _ _ (18, _, _, _) _
        refine sp_iconst (p2 := 19) (x := 2) rfl rfl (by decide) ?_
        refine st_icmp (b := false) rfl (by decide) ?_
        show Ev _ _ _ (22, _, _, _) _
        exact sp_vret rfl rfl
      refine st_callV (R := 17) rfl rfl rfl (ob_ne (by decide) (ob_ne (by decide) (ob_ne (by decide) (ob_ne (by decide) (ob_ne (by decide) (ob_ne (by decide) (ob_ne (by decide) (ob_ne (by decide) (ob_ne (by decide) (ob_ne (by decide) g_1)))))))))) rfl c7 ?_
      show Ev _ _ _ (32, [(2, .int 2), (0, .ref 17), (1, .ref 53)], [], (((((((((((g.set 48 (.inl (0, .inl ((([0, 0, 0, 0] : List Int32)).set 0 0)))).set 49 (.inl (0, .inl (([s1, s2, s3, s4]).set 0 (-1))))).set 48 (.inl (0, .inl (((([0, 0, 0, 0] : List Int32)).set 0 0).set 1 0)))).set 49 (.inl (0, .inl ((([s1, s2, s3, s4]).set 0 (-1)).set 1 (-1))))).set 48 (.inl (0, .inl ((((([0, 0, 0, 0] : List Int32)).set 0 0).set 1 0).set 2 0)))).set 49 (.inl (0, .inl (((([s1, s2, s3, s4]).set 0 (-1)).set 1 (-1)).set 2 (-1))))).set 48 (.inl (0, .inl (((((([0, 0, 0, 0] : List Int32)).set 0 0).set 1 0).set 2 0).set 3 0)))).set 49 (.inl (0, .inl ((((([s1, s2, s3, s4]).set 0 (-1)).set 1 (-1)).set 2 (-1)).set 3 (-1))))).set 50 (.inl (0, .inl ((([0, 0, 0] : List Int32)).set 0 0)))).set 50 (.inl (0, .inl (((([0, 0, 0] : List Int32)).set 0 0).set 1 0)))).set 50 (.inl (0, .inl ((((([0, 0, 0] : List Int32)).set 0 0).set 1 0).set 2 0))))) _
      refine sp_iinc (p2 := 35) (y := 3) (lv2 := [(2, .int 3), (0, .ref 17), (1, .ref 53)]) rfl rfl (by decide) rfl (by decide) rfl ?_
      refine sp_goto rfl ?_
      refine sp_iload_n (p2 := 22) rfl rfl rfl ?_
      refine sp_iconst (p2 := 23) (x := 3) rfl rfl (by decide) ?_
      refine st_icmp (b := true) rfl (by decide) ?_
      show Ev _ _ _ (38, _, _, _) _
      refine sp_iconst (p2 := 39) (x := 0) rfl rfl (by decide) ?_
      refine sp_istore_n (p2 := 40) (lv2 := [(2, .int 0), (0, .ref 17), (1, .ref 53)]) rfl rfl (by decide) rfl ?_
      refine sp_iload_n (p2 := 41) rfl rfl rfl ?_
      refine sp_aload_n (p2 := 42) rfl rfl rfl ?_
      refine st_get rfl (ob_ne (by decide) (ob_ne (by decide) (ob_ne (by decide) (ob_ne (by decide) (ob_ne (by decide) (ob_ne (by decide) (ob_ne (by decide) (ob_ne (by decide) (ob_ne (by decide) (ob_ne (by decide) (ob_ne (by decide) g_1))))))))))) rfl ?_
      show Ev _ _ _ (45, _, _, _) _
      refine st_icmp (b := true) rfl (by decide) ?_
      show Ev _ _ _ (79, _, _, _) _
      refine sp_iconst (p2 := 80) (x := 0) rfl rfl (by decide) ?_
      refine sp_istore_n (p2 := 81) (lv2 := [(2, .int 0), (0, .ref 17), (1, .ref 53)]) rfl rfl (by decide) rfl ?_
      refine sp_iload_n (p2 := 82) rfl rfl rfl ?_
      refine sp_aload_n (p2 := 83) rfl rfl rfl ?_
      refine st_get rfl (ob_ne (by decide) (ob_ne (by decide) (ob_ne (by decide) (ob_ne (by decide) (ob_ne (by decide) (ob_ne (by decide) (ob_ne (by decide) (ob_ne (by decide) (ob_ne (by decide) (ob_ne (by decide) (ob_ne (by decide) g_1))))))))))) rfl ?_
      show Ev _ _ _ (86, _, _, _) _
      refine st_icmp (b := true) rfl (by decide) ?_
      show Ev _ _ _ (125, _, _, _) _
      refine sp_aload_n (p2 := 126) rfl rfl rfl ?_
      refine st_get rfl (ob_ne (by decide) (ob_ne (by decide) (ob_ne (by decide) (ob_ne (by decide) (ob_ne (by decide) (ob_ne (by decide) (ob_ne (by decide) (ob_ne (by decide) (ob_ne (by decide) (ob_ne (by decide) (ob_ne (by decide) g_37))))))))))) rfl ?_
      show Ev _ _ _ (129, _, _, _) _
      refine sp_bipush (p2 := 131) (x := 7) rfl rfl (by decide) ?_
      have f1 : Int32.toInt (d - d / 7 * 7) = Int32.toInt d % 7 := i32_rem7 (by omega)
      refine sp_irem (p2 := 132) (z := (d - d / 7 * 7)) rfl rfl (by decide) rfl ?_
      refine sp_bipush (p2 := 134) (x := 6) rfl rfl (by decide) ?_
      refine st_icmp (b := true) rfl (cn_ne_T rfl (show Int32.toInt 6 = 6 from rfl) (by omega)) ?_
      show Ev _ _ _ (142, _, _, _) _
      refine sp_aload_n (p2 := 143) rfl rfl rfl ?_
      refine sp_dup (p2 := 144) rfl rfl rfl ?_
      refine st_get rfl (ob_ne (by decide) (ob_ne (by decide) (ob_ne (by decide) (ob_ne (by decide) (ob_ne (by decide) (ob_ne (by decide) (ob_ne (by decide) (ob_ne (by decide) (ob_ne (by decide) (ob_ne (by decide) (ob_ne (by decide) g_37))))))))))) rfl ?_
      show Ev _ _ _ (147, _, _, _) _
      refine sp_iconst (p2 := 148) (x := 1) rfl rfl (by decide) ?_
      have f2 : Int32.toInt (d + 1) = Int32.toInt d + 1 := i32_addE (show Int32.toInt 1 = 1 from rfl) (by omega) (by omega)
      refine sp_iadd (p2 := 149) (z := (d + 1)) rfl rfl rfl ?_
      refine st_put (i := 37) rfl rfl (ob_ne (by decide) (ob_ne (by decide) (ob_ne (by decide) (ob_ne (by decide) (ob_ne (by decide) (ob_ne (by decide) (ob_ne (by decide) (ob_ne (by decide) (ob_ne (by decide) (ob_ne (by decide) (ob_ne (by decide) g_37))))))))))) rfl rfl (Nat.le_of_ble_eq_true rfl) ?_
      show Ev _ _ _ (152, [(2, .int 0), (0, .ref 17), (1, .ref 53)], [], ((((((((((((g.set 48 (.inl (0, .inl ((([0, 0, 0, 0] : List Int32)).set 0 0)))).set 49 (.inl (0, .inl (([s1, s2, s3, s4]).set 0 (-1))))).set 48 (.inl (0, .inl (((([0, 0, 0, 0] : List Int32)).set 0 0).set 1 0)))).set 49 (.inl (0, .inl ((([s1, s2, s3, s4]).set 0 (-1)).set 1 (-1))))).set 48 (.inl (0, .inl ((((([0, 0, 0, 0] : List Int32)).set 0 0).set 1 0).set 2 0)))).set 49 (.inl (0, .inl (((([s1, s2, s3, s4]).set 0 (-1)).set 1 (-1)).set 2 (-1))))).set 48 (.inl (0, .inl (((((([0, 0, 0, 0] : List Int32)).set 0 0).set 1 0).set 2 0).set 3 0)))).set 49 (.inl (0, .inl ((((([s1, s2, s3, s4]).set 0 (-1)).set 1 (-1)).set 2 (-1)).set 3 (-1))))).set 50 (.inl (0, .inl ((([0, 0, 0] : List Int32)).set 0 0)))).set 50 (.inl (0, .inl (((([0, 0, 0] : List Int32)).set 0 0).set 1 0)))).set 50 (.inl (0, .inl ((((([0, 0, 0] : List Int32)).set 0 0).set 1 0).set 2 0)))).set 37 (.inr (9, [.int ((d + 1)), .int 0, .int 0, .int 0, .int 0, .ref 54, .ref 55, .ref 56, .ref 57, .ref 58, .ref 59, .ref 60, .ref 61, .ref 62, .ref 63, .ref 64, .ref 65, .ref 66])))) _
      exact sp_vret rfl rfl
    · exact ⟨(sl_len (sl_len (sl_len (sl_len (sl_len (sl_len (sl_len (sl_len (sl_len (sl_len (sl_len (sl_len g_len)))))))))))), (fr_set (by decide) (fr_set (by decide) (fr_set (by decide) (fr_set (by decide) (fr_set (by decide) (fr_set (by decide) (fr_set (by decide) (fr_set (by decide) (fr_set (by decide) (fr_set (by decide) (fr_set (by decide) (fr_set (by decide) fr)))))))))))), (ob_ne (by decide) (ob_ne (by decide) (ob_ne (by decide) (ob_ne (by decide) (ob_ne (by decide) (ob_ne (by decide) (ob_ne (by decide) (ob_ne (by decide) (ob_ne (by decide) (ob_ne (by decide) (ob_ne (by decide) (ob_ne (by decide) g_0)))))))))))), (ob_ne (by decide) (ob_ne (by decide) (ob_ne (by decide) (ob_ne (by decide) (ob_ne (by decide) (ob_ne (by decide) (ob_ne (by decide) (ob_ne (by decide) (ob_ne (by decide) (ob_ne (by decide) (ob_ne (by decide) (ob_ne (by decide) g_1)))))))))))), (qa_ne (by decide) (qa_ne (by decide) (qa_ne (by decide) (qa_ne (by decide) (qa_ne (by decide) (qa_ne (by decide) (qa_ne (by decide) (qa_ne (by decide) (qa_ne (by decide) (qa_ne (by decide) (qa_ne (by decide) (qa_ne (by decide) g_7)))))))))))), (qa_ne (by decide) (qa_ne (by decide) (qa_ne (by decide) (qa_ne (by decide) (qa_ne (by decide) (qa_ne (by decide) (qa_ne (by decide) (qa_ne (by decide) (qa_ne (by decide) (qa_ne (by decide) (qa_ne (by decide) (qa_ne (by decide) g_8)))))))))))), (ob_ne (by decide) (ob_ne (by decide) (ob_ne (by decide) (ob_ne (by decide) (ob_ne (by decide) (ob_ne (by decide) (ob_ne (by decide) (ob_ne (by decide) (ob_ne (by decide) (ob_ne (by decide) (ob_ne (by decide) (ob_ne (by decide) g_12)))))))))))), (ob_ne (by decide) (ob_ne (by decide) (ob_ne (by decide) (ob_ne (by decide) (ob_ne (by decide) (ob_ne (by decide) (ob_ne (by decide) (ob_ne (by decide) (ob_ne (by decide) (ob_ne (by decide) (ob_ne (by decide) (ob_ne (by decide) g_14)))))))))))), (ob_ne (by decide) (ob_ne (by decide) (ob_ne (by decide) (ob_ne (by decide) (ob_ne (by decide) (ob_ne (by decide) (ob_ne (by decide) (ob_ne (by decide) (ob_ne (by decide) (ob_ne (by decide) (ob_ne (by decide) (ob_ne (by decide) g_16)))))))))))), (ob_ne (by decide) (ob_ne (by decide) (ob_ne (by decide) (ob_ne (by decide) (ob_ne (by decide) (ob_ne (by decide) (ob_ne (by decide) (ob_ne (by decide) (ob_ne (by decide) (ob_ne (by decide) (ob_ne (by decide) (ob_ne (by decide) g_18)))))))))))), (ob_ne (by decide) (ob_ne (by decide) (ob_ne (by decide) (ob_ne (by decide) (ob_ne (by decide) (ob_ne (by decide) (ob_ne (by decide) (ob_ne (by decide) (ob_ne (by decide) (ob_ne (by decide) (ob_ne (by decide) (ob_ne (by decide) g_20)))))))))))), (ob_ne (by decide) (ob_ne (by decide) (ob_ne (by decide) (ob_ne (by decide) (ob_ne (by decide) (ob_ne (by decide) (ob_ne (by decide) (ob_ne (by decide) (ob_ne (by decide) (ob_ne (by decide) (ob_ne (by decide) (ob_ne (by decide) g_21)))))))))))), (ob_ne (by decide) (ob_ne (by decide) (ob_ne (by decide) (ob_ne (by decide) (ob_ne (by decide) (ob_ne (by decide) (ob_ne (by decide) (ob_ne (by decide) (ob_ne (by decide) (ob_ne (by decide) (ob_ne (by decide) (ob_ne (by decide) g_22)))))))))))), (ob_ne (by decide) (ob_ne (by decide) (ob_ne (by decide) (ob_ne (by decide) (ob_ne (by decide) (ob_ne (by decide) (ob_ne (by decide) (ob_ne (by decide) (ob_ne (by decide) (ob_ne (by decide) (ob_ne (by decide) (ob_ne (by decide) g_23)))))))))))), (ia_ne (by decide) (ia_ne (by decide) (ia_ne (by decide) (ia_ne (by decide) (ia_ne (by decide) (ia_ne (by decide) (ia_ne (by decide) (ia_ne (by decide) (ia_ne (by decide) (ia_ne (by decide) (ia_ne (by decide) (ia_ne (by decide) g_24)))))))))))), (ia_ne (by decide) (ia_ne (by decide) (ia_ne (by decide) (ia_ne (by decide) (ia_ne (by decide) (ia_ne (by decide) (ia_ne (by decide) (ia_ne (by decide) (ia_ne (by decide) (ia_ne (by decide) (ia_ne (by decide) (ia_ne (by decide) g_30)))))))))))), (ob_eq2 (sl_len (sl_len (sl_len (sl_len (sl_len (sl_len (sl_len (sl_len (sl_len (sl_len (sl_len g_len))))))))))) (by decide)), (ia_ne (by decide) (ia_ne (by decide) (ia_ne (by decide) (ia_ne (by decide) (ia_ne (by decide) (ia_ne (by decide) (ia_ne (by decide) (ia_ne (by decide) (ia_ne (by decide) (ia_ne (by decide) (ia_ne (by decide) (ia_ne (by decide) g_38)))))))))))), (ia_ne (by decide) (ia_ne (by decide) (ia_ne (by decide) (ia_ne (by decide) (ia_ne (by decide) (ia_ne (by decide) (ia_ne (by decide) (ia_ne (by decide) (ia_ne (by decide) (ia_ne (by decide) (ia_ne (by decide) (ia_ne (by decide) g_39)))))))))))), (ia_ne (by decide) (ia_ne (by decide) (ia_ne (by decide) (ia_ne (by decide) (ia_ne (by decide) (ia_ne (by decide) (ia_ne (by decide) (ia_ne (by decide) (ia_ne (by decide) (ia_ne (by decide) (ia_ne (by decide) (ia_ne (by decide) g_41)))))))))))), (ia_ne (by decide) (ia_ne (by decide) (ia_ne (by decide) (ia_ne (by decide) (ia_ne (by decide) (ia_ne (by decide) (ia_ne (by decide) (ia_ne (by decide) (ia_ne (by decide) (ia_ne (by decide) (ia_ne (by decide) (ia_ne (by decide) g_44)))))))))))), (ia_ne (by decide) (ia_ne (by decide) (ia_ne (by decide) (ia_ne (by decide) (ia_ne (by decide) (ia_eq2 (sl_len (sl_len (sl_len (sl_len (sl_len (sl_len g_len)))))) (by decide))))))), (ia_ne (by decide) (ia_eq2 (sl_len (sl_len (sl_len (sl_len (sl_len (sl_len (sl_len (sl_len (sl_len (sl_len g_len)))))))))) (by decide))), ⟨_, _, _, _, (ia_ne (by decide) (ia_ne (by decide) (ia_ne (by decide) (ia_ne (by decide) (ia_eq2 (sl_len (sl_len (sl_len (sl_len (sl_len (sl_len (sl_len g_len))))))) (by decide))))))⟩⟩
  · refine ⟨((((((((((((g.set 48 (.inl (0, .inl ((([0, 0, 0, 0] : List Int32)).set 0 0)))).set 49 (.inl (0, .inl (([s1, s2, s3, s4]).set 0 (-1))))).set 48 (.inl (0, .inl (((([0, 0, 0, 0] : List Int32)).set 0 0).set 1 0)))).set 49 (.inl (0, .inl ((([s1, s2, s3, s4]).set 0 (-1)).set 1 (-1))))).set 48 (.inl (0, .inl ((((([0, 0, 0, 0] : List Int32)).set 0 0).set 1 0).set 2 0)))).set 49 (.inl (0, .inl (((([s1, s2, s3, s4]).set 0 (-1)).set 1 (-1)).set 2 (-1))))).set 48 (.inl (0, .inl (((((([0, 0, 0, 0] : List Int32)).set 0 0).set 1 0).set 2 0).set 3 0)))).set 49 (.inl (0, .inl ((((([s1, s2, s3, s4]).set 0 (-1)).set 1 (-1)).set 2 (-1)).set 3 (-1))))).set 50 (.inl (0, .inl ((([0, 0, 0] : List Int32)).set 0 0)))).set 50 (.inl (0, .inl (((([0, 0, 0] : List Int32)).set 0 0).set 1 0)))).set 50 (.inl (0, .inl ((((([0, 0, 0] : List Int32)).set 0 0).set 1 0).set 2 0)))).set 37 (.inr (9, [.int ((d + 1)), .int 0, .int 0, .int 0, .int 0, .ref 54, .ref 55, .ref 56, .ref 57, .ref 58, .ref 59, .ref 60, .ref 61, .ref 62, .ref 63, .ref 64, .ref 65, .ref 66]))), ?_, ?_⟩
    · refine ca_of (d := 18) (M := mX0_playDay) rfl (Nat.le_of_ble_eq_true rfl) ?_
      show Ev im_K0 18 mX0_playDay (0, [(0, .ref 17), (1, .ref 53)], [], g) _
      refine sp_iconst (p2 := 1) (x := 0) rfl rfl (by decide) ?_
      refine sp_istore_n (p2 := 2) (lv2 := [(2, .int 0), (0, .ref 17), (1, .ref 53)]) rfl rfl (by decide) rfl ?_
      refine sp_iload_n (p2 := 3) rfl rfl rfl ?_
      refine sp_iconst (p2 := 4) (x := 4) rfl rfl (by decide) ?_
      refine st_icmp (b := false) rfl (by decide) ?_
      show Ev _ _ _ (7, _, _, _) _
      refine sp_aload_n (p2 := 8) rfl rfl rfl ?_
      refine sp_aload_n (p2 := 9) rfl rfl rfl ?_
      refine sp_iload_n (p2 := 10) rfl rfl rfl ?_
      have c1 : Ca 18 8 [.ref 17, .ref 53, .int 0] g (none, ((g.set 48 (.inl (0, .inl ((([0, 0, 0, 0] : List Int32)).set 0 0)))).set 49 (.inl (0, .inl (([s1, s2, s3, s4]).set 0 (-1)))))) := by
        refine ca_of (d := 17) (M := mX0_workRow) rfl (Nat.le_of_ble_eq_true rfl) ?_
        show Ev im_K0 17 mX0_workRow (0, [(0, .ref 17), (1, .ref 53), (2, .int 0)], [], g) _
        refine sp_aload_n (p2 := 1) rfl rfl rfl ?_
        refine st_get rfl g_1 rfl ?_
        show Ev _ _ _ (4, _, _, _) _
        refine sp_iload_n (p2 := 5) rfl rfl rfl ?_
        refine st_aald (v := .ref 28) rfl g_7 (by decide) rfl ?_
        show Ev _ _ _ (6, _, _, _) _
        refine sp_astore_n (p2 := 7) (lv2 := [(3, .ref 28), (0, .ref 17), (1, .ref 53), (2, .int 0)]) rfl rfl (by decide) rfl ?_
        refine sp_aload_n (p2 := 8) rfl rfl rfl ?_
        refine st_get rfl g_37 rfl ?_
        show Ev _ _ _ (11, _, _, _) _
        refine sp_iload_n (p2 := 12) rfl rfl rfl ?_
        refine sp_iconst (p2 := 13) (x := 0) rfl rfl (by decide) ?_
        refine st_iast (i := 48) rfl rfl g_48 rfl ?_
        show Ev _ _ _ (14, [(3, .ref 28), (0, .ref 17), (1, .ref 53), (2, .int 0)], [], (g.set 48 (.inl (0, .inl ((([0, 0, 0, 0] : List Int32)).set 0 0))))) _
        refine sp_aload_n (p2 := 15) rfl rfl rfl ?_
        refine st_get rfl (ob_ne (by decide) g_37) rfl ?_
        show Ev _ _ _ (18, _, _, _) _
        refine sp_iload_n (p2 := 19) rfl rfl rfl ?_
        refine sp_iconst (p2 := 20) (x := (-1)) rfl rfl (by decide) ?_
        refine st_iast (i := 49) rfl rfl (ia_ne (by decide) g_49) rfl ?_
        show Ev _ _ _ (21, [(3, .ref 28), (0, .ref 17), (1, .ref 53), (2, .int 0)], [], ((g.set 48 (.inl (0, .inl ((([0, 0, 0, 0] : List Int32)).set 0 0)))).set 49 (.inl (0, .inl (([s1, s2, s3, s4]).set 0 (-1)))))) _
        refine sp_iconst (p2 := 22) (x := 0) rfl rfl (by decide) ?_
        refine sp_istore (p2 := 24) (lv2 := [(4, .int 0), (3, .ref 28), (0, .ref 17), (1, .ref 53), (2, .int 0)]) rfl rfl (by decide) rfl ?_
        refine sp_iconst (p2 := 25) (x := 0) rfl rfl (by decide) ?_
        refine sp_istore (p2 := 27) (lv2 := [(5, .int 0), (4, .int 0), (3, .ref 28), (0, .ref 17), (1, .ref 53), (2, .int 0)]) rfl rfl (by decide) rfl ?_
        refine sp_iload (p2 := 29) rfl rfl rfl ?_
        refine sp_aload_n (p2 := 30) rfl rfl rfl ?_
        refine st_get rfl (ob_ne (by decide) (ob_ne (by decide) g_12)) rfl ?_
        show Ev _ _ _ (33, _, _, _) _
        refine st_icmp (b := true) rfl (by decide) ?_
        show Ev _ _ _ (85, _, _, _) _
        refine sp_iload (p2 := 87) rfl rfl rfl ?_
        refine sp_aload_n (p2 := 88) rfl rfl rfl ?_
        refine st_get rfl (ob_ne (by decide) (ob_ne (by decide) g_37)) rfl ?_
        show Ev _ _ _ (91, _, _, _) _
        refine sp_aload_n (p2 := 92) rfl rfl rfl ?_
        refine st_get rfl (ob_ne (by decide) (ob_ne (by decide) g_12)) rfl ?_
        show Ev _ _ _ (95, _, _, _) _
        refine st_iald (x := 0) rfl (by decide) (ia_ne (by decide) (ia_ne (by decide) g_39)) rfl rfl ?_
        show Ev _ _ _ (96, _, _, _) _
        refine sp_min (p2 := 99) (z := 0) rfl rfl rfl (by decide) ?_
        refine sp_istore (p2 := 101) (lv2 := [(5, .int 0), (4, .int 0), (3, .ref 28), (0, .ref 17), (1, .ref 53), (2, .int 0)]) rfl rfl (by decide) rfl ?_
        refine sp_iload (p2 := 103) rfl rfl rfl ?_
        refine st_ifc (b := true) rfl (by decide) ?_
        show Ev _ _ _ (122, _, _, _) _
        exact sp_vret rfl rfl
      refine st_callV (R := 17) rfl rfl rfl g_1 rfl c1 ?_
      show Ev _ _ _ (13, [(2, .int 0), (0, .ref 17), (1, .ref 53)], [], ((g.set 48 (.inl (0, .inl ((([0, 0, 0, 0] : List Int32)).set 0 0)))).set 49 (.inl (0, .inl (([s1, s2, s3, s4]).set 0 (-1)))))) _
      refine sp_iinc (p2 := 16) (y := 1) (lv2 := [(2, .int 1), (0, .ref 17), (1, .ref 53)]) rfl rfl (by decide) rfl (by decide) rfl ?_
      refine sp_goto rfl ?_
      refine sp_iload_n (p2 := 3) rfl rfl rfl ?_
      refine sp_iconst (p2 := 4) (x := 4) rfl rfl (by decide) ?_
      refine st_icmp (b := false) rfl (by decide) ?_
      show Ev _ _ _ (7, _, _, _) _
      refine sp_aload_n (p2 := 8) rfl rfl rfl ?_
      refine sp_aload_n (p2 := 9) rfl rfl rfl ?_
      refine sp_iload_n (p2 := 10) rfl rfl rfl ?_
      have c2 : Ca 18 8 [.ref 17, .ref 53, .int 1] ((g.set 48 (.inl (0, .inl ((([0, 0, 0, 0] : List Int32)).set 0 0)))).set 49 (.inl (0, .inl (([s1, s2, s3, s4]).set 0 (-1))))) (none, ((((g.set 48 (.inl (0, .inl ((([0, 0, 0, 0] : List Int32)).set 0 0)))).set 49 (.inl (0, .inl (([s1, s2, s3, s4]).set 0 (-1))))).set 48 (.inl (0, .inl (((([0, 0, 0, 0] : List Int32)).set 0 0).set 1 0)))).set 49 (.inl (0, .inl ((([s1, s2, s3, s4]).set 0 (-1)).set 1 (-1)))))) := by
        refine ca_of (d := 17) (M := mX0_workRow) rfl (Nat.le_of_ble_eq_true rfl) ?_
        show Ev im_K0 17 mX0_workRow (0, [(0, .ref 17), (1, .ref 53), (2, .int 1)], [], ((g.set 48 (.inl (0, .inl ((([0, 0, 0, 0] : List Int32)).set 0 0)))).set 49 (.inl (0, .inl (([s1, s2, s3, s4]).set 0 (-1)))))) _
        refine sp_aload_n (p2 := 1) rfl rfl rfl ?_
        refine st_get rfl (ob_ne (by decide) (ob_ne (by decide) g_1)) rfl ?_
        show Ev _ _ _ (4, _, _, _) _
        refine sp_iload_n (p2 := 5) rfl rfl rfl ?_
        refine st_aald (v := .ref 30) rfl (qa_ne (by decide) (qa_ne (by decide) g_7)) (by decide) rfl ?_
        show Ev _ _ _ (6, _, _, _) _
        refine sp_astore_n (p2 := 7) (lv2 := [(3, .ref 30), (0, .ref 17), (1, .ref 53), (2, .int 1)]) rfl rfl (by decide) rfl ?_
        refine sp_aload_n (p2 := 8) rfl rfl rfl ?_
        refine st_get rfl (ob_ne (by decide) (ob_ne (by decide) g_37)) rfl ?_
        show Ev _ _ _ (11, _, _, _) _
        refine sp_iload_n (p2 := 12) rfl rfl rfl ?_
        refine sp_iconst (p2 := 13) (x := 0) rfl rfl (by decide) ?_
        refine st_iast (i := 48) rfl rfl (ia_ne (by decide) (ia_eq2 g_len (by decide))) rfl ?_
        show Ev _ _ _ (14, [(3, .ref 30), (0, .ref 17), (1, .ref 53), (2, .int 1)], [], (((g.set 48 (.inl (0, .inl ((([0, 0, 0, 0] : List Int32)).set 0 0)))).set 49 (.inl (0, .inl (([s1, s2, s3, s4]).set 0 (-1))))).set 48 (.inl (0, .inl (((([0, 0, 0, 0] : List Int32)).set 0 0).set 1 0))))) _
        refine sp_aload_n (p2 := 15) rfl rfl rfl ?_
        refine st_get rfl (ob_ne (by decide) (ob_ne (by decide) (ob_ne (by decide) g_37))) rfl ?_
        show Ev _ _ _ (18, _, _, _) _
        refine sp_iload_n (p2 := 19) rfl rfl rfl ?_
        refine sp_iconst (p2 := 20) (x := (-1)) rfl rfl (by decide) ?_
        refine st_iast (i := 49) rfl rfl (ia_ne (by decide) (ia_eq2 (sl_len g_len) (by decide))) rfl ?_
        show Ev _ _ _ (21, [(3, .ref 30), (0, .ref 17), (1, .ref 53), (2, .int 1)], [], ((((g.set 48 (.inl (0, .inl ((([0, 0, 0, 0] : List Int32)).set 0 0)))).set 49 (.inl (0, .inl (([s1, s2, s3, s4]).set 0 (-1))))).set 48 (.inl (0, .inl (((([0, 0, 0, 0] : List Int32)).set 0 0).set 1 0)))).set 49 (.inl (0, .inl ((([s1, s2, s3, s4]).set 0 (-1)).set 1 (-1)))))) _
        refine sp_iconst (p2 := 22) (x := 0) rfl rfl (by decide) ?_
        refine sp_istore (p2 := 24) (lv2 := [(4, .int 0), (3, .ref 30), (0, .ref 17), (1, .ref 53), (2, .int 1)]) rfl rfl (by decide) rfl ?_
        refine sp_iconst (p2 := 25) (x := 0) rfl rfl (by decide) ?_
        refine sp_istore (p2 := 27) (lv2 := [(5, .int 0), (4, .int 0), (3, .ref 30), (0, .ref 17), (1, .ref 53), (2, .int 1)]) rfl rfl (by decide) rfl ?_
        refine sp_iload (p2 := 29) rfl rfl rfl ?_
        refine sp_aload_n (p2 := 30) rfl rfl rfl ?_
        refine st_get rfl (ob_ne (by decide) (ob_ne (by decide) (ob_ne (by decide) (ob_ne (by decide) g_14)))) rfl ?_
        show Ev _ _ _ (33, _, _, _) _
        refine st_icmp (b := true) rfl (by decide) ?_
        show Ev _ _ _ (85, _, _, _) _
        refine sp_iload (p2 := 87) rfl rfl rfl ?_
        refine sp_aload_n (p2 := 88) rfl rfl rfl ?_
        refine st_get rfl (ob_ne (by decide) (ob_ne (by decide) (ob_ne (by decide) (ob_ne (by decide) g_37)))) rfl ?_
        show Ev _ _ _ (91, _, _, _) _
        refine sp_aload_n (p2 := 92) rfl rfl rfl ?_
        refine st_get rfl (ob_ne (by decide) (ob_ne (by decide) (ob_ne (by decide) (ob_ne (by decide) g_14)))) rfl ?_
        show Ev _ _ _ (95, _, _, _) _
        refine st_iald (x := 0) rfl (by decide) (ia_ne (by decide) (ia_ne (by decide) (ia_ne (by decide) (ia_ne (by decide) g_39)))) rfl rfl ?_
        show Ev _ _ _ (96, _, _, _) _
        refine sp_min (p2 := 99) (z := 0) rfl rfl rfl (by decide) ?_
        refine sp_istore (p2 := 101) (lv2 := [(5, .int 0), (4, .int 0), (3, .ref 30), (0, .ref 17), (1, .ref 53), (2, .int 1)]) rfl rfl (by decide) rfl ?_
        refine sp_iload (p2 := 103) rfl rfl rfl ?_
        refine st_ifc (b := true) rfl (by decide) ?_
        show Ev _ _ _ (122, _, _, _) _
        exact sp_vret rfl rfl
      refine st_callV (R := 17) rfl rfl rfl (ob_ne (by decide) (ob_ne (by decide) g_1)) rfl c2 ?_
      show Ev _ _ _ (13, [(2, .int 1), (0, .ref 17), (1, .ref 53)], [], ((((g.set 48 (.inl (0, .inl ((([0, 0, 0, 0] : List Int32)).set 0 0)))).set 49 (.inl (0, .inl (([s1, s2, s3, s4]).set 0 (-1))))).set 48 (.inl (0, .inl (((([0, 0, 0, 0] : List Int32)).set 0 0).set 1 0)))).set 49 (.inl (0, .inl ((([s1, s2, s3, s4]).set 0 (-1)).set 1 (-1)))))) _
      refine sp_iinc (p2 := 16) (y := 2) (lv2 := [(2, .int 2), (0, .ref 17), (1, .ref 53)]) rfl rfl (by decide) rfl (by decide) rfl ?_
      refine sp_goto rfl ?_
      refine sp_iload_n (p2 := 3) rfl rfl rfl ?_
      refine sp_iconst (p2 := 4) (x := 4) rfl rfl (by decide) ?_
      refine st_icmp (b := false) rfl (by decide) ?_
      show Ev _ _ _ (7, _, _, _) _
      refine sp_aload_n (p2 := 8) rfl rfl rfl ?_
      refine sp_aload_n (p2 := 9) rfl rfl rfl ?_
      refine sp_iload_n (p2 := 10) rfl rfl rfl ?_
      have c3 : Ca 18 8 [.ref 17, .ref 53, .int 2] ((((g.set 48 (.inl (0, .inl ((([0, 0, 0, 0] : List Int32)).set 0 0)))).set 49 (.inl (0, .inl (([s1, s2, s3, s4]).set 0 (-1))))).set 48 (.inl (0, .inl (((([0, 0, 0, 0] : List Int32)).set 0 0).set 1 0)))).set 49 (.inl (0, .inl ((([s1, s2, s3, s4]).set 0 (-1)).set 1 (-1))))) (none, ((((((g.set 48 (.inl (0, .inl ((([0, 0, 0, 0] : List Int32)).set 0 0)))).set 49 (.inl (0, .inl (([s1, s2, s3, s4]).set 0 (-1))))).set 48 (.inl (0, .inl (((([0, 0, 0, 0] : List Int32)).set 0 0).set 1 0)))).set 49 (.inl (0, .inl ((([s1, s2, s3, s4]).set 0 (-1)).set 1 (-1))))).set 48 (.inl (0, .inl ((((([0, 0, 0, 0] : List Int32)).set 0 0).set 1 0).set 2 0)))).set 49 (.inl (0, .inl (((([s1, s2, s3, s4]).set 0 (-1)).set 1 (-1)).set 2 (-1)))))) := by
        refine ca_of (d := 17) (M := mX0_workRow) rfl (Nat.le_of_ble_eq_true rfl) ?_
        show Ev im_K0 17 mX0_workRow (0, [(0, .ref 17), (1, .ref 53), (2, .int 2)], [], ((((g.set 48 (.inl (0, .inl ((([0, 0, 0, 0] : List Int32)).set 0 0)))).set 49 (.inl (0, .inl (([s1, s2, s3, s4]).set 0 (-1))))).set 48 (.inl (0, .inl (((([0, 0, 0, 0] : List Int32)).set 0 0).set 1 0)))).set 49 (.inl (0, .inl ((([s1, s2, s3, s4]).set 0 (-1)).set 1 (-1)))))) _
        refine sp_aload_n (p2 := 1) rfl rfl rfl ?_
        refine st_get rfl (ob_ne (by decide) (ob_ne (by decide) (ob_ne (by decide) (ob_ne (by decide) g_1)))) rfl ?_
        show Ev _ _ _ (4, _, _, _) _
        refine sp_iload_n (p2 := 5) rfl rfl rfl ?_
        refine st_aald (v := .ref 32) rfl (qa_ne (by decide) (qa_ne (by decide) (qa_ne (by decide) (qa_ne (by decide) g_7)))) (by decide) rfl ?_
        show Ev _ _ _ (6, _, _, _) _
        refine sp_astore_n (p2 := 7) (lv2 := [(3, .ref 32), (0, .ref 17), (1, .ref 53), (2, .int 2)]) rfl rfl (by decide) rfl ?_
        refine sp_aload_n (p2 := 8) rfl rfl rfl ?_
        refine st_get rfl (ob_ne (by decide) (ob_ne (by decide) (ob_ne (by decide) (ob_ne (by decide) g_37)))) rfl ?_
        show Ev _ _ _ (11, _, _, _) _
        refine sp_iload_n (p2 := 12) rfl rfl rfl ?_
        refine sp_iconst (p2 := 13) (x := 0) rfl rfl (by decide) ?_
        refine st_iast (i := 48) rfl rfl (ia_ne (by decide) (ia_eq2 (sl_len (sl_len g_len)) (by decide))) rfl ?_
        show Ev _ _ _ (14, [(3, .ref 32), (0, .ref 17), (1, .ref 53), (2, .int 2)], [], (((((g.set 48 (.inl (0, .inl ((([0, 0, 0, 0] : List Int32)).set 0 0)))).set 49 (.inl (0, .inl (([s1, s2, s3, s4]).set 0 (-1))))).set 48 (.inl (0, .inl (((([0, 0, 0, 0] : List Int32)).set 0 0).set 1 0)))).set 49 (.inl (0, .inl ((([s1, s2, s3, s4]).set 0 (-1)).set 1 (-1))))).set 48 (.inl (0, .inl ((((([0, 0, 0, 0] : List Int32)).set 0 0).set 1 0).set 2 0))))) _
        refine sp_aload_n (p2 := 15) rfl rfl rfl ?_
        refine st_get rfl (ob_ne (by decide) (ob_ne (by decide) (ob_ne (by decide) (ob_ne (by decide) (ob_ne (by decide) g_37))))) rfl ?_
        show Ev _ _ _ (18, _, _, _) _
        refine sp_iload_n (p2 := 19) rfl rfl rfl ?_
        refine sp_iconst (p2 := 20) (x := (-1)) rfl rfl (by decide) ?_
        refine st_iast (i := 49) rfl rfl (ia_ne (by decide) (ia_eq2 (sl_len (sl_len (sl_len g_len))) (by decide))) rfl ?_
        show Ev _ _ _ (21, [(3, .ref 32), (0, .ref 17), (1, .ref 53), (2, .int 2)], [], ((((((g.set 48 (.inl (0, .inl ((([0, 0, 0, 0] : List Int32)).set 0 0)))).set 49 (.inl (0, .inl (([s1, s2, s3, s4]).set 0 (-1))))).set 48 (.inl (0, .inl (((([0, 0, 0, 0] : List Int32)).set 0 0).set 1 0)))).set 49 (.inl (0, .inl ((([s1, s2, s3, s4]).set 0 (-1)).set 1 (-1))))).set 48 (.inl (0, .inl ((((([0, 0, 0, 0] : List Int32)).set 0 0).set 1 0).set 2 0)))).set 49 (.inl (0, .inl (((([s1, s2, s3, s4]).set 0 (-1)).set 1 (-1)).set 2 (-1)))))) _
        refine sp_iconst (p2 := 22) (x := 0) rfl rfl (by decide) ?_
        refine sp_istore (p2 := 24) (lv2 := [(4, .int 0), (3, .ref 32), (0, .ref 17), (1, .ref 53), (2, .int 2)]) rfl rfl (by decide) rfl ?_
        refine sp_iconst (p2 := 25) (x := 0) rfl rfl (by decide) ?_
        refine sp_istore (p2 := 27) (lv2 := [(5, .int 0), (4, .int 0), (3, .ref 32), (0, .ref 17), (1, .ref 53), (2, .int 2)]) rfl rfl (by decide) rfl ?_
        refine sp_iload (p2 := 29) rfl rfl rfl ?_
        refine sp_aload_n (p2 := 30) rfl rfl rfl ?_
        refine st_get rfl (ob_ne (by decide) (ob_ne (by decide) (ob_ne (by decide) (ob_ne (by decide) (ob_ne (by decide) (ob_ne (by decide) g_16)))))) rfl ?_
        show Ev _ _ _ (33, _, _, _) _
        refine st_icmp (b := true) rfl (by decide) ?_
        show Ev _ _ _ (85, _, _, _) _
        refine sp_iload (p2 := 87) rfl rfl rfl ?_
        refine sp_aload_n (p2 := 88) rfl rfl rfl ?_
        refine st_get rfl (ob_ne (by decide) (ob_ne (by decide) (ob_ne (by decide) (ob_ne (by decide) (ob_ne (by decide) (ob_ne (by decide) g_37)))))) rfl ?_
        show Ev _ _ _ (91, _, _, _) _
        refine sp_aload_n (p2 := 92) rfl rfl rfl ?_
        refine st_get rfl (ob_ne (by decide) (ob_ne (by decide) (ob_ne (by decide) (ob_ne (by decide) (ob_ne (by decide) (ob_ne (by decide) g_16)))))) rfl ?_
        show Ev _ _ _ (95, _, _, _) _
        refine st_iald (x := 0) rfl (by decide) (ia_ne (by decide) (ia_ne (by decide) (ia_ne (by decide) (ia_ne (by decide) (ia_ne (by decide) (ia_ne (by decide) g_39)))))) rfl rfl ?_
        show Ev _ _ _ (96, _, _, _) _
        refine sp_min (p2 := 99) (z := 0) rfl rfl rfl (by decide) ?_
        refine sp_istore (p2 := 101) (lv2 := [(5, .int 0), (4, .int 0), (3, .ref 32), (0, .ref 17), (1, .ref 53), (2, .int 2)]) rfl rfl (by decide) rfl ?_
        refine sp_iload (p2 := 103) rfl rfl rfl ?_
        refine st_ifc (b := true) rfl (by decide) ?_
        show Ev _ _ _ (122, _, _, _) _
        exact sp_vret rfl rfl
      refine st_callV (R := 17) rfl rfl rfl (ob_ne (by decide) (ob_ne (by decide) (ob_ne (by decide) (ob_ne (by decide) g_1)))) rfl c3 ?_
      show Ev _ _ _ (13, [(2, .int 2), (0, .ref 17), (1, .ref 53)], [], ((((((g.set 48 (.inl (0, .inl ((([0, 0, 0, 0] : List Int32)).set 0 0)))).set 49 (.inl (0, .inl (([s1, s2, s3, s4]).set 0 (-1))))).set 48 (.inl (0, .inl (((([0, 0, 0, 0] : List Int32)).set 0 0).set 1 0)))).set 49 (.inl (0, .inl ((([s1, s2, s3, s4]).set 0 (-1)).set 1 (-1))))).set 48 (.inl (0, .inl ((((([0, 0, 0, 0] : List Int32)).set 0 0).set 1 0).set 2 0)))).set 49 (.inl (0, .inl (((([s1, s2, s3, s4]).set 0 (-1)).set 1 (-1)).set 2 (-1)))))) _
      refine sp_iinc (p2 := 16) (y := 3) (lv2 := [(2, .int 3), (0, .ref 17), (1, .ref 53)]) rfl rfl (by decide) rfl (by decide) rfl ?_
      refine sp_goto rfl ?_
      refine sp_iload_n (p2 := 3) rfl rfl rfl ?_
      refine sp_iconst (p2 := 4) (x := 4) rfl rfl (by decide) ?_
      refine st_icmp (b := false) rfl (by decide) ?_
      show Ev _ _ _ (7, _, _, _) _
      refine sp_aload_n (p2 := 8) rfl rfl rfl ?_
      refine sp_aload_n (p2 := 9) rfl rfl rfl ?_
      refine sp_iload_n (p2 := 10) rfl rfl rfl ?_
      have c4 : Ca 18 8 [.ref 17, .ref 53, .int 3] ((((((g.set 48 (.inl (0, .inl ((([0, 0, 0, 0] : List Int32)).set 0 0)))).set 49 (.inl (0, .inl (([s1, s2, s3, s4]).set 0 (-1))))).set 48 (.inl (0, .inl (((([0, 0, 0, 0] : List Int32)).set 0 0).set 1 0)))).set 49 (.inl (0, .inl ((([s1, s2, s3, s4]).set 0 (-1)).set 1 (-1))))).set 48 (.inl (0, .inl ((((([0, 0, 0, 0] : List Int32)).set 0 0).set 1 0).set 2 0)))).set 49 (.inl (0, .inl (((([s1, s2, s3, s4]).set 0 (-1)).set 1 (-1)).set 2 (-1))))) (none, ((((((((g.set 48 (.inl (0, .inl ((([0, 0, 0, 0] : List Int32)).set 0 0)))).set 49 (.inl (0, .inl (([s1, s2, s3, s4]).set 0 (-1))))).set 48 (.inl (0, .inl (((([0, 0, 0, 0] : List Int32)).set 0 0).set 1 0)))).set 49 (.inl (0, .inl ((([s1, s2, s3, s4]).set 0 (-1)).set 1 (-1))))).set 48 (.inl (0, .inl ((((([0, 0, 0, 0] : List Int32)).set 0 0).set 1 0).set 2 0)))).set 49 (.inl (0, .inl (((([s1, s2, s3, s4]).set 0 (-1)).set 1 (-1)).set 2 (-1))))).set 48 (.inl (0, .inl (((((([0, 0, 0, 0] : List Int32)).set 0 0).set 1 0).set 2 0).set 3 0)))).set 49 (.inl (0, .inl ((((([s1, s2, s3, s4]).set 0 (-1)).set 1 (-1)).set 2 (-1)).set 3 (-1)))))) := by
        refine ca_of (d := 17) (M := mX0_workRow) rfl (Nat.le_of_ble_eq_true rfl) ?_
        show Ev im_K0 17 mX0_workRow (0, [(0, .ref 17), (1, .ref 53), (2, .int 3)], [], ((((((g.set 48 (.inl (0, .inl ((([0, 0, 0, 0] : List Int32)).set 0 0)))).set 49 (.inl (0, .inl (([s1, s2, s3, s4]).set 0 (-1))))).set 48 (.inl (0, .inl (((([0, 0, 0, 0] : List Int32)).set 0 0).set 1 0)))).set 49 (.inl (0, .inl ((([s1, s2, s3, s4]).set 0 (-1)).set 1 (-1))))).set 48 (.inl (0, .inl ((((([0, 0, 0, 0] : List Int32)).set 0 0).set 1 0).set 2 0)))).set 49 (.inl (0, .inl (((([s1, s2, s3, s4]).set 0 (-1)).set 1 (-1)).set 2 (-1)))))) _
        refine sp_aload_n (p2 := 1) rfl rfl rfl ?_
        refine st_get rfl (ob_ne (by decide) (ob_ne (by decide) (ob_ne (by decide) (ob_ne (by decide) (ob_ne (by decide) (ob_ne (by decide) g_1)))))) rfl ?_
        show Ev _ _ _ (4, _, _, _) _
        refine sp_iload_n (p2 := 5) rfl rfl rfl ?_
        refine st_aald (v := .ref 34) rfl (qa_ne (by decide) (qa_ne (by decide) (qa_ne (by decide) (qa_ne (by decide) (qa_ne (by decide) (qa_ne (by decide) g_7)))))) (by decide) rfl ?_
        show Ev _ _ _ (6, _, _, _) _
        refine sp_astore_n (p2 := 7) (lv2 := [(3, .ref 34), (0, .ref 17), (1, .ref 53), (2, .int 3)]) rfl rfl (by decide) rfl ?_
        refine sp_aload_n (p2 := 8) rfl rfl rfl ?_
        refine st_get rfl (ob_ne (by decide) (ob_ne (by decide) (ob_ne (by decide) (ob_ne (by decide) (ob_ne (by decide) (ob_ne (by decide) g_37)))))) rfl ?_
        show Ev _ _ _ (11, _, _, _) _
        refine sp_iload_n (p2 := 12) rfl rfl rfl ?_
        refine sp_iconst (p2 := 13) (x := 0) rfl rfl (by decide) ?_
        refine st_iast (i := 48) rfl rfl (ia_ne (by decide) (ia_eq2 (sl_len (sl_len (sl_len (sl_len g_len)))) (by decide))) rfl ?_
        show Ev _ _ _ (14, [(3, .ref 34), (0, .ref 17), (1, .ref 53), (2, .int 3)], [], (((((((g.set 48 (.inl (0, .inl ((([0, 0, 0, 0] : List Int32)).set 0 0)))).set 49 (.inl (0, .inl (([s1, s2, s3, s4]).set 0 (-1))))).set 48 (.inl (0, .inl (((([0, 0, 0, 0] : List Int32)).set 0 0).set 1 0)))).set 49 (.inl (0, .inl ((([s1, s2, s3, s4]).set 0 (-1)).set 1 (-1))))).set 48 (.inl (0, .inl ((((([0, 0, 0, 0] : List Int32)).set 0 0).set 1 0).set 2 0)))).set 49 (.inl (0, .inl (((([s1, s2, s3, s4]).set 0 (-1)).set 1 (-1)).set 2 (-1))))).set 48 (.inl (0, .inl (((((([0, 0, 0, 0] : List Int32)).set 0 0).set 1 0).set 2 0).set 3 0))))) _
        refine sp_aload_n (p2 := 15) rfl rfl rfl ?_
        refine st_get rfl (ob_ne (by decide) (ob_ne (by decide) (ob_ne (by decide) (ob_ne (by decide) (ob_ne (by decide) (ob_ne (by decide) (ob_ne (by decide) g_37))))))) rfl ?_
        show Ev _ _ _ (18, _, _, _) _
        refine sp_iload_n (p2 := 19) rfl rfl rfl ?_
        refine sp_iconst (p2 := 20) (x := (-1)) rfl rfl (by decide) ?_
        refine st_iast (i := 49) rfl rfl (ia_ne (by decide) (ia_eq2 (sl_len (sl_len (sl_len (sl_len (sl_len g_len))))) (by decide))) rfl ?_
        show Ev _ _ _ (21, [(3, .ref 34), (0, .ref 17), (1, .ref 53), (2, .int 3)], [], ((((((((g.set 48 (.inl (0, .inl ((([0, 0, 0, 0] : List Int32)).set 0 0)))).set 49 (.inl (0, .inl (([s1, s2, s3, s4]).set 0 (-1))))).set 48 (.inl (0, .inl (((([0, 0, 0, 0] : List Int32)).set 0 0).set 1 0)))).set 49 (.inl (0, .inl ((([s1, s2, s3, s4]).set 0 (-1)).set 1 (-1))))).set 48 (.inl (0, .inl ((((([0, 0, 0, 0] : List Int32)).set 0 0).set 1 0).set 2 0)))).set 49 (.inl (0, .inl (((([s1, s2, s3, s4]).set 0 (-1)).set 1 (-1)).set 2 (-1))))).set 48 (.inl (0, .inl (((((([0, 0, 0, 0] : List Int32)).set 0 0).set 1 0).set 2 0).set 3 0)))).set 49 (.inl (0, .inl ((((([s1, s2, s3, s4]).set 0 (-1)).set 1 (-1)).set 2 (-1)).set 3 (-1)))))) _
        refine sp_iconst (p2 := 22) (x := 0) rfl rfl (by decide) ?_
        refine sp_istore (p2 := 24) (lv2 := [(4, .int 0), (3, .ref 34), (0, .ref 17), (1, .ref 53), (2, .int 3)]) rfl rfl (by decide) rfl ?_
        refine sp_iconst (p2 := 25) (x := 0) rfl rfl (by decide) ?_
        refine sp_istore (p2 := 27) (lv2 := [(5, .int 0), (4, .int 0), (3, .ref 34), (0, .ref 17), (1, .ref 53), (2, .int 3)]) rfl rfl (by decide) rfl ?_
        refine sp_iload (p2 := 29) rfl rfl rfl ?_
        refine sp_aload_n (p2 := 30) rfl rfl rfl ?_
        refine st_get rfl (ob_ne (by decide) (ob_ne (by decide) (ob_ne (by decide) (ob_ne (by decide) (ob_ne (by decide) (ob_ne (by decide) (ob_ne (by decide) (ob_ne (by decide) g_18)))))))) rfl ?_
        show Ev _ _ _ (33, _, _, _) _
        refine st_icmp (b := true) rfl (by decide) ?_
        show Ev _ _ _ (85, _, _, _) _
        refine sp_iload (p2 := 87) rfl rfl rfl ?_
        refine sp_aload_n (p2 := 88) rfl rfl rfl ?_
        refine st_get rfl (ob_ne (by decide) (ob_ne (by decide) (ob_ne (by decide) (ob_ne (by decide) (ob_ne (by decide) (ob_ne (by decide) (ob_ne (by decide) (ob_ne (by decide) g_37)))))))) rfl ?_
        show Ev _ _ _ (91, _, _, _) _
        refine sp_aload_n (p2 := 92) rfl rfl rfl ?_
        refine st_get rfl (ob_ne (by decide) (ob_ne (by decide) (ob_ne (by decide) (ob_ne (by decide) (ob_ne (by decide) (ob_ne (by decide) (ob_ne (by decide) (ob_ne (by decide) g_18)))))))) rfl ?_
        show Ev _ _ _ (95, _, _, _) _
        refine st_iald (x := 0) rfl (by decide) (ia_ne (by decide) (ia_ne (by decide) (ia_ne (by decide) (ia_ne (by decide) (ia_ne (by decide) (ia_ne (by decide) (ia_ne (by decide) (ia_ne (by decide) g_39)))))))) rfl rfl ?_
        show Ev _ _ _ (96, _, _, _) _
        refine sp_min (p2 := 99) (z := 0) rfl rfl rfl (by decide) ?_
        refine sp_istore (p2 := 101) (lv2 := [(5, .int 0), (4, .int 0), (3, .ref 34), (0, .ref 17), (1, .ref 53), (2, .int 3)]) rfl rfl (by decide) rfl ?_
        refine sp_iload (p2 := 103) rfl rfl rfl ?_
        refine st_ifc (b := true) rfl (by decide) ?_
        show Ev _ _ _ (122, _, _, _) _
        exact sp_vret rfl rfl
      refine st_callV (R := 17) rfl rfl rfl (ob_ne (by decide) (ob_ne (by decide) (ob_ne (by decide) (ob_ne (by decide) (ob_ne (by decide) (ob_ne (by decide) g_1)))))) rfl c4 ?_
      show Ev _ _ _ (13, [(2, .int 3), (0, .ref 17), (1, .ref 53)], [], ((((((((g.set 48 (.inl (0, .inl ((([0, 0, 0, 0] : List Int32)).set 0 0)))).set 49 (.inl (0, .inl (([s1, s2, s3, s4]).set 0 (-1))))).set 48 (.inl (0, .inl (((([0, 0, 0, 0] : List Int32)).set 0 0).set 1 0)))).set 49 (.inl (0, .inl ((([s1, s2, s3, s4]).set 0 (-1)).set 1 (-1))))).set 48 (.inl (0, .inl ((((([0, 0, 0, 0] : List Int32)).set 0 0).set 1 0).set 2 0)))).set 49 (.inl (0, .inl (((([s1, s2, s3, s4]).set 0 (-1)).set 1 (-1)).set 2 (-1))))).set 48 (.inl (0, .inl (((((([0, 0, 0, 0] : List Int32)).set 0 0).set 1 0).set 2 0).set 3 0)))).set 49 (.inl (0, .inl ((((([s1, s2, s3, s4]).set 0 (-1)).set 1 (-1)).set 2 (-1)).set 3 (-1)))))) _
      refine sp_iinc (p2 := 16) (y := 4) (lv2 := [(2, .int 4), (0, .ref 17), (1, .ref 53)]) rfl rfl (by decide) rfl (by decide) rfl ?_
      refine sp_goto rfl ?_
      refine sp_iload_n (p2 := 3) rfl rfl rfl ?_
      refine sp_iconst (p2 := 4) (x := 4) rfl rfl (by decide) ?_
      refine st_icmp (b := true) rfl (by decide) ?_
      show Ev _ _ _ (19, _, _, _) _
      refine sp_iconst (p2 := 20) (x := 0) rfl rfl (by decide) ?_
      refine sp_istore_n (p2 := 21) (lv2 := [(2, .int 0), (0, .ref 17), (1, .ref 53)]) rfl rfl (by decide) rfl ?_
      refine sp_iload_n (p2 := 22) rfl rfl rfl ?_
      refine sp_iconst (p2 := 23) (x := 3) rfl rfl (by decide) ?_
      refine st_icmp (b := false) rfl (by decide) ?_
      show Ev _ _ _ (26, _, _, _) _
      refine sp_aload_n (p2 := 27) rfl rfl rfl ?_
      refine sp_aload_n (p2 := 28) rfl rfl rfl ?_
      refine sp_iload_n (p2 := 29) rfl rfl rfl ?_
      have c5 : Ca 18 11 [.ref 17, .ref 53, .int 0] ((((((((g.set 48 (.inl (0, .inl ((([0, 0, 0, 0] : List Int32)).set 0 0)))).set 49 (.inl (0, .inl (([s1, s2, s3, s4]).set 0 (-1))))).set 48 (.inl (0, .inl (((([0, 0, 0, 0] : List Int32)).set 0 0).set 1 0)))).set 49 (.inl (0, .inl ((([s1, s2, s3, s4]).set 0 (-1)).set 1 (-1))))).set 48 (.inl (0, .inl ((((([0, 0, 0, 0] : List Int32)).set 0 0).set 1 0).set 2 0)))).set 49 (.inl (0, .inl (((([s1, s2, s3, s4]).set 0 (-1)).set 1 (-1)).set 2 (-1))))).set 48 (.inl (0, .inl (((((([0, 0, 0, 0] : List Int32)).set 0 0).set 1 0).set 2 0).set 3 0)))).set 49 (.inl (0, .inl ((((([s1, s2, s3, s4]).set 0 (-1)).set 1 (-1)).set 2 (-1)).set 3 (-1))))) (none, (((((((((g.set 48 (.inl (0, .inl ((([0, 0, 0, 0] : List Int32)).set 0 0)))).set 49 (.inl (0, .inl (([s1, s2, s3, s4]).set 0 (-1))))).set 48 (.inl (0, .inl (((([0, 0, 0, 0] : List Int32)).set 0 0).set 1 0)))).set 49 (.inl (0, .inl ((([s1, s2, s3, s4]).set 0 (-1)).set 1 (-1))))).set 48 (.inl (0, .inl ((((([0, 0, 0, 0] : List Int32)).set 0 0).set 1 0).set 2 0)))).set 49 (.inl (0, .inl (((([s1, s2, s3, s4]).set 0 (-1)).set 1 (-1)).set 2 (-1))))).set 48 (.inl (0, .inl (((((([0, 0, 0, 0] : List Int32)).set 0 0).set 1 0).set 2 0).set 3 0)))).set 49 (.inl (0, .inl ((((([s1, s2, s3, s4]).set 0 (-1)).set 1 (-1)).set 2 (-1)).set 3 (-1))))).set 50 (.inl (0, .inl ((([0, 0, 0] : List Int32)).set 0 0))))) := by
        refine ca_of (d := 17) (M := mX0_driveRail) rfl (Nat.le_of_ble_eq_true rfl) ?_
        show Ev im_K0 17 mX0_driveRail (0, [(0, .ref 17), (1, .ref 53), (2, .int 0)], [], ((((((((g.set 48 (.inl (0, .inl ((([0, 0, 0, 0] : List Int32)).set 0 0)))).set 49 (.inl (0, .inl (([s1, s2, s3, s4]).set 0 (-1))))).set 48 (.inl (0, .inl (((([0, 0, 0, 0] : List Int32)).set 0 0).set 1 0)))).set 49 (.inl (0, .inl ((([s1, s2, s3, s4]).set 0 (-1)).set 1 (-1))))).set 48 (.inl (0, .inl ((((([0, 0, 0, 0] : List Int32)).set 0 0).set 1 0).set 2 0)))).set 49 (.inl (0, .inl (((([s1, s2, s3, s4]).set 0 (-1)).set 1 (-1)).set 2 (-1))))).set 48 (.inl (0, .inl (((((([0, 0, 0, 0] : List Int32)).set 0 0).set 1 0).set 2 0).set 3 0)))).set 49 (.inl (0, .inl ((((([s1, s2, s3, s4]).set 0 (-1)).set 1 (-1)).set 2 (-1)).set 3 (-1)))))) _
        refine sp_aload_n (p2 := 1) rfl rfl rfl ?_
        refine st_get rfl (ob_ne (by decide) (ob_ne (by decide) (ob_ne (by decide) (ob_ne (by decide) (ob_ne (by decide) (ob_ne (by decide) (ob_ne (by decide) (ob_ne (by decide) g_1)))))))) rfl ?_
        show Ev _ _ _ (4, _, _, _) _
        refine sp_iload_n (p2 := 5) rfl rfl rfl ?_
        refine st_aald (v := .ref 36) rfl (qa_ne (by decide) (qa_ne (by decide) (qa_ne (by decide) (qa_ne (by decide) (qa_ne (by decide) (qa_ne (by decide) (qa_ne (by decide) (qa_ne (by decide) g_8)))))))) (by decide) rfl ?_
        show Ev _ _ _ (6, _, _, _) _
        refine sp_astore_n (p2 := 7) (lv2 := [(3, .ref 36), (0, .ref 17), (1, .ref 53), (2, .int 0)]) rfl rfl (by decide) rfl ?_
        refine sp_aload_n (p2 := 8) rfl rfl rfl ?_
        refine st_get rfl (ob_ne (by decide) (ob_ne (by decide) (ob_ne (by decide) (ob_ne (by decide) (ob_ne (by decide) (ob_ne (by decide) (ob_ne (by decide) (ob_ne (by decide) g_37)))))))) rfl ?_
        show Ev _ _ _ (11, _, _, _) _
        refine sp_iload_n (p2 := 12) rfl rfl rfl ?_
        refine sp_iconst (p2 := 13) (x := 0) rfl rfl (by decide) ?_
        refine st_iast (i := 50) rfl rfl (ia_ne (by decide) (ia_ne (by decide) (ia_ne (by decide) (ia_ne (by decide) (ia_ne (by decide) (ia_ne (by decide) (ia_ne (by decide) (ia_ne (by decide) g_50)))))))) rfl ?_
        show Ev _ _ _ (14, [(3, .ref 36), (0, .ref 17), (1, .ref 53), (2, .int 0)], [], (((((((((g.set 48 (.inl (0, .inl ((([0, 0, 0, 0] : List Int32)).set 0 0)))).set 49 (.inl (0, .inl (([s1, s2, s3, s4]).set 0 (-1))))).set 48 (.inl (0, .inl (((([0, 0, 0, 0] : List Int32)).set 0 0).set 1 0)))).set 49 (.inl (0, .inl ((([s1, s2, s3, s4]).set 0 (-1)).set 1 (-1))))).set 48 (.inl (0, .inl ((((([0, 0, 0, 0] : List Int32)).set 0 0).set 1 0).set 2 0)))).set 49 (.inl (0, .inl (((([s1, s2, s3, s4]).set 0 (-1)).set 1 (-1)).set 2 (-1))))).set 48 (.inl (0, .inl (((((([0, 0, 0, 0] : List Int32)).set 0 0).set 1 0).set 2 0).set 3 0)))).set 49 (.inl (0, .inl ((((([s1, s2, s3, s4]).set 0 (-1)).set 1 (-1)).set 2 (-1)).set 3 (-1))))).set 50 (.inl (0, .inl ((([0, 0, 0] : List Int32)).set 0 0))))) _
        refine sp_aload_n (p2 := 15) rfl rfl rfl ?_
        refine st_get rfl (ob_ne (by decide) (ob_ne (by decide) (ob_ne (by decide) (ob_ne (by decide) (ob_ne (by decide) (ob_ne (by decide) (ob_ne (by decide) (ob_ne (by decide) (ob_ne (by decide) g_20))))))))) rfl ?_
        show Ev _ _ _ (18, _, _, _) _
        refine sp_iconst (p2 := 19) (x := 2) rfl rfl (by decide) ?_
        refine st_icmp (b := false) rfl (by decide) ?_
        show Ev _ _ _ (22, _, _, _) _
        exact sp_vret rfl rfl
      refine st_callV (R := 17) rfl rfl rfl (ob_ne (by decide) (ob_ne (by decide) (ob_ne (by decide) (ob_ne (by decide) (ob_ne (by decide) (ob_ne (by decide) (ob_ne (by decide) (ob_ne (by decide) g_1)))))))) rfl c5 ?_
      show Ev _ _ _ (32, [(2, .int 0), (0, .ref 17), (1, .ref 53)], [], (((((((((g.set 48 (.inl (0, .inl ((([0, 0, 0, 0] : List Int32)).set 0 0)))).set 49 (.inl (0, .inl (([s1, s2, s3, s4]).set 0 (-1))))).set 48 (.inl (0, .inl (((([0, 0, 0, 0] : List Int32)).set 0 0).set 1 0)))).set 49 (.inl (0, .inl ((([s1, s2, s3, s4]).set 0 (-1)).set 1 (-1))))).set 48 (.inl (0, .inl ((((([0, 0, 0, 0] : List Int32)).set 0 0).set 1 0).set 2 0)))).set 49 (.inl (0, .inl (((([s1, s2, s3, s4]).set 0 (-1)).set 1 (-1)).set 2 (-1))))).set 48 (.inl (0, .inl (((((([0, 0, 0, 0] : List Int32)).set 0 0).set 1 0).set 2 0).set 3 0)))).set 49 (.inl (0, .inl ((((([s1, s2, s3, s4]).set 0 (-1)).set 1 (-1)).set 2 (-1)).set 3 (-1))))).set 50 (.inl (0, .inl ((([0, 0, 0] : List Int32)).set 0 0))))) _
      refine sp_iinc (p2 := 35) (y := 1) (lv2 := [(2, .int 1), (0, .ref 17), (1, .ref 53)]) rfl rfl (by decide) rfl (by decide) rfl ?_
      refine sp_goto rfl ?_
      refine sp_iload_n (p2 := 22) rfl rfl rfl ?_
      refine sp_iconst (p2 := 23) (x := 3) rfl rfl (by decide) ?_
      refine st_icmp (b := false) rfl (by decide) ?_
      show Ev _ _ _ (26, _, _, _) _
      refine sp_aload_n (p2 := 27) rfl rfl rfl ?_
      refine sp_aload_n (p2 := 28) rfl rfl rfl ?_
      refine sp_iload_n (p2 := 29) rfl rfl rfl ?_
      have c6 : Ca 18 11 [.ref 17, .ref 53, .int 1] (((((((((g.set 48 (.inl (0, .inl ((([0, 0, 0, 0] : List Int32)).set 0 0)))).set 49 (.inl (0, .inl (([s1, s2, s3, s4]).set 0 (-1))))).set 48 (.inl (0, .inl (((([0, 0, 0, 0] : List Int32)).set 0 0).set 1 0)))).set 49 (.inl (0, .inl ((([s1, s2, s3, s4]).set 0 (-1)).set 1 (-1))))).set 48 (.inl (0, .inl ((((([0, 0, 0, 0] : List Int32)).set 0 0).set 1 0).set 2 0)))).set 49 (.inl (0, .inl (((([s1, s2, s3, s4]).set 0 (-1)).set 1 (-1)).set 2 (-1))))).set 48 (.inl (0, .inl (((((([0, 0, 0, 0] : List Int32)).set 0 0).set 1 0).set 2 0).set 3 0)))).set 49 (.inl (0, .inl ((((([s1, s2, s3, s4]).set 0 (-1)).set 1 (-1)).set 2 (-1)).set 3 (-1))))).set 50 (.inl (0, .inl ((([0, 0, 0] : List Int32)).set 0 0)))) (none, ((((((((((g.set 48 (.inl (0, .inl ((([0, 0, 0, 0] : List Int32)).set 0 0)))).set 49 (.inl (0, .inl (([s1, s2, s3, s4]).set 0 (-1))))).set 48 (.inl (0, .inl (((([0, 0, 0, 0] : List Int32)).set 0 0).set 1 0)))).set 49 (.inl (0, .inl ((([s1, s2, s3, s4]).set 0 (-1)).set 1 (-1))))).set 48 (.inl (0, .inl ((((([0, 0, 0, 0] : List Int32)).set 0 0).set 1 0).set 2 0)))).set 49 (.inl (0, .inl (((([s1, s2, s3, s4]).set 0 (-1)).set 1 (-1)).set 2 (-1))))).set 48 (.inl (0, .inl (((((([0, 0, 0, 0] : List Int32)).set 0 0).set 1 0).set 2 0).set 3 0)))).set 49 (.inl (0, .inl ((((([s1, s2, s3, s4]).set 0 (-1)).set 1 (-1)).set 2 (-1)).set 3 (-1))))).set 50 (.inl (0, .inl ((([0, 0, 0] : List Int32)).set 0 0)))).set 50 (.inl (0, .inl (((([0, 0, 0] : List Int32)).set 0 0).set 1 0))))) := by
        refine ca_of (d := 17) (M := mX0_driveRail) rfl (Nat.le_of_ble_eq_true rfl) ?_
        show Ev im_K0 17 mX0_driveRail (0, [(0, .ref 17), (1, .ref 53), (2, .int 1)], [], (((((((((g.set 48 (.inl (0, .inl ((([0, 0, 0, 0] : List Int32)).set 0 0)))).set 49 (.inl (0, .inl (([s1, s2, s3, s4]).set 0 (-1))))).set 48 (.inl (0, .inl (((([0, 0, 0, 0] : List Int32)).set 0 0).set 1 0)))).set 49 (.inl (0, .inl ((([s1, s2, s3, s4]).set 0 (-1)).set 1 (-1))))).set 48 (.inl (0, .inl ((((([0, 0, 0, 0] : List Int32)).set 0 0).set 1 0).set 2 0)))).set 49 (.inl (0, .inl (((([s1, s2, s3, s4]).set 0 (-1)).set 1 (-1)).set 2 (-1))))).set 48 (.inl (0, .inl (((((([0, 0, 0, 0] : List Int32)).set 0 0).set 1 0).set 2 0).set 3 0)))).set 49 (.inl (0, .inl ((((([s1, s2, s3, s4]).set 0 (-1)).set 1 (-1)).set 2 (-1)).set 3 (-1))))).set 50 (.inl (0, .inl ((([0, 0, 0] : List Int32)).set 0 0))))) _
        refine sp_aload_n (p2 := 1) rfl rfl rfl ?_
        refine st_get rfl (ob_ne (by decide) (ob_ne (by decide) (ob_ne (by decide) (ob_ne (by decide) (ob_ne (by decide) (ob_ne (by decide) (ob_ne (by decide) (ob_ne (by decide) (ob_ne (by decide) g_1))))))))) rfl ?_
        show Ev _ _ _ (4, _, _, _) _
        refine sp_iload_n (p2 := 5) rfl rfl rfl ?_
        refine st_aald (v := .ref 37) rfl (qa_ne (by decide) (qa_ne (by decide) (qa_ne (by decide) (qa_ne (by decide) (qa_ne (by decide) (qa_ne (by decide) (qa_ne (by decide) (qa_ne (by decide) (qa_ne (by decide) g_8))))))))) (by decide) rfl ?_
        show Ev _ _ _ (6, _, _, _) _
        refine sp_astore_n (p2 := 7) (lv2 := [(3, .ref 37), (0, .ref 17), (1, .ref 53), (2, .int 1)]) rfl rfl (by decide) rfl ?_
        refine sp_aload_n (p2 := 8) rfl rfl rfl ?_
        refine st_get rfl (ob_ne (by decide) (ob_ne (by decide) (ob_ne (by decide) (ob_ne (by decide) (ob_ne (by decide) (ob_ne (by decide) (ob_ne (by decide) (ob_ne (by decide) (ob_ne (by decide) g_37))))))))) rfl ?_
        show Ev _ _ _ (11, _, _, _) _
        refine sp_iload_n (p2 := 12) rfl rfl rfl ?_
        refine sp_iconst (p2 := 13) (x := 0) rfl rfl (by decide) ?_
        refine st_iast (i := 50) rfl rfl (ia_eq2 (sl_len (sl_len (sl_len (sl_len (sl_len (sl_len (sl_len (sl_len g_len)))))))) (by decide)) rfl ?_
        show Ev _ _ _ (14, [(3, .ref 37), (0, .ref 17), (1, .ref 53), (2, .int 1)], [], ((((((((((g.set 48 (.inl (0, .inl ((([0, 0, 0, 0] : List Int32)).set 0 0)))).set 49 (.inl (0, .inl (([s1, s2, s3, s4]).set 0 (-1))))).set 48 (.inl (0, .inl (((([0, 0, 0, 0] : List Int32)).set 0 0).set 1 0)))).set 49 (.inl (0, .inl ((([s1, s2, s3, s4]).set 0 (-1)).set 1 (-1))))).set 48 (.inl (0, .inl ((((([0, 0, 0, 0] : List Int32)).set 0 0).set 1 0).set 2 0)))).set 49 (.inl (0, .inl (((([s1, s2, s3, s4]).set 0 (-1)).set 1 (-1)).set 2 (-1))))).set 48 (.inl (0, .inl (((((([0, 0, 0, 0] : List Int32)).set 0 0).set 1 0).set 2 0).set 3 0)))).set 49 (.inl (0, .inl ((((([s1, s2, s3, s4]).set 0 (-1)).set 1 (-1)).set 2 (-1)).set 3 (-1))))).set 50 (.inl (0, .inl ((([0, 0, 0] : List Int32)).set 0 0)))).set 50 (.inl (0, .inl (((([0, 0, 0] : List Int32)).set 0 0).set 1 0))))) _
        refine sp_aload_n (p2 := 15) rfl rfl rfl ?_
        refine st_get rfl (ob_ne (by decide) (ob_ne (by decide) (ob_ne (by decide) (ob_ne (by decide) (ob_ne (by decide) (ob_ne (by decide) (ob_ne (by decide) (ob_ne (by decide) (ob_ne (by decide) (ob_ne (by decide) g_21)))))))))) rfl ?_
        show Ev _ _ _ (18, _, _, _) _
        refine sp_iconst (p2 := 19) (x := 2) rfl rfl (by decide) ?_
        refine st_icmp (b := false) rfl (by decide) ?_
        show Ev _ _ _ (22, _, _, _) _
        exact sp_vret rfl rfl
      refine st_callV (R := 17) rfl rfl rfl (ob_ne (by decide) (ob_ne (by decide) (ob_ne (by decide) (ob_ne (by decide) (ob_ne (by decide) (ob_ne (by decide) (ob_ne (by decide) (ob_ne (by decide) (ob_ne (by decide) g_1))))))))) rfl c6 ?_
      show Ev _ _ _ (32, [(2, .int 1), (0, .ref 17), (1, .ref 53)], [], ((((((((((g.set 48 (.inl (0, .inl ((([0, 0, 0, 0] : List Int32)).set 0 0)))).set 49 (.inl (0, .inl (([s1, s2, s3, s4]).set 0 (-1))))).set 48 (.inl (0, .inl (((([0, 0, 0, 0] : List Int32)).set 0 0).set 1 0)))).set 49 (.inl (0, .inl ((([s1, s2, s3, s4]).set 0 (-1)).set 1 (-1))))).set 48 (.inl (0, .inl ((((([0, 0, 0, 0] : List Int32)).set 0 0).set 1 0).set 2 0)))).set 49 (.inl (0, .inl (((([s1, s2, s3, s4]).set 0 (-1)).set 1 (-1)).set 2 (-1))))).set 48 (.inl (0, .inl (((((([0, 0, 0, 0] : List Int32)).set 0 0).set 1 0).set 2 0).set 3 0)))).set 49 (.inl (0, .inl ((((([s1, s2, s3, s4]).set 0 (-1)).set 1 (-1)).set 2 (-1)).set 3 (-1))))).set 50 (.inl (0, .inl ((([0, 0, 0] : List Int32)).set 0 0)))).set 50 (.inl (0, .inl (((([0, 0, 0] : List Int32)).set 0 0).set 1 0))))) _
      refine sp_iinc (p2 := 35) (y := 2) (lv2 := [(2, .int 2), (0, .ref 17), (1, .ref 53)]) rfl rfl (by decide) rfl (by decide) rfl ?_
      refine sp_goto rfl ?_
      refine sp_iload_n (p2 := 22) rfl rfl rfl ?_
      refine sp_iconst (p2 := 23) (x := 3) rfl rfl (by decide) ?_
      refine st_icmp (b := false) rfl (by decide) ?_
      show Ev _ _ _ (26, _, _, _) _
      refine sp_aload_n (p2 := 27) rfl rfl rfl ?_
      refine sp_aload_n (p2 := 28) rfl rfl rfl ?_
      refine sp_iload_n (p2 := 29) rfl rfl rfl ?_
      have c7 : Ca 18 11 [.ref 17, .ref 53, .int 2] ((((((((((g.set 48 (.inl (0, .inl ((([0, 0, 0, 0] : List Int32)).set 0 0)))).set 49 (.inl (0, .inl (([s1, s2, s3, s4]).set 0 (-1))))).set 48 (.inl (0, .inl (((([0, 0, 0, 0] : List Int32)).set 0 0).set 1 0)))).set 49 (.inl (0, .inl ((([s1, s2, s3, s4]).set 0 (-1)).set 1 (-1))))).set 48 (.inl (0, .inl ((((([0, 0, 0, 0] : List Int32)).set 0 0).set 1 0).set 2 0)))).set 49 (.inl (0, .inl (((([s1, s2, s3, s4]).set 0 (-1)).set 1 (-1)).set 2 (-1))))).set 48 (.inl (0, .inl (((((([0, 0, 0, 0] : List Int32)).set 0 0).set 1 0).set 2 0).set 3 0)))).set 49 (.inl (0, .inl ((((([s1, s2, s3, s4]).set 0 (-1)).set 1 (-1)).set 2 (-1)).set 3 (-1))))).set 50 (.inl (0, .inl ((([0, 0, 0] : List Int32)).set 0 0)))).set 50 (.inl (0, .inl (((([0, 0, 0] : List Int32)).set 0 0).set 1 0)))) (none, (((((((((((g.set 48 (.inl (0, .inl ((([0, 0, 0, 0] : List Int32)).set 0 0)))).set 49 (.inl (0, .inl (([s1, s2, s3, s4]).set 0 (-1))))).set 48 (.inl (0, .inl (((([0, 0, 0, 0] : List Int32)).set 0 0).set 1 0)))).set 49 (.inl (0, .inl ((([s1, s2, s3, s4]).set 0 (-1)).set 1 (-1))))).set 48 (.inl (0, .inl ((((([0, 0, 0, 0] : List Int32)).set 0 0).set 1 0).set 2 0)))).set 49 (.inl (0, .inl (((([s1, s2, s3, s4]).set 0 (-1)).set 1 (-1)).set 2 (-1))))).set 48 (.inl (0, .inl (((((([0, 0, 0, 0] : List Int32)).set 0 0).set 1 0).set 2 0).set 3 0)))).set 49 (.inl (0, .inl ((((([s1, s2, s3, s4]).set 0 (-1)).set 1 (-1)).set 2 (-1)).set 3 (-1))))).set 50 (.inl (0, .inl ((([0, 0, 0] : List Int32)).set 0 0)))).set 50 (.inl (0, .inl (((([0, 0, 0] : List Int32)).set 0 0).set 1 0)))).set 50 (.inl (0, .inl ((((([0, 0, 0] : List Int32)).set 0 0).set 1 0).set 2 0))))) := by
        refine ca_of (d := 17) (M := mX0_driveRail) rfl (Nat.le_of_ble_eq_true rfl) ?_
        show Ev im_K0 17 mX0_driveRail (0, [(0, .ref 17), (1, .ref 53), (2, .int 2)], [], ((((((((((g.set 48 (.inl (0, .inl ((([0, 0, 0, 0] : List Int32)).set 0 0)))).set 49 (.inl (0, .inl (([s1, s2, s3, s4]).set 0 (-1))))).set 48 (.inl (0, .inl (((([0, 0, 0, 0] : List Int32)).set 0 0).set 1 0)))).set 49 (.inl (0, .inl ((([s1, s2, s3, s4]).set 0 (-1)).set 1 (-1))))).set 48 (.inl (0, .inl ((((([0, 0, 0, 0] : List Int32)).set 0 0).set 1 0).set 2 0)))).set 49 (.inl (0, .inl (((([s1, s2, s3, s4]).set 0 (-1)).set 1 (-1)).set 2 (-1))))).set 48 (.inl (0, .inl (((((([0, 0, 0, 0] : List Int32)).set 0 0).set 1 0).set 2 0).set 3 0)))).set 49 (.inl (0, .inl ((((([s1, s2, s3, s4]).set 0 (-1)).set 1 (-1)).set 2 (-1)).set 3 (-1))))).set 50 (.inl (0, .inl ((([0, 0, 0] : List Int32)).set 0 0)))).set 50 (.inl (0, .inl (((([0, 0, 0] : List Int32)).set 0 0).set 1 0))))) _
        refine sp_aload_n (p2 := 1) rfl rfl rfl ?_
        refine st_get rfl (ob_ne (by decide) (ob_ne (by decide) (ob_ne (by decide) (ob_ne (by decide) (ob_ne (by decide) (ob_ne (by decide) (ob_ne (by decide) (ob_ne (by decide) (ob_ne (by decide) (ob_ne (by decide) g_1)))))))))) rfl ?_
        show Ev _ _ _ (4, _, _, _) _
        refine sp_iload_n (p2 := 5) rfl rfl rfl ?_
        refine st_aald (v := .ref 38) rfl (qa_ne (by decide) (qa_ne (by decide) (qa_ne (by decide) (qa_ne (by decide) (qa_ne (by decide) (qa_ne (by decide) (qa_ne (by decide) (qa_ne (by decide) (qa_ne (by decide) (qa_ne (by decide) g_8)))))))))) (by decide) rfl ?_
        show Ev _ _ _ (6, _, _, _) _
        refine sp_astore_n (p2 := 7) (lv2 := [(3, .ref 38), (0, .ref 17), (1, .ref 53), (2, .int 2)]) rfl rfl (by decide) rfl ?_
        refine sp_aload_n (p2 := 8) rfl rfl rfl ?_
        refine st_get rfl (ob_ne (by decide) (ob_ne (by decide) (ob_ne (by decide) (ob_ne (by decide) (ob_ne (by decide) (ob_ne (by decide) (ob_ne (by decide) (ob_ne (by decide) (ob_ne (by decide) (ob_ne (by decide) g_37)))))))))) rfl ?_
        show Ev _ _ _ (11, _, _, _) _
        refine sp_iload_n (p2 := 12) rfl rfl rfl ?_
        refine sp_iconst (p2 := 13) (x := 0) rfl rfl (by decide) ?_
        refine st_iast (i := 50) rfl rfl (ia_eq2 (sl_len (sl_len (sl_len (sl_len (sl_len (sl_len (sl_len (sl_len (sl_len g_len))))))))) (by decide)) rfl ?_
        show Ev _ _ _ (14, [(3, .ref 38), (0, .ref 17), (1, .ref 53), (2, .int 2)], [], (((((((((((g.set 48 (.inl (0, .inl ((([0, 0, 0, 0] : List Int32)).set 0 0)))).set 49 (.inl (0, .inl (([s1, s2, s3, s4]).set 0 (-1))))).set 48 (.inl (0, .inl (((([0, 0, 0, 0] : List Int32)).set 0 0).set 1 0)))).set 49 (.inl (0, .inl ((([s1, s2, s3, s4]).set 0 (-1)).set 1 (-1))))).set 48 (.inl (0, .inl ((((([0, 0, 0, 0] : List Int32)).set 0 0).set 1 0).set 2 0)))).set 49 (.inl (0, .inl (((([s1, s2, s3, s4]).set 0 (-1)).set 1 (-1)).set 2 (-1))))).set 48 (.inl (0, .inl (((((([0, 0, 0, 0] : List Int32)).set 0 0).set 1 0).set 2 0).set 3 0)))).set 49 (.inl (0, .inl ((((([s1, s2, s3, s4]).set 0 (-1)).set 1 (-1)).set 2 (-1)).set 3 (-1))))).set 50 (.inl (0, .inl ((([0, 0, 0] : List Int32)).set 0 0)))).set 50 (.inl (0, .inl (((([0, 0, 0] : List Int32)).set 0 0).set 1 0)))).set 50 (.inl (0, .inl ((((([0, 0, 0] : List Int32)).set 0 0).set 1 0).set 2 0))))) _
        refine sp_aload_n (p2 := 15) rfl rfl rfl ?_
        refine st_get rfl (ob_ne (by decide) (ob_ne (by decide) (ob_ne (by decide) (ob_ne (by decide) (ob_ne (by decide) (ob_ne (by decide) (ob_ne (by decide) (ob_ne (by decide) (ob_ne (by decide) (ob_ne (by decide) (ob_ne (by decide) g_22))))))))))) rfl ?_
        show Ev _ _ _ (18, _, _, _) _
        refine sp_iconst (p2 := 19) (x := 2) rfl rfl (by decide) ?_
        refine st_icmp (b := false) rfl (by decide) ?_
        show Ev _ _ _ (22, _, _, _) _
        exact sp_vret rfl rfl
      refine st_callV (R := 17) rfl rfl rfl (ob_ne (by decide) (ob_ne (by decide) (ob_ne (by decide) (ob_ne (by decide) (ob_ne (by decide) (ob_ne (by decide) (ob_ne (by decide) (ob_ne (by decide) (ob_ne (by decide) (ob_ne (by decide) g_1)))))))))) rfl c7 ?_
      show Ev _ _ _ (32, [(2, .int 2), (0, .ref 17), (1, .ref 53)], [], (((((((((((g.set 48 (.inl (0, .inl ((([0, 0, 0, 0] : List Int32)).set 0 0)))).set 49 (.inl (0, .inl (([s1, s2, s3, s4]).set 0 (-1))))).set 48 (.inl (0, .inl (((([0, 0, 0, 0] : List Int32)).set 0 0).set 1 0)))).set 49 (.inl (0, .inl ((([s1, s2, s3, s4]).set 0 (-1)).set 1 (-1))))).set 48 (.inl (0, .inl ((((([0, 0, 0, 0] : List Int32)).set 0 0).set 1 0).set 2 0)))).set 49 (.inl (0, .inl (((([s1, s2, s3, s4]).set 0 (-1)).set 1 (-1)).set 2 (-1))))).set 48 (.inl (0, .inl (((((([0, 0, 0, 0] : List Int32)).set 0 0).set 1 0).set 2 0).set 3 0)))).set 49 (.inl (0, .inl ((((([s1, s2, s3, s4]).set 0 (-1)).set 1 (-1)).set 2 (-1)).set 3 (-1))))).set 50 (.inl (0, .inl ((([0, 0, 0] : List Int32)).set 0 0)))).set 50 (.inl (0, .inl (((([0, 0, 0] : List Int32)).set 0 0).set 1 0)))).set 50 (.inl (0, .inl ((((([0, 0, 0] : List Int32)).set 0 0).set 1 0).set 2 0))))) _
      refine sp_iinc (p2 := 35) (y := 3) (lv2 := [(2, .int 3), (0, .ref 17), (1, .ref 53)]) rfl rfl (by decide) rfl (by decide) rfl ?_
      refine sp_goto rfl ?_
      refine sp_iload_n (p2 := 22) rfl rfl rfl ?_
      refine sp_iconst (p2 := 23) (x := 3) rfl rfl (by decide) ?_
      refine st_icmp (b := true) rfl (by decide) ?_
      show Ev _ _ _ (38, _, _, _) _
      refine sp_iconst (p2 := 39) (x := 0) rfl rfl (by decide) ?_
      refine sp_istore_n (p2 := 40) (lv2 := [(2, .int 0), (0, .ref 17), (1, .ref 53)]) rfl rfl (by decide) rfl ?_
      refine sp_iload_n (p2 := 41) rfl rfl rfl ?_
      refine sp_aload_n (p2 := 42) rfl rfl rfl ?_
      refine st_get rfl (ob_ne (by decide) (ob_ne (by decide) (ob_ne (by decide) (ob_ne (by decide) (ob_ne (by decide) (ob_ne (by decide) (ob_ne (by decide) (ob_ne (by decide) (ob_ne (by decide) (ob_ne (by decide) (ob_ne (by decide) g_1))))))))))) rfl ?_
      show Ev _ _ _ (45, _, _, _) _
      refine st_icmp (b := true) rfl (by decide) ?_
      show Ev _ _ _ (79, _, _, _) _
      refine sp_iconst (p2 := 80) (x := 0) rfl rfl (by decide) ?_
      refine sp_istore_n (p2 := 81) (lv2 := [(2, .int 0), (0, .ref 17), (1, .ref 53)]) rfl rfl (by decide) rfl ?_
      refine sp_iload_n (p2 := 82) rfl rfl rfl ?_
      refine sp_aload_n (p2 := 83) rfl rfl rfl ?_
      refine st_get rfl (ob_ne (by decide) (ob_ne (by decide) (ob_ne (by decide) (ob_ne (by decide) (ob_ne (by decide) (ob_ne (by decide) (ob_ne (by decide) (ob_ne (by decide) (ob_ne (by decide) (ob_ne (by decide) (ob_ne (by decide) g_1))))))))))) rfl ?_
      show Ev _ _ _ (86, _, _, _) _
      refine st_icmp (b := true) rfl (by decide) ?_
      show Ev _ _ _ (125, _, _, _) _
      refine sp_aload_n (p2 := 126) rfl rfl rfl ?_
      refine st_get rfl (ob_ne (by decide) (ob_ne (by decide) (ob_ne (by decide) (ob_ne (by decide) (ob_ne (by decide) (ob_ne (by decide) (ob_ne (by decide) (ob_ne (by decide) (ob_ne (by decide) (ob_ne (by decide) (ob_ne (by decide) g_37))))))))))) rfl ?_
      show Ev _ _ _ (129, _, _, _) _
      refine sp_bipush (p2 := 131) (x := 7) rfl rfl (by decide) ?_
      have f1 : Int32.toInt (d - d / 7 * 7) = Int32.toInt d % 7 := i32_rem7 (by omega)
      refine sp_irem (p2 := 132) (z := (d - d / 7 * 7)) rfl rfl (by decide) rfl ?_
      refine sp_bipush (p2 := 134) (x := 6) rfl rfl (by decide) ?_
      refine st_icmp (b := false) rfl (cn_ne_F rfl (show Int32.toInt 6 = 6 from rfl) (by omega)) ?_
      show Ev _ _ _ (137, _, _, _) _
      refine sp_aload_n (p2 := 138) rfl rfl rfl ?_
      refine sp_aload_n (p2 := 139) rfl rfl rfl ?_
      have c8 : Ca 18 15 [.ref 17, .ref 53] (((((((((((g.set 48 (.inl (0, .inl ((([0, 0, 0, 0] : List Int32)).set 0 0)))).set 49 (.inl (0, .inl (([s1, s2, s3, s4]).set 0 (-1))))).set 48 (.inl (0, .inl (((([0, 0, 0, 0] : List Int32)).set 0 0).set 1 0)))).set 49 (.inl (0, .inl ((([s1, s2, s3, s4]).set 0 (-1)).set 1 (-1))))).set 48 (.inl (0, .inl ((((([0, 0, 0, 0] : List Int32)).set 0 0).set 1 0).set 2 0)))).set 49 (.inl (0, .inl (((([s1, s2, s3, s4]).set 0 (-1)).set 1 (-1)).set 2 (-1))))).set 48 (.inl (0, .inl (((((([0, 0, 0, 0] : List Int32)).set 0 0).set 1 0).set 2 0).set 3 0)))).set 49 (.inl (0, .inl ((((([s1, s2, s3, s4]).set 0 (-1)).set 1 (-1)).set 2 (-1)).set 3 (-1))))).set 50 (.inl (0, .inl ((([0, 0, 0] : List Int32)).set 0 0)))).set 50 (.inl (0, .inl (((([0, 0, 0] : List Int32)).set 0 0).set 1 0)))).set 50 (.inl (0, .inl ((((([0, 0, 0] : List Int32)).set 0 0).set 1 0).set 2 0)))) (none, (((((((((((g.set 48 (.inl (0, .inl ((([0, 0, 0, 0] : List Int32)).set 0 0)))).set 49 (.inl (0, .inl (([s1, s2, s3, s4]).set 0 (-1))))).set 48 (.inl (0, .inl (((([0, 0, 0, 0] : List Int32)).set 0 0).set 1 0)))).set 49 (.inl (0, .inl ((([s1, s2, s3, s4]).set 0 (-1)).set 1 (-1))))).set 48 (.inl (0, .inl ((((([0, 0, 0, 0] : List Int32)).set 0 0).set 1 0).set 2 0)))).set 49 (.inl (0, .inl (((([s1, s2, s3, s4]).set 0 (-1)).set 1 (-1)).set 2 (-1))))).set 48 (.inl (0, .inl (((((([0, 0, 0, 0] : List Int32)).set 0 0).set 1 0).set 2 0).set 3 0)))).set 49 (.inl (0, .inl ((((([s1, s2, s3, s4]).set 0 (-1)).set 1 (-1)).set 2 (-1)).set 3 (-1))))).set 50 (.inl (0, .inl ((([0, 0, 0] : List Int32)).set 0 0)))).set 50 (.inl (0, .inl (((([0, 0, 0] : List Int32)).set 0 0).set 1 0)))).set 50 (.inl (0, .inl ((((([0, 0, 0] : List Int32)).set 0 0).set 1 0).set 2 0))))) := by
        refine ca_of (d := 17) (M := mX0_heal) rfl (Nat.le_of_ble_eq_true rfl) ?_
        show Ev im_K0 17 mX0_heal (0, [(0, .ref 17), (1, .ref 53)], [], (((((((((((g.set 48 (.inl (0, .inl ((([0, 0, 0, 0] : List Int32)).set 0 0)))).set 49 (.inl (0, .inl (([s1, s2, s3, s4]).set 0 (-1))))).set 48 (.inl (0, .inl (((([0, 0, 0, 0] : List Int32)).set 0 0).set 1 0)))).set 49 (.inl (0, .inl ((([s1, s2, s3, s4]).set 0 (-1)).set 1 (-1))))).set 48 (.inl (0, .inl ((((([0, 0, 0, 0] : List Int32)).set 0 0).set 1 0).set 2 0)))).set 49 (.inl (0, .inl (((([s1, s2, s3, s4]).set 0 (-1)).set 1 (-1)).set 2 (-1))))).set 48 (.inl (0, .inl (((((([0, 0, 0, 0] : List Int32)).set 0 0).set 1 0).set 2 0).set 3 0)))).set 49 (.inl (0, .inl ((((([s1, s2, s3, s4]).set 0 (-1)).set 1 (-1)).set 2 (-1)).set 3 (-1))))).set 50 (.inl (0, .inl ((([0, 0, 0] : List Int32)).set 0 0)))).set 50 (.inl (0, .inl (((([0, 0, 0] : List Int32)).set 0 0).set 1 0)))).set 50 (.inl (0, .inl ((((([0, 0, 0] : List Int32)).set 0 0).set 1 0).set 2 0))))) _
        refine sp_iconst (p2 := 1) (x := 0) rfl rfl (by decide) ?_
        refine sp_istore_n (p2 := 2) (lv2 := [(2, .int 0), (0, .ref 17), (1, .ref 53)]) rfl rfl (by decide) rfl ?_
        refine sp_iload_n (p2 := 3) rfl rfl rfl ?_
        refine sp_aload_n (p2 := 4) rfl rfl rfl ?_
        refine st_get rfl (ob_ne (by decide) (ob_ne (by decide) (ob_ne (by decide) (ob_ne (by decide) (ob_ne (by decide) (ob_ne (by decide) (ob_ne (by decide) (ob_ne (by decide) (ob_ne (by decide) (ob_ne (by decide) (ob_ne (by decide) g_1))))))))))) rfl ?_
        show Ev _ _ _ (7, _, _, _) _
        refine st_icmp (b := true) rfl (by decide) ?_
        show Ev _ _ _ (44, _, _, _) _
        exact sp_vret rfl rfl
      refine st_callV (R := 17) rfl rfl rfl (ob_ne (by decide) (ob_ne (by decide) (ob_ne (by decide) (ob_ne (by decide) (ob_ne (by decide) (ob_ne (by decide) (ob_ne (by decide) (ob_ne (by decide) (ob_ne (by decide) (ob_ne (by decide) (ob_ne (by decide) g_1))))))))))) rfl c8 ?_
      show Ev _ _ _ (142, [(2, .int 0), (0, .ref 17), (1, .ref 53)], [], (((((((((((g.set 48 (.inl (0, .inl ((([0, 0, 0, 0] : List Int32)).set 0 0)))).set 49 (.inl (0, .inl (([s1, s2, s3, s4]).set 0 (-1))))).set 48 (.inl (0, .inl (((([0, 0, 0, 0] : List Int32)).set 0 0).set 1 0)))).set 49 (.inl (0, .inl ((([s1, s2, s3, s4]).set 0 (-1)).set 1 (-1))))).set 48 (.inl (0, .inl ((((([0, 0, 0, 0] : List Int32)).set 0 0).set 1 0).set 2 0)))).set 49 (.inl (0, .inl (((([s1, s2, s3, s4]).set 0 (-1)).set 1 (-1)).set 2 (-1))))).set 48 (.inl (0, .inl (((((([0, 0, 0, 0] : List Int32)).set 0 0).set 1 0).set 2 0).set 3 0)))).set 49 (.inl (0, .inl ((((([s1, s2, s3, s4]).set 0 (-1)).set 1 (-1)).set 2 (-1)).set 3 (-1))))).set 50 (.inl (0, .inl ((([0, 0, 0] : List Int32)).set 0 0)))).set 50 (.inl (0, .inl (((([0, 0, 0] : List Int32)).set 0 0).set 1 0)))).set 50 (.inl (0, .inl ((((([0, 0, 0] : List Int32)).set 0 0).set 1 0).set 2 0))))) _
      refine sp_aload_n (p2 := 143) rfl rfl rfl ?_
      refine sp_dup (p2 := 144) rfl rfl rfl ?_
      refine st_get rfl (ob_ne (by decide) (ob_ne (by decide) (ob_ne (by decide) (ob_ne (by decide) (ob_ne (by decide) (ob_ne (by decide) (ob_ne (by decide) (ob_ne (by decide) (ob_ne (by decide) (ob_ne (by decide) (ob_ne (by decide) g_37))))))))))) rfl ?_
      show Ev _ _ _ (147, _, _, _) _
      refine sp_iconst (p2 := 148) (x := 1) rfl rfl (by decide) ?_
      have f2 : Int32.toInt (d + 1) = Int32.toInt d + 1 := i32_addE (show Int32.toInt 1 = 1 from rfl) (by omega) (by omega)
      refine sp_iadd (p2 := 149) (z := (d + 1)) rfl rfl rfl ?_
      refine st_put (i := 37) rfl rfl (ob_ne (by decide) (ob_ne (by decide) (ob_ne (by decide) (ob_ne (by decide) (ob_ne (by decide) (ob_ne (by decide) (ob_ne (by decide) (ob_ne (by decide) (ob_ne (by decide) (ob_ne (by decide) (ob_ne (by decide) g_37))))))))))) rfl rfl (Nat.le_of_ble_eq_true rfl) ?_
      show Ev _ _ _ (152, [(2, .int 0), (0, .ref 17), (1, .ref 53)], [], ((((((((((((g.set 48 (.inl (0, .inl ((([0, 0, 0, 0] : List Int32)).set 0 0)))).set 49 (.inl (0, .inl (([s1, s2, s3, s4]).set 0 (-1))))).set 48 (.inl (0, .inl (((([0, 0, 0, 0] : List Int32)).set 0 0).set 1 0)))).set 49 (.inl (0, .inl ((([s1, s2, s3, s4]).set 0 (-1)).set 1 (-1))))).set 48 (.inl (0, .inl ((((([0, 0, 0, 0] : List Int32)).set 0 0).set 1 0).set 2 0)))).set 49 (.inl (0, .inl (((([s1, s2, s3, s4]).set 0 (-1)).set 1 (-1)).set 2 (-1))))).set 48 (.inl (0, .inl (((((([0, 0, 0, 0] : List Int32)).set 0 0).set 1 0).set 2 0).set 3 0)))).set 49 (.inl (0, .inl ((((([s1, s2, s3, s4]).set 0 (-1)).set 1 (-1)).set 2 (-1)).set 3 (-1))))).set 50 (.inl (0, .inl ((([0, 0, 0] : List Int32)).set 0 0)))).set 50 (.inl (0, .inl (((([0, 0, 0] : List Int32)).set 0 0).set 1 0)))).set 50 (.inl (0, .inl ((((([0, 0, 0] : List Int32)).set 0 0).set 1 0).set 2 0)))).set 37 (.inr (9, [.int ((d + 1)), .int 0, .int 0, .int 0, .int 0, .ref 54, .ref 55, .ref 56, .ref 57, .ref 58, .ref 59, .ref 60, .ref 61, .ref 62, .ref 63, .ref 64, .ref 65, .ref 66])))) _
      exact sp_vret rfl rfl
    · exact ⟨(sl_len (sl_len (sl_len (sl_len (sl_len (sl_len (sl_len (sl_len (sl_len (sl_len (sl_len (sl_len g_len)))))))))))), (fr_set (by decide) (fr_set (by decide) (fr_set (by decide) (fr_set (by decide) (fr_set (by decide) (fr_set (by decide) (fr_set (by decide) (fr_set (by decide) (fr_set (by decide) (fr_set (by decide) (fr_set (by decide) (fr_set (by decide) fr)))))))))))), (ob_ne (by decide) (ob_ne (by decide) (ob_ne (by decide) (ob_ne (by decide) (ob_ne (by decide) (ob_ne (by decide) (ob_ne (by decide) (ob_ne (by decide) (ob_ne (by decide) (ob_ne (by decide) (ob_ne (by decide) (ob_ne (by decide) g_0)))))))))))), (ob_ne (by decide) (ob_ne (by decide) (ob_ne (by decide) (ob_ne (by decide) (ob_ne (by decide) (ob_ne (by decide) (ob_ne (by decide) (ob_ne (by decide) (ob_ne (by decide) (ob_ne (by decide) (ob_ne (by decide) (ob_ne (by decide) g_1)))))))))))), (qa_ne (by decide) (qa_ne (by decide) (qa_ne (by decide) (qa_ne (by decide) (qa_ne (by decide) (qa_ne (by decide) (qa_ne (by decide) (qa_ne (by decide) (qa_ne (by decide) (qa_ne (by decide) (qa_ne (by decide) (qa_ne (by decide) g_7)))))))))))), (qa_ne (by decide) (qa_ne (by decide) (qa_ne (by decide) (qa_ne (by decide) (qa_ne (by decide) (qa_ne (by decide) (qa_ne (by decide) (qa_ne (by decide) (qa_ne (by decide) (qa_ne (by decide) (qa_ne (by decide) (qa_ne (by decide) g_8)))))))))))), (ob_ne (by decide) (ob_ne (by decide) (ob_ne (by decide) (ob_ne (by decide) (ob_ne (by decide) (ob_ne (by decide) (ob_ne (by decide) (ob_ne (by decide) (ob_ne (by decide) (ob_ne (by decide) (ob_ne (by decide) (ob_ne (by decide) g_12)))))))))))), (ob_ne (by decide) (ob_ne (by decide) (ob_ne (by decide) (ob_ne (by decide) (ob_ne (by decide) (ob_ne (by decide) (ob_ne (by decide) (ob_ne (by decide) (ob_ne (by decide) (ob_ne (by decide) (ob_ne (by decide) (ob_ne (by decide) g_14)))))))))))), (ob_ne (by decide) (ob_ne (by decide) (ob_ne (by decide) (ob_ne (by decide) (ob_ne (by decide) (ob_ne (by decide) (ob_ne (by decide) (ob_ne (by decide) (ob_ne (by decide) (ob_ne (by decide) (ob_ne (by decide) (ob_ne (by decide) g_16)))))))))))), (ob_ne (by decide) (ob_ne (by decide) (ob_ne (by decide) (ob_ne (by decide) (ob_ne (by decide) (ob_ne (by decide) (ob_ne (by decide) (ob_ne (by decide) (ob_ne (by decide) (ob_ne (by decide) (ob_ne (by decide) (ob_ne (by decide) g_18)))))))))))), (ob_ne (by decide) (ob_ne (by decide) (ob_ne (by decide) (ob_ne (by decide) (ob_ne (by decide) (ob_ne (by decide) (ob_ne (by decide) (ob_ne (by decide) (ob_ne (by decide) (ob_ne (by decide) (ob_ne (by decide) (ob_ne (by decide) g_20)))))))))))), (ob_ne (by decide) (ob_ne (by decide) (ob_ne (by decide) (ob_ne (by decide) (ob_ne (by decide) (ob_ne (by decide) (ob_ne (by decide) (ob_ne (by decide) (ob_ne (by decide) (ob_ne (by decide) (ob_ne (by decide) (ob_ne (by decide) g_21)))))))))))), (ob_ne (by decide) (ob_ne (by decide) (ob_ne (by decide) (ob_ne (by decide) (ob_ne (by decide) (ob_ne (by decide) (ob_ne (by decide) (ob_ne (by decide) (ob_ne (by decide) (ob_ne (by decide) (ob_ne (by decide) (ob_ne (by decide) g_22)))))))))))), (ob_ne (by decide) (ob_ne (by decide) (ob_ne (by decide) (ob_ne (by decide) (ob_ne (by decide) (ob_ne (by decide) (ob_ne (by decide) (ob_ne (by decide) (ob_ne (by decide) (ob_ne (by decide) (ob_ne (by decide) (ob_ne (by decide) g_23)))))))))))), (ia_ne (by decide) (ia_ne (by decide) (ia_ne (by decide) (ia_ne (by decide) (ia_ne (by decide) (ia_ne (by decide) (ia_ne (by decide) (ia_ne (by decide) (ia_ne (by decide) (ia_ne (by decide) (ia_ne (by decide) (ia_ne (by decide) g_24)))))))))))), (ia_ne (by decide) (ia_ne (by decide) (ia_ne (by decide) (ia_ne (by decide) (ia_ne (by decide) (ia_ne (by decide) (ia_ne (by decide) (ia_ne (by decide) (ia_ne (by decide) (ia_ne (by decide) (ia_ne (by decide) (ia_ne (by decide) g_30)))))))))))), (ob_eq2 (sl_len (sl_len (sl_len (sl_len (sl_len (sl_len (sl_len (sl_len (sl_len (sl_len (sl_len g_len))))))))))) (by decide)), (ia_ne (by decide) (ia_ne (by decide) (ia_ne (by decide) (ia_ne (by decide) (ia_ne (by decide) (ia_ne (by decide) (ia_ne (by decide) (ia_ne (by decide) (ia_ne (by decide) (ia_ne (by decide) (ia_ne (by decide) (ia_ne (by decide) g_38)))))))))))), (ia_ne (by decide) (ia_ne (by decide) (ia_ne (by decide) (ia_ne (by decide) (ia_ne (by decide) (ia_ne (by decide) (ia_ne (by decide) (ia_ne (by decide) (ia_ne (by decide) (ia_ne (by decide) (ia_ne (by decide) (ia_ne (by decide) g_39)))))))))))), (ia_ne (by decide) (ia_ne (by decide) (ia_ne (by decide) (ia_ne (by decide) (ia_ne (by decide) (ia_ne (by decide) (ia_ne (by decide) (ia_ne (by decide) (ia_ne (by decide) (ia_ne (by decide) (ia_ne (by decide) (ia_ne (by decide) g_41)))))))))))), (ia_ne (by decide) (ia_ne (by decide) (ia_ne (by decide) (ia_ne (by decide) (ia_ne (by decide) (ia_ne (by decide) (ia_ne (by decide) (ia_ne (by decide) (ia_ne (by decide) (ia_ne (by decide) (ia_ne (by decide) (ia_ne (by decide) g_44)))))))))))), (ia_ne (by decide) (ia_ne (by decide) (ia_ne (by decide) (ia_ne (by decide) (ia_ne (by decide) (ia_eq2 (sl_len (sl_len (sl_len (sl_len (sl_len (sl_len g_len)))))) (by decide))))))), (ia_ne (by decide) (ia_eq2 (sl_len (sl_len (sl_len (sl_len (sl_len (sl_len (sl_len (sl_len (sl_len (sl_len g_len)))))))))) (by decide))), ⟨_, _, _, _, (ia_ne (by decide) (ia_ne (by decide) (ia_ne (by decide) (ia_ne (by decide) (ia_eq2 (sl_len (sl_len (sl_len (sl_len (sl_len (sl_len (sl_len g_len))))))) (by decide))))))⟩⟩
set_option maxRecDepth 20000 in
set_option maxHeartbeats 4000000 in
theorem besX_lp (x2 : Int32) (x1 : Int32) (h60 : x1.toInt ≤ 60) (out : ∀ g : im_H, Paside g x1 → ∃ g1 : im_H, Ev im_K0 19 mX11_beside (50, [(3, .int x1), (0, .ref 16), (1, .int x1), (2, .int x2)], [], g) (some (.long 0), g1) ∧ (g1.length = 200 ∧ (∀ i, 148 ≤ i → g1[i]? = hh[i]?))) : ∀ (m : Nat) (g : im_H) (d : Int32), Paside g d → 0 ≤ d.toInt → d.toInt + m = x1.toInt → ∃ g1 : im_H, Ev im_K0 19 mX11_beside (50, [(3, .int d), (0, .ref 16), (1, .int x1), (2, .int x2)], [], g) (some (.long 0), g1) ∧ (g1.length = 200 ∧ (∀ i, 148 ≤ i → g1[i]? = hh[i]?)) := by
  intro m
  induction m with
  | zero =>
    intro g d hp d0 hm
    have e : d = x1 := i32_ext (by omega)
    rw [e] at hp ⊢
    exact out g hp
  | succ m ih =>
    intro g d hp d0 hm
    obtain ⟨g2, hc, hp2⟩ := pd_aside g d hp d0 (by omega)
    have fd : Int32.toInt (d + 1) = Int32.toInt d + 1 := i32_addE (show Int32.toInt 1 = 1 from rfl) (by omega) (by omega)
    obtain ⟨g1, he, hq⟩ := ih g2 (d + 1) hp2 (by omega) (by omega)
    obtain ⟨g_len, fr, g_0, g_1, g_7, g_8, g_12, g_14, g_16, g_18, g_20, g_21, g_22, g_23, g_24, g_30, g_37, g_38, g_39, g_41, g_44, g_48, g_50, ⟨s1, s2, s3, s4, g_49⟩⟩ := hp
    refine ⟨g1, ?_, hq⟩
    refine sp_iload_n (p2 := 51) rfl rfl rfl ?_
    refine sp_iload_n (p2 := 52) rfl rfl rfl ?_
    refine st_icmp (b := false) rfl (cn_ge_F rfl rfl (by omega)) ?_
    show Ev _ _ _ (55, _, _, _) _
    refine sp_aload_n (p2 := 56) rfl rfl rfl ?_
    refine st_get rfl g_0 rfl ?_
    show Ev _ _ _ (59, _, _, _) _
    refine sp_aload_n (p2 := 60) rfl rfl rfl ?_
    refine st_get rfl g_0 rfl ?_
    show Ev _ _ _ (63, _, _, _) _
    refine st_callV (R := 17) rfl rfl rfl g_1 rfl hc ?_
    show Ev _ _ _ (66, [(3, .int d), (0, .ref 16), (1, .int x1), (2, .int x2)], [], g2) _
    refine sp_iinc (p2 := 69) (y := (d + 1)) (lv2 := [(3, .int ((d + 1))), (0, .ref 16), (1, .int x1), (2, .int x2)]) rfl rfl (by decide) rfl rfl rfl ?_
    refine sp_goto rfl ?_
    exact he
set_option maxRecDepth 20000 in
set_option maxHeartbeats 4000000 in
theorem besX_out (x2 : Int32) (x1 : Int32) (b0 : 0 ≤ x2.toInt) (b1 : x2.toInt ≤ 3) (g : im_H) (hp : Paside g x1) : ∃ g1 : im_H, Ev im_K0 19 mX11_beside (50, [(3, .int x1), (0, .ref 16), (1, .int x1), (2, .int x2)], [], g) (some (.long 0), g1) ∧ (g1.length = 200 ∧ (∀ i, 148 ≤ i → g1[i]? = hh[i]?)) := by
  obtain ⟨g_len, fr, g_0, g_1, g_7, g_8, g_12, g_14, g_16, g_18, g_20, g_21, g_22, g_23, g_24, g_30, g_37, g_38, g_39, g_41, g_44, g_48, g_50, ⟨s1, s2, s3, s4, g_49⟩⟩ := hp
  by_cases h1 : Int32.toInt x2 ≤ 0
  · refine ⟨g, ?_, ?_⟩
    · refine sp_iload_n (p2 := 51) rfl rfl rfl ?_
      refine sp_iload_n (p2 := 52) rfl rfl rfl ?_
      refine st_icmp (b := true) rfl (cn_ge_T rfl rfl (by omega)) ?_
      show Ev _ _ _ (72, _, _, _) _
      refine sp_iload_n (p2 := 73) rfl rfl rfl ?_
      refine sp_tsIn (k := 0) (p2 := 100) rfl (show Int32.toInt x2 = 0 by omega) (by decide) (by decide) rfl (by decide) ?_
      refine sp_aload_n (p2 := 101) rfl rfl rfl ?_
      refine st_get rfl g_0 rfl ?_
      show Ev _ _ _ (104, _, _, _) _
      refine st_callV (R := 53) rfl rfl rfl g_37 rfl (allLoads0 g_37 rfl (by decide) g_39 rfl rep0) ?_
      show Ev _ _ _ (107, [(3, .int x1), (0, .ref 16), (1, .int x1), (2, .int x2)], [.int 0], g) _
      refine sp_i2l (p2 := 108) (z := 0) rfl rfl (by decide) ?_
      exact sp_lret rfl rfl
    · exact ⟨g_len, fr⟩
  · by_cases h2 : Int32.toInt x2 ≤ 1
    · refine ⟨g, ?_, ?_⟩
      · refine sp_iload_n (p2 := 51) rfl rfl rfl ?_
        refine sp_iload_n (p2 := 52) rfl rfl rfl ?_
        refine st_icmp (b := true) rfl (cn_ge_T rfl rfl (by omega)) ?_
        show Ev _ _ _ (72, _, _, _) _
        refine sp_iload_n (p2 := 73) rfl rfl rfl ?_
        refine sp_tsIn (k := 1) (p2 := 109) rfl (show Int32.toInt x2 = 1 by omega) (by decide) (by decide) rfl (by decide) ?_
        refine sp_aload_n (p2 := 110) rfl rfl rfl ?_
        refine st_get rfl g_0 rfl ?_
        show Ev _ _ _ (113, _, _, _) _
        refine st_get rfl g_37 rfl ?_
        show Ev _ _ _ (116, _, _, _) _
        refine sp_iconst (p2 := 117) (x := 0) rfl rfl (by decide) ?_
        refine st_iald (x := 0) rfl (by decide) g_38 rfl rfl ?_
        show Ev _ _ _ (118, _, _, _) _
        refine sp_aload_n (p2 := 119) rfl rfl rfl ?_
        refine st_get rfl g_0 rfl ?_
        show Ev _ _ _ (122, _, _, _) _
        refine st_get rfl g_23 rfl ?_
        show Ev _ _ _ (125, _, _, _) _
        refine sp_iconst (p2 := 126) (x := 0) rfl rfl (by decide) ?_
        refine st_iald (x := 0) rfl (by decide) g_24 rfl rfl ?_
        show Ev _ _ _ (127, _, _, _) _
        refine sp_isub (p2 := 128) (z := 0) rfl rfl (by decide) ?_
        refine sp_i2l (p2 := 129) (z := 0) rfl rfl (by decide) ?_
        exact sp_lret rfl rfl
      · exact ⟨g_len, fr⟩
    · by_cases h3 : Int32.toInt x2 ≤ 2
      · refine ⟨g, ?_, ?_⟩
        · refine sp_iload_n (p2 := 51) rfl rfl rfl ?_
          refine sp_iload_n (p2 := 52) rfl rfl rfl ?_
          refine st_icmp (b := true) rfl (cn_ge_T rfl rfl (by omega)) ?_
          show Ev _ _ _ (72, _, _, _) _
          refine sp_iload_n (p2 := 73) rfl rfl rfl ?_
          refine sp_tsIn (k := 2) (p2 := 130) rfl (show Int32.toInt x2 = 2 by omega) (by decide) (by decide) rfl (by decide) ?_
          refine sp_aload_n (p2 := 131) rfl rfl rfl ?_
          refine st_get rfl g_0 rfl ?_
          show Ev _ _ _ (134, _, _, _) _
          refine st_callV (R := 53) rfl rfl rfl g_37 rfl (allDead0 g_37 rfl (by decide) g_44 rfl rep0) ?_
          show Ev _ _ _ (137, [(3, .int x1), (0, .ref 16), (1, .int x1), (2, .int x2)], [.int 0], g) _
          refine sp_aload_n (p2 := 138) rfl rfl rfl ?_
          refine st_get rfl g_0 rfl ?_
          show Ev _ _ _ (141, _, _, _) _
          refine st_callV (R := 39) rfl rfl rfl g_23 rfl (allDead0 g_23 rfl (by decide) g_30 rfl rep0) ?_
          show Ev _ _ _ (144, [(3, .int x1), (0, .ref 16), (1, .int x1), (2, .int x2)], [.int 0, .int 0], g) _
          refine sp_isub (p2 := 145) (z := 0) rfl rfl (by decide) ?_
          refine sp_i2l (p2 := 146) (z := 0) rfl rfl (by decide) ?_
          exact sp_lret rfl rfl
        · exact ⟨g_len, fr⟩
      · refine ⟨g, ?_, ?_⟩
        · refine sp_iload_n (p2 := 51) rfl rfl rfl ?_
          refine sp_iload_n (p2 := 52) rfl rfl rfl ?_
          refine st_icmp (b := true) rfl (cn_ge_T rfl rfl (by omega)) ?_
          show Ev _ _ _ (72, _, _, _) _
          refine sp_iload_n (p2 := 73) rfl rfl rfl ?_
          refine sp_tsOut (p2 := 147) rfl (by omega) (by decide) ?_
          refine sp_aload_n (p2 := 148) rfl rfl rfl ?_
          refine st_get rfl g_0 rfl ?_
          show Ev _ _ _ (151, _, _, _) _
          refine st_callV (R := 53) rfl rfl rfl g_37 rfl (allHurt0 g_37 rfl (by decide) g_41 rfl rep0) ?_
          show Ev _ _ _ (154, [(3, .int x1), (0, .ref 16), (1, .int x1), (2, .int x2)], [.int 0], g) _
          refine sp_i2l (p2 := 155) (z := 0) rfl rfl (by decide) ?_
          exact sp_lret rfl rfl
        · exact ⟨g_len, fr⟩
set_option maxRecDepth 20000 in
set_option maxHeartbeats 4000000 in
theorem lays0_lp (d : Int32) : ∀ (m : Nat) (g : im_H) (k : Int32), PM g d → 0 ≤ k.toInt → k.toInt + m = 283 → ∃ g1 : im_H, Ev im_K0 18 mX12_lays (2, [(2, .int k), (0, .ref 164), (1, .int 0)], [], g) (none, g1) ∧ PM g1 d := by
  intro m
  induction m with
  | zero =>
    intro g k hp k0 hm
    have hp0 := hp
    obtain ⟨g_len, g_148, g_161, g_165, ⟨A, hA, g_149⟩, ⟨K, hK, g_150⟩⟩ := hp
    refine ⟨g, ?_, hp0⟩
    refine sp_iload_n (p2 := 3) rfl rfl rfl ?_
    refine sp_sipush (p2 := 6) (x := 283) rfl rfl (by decide) ?_
    refine st_icmp (b := true) rfl (cn_ge_T rfl (show Int32.toInt 283 = 283 from rfl) (by omega)) ?_
    show Ev _ _ _ (46, _, _, _) _
    exact sp_vret rfl rfl
  | succ m ih =>
    intro g k hp k0 hm
    obtain ⟨g_len, g_148, g_161, g_165, ⟨A, hA, g_149⟩, ⟨K, hK, g_150⟩⟩ := hp
    have fk : Int32.toInt (k + 1) = Int32.toInt k + 1 := i32_addE (show Int32.toInt 1 = 1 from rfl) (by omega) (by omega)
    obtain ⟨g1, he, hq⟩ := ih (g.set 150 (.inl (0, .inl ((K).set (Int32.toNatClampNeg k) (A.getD (Int32.toNatClampNeg k) 0))))) (k + 1) ⟨(sl_len g_len), (ob_ne (by decide) g_148), (ia_ne (by decide) g_161), (ia_ne (by decide) g_165), ⟨_, hA, (ia_ne (by decide) g_149)⟩, ⟨_, (ll_set hK), (ia_eq2 g_len (by decide))⟩⟩ (by omega) (by omega)
    refine ⟨g1, ?_, hq⟩
    refine sp_iload_n (p2 := 3) rfl rfl rfl ?_
    refine sp_sipush (p2 := 6) (x := 283) rfl rfl (by decide) ?_
    refine st_icmp (b := false) rfl (cn_ge_F rfl (show Int32.toInt 283 = 283 from rfl) (by omega)) ?_
    show Ev _ _ _ (9, _, _, _) _
    refine sp_iload_n (p2 := 10) rfl rfl rfl ?_
    refine st_ifc (b := true) rfl (by decide) ?_
    show Ev _ _ _ (28, _, _, _) _
    refine sp_aload_n (p2 := 29) rfl rfl rfl ?_
    refine st_get rfl g_148 rfl ?_
    show Ev _ _ _ (32, _, _, _) _
    refine sp_iload_n (p2 := 33) rfl rfl rfl ?_
    refine sp_aload_n (p2 := 34) rfl rfl rfl ?_
    refine st_get rfl g_148 rfl ?_
    show Ev _ _ _ (37, _, _, _) _
    refine sp_iload_n (p2 := 38) rfl rfl rfl ?_
    refine st_iald (x := (A.getD (Int32.toNatClampNeg k) 0)) rfl (by decide) g_149 (in_at (n := 283) hA.1 (by omega) (by omega)) rfl ?_
    show Ev _ _ _ (39, [(2, .int k), (0, .ref 164), (1, .int 0)], [.int ((A.getD (Int32.toNatClampNeg k) 0)), .int k, .ref 166], g) _
    refine st_iast (i := 150) rfl rfl g_150 (in_at (n := 283) hK (by omega) (by omega)) ?_
    show Ev _ _ _ (40, [(2, .int k), (0, .ref 164), (1, .int 0)], [], (g.set 150 (.inl (0, .inl ((K).set (Int32.toNatClampNeg k) (A.getD (Int32.toNatClampNeg k) 0)))))) _
    refine sp_iinc (p2 := 43) (y := (k + 1)) (lv2 := [(2, .int ((k + 1))), (0, .ref 164), (1, .int 0)]) rfl rfl (by decide) rfl rfl rfl ?_
    refine sp_goto rfl ?_
    exact he
set_option maxRecDepth 20000 in
set_option maxHeartbeats 4000000 in
theorem lays0 (g : im_H) (d : Int32) (hp : PM g d) : ∃ g1 : im_H, Ca 19 186 [.ref 164, .int 0] g (none, g1) ∧ PM g1 d := by
  obtain ⟨g1, he, hq⟩ := lays0_lp d 283 g 0 hp (by decide) (by decide)
  refine ⟨g1, ?_, hq⟩
  refine ca_of (d := 18) (M := mX12_lays) rfl (Nat.le_of_ble_eq_true rfl) ?_
  show Ev im_K0 18 mX12_lays (0, [(0, .ref 164), (1, .int 0)], [], g) _
  refine sp_iconst (p2 := 1) (x := 0) rfl rfl (by decide) ?_
  refine sp_istore_n (p2 := 2) (lv2 := [(2, .int 0), (0, .ref 164), (1, .int 0)]) rfl rfl (by decide) rfl ?_
  exact he
set_option maxRecDepth 20000 in
set_option maxHeartbeats 4000000 in
theorem lays1_lp : ∀ (m : Nat) (g : im_H) (k : Int32), LM g → 0 ≤ k.toInt → k.toInt + m = 283 → ∃ g1 : im_H, Ev im_K0 18 mX12_lays (2, [(2, .int k), (0, .ref 164), (1, .int 1)], [], g) (none, g1) := by
  intro m
  induction m with
  | zero =>
    intro g k hp k0 hm
    have hp0 := hp
    obtain ⟨g_len, g_148, ⟨A, hA, g_149⟩, ⟨K, hK, g_150⟩⟩ := hp
    refine ⟨g, ?_⟩
    refine sp_iload_n (p2 := 3) rfl rfl rfl ?_
    refine sp_sipush (p2 := 6) (x := 283) rfl rfl (by decide) ?_
    refine st_icmp (b := true) rfl (cn_ge_T rfl (show Int32.toInt 283 = 283 from rfl) (by omega)) ?_
    show Ev _ _ _ (46, _, _, _) _
    exact sp_vret rfl rfl
  | succ m ih =>
    intro g k hp k0 hm
    obtain ⟨g_len, g_148, ⟨A, hA, g_149⟩, ⟨K, hK, g_150⟩⟩ := hp
    have fk : Int32.toInt (k + 1) = Int32.toInt k + 1 := i32_addE (show Int32.toInt 1 = 1 from rfl) (by omega) (by omega)
    obtain ⟨g1, he⟩ := ih (g.set 149 (.inl (0, .inl ((A).set (Int32.toNatClampNeg k) (K.getD (Int32.toNatClampNeg k) 0))))) (k + 1) ⟨(sl_len g_len), (ob_ne (by decide) g_148), ⟨_, (ll_set hA), (ia_eq2 g_len (by decide))⟩, ⟨_, hK, (ia_ne (by decide) g_150)⟩⟩ (by omega) (by omega)
    refine ⟨g1, ?_⟩
    refine sp_iload_n (p2 := 3) rfl rfl rfl ?_
    refine sp_sipush (p2 := 6) (x := 283) rfl rfl (by decide) ?_
    refine st_icmp (b := false) rfl (cn_ge_F rfl (show Int32.toInt 283 = 283 from rfl) (by omega)) ?_
    show Ev _ _ _ (9, _, _, _) _
    refine sp_iload_n (p2 := 10) rfl rfl rfl ?_
    refine st_ifc (b := false) rfl (by decide) ?_
    show Ev _ _ _ (13, _, _, _) _
    refine sp_aload_n (p2 := 14) rfl rfl rfl ?_
    refine st_get rfl g_148 rfl ?_
    show Ev _ _ _ (17, _, _, _) _
    refine sp_iload_n (p2 := 18) rfl rfl rfl ?_
    refine sp_aload_n (p2 := 19) rfl rfl rfl ?_
    refine st_get rfl g_148 rfl ?_
    show Ev _ _ _ (22, _, _, _) _
    refine sp_iload_n (p2 := 23) rfl rfl rfl ?_
    refine st_iald (x := (K.getD (Int32.toNatClampNeg k) 0)) rfl (by decide) g_150 (in_at (n := 283) hK (by omega) (by omega)) rfl ?_
    show Ev _ _ _ (24, [(2, .int k), (0, .ref 164), (1, .int 1)], [.int ((K.getD (Int32.toNatClampNeg k) 0)), .int k, .ref 165], g) _
    refine st_iast (i := 149) rfl rfl g_149 (in_at (n := 283) hA (by omega) (by omega)) ?_
    show Ev _ _ _ (25, [(2, .int k), (0, .ref 164), (1, .int 1)], [], (g.set 149 (.inl (0, .inl ((A).set (Int32.toNatClampNeg k) (K.getD (Int32.toNatClampNeg k) 0)))))) _
    refine sp_goto rfl ?_
    refine sp_iinc (p2 := 43) (y := (k + 1)) (lv2 := [(2, .int ((k + 1))), (0, .ref 164), (1, .int 1)]) rfl rfl (by decide) rfl rfl rfl ?_
    refine sp_goto rfl ?_
    exact he
set_option maxRecDepth 20000 in
set_option maxHeartbeats 4000000 in
theorem lays1 (g : im_H) (hp : LM g) : ∃ g1 : im_H, Ca 19 186 [.ref 164, .int 1] g (none, g1) := by
  obtain ⟨g1, he⟩ := lays1_lp 283 g 0 hp (by decide) (by decide)
  refine ⟨g1, ?_⟩
  refine ca_of (d := 18) (M := mX12_lays) rfl (Nat.le_of_ble_eq_true rfl) ?_
  show Ev im_K0 18 mX12_lays (0, [(0, .ref 164), (1, .int 1)], [], g) _
  refine sp_iconst (p2 := 1) (x := 0) rfl rfl (by decide) ?_
  refine sp_istore_n (p2 := 2) (lv2 := [(2, .int 0), (0, .ref 164), (1, .int 1)]) rfl rfl (by decide) rfl ?_
  exact he
set_option maxRecDepth 20000 in
set_option maxHeartbeats 4000000 in
theorem besM_lp (x2 : Int32) (x1 : Int32) (h60 : x1.toInt ≤ 60) (out : ∀ g : im_H, PM g x1 → ∃ g1 : im_H, Ev im_K0 19 mX12_beside (82, [(4, .int x1), (3, .int 0), (0, .ref 164), (1, .int x1), (2, .int x2)], [], g) (some (.long 0), g1) ∧ True) : ∀ (m : Nat) (g : im_H) (d : Int32), PM g d → 0 ≤ d.toInt → d.toInt + m = x1.toInt → ∃ g1 : im_H, Ev im_K0 19 mX12_beside (82, [(4, .int d), (3, .int 0), (0, .ref 164), (1, .int x1), (2, .int x2)], [], g) (some (.long 0), g1) ∧ True := by
  intro m
  induction m with
  | zero =>
    intro g d hp d0 hm
    have e : d = x1 := i32_ext (by omega)
    rw [e] at hp ⊢
    exact out g hp
  | succ m ih =>
    intro g d hp d0 hm
    obtain ⟨g2, hc, hp2⟩ := goes_d g d hp d0 (by omega)
    have fd : Int32.toInt (d + 1) = Int32.toInt d + 1 := i32_addE (show Int32.toInt 1 = 1 from rfl) (by omega) (by omega)
    obtain ⟨g1, he, hq⟩ := ih g2 (d + 1) hp2 (by omega) (by omega)
    obtain ⟨g_len, g_148, g_161, g_165, ⟨A, hA, g_149⟩, ⟨K, hK, g_150⟩⟩ := hp
    refine ⟨g1, ?_, hq⟩
    refine sp_iload (p2 := 84) rfl rfl rfl ?_
    refine sp_iload_n (p2 := 85) rfl rfl rfl ?_
    refine st_icmp (b := false) rfl (cn_ge_F rfl rfl (by omega)) ?_
    show Ev _ _ _ (88, _, _, _) _
    refine sp_aload_n (p2 := 89) rfl rfl rfl ?_
    refine st_callV (R := 164) rfl rfl rfl g_148 rfl hc ?_
    show Ev _ _ _ (92, [(4, .int d), (3, .int 0), (0, .ref 164), (1, .int x1), (2, .int x2)], [], g2) _
    refine sp_iinc (p2 := 95) (y := (d + 1)) (lv2 := [(4, .int ((d + 1))), (3, .int 0), (0, .ref 164), (1, .int x1), (2, .int x2)]) rfl rfl (by decide) rfl rfl rfl ?_
    refine sp_goto rfl ?_
    exact he
set_option maxRecDepth 20000 in
set_option maxHeartbeats 4000000 in
theorem besM_out (x2 : Int32) (x1 : Int32) (b0 : 0 ≤ x2.toInt) (b1 : x2.toInt ≤ 3) (g : im_H) (hp : PM g x1) : ∃ g1 : im_H, Ev im_K0 19 mX12_beside (82, [(4, .int x1), (3, .int 0), (0, .ref 164), (1, .int x1), (2, .int x2)], [], g) (some (.long 0), g1) ∧ True := by
  obtain ⟨g_len, g_148, g_161, g_165, ⟨A, hA, g_149⟩, ⟨K, hK, g_150⟩⟩ := hp
  by_cases h1 : Int32.toInt x2 ≤ 0
  · obtain ⟨g2, hl2⟩ := lays1 g ⟨g_len, g_148, ⟨_, hA.1, g_149⟩, ⟨K, hK, g_150⟩⟩
    refine ⟨g2, ?_, ?_⟩
    · refine sp_iload (p2 := 84) rfl rfl rfl ?_
      refine sp_iload_n (p2 := 85) rfl rfl rfl ?_
      refine st_icmp (b := true) rfl (cn_ge_T rfl rfl (by omega)) ?_
      show Ev _ _ _ (98, _, _, _) _
      refine sp_iload_n (p2 := 99) rfl rfl rfl ?_
      refine st_ifc (b := false) rfl (cn_ne_F rfl (show Int32.toInt 0 = 0 from rfl) (by omega)) ?_
      show Ev _ _ _ (102, _, _, _) _
      refine sp_aload_n (p2 := 103) rfl rfl rfl ?_
      refine sp_iconst (p2 := 104) (x := 0) rfl rfl (by decide) ?_
      refine sp_bipush (p2 := 106) (x := 100) rfl rfl (by decide) ?_
      refine st_callV (R := 164) rfl rfl rfl g_148 rfl (sum0 g_148 g_149 hA.1 hA.2.2) ?_
      show Ev _ _ _ (109, [(4, .int x1), (3, .int 0), (0, .ref 164), (1, .int x1), (2, .int x2)], [.int 0], g) _
      refine sp_goto rfl ?_
      refine sp_istore (p2 := 163) (lv2 := [(4, .int 0), (3, .int 0), (0, .ref 164), (1, .int x1), (2, .int x2)]) rfl rfl (by decide) rfl ?_
      refine sp_aload_n (p2 := 164) rfl rfl rfl ?_
      refine sp_iconst (p2 := 165) (x := 1) rfl rfl (by decide) ?_
      refine st_callV (R := 164) rfl rfl rfl g_148 rfl hl2 ?_
      show Ev _ _ _ (168, [(4, .int 0), (3, .int 0), (0, .ref 164), (1, .int x1), (2, .int x2)], [], g2) _
      refine sp_iload (p2 := 170) rfl rfl rfl ?_
      refine sp_i2l (p2 := 171) (z := 0) rfl rfl (by decide) ?_
      exact sp_lret rfl rfl
    · exact trivial
  · by_cases h2 : Int32.toInt x2 ≤ 1
    · obtain ⟨g2, hl2⟩ := lays1 g ⟨g_len, g_148, ⟨_, hA.1, g_149⟩, ⟨K, hK, g_150⟩⟩
      refine ⟨g2, ?_, ?_⟩
      · refine sp_iload (p2 := 84) rfl rfl rfl ?_
        refine sp_iload_n (p2 := 85) rfl rfl rfl ?_
        refine st_icmp (b := true) rfl (cn_ge_T rfl rfl (by omega)) ?_
        show Ev _ _ _ (98, _, _, _) _
        refine sp_iload_n (p2 := 99) rfl rfl rfl ?_
        refine st_ifc (b := true) rfl (cn_ne_T rfl (show Int32.toInt 0 = 0 from rfl) (by omega)) ?_
        show Ev _ _ _ (112, _, _, _) _
        refine sp_iload_n (p2 := 113) rfl rfl rfl ?_
        refine sp_iconst (p2 := 114) (x := 1) rfl rfl (by decide) ?_
        refine st_icmp (b := false) rfl (cn_ne_F rfl (show Int32.toInt 1 = 1 from rfl) (by omega)) ?_
        show Ev _ _ _ (117, _, _, _) _
        refine sp_aload_n (p2 := 118) rfl rfl rfl ?_
        refine st_get rfl g_148 rfl ?_
        show Ev _ _ _ (121, _, _, _) _
        refine sp_bipush (p2 := 123) (x := 100) rfl rfl (by decide) ?_
        refine st_iald (x := 0) rfl (by decide) g_149 (in_at (n := 283) hA.1 (by decide) (by decide)) (hA.2.2 100 (by decide)) ?_
        show Ev _ _ _ (124, [(4, .int x1), (3, .int 0), (0, .ref 164), (1, .int x1), (2, .int x2)], [.int 0], g) _
        refine sp_iload_n (p2 := 125) rfl rfl rfl ?_
        refine sp_isub (p2 := 126) (z := 0) rfl rfl (by decide) ?_
        refine sp_goto rfl ?_
        refine sp_istore (p2 := 163) (lv2 := [(4, .int 0), (3, .int 0), (0, .ref 164), (1, .int x1), (2, .int x2)]) rfl rfl (by decide) rfl ?_
        refine sp_aload_n (p2 := 164) rfl rfl rfl ?_
        refine sp_iconst (p2 := 165) (x := 1) rfl rfl (by decide) ?_
        refine st_callV (R := 164) rfl rfl rfl g_148 rfl hl2 ?_
        show Ev _ _ _ (168, [(4, .int 0), (3, .int 0), (0, .ref 164), (1, .int x1), (2, .int x2)], [], g2) _
        refine sp_iload (p2 := 170) rfl rfl rfl ?_
        refine sp_i2l (p2 := 171) (z := 0) rfl rfl (by decide) ?_
        exact sp_lret rfl rfl
      · exact trivial
    · by_cases h3 : Int32.toInt x2 ≤ 2
      · obtain ⟨g2, hl2⟩ := lays1 g ⟨g_len, g_148, ⟨_, hA.1, g_149⟩, ⟨K, hK, g_150⟩⟩
        refine ⟨g2, ?_, ?_⟩
        · refine sp_iload (p2 := 84) rfl rfl rfl ?_
          refine sp_iload_n (p2 := 85) rfl rfl rfl ?_
          refine st_icmp (b := true) rfl (cn_ge_T rfl rfl (by omega)) ?_
          show Ev _ _ _ (98, _, _, _) _
          refine sp_iload_n (p2 := 99) rfl rfl rfl ?_
          refine st_ifc (b := true) rfl (cn_ne_T rfl (show Int32.toInt 0 = 0 from rfl) (by omega)) ?_
          show Ev _ _ _ (112, _, _, _) _
          refine sp_iload_n (p2 := 113) rfl rfl rfl ?_
          refine sp_iconst (p2 := 114) (x := 1) rfl rfl (by decide) ?_
          refine st_icmp (b := true) rfl (cn_ne_T rfl (show Int32.toInt 1 = 1 from rfl) (by omega)) ?_
          show Ev _ _ _ (129, _, _, _) _
          refine sp_iload_n (p2 := 130) rfl rfl rfl ?_
          refine sp_iconst (p2 := 131) (x := 2) rfl rfl (by decide) ?_
          refine st_icmp (b := false) rfl (cn_ne_F rfl (show Int32.toInt 2 = 2 from rfl) (by omega)) ?_
          show Ev _ _ _ (134, _, _, _) _
          refine sp_aload_n (p2 := 135) rfl rfl rfl ?_
          refine sp_sipush (p2 := 138) (x := 236) rfl rfl (by decide) ?_
          refine sp_aload_n (p2 := 139) rfl rfl rfl ?_
          refine st_get rfl g_148 rfl ?_
          show Ev _ _ _ (142, _, _, _) _
          have c1 : Ca 19 163 [.ref 164, .int 236, .int 0] g (some (.int 0), g) := by
            refine ca_of (d := 18) (M := mX12_sum) rfl (Nat.le_of_ble_eq_true rfl) ?_
            show Ev im_K0 18 mX12_sum (0, [(0, .ref 164), (1, .int 236), (2, .int 0)], [], g) _
            refine sp_iconst (p2 := 1) (x := 0) rfl rfl (by decide) ?_
            refine sp_istore_n (p2 := 2) (lv2 := [(3, .int 0), (0, .ref 164), (1, .int 236), (2, .int 0)]) rfl rfl (by decide) rfl ?_
            refine sp_iconst (p2 := 3) (x := 0) rfl rfl (by decide) ?_
            refine sp_istore (p2 := 5) (lv2 := [(4, .int 0), (3, .int 0), (0, .ref 164), (1, .int 236), (2, .int 0)]) rfl rfl (by decide) rfl ?_
            refine sp_iload (p2 := 7) rfl rfl rfl ?_
            refine sp_iload_n (p2 := 8) rfl rfl rfl ?_
            refine st_icmp (b := true) rfl (by decide) ?_
            show Ev _ _ _ (29, _, _, _) _
            refine sp_iload_n (p2 := 30) rfl rfl rfl ?_
            exact sp_iret rfl rfl
          refine st_callV (R := 164) rfl rfl rfl g_148 rfl c1 ?_
          show Ev _ _ _ (145, [(4, .int x1), (3, .int 0), (0, .ref 164), (1, .int x1), (2, .int x2)], [.int 0], g) _
          refine sp_iload_n (p2 := 146) rfl rfl rfl ?_
          refine sp_isub (p2 := 147) (z := 0) rfl rfl (by decide) ?_
          refine sp_goto rfl ?_
          refine sp_istore (p2 := 163) (lv2 := [(4, .int 0), (3, .int 0), (0, .ref 164), (1, .int x1), (2, .int x2)]) rfl rfl (by decide) rfl ?_
          refine sp_aload_n (p2 := 164) rfl rfl rfl ?_
          refine sp_iconst (p2 := 165) (x := 1) rfl rfl (by decide) ?_
          refine st_callV (R := 164) rfl rfl rfl g_148 rfl hl2 ?_
          show Ev _ _ _ (168, [(4, .int 0), (3, .int 0), (0, .ref 164), (1, .int x1), (2, .int x2)], [], g2) _
          refine sp_iload (p2 := 170) rfl rfl rfl ?_
          refine sp_i2l (p2 := 171) (z := 0) rfl rfl (by decide) ?_
          exact sp_lret rfl rfl
        · exact trivial
      · obtain ⟨g2, hl2⟩ := lays1 g ⟨g_len, g_148, ⟨_, hA.1, g_149⟩, ⟨K, hK, g_150⟩⟩
        refine ⟨g2, ?_, ?_⟩
        · refine sp_iload (p2 := 84) rfl rfl rfl ?_
          refine sp_iload_n (p2 := 85) rfl rfl rfl ?_
          refine st_icmp (b := true) rfl (cn_ge_T rfl rfl (by omega)) ?_
          show Ev _ _ _ (98, _, _, _) _
          refine sp_iload_n (p2 := 99) rfl rfl rfl ?_
          refine st_ifc (b := true) rfl (cn_ne_T rfl (show Int32.toInt 0 = 0 from rfl) (by omega)) ?_
          show Ev _ _ _ (112, _, _, _) _
          refine sp_iload_n (p2 := 113) rfl rfl rfl ?_
          refine sp_iconst (p2 := 114) (x := 1) rfl rfl (by decide) ?_
          refine st_icmp (b := true) rfl (cn_ne_T rfl (show Int32.toInt 1 = 1 from rfl) (by omega)) ?_
          show Ev _ _ _ (129, _, _, _) _
          refine sp_iload_n (p2 := 130) rfl rfl rfl ?_
          refine sp_iconst (p2 := 131) (x := 2) rfl rfl (by decide) ?_
          refine st_icmp (b := true) rfl (cn_ne_T rfl (show Int32.toInt 2 = 2 from rfl) (by omega)) ?_
          show Ev _ _ _ (150, _, _, _) _
          refine sp_aload_n (p2 := 151) rfl rfl rfl ?_
          refine sp_sipush (p2 := 154) (x := 164) rfl rfl (by decide) ?_
          refine sp_aload_n (p2 := 155) rfl rfl rfl ?_
          refine st_get rfl g_148 rfl ?_
          show Ev _ _ _ (158, _, _, _) _
          have c1 : Ca 19 163 [.ref 164, .int 164, .int 0] g (some (.int 0), g) := by
            refine ca_of (d := 18) (M := mX12_sum) rfl (Nat.le_of_ble_eq_true rfl) ?_
            show Ev im_K0 18 mX12_sum (0, [(0, .ref 164), (1, .int 164), (2, .int 0)], [], g) _
            refine sp_iconst (p2 := 1) (x := 0) rfl rfl (by decide) ?_
            refine sp_istore_n (p2 := 2) (lv2 := [(3, .int 0), (0, .ref 164), (1, .int 164), (2, .int 0)]) rfl rfl (by decide) rfl ?_
            refine sp_iconst (p2 := 3) (x := 0) rfl rfl (by decide) ?_
            refine sp_istore (p2 := 5) (lv2 := [(4, .int 0), (3, .int 0), (0, .ref 164), (1, .int 164), (2, .int 0)]) rfl rfl (by decide) rfl ?_
            refine sp_iload (p2 := 7) rfl rfl rfl ?_
            refine sp_iload_n (p2 := 8) rfl rfl rfl ?_
            refine st_icmp (b := true) rfl (by decide) ?_
            show Ev _ _ _ (29, _, _, _) _
            refine sp_iload_n (p2 := 30) rfl rfl rfl ?_
            exact sp_iret rfl rfl
          refine st_callV (R := 164) rfl rfl rfl g_148 rfl c1 ?_
          show Ev _ _ _ (161, [(4, .int x1), (3, .int 0), (0, .ref 164), (1, .int x1), (2, .int x2)], [.int 0], g) _
          refine sp_istore (p2 := 163) (lv2 := [(4, .int 0), (3, .int 0), (0, .ref 164), (1, .int x1), (2, .int x2)]) rfl rfl (by decide) rfl ?_
          refine sp_aload_n (p2 := 164) rfl rfl rfl ?_
          refine sp_iconst (p2 := 165) (x := 1) rfl rfl (by decide) ?_
          refine st_callV (R := 164) rfl rfl rfl g_148 rfl hl2 ?_
          show Ev _ _ _ (168, [(4, .int 0), (3, .int 0), (0, .ref 164), (1, .int x1), (2, .int x2)], [], g2) _
          refine sp_iload (p2 := 170) rfl rfl rfl ?_
          refine sp_i2l (p2 := 171) (z := 0) rfl rfl (by decide) ?_
          exact sp_lret rfl rfl
        · exact trivial
set_option maxRecDepth 20000 in
set_option maxHeartbeats 4000000 in
theorem q_beside (x1 x2 : Int32) : ∃ (v : Value) (h1 h2 : im_H), Ca 20 100 [.ref 16, .int x1, .int x2] hh (some v, h1) ∧ Ca 20 187 [.ref 164, .int x1, .int x2] h1 (some v, h2) := by
  by_cases h1 : x1.toInt ≤ 0
  · refine ⟨.long (-4611686018427387904), hh, hh, ?_, ?_⟩
    · refine ca_of (d := 19) (M := mX11_beside) rfl (Nat.le_of_ble_eq_true rfl) ?_
      show Ev im_K0 19 mX11_beside (0, [(0, .ref 16), (1, .int x1), (2, .int x2)], [], hh) _
      refine sp_iload_n (p2 := 1) rfl rfl rfl ?_
      refine sp_iconst (p2 := 2) (x := 1) rfl rfl (by decide) ?_
      refine sp_bipush (p2 := 4) (x := 60) rfl rfl (by decide) ?_
      refine st_callS rfl rfl rfl (cl_between_F (a := 1) (b := 60) rfl rfl (by omega)) ?_
      show Ev _ _ _ (7, [(0, .ref 16), (1, .int x1), (2, .int x2)], [.int 0], hh) _
      refine st_ifc (b := true) rfl (by decide) ?_
      show Ev _ _ _ (33, _, _, _) _
      refine sp_ldc2 (p2 := 36) (x := (-4611686018427387904)) rfl rfl rfl ?_
      exact sp_lret rfl rfl
    · refine ca_of (d := 19) (M := mX12_beside) rfl (Nat.le_of_ble_eq_true rfl) ?_
      show Ev im_K0 19 mX12_beside (0, [(0, .ref 164), (1, .int x1), (2, .int x2)], [], hh) _
      refine sp_iload_n (p2 := 1) rfl rfl rfl ?_
      refine sp_iconst (p2 := 2) (x := 1) rfl rfl (by decide) ?_
      refine sp_bipush (p2 := 4) (x := 60) rfl rfl (by decide) ?_
      refine st_callS rfl rfl rfl (cl_in_F (a := 1) (b := 60) rfl rfl (by omega)) ?_
      show Ev _ _ _ (7, [(0, .ref 164), (1, .int x1), (2, .int x2)], [.int 0], hh) _
      refine st_ifc (b := true) rfl (by decide) ?_
      show Ev _ _ _ (34, _, _, _) _
      refine sp_ldc2 (p2 := 37) (x := (-4611686018427387904)) rfl rfl rfl ?_
      exact sp_lret rfl rfl
  · by_cases h2 : x1.toInt ≤ 60
    · by_cases h3 : x2.toInt ≤ (-1)
      · refine ⟨.long (-4611686018427387904), hh, hh, ?_, ?_⟩
        · refine ca_of (d := 19) (M := mX11_beside) rfl (Nat.le_of_ble_eq_true rfl) ?_
          show Ev im_K0 19 mX11_beside (0, [(0, .ref 16), (1, .int x1), (2, .int x2)], [], hh) _
          refine sp_iload_n (p2 := 1) rfl rfl rfl ?_
          refine sp_iconst (p2 := 2) (x := 1) rfl rfl (by decide) ?_
          refine sp_bipush (p2 := 4) (x := 60) rfl rfl (by decide) ?_
          refine st_callS rfl rfl rfl (cl_between_T (a := 1) (b := 60) rfl rfl (by omega)) ?_
          show Ev _ _ _ (7, [(0, .ref 16), (1, .int x1), (2, .int x2)], [.int 1], hh) _
          refine st_ifc (b := false) rfl (by decide) ?_
          show Ev _ _ _ (10, _, _, _) _
          refine sp_iload_n (p2 := 11) rfl rfl rfl ?_
          refine sp_iconst (p2 := 12) (x := 4) rfl rfl (by decide) ?_
          refine st_callS rfl rfl rfl (cl_within_F (b := 4) rfl (by omega)) ?_
          show Ev _ _ _ (15, [(0, .ref 16), (1, .int x1), (2, .int x2)], [.int 0], hh) _
          refine st_ifc (b := true) rfl (by decide) ?_
          show Ev _ _ _ (33, _, _, _) _
          refine sp_ldc2 (p2 := 36) (x := (-4611686018427387904)) rfl rfl rfl ?_
          exact sp_lret rfl rfl
        · refine ca_of (d := 19) (M := mX12_beside) rfl (Nat.le_of_ble_eq_true rfl) ?_
          show Ev im_K0 19 mX12_beside (0, [(0, .ref 164), (1, .int x1), (2, .int x2)], [], hh) _
          refine sp_iload_n (p2 := 1) rfl rfl rfl ?_
          refine sp_iconst (p2 := 2) (x := 1) rfl rfl (by decide) ?_
          refine sp_bipush (p2 := 4) (x := 60) rfl rfl (by decide) ?_
          refine st_callS rfl rfl rfl (cl_in_T (a := 1) (b := 60) rfl rfl (by omega)) ?_
          show Ev _ _ _ (7, [(0, .ref 164), (1, .int x1), (2, .int x2)], [.int 1], hh) _
          refine st_ifc (b := false) rfl (by decide) ?_
          show Ev _ _ _ (10, _, _, _) _
          refine sp_iload_n (p2 := 11) rfl rfl rfl ?_
          refine sp_iconst (p2 := 12) (x := 0) rfl rfl (by decide) ?_
          refine sp_iconst (p2 := 13) (x := 3) rfl rfl (by decide) ?_
          refine st_callS rfl rfl rfl (cl_in_F (a := 0) (b := 3) rfl rfl (by omega)) ?_
          show Ev _ _ _ (16, [(0, .ref 164), (1, .int x1), (2, .int x2)], [.int 0], hh) _
          refine st_ifc (b := true) rfl (by decide) ?_
          show Ev _ _ _ (34, _, _, _) _
          refine sp_ldc2 (p2 := 37) (x := (-4611686018427387904)) rfl rfl rfl ?_
          exact sp_lret rfl rfl
      · by_cases h4 : x2.toInt ≤ 3
        · by_cases h5 : x2.toInt ≤ 0
          · obtain ⟨m, hm⟩ : ∃ m : Nat, (m : Int) = x1.toInt := ⟨x1.toInt.toNat, by omega⟩
            obtain ⟨g1, he1, g1_len, fr1⟩ := besX_lp x2 x1 (by omega) (besX_out x2 x1 (by omega) (by omega)) m hh 0 Paside_0 (by decide) (by rw [show Int32.toInt 0 = 0 from rfl]; omega)
            obtain ⟨g2, hl0, hp2⟩ := lays0 g1 0 (PM_0 g1_len fr1)
            obtain ⟨g3, he3, _⟩ := besM_lp x2 x1 (by omega) (besM_out x2 x1 (by omega) (by omega)) m g2 0 hp2 (by decide) (by rw [show Int32.toInt 0 = 0 from rfl]; omega)
            obtain ⟨g2_len, g2_148, g2_161, g2_165, ⟨A, hA, g2_149⟩, ⟨K, hK, g2_150⟩⟩ := hp2
            have g1_148 := ob_fr (fr1 148 (by decide)) hh_148
            have g1_149 := ia_fr (fr1 149 (by decide)) hh_149
            refine ⟨.long 0, g1, g3, ?_, ?_⟩
            · refine ca_of (d := 19) (M := mX11_beside) rfl (Nat.le_of_ble_eq_true rfl) ?_
              show Ev im_K0 19 mX11_beside (0, [(0, .ref 16), (1, .int x1), (2, .int x2)], [], hh) _
              refine sp_iload_n (p2 := 1) rfl rfl rfl ?_
              refine sp_iconst (p2 := 2) (x := 1) rfl rfl (by decide) ?_
              refine sp_bipush (p2 := 4) (x := 60) rfl rfl (by decide) ?_
              refine st_callS rfl rfl rfl (cl_between_T (a := 1) (b := 60) rfl rfl (by omega)) ?_
              show Ev _ _ _ (7, [(0, .ref 16), (1, .int x1), (2, .int x2)], [.int 1], hh) _
              refine st_ifc (b := false) rfl (by decide) ?_
              show Ev _ _ _ (10, _, _, _) _
              refine sp_iload_n (p2 := 11) rfl rfl rfl ?_
              refine sp_iconst (p2 := 12) (x := 4) rfl rfl (by decide) ?_
              refine st_callS rfl rfl rfl (cl_within_T (b := 4) rfl (by omega)) ?_
              show Ev _ _ _ (15, [(0, .ref 16), (1, .int x1), (2, .int x2)], [.int 1], hh) _
              refine st_ifc (b := false) rfl (by decide) ?_
              show Ev _ _ _ (18, _, _, _) _
              refine sp_aload_n (p2 := 19) rfl rfl rfl ?_
              refine st_get rfl hh_0 rfl ?_
              show Ev _ _ _ (22, _, _, _) _
              refine st_get rfl hh_23 rfl ?_
              show Ev _ _ _ (25, _, _, _) _
              refine sp_iload_n (p2 := 26) rfl rfl rfl ?_
              refine sp_iadd (p2 := 27) (z := x1) rfl rfl (Int32.zero_add _) ?_
              refine sp_sipush (p2 := 30) (x := 2000) rfl rfl (by decide) ?_
              refine st_icmp (b := true) rfl (cn_le_T rfl (show Int32.toInt 2000 = 2000 from rfl) (by omega)) ?_
              show Ev _ _ _ (37, _, _, _) _
              refine sp_aload_n (p2 := 38) rfl rfl rfl ?_
              refine st_get rfl hh_0 rfl ?_
              show Ev _ _ _ (41, _, _, _) _
              refine sp_aload_n (p2 := 42) rfl rfl rfl ?_
              refine st_get rfl hh_0 rfl ?_
              show Ev _ _ _ (45, _, _, _) _
              refine st_callV (R := 53) rfl rfl rfl hh_37 rfl (show Ca 19 46 [.ref 53, .ref 39] hh (none, hh) from ca_dec (d := 9) (f := 175) (by decide) (im_eqb_eq (by decide +kernel))) ?_
              show Ev _ _ _ (48, [(0, .ref 16), (1, .int x1), (2, .int x2)], [], hh) _
              refine sp_iconst (p2 := 49) (x := 0) rfl rfl (by decide) ?_
              refine sp_istore_n (p2 := 50) (lv2 := [(3, .int 0), (0, .ref 16), (1, .int x1), (2, .int x2)]) rfl rfl (by decide) rfl ?_
              exact he1
            · refine ca_of (d := 19) (M := mX12_beside) rfl (Nat.le_of_ble_eq_true rfl) ?_
              show Ev im_K0 19 mX12_beside (0, [(0, .ref 164), (1, .int x1), (2, .int x2)], [], g1) _
              refine sp_iload_n (p2 := 1) rfl rfl rfl ?_
              refine sp_iconst (p2 := 2) (x := 1) rfl rfl (by decide) ?_
              refine sp_bipush (p2 := 4) (x := 60) rfl rfl (by decide) ?_
              refine st_callS rfl rfl rfl (cl_in_T (a := 1) (b := 60) rfl rfl (by omega)) ?_
              show Ev _ _ _ (7, [(0, .ref 164), (1, .int x1), (2, .int x2)], [.int 1], g1) _
              refine st_ifc (b := false) rfl (by decide) ?_
              show Ev _ _ _ (10, _, _, _) _
              refine sp_iload_n (p2 := 11) rfl rfl rfl ?_
              refine sp_iconst (p2 := 12) (x := 0) rfl rfl (by decide) ?_
              refine sp_iconst (p2 := 13) (x := 3) rfl rfl (by decide) ?_
              refine st_callS rfl rfl rfl (cl_in_T (a := 0) (b := 3) rfl rfl (by omega)) ?_
              show Ev _ _ _ (16, [(0, .ref 164), (1, .int x1), (2, .int x2)], [.int 1], g1) _
              refine st_ifc (b := false) rfl (by decide) ?_
              show Ev _ _ _ (19, _, _, _) _
              refine sp_aload_n (p2 := 20) rfl rfl rfl ?_
              refine st_get rfl g1_148 rfl ?_
              show Ev _ _ _ (23, _, _, _) _
              refine sp_bipush (p2 := 25) (x := 105) rfl rfl (by decide) ?_
              refine st_iald (x := 0) rfl (by decide) g1_149 rfl rfl ?_
              show Ev _ _ _ (26, _, _, _) _
              refine sp_iload_n (p2 := 27) rfl rfl rfl ?_
              refine sp_iadd (p2 := 28) (z := x1) rfl rfl (Int32.zero_add _) ?_
              refine sp_sipush (p2 := 31) (x := 2000) rfl rfl (by decide) ?_
              refine st_icmp (b := true) rfl (cn_le_T rfl (show Int32.toInt 2000 = 2000 from rfl) (by omega)) ?_
              show Ev _ _ _ (38, _, _, _) _
              refine sp_aload_n (p2 := 39) rfl rfl rfl ?_
              refine sp_iconst (p2 := 40) (x := 0) rfl rfl (by decide) ?_
              refine st_callV (R := 164) rfl rfl rfl g1_148 rfl hl0 ?_
              show Ev _ _ _ (43, [(0, .ref 164), (1, .int x1), (2, .int x2)], [], g2) _
              refine sp_iload_n (p2 := 44) rfl rfl rfl ?_
              refine sp_iconst (p2 := 45) (x := 1) rfl rfl (by decide) ?_
              refine st_icmp (b := true) rfl (cn_ne_T rfl (show Int32.toInt 1 = 1 from rfl) (by omega)) ?_
              show Ev _ _ _ (58, _, _, _) _
              refine sp_iload_n (p2 := 59) rfl rfl rfl ?_
              refine sp_iconst (p2 := 60) (x := 2) rfl rfl (by decide) ?_
              refine st_icmp (b := true) rfl (cn_ne_T rfl (show Int32.toInt 2 = 2 from rfl) (by omega)) ?_
              show Ev _ _ _ (77, _, _, _) _
              refine sp_iconst (p2 := 78) (x := 0) rfl rfl (by decide) ?_
              refine sp_istore_n (p2 := 79) (lv2 := [(3, .int 0), (0, .ref 164), (1, .int x1), (2, .int x2)]) rfl rfl (by decide) rfl ?_
              refine sp_iconst (p2 := 80) (x := 0) rfl rfl (by decide) ?_
              refine sp_istore (p2 := 82) (lv2 := [(4, .int 0), (3, .int 0), (0, .ref 164), (1, .int x1), (2, .int x2)]) rfl rfl (by decide) rfl ?_
              exact he3
          · by_cases h6 : x2.toInt ≤ 1
            · obtain ⟨m, hm⟩ : ∃ m : Nat, (m : Int) = x1.toInt := ⟨x1.toInt.toNat, by omega⟩
              obtain ⟨g1, he1, g1_len, fr1⟩ := besX_lp x2 x1 (by omega) (besX_out x2 x1 (by omega) (by omega)) m hh 0 Paside_0 (by decide) (by rw [show Int32.toInt 0 = 0 from rfl]; omega)
              obtain ⟨g2, hl0, hp2⟩ := lays0 g1 0 (PM_0 g1_len fr1)
              obtain ⟨g3, he3, _⟩ := besM_lp x2 x1 (by omega) (besM_out x2 x1 (by omega) (by omega)) m g2 0 hp2 (by decide) (by rw [show Int32.toInt 0 = 0 from rfl]; omega)
              obtain ⟨g2_len, g2_148, g2_161, g2_165, ⟨A, hA, g2_149⟩, ⟨K, hK, g2_150⟩⟩ := hp2
              have g1_148 := ob_fr (fr1 148 (by decide)) hh_148
              have g1_149 := ia_fr (fr1 149 (by decide)) hh_149
              refine ⟨.long 0, g1, g3, ?_, ?_⟩
              · refine ca_of (d := 19) (M := mX11_beside) rfl (Nat.le_of_ble_eq_true rfl) ?_
                show Ev im_K0 19 mX11_beside (0, [(0, .ref 16), (1, .int x1), (2, .int x2)], [], hh) _
                refine sp_iload_n (p2 := 1) rfl rfl rfl ?_
                refine sp_iconst (p2 := 2) (x := 1) rfl rfl (by decide) ?_
                refine sp_bipush (p2 := 4) (x := 60) rfl rfl (by decide) ?_
                refine st_callS rfl rfl rfl (cl_between_T (a := 1) (b := 60) rfl rfl (by omega)) ?_
                show Ev _ _ _ (7, [(0, .ref 16), (1, .int x1), (2, .int x2)], [.int 1], hh) _
                refine st_ifc (b := false) rfl (by decide) ?_
                show Ev _ _ _ (10, _, _, _) _
                refine sp_iload_n (p2 := 11) rfl rfl rfl ?_
                refine sp_iconst (p2 := 12) (x := 4) rfl rfl (by decide) ?_
                refine st_callS rfl rfl rfl (cl_within_T (b := 4) rfl (by omega)) ?_
                show Ev _ _ _ (15, [(0, .ref 16), (1, .int x1), (2, .int x2)], [.int 1], hh) _
                refine st_ifc (b := false) rfl (by decide) ?_
                show Ev _ _ _ (18, _, _, _) _
                refine sp_aload_n (p2 := 19) rfl rfl rfl ?_
                refine st_get rfl hh_0 rfl ?_
                show Ev _ _ _ (22, _, _, _) _
                refine st_get rfl hh_23 rfl ?_
                show Ev _ _ _ (25, _, _, _) _
                refine sp_iload_n (p2 := 26) rfl rfl rfl ?_
                refine sp_iadd (p2 := 27) (z := x1) rfl rfl (Int32.zero_add _) ?_
                refine sp_sipush (p2 := 30) (x := 2000) rfl rfl (by decide) ?_
                refine st_icmp (b := true) rfl (cn_le_T rfl (show Int32.toInt 2000 = 2000 from rfl) (by omega)) ?_
                show Ev _ _ _ (37, _, _, _) _
                refine sp_aload_n (p2 := 38) rfl rfl rfl ?_
                refine st_get rfl hh_0 rfl ?_
                show Ev _ _ _ (41, _, _, _) _
                refine sp_aload_n (p2 := 42) rfl rfl rfl ?_
                refine st_get rfl hh_0 rfl ?_
                show Ev _ _ _ (45, _, _, _) _
                refine st_callV (R := 53) rfl rfl rfl hh_37 rfl (show Ca 19 46 [.ref 53, .ref 39] hh (none, hh) from ca_dec (d := 9) (f := 175) (by decide) (im_eqb_eq (by decide +kernel))) ?_
                show Ev _ _ _ (48, [(0, .ref 16), (1, .int x1), (2, .int x2)], [], hh) _
                refine sp_iconst (p2 := 49) (x := 0) rfl rfl (by decide) ?_
                refine sp_istore_n (p2 := 50) (lv2 := [(3, .int 0), (0, .ref 16), (1, .int x1), (2, .int x2)]) rfl rfl (by decide) rfl ?_
                exact he1
              · refine ca_of (d := 19) (M := mX12_beside) rfl (Nat.le_of_ble_eq_true rfl) ?_
                show Ev im_K0 19 mX12_beside (0, [(0, .ref 164), (1, .int x1), (2, .int x2)], [], g1) _
                refine sp_iload_n (p2 := 1) rfl rfl rfl ?_
                refine sp_iconst (p2 := 2) (x := 1) rfl rfl (by decide) ?_
                refine sp_bipush (p2 := 4) (x := 60) rfl rfl (by decide) ?_
                refine st_callS rfl rfl rfl (cl_in_T (a := 1) (b := 60) rfl rfl (by omega)) ?_
                show Ev _ _ _ (7, [(0, .ref 164), (1, .int x1), (2, .int x2)], [.int 1], g1) _
                refine st_ifc (b := false) rfl (by decide) ?_
                show Ev _ _ _ (10, _, _, _) _
                refine sp_iload_n (p2 := 11) rfl rfl rfl ?_
                refine sp_iconst (p2 := 12) (x := 0) rfl rfl (by decide) ?_
                refine sp_iconst (p2 := 13) (x := 3) rfl rfl (by decide) ?_
                refine st_callS rfl rfl rfl (cl_in_T (a := 0) (b := 3) rfl rfl (by omega)) ?_
                show Ev _ _ _ (16, [(0, .ref 164), (1, .int x1), (2, .int x2)], [.int 1], g1) _
                refine st_ifc (b := false) rfl (by decide) ?_
                show Ev _ _ _ (19, _, _, _) _
                refine sp_aload_n (p2 := 20) rfl rfl rfl ?_
                refine st_get rfl g1_148 rfl ?_
                show Ev _ _ _ (23, _, _, _) _
                refine sp_bipush (p2 := 25) (x := 105) rfl rfl (by decide) ?_
                refine st_iald (x := 0) rfl (by decide) g1_149 rfl rfl ?_
                show Ev _ _ _ (26, _, _, _) _
                refine sp_iload_n (p2 := 27) rfl rfl rfl ?_
                refine sp_iadd (p2 := 28) (z := x1) rfl rfl (Int32.zero_add _) ?_
                refine sp_sipush (p2 := 31) (x := 2000) rfl rfl (by decide) ?_
                refine st_icmp (b := true) rfl (cn_le_T rfl (show Int32.toInt 2000 = 2000 from rfl) (by omega)) ?_
                show Ev _ _ _ (38, _, _, _) _
                refine sp_aload_n (p2 := 39) rfl rfl rfl ?_
                refine sp_iconst (p2 := 40) (x := 0) rfl rfl (by decide) ?_
                refine st_callV (R := 164) rfl rfl rfl g1_148 rfl hl0 ?_
                show Ev _ _ _ (43, [(0, .ref 164), (1, .int x1), (2, .int x2)], [], g2) _
                refine sp_iload_n (p2 := 44) rfl rfl rfl ?_
                refine sp_iconst (p2 := 45) (x := 1) rfl rfl (by decide) ?_
                refine st_icmp (b := false) rfl (cn_ne_F rfl (show Int32.toInt 1 = 1 from rfl) (by omega)) ?_
                show Ev _ _ _ (48, _, _, _) _
                refine sp_aload_n (p2 := 49) rfl rfl rfl ?_
                refine st_get rfl g2_148 rfl ?_
                show Ev _ _ _ (52, _, _, _) _
                refine sp_bipush (p2 := 54) (x := 100) rfl rfl (by decide) ?_
                refine st_iald (x := 0) rfl (by decide) g2_149 (in_at (n := 283) hA.1 (by decide) (by decide)) (hA.2.2 100 (by decide)) ?_
                show Ev _ _ _ (55, [(0, .ref 164), (1, .int x1), (2, .int x2)], [.int 0], g2) _
                refine sp_goto rfl ?_
                refine sp_istore_n (p2 := 79) (lv2 := [(3, .int 0), (0, .ref 164), (1, .int x1), (2, .int x2)]) rfl rfl (by decide) rfl ?_
                refine sp_iconst (p2 := 80) (x := 0) rfl rfl (by decide) ?_
                refine sp_istore (p2 := 82) (lv2 := [(4, .int 0), (3, .int 0), (0, .ref 164), (1, .int x1), (2, .int x2)]) rfl rfl (by decide) rfl ?_
                exact he3
            · by_cases h7 : x2.toInt ≤ 2
              · obtain ⟨m, hm⟩ : ∃ m : Nat, (m : Int) = x1.toInt := ⟨x1.toInt.toNat, by omega⟩
                obtain ⟨g1, he1, g1_len, fr1⟩ := besX_lp x2 x1 (by omega) (besX_out x2 x1 (by omega) (by omega)) m hh 0 Paside_0 (by decide) (by rw [show Int32.toInt 0 = 0 from rfl]; omega)
                obtain ⟨g2, hl0, hp2⟩ := lays0 g1 0 (PM_0 g1_len fr1)
                obtain ⟨g3, he3, _⟩ := besM_lp x2 x1 (by omega) (besM_out x2 x1 (by omega) (by omega)) m g2 0 hp2 (by decide) (by rw [show Int32.toInt 0 = 0 from rfl]; omega)
                obtain ⟨g2_len, g2_148, g2_161, g2_165, ⟨A, hA, g2_149⟩, ⟨K, hK, g2_150⟩⟩ := hp2
                have g1_148 := ob_fr (fr1 148 (by decide)) hh_148
                have g1_149 := ia_fr (fr1 149 (by decide)) hh_149
                refine ⟨.long 0, g1, g3, ?_, ?_⟩
                · refine ca_of (d := 19) (M := mX11_beside) rfl (Nat.le_of_ble_eq_true rfl) ?_
                  show Ev im_K0 19 mX11_beside (0, [(0, .ref 16), (1, .int x1), (2, .int x2)], [], hh) _
                  refine sp_iload_n (p2 := 1) rfl rfl rfl ?_
                  refine sp_iconst (p2 := 2) (x := 1) rfl rfl (by decide) ?_
                  refine sp_bipush (p2 := 4) (x := 60) rfl rfl (by decide) ?_
                  refine st_callS rfl rfl rfl (cl_between_T (a := 1) (b := 60) rfl rfl (by omega)) ?_
                  show Ev _ _ _ (7, [(0, .ref 16), (1, .int x1), (2, .int x2)], [.int 1], hh) _
                  refine st_ifc (b := false) rfl (by decide) ?_
                  show Ev _ _ _ (10, _, _, _) _
                  refine sp_iload_n (p2 := 11) rfl rfl rfl ?_
                  refine sp_iconst (p2 := 12) (x := 4) rfl rfl (by decide) ?_
                  refine st_callS rfl rfl rfl (cl_within_T (b := 4) rfl (by omega)) ?_
                  show Ev _ _ _ (15, [(0, .ref 16), (1, .int x1), (2, .int x2)], [.int 1], hh) _
                  refine st_ifc (b := false) rfl (by decide) ?_
                  show Ev _ _ _ (18, _, _, _) _
                  refine sp_aload_n (p2 := 19) rfl rfl rfl ?_
                  refine st_get rfl hh_0 rfl ?_
                  show Ev _ _ _ (22, _, _, _) _
                  refine st_get rfl hh_23 rfl ?_
                  show Ev _ _ _ (25, _, _, _) _
                  refine sp_iload_n (p2 := 26) rfl rfl rfl ?_
                  refine sp_iadd (p2 := 27) (z := x1) rfl rfl (Int32.zero_add _) ?_
                  refine sp_sipush (p2 := 30) (x := 2000) rfl rfl (by decide) ?_
                  refine st_icmp (b := true) rfl (cn_le_T rfl (show Int32.toInt 2000 = 2000 from rfl) (by omega)) ?_
                  show Ev _ _ _ (37, _, _, _) _
                  refine sp_aload_n (p2 := 38) rfl rfl rfl ?_
                  refine st_get rfl hh_0 rfl ?_
                  show Ev _ _ _ (41, _, _, _) _
                  refine sp_aload_n (p2 := 42) rfl rfl rfl ?_
                  refine st_get rfl hh_0 rfl ?_
                  show Ev _ _ _ (45, _, _, _) _
                  refine st_callV (R := 53) rfl rfl rfl hh_37 rfl (show Ca 19 46 [.ref 53, .ref 39] hh (none, hh) from ca_dec (d := 9) (f := 175) (by decide) (im_eqb_eq (by decide +kernel))) ?_
                  show Ev _ _ _ (48, [(0, .ref 16), (1, .int x1), (2, .int x2)], [], hh) _
                  refine sp_iconst (p2 := 49) (x := 0) rfl rfl (by decide) ?_
                  refine sp_istore_n (p2 := 50) (lv2 := [(3, .int 0), (0, .ref 16), (1, .int x1), (2, .int x2)]) rfl rfl (by decide) rfl ?_
                  exact he1
                · refine ca_of (d := 19) (M := mX12_beside) rfl (Nat.le_of_ble_eq_true rfl) ?_
                  show Ev im_K0 19 mX12_beside (0, [(0, .ref 164), (1, .int x1), (2, .int x2)], [], g1) _
                  refine sp_iload_n (p2 := 1) rfl rfl rfl ?_
                  refine sp_iconst (p2 := 2) (x := 1) rfl rfl (by decide) ?_
                  refine sp_bipush (p2 := 4) (x := 60) rfl rfl (by decide) ?_
                  refine st_callS rfl rfl rfl (cl_in_T (a := 1) (b := 60) rfl rfl (by omega)) ?_
                  show Ev _ _ _ (7, [(0, .ref 164), (1, .int x1), (2, .int x2)], [.int 1], g1) _
                  refine st_ifc (b := false) rfl (by decide) ?_
                  show Ev _ _ _ (10, _, _, _) _
                  refine sp_iload_n (p2 := 11) rfl rfl rfl ?_
                  refine sp_iconst (p2 := 12) (x := 0) rfl rfl (by decide) ?_
                  refine sp_iconst (p2 := 13) (x := 3) rfl rfl (by decide) ?_
                  refine st_callS rfl rfl rfl (cl_in_T (a := 0) (b := 3) rfl rfl (by omega)) ?_
                  show Ev _ _ _ (16, [(0, .ref 164), (1, .int x1), (2, .int x2)], [.int 1], g1) _
                  refine st_ifc (b := false) rfl (by decide) ?_
                  show Ev _ _ _ (19, _, _, _) _
                  refine sp_aload_n (p2 := 20) rfl rfl rfl ?_
                  refine st_get rfl g1_148 rfl ?_
                  show Ev _ _ _ (23, _, _, _) _
                  refine sp_bipush (p2 := 25) (x := 105) rfl rfl (by decide) ?_
                  refine st_iald (x := 0) rfl (by decide) g1_149 rfl rfl ?_
                  show Ev _ _ _ (26, _, _, _) _
                  refine sp_iload_n (p2 := 27) rfl rfl rfl ?_
                  refine sp_iadd (p2 := 28) (z := x1) rfl rfl (Int32.zero_add _) ?_
                  refine sp_sipush (p2 := 31) (x := 2000) rfl rfl (by decide) ?_
                  refine st_icmp (b := true) rfl (cn_le_T rfl (show Int32.toInt 2000 = 2000 from rfl) (by omega)) ?_
                  show Ev _ _ _ (38, _, _, _) _
                  refine sp_aload_n (p2 := 39) rfl rfl rfl ?_
                  refine sp_iconst (p2 := 40) (x := 0) rfl rfl (by decide) ?_
                  refine st_callV (R := 164) rfl rfl rfl g1_148 rfl hl0 ?_
                  show Ev _ _ _ (43, [(0, .ref 164), (1, .int x1), (2, .int x2)], [], g2) _
                  refine sp_iload_n (p2 := 44) rfl rfl rfl ?_
                  refine sp_iconst (p2 := 45) (x := 1) rfl rfl (by decide) ?_
                  refine st_icmp (b := true) rfl (cn_ne_T rfl (show Int32.toInt 1 = 1 from rfl) (by omega)) ?_
                  show Ev _ _ _ (58, _, _, _) _
                  refine sp_iload_n (p2 := 59) rfl rfl rfl ?_
                  refine sp_iconst (p2 := 60) (x := 2) rfl rfl (by decide) ?_
                  refine st_icmp (b := false) rfl (cn_ne_F rfl (show Int32.toInt 2 = 2 from rfl) (by omega)) ?_
                  show Ev _ _ _ (63, _, _, _) _
                  refine sp_aload_n (p2 := 64) rfl rfl rfl ?_
                  refine sp_sipush (p2 := 67) (x := 236) rfl rfl (by decide) ?_
                  refine sp_aload_n (p2 := 68) rfl rfl rfl ?_
                  refine st_get rfl g2_148 rfl ?_
                  show Ev _ _ _ (71, _, _, _) _
                  have c1 : Ca 19 163 [.ref 164, .int 236, .int 0] g2 (some (.int 0), g2) := by
                    refine ca_of (d := 18) (M := mX12_sum) rfl (Nat.le_of_ble_eq_true rfl) ?_
                    show Ev im_K0 18 mX12_sum (0, [(0, .ref 164), (1, .int 236), (2, .int 0)], [], g2) _
                    refine sp_iconst (p2 := 1) (x := 0) rfl rfl (by decide) ?_
                    refine sp_istore_n (p2 := 2) (lv2 := [(3, .int 0), (0, .ref 164), (1, .int 236), (2, .int 0)]) rfl rfl (by decide) rfl ?_
                    refine sp_iconst (p2 := 3) (x := 0) rfl rfl (by decide) ?_
                    refine sp_istore (p2 := 5) (lv2 := [(4, .int 0), (3, .int 0), (0, .ref 164), (1, .int 236), (2, .int 0)]) rfl rfl (by decide) rfl ?_
                    refine sp_iload (p2 := 7) rfl rfl rfl ?_
                    refine sp_iload_n (p2 := 8) rfl rfl rfl ?_
                    refine st_icmp (b := true) rfl (by decide) ?_
                    show Ev _ _ _ (29, _, _, _) _
                    refine sp_iload_n (p2 := 30) rfl rfl rfl ?_
                    exact sp_iret rfl rfl
                  refine st_callV (R := 164) rfl rfl rfl g2_148 rfl c1 ?_
                  show Ev _ _ _ (74, [(0, .ref 164), (1, .int x1), (2, .int x2)], [.int 0], g2) _
                  refine sp_goto rfl ?_
                  refine sp_istore_n (p2 := 79) (lv2 := [(3, .int 0), (0, .ref 164), (1, .int x1), (2, .int x2)]) rfl rfl (by decide) rfl ?_
                  refine sp_iconst (p2 := 80) (x := 0) rfl rfl (by decide) ?_
                  refine sp_istore (p2 := 82) (lv2 := [(4, .int 0), (3, .int 0), (0, .ref 164), (1, .int x1), (2, .int x2)]) rfl rfl (by decide) rfl ?_
                  exact he3
              · obtain ⟨m, hm⟩ : ∃ m : Nat, (m : Int) = x1.toInt := ⟨x1.toInt.toNat, by omega⟩
                obtain ⟨g1, he1, g1_len, fr1⟩ := besX_lp x2 x1 (by omega) (besX_out x2 x1 (by omega) (by omega)) m hh 0 Paside_0 (by decide) (by rw [show Int32.toInt 0 = 0 from rfl]; omega)
                obtain ⟨g2, hl0, hp2⟩ := lays0 g1 0 (PM_0 g1_len fr1)
                obtain ⟨g3, he3, _⟩ := besM_lp x2 x1 (by omega) (besM_out x2 x1 (by omega) (by omega)) m g2 0 hp2 (by decide) (by rw [show Int32.toInt 0 = 0 from rfl]; omega)
                obtain ⟨g2_len, g2_148, g2_161, g2_165, ⟨A, hA, g2_149⟩, ⟨K, hK, g2_150⟩⟩ := hp2
                have g1_148 := ob_fr (fr1 148 (by decide)) hh_148
                have g1_149 := ia_fr (fr1 149 (by decide)) hh_149
                refine ⟨.long 0, g1, g3, ?_, ?_⟩
                · refine ca_of (d := 19) (M := mX11_beside) rfl (Nat.le_of_ble_eq_true rfl) ?_
                  show Ev im_K0 19 mX11_beside (0, [(0, .ref 16), (1, .int x1), (2, .int x2)], [], hh) _
                  refine sp_iload_n (p2 := 1) rfl rfl rfl ?_
                  refine sp_iconst (p2 := 2) (x := 1) rfl rfl (by decide) ?_
                  refine sp_bipush (p2 := 4) (x := 60) rfl rfl (by decide) ?_
                  refine st_callS rfl rfl rfl (cl_between_T (a := 1) (b := 60) rfl rfl (by omega)) ?_
                  show Ev _ _ _ (7, [(0, .ref 16), (1, .int x1), (2, .int x2)], [.int 1], hh) _
                  refine st_ifc (b := false) rfl (by decide) ?_
                  show Ev _ _ _ (10, _, _, _) _
                  refine sp_iload_n (p2 := 11) rfl rfl rfl ?_
                  refine sp_iconst (p2 := 12) (x := 4) rfl rfl (by decide) ?_
                  refine st_callS rfl rfl rfl (cl_within_T (b := 4) rfl (by omega)) ?_
                  show Ev _ _ _ (15, [(0, .ref 16), (1, .int x1), (2, .int x2)], [.int 1], hh) _
                  refine st_ifc (b := false) rfl (by decide) ?_
                  show Ev _ _ _ (18, _, _, _) _
                  refine sp_aload_n (p2 := 19) rfl rfl rfl ?_
                  refine st_get rfl hh_0 rfl ?_
                  show Ev _ _ _ (22, _, _, _) _
                  refine st_get rfl hh_23 rfl ?_
                  show Ev _ _ _ (25, _, _, _) _
                  refine sp_iload_n (p2 := 26) rfl rfl rfl ?_
                  refine sp_iadd (p2 := 27) (z := x1) rfl rfl (Int32.zero_add _) ?_
                  refine sp_sipush (p2 := 30) (x := 2000) rfl rfl (by decide) ?_
                  refine st_icmp (b := true) rfl (cn_le_T rfl (show Int32.toInt 2000 = 2000 from rfl) (by omega)) ?_
                  show Ev _ _ _ (37, _, _, _) _
                  refine sp_aload_n (p2 := 38) rfl rfl rfl ?_
                  refine st_get rfl hh_0 rfl ?_
                  show Ev _ _ _ (41, _, _, _) _
                  refine sp_aload_n (p2 := 42) rfl rfl rfl ?_
                  refine st_get rfl hh_0 rfl ?_
                  show Ev _ _ _ (45, _, _, _) _
                  refine st_callV (R := 53) rfl rfl rfl hh_37 rfl (show Ca 19 46 [.ref 53, .ref 39] hh (none, hh) from ca_dec (d := 9) (f := 175) (by decide) (im_eqb_eq (by decide +kernel))) ?_
                  show Ev _ _ _ (48, [(0, .ref 16), (1, .int x1), (2, .int x2)], [], hh) _
                  refine sp_iconst (p2 := 49) (x := 0) rfl rfl (by decide) ?_
                  refine sp_istore_n (p2 := 50) (lv2 := [(3, .int 0), (0, .ref 16), (1, .int x1), (2, .int x2)]) rfl rfl (by decide) rfl ?_
                  exact he1
                · refine ca_of (d := 19) (M := mX12_beside) rfl (Nat.le_of_ble_eq_true rfl) ?_
                  show Ev im_K0 19 mX12_beside (0, [(0, .ref 164), (1, .int x1), (2, .int x2)], [], g1) _
                  refine sp_iload_n (p2 := 1) rfl rfl rfl ?_
                  refine sp_iconst (p2 := 2) (x := 1) rfl rfl (by decide) ?_
                  refine sp_bipush (p2 := 4) (x := 60) rfl rfl (by decide) ?_
                  refine st_callS rfl rfl rfl (cl_in_T (a := 1) (b := 60) rfl rfl (by omega)) ?_
                  show Ev _ _ _ (7, [(0, .ref 164), (1, .int x1), (2, .int x2)], [.int 1], g1) _
                  refine st_ifc (b := false) rfl (by decide) ?_
                  show Ev _ _ _ (10, _, _, _) _
                  refine sp_iload_n (p2 := 11) rfl rfl rfl ?_
                  refine sp_iconst (p2 := 12) (x := 0) rfl rfl (by decide) ?_
                  refine sp_iconst (p2 := 13) (x := 3) rfl rfl (by decide) ?_
                  refine st_callS rfl rfl rfl (cl_in_T (a := 0) (b := 3) rfl rfl (by omega)) ?_
                  show Ev _ _ _ (16, [(0, .ref 164), (1, .int x1), (2, .int x2)], [.int 1], g1) _
                  refine st_ifc (b := false) rfl (by decide) ?_
                  show Ev _ _ _ (19, _, _, _) _
                  refine sp_aload_n (p2 := 20) rfl rfl rfl ?_
                  refine st_get rfl g1_148 rfl ?_
                  show Ev _ _ _ (23, _, _, _) _
                  refine sp_bipush (p2 := 25) (x := 105) rfl rfl (by decide) ?_
                  refine st_iald (x := 0) rfl (by decide) g1_149 rfl rfl ?_
                  show Ev _ _ _ (26, _, _, _) _
                  refine sp_iload_n (p2 := 27) rfl rfl rfl ?_
                  refine sp_iadd (p2 := 28) (z := x1) rfl rfl (Int32.zero_add _) ?_
                  refine sp_sipush (p2 := 31) (x := 2000) rfl rfl (by decide) ?_
                  refine st_icmp (b := true) rfl (cn_le_T rfl (show Int32.toInt 2000 = 2000 from rfl) (by omega)) ?_
                  show Ev _ _ _ (38, _, _, _) _
                  refine sp_aload_n (p2 := 39) rfl rfl rfl ?_
                  refine sp_iconst (p2 := 40) (x := 0) rfl rfl (by decide) ?_
                  refine st_callV (R := 164) rfl rfl rfl g1_148 rfl hl0 ?_
                  show Ev _ _ _ (43, [(0, .ref 164), (1, .int x1), (2, .int x2)], [], g2) _
                  refine sp_iload_n (p2 := 44) rfl rfl rfl ?_
                  refine sp_iconst (p2 := 45) (x := 1) rfl rfl (by decide) ?_
                  refine st_icmp (b := true) rfl (cn_ne_T rfl (show Int32.toInt 1 = 1 from rfl) (by omega)) ?_
                  show Ev _ _ _ (58, _, _, _) _
                  refine sp_iload_n (p2 := 59) rfl rfl rfl ?_
                  refine sp_iconst (p2 := 60) (x := 2) rfl rfl (by decide) ?_
                  refine st_icmp (b := true) rfl (cn_ne_T rfl (show Int32.toInt 2 = 2 from rfl) (by omega)) ?_
                  show Ev _ _ _ (77, _, _, _) _
                  refine sp_iconst (p2 := 78) (x := 0) rfl rfl (by decide) ?_
                  refine sp_istore_n (p2 := 79) (lv2 := [(3, .int 0), (0, .ref 164), (1, .int x1), (2, .int x2)]) rfl rfl (by decide) rfl ?_
                  refine sp_iconst (p2 := 80) (x := 0) rfl rfl (by decide) ?_
                  refine sp_istore (p2 := 82) (lv2 := [(4, .int 0), (3, .int 0), (0, .ref 164), (1, .int x1), (2, .int x2)]) rfl rfl (by decide) rfl ?_
                  exact he3
        · refine ⟨.long (-4611686018427387904), hh, hh, ?_, ?_⟩
          · refine ca_of (d := 19) (M := mX11_beside) rfl (Nat.le_of_ble_eq_true rfl) ?_
            show Ev im_K0 19 mX11_beside (0, [(0, .ref 16), (1, .int x1), (2, .int x2)], [], hh) _
            refine sp_iload_n (p2 := 1) rfl rfl rfl ?_
            refine sp_iconst (p2 := 2) (x := 1) rfl rfl (by decide) ?_
            refine sp_bipush (p2 := 4) (x := 60) rfl rfl (by decide) ?_
            refine st_callS rfl rfl rfl (cl_between_T (a := 1) (b := 60) rfl rfl (by omega)) ?_
            show Ev _ _ _ (7, [(0, .ref 16), (1, .int x1), (2, .int x2)], [.int 1], hh) _
            refine st_ifc (b := false) rfl (by decide) ?_
            show Ev _ _ _ (10, _, _, _) _
            refine sp_iload_n (p2 := 11) rfl rfl rfl ?_
            refine sp_iconst (p2 := 12) (x := 4) rfl rfl (by decide) ?_
            refine st_callS rfl rfl rfl (cl_within_F (b := 4) rfl (by omega)) ?_
            show Ev _ _ _ (15, [(0, .ref 16), (1, .int x1), (2, .int x2)], [.int 0], hh) _
            refine st_ifc (b := true) rfl (by decide) ?_
            show Ev _ _ _ (33, _, _, _) _
            refine sp_ldc2 (p2 := 36) (x := (-4611686018427387904)) rfl rfl rfl ?_
            exact sp_lret rfl rfl
          · refine ca_of (d := 19) (M := mX12_beside) rfl (Nat.le_of_ble_eq_true rfl) ?_
            show Ev im_K0 19 mX12_beside (0, [(0, .ref 164), (1, .int x1), (2, .int x2)], [], hh) _
            refine sp_iload_n (p2 := 1) rfl rfl rfl ?_
            refine sp_iconst (p2 := 2) (x := 1) rfl rfl (by decide) ?_
            refine sp_bipush (p2 := 4) (x := 60) rfl rfl (by decide) ?_
            refine st_callS rfl rfl rfl (cl_in_T (a := 1) (b := 60) rfl rfl (by omega)) ?_
            show Ev _ _ _ (7, [(0, .ref 164), (1, .int x1), (2, .int x2)], [.int 1], hh) _
            refine st_ifc (b := false) rfl (by decide) ?_
            show Ev _ _ _ (10, _, _, _) _
            refine sp_iload_n (p2 := 11) rfl rfl rfl ?_
            refine sp_iconst (p2 := 12) (x := 0) rfl rfl (by decide) ?_
            refine sp_iconst (p2 := 13) (x := 3) rfl rfl (by decide) ?_
            refine st_callS rfl rfl rfl (cl_in_F (a := 0) (b := 3) rfl rfl (by omega)) ?_
            show Ev _ _ _ (16, [(0, .ref 164), (1, .int x1), (2, .int x2)], [.int 0], hh) _
            refine st_ifc (b := true) rfl (by decide) ?_
            show Ev _ _ _ (34, _, _, _) _
            refine sp_ldc2 (p2 := 37) (x := (-4611686018427387904)) rfl rfl rfl ?_
            exact sp_lret rfl rfl
    · refine ⟨.long (-4611686018427387904), hh, hh, ?_, ?_⟩
      · refine ca_of (d := 19) (M := mX11_beside) rfl (Nat.le_of_ble_eq_true rfl) ?_
        show Ev im_K0 19 mX11_beside (0, [(0, .ref 16), (1, .int x1), (2, .int x2)], [], hh) _
        refine sp_iload_n (p2 := 1) rfl rfl rfl ?_
        refine sp_iconst (p2 := 2) (x := 1) rfl rfl (by decide) ?_
        refine sp_bipush (p2 := 4) (x := 60) rfl rfl (by decide) ?_
        refine st_callS rfl rfl rfl (cl_between_F (a := 1) (b := 60) rfl rfl (by omega)) ?_
        show Ev _ _ _ (7, [(0, .ref 16), (1, .int x1), (2, .int x2)], [.int 0], hh) _
        refine st_ifc (b := true) rfl (by decide) ?_
        show Ev _ _ _ (33, _, _, _) _
        refine sp_ldc2 (p2 := 36) (x := (-4611686018427387904)) rfl rfl rfl ?_
        exact sp_lret rfl rfl
      · refine ca_of (d := 19) (M := mX12_beside) rfl (Nat.le_of_ble_eq_true rfl) ?_
        show Ev im_K0 19 mX12_beside (0, [(0, .ref 164), (1, .int x1), (2, .int x2)], [], hh) _
        refine sp_iload_n (p2 := 1) rfl rfl rfl ?_
        refine sp_iconst (p2 := 2) (x := 1) rfl rfl (by decide) ?_
        refine sp_bipush (p2 := 4) (x := 60) rfl rfl (by decide) ?_
        refine st_callS rfl rfl rfl (cl_in_F (a := 1) (b := 60) rfl rfl (by omega)) ?_
        show Ev _ _ _ (7, [(0, .ref 164), (1, .int x1), (2, .int x2)], [.int 0], hh) _
        refine st_ifc (b := true) rfl (by decide) ?_
        show Ev _ _ _ (34, _, _, _) _
        refine sp_ldc2 (p2 := 37) (x := (-4611686018427387904)) rfl rfl rfl ?_
        exact sp_lret rfl rfl
