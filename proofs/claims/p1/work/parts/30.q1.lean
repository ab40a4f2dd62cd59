set_option maxRecDepth 10000 in
set_option maxHeartbeats 4000000 in
theorem q_ruin (x1 x2 x3 : Int32) : ∃ (v : Value) (h1 h2 : im_H), Ca 20 61 [.ref 16, .int x1, .int x2, .int x3] hh (some v, h1) ∧ Ca 20 123 [.ref 164, .int x1, .int x2, .int x3] h1 (some v, h2) := by
  by_cases h1 : x1.toInt ≤ (-1)
  · refine ⟨.int (-1), hh, hh, ?_, ?_⟩
    · refine ca_of (d := 19) (M := mX11_ruin) rfl (Nat.le_of_ble_eq_true rfl) ?_
      show Ev im_K0 19 mX11_ruin (0, [(0, .ref 16), (1, .int x1), (2, .int x2), (3, .int x3)], [], hh) _
      refine sp_iload_n (p2 := 1) rfl rfl rfl ?_
      refine sp_bipush (p2 := 3) (x := 100) rfl rfl (by decide) ?_
      refine st_callS rfl rfl rfl (cl_within_F (b := 100) rfl (by omega)) ?_
      show Ev _ _ _ (6, [(0, .ref 16), (1, .int x1), (2, .int x2), (3, .int x3)], [.int 0], hh) _
      refine st_ifc (b := false) rfl (by decide) ?_
      show Ev _ _ _ (9, _, _, _) _
      refine sp_iconst (p2 := 10) (x := (-1)) rfl rfl (by decide) ?_
      exact sp_iret rfl rfl
    · refine ca_of (d := 19) (M := mX12_ruin) rfl (Nat.le_of_ble_eq_true rfl) ?_
      show Ev im_K0 19 mX12_ruin (0, [(0, .ref 164), (1, .int x1), (2, .int x2), (3, .int x3)], [], hh) _
      refine sp_iload_n (p2 := 1) rfl rfl rfl ?_
      refine st_callS rfl rfl rfl (cl_isCell_F (by omega)) ?_
      show Ev _ _ _ (4, [(0, .ref 164), (1, .int x1), (2, .int x2), (3, .int x3)], [.int 0], hh) _
      refine st_ifc (b := false) rfl (by decide) ?_
      show Ev _ _ _ (7, _, _, _) _
      refine sp_iconst (p2 := 8) (x := (-1)) rfl rfl (by decide) ?_
      exact sp_iret rfl rfl
  · by_cases h2 : x1.toInt ≤ 99
    · by_cases h3 : x2.toInt ≤ (-1)
      · refine ⟨.int (-2), hh, hh, ?_, ?_⟩
        · refine ca_of (d := 19) (M := mX11_ruin) rfl (Nat.le_of_ble_eq_true rfl) ?_
          show Ev im_K0 19 mX11_ruin (0, [(0, .ref 16), (1, .int x1), (2, .int x2), (3, .int x3)], [], hh) _
          refine sp_iload_n (p2 := 1) rfl rfl rfl ?_
          refine sp_bipush (p2 := 3) (x := 100) rfl rfl (by decide) ?_
          refine st_callS rfl rfl rfl (cl_within_T (b := 100) rfl (by omega)) ?_
          show Ev _ _ _ (6, [(0, .ref 16), (1, .int x1), (2, .int x2), (3, .int x3)], [.int 1], hh) _
          refine st_ifc (b := true) rfl (by decide) ?_
          show Ev _ _ _ (11, _, _, _) _
          refine sp_iload_n (p2 := 12) rfl rfl rfl ?_
          refine sp_bipush (p2 := 14) (x := 6) rfl rfl (by decide) ?_
          refine st_callS rfl rfl rfl (cl_within_F (b := 6) rfl (by omega)) ?_
          show Ev _ _ _ (17, [(0, .ref 16), (1, .int x1), (2, .int x2), (3, .int x3)], [.int 0], hh) _
          refine st_ifc (b := true) rfl (by decide) ?_
          show Ev _ _ _ (31, _, _, _) _
          refine sp_bipush (p2 := 33) (x := (-2)) rfl rfl (by decide) ?_
          exact sp_iret rfl rfl
        · refine ca_of (d := 19) (M := mX12_ruin) rfl (Nat.le_of_ble_eq_true rfl) ?_
          show Ev im_K0 19 mX12_ruin (0, [(0, .ref 164), (1, .int x1), (2, .int x2), (3, .int x3)], [], hh) _
          refine sp_iload_n (p2 := 1) rfl rfl rfl ?_
          refine st_callS rfl rfl rfl (cl_isCell_T (by omega)) ?_
          show Ev _ _ _ (4, [(0, .ref 164), (1, .int x1), (2, .int x2), (3, .int x3)], [.int 1], hh) _
          refine st_ifc (b := true) rfl (by decide) ?_
          show Ev _ _ _ (9, _, _, _) _
          refine sp_iload_n (p2 := 10) rfl rfl rfl ?_
          refine sp_iconst (p2 := 11) (x := 0) rfl rfl (by decide) ?_
          refine sp_iconst (p2 := 12) (x := 5) rfl rfl (by decide) ?_
          refine st_callS rfl rfl rfl (cl_in_F (a := 0) (b := 5) rfl rfl (by omega)) ?_
          show Ev _ _ _ (15, [(0, .ref 164), (1, .int x1), (2, .int x2), (3, .int x3)], [.int 0], hh) _
          refine st_ifc (b := true) rfl (by decide) ?_
          show Ev _ _ _ (29, _, _, _) _
          refine sp_bipush (p2 := 31) (x := (-2)) rfl rfl (by decide) ?_
          exact sp_iret rfl rfl
      · by_cases h4 : x2.toInt ≤ 5
        · by_cases h5 : x3.toInt ≤ (-1)
          · refine ⟨.int (-2), hh, hh, ?_, ?_⟩
            · refine ca_of (d := 19) (M := mX11_ruin) rfl (Nat.le_of_ble_eq_true rfl) ?_
              show Ev im_K0 19 mX11_ruin (0, [(0, .ref 16), (1, .int x1), (2, .int x2), (3, .int x3)], [], hh) _
              refine sp_iload_n (p2 := 1) rfl rfl rfl ?_
              refine sp_bipush (p2 := 3) (x := 100) rfl rfl (by decide) ?_
              refine st_callS rfl rfl rfl (cl_within_T (b := 100) rfl (by omega)) ?_
              show Ev _ _ _ (6, [(0, .ref 16), (1, .int x1), (2, .int x2), (3, .int x3)], [.int 1], hh) _
              refine st_ifc (b := true) rfl (by decide) ?_
              show Ev _ _ _ (11, _, _, _) _
              refine sp_iload_n (p2 := 12) rfl rfl rfl ?_
              refine sp_bipush (p2 := 14) (x := 6) rfl rfl (by decide) ?_
              refine st_callS rfl rfl rfl (cl_within_T (b := 6) rfl (by omega)) ?_
              show Ev _ _ _ (17, [(0, .ref 16), (1, .int x1), (2, .int x2), (3, .int x3)], [.int 1], hh) _
              refine st_ifc (b := false) rfl (by decide) ?_
              show Ev _ _ _ (20, _, _, _) _
              refine sp_iload_n (p2 := 21) rfl rfl rfl ?_
              refine sp_iconst (p2 := 22) (x := 0) rfl rfl (by decide) ?_
              refine sp_sipush (p2 := 25) (x := 9999) rfl rfl (by decide) ?_
              refine st_callS rfl rfl rfl (cl_between_F (a := 0) (b := 9999) rfl rfl (by omega)) ?_
              show Ev _ _ _ (28, [(0, .ref 16), (1, .int x1), (2, .int x2), (3, .int x3)], [.int 0], hh) _
              refine st_ifc (b := false) rfl (by decide) ?_
              show Ev _ _ _ (31, _, _, _) _
              refine sp_bipush (p2 := 33) (x := (-2)) rfl rfl (by decide) ?_
              exact sp_iret rfl rfl
            · refine ca_of (d := 19) (M := mX12_ruin) rfl (Nat.le_of_ble_eq_true rfl) ?_
              show Ev im_K0 19 mX12_ruin (0, [(0, .ref 164), (1, .int x1), (2, .int x2), (3, .int x3)], [], hh) _
              refine sp_iload_n (p2 := 1) rfl rfl rfl ?_
              refine st_callS rfl rfl rfl (cl_isCell_T (by omega)) ?_
              show Ev _ _ _ (4, [(0, .ref 164), (1, .int x1), (2, .int x2), (3, .int x3)], [.int 1], hh) _
              refine st_ifc (b := true) rfl (by decide) ?_
              show Ev _ _ _ (9, _, _, _) _
              refine sp_iload_n (p2 := 10) rfl rfl rfl ?_
              refine sp_iconst (p2 := 11) (x := 0) rfl rfl (by decide) ?_
              refine sp_iconst (p2 := 12) (x := 5) rfl rfl (by decide) ?_
              refine st_callS rfl rfl rfl (cl_in_T (a := 0) (b := 5) rfl rfl (by omega)) ?_
              show Ev _ _ _ (15, [(0, .ref 164), (1, .int x1), (2, .int x2), (3, .int x3)], [.int 1], hh) _
              refine st_ifc (b := false) rfl (by decide) ?_
              show Ev _ _ _ (18, _, _, _) _
              refine sp_iload_n (p2 := 19) rfl rfl rfl ?_
              refine sp_iconst (p2 := 20) (x := 0) rfl rfl (by decide) ?_
              refine sp_sipush (p2 := 23) (x := 9999) rfl rfl (by decide) ?_
              refine st_callS rfl rfl rfl (cl_in_F (a := 0) (b := 9999) rfl rfl (by omega)) ?_
              show Ev _ _ _ (26, [(0, .ref 164), (1, .int x1), (2, .int x2), (3, .int x3)], [.int 0], hh) _
              refine st_ifc (b := false) rfl (by decide) ?_
              show Ev _ _ _ (29, _, _, _) _
              refine sp_bipush (p2 := 31) (x := (-2)) rfl rfl (by decide) ?_
              exact sp_iret rfl rfl
          · by_cases h6 : x3.toInt ≤ 9999
            · refine ⟨.int 0, ((hh.set 2 (.inl (0, .inl (((List.replicate 100 (-1) : List Int32)).set (Int32.toNatClampNeg x1) x2)))).set 25 (.inl (0, .inl (((List.replicate 100 0 : List Int32)).set (Int32.toNatClampNeg x1) x3)))), ((((hh.set 2 (.inl (0, .inl (((List.replicate 100 (-1) : List Int32)).set (Int32.toNatClampNeg x1) x2)))).set 25 (.inl (0, .inl (((List.replicate 100 0 : List Int32)).set (Int32.toNatClampNeg x1) x3)))).set 149 (.inl (0, .inl ((((List.replicate 140 0 ++ (List.replicate 24 (-1) ++ (List.replicate 119 0))) : List Int32)).set (Int32.toNatClampNeg x1) x3)))).set 152 (.inl (0, .inl (((List.replicate 100 (-1) : List Int32)).set (Int32.toNatClampNeg x1) x2)))), ?_, ?_⟩
              · refine ca_of (d := 19) (M := mX11_ruin) rfl (Nat.le_of_ble_eq_true rfl) ?_
                show Ev im_K0 19 mX11_ruin (0, [(0, .ref 16), (1, .int x1), (2, .int x2), (3, .int x3)], [], hh) _
                refine sp_iload_n (p2 := 1) rfl rfl rfl ?_
                refine sp_bipush (p2 := 3) (x := 100) rfl rfl (by decide) ?_
                refine st_callS rfl rfl rfl (cl_within_T (b := 100) rfl (by omega)) ?_
                show Ev _ _ _ (6, [(0, .ref 16), (1, .int x1), (2, .int x2), (3, .int x3)], [.int 1], hh) _
                refine st_ifc (b := true) rfl (by decide) ?_
                show Ev _ _ _ (11, _, _, _) _
                refine sp_iload_n (p2 := 12) rfl rfl rfl ?_
                refine sp_bipush (p2 := 14) (x := 6) rfl rfl (by decide) ?_
                refine st_callS rfl rfl rfl (cl_within_T (b := 6) rfl (by omega)) ?_
                show Ev _ _ _ (17, [(0, .ref 16), (1, .int x1), (2, .int x2), (3, .int x3)], [.int 1], hh) _
                refine st_ifc (b := false) rfl (by decide) ?_
                show Ev _ _ _ (20, _, _, _) _
                refine sp_iload_n (p2 := 21) rfl rfl rfl ?_
                refine sp_iconst (p2 := 22) (x := 0) rfl rfl (by decide) ?_
                refine sp_sipush (p2 := 25) (x := 9999) rfl rfl (by decide) ?_
                refine st_callS rfl rfl rfl (cl_between_T (a := 0) (b := 9999) rfl rfl (by omega)) ?_
                show Ev _ _ _ (28, [(0, .ref 16), (1, .int x1), (2, .int x2), (3, .int x3)], [.int 1], hh) _
                refine st_ifc (b := true) rfl (by decide) ?_
                show Ev _ _ _ (34, _, _, _) _
                refine sp_aload_n (p2 := 35) rfl rfl rfl ?_
                refine st_get rfl hh_0 rfl ?_
                show Ev _ _ _ (38, _, _, _) _
                refine st_get rfl hh_23 rfl ?_
                show Ev _ _ _ (41, _, _, _) _
                refine sp_iload_n (p2 := 42) rfl rfl rfl ?_
                refine st_iald (x := 0) rfl (by decide) hh_25 (in_at (n := 100) rfl (by omega) (by omega)) (rd_at 0 99 (by decide +kernel) (by omega) (by omega)) ?_
                show Ev _ _ _ (43, _, _, _) _
                refine sp_istore (p2 := 45) (lv2 := [(4, .int 0), (0, .ref 16), (1, .int x1), (2, .int x2), (3, .int x3)]) rfl rfl (by decide) rfl ?_
                refine sp_aload_n (p2 := 46) rfl rfl rfl ?_
                refine st_get rfl hh_0 rfl ?_
                show Ev _ _ _ (49, _, _, _) _
                refine st_get rfl hh_1 rfl ?_
                show Ev _ _ _ (52, _, _, _) _
                refine sp_iload_n (p2 := 53) rfl rfl rfl ?_
                refine sp_iload_n (p2 := 54) rfl rfl rfl ?_
                refine st_iast (i := 2) rfl rfl hh_2 (in_at (n := 100) rfl (by omega) (by omega)) ?_
                show Ev _ _ _ (55, [(4, .int 0), (0, .ref 16), (1, .int x1), (2, .int x2), (3, .int x3)], [], (hh.set 2 (.inl (0, .inl (((List.replicate 100 (-1) : List Int32)).set (Int32.toNatClampNeg x1) x2))))) _
                refine sp_aload_n (p2 := 56) rfl rfl rfl ?_
                refine st_get rfl (ob_ne (by decide) hh_0) rfl ?_
                show Ev _ _ _ (59, _, _, _) _
                refine st_get rfl (ob_ne (by decide) hh_23) rfl ?_
                show Ev _ _ _ (62, _, _, _) _
                refine sp_iload_n (p2 := 63) rfl rfl rfl ?_
                refine sp_iload_n (p2 := 64) rfl rfl rfl ?_
                refine st_iast (i := 25) rfl rfl (ia_ne (by decide) hh_25) (in_at (n := 100) rfl (by omega) (by omega)) ?_
                show Ev _ _ _ (65, [(4, .int 0), (0, .ref 16), (1, .int x1), (2, .int x2), (3, .int x3)], [], ((hh.set 2 (.inl (0, .inl (((List.replicate 100 (-1) : List Int32)).set (Int32.toNatClampNeg x1) x2)))).set 25 (.inl (0, .inl (((List.replicate 100 0 : List Int32)).set (Int32.toNatClampNeg x1) x3))))) _
                refine sp_iload (p2 := 67) rfl rfl rfl ?_
                exact sp_iret rfl rfl
              · refine ca_of (d := 19) (M := mX12_ruin) rfl (Nat.le_of_ble_eq_true rfl) ?_
                show Ev im_K0 19 mX12_ruin (0, [(0, .ref 164), (1, .int x1), (2, .int x2), (3, .int x3)], [], ((hh.set 2 (.inl (0, .inl (((List.replicate 100 (-1) : List Int32)).set (Int32.toNatClampNeg x1) x2)))).set 25 (.inl (0, .inl (((List.replicate 100 0 : List Int32)).set (Int32.toNatClampNeg x1) x3))))) _
                refine sp_iload_n (p2 := 1) rfl rfl rfl ?_
                refine st_callS rfl rfl rfl (cl_isCell_T (by omega)) ?_
                show Ev _ _ _ (4, [(0, .ref 164), (1, .int x1), (2, .int x2), (3, .int x3)], [.int 1], ((hh.set 2 (.inl (0, .inl (((List.replicate 100 (-1) : List Int32)).set (Int32.toNatClampNeg x1) x2)))).set 25 (.inl (0, .inl (((List.replicate 100 0 : List Int32)).set (Int32.toNatClampNeg x1) x3))))) _
                refine st_ifc (b := true) rfl (by decide) ?_
                show Ev _ _ _ (9, _, _, _) _
                refine sp_iload_n (p2 := 10) rfl rfl rfl ?_
                refine sp_iconst (p2 := 11) (x := 0) rfl rfl (by decide) ?_
                refine sp_iconst (p2 := 12) (x := 5) rfl rfl (by decide) ?_
                refine st_callS rfl rfl rfl (cl_in_T (a := 0) (b := 5) rfl rfl (by omega)) ?_
                show Ev _ _ _ (15, [(0, .ref 164), (1, .int x1), (2, .int x2), (3, .int x3)], [.int 1], ((hh.set 2 (.inl (0, .inl (((List.replicate 100 (-1) : List Int32)).set (Int32.toNatClampNeg x1) x2)))).set 25 (.inl (0, .inl (((List.replicate 100 0 : List Int32)).set (Int32.toNatClampNeg x1) x3))))) _
                refine st_ifc (b := false) rfl (by decide) ?_
                show Ev _ _ _ (18, _, _, _) _
                refine sp_iload_n (p2 := 19) rfl rfl rfl ?_
                refine sp_iconst (p2 := 20) (x := 0) rfl rfl (by decide) ?_
                refine sp_sipush (p2 := 23) (x := 9999) rfl rfl (by decide) ?_
                refine st_callS rfl rfl rfl (cl_in_T (a := 0) (b := 9999) rfl rfl (by omega)) ?_
                show Ev _ _ _ (26, [(0, .ref 164), (1, .int x1), (2, .int x2), (3, .int x3)], [.int 1], ((hh.set 2 (.inl (0, .inl (((List.replicate 100 (-1) : List Int32)).set (Int32.toNatClampNeg x1) x2)))).set 25 (.inl (0, .inl (((List.replicate 100 0 : List Int32)).set (Int32.toNatClampNeg x1) x3))))) _
                refine st_ifc (b := true) rfl (by decide) ?_
                show Ev _ _ _ (32, _, _, _) _
                refine sp_aload_n (p2 := 33) rfl rfl rfl ?_
                refine st_get rfl (ob_ne (by decide) (ob_ne (by decide) hh_148)) rfl ?_
                show Ev _ _ _ (36, _, _, _) _
                refine sp_iload_n (p2 := 37) rfl rfl rfl ?_
                refine st_iald (x := 0) rfl (by decide) (ia_ne (by decide) (ia_ne (by decide) hh_149)) (in_at (n := 283) rfl (by omega) (by omega)) (rd_at 0 99 (by decide +kernel) (by omega) (by omega)) ?_
                show Ev _ _ _ (38, _, _, _) _
                refine sp_istore (p2 := 40) (lv2 := [(4, .int 0), (0, .ref 164), (1, .int x1), (2, .int x2), (3, .int x3)]) rfl rfl (by decide) rfl ?_
                refine sp_aload_n (p2 := 41) rfl rfl rfl ?_
                refine st_get rfl (ob_ne (by decide) (ob_ne (by decide) hh_148)) rfl ?_
                show Ev _ _ _ (44, _, _, _) _
                refine sp_iload_n (p2 := 45) rfl rfl rfl ?_
                refine sp_iload_n (p2 := 46) rfl rfl rfl ?_
                refine st_iast (i := 149) rfl rfl (ia_ne (by decide) (ia_ne (by decide) hh_149)) (in_at (n := 283) rfl (by omega) (by omega)) ?_
                show Ev _ _ _ (47, [(4, .int 0), (0, .ref 164), (1, .int x1), (2, .int x2), (3, .int x3)], [], (((hh.set 2 (.inl (0, .inl (((List.replicate 100 (-1) : List Int32)).set (Int32.toNatClampNeg x1) x2)))).set 25 (.inl (0, .inl (((List.replicate 100 0 : List Int32)).set (Int32.toNatClampNeg x1) x3)))).set 149 (.inl (0, .inl ((((List.replicate 140 0 ++ (List.replicate 24 (-1) ++ (List.replicate 119 0))) : List Int32)).set (Int32.toNatClampNeg x1) x3))))) _
                refine sp_aload_n (p2 := 48) rfl rfl rfl ?_
                refine st_get rfl (ob_ne (by decide) (ob_ne (by decide) (ob_ne (by decide) hh_148))) rfl ?_
                show Ev _ _ _ (51, _, _, _) _
                refine sp_iload_n (p2 := 52) rfl rfl rfl ?_
                refine sp_iload_n (p2 := 53) rfl rfl rfl ?_
                refine st_iast (i := 152) rfl rfl (ia_ne (by decide) (ia_ne (by decide) (ia_ne (by decide) hh_152))) (in_at (n := 100) rfl (by omega) (by omega)) ?_
                show Ev _ _ _ (54, [(4, .int 0), (0, .ref 164), (1, .int x1), (2, .int x2), (3, .int x3)], [], ((((hh.set 2 (.inl (0, .inl (((List.replicate 100 (-1) : List Int32)).set (Int32.toNatClampNeg x1) x2)))).set 25 (.inl (0, .inl (((List.replicate 100 0 : List Int32)).set (Int32.toNatClampNeg x1) x3)))).set 149 (.inl (0, .inl ((((List.replicate 140 0 ++ (List.replicate 24 (-1) ++ (List.replicate 119 0))) : List Int32)).set (Int32.toNatClampNeg x1) x3)))).set 152 (.inl (0, .inl (((List.replicate 100 (-1) : List Int32)).set (Int32.toNatClampNeg x1) x2))))) _
                refine sp_iload (p2 := 56) rfl rfl rfl ?_
                exact sp_iret rfl rfl
            · refine ⟨.int (-2), hh, hh, ?_, ?_⟩
              · refine ca_of (d := 19) (M := mX11_ruin) rfl (Nat.le_of_ble_eq_true rfl) ?_
                show Ev im_K0 19 mX11_ruin (0, [(0, .ref 16), (1, .int x1), (2, .int x2), (3, .int x3)], [], hh) _
                refine sp_iload_n (p2 := 1) rfl rfl rfl ?_
                refine sp_bipush (p2 := 3) (x := 100) rfl rfl (by decide) ?_
                refine st_callS rfl rfl rfl (cl_within_T (b := 100) rfl (by omega)) ?_
                show Ev _ _ _ (6, [(0, .ref 16), (1, .int x1), (2, .int x2), (3, .int x3)], [.int 1], hh) _
                refine st_ifc (b := true) rfl (by decide) ?_
                show Ev _ _ _ (11, _, _, _) _
                refine sp_iload_n (p2 := 12) rfl rfl rfl ?_
                refine sp_bipush (p2 := 14) (x := 6) rfl rfl (by decide) ?_
                refine st_callS rfl rfl rfl (cl_within_T (b := 6) rfl (by omega)) ?_
                show Ev _ _ _ (17, [(0, .ref 16), (1, .int x1), (2, .int x2), (3, .int x3)], [.int 1], hh) _
                refine st_ifc (b := false) rfl (by decide) ?_
                show Ev _ _ _ (20, _, _, _) _
                refine sp_iload_n (p2 := 21) rfl rfl rfl ?_
                refine sp_iconst (p2 := 22) (x := 0) rfl rfl (by decide) ?_
                refine sp_sipush (p2 := 25) (x := 9999) rfl rfl (by decide) ?_
                refine st_callS rfl rfl rfl (cl_between_F (a := 0) (b := 9999) rfl rfl (by omega)) ?_
                show Ev _ _ _ (28, [(0, .ref 16), (1, .int x1), (2, .int x2), (3, .int x3)], [.int 0], hh) _
                refine st_ifc (b := false) rfl (by decide) ?_
                show Ev _ _ _ (31, _, _, _) _
                refine sp_bipush (p2 := 33) (x := (-2)) rfl rfl (by decide) ?_
                exact sp_iret rfl rfl
              · refine ca_of (d := 19) (M := mX12_ruin) rfl (Nat.le_of_ble_eq_true rfl) ?_
                show Ev im_K0 19 mX12_ruin (0, [(0, .ref 164), (1, .int x1), (2, .int x2), (3, .int x3)], [], hh) _
                refine sp_iload_n (p2 := 1) rfl rfl rfl ?_
                refine st_callS rfl rfl rfl (cl_isCell_T (by omega)) ?_
                show Ev _ _ _ (4, [(0, .ref 164), (1, .int x1), (2, .int x2), (3, .int x3)], [.int 1], hh) _
                refine st_ifc (b := true) rfl (by decide) ?_
                show Ev _ _ _ (9, _, _, _) _
                refine sp_iload_n (p2 := 10) rfl rfl rfl ?_
                refine sp_iconst (p2 := 11) (x := 0) rfl rfl (by decide) ?_
                refine sp_iconst (p2 := 12) (x := 5) rfl rfl (by decide) ?_
                refine st_callS rfl rfl rfl (cl_in_T (a := 0) (b := 5) rfl rfl (by omega)) ?_
                show Ev _ _ _ (15, [(0, .ref 164), (1, .int x1), (2, .int x2), (3, .int x3)], [.int 1], hh) _
                refine st_ifc (b := false) rfl (by decide) ?_
                show Ev _ _ _ (18, _, _, _) _
                refine sp_iload_n (p2 := 19) rfl rfl rfl ?_
                refine sp_iconst (p2 := 20) (x := 0) rfl rfl (by decide) ?_
                refine sp_sipush (p2 := 23) (x := 9999) rfl rfl (by decide) ?_
                refine st_callS rfl rfl rfl (cl_in_F (a := 0) (b := 9999) rfl rfl (by omega)) ?_
                show Ev _ _ _ (26, [(0, .ref 164), (1, .int x1), (2, .int x2), (3, .int x3)], [.int 0], hh) _
                refine st_ifc (b := false) rfl (by decide) ?_
                show Ev _ _ _ (29, _, _, _) _
                refine sp_bipush (p2 := 31) (x := (-2)) rfl rfl (by decide) ?_
                exact sp_iret rfl rfl
        · refine ⟨.int (-2), hh, hh, ?_, ?_⟩
          · refine ca_of (d := 19) (M := mX11_ruin) rfl (Nat.le_of_ble_eq_true rfl) ?_
            show Ev im_K0 19 mX11_ruin (0, [(0, .ref 16), (1, .int x1), (2, .int x2), (3, .int x3)], [], hh) _
            refine sp_iload_n (p2 := 1) rfl rfl rfl ?_
            refine sp_bipush (p2 := 3) (x := 100) rfl rfl (by decide) ?_
            refine st_callS rfl rfl rfl (cl_within_T (b := 100) rfl (by omega)) ?_
            show Ev _ _ _ (6, [(0, .ref 16), (1, .int x1), (2, .int x2), (3, .int x3)], [.int 1], hh) _
            refine st_ifc (b := true) rfl (by decide) ?_
            show Ev _ _ _ (11, _, _, _) _
            refine sp_iload_n (p2 := 12) rfl rfl rfl ?_
            refine sp_bipush (p2 := 14) (x := 6) rfl rfl (by decide) ?_
            refine st_callS rfl rfl rfl (cl_within_F (b := 6) rfl (by omega)) ?_
            show Ev _ _ _ (17, [(0, .ref 16), (1, .int x1), (2, .int x2), (3, .int x3)], [.int 0], hh) _
            refine st_ifc (b := true) rfl (by decide) ?_
            show Ev _ _ _ (31, _, _, _) _
            refine sp_bipush (p2 := 33) (x := (-2)) rfl rfl (by decide) ?_
            exact sp_iret rfl rfl
          · refine ca_of (d := 19) (M := mX12_ruin) rfl (Nat.le_of_ble_eq_true rfl) ?_
            show Ev im_K0 19 mX12_ruin (0, [(0, .ref 164), (1, .int x1), (2, .int x2), (3, .int x3)], [], hh) _
            refine sp_iload_n (p2 := 1) rfl rfl rfl ?_
            refine st_callS rfl rfl rfl (cl_isCell_T (by omega)) ?_
            show Ev _ _ _ (4, [(0, .ref 164), (1, .int x1), (2, .int x2), (3, .int x3)], [.int 1], hh) _
            refine st_ifc (b := true) rfl (by decide) ?_
            show Ev _ _ _ (9, _, _, _) _
            refine sp_iload_n (p2 := 10) rfl rfl rfl ?_
            refine sp_iconst (p2 := 11) (x := 0) rfl rfl (by decide) ?_
            refine sp_iconst (p2 := 12) (x := 5) rfl rfl (by decide) ?_
            refine st_callS rfl rfl rfl (cl_in_F (a := 0) (b := 5) rfl rfl (by omega)) ?_
            show Ev _ _ _ (15, [(0, .ref 164), (1, .int x1), (2, .int x2), (3, .int x3)], [.int 0], hh) _
            refine st_ifc (b := true) rfl (by decide) ?_
            show Ev _ _ _ (29, _, _, _) _
            refine sp_bipush (p2 := 31) (x := (-2)) rfl rfl (by decide) ?_
            exact sp_iret rfl rfl
    · refine ⟨.int (-1), hh, hh, ?_, ?_⟩
      · refine ca_of (d := 19) (M := mX11_ruin) rfl (Nat.le_of_ble_eq_true rfl) ?_
        show Ev im_K0 19 mX11_ruin (0, [(0, .ref 16), (1, .int x1), (2, .int x2), (3, .int x3)], [], hh) _
        refine sp_iload_n (p2 := 1) rfl rfl rfl ?_
        refine sp_bipush (p2 := 3) (x := 100) rfl rfl (by decide) ?_
        refine st_callS rfl rfl rfl (cl_within_F (b := 100) rfl (by omega)) ?_
        show Ev _ _ _ (6, [(0, .ref 16), (1, .int x1), (2, .int x2), (3, .int x3)], [.int 0], hh) _
        refine st_ifc (b := false) rfl (by decide) ?_
        show Ev _ _ _ (9, _, _, _) _
        refine sp_iconst (p2 := 10) (x := (-1)) rfl rfl (by decide) ?_
        exact sp_iret rfl rfl
      · refine ca_of (d := 19) (M := mX12_ruin) rfl (Nat.le_of_ble_eq_true rfl) ?_
        show Ev im_K0 19 mX12_ruin (0, [(0, .ref 164), (1, .int x1), (2, .int x2), (3, .int x3)], [], hh) _
        refine sp_iload_n (p2 := 1) rfl rfl rfl ?_
        refine st_callS rfl rfl rfl (cl_isCell_F (by omega)) ?_
        show Ev _ _ _ (4, [(0, .ref 164), (1, .int x1), (2, .int x2), (3, .int x3)], [.int 0], hh) _
        refine st_ifc (b := false) rfl (by decide) ?_
        show Ev _ _ _ (7, _, _, _) _
        refine sp_iconst (p2 := 8) (x := (-1)) rfl rfl (by decide) ?_
        exact sp_iret rfl rfl
set_option maxRecDepth 10000 in
set_option maxHeartbeats 4000000 in
theorem q_moves (x1 x2 : Int32) : ∃ (v : Value) (h1 h2 : im_H), Ca 20 63 [.ref 16, .int x1, .int x2] hh (some v, h1) ∧ Ca 20 125 [.ref 164, .int x1, .int x2] h1 (some v, h2) := by
  refine ⟨.int (-1), hh, hh, ?_, ?_⟩
  · refine ca_of (d := 19) (M := mX11_moves) rfl (Nat.le_of_ble_eq_true rfl) ?_
    show Ev im_K0 19 mX11_moves (0, [(0, .ref 16), (1, .int x1), (2, .int x2)], [], hh) _
    refine sp_iload_n (p2 := 1) rfl rfl rfl ?_
    refine sp_aload_n (p2 := 2) rfl rfl rfl ?_
    refine st_get rfl hh_0 rfl ?_
    show Ev _ _ _ (5, _, _, _) _
    refine st_get rfl hh_1 rfl ?_
    show Ev _ _ _ (8, _, _, _) _
    refine st_callS rfl rfl rfl (cl_within_F (b := 0) rfl (by omega)) ?_
    show Ev _ _ _ (11, [(0, .ref 16), (1, .int x1), (2, .int x2)], [.int 0], hh) _
    refine st_ifc (b := true) rfl (by decide) ?_
    show Ev _ _ _ (23, _, _, _) _
    refine sp_iconst (p2 := 24) (x := (-1)) rfl rfl (by decide) ?_
    exact sp_iret rfl rfl
  · refine ca_of (d := 19) (M := mX12_moves) rfl (Nat.le_of_ble_eq_true rfl) ?_
    show Ev im_K0 19 mX12_moves (0, [(0, .ref 164), (1, .int x1), (2, .int x2)], [], hh) _
    refine sp_aload_n (p2 := 1) rfl rfl rfl ?_
    refine sp_iload_n (p2 := 2) rfl rfl rfl ?_
    have c1 : Ca 19 119 [.ref 164, .int x1] hh (some (.int 0), hh) := by
      refine ca_of (d := 18) (M := mX12_isPerson) rfl (Nat.le_of_ble_eq_true rfl) ?_
      show Ev im_K0 18 mX12_isPerson (0, [(0, .ref 164), (1, .int x1)], [], hh) _
      refine sp_iload_n (p2 := 1) rfl rfl rfl ?_
      refine sp_iconst (p2 := 2) (x := 0) rfl rfl (by decide) ?_
      refine sp_aload_n (p2 := 3) rfl rfl rfl ?_
      refine st_get rfl hh_148 rfl ?_
      show Ev _ _ _ (6, _, _, _) _
      refine sp_iconst (p2 := 7) (x := 1) rfl rfl (by decide) ?_
      refine sp_isub (p2 := 8) (z := (-1)) rfl rfl (by decide) ?_
      refine st_callS rfl rfl rfl (cl_in_F (a := 0) (b := -1) rfl rfl (by omega)) ?_
      show Ev _ _ _ (11, [(0, .ref 164), (1, .int x1)], [.int 0], hh) _
      exact sp_zret rfl rfl (by decide)
    refine st_callV (R := 164) rfl rfl rfl hh_148 rfl c1 ?_
    show Ev _ _ _ (5, [(0, .ref 164), (1, .int x1), (2, .int x2)], [.int 0], hh) _
    refine st_ifc (b := true) rfl (by decide) ?_
    show Ev _ _ _ (15, _, _, _) _
    refine sp_iconst (p2 := 16) (x := (-1)) rfl rfl (by decide) ?_
    exact sp_iret rfl rfl
set_option maxRecDepth 10000 in
set_option maxHeartbeats 4000000 in
theorem q_tip (x1 : Int32) : ∃ (v : Value) (h1 h2 : im_H), Ca 20 66 [.ref 16, .int x1] hh (some v, h1) ∧ Ca 20 128 [.ref 164, .int x1] h1 (some v, h2) := by
  by_cases h1 : x1.toInt ≤ (-2)
  · refine ⟨.int (-5), hh, hh, ?_, ?_⟩
    · refine ca_of (d := 19) (M := mX11_tip) rfl (Nat.le_of_ble_eq_true rfl) ?_
      show Ev im_K0 19 mX11_tip (0, [(0, .ref 16), (1, .int x1)], [], hh) _
      refine sp_iload_n (p2 := 1) rfl rfl rfl ?_
      refine sp_iconst (p2 := 2) (x := (-1)) rfl rfl (by decide) ?_
      refine st_icmp (b := false) rfl (cn_eq_F rfl (show Int32.toInt (-1) = (-1) from rfl) (by omega)) ?_
      show Ev _ _ _ (5, _, _, _) _
      refine sp_iload_n (p2 := 6) rfl rfl rfl ?_
      refine sp_bipush (p2 := 8) (x := 100) rfl rfl (by decide) ?_
      refine st_callS rfl rfl rfl (cl_within_F (b := 100) rfl (by omega)) ?_
      show Ev _ _ _ (11, [(0, .ref 16), (1, .int x1)], [.int 0], hh) _
      refine st_ifc (b := false) rfl (by decide) ?_
      show Ev _ _ _ (14, _, _, _) _
      refine sp_bipush (p2 := 16) (x := (-5)) rfl rfl (by decide) ?_
      exact sp_iret rfl rfl
    · refine ca_of (d := 19) (M := mX12_tip) rfl (Nat.le_of_ble_eq_true rfl) ?_
      show Ev im_K0 19 mX12_tip (0, [(0, .ref 164), (1, .int x1)], [], hh) _
      refine sp_iload_n (p2 := 1) rfl rfl rfl ?_
      refine sp_iconst (p2 := 2) (x := (-1)) rfl rfl (by decide) ?_
      refine sp_bipush (p2 := 4) (x := 99) rfl rfl (by decide) ?_
      refine st_callS rfl rfl rfl (cl_in_F (a := -1) (b := 99) rfl rfl (by omega)) ?_
      show Ev _ _ _ (7, [(0, .ref 164), (1, .int x1)], [.int 0], hh) _
      refine st_ifc (b := false) rfl (by decide) ?_
      show Ev _ _ _ (10, _, _, _) _
      refine sp_bipush (p2 := 12) (x := (-5)) rfl rfl (by decide) ?_
      exact sp_iret rfl rfl
  · by_cases h2 : x1.toInt ≤ (-1)
    · obtain rfl : x1 = (-1) := i32_ext (by have e9 : Int32.toInt (-1) = (-1) := rfl; omega)
      refine ⟨.int (-1), (hh.set 1 (.inr (0, [.ref 18, .int (-1), .int 0, .ref 19, .ref 20, .ref 21, .ref 22, .ref 23, .ref 24, .int 0, .ref 25, .ref 26, .null, .ref 27]))), ((hh.set 1 (.inr (0, [.ref 18, .int (-1), .int 0, .ref 19, .ref 20, .ref 21, .ref 22, .ref 23, .ref 24, .int 0, .ref 25, .ref 26, .null, .ref 27]))).set 148 (.inr (12, [.ref 165, .ref 166, .ref 167, .int 0, .ref 168, .ref 169, .ref 170, .ref 171, .ref 172, .int (-1), .int 0, .ref 173, .ref 174, .ref 175, .ref 176, .ref 177, .ref 178, .ref 179, .ref 180, .ref 181, .ref 182, .int 0, .ref 183, .ref 184, .int 0, .ref 185, .ref 186, .ref 187, .ref 188, .int 0, .ref 189, .ref 190, .ref 191, .ref 192, .ref 193, .int 0, .ref 194, .ref 195, .ref 196, .ref 197, .ref 198, .int 0, .ref 199, .int 0, .ref 200, .int 0, .int 0, .int (-1), .ref 201, .ref 202, .ref 203, .ref 204, .ref 205, .ref 206, .ref 207, .ref 208, .ref 209, .ref 210, .ref 211, .ref 212, .int 0, .int 0, .int 0, .ref 213, .ref 214, .ref 215]))), ?_, ?_⟩
      · refine ca_of (d := 19) (M := mX11_tip) rfl (Nat.le_of_ble_eq_true rfl) ?_
        show Ev im_K0 19 mX11_tip (0, [(0, .ref 16), (1, .int (-1))], [], hh) _
        refine sp_iload_n (p2 := 1) rfl rfl rfl ?_
        refine sp_iconst (p2 := 2) (x := (-1)) rfl rfl (by decide) ?_
        refine st_icmp (b := true) rfl (by decide) ?_
        show Ev _ _ _ (17, _, _, _) _
        refine sp_aload_n (p2 := 18) rfl rfl rfl ?_
        refine st_get rfl hh_0 rfl ?_
        show Ev _ _ _ (21, _, _, _) _
        refine st_get rfl hh_1 rfl ?_
        show Ev _ _ _ (24, _, _, _) _
        refine sp_istore_n (p2 := 25) (lv2 := [(2, .int (-1)), (0, .ref 16), (1, .int (-1))]) rfl rfl (by decide) rfl ?_
        refine sp_aload_n (p2 := 26) rfl rfl rfl ?_
        refine st_get rfl hh_0 rfl ?_
        show Ev _ _ _ (29, _, _, _) _
        refine sp_iload_n (p2 := 30) rfl rfl rfl ?_
        refine st_put (i := 1) rfl rfl hh_1 rfl rfl (Nat.le_of_ble_eq_true rfl) ?_
        show Ev _ _ _ (33, [(2, .int (-1)), (0, .ref 16), (1, .int (-1))], [], (hh.set 1 (.inr (0, [.ref 18, .int (-1), .int 0, .ref 19, .ref 20, .ref 21, .ref 22, .ref 23, .ref 24, .int 0, .ref 25, .ref 26, .null, .ref 27])))) _
        refine sp_iload_n (p2 := 34) rfl rfl rfl ?_
        exact sp_iret rfl rfl
      · refine ca_of (d := 19) (M := mX12_tip) rfl (Nat.le_of_ble_eq_true rfl) ?_
        show Ev im_K0 19 mX12_tip (0, [(0, .ref 164), (1, .int (-1))], [], (hh.set 1 (.inr (0, [.ref 18, .int (-1), .int 0, .ref 19, .ref 20, .ref 21, .ref 22, .ref 23, .ref 24, .int 0, .ref 25, .ref 26, .null, .ref 27])))) _
        refine sp_iload_n (p2 := 1) rfl rfl rfl ?_
        refine sp_iconst (p2 := 2) (x := (-1)) rfl rfl (by decide) ?_
        refine sp_bipush (p2 := 4) (x := 99) rfl rfl (by decide) ?_
        refine st_callS rfl rfl rfl (cl_in_T (n := (-1)) (a := -1) (b := 99) (show Int32.toInt _ = _ from rfl) (show Int32.toInt _ = _ from rfl) (by have e9 : Int32.toInt (-1) = (-1) := rfl; omega)) ?_
        show Ev _ _ _ (7, [(0, .ref 164), (1, .int (-1))], [.int 1], (hh.set 1 (.inr (0, [.ref 18, .int (-1), .int 0, .ref 19, .ref 20, .ref 21, .ref 22, .ref 23, .ref 24, .int 0, .ref 25, .ref 26, .null, .ref 27])))) _
        refine st_ifc (b := true) rfl (by decide) ?_
        show Ev _ _ _ (13, _, _, _) _
        refine sp_aload_n (p2 := 14) rfl rfl rfl ?_
        refine st_get rfl (ob_ne (by decide) hh_148) rfl ?_
        show Ev _ _ _ (17, _, _, _) _
        refine sp_istore_n (p2 := 18) (lv2 := [(2, .int (-1)), (0, .ref 164), (1, .int (-1))]) rfl rfl (by decide) rfl ?_
        refine sp_aload_n (p2 := 19) rfl rfl rfl ?_
        refine sp_iload_n (p2 := 20) rfl rfl rfl ?_
        refine st_put (i := 148) rfl rfl (ob_ne (by decide) hh_148) rfl rfl (Nat.le_of_ble_eq_true rfl) ?_
        show Ev _ _ _ (23, [(2, .int (-1)), (0, .ref 164), (1, .int (-1))], [], ((hh.set 1 (.inr (0, [.ref 18, .int (-1), .int 0, .ref 19, .ref 20, .ref 21, .ref 22, .ref 23, .ref 24, .int 0, .ref 25, .ref 26, .null, .ref 27]))).set 148 (.inr (12, [.ref 165, .ref 166, .ref 167, .int 0, .ref 168, .ref 169, .ref 170, .ref 171, .ref 172, .int (-1), .int 0, .ref 173, .ref 174, .ref 175, .ref 176, .ref 177, .ref 178, .ref 179, .ref 180, .ref 181, .ref 182, .int 0, .ref 183, .ref 184, .int 0, .ref 185, .ref 186, .ref 187, .ref 188, .int 0, .ref 189, .ref 190, .ref 191, .ref 192, .ref 193, .int 0, .ref 194, .ref 195, .ref 196, .ref 197, .ref 198, .int 0, .ref 199, .int 0, .ref 200, .int 0, .int 0, .int (-1), .ref 201, .ref 202, .ref 203, .ref 204, .ref 205, .ref 206, .ref 207, .ref 208, .ref 209, .ref 210, .ref 211, .ref 212, .int 0, .int 0, .int 0, .ref 213, .ref 214, .ref 215])))) _
        refine sp_iload_n (p2 := 24) rfl rfl rfl ?_
        exact sp_iret rfl rfl
    · by_cases h3 : x1.toInt ≤ 99
      · refine ⟨.int (-1), (hh.set 1 (.inr (0, [.ref 18, .int x1, .int 0, .ref 19, .ref 20, .ref 21, .ref 22, .ref 23, .ref 24, .int 0, .ref 25, .ref 26, .null, .ref 27]))), ((hh.set 1 (.inr (0, [.ref 18, .int x1, .int 0, .ref 19, .ref 20, .ref 21, .ref 22, .ref 23, .ref 24, .int 0, .ref 25, .ref 26, .null, .ref 27]))).set 148 (.inr (12, [.ref 165, .ref 166, .ref 167, .int 0, .ref 168, .ref 169, .ref 170, .ref 171, .ref 172, .int x1, .int 0, .ref 173, .ref 174, .ref 175, .ref 176, .ref 177, .ref 178, .ref 179, .ref 180, .ref 181, .ref 182, .int 0, .ref 183, .ref 184, .int 0, .ref 185, .ref 186, .ref 187, .ref 188, .int 0, .ref 189, .ref 190, .ref 191, .ref 192, .ref 193, .int 0, .ref 194, .ref 195, .ref 196, .ref 197, .ref 198, .int 0, .ref 199, .int 0, .ref 200, .int 0, .int 0, .int (-1), .ref 201, .ref 202, .ref 203, .ref 204, .ref 205, .ref 206, .ref 207, .ref 208, .ref 209, .ref 210, .ref 211, .ref 212, .int 0, .int 0, .int 0, .ref 213, .ref 214, .ref 215]))), ?_, ?_⟩
        · refine ca_of (d := 19) (M := mX11_tip) rfl (Nat.le_of_ble_eq_true rfl) ?_
          show Ev im_K0 19 mX11_tip (0, [(0, .ref 16), (1, .int x1)], [], hh) _
          refine sp_iload_n (p2 := 1) rfl rfl rfl ?_
          refine sp_iconst (p2 := 2) (x := (-1)) rfl rfl (by decide) ?_
          refine st_icmp (b := false) rfl (cn_eq_F rfl (show Int32.toInt (-1) = (-1) from rfl) (by omega)) ?_
          show Ev _ _ _ (5, _, _, _) _
          refine sp_iload_n (p2 := 6) rfl rfl rfl ?_
          refine sp_bipush (p2 := 8) (x := 100) rfl rfl (by decide) ?_
          refine st_callS rfl rfl rfl (cl_within_T (b := 100) rfl (by omega)) ?_
          show Ev _ _ _ (11, [(0, .ref 16), (1, .int x1)], [.int 1], hh) _
          refine st_ifc (b := true) rfl (by decide) ?_
          show Ev _ _ _ (17, _, _, _) _
          refine sp_aload_n (p2 := 18) rfl rfl rfl ?_
          refine st_get rfl hh_0 rfl ?_
          show Ev _ _ _ (21, _, _, _) _
          refine st_get rfl hh_1 rfl ?_
          show Ev _ _ _ (24, _, _, _) _
          refine sp_istore_n (p2 := 25) (lv2 := [(2, .int (-1)), (0, .ref 16), (1, .int x1)]) rfl rfl (by decide) rfl ?_
          refine sp_aload_n (p2 := 26) rfl rfl rfl ?_
          refine st_get rfl hh_0 rfl ?_
          show Ev _ _ _ (29, _, _, _) _
          refine sp_iload_n (p2 := 30) rfl rfl rfl ?_
          refine st_put (i := 1) rfl rfl hh_1 rfl rfl (Nat.le_of_ble_eq_true rfl) ?_
          show Ev _ _ _ (33, [(2, .int (-1)), (0, .ref 16), (1, .int x1)], [], (hh.set 1 (.inr (0, [.ref 18, .int x1, .int 0, .ref 19, .ref 20, .ref 21, .ref 22, .ref 23, .ref 24, .int 0, .ref 25, .ref 26, .null, .ref 27])))) _
          refine sp_iload_n (p2 := 34) rfl rfl rfl ?_
          exact sp_iret rfl rfl
        · refine ca_of (d := 19) (M := mX12_tip) rfl (Nat.le_of_ble_eq_true rfl) ?_
          show Ev im_K0 19 mX12_tip (0, [(0, .ref 164), (1, .int x1)], [], (hh.set 1 (.inr (0, [.ref 18, .int x1, .int 0, .ref 19, .ref 20, .ref 21, .ref 22, .ref 23, .ref 24, .int 0, .ref 25, .ref 26, .null, .ref 27])))) _
          refine sp_iload_n (p2 := 1) rfl rfl rfl ?_
          refine sp_iconst (p2 := 2) (x := (-1)) rfl rfl (by decide) ?_
          refine sp_bipush (p2 := 4) (x := 99) rfl rfl (by decide) ?_
          refine st_callS rfl rfl rfl (cl_in_T (a := -1) (b := 99) rfl rfl (by omega)) ?_
          show Ev _ _ _ (7, [(0, .ref 164), (1, .int x1)], [.int 1], (hh.set 1 (.inr (0, [.ref 18, .int x1, .int 0, .ref 19, .ref 20, .ref 21, .ref 22, .ref 23, .ref 24, .int 0, .ref 25, .ref 26, .null, .ref 27])))) _
          refine st_ifc (b := true) rfl (by decide) ?_
          show Ev _ _ _ (13, _, _, _) _
          refine sp_aload_n (p2 := 14) rfl rfl rfl ?_
          refine st_get rfl (ob_ne (by decide) hh_148) rfl ?_
          show Ev _ _ _ (17, _, _, _) _
          refine sp_istore_n (p2 := 18) (lv2 := [(2, .int (-1)), (0, .ref 164), (1, .int x1)]) rfl rfl (by decide) rfl ?_
          refine sp_aload_n (p2 := 19) rfl rfl rfl ?_
          refine sp_iload_n (p2 := 20) rfl rfl rfl ?_
          refine st_put (i := 148) rfl rfl (ob_ne (by decide) hh_148) rfl rfl (Nat.le_of_ble_eq_true rfl) ?_
          show Ev _ _ _ (23, [(2, .int (-1)), (0, .ref 164), (1, .int x1)], [], ((hh.set 1 (.inr (0, [.ref 18, .int x1, .int 0, .ref 19, .ref 20, .ref 21, .ref 22, .ref 23, .ref 24, .int 0, .ref 25, .ref 26, .null, .ref 27]))).set 148 (.inr (12, [.ref 165, .ref 166, .ref 167, .int 0, .ref 168, .ref 169, .ref 170, .ref 171, .ref 172, .int x1, .int 0, .ref 173, .ref 174, .ref 175, .ref 176, .ref 177, .ref 178, .ref 179, .ref 180, .ref 181, .ref 182, .int 0, .ref 183, .ref 184, .int 0, .ref 185, .ref 186, .ref 187, .ref 188, .int 0, .ref 189, .ref 190, .ref 191, .ref 192, .ref 193, .int 0, .ref 194, .ref 195, .ref 196, .ref 197, .ref 198, .int 0, .ref 199, .int 0, .ref 200, .int 0, .int 0, .int (-1), .ref 201, .ref 202, .ref 203, .ref 204, .ref 205, .ref 206, .ref 207, .ref 208, .ref 209, .ref 210, .ref 211, .ref 212, .int 0, .int 0, .int 0, .ref 213, .ref 214, .ref 215])))) _
          refine sp_iload_n (p2 := 24) rfl rfl rfl ?_
          exact sp_iret rfl rfl
      · refine ⟨.int (-5), hh, hh, ?_, ?_⟩
        · refine ca_of (d := 19) (M := mX11_tip) rfl (Nat.le_of_ble_eq_true rfl) ?_
          show Ev im_K0 19 mX11_tip (0, [(0, .ref 16), (1, .int x1)], [], hh) _
          refine sp_iload_n (p2 := 1) rfl rfl rfl ?_
          refine sp_iconst (p2 := 2) (x := (-1)) rfl rfl (by decide) ?_
          refine st_icmp (b := false) rfl (cn_eq_F rfl (show Int32.toInt (-1) = (-1) from rfl) (by omega)) ?_
          show Ev _ _ _ (5, _, _, _) _
          refine sp_iload_n (p2 := 6) rfl rfl rfl ?_
          refine sp_bipush (p2 := 8) (x := 100) rfl rfl (by decide) ?_
          refine st_callS rfl rfl rfl (cl_within_F (b := 100) rfl (by omega)) ?_
          show Ev _ _ _ (11, [(0, .ref 16), (1, .int x1)], [.int 0], hh) _
          refine st_ifc (b := false) rfl (by decide) ?_
          show Ev _ _ _ (14, _, _, _) _
          refine sp_bipush (p2 := 16) (x := (-5)) rfl rfl (by decide) ?_
          exact sp_iret rfl rfl
        · refine ca_of (d := 19) (M := mX12_tip) rfl (Nat.le_of_ble_eq_true rfl) ?_
          show Ev im_K0 19 mX12_tip (0, [(0, .ref 164), (1, .int x1)], [], hh) _
          refine sp_iload_n (p2 := 1) rfl rfl rfl ?_
          refine sp_iconst (p2 := 2) (x := (-1)) rfl rfl (by decide) ?_
          refine sp_bipush (p2 := 4) (x := 99) rfl rfl (by decide) ?_
          refine st_callS rfl rfl rfl (cl_in_F (a := -1) (b := 99) rfl rfl (by omega)) ?_
          show Ev _ _ _ (7, [(0, .ref 164), (1, .int x1)], [.int 0], hh) _
          refine st_ifc (b := false) rfl (by decide) ?_
          show Ev _ _ _ (10, _, _, _) _
          refine sp_bipush (p2 := 12) (x := (-5)) rfl rfl (by decide) ?_
          exact sp_iret rfl rfl
set_option maxRecDepth 10000 in
set_option maxHeartbeats 4000000 in
theorem q_person (x1 x2 x3 x4 : Int32) : ∃ (v : Value) (h1 h2 : im_H), Ca 20 62 [.ref 16, .int x1, .int x2, .int x3, .int x4] hh (some v, h1) ∧ Ca 20 124 [.ref 164, .int x1, .int x2, .int x3, .int x4] h1 (some v, h2) := by
  by_cases h1 : x1.toInt ≤ (-1)
  · refine ⟨.int (-1), hh, hh, ?_, ?_⟩
    · refine ca_of (d := 19) (M := mX11_person) rfl (Nat.le_of_ble_eq_true rfl) ?_
      show Ev im_K0 19 mX11_person (0, [(0, .ref 16), (1, .int x1), (2, .int x2), (3, .int x3), (4, .int x4)], [], hh) _
      refine sp_iload_n (p2 := 1) rfl rfl rfl ?_
      refine sp_bipush (p2 := 3) (x := 100) rfl rfl (by decide) ?_
      refine st_callS rfl rfl rfl (cl_within_F (b := 100) rfl (by omega)) ?_
      show Ev _ _ _ (6, [(0, .ref 16), (1, .int x1), (2, .int x2), (3, .int x3), (4, .int x4)], [.int 0], hh) _
      refine st_ifc (b := false) rfl (by decide) ?_
      show Ev _ _ _ (9, _, _, _) _
      refine sp_iconst (p2 := 10) (x := (-1)) rfl rfl (by decide) ?_
      exact sp_iret rfl rfl
    · refine ca_of (d := 19) (M := mX12_person) rfl (Nat.le_of_ble_eq_true rfl) ?_
      show Ev im_K0 19 mX12_person (0, [(0, .ref 164), (1, .int x1), (2, .int x2), (3, .int x3), (4, .int x4)], [], hh) _
      refine sp_iload_n (p2 := 1) rfl rfl rfl ?_
      refine st_callS rfl rfl rfl (cl_isCell_F (by omega)) ?_
      show Ev _ _ _ (4, [(0, .ref 164), (1, .int x1), (2, .int x2), (3, .int x3), (4, .int x4)], [.int 0], hh) _
      refine st_ifc (b := false) rfl (by decide) ?_
      show Ev _ _ _ (7, _, _, _) _
      refine sp_iconst (p2 := 8) (x := (-1)) rfl rfl (by decide) ?_
      exact sp_iret rfl rfl
  · by_cases h2 : x1.toInt ≤ 99
    · by_cases h3 : x2.toInt ≤ 0
      · refine ⟨.int (-2), hh, hh, ?_, ?_⟩
        · refine ca_of (d := 19) (M := mX11_person) rfl (Nat.le_of_ble_eq_true rfl) ?_
          show Ev im_K0 19 mX11_person (0, [(0, .ref 16), (1, .int x1), (2, .int x2), (3, .int x3), (4, .int x4)], [], hh) _
          refine sp_iload_n (p2 := 1) rfl rfl rfl ?_
          refine sp_bipush (p2 := 3) (x := 100) rfl rfl (by decide) ?_
          refine st_callS rfl rfl rfl (cl_within_T (b := 100) rfl (by omega)) ?_
          show Ev _ _ _ (6, [(0, .ref 16), (1, .int x1), (2, .int x2), (3, .int x3), (4, .int x4)], [.int 1], hh) _
          refine st_ifc (b := true) rfl (by decide) ?_
          show Ev _ _ _ (11, _, _, _) _
          refine sp_iload_n (p2 := 12) rfl rfl rfl ?_
          refine sp_iconst (p2 := 13) (x := 1) rfl rfl (by decide) ?_
          refine sp_bipush (p2 := 15) (x := 9) rfl rfl (by decide) ?_
          refine st_callS rfl rfl rfl (cl_between_F (a := 1) (b := 9) rfl rfl (by omega)) ?_
          show Ev _ _ _ (18, [(0, .ref 16), (1, .int x1), (2, .int x2), (3, .int x3), (4, .int x4)], [.int 0], hh) _
          refine st_ifc (b := true) rfl (by decide) ?_
          show Ev _ _ _ (42, _, _, _) _
          refine sp_bipush (p2 := 44) (x := (-2)) rfl rfl (by decide) ?_
          exact sp_iret rfl rfl
        · refine ca_of (d := 19) (M := mX12_person) rfl (Nat.le_of_ble_eq_true rfl) ?_
          show Ev im_K0 19 mX12_person (0, [(0, .ref 164), (1, .int x1), (2, .int x2), (3, .int x3), (4, .int x4)], [], hh) _
          refine sp_iload_n (p2 := 1) rfl rfl rfl ?_
          refine st_callS rfl rfl rfl (cl_isCell_T (by omega)) ?_
          show Ev _ _ _ (4, [(0, .ref 164), (1, .int x1), (2, .int x2), (3, .int x3), (4, .int x4)], [.int 1], hh) _
          refine st_ifc (b := true) rfl (by decide) ?_
          show Ev _ _ _ (9, _, _, _) _
          refine sp_iload_n (p2 := 10) rfl rfl rfl ?_
          refine sp_iconst (p2 := 11) (x := 1) rfl rfl (by decide) ?_
          refine sp_bipush (p2 := 13) (x := 9) rfl rfl (by decide) ?_
          refine st_callS rfl rfl rfl (cl_in_F (a := 1) (b := 9) rfl rfl (by omega)) ?_
          show Ev _ _ _ (16, [(0, .ref 164), (1, .int x1), (2, .int x2), (3, .int x3), (4, .int x4)], [.int 0], hh) _
          refine st_ifc (b := true) rfl (by decide) ?_
          show Ev _ _ _ (40, _, _, _) _
          refine sp_bipush (p2 := 42) (x := (-2)) rfl rfl (by decide) ?_
          exact sp_iret rfl rfl
      · by_cases h4 : x2.toInt ≤ 9
        · by_cases h5 : x3.toInt ≤ (-1)
          · refine ⟨.int (-2), hh, hh, ?_, ?_⟩
            · refine ca_of (d := 19) (M := mX11_person) rfl (Nat.le_of_ble_eq_true rfl) ?_
              show Ev im_K0 19 mX11_person (0, [(0, .ref 16), (1, .int x1), (2, .int x2), (3, .int x3), (4, .int x4)], [], hh) _
              refine sp_iload_n (p2 := 1) rfl rfl rfl ?_
              refine sp_bipush (p2 := 3) (x := 100) rfl rfl (by decide) ?_
              refine st_callS rfl rfl rfl (cl_within_T (b := 100) rfl (by omega)) ?_
              show Ev _ _ _ (6, [(0, .ref 16), (1, .int x1), (2, .int x2), (3, .int x3), (4, .int x4)], [.int 1], hh) _
              refine st_ifc (b := true) rfl (by decide) ?_
              show Ev _ _ _ (11, _, _, _) _
              refine sp_iload_n (p2 := 12) rfl rfl rfl ?_
              refine sp_iconst (p2 := 13) (x := 1) rfl rfl (by decide) ?_
              refine sp_bipush (p2 := 15) (x := 9) rfl rfl (by decide) ?_
              refine st_callS rfl rfl rfl (cl_between_T (a := 1) (b := 9) rfl rfl (by omega)) ?_
              show Ev _ _ _ (18, [(0, .ref 16), (1, .int x1), (2, .int x2), (3, .int x3), (4, .int x4)], [.int 1], hh) _
              refine st_ifc (b := false) rfl (by decide) ?_
              show Ev _ _ _ (21, _, _, _) _
              refine sp_iload_n (p2 := 22) rfl rfl rfl ?_
              refine sp_iconst (p2 := 23) (x := 0) rfl rfl (by decide) ?_
              refine sp_bipush (p2 := 25) (x := 99) rfl rfl (by decide) ?_
              refine st_callS rfl rfl rfl (cl_between_F (a := 0) (b := 99) rfl rfl (by omega)) ?_
              show Ev _ _ _ (28, [(0, .ref 16), (1, .int x1), (2, .int x2), (3, .int x3), (4, .int x4)], [.int 0], hh) _
              refine st_ifc (b := true) rfl (by decide) ?_
              show Ev _ _ _ (42, _, _, _) _
              refine sp_bipush (p2 := 44) (x := (-2)) rfl rfl (by decide) ?_
              exact sp_iret rfl rfl
            · refine ca_of (d := 19) (M := mX12_person) rfl (Nat.le_of_ble_eq_true rfl) ?_
              show Ev im_K0 19 mX12_person (0, [(0, .ref 164), (1, .int x1), (2, .int x2), (3, .int x3), (4, .int x4)], [], hh) _
              refine sp_iload_n (p2 := 1) rfl rfl rfl ?_
              refine st_callS rfl rfl rfl (cl_isCell_T (by omega)) ?_
              show Ev _ _ _ (4, [(0, .ref 164), (1, .int x1), (2, .int x2), (3, .int x3), (4, .int x4)], [.int 1], hh) _
              refine st_ifc (b := true) rfl (by decide) ?_
              show Ev _ _ _ (9, _, _, _) _
              refine sp_iload_n (p2 := 10) rfl rfl rfl ?_
              refine sp_iconst (p2 := 11) (x := 1) rfl rfl (by decide) ?_
              refine sp_bipush (p2 := 13) (x := 9) rfl rfl (by decide) ?_
              refine st_callS rfl rfl rfl (cl_in_T (a := 1) (b := 9) rfl rfl (by omega)) ?_
              show Ev _ _ _ (16, [(0, .ref 164), (1, .int x1), (2, .int x2), (3, .int x3), (4, .int x4)], [.int 1], hh) _
              refine st_ifc (b := false) rfl (by decide) ?_
              show Ev _ _ _ (19, _, _, _) _
              refine sp_iload_n (p2 := 20) rfl rfl rfl ?_
              refine sp_iconst (p2 := 21) (x := 0) rfl rfl (by decide) ?_
              refine sp_bipush (p2 := 23) (x := 99) rfl rfl (by decide) ?_
              refine st_callS rfl rfl rfl (cl_in_F (a := 0) (b := 99) rfl rfl (by omega)) ?_
              show Ev _ _ _ (26, [(0, .ref 164), (1, .int x1), (2, .int x2), (3, .int x3), (4, .int x4)], [.int 0], hh) _
              refine st_ifc (b := true) rfl (by decide) ?_
              show Ev _ _ _ (40, _, _, _) _
              refine sp_bipush (p2 := 42) (x := (-2)) rfl rfl (by decide) ?_
              exact sp_iret rfl rfl
          · by_cases h6 : x3.toInt ≤ 99
            · by_cases h7 : x4.toInt ≤ (-1)
              · refine ⟨.int (-2), hh, hh, ?_, ?_⟩
                · refine ca_of (d := 19) (M := mX11_person) rfl (Nat.le_of_ble_eq_true rfl) ?_
                  show Ev im_K0 19 mX11_person (0, [(0, .ref 16), (1, .int x1), (2, .int x2), (3, .int x3), (4, .int x4)], [], hh) _
                  refine sp_iload_n (p2 := 1) rfl rfl rfl ?_
                  refine sp_bipush (p2 := 3) (x := 100) rfl rfl (by decide) ?_
                  refine st_callS rfl rfl rfl (cl_within_T (b := 100) rfl (by omega)) ?_
                  show Ev _ _ _ (6, [(0, .ref 16), (1, .int x1), (2, .int x2), (3, .int x3), (4, .int x4)], [.int 1], hh) _
                  refine st_ifc (b := true) rfl (by decide) ?_
                  show Ev _ _ _ (11, _, _, _) _
                  refine sp_iload_n (p2 := 12) rfl rfl rfl ?_
                  refine sp_iconst (p2 := 13) (x := 1) rfl rfl (by decide) ?_
                  refine sp_bipush (p2 := 15) (x := 9) rfl rfl (by decide) ?_
                  refine st_callS rfl rfl rfl (cl_between_T (a := 1) (b := 9) rfl rfl (by omega)) ?_
                  show Ev _ _ _ (18, [(0, .ref 16), (1, .int x1), (2, .int x2), (3, .int x3), (4, .int x4)], [.int 1], hh) _
                  refine st_ifc (b := false) rfl (by decide) ?_
                  show Ev _ _ _ (21, _, _, _) _
                  refine sp_iload_n (p2 := 22) rfl rfl rfl ?_
                  refine sp_iconst (p2 := 23) (x := 0) rfl rfl (by decide) ?_
                  refine sp_bipush (p2 := 25) (x := 99) rfl rfl (by decide) ?_
                  refine st_callS rfl rfl rfl (cl_between_T (a := 0) (b := 99) rfl rfl (by omega)) ?_
                  show Ev _ _ _ (28, [(0, .ref 16), (1, .int x1), (2, .int x2), (3, .int x3), (4, .int x4)], [.int 1], hh) _
                  refine st_ifc (b := false) rfl (by decide) ?_
                  show Ev _ _ _ (31, _, _, _) _
                  refine sp_iload (p2 := 33) rfl rfl rfl ?_
                  refine sp_iconst (p2 := 34) (x := 0) rfl rfl (by decide) ?_
                  refine sp_bipush (p2 := 36) (x := 9) rfl rfl (by decide) ?_
                  refine st_callS rfl rfl rfl (cl_between_F (a := 0) (b := 9) rfl rfl (by omega)) ?_
                  show Ev _ _ _ (39, [(0, .ref 16), (1, .int x1), (2, .int x2), (3, .int x3), (4, .int x4)], [.int 0], hh) _
                  refine st_ifc (b := false) rfl (by decide) ?_
                  show Ev _ _ _ (42, _, _, _) _
                  refine sp_bipush (p2 := 44) (x := (-2)) rfl rfl (by decide) ?_
                  exact sp_iret rfl rfl
                · refine ca_of (d := 19) (M := mX12_person) rfl (Nat.le_of_ble_eq_true rfl) ?_
                  show Ev im_K0 19 mX12_person (0, [(0, .ref 164), (1, .int x1), (2, .int x2), (3, .int x3), (4, .int x4)], [], hh) _
                  refine sp_iload_n (p2 := 1) rfl rfl rfl ?_
                  refine st_callS rfl rfl rfl (cl_isCell_T (by omega)) ?_
                  show Ev _ _ _ (4, [(0, .ref 164), (1, .int x1), (2, .int x2), (3, .int x3), (4, .int x4)], [.int 1], hh) _
                  refine st_ifc (b := true) rfl (by decide) ?_
                  show Ev _ _ _ (9, _, _, _) _
                  refine sp_iload_n (p2 := 10) rfl rfl rfl ?_
                  refine sp_iconst (p2 := 11) (x := 1) rfl rfl (by decide) ?_
                  refine sp_bipush (p2 := 13) (x := 9) rfl rfl (by decide) ?_
                  refine st_callS rfl rfl rfl (cl_in_T (a := 1) (b := 9) rfl rfl (by omega)) ?_
                  show Ev _ _ _ (16, [(0, .ref 164), (1, .int x1), (2, .int x2), (3, .int x3), (4, .int x4)], [.int 1], hh) _
                  refine st_ifc (b := false) rfl (by decide) ?_
                  show Ev _ _ _ (19, _, _, _) _
                  refine sp_iload_n (p2 := 20) rfl rfl rfl ?_
                  refine sp_iconst (p2 := 21) (x := 0) rfl rfl (by decide) ?_
                  refine sp_bipush (p2 := 23) (x := 99) rfl rfl (by decide) ?_
                  refine st_callS rfl rfl rfl (cl_in_T (a := 0) (b := 99) rfl rfl (by omega)) ?_
                  show Ev _ _ _ (26, [(0, .ref 164), (1, .int x1), (2, .int x2), (3, .int x3), (4, .int x4)], [.int 1], hh) _
                  refine st_ifc (b := false) rfl (by decide) ?_
                  show Ev _ _ _ (29, _, _, _) _
                  refine sp_iload (p2 := 31) rfl rfl rfl ?_
                  refine sp_iconst (p2 := 32) (x := 0) rfl rfl (by decide) ?_
                  refine sp_bipush (p2 := 34) (x := 9) rfl rfl (by decide) ?_
                  refine st_callS rfl rfl rfl (cl_in_F (a := 0) (b := 9) rfl rfl (by omega)) ?_
                  show Ev _ _ _ (37, [(0, .ref 164), (1, .int x1), (2, .int x2), (3, .int x3), (4, .int x4)], [.int 0], hh) _
                  refine st_ifc (b := false) rfl (by decide) ?_
                  show Ev _ _ _ (40, _, _, _) _
                  refine sp_bipush (p2 := 42) (x := (-2)) rfl rfl (by decide) ?_
                  exact sp_iret rfl rfl
              · by_cases h8 : x4.toInt ≤ 9
                · refine ⟨.int 0, (((((hh.set 3 (.inl (0, .inl (((List.replicate 24 0 : List Int32)).set 0 x2)))).set 4 (.inl (0, .inl (((List.replicate 24 0 : List Int32)).set 0 x3)))).set 5 (.inl (0, .inl (((List.replicate 24 0 : List Int32)).set 0 x4)))).set 26 (.inl (0, .inl (((List.replicate 24 (-1) : List Int32)).set 0 x1)))).set 1 (.inr (0, [.ref 18, .int (-1), .int 1, .ref 19, .ref 20, .ref 21, .ref 22, .ref 23, .ref 24, .int 0, .ref 25, .ref 26, .null, .ref 27]))), ((((((((((hh.set 3 (.inl (0, .inl (((List.replicate 24 0 : List Int32)).set 0 x2)))).set 4 (.inl (0, .inl (((List.replicate 24 0 : List Int32)).set 0 x3)))).set 5 (.inl (0, .inl (((List.replicate 24 0 : List Int32)).set 0 x4)))).set 26 (.inl (0, .inl (((List.replicate 24 (-1) : List Int32)).set 0 x1)))).set 1 (.inr (0, [.ref 18, .int (-1), .int 1, .ref 19, .ref 20, .ref 21, .ref 22, .ref 23, .ref 24, .int 0, .ref 25, .ref 26, .null, .ref 27]))).set 157 (.inl (0, .inl (((List.replicate 24 0 : List Int32)).set 0 x2)))).set 158 (.inl (0, .inl (((List.replicate 24 0 : List Int32)).set 0 x3)))).set 159 (.inl (0, .inl (((List.replicate 24 0 : List Int32)).set 0 x4)))).set 149 (.inl (0, .inl ((((List.replicate 140 0 ++ (List.replicate 24 (-1) ++ (List.replicate 119 0))) : List Int32)).set 140 x1)))).set 148 (.inr (12, [.ref 165, .ref 166, .ref 167, .int 0, .ref 168, .ref 169, .ref 170, .ref 171, .ref 172, .int (-1), .int 1, .ref 173, .ref 174, .ref 175, .ref 176, .ref 177, .ref 178, .ref 179, .ref 180, .ref 181, .ref 182, .int 0, .ref 183, .ref 184, .int 0, .ref 185, .ref 186, .ref 187, .ref 188, .int 0, .ref 189, .ref 190, .ref 191, .ref 192, .ref 193, .int 0, .ref 194, .ref 195, .ref 196, .ref 197, .ref 198, .int 0, .ref 199, .int 0, .ref 200, .int 0, .int 0, .int (-1), .ref 201, .ref 202, .ref 203, .ref 204, .ref 205, .ref 206, .ref 207, .ref 208, .ref 209, .ref 210, .ref 211, .ref 212, .int 0, .int 0, .int 0, .ref 213, .ref 214, .ref 215]))), ?_, ?_⟩
                  · refine ca_of (d := 19) (M := mX11_person) rfl (Nat.le_of_ble_eq_true rfl) ?_
                    show Ev im_K0 19 mX11_person (0, [(0, .ref 16), (1, .int x1), (2, .int x2), (3, .int x3), (4, .int x4)], [], hh) _
                    refine sp_iload_n (p2 := 1) rfl rfl rfl ?_
                    refine sp_bipush (p2 := 3) (x := 100) rfl rfl (by decide) ?_
                    refine st_callS rfl rfl rfl (cl_within_T (b := 100) rfl (by omega)) ?_
                    show Ev _ _ _ (6, [(0, .ref 16), (1, .int x1), (2, .int x2), (3, .int x3), (4, .int x4)], [.int 1], hh) _
                    refine st_ifc (b := true) rfl (by decide) ?_
                    show Ev _ _ _ (11, _, _, _) _
                    refine sp_iload_n (p2 := 12) rfl rfl rfl ?_
                    refine sp_iconst (p2 := 13) (x := 1) rfl rfl (by decide) ?_
                    refine sp_bipush (p2 := 15) (x := 9) rfl rfl (by decide) ?_
                    refine st_callS rfl rfl rfl (cl_between_T (a := 1) (b := 9) rfl rfl (by omega)) ?_
                    show Ev _ _ _ (18, [(0, .ref 16), (1, .int x1), (2, .int x2), (3, .int x3), (4, .int x4)], [.int 1], hh) _
                    refine st_ifc (b := false) rfl (by decide) ?_
                    show Ev _ _ _ (21, _, _, _) _
                    refine sp_iload_n (p2 := 22) rfl rfl rfl ?_
                    refine sp_iconst (p2 := 23) (x := 0) rfl rfl (by decide) ?_
                    refine sp_bipush (p2 := 25) (x := 99) rfl rfl (by decide) ?_
                    refine st_callS rfl rfl rfl (cl_between_T (a := 0) (b := 99) rfl rfl (by omega)) ?_
                    show Ev _ _ _ (28, [(0, .ref 16), (1, .int x1), (2, .int x2), (3, .int x3), (4, .int x4)], [.int 1], hh) _
                    refine st_ifc (b := false) rfl (by decide) ?_
                    show Ev _ _ _ (31, _, _, _) _
                    refine sp_iload (p2 := 33) rfl rfl rfl ?_
                    refine sp_iconst (p2 := 34) (x := 0) rfl rfl (by decide) ?_
                    refine sp_bipush (p2 := 36) (x := 9) rfl rfl (by decide) ?_
                    refine st_callS rfl rfl rfl (cl_between_T (a := 0) (b := 9) rfl rfl (by omega)) ?_
                    show Ev _ _ _ (39, [(0, .ref 16), (1, .int x1), (2, .int x2), (3, .int x3), (4, .int x4)], [.int 1], hh) _
                    refine st_ifc (b := true) rfl (by decide) ?_
                    show Ev _ _ _ (45, _, _, _) _
                    refine sp_aload_n (p2 := 46) rfl rfl rfl ?_
                    refine st_get rfl hh_0 rfl ?_
                    show Ev _ _ _ (49, _, _, _) _
                    refine st_get rfl hh_1 rfl ?_
                    show Ev _ _ _ (52, _, _, _) _
                    refine sp_bipush (p2 := 54) (x := 24) rfl rfl (by decide) ?_
                    refine st_icmp (b := true) rfl (by decide) ?_
                    show Ev _ _ _ (60, _, _, _) _
                    refine sp_aload_n (p2 := 61) rfl rfl rfl ?_
                    refine st_get rfl hh_0 rfl ?_
                    show Ev _ _ _ (64, _, _, _) _
                    refine st_get rfl hh_1 rfl ?_
                    show Ev _ _ _ (67, _, _, _) _
                    refine sp_istore (p2 := 69) (lv2 := [(5, .int 0), (0, .ref 16), (1, .int x1), (2, .int x2), (3, .int x3), (4, .int x4)]) rfl rfl (by decide) rfl ?_
                    refine sp_aload_n (p2 := 70) rfl rfl rfl ?_
                    refine st_get rfl hh_0 rfl ?_
                    show Ev _ _ _ (73, _, _, _) _
                    refine st_get rfl hh_1 rfl ?_
                    show Ev _ _ _ (76, _, _, _) _
                    refine sp_iload (p2 := 78) rfl rfl rfl ?_
                    refine sp_iload_n (p2 := 79) rfl rfl rfl ?_
                    refine st_iast (i := 3) rfl rfl hh_3 rfl ?_
                    show Ev _ _ _ (80, [(5, .int 0), (0, .ref 16), (1, .int x1), (2, .int x2), (3, .int x3), (4, .int x4)], [], (hh.set 3 (.inl (0, .inl (((List.replicate 24 0 : List Int32)).set 0 x2))))) _
                    refine sp_aload_n (p2 := 81) rfl rfl rfl ?_
                    refine st_get rfl (ob_ne (by decide) hh_0) rfl ?_
                    show Ev _ _ _ (84, _, _, _) _
                    refine st_get rfl (ob_ne (by decide) hh_1) rfl ?_
                    show Ev _ _ _ (87, _, _, _) _
                    refine sp_iload (p2 := 89) rfl rfl rfl ?_
                    refine sp_iload_n (p2 := 90) rfl rfl rfl ?_
                    refine st_iast (i := 4) rfl rfl (ia_ne (by decide) hh_4) rfl ?_
                    show Ev _ _ _ (91, [(5, .int 0), (0, .ref 16), (1, .int x1), (2, .int x2), (3, .int x3), (4, .int x4)], [], ((hh.set 3 (.inl (0, .inl (((List.replicate 24 0 : List Int32)).set 0 x2)))).set 4 (.inl (0, .inl (((List.replicate 24 0 : List Int32)).set 0 x3))))) _
                    refine sp_aload_n (p2 := 92) rfl rfl rfl ?_
                    refine st_get rfl (ob_ne (by decide) (ob_ne (by decide) hh_0)) rfl ?_
                    show Ev _ _ _ (95, _, _, _) _
                    refine st_get rfl (ob_ne (by decide) (ob_ne (by decide) hh_1)) rfl ?_
                    show Ev _ _ _ (98, _, _, _) _
                    refine sp_iload (p2 := 100) rfl rfl rfl ?_
                    refine sp_iload (p2 := 102) rfl rfl rfl ?_
                    refine st_iast (i := 5) rfl rfl (ia_ne (by decide) (ia_ne (by decide) hh_5)) rfl ?_
                    show Ev _ _ _ (103, [(5, .int 0), (0, .ref 16), (1, .int x1), (2, .int x2), (3, .int x3), (4, .int x4)], [], (((hh.set 3 (.inl (0, .inl (((List.replicate 24 0 : List Int32)).set 0 x2)))).set 4 (.inl (0, .inl (((List.replicate 24 0 : List Int32)).set 0 x3)))).set 5 (.inl (0, .inl (((List.replicate 24 0 : List Int32)).set 0 x4))))) _
                    refine sp_aload_n (p2 := 104) rfl rfl rfl ?_
                    refine st_get rfl (ob_ne (by decide) (ob_ne (by decide) (ob_ne (by decide) hh_0))) rfl ?_
                    show Ev _ _ _ (107, _, _, _) _
                    refine st_get rfl (ob_ne (by decide) (ob_ne (by decide) (ob_ne (by decide) hh_23))) rfl ?_
                    show Ev _ _ _ (110, _, _, _) _
                    refine sp_iload (p2 := 112) rfl rfl rfl ?_
                    refine sp_iload_n (p2 := 113) rfl rfl rfl ?_
                    refine st_iast (i := 26) rfl rfl (ia_ne (by decide) (ia_ne (by decide) (ia_ne (by decide) hh_26))) rfl ?_
                    show Ev _ _ _ (114, [(5, .int 0), (0, .ref 16), (1, .int x1), (2, .int x2), (3, .int x3), (4, .int x4)], [], ((((hh.set 3 (.inl (0, .inl (((List.replicate 24 0 : List Int32)).set 0 x2)))).set 4 (.inl (0, .inl (((List.replicate 24 0 : List Int32)).set 0 x3)))).set 5 (.inl (0, .inl (((List.replicate 24 0 : List Int32)).set 0 x4)))).set 26 (.inl (0, .inl (((List.replicate 24 (-1) : List Int32)).set 0 x1))))) _
                    refine sp_aload_n (p2 := 115) rfl rfl rfl ?_
                    refine st_get rfl (ob_ne (by decide) (ob_ne (by decide) (ob_ne (by decide) (ob_ne (by decide) hh_0)))) rfl ?_
                    show Ev _ _ _ (118, _, _, _) _
                    refine sp_dup (p2 := 119) rfl rfl rfl ?_
                    refine st_get rfl (ob_ne (by decide) (ob_ne (by decide) (ob_ne (by decide) (ob_ne (by decide) hh_1)))) rfl ?_
                    show Ev _ _ _ (122, _, _, _) _
                    refine sp_iconst (p2 := 123) (x := 1) rfl rfl (by decide) ?_
                    refine sp_iadd (p2 := 124) (z := 1) rfl rfl (by decide) ?_
                    refine st_put (i := 1) rfl rfl (ob_ne (by decide) (ob_ne (by decide) (ob_ne (by decide) (ob_ne (by decide) hh_1)))) rfl rfl (Nat.le_of_ble_eq_true rfl) ?_
                    show Ev _ _ _ (127, [(5, .int 0), (0, .ref 16), (1, .int x1), (2, .int x2), (3, .int x3), (4, .int x4)], [], (((((hh.set 3 (.inl (0, .inl (((List.replicate 24 0 : List Int32)).set 0 x2)))).set 4 (.inl (0, .inl (((List.replicate 24 0 : List Int32)).set 0 x3)))).set 5 (.inl (0, .inl (((List.replicate 24 0 : List Int32)).set 0 x4)))).set 26 (.inl (0, .inl (((List.replicate 24 (-1) : List Int32)).set 0 x1)))).set 1 (.inr (0, [.ref 18, .int (-1), .int 1, .ref 19, .ref 20, .ref 21, .ref 22, .ref 23, .ref 24, .int 0, .ref 25, .ref 26, .null, .ref 27])))) _
                    refine sp_iload (p2 := 129) rfl rfl rfl ?_
                    exact sp_iret rfl rfl
                  · refine ca_of (d := 19) (M := mX12_person) rfl (Nat.le_of_ble_eq_true rfl) ?_
                    show Ev im_K0 19 mX12_person (0, [(0, .ref 164), (1, .int x1), (2, .int x2), (3, .int x3), (4, .int x4)], [], (((((hh.set 3 (.inl (0, .inl (((List.replicate 24 0 : List Int32)).set 0 x2)))).set 4 (.inl (0, .inl (((List.replicate 24 0 : List Int32)).set 0 x3)))).set 5 (.inl (0, .inl (((List.replicate 24 0 : List Int32)).set 0 x4)))).set 26 (.inl (0, .inl (((List.replicate 24 (-1) : List Int32)).set 0 x1)))).set 1 (.inr (0, [.ref 18, .int (-1), .int 1, .ref 19, .ref 20, .ref 21, .ref 22, .ref 23, .ref 24, .int 0, .ref 25, .ref 26, .null, .ref 27])))) _
                    refine sp_iload_n (p2 := 1) rfl rfl rfl ?_
                    refine st_callS rfl rfl rfl (cl_isCell_T (by omega)) ?_
                    show Ev _ _ _ (4, [(0, .ref 164), (1, .int x1), (2, .int x2), (3, .int x3), (4, .int x4)], [.int 1], (((((hh.set 3 (.inl (0, .inl (((List.replicate 24 0 : List Int32)).set 0 x2)))).set 4 (.inl (0, .inl (((List.replicate 24 0 : List Int32)).set 0 x3)))).set 5 (.inl (0, .inl (((List.replicate 24 0 : List Int32)).set 0 x4)))).set 26 (.inl (0, .inl (((List.replicate 24 (-1) : List Int32)).set 0 x1)))).set 1 (.inr (0, [.ref 18, .int (-1), .int 1, .ref 19, .ref 20, .ref 21, .ref 22, .ref 23, .ref 24, .int 0, .ref 25, .ref 26, .null, .ref 27])))) _
                    refine st_ifc (b := true) rfl (by decide) ?_
                    show Ev _ _ _ (9, _, _, _) _
                    refine sp_iload_n (p2 := 10) rfl rfl rfl ?_
                    refine sp_iconst (p2 := 11) (x := 1) rfl rfl (by decide) ?_
                    refine sp_bipush (p2 := 13) (x := 9) rfl rfl (by decide) ?_
                    refine st_callS rfl rfl rfl (cl_in_T (a := 1) (b := 9) rfl rfl (by omega)) ?_
                    show Ev _ _ _ (16, [(0, .ref 164), (1, .int x1), (2, .int x2), (3, .int x3), (4, .int x4)], [.int 1], (((((hh.set 3 (.inl (0, .inl (((List.replicate 24 0 : List Int32)).set 0 x2)))).set 4 (.inl (0, .inl (((List.replicate 24 0 : List Int32)).set 0 x3)))).set 5 (.inl (0, .inl (((List.replicate 24 0 : List Int32)).set 0 x4)))).set 26 (.inl (0, .inl (((List.replicate 24 (-1) : List Int32)).set 0 x1)))).set 1 (.inr (0, [.ref 18, .int (-1), .int 1, .ref 19, .ref 20, .ref 21, .ref 22, .ref 23, .ref 24, .int 0, .ref 25, .ref 26, .null, .ref 27])))) _
                    refine st_ifc (b := false) rfl (by decide) ?_
                    show Ev _ _ _ (19, _, _, _) _
                    refine sp_iload_n (p2 := 20) rfl rfl rfl ?_
                    refine sp_iconst (p2 := 21) (x := 0) rfl rfl (by decide) ?_
                    refine sp_bipush (p2 := 23) (x := 99) rfl rfl (by decide) ?_
                    refine st_callS rfl rfl rfl (cl_in_T (a := 0) (b := 99) rfl rfl (by omega)) ?_
                    show Ev _ _ _ (26, [(0, .ref 164), (1, .int x1), (2, .int x2), (3, .int x3), (4, .int x4)], [.int 1], (((((hh.set 3 (.inl (0, .inl (((List.replicate 24 0 : List Int32)).set 0 x2)))).set 4 (.inl (0, .inl (((List.replicate 24 0 : List Int32)).set 0 x3)))).set 5 (.inl (0, .inl (((List.replicate 24 0 : List Int32)).set 0 x4)))).set 26 (.inl (0, .inl (((List.replicate 24 (-1) : List Int32)).set 0 x1)))).set 1 (.inr (0, [.ref 18, .int (-1), .int 1, .ref 19, .ref 20, .ref 21, .ref 22, .ref 23, .ref 24, .int 0, .ref 25, .ref 26, .null, .ref 27])))) _
                    refine st_ifc (b := false) rfl (by decide) ?_
                    show Ev _ _ _ (29, _, _, _) _
                    refine sp_iload (p2 := 31) rfl rfl rfl ?_
                    refine sp_iconst (p2 := 32) (x := 0) rfl rfl (by decide) ?_
                    refine sp_bipush (p2 := 34) (x := 9) rfl rfl (by decide) ?_
                    refine st_callS rfl rfl rfl (cl_in_T (a := 0) (b := 9) rfl rfl (by omega)) ?_
                    show Ev _ _ _ (37, [(0, .ref 164), (1, .int x1), (2, .int x2), (3, .int x3), (4, .int x4)], [.int 1], (((((hh.set 3 (.inl (0, .inl (((List.replicate 24 0 : List Int32)).set 0 x2)))).set 4 (.inl (0, .inl (((List.replicate 24 0 : List Int32)).set 0 x3)))).set 5 (.inl (0, .inl (((List.replicate 24 0 : List Int32)).set 0 x4)))).set 26 (.inl (0, .inl (((List.replicate 24 (-1) : List Int32)).set 0 x1)))).set 1 (.inr (0, [.ref 18, .int (-1), .int 1, .ref 19, .ref 20, .ref 21, .ref 22, .ref 23, .ref 24, .int 0, .ref 25, .ref 26, .null, .ref 27])))) _
                    refine st_ifc (b := true) rfl (by decide) ?_
                    show Ev _ _ _ (43, _, _, _) _
                    refine sp_aload_n (p2 := 44) rfl rfl rfl ?_
                    refine st_get rfl (ob_ne (by decide) (ob_ne (by decide) (ob_ne (by decide) (ob_ne (by decide) (ob_ne (by decide) hh_148))))) rfl ?_
                    show Ev _ _ _ (47, _, _, _) _
                    refine sp_bipush (p2 := 49) (x := 24) rfl rfl (by decide) ?_
                    refine st_icmp (b := true) rfl (by decide) ?_
                    show Ev _ _ _ (55, _, _, _) _
                    refine sp_aload_n (p2 := 56) rfl rfl rfl ?_
                    refine st_get rfl (ob_ne (by decide) (ob_ne (by decide) (ob_ne (by decide) (ob_ne (by decide) (ob_ne (by decide) hh_148))))) rfl ?_
                    show Ev _ _ _ (59, _, _, _) _
                    refine sp_aload_n (p2 := 60) rfl rfl rfl ?_
                    refine st_get rfl (ob_ne (by decide) (ob_ne (by decide) (ob_ne (by decide) (ob_ne (by decide) (ob_ne (by decide) hh_148))))) rfl ?_
                    show Ev _ _ _ (63, _, _, _) _
                    refine sp_iload_n (p2 := 64) rfl rfl rfl ?_
                    refine st_iast (i := 157) rfl rfl (ia_ne (by decide) (ia_ne (by decide) (ia_ne (by decide) (ia_ne (by decide) (ia_ne (by decide) hh_157))))) rfl ?_
                    show Ev _ _ _ (65, [(0, .ref 164), (1, .int x1), (2, .int x2), (3, .int x3), (4, .int x4)], [], ((((((hh.set 3 (.inl (0, .inl (((List.replicate 24 0 : List Int32)).set 0 x2)))).set 4 (.inl (0, .inl (((List.replicate 24 0 : List Int32)).set 0 x3)))).set 5 (.inl (0, .inl (((List.replicate 24 0 : List Int32)).set 0 x4)))).set 26 (.inl (0, .inl (((List.replicate 24 (-1) : List Int32)).set 0 x1)))).set 1 (.inr (0, [.ref 18, .int (-1), .int 1, .ref 19, .ref 20, .ref 21, .ref 22, .ref 23, .ref 24, .int 0, .ref 25, .ref 26, .null, .ref 27]))).set 157 (.inl (0, .inl (((List.replicate 24 0 : List Int32)).set 0 x2))))) _
                    refine sp_aload_n (p2 := 66) rfl rfl rfl ?_
                    refine st_get rfl (ob_ne (by decide) (ob_ne (by decide) (ob_ne (by decide) (ob_ne (by decide) (ob_ne (by decide) (ob_ne (by decide) hh_148)))))) rfl ?_
                    show Ev _ _ _ (69, _, _, _) _
                    refine sp_aload_n (p2 := 70) rfl rfl rfl ?_
                    refine st_get rfl (ob_ne (by decide) (ob_ne (by decide) (ob_ne (by decide) (ob_ne (by decide) (ob_ne (by decide) (ob_ne (by decide) hh_148)))))) rfl ?_
                    show Ev _ _ _ (73, _, _, _) _
                    refine sp_iload_n (p2 := 74) rfl rfl rfl ?_
                    refine st_iast (i := 158) rfl rfl (ia_ne (by decide) (ia_ne (by decide) (ia_ne (by decide) (ia_ne (by decide) (ia_ne (by decide) (ia_ne (by decide) hh_158)))))) rfl ?_
                    show Ev _ _ _ (75, [(0, .ref 164), (1, .int x1), (2, .int x2), (3, .int x3), (4, .int x4)], [], (((((((hh.set 3 (.inl (0, .inl (((List.replicate 24 0 : List Int32)).set 0 x2)))).set 4 (.inl (0, .inl (((List.replicate 24 0 : List Int32)).set 0 x3)))).set 5 (.inl (0, .inl (((List.replicate 24 0 : List Int32)).set 0 x4)))).set 26 (.inl (0, .inl (((List.replicate 24 (-1) : List Int32)).set 0 x1)))).set 1 (.inr (0, [.ref 18, .int (-1), .int 1, .ref 19, .ref 20, .ref 21, .ref 22, .ref 23, .ref 24, .int 0, .ref 25, .ref 26, .null, .ref 27]))).set 157 (.inl (0, .inl (((List.replicate 24 0 : List Int32)).set 0 x2)))).set 158 (.inl (0, .inl (((List.replicate 24 0 : List Int32)).set 0 x3))))) _
                    refine sp_aload_n (p2 := 76) rfl rfl rfl ?_
                    refine st_get rfl (ob_ne (by decide) (ob_ne (by decide) (ob_ne (by decide) (ob_ne (by decide) (ob_ne (by decide) (ob_ne (by decide) (ob_ne (by decide) hh_148))))))) rfl ?_
                    show Ev _ _ _ (79, _, _, _) _
                    refine sp_aload_n (p2 := 80) rfl rfl rfl ?_
                    refine st_get rfl (ob_ne (by decide) (ob_ne (by decide) (ob_ne (by decide) (ob_ne (by decide) (ob_ne (by decide) (ob_ne (by decide) (ob_ne (by decide) hh_148))))))) rfl ?_
                    show Ev _ _ _ (83, _, _, _) _
                    refine sp_iload (p2 := 85) rfl rfl rfl ?_
                    refine st_iast (i := 159) rfl rfl (ia_ne (by decide) (ia_ne (by decide) (ia_ne (by decide) (ia_ne (by decide) (ia_ne (by decide) (ia_ne (by decide) (ia_ne (by decide) hh_159))))))) rfl ?_
                    show Ev _ _ _ (86, [(0, .ref 164), (1, .int x1), (2, .int x2), (3, .int x3), (4, .int x4)], [], ((((((((hh.set 3 (.inl (0, .inl (((List.replicate 24 0 : List Int32)).set 0 x2)))).set 4 (.inl (0, .inl (((List.replicate 24 0 : List Int32)).set 0 x3)))).set 5 (.inl (0, .inl (((List.replicate 24 0 : List Int32)).set 0 x4)))).set 26 (.inl (0, .inl (((List.replicate 24 (-1) : List Int32)).set 0 x1)))).set 1 (.inr (0, [.ref 18, .int (-1), .int 1, .ref 19, .ref 20, .ref 21, .ref 22, .ref 23, .ref 24, .int 0, .ref 25, .ref 26, .null, .ref 27]))).set 157 (.inl (0, .inl (((List.replicate 24 0 : List Int32)).set 0 x2)))).set 158 (.inl (0, .inl (((List.replicate 24 0 : List Int32)).set 0 x3)))).set 159 (.inl (0, .inl (((List.replicate 24 0 : List Int32)).set 0 x4))))) _
                    refine sp_aload_n (p2 := 87) rfl rfl rfl ?_
                    refine st_get rfl (ob_ne (by decide) (ob_ne (by decide) (ob_ne (by decide) (ob_ne (by decide) (ob_ne (by decide) (ob_ne (by decide) (ob_ne (by decide) (ob_ne (by decide) hh_148)))))))) rfl ?_
                    show Ev _ _ _ (90, _, _, _) _
                    refine sp_sipush (p2 := 93) (x := 140) rfl rfl (by decide) ?_
                    refine sp_aload_n (p2 := 94) rfl rfl rfl ?_
                    refine st_get rfl (ob_ne (by decide) (ob_ne (by decide) (ob_ne (by decide) (ob_ne (by decide) (ob_ne (by decide) (ob_ne (by decide) (ob_ne (by decide) (ob_ne (by decide) hh_148)))))))) rfl ?_
                    show Ev _ _ _ (97, _, _, _) _
                    refine sp_iadd (p2 := 98) (z := 140) rfl rfl (by decide) ?_
                    refine sp_iload_n (p2 := 99) rfl rfl rfl ?_
                    refine st_iast (i := 149) rfl rfl (ia_ne (by decide) (ia_ne (by decide) (ia_ne (by decide) (ia_ne (by decide) (ia_ne (by decide) (ia_ne (by decide) (ia_ne (by decide) (ia_ne (by decide) hh_149)))))))) rfl ?_
                    show Ev _ _ _ (100, [(0, .ref 164), (1, .int x1), (2, .int x2), (3, .int x3), (4, .int x4)], [], (((((((((hh.set 3 (.inl (0, .inl (((List.replicate 24 0 : List Int32)).set 0 x2)))).set 4 (.inl (0, .inl (((List.replicate 24 0 : List Int32)).set 0 x3)))).set 5 (.inl (0, .inl (((List.replicate 24 0 : List Int32)).set 0 x4)))).set 26 (.inl (0, .inl (((List.replicate 24 (-1) : List Int32)).set 0 x1)))).set 1 (.inr (0, [.ref 18, .int (-1), .int 1, .ref 19, .ref 20, .ref 21, .ref 22, .ref 23, .ref 24, .int 0, .ref 25, .ref 26, .null, .ref 27]))).set 157 (.inl (0, .inl (((List.replicate 24 0 : List Int32)).set 0 x2)))).set 158 (.inl (0, .inl (((List.replicate 24 0 : List Int32)).set 0 x3)))).set 159 (.inl (0, .inl (((List.replicate 24 0 : List Int32)).set 0 x4)))).set 149 (.inl (0, .inl ((((List.replicate 140 0 ++ (List.replicate 24 (-1) ++ (List.replicate 119 0))) : List Int32)).set 140 x1))))) _
                    refine sp_aload_n (p2 := 101) rfl rfl rfl ?_
                    refine sp_dup (p2 := 102) rfl rfl rfl ?_
                    refine st_get rfl (ob_ne (by decide) (ob_ne (by decide) (ob_ne (by decide) (ob_ne (by decide) (ob_ne (by decide) (ob_ne (by decide) (ob_ne (by decide) (ob_ne (by decide) (ob_ne (by decide) hh_148))))))))) rfl ?_
                    show Ev _ _ _ (105, _, _, _) _
                    refine sp_iconst (p2 := 106) (x := 1) rfl rfl (by decide) ?_
                    refine sp_iadd (p2 := 107) (z := 1) rfl rfl (by decide) ?_
                    refine st_put (i := 148) rfl rfl (ob_ne (by decide) (ob_ne (by decide) (ob_ne (by decide) (ob_ne (by decide) (ob_ne (by decide) (ob_ne (by decide) (ob_ne (by decide) (ob_ne (by decide) (ob_ne (by decide) hh_148))))))))) rfl rfl (Nat.le_of_ble_eq_true rfl) ?_
                    show Ev _ _ _ (110, [(0, .ref 164), (1, .int x1), (2, .int x2), (3, .int x3), (4, .int x4)], [], ((((((((((hh.set 3 (.inl (0, .inl (((List.replicate 24 0 : List Int32)).set 0 x2)))).set 4 (.inl (0, .inl (((List.replicate 24 0 : List Int32)).set 0 x3)))).set 5 (.inl (0, .inl (((List.replicate 24 0 : List Int32)).set 0 x4)))).set 26 (.inl (0, .inl (((List.replicate 24 (-1) : List Int32)).set 0 x1)))).set 1 (.inr (0, [.ref 18, .int (-1), .int 1, .ref 19, .ref 20, .ref 21, .ref 22, .ref 23, .ref 24, .int 0, .ref 25, .ref 26, .null, .ref 27]))).set 157 (.inl (0, .inl (((List.replicate 24 0 : List Int32)).set 0 x2)))).set 158 (.inl (0, .inl (((List.replicate 24 0 : List Int32)).set 0 x3)))).set 159 (.inl (0, .inl (((List.replicate 24 0 : List Int32)).set 0 x4)))).set 149 (.inl (0, .inl ((((List.replicate 140 0 ++ (List.replicate 24 (-1) ++ (List.replicate 119 0))) : List Int32)).set 140 x1)))).set 148 (.inr (12, [.ref 165, .ref 166, .ref 167, .int 0, .ref 168, .ref 169, .ref 170, .ref 171, .ref 172, .int (-1), .int 1, .ref 173, .ref 174, .ref 175, .ref 176, .ref 177, .ref 178, .ref 179, .ref 180, .ref 181, .ref 182, .int 0, .ref 183, .ref 184, .int 0, .ref 185, .ref 186, .ref 187, .ref 188, .int 0, .ref 189, .ref 190, .ref 191, .ref 192, .ref 193, .int 0, .ref 194, .ref 195, .ref 196, .ref 197, .ref 198, .int 0, .ref 199, .int 0, .ref 200, .int 0, .int 0, .int (-1), .ref 201, .ref 202, .ref 203, .ref 204, .ref 205, .ref 206, .ref 207, .ref 208, .ref 209, .ref 210, .ref 211, .ref 212, .int 0, .int 0, .int 0, .ref 213, .ref 214, .ref 215])))) _
                    refine sp_aload_n (p2 := 111) rfl rfl rfl ?_
                    refine st_get rfl (ob_eq2 (sl_len (sl_len (sl_len (sl_len (sl_len (sl_len (sl_len (sl_len (sl_len hh_len))))))))) (by decide)) rfl ?_
                    show Ev _ _ _ (114, _, _, _) _
                    refine sp_iconst (p2 := 115) (x := 1) rfl rfl (by decide) ?_
                    refine sp_isub (p2 := 116) (z := 0) rfl rfl (by decide) ?_
                    exact sp_iret rfl rfl
                · refine ⟨.int (-2), hh, hh, ?_, ?_⟩
                  · refine ca_of (d := 19) (M := mX11_person) rfl (Nat.le_of_ble_eq_true rfl) ?_
                    show Ev im_K0 19 mX11_person (0, [(0, .ref 16), (1, .int x1), (2, .int x2), (3, .int x3), (4, .int x4)], [], hh) _
                    refine sp_iload_n (p2 := 1) rfl rfl rfl ?_
                    refine sp_bipush (p2 := 3) (x := 100) rfl rfl (by decide) ?_
                    refine st_callS rfl rfl rfl (cl_within_T (b := 100) rfl (by omega)) ?_
                    show Ev _ _ _ (6, [(0, .ref 16), (1, .int x1), (2, .int x2), (3, .int x3), (4, .int x4)], [.int 1], hh) _
                    refine st_ifc (b := true) rfl (by decide) ?_
                    show Ev _ _ _ (11, _, _, _) _
                    refine sp_iload_n (p2 := 12) rfl rfl rfl ?_
                    refine sp_iconst (p2 := 13) (x := 1) rfl rfl (by decide) ?_
                    refine sp_bipush (p2 := 15) (x := 9) rfl rfl (by decide) ?_
                    refine st_callS rfl rfl rfl (cl_between_T (a := 1) (b := 9) rfl rfl (by omega)) ?_
                    show Ev _ _ _ (18, [(0, .ref 16), (1, .int x1), (2, .int x2), (3, .int x3), (4, .int x4)], [.int 1], hh) _
                    refine st_ifc (b := false) rfl (by decide) ?_
                    show Ev _ _ _ (21, _, _, _) _
                    refine sp_iload_n (p2 := 22) rfl rfl rfl ?_
                    refine sp_iconst (p2 := 23) (x := 0) rfl rfl (by decide) ?_
                    refine sp_bipush (p2 := 25) (x := 99) rfl rfl (by decide) ?_
                    refine st_callS rfl rfl rfl (cl_between_T (a := 0) (b := 99) rfl rfl (by omega)) ?_
                    show Ev _ _ _ (28, [(0, .ref 16), (1, .int x1), (2, .int x2), (3, .int x3), (4, .int x4)], [.int 1], hh) _
                    refine st_ifc (b := false) rfl (by decide) ?_
                    show Ev _ _ _ (31, _, _, _) _
                    refine sp_iload (p2 := 33) rfl rfl rfl ?_
                    refine sp_iconst (p2 := 34) (x := 0) rfl rfl (by decide) ?_
                    refine sp_bipush (p2 := 36) (x := 9) rfl rfl (by decide) ?_
                    refine st_callS rfl rfl rfl (cl_between_F (a := 0) (b := 9) rfl rfl (by omega)) ?_
                    show Ev _ _ _ (39, [(0, .ref 16), (1, .int x1), (2, .int x2), (3, .int x3), (4, .int x4)], [.int 0], hh) _
                    refine st_ifc (b := false) rfl (by decide) ?_
                    show Ev _ _ _ (42, _, _, _) _
                    refine sp_bipush (p2 := 44) (x := (-2)) rfl rfl (by decide) ?_
                    exact sp_iret rfl rfl
                  · refine ca_of (d := 19) (M := mX12_person) rfl (Nat.le_of_ble_eq_true rfl) ?_
                    show Ev im_K0 19 mX12_person (0, [(0, .ref 164), (1, .int x1), (2, .int x2), (3, .int x3), (4, .int x4)], [], hh) _
                    refine sp_iload_n (p2 := 1) rfl rfl rfl ?_
                    refine st_callS rfl rfl rfl (cl_isCell_T (by omega)) ?_
                    show Ev _ _ _ (4, [(0, .ref 164), (1, .int x1), (2, .int x2), (3, .int x3), (4, .int x4)], [.int 1], hh) _
                    refine st_ifc (b := true) rfl (by decide) ?_
                    show Ev _ _ _ (9, _, _, _) _
                    refine sp_iload_n (p2 := 10) rfl rfl rfl ?_
                    refine sp_iconst (p2 := 11) (x := 1) rfl rfl (by decide) ?_
                    refine sp_bipush (p2 := 13) (x := 9) rfl rfl (by decide) ?_
                    refine st_callS rfl rfl rfl (cl_in_T (a := 1) (b := 9) rfl rfl (by omega)) ?_
                    show Ev _ _ _ (16, [(0, .ref 164), (1, .int x1), (2, .int x2), (3, .int x3), (4, .int x4)], [.int 1], hh) _
                    refine st_ifc (b := false) rfl (by decide) ?_
                    show Ev _ _ _ (19, _, _, _) _
                    refine sp_iload_n (p2 := 20) rfl rfl rfl ?_
                    refine sp_iconst (p2 := 21) (x := 0) rfl rfl (by decide) ?_
                    refine sp_bipush (p2 := 23) (x := 99) rfl rfl (by decide) ?_
                    refine st_callS rfl rfl rfl (cl_in_T (a := 0) (b := 99) rfl rfl (by omega)) ?_
                    show Ev _ _ _ (26, [(0, .ref 164), (1, .int x1), (2, .int x2), (3, .int x3), (4, .int x4)], [.int 1], hh) _
                    refine st_ifc (b := false) rfl (by decide) ?_
                    show Ev _ _ _ (29, _, _, _) _
                    refine sp_iload (p2 := 31) rfl rfl rfl ?_
                    refine sp_iconst (p2 := 32) (x := 0) rfl rfl (by decide) ?_
                    refine sp_bipush (p2 := 34) (x := 9) rfl rfl (by decide) ?_
                    refine st_callS rfl rfl rfl (cl_in_F (a := 0) (b := 9) rfl rfl (by omega)) ?_
                    show Ev _ _ _ (37, [(0, .ref 164), (1, .int x1), (2, .int x2), (3, .int x3), (4, .int x4)], [.int 0], hh) _
                    refine st_ifc (b := false) rfl (by decide) ?_
                    show Ev _ _ _ (40, _, _, _) _
                    refine sp_bipush (p2 := 42) (x := (-2)) rfl rfl (by decide) ?_
                    exact sp_iret rfl rfl
            · refine ⟨.int (-2), hh, hh, ?_, ?_⟩
              · refine ca_of (d := 19) (M := mX11_person) rfl (Nat.le_of_ble_eq_true rfl) ?_
                show Ev im_K0 19 mX11_person (0, [(0, .ref 16), (1, .int x1), (2, .int x2), (3, .int x3), (4, .int x4)], [], hh) _
                refine sp_iload_n (p2 := 1) rfl rfl rfl ?_
                refine sp_bipush (p2 := 3) (x := 100) rfl rfl (by decide) ?_
                refine st_callS rfl rfl rfl (cl_within_T (b := 100) rfl (by omega)) ?_
                show Ev _ _ _ (6, [(0, .ref 16), (1, .int x1), (2, .int x2), (3, .int x3), (4, .int x4)], [.int 1], hh) _
                refine st_ifc (b := true) rfl (by decide) ?_
                show Ev _ _ _ (11, _, _, _) _
                refine sp_iload_n (p2 := 12) rfl rfl rfl ?_
                refine sp_iconst (p2 := 13) (x := 1) rfl rfl (by decide) ?_
                refine sp_bipush (p2 := 15) (x := 9) rfl rfl (by decide) ?_
                refine st_callS rfl rfl rfl (cl_between_T (a := 1) (b := 9) rfl rfl (by omega)) ?_
                show Ev _ _ _ (18, [(0, .ref 16), (1, .int x1), (2, .int x2), (3, .int x3), (4, .int x4)], [.int 1], hh) _
                refine st_ifc (b := false) rfl (by decide) ?_
                show Ev _ _ _ (21, _, _, _) _
                refine sp_iload_n (p2 := 22) rfl rfl rfl ?_
                refine sp_iconst (p2 := 23) (x := 0) rfl rfl (by decide) ?_
                refine sp_bipush (p2 := 25) (x := 99) rfl rfl (by decide) ?_
                refine st_callS rfl rfl rfl (cl_between_F (a := 0) (b := 99) rfl rfl (by omega)) ?_
                show Ev _ _ _ (28, [(0, .ref 16), (1, .int x1), (2, .int x2), (3, .int x3), (4, .int x4)], [.int 0], hh) _
                refine st_ifc (b := true) rfl (by decide) ?_
                show Ev _ _ _ (42, _, _, _) _
                refine sp_bipush (p2 := 44) (x := (-2)) rfl rfl (by decide) ?_
                exact sp_iret rfl rfl
              · refine ca_of (d := 19) (M := mX12_person) rfl (Nat.le_of_ble_eq_true rfl) ?_
                show Ev im_K0 19 mX12_person (0, [(0, .ref 164), (1, .int x1), (2, .int x2), (3, .int x3), (4, .int x4)], [], hh) _
                refine sp_iload_n (p2 := 1) rfl rfl rfl ?_
                refine st_callS rfl rfl rfl (cl_isCell_T (by omega)) ?_
                show Ev _ _ _ (4, [(0, .ref 164), (1, .int x1), (2, .int x2), (3, .int x3), (4, .int x4)], [.int 1], hh) _
                refine st_ifc (b := true) rfl (by decide) ?_
                show Ev _ _ _ (9, _, _, _) _
                refine sp_iload_n (p2 := 10) rfl rfl rfl ?_
                refine sp_iconst (p2 := 11) (x := 1) rfl rfl (by decide) ?_
                refine sp_bipush (p2 := 13) (x := 9) rfl rfl (by decide) ?_
                refine st_callS rfl rfl rfl (cl_in_T (a := 1) (b := 9) rfl rfl (by omega)) ?_
                show Ev _ _ _ (16, [(0, .ref 164), (1, .int x1), (2, .int x2), (3, .int x3), (4, .int x4)], [.int 1], hh) _
                refine st_ifc (b := false) rfl (by decide) ?_
                show Ev _ _ _ (19, _, _, _) _
                refine sp_iload_n (p2 := 20) rfl rfl rfl ?_
                refine sp_iconst (p2 := 21) (x := 0) rfl rfl (by decide) ?_
                refine sp_bipush (p2 := 23) (x := 99) rfl rfl (by decide) ?_
                refine st_callS rfl rfl rfl (cl_in_F (a := 0) (b := 99) rfl rfl (by omega)) ?_
                show Ev _ _ _ (26, [(0, .ref 164), (1, .int x1), (2, .int x2), (3, .int x3), (4, .int x4)], [.int 0], hh) _
                refine st_ifc (b := true) rfl (by decide) ?_
                show Ev _ _ _ (40, _, _, _) _
                refine sp_bipush (p2 := 42) (x := (-2)) rfl rfl (by decide) ?_
                exact sp_iret rfl rfl
        · refine ⟨.int (-2), hh, hh, ?_, ?_⟩
          · refine ca_of (d := 19) (M := mX11_person) rfl (Nat.le_of_ble_eq_true rfl) ?_
            show Ev im_K0 19 mX11_person (0, [(0, .ref 16), (1, .int x1), (2, .int x2), (3, .int x3), (4, .int x4)], [], hh) _
            refine sp_iload_n (p2 := 1) rfl rfl rfl ?_
            refine sp_bipush (p2 := 3) (x := 100) rfl rfl (by decide) ?_
            refine st_callS rfl rfl rfl (cl_within_T (b := 100) rfl (by omega)) ?_
            show Ev _ _ _ (6, [(0, .ref 16), (1, .int x1), (2, .int x2), (3, .int x3), (4, .int x4)], [.int 1], hh) _
            refine st_ifc (b := true) rfl (by decide) ?_
            show Ev _ _ _ (11, _, _, _) _
            refine sp_iload_n (p2 := 12) rfl rfl rfl ?_
            refine sp_iconst (p2 := 13) (x := 1) rfl rfl (by decide) ?_
            refine sp_bipush (p2 := 15) (x := 9) rfl rfl (by decide) ?_
            refine st_callS rfl rfl rfl (cl_between_F (a := 1) (b := 9) rfl rfl (by omega)) ?_
            show Ev _ _ _ (18, [(0, .ref 16), (1, .int x1), (2, .int x2), (3, .int x3), (4, .int x4)], [.int 0], hh) _
            refine st_ifc (b := true) rfl (by decide) ?_
            show Ev _ _ _ (42, _, _, _) _
            refine sp_bipush (p2 := 44) (x := (-2)) rfl rfl (by decide) ?_
            exact sp_iret rfl rfl
          · refine ca_of (d := 19) (M := mX12_person) rfl (Nat.le_of_ble_eq_true rfl) ?_
            show Ev im_K0 19 mX12_person (0, [(0, .ref 164), (1, .int x1), (2, .int x2), (3, .int x3), (4, .int x4)], [], hh) _
            refine sp_iload_n (p2 := 1) rfl rfl rfl ?_
            refine st_callS rfl rfl rfl (cl_isCell_T (by omega)) ?_
            show Ev _ _ _ (4, [(0, .ref 164), (1, .int x1), (2, .int x2), (3, .int x3), (4, .int x4)], [.int 1], hh) _
            refine st_ifc (b := true) rfl (by decide) ?_
            show Ev _ _ _ (9, _, _, _) _
            refine sp_iload_n (p2 := 10) rfl rfl rfl ?_
            refine sp_iconst (p2 := 11) (x := 1) rfl rfl (by decide) ?_
            refine sp_bipush (p2 := 13) (x := 9) rfl rfl (by decide) ?_
            refine st_callS rfl rfl rfl (cl_in_F (a := 1) (b := 9) rfl rfl (by omega)) ?_
            show Ev _ _ _ (16, [(0, .ref 164), (1, .int x1), (2, .int x2), (3, .int x3), (4, .int x4)], [.int 0], hh) _
            refine st_ifc (b := true) rfl (by decide) ?_
            show Ev _ _ _ (40, _, _, _) _
            refine sp_bipush (p2 := 42) (x := (-2)) rfl rfl (by decide) ?_
            exact sp_iret rfl rfl
    · refine ⟨.int (-1), hh, hh, ?_, ?_⟩
      · refine ca_of (d := 19) (M := mX11_person) rfl (Nat.le_of_ble_eq_true rfl) ?_
        show Ev im_K0 19 mX11_person (0, [(0, .ref 16), (1, .int x1), (2, .int x2), (3, .int x3), (4, .int x4)], [], hh) _
        refine sp_iload_n (p2 := 1) rfl rfl rfl ?_
        refine sp_bipush (p2 := 3) (x := 100) rfl rfl (by decide) ?_
        refine st_callS rfl rfl rfl (cl_within_F (b := 100) rfl (by omega)) ?_
        show Ev _ _ _ (6, [(0, .ref 16), (1, .int x1), (2, .int x2), (3, .int x3), (4, .int x4)], [.int 0], hh) _
        refine st_ifc (b := false) rfl (by decide) ?_
        show Ev _ _ _ (9, _, _, _) _
        refine sp_iconst (p2 := 10) (x := (-1)) rfl rfl (by decide) ?_
        exact sp_iret rfl rfl
      · refine ca_of (d := 19) (M := mX12_person) rfl (Nat.le_of_ble_eq_true rfl) ?_
        show Ev im_K0 19 mX12_person (0, [(0, .ref 164), (1, .int x1), (2, .int x2), (3, .int x3), (4, .int x4)], [], hh) _
        refine sp_iload_n (p2 := 1) rfl rfl rfl ?_
        refine st_callS rfl rfl rfl (cl_isCell_F (by omega)) ?_
        show Ev _ _ _ (4, [(0, .ref 164), (1, .int x1), (2, .int x2), (3, .int x3), (4, .int x4)], [.int 0], hh) _
        refine st_ifc (b := false) rfl (by decide) ?_
        show Ev _ _ _ (7, _, _, _) _
        refine sp_iconst (p2 := 8) (x := (-1)) rfl rfl (by decide) ?_
        exact sp_iret rfl rfl
set_option maxRecDepth 10000 in
set_option maxHeartbeats 4000000 in
theorem q_weather (x1 x2 : Int32) : ∃ (v : Value) (h1 h2 : im_H), Ca 20 65 [.ref 16, .int x1, .int x2] hh (some v, h1) ∧ Ca 20 127 [.ref 164, .int x1, .int x2] h1 (some v, h2) := by
  by_cases h1 : x1.toInt ≤ (-1)
  · refine ⟨.int (-2), hh, hh, ?_, ?_⟩
    · refine ca_of (d := 19) (M := mX11_weather) rfl (Nat.le_of_ble_eq_true rfl) ?_
      show Ev im_K0 19 mX11_weather (0, [(0, .ref 16), (1, .int x1), (2, .int x2)], [], hh) _
      refine sp_iload_n (p2 := 1) rfl rfl rfl ?_
      refine sp_bipush (p2 := 3) (x := 10) rfl rfl (by decide) ?_
      refine st_callS rfl rfl rfl (cl_within_F (b := 10) rfl (by omega)) ?_
      show Ev _ _ _ (6, [(0, .ref 16), (1, .int x1), (2, .int x2)], [.int 0], hh) _
      refine st_ifc (b := true) rfl (by decide) ?_
      show Ev _ _ _ (18, _, _, _) _
      refine sp_bipush (p2 := 20) (x := (-2)) rfl rfl (by decide) ?_
      exact sp_iret rfl rfl
    · refine ca_of (d := 19) (M := mX12_weather) rfl (Nat.le_of_ble_eq_true rfl) ?_
      show Ev im_K0 19 mX12_weather (0, [(0, .ref 164), (1, .int x1), (2, .int x2)], [], hh) _
      refine sp_iload_n (p2 := 1) rfl rfl rfl ?_
      refine sp_iconst (p2 := 2) (x := 0) rfl rfl (by decide) ?_
      refine sp_bipush (p2 := 4) (x := 9) rfl rfl (by decide) ?_
      refine st_callS rfl rfl rfl (cl_in_F (a := 0) (b := 9) rfl rfl (by omega)) ?_
      show Ev _ _ _ (7, [(0, .ref 164), (1, .int x1), (2, .int x2)], [.int 0], hh) _
      refine st_ifc (b := true) rfl (by decide) ?_
      show Ev _ _ _ (20, _, _, _) _
      refine sp_bipush (p2 := 22) (x := (-2)) rfl rfl (by decide) ?_
      exact sp_iret rfl rfl
  · by_cases h2 : x1.toInt ≤ 9
    · by_cases h3 : x2.toInt ≤ (-1)
      · refine ⟨.int (-2), hh, hh, ?_, ?_⟩
        · refine ca_of (d := 19) (M := mX11_weather) rfl (Nat.le_of_ble_eq_true rfl) ?_
          show Ev im_K0 19 mX11_weather (0, [(0, .ref 16), (1, .int x1), (2, .int x2)], [], hh) _
          refine sp_iload_n (p2 := 1) rfl rfl rfl ?_
          refine sp_bipush (p2 := 3) (x := 10) rfl rfl (by decide) ?_
          refine st_callS rfl rfl rfl (cl_within_T (b := 10) rfl (by omega)) ?_
          show Ev _ _ _ (6, [(0, .ref 16), (1, .int x1), (2, .int x2)], [.int 1], hh) _
          refine st_ifc (b := false) rfl (by decide) ?_
          show Ev _ _ _ (9, _, _, _) _
          refine sp_iload_n (p2 := 10) rfl rfl rfl ?_
          refine sp_bipush (p2 := 12) (x := 10) rfl rfl (by decide) ?_
          refine st_callS rfl rfl rfl (cl_within_F (b := 10) rfl (by omega)) ?_
          show Ev _ _ _ (15, [(0, .ref 16), (1, .int x1), (2, .int x2)], [.int 0], hh) _
          refine st_ifc (b := false) rfl (by decide) ?_
          show Ev _ _ _ (18, _, _, _) _
          refine sp_bipush (p2 := 20) (x := (-2)) rfl rfl (by decide) ?_
          exact sp_iret rfl rfl
        · refine ca_of (d := 19) (M := mX12_weather) rfl (Nat.le_of_ble_eq_true rfl) ?_
          show Ev im_K0 19 mX12_weather (0, [(0, .ref 164), (1, .int x1), (2, .int x2)], [], hh) _
          refine sp_iload_n (p2 := 1) rfl rfl rfl ?_
          refine sp_iconst (p2 := 2) (x := 0) rfl rfl (by decide) ?_
          refine sp_bipush (p2 := 4) (x := 9) rfl rfl (by decide) ?_
          refine st_callS rfl rfl rfl (cl_in_T (a := 0) (b := 9) rfl rfl (by omega)) ?_
          show Ev _ _ _ (7, [(0, .ref 164), (1, .int x1), (2, .int x2)], [.int 1], hh) _
          refine st_ifc (b := false) rfl (by decide) ?_
          show Ev _ _ _ (10, _, _, _) _
          refine sp_iload_n (p2 := 11) rfl rfl rfl ?_
          refine sp_iconst (p2 := 12) (x := 0) rfl rfl (by decide) ?_
          refine sp_bipush (p2 := 14) (x := 9) rfl rfl (by decide) ?_
          refine st_callS rfl rfl rfl (cl_in_F (a := 0) (b := 9) rfl rfl (by omega)) ?_
          show Ev _ _ _ (17, [(0, .ref 164), (1, .int x1), (2, .int x2)], [.int 0], hh) _
          refine st_ifc (b := false) rfl (by decide) ?_
          show Ev _ _ _ (20, _, _, _) _
          refine sp_bipush (p2 := 22) (x := (-2)) rfl rfl (by decide) ?_
          exact sp_iret rfl rfl
      · by_cases h4 : x2.toInt ≤ 9
        · refine ⟨.int 0, ((hh.set 23 (.inr (9, [.int 0, .int x1, .int 0, .int 0, .int 0, .ref 40, .ref 41, .ref 42, .ref 43, .ref 44, .ref 45, .ref 46, .ref 47, .ref 48, .ref 49, .ref 50, .ref 51, .ref 52]))).set 23 (.inr (9, [.int 0, .int x1, .int x2, .int 0, .int 0, .ref 40, .ref 41, .ref 42, .ref 43, .ref 44, .ref 45, .ref 46, .ref 47, .ref 48, .ref 49, .ref 50, .ref 51, .ref 52]))), ((((hh.set 23 (.inr (9, [.int 0, .int x1, .int 0, .int 0, .int 0, .ref 40, .ref 41, .ref 42, .ref 43, .ref 44, .ref 45, .ref 46, .ref 47, .ref 48, .ref 49, .ref 50, .ref 51, .ref 52]))).set 23 (.inr (9, [.int 0, .int x1, .int x2, .int 0, .int 0, .ref 40, .ref 41, .ref 42, .ref 43, .ref 44, .ref 45, .ref 46, .ref 47, .ref 48, .ref 49, .ref 50, .ref 51, .ref 52]))).set 149 (.inl (0, .inl ((((List.replicate 140 0 ++ (List.replicate 24 (-1) ++ (List.replicate 119 0))) : List Int32)).set 106 x1)))).set 149 (.inl (0, .inl (((((List.replicate 140 0 ++ (List.replicate 24 (-1) ++ (List.replicate 119 0))) : List Int32)).set 106 x1).set 107 x2)))), ?_, ?_⟩
          · refine ca_of (d := 19) (M := mX11_weather) rfl (Nat.le_of_ble_eq_true rfl) ?_
            show Ev im_K0 19 mX11_weather (0, [(0, .ref 16), (1, .int x1), (2, .int x2)], [], hh) _
            refine sp_iload_n (p2 := 1) rfl rfl rfl ?_
            refine sp_bipush (p2 := 3) (x := 10) rfl rfl (by decide) ?_
            refine st_callS rfl rfl rfl (cl_within_T (b := 10) rfl (by omega)) ?_
            show Ev _ _ _ (6, [(0, .ref 16), (1, .int x1), (2, .int x2)], [.int 1], hh) _
            refine st_ifc (b := false) rfl (by decide) ?_
            show Ev _ _ _ (9, _, _, _) _
            refine sp_iload_n (p2 := 10) rfl rfl rfl ?_
            refine sp_bipush (p2 := 12) (x := 10) rfl rfl (by decide) ?_
            refine st_callS rfl rfl rfl (cl_within_T (b := 10) rfl (by omega)) ?_
            show Ev _ _ _ (15, [(0, .ref 16), (1, .int x1), (2, .int x2)], [.int 1], hh) _
            refine st_ifc (b := true) rfl (by decide) ?_
            show Ev _ _ _ (21, _, _, _) _
            refine sp_bipush (p2 := 23) (x := 10) rfl rfl (by decide) ?_
            refine sp_aload_n (p2 := 24) rfl rfl rfl ?_
            refine st_get rfl hh_0 rfl ?_
            show Ev _ _ _ (27, _, _, _) _
            refine st_get rfl hh_23 rfl ?_
            show Ev _ _ _ (30, _, _, _) _
            refine sp_imul (p2 := 31) (z := 0) rfl rfl (by decide) ?_
            refine sp_aload_n (p2 := 32) rfl rfl rfl ?_
            refine st_get rfl hh_0 rfl ?_
            show Ev _ _ _ (35, _, _, _) _
            refine st_get rfl hh_23 rfl ?_
            show Ev _ _ _ (38, _, _, _) _
            refine sp_iadd (p2 := 39) (z := 0) rfl rfl (by decide) ?_
            refine sp_istore_n (p2 := 40) (lv2 := [(3, .int 0), (0, .ref 16), (1, .int x1), (2, .int x2)]) rfl rfl (by decide) rfl ?_
            refine sp_aload_n (p2 := 41) rfl rfl rfl ?_
            refine st_get rfl hh_0 rfl ?_
            show Ev _ _ _ (44, _, _, _) _
            refine sp_iload_n (p2 := 45) rfl rfl rfl ?_
            refine st_put (i := 23) rfl rfl hh_23 rfl rfl (Nat.le_of_ble_eq_true rfl) ?_
            show Ev _ _ _ (48, [(3, .int 0), (0, .ref 16), (1, .int x1), (2, .int x2)], [], (hh.set 23 (.inr (9, [.int 0, .int x1, .int 0, .int 0, .int 0, .ref 40, .ref 41, .ref 42, .ref 43, .ref 44, .ref 45, .ref 46, .ref 47, .ref 48, .ref 49, .ref 50, .ref 51, .ref 52])))) _
            refine sp_aload_n (p2 := 49) rfl rfl rfl ?_
            refine st_get rfl (ob_ne (by decide) hh_0) rfl ?_
            show Ev _ _ _ (52, _, _, _) _
            refine sp_iload_n (p2 := 53) rfl rfl rfl ?_
            refine st_put (i := 23) rfl rfl (ob_eq2 hh_len (by decide)) rfl rfl (Nat.le_of_ble_eq_true rfl) ?_
            show Ev _ _ _ (56, [(3, .int 0), (0, .ref 16), (1, .int x1), (2, .int x2)], [], ((hh.set 23 (.inr (9, [.int 0, .int x1, .int 0, .int 0, .int 0, .ref 40, .ref 41, .ref 42, .ref 43, .ref 44, .ref 45, .ref 46, .ref 47, .ref 48, .ref 49, .ref 50, .ref 51, .ref 52]))).set 23 (.inr (9, [.int 0, .int x1, .int x2, .int 0, .int 0, .ref 40, .ref 41, .ref 42, .ref 43, .ref 44, .ref 45, .ref 46, .ref 47, .ref 48, .ref 49, .ref 50, .ref 51, .ref 52])))) _
            refine sp_iload_n (p2 := 57) rfl rfl rfl ?_
            exact sp_iret rfl rfl
          · refine ca_of (d := 19) (M := mX12_weather) rfl (Nat.le_of_ble_eq_true rfl) ?_
            show Ev im_K0 19 mX12_weather (0, [(0, .ref 164), (1, .int x1), (2, .int x2)], [], ((hh.set 23 (.inr (9, [.int 0, .int x1, .int 0, .int 0, .int 0, .ref 40, .ref 41, .ref 42, .ref 43, .ref 44, .ref 45, .ref 46, .ref 47, .ref 48, .ref 49, .ref 50, .ref 51, .ref 52]))).set 23 (.inr (9, [.int 0, .int x1, .int x2, .int 0, .int 0, .ref 40, .ref 41, .ref 42, .ref 43, .ref 44, .ref 45, .ref 46, .ref 47, .ref 48, .ref 49, .ref 50, .ref 51, .ref 52])))) _
            refine sp_iload_n (p2 := 1) rfl rfl rfl ?_
            refine sp_iconst (p2 := 2) (x := 0) rfl rfl (by decide) ?_
            refine sp_bipush (p2 := 4) (x := 9) rfl rfl (by decide) ?_
            refine st_callS rfl rfl rfl (cl_in_T (a := 0) (b := 9) rfl rfl (by omega)) ?_
            show Ev _ _ _ (7, [(0, .ref 164), (1, .int x1), (2, .int x2)], [.int 1], ((hh.set 23 (.inr (9, [.int 0, .int x1, .int 0, .int 0, .int 0, .ref 40, .ref 41, .ref 42, .ref 43, .ref 44, .ref 45, .ref 46, .ref 47, .ref 48, .ref 49, .ref 50, .ref 51, .ref 52]))).set 23 (.inr (9, [.int 0, .int x1, .int x2, .int 0, .int 0, .ref 40, .ref 41, .ref 42, .ref 43, .ref 44, .ref 45, .ref 46, .ref 47, .ref 48, .ref 49, .ref 50, .ref 51, .ref 52])))) _
            refine st_ifc (b := false) rfl (by decide) ?_
            show Ev _ _ _ (10, _, _, _) _
            refine sp_iload_n (p2 := 11) rfl rfl rfl ?_
            refine sp_iconst (p2 := 12) (x := 0) rfl rfl (by decide) ?_
            refine sp_bipush (p2 := 14) (x := 9) rfl rfl (by decide) ?_
            refine st_callS rfl rfl rfl (cl_in_T (a := 0) (b := 9) rfl rfl (by omega)) ?_
            show Ev _ _ _ (17, [(0, .ref 164), (1, .int x1), (2, .int x2)], [.int 1], ((hh.set 23 (.inr (9, [.int 0, .int x1, .int 0, .int 0, .int 0, .ref 40, .ref 41, .ref 42, .ref 43, .ref 44, .ref 45, .ref 46, .ref 47, .ref 48, .ref 49, .ref 50, .ref 51, .ref 52]))).set 23 (.inr (9, [.int 0, .int x1, .int x2, .int 0, .int 0, .ref 40, .ref 41, .ref 42, .ref 43, .ref 44, .ref 45, .ref 46, .ref 47, .ref 48, .ref 49, .ref 50, .ref 51, .ref 52])))) _
            refine st_ifc (b := true) rfl (by decide) ?_
            show Ev _ _ _ (23, _, _, _) _
            refine sp_bipush (p2 := 25) (x := 10) rfl rfl (by decide) ?_
            refine sp_aload_n (p2 := 26) rfl rfl rfl ?_
            refine st_get rfl (ob_ne (by decide) (ob_ne (by decide) hh_148)) rfl ?_
            show Ev _ _ _ (29, _, _, _) _
            refine sp_bipush (p2 := 31) (x := 106) rfl rfl (by decide) ?_
            refine st_iald (x := 0) rfl (by decide) (ia_ne (by decide) (ia_ne (by decide) hh_149)) rfl rfl ?_
            show Ev _ _ _ (32, _, _, _) _
            refine sp_imul (p2 := 33) (z := 0) rfl rfl (by decide) ?_
            refine sp_aload_n (p2 := 34) rfl rfl rfl ?_
            refine st_get rfl (ob_ne (by decide) (ob_ne (by decide) hh_148)) rfl ?_
            show Ev _ _ _ (37, _, _, _) _
            refine sp_bipush (p2 := 39) (x := 107) rfl rfl (by decide) ?_
            refine st_iald (x := 0) rfl (by decide) (ia_ne (by decide) (ia_ne (by decide) hh_149)) rfl rfl ?_
            show Ev _ _ _ (40, _, _, _) _
            refine sp_iadd (p2 := 41) (z := 0) rfl rfl (by decide) ?_
            refine sp_istore_n (p2 := 42) (lv2 := [(3, .int 0), (0, .ref 164), (1, .int x1), (2, .int x2)]) rfl rfl (by decide) rfl ?_
            refine sp_aload_n (p2 := 43) rfl rfl rfl ?_
            refine st_get rfl (ob_ne (by decide) (ob_ne (by decide) hh_148)) rfl ?_
            show Ev _ _ _ (46, _, _, _) _
            refine sp_bipush (p2 := 48) (x := 106) rfl rfl (by decide) ?_
            refine sp_iload_n (p2 := 49) rfl rfl rfl ?_
            refine st_iast (i := 149) rfl rfl (ia_ne (by decide) (ia_ne (by decide) hh_149)) rfl ?_
            show Ev _ _ _ (50, [(3, .int 0), (0, .ref 164), (1, .int x1), (2, .int x2)], [], (((hh.set 23 (.inr (9, [.int 0, .int x1, .int 0, .int 0, .int 0, .ref 40, .ref 41, .ref 42, .ref 43, .ref 44, .ref 45, .ref 46, .ref 47, .ref 48, .ref 49, .ref 50, .ref 51, .ref 52]))).set 23 (.inr (9, [.int 0, .int x1, .int x2, .int 0, .int 0, .ref 40, .ref 41, .ref 42, .ref 43, .ref 44, .ref 45, .ref 46, .ref 47, .ref 48, .ref 49, .ref 50, .ref 51, .ref 52]))).set 149 (.inl (0, .inl ((((List.replicate 140 0 ++ (List.replicate 24 (-1) ++ (List.replicate 119 0))) : List Int32)).set 106 x1))))) _
            refine sp_aload_n (p2 := 51) rfl rfl rfl ?_
            refine st_get rfl (ob_ne (by decide) (ob_ne (by decide) (ob_ne (by decide) hh_148))) rfl ?_
            show Ev _ _ _ (54, _, _, _) _
            refine sp_bipush (p2 := 56) (x := 107) rfl rfl (by decide) ?_
            refine sp_iload_n (p2 := 57) rfl rfl rfl ?_
            refine st_iast (i := 149) rfl rfl (ia_eq2 (sl_len (sl_len hh_len)) (by decide)) rfl ?_
            show Ev _ _ _ (58, [(3, .int 0), (0, .ref 164), (1, .int x1), (2, .int x2)], [], ((((hh.set 23 (.inr (9, [.int 0, .int x1, .int 0, .int 0, .int 0, .ref 40, .ref 41, .ref 42, .ref 43, .ref 44, .ref 45, .ref 46, .ref 47, .ref 48, .ref 49, .ref 50, .ref 51, .ref 52]))).set 23 (.inr (9, [.int 0, .int x1, .int x2, .int 0, .int 0, .ref 40, .ref 41, .ref 42, .ref 43, .ref 44, .ref 45, .ref 46, .ref 47, .ref 48, .ref 49, .ref 50, .ref 51, .ref 52]))).set 149 (.inl (0, .inl ((((List.replicate 140 0 ++ (List.replicate 24 (-1) ++ (List.replicate 119 0))) : List Int32)).set 106 x1)))).set 149 (.inl (0, .inl (((((List.replicate 140 0 ++ (List.replicate 24 (-1) ++ (List.replicate 119 0))) : List Int32)).set 106 x1).set 107 x2))))) _
            refine sp_iload_n (p2 := 59) rfl rfl rfl ?_
            exact sp_iret rfl rfl
        · refine ⟨.int (-2), hh, hh, ?_, ?_⟩
          · refine ca_of (d := 19) (M := mX11_weather) rfl (Nat.le_of_ble_eq_true rfl) ?_
            show Ev im_K0 19 mX11_weather (0, [(0, .ref 16), (1, .int x1), (2, .int x2)], [], hh) _
            refine sp_iload_n (p2 := 1) rfl rfl rfl ?_
            refine sp_bipush (p2 := 3) (x := 10) rfl rfl (by decide) ?_
            refine st_callS rfl rfl rfl (cl_within_T (b := 10) rfl (by omega)) ?_
            show Ev _ _ _ (6, [(0, .ref 16), (1, .int x1), (2, .int x2)], [.int 1], hh) _
            refine st_ifc (b := false) rfl (by decide) ?_
            show Ev _ _ _ (9, _, _, _) _
            refine sp_iload_n (p2 := 10) rfl rfl rfl ?_
            refine sp_bipush (p2 := 12) (x := 10) rfl rfl (by decide) ?_
            refine st_callS rfl rfl rfl (cl_within_F (b := 10) rfl (by omega)) ?_
            show Ev _ _ _ (15, [(0, .ref 16), (1, .int x1), (2, .int x2)], [.int 0], hh) _
            refine st_ifc (b := false) rfl (by decide) ?_
            show Ev _ _ _ (18, _, _, _) _
            refine sp_bipush (p2 := 20) (x := (-2)) rfl rfl (by decide) ?_
            exact sp_iret rfl rfl
          · refine ca_of (d := 19) (M := mX12_weather) rfl (Nat.le_of_ble_eq_true rfl) ?_
            show Ev im_K0 19 mX12_weather (0, [(0, .ref 164), (1, .int x1), (2, .int x2)], [], hh) _
            refine sp_iload_n (p2 := 1) rfl rfl rfl ?_
            refine sp_iconst (p2 := 2) (x := 0) rfl rfl (by decide) ?_
            refine sp_bipush (p2 := 4) (x := 9) rfl rfl (by decide) ?_
            refine st_callS rfl rfl rfl (cl_in_T (a := 0) (b := 9) rfl rfl (by omega)) ?_
            show Ev _ _ _ (7, [(0, .ref 164), (1, .int x1), (2, .int x2)], [.int 1], hh) _
            refine st_ifc (b := false) rfl (by decide) ?_
            show Ev _ _ _ (10, _, _, _) _
            refine sp_iload_n (p2 := 11) rfl rfl rfl ?_
            refine sp_iconst (p2 := 12) (x := 0) rfl rfl (by decide) ?_
            refine sp_bipush (p2 := 14) (x := 9) rfl rfl (by decide) ?_
            refine st_callS rfl rfl rfl (cl_in_F (a := 0) (b := 9) rfl rfl (by omega)) ?_
            show Ev _ _ _ (17, [(0, .ref 164), (1, .int x1), (2, .int x2)], [.int 0], hh) _
            refine st_ifc (b := false) rfl (by decide) ?_
            show Ev _ _ _ (20, _, _, _) _
            refine sp_bipush (p2 := 22) (x := (-2)) rfl rfl (by decide) ?_
            exact sp_iret rfl rfl
    · refine ⟨.int (-2), hh, hh, ?_, ?_⟩
      · refine ca_of (d := 19) (M := mX11_weather) rfl (Nat.le_of_ble_eq_true rfl) ?_
        show Ev im_K0 19 mX11_weather (0, [(0, .ref 16), (1, .int x1), (2, .int x2)], [], hh) _
        refine sp_iload_n (p2 := 1) rfl rfl rfl ?_
        refine sp_bipush (p2 := 3) (x := 10) rfl rfl (by decide) ?_
        refine st_callS rfl rfl rfl (cl_within_F (b := 10) rfl (by omega)) ?_
        show Ev _ _ _ (6, [(0, .ref 16), (1, .int x1), (2, .int x2)], [.int 0], hh) _
        refine st_ifc (b := true) rfl (by decide) ?_
        show Ev _ _ _ (18, _, _, _) _
        refine sp_bipush (p2 := 20) (x := (-2)) rfl rfl (by decide) ?_
        exact sp_iret rfl rfl
      · refine ca_of (d := 19) (M := mX12_weather) rfl (Nat.le_of_ble_eq_true rfl) ?_
        show Ev im_K0 19 mX12_weather (0, [(0, .ref 164), (1, .int x1), (2, .int x2)], [], hh) _
        refine sp_iload_n (p2 := 1) rfl rfl rfl ?_
        refine sp_iconst (p2 := 2) (x := 0) rfl rfl (by decide) ?_
        refine sp_bipush (p2 := 4) (x := 9) rfl rfl (by decide) ?_
        refine st_callS rfl rfl rfl (cl_in_F (a := 0) (b := 9) rfl rfl (by omega)) ?_
        show Ev _ _ _ (7, [(0, .ref 164), (1, .int x1), (2, .int x2)], [.int 0], hh) _
        refine st_ifc (b := true) rfl (by decide) ?_
        show Ev _ _ _ (20, _, _, _) _
        refine sp_bipush (p2 := 22) (x := (-2)) rfl rfl (by decide) ?_
        exact sp_iret rfl rfl
set_option maxRecDepth 10000 in
set_option maxHeartbeats 4000000 in
theorem q_row (x1 x2 x3 x4 : Int32) : ∃ (v : Value) (h1 h2 : im_H), Ca 20 67 [.ref 16, .int x1, .int x2, .int x3, .int x4] hh (some v, h1) ∧ Ca 20 131 [.ref 164, .int x1, .int x2, .int x3, .int x4] h1 (some v, h2) := by
  by_cases h1 : x1.toInt ≤ (-1)
  · refine ⟨.int (-1), hh, hh, ?_, ?_⟩
    · refine ca_of (d := 19) (M := mX11_row) rfl (Nat.le_of_ble_eq_true rfl) ?_
      show Ev im_K0 19 mX11_row (0, [(0, .ref 16), (1, .int x1), (2, .int x2), (3, .int x3), (4, .int x4)], [], hh) _
      refine sp_iload_n (p2 := 1) rfl rfl rfl ?_
      refine sp_iconst (p2 := 2) (x := 4) rfl rfl (by decide) ?_
      refine st_callS rfl rfl rfl (cl_within_F (b := 4) rfl (by omega)) ?_
      show Ev _ _ _ (5, [(0, .ref 16), (1, .int x1), (2, .int x2), (3, .int x3), (4, .int x4)], [.int 0], hh) _
      refine st_ifc (b := true) rfl (by decide) ?_
      show Ev _ _ _ (35, _, _, _) _
      refine sp_iconst (p2 := 36) (x := (-1)) rfl rfl (by decide) ?_
      exact sp_iret rfl rfl
    · refine ca_of (d := 19) (M := mX12_row) rfl (Nat.le_of_ble_eq_true rfl) ?_
      show Ev im_K0 19 mX12_row (0, [(0, .ref 164), (1, .int x1), (2, .int x2), (3, .int x3), (4, .int x4)], [], hh) _
      refine sp_iload_n (p2 := 1) rfl rfl rfl ?_
      refine sp_iconst (p2 := 2) (x := 0) rfl rfl (by decide) ?_
      refine sp_iconst (p2 := 3) (x := 3) rfl rfl (by decide) ?_
      refine st_callS rfl rfl rfl (cl_in_F (a := 0) (b := 3) rfl rfl (by omega)) ?_
      show Ev _ _ _ (6, [(0, .ref 164), (1, .int x1), (2, .int x2), (3, .int x3), (4, .int x4)], [.int 0], hh) _
      refine st_ifc (b := true) rfl (by decide) ?_
      show Ev _ _ _ (33, _, _, _) _
      refine sp_iconst (p2 := 34) (x := (-1)) rfl rfl (by decide) ?_
      exact sp_iret rfl rfl
  · by_cases h2 : x1.toInt ≤ 3
    · by_cases h3 : x2.toInt ≤ (-1)
      · refine ⟨.int (-1), hh, hh, ?_, ?_⟩
        · refine ca_of (d := 19) (M := mX11_row) rfl (Nat.le_of_ble_eq_true rfl) ?_
          show Ev im_K0 19 mX11_row (0, [(0, .ref 16), (1, .int x1), (2, .int x2), (3, .int x3), (4, .int x4)], [], hh) _
          refine sp_iload_n (p2 := 1) rfl rfl rfl ?_
          refine sp_iconst (p2 := 2) (x := 4) rfl rfl (by decide) ?_
          refine st_callS rfl rfl rfl (cl_within_T (b := 4) rfl (by omega)) ?_
          show Ev _ _ _ (5, [(0, .ref 16), (1, .int x1), (2, .int x2), (3, .int x3), (4, .int x4)], [.int 1], hh) _
          refine st_ifc (b := false) rfl (by decide) ?_
          show Ev _ _ _ (8, _, _, _) _
          refine sp_iload_n (p2 := 9) rfl rfl rfl ?_
          refine sp_iconst (p2 := 10) (x := 4) rfl rfl (by decide) ?_
          refine st_callS rfl rfl rfl (cl_within_F (b := 4) rfl (by omega)) ?_
          show Ev _ _ _ (13, [(0, .ref 16), (1, .int x1), (2, .int x2), (3, .int x3), (4, .int x4)], [.int 0], hh) _
          refine st_ifc (b := true) rfl (by decide) ?_
          show Ev _ _ _ (35, _, _, _) _
          refine sp_iconst (p2 := 36) (x := (-1)) rfl rfl (by decide) ?_
          exact sp_iret rfl rfl
        · refine ca_of (d := 19) (M := mX12_row) rfl (Nat.le_of_ble_eq_true rfl) ?_
          show Ev im_K0 19 mX12_row (0, [(0, .ref 164), (1, .int x1), (2, .int x2), (3, .int x3), (4, .int x4)], [], hh) _
          refine sp_iload_n (p2 := 1) rfl rfl rfl ?_
          refine sp_iconst (p2 := 2) (x := 0) rfl rfl (by decide) ?_
          refine sp_iconst (p2 := 3) (x := 3) rfl rfl (by decide) ?_
          refine st_callS rfl rfl rfl (cl_in_T (a := 0) (b := 3) rfl rfl (by omega)) ?_
          show Ev _ _ _ (6, [(0, .ref 164), (1, .int x1), (2, .int x2), (3, .int x3), (4, .int x4)], [.int 1], hh) _
          refine st_ifc (b := false) rfl (by decide) ?_
          show Ev _ _ _ (9, _, _, _) _
          refine sp_iload_n (p2 := 10) rfl rfl rfl ?_
          refine sp_iconst (p2 := 11) (x := 0) rfl rfl (by decide) ?_
          refine sp_iconst (p2 := 12) (x := 3) rfl rfl (by decide) ?_
          refine st_callS rfl rfl rfl (cl_in_F (a := 0) (b := 3) rfl rfl (by omega)) ?_
          show Ev _ _ _ (15, [(0, .ref 164), (1, .int x1), (2, .int x2), (3, .int x3), (4, .int x4)], [.int 0], hh) _
          refine st_ifc (b := true) rfl (by decide) ?_
          show Ev _ _ _ (33, _, _, _) _
          refine sp_iconst (p2 := 34) (x := (-1)) rfl rfl (by decide) ?_
          exact sp_iret rfl rfl
      · by_cases h4 : x2.toInt ≤ 3
        · by_cases h5 : x3.toInt ≤ (-1)
          · refine ⟨.int (-1), hh, hh, ?_, ?_⟩
            · refine ca_of (d := 19) (M := mX11_row) rfl (Nat.le_of_ble_eq_true rfl) ?_
              show Ev im_K0 19 mX11_row (0, [(0, .ref 16), (1, .int x1), (2, .int x2), (3, .int x3), (4, .int x4)], [], hh) _
              refine sp_iload_n (p2 := 1) rfl rfl rfl ?_
              refine sp_iconst (p2 := 2) (x := 4) rfl rfl (by decide) ?_
              refine st_callS rfl rfl rfl (cl_within_T (b := 4) rfl (by omega)) ?_
              show Ev _ _ _ (5, [(0, .ref 16), (1, .int x1), (2, .int x2), (3, .int x3), (4, .int x4)], [.int 1], hh) _
              refine st_ifc (b := false) rfl (by decide) ?_
              show Ev _ _ _ (8, _, _, _) _
              refine sp_iload_n (p2 := 9) rfl rfl rfl ?_
              refine sp_iconst (p2 := 10) (x := 4) rfl rfl (by decide) ?_
              refine st_callS rfl rfl rfl (cl_within_T (b := 4) rfl (by omega)) ?_
              show Ev _ _ _ (13, [(0, .ref 16), (1, .int x1), (2, .int x2), (3, .int x3), (4, .int x4)], [.int 1], hh) _
              refine st_ifc (b := false) rfl (by decide) ?_
              show Ev _ _ _ (16, _, _, _) _
              refine sp_iload_n (p2 := 17) rfl rfl rfl ?_
              refine sp_bipush (p2 := 19) (x := 100) rfl rfl (by decide) ?_
              refine st_callS rfl rfl rfl (cl_within_F (b := 100) rfl (by omega)) ?_
              show Ev _ _ _ (22, [(0, .ref 16), (1, .int x1), (2, .int x2), (3, .int x3), (4, .int x4)], [.int 0], hh) _
              refine st_ifc (b := true) rfl (by decide) ?_
              show Ev _ _ _ (35, _, _, _) _
              refine sp_iconst (p2 := 36) (x := (-1)) rfl rfl (by decide) ?_
              exact sp_iret rfl rfl
            · refine ca_of (d := 19) (M := mX12_row) rfl (Nat.le_of_ble_eq_true rfl) ?_
              show Ev im_K0 19 mX12_row (0, [(0, .ref 164), (1, .int x1), (2, .int x2), (3, .int x3), (4, .int x4)], [], hh) _
              refine sp_iload_n (p2 := 1) rfl rfl rfl ?_
              refine sp_iconst (p2 := 2) (x := 0) rfl rfl (by decide) ?_
              refine sp_iconst (p2 := 3) (x := 3) rfl rfl (by decide) ?_
              refine st_callS rfl rfl rfl (cl_in_T (a := 0) (b := 3) rfl rfl (by omega)) ?_
              show Ev _ _ _ (6, [(0, .ref 164), (1, .int x1), (2, .int x2), (3, .int x3), (4, .int x4)], [.int 1], hh) _
              refine st_ifc (b := false) rfl (by decide) ?_
              show Ev _ _ _ (9, _, _, _) _
              refine sp_iload_n (p2 := 10) rfl rfl rfl ?_
              refine sp_iconst (p2 := 11) (x := 0) rfl rfl (by decide) ?_
              refine sp_iconst (p2 := 12) (x := 3) rfl rfl (by decide) ?_
              refine st_callS rfl rfl rfl (cl_in_T (a := 0) (b := 3) rfl rfl (by omega)) ?_
              show Ev _ _ _ (15, [(0, .ref 164), (1, .int x1), (2, .int x2), (3, .int x3), (4, .int x4)], [.int 1], hh) _
              refine st_ifc (b := false) rfl (by decide) ?_
              show Ev _ _ _ (18, _, _, _) _
              refine sp_iload_n (p2 := 19) rfl rfl rfl ?_
              refine st_callS rfl rfl rfl (cl_isCell_F (by omega)) ?_
              show Ev _ _ _ (22, [(0, .ref 164), (1, .int x1), (2, .int x2), (3, .int x3), (4, .int x4)], [.int 0], hh) _
              refine st_ifc (b := true) rfl (by decide) ?_
              show Ev _ _ _ (33, _, _, _) _
              refine sp_iconst (p2 := 34) (x := (-1)) rfl rfl (by decide) ?_
              exact sp_iret rfl rfl
          · by_cases h6 : x3.toInt ≤ 99
            · by_cases h7 : x4.toInt ≤ (-1)
              · refine ⟨.int (-1), hh, hh, ?_, ?_⟩
                · refine ca_of (d := 19) (M := mX11_row) rfl (Nat.le_of_ble_eq_true rfl) ?_
                  show Ev im_K0 19 mX11_row (0, [(0, .ref 16), (1, .int x1), (2, .int x2), (3, .int x3), (4, .int x4)], [], hh) _
                  refine sp_iload_n (p2 := 1) rfl rfl rfl ?_
                  refine sp_iconst (p2 := 2) (x := 4) rfl rfl (by decide) ?_
                  refine st_callS rfl rfl rfl (cl_within_T (b := 4) rfl (by omega)) ?_
                  show Ev _ _ _ (5, [(0, .ref 16), (1, .int x1), (2, .int x2), (3, .int x3), (4, .int x4)], [.int 1], hh) _
                  refine st_ifc (b := false) rfl (by decide) ?_
                  show Ev _ _ _ (8, _, _, _) _
                  refine sp_iload_n (p2 := 9) rfl rfl rfl ?_
                  refine sp_iconst (p2 := 10) (x := 4) rfl rfl (by decide) ?_
                  refine st_callS rfl rfl rfl (cl_within_T (b := 4) rfl (by omega)) ?_
                  show Ev _ _ _ (13, [(0, .ref 16), (1, .int x1), (2, .int x2), (3, .int x3), (4, .int x4)], [.int 1], hh) _
                  refine st_ifc (b := false) rfl (by decide) ?_
                  show Ev _ _ _ (16, _, _, _) _
                  refine sp_iload_n (p2 := 17) rfl rfl rfl ?_
                  refine sp_bipush (p2 := 19) (x := 100) rfl rfl (by decide) ?_
                  refine st_callS rfl rfl rfl (cl_within_T (b := 100) rfl (by omega)) ?_
                  show Ev _ _ _ (22, [(0, .ref 16), (1, .int x1), (2, .int x2), (3, .int x3), (4, .int x4)], [.int 1], hh) _
                  refine st_ifc (b := false) rfl (by decide) ?_
                  show Ev _ _ _ (25, _, _, _) _
                  refine sp_iload (p2 := 27) rfl rfl rfl ?_
                  refine sp_bipush (p2 := 29) (x := 100) rfl rfl (by decide) ?_
                  refine st_callS rfl rfl rfl (cl_within_F (b := 100) rfl (by omega)) ?_
                  show Ev _ _ _ (32, [(0, .ref 16), (1, .int x1), (2, .int x2), (3, .int x3), (4, .int x4)], [.int 0], hh) _
                  refine st_ifc (b := false) rfl (by decide) ?_
                  show Ev _ _ _ (35, _, _, _) _
                  refine sp_iconst (p2 := 36) (x := (-1)) rfl rfl (by decide) ?_
                  exact sp_iret rfl rfl
                · refine ca_of (d := 19) (M := mX12_row) rfl (Nat.le_of_ble_eq_true rfl) ?_
                  show Ev im_K0 19 mX12_row (0, [(0, .ref 164), (1, .int x1), (2, .int x2), (3, .int x3), (4, .int x4)], [], hh) _
                  refine sp_iload_n (p2 := 1) rfl rfl rfl ?_
                  refine sp_iconst (p2 := 2) (x := 0) rfl rfl (by decide) ?_
                  refine sp_iconst (p2 := 3) (x := 3) rfl rfl (by decide) ?_
                  refine st_callS rfl rfl rfl (cl_in_T (a := 0) (b := 3) rfl rfl (by omega)) ?_
                  show Ev _ _ _ (6, [(0, .ref 164), (1, .int x1), (2, .int x2), (3, .int x3), (4, .int x4)], [.int 1], hh) _
                  refine st_ifc (b := false) rfl (by decide) ?_
                  show Ev _ _ _ (9, _, _, _) _
                  refine sp_iload_n (p2 := 10) rfl rfl rfl ?_
                  refine sp_iconst (p2 := 11) (x := 0) rfl rfl (by decide) ?_
                  refine sp_iconst (p2 := 12) (x := 3) rfl rfl (by decide) ?_
                  refine st_callS rfl rfl rfl (cl_in_T (a := 0) (b := 3) rfl rfl (by omega)) ?_
                  show Ev _ _ _ (15, [(0, .ref 164), (1, .int x1), (2, .int x2), (3, .int x3), (4, .int x4)], [.int 1], hh) _
                  refine st_ifc (b := false) rfl (by decide) ?_
                  show Ev _ _ _ (18, _, _, _) _
                  refine sp_iload_n (p2 := 19) rfl rfl rfl ?_
                  refine st_callS rfl rfl rfl (cl_isCell_T (by omega)) ?_
                  show Ev _ _ _ (22, [(0, .ref 164), (1, .int x1), (2, .int x2), (3, .int x3), (4, .int x4)], [.int 1], hh) _
                  refine st_ifc (b := false) rfl (by decide) ?_
                  show Ev _ _ _ (25, _, _, _) _
                  refine sp_iload (p2 := 27) rfl rfl rfl ?_
                  refine st_callS rfl rfl rfl (cl_isCell_F (by omega)) ?_
                  show Ev _ _ _ (30, [(0, .ref 164), (1, .int x1), (2, .int x2), (3, .int x3), (4, .int x4)], [.int 0], hh) _
                  refine st_ifc (b := false) rfl (by decide) ?_
                  show Ev _ _ _ (33, _, _, _) _
                  refine sp_iconst (p2 := 34) (x := (-1)) rfl rfl (by decide) ?_
                  exact sp_iret rfl rfl
              · by_cases h8 : x4.toInt ≤ 99
                · by_cases h9 : x2.toInt ≤ 0
                  · obtain rfl : x2 = 0 := i32_ext (by have e9 : Int32.toInt 0 = 0 := rfl; omega)
                    refine ⟨.int (-11), hh, hh, ?_, ?_⟩
                    · refine ca_of (d := 19) (M := mX11_row) rfl (Nat.le_of_ble_eq_true rfl) ?_
                      show Ev im_K0 19 mX11_row (0, [(0, .ref 16), (1, .int x1), (2, .int 0), (3, .int x3), (4, .int x4)], [], hh) _
                      refine sp_iload_n (p2 := 1) rfl rfl rfl ?_
                      refine sp_iconst (p2 := 2) (x := 4) rfl rfl (by decide) ?_
                      refine st_callS rfl rfl rfl (cl_within_T (b := 4) rfl (by omega)) ?_
                      show Ev _ _ _ (5, [(0, .ref 16), (1, .int x1), (2, .int 0), (3, .int x3), (4, .int x4)], [.int 1], hh) _
                      refine st_ifc (b := false) rfl (by decide) ?_
                      show Ev _ _ _ (8, _, _, _) _
                      refine sp_iload_n (p2 := 9) rfl rfl rfl ?_
                      refine sp_iconst (p2 := 10) (x := 4) rfl rfl (by decide) ?_
                      refine st_callS rfl rfl rfl (cl_within_T (n := 0) (b := 4) (show Int32.toInt _ = _ from rfl) (by have e9 : Int32.toInt 0 = 0 := rfl; omega)) ?_
                      show Ev _ _ _ (13, [(0, .ref 16), (1, .int x1), (2, .int 0), (3, .int x3), (4, .int x4)], [.int 1], hh) _
                      refine st_ifc (b := false) rfl (by decide) ?_
                      show Ev _ _ _ (16, _, _, _) _
                      refine sp_iload_n (p2 := 17) rfl rfl rfl ?_
                      refine sp_bipush (p2 := 19) (x := 100) rfl rfl (by decide) ?_
                      refine st_callS rfl rfl rfl (cl_within_T (b := 100) rfl (by omega)) ?_
                      show Ev _ _ _ (22, [(0, .ref 16), (1, .int x1), (2, .int 0), (3, .int x3), (4, .int x4)], [.int 1], hh) _
                      refine st_ifc (b := false) rfl (by decide) ?_
                      show Ev _ _ _ (25, _, _, _) _
                      refine sp_iload (p2 := 27) rfl rfl rfl ?_
                      refine sp_bipush (p2 := 29) (x := 100) rfl rfl (by decide) ?_
                      refine st_callS rfl rfl rfl (cl_within_T (b := 100) rfl (by omega)) ?_
                      show Ev _ _ _ (32, [(0, .ref 16), (1, .int x1), (2, .int 0), (3, .int x3), (4, .int x4)], [.int 1], hh) _
                      refine st_ifc (b := true) rfl (by decide) ?_
                      show Ev _ _ _ (37, _, _, _) _
                      refine sp_aload_n (p2 := 38) rfl rfl rfl ?_
                      refine st_get rfl hh_0 rfl ?_
                      show Ev _ _ _ (41, _, _, _) _
                      refine sp_iload_n (p2 := 42) rfl rfl rfl ?_
                      refine st_aald (v := .ref 156) rfl hh_97 (by decide) rfl ?_
                      show Ev _ _ _ (43, _, _, _) _
                      refine sp_astore (p2 := 45) (lv2 := [(5, .ref 156), (0, .ref 16), (1, .int x1), (2, .int 0), (3, .int x3), (4, .int x4)]) rfl rfl (by decide) rfl ?_
                      refine sp_aload (p2 := 47) rfl rfl rfl ?_
                      have c1 : Ca 19 41 [.ref 156] hh (some (.int 1), hh) := by
                        refine ca_of (d := 18) (M := mX8_isMissing) rfl (Nat.le_of_ble_eq_true rfl) ?_
                        show Ev im_K0 18 mX8_isMissing (0, [(0, .ref 156)], [], hh) _
                        refine sp_aload_n (p2 := 1) rfl rfl rfl ?_
                        refine st_get rfl hh_140 rfl ?_
                        show Ev _ _ _ (4, _, _, _) _
                        refine sp_iconst (p2 := 5) (x := (-1)) rfl rfl (by decide) ?_
                        refine st_icmp (b := false) rfl (by decide) ?_
                        show Ev _ _ _ (8, _, _, _) _
                        refine sp_iconst (p2 := 9) (x := 1) rfl rfl (by decide) ?_
                        refine sp_goto rfl ?_
                        exact sp_zret rfl rfl (by decide)
                      refine st_callV (R := 156) rfl rfl rfl hh_140 rfl c1 ?_
                      show Ev _ _ _ (50, [(5, .ref 156), (0, .ref 16), (1, .int x1), (2, .int 0), (3, .int x3), (4, .int x4)], [.int 1], hh) _
                      refine st_ifc (b := false) rfl (by decide) ?_
                      show Ev _ _ _ (53, _, _, _) _
                      refine sp_bipush (p2 := 55) (x := (-11)) rfl rfl (by decide) ?_
                      exact sp_iret rfl rfl
                    · refine ca_of (d := 19) (M := mX12_row) rfl (Nat.le_of_ble_eq_true rfl) ?_
                      show Ev im_K0 19 mX12_row (0, [(0, .ref 164), (1, .int x1), (2, .int 0), (3, .int x3), (4, .int x4)], [], hh) _
                      refine sp_iload_n (p2 := 1) rfl rfl rfl ?_
                      refine sp_iconst (p2 := 2) (x := 0) rfl rfl (by decide) ?_
                      refine sp_iconst (p2 := 3) (x := 3) rfl rfl (by decide) ?_
                      refine st_callS rfl rfl rfl (cl_in_T (a := 0) (b := 3) rfl rfl (by omega)) ?_
                      show Ev _ _ _ (6, [(0, .ref 164), (1, .int x1), (2, .int 0), (3, .int x3), (4, .int x4)], [.int 1], hh) _
                      refine st_ifc (b := false) rfl (by decide) ?_
                      show Ev _ _ _ (9, _, _, _) _
                      refine sp_iload_n (p2 := 10) rfl rfl rfl ?_
                      refine sp_iconst (p2 := 11) (x := 0) rfl rfl (by decide) ?_
                      refine sp_iconst (p2 := 12) (x := 3) rfl rfl (by decide) ?_
                      refine st_callS rfl rfl rfl (cl_in_T (n := 0) (a := 0) (b := 3) (show Int32.toInt _ = _ from rfl) (show Int32.toInt _ = _ from rfl) (by have e9 : Int32.toInt 0 = 0 := rfl; omega)) ?_
                      show Ev _ _ _ (15, [(0, .ref 164), (1, .int x1), (2, .int 0), (3, .int x3), (4, .int x4)], [.int 1], hh) _
                      refine st_ifc (b := false) rfl (by decide) ?_
                      show Ev _ _ _ (18, _, _, _) _
                      refine sp_iload_n (p2 := 19) rfl rfl rfl ?_
                      refine st_callS rfl rfl rfl (cl_isCell_T (by omega)) ?_
                      show Ev _ _ _ (22, [(0, .ref 164), (1, .int x1), (2, .int 0), (3, .int x3), (4, .int x4)], [.int 1], hh) _
                      refine st_ifc (b := false) rfl (by decide) ?_
                      show Ev _ _ _ (25, _, _, _) _
                      refine sp_iload (p2 := 27) rfl rfl rfl ?_
                      refine st_callS rfl rfl rfl (cl_isCell_T (by omega)) ?_
                      show Ev _ _ _ (30, [(0, .ref 164), (1, .int x1), (2, .int 0), (3, .int x3), (4, .int x4)], [.int 1], hh) _
                      refine st_ifc (b := true) rfl (by decide) ?_
                      show Ev _ _ _ (35, _, _, _) _
                      refine sp_aload_n (p2 := 36) rfl rfl rfl ?_
                      refine st_get rfl hh_148 rfl ?_
                      show Ev _ _ _ (39, _, _, _) _
                      refine sp_iload_n (p2 := 40) rfl rfl rfl ?_
                      refine st_iald (x := (-1)) rfl (by decide) hh_192 rfl rfl ?_
                      show Ev _ _ _ (41, _, _, _) _
                      refine sp_iconst (p2 := 42) (x := (-1)) rfl rfl (by decide) ?_
                      refine st_icmp (b := false) rfl (by decide) ?_
                      show Ev _ _ _ (45, _, _, _) _
                      refine sp_bipush (p2 := 47) (x := (-11)) rfl rfl (by decide) ?_
                      exact sp_iret rfl rfl
                  · by_cases h10 : x2.toInt ≤ 1
                    · obtain rfl : x2 = 1 := i32_ext (by have e9 : Int32.toInt 1 = 1 := rfl; omega)
                      refine ⟨.int (-11), hh, hh, ?_, ?_⟩
                      · refine ca_of (d := 19) (M := mX11_row) rfl (Nat.le_of_ble_eq_true rfl) ?_
                        show Ev im_K0 19 mX11_row (0, [(0, .ref 16), (1, .int x1), (2, .int 1), (3, .int x3), (4, .int x4)], [], hh) _
                        refine sp_iload_n (p2 := 1) rfl rfl rfl ?_
                        refine sp_iconst (p2 := 2) (x := 4) rfl rfl (by decide) ?_
                        refine st_callS rfl rfl rfl (cl_within_T (b := 4) rfl (by omega)) ?_
                        show Ev _ _ _ (5, [(0, .ref 16), (1, .int x1), (2, .int 1), (3, .int x3), (4, .int x4)], [.int 1], hh) _
                        refine st_ifc (b := false) rfl (by decide) ?_
                        show Ev _ _ _ (8, _, _, _) _
                        refine sp_iload_n (p2 := 9) rfl rfl rfl ?_
                        refine sp_iconst (p2 := 10) (x := 4) rfl rfl (by decide) ?_
                        refine st_callS rfl rfl rfl (cl_within_T (n := 1) (b := 4) (show Int32.toInt _ = _ from rfl) (by have e9 : Int32.toInt 1 = 1 := rfl; omega)) ?_
                        show Ev _ _ _ (13, [(0, .ref 16), (1, .int x1), (2, .int 1), (3, .int x3), (4, .int x4)], [.int 1], hh) _
                        refine st_ifc (b := false) rfl (by decide) ?_
                        show Ev _ _ _ (16, _, _, _) _
                        refine sp_iload_n (p2 := 17) rfl rfl rfl ?_
                        refine sp_bipush (p2 := 19) (x := 100) rfl rfl (by decide) ?_
                        refine st_callS rfl rfl rfl (cl_within_T (b := 100) rfl (by omega)) ?_
                        show Ev _ _ _ (22, [(0, .ref 16), (1, .int x1), (2, .int 1), (3, .int x3), (4, .int x4)], [.int 1], hh) _
                        refine st_ifc (b := false) rfl (by decide) ?_
                        show Ev _ _ _ (25, _, _, _) _
                        refine sp_iload (p2 := 27) rfl rfl rfl ?_
                        refine sp_bipush (p2 := 29) (x := 100) rfl rfl (by decide) ?_
                        refine st_callS rfl rfl rfl (cl_within_T (b := 100) rfl (by omega)) ?_
                        show Ev _ _ _ (32, [(0, .ref 16), (1, .int x1), (2, .int 1), (3, .int x3), (4, .int x4)], [.int 1], hh) _
                        refine st_ifc (b := true) rfl (by decide) ?_
                        show Ev _ _ _ (37, _, _, _) _
                        refine sp_aload_n (p2 := 38) rfl rfl rfl ?_
                        refine st_get rfl hh_0 rfl ?_
                        show Ev _ _ _ (41, _, _, _) _
                        refine sp_iload_n (p2 := 42) rfl rfl rfl ?_
                        refine st_aald (v := .ref 158) rfl hh_97 (by decide) rfl ?_
                        show Ev _ _ _ (43, _, _, _) _
                        refine sp_astore (p2 := 45) (lv2 := [(5, .ref 158), (0, .ref 16), (1, .int x1), (2, .int 1), (3, .int x3), (4, .int x4)]) rfl rfl (by decide) rfl ?_
                        refine sp_aload (p2 := 47) rfl rfl rfl ?_
                        have c1 : Ca 19 41 [.ref 158] hh (some (.int 1), hh) := by
                          refine ca_of (d := 18) (M := mX8_isMissing) rfl (Nat.le_of_ble_eq_true rfl) ?_
                          show Ev im_K0 18 mX8_isMissing (0, [(0, .ref 158)], [], hh) _
                          refine sp_aload_n (p2 := 1) rfl rfl rfl ?_
                          refine st_get rfl hh_142 rfl ?_
                          show Ev _ _ _ (4, _, _, _) _
                          refine sp_iconst (p2 := 5) (x := (-1)) rfl rfl (by decide) ?_
                          refine st_icmp (b := false) rfl (by decide) ?_
                          show Ev _ _ _ (8, _, _, _) _
                          refine sp_iconst (p2 := 9) (x := 1) rfl rfl (by decide) ?_
                          refine sp_goto rfl ?_
                          exact sp_zret rfl rfl (by decide)
                        refine st_callV (R := 158) rfl rfl rfl hh_142 rfl c1 ?_
                        show Ev _ _ _ (50, [(5, .ref 158), (0, .ref 16), (1, .int x1), (2, .int 1), (3, .int x3), (4, .int x4)], [.int 1], hh) _
                        refine st_ifc (b := false) rfl (by decide) ?_
                        show Ev _ _ _ (53, _, _, _) _
                        refine sp_bipush (p2 := 55) (x := (-11)) rfl rfl (by decide) ?_
                        exact sp_iret rfl rfl
                      · refine ca_of (d := 19) (M := mX12_row) rfl (Nat.le_of_ble_eq_true rfl) ?_
                        show Ev im_K0 19 mX12_row (0, [(0, .ref 164), (1, .int x1), (2, .int 1), (3, .int x3), (4, .int x4)], [], hh) _
                        refine sp_iload_n (p2 := 1) rfl rfl rfl ?_
                        refine sp_iconst (p2 := 2) (x := 0) rfl rfl (by decide) ?_
                        refine sp_iconst (p2 := 3) (x := 3) rfl rfl (by decide) ?_
                        refine st_callS rfl rfl rfl (cl_in_T (a := 0) (b := 3) rfl rfl (by omega)) ?_
                        show Ev _ _ _ (6, [(0, .ref 164), (1, .int x1), (2, .int 1), (3, .int x3), (4, .int x4)], [.int 1], hh) _
                        refine st_ifc (b := false) rfl (by decide) ?_
                        show Ev _ _ _ (9, _, _, _) _
                        refine sp_iload_n (p2 := 10) rfl rfl rfl ?_
                        refine sp_iconst (p2 := 11) (x := 0) rfl rfl (by decide) ?_
                        refine sp_iconst (p2 := 12) (x := 3) rfl rfl (by decide) ?_
                        refine st_callS rfl rfl rfl (cl_in_T (n := 1) (a := 0) (b := 3) (show Int32.toInt _ = _ from rfl) (show Int32.toInt _ = _ from rfl) (by have e9 : Int32.toInt 1 = 1 := rfl; omega)) ?_
                        show Ev _ _ _ (15, [(0, .ref 164), (1, .int x1), (2, .int 1), (3, .int x3), (4, .int x4)], [.int 1], hh) _
                        refine st_ifc (b := false) rfl (by decide) ?_
                        show Ev _ _ _ (18, _, _, _) _
                        refine sp_iload_n (p2 := 19) rfl rfl rfl ?_
                        refine st_callS rfl rfl rfl (cl_isCell_T (by omega)) ?_
                        show Ev _ _ _ (22, [(0, .ref 164), (1, .int x1), (2, .int 1), (3, .int x3), (4, .int x4)], [.int 1], hh) _
                        refine st_ifc (b := false) rfl (by decide) ?_
                        show Ev _ _ _ (25, _, _, _) _
                        refine sp_iload (p2 := 27) rfl rfl rfl ?_
                        refine st_callS rfl rfl rfl (cl_isCell_T (by omega)) ?_
                        show Ev _ _ _ (30, [(0, .ref 164), (1, .int x1), (2, .int 1), (3, .int x3), (4, .int x4)], [.int 1], hh) _
                        refine st_ifc (b := true) rfl (by decide) ?_
                        show Ev _ _ _ (35, _, _, _) _
                        refine sp_aload_n (p2 := 36) rfl rfl rfl ?_
                        refine st_get rfl hh_148 rfl ?_
                        show Ev _ _ _ (39, _, _, _) _
                        refine sp_iload_n (p2 := 40) rfl rfl rfl ?_
                        refine st_iald (x := (-1)) rfl (by decide) hh_192 rfl rfl ?_
                        show Ev _ _ _ (41, _, _, _) _
                        refine sp_iconst (p2 := 42) (x := (-1)) rfl rfl (by decide) ?_
                        refine st_icmp (b := false) rfl (by decide) ?_
                        show Ev _ _ _ (45, _, _, _) _
                        refine sp_bipush (p2 := 47) (x := (-11)) rfl rfl (by decide) ?_
                        exact sp_iret rfl rfl
                    · by_cases h11 : x2.toInt ≤ 2
                      · obtain rfl : x2 = 2 := i32_ext (by have e9 : Int32.toInt 2 = 2 := rfl; omega)
                        refine ⟨.int (-11), hh, hh, ?_, ?_⟩
                        · refine ca_of (d := 19) (M := mX11_row) rfl (Nat.le_of_ble_eq_true rfl) ?_
                          show Ev im_K0 19 mX11_row (0, [(0, .ref 16), (1, .int x1), (2, .int 2), (3, .int x3), (4, .int x4)], [], hh) _
                          refine sp_iload_n (p2 := 1) rfl rfl rfl ?_
                          refine sp_iconst (p2 := 2) (x := 4) rfl rfl (by decide) ?_
                          refine st_callS rfl rfl rfl (cl_within_T (b := 4) rfl (by omega)) ?_
                          show Ev _ _ _ (5, [(0, .ref 16), (1, .int x1), (2, .int 2), (3, .int x3), (4, .int x4)], [.int 1], hh) _
                          refine st_ifc (b := false) rfl (by decide) ?_
                          show Ev _ _ _ (8, _, _, _) _
                          refine sp_iload_n (p2 := 9) rfl rfl rfl ?_
                          refine sp_iconst (p2 := 10) (x := 4) rfl rfl (by decide) ?_
                          refine st_callS rfl rfl rfl (cl_within_T (n := 2) (b := 4) (show Int32.toInt _ = _ from rfl) (by have e9 : Int32.toInt 2 = 2 := rfl; omega)) ?_
                          show Ev _ _ _ (13, [(0, .ref 16), (1, .int x1), (2, .int 2), (3, .int x3), (4, .int x4)], [.int 1], hh) _
                          refine st_ifc (b := false) rfl (by decide) ?_
                          show Ev _ _ _ (16, _, _, _) _
                          refine sp_iload_n (p2 := 17) rfl rfl rfl ?_
                          refine sp_bipush (p2 := 19) (x := 100) rfl rfl (by decide) ?_
                          refine st_callS rfl rfl rfl (cl_within_T (b := 100) rfl (by omega)) ?_
                          show Ev _ _ _ (22, [(0, .ref 16), (1, .int x1), (2, .int 2), (3, .int x3), (4, .int x4)], [.int 1], hh) _
                          refine st_ifc (b := false) rfl (by decide) ?_
                          show Ev _ _ _ (25, _, _, _) _
                          refine sp_iload (p2 := 27) rfl rfl rfl ?_
                          refine sp_bipush (p2 := 29) (x := 100) rfl rfl (by decide) ?_
                          refine st_callS rfl rfl rfl (cl_within_T (b := 100) rfl (by omega)) ?_
                          show Ev _ _ _ (32, [(0, .ref 16), (1, .int x1), (2, .int 2), (3, .int x3), (4, .int x4)], [.int 1], hh) _
                          refine st_ifc (b := true) rfl (by decide) ?_
                          show Ev _ _ _ (37, _, _, _) _
                          refine sp_aload_n (p2 := 38) rfl rfl rfl ?_
                          refine st_get rfl hh_0 rfl ?_
                          show Ev _ _ _ (41, _, _, _) _
                          refine sp_iload_n (p2 := 42) rfl rfl rfl ?_
                          refine st_aald (v := .ref 160) rfl hh_97 (by decide) rfl ?_
                          show Ev _ _ _ (43, _, _, _) _
                          refine sp_astore (p2 := 45) (lv2 := [(5, .ref 160), (0, .ref 16), (1, .int x1), (2, .int 2), (3, .int x3), (4, .int x4)]) rfl rfl (by decide) rfl ?_
                          refine sp_aload (p2 := 47) rfl rfl rfl ?_
                          have c1 : Ca 19 41 [.ref 160] hh (some (.int 1), hh) := by
                            refine ca_of (d := 18) (M := mX8_isMissing) rfl (Nat.le_of_ble_eq_true rfl) ?_
                            show Ev im_K0 18 mX8_isMissing (0, [(0, .ref 160)], [], hh) _
                            refine sp_aload_n (p2 := 1) rfl rfl rfl ?_
                            refine st_get rfl hh_144 rfl ?_
                            show Ev _ _ _ (4, _, _, _) _
                            refine sp_iconst (p2 := 5) (x := (-1)) rfl rfl (by decide) ?_
                            refine st_icmp (b := false) rfl (by decide) ?_
                            show Ev _ _ _ (8, _, _, _) _
                            refine sp_iconst (p2 := 9) (x := 1) rfl rfl (by decide) ?_
                            refine sp_goto rfl ?_
                            exact sp_zret rfl rfl (by decide)
                          refine st_callV (R := 160) rfl rfl rfl hh_144 rfl c1 ?_
                          show Ev _ _ _ (50, [(5, .ref 160), (0, .ref 16), (1, .int x1), (2, .int 2), (3, .int x3), (4, .int x4)], [.int 1], hh) _
                          refine st_ifc (b := false) rfl (by decide) ?_
                          show Ev _ _ _ (53, _, _, _) _
                          refine sp_bipush (p2 := 55) (x := (-11)) rfl rfl (by decide) ?_
                          exact sp_iret rfl rfl
                        · refine ca_of (d := 19) (M := mX12_row) rfl (Nat.le_of_ble_eq_true rfl) ?_
                          show Ev im_K0 19 mX12_row (0, [(0, .ref 164), (1, .int x1), (2, .int 2), (3, .int x3), (4, .int x4)], [], hh) _
                          refine sp_iload_n (p2 := 1) rfl rfl rfl ?_
                          refine sp_iconst (p2 := 2) (x := 0) rfl rfl (by decide) ?_
                          refine sp_iconst (p2 := 3) (x := 3) rfl rfl (by decide) ?_
                          refine st_callS rfl rfl rfl (cl_in_T (a := 0) (b := 3) rfl rfl (by omega)) ?_
                          show Ev _ _ _ (6, [(0, .ref 164), (1, .int x1), (2, .int 2), (3, .int x3), (4, .int x4)], [.int 1], hh) _
                          refine st_ifc (b := false) rfl (by decide) ?_
                          show Ev _ _ _ (9, _, _, _) _
                          refine sp_iload_n (p2 := 10) rfl rfl rfl ?_
                          refine sp_iconst (p2 := 11) (x := 0) rfl rfl (by decide) ?_
                          refine sp_iconst (p2 := 12) (x := 3) rfl rfl (by decide) ?_
                          refine st_callS rfl rfl rfl (cl_in_T (n := 2) (a := 0) (b := 3) (show Int32.toInt _ = _ from rfl) (show Int32.toInt _ = _ from rfl) (by have e9 : Int32.toInt 2 = 2 := rfl; omega)) ?_
                          show Ev _ _ _ (15, [(0, .ref 164), (1, .int x1), (2, .int 2), (3, .int x3), (4, .int x4)], [.int 1], hh) _
                          refine st_ifc (b := false) rfl (by decide) ?_
                          show Ev _ _ _ (18, _, _, _) _
                          refine sp_iload_n (p2 := 19) rfl rfl rfl ?_
                          refine st_callS rfl rfl rfl (cl_isCell_T (by omega)) ?_
                          show Ev _ _ _ (22, [(0, .ref 164), (1, .int x1), (2, .int 2), (3, .int x3), (4, .int x4)], [.int 1], hh) _
                          refine st_ifc (b := false) rfl (by decide) ?_
                          show Ev _ _ _ (25, _, _, _) _
                          refine sp_iload (p2 := 27) rfl rfl rfl ?_
                          refine st_callS rfl rfl rfl (cl_isCell_T (by omega)) ?_
                          show Ev _ _ _ (30, [(0, .ref 164), (1, .int x1), (2, .int 2), (3, .int x3), (4, .int x4)], [.int 1], hh) _
                          refine st_ifc (b := true) rfl (by decide) ?_
                          show Ev _ _ _ (35, _, _, _) _
                          refine sp_aload_n (p2 := 36) rfl rfl rfl ?_
                          refine st_get rfl hh_148 rfl ?_
                          show Ev _ _ _ (39, _, _, _) _
                          refine sp_iload_n (p2 := 40) rfl rfl rfl ?_
                          refine st_iald (x := (-1)) rfl (by decide) hh_192 rfl rfl ?_
                          show Ev _ _ _ (41, _, _, _) _
                          refine sp_iconst (p2 := 42) (x := (-1)) rfl rfl (by decide) ?_
                          refine st_icmp (b := false) rfl (by decide) ?_
                          show Ev _ _ _ (45, _, _, _) _
                          refine sp_bipush (p2 := 47) (x := (-11)) rfl rfl (by decide) ?_
                          exact sp_iret rfl rfl
                      · obtain rfl : x2 = 3 := i32_ext (by have e9 : Int32.toInt 3 = 3 := rfl; omega)
                        refine ⟨.int (-11), hh, hh, ?_, ?_⟩
                        · refine ca_of (d := 19) (M := mX11_row) rfl (Nat.le_of_ble_eq_true rfl) ?_
                          show Ev im_K0 19 mX11_row (0, [(0, .ref 16), (1, .int x1), (2, .int 3), (3, .int x3), (4, .int x4)], [], hh) _
                          refine sp_iload_n (p2 := 1) rfl rfl rfl ?_
                          refine sp_iconst (p2 := 2) (x := 4) rfl rfl (by decide) ?_
                          refine st_callS rfl rfl rfl (cl_within_T (b := 4) rfl (by omega)) ?_
                          show Ev _ _ _ (5, [(0, .ref 16), (1, .int x1), (2, .int 3), (3, .int x3), (4, .int x4)], [.int 1], hh) _
                          refine st_ifc (b := false) rfl (by decide) ?_
                          show Ev _ _ _ (8, _, _, _) _
                          refine sp_iload_n (p2 := 9) rfl rfl rfl ?_
                          refine sp_iconst (p2 := 10) (x := 4) rfl rfl (by decide) ?_
                          refine st_callS rfl rfl rfl (cl_within_T (n := 3) (b := 4) (show Int32.toInt _ = _ from rfl) (by have e9 : Int32.toInt 3 = 3 := rfl; omega)) ?_
                          show Ev _ _ _ (13, [(0, .ref 16), (1, .int x1), (2, .int 3), (3, .int x3), (4, .int x4)], [.int 1], hh) _
                          refine st_ifc (b := false) rfl (by decide) ?_
                          show Ev _ _ _ (16, _, _, _) _
                          refine sp_iload_n (p2 := 17) rfl rfl rfl ?_
                          refine sp_bipush (p2 := 19) (x := 100) rfl rfl (by decide) ?_
                          refine st_callS rfl rfl rfl (cl_within_T (b := 100) rfl (by omega)) ?_
                          show Ev _ _ _ (22, [(0, .ref 16), (1, .int x1), (2, .int 3), (3, .int x3), (4, .int x4)], [.int 1], hh) _
                          refine st_ifc (b := false) rfl (by decide) ?_
                          show Ev _ _ _ (25, _, _, _) _
                          refine sp_iload (p2 := 27) rfl rfl rfl ?_
                          refine sp_bipush (p2 := 29) (x := 100) rfl rfl (by decide) ?_
                          refine st_callS rfl rfl rfl (cl_within_T (b := 100) rfl (by omega)) ?_
                          show Ev _ _ _ (32, [(0, .ref 16), (1, .int x1), (2, .int 3), (3, .int x3), (4, .int x4)], [.int 1], hh) _
                          refine st_ifc (b := true) rfl (by decide) ?_
                          show Ev _ _ _ (37, _, _, _) _
                          refine sp_aload_n (p2 := 38) rfl rfl rfl ?_
                          refine st_get rfl hh_0 rfl ?_
                          show Ev _ _ _ (41, _, _, _) _
                          refine sp_iload_n (p2 := 42) rfl rfl rfl ?_
                          refine st_aald (v := .ref 162) rfl hh_97 (by decide) rfl ?_
                          show Ev _ _ _ (43, _, _, _) _
                          refine sp_astore (p2 := 45) (lv2 := [(5, .ref 162), (0, .ref 16), (1, .int x1), (2, .int 3), (3, .int x3), (4, .int x4)]) rfl rfl (by decide) rfl ?_
                          refine sp_aload (p2 := 47) rfl rfl rfl ?_
                          have c1 : Ca 19 41 [.ref 162] hh (some (.int 1), hh) := by
                            refine ca_of (d := 18) (M := mX8_isMissing) rfl (Nat.le_of_ble_eq_true rfl) ?_
                            show Ev im_K0 18 mX8_isMissing (0, [(0, .ref 162)], [], hh) _
                            refine sp_aload_n (p2 := 1) rfl rfl rfl ?_
                            refine st_get rfl hh_146 rfl ?_
                            show Ev _ _ _ (4, _, _, _) _
                            refine sp_iconst (p2 := 5) (x := (-1)) rfl rfl (by decide) ?_
                            refine st_icmp (b := false) rfl (by decide) ?_
                            show Ev _ _ _ (8, _, _, _) _
                            refine sp_iconst (p2 := 9) (x := 1) rfl rfl (by decide) ?_
                            refine sp_goto rfl ?_
                            exact sp_zret rfl rfl (by decide)
                          refine st_callV (R := 162) rfl rfl rfl hh_146 rfl c1 ?_
                          show Ev _ _ _ (50, [(5, .ref 162), (0, .ref 16), (1, .int x1), (2, .int 3), (3, .int x3), (4, .int x4)], [.int 1], hh) _
                          refine st_ifc (b := false) rfl (by decide) ?_
                          show Ev _ _ _ (53, _, _, _) _
                          refine sp_bipush (p2 := 55) (x := (-11)) rfl rfl (by decide) ?_
                          exact sp_iret rfl rfl
                        · refine ca_of (d := 19) (M := mX12_row) rfl (Nat.le_of_ble_eq_true rfl) ?_
                          show Ev im_K0 19 mX12_row (0, [(0, .ref 164), (1, .int x1), (2, .int 3), (3, .int x3), (4, .int x4)], [], hh) _
                          refine sp_iload_n (p2 := 1) rfl rfl rfl ?_
                          refine sp_iconst (p2 := 2) (x := 0) rfl rfl (by decide) ?_
                          refine sp_iconst (p2 := 3) (x := 3) rfl rfl (by decide) ?_
                          refine st_callS rfl rfl rfl (cl_in_T (a := 0) (b := 3) rfl rfl (by omega)) ?_
                          show Ev _ _ _ (6, [(0, .ref 164), (1, .int x1), (2, .int 3), (3, .int x3), (4, .int x4)], [.int 1], hh) _
                          refine st_ifc (b := false) rfl (by decide) ?_
                          show Ev _ _ _ (9, _, _, _) _
                          refine sp_iload_n (p2 := 10) rfl rfl rfl ?_
                          refine sp_iconst (p2 := 11) (x := 0) rfl rfl (by decide) ?_
                          refine sp_iconst (p2 := 12) (x := 3) rfl rfl (by decide) ?_
                          refine st_callS rfl rfl rfl (cl_in_T (n := 3) (a := 0) (b := 3) (show Int32.toInt _ = _ from rfl) (show Int32.toInt _ = _ from rfl) (by have e9 : Int32.toInt 3 = 3 := rfl; omega)) ?_
                          show Ev _ _ _ (15, [(0, .ref 164), (1, .int x1), (2, .int 3), (3, .int x3), (4, .int x4)], [.int 1], hh) _
                          refine st_ifc (b := false) rfl (by decide) ?_
                          show Ev _ _ _ (18, _, _, _) _
                          refine sp_iload_n (p2 := 19) rfl rfl rfl ?_
                          refine st_callS rfl rfl rfl (cl_isCell_T (by omega)) ?_
                          show Ev _ _ _ (22, [(0, .ref 164), (1, .int x1), (2, .int 3), (3, .int x3), (4, .int x4)], [.int 1], hh) _
                          refine st_ifc (b := false) rfl (by decide) ?_
                          show Ev _ _ _ (25, _, _, _) _
                          refine sp_iload (p2 := 27) rfl rfl rfl ?_
                          refine st_callS rfl rfl rfl (cl_isCell_T (by omega)) ?_
                          show Ev _ _ _ (30, [(0, .ref 164), (1, .int x1), (2, .int 3), (3, .int x3), (4, .int x4)], [.int 1], hh) _
                          refine st_ifc (b := true) rfl (by decide) ?_
                          show Ev _ _ _ (35, _, _, _) _
                          refine sp_aload_n (p2 := 36) rfl rfl rfl ?_
                          refine st_get rfl hh_148 rfl ?_
                          show Ev _ _ _ (39, _, _, _) _
                          refine sp_iload_n (p2 := 40) rfl rfl rfl ?_
                          refine st_iald (x := (-1)) rfl (by decide) hh_192 rfl rfl ?_
                          show Ev _ _ _ (41, _, _, _) _
                          refine sp_iconst (p2 := 42) (x := (-1)) rfl rfl (by decide) ?_
                          refine st_icmp (b := false) rfl (by decide) ?_
                          show Ev _ _ _ (45, _, _, _) _
                          refine sp_bipush (p2 := 47) (x := (-11)) rfl rfl (by decide) ?_
                          exact sp_iret rfl rfl
                · refine ⟨.int (-1), hh, hh, ?_, ?_⟩
                  · refine ca_of (d := 19) (M := mX11_row) rfl (Nat.le_of_ble_eq_true rfl) ?_
                    show Ev im_K0 19 mX11_row (0, [(0, .ref 16), (1, .int x1), (2, .int x2), (3, .int x3), (4, .int x4)], [], hh) _
                    refine sp_iload_n (p2 := 1) rfl rfl rfl ?_
                    refine sp_iconst (p2 := 2) (x := 4) rfl rfl (by decide) ?_
                    refine st_callS rfl rfl rfl (cl_within_T (b := 4) rfl (by omega)) ?_
                    show Ev _ _ _ (5, [(0, .ref 16), (1, .int x1), (2, .int x2), (3, .int x3), (4, .int x4)], [.int 1], hh) _
                    refine st_ifc (b := false) rfl (by decide) ?_
                    show Ev _ _ _ (8, _, _, _) _
                    refine sp_iload_n (p2 := 9) rfl rfl rfl ?_
                    refine sp_iconst (p2 := 10) (x := 4) rfl rfl (by decide) ?_
                    refine st_callS rfl rfl rfl (cl_within_T (b := 4) rfl (by omega)) ?_
                    show Ev _ _ _ (13, [(0, .ref 16), (1, .int x1), (2, .int x2), (3, .int x3), (4, .int x4)], [.int 1], hh) _
                    refine st_ifc (b := false) rfl (by decide) ?_
                    show Ev _ _ _ (16, _, _, _) _
                    refine sp_iload_n (p2 := 17) rfl rfl rfl ?_
                    refine sp_bipush (p2 := 19) (x := 100) rfl rfl (by decide) ?_
                    refine st_callS rfl rfl rfl (cl_within_T (b := 100) rfl (by omega)) ?_
                    show Ev _ _ _ (22, [(0, .ref 16), (1, .int x1), (2, .int x2), (3, .int x3), (4, .int x4)], [.int 1], hh) _
                    refine st_ifc (b := false) rfl (by decide) ?_
                    show Ev _ _ _ (25, _, _, _) _
                    refine sp_iload (p2 := 27) rfl rfl rfl ?_
                    refine sp_bipush (p2 := 29) (x := 100) rfl rfl (by decide) ?_
                    refine st_callS rfl rfl rfl (cl_within_F (b := 100) rfl (by omega)) ?_
                    show Ev _ _ _ (32, [(0, .ref 16), (1, .int x1), (2, .int x2), (3, .int x3), (4, .int x4)], [.int 0], hh) _
                    refine st_ifc (b := false) rfl (by decide) ?_
                    show Ev _ _ _ (35, _, _, _) _
                    refine sp_iconst (p2 := 36) (x := (-1)) rfl rfl (by decide) ?_
                    exact sp_iret rfl rfl
                  · refine ca_of (d := 19) (M := mX12_row) rfl (Nat.le_of_ble_eq_true rfl) ?_
                    show Ev im_K0 19 mX12_row (0, [(0, .ref 164), (1, .int x1), (2, .int x2), (3, .int x3), (4, .int x4)], [], hh) _
                    refine sp_iload_n (p2 := 1) rfl rfl rfl ?_
                    refine sp_iconst (p2 := 2) (x := 0) rfl rfl (by decide) ?_
                    refine sp_iconst (p2 := 3) (x := 3) rfl rfl (by decide) ?_
                    refine st_callS rfl rfl rfl (cl_in_T (a := 0) (b := 3) rfl rfl (by omega)) ?_
                    show Ev _ _ _ (6, [(0, .ref 164), (1, .int x1), (2, .int x2), (3, .int x3), (4, .int x4)], [.int 1], hh) _
                    refine st_ifc (b := false) rfl (by decide) ?_
                    show Ev _ _ _ (9, _, _, _) _
                    refine sp_iload_n (p2 := 10) rfl rfl rfl ?_
                    refine sp_iconst (p2 := 11) (x := 0) rfl rfl (by decide) ?_
                    refine sp_iconst (p2 := 12) (x := 3) rfl rfl (by decide) ?_
                    refine st_callS rfl rfl rfl (cl_in_T (a := 0) (b := 3) rfl rfl (by omega)) ?_
                    show Ev _ _ _ (15, [(0, .ref 164), (1, .int x1), (2, .int x2), (3, .int x3), (4, .int x4)], [.int 1], hh) _
                    refine st_ifc (b := false) rfl (by decide) ?_
                    show Ev _ _ _ (18, _, _, _) _
                    refine sp_iload_n (p2 := 19) rfl rfl rfl ?_
                    refine st_callS rfl rfl rfl (cl_isCell_T (by omega)) ?_
                    show Ev _ _ _ (22, [(0, .ref 164), (1, .int x1), (2, .int x2), (3, .int x3), (4, .int x4)], [.int 1], hh) _
                    refine st_ifc (b := false) rfl (by decide) ?_
                    show Ev _ _ _ (25, _, _, _) _
                    refine sp_iload (p2 := 27) rfl rfl rfl ?_
                    refine st_callS rfl rfl rfl (cl_isCell_F (by omega)) ?_
                    show Ev _ _ _ (30, [(0, .ref 164), (1, .int x1), (2, .int x2), (3, .int x3), (4, .int x4)], [.int 0], hh) _
                    refine st_ifc (b := false) rfl (by decide) ?_
                    show Ev _ _ _ (33, _, _, _) _
                    refine sp_iconst (p2 := 34) (x := (-1)) rfl rfl (by decide) ?_
                    exact sp_iret rfl rfl
            · refine ⟨.int (-1), hh, hh, ?_, ?_⟩
              · refine ca_of (d := 19) (M := mX11_row) rfl (Nat.le_of_ble_eq_true rfl) ?_
                show Ev im_K0 19 mX11_row (0, [(0, .ref 16), (1, .int x1), (2, .int x2), (3, .int x3), (4, .int x4)], [], hh) _
                refine sp_iload_n (p2 := 1) rfl rfl rfl ?_
                refine sp_iconst (p2 := 2) (x := 4) rfl rfl (by decide) ?_
                refine st_callS rfl rfl rfl (cl_within_T (b := 4) rfl (by omega)) ?_
                show Ev _ _ _ (5, [(0, .ref 16), (1, .int x1), (2, .int x2), (3, .int x3), (4, .int x4)], [.int 1], hh) _
                refine st_ifc (b := false) rfl (by decide) ?_
                show Ev _ _ _ (8, _, _, _) _
                refine sp_iload_n (p2 := 9) rfl rfl rfl ?_
                refine sp_iconst (p2 := 10) (x := 4) rfl rfl (by decide) ?_
                refine st_callS rfl rfl rfl (cl_within_T (b := 4) rfl (by omega)) ?_
                show Ev _ _ _ (13, [(0, .ref 16), (1, .int x1), (2, .int x2), (3, .int x3), (4, .int x4)], [.int 1], hh) _
                refine st_ifc (b := false) rfl (by decide) ?_
                show Ev _ _ _ (16, _, _, _) _
                refine sp_iload_n (p2 := 17) rfl rfl rfl ?_
                refine sp_bipush (p2 := 19) (x := 100) rfl rfl (by decide) ?_
                refine st_callS rfl rfl rfl (cl_within_F (b := 100) rfl (by omega)) ?_
                show Ev _ _ _ (22, [(0, .ref 16), (1, .int x1), (2, .int x2), (3, .int x3), (4, .int x4)], [.int 0], hh) _
                refine st_ifc (b := true) rfl (by decide) ?_
                show Ev _ _ _ (35, _, _, _) _
                refine sp_iconst (p2 := 36) (x := (-1)) rfl rfl (by decide) ?_
                exact sp_iret rfl rfl
              · refine ca_of (d := 19) (M := mX12_row) rfl (Nat.le_of_ble_eq_true rfl) ?_
                show Ev im_K0 19 mX12_row (0, [(0, .ref 164), (1, .int x1), (2, .int x2), (3, .int x3), (4, .int x4)], [], hh) _
                refine sp_iload_n (p2 := 1) rfl rfl rfl ?_
                refine sp_iconst (p2 := 2) (x := 0) rfl rfl (by decide) ?_
                refine sp_iconst (p2 := 3) (x := 3) rfl rfl (by decide) ?_
                refine st_callS rfl rfl rfl (cl_in_T (a := 0) (b := 3) rfl rfl (by omega)) ?_
                show Ev _ _ _ (6, [(0, .ref 164), (1, .int x1), (2, .int x2), (3, .int x3), (4, .int x4)], [.int 1], hh) _
                refine st_ifc (b := false) rfl (by decide) ?_
                show Ev _ _ _ (9, _, _, _) _
                refine sp_iload_n (p2 := 10) rfl rfl rfl ?_
                refine sp_iconst (p2 := 11) (x := 0) rfl rfl (by decide) ?_
                refine sp_iconst (p2 := 12) (x := 3) rfl rfl (by decide) ?_
                refine st_callS rfl rfl rfl (cl_in_T (a := 0) (b := 3) rfl rfl (by omega)) ?_
                show Ev _ _ _ (15, [(0, .ref 164), (1, .int x1), (2, .int x2), (3, .int x3), (4, .int x4)], [.int 1], hh) _
                refine st_ifc (b := false) rfl (by decide) ?_
                show Ev _ _ _ (18, _, _, _) _
                refine sp_iload_n (p2 := 19) rfl rfl rfl ?_
                refine st_callS rfl rfl rfl (cl_isCell_F (by omega)) ?_
                show Ev _ _ _ (22, [(0, .ref 164), (1, .int x1), (2, .int x2), (3, .int x3), (4, .int x4)], [.int 0], hh) _
                refine st_ifc (b := true) rfl (by decide) ?_
                show Ev _ _ _ (33, _, _, _) _
                refine sp_iconst (p2 := 34) (x := (-1)) rfl rfl (by decide) ?_
                exact sp_iret rfl rfl
        · refine ⟨.int (-1), hh, hh, ?_, ?_⟩
          · refine ca_of (d := 19) (M := mX11_row) rfl (Nat.le_of_ble_eq_true rfl) ?_
            show Ev im_K0 19 mX11_row (0, [(0, .ref 16), (1, .int x1), (2, .int x2), (3, .int x3), (4, .int x4)], [], hh) _
            refine sp_iload_n (p2 := 1) rfl rfl rfl ?_
            refine sp_iconst (p2 := 2) (x := 4) rfl rfl (by decide) ?_
            refine st_callS rfl rfl rfl (cl_within_T (b := 4) rfl (by omega)) ?_
            show Ev _ _ _ (5, [(0, .ref 16), (1, .int x1), (2, .int x2), (3, .int x3), (4, .int x4)], [.int 1], hh) _
            refine st_ifc (b := false) rfl (by decide) ?_
            show Ev _ _ _ (8, _, _, _) _
            refine sp_iload_n (p2 := 9) rfl rfl rfl ?_
            refine sp_iconst (p2 := 10) (x := 4) rfl rfl (by decide) ?_
            refine st_callS rfl rfl rfl (cl_within_F (b := 4) rfl (by omega)) ?_
            show Ev _ _ _ (13, [(0, .ref 16), (1, .int x1), (2, .int x2), (3, .int x3), (4, .int x4)], [.int 0], hh) _
            refine st_ifc (b := true) rfl (by decide) ?_
            show Ev _ _ _ (35, _, _, _) _
            refine sp_iconst (p2 := 36) (x := (-1)) rfl rfl (by decide) ?_
            exact sp_iret rfl rfl
          · refine ca_of (d := 19) (M := mX12_row) rfl (Nat.le_of_ble_eq_true rfl) ?_
            show Ev im_K0 19 mX12_row (0, [(0, .ref 164), (1, .int x1), (2, .int x2), (3, .int x3), (4, .int x4)], [], hh) _
            refine sp_iload_n (p2 := 1) rfl rfl rfl ?_
            refine sp_iconst (p2 := 2) (x := 0) rfl rfl (by decide) ?_
            refine sp_iconst (p2 := 3) (x := 3) rfl rfl (by decide) ?_
            refine st_callS rfl rfl rfl (cl_in_T (a := 0) (b := 3) rfl rfl (by omega)) ?_
            show Ev _ _ _ (6, [(0, .ref 164), (1, .int x1), (2, .int x2), (3, .int x3), (4, .int x4)], [.int 1], hh) _
            refine st_ifc (b := false) rfl (by decide) ?_
            show Ev _ _ _ (9, _, _, _) _
            refine sp_iload_n (p2 := 10) rfl rfl rfl ?_
            refine sp_iconst (p2 := 11) (x := 0) rfl rfl (by decide) ?_
            refine sp_iconst (p2 := 12) (x := 3) rfl rfl (by decide) ?_
            refine st_callS rfl rfl rfl (cl_in_F (a := 0) (b := 3) rfl rfl (by omega)) ?_
            show Ev _ _ _ (15, [(0, .ref 164), (1, .int x1), (2, .int x2), (3, .int x3), (4, .int x4)], [.int 0], hh) _
            refine st_ifc (b := true) rfl (by decide) ?_
            show Ev _ _ _ (33, _, _, _) _
            refine sp_iconst (p2 := 34) (x := (-1)) rfl rfl (by decide) ?_
            exact sp_iret rfl rfl
    · refine ⟨.int (-1), hh, hh, ?_, ?_⟩
      · refine ca_of (d := 19) (M := mX11_row) rfl (Nat.le_of_ble_eq_true rfl) ?_
        show Ev im_K0 19 mX11_row (0, [(0, .ref 16), (1, .int x1), (2, .int x2), (3, .int x3), (4, .int x4)], [], hh) _
        refine sp_iload_n (p2 := 1) rfl rfl rfl ?_
        refine sp_iconst (p2 := 2) (x := 4) rfl rfl (by decide) ?_
        refine st_callS rfl rfl rfl (cl_within_F (b := 4) rfl (by omega)) ?_
        show Ev _ _ _ (5, [(0, .ref 16), (1, .int x1), (2, .int x2), (3, .int x3), (4, .int x4)], [.int 0], hh) _
        refine st_ifc (b := true) rfl (by decide) ?_
        show Ev _ _ _ (35, _, _, _) _
        refine sp_iconst (p2 := 36) (x := (-1)) rfl rfl (by decide) ?_
        exact sp_iret rfl rfl
      · refine ca_of (d := 19) (M := mX12_row) rfl (Nat.le_of_ble_eq_true rfl) ?_
        show Ev im_K0 19 mX12_row (0, [(0, .ref 164), (1, .int x1), (2, .int x2), (3, .int x3), (4, .int x4)], [], hh) _
        refine sp_iload_n (p2 := 1) rfl rfl rfl ?_
        refine sp_iconst (p2 := 2) (x := 0) rfl rfl (by decide) ?_
        refine sp_iconst (p2 := 3) (x := 3) rfl rfl (by decide) ?_
        refine st_callS rfl rfl rfl (cl_in_F (a := 0) (b := 3) rfl rfl (by omega)) ?_
        show Ev _ _ _ (6, [(0, .ref 164), (1, .int x1), (2, .int x2), (3, .int x3), (4, .int x4)], [.int 0], hh) _
        refine st_ifc (b := true) rfl (by decide) ?_
        show Ev _ _ _ (33, _, _, _) _
        refine sp_iconst (p2 := 34) (x := (-1)) rfl rfl (by decide) ?_
        exact sp_iret rfl rfl
set_option maxRecDepth 10000 in
set_option maxHeartbeats 4000000 in
theorem q_rail (x1 x2 x3 : Int32) : ∃ (v : Value) (h1 h2 : im_H), Ca 20 69 [.ref 16, .int x1, .int x2, .int x3] hh (some v, h1) ∧ Ca 20 132 [.ref 164, .int x1, .int x2, .int x3] h1 (some v, h2) := by
  by_cases h1 : x1.toInt ≤ (-1)
  · refine ⟨.int (-1), hh, hh, ?_, ?_⟩
    · refine ca_of (d := 19) (M := mX11_rail) rfl (Nat.le_of_ble_eq_true rfl) ?_
      show Ev im_K0 19 mX11_rail (0, [(0, .ref 16), (1, .int x1), (2, .int x2), (3, .int x3)], [], hh) _
      refine sp_iload_n (p2 := 1) rfl rfl rfl ?_
      refine sp_iconst (p2 := 2) (x := 3) rfl rfl (by decide) ?_
      refine st_callS rfl rfl rfl (cl_within_F (b := 3) rfl (by omega)) ?_
      show Ev _ _ _ (5, [(0, .ref 16), (1, .int x1), (2, .int x2), (3, .int x3)], [.int 0], hh) _
      refine st_ifc (b := true) rfl (by decide) ?_
      show Ev _ _ _ (16, _, _, _) _
      refine sp_iconst (p2 := 17) (x := (-1)) rfl rfl (by decide) ?_
      exact sp_iret rfl rfl
    · refine ca_of (d := 19) (M := mX12_rail) rfl (Nat.le_of_ble_eq_true rfl) ?_
      show Ev im_K0 19 mX12_rail (0, [(0, .ref 164), (1, .int x1), (2, .int x2), (3, .int x3)], [], hh) _
      refine sp_iload_n (p2 := 1) rfl rfl rfl ?_
      refine sp_iconst (p2 := 2) (x := 0) rfl rfl (by decide) ?_
      refine sp_iconst (p2 := 3) (x := 2) rfl rfl (by decide) ?_
      refine st_callS rfl rfl rfl (cl_in_F (a := 0) (b := 2) rfl rfl (by omega)) ?_
      show Ev _ _ _ (6, [(0, .ref 164), (1, .int x1), (2, .int x2), (3, .int x3)], [.int 0], hh) _
      refine st_ifc (b := true) rfl (by decide) ?_
      show Ev _ _ _ (18, _, _, _) _
      refine sp_iconst (p2 := 19) (x := (-1)) rfl rfl (by decide) ?_
      exact sp_iret rfl rfl
  · by_cases h2 : x1.toInt ≤ 2
    · by_cases h3 : x2.toInt ≤ (-1)
      · refine ⟨.int (-1), hh, hh, ?_, ?_⟩
        · refine ca_of (d := 19) (M := mX11_rail) rfl (Nat.le_of_ble_eq_true rfl) ?_
          show Ev im_K0 19 mX11_rail (0, [(0, .ref 16), (1, .int x1), (2, .int x2), (3, .int x3)], [], hh) _
          refine sp_iload_n (p2 := 1) rfl rfl rfl ?_
          refine sp_iconst (p2 := 2) (x := 3) rfl rfl (by decide) ?_
          refine st_callS rfl rfl rfl (cl_within_T (b := 3) rfl (by omega)) ?_
          show Ev _ _ _ (5, [(0, .ref 16), (1, .int x1), (2, .int x2), (3, .int x3)], [.int 1], hh) _
          refine st_ifc (b := false) rfl (by decide) ?_
          show Ev _ _ _ (8, _, _, _) _
          refine sp_iload_n (p2 := 9) rfl rfl rfl ?_
          refine sp_iconst (p2 := 10) (x := 4) rfl rfl (by decide) ?_
          refine st_callS rfl rfl rfl (cl_within_F (b := 4) rfl (by omega)) ?_
          show Ev _ _ _ (13, [(0, .ref 16), (1, .int x1), (2, .int x2), (3, .int x3)], [.int 0], hh) _
          refine st_ifc (b := false) rfl (by decide) ?_
          show Ev _ _ _ (16, _, _, _) _
          refine sp_iconst (p2 := 17) (x := (-1)) rfl rfl (by decide) ?_
          exact sp_iret rfl rfl
        · refine ca_of (d := 19) (M := mX12_rail) rfl (Nat.le_of_ble_eq_true rfl) ?_
          show Ev im_K0 19 mX12_rail (0, [(0, .ref 164), (1, .int x1), (2, .int x2), (3, .int x3)], [], hh) _
          refine sp_iload_n (p2 := 1) rfl rfl rfl ?_
          refine sp_iconst (p2 := 2) (x := 0) rfl rfl (by decide) ?_
          refine sp_iconst (p2 := 3) (x := 2) rfl rfl (by decide) ?_
          refine st_callS rfl rfl rfl (cl_in_T (a := 0) (b := 2) rfl rfl (by omega)) ?_
          show Ev _ _ _ (6, [(0, .ref 164), (1, .int x1), (2, .int x2), (3, .int x3)], [.int 1], hh) _
          refine st_ifc (b := false) rfl (by decide) ?_
          show Ev _ _ _ (9, _, _, _) _
          refine sp_iload_n (p2 := 10) rfl rfl rfl ?_
          refine sp_iconst (p2 := 11) (x := 0) rfl rfl (by decide) ?_
          refine sp_iconst (p2 := 12) (x := 3) rfl rfl (by decide) ?_
          refine st_callS rfl rfl rfl (cl_in_F (a := 0) (b := 3) rfl rfl (by omega)) ?_
          show Ev _ _ _ (15, [(0, .ref 164), (1, .int x1), (2, .int x2), (3, .int x3)], [.int 0], hh) _
          refine st_ifc (b := false) rfl (by decide) ?_
          show Ev _ _ _ (18, _, _, _) _
          refine sp_iconst (p2 := 19) (x := (-1)) rfl rfl (by decide) ?_
          exact sp_iret rfl rfl
      · by_cases h4 : x2.toInt ≤ 3
        · by_cases h5 : x2.toInt ≤ 0
          · obtain rfl : x2 = 0 := i32_ext (by have e9 : Int32.toInt 0 = 0 := rfl; omega)
            refine ⟨.int (-11), hh, hh, ?_, ?_⟩
            · refine ca_of (d := 19) (M := mX11_rail) rfl (Nat.le_of_ble_eq_true rfl) ?_
              show Ev im_K0 19 mX11_rail (0, [(0, .ref 16), (1, .int x1), (2, .int 0), (3, .int x3)], [], hh) _
              refine sp_iload_n (p2 := 1) rfl rfl rfl ?_
              refine sp_iconst (p2 := 2) (x := 3) rfl rfl (by decide) ?_
              refine st_callS rfl rfl rfl (cl_within_T (b := 3) rfl (by omega)) ?_
              show Ev _ _ _ (5, [(0, .ref 16), (1, .int x1), (2, .int 0), (3, .int x3)], [.int 1], hh) _
              refine st_ifc (b := false) rfl (by decide) ?_
              show Ev _ _ _ (8, _, _, _) _
              refine sp_iload_n (p2 := 9) rfl rfl rfl ?_
              refine sp_iconst (p2 := 10) (x := 4) rfl rfl (by decide) ?_
              refine st_callS rfl rfl rfl (cl_within_T (n := 0) (b := 4) (show Int32.toInt _ = _ from rfl) (by have e9 : Int32.toInt 0 = 0 := rfl; omega)) ?_
              show Ev _ _ _ (13, [(0, .ref 16), (1, .int x1), (2, .int 0), (3, .int x3)], [.int 1], hh) _
              refine st_ifc (b := true) rfl (by decide) ?_
              show Ev _ _ _ (18, _, _, _) _
              refine sp_aload_n (p2 := 19) rfl rfl rfl ?_
              refine st_get rfl hh_0 rfl ?_
              show Ev _ _ _ (22, _, _, _) _
              refine sp_iload_n (p2 := 23) rfl rfl rfl ?_
              refine st_aald (v := .ref 156) rfl hh_97 (by decide) rfl ?_
              show Ev _ _ _ (24, _, _, _) _
              refine sp_astore (p2 := 26) (lv2 := [(4, .ref 156), (0, .ref 16), (1, .int x1), (2, .int 0), (3, .int x3)]) rfl rfl (by decide) rfl ?_
              refine sp_aload (p2 := 28) rfl rfl rfl ?_
              have c1 : Ca 19 41 [.ref 156] hh (some (.int 1), hh) := by
                refine ca_of (d := 18) (M := mX8_isMissing) rfl (Nat.le_of_ble_eq_true rfl) ?_
                show Ev im_K0 18 mX8_isMissing (0, [(0, .ref 156)], [], hh) _
                refine sp_aload_n (p2 := 1) rfl rfl rfl ?_
                refine st_get rfl hh_140 rfl ?_
                show Ev _ _ _ (4, _, _, _) _
                refine sp_iconst (p2 := 5) (x := (-1)) rfl rfl (by decide) ?_
                refine st_icmp (b := false) rfl (by decide) ?_
                show Ev _ _ _ (8, _, _, _) _
                refine sp_iconst (p2 := 9) (x := 1) rfl rfl (by decide) ?_
                refine sp_goto rfl ?_
                exact sp_zret rfl rfl (by decide)
              refine st_callV (R := 156) rfl rfl rfl hh_140 rfl c1 ?_
              show Ev _ _ _ (31, [(4, .ref 156), (0, .ref 16), (1, .int x1), (2, .int 0), (3, .int x3)], [.int 1], hh) _
              refine st_ifc (b := false) rfl (by decide) ?_
              show Ev _ _ _ (34, _, _, _) _
              refine sp_bipush (p2 := 36) (x := (-11)) rfl rfl (by decide) ?_
              exact sp_iret rfl rfl
            · refine ca_of (d := 19) (M := mX12_rail) rfl (Nat.le_of_ble_eq_true rfl) ?_
              show Ev im_K0 19 mX12_rail (0, [(0, .ref 164), (1, .int x1), (2, .int 0), (3, .int x3)], [], hh) _
              refine sp_iload_n (p2 := 1) rfl rfl rfl ?_
              refine sp_iconst (p2 := 2) (x := 0) rfl rfl (by decide) ?_
              refine sp_iconst (p2 := 3) (x := 2) rfl rfl (by decide) ?_
              refine st_callS rfl rfl rfl (cl_in_T (a := 0) (b := 2) rfl rfl (by omega)) ?_
              show Ev _ _ _ (6, [(0, .ref 164), (1, .int x1), (2, .int 0), (3, .int x3)], [.int 1], hh) _
              refine st_ifc (b := false) rfl (by decide) ?_
              show Ev _ _ _ (9, _, _, _) _
              refine sp_iload_n (p2 := 10) rfl rfl rfl ?_
              refine sp_iconst (p2 := 11) (x := 0) rfl rfl (by decide) ?_
              refine sp_iconst (p2 := 12) (x := 3) rfl rfl (by decide) ?_
              refine st_callS rfl rfl rfl (cl_in_T (n := 0) (a := 0) (b := 3) (show Int32.toInt _ = _ from rfl) (show Int32.toInt _ = _ from rfl) (by have e9 : Int32.toInt 0 = 0 := rfl; omega)) ?_
              show Ev _ _ _ (15, [(0, .ref 164), (1, .int x1), (2, .int 0), (3, .int x3)], [.int 1], hh) _
              refine st_ifc (b := true) rfl (by decide) ?_
              show Ev _ _ _ (20, _, _, _) _
              refine sp_aload_n (p2 := 21) rfl rfl rfl ?_
              refine st_get rfl hh_148 rfl ?_
              show Ev _ _ _ (24, _, _, _) _
              refine sp_iload_n (p2 := 25) rfl rfl rfl ?_
              refine st_iald (x := (-1)) rfl (by decide) hh_192 rfl rfl ?_
              show Ev _ _ _ (26, _, _, _) _
              refine sp_iconst (p2 := 27) (x := (-1)) rfl rfl (by decide) ?_
              refine st_icmp (b := false) rfl (by decide) ?_
              show Ev _ _ _ (30, _, _, _) _
              refine sp_bipush (p2 := 32) (x := (-11)) rfl rfl (by decide) ?_
              exact sp_iret rfl rfl
          · by_cases h6 : x2.toInt ≤ 1
            · obtain rfl : x2 = 1 := i32_ext (by have e9 : Int32.toInt 1 = 1 := rfl; omega)
              refine ⟨.int (-11), hh, hh, ?_, ?_⟩
              · refine ca_of (d := 19) (M := mX11_rail) rfl (Nat.le_of_ble_eq_true rfl) ?_
                show Ev im_K0 19 mX11_rail (0, [(0, .ref 16), (1, .int x1), (2, .int 1), (3, .int x3)], [], hh) _
                refine sp_iload_n (p2 := 1) rfl rfl rfl ?_
                refine sp_iconst (p2 := 2) (x := 3) rfl rfl (by decide) ?_
                refine st_callS rfl rfl rfl (cl_within_T (b := 3) rfl (by omega)) ?_
                show Ev _ _ _ (5, [(0, .ref 16), (1, .int x1), (2, .int 1), (3, .int x3)], [.int 1], hh) _
                refine st_ifc (b := false) rfl (by decide) ?_
                show Ev _ _ _ (8, _, _, _) _
                refine sp_iload_n (p2 := 9) rfl rfl rfl ?_
                refine sp_iconst (p2 := 10) (x := 4) rfl rfl (by decide) ?_
                refine st_callS rfl rfl rfl (cl_within_T (n := 1) (b := 4) (show Int32.toInt _ = _ from rfl) (by have e9 : Int32.toInt 1 = 1 := rfl; omega)) ?_
                show Ev _ _ _ (13, [(0, .ref 16), (1, .int x1), (2, .int 1), (3, .int x3)], [.int 1], hh) _
                refine st_ifc (b := true) rfl (by decide) ?_
                show Ev _ _ _ (18, _, _, _) _
                refine sp_aload_n (p2 := 19) rfl rfl rfl ?_
                refine st_get rfl hh_0 rfl ?_
                show Ev _ _ _ (22, _, _, _) _
                refine sp_iload_n (p2 := 23) rfl rfl rfl ?_
                refine st_aald (v := .ref 158) rfl hh_97 (by decide) rfl ?_
                show Ev _ _ _ (24, _, _, _) _
                refine sp_astore (p2 := 26) (lv2 := [(4, .ref 158), (0, .ref 16), (1, .int x1), (2, .int 1), (3, .int x3)]) rfl rfl (by decide) rfl ?_
                refine sp_aload (p2 := 28) rfl rfl rfl ?_
                have c1 : Ca 19 41 [.ref 158] hh (some (.int 1), hh) := by
                  refine ca_of (d := 18) (M := mX8_isMissing) rfl (Nat.le_of_ble_eq_true rfl) ?_
                  show Ev im_K0 18 mX8_isMissing (0, [(0, .ref 158)], [], hh) _
                  refine sp_aload_n (p2 := 1) rfl rfl rfl ?_
                  refine st_get rfl hh_142 rfl ?_
                  show Ev _ _ _ (4, _, _, _) _
                  refine sp_iconst (p2 := 5) (x := (-1)) rfl rfl (by decide) ?_
                  refine st_icmp (b := false) rfl (by decide) ?_
                  show Ev _ _ _ (8, _, _, _) _
                  refine sp_iconst (p2 := 9) (x := 1) rfl rfl (by decide) ?_
                  refine sp_goto rfl ?_
                  exact sp_zret rfl rfl (by decide)
                refine st_callV (R := 158) rfl rfl rfl hh_142 rfl c1 ?_
                show Ev _ _ _ (31, [(4, .ref 158), (0, .ref 16), (1, .int x1), (2, .int 1), (3, .int x3)], [.int 1], hh) _
                refine st_ifc (b := false) rfl (by decide) ?_
                show Ev _ _ _ (34, _, _, _) _
                refine sp_bipush (p2 := 36) (x := (-11)) rfl rfl (by decide) ?_
                exact sp_iret rfl rfl
              · refine ca_of (d := 19) (M := mX12_rail) rfl (Nat.le_of_ble_eq_true rfl) ?_
                show Ev im_K0 19 mX12_rail (0, [(0, .ref 164), (1, .int x1), (2, .int 1), (3, .int x3)], [], hh) _
                refine sp_iload_n (p2 := 1) rfl rfl rfl ?_
                refine sp_iconst (p2 := 2) (x := 0) rfl rfl (by decide) ?_
                refine sp_iconst (p2 := 3) (x := 2) rfl rfl (by decide) ?_
                refine st_callS rfl rfl rfl (cl_in_T (a := 0) (b := 2) rfl rfl (by omega)) ?_
                show Ev _ _ _ (6, [(0, .ref 164), (1, .int x1), (2, .int 1), (3, .int x3)], [.int 1], hh) _
                refine st_ifc (b := false) rfl (by decide) ?_
                show Ev _ _ _ (9, _, _, _) _
                refine sp_iload_n (p2 := 10) rfl rfl rfl ?_
                refine sp_iconst (p2 := 11) (x := 0) rfl rfl (by decide) ?_
                refine sp_iconst (p2 := 12) (x := 3) rfl rfl (by decide) ?_
                refine st_callS rfl rfl rfl (cl_in_T (n := 1) (a := 0) (b := 3) (show Int32.toInt _ = _ from rfl) (show Int32.toInt _ = _ from rfl) (by have e9 : Int32.toInt 1 = 1 := rfl; omega)) ?_
                show Ev _ _ _ (15, [(0, .ref 164), (1, .int x1), (2, .int 1), (3, .int x3)], [.int 1], hh) _
                refine st_ifc (b := true) rfl (by decide) ?_
                show Ev _ _ _ (20, _, _, _) _
                refine sp_aload_n (p2 := 21) rfl rfl rfl ?_
                refine st_get rfl hh_148 rfl ?_
                show Ev _ _ _ (24, _, _, _) _
                refine sp_iload_n (p2 := 25) rfl rfl rfl ?_
                refine st_iald (x := (-1)) rfl (by decide) hh_192 rfl rfl ?_
                show Ev _ _ _ (26, _, _, _) _
                refine sp_iconst (p2 := 27) (x := (-1)) rfl rfl (by decide) ?_
                refine st_icmp (b := false) rfl (by decide) ?_
                show Ev _ _ _ (30, _, _, _) _
                refine sp_bipush (p2 := 32) (x := (-11)) rfl rfl (by decide) ?_
                exact sp_iret rfl rfl
            · by_cases h7 : x2.toInt ≤ 2
              · obtain rfl : x2 = 2 := i32_ext (by have e9 : Int32.toInt 2 = 2 := rfl; omega)
                refine ⟨.int (-11), hh, hh, ?_, ?_⟩
                · refine ca_of (d := 19) (M := mX11_rail) rfl (Nat.le_of_ble_eq_true rfl) ?_
                  show Ev im_K0 19 mX11_rail (0, [(0, .ref 16), (1, .int x1), (2, .int 2), (3, .int x3)], [], hh) _
                  refine sp_iload_n (p2 := 1) rfl rfl rfl ?_
                  refine sp_iconst (p2 := 2) (x := 3) rfl rfl (by decide) ?_
                  refine st_callS rfl rfl rfl (cl_within_T (b := 3) rfl (by omega)) ?_
                  show Ev _ _ _ (5, [(0, .ref 16), (1, .int x1), (2, .int 2), (3, .int x3)], [.int 1], hh) _
                  refine st_ifc (b := false) rfl (by decide) ?_
                  show Ev _ _ _ (8, _, _, _) _
                  refine sp_iload_n (p2 := 9) rfl rfl rfl ?_
                  refine sp_iconst (p2 := 10) (x := 4) rfl rfl (by decide) ?_
                  refine st_callS rfl rfl rfl (cl_within_T (n := 2) (b := 4) (show Int32.toInt _ = _ from rfl) (by have e9 : Int32.toInt 2 = 2 := rfl; omega)) ?_
                  show Ev _ _ _ (13, [(0, .ref 16), (1, .int x1), (2, .int 2), (3, .int x3)], [.int 1], hh) _
                  refine st_ifc (b := true) rfl (by decide) ?_
                  show Ev _ _ _ (18, _, _, _) _
                  refine sp_aload_n (p2 := 19) rfl rfl rfl ?_
                  refine st_get rfl hh_0 rfl ?_
                  show Ev _ _ _ (22, _, _, _) _
                  refine sp_iload_n (p2 := 23) rfl rfl rfl ?_
                  refine st_aald (v := .ref 160) rfl hh_97 (by decide) rfl ?_
                  show Ev _ _ _ (24, _, _, _) _
                  refine sp_astore (p2 := 26) (lv2 := [(4, .ref 160), (0, .ref 16), (1, .int x1), (2, .int 2), (3, .int x3)]) rfl rfl (by decide) rfl ?_
                  refine sp_aload (p2 := 28) rfl rfl rfl ?_
                  have c1 : Ca 19 41 [.ref 160] hh (some (.int 1), hh) := by
                    refine ca_of (d := 18) (M := mX8_isMissing) rfl (Nat.le_of_ble_eq_true rfl) ?_
                    show Ev im_K0 18 mX8_isMissing (0, [(0, .ref 160)], [], hh) _
                    refine sp_aload_n (p2 := 1) rfl rfl rfl ?_
                    refine st_get rfl hh_144 rfl ?_
                    show Ev _ _ _ (4, _, _, _) _
                    refine sp_iconst (p2 := 5) (x := (-1)) rfl rfl (by decide) ?_
                    refine st_icmp (b := false) rfl (by decide) ?_
                    show Ev _ _ _ (8, _, _, _) _
                    refine sp_iconst (p2 := 9) (x := 1) rfl rfl (by decide) ?_
                    refine sp_goto rfl ?_
                    exact sp_zret rfl rfl (by decide)
                  refine st_callV (R := 160) rfl rfl rfl hh_144 rfl c1 ?_
                  show Ev _ _ _ (31, [(4, .ref 160), (0, .ref 16), (1, .int x1), (2, .int 2), (3, .int x3)], [.int 1], hh) _
                  refine st_ifc (b := false) rfl (by decide) ?_
                  show Ev _ _ _ (34, _, _, _) _
                  refine sp_bipush (p2 := 36) (x := (-11)) rfl rfl (by decide) ?_
                  exact sp_iret rfl rfl
                · refine ca_of (d := 19) (M := mX12_rail) rfl (Nat.le_of_ble_eq_true rfl) ?_
                  show Ev im_K0 19 mX12_rail (0, [(0, .ref 164), (1, .int x1), (2, .int 2), (3, .int x3)], [], hh) _
                  refine sp_iload_n (p2 := 1) rfl rfl rfl ?_
                  refine sp_iconst (p2 := 2) (x := 0) rfl rfl (by decide) ?_
                  refine sp_iconst (p2 := 3) (x := 2) rfl rfl (by decide) ?_
                  refine st_callS rfl rfl rfl (cl_in_T (a := 0) (b := 2) rfl rfl (by omega)) ?_
                  show Ev _ _ _ (6, [(0, .ref 164), (1, .int x1), (2, .int 2), (3, .int x3)], [.int 1], hh) _
                  refine st_ifc (b := false) rfl (by decide) ?_
                  show Ev _ _ _ (9, _, _, _) _
                  refine sp_iload_n (p2 := 10) rfl rfl rfl ?_
                  refine sp_iconst (p2 := 11) (x := 0) rfl rfl (by decide) ?_
                  refine sp_iconst (p2 := 12) (x := 3) rfl rfl (by decide) ?_
                  refine st_callS rfl rfl rfl (cl_in_T (n := 2) (a := 0) (b := 3) (show Int32.toInt _ = _ from rfl) (show Int32.toInt _ = _ from rfl) (by have e9 : Int32.toInt 2 = 2 := rfl; omega)) ?_
                  show Ev _ _ _ (15, [(0, .ref 164), (1, .int x1), (2, .int 2), (3, .int x3)], [.int 1], hh) _
                  refine st_ifc (b := true) rfl (by decide) ?_
                  show Ev _ _ _ (20, _, _, _) _
                  refine sp_aload_n (p2 := 21) rfl rfl rfl ?_
                  refine st_get rfl hh_148 rfl ?_
                  show Ev _ _ _ (24, _, _, _) _
                  refine sp_iload_n (p2 := 25) rfl rfl rfl ?_
                  refine st_iald (x := (-1)) rfl (by decide) hh_192 rfl rfl ?_
                  show Ev _ _ _ (26, _, _, _) _
                  refine sp_iconst (p2 := 27) (x := (-1)) rfl rfl (by decide) ?_
                  refine st_icmp (b := false) rfl (by decide) ?_
                  show Ev _ _ _ (30, _, _, _) _
                  refine sp_bipush (p2 := 32) (x := (-11)) rfl rfl (by decide) ?_
                  exact sp_iret rfl rfl
              · obtain rfl : x2 = 3 := i32_ext (by have e9 : Int32.toInt 3 = 3 := rfl; omega)
                refine ⟨.int (-11), hh, hh, ?_, ?_⟩
                · refine ca_of (d := 19) (M := mX11_rail) rfl (Nat.le_of_ble_eq_true rfl) ?_
                  show Ev im_K0 19 mX11_rail (0, [(0, .ref 16), (1, .int x1), (2, .int 3), (3, .int x3)], [], hh) _
                  refine sp_iload_n (p2 := 1) rfl rfl rfl ?_
                  refine sp_iconst (p2 := 2) (x := 3) rfl rfl (by decide) ?_
                  refine st_callS rfl rfl rfl (cl_within_T (b := 3) rfl (by omega)) ?_
                  show Ev _ _ _ (5, [(0, .ref 16), (1, .int x1), (2, .int 3), (3, .int x3)], [.int 1], hh) _
                  refine st_ifc (b := false) rfl (by decide) ?_
                  show Ev _ _ _ (8, _, _, _) _
                  refine sp_iload_n (p2 := 9) rfl rfl rfl ?_
                  refine sp_iconst (p2 := 10) (x := 4) rfl rfl (by decide) ?_
                  refine st_callS rfl rfl rfl (cl_within_T (n := 3) (b := 4) (show Int32.toInt _ = _ from rfl) (by have e9 : Int32.toInt 3 = 3 := rfl; omega)) ?_
                  show Ev _ _ _ (13, [(0, .ref 16), (1, .int x1), (2, .int 3), (3, .int x3)], [.int 1], hh) _
                  refine st_ifc (b := true) rfl (by decide) ?_
                  show Ev _ _ _ (18, _, _, _) _
                  refine sp_aload_n (p2 := 19) rfl rfl rfl ?_
                  refine st_get rfl hh_0 rfl ?_
                  show Ev _ _ _ (22, _, _, _) _
                  refine sp_iload_n (p2 := 23) rfl rfl rfl ?_
                  refine st_aald (v := .ref 162) rfl hh_97 (by decide) rfl ?_
                  show Ev _ _ _ (24, _, _, _) _
                  refine sp_astore (p2 := 26) (lv2 := [(4, .ref 162), (0, .ref 16), (1, .int x1), (2, .int 3), (3, .int x3)]) rfl rfl (by decide) rfl ?_
                  refine sp_aload (p2 := 28) rfl rfl rfl ?_
                  have c1 : Ca 19 41 [.ref 162] hh (some (.int 1), hh) := by
                    refine ca_of (d := 18) (M := mX8_isMissing) rfl (Nat.le_of_ble_eq_true rfl) ?_
                    show Ev im_K0 18 mX8_isMissing (0, [(0, .ref 162)], [], hh) _
                    refine sp_aload_n (p2 := 1) rfl rfl rfl ?_
                    refine st_get rfl hh_146 rfl ?_
                    show Ev _ _ _ (4, _, _, _) _
                    refine sp_iconst (p2 := 5) (x := (-1)) rfl rfl (by decide) ?_
                    refine st_icmp (b := false) rfl (by decide) ?_
                    show Ev _ _ _ (8, _, _, _) _
                    refine sp_iconst (p2 := 9) (x := 1) rfl rfl (by decide) ?_
                    refine sp_goto rfl ?_
                    exact sp_zret rfl rfl (by decide)
                  refine st_callV (R := 162) rfl rfl rfl hh_146 rfl c1 ?_
                  show Ev _ _ _ (31, [(4, .ref 162), (0, .ref 16), (1, .int x1), (2, .int 3), (3, .int x3)], [.int 1], hh) _
                  refine st_ifc (b := false) rfl (by decide) ?_
                  show Ev _ _ _ (34, _, _, _) _
                  refine sp_bipush (p2 := 36) (x := (-11)) rfl rfl (by decide) ?_
                  exact sp_iret rfl rfl
                · refine ca_of (d := 19) (M := mX12_rail) rfl (Nat.le_of_ble_eq_true rfl) ?_
                  show Ev im_K0 19 mX12_rail (0, [(0, .ref 164), (1, .int x1), (2, .int 3), (3, .int x3)], [], hh) _
                  refine sp_iload_n (p2 := 1) rfl rfl rfl ?_
                  refine sp_iconst (p2 := 2) (x := 0) rfl rfl (by decide) ?_
                  refine sp_iconst (p2 := 3) (x := 2) rfl rfl (by decide) ?_
                  refine st_callS rfl rfl rfl (cl_in_T (a := 0) (b := 2) rfl rfl (by omega)) ?_
                  show Ev _ _ _ (6, [(0, .ref 164), (1, .int x1), (2, .int 3), (3, .int x3)], [.int 1], hh) _
                  refine st_ifc (b := false) rfl (by decide) ?_
                  show Ev _ _ _ (9, _, _, _) _
                  refine sp_iload_n (p2 := 10) rfl rfl rfl ?_
                  refine sp_iconst (p2 := 11) (x := 0) rfl rfl (by decide) ?_
                  refine sp_iconst (p2 := 12) (x := 3) rfl rfl (by decide) ?_
                  refine st_callS rfl rfl rfl (cl_in_T (n := 3) (a := 0) (b := 3) (show Int32.toInt _ = _ from rfl) (show Int32.toInt _ = _ from rfl) (by have e9 : Int32.toInt 3 = 3 := rfl; omega)) ?_
                  show Ev _ _ _ (15, [(0, .ref 164), (1, .int x1), (2, .int 3), (3, .int x3)], [.int 1], hh) _
                  refine st_ifc (b := true) rfl (by decide) ?_
                  show Ev _ _ _ (20, _, _, _) _
                  refine sp_aload_n (p2 := 21) rfl rfl rfl ?_
                  refine st_get rfl hh_148 rfl ?_
                  show Ev _ _ _ (24, _, _, _) _
                  refine sp_iload_n (p2 := 25) rfl rfl rfl ?_
                  refine st_iald (x := (-1)) rfl (by decide) hh_192 rfl rfl ?_
                  show Ev _ _ _ (26, _, _, _) _
                  refine sp_iconst (p2 := 27) (x := (-1)) rfl rfl (by decide) ?_
                  refine st_icmp (b := false) rfl (by decide) ?_
                  show Ev _ _ _ (30, _, _, _) _
                  refine sp_bipush (p2 := 32) (x := (-11)) rfl rfl (by decide) ?_
                  exact sp_iret rfl rfl
        · refine ⟨.int (-1), hh, hh, ?_, ?_⟩
          · refine ca_of (d := 19) (M := mX11_rail) rfl (Nat.le_of_ble_eq_true rfl) ?_
            show Ev im_K0 19 mX11_rail (0, [(0, .ref 16), (1, .int x1), (2, .int x2), (3, .int x3)], [], hh) _
            refine sp_iload_n (p2 := 1) rfl rfl rfl ?_
            refine sp_iconst (p2 := 2) (x := 3) rfl rfl (by decide) ?_
            refine st_callS rfl rfl rfl (cl_within_T (b := 3) rfl (by omega)) ?_
            show Ev _ _ _ (5, [(0, .ref 16), (1, .int x1), (2, .int x2), (3, .int x3)], [.int 1], hh) _
            refine st_ifc (b := false) rfl (by decide) ?_
            show Ev _ _ _ (8, _, _, _) _
            refine sp_iload_n (p2 := 9) rfl rfl rfl ?_
            refine sp_iconst (p2 := 10) (x := 4) rfl rfl (by decide) ?_
            refine st_callS rfl rfl rfl (cl_within_F (b := 4) rfl (by omega)) ?_
            show Ev _ _ _ (13, [(0, .ref 16), (1, .int x1), (2, .int x2), (3, .int x3)], [.int 0], hh) _
            refine st_ifc (b := false) rfl (by decide) ?_
            show Ev _ _ _ (16, _, _, _) _
            refine sp_iconst (p2 := 17) (x := (-1)) rfl rfl (by decide) ?_
            exact sp_iret rfl rfl
          · refine ca_of (d := 19) (M := mX12_rail) rfl (Nat.le_of_ble_eq_true rfl) ?_
            show Ev im_K0 19 mX12_rail (0, [(0, .ref 164), (1, .int x1), (2, .int x2), (3, .int x3)], [], hh) _
            refine sp_iload_n (p2 := 1) rfl rfl rfl ?_
            refine sp_iconst (p2 := 2) (x := 0) rfl rfl (by decide) ?_
            refine sp_iconst (p2 := 3) (x := 2) rfl rfl (by decide) ?_
            refine st_callS rfl rfl rfl (cl_in_T (a := 0) (b := 2) rfl rfl (by omega)) ?_
            show Ev _ _ _ (6, [(0, .ref 164), (1, .int x1), (2, .int x2), (3, .int x3)], [.int 1], hh) _
            refine st_ifc (b := false) rfl (by decide) ?_
            show Ev _ _ _ (9, _, _, _) _
            refine sp_iload_n (p2 := 10) rfl rfl rfl ?_
            refine sp_iconst (p2 := 11) (x := 0) rfl rfl (by decide) ?_
            refine sp_iconst (p2 := 12) (x := 3) rfl rfl (by decide) ?_
            refine st_callS rfl rfl rfl (cl_in_F (a := 0) (b := 3) rfl rfl (by omega)) ?_
            show Ev _ _ _ (15, [(0, .ref 164), (1, .int x1), (2, .int x2), (3, .int x3)], [.int 0], hh) _
            refine st_ifc (b := false) rfl (by decide) ?_
            show Ev _ _ _ (18, _, _, _) _
            refine sp_iconst (p2 := 19) (x := (-1)) rfl rfl (by decide) ?_
            exact sp_iret rfl rfl
    · refine ⟨.int (-1), hh, hh, ?_, ?_⟩
      · refine ca_of (d := 19) (M := mX11_rail) rfl (Nat.le_of_ble_eq_true rfl) ?_
        show Ev im_K0 19 mX11_rail (0, [(0, .ref 16), (1, .int x1), (2, .int x2), (3, .int x3)], [], hh) _
        refine sp_iload_n (p2 := 1) rfl rfl rfl ?_
        refine sp_iconst (p2 := 2) (x := 3) rfl rfl (by decide) ?_
        refine st_callS rfl rfl rfl (cl_within_F (b := 3) rfl (by omega)) ?_
        show Ev _ _ _ (5, [(0, .ref 16), (1, .int x1), (2, .int x2), (3, .int x3)], [.int 0], hh) _
        refine st_ifc (b := true) rfl (by decide) ?_
        show Ev _ _ _ (16, _, _, _) _
        refine sp_iconst (p2 := 17) (x := (-1)) rfl rfl (by decide) ?_
        exact sp_iret rfl rfl
      · refine ca_of (d := 19) (M := mX12_rail) rfl (Nat.le_of_ble_eq_true rfl) ?_
        show Ev im_K0 19 mX12_rail (0, [(0, .ref 164), (1, .int x1), (2, .int x2), (3, .int x3)], [], hh) _
        refine sp_iload_n (p2 := 1) rfl rfl rfl ?_
        refine sp_iconst (p2 := 2) (x := 0) rfl rfl (by decide) ?_
        refine sp_iconst (p2 := 3) (x := 2) rfl rfl (by decide) ?_
        refine st_callS rfl rfl rfl (cl_in_F (a := 0) (b := 2) rfl rfl (by omega)) ?_
        show Ev _ _ _ (6, [(0, .ref 164), (1, .int x1), (2, .int x2), (3, .int x3)], [.int 0], hh) _
        refine st_ifc (b := true) rfl (by decide) ?_
        show Ev _ _ _ (18, _, _, _) _
        refine sp_iconst (p2 := 19) (x := (-1)) rfl rfl (by decide) ?_
        exact sp_iret rfl rfl
set_option maxRecDepth 10000 in
set_option maxHeartbeats 4000000 in
theorem q_room (x1 x2 x3 x4 : Int32) : ∃ (v : Value) (h1 h2 : im_H), Ca 20 71 [.ref 16, .int x1, .int x2, .int x3, .int x4] hh (some v, h1) ∧ Ca 20 133 [.ref 164, .int x1, .int x2, .int x3, .int x4] h1 (some v, h2) := by
  by_cases h1 : x1.toInt ≤ (-1)
  · refine ⟨.int (-1), hh, hh, ?_, ?_⟩
    · refine ca_of (d := 19) (M := mX11_room) rfl (Nat.le_of_ble_eq_true rfl) ?_
      show Ev im_K0 19 mX11_room (0, [(0, .ref 16), (1, .int x1), (2, .int x2), (3, .int x3), (4, .int x4)], [], hh) _
      refine sp_iload_n (p2 := 1) rfl rfl rfl ?_
      refine sp_bipush (p2 := 3) (x := 100) rfl rfl (by decide) ?_
      refine st_callS rfl rfl rfl (cl_within_F (b := 100) rfl (by omega)) ?_
      show Ev _ _ _ (6, [(0, .ref 16), (1, .int x1), (2, .int x2), (3, .int x3), (4, .int x4)], [.int 0], hh) _
      refine st_ifc (b := false) rfl (by decide) ?_
      show Ev _ _ _ (9, _, _, _) _
      refine sp_iconst (p2 := 10) (x := (-1)) rfl rfl (by decide) ?_
      exact sp_iret rfl rfl
    · refine ca_of (d := 19) (M := mX12_room) rfl (Nat.le_of_ble_eq_true rfl) ?_
      show Ev im_K0 19 mX12_room (0, [(0, .ref 164), (1, .int x1), (2, .int x2), (3, .int x3), (4, .int x4)], [], hh) _
      refine sp_iload_n (p2 := 1) rfl rfl rfl ?_
      refine st_callS rfl rfl rfl (cl_isCell_F (by omega)) ?_
      show Ev _ _ _ (4, [(0, .ref 164), (1, .int x1), (2, .int x2), (3, .int x3), (4, .int x4)], [.int 0], hh) _
      refine st_ifc (b := false) rfl (by decide) ?_
      show Ev _ _ _ (7, _, _, _) _
      refine sp_iconst (p2 := 8) (x := (-1)) rfl rfl (by decide) ?_
      exact sp_iret rfl rfl
  · by_cases h2 : x1.toInt ≤ 99
    · by_cases h3 : x2.toInt ≤ (-1)
      · refine ⟨.int (-2), hh, hh, ?_, ?_⟩
        · refine ca_of (d := 19) (M := mX11_room) rfl (Nat.le_of_ble_eq_true rfl) ?_
          show Ev im_K0 19 mX11_room (0, [(0, .ref 16), (1, .int x1), (2, .int x2), (3, .int x3), (4, .int x4)], [], hh) _
          refine sp_iload_n (p2 := 1) rfl rfl rfl ?_
          refine sp_bipush (p2 := 3) (x := 100) rfl rfl (by decide) ?_
          refine st_callS rfl rfl rfl (cl_within_T (b := 100) rfl (by omega)) ?_
          show Ev _ _ _ (6, [(0, .ref 16), (1, .int x1), (2, .int x2), (3, .int x3), (4, .int x4)], [.int 1], hh) _
          refine st_ifc (b := true) rfl (by decide) ?_
          show Ev _ _ _ (11, _, _, _) _
          refine sp_iload_n (p2 := 12) rfl rfl rfl ?_
          refine sp_iconst (p2 := 13) (x := 0) rfl rfl (by decide) ?_
          refine sp_sipush (p2 := 16) (x := 9999) rfl rfl (by decide) ?_
          refine st_callS rfl rfl rfl (cl_between_F (a := 0) (b := 9999) rfl rfl (by omega)) ?_
          show Ev _ _ _ (19, [(0, .ref 16), (1, .int x1), (2, .int x2), (3, .int x3), (4, .int x4)], [.int 0], hh) _
          refine st_ifc (b := true) rfl (by decide) ?_
          show Ev _ _ _ (44, _, _, _) _
          refine sp_bipush (p2 := 46) (x := (-2)) rfl rfl (by decide) ?_
          exact sp_iret rfl rfl
        · refine ca_of (d := 19) (M := mX12_room) rfl (Nat.le_of_ble_eq_true rfl) ?_
          show Ev im_K0 19 mX12_room (0, [(0, .ref 164), (1, .int x1), (2, .int x2), (3, .int x3), (4, .int x4)], [], hh) _
          refine sp_iload_n (p2 := 1) rfl rfl rfl ?_
          refine st_callS rfl rfl rfl (cl_isCell_T (by omega)) ?_
          show Ev _ _ _ (4, [(0, .ref 164), (1, .int x1), (2, .int x2), (3, .int x3), (4, .int x4)], [.int 1], hh) _
          refine st_ifc (b := true) rfl (by decide) ?_
          show Ev _ _ _ (9, _, _, _) _
          refine sp_iload_n (p2 := 10) rfl rfl rfl ?_
          refine sp_iconst (p2 := 11) (x := 0) rfl rfl (by decide) ?_
          refine sp_sipush (p2 := 14) (x := 9999) rfl rfl (by decide) ?_
          refine st_callS rfl rfl rfl (cl_in_F (a := 0) (b := 9999) rfl rfl (by omega)) ?_
          show Ev _ _ _ (17, [(0, .ref 164), (1, .int x1), (2, .int x2), (3, .int x3), (4, .int x4)], [.int 0], hh) _
          refine st_ifc (b := true) rfl (by decide) ?_
          show Ev _ _ _ (42, _, _, _) _
          refine sp_bipush (p2 := 44) (x := (-2)) rfl rfl (by decide) ?_
          exact sp_iret rfl rfl
      · by_cases h4 : x2.toInt ≤ 9999
        · by_cases h5 : x3.toInt ≤ (-1)
          · refine ⟨.int (-2), hh, hh, ?_, ?_⟩
            · refine ca_of (d := 19) (M := mX11_room) rfl (Nat.le_of_ble_eq_true rfl) ?_
              show Ev im_K0 19 mX11_room (0, [(0, .ref 16), (1, .int x1), (2, .int x2), (3, .int x3), (4, .int x4)], [], hh) _
              refine sp_iload_n (p2 := 1) rfl rfl rfl ?_
              refine sp_bipush (p2 := 3) (x := 100) rfl rfl (by decide) ?_
              refine st_callS rfl rfl rfl (cl_within_T (b := 100) rfl (by omega)) ?_
              show Ev _ _ _ (6, [(0, .ref 16), (1, .int x1), (2, .int x2), (3, .int x3), (4, .int x4)], [.int 1], hh) _
              refine st_ifc (b := true) rfl (by decide) ?_
              show Ev _ _ _ (11, _, _, _) _
              refine sp_iload_n (p2 := 12) rfl rfl rfl ?_
              refine sp_iconst (p2 := 13) (x := 0) rfl rfl (by decide) ?_
              refine sp_sipush (p2 := 16) (x := 9999) rfl rfl (by decide) ?_
              refine st_callS rfl rfl rfl (cl_between_T (a := 0) (b := 9999) rfl rfl (by omega)) ?_
              show Ev _ _ _ (19, [(0, .ref 16), (1, .int x1), (2, .int x2), (3, .int x3), (4, .int x4)], [.int 1], hh) _
              refine st_ifc (b := false) rfl (by decide) ?_
              show Ev _ _ _ (22, _, _, _) _
              refine sp_iload_n (p2 := 23) rfl rfl rfl ?_
              refine sp_iconst (p2 := 24) (x := 0) rfl rfl (by decide) ?_
              refine sp_sipush (p2 := 27) (x := 999) rfl rfl (by decide) ?_
              refine st_callS rfl rfl rfl (cl_between_F (a := 0) (b := 999) rfl rfl (by omega)) ?_
              show Ev _ _ _ (30, [(0, .ref 16), (1, .int x1), (2, .int x2), (3, .int x3), (4, .int x4)], [.int 0], hh) _
              refine st_ifc (b := true) rfl (by decide) ?_
              show Ev _ _ _ (44, _, _, _) _
              refine sp_bipush (p2 := 46) (x := (-2)) rfl rfl (by decide) ?_
              exact sp_iret rfl rfl
            · refine ca_of (d := 19) (M := mX12_room) rfl (Nat.le_of_ble_eq_true rfl) ?_
              show Ev im_K0 19 mX12_room (0, [(0, .ref 164), (1, .int x1), (2, .int x2), (3, .int x3), (4, .int x4)], [], hh) _
              refine sp_iload_n (p2 := 1) rfl rfl rfl ?_
              refine st_callS rfl rfl rfl (cl_isCell_T (by omega)) ?_
              show Ev _ _ _ (4, [(0, .ref 164), (1, .int x1), (2, .int x2), (3, .int x3), (4, .int x4)], [.int 1], hh) _
              refine st_ifc (b := true) rfl (by decide) ?_
              show Ev _ _ _ (9, _, _, _) _
              refine sp_iload_n (p2 := 10) rfl rfl rfl ?_
              refine sp_iconst (p2 := 11) (x := 0) rfl rfl (by decide) ?_
              refine sp_sipush (p2 := 14) (x := 9999) rfl rfl (by decide) ?_
              refine st_callS rfl rfl rfl (cl_in_T (a := 0) (b := 9999) rfl rfl (by omega)) ?_
              show Ev _ _ _ (17, [(0, .ref 164), (1, .int x1), (2, .int x2), (3, .int x3), (4, .int x4)], [.int 1], hh) _
              refine st_ifc (b := false) rfl (by decide) ?_
              show Ev _ _ _ (20, _, _, _) _
              refine sp_iload_n (p2 := 21) rfl rfl rfl ?_
              refine sp_iconst (p2 := 22) (x := 0) rfl rfl (by decide) ?_
              refine sp_sipush (p2 := 25) (x := 999) rfl rfl (by decide) ?_
              refine st_callS rfl rfl rfl (cl_in_F (a := 0) (b := 999) rfl rfl (by omega)) ?_
              show Ev _ _ _ (28, [(0, .ref 164), (1, .int x1), (2, .int x2), (3, .int x3), (4, .int x4)], [.int 0], hh) _
              refine st_ifc (b := true) rfl (by decide) ?_
              show Ev _ _ _ (42, _, _, _) _
              refine sp_bipush (p2 := 44) (x := (-2)) rfl rfl (by decide) ?_
              exact sp_iret rfl rfl
          · by_cases h6 : x3.toInt ≤ 999
            · by_cases h7 : x4.toInt ≤ 0
              · refine ⟨.int (-2), hh, hh, ?_, ?_⟩
                · refine ca_of (d := 19) (M := mX11_room) rfl (Nat.le_of_ble_eq_true rfl) ?_
                  show Ev im_K0 19 mX11_room (0, [(0, .ref 16), (1, .int x1), (2, .int x2), (3, .int x3), (4, .int x4)], [], hh) _
                  refine sp_iload_n (p2 := 1) rfl rfl rfl ?_
                  refine sp_bipush (p2 := 3) (x := 100) rfl rfl (by decide) ?_
                  refine st_callS rfl rfl rfl (cl_within_T (b := 100) rfl (by omega)) ?_
                  show Ev _ _ _ (6, [(0, .ref 16), (1, .int x1), (2, .int x2), (3, .int x3), (4, .int x4)], [.int 1], hh) _
                  refine st_ifc (b := true) rfl (by decide) ?_
                  show Ev _ _ _ (11, _, _, _) _
                  refine sp_iload_n (p2 := 12) rfl rfl rfl ?_
                  refine sp_iconst (p2 := 13) (x := 0) rfl rfl (by decide) ?_
                  refine sp_sipush (p2 := 16) (x := 9999) rfl rfl (by decide) ?_
                  refine st_callS rfl rfl rfl (cl_between_T (a := 0) (b := 9999) rfl rfl (by omega)) ?_
                  show Ev _ _ _ (19, [(0, .ref 16), (1, .int x1), (2, .int x2), (3, .int x3), (4, .int x4)], [.int 1], hh) _
                  refine st_ifc (b := false) rfl (by decide) ?_
                  show Ev _ _ _ (22, _, _, _) _
                  refine sp_iload_n (p2 := 23) rfl rfl rfl ?_
                  refine sp_iconst (p2 := 24) (x := 0) rfl rfl (by decide) ?_
                  refine sp_sipush (p2 := 27) (x := 999) rfl rfl (by decide) ?_
                  refine st_callS rfl rfl rfl (cl_between_T (a := 0) (b := 999) rfl rfl (by omega)) ?_
                  show Ev _ _ _ (30, [(0, .ref 16), (1, .int x1), (2, .int x2), (3, .int x3), (4, .int x4)], [.int 1], hh) _
                  refine st_ifc (b := false) rfl (by decide) ?_
                  show Ev _ _ _ (33, _, _, _) _
                  refine sp_iload (p2 := 35) rfl rfl rfl ?_
                  refine sp_iconst (p2 := 36) (x := 1) rfl rfl (by decide) ?_
                  refine sp_bipush (p2 := 38) (x := 99) rfl rfl (by decide) ?_
                  refine st_callS rfl rfl rfl (cl_between_F (a := 1) (b := 99) rfl rfl (by omega)) ?_
                  show Ev _ _ _ (41, [(0, .ref 16), (1, .int x1), (2, .int x2), (3, .int x3), (4, .int x4)], [.int 0], hh) _
                  refine st_ifc (b := false) rfl (by decide) ?_
                  show Ev _ _ _ (44, _, _, _) _
                  refine sp_bipush (p2 := 46) (x := (-2)) rfl rfl (by decide) ?_
                  exact sp_iret rfl rfl
                · refine ca_of (d := 19) (M := mX12_room) rfl (Nat.le_of_ble_eq_true rfl) ?_
                  show Ev im_K0 19 mX12_room (0, [(0, .ref 164), (1, .int x1), (2, .int x2), (3, .int x3), (4, .int x4)], [], hh) _
                  refine sp_iload_n (p2 := 1) rfl rfl rfl ?_
                  refine st_callS rfl rfl rfl (cl_isCell_T (by omega)) ?_
                  show Ev _ _ _ (4, [(0, .ref 164), (1, .int x1), (2, .int x2), (3, .int x3), (4, .int x4)], [.int 1], hh) _
                  refine st_ifc (b := true) rfl (by decide) ?_
                  show Ev _ _ _ (9, _, _, _) _
                  refine sp_iload_n (p2 := 10) rfl rfl rfl ?_
                  refine sp_iconst (p2 := 11) (x := 0) rfl rfl (by decide) ?_
                  refine sp_sipush (p2 := 14) (x := 9999) rfl rfl (by decide) ?_
                  refine st_callS rfl rfl rfl (cl_in_T (a := 0) (b := 9999) rfl rfl (by omega)) ?_
                  show Ev _ _ _ (17, [(0, .ref 164), (1, .int x1), (2, .int x2), (3, .int x3), (4, .int x4)], [.int 1], hh) _
                  refine st_ifc (b := false) rfl (by decide) ?_
                  show Ev _ _ _ (20, _, _, _) _
                  refine sp_iload_n (p2 := 21) rfl rfl rfl ?_
                  refine sp_iconst (p2 := 22) (x := 0) rfl rfl (by decide) ?_
                  refine sp_sipush (p2 := 25) (x := 999) rfl rfl (by decide) ?_
                  refine st_callS rfl rfl rfl (cl_in_T (a := 0) (b := 999) rfl rfl (by omega)) ?_
                  show Ev _ _ _ (28, [(0, .ref 164), (1, .int x1), (2, .int x2), (3, .int x3), (4, .int x4)], [.int 1], hh) _
                  refine st_ifc (b := false) rfl (by decide) ?_
                  show Ev _ _ _ (31, _, _, _) _
                  refine sp_iload (p2 := 33) rfl rfl rfl ?_
                  refine sp_iconst (p2 := 34) (x := 1) rfl rfl (by decide) ?_
                  refine sp_bipush (p2 := 36) (x := 99) rfl rfl (by decide) ?_
                  refine st_callS rfl rfl rfl (cl_in_F (a := 1) (b := 99) rfl rfl (by omega)) ?_
                  show Ev _ _ _ (39, [(0, .ref 164), (1, .int x1), (2, .int x2), (3, .int x3), (4, .int x4)], [.int 0], hh) _
                  refine st_ifc (b := false) rfl (by decide) ?_
                  show Ev _ _ _ (42, _, _, _) _
                  refine sp_bipush (p2 := 44) (x := (-2)) rfl rfl (by decide) ?_
                  exact sp_iret rfl rfl
              · by_cases h8 : x4.toInt ≤ 99
                · refine ⟨.int 0, (((((hh.set 73 (.inl (0, .inl (((List.replicate 12 0 : List Int32)).set 0 x1)))).set 74 (.inl (0, .inl (((List.replicate 12 0 : List Int32)).set 0 x2)))).set 75 (.inl (0, .inl (((List.replicate 12 0 : List Int32)).set 0 x3)))).set 76 (.inl (0, .inl (((List.replicate 12 0 : List Int32)).set 0 x4)))).set 72 (.inr (6, [.int 1, .ref 89, .ref 90, .ref 91, .ref 92, .int 0, .int 0, .int 0, .int 0]))), ((((((((((hh.set 73 (.inl (0, .inl (((List.replicate 12 0 : List Int32)).set 0 x1)))).set 74 (.inl (0, .inl (((List.replicate 12 0 : List Int32)).set 0 x2)))).set 75 (.inl (0, .inl (((List.replicate 12 0 : List Int32)).set 0 x3)))).set 76 (.inl (0, .inl (((List.replicate 12 0 : List Int32)).set 0 x4)))).set 72 (.inr (6, [.int 1, .ref 89, .ref 90, .ref 91, .ref 92, .int 0, .int 0, .int 0, .int 0]))).set 169 (.inl (0, .inl (((List.replicate 12 0 : List Int32)).set 0 x1)))).set 170 (.inl (0, .inl (((List.replicate 12 0 : List Int32)).set 0 x2)))).set 171 (.inl (0, .inl (((List.replicate 12 0 : List Int32)).set 0 x3)))).set 172 (.inl (0, .inl (((List.replicate 12 0 : List Int32)).set 0 x4)))).set 148 (.inr (12, [.ref 165, .ref 166, .ref 167, .int 0, .ref 168, .ref 169, .ref 170, .ref 171, .ref 172, .int (-1), .int 0, .ref 173, .ref 174, .ref 175, .ref 176, .ref 177, .ref 178, .ref 179, .ref 180, .ref 181, .ref 182, .int 0, .ref 183, .ref 184, .int 1, .ref 185, .ref 186, .ref 187, .ref 188, .int 0, .ref 189, .ref 190, .ref 191, .ref 192, .ref 193, .int 0, .ref 194, .ref 195, .ref 196, .ref 197, .ref 198, .int 0, .ref 199, .int 0, .ref 200, .int 0, .int 0, .int (-1), .ref 201, .ref 202, .ref 203, .ref 204, .ref 205, .ref 206, .ref 207, .ref 208, .ref 209, .ref 210, .ref 211, .ref 212, .int 0, .int 0, .int 0, .ref 213, .ref 214, .ref 215]))), ?_, ?_⟩
                  · refine ca_of (d := 19) (M := mX11_room) rfl (Nat.le_of_ble_eq_true rfl) ?_
                    show Ev im_K0 19 mX11_room (0, [(0, .ref 16), (1, .int x1), (2, .int x2), (3, .int x3), (4, .int x4)], [], hh) _
                    refine sp_iload_n (p2 := 1) rfl rfl rfl ?_
                    refine sp_bipush (p2 := 3) (x := 100) rfl rfl (by decide) ?_
                    refine st_callS rfl rfl rfl (cl_within_T (b := 100) rfl (by omega)) ?_
                    show Ev _ _ _ (6, [(0, .ref 16), (1, .int x1), (2, .int x2), (3, .int x3), (4, .int x4)], [.int 1], hh) _
                    refine st_ifc (b := true) rfl (by decide) ?_
                    show Ev _ _ _ (11, _, _, _) _
                    refine sp_iload_n (p2 := 12) rfl rfl rfl ?_
                    refine sp_iconst (p2 := 13) (x := 0) rfl rfl (by decide) ?_
                    refine sp_sipush (p2 := 16) (x := 9999) rfl rfl (by decide) ?_
                    refine st_callS rfl rfl rfl (cl_between_T (a := 0) (b := 9999) rfl rfl (by omega)) ?_
                    show Ev _ _ _ (19, [(0, .ref 16), (1, .int x1), (2, .int x2), (3, .int x3), (4, .int x4)], [.int 1], hh) _
                    refine st_ifc (b := false) rfl (by decide) ?_
                    show Ev _ _ _ (22, _, _, _) _
                    refine sp_iload_n (p2 := 23) rfl rfl rfl ?_
                    refine sp_iconst (p2 := 24) (x := 0) rfl rfl (by decide) ?_
                    refine sp_sipush (p2 := 27) (x := 999) rfl rfl (by decide) ?_
                    refine st_callS rfl rfl rfl (cl_between_T (a := 0) (b := 999) rfl rfl (by omega)) ?_
                    show Ev _ _ _ (30, [(0, .ref 16), (1, .int x1), (2, .int x2), (3, .int x3), (4, .int x4)], [.int 1], hh) _
                    refine st_ifc (b := false) rfl (by decide) ?_
                    show Ev _ _ _ (33, _, _, _) _
                    refine sp_iload (p2 := 35) rfl rfl rfl ?_
                    refine sp_iconst (p2 := 36) (x := 1) rfl rfl (by decide) ?_
                    refine sp_bipush (p2 := 38) (x := 99) rfl rfl (by decide) ?_
                    refine st_callS rfl rfl rfl (cl_between_T (a := 1) (b := 99) rfl rfl (by omega)) ?_
                    show Ev _ _ _ (41, [(0, .ref 16), (1, .int x1), (2, .int x2), (3, .int x3), (4, .int x4)], [.int 1], hh) _
                    refine st_ifc (b := true) rfl (by decide) ?_
                    show Ev _ _ _ (47, _, _, _) _
                    refine sp_aload_n (p2 := 48) rfl rfl rfl ?_
                    refine st_get rfl hh_0 rfl ?_
                    show Ev _ _ _ (51, _, _, _) _
                    refine st_get rfl hh_72 rfl ?_
                    show Ev _ _ _ (54, _, _, _) _
                    refine sp_bipush (p2 := 56) (x := 12) rfl rfl (by decide) ?_
                    refine st_icmp (b := true) rfl (by decide) ?_
                    show Ev _ _ _ (62, _, _, _) _
                    refine sp_aload_n (p2 := 63) rfl rfl rfl ?_
                    refine st_get rfl hh_0 rfl ?_
                    show Ev _ _ _ (66, _, _, _) _
                    refine st_get rfl hh_72 rfl ?_
                    show Ev _ _ _ (69, _, _, _) _
                    refine sp_istore (p2 := 71) (lv2 := [(5, .int 0), (0, .ref 16), (1, .int x1), (2, .int x2), (3, .int x3), (4, .int x4)]) rfl rfl (by decide) rfl ?_
                    refine sp_aload_n (p2 := 72) rfl rfl rfl ?_
                    refine st_get rfl hh_0 rfl ?_
                    show Ev _ _ _ (75, _, _, _) _
                    refine st_get rfl hh_72 rfl ?_
                    show Ev _ _ _ (78, _, _, _) _
                    refine sp_iload (p2 := 80) rfl rfl rfl ?_
                    refine sp_iload_n (p2 := 81) rfl rfl rfl ?_
                    refine st_iast (i := 73) rfl rfl hh_73 rfl ?_
                    show Ev _ _ _ (82, [(5, .int 0), (0, .ref 16), (1, .int x1), (2, .int x2), (3, .int x3), (4, .int x4)], [], (hh.set 73 (.inl (0, .inl (((List.replicate 12 0 : List Int32)).set 0 x1))))) _
                    refine sp_aload_n (p2 := 83) rfl rfl rfl ?_
                    refine st_get rfl (ob_ne (by decide) hh_0) rfl ?_
                    show Ev _ _ _ (86, _, _, _) _
                    refine st_get rfl (ob_ne (by decide) hh_72) rfl ?_
                    show Ev _ _ _ (89, _, _, _) _
                    refine sp_iload (p2 := 91) rfl rfl rfl ?_
                    refine sp_iload_n (p2 := 92) rfl rfl rfl ?_
                    refine st_iast (i := 74) rfl rfl (ia_ne (by decide) hh_74) rfl ?_
                    show Ev _ _ _ (93, [(5, .int 0), (0, .ref 16), (1, .int x1), (2, .int x2), (3, .int x3), (4, .int x4)], [], ((hh.set 73 (.inl (0, .inl (((List.replicate 12 0 : List Int32)).set 0 x1)))).set 74 (.inl (0, .inl (((List.replicate 12 0 : List Int32)).set 0 x2))))) _
                    refine sp_aload_n (p2 := 94) rfl rfl rfl ?_
                    refine st_get rfl (ob_ne (by decide) (ob_ne (by decide) hh_0)) rfl ?_
                    show Ev _ _ _ (97, _, _, _) _
                    refine st_get rfl (ob_ne (by decide) (ob_ne (by decide) hh_72)) rfl ?_
                    show Ev _ _ _ (100, _, _, _) _
                    refine sp_iload (p2 := 102) rfl rfl rfl ?_
                    refine sp_iload_n (p2 := 103) rfl rfl rfl ?_
                    refine st_iast (i := 75) rfl rfl (ia_ne (by decide) (ia_ne (by decide) hh_75)) rfl ?_
                    show Ev _ _ _ (104, [(5, .int 0), (0, .ref 16), (1, .int x1), (2, .int x2), (3, .int x3), (4, .int x4)], [], (((hh.set 73 (.inl (0, .inl (((List.replicate 12 0 : List Int32)).set 0 x1)))).set 74 (.inl (0, .inl (((List.replicate 12 0 : List Int32)).set 0 x2)))).set 75 (.inl (0, .inl (((List.replicate 12 0 : List Int32)).set 0 x3))))) _
                    refine sp_aload_n (p2 := 105) rfl rfl rfl ?_
                    refine st_get rfl (ob_ne (by decide) (ob_ne (by decide) (ob_ne (by decide) hh_0))) rfl ?_
                    show Ev _ _ _ (108, _, _, _) _
                    refine st_get rfl (ob_ne (by decide) (ob_ne (by decide) (ob_ne (by decide) hh_72))) rfl ?_
                    show Ev _ _ _ (111, _, _, _) _
                    refine sp_iload (p2 := 113) rfl rfl rfl ?_
                    refine sp_iload (p2 := 115) rfl rfl rfl ?_
                    refine st_iast (i := 76) rfl rfl (ia_ne (by decide) (ia_ne (by decide) (ia_ne (by decide) hh_76))) rfl ?_
                    show Ev _ _ _ (116, [(5, .int 0), (0, .ref 16), (1, .int x1), (2, .int x2), (3, .int x3), (4, .int x4)], [], ((((hh.set 73 (.inl (0, .inl (((List.replicate 12 0 : List Int32)).set 0 x1)))).set 74 (.inl (0, .inl (((List.replicate 12 0 : List Int32)).set 0 x2)))).set 75 (.inl (0, .inl (((List.replicate 12 0 : List Int32)).set 0 x3)))).set 76 (.inl (0, .inl (((List.replicate 12 0 : List Int32)).set 0 x4))))) _
                    refine sp_aload_n (p2 := 117) rfl rfl rfl ?_
                    refine st_get rfl (ob_ne (by decide) (ob_ne (by decide) (ob_ne (by decide) (ob_ne (by decide) hh_0)))) rfl ?_
                    show Ev _ _ _ (120, _, _, _) _
                    refine sp_dup (p2 := 121) rfl rfl rfl ?_
                    refine st_get rfl (ob_ne (by decide) (ob_ne (by decide) (ob_ne (by decide) (ob_ne (by decide) hh_72)))) rfl ?_
                    show Ev _ _ _ (124, _, _, _) _
                    refine sp_iconst (p2 := 125) (x := 1) rfl rfl (by decide) ?_
                    refine sp_iadd (p2 := 126) (z := 1) rfl rfl (by decide) ?_
                    refine st_put (i := 72) rfl rfl (ob_ne (by decide) (ob_ne (by decide) (ob_ne (by decide) (ob_ne (by decide) hh_72)))) rfl rfl (Nat.le_of_ble_eq_true rfl) ?_
                    show Ev _ _ _ (129, [(5, .int 0), (0, .ref 16), (1, .int x1), (2, .int x2), (3, .int x3), (4, .int x4)], [], (((((hh.set 73 (.inl (0, .inl (((List.replicate 12 0 : List Int32)).set 0 x1)))).set 74 (.inl (0, .inl (((List.replicate 12 0 : List Int32)).set 0 x2)))).set 75 (.inl (0, .inl (((List.replicate 12 0 : List Int32)).set 0 x3)))).set 76 (.inl (0, .inl (((List.replicate 12 0 : List Int32)).set 0 x4)))).set 72 (.inr (6, [.int 1, .ref 89, .ref 90, .ref 91, .ref 92, .int 0, .int 0, .int 0, .int 0])))) _
                    refine sp_iload (p2 := 131) rfl rfl rfl ?_
                    exact sp_iret rfl rfl
                  · refine ca_of (d := 19) (M := mX12_room) rfl (Nat.le_of_ble_eq_true rfl) ?_
                    show Ev im_K0 19 mX12_room (0, [(0, .ref 164), (1, .int x1), (2, .int x2), (3, .int x3), (4, .int x4)], [], (((((hh.set 73 (.inl (0, .inl (((List.replicate 12 0 : List Int32)).set 0 x1)))).set 74 (.inl (0, .inl (((List.replicate 12 0 : List Int32)).set 0 x2)))).set 75 (.inl (0, .inl (((List.replicate 12 0 : List Int32)).set 0 x3)))).set 76 (.inl (0, .inl (((List.replicate 12 0 : List Int32)).set 0 x4)))).set 72 (.inr (6, [.int 1, .ref 89, .ref 90, .ref 91, .ref 92, .int 0, .int 0, .int 0, .int 0])))) _
                    refine sp_iload_n (p2 := 1) rfl rfl rfl ?_
                    refine st_callS rfl rfl rfl (cl_isCell_T (by omega)) ?_
                    show Ev _ _ _ (4, [(0, .ref 164), (1, .int x1), (2, .int x2), (3, .int x3), (4, .int x4)], [.int 1], (((((hh.set 73 (.inl (0, .inl (((List.replicate 12 0 : List Int32)).set 0 x1)))).set 74 (.inl (0, .inl (((List.replicate 12 0 : List Int32)).set 0 x2)))).set 75 (.inl (0, .inl (((List.replicate 12 0 : List Int32)).set 0 x3)))).set 76 (.inl (0, .inl (((List.replicate 12 0 : List Int32)).set 0 x4)))).set 72 (.inr (6, [.int 1, .ref 89, .ref 90, .ref 91, .ref 92, .int 0, .int 0, .int 0, .int 0])))) _
                    refine st_ifc (b := true) rfl (by decide) ?_
                    show Ev _ _ _ (9, _, _, _) _
                    refine sp_iload_n (p2 := 10) rfl rfl rfl ?_
                    refine sp_iconst (p2 := 11) (x := 0) rfl rfl (by decide) ?_
                    refine sp_sipush (p2 := 14) (x := 9999) rfl rfl (by decide) ?_
                    refine st_callS rfl rfl rfl (cl_in_T (a := 0) (b := 9999) rfl rfl (by omega)) ?_
                    show Ev _ _ _ (17, [(0, .ref 164), (1, .int x1), (2, .int x2), (3, .int x3), (4, .int x4)], [.int 1], (((((hh.set 73 (.inl (0, .inl (((List.replicate 12 0 : List Int32)).set 0 x1)))).set 74 (.inl (0, .inl (((List.replicate 12 0 : List Int32)).set 0 x2)))).set 75 (.inl (0, .inl (((List.replicate 12 0 : List Int32)).set 0 x3)))).set 76 (.inl (0, .inl (((List.replicate 12 0 : List Int32)).set 0 x4)))).set 72 (.inr (6, [.int 1, .ref 89, .ref 90, .ref 91, .ref 92, .int 0, .int 0, .int 0, .int 0])))) _
                    refine st_ifc (b := false) rfl (by decide) ?_
                    show Ev _ _ _ (20, _, _, _) _
                    refine sp_iload_n (p2 := 21) rfl rfl rfl ?_
                    refine sp_iconst (p2 := 22) (x := 0) rfl rfl (by decide) ?_
                    refine sp_sipush (p2 := 25) (x := 999) rfl rfl (by decide) ?_
                    refine st_callS rfl rfl rfl (cl_in_T (a := 0) (b := 999) rfl rfl (by omega)) ?_
                    show Ev _ _ _ (28, [(0, .ref 164), (1, .int x1), (2, .int x2), (3, .int x3), (4, .int x4)], [.int 1], (((((hh.set 73 (.inl (0, .inl (((List.replicate 12 0 : List Int32)).set 0 x1)))).set 74 (.inl (0, .inl (((List.replicate 12 0 : List Int32)).set 0 x2)))).set 75 (.inl (0, .inl (((List.replicate 12 0 : List Int32)).set 0 x3)))).set 76 (.inl (0, .inl (((List.replicate 12 0 : List Int32)).set 0 x4)))).set 72 (.inr (6, [.int 1, .ref 89, .ref 90, .ref 91, .ref 92, .int 0, .int 0, .int 0, .int 0])))) _
                    refine st_ifc (b := false) rfl (by decide) ?_
                    show Ev _ _ _ (31, _, _, _) _
                    refine sp_iload (p2 := 33) rfl rfl rfl ?_
                    refine sp_iconst (p2 := 34) (x := 1) rfl rfl (by decide) ?_
                    refine sp_bipush (p2 := 36) (x := 99) rfl rfl (by decide) ?_
                    refine st_callS rfl rfl rfl (cl_in_T (a := 1) (b := 99) rfl rfl (by omega)) ?_
                    show Ev _ _ _ (39, [(0, .ref 164), (1, .int x1), (2, .int x2), (3, .int x3), (4, .int x4)], [.int 1], (((((hh.set 73 (.inl (0, .inl (((List.replicate 12 0 : List Int32)).set 0 x1)))).set 74 (.inl (0, .inl (((List.replicate 12 0 : List Int32)).set 0 x2)))).set 75 (.inl (0, .inl (((List.replicate 12 0 : List Int32)).set 0 x3)))).set 76 (.inl (0, .inl (((List.replicate 12 0 : List Int32)).set 0 x4)))).set 72 (.inr (6, [.int 1, .ref 89, .ref 90, .ref 91, .ref 92, .int 0, .int 0, .int 0, .int 0])))) _
                    refine st_ifc (b := true) rfl (by decide) ?_
                    show Ev _ _ _ (45, _, _, _) _
                    refine sp_aload_n (p2 := 46) rfl rfl rfl ?_
                    refine st_get rfl (ob_ne (by decide) (ob_ne (by decide) (ob_ne (by decide) (ob_ne (by decide) (ob_ne (by decide) hh_148))))) rfl ?_
                    show Ev _ _ _ (49, _, _, _) _
                    refine sp_bipush (p2 := 51) (x := 12) rfl rfl (by decide) ?_
                    refine st_icmp (b := true) rfl (by decide) ?_
                    show Ev _ _ _ (57, _, _, _) _
                    refine sp_aload_n (p2 := 58) rfl rfl rfl ?_
                    refine st_get rfl (ob_ne (by decide) (ob_ne (by decide) (ob_ne (by decide) (ob_ne (by decide) (ob_ne (by decide) hh_148))))) rfl ?_
                    show Ev _ _ _ (61, _, _, _) _
                    refine sp_aload_n (p2 := 62) rfl rfl rfl ?_
                    refine st_get rfl (ob_ne (by decide) (ob_ne (by decide) (ob_ne (by decide) (ob_ne (by decide) (ob_ne (by decide) hh_148))))) rfl ?_
                    show Ev _ _ _ (65, _, _, _) _
                    refine sp_iload_n (p2 := 66) rfl rfl rfl ?_
                    refine st_iast (i := 169) rfl rfl (ia_ne (by decide) (ia_ne (by decide) (ia_ne (by decide) (ia_ne (by decide) (ia_ne (by decide) hh_169))))) rfl ?_
                    show Ev _ _ _ (67, [(0, .ref 164), (1, .int x1), (2, .int x2), (3, .int x3), (4, .int x4)], [], ((((((hh.set 73 (.inl (0, .inl (((List.replicate 12 0 : List Int32)).set 0 x1)))).set 74 (.inl (0, .inl (((List.replicate 12 0 : List Int32)).set 0 x2)))).set 75 (.inl (0, .inl (((List.replicate 12 0 : List Int32)).set 0 x3)))).set 76 (.inl (0, .inl (((List.replicate 12 0 : List Int32)).set 0 x4)))).set 72 (.inr (6, [.int 1, .ref 89, .ref 90, .ref 91, .ref 92, .int 0, .int 0, .int 0, .int 0]))).set 169 (.inl (0, .inl (((List.replicate 12 0 : List Int32)).set 0 x1))))) _
                    refine sp_aload_n (p2 := 68) rfl rfl rfl ?_
                    refine st_get rfl (ob_ne (by decide) (ob_ne (by decide) (ob_ne (by decide) (ob_ne (by decide) (ob_ne (by decide) (ob_ne (by decide) hh_148)))))) rfl ?_
                    show Ev _ _ _ (71, _, _, _) _
                    refine sp_aload_n (p2 := 72) rfl rfl rfl ?_
                    refine st_get rfl (ob_ne (by decide) (ob_ne (by decide) (ob_ne (by decide) (ob_ne (by decide) (ob_ne (by decide) (ob_ne (by decide) hh_148)))))) rfl ?_
                    show Ev _ _ _ (75, _, _, _) _
                    refine sp_iload_n (p2 := 76) rfl rfl rfl ?_
                    refine st_iast (i := 170) rfl rfl (ia_ne (by decide) (ia_ne (by decide) (ia_ne (by decide) (ia_ne (by decide) (ia_ne (by decide) (ia_ne (by decide) hh_170)))))) rfl ?_
                    show Ev _ _ _ (77, [(0, .ref 164), (1, .int x1), (2, .int x2), (3, .int x3), (4, .int x4)], [], (((((((hh.set 73 (.inl (0, .inl (((List.replicate 12 0 : List Int32)).set 0 x1)))).set 74 (.inl (0, .inl (((List.replicate 12 0 : List Int32)).set 0 x2)))).set 75 (.inl (0, .inl (((List.replicate 12 0 : List Int32)).set 0 x3)))).set 76 (.inl (0, .inl (((List.replicate 12 0 : List Int32)).set 0 x4)))).set 72 (.inr (6, [.int 1, .ref 89, .ref 90, .ref 91, .ref 92, .int 0, .int 0, .int 0, .int 0]))).set 169 (.inl (0, .inl (((List.replicate 12 0 : List Int32)).set 0 x1)))).set 170 (.inl (0, .inl (((List.replicate 12 0 : List Int32)).set 0 x2))))) _
                    refine sp_aload_n (p2 := 78) rfl rfl rfl ?_
                    refine st_get rfl (ob_ne (by decide) (ob_ne (by decide) (ob_ne (by decide) (ob_ne (by decide) (ob_ne (by decide) (ob_ne (by decide) (ob_ne (by decide) hh_148))))))) rfl ?_
                    show Ev _ _ _ (81, _, _, _) _
                    refine sp_aload_n (p2 := 82) rfl rfl rfl ?_
                    refine st_get rfl (ob_ne (by decide) (ob_ne (by decide) (ob_ne (by decide) (ob_ne (by decide) (ob_ne (by decide) (ob_ne (by decide) (ob_ne (by decide) hh_148))))))) rfl ?_
                    show Ev _ _ _ (85, _, _, _) _
                    refine sp_iload_n (p2 := 86) rfl rfl rfl ?_
                    refine st_iast (i := 171) rfl rfl (ia_ne (by decide) (ia_ne (by decide) (ia_ne (by decide) (ia_ne (by decide) (ia_ne (by decide) (ia_ne (by decide) (ia_ne (by decide) hh_171))))))) rfl ?_
                    show Ev _ _ _ (87, [(0, .ref 164), (1, .int x1), (2, .int x2), (3, .int x3), (4, .int x4)], [], ((((((((hh.set 73 (.inl (0, .inl (((List.replicate 12 0 : List Int32)).set 0 x1)))).set 74 (.inl (0, .inl (((List.replicate 12 0 : List Int32)).set 0 x2)))).set 75 (.inl (0, .inl (((List.replicate 12 0 : List Int32)).set 0 x3)))).set 76 (.inl (0, .inl (((List.replicate 12 0 : List Int32)).set 0 x4)))).set 72 (.inr (6, [.int 1, .ref 89, .ref 90, .ref 91, .ref 92, .int 0, .int 0, .int 0, .int 0]))).set 169 (.inl (0, .inl (((List.replicate 12 0 : List Int32)).set 0 x1)))).set 170 (.inl (0, .inl (((List.replicate 12 0 : List Int32)).set 0 x2)))).set 171 (.inl (0, .inl (((List.replicate 12 0 : List Int32)).set 0 x3))))) _
                    refine sp_aload_n (p2 := 88) rfl rfl rfl ?_
                    refine st_get rfl (ob_ne (by decide) (ob_ne (by decide) (ob_ne (by decide) (ob_ne (by decide) (ob_ne (by decide) (ob_ne (by decide) (ob_ne (by decide) (ob_ne (by decide) hh_148)))))))) rfl ?_
                    show Ev _ _ _ (91, _, _, _) _
                    refine sp_aload_n (p2 := 92) rfl rfl rfl ?_
                    refine st_get rfl (ob_ne (by decide) (ob_ne (by decide) (ob_ne (by decide) (ob_ne (by decide) (ob_ne (by decide) (ob_ne (by decide) (ob_ne (by decide) (ob_ne (by decide) hh_148)))))))) rfl ?_
                    show Ev _ _ _ (95, _, _, _) _
                    refine sp_iload (p2 := 97) rfl rfl rfl ?_
                    refine st_iast (i := 172) rfl rfl (ia_ne (by decide) (ia_ne (by decide) (ia_ne (by decide) (ia_ne (by decide) (ia_ne (by decide) (ia_ne (by decide) (ia_ne (by decide) (ia_ne (by decide) hh_172)))))))) rfl ?_
                    show Ev _ _ _ (98, [(0, .ref 164), (1, .int x1), (2, .int x2), (3, .int x3), (4, .int x4)], [], (((((((((hh.set 73 (.inl (0, .inl (((List.replicate 12 0 : List Int32)).set 0 x1)))).set 74 (.inl (0, .inl (((List.replicate 12 0 : List Int32)).set 0 x2)))).set 75 (.inl (0, .inl (((List.replicate 12 0 : List Int32)).set 0 x3)))).set 76 (.inl (0, .inl (((List.replicate 12 0 : List Int32)).set 0 x4)))).set 72 (.inr (6, [.int 1, .ref 89, .ref 90, .ref 91, .ref 92, .int 0, .int 0, .int 0, .int 0]))).set 169 (.inl (0, .inl (((List.replicate 12 0 : List Int32)).set 0 x1)))).set 170 (.inl (0, .inl (((List.replicate 12 0 : List Int32)).set 0 x2)))).set 171 (.inl (0, .inl (((List.replicate 12 0 : List Int32)).set 0 x3)))).set 172 (.inl (0, .inl (((List.replicate 12 0 : List Int32)).set 0 x4))))) _
                    refine sp_aload_n (p2 := 99) rfl rfl rfl ?_
                    refine sp_dup (p2 := 100) rfl rfl rfl ?_
                    refine st_get rfl (ob_ne (by decide) (ob_ne (by decide) (ob_ne (by decide) (ob_ne (by decide) (ob_ne (by decide) (ob_ne (by decide) (ob_ne (by decide) (ob_ne (by decide) (ob_ne (by decide) hh_148))))))))) rfl ?_
                    show Ev _ _ _ (103, _, _, _) _
                    refine sp_iconst (p2 := 104) (x := 1) rfl rfl (by decide) ?_
                    refine sp_iadd (p2 := 105) (z := 1) rfl rfl (by decide) ?_
                    refine st_put (i := 148) rfl rfl (ob_ne (by decide) (ob_ne (by decide) (ob_ne (by decide) (ob_ne (by decide) (ob_ne (by decide) (ob_ne (by decide) (ob_ne (by decide) (ob_ne (by decide) (ob_ne (by decide) hh_148))))))))) rfl rfl (Nat.le_of_ble_eq_true rfl) ?_
                    show Ev _ _ _ (108, [(0, .ref 164), (1, .int x1), (2, .int x2), (3, .int x3), (4, .int x4)], [], ((((((((((hh.set 73 (.inl (0, .inl (((List.replicate 12 0 : List Int32)).set 0 x1)))).set 74 (.inl (0, .inl (((List.replicate 12 0 : List Int32)).set 0 x2)))).set 75 (.inl (0, .inl (((List.replicate 12 0 : List Int32)).set 0 x3)))).set 76 (.inl (0, .inl (((List.replicate 12 0 : List Int32)).set 0 x4)))).set 72 (.inr (6, [.int 1, .ref 89, .ref 90, .ref 91, .ref 92, .int 0, .int 0, .int 0, .int 0]))).set 169 (.inl (0, .inl (((List.replicate 12 0 : List Int32)).set 0 x1)))).set 170 (.inl (0, .inl (((List.replicate 12 0 : List Int32)).set 0 x2)))).set 171 (.inl (0, .inl (((List.replicate 12 0 : List Int32)).set 0 x3)))).set 172 (.inl (0, .inl (((List.replicate 12 0 : List Int32)).set 0 x4)))).set 148 (.inr (12, [.ref 165, .ref 166, .ref 167, .int 0, .ref 168, .ref 169, .ref 170, .ref 171, .ref 172, .int (-1), .int 0, .ref 173, .ref 174, .ref 175, .ref 176, .ref 177, .ref 178, .ref 179, .ref 180, .ref 181, .ref 182, .int 0, .ref 183, .ref 184, .int 1, .ref 185, .ref 186, .ref 187, .ref 188, .int 0, .ref 189, .ref 190, .ref 191, .ref 192, .ref 193, .int 0, .ref 194, .ref 195, .ref 196, .ref 197, .ref 198, .int 0, .ref 199, .int 0, .ref 200, .int 0, .int 0, .int (-1), .ref 201, .ref 202, .ref 203, .ref 204, .ref 205, .ref 206, .ref 207, .ref 208, .ref 209, .ref 210, .ref 211, .ref 212, .int 0, .int 0, .int 0, .ref 213, .ref 214, .ref 215])))) _
                    refine sp_aload_n (p2 := 109) rfl rfl rfl ?_
                    refine st_get rfl (ob_eq2 (sl_len (sl_len (sl_len (sl_len (sl_len (sl_len (sl_len (sl_len (sl_len hh_len))))))))) (by decide)) rfl ?_
                    show Ev _ _ _ (112, _, _, _) _
                    refine sp_iconst (p2 := 113) (x := 1) rfl rfl (by decide) ?_
                    refine sp_isub (p2 := 114) (z := 0) rfl rfl (by decide) ?_
                    exact sp_iret rfl rfl
                · refine ⟨.int (-2), hh, hh, ?_, ?_⟩
                  · refine ca_of (d := 19) (M := mX11_room) rfl (Nat.le_of_ble_eq_true rfl) ?_
                    show Ev im_K0 19 mX11_room (0, [(0, .ref 16), (1, .int x1), (2, .int x2), (3, .int x3), (4, .int x4)], [], hh) _
                    refine sp_iload_n (p2 := 1) rfl rfl rfl ?_
                    refine sp_bipush (p2 := 3) (x := 100) rfl rfl (by decide) ?_
                    refine st_callS rfl rfl rfl (cl_within_T (b := 100) rfl (by omega)) ?_
                    show Ev _ _ _ (6, [(0, .ref 16), (1, .int x1), (2, .int x2), (3, .int x3), (4, .int x4)], [.int 1], hh) _
                    refine st_ifc (b := true) rfl (by decide) ?_
                    show Ev _ _ _ (11, _, _, _) _
                    refine sp_iload_n (p2 := 12) rfl rfl rfl ?_
                    refine sp_iconst (p2 := 13) (x := 0) rfl rfl (by decide) ?_
                    refine sp_sipush (p2 := 16) (x := 9999) rfl rfl (by decide) ?_
                    refine st_callS rfl rfl rfl (cl_between_T (a := 0) (b := 9999) rfl rfl (by omega)) ?_
                    show Ev _ _ _ (19, [(0, .ref 16), (1, .int x1), (2, .int x2), (3, .int x3), (4, .int x4)], [.int 1], hh) _
                    refine st_ifc (b := false) rfl (by decide) ?_
                    show Ev _ _ _ (22, _, _, _) _
                    refine sp_iload_n (p2 := 23) rfl rfl rfl ?_
                    refine sp_iconst (p2 := 24) (x := 0) rfl rfl (by decide) ?_
                    refine sp_sipush (p2 := 27) (x := 999) rfl rfl (by decide) ?_
                    refine st_callS rfl rfl rfl (cl_between_T (a := 0) (b := 999) rfl rfl (by omega)) ?_
                    show Ev _ _ _ (30, [(0, .ref 16), (1, .int x1), (2, .int x2), (3, .int x3), (4, .int x4)], [.int 1], hh) _
                    refine st_ifc (b := false) rfl (by decide) ?_
                    show Ev _ _ _ (33, _, _, _) _
                    refine sp_iload (p2 := 35) rfl rfl rfl ?_
                    refine sp_iconst (p2 := 36) (x := 1) rfl rfl (by decide) ?_
                    refine sp_bipush (p2 := 38) (x := 99) rfl rfl (by decide) ?_
                    refine st_callS rfl rfl rfl (cl_between_F (a := 1) (b := 99) rfl rfl (by omega)) ?_
                    show Ev _ _ _ (41, [(0, .ref 16), (1, .int x1), (2, .int x2), (3, .int x3), (4, .int x4)], [.int 0], hh) _
                    refine st_ifc (b := false) rfl (by decide) ?_
                    show Ev _ _ _ (44, _, _, _) _
                    refine sp_bipush (p2 := 46) (x := (-2)) rfl rfl (by decide) ?_
                    exact sp_iret rfl rfl
                  · refine ca_of (d := 19) (M := mX12_room) rfl (Nat.le_of_ble_eq_true rfl) ?_
                    show Ev im_K0 19 mX12_room (0, [(0, .ref 164), (1, .int x1), (2, .int x2), (3, .int x3), (4, .int x4)], [], hh) _
                    refine sp_iload_n (p2 := 1) rfl rfl rfl ?_
                    refine st_callS rfl rfl rfl (cl_isCell_T (by omega)) ?_
                    show Ev _ _ _ (4, [(0, .ref 164), (1, .int x1), (2, .int x2), (3, .int x3), (4, .int x4)], [.int 1], hh) _
                    refine st_ifc (b := true) rfl (by decide) ?_
                    show Ev _ _ _ (9, _, _, _) _
                    refine sp_iload_n (p2 := 10) rfl rfl rfl ?_
                    refine sp_iconst (p2 := 11) (x := 0) rfl rfl (by decide) ?_
                    refine sp_sipush (p2 := 14) (x := 9999) rfl rfl (by decide) ?_
                    refine st_callS rfl rfl rfl (cl_in_T (a := 0) (b := 9999) rfl rfl (by omega)) ?_
                    show Ev _ _ _ (17, [(0, .ref 164), (1, .int x1), (2, .int x2), (3, .int x3), (4, .int x4)], [.int 1], hh) _
                    refine st_ifc (b := false) rfl (by decide) ?_
                    show Ev _ _ _ (20, _, _, _) _
                    refine sp_iload_n (p2 := 21) rfl rfl rfl ?_
                    refine sp_iconst (p2 := 22) (x := 0) rfl rfl (by decide) ?_
                    refine sp_sipush (p2 := 25) (x := 999) rfl rfl (by decide) ?_
                    refine st_callS rfl rfl rfl (cl_in_T (a := 0) (b := 999) rfl rfl (by omega)) ?_
                    show Ev _ _ _ (28, [(0, .ref 164), (1, .int x1), (2, .int x2), (3, .int x3), (4, .int x4)], [.int 1], hh) _
                    refine st_ifc (b := false) rfl (by decide) ?_
                    show Ev _ _ _ (31, _, _, _) _
                    refine sp_iload (p2 := 33) rfl rfl rfl ?_
                    refine sp_iconst (p2 := 34) (x := 1) rfl rfl (by decide) ?_
                    refine sp_bipush (p2 := 36) (x := 99) rfl rfl (by decide) ?_
                    refine st_callS rfl rfl rfl (cl_in_F (a := 1) (b := 99) rfl rfl (by omega)) ?_
                    show Ev _ _ _ (39, [(0, .ref 164), (1, .int x1), (2, .int x2), (3, .int x3), (4, .int x4)], [.int 0], hh) _
                    refine st_ifc (b := false) rfl (by decide) ?_
                    show Ev _ _ _ (42, _, _, _) _
                    refine sp_bipush (p2 := 44) (x := (-2)) rfl rfl (by decide) ?_
                    exact sp_iret rfl rfl
            · refine ⟨.int (-2), hh, hh, ?_, ?_⟩
              · refine ca_of (d := 19) (M := mX11_room) rfl (Nat.le_of_ble_eq_true rfl) ?_
                show Ev im_K0 19 mX11_room (0, [(0, .ref 16), (1, .int x1), (2, .int x2), (3, .int x3), (4, .int x4)], [], hh) _
                refine sp_iload_n (p2 := 1) rfl rfl rfl ?_
                refine sp_bipush (p2 := 3) (x := 100) rfl rfl (by decide) ?_
                refine st_callS rfl rfl rfl (cl_within_T (b := 100) rfl (by omega)) ?_
                show Ev _ _ _ (6, [(0, .ref 16), (1, .int x1), (2, .int x2), (3, .int x3), (4, .int x4)], [.int 1], hh) _
                refine st_ifc (b := true) rfl (by decide) ?_
                show Ev _ _ _ (11, _, _, _) _
                refine sp_iload_n (p2 := 12) rfl rfl rfl ?_
                refine sp_iconst (p2 := 13) (x := 0) rfl rfl (by decide) ?_
                refine sp_sipush (p2 := 16) (x := 9999) rfl rfl (by decide) ?_
                refine st_callS rfl rfl rfl (cl_between_T (a := 0) (b := 9999) rfl rfl (by omega)) ?_
                show Ev _ _ _ (19, [(0, .ref 16), (1, .int x1), (2, .int x2), (3, .int x3), (4, .int x4)], [.int 1], hh) _
                refine st_ifc (b := false) rfl (by decide) ?_
                show Ev _ _ _ (22, _, _, _) _
                refine sp_iload_n (p2 := 23) rfl rfl rfl ?_
                refine sp_iconst (p2 := 24) (x := 0) rfl rfl (by decide) ?_
                refine sp_sipush (p2 := 27) (x := 999) rfl rfl (by decide) ?_
                refine st_callS rfl rfl rfl (cl_between_F (a := 0) (b := 999) rfl rfl (by omega)) ?_
                show Ev _ _ _ (30, [(0, .ref 16), (1, .int x1), (2, .int x2), (3, .int x3), (4, .int x4)], [.int 0], hh) _
                refine st_ifc (b := true) rfl (by decide) ?_
                show Ev _ _ _ (44, _, _, _) _
                refine sp_bipush (p2 := 46) (x := (-2)) rfl rfl (by decide) ?_
                exact sp_iret rfl rfl
              · refine ca_of (d := 19) (M := mX12_room) rfl (Nat.le_of_ble_eq_true rfl) ?_
                show Ev im_K0 19 mX12_room (0, [(0, .ref 164), (1, .int x1), (2, .int x2), (3, .int x3), (4, .int x4)], [], hh) _
                refine sp_iload_n (p2 := 1) rfl rfl rfl ?_
                refine st_callS rfl rfl rfl (cl_isCell_T (by omega)) ?_
                show Ev _ _ _ (4, [(0, .ref 164), (1, .int x1), (2, .int x2), (3, .int x3), (4, .int x4)], [.int 1], hh) _
                refine st_ifc (b := true) rfl (by decide) ?_
                show Ev _ _ _ (9, _, _, _) _
                refine sp_iload_n (p2 := 10) rfl rfl rfl ?_
                refine sp_iconst (p2 := 11) (x := 0) rfl rfl (by decide) ?_
                refine sp_sipush (p2 := 14) (x := 9999) rfl rfl (by decide) ?_
                refine st_callS rfl rfl rfl (cl_in_T (a := 0) (b := 9999) rfl rfl (by omega)) ?_
                show Ev _ _ _ (17, [(0, .ref 164), (1, .int x1), (2, .int x2), (3, .int x3), (4, .int x4)], [.int 1], hh) _
                refine st_ifc (b := false) rfl (by decide) ?_
                show Ev _ _ _ (20, _, _, _) _
                refine sp_iload_n (p2 := 21) rfl rfl rfl ?_
                refine sp_iconst (p2 := 22) (x := 0) rfl rfl (by decide) ?_
                refine sp_sipush (p2 := 25) (x := 999) rfl rfl (by decide) ?_
                refine st_callS rfl rfl rfl (cl_in_F (a := 0) (b := 999) rfl rfl (by omega)) ?_
                show Ev _ _ _ (28, [(0, .ref 164), (1, .int x1), (2, .int x2), (3, .int x3), (4, .int x4)], [.int 0], hh) _
                refine st_ifc (b := true) rfl (by decide) ?_
                show Ev _ _ _ (42, _, _, _) _
                refine sp_bipush (p2 := 44) (x := (-2)) rfl rfl (by decide) ?_
                exact sp_iret rfl rfl
        · refine ⟨.int (-2), hh, hh, ?_, ?_⟩
          · refine ca_of (d := 19) (M := mX11_room) rfl (Nat.le_of_ble_eq_true rfl) ?_
            show Ev im_K0 19 mX11_room (0, [(0, .ref 16), (1, .int x1), (2, .int x2), (3, .int x3), (4, .int x4)], [], hh) _
            refine sp_iload_n (p2 := 1) rfl rfl rfl ?_
            refine sp_bipush (p2 := 3) (x := 100) rfl rfl (by decide) ?_
            refine st_callS rfl rfl rfl (cl_within_T (b := 100) rfl (by omega)) ?_
            show Ev _ _ _ (6, [(0, .ref 16), (1, .int x1), (2, .int x2), (3, .int x3), (4, .int x4)], [.int 1], hh) _
            refine st_ifc (b := true) rfl (by decide) ?_
            show Ev _ _ _ (11, _, _, _) _
            refine sp_iload_n (p2 := 12) rfl rfl rfl ?_
            refine sp_iconst (p2 := 13) (x := 0) rfl rfl (by decide) ?_
            refine sp_sipush (p2 := 16) (x := 9999) rfl rfl (by decide) ?_
            refine st_callS rfl rfl rfl (cl_between_F (a := 0) (b := 9999) rfl rfl (by omega)) ?_
            show Ev _ _ _ (19, [(0, .ref 16), (1, .int x1), (2, .int x2), (3, .int x3), (4, .int x4)], [.int 0], hh) _
            refine st_ifc (b := true) rfl (by decide) ?_
            show Ev _ _ _ (44, _, _, _) _
            refine sp_bipush (p2 := 46) (x := (-2)) rfl rfl (by decide) ?_
            exact sp_iret rfl rfl
          · refine ca_of (d := 19) (M := mX12_room) rfl (Nat.le_of_ble_eq_true rfl) ?_
            show Ev im_K0 19 mX12_room (0, [(0, .ref 164), (1, .int x1), (2, .int x2), (3, .int x3), (4, .int x4)], [], hh) _
            refine sp_iload_n (p2 := 1) rfl rfl rfl ?_
            refine st_callS rfl rfl rfl (cl_isCell_T (by omega)) ?_
            show Ev _ _ _ (4, [(0, .ref 164), (1, .int x1), (2, .int x2), (3, .int x3), (4, .int x4)], [.int 1], hh) _
            refine st_ifc (b := true) rfl (by decide) ?_
            show Ev _ _ _ (9, _, _, _) _
            refine sp_iload_n (p2 := 10) rfl rfl rfl ?_
            refine sp_iconst (p2 := 11) (x := 0) rfl rfl (by decide) ?_
            refine sp_sipush (p2 := 14) (x := 9999) rfl rfl (by decide) ?_
            refine st_callS rfl rfl rfl (cl_in_F (a := 0) (b := 9999) rfl rfl (by omega)) ?_
            show Ev _ _ _ (17, [(0, .ref 164), (1, .int x1), (2, .int x2), (3, .int x3), (4, .int x4)], [.int 0], hh) _
            refine st_ifc (b := true) rfl (by decide) ?_
            show Ev _ _ _ (42, _, _, _) _
            refine sp_bipush (p2 := 44) (x := (-2)) rfl rfl (by decide) ?_
            exact sp_iret rfl rfl
    · refine ⟨.int (-1), hh, hh, ?_, ?_⟩
      · refine ca_of (d := 19) (M := mX11_room) rfl (Nat.le_of_ble_eq_true rfl) ?_
        show Ev im_K0 19 mX11_room (0, [(0, .ref 16), (1, .int x1), (2, .int x2), (3, .int x3), (4, .int x4)], [], hh) _
        refine sp_iload_n (p2 := 1) rfl rfl rfl ?_
        refine sp_bipush (p2 := 3) (x := 100) rfl rfl (by decide) ?_
        refine st_callS rfl rfl rfl (cl_within_F (b := 100) rfl (by omega)) ?_
        show Ev _ _ _ (6, [(0, .ref 16), (1, .int x1), (2, .int x2), (3, .int x3), (4, .int x4)], [.int 0], hh) _
        refine st_ifc (b := false) rfl (by decide) ?_
        show Ev _ _ _ (9, _, _, _) _
        refine sp_iconst (p2 := 10) (x := (-1)) rfl rfl (by decide) ?_
        exact sp_iret rfl rfl
      · refine ca_of (d := 19) (M := mX12_room) rfl (Nat.le_of_ble_eq_true rfl) ?_
        show Ev im_K0 19 mX12_room (0, [(0, .ref 164), (1, .int x1), (2, .int x2), (3, .int x3), (4, .int x4)], [], hh) _
        refine sp_iload_n (p2 := 1) rfl rfl rfl ?_
        refine st_callS rfl rfl rfl (cl_isCell_F (by omega)) ?_
        show Ev _ _ _ (4, [(0, .ref 164), (1, .int x1), (2, .int x2), (3, .int x3), (4, .int x4)], [.int 0], hh) _
        refine st_ifc (b := false) rfl (by decide) ?_
        show Ev _ _ _ (7, _, _, _) _
        refine sp_iconst (p2 := 8) (x := (-1)) rfl rfl (by decide) ?_
        exact sp_iret rfl rfl
set_option maxRecDepth 10000 in
set_option maxHeartbeats 4000000 in
theorem q_force (x1 : Int32) : ∃ (v : Value) (h1 h2 : im_H), Ca 20 74 [.ref 16, .int x1] hh (some v, h1) ∧ Ca 20 141 [.ref 164, .int x1] h1 (some v, h2) := by
  by_cases h1 : x1.toInt ≤ (-2)
  · refine ⟨.int (-5), hh, hh, ?_, ?_⟩
    · refine ca_of (d := 19) (M := mX11_force) rfl (Nat.le_of_ble_eq_true rfl) ?_
      show Ev im_K0 19 mX11_force (0, [(0, .ref 16), (1, .int x1)], [], hh) _
      refine sp_iload_n (p2 := 1) rfl rfl rfl ?_
      refine sp_iconst (p2 := 2) (x := (-1)) rfl rfl (by decide) ?_
      refine st_icmp (b := false) rfl (cn_eq_F rfl (show Int32.toInt (-1) = (-1) from rfl) (by omega)) ?_
      show Ev _ _ _ (5, _, _, _) _
      refine sp_iload_n (p2 := 6) rfl rfl rfl ?_
      refine sp_aload_n (p2 := 7) rfl rfl rfl ?_
      refine st_get rfl hh_0 rfl ?_
      show Ev _ _ _ (10, _, _, _) _
      refine st_callS rfl rfl rfl (cl_within_F (b := 0) rfl (by omega)) ?_
      show Ev _ _ _ (13, [(0, .ref 16), (1, .int x1)], [.int 0], hh) _
      refine st_ifc (b := false) rfl (by decide) ?_
      show Ev _ _ _ (16, _, _, _) _
      refine sp_bipush (p2 := 18) (x := (-5)) rfl rfl (by decide) ?_
      exact sp_iret rfl rfl
    · refine ca_of (d := 19) (M := mX12_force) rfl (Nat.le_of_ble_eq_true rfl) ?_
      show Ev im_K0 19 mX12_force (0, [(0, .ref 164), (1, .int x1)], [], hh) _
      refine sp_iload_n (p2 := 1) rfl rfl rfl ?_
      refine sp_iconst (p2 := 2) (x := (-1)) rfl rfl (by decide) ?_
      refine sp_aload_n (p2 := 3) rfl rfl rfl ?_
      refine st_get rfl hh_148 rfl ?_
      show Ev _ _ _ (6, _, _, _) _
      refine sp_iconst (p2 := 7) (x := 1) rfl rfl (by decide) ?_
      refine sp_isub (p2 := 8) (z := (-1)) rfl rfl (by decide) ?_
      refine st_callS rfl rfl rfl (cl_in_F (a := -1) (b := -1) rfl rfl (by omega)) ?_
      show Ev _ _ _ (11, [(0, .ref 164), (1, .int x1)], [.int 0], hh) _
      refine st_ifc (b := false) rfl (by decide) ?_
      show Ev _ _ _ (14, _, _, _) _
      refine sp_bipush (p2 := 16) (x := (-5)) rfl rfl (by decide) ?_
      exact sp_iret rfl rfl
  · by_cases h2 : x1.toInt ≤ (-1)
    · obtain rfl : x1 = (-1) := i32_ext (by have e9 : Int32.toInt (-1) = (-1) := rfl; omega)
      refine ⟨.int (-1), ((hh.set 0 (.inr (11, [.ref 17, .ref 39, .ref 53, .ref 67, .int 0, .ref 81, .ref 83, .int 0, .int (-1), .ref 84, .ref 88, .ref 93, .ref 107, .ref 113]))).set 1 (.inr (0, [.ref 18, .int (-1), .int 0, .ref 19, .ref 20, .ref 21, .ref 22, .ref 23, .ref 24, .int 0, .ref 25, .ref 26, .null, .ref 27]))), (((hh.set 0 (.inr (11, [.ref 17, .ref 39, .ref 53, .ref 67, .int 0, .ref 81, .ref 83, .int 0, .int (-1), .ref 84, .ref 88, .ref 93, .ref 107, .ref 113]))).set 1 (.inr (0, [.ref 18, .int (-1), .int 0, .ref 19, .ref 20, .ref 21, .ref 22, .ref 23, .ref 24, .int 0, .ref 25, .ref 26, .null, .ref 27]))).set 148 (.inr (12, [.ref 165, .ref 166, .ref 167, .int 0, .ref 168, .ref 169, .ref 170, .ref 171, .ref 172, .int (-1), .int 0, .ref 173, .ref 174, .ref 175, .ref 176, .ref 177, .ref 178, .ref 179, .ref 180, .ref 181, .ref 182, .int 0, .ref 183, .ref 184, .int 0, .ref 185, .ref 186, .ref 187, .ref 188, .int 0, .ref 189, .ref 190, .ref 191, .ref 192, .ref 193, .int 0, .ref 194, .ref 195, .ref 196, .ref 197, .ref 198, .int 0, .ref 199, .int 0, .ref 200, .int 0, .int 0, .int (-1), .ref 201, .ref 202, .ref 203, .ref 204, .ref 205, .ref 206, .ref 207, .ref 208, .ref 209, .ref 210, .ref 211, .ref 212, .int 0, .int 0, .int 0, .ref 213, .ref 214, .ref 215]))), ?_, ?_⟩
      · refine ca_of (d := 19) (M := mX11_force) rfl (Nat.le_of_ble_eq_true rfl) ?_
        show Ev im_K0 19 mX11_force (0, [(0, .ref 16), (1, .int (-1))], [], hh) _
        refine sp_iload_n (p2 := 1) rfl rfl rfl ?_
        refine sp_iconst (p2 := 2) (x := (-1)) rfl rfl (by decide) ?_
        refine st_icmp (b := true) rfl (by decide) ?_
        show Ev _ _ _ (19, _, _, _) _
        refine sp_aload_n (p2 := 20) rfl rfl rfl ?_
        refine st_get rfl hh_0 rfl ?_
        show Ev _ _ _ (23, _, _, _) _
        refine sp_istore_n (p2 := 24) (lv2 := [(2, .int (-1)), (0, .ref 16), (1, .int (-1))]) rfl rfl (by decide) rfl ?_
        refine sp_aload_n (p2 := 25) rfl rfl rfl ?_
        refine sp_iload_n (p2 := 26) rfl rfl rfl ?_
        refine st_put (i := 0) rfl rfl hh_0 rfl rfl (Nat.le_of_ble_eq_true rfl) ?_
        show Ev _ _ _ (29, [(2, .int (-1)), (0, .ref 16), (1, .int (-1))], [], (hh.set 0 (.inr (11, [.ref 17, .ref 39, .ref 53, .ref 67, .int 0, .ref 81, .ref 83, .int 0, .int (-1), .ref 84, .ref 88, .ref 93, .ref 107, .ref 113])))) _
        refine sp_aload_n (p2 := 30) rfl rfl rfl ?_
        refine st_get rfl (ob_eq2 hh_len (by decide)) rfl ?_
        show Ev _ _ _ (33, _, _, _) _
        refine sp_iload_n (p2 := 34) rfl rfl rfl ?_
        refine sp_iconst (p2 := 35) (x := (-1)) rfl rfl (by decide) ?_
        refine st_icmp (b := false) rfl (by decide) ?_
        show Ev _ _ _ (38, _, _, _) _
        refine sp_null (p2 := 39) rfl rfl ?_
        refine sp_goto rfl ?_
        refine st_put (i := 1) rfl rfl (ob_ne (by decide) hh_1) rfl rfl (Nat.le_of_ble_eq_true rfl) ?_
        show Ev _ _ _ (51, [(2, .int (-1)), (0, .ref 16), (1, .int (-1))], [], ((hh.set 0 (.inr (11, [.ref 17, .ref 39, .ref 53, .ref 67, .int 0, .ref 81, .ref 83, .int 0, .int (-1), .ref 84, .ref 88, .ref 93, .ref 107, .ref 113]))).set 1 (.inr (0, [.ref 18, .int (-1), .int 0, .ref 19, .ref 20, .ref 21, .ref 22, .ref 23, .ref 24, .int 0, .ref 25, .ref 26, .null, .ref 27])))) _
        refine sp_iload_n (p2 := 52) rfl rfl rfl ?_
        exact sp_iret rfl rfl
      · refine ca_of (d := 19) (M := mX12_force) rfl (Nat.le_of_ble_eq_true rfl) ?_
        show Ev im_K0 19 mX12_force (0, [(0, .ref 164), (1, .int (-1))], [], ((hh.set 0 (.inr (11, [.ref 17, .ref 39, .ref 53, .ref 67, .int 0, .ref 81, .ref 83, .int 0, .int (-1), .ref 84, .ref 88, .ref 93, .ref 107, .ref 113]))).set 1 (.inr (0, [.ref 18, .int (-1), .int 0, .ref 19, .ref 20, .ref 21, .ref 22, .ref 23, .ref 24, .int 0, .ref 25, .ref 26, .null, .ref 27])))) _
        refine sp_iload_n (p2 := 1) rfl rfl rfl ?_
        refine sp_iconst (p2 := 2) (x := (-1)) rfl rfl (by decide) ?_
        refine sp_aload_n (p2 := 3) rfl rfl rfl ?_
        refine st_get rfl (ob_ne (by decide) (ob_ne (by decide) hh_148)) rfl ?_
        show Ev _ _ _ (6, _, _, _) _
        refine sp_iconst (p2 := 7) (x := 1) rfl rfl (by decide) ?_
        refine sp_isub (p2 := 8) (z := (-1)) rfl rfl (by decide) ?_
        refine st_callS rfl rfl rfl (cl_in_T (n := (-1)) (a := -1) (b := -1) (show Int32.toInt _ = _ from rfl) (show Int32.toInt _ = _ from rfl) (by have e9 : Int32.toInt (-1) = (-1) := rfl; omega)) ?_
        show Ev _ _ _ (11, [(0, .ref 164), (1, .int (-1))], [.int 1], ((hh.set 0 (.inr (11, [.ref 17, .ref 39, .ref 53, .ref 67, .int 0, .ref 81, .ref 83, .int 0, .int (-1), .ref 84, .ref 88, .ref 93, .ref 107, .ref 113]))).set 1 (.inr (0, [.ref 18, .int (-1), .int 0, .ref 19, .ref 20, .ref 21, .ref 22, .ref 23, .ref 24, .int 0, .ref 25, .ref 26, .null, .ref 27])))) _
        refine st_ifc (b := true) rfl (by decide) ?_
        show Ev _ _ _ (17, _, _, _) _
        refine sp_aload_n (p2 := 18) rfl rfl rfl ?_
        refine st_get rfl (ob_ne (by decide) (ob_ne (by decide) hh_148)) rfl ?_
        show Ev _ _ _ (21, _, _, _) _
        refine sp_istore_n (p2 := 22) (lv2 := [(2, .int (-1)), (0, .ref 164), (1, .int (-1))]) rfl rfl (by decide) rfl ?_
        refine sp_aload_n (p2 := 23) rfl rfl rfl ?_
        refine sp_iload_n (p2 := 24) rfl rfl rfl ?_
        refine st_put (i := 148) rfl rfl (ob_ne (by decide) (ob_ne (by decide) hh_148)) rfl rfl (Nat.le_of_ble_eq_true rfl) ?_
        show Ev _ _ _ (27, [(2, .int (-1)), (0, .ref 164), (1, .int (-1))], [], (((hh.set 0 (.inr (11, [.ref 17, .ref 39, .ref 53, .ref 67, .int 0, .ref 81, .ref 83, .int 0, .int (-1), .ref 84, .ref 88, .ref 93, .ref 107, .ref 113]))).set 1 (.inr (0, [.ref 18, .int (-1), .int 0, .ref 19, .ref 20, .ref 21, .ref 22, .ref 23, .ref 24, .int 0, .ref 25, .ref 26, .null, .ref 27]))).set 148 (.inr (12, [.ref 165, .ref 166, .ref 167, .int 0, .ref 168, .ref 169, .ref 170, .ref 171, .ref 172, .int (-1), .int 0, .ref 173, .ref 174, .ref 175, .ref 176, .ref 177, .ref 178, .ref 179, .ref 180, .ref 181, .ref 182, .int 0, .ref 183, .ref 184, .int 0, .ref 185, .ref 186, .ref 187, .ref 188, .int 0, .ref 189, .ref 190, .ref 191, .ref 192, .ref 193, .int 0, .ref 194, .ref 195, .ref 196, .ref 197, .ref 198, .int 0, .ref 199, .int 0, .ref 200, .int 0, .int 0, .int (-1), .ref 201, .ref 202, .ref 203, .ref 204, .ref 205, .ref 206, .ref 207, .ref 208, .ref 209, .ref 210, .ref 211, .ref 212, .int 0, .int 0, .int 0, .ref 213, .ref 214, .ref 215])))) _
        refine sp_iload_n (p2 := 28) rfl rfl rfl ?_
        exact sp_iret rfl rfl
    · refine ⟨.int (-5), hh, hh, ?_, ?_⟩
      · refine ca_of (d := 19) (M := mX11_force) rfl (Nat.le_of_ble_eq_true rfl) ?_
        show Ev im_K0 19 mX11_force (0, [(0, .ref 16), (1, .int x1)], [], hh) _
        refine sp_iload_n (p2 := 1) rfl rfl rfl ?_
        refine sp_iconst (p2 := 2) (x := (-1)) rfl rfl (by decide) ?_
        refine st_icmp (b := false) rfl (cn_eq_F rfl (show Int32.toInt (-1) = (-1) from rfl) (by omega)) ?_
        show Ev _ _ _ (5, _, _, _) _
        refine sp_iload_n (p2 := 6) rfl rfl rfl ?_
        refine sp_aload_n (p2 := 7) rfl rfl rfl ?_
        refine st_get rfl hh_0 rfl ?_
        show Ev _ _ _ (10, _, _, _) _
        refine st_callS rfl rfl rfl (cl_within_F (b := 0) rfl (by omega)) ?_
        show Ev _ _ _ (13, [(0, .ref 16), (1, .int x1)], [.int 0], hh) _
        refine st_ifc (b := false) rfl (by decide) ?_
        show Ev _ _ _ (16, _, _, _) _
        refine sp_bipush (p2 := 18) (x := (-5)) rfl rfl (by decide) ?_
        exact sp_iret rfl rfl
      · refine ca_of (d := 19) (M := mX12_force) rfl (Nat.le_of_ble_eq_true rfl) ?_
        show Ev im_K0 19 mX12_force (0, [(0, .ref 164), (1, .int x1)], [], hh) _
        refine sp_iload_n (p2 := 1) rfl rfl rfl ?_
        refine sp_iconst (p2 := 2) (x := (-1)) rfl rfl (by decide) ?_
        refine sp_aload_n (p2 := 3) rfl rfl rfl ?_
        refine st_get rfl hh_148 rfl ?_
        show Ev _ _ _ (6, _, _, _) _
        refine sp_iconst (p2 := 7) (x := 1) rfl rfl (by decide) ?_
        refine sp_isub (p2 := 8) (z := (-1)) rfl rfl (by decide) ?_
        refine st_callS rfl rfl rfl (cl_in_F (a := -1) (b := -1) rfl rfl (by omega)) ?_
        show Ev _ _ _ (11, [(0, .ref 164), (1, .int x1)], [.int 0], hh) _
        refine st_ifc (b := false) rfl (by decide) ?_
        show Ev _ _ _ (14, _, _, _) _
        refine sp_bipush (p2 := 16) (x := (-5)) rfl rfl (by decide) ?_
        exact sp_iret rfl rfl
set_option maxRecDepth 10000 in
set_option maxHeartbeats 4000000 in
theorem q_says (x1 x2 : Int32) : ∃ (v : Value) (h1 h2 : im_H), Ca 20 75 [.ref 16, .int x1, .int x2] hh (some v, h1) ∧ Ca 20 145 [.ref 164, .int x1, .int x2] h1 (some v, h2) := by
  refine ⟨.int (-1), hh, hh, ?_, ?_⟩
  · refine ca_of (d := 19) (M := mX11_says) rfl (Nat.le_of_ble_eq_true rfl) ?_
    show Ev im_K0 19 mX11_says (0, [(0, .ref 16), (1, .int x1), (2, .int x2)], [], hh) _
    refine sp_iload_n (p2 := 1) rfl rfl rfl ?_
    refine sp_aload_n (p2 := 2) rfl rfl rfl ?_
    refine st_get rfl hh_0 rfl ?_
    show Ev _ _ _ (5, _, _, _) _
    refine st_get rfl hh_1 rfl ?_
    show Ev _ _ _ (8, _, _, _) _
    refine st_callS rfl rfl rfl (cl_within_F (b := 0) rfl (by omega)) ?_
    show Ev _ _ _ (11, [(0, .ref 16), (1, .int x1), (2, .int x2)], [.int 0], hh) _
    refine st_ifc (b := false) rfl (by decide) ?_
    show Ev _ _ _ (14, _, _, _) _
    refine sp_iconst (p2 := 15) (x := (-1)) rfl rfl (by decide) ?_
    exact sp_iret rfl rfl
  · refine ca_of (d := 19) (M := mX12_says) rfl (Nat.le_of_ble_eq_true rfl) ?_
    show Ev im_K0 19 mX12_says (0, [(0, .ref 164), (1, .int x1), (2, .int x2)], [], hh) _
    refine sp_aload_n (p2 := 1) rfl rfl rfl ?_
    refine sp_iload_n (p2 := 2) rfl rfl rfl ?_
    have c1 : Ca 19 119 [.ref 164, .int x1] hh (some (.int 0), hh) := by
      refine ca_of (d := 18) (M := mX12_isPerson) rfl (Nat.le_of_ble_eq_true rfl) ?_
      show Ev im_K0 18 mX12_isPerson (0, [(0, .ref 164), (1, .int x1)], [], hh) _
      refine sp_iload_n (p2 := 1) rfl rfl rfl ?_
      refine sp_iconst (p2 := 2) (x := 0) rfl rfl (by decide) ?_
      refine sp_aload_n (p2 := 3) rfl rfl rfl ?_
      refine st_get rfl hh_148 rfl ?_
      show Ev _ _ _ (6, _, _, _) _
      refine sp_iconst (p2 := 7) (x := 1) rfl rfl (by decide) ?_
      refine sp_isub (p2 := 8) (z := (-1)) rfl rfl (by decide) ?_
      refine st_callS rfl rfl rfl (cl_in_F (a := 0) (b := -1) rfl rfl (by omega)) ?_
      show Ev _ _ _ (11, [(0, .ref 164), (1, .int x1)], [.int 0], hh) _
      exact sp_zret rfl rfl (by decide)
    refine st_callV (R := 164) rfl rfl rfl hh_148 rfl c1 ?_
    show Ev _ _ _ (5, [(0, .ref 164), (1, .int x1), (2, .int x2)], [.int 0], hh) _
    refine st_ifc (b := false) rfl (by decide) ?_
    show Ev _ _ _ (8, _, _, _) _
    refine sp_iconst (p2 := 9) (x := (-1)) rfl rfl (by decide) ?_
    refine sp_goto rfl ?_
    exact sp_iret rfl rfl
