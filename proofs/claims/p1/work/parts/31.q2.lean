theorem ls_nil {d k : Int} : Op.lookupswitch.offset [] d k = d := rfl
theorem ls_ne {a o k d z : Int} {r : List (Int × Int)} (h : ¬ a = k) (e : Op.lookupswitch.offset r d k = z) : Op.lookupswitch.offset ((a, o) :: r) d k = z := by
  rw [Op.lookupswitch.offset_cons, if_neg h]; exact e
set_option maxRecDepth 10000 in
set_option maxHeartbeats 4000000 in
theorem q_cellTold (x1 x2 : Int32) : ∃ (v : Value) (h1 h2 : im_H), Ca 20 77 [.ref 16, .int x1, .int x2] hh (some v, h1) ∧ Ca 20 156 [.ref 164, .int x1, .int x2] h1 (some v, h2) := by
  by_cases h1 : x1.toInt ≤ (-1)
  · refine ⟨.int (-1), hh, hh, ?_, ?_⟩
    · refine ca_of (d := 19) (M := mX11_cellTold) rfl (Nat.le_of_ble_eq_true rfl) ?_
      show Ev im_K0 19 mX11_cellTold (0, [(0, .ref 16), (1, .int x1), (2, .int x2)], [], hh) _
      refine sp_iload_n (p2 := 1) rfl rfl rfl ?_
      refine sp_bipush (p2 := 3) (x := 100) rfl rfl (by decide) ?_
      refine st_callS rfl rfl rfl (cl_within_F (b := 100) rfl (by omega)) ?_
      show Ev _ _ _ (6, [(0, .ref 16), (1, .int x1), (2, .int x2)], [.int 0], hh) _
      refine st_ifc (b := false) rfl (by decide) ?_
      show Ev _ _ _ (9, _, _, _) _
      refine sp_iconst (p2 := 10) (x := (-1)) rfl rfl (by decide) ?_
      exact sp_iret rfl rfl
    · refine ca_of (d := 19) (M := mX12_cellTold) rfl (Nat.le_of_ble_eq_true rfl) ?_
      show Ev im_K0 19 mX12_cellTold (0, [(0, .ref 164), (1, .int x1), (2, .int x2)], [], hh) _
      refine sp_iload_n (p2 := 1) rfl rfl rfl ?_
      refine st_callS rfl rfl rfl (cl_isCell_F (by omega)) ?_
      show Ev _ _ _ (4, [(0, .ref 164), (1, .int x1), (2, .int x2)], [.int 0], hh) _
      refine st_ifc (b := false) rfl (by decide) ?_
      show Ev _ _ _ (7, _, _, _) _
      refine sp_iconst (p2 := 8) (x := (-1)) rfl rfl (by decide) ?_
      exact sp_iret rfl rfl
  · by_cases h2 : x1.toInt ≤ 99
    · by_cases h3 : x2.toInt ≤ (-1)
      · refine ⟨.int (-2), hh, hh, ?_, ?_⟩
        · refine ca_of (d := 19) (M := mX11_cellTold) rfl (Nat.le_of_ble_eq_true rfl) ?_
          show Ev im_K0 19 mX11_cellTold (0, [(0, .ref 16), (1, .int x1), (2, .int x2)], [], hh) _
          refine sp_iload_n (p2 := 1) rfl rfl rfl ?_
          refine sp_bipush (p2 := 3) (x := 100) rfl rfl (by decide) ?_
          refine st_callS rfl rfl rfl (cl_within_T (b := 100) rfl (by omega)) ?_
          show Ev _ _ _ (6, [(0, .ref 16), (1, .int x1), (2, .int x2)], [.int 1], hh) _
          refine st_ifc (b := true) rfl (by decide) ?_
          show Ev _ _ _ (11, _, _, _) _
          refine sp_iload_n (p2 := 12) rfl rfl rfl ?_
          refine sp_tsOut (p2 := 87) rfl (by omega) (by decide) ?_
          refine sp_bipush (p2 := 89) (x := (-2)) rfl rfl (by decide) ?_
          exact sp_iret rfl rfl
        · refine ca_of (d := 19) (M := mX12_cellTold) rfl (Nat.le_of_ble_eq_true rfl) ?_
          show Ev im_K0 19 mX12_cellTold (0, [(0, .ref 164), (1, .int x1), (2, .int x2)], [], hh) _
          refine sp_iload_n (p2 := 1) rfl rfl rfl ?_
          refine st_callS rfl rfl rfl (cl_isCell_T (by omega)) ?_
          show Ev _ _ _ (4, [(0, .ref 164), (1, .int x1), (2, .int x2)], [.int 1], hh) _
          refine st_ifc (b := true) rfl (by decide) ?_
          show Ev _ _ _ (9, _, _, _) _
          refine sp_iload_n (p2 := 10) rfl rfl rfl ?_
          refine st_ifc (b := true) rfl (cn_ne_T rfl (show Int32.toInt 0 = 0 from rfl) (by omega)) ?_
          show Ev _ _ _ (22, _, _, _) _
          refine sp_iload_n (p2 := 23) rfl rfl rfl ?_
          refine sp_iconst (p2 := 24) (x := 1) rfl rfl (by decide) ?_
          refine st_icmp (b := true) rfl (cn_ne_T rfl (show Int32.toInt 1 = 1 from rfl) (by omega)) ?_
          show Ev _ _ _ (51, _, _, _) _
          refine sp_iload_n (p2 := 52) rfl rfl rfl ?_
          refine sp_iconst (p2 := 53) (x := 2) rfl rfl (by decide) ?_
          refine st_icmp (b := true) rfl (cn_ne_T rfl (show Int32.toInt 2 = 2 from rfl) (by omega)) ?_
          show Ev _ _ _ (64, _, _, _) _
          refine sp_bipush (p2 := 66) (x := (-2)) rfl rfl (by decide) ?_
          exact sp_iret rfl rfl
      · by_cases h4 : x2.toInt ≤ 0
        · obtain rfl : x2 = 0 := i32_ext (by have e9 : Int32.toInt 0 = 0 := rfl; omega)
          refine ⟨.int 0, hh, hh, ?_, ?_⟩
          · refine ca_of (d := 19) (M := mX11_cellTold) rfl (Nat.le_of_ble_eq_true rfl) ?_
            show Ev im_K0 19 mX11_cellTold (0, [(0, .ref 16), (1, .int x1), (2, .int 0)], [], hh) _
            refine sp_iload_n (p2 := 1) rfl rfl rfl ?_
            refine sp_bipush (p2 := 3) (x := 100) rfl rfl (by decide) ?_
            refine st_callS rfl rfl rfl (cl_within_T (b := 100) rfl (by omega)) ?_
            show Ev _ _ _ (6, [(0, .ref 16), (1, .int x1), (2, .int 0)], [.int 1], hh) _
            refine st_ifc (b := true) rfl (by decide) ?_
            show Ev _ _ _ (11, _, _, _) _
            refine sp_iload_n (p2 := 12) rfl rfl rfl ?_
            refine sp_tsIn (k := 0) (p2 := 40) rfl (by decide) (by decide) (by decide) rfl (by decide) ?_
            refine sp_aload_n (p2 := 41) rfl rfl rfl ?_
            refine st_get rfl hh_0 rfl ?_
            show Ev _ _ _ (44, _, _, _) _
            refine st_get rfl hh_23 rfl ?_
            show Ev _ _ _ (47, _, _, _) _
            refine sp_iload_n (p2 := 48) rfl rfl rfl ?_
            refine st_iald (x := 0) rfl (by decide) hh_25 (in_at (n := 100) rfl (by omega) (by omega)) (rd_at 0 99 (by decide +kernel) (by omega) (by omega)) ?_
            show Ev _ _ _ (49, _, _, _) _
            exact sp_iret rfl rfl
          · refine ca_of (d := 19) (M := mX12_cellTold) rfl (Nat.le_of_ble_eq_true rfl) ?_
            show Ev im_K0 19 mX12_cellTold (0, [(0, .ref 164), (1, .int x1), (2, .int 0)], [], hh) _
            refine sp_iload_n (p2 := 1) rfl rfl rfl ?_
            refine st_callS rfl rfl rfl (cl_isCell_T (by omega)) ?_
            show Ev _ _ _ (4, [(0, .ref 164), (1, .int x1), (2, .int 0)], [.int 1], hh) _
            refine st_ifc (b := true) rfl (by decide) ?_
            show Ev _ _ _ (9, _, _, _) _
            refine sp_iload_n (p2 := 10) rfl rfl rfl ?_
            refine st_ifc (b := false) rfl (by decide) ?_
            show Ev _ _ _ (13, _, _, _) _
            refine sp_aload_n (p2 := 14) rfl rfl rfl ?_
            refine st_get rfl hh_148 rfl ?_
            show Ev _ _ _ (17, _, _, _) _
            refine sp_iload_n (p2 := 18) rfl rfl rfl ?_
            refine st_iald (x := 0) rfl (by decide) hh_149 (in_at (n := 283) rfl (by omega) (by omega)) (rd_at 0 99 (by decide +kernel) (by omega) (by omega)) ?_
            show Ev _ _ _ (19, _, _, _) _
            refine sp_goto rfl ?_
            exact sp_iret rfl rfl
        · by_cases h5 : x2.toInt ≤ 1
          · obtain rfl : x2 = 1 := i32_ext (by have e9 : Int32.toInt 1 = 1 := rfl; omega)
            refine ⟨.int (-5), hh, hh, ?_, ?_⟩
            · refine ca_of (d := 19) (M := mX11_cellTold) rfl (Nat.le_of_ble_eq_true rfl) ?_
              show Ev im_K0 19 mX11_cellTold (0, [(0, .ref 16), (1, .int x1), (2, .int 1)], [], hh) _
              refine sp_iload_n (p2 := 1) rfl rfl rfl ?_
              refine sp_bipush (p2 := 3) (x := 100) rfl rfl (by decide) ?_
              refine st_callS rfl rfl rfl (cl_within_T (b := 100) rfl (by omega)) ?_
              show Ev _ _ _ (6, [(0, .ref 16), (1, .int x1), (2, .int 1)], [.int 1], hh) _
              refine st_ifc (b := true) rfl (by decide) ?_
              show Ev _ _ _ (11, _, _, _) _
              refine sp_iload_n (p2 := 12) rfl rfl rfl ?_
              refine sp_tsIn (k := 1) (p2 := 50) rfl (by decide) (by decide) (by decide) rfl (by decide) ?_
              refine sp_aload_n (p2 := 51) rfl rfl rfl ?_
              refine st_get rfl hh_0 rfl ?_
              show Ev _ _ _ (54, _, _, _) _
              refine st_get rfl hh_1 rfl ?_
              show Ev _ _ _ (57, _, _, _) _
              refine sp_iload_n (p2 := 58) rfl rfl rfl ?_
              refine st_iald (x := (-1)) rfl (by decide) hh_2 (in_at (n := 100) rfl (by omega) (by omega)) (rd_at 0 99 (by decide +kernel) (by omega) (by omega)) ?_
              show Ev _ _ _ (59, _, _, _) _
              refine sp_iconst (p2 := 60) (x := (-1)) rfl rfl (by decide) ?_
              refine st_icmp (b := false) rfl (by decide) ?_
              show Ev _ _ _ (63, _, _, _) _
              refine sp_bipush (p2 := 65) (x := (-5)) rfl rfl (by decide) ?_
              refine sp_goto rfl ?_
              exact sp_iret rfl rfl
            · refine ca_of (d := 19) (M := mX12_cellTold) rfl (Nat.le_of_ble_eq_true rfl) ?_
              show Ev im_K0 19 mX12_cellTold (0, [(0, .ref 164), (1, .int x1), (2, .int 1)], [], hh) _
              refine sp_iload_n (p2 := 1) rfl rfl rfl ?_
              refine st_callS rfl rfl rfl (cl_isCell_T (by omega)) ?_
              show Ev _ _ _ (4, [(0, .ref 164), (1, .int x1), (2, .int 1)], [.int 1], hh) _
              refine st_ifc (b := true) rfl (by decide) ?_
              show Ev _ _ _ (9, _, _, _) _
              refine sp_iload_n (p2 := 10) rfl rfl rfl ?_
              refine st_ifc (b := true) rfl (by decide) ?_
              show Ev _ _ _ (22, _, _, _) _
              refine sp_iload_n (p2 := 23) rfl rfl rfl ?_
              refine sp_iconst (p2 := 24) (x := 1) rfl rfl (by decide) ?_
              refine st_icmp (b := false) rfl (by decide) ?_
              show Ev _ _ _ (27, _, _, _) _
              refine sp_aload_n (p2 := 28) rfl rfl rfl ?_
              refine st_get rfl hh_148 rfl ?_
              show Ev _ _ _ (31, _, _, _) _
              refine sp_iload_n (p2 := 32) rfl rfl rfl ?_
              refine st_iald (x := (-1)) rfl (by decide) hh_152 (in_at (n := 100) rfl (by omega) (by omega)) (rd_at 0 99 (by decide +kernel) (by omega) (by omega)) ?_
              show Ev _ _ _ (33, _, _, _) _
              refine sp_iconst (p2 := 34) (x := (-1)) rfl rfl (by decide) ?_
              refine st_icmp (b := false) rfl (by decide) ?_
              show Ev _ _ _ (37, _, _, _) _
              refine sp_bipush (p2 := 39) (x := (-5)) rfl rfl (by decide) ?_
              refine sp_goto rfl ?_
              exact sp_iret rfl rfl
          · by_cases h6 : x2.toInt ≤ 2
            · obtain rfl : x2 = 2 := i32_ext (by have e9 : Int32.toInt 2 = 2 := rfl; omega)
              refine ⟨.int 3, hh, hh, ?_, ?_⟩
              · refine ca_of (d := 19) (M := mX11_cellTold) rfl (Nat.le_of_ble_eq_true rfl) ?_
                show Ev im_K0 19 mX11_cellTold (0, [(0, .ref 16), (1, .int x1), (2, .int 2)], [], hh) _
                refine sp_iload_n (p2 := 1) rfl rfl rfl ?_
                refine sp_bipush (p2 := 3) (x := 100) rfl rfl (by decide) ?_
                refine st_callS rfl rfl rfl (cl_within_T (b := 100) rfl (by omega)) ?_
                show Ev _ _ _ (6, [(0, .ref 16), (1, .int x1), (2, .int 2)], [.int 1], hh) _
                refine st_ifc (b := true) rfl (by decide) ?_
                show Ev _ _ _ (11, _, _, _) _
                refine sp_iload_n (p2 := 12) rfl rfl rfl ?_
                refine sp_tsIn (k := 2) (p2 := 78) rfl (by decide) (by decide) (by decide) rfl (by decide) ?_
                refine sp_aload_n (p2 := 79) rfl rfl rfl ?_
                refine st_get rfl hh_0 rfl ?_
                show Ev _ _ _ (82, _, _, _) _
                refine sp_iload_n (p2 := 83) rfl rfl rfl ?_
                have c1 : Ca 19 2 [.ref 17, .int x1] hh (some (.int 3), hh) := by
                  refine ca_of (d := 18) (M := mX0_weakOf) rfl (Nat.le_of_ble_eq_true rfl) ?_
                  show Ev im_K0 18 mX0_weakOf (0, [(0, .ref 17), (1, .int x1)], [], hh) _
                  refine sp_aload_n (p2 := 1) rfl rfl rfl ?_
                  refine st_get rfl hh_1 rfl ?_
                  show Ev _ _ _ (4, _, _, _) _
                  refine sp_iload_n (p2 := 5) rfl rfl rfl ?_
                  refine st_iald (x := (-1)) rfl (by decide) hh_2 (in_at (n := 100) rfl (by omega) (by omega)) (rd_at 0 99 (by decide +kernel) (by omega) (by omega)) ?_
                  show Ev _ _ _ (6, _, _, _) _
                  refine sp_iconst (p2 := 7) (x := (-1)) rfl rfl (by decide) ?_
                  refine st_icmp (b := false) rfl (by decide) ?_
                  show Ev _ _ _ (10, _, _, _) _
                  refine sp_iconst (p2 := 11) (x := 3) rfl rfl (by decide) ?_
                  refine sp_goto rfl ?_
                  exact sp_iret rfl rfl
                refine st_callV (R := 17) rfl rfl rfl hh_1 rfl c1 ?_
                show Ev _ _ _ (86, [(0, .ref 16), (1, .int x1), (2, .int 2)], [.int 3], hh) _
                exact sp_iret rfl rfl
              · refine ca_of (d := 19) (M := mX12_cellTold) rfl (Nat.le_of_ble_eq_true rfl) ?_
                show Ev im_K0 19 mX12_cellTold (0, [(0, .ref 164), (1, .int x1), (2, .int 2)], [], hh) _
                refine sp_iload_n (p2 := 1) rfl rfl rfl ?_
                refine st_callS rfl rfl rfl (cl_isCell_T (by omega)) ?_
                show Ev _ _ _ (4, [(0, .ref 164), (1, .int x1), (2, .int 2)], [.int 1], hh) _
                refine st_ifc (b := true) rfl (by decide) ?_
                show Ev _ _ _ (9, _, _, _) _
                refine sp_iload_n (p2 := 10) rfl rfl rfl ?_
                refine st_ifc (b := true) rfl (by decide) ?_
                show Ev _ _ _ (22, _, _, _) _
                refine sp_iload_n (p2 := 23) rfl rfl rfl ?_
                refine sp_iconst (p2 := 24) (x := 1) rfl rfl (by decide) ?_
                refine st_icmp (b := true) rfl (by decide) ?_
                show Ev _ _ _ (51, _, _, _) _
                refine sp_iload_n (p2 := 52) rfl rfl rfl ?_
                refine sp_iconst (p2 := 53) (x := 2) rfl rfl (by decide) ?_
                refine st_icmp (b := false) rfl (by decide) ?_
                show Ev _ _ _ (56, _, _, _) _
                refine sp_aload_n (p2 := 57) rfl rfl rfl ?_
                refine sp_iload_n (p2 := 58) rfl rfl rfl ?_
                have c2 : Ca 19 122 [.ref 164, .int x1] hh (some (.int 3), hh) := by
                  refine ca_of (d := 18) (M := mX12_weakOf) rfl (Nat.le_of_ble_eq_true rfl) ?_
                  show Ev im_K0 18 mX12_weakOf (0, [(0, .ref 164), (1, .int x1)], [], hh) _
                  refine sp_aload_n (p2 := 1) rfl rfl rfl ?_
                  refine st_get rfl hh_148 rfl ?_
                  show Ev _ _ _ (4, _, _, _) _
                  refine sp_iload_n (p2 := 5) rfl rfl rfl ?_
                  refine st_iald (x := (-1)) rfl (by decide) hh_152 (in_at (n := 100) rfl (by omega) (by omega)) (rd_at 0 99 (by decide +kernel) (by omega) (by omega)) ?_
                  show Ev _ _ _ (6, _, _, _) _
                  refine sp_iconst (p2 := 7) (x := (-1)) rfl rfl (by decide) ?_
                  refine st_icmp (b := false) rfl (by decide) ?_
                  show Ev _ _ _ (10, _, _, _) _
                  refine sp_iconst (p2 := 11) (x := 3) rfl rfl (by decide) ?_
                  refine sp_goto rfl ?_
                  exact sp_iret rfl rfl
                refine st_callV (R := 164) rfl rfl rfl hh_148 rfl c2 ?_
                show Ev _ _ _ (61, [(0, .ref 164), (1, .int x1), (2, .int 2)], [.int 3], hh) _
                refine sp_goto rfl ?_
                exact sp_iret rfl rfl
            · refine ⟨.int (-2), hh, hh, ?_, ?_⟩
              · refine ca_of (d := 19) (M := mX11_cellTold) rfl (Nat.le_of_ble_eq_true rfl) ?_
                show Ev im_K0 19 mX11_cellTold (0, [(0, .ref 16), (1, .int x1), (2, .int x2)], [], hh) _
                refine sp_iload_n (p2 := 1) rfl rfl rfl ?_
                refine sp_bipush (p2 := 3) (x := 100) rfl rfl (by decide) ?_
                refine st_callS rfl rfl rfl (cl_within_T (b := 100) rfl (by omega)) ?_
                show Ev _ _ _ (6, [(0, .ref 16), (1, .int x1), (2, .int x2)], [.int 1], hh) _
                refine st_ifc (b := true) rfl (by decide) ?_
                show Ev _ _ _ (11, _, _, _) _
                refine sp_iload_n (p2 := 12) rfl rfl rfl ?_
                refine sp_tsOut (p2 := 87) rfl (by omega) (by decide) ?_
                refine sp_bipush (p2 := 89) (x := (-2)) rfl rfl (by decide) ?_
                exact sp_iret rfl rfl
              · refine ca_of (d := 19) (M := mX12_cellTold) rfl (Nat.le_of_ble_eq_true rfl) ?_
                show Ev im_K0 19 mX12_cellTold (0, [(0, .ref 164), (1, .int x1), (2, .int x2)], [], hh) _
                refine sp_iload_n (p2 := 1) rfl rfl rfl ?_
                refine st_callS rfl rfl rfl (cl_isCell_T (by omega)) ?_
                show Ev _ _ _ (4, [(0, .ref 164), (1, .int x1), (2, .int x2)], [.int 1], hh) _
                refine st_ifc (b := true) rfl (by decide) ?_
                show Ev _ _ _ (9, _, _, _) _
                refine sp_iload_n (p2 := 10) rfl rfl rfl ?_
                refine st_ifc (b := true) rfl (cn_ne_T rfl (show Int32.toInt 0 = 0 from rfl) (by omega)) ?_
                show Ev _ _ _ (22, _, _, _) _
                refine sp_iload_n (p2 := 23) rfl rfl rfl ?_
                refine sp_iconst (p2 := 24) (x := 1) rfl rfl (by decide) ?_
                refine st_icmp (b := true) rfl (cn_ne_T rfl (show Int32.toInt 1 = 1 from rfl) (by omega)) ?_
                show Ev _ _ _ (51, _, _, _) _
                refine sp_iload_n (p2 := 52) rfl rfl rfl ?_
                refine sp_iconst (p2 := 53) (x := 2) rfl rfl (by decide) ?_
                refine st_icmp (b := true) rfl (cn_ne_T rfl (show Int32.toInt 2 = 2 from rfl) (by omega)) ?_
                show Ev _ _ _ (64, _, _, _) _
                refine sp_bipush (p2 := 66) (x := (-2)) rfl rfl (by decide) ?_
                exact sp_iret rfl rfl
    · refine ⟨.int (-1), hh, hh, ?_, ?_⟩
      · refine ca_of (d := 19) (M := mX11_cellTold) rfl (Nat.le_of_ble_eq_true rfl) ?_
        show Ev im_K0 19 mX11_cellTold (0, [(0, .ref 16), (1, .int x1), (2, .int x2)], [], hh) _
        refine sp_iload_n (p2 := 1) rfl rfl rfl ?_
        refine sp_bipush (p2 := 3) (x := 100) rfl rfl (by decide) ?_
        refine st_callS rfl rfl rfl (cl_within_F (b := 100) rfl (by omega)) ?_
        show Ev _ _ _ (6, [(0, .ref 16), (1, .int x1), (2, .int x2)], [.int 0], hh) _
        refine st_ifc (b := false) rfl (by decide) ?_
        show Ev _ _ _ (9, _, _, _) _
        refine sp_iconst (p2 := 10) (x := (-1)) rfl rfl (by decide) ?_
        exact sp_iret rfl rfl
      · refine ca_of (d := 19) (M := mX12_cellTold) rfl (Nat.le_of_ble_eq_true rfl) ?_
        show Ev im_K0 19 mX12_cellTold (0, [(0, .ref 164), (1, .int x1), (2, .int x2)], [], hh) _
        refine sp_iload_n (p2 := 1) rfl rfl rfl ?_
        refine st_callS rfl rfl rfl (cl_isCell_F (by omega)) ?_
        show Ev _ _ _ (4, [(0, .ref 164), (1, .int x1), (2, .int x2)], [.int 0], hh) _
        refine st_ifc (b := false) rfl (by decide) ?_
        show Ev _ _ _ (7, _, _, _) _
        refine sp_iconst (p2 := 8) (x := (-1)) rfl rfl (by decide) ?_
        exact sp_iret rfl rfl
set_option maxRecDepth 10000 in
set_option maxHeartbeats 4000000 in
theorem q_personTold (x1 x2 : Int32) : ∃ (v : Value) (h1 h2 : im_H), Ca 20 79 [.ref 16, .int x1, .int x2] hh (some v, h1) ∧ Ca 20 158 [.ref 164, .int x1, .int x2] h1 (some v, h2) := by
  refine ⟨.int (-1), hh, hh, ?_, ?_⟩
  · refine ca_of (d := 19) (M := mX11_personTold) rfl (Nat.le_of_ble_eq_true rfl) ?_
    show Ev im_K0 19 mX11_personTold (0, [(0, .ref 16), (1, .int x1), (2, .int x2)], [], hh) _
    refine sp_iload_n (p2 := 1) rfl rfl rfl ?_
    refine sp_aload_n (p2 := 2) rfl rfl rfl ?_
    refine st_get rfl hh_0 rfl ?_
    show Ev _ _ _ (5, _, _, _) _
    refine st_get rfl hh_1 rfl ?_
    show Ev _ _ _ (8, _, _, _) _
    refine st_callS rfl rfl rfl (cl_within_F (b := 0) rfl (by omega)) ?_
    show Ev _ _ _ (11, [(0, .ref 16), (1, .int x1), (2, .int x2)], [.int 0], hh) _
    refine st_ifc (b := false) rfl (by decide) ?_
    show Ev _ _ _ (14, _, _, _) _
    refine sp_iconst (p2 := 15) (x := (-1)) rfl rfl (by decide) ?_
    exact sp_iret rfl rfl
  · refine ca_of (d := 19) (M := mX12_personTold) rfl (Nat.le_of_ble_eq_true rfl) ?_
    show Ev im_K0 19 mX12_personTold (0, [(0, .ref 164), (1, .int x1), (2, .int x2)], [], hh) _
    refine sp_aload_n (p2 := 1) rfl rfl rfl ?_
    refine sp_iload_n (p2 := 2) rfl rfl rfl ?_
    have c1 : Ca 19 119 [.ref 164, .int x1] hh (some (.int 0), hh) := by
      refine ca_of (d := 18) (M := mX12_isPerson) rfl (Nat.le_of_ble_eq_true rfl) ?_
      show Ev im_K0 18 mX12_isPerson (0, [(0, .ref 164), (1, .int x1)], [], hh) _
      refine sp_iload_n (p2 := 1) rfl rfl rfl ?_
      refine sp_iconst (p2 := 2) (x := 0) rfl rfl (by decide) ?_
      refine sp_aload_n (p2 := 3) rfl rfl rfl ?_
      refine st_get rfl hh_148 rfl ?_
      show Ev _ _ _ (6, _, _, _) _
      refine sp_iconst (p2 := 7) (x := 1) rfl rfl (by decide) ?_
      refine sp_isub (p2 := 8) (z := (-1)) rfl rfl (by decide) ?_
      refine st_callS rfl rfl rfl (cl_in_F (a := 0) (b := -1) rfl rfl (by omega)) ?_
      show Ev _ _ _ (11, [(0, .ref 164), (1, .int x1)], [.int 0], hh) _
      exact sp_zret rfl rfl (by decide)
    refine st_callV (R := 164) rfl rfl rfl hh_148 rfl c1 ?_
    show Ev _ _ _ (5, [(0, .ref 164), (1, .int x1), (2, .int x2)], [.int 0], hh) _
    refine st_ifc (b := false) rfl (by decide) ?_
    show Ev _ _ _ (8, _, _, _) _
    refine sp_iconst (p2 := 9) (x := (-1)) rfl rfl (by decide) ?_
    exact sp_iret rfl rfl
set_option maxRecDepth 10000 in
set_option maxHeartbeats 4000000 in
theorem q_rowTold (x1 x2 : Int32) : ∃ (v : Value) (h1 h2 : im_H), Ca 20 80 [.ref 16, .int x1, .int x2] hh (some v, h1) ∧ Ca 20 159 [.ref 164, .int x1, .int x2] h1 (some v, h2) := by
  by_cases h1 : x1.toInt ≤ (-1)
  · refine ⟨.int (-5), hh, hh, ?_, ?_⟩
    · refine ca_of (d := 19) (M := mX11_rowTold) rfl (Nat.le_of_ble_eq_true rfl) ?_
      show Ev im_K0 19 mX11_rowTold (0, [(0, .ref 16), (1, .int x1), (2, .int x2)], [], hh) _
      refine sp_iload_n (p2 := 1) rfl rfl rfl ?_
      refine sp_iconst (p2 := 2) (x := 4) rfl rfl (by decide) ?_
      refine st_callS rfl rfl rfl (cl_within_F (b := 4) rfl (by omega)) ?_
      show Ev _ _ _ (5, [(0, .ref 16), (1, .int x1), (2, .int x2)], [.int 0], hh) _
      refine st_ifc (b := false) rfl (by decide) ?_
      show Ev _ _ _ (8, _, _, _) _
      refine sp_bipush (p2 := 10) (x := (-5)) rfl rfl (by decide) ?_
      exact sp_iret rfl rfl
    · refine ca_of (d := 19) (M := mX12_rowTold) rfl (Nat.le_of_ble_eq_true rfl) ?_
      show Ev im_K0 19 mX12_rowTold (0, [(0, .ref 164), (1, .int x1), (2, .int x2)], [], hh) _
      refine sp_iload_n (p2 := 1) rfl rfl rfl ?_
      refine sp_iconst (p2 := 2) (x := 0) rfl rfl (by decide) ?_
      refine sp_iconst (p2 := 3) (x := 3) rfl rfl (by decide) ?_
      refine st_callS rfl rfl rfl (cl_in_F (a := 0) (b := 3) rfl rfl (by omega)) ?_
      show Ev _ _ _ (6, [(0, .ref 164), (1, .int x1), (2, .int x2)], [.int 0], hh) _
      refine st_ifc (b := false) rfl (by decide) ?_
      show Ev _ _ _ (9, _, _, _) _
      refine sp_bipush (p2 := 11) (x := (-5)) rfl rfl (by decide) ?_
      exact sp_iret rfl rfl
  · by_cases h2 : x1.toInt ≤ 3
    · by_cases h3 : x2.toInt ≤ (-1)
      · refine ⟨.int (-2), hh, hh, ?_, ?_⟩
        · refine ca_of (d := 19) (M := mX11_rowTold) rfl (Nat.le_of_ble_eq_true rfl) ?_
          show Ev im_K0 19 mX11_rowTold (0, [(0, .ref 16), (1, .int x1), (2, .int x2)], [], hh) _
          refine sp_iload_n (p2 := 1) rfl rfl rfl ?_
          refine sp_iconst (p2 := 2) (x := 4) rfl rfl (by decide) ?_
          refine st_callS rfl rfl rfl (cl_within_T (b := 4) rfl (by omega)) ?_
          show Ev _ _ _ (5, [(0, .ref 16), (1, .int x1), (2, .int x2)], [.int 1], hh) _
          refine st_ifc (b := true) rfl (by decide) ?_
          show Ev _ _ _ (11, _, _, _) _
          refine sp_iload_n (p2 := 12) rfl rfl rfl ?_
          refine sp_tsOut (p2 := 92) rfl (by omega) (by decide) ?_
          refine sp_bipush (p2 := 94) (x := (-2)) rfl rfl (by decide) ?_
          exact sp_iret rfl rfl
        · refine ca_of (d := 19) (M := mX12_rowTold) rfl (Nat.le_of_ble_eq_true rfl) ?_
          show Ev im_K0 19 mX12_rowTold (0, [(0, .ref 164), (1, .int x1), (2, .int x2)], [], hh) _
          refine sp_iload_n (p2 := 1) rfl rfl rfl ?_
          refine sp_iconst (p2 := 2) (x := 0) rfl rfl (by decide) ?_
          refine sp_iconst (p2 := 3) (x := 3) rfl rfl (by decide) ?_
          refine st_callS rfl rfl rfl (cl_in_T (a := 0) (b := 3) rfl rfl (by omega)) ?_
          show Ev _ _ _ (6, [(0, .ref 164), (1, .int x1), (2, .int x2)], [.int 1], hh) _
          refine st_ifc (b := true) rfl (by decide) ?_
          show Ev _ _ _ (12, _, _, _) _
          refine sp_iload_n (p2 := 13) rfl rfl rfl ?_
          refine st_ifc (b := true) rfl (cn_ne_T rfl (show Int32.toInt 0 = 0 from rfl) (by omega)) ?_
          show Ev _ _ _ (25, _, _, _) _
          refine sp_iload_n (p2 := 26) rfl rfl rfl ?_
          refine sp_iconst (p2 := 27) (x := 1) rfl rfl (by decide) ?_
          refine st_icmp (b := true) rfl (cn_ne_T rfl (show Int32.toInt 1 = 1 from rfl) (by omega)) ?_
          show Ev _ _ _ (43, _, _, _) _
          refine sp_iload_n (p2 := 44) rfl rfl rfl ?_
          refine sp_iconst (p2 := 45) (x := 2) rfl rfl (by decide) ?_
          refine st_icmp (b := true) rfl (cn_ne_T rfl (show Int32.toInt 2 = 2 from rfl) (by omega)) ?_
          show Ev _ _ _ (74, _, _, _) _
          refine sp_bipush (p2 := 76) (x := (-2)) rfl rfl (by decide) ?_
          exact sp_iret rfl rfl
      · by_cases h4 : x2.toInt ≤ 0
        · obtain rfl : x2 = 0 := i32_ext (by have e9 : Int32.toInt 0 = 0 := rfl; omega)
          by_cases h5 : x1.toInt ≤ 0
          · obtain rfl : x1 = 0 := i32_ext (by have e9 : Int32.toInt 0 = 0 := rfl; omega)
            refine ⟨.int 0, hh, hh, ?_, ?_⟩
            · refine ca_of (d := 19) (M := mX11_rowTold) rfl (Nat.le_of_ble_eq_true rfl) ?_
              show Ev im_K0 19 mX11_rowTold (0, [(0, .ref 16), (1, .int 0), (2, .int 0)], [], hh) _
              refine sp_iload_n (p2 := 1) rfl rfl rfl ?_
              refine sp_iconst (p2 := 2) (x := 4) rfl rfl (by decide) ?_
              refine st_callS rfl rfl rfl (cl_within_T (n := 0) (b := 4) (show Int32.toInt _ = _ from rfl) (by have e9 : Int32.toInt 0 = 0 := rfl; omega)) ?_
              show Ev _ _ _ (5, [(0, .ref 16), (1, .int 0), (2, .int 0)], [.int 1], hh) _
              refine st_ifc (b := true) rfl (by decide) ?_
              show Ev _ _ _ (11, _, _, _) _
              refine sp_iload_n (p2 := 12) rfl rfl rfl ?_
              refine sp_tsIn (k := 0) (p2 := 40) rfl (by decide) (by decide) (by decide) rfl (by decide) ?_
              refine sp_aload_n (p2 := 41) rfl rfl rfl ?_
              refine st_get rfl hh_0 rfl ?_
              show Ev _ _ _ (44, _, _, _) _
              refine st_get rfl hh_1 rfl ?_
              show Ev _ _ _ (47, _, _, _) _
              refine sp_iload_n (p2 := 48) rfl rfl rfl ?_
              refine st_aald (v := .ref 28) rfl hh_7 (by decide) rfl ?_
              show Ev _ _ _ (49, _, _, _) _
              refine st_get rfl hh_12 rfl ?_
              show Ev _ _ _ (52, _, _, _) _
              exact sp_iret rfl rfl
            · refine ca_of (d := 19) (M := mX12_rowTold) rfl (Nat.le_of_ble_eq_true rfl) ?_
              show Ev im_K0 19 mX12_rowTold (0, [(0, .ref 164), (1, .int 0), (2, .int 0)], [], hh) _
              refine sp_iload_n (p2 := 1) rfl rfl rfl ?_
              refine sp_iconst (p2 := 2) (x := 0) rfl rfl (by decide) ?_
              refine sp_iconst (p2 := 3) (x := 3) rfl rfl (by decide) ?_
              refine st_callS rfl rfl rfl (cl_in_T (n := 0) (a := 0) (b := 3) (show Int32.toInt _ = _ from rfl) (show Int32.toInt _ = _ from rfl) (by have e9 : Int32.toInt 0 = 0 := rfl; omega)) ?_
              show Ev _ _ _ (6, [(0, .ref 164), (1, .int 0), (2, .int 0)], [.int 1], hh) _
              refine st_ifc (b := true) rfl (by decide) ?_
              show Ev _ _ _ (12, _, _, _) _
              refine sp_iload_n (p2 := 13) rfl rfl rfl ?_
              refine st_ifc (b := false) rfl (by decide) ?_
              show Ev _ _ _ (16, _, _, _) _
              refine sp_aload_n (p2 := 17) rfl rfl rfl ?_
              refine st_get rfl hh_148 rfl ?_
              show Ev _ _ _ (20, _, _, _) _
              refine sp_iload_n (p2 := 21) rfl rfl rfl ?_
              refine st_iald (x := 0) rfl (by decide) hh_161 rfl rfl ?_
              show Ev _ _ _ (22, _, _, _) _
              refine sp_goto rfl ?_
              exact sp_iret rfl rfl
          · by_cases h6 : x1.toInt ≤ 1
            · obtain rfl : x1 = 1 := i32_ext (by have e9 : Int32.toInt 1 = 1 := rfl; omega)
              refine ⟨.int 0, hh, hh, ?_, ?_⟩
              · refine ca_of (d := 19) (M := mX11_rowTold) rfl (Nat.le_of_ble_eq_true rfl) ?_
                show Ev im_K0 19 mX11_rowTold (0, [(0, .ref 16), (1, .int 1), (2, .int 0)], [], hh) _
                refine sp_iload_n (p2 := 1) rfl rfl rfl ?_
                refine sp_iconst (p2 := 2) (x := 4) rfl rfl (by decide) ?_
                refine st_callS rfl rfl rfl (cl_within_T (n := 1) (b := 4) (show Int32.toInt _ = _ from rfl) (by have e9 : Int32.toInt 1 = 1 := rfl; omega)) ?_
                show Ev _ _ _ (5, [(0, .ref 16), (1, .int 1), (2, .int 0)], [.int 1], hh) _
                refine st_ifc (b := true) rfl (by decide) ?_
                show Ev _ _ _ (11, _, _, _) _
                refine sp_iload_n (p2 := 12) rfl rfl rfl ?_
                refine sp_tsIn (k := 0) (p2 := 40) rfl (by decide) (by decide) (by decide) rfl (by decide) ?_
                refine sp_aload_n (p2 := 41) rfl rfl rfl ?_
                refine st_get rfl hh_0 rfl ?_
                show Ev _ _ _ (44, _, _, _) _
                refine st_get rfl hh_1 rfl ?_
                show Ev _ _ _ (47, _, _, _) _
                refine sp_iload_n (p2 := 48) rfl rfl rfl ?_
                refine st_aald (v := .ref 30) rfl hh_7 (by decide) rfl ?_
                show Ev _ _ _ (49, _, _, _) _
                refine st_get rfl hh_14 rfl ?_
                show Ev _ _ _ (52, _, _, _) _
                exact sp_iret rfl rfl
              · refine ca_of (d := 19) (M := mX12_rowTold) rfl (Nat.le_of_ble_eq_true rfl) ?_
                show Ev im_K0 19 mX12_rowTold (0, [(0, .ref 164), (1, .int 1), (2, .int 0)], [], hh) _
                refine sp_iload_n (p2 := 1) rfl rfl rfl ?_
                refine sp_iconst (p2 := 2) (x := 0) rfl rfl (by decide) ?_
                refine sp_iconst (p2 := 3) (x := 3) rfl rfl (by decide) ?_
                refine st_callS rfl rfl rfl (cl_in_T (n := 1) (a := 0) (b := 3) (show Int32.toInt _ = _ from rfl) (show Int32.toInt _ = _ from rfl) (by have e9 : Int32.toInt 1 = 1 := rfl; omega)) ?_
                show Ev _ _ _ (6, [(0, .ref 164), (1, .int 1), (2, .int 0)], [.int 1], hh) _
                refine st_ifc (b := true) rfl (by decide) ?_
                show Ev _ _ _ (12, _, _, _) _
                refine sp_iload_n (p2 := 13) rfl rfl rfl ?_
                refine st_ifc (b := false) rfl (by decide) ?_
                show Ev _ _ _ (16, _, _, _) _
                refine sp_aload_n (p2 := 17) rfl rfl rfl ?_
                refine st_get rfl hh_148 rfl ?_
                show Ev _ _ _ (20, _, _, _) _
                refine sp_iload_n (p2 := 21) rfl rfl rfl ?_
                refine st_iald (x := 0) rfl (by decide) hh_161 rfl rfl ?_
                show Ev _ _ _ (22, _, _, _) _
                refine sp_goto rfl ?_
                exact sp_iret rfl rfl
            · by_cases h7 : x1.toInt ≤ 2
              · obtain rfl : x1 = 2 := i32_ext (by have e9 : Int32.toInt 2 = 2 := rfl; omega)
                refine ⟨.int 0, hh, hh, ?_, ?_⟩
                · refine ca_of (d := 19) (M := mX11_rowTold) rfl (Nat.le_of_ble_eq_true rfl) ?_
                  show Ev im_K0 19 mX11_rowTold (0, [(0, .ref 16), (1, .int 2), (2, .int 0)], [], hh) _
                  refine sp_iload_n (p2 := 1) rfl rfl rfl ?_
                  refine sp_iconst (p2 := 2) (x := 4) rfl rfl (by decide) ?_
                  refine st_callS rfl rfl rfl (cl_within_T (n := 2) (b := 4) (show Int32.toInt _ = _ from rfl) (by have e9 : Int32.toInt 2 = 2 := rfl; omega)) ?_
                  show Ev _ _ _ (5, [(0, .ref 16), (1, .int 2), (2, .int 0)], [.int 1], hh) _
                  refine st_ifc (b := true) rfl (by decide) ?_
                  show Ev _ _ _ (11, _, _, _) _
                  refine sp_iload_n (p2 := 12) rfl rfl rfl ?_
                  refine sp_tsIn (k := 0) (p2 := 40) rfl (by decide) (by decide) (by decide) rfl (by decide) ?_
                  refine sp_aload_n (p2 := 41) rfl rfl rfl ?_
                  refine st_get rfl hh_0 rfl ?_
                  show Ev _ _ _ (44, _, _, _) _
                  refine st_get rfl hh_1 rfl ?_
                  show Ev _ _ _ (47, _, _, _) _
                  refine sp_iload_n (p2 := 48) rfl rfl rfl ?_
                  refine st_aald (v := .ref 32) rfl hh_7 (by decide) rfl ?_
                  show Ev _ _ _ (49, _, _, _) _
                  refine st_get rfl hh_16 rfl ?_
                  show Ev _ _ _ (52, _, _, _) _
                  exact sp_iret rfl rfl
                · refine ca_of (d := 19) (M := mX12_rowTold) rfl (Nat.le_of_ble_eq_true rfl) ?_
                  show Ev im_K0 19 mX12_rowTold (0, [(0, .ref 164), (1, .int 2), (2, .int 0)], [], hh) _
                  refine sp_iload_n (p2 := 1) rfl rfl rfl ?_
                  refine sp_iconst (p2 := 2) (x := 0) rfl rfl (by decide) ?_
                  refine sp_iconst (p2 := 3) (x := 3) rfl rfl (by decide) ?_
                  refine st_callS rfl rfl rfl (cl_in_T (n := 2) (a := 0) (b := 3) (show Int32.toInt _ = _ from rfl) (show Int32.toInt _ = _ from rfl) (by have e9 : Int32.toInt 2 = 2 := rfl; omega)) ?_
                  show Ev _ _ _ (6, [(0, .ref 164), (1, .int 2), (2, .int 0)], [.int 1], hh) _
                  refine st_ifc (b := true) rfl (by decide) ?_
                  show Ev _ _ _ (12, _, _, _) _
                  refine sp_iload_n (p2 := 13) rfl rfl rfl ?_
                  refine st_ifc (b := false) rfl (by decide) ?_
                  show Ev _ _ _ (16, _, _, _) _
                  refine sp_aload_n (p2 := 17) rfl rfl rfl ?_
                  refine st_get rfl hh_148 rfl ?_
                  show Ev _ _ _ (20, _, _, _) _
                  refine sp_iload_n (p2 := 21) rfl rfl rfl ?_
                  refine st_iald (x := 0) rfl (by decide) hh_161 rfl rfl ?_
                  show Ev _ _ _ (22, _, _, _) _
                  refine sp_goto rfl ?_
                  exact sp_iret rfl rfl
              · obtain rfl : x1 = 3 := i32_ext (by have e9 : Int32.toInt 3 = 3 := rfl; omega)
                refine ⟨.int 0, hh, hh, ?_, ?_⟩
                · refine ca_of (d := 19) (M := mX11_rowTold) rfl (Nat.le_of_ble_eq_true rfl) ?_
                  show Ev im_K0 19 mX11_rowTold (0, [(0, .ref 16), (1, .int 3), (2, .int 0)], [], hh) _
                  refine sp_iload_n (p2 := 1) rfl rfl rfl ?_
                  refine sp_iconst (p2 := 2) (x := 4) rfl rfl (by decide) ?_
                  refine st_callS rfl rfl rfl (cl_within_T (n := 3) (b := 4) (show Int32.toInt _ = _ from rfl) (by have e9 : Int32.toInt 3 = 3 := rfl; omega)) ?_
                  show Ev _ _ _ (5, [(0, .ref 16), (1, .int 3), (2, .int 0)], [.int 1], hh) _
                  refine st_ifc (b := true) rfl (by decide) ?_
                  show Ev _ _ _ (11, _, _, _) _
                  refine sp_iload_n (p2 := 12) rfl rfl rfl ?_
                  refine sp_tsIn (k := 0) (p2 := 40) rfl (by decide) (by decide) (by decide) rfl (by decide) ?_
                  refine sp_aload_n (p2 := 41) rfl rfl rfl ?_
                  refine st_get rfl hh_0 rfl ?_
                  show Ev _ _ _ (44, _, _, _) _
                  refine st_get rfl hh_1 rfl ?_
                  show Ev _ _ _ (47, _, _, _) _
                  refine sp_iload_n (p2 := 48) rfl rfl rfl ?_
                  refine st_aald (v := .ref 34) rfl hh_7 (by decide) rfl ?_
                  show Ev _ _ _ (49, _, _, _) _
                  refine st_get rfl hh_18 rfl ?_
                  show Ev _ _ _ (52, _, _, _) _
                  exact sp_iret rfl rfl
                · refine ca_of (d := 19) (M := mX12_rowTold) rfl (Nat.le_of_ble_eq_true rfl) ?_
                  show Ev im_K0 19 mX12_rowTold (0, [(0, .ref 164), (1, .int 3), (2, .int 0)], [], hh) _
                  refine sp_iload_n (p2 := 1) rfl rfl rfl ?_
                  refine sp_iconst (p2 := 2) (x := 0) rfl rfl (by decide) ?_
                  refine sp_iconst (p2 := 3) (x := 3) rfl rfl (by decide) ?_
                  refine st_callS rfl rfl rfl (cl_in_T (n := 3) (a := 0) (b := 3) (show Int32.toInt _ = _ from rfl) (show Int32.toInt _ = _ from rfl) (by have e9 : Int32.toInt 3 = 3 := rfl; omega)) ?_
                  show Ev _ _ _ (6, [(0, .ref 164), (1, .int 3), (2, .int 0)], [.int 1], hh) _
                  refine st_ifc (b := true) rfl (by decide) ?_
                  show Ev _ _ _ (12, _, _, _) _
                  refine sp_iload_n (p2 := 13) rfl rfl rfl ?_
                  refine st_ifc (b := false) rfl (by decide) ?_
                  show Ev _ _ _ (16, _, _, _) _
                  refine sp_aload_n (p2 := 17) rfl rfl rfl ?_
                  refine st_get rfl hh_148 rfl ?_
                  show Ev _ _ _ (20, _, _, _) _
                  refine sp_iload_n (p2 := 21) rfl rfl rfl ?_
                  refine st_iald (x := 0) rfl (by decide) hh_161 rfl rfl ?_
                  show Ev _ _ _ (22, _, _, _) _
                  refine sp_goto rfl ?_
                  exact sp_iret rfl rfl
        · by_cases h5 : x2.toInt ≤ 1
          · obtain rfl : x2 = 1 := i32_ext (by have e9 : Int32.toInt 1 = 1 := rfl; omega)
            by_cases h6 : x1.toInt ≤ 0
            · obtain rfl : x1 = 0 := i32_ext (by have e9 : Int32.toInt 0 = 0 := rfl; omega)
              refine ⟨.int 0, hh, hh, ?_, ?_⟩
              · refine ca_of (d := 19) (M := mX11_rowTold) rfl (Nat.le_of_ble_eq_true rfl) ?_
                show Ev im_K0 19 mX11_rowTold (0, [(0, .ref 16), (1, .int 0), (2, .int 1)], [], hh) _
                refine sp_iload_n (p2 := 1) rfl rfl rfl ?_
                refine sp_iconst (p2 := 2) (x := 4) rfl rfl (by decide) ?_
                refine st_callS rfl rfl rfl (cl_within_T (n := 0) (b := 4) (show Int32.toInt _ = _ from rfl) (by have e9 : Int32.toInt 0 = 0 := rfl; omega)) ?_
                show Ev _ _ _ (5, [(0, .ref 16), (1, .int 0), (2, .int 1)], [.int 1], hh) _
                refine st_ifc (b := true) rfl (by decide) ?_
                show Ev _ _ _ (11, _, _, _) _
                refine sp_iload_n (p2 := 12) rfl rfl rfl ?_
                refine sp_tsIn (k := 1) (p2 := 53) rfl (by decide) (by decide) (by decide) rfl (by decide) ?_
                refine sp_aload_n (p2 := 54) rfl rfl rfl ?_
                refine st_get rfl hh_0 rfl ?_
                show Ev _ _ _ (57, _, _, _) _
                refine st_get rfl hh_23 rfl ?_
                show Ev _ _ _ (60, _, _, _) _
                refine sp_iload_n (p2 := 61) rfl rfl rfl ?_
                refine st_iald (x := 0) rfl (by decide) hh_34 rfl rfl ?_
                show Ev _ _ _ (62, _, _, _) _
                exact sp_iret rfl rfl
              · refine ca_of (d := 19) (M := mX12_rowTold) rfl (Nat.le_of_ble_eq_true rfl) ?_
                show Ev im_K0 19 mX12_rowTold (0, [(0, .ref 164), (1, .int 0), (2, .int 1)], [], hh) _
                refine sp_iload_n (p2 := 1) rfl rfl rfl ?_
                refine sp_iconst (p2 := 2) (x := 0) rfl rfl (by decide) ?_
                refine sp_iconst (p2 := 3) (x := 3) rfl rfl (by decide) ?_
                refine st_callS rfl rfl rfl (cl_in_T (n := 0) (a := 0) (b := 3) (show Int32.toInt _ = _ from rfl) (show Int32.toInt _ = _ from rfl) (by have e9 : Int32.toInt 0 = 0 := rfl; omega)) ?_
                show Ev _ _ _ (6, [(0, .ref 164), (1, .int 0), (2, .int 1)], [.int 1], hh) _
                refine st_ifc (b := true) rfl (by decide) ?_
                show Ev _ _ _ (12, _, _, _) _
                refine sp_iload_n (p2 := 13) rfl rfl rfl ?_
                refine st_ifc (b := true) rfl (by decide) ?_
                show Ev _ _ _ (25, _, _, _) _
                refine sp_iload_n (p2 := 26) rfl rfl rfl ?_
                refine sp_iconst (p2 := 27) (x := 1) rfl rfl (by decide) ?_
                refine st_icmp (b := false) rfl (by decide) ?_
                show Ev _ _ _ (30, _, _, _) _
                refine sp_aload_n (p2 := 31) rfl rfl rfl ?_
                refine st_get rfl hh_148 rfl ?_
                show Ev _ _ _ (34, _, _, _) _
                refine sp_sipush (p2 := 37) (x := 272) rfl rfl (by decide) ?_
                refine sp_iload_n (p2 := 38) rfl rfl rfl ?_
                refine sp_iadd (p2 := 39) (z := 272) rfl rfl (by decide) ?_
                refine st_iald (x := 0) rfl (by decide) hh_149 rfl rfl ?_
                show Ev _ _ _ (40, _, _, _) _
                refine sp_goto rfl ?_
                exact sp_iret rfl rfl
            · by_cases h7 : x1.toInt ≤ 1
              · obtain rfl : x1 = 1 := i32_ext (by have e9 : Int32.toInt 1 = 1 := rfl; omega)
                refine ⟨.int 0, hh, hh, ?_, ?_⟩
                · refine ca_of (d := 19) (M := mX11_rowTold) rfl (Nat.le_of_ble_eq_true rfl) ?_
                  show Ev im_K0 19 mX11_rowTold (0, [(0, .ref 16), (1, .int 1), (2, .int 1)], [], hh) _
                  refine sp_iload_n (p2 := 1) rfl rfl rfl ?_
                  refine sp_iconst (p2 := 2) (x := 4) rfl rfl (by decide) ?_
                  refine st_callS rfl rfl rfl (cl_within_T (n := 1) (b := 4) (show Int32.toInt _ = _ from rfl) (by have e9 : Int32.toInt 1 = 1 := rfl; omega)) ?_
                  show Ev _ _ _ (5, [(0, .ref 16), (1, .int 1), (2, .int 1)], [.int 1], hh) _
                  refine st_ifc (b := true) rfl (by decide) ?_
                  show Ev _ _ _ (11, _, _, _) _
                  refine sp_iload_n (p2 := 12) rfl rfl rfl ?_
                  refine sp_tsIn (k := 1) (p2 := 53) rfl (by decide) (by decide) (by decide) rfl (by decide) ?_
                  refine sp_aload_n (p2 := 54) rfl rfl rfl ?_
                  refine st_get rfl hh_0 rfl ?_
                  show Ev _ _ _ (57, _, _, _) _
                  refine st_get rfl hh_23 rfl ?_
                  show Ev _ _ _ (60, _, _, _) _
                  refine sp_iload_n (p2 := 61) rfl rfl rfl ?_
                  refine st_iald (x := 0) rfl (by decide) hh_34 rfl rfl ?_
                  show Ev _ _ _ (62, _, _, _) _
                  exact sp_iret rfl rfl
                · refine ca_of (d := 19) (M := mX12_rowTold) rfl (Nat.le_of_ble_eq_true rfl) ?_
                  show Ev im_K0 19 mX12_rowTold (0, [(0, .ref 164), (1, .int 1), (2, .int 1)], [], hh) _
                  refine sp_iload_n (p2 := 1) rfl rfl rfl ?_
                  refine sp_iconst (p2 := 2) (x := 0) rfl rfl (by decide) ?_
                  refine sp_iconst (p2 := 3) (x := 3) rfl rfl (by decide) ?_
                  refine st_callS rfl rfl rfl (cl_in_T (n := 1) (a := 0) (b := 3) (show Int32.toInt _ = _ from rfl) (show Int32.toInt _ = _ from rfl) (by have e9 : Int32.toInt 1 = 1 := rfl; omega)) ?_
                  show Ev _ _ _ (6, [(0, .ref 164), (1, .int 1), (2, .int 1)], [.int 1], hh) _
                  refine st_ifc (b := true) rfl (by decide) ?_
                  show Ev _ _ _ (12, _, _, _) _
                  refine sp_iload_n (p2 := 13) rfl rfl rfl ?_
                  refine st_ifc (b := true) rfl (by decide) ?_
                  show Ev _ _ _ (25, _, _, _) _
                  refine sp_iload_n (p2 := 26) rfl rfl rfl ?_
                  refine sp_iconst (p2 := 27) (x := 1) rfl rfl (by decide) ?_
                  refine st_icmp (b := false) rfl (by decide) ?_
                  show Ev _ _ _ (30, _, _, _) _
                  refine sp_aload_n (p2 := 31) rfl rfl rfl ?_
                  refine st_get rfl hh_148 rfl ?_
                  show Ev _ _ _ (34, _, _, _) _
                  refine sp_sipush (p2 := 37) (x := 272) rfl rfl (by decide) ?_
                  refine sp_iload_n (p2 := 38) rfl rfl rfl ?_
                  refine sp_iadd (p2 := 39) (z := 273) rfl rfl (by decide) ?_
                  refine st_iald (x := 0) rfl (by decide) hh_149 rfl rfl ?_
                  show Ev _ _ _ (40, _, _, _) _
                  refine sp_goto rfl ?_
                  exact sp_iret rfl rfl
              · by_cases h8 : x1.toInt ≤ 2
                · obtain rfl : x1 = 2 := i32_ext (by have e9 : Int32.toInt 2 = 2 := rfl; omega)
                  refine ⟨.int 0, hh, hh, ?_, ?_⟩
                  · refine ca_of (d := 19) (M := mX11_rowTold) rfl (Nat.le_of_ble_eq_true rfl) ?_
                    show Ev im_K0 19 mX11_rowTold (0, [(0, .ref 16), (1, .int 2), (2, .int 1)], [], hh) _
                    refine sp_iload_n (p2 := 1) rfl rfl rfl ?_
                    refine sp_iconst (p2 := 2) (x := 4) rfl rfl (by decide) ?_
                    refine st_callS rfl rfl rfl (cl_within_T (n := 2) (b := 4) (show Int32.toInt _ = _ from rfl) (by have e9 : Int32.toInt 2 = 2 := rfl; omega)) ?_
                    show Ev _ _ _ (5, [(0, .ref 16), (1, .int 2), (2, .int 1)], [.int 1], hh) _
                    refine st_ifc (b := true) rfl (by decide) ?_
                    show Ev _ _ _ (11, _, _, _) _
                    refine sp_iload_n (p2 := 12) rfl rfl rfl ?_
                    refine sp_tsIn (k := 1) (p2 := 53) rfl (by decide) (by decide) (by decide) rfl (by decide) ?_
                    refine sp_aload_n (p2 := 54) rfl rfl rfl ?_
                    refine st_get rfl hh_0 rfl ?_
                    show Ev _ _ _ (57, _, _, _) _
                    refine st_get rfl hh_23 rfl ?_
                    show Ev _ _ _ (60, _, _, _) _
                    refine sp_iload_n (p2 := 61) rfl rfl rfl ?_
                    refine st_iald (x := 0) rfl (by decide) hh_34 rfl rfl ?_
                    show Ev _ _ _ (62, _, _, _) _
                    exact sp_iret rfl rfl
                  · refine ca_of (d := 19) (M := mX12_rowTold) rfl (Nat.le_of_ble_eq_true rfl) ?_
                    show Ev im_K0 19 mX12_rowTold (0, [(0, .ref 164), (1, .int 2), (2, .int 1)], [], hh) _
                    refine sp_iload_n (p2 := 1) rfl rfl rfl ?_
                    refine sp_iconst (p2 := 2) (x := 0) rfl rfl (by decide) ?_
                    refine sp_iconst (p2 := 3) (x := 3) rfl rfl (by decide) ?_
                    refine st_callS rfl rfl rfl (cl_in_T (n := 2) (a := 0) (b := 3) (show Int32.toInt _ = _ from rfl) (show Int32.toInt _ = _ from rfl) (by have e9 : Int32.toInt 2 = 2 := rfl; omega)) ?_
                    show Ev _ _ _ (6, [(0, .ref 164), (1, .int 2), (2, .int 1)], [.int 1], hh) _
                    refine st_ifc (b := true) rfl (by decide) ?_
                    show Ev _ _ _ (12, _, _, _) _
                    refine sp_iload_n (p2 := 13) rfl rfl rfl ?_
                    refine st_ifc (b := true) rfl (by decide) ?_
                    show Ev _ _ _ (25, _, _, _) _
                    refine sp_iload_n (p2 := 26) rfl rfl rfl ?_
                    refine sp_iconst (p2 := 27) (x := 1) rfl rfl (by decide) ?_
                    refine st_icmp (b := false) rfl (by decide) ?_
                    show Ev _ _ _ (30, _, _, _) _
                    refine sp_aload_n (p2 := 31) rfl rfl rfl ?_
                    refine st_get rfl hh_148 rfl ?_
                    show Ev _ _ _ (34, _, _, _) _
                    refine sp_sipush (p2 := 37) (x := 272) rfl rfl (by decide) ?_
                    refine sp_iload_n (p2 := 38) rfl rfl rfl ?_
                    refine sp_iadd (p2 := 39) (z := 274) rfl rfl (by decide) ?_
                    refine st_iald (x := 0) rfl (by decide) hh_149 rfl rfl ?_
                    show Ev _ _ _ (40, _, _, _) _
                    refine sp_goto rfl ?_
                    exact sp_iret rfl rfl
                · obtain rfl : x1 = 3 := i32_ext (by have e9 : Int32.toInt 3 = 3 := rfl; omega)
                  refine ⟨.int 0, hh, hh, ?_, ?_⟩
                  · refine ca_of (d := 19) (M := mX11_rowTold) rfl (Nat.le_of_ble_eq_true rfl) ?_
                    show Ev im_K0 19 mX11_rowTold (0, [(0, .ref 16), (1, .int 3), (2, .int 1)], [], hh) _
                    refine sp_iload_n (p2 := 1) rfl rfl rfl ?_
                    refine sp_iconst (p2 := 2) (x := 4) rfl rfl (by decide) ?_
                    refine st_callS rfl rfl rfl (cl_within_T (n := 3) (b := 4) (show Int32.toInt _ = _ from rfl) (by have e9 : Int32.toInt 3 = 3 := rfl; omega)) ?_
                    show Ev _ _ _ (5, [(0, .ref 16), (1, .int 3), (2, .int 1)], [.int 1], hh) _
                    refine st_ifc (b := true) rfl (by decide) ?_
                    show Ev _ _ _ (11, _, _, _) _
                    refine sp_iload_n (p2 := 12) rfl rfl rfl ?_
                    refine sp_tsIn (k := 1) (p2 := 53) rfl (by decide) (by decide) (by decide) rfl (by decide) ?_
                    refine sp_aload_n (p2 := 54) rfl rfl rfl ?_
                    refine st_get rfl hh_0 rfl ?_
                    show Ev _ _ _ (57, _, _, _) _
                    refine st_get rfl hh_23 rfl ?_
                    show Ev _ _ _ (60, _, _, _) _
                    refine sp_iload_n (p2 := 61) rfl rfl rfl ?_
                    refine st_iald (x := 0) rfl (by decide) hh_34 rfl rfl ?_
                    show Ev _ _ _ (62, _, _, _) _
                    exact sp_iret rfl rfl
                  · refine ca_of (d := 19) (M := mX12_rowTold) rfl (Nat.le_of_ble_eq_true rfl) ?_
                    show Ev im_K0 19 mX12_rowTold (0, [(0, .ref 164), (1, .int 3), (2, .int 1)], [], hh) _
                    refine sp_iload_n (p2 := 1) rfl rfl rfl ?_
                    refine sp_iconst (p2 := 2) (x := 0) rfl rfl (by decide) ?_
                    refine sp_iconst (p2 := 3) (x := 3) rfl rfl (by decide) ?_
                    refine st_callS rfl rfl rfl (cl_in_T (n := 3) (a := 0) (b := 3) (show Int32.toInt _ = _ from rfl) (show Int32.toInt _ = _ from rfl) (by have e9 : Int32.toInt 3 = 3 := rfl; omega)) ?_
                    show Ev _ _ _ (6, [(0, .ref 164), (1, .int 3), (2, .int 1)], [.int 1], hh) _
                    refine st_ifc (b := true) rfl (by decide) ?_
                    show Ev _ _ _ (12, _, _, _) _
                    refine sp_iload_n (p2 := 13) rfl rfl rfl ?_
                    refine st_ifc (b := true) rfl (by decide) ?_
                    show Ev _ _ _ (25, _, _, _) _
                    refine sp_iload_n (p2 := 26) rfl rfl rfl ?_
                    refine sp_iconst (p2 := 27) (x := 1) rfl rfl (by decide) ?_
                    refine st_icmp (b := false) rfl (by decide) ?_
                    show Ev _ _ _ (30, _, _, _) _
                    refine sp_aload_n (p2 := 31) rfl rfl rfl ?_
                    refine st_get rfl hh_148 rfl ?_
                    show Ev _ _ _ (34, _, _, _) _
                    refine sp_sipush (p2 := 37) (x := 272) rfl rfl (by decide) ?_
                    refine sp_iload_n (p2 := 38) rfl rfl rfl ?_
                    refine sp_iadd (p2 := 39) (z := 275) rfl rfl (by decide) ?_
                    refine st_iald (x := 0) rfl (by decide) hh_149 rfl rfl ?_
                    show Ev _ _ _ (40, _, _, _) _
                    refine sp_goto rfl ?_
                    exact sp_iret rfl rfl
          · by_cases h6 : x2.toInt ≤ 2
            · obtain rfl : x2 = 2 := i32_ext (by have e9 : Int32.toInt 2 = 2 := rfl; omega)
              by_cases h7 : x1.toInt ≤ 0
              · obtain rfl : x1 = 0 := i32_ext (by have e9 : Int32.toInt 0 = 0 := rfl; omega)
                refine ⟨.int (-1), hh, hh, ?_, ?_⟩
                · refine ca_of (d := 19) (M := mX11_rowTold) rfl (Nat.le_of_ble_eq_true rfl) ?_
                  show Ev im_K0 19 mX11_rowTold (0, [(0, .ref 16), (1, .int 0), (2, .int 2)], [], hh) _
                  refine sp_iload_n (p2 := 1) rfl rfl rfl ?_
                  refine sp_iconst (p2 := 2) (x := 4) rfl rfl (by decide) ?_
                  refine st_callS rfl rfl rfl (cl_within_T (n := 0) (b := 4) (show Int32.toInt _ = _ from rfl) (by have e9 : Int32.toInt 0 = 0 := rfl; omega)) ?_
                  show Ev _ _ _ (5, [(0, .ref 16), (1, .int 0), (2, .int 2)], [.int 1], hh) _
                  refine st_ifc (b := true) rfl (by decide) ?_
                  show Ev _ _ _ (11, _, _, _) _
                  refine sp_iload_n (p2 := 12) rfl rfl rfl ?_
                  refine sp_tsIn (k := 2) (p2 := 63) rfl (by decide) (by decide) (by decide) rfl (by decide) ?_
                  refine sp_aload_n (p2 := 64) rfl rfl rfl ?_
                  refine st_get rfl hh_0 rfl ?_
                  show Ev _ _ _ (67, _, _, _) _
                  refine st_get rfl hh_1 rfl ?_
                  show Ev _ _ _ (70, _, _, _) _
                  refine sp_iload_n (p2 := 71) rfl rfl rfl ?_
                  refine st_aald (v := .ref 28) rfl hh_7 (by decide) rfl ?_
                  show Ev _ _ _ (72, _, _, _) _
                  refine st_get rfl hh_12 rfl ?_
                  show Ev _ _ _ (75, _, _, _) _
                  refine st_ifc (b := false) rfl (by decide) ?_
                  show Ev _ _ _ (78, _, _, _) _
                  refine sp_iconst (p2 := 79) (x := (-1)) rfl rfl (by decide) ?_
                  refine sp_goto rfl ?_
                  exact sp_iret rfl rfl
                · refine ca_of (d := 19) (M := mX12_rowTold) rfl (Nat.le_of_ble_eq_true rfl) ?_
                  show Ev im_K0 19 mX12_rowTold (0, [(0, .ref 164), (1, .int 0), (2, .int 2)], [], hh) _
                  refine sp_iload_n (p2 := 1) rfl rfl rfl ?_
                  refine sp_iconst (p2 := 2) (x := 0) rfl rfl (by decide) ?_
                  refine sp_iconst (p2 := 3) (x := 3) rfl rfl (by decide) ?_
                  refine st_callS rfl rfl rfl (cl_in_T (n := 0) (a := 0) (b := 3) (show Int32.toInt _ = _ from rfl) (show Int32.toInt _ = _ from rfl) (by have e9 : Int32.toInt 0 = 0 := rfl; omega)) ?_
                  show Ev _ _ _ (6, [(0, .ref 164), (1, .int 0), (2, .int 2)], [.int 1], hh) _
                  refine st_ifc (b := true) rfl (by decide) ?_
                  show Ev _ _ _ (12, _, _, _) _
                  refine sp_iload_n (p2 := 13) rfl rfl rfl ?_
                  refine st_ifc (b := true) rfl (by decide) ?_
                  show Ev _ _ _ (25, _, _, _) _
                  refine sp_iload_n (p2 := 26) rfl rfl rfl ?_
                  refine sp_iconst (p2 := 27) (x := 1) rfl rfl (by decide) ?_
                  refine st_icmp (b := true) rfl (by decide) ?_
                  show Ev _ _ _ (43, _, _, _) _
                  refine sp_iload_n (p2 := 44) rfl rfl rfl ?_
                  refine sp_iconst (p2 := 45) (x := 2) rfl rfl (by decide) ?_
                  refine st_icmp (b := false) rfl (by decide) ?_
                  show Ev _ _ _ (48, _, _, _) _
                  refine sp_aload_n (p2 := 49) rfl rfl rfl ?_
                  refine st_get rfl hh_148 rfl ?_
                  show Ev _ _ _ (52, _, _, _) _
                  refine sp_iload_n (p2 := 53) rfl rfl rfl ?_
                  refine st_iald (x := 0) rfl (by decide) hh_161 rfl rfl ?_
                  show Ev _ _ _ (54, _, _, _) _
                  refine st_ifc (b := false) rfl (by decide) ?_
                  show Ev _ _ _ (57, _, _, _) _
                  refine sp_iconst (p2 := 58) (x := (-1)) rfl rfl (by decide) ?_
                  refine sp_goto rfl ?_
                  exact sp_iret rfl rfl
              · by_cases h8 : x1.toInt ≤ 1
                · obtain rfl : x1 = 1 := i32_ext (by have e9 : Int32.toInt 1 = 1 := rfl; omega)
                  refine ⟨.int (-1), hh, hh, ?_, ?_⟩
                  · refine ca_of (d := 19) (M := mX11_rowTold) rfl (Nat.le_of_ble_eq_true rfl) ?_
                    show Ev im_K0 19 mX11_rowTold (0, [(0, .ref 16), (1, .int 1), (2, .int 2)], [], hh) _
                    refine sp_iload_n (p2 := 1) rfl rfl rfl ?_
                    refine sp_iconst (p2 := 2) (x := 4) rfl rfl (by decide) ?_
                    refine st_callS rfl rfl rfl (cl_within_T (n := 1) (b := 4) (show Int32.toInt _ = _ from rfl) (by have e9 : Int32.toInt 1 = 1 := rfl; omega)) ?_
                    show Ev _ _ _ (5, [(0, .ref 16), (1, .int 1), (2, .int 2)], [.int 1], hh) _
                    refine st_ifc (b := true) rfl (by decide) ?_
                    show Ev _ _ _ (11, _, _, _) _
                    refine sp_iload_n (p2 := 12) rfl rfl rfl ?_
                    refine sp_tsIn (k := 2) (p2 := 63) rfl (by decide) (by decide) (by decide) rfl (by decide) ?_
                    refine sp_aload_n (p2 := 64) rfl rfl rfl ?_
                    refine st_get rfl hh_0 rfl ?_
                    show Ev _ _ _ (67, _, _, _) _
                    refine st_get rfl hh_1 rfl ?_
                    show Ev _ _ _ (70, _, _, _) _
                    refine sp_iload_n (p2 := 71) rfl rfl rfl ?_
                    refine st_aald (v := .ref 30) rfl hh_7 (by decide) rfl ?_
                    show Ev _ _ _ (72, _, _, _) _
                    refine st_get rfl hh_14 rfl ?_
                    show Ev _ _ _ (75, _, _, _) _
                    refine st_ifc (b := false) rfl (by decide) ?_
                    show Ev _ _ _ (78, _, _, _) _
                    refine sp_iconst (p2 := 79) (x := (-1)) rfl rfl (by decide) ?_
                    refine sp_goto rfl ?_
                    exact sp_iret rfl rfl
                  · refine ca_of (d := 19) (M := mX12_rowTold) rfl (Nat.le_of_ble_eq_true rfl) ?_
                    show Ev im_K0 19 mX12_rowTold (0, [(0, .ref 164), (1, .int 1), (2, .int 2)], [], hh) _
                    refine sp_iload_n (p2 := 1) rfl rfl rfl ?_
                    refine sp_iconst (p2 := 2) (x := 0) rfl rfl (by decide) ?_
                    refine sp_iconst (p2 := 3) (x := 3) rfl rfl (by decide) ?_
                    refine st_callS rfl rfl rfl (cl_in_T (n := 1) (a := 0) (b := 3) (show Int32.toInt _ = _ from rfl) (show Int32.toInt _ = _ from rfl) (by have e9 : Int32.toInt 1 = 1 := rfl; omega)) ?_
                    show Ev _ _ _ (6, [(0, .ref 164), (1, .int 1), (2, .int 2)], [.int 1], hh) _
                    refine st_ifc (b := true) rfl (by decide) ?_
                    show Ev _ _ _ (12, _, _, _) _
                    refine sp_iload_n (p2 := 13) rfl rfl rfl ?_
                    refine st_ifc (b := true) rfl (by decide) ?_
                    show Ev _ _ _ (25, _, _, _) _
                    refine sp_iload_n (p2 := 26) rfl rfl rfl ?_
                    refine sp_iconst (p2 := 27) (x := 1) rfl rfl (by decide) ?_
                    refine st_icmp (b := true) rfl (by decide) ?_
                    show Ev _ _ _ (43, _, _, _) _
                    refine sp_iload_n (p2 := 44) rfl rfl rfl ?_
                    refine sp_iconst (p2 := 45) (x := 2) rfl rfl (by decide) ?_
                    refine st_icmp (b := false) rfl (by decide) ?_
                    show Ev _ _ _ (48, _, _, _) _
                    refine sp_aload_n (p2 := 49) rfl rfl rfl ?_
                    refine st_get rfl hh_148 rfl ?_
                    show Ev _ _ _ (52, _, _, _) _
                    refine sp_iload_n (p2 := 53) rfl rfl rfl ?_
                    refine st_iald (x := 0) rfl (by decide) hh_161 rfl rfl ?_
                    show Ev _ _ _ (54, _, _, _) _
                    refine st_ifc (b := false) rfl (by decide) ?_
                    show Ev _ _ _ (57, _, _, _) _
                    refine sp_iconst (p2 := 58) (x := (-1)) rfl rfl (by decide) ?_
                    refine sp_goto rfl ?_
                    exact sp_iret rfl rfl
                · by_cases h9 : x1.toInt ≤ 2
                  · obtain rfl : x1 = 2 := i32_ext (by have e9 : Int32.toInt 2 = 2 := rfl; omega)
                    refine ⟨.int (-1), hh, hh, ?_, ?_⟩
                    · refine ca_of (d := 19) (M := mX11_rowTold) rfl (Nat.le_of_ble_eq_true rfl) ?_
                      show Ev im_K0 19 mX11_rowTold (0, [(0, .ref 16), (1, .int 2), (2, .int 2)], [], hh) _
                      refine sp_iload_n (p2 := 1) rfl rfl rfl ?_
                      refine sp_iconst (p2 := 2) (x := 4) rfl rfl (by decide) ?_
                      refine st_callS rfl rfl rfl (cl_within_T (n := 2) (b := 4) (show Int32.toInt _ = _ from rfl) (by have e9 : Int32.toInt 2 = 2 := rfl; omega)) ?_
                      show Ev _ _ _ (5, [(0, .ref 16), (1, .int 2), (2, .int 2)], [.int 1], hh) _
                      refine st_ifc (b := true) rfl (by decide) ?_
                      show Ev _ _ _ (11, _, _, _) _
                      refine sp_iload_n (p2 := 12) rfl rfl rfl ?_
                      refine sp_tsIn (k := 2) (p2 := 63) rfl (by decide) (by decide) (by decide) rfl (by decide) ?_
                      refine sp_aload_n (p2 := 64) rfl rfl rfl ?_
                      refine st_get rfl hh_0 rfl ?_
                      show Ev _ _ _ (67, _, _, _) _
                      refine st_get rfl hh_1 rfl ?_
                      show Ev _ _ _ (70, _, _, _) _
                      refine sp_iload_n (p2 := 71) rfl rfl rfl ?_
                      refine st_aald (v := .ref 32) rfl hh_7 (by decide) rfl ?_
                      show Ev _ _ _ (72, _, _, _) _
                      refine st_get rfl hh_16 rfl ?_
                      show Ev _ _ _ (75, _, _, _) _
                      refine st_ifc (b := false) rfl (by decide) ?_
                      show Ev _ _ _ (78, _, _, _) _
                      refine sp_iconst (p2 := 79) (x := (-1)) rfl rfl (by decide) ?_
                      refine sp_goto rfl ?_
                      exact sp_iret rfl rfl
                    · refine ca_of (d := 19) (M := mX12_rowTold) rfl (Nat.le_of_ble_eq_true rfl) ?_
                      show Ev im_K0 19 mX12_rowTold (0, [(0, .ref 164), (1, .int 2), (2, .int 2)], [], hh) _
                      refine sp_iload_n (p2 := 1) rfl rfl rfl ?_
                      refine sp_iconst (p2 := 2) (x := 0) rfl rfl (by decide) ?_
                      refine sp_iconst (p2 := 3) (x := 3) rfl rfl (by decide) ?_
                      refine st_callS rfl rfl rfl (cl_in_T (n := 2) (a := 0) (b := 3) (show Int32.toInt _ = _ from rfl) (show Int32.toInt _ = _ from rfl) (by have e9 : Int32.toInt 2 = 2 := rfl; omega)) ?_
                      show Ev _ _ _ (6, [(0, .ref 164), (1, .int 2), (2, .int 2)], [.int 1], hh) _
                      refine st_ifc (b := true) rfl (by decide) ?_
                      show Ev _ _ _ (12, _, _, _) _
                      refine sp_iload_n (p2 := 13) rfl rfl rfl ?_
                      refine st_ifc (b := true) rfl (by decide) ?_
                      show Ev _ _ _ (25, _, _, _) _
                      refine sp_iload_n (p2 := 26) rfl rfl rfl ?_
                      refine sp_iconst (p2 := 27) (x := 1) rfl rfl (by decide) ?_
                      refine st_icmp (b := true) rfl (by decide) ?_
                      show Ev _ _ _ (43, _, _, _) _
                      refine sp_iload_n (p2 := 44) rfl rfl rfl ?_
                      refine sp_iconst (p2 := 45) (x := 2) rfl rfl (by decide) ?_
                      refine st_icmp (b := false) rfl (by decide) ?_
                      show Ev _ _ _ (48, _, _, _) _
                      refine sp_aload_n (p2 := 49) rfl rfl rfl ?_
                      refine st_get rfl hh_148 rfl ?_
                      show Ev _ _ _ (52, _, _, _) _
                      refine sp_iload_n (p2 := 53) rfl rfl rfl ?_
                      refine st_iald (x := 0) rfl (by decide) hh_161 rfl rfl ?_
                      show Ev _ _ _ (54, _, _, _) _
                      refine st_ifc (b := false) rfl (by decide) ?_
                      show Ev _ _ _ (57, _, _, _) _
                      refine sp_iconst (p2 := 58) (x := (-1)) rfl rfl (by decide) ?_
                      refine sp_goto rfl ?_
                      exact sp_iret rfl rfl
                  · obtain rfl : x1 = 3 := i32_ext (by have e9 : Int32.toInt 3 = 3 := rfl; omega)
                    refine ⟨.int (-1), hh, hh, ?_, ?_⟩
                    · refine ca_of (d := 19) (M := mX11_rowTold) rfl (Nat.le_of_ble_eq_true rfl) ?_
                      show Ev im_K0 19 mX11_rowTold (0, [(0, .ref 16), (1, .int 3), (2, .int 2)], [], hh) _
                      refine sp_iload_n (p2 := 1) rfl rfl rfl ?_
                      refine sp_iconst (p2 := 2) (x := 4) rfl rfl (by decide) ?_
                      refine st_callS rfl rfl rfl (cl_within_T (n := 3) (b := 4) (show Int32.toInt _ = _ from rfl) (by have e9 : Int32.toInt 3 = 3 := rfl; omega)) ?_
                      show Ev _ _ _ (5, [(0, .ref 16), (1, .int 3), (2, .int 2)], [.int 1], hh) _
                      refine st_ifc (b := true) rfl (by decide) ?_
                      show Ev _ _ _ (11, _, _, _) _
                      refine sp_iload_n (p2 := 12) rfl rfl rfl ?_
                      refine sp_tsIn (k := 2) (p2 := 63) rfl (by decide) (by decide) (by decide) rfl (by decide) ?_
                      refine sp_aload_n (p2 := 64) rfl rfl rfl ?_
                      refine st_get rfl hh_0 rfl ?_
                      show Ev _ _ _ (67, _, _, _) _
                      refine st_get rfl hh_1 rfl ?_
                      show Ev _ _ _ (70, _, _, _) _
                      refine sp_iload_n (p2 := 71) rfl rfl rfl ?_
                      refine st_aald (v := .ref 34) rfl hh_7 (by decide) rfl ?_
                      show Ev _ _ _ (72, _, _, _) _
                      refine st_get rfl hh_18 rfl ?_
                      show Ev _ _ _ (75, _, _, _) _
                      refine st_ifc (b := false) rfl (by decide) ?_
                      show Ev _ _ _ (78, _, _, _) _
                      refine sp_iconst (p2 := 79) (x := (-1)) rfl rfl (by decide) ?_
                      refine sp_goto rfl ?_
                      exact sp_iret rfl rfl
                    · refine ca_of (d := 19) (M := mX12_rowTold) rfl (Nat.le_of_ble_eq_true rfl) ?_
                      show Ev im_K0 19 mX12_rowTold (0, [(0, .ref 164), (1, .int 3), (2, .int 2)], [], hh) _
                      refine sp_iload_n (p2 := 1) rfl rfl rfl ?_
                      refine sp_iconst (p2 := 2) (x := 0) rfl rfl (by decide) ?_
                      refine sp_iconst (p2 := 3) (x := 3) rfl rfl (by decide) ?_
                      refine st_callS rfl rfl rfl (cl_in_T (n := 3) (a := 0) (b := 3) (show Int32.toInt _ = _ from rfl) (show Int32.toInt _ = _ from rfl) (by have e9 : Int32.toInt 3 = 3 := rfl; omega)) ?_
                      show Ev _ _ _ (6, [(0, .ref 164), (1, .int 3), (2, .int 2)], [.int 1], hh) _
                      refine st_ifc (b := true) rfl (by decide) ?_
                      show Ev _ _ _ (12, _, _, _) _
                      refine sp_iload_n (p2 := 13) rfl rfl rfl ?_
                      refine st_ifc (b := true) rfl (by decide) ?_
                      show Ev _ _ _ (25, _, _, _) _
                      refine sp_iload_n (p2 := 26) rfl rfl rfl ?_
                      refine sp_iconst (p2 := 27) (x := 1) rfl rfl (by decide) ?_
                      refine st_icmp (b := true) rfl (by decide) ?_
                      show Ev _ _ _ (43, _, _, _) _
                      refine sp_iload_n (p2 := 44) rfl rfl rfl ?_
                      refine sp_iconst (p2 := 45) (x := 2) rfl rfl (by decide) ?_
                      refine st_icmp (b := false) rfl (by decide) ?_
                      show Ev _ _ _ (48, _, _, _) _
                      refine sp_aload_n (p2 := 49) rfl rfl rfl ?_
                      refine st_get rfl hh_148 rfl ?_
                      show Ev _ _ _ (52, _, _, _) _
                      refine sp_iload_n (p2 := 53) rfl rfl rfl ?_
                      refine st_iald (x := 0) rfl (by decide) hh_161 rfl rfl ?_
                      show Ev _ _ _ (54, _, _, _) _
                      refine st_ifc (b := false) rfl (by decide) ?_
                      show Ev _ _ _ (57, _, _, _) _
                      refine sp_iconst (p2 := 58) (x := (-1)) rfl rfl (by decide) ?_
                      refine sp_goto rfl ?_
                      exact sp_iret rfl rfl
            · refine ⟨.int (-2), hh, hh, ?_, ?_⟩
              · refine ca_of (d := 19) (M := mX11_rowTold) rfl (Nat.le_of_ble_eq_true rfl) ?_
                show Ev im_K0 19 mX11_rowTold (0, [(0, .ref 16), (1, .int x1), (2, .int x2)], [], hh) _
                refine sp_iload_n (p2 := 1) rfl rfl rfl ?_
                refine sp_iconst (p2 := 2) (x := 4) rfl rfl (by decide) ?_
                refine st_callS rfl rfl rfl (cl_within_T (b := 4) rfl (by omega)) ?_
                show Ev _ _ _ (5, [(0, .ref 16), (1, .int x1), (2, .int x2)], [.int 1], hh) _
                refine st_ifc (b := true) rfl (by decide) ?_
                show Ev _ _ _ (11, _, _, _) _
                refine sp_iload_n (p2 := 12) rfl rfl rfl ?_
                refine sp_tsOut (p2 := 92) rfl (by omega) (by decide) ?_
                refine sp_bipush (p2 := 94) (x := (-2)) rfl rfl (by decide) ?_
                exact sp_iret rfl rfl
              · refine ca_of (d := 19) (M := mX12_rowTold) rfl (Nat.le_of_ble_eq_true rfl) ?_
                show Ev im_K0 19 mX12_rowTold (0, [(0, .ref 164), (1, .int x1), (2, .int x2)], [], hh) _
                refine sp_iload_n (p2 := 1) rfl rfl rfl ?_
                refine sp_iconst (p2 := 2) (x := 0) rfl rfl (by decide) ?_
                refine sp_iconst (p2 := 3) (x := 3) rfl rfl (by decide) ?_
                refine st_callS rfl rfl rfl (cl_in_T (a := 0) (b := 3) rfl rfl (by omega)) ?_
                show Ev _ _ _ (6, [(0, .ref 164), (1, .int x1), (2, .int x2)], [.int 1], hh) _
                refine st_ifc (b := true) rfl (by decide) ?_
                show Ev _ _ _ (12, _, _, _) _
                refine sp_iload_n (p2 := 13) rfl rfl rfl ?_
                refine st_ifc (b := true) rfl (cn_ne_T rfl (show Int32.toInt 0 = 0 from rfl) (by omega)) ?_
                show Ev _ _ _ (25, _, _, _) _
                refine sp_iload_n (p2 := 26) rfl rfl rfl ?_
                refine sp_iconst (p2 := 27) (x := 1) rfl rfl (by decide) ?_
                refine st_icmp (b := true) rfl (cn_ne_T rfl (show Int32.toInt 1 = 1 from rfl) (by omega)) ?_
                show Ev _ _ _ (43, _, _, _) _
                refine sp_iload_n (p2 := 44) rfl rfl rfl ?_
                refine sp_iconst (p2 := 45) (x := 2) rfl rfl (by decide) ?_
                refine st_icmp (b := true) rfl (cn_ne_T rfl (show Int32.toInt 2 = 2 from rfl) (by omega)) ?_
                show Ev _ _ _ (74, _, _, _) _
                refine sp_bipush (p2 := 76) (x := (-2)) rfl rfl (by decide) ?_
                exact sp_iret rfl rfl
    · refine ⟨.int (-5), hh, hh, ?_, ?_⟩
      · refine ca_of (d := 19) (M := mX11_rowTold) rfl (Nat.le_of_ble_eq_true rfl) ?_
        show Ev im_K0 19 mX11_rowTold (0, [(0, .ref 16), (1, .int x1), (2, .int x2)], [], hh) _
        refine sp_iload_n (p2 := 1) rfl rfl rfl ?_
        refine sp_iconst (p2 := 2) (x := 4) rfl rfl (by decide) ?_
        refine st_callS rfl rfl rfl (cl_within_F (b := 4) rfl (by omega)) ?_
        show Ev _ _ _ (5, [(0, .ref 16), (1, .int x1), (2, .int x2)], [.int 0], hh) _
        refine st_ifc (b := false) rfl (by decide) ?_
        show Ev _ _ _ (8, _, _, _) _
        refine sp_bipush (p2 := 10) (x := (-5)) rfl rfl (by decide) ?_
        exact sp_iret rfl rfl
      · refine ca_of (d := 19) (M := mX12_rowTold) rfl (Nat.le_of_ble_eq_true rfl) ?_
        show Ev im_K0 19 mX12_rowTold (0, [(0, .ref 164), (1, .int x1), (2, .int x2)], [], hh) _
        refine sp_iload_n (p2 := 1) rfl rfl rfl ?_
        refine sp_iconst (p2 := 2) (x := 0) rfl rfl (by decide) ?_
        refine sp_iconst (p2 := 3) (x := 3) rfl rfl (by decide) ?_
        refine st_callS rfl rfl rfl (cl_in_F (a := 0) (b := 3) rfl rfl (by omega)) ?_
        show Ev _ _ _ (6, [(0, .ref 164), (1, .int x1), (2, .int x2)], [.int 0], hh) _
        refine st_ifc (b := false) rfl (by decide) ?_
        show Ev _ _ _ (9, _, _, _) _
        refine sp_bipush (p2 := 11) (x := (-5)) rfl rfl (by decide) ?_
        exact sp_iret rfl rfl
set_option maxRecDepth 10000 in
set_option maxHeartbeats 4000000 in
theorem q_railTold (x1 x2 : Int32) : ∃ (v : Value) (h1 h2 : im_H), Ca 20 81 [.ref 16, .int x1, .int x2] hh (some v, h1) ∧ Ca 20 160 [.ref 164, .int x1, .int x2] h1 (some v, h2) := by
  by_cases h1 : x1.toInt ≤ (-1)
  · refine ⟨.int (-1), hh, hh, ?_, ?_⟩
    · refine ca_of (d := 19) (M := mX11_railTold) rfl (Nat.le_of_ble_eq_true rfl) ?_
      show Ev im_K0 19 mX11_railTold (0, [(0, .ref 16), (1, .int x1), (2, .int x2)], [], hh) _
      refine sp_iload_n (p2 := 1) rfl rfl rfl ?_
      refine sp_iconst (p2 := 2) (x := 3) rfl rfl (by decide) ?_
      refine st_callS rfl rfl rfl (cl_within_F (b := 3) rfl (by omega)) ?_
      show Ev _ _ _ (5, [(0, .ref 16), (1, .int x1), (2, .int x2)], [.int 0], hh) _
      refine st_ifc (b := false) rfl (by decide) ?_
      show Ev _ _ _ (8, _, _, _) _
      refine sp_iconst (p2 := 9) (x := (-1)) rfl rfl (by decide) ?_
      exact sp_iret rfl rfl
    · refine ca_of (d := 19) (M := mX12_railTold) rfl (Nat.le_of_ble_eq_true rfl) ?_
      show Ev im_K0 19 mX12_railTold (0, [(0, .ref 164), (1, .int x1), (2, .int x2)], [], hh) _
      refine sp_iload_n (p2 := 1) rfl rfl rfl ?_
      refine sp_iconst (p2 := 2) (x := 0) rfl rfl (by decide) ?_
      refine sp_iconst (p2 := 3) (x := 2) rfl rfl (by decide) ?_
      refine st_callS rfl rfl rfl (cl_in_F (a := 0) (b := 2) rfl rfl (by omega)) ?_
      show Ev _ _ _ (6, [(0, .ref 164), (1, .int x1), (2, .int x2)], [.int 0], hh) _
      refine st_ifc (b := false) rfl (by decide) ?_
      show Ev _ _ _ (9, _, _, _) _
      refine sp_iconst (p2 := 10) (x := (-1)) rfl rfl (by decide) ?_
      exact sp_iret rfl rfl
  · by_cases h2 : x1.toInt ≤ 2
    · by_cases h3 : x2.toInt ≤ (-1)
      · refine ⟨.int (-2), hh, hh, ?_, ?_⟩
        · refine ca_of (d := 19) (M := mX11_railTold) rfl (Nat.le_of_ble_eq_true rfl) ?_
          show Ev im_K0 19 mX11_railTold (0, [(0, .ref 16), (1, .int x1), (2, .int x2)], [], hh) _
          refine sp_iload_n (p2 := 1) rfl rfl rfl ?_
          refine sp_iconst (p2 := 2) (x := 3) rfl rfl (by decide) ?_
          refine st_callS rfl rfl rfl (cl_within_T (b := 3) rfl (by omega)) ?_
          show Ev _ _ _ (5, [(0, .ref 16), (1, .int x1), (2, .int x2)], [.int 1], hh) _
          refine st_ifc (b := true) rfl (by decide) ?_
          show Ev _ _ _ (10, _, _, _) _
          refine sp_iload_n (p2 := 11) rfl rfl rfl ?_
          refine sp_ls (p2 := 59) (off := 48) rfl (by decide) (ls_ne (by omega) (ls_ne (by omega) (ls_nil))) (by decide) ?_
          refine sp_bipush (p2 := 61) (x := (-2)) rfl rfl (by decide) ?_
          exact sp_iret rfl rfl
        · refine ca_of (d := 19) (M := mX12_railTold) rfl (Nat.le_of_ble_eq_true rfl) ?_
          show Ev im_K0 19 mX12_railTold (0, [(0, .ref 164), (1, .int x1), (2, .int x2)], [], hh) _
          refine sp_iload_n (p2 := 1) rfl rfl rfl ?_
          refine sp_iconst (p2 := 2) (x := 0) rfl rfl (by decide) ?_
          refine sp_iconst (p2 := 3) (x := 2) rfl rfl (by decide) ?_
          refine st_callS rfl rfl rfl (cl_in_T (a := 0) (b := 2) rfl rfl (by omega)) ?_
          show Ev _ _ _ (6, [(0, .ref 164), (1, .int x1), (2, .int x2)], [.int 1], hh) _
          refine st_ifc (b := true) rfl (by decide) ?_
          show Ev _ _ _ (11, _, _, _) _
          refine sp_iload_n (p2 := 12) rfl rfl rfl ?_
          refine st_ifc (b := true) rfl (cn_ne_T rfl (show Int32.toInt 0 = 0 from rfl) (by omega)) ?_
          show Ev _ _ _ (24, _, _, _) _
          refine sp_iload_n (p2 := 25) rfl rfl rfl ?_
          refine sp_iconst (p2 := 26) (x := 1) rfl rfl (by decide) ?_
          refine st_icmp (b := true) rfl (cn_ne_T rfl (show Int32.toInt 1 = 1 from rfl) (by omega)) ?_
          show Ev _ _ _ (42, _, _, _) _
          refine sp_bipush (p2 := 44) (x := (-2)) rfl rfl (by decide) ?_
          exact sp_iret rfl rfl
      · by_cases h4 : x2.toInt ≤ 0
        · obtain rfl : x2 = 0 := i32_ext (by have e9 : Int32.toInt 0 = 0 := rfl; omega)
          by_cases h5 : x1.toInt ≤ 0
          · obtain rfl : x1 = 0 := i32_ext (by have e9 : Int32.toInt 0 = 0 := rfl; omega)
            refine ⟨.int 0, hh, hh, ?_, ?_⟩
            · refine ca_of (d := 19) (M := mX11_railTold) rfl (Nat.le_of_ble_eq_true rfl) ?_
              show Ev im_K0 19 mX11_railTold (0, [(0, .ref 16), (1, .int 0), (2, .int 0)], [], hh) _
              refine sp_iload_n (p2 := 1) rfl rfl rfl ?_
              refine sp_iconst (p2 := 2) (x := 3) rfl rfl (by decide) ?_
              refine st_callS rfl rfl rfl (cl_within_T (n := 0) (b := 3) (show Int32.toInt _ = _ from rfl) (by have e9 : Int32.toInt 0 = 0 := rfl; omega)) ?_
              show Ev _ _ _ (5, [(0, .ref 16), (1, .int 0), (2, .int 0)], [.int 1], hh) _
              refine st_ifc (b := true) rfl (by decide) ?_
              show Ev _ _ _ (10, _, _, _) _
              refine sp_iload_n (p2 := 11) rfl rfl rfl ?_
              refine sp_ls (p2 := 36) (off := 25) rfl (by decide) (by decide) (by decide) ?_
              refine sp_aload_n (p2 := 37) rfl rfl rfl ?_
              refine st_get rfl hh_0 rfl ?_
              show Ev _ _ _ (40, _, _, _) _
              refine st_get rfl hh_1 rfl ?_
              show Ev _ _ _ (43, _, _, _) _
              refine sp_iload_n (p2 := 44) rfl rfl rfl ?_
              refine st_aald (v := .ref 36) rfl hh_8 (by decide) rfl ?_
              show Ev _ _ _ (45, _, _, _) _
              refine st_get rfl hh_20 rfl ?_
              show Ev _ _ _ (48, _, _, _) _
              exact sp_iret rfl rfl
            · refine ca_of (d := 19) (M := mX12_railTold) rfl (Nat.le_of_ble_eq_true rfl) ?_
              show Ev im_K0 19 mX12_railTold (0, [(0, .ref 164), (1, .int 0), (2, .int 0)], [], hh) _
              refine sp_iload_n (p2 := 1) rfl rfl rfl ?_
              refine sp_iconst (p2 := 2) (x := 0) rfl rfl (by decide) ?_
              refine sp_iconst (p2 := 3) (x := 2) rfl rfl (by decide) ?_
              refine st_callS rfl rfl rfl (cl_in_T (n := 0) (a := 0) (b := 2) (show Int32.toInt _ = _ from rfl) (show Int32.toInt _ = _ from rfl) (by have e9 : Int32.toInt 0 = 0 := rfl; omega)) ?_
              show Ev _ _ _ (6, [(0, .ref 164), (1, .int 0), (2, .int 0)], [.int 1], hh) _
              refine st_ifc (b := true) rfl (by decide) ?_
              show Ev _ _ _ (11, _, _, _) _
              refine sp_iload_n (p2 := 12) rfl rfl rfl ?_
              refine st_ifc (b := false) rfl (by decide) ?_
              show Ev _ _ _ (15, _, _, _) _
              refine sp_aload_n (p2 := 16) rfl rfl rfl ?_
              refine st_get rfl hh_148 rfl ?_
              show Ev _ _ _ (19, _, _, _) _
              refine sp_iload_n (p2 := 20) rfl rfl rfl ?_
              refine st_iald (x := 0) rfl (by decide) hh_165 rfl rfl ?_
              show Ev _ _ _ (21, _, _, _) _
              refine sp_goto rfl ?_
              exact sp_iret rfl rfl
          · by_cases h6 : x1.toInt ≤ 1
            · obtain rfl : x1 = 1 := i32_ext (by have e9 : Int32.toInt 1 = 1 := rfl; omega)
              refine ⟨.int 0, hh, hh, ?_, ?_⟩
              · refine ca_of (d := 19) (M := mX11_railTold) rfl (Nat.le_of_ble_eq_true rfl) ?_
                show Ev im_K0 19 mX11_railTold (0, [(0, .ref 16), (1, .int 1), (2, .int 0)], [], hh) _
                refine sp_iload_n (p2 := 1) rfl rfl rfl ?_
                refine sp_iconst (p2 := 2) (x := 3) rfl rfl (by decide) ?_
                refine st_callS rfl rfl rfl (cl_within_T (n := 1) (b := 3) (show Int32.toInt _ = _ from rfl) (by have e9 : Int32.toInt 1 = 1 := rfl; omega)) ?_
                show Ev _ _ _ (5, [(0, .ref 16), (1, .int 1), (2, .int 0)], [.int 1], hh) _
                refine st_ifc (b := true) rfl (by decide) ?_
                show Ev _ _ _ (10, _, _, _) _
                refine sp_iload_n (p2 := 11) rfl rfl rfl ?_
                refine sp_ls (p2 := 36) (off := 25) rfl (by decide) (by decide) (by decide) ?_
                refine sp_aload_n (p2 := 37) rfl rfl rfl ?_
                refine st_get rfl hh_0 rfl ?_
                show Ev _ _ _ (40, _, _, _) _
                refine st_get rfl hh_1 rfl ?_
                show Ev _ _ _ (43, _, _, _) _
                refine sp_iload_n (p2 := 44) rfl rfl rfl ?_
                refine st_aald (v := .ref 37) rfl hh_8 (by decide) rfl ?_
                show Ev _ _ _ (45, _, _, _) _
                refine st_get rfl hh_21 rfl ?_
                show Ev _ _ _ (48, _, _, _) _
                exact sp_iret rfl rfl
              · refine ca_of (d := 19) (M := mX12_railTold) rfl (Nat.le_of_ble_eq_true rfl) ?_
                show Ev im_K0 19 mX12_railTold (0, [(0, .ref 164), (1, .int 1), (2, .int 0)], [], hh) _
                refine sp_iload_n (p2 := 1) rfl rfl rfl ?_
                refine sp_iconst (p2 := 2) (x := 0) rfl rfl (by decide) ?_
                refine sp_iconst (p2 := 3) (x := 2) rfl rfl (by decide) ?_
                refine st_callS rfl rfl rfl (cl_in_T (n := 1) (a := 0) (b := 2) (show Int32.toInt _ = _ from rfl) (show Int32.toInt _ = _ from rfl) (by have e9 : Int32.toInt 1 = 1 := rfl; omega)) ?_
                show Ev _ _ _ (6, [(0, .ref 164), (1, .int 1), (2, .int 0)], [.int 1], hh) _
                refine st_ifc (b := true) rfl (by decide) ?_
                show Ev _ _ _ (11, _, _, _) _
                refine sp_iload_n (p2 := 12) rfl rfl rfl ?_
                refine st_ifc (b := false) rfl (by decide) ?_
                show Ev _ _ _ (15, _, _, _) _
                refine sp_aload_n (p2 := 16) rfl rfl rfl ?_
                refine st_get rfl hh_148 rfl ?_
                show Ev _ _ _ (19, _, _, _) _
                refine sp_iload_n (p2 := 20) rfl rfl rfl ?_
                refine st_iald (x := 0) rfl (by decide) hh_165 rfl rfl ?_
                show Ev _ _ _ (21, _, _, _) _
                refine sp_goto rfl ?_
                exact sp_iret rfl rfl
            · obtain rfl : x1 = 2 := i32_ext (by have e9 : Int32.toInt 2 = 2 := rfl; omega)
              refine ⟨.int 0, hh, hh, ?_, ?_⟩
              · refine ca_of (d := 19) (M := mX11_railTold) rfl (Nat.le_of_ble_eq_true rfl) ?_
                show Ev im_K0 19 mX11_railTold (0, [(0, .ref 16), (1, .int 2), (2, .int 0)], [], hh) _
                refine sp_iload_n (p2 := 1) rfl rfl rfl ?_
                refine sp_iconst (p2 := 2) (x := 3) rfl rfl (by decide) ?_
                refine st_callS rfl rfl rfl (cl_within_T (n := 2) (b := 3) (show Int32.toInt _ = _ from rfl) (by have e9 : Int32.toInt 2 = 2 := rfl; omega)) ?_
                show Ev _ _ _ (5, [(0, .ref 16), (1, .int 2), (2, .int 0)], [.int 1], hh) _
                refine st_ifc (b := true) rfl (by decide) ?_
                show Ev _ _ _ (10, _, _, _) _
                refine sp_iload_n (p2 := 11) rfl rfl rfl ?_
                refine sp_ls (p2 := 36) (off := 25) rfl (by decide) (by decide) (by decide) ?_
                refine sp_aload_n (p2 := 37) rfl rfl rfl ?_
                refine st_get rfl hh_0 rfl ?_
                show Ev _ _ _ (40, _, _, _) _
                refine st_get rfl hh_1 rfl ?_
                show Ev _ _ _ (43, _, _, _) _
                refine sp_iload_n (p2 := 44) rfl rfl rfl ?_
                refine st_aald (v := .ref 38) rfl hh_8 (by decide) rfl ?_
                show Ev _ _ _ (45, _, _, _) _
                refine st_get rfl hh_22 rfl ?_
                show Ev _ _ _ (48, _, _, _) _
                exact sp_iret rfl rfl
              · refine ca_of (d := 19) (M := mX12_railTold) rfl (Nat.le_of_ble_eq_true rfl) ?_
                show Ev im_K0 19 mX12_railTold (0, [(0, .ref 164), (1, .int 2), (2, .int 0)], [], hh) _
                refine sp_iload_n (p2 := 1) rfl rfl rfl ?_
                refine sp_iconst (p2 := 2) (x := 0) rfl rfl (by decide) ?_
                refine sp_iconst (p2 := 3) (x := 2) rfl rfl (by decide) ?_
                refine st_callS rfl rfl rfl (cl_in_T (n := 2) (a := 0) (b := 2) (show Int32.toInt _ = _ from rfl) (show Int32.toInt _ = _ from rfl) (by have e9 : Int32.toInt 2 = 2 := rfl; omega)) ?_
                show Ev _ _ _ (6, [(0, .ref 164), (1, .int 2), (2, .int 0)], [.int 1], hh) _
                refine st_ifc (b := true) rfl (by decide) ?_
                show Ev _ _ _ (11, _, _, _) _
                refine sp_iload_n (p2 := 12) rfl rfl rfl ?_
                refine st_ifc (b := false) rfl (by decide) ?_
                show Ev _ _ _ (15, _, _, _) _
                refine sp_aload_n (p2 := 16) rfl rfl rfl ?_
                refine st_get rfl hh_148 rfl ?_
                show Ev _ _ _ (19, _, _, _) _
                refine sp_iload_n (p2 := 20) rfl rfl rfl ?_
                refine st_iald (x := 0) rfl (by decide) hh_165 rfl rfl ?_
                show Ev _ _ _ (21, _, _, _) _
                refine sp_goto rfl ?_
                exact sp_iret rfl rfl
        · by_cases h5 : x2.toInt ≤ 1
          · obtain rfl : x2 = 1 := i32_ext (by have e9 : Int32.toInt 1 = 1 := rfl; omega)
            by_cases h6 : x1.toInt ≤ 0
            · obtain rfl : x1 = 0 := i32_ext (by have e9 : Int32.toInt 0 = 0 := rfl; omega)
              refine ⟨.int 0, hh, hh, ?_, ?_⟩
              · refine ca_of (d := 19) (M := mX11_railTold) rfl (Nat.le_of_ble_eq_true rfl) ?_
                show Ev im_K0 19 mX11_railTold (0, [(0, .ref 16), (1, .int 0), (2, .int 1)], [], hh) _
                refine sp_iload_n (p2 := 1) rfl rfl rfl ?_
                refine sp_iconst (p2 := 2) (x := 3) rfl rfl (by decide) ?_
                refine st_callS rfl rfl rfl (cl_within_T (n := 0) (b := 3) (show Int32.toInt _ = _ from rfl) (by have e9 : Int32.toInt 0 = 0 := rfl; omega)) ?_
                show Ev _ _ _ (5, [(0, .ref 16), (1, .int 0), (2, .int 1)], [.int 1], hh) _
                refine st_ifc (b := true) rfl (by decide) ?_
                show Ev _ _ _ (10, _, _, _) _
                refine sp_iload_n (p2 := 11) rfl rfl rfl ?_
                refine sp_ls (p2 := 49) (off := 38) rfl (by decide) (by decide) (by decide) ?_
                refine sp_aload_n (p2 := 50) rfl rfl rfl ?_
                refine st_get rfl hh_0 rfl ?_
                show Ev _ _ _ (53, _, _, _) _
                refine st_get rfl hh_23 rfl ?_
                show Ev _ _ _ (56, _, _, _) _
                refine sp_iload_n (p2 := 57) rfl rfl rfl ?_
                refine st_iald (x := 0) rfl (by decide) hh_36 rfl rfl ?_
                show Ev _ _ _ (58, _, _, _) _
                exact sp_iret rfl rfl
              · refine ca_of (d := 19) (M := mX12_railTold) rfl (Nat.le_of_ble_eq_true rfl) ?_
                show Ev im_K0 19 mX12_railTold (0, [(0, .ref 164), (1, .int 0), (2, .int 1)], [], hh) _
                refine sp_iload_n (p2 := 1) rfl rfl rfl ?_
                refine sp_iconst (p2 := 2) (x := 0) rfl rfl (by decide) ?_
                refine sp_iconst (p2 := 3) (x := 2) rfl rfl (by decide) ?_
                refine st_callS rfl rfl rfl (cl_in_T (n := 0) (a := 0) (b := 2) (show Int32.toInt _ = _ from rfl) (show Int32.toInt _ = _ from rfl) (by have e9 : Int32.toInt 0 = 0 := rfl; omega)) ?_
                show Ev _ _ _ (6, [(0, .ref 164), (1, .int 0), (2, .int 1)], [.int 1], hh) _
                refine st_ifc (b := true) rfl (by decide) ?_
                show Ev _ _ _ (11, _, _, _) _
                refine sp_iload_n (p2 := 12) rfl rfl rfl ?_
                refine st_ifc (b := true) rfl (by decide) ?_
                show Ev _ _ _ (24, _, _, _) _
                refine sp_iload_n (p2 := 25) rfl rfl rfl ?_
                refine sp_iconst (p2 := 26) (x := 1) rfl rfl (by decide) ?_
                refine st_icmp (b := false) rfl (by decide) ?_
                show Ev _ _ _ (29, _, _, _) _
                refine sp_aload_n (p2 := 30) rfl rfl rfl ?_
                refine st_get rfl hh_148 rfl ?_
                show Ev _ _ _ (33, _, _, _) _
                refine sp_sipush (p2 := 36) (x := 280) rfl rfl (by decide) ?_
                refine sp_iload_n (p2 := 37) rfl rfl rfl ?_
                refine sp_iadd (p2 := 38) (z := 280) rfl rfl (by decide) ?_
                refine st_iald (x := 0) rfl (by decide) hh_149 rfl rfl ?_
                show Ev _ _ _ (39, _, _, _) _
                refine sp_goto rfl ?_
                exact sp_iret rfl rfl
            · by_cases h7 : x1.toInt ≤ 1
              · obtain rfl : x1 = 1 := i32_ext (by have e9 : Int32.toInt 1 = 1 := rfl; omega)
                refine ⟨.int 0, hh, hh, ?_, ?_⟩
                · refine ca_of (d := 19) (M := mX11_railTold) rfl (Nat.le_of_ble_eq_true rfl) ?_
                  show Ev im_K0 19 mX11_railTold (0, [(0, .ref 16), (1, .int 1), (2, .int 1)], [], hh) _
                  refine sp_iload_n (p2 := 1) rfl rfl rfl ?_
                  refine sp_iconst (p2 := 2) (x := 3) rfl rfl (by decide) ?_
                  refine st_callS rfl rfl rfl (cl_within_T (n := 1) (b := 3) (show Int32.toInt _ = _ from rfl) (by have e9 : Int32.toInt 1 = 1 := rfl; omega)) ?_
                  show Ev _ _ _ (5, [(0, .ref 16), (1, .int 1), (2, .int 1)], [.int 1], hh) _
                  refine st_ifc (b := true) rfl (by decide) ?_
                  show Ev _ _ _ (10, _, _, _) _
                  refine sp_iload_n (p2 := 11) rfl rfl rfl ?_
                  refine sp_ls (p2 := 49) (off := 38) rfl (by decide) (by decide) (by decide) ?_
                  refine sp_aload_n (p2 := 50) rfl rfl rfl ?_
                  refine st_get rfl hh_0 rfl ?_
                  show Ev _ _ _ (53, _, _, _) _
                  refine st_get rfl hh_23 rfl ?_
                  show Ev _ _ _ (56, _, _, _) _
                  refine sp_iload_n (p2 := 57) rfl rfl rfl ?_
                  refine st_iald (x := 0) rfl (by decide) hh_36 rfl rfl ?_
                  show Ev _ _ _ (58, _, _, _) _
                  exact sp_iret rfl rfl
                · refine ca_of (d := 19) (M := mX12_railTold) rfl (Nat.le_of_ble_eq_true rfl) ?_
                  show Ev im_K0 19 mX12_railTold (0, [(0, .ref 164), (1, .int 1), (2, .int 1)], [], hh) _
                  refine sp_iload_n (p2 := 1) rfl rfl rfl ?_
                  refine sp_iconst (p2 := 2) (x := 0) rfl rfl (by decide) ?_
                  refine sp_iconst (p2 := 3) (x := 2) rfl rfl (by decide) ?_
                  refine st_callS rfl rfl rfl (cl_in_T (n := 1) (a := 0) (b := 2) (show Int32.toInt _ = _ from rfl) (show Int32.toInt _ = _ from rfl) (by have e9 : Int32.toInt 1 = 1 := rfl; omega)) ?_
                  show Ev _ _ _ (6, [(0, .ref 164), (1, .int 1), (2, .int 1)], [.int 1], hh) _
                  refine st_ifc (b := true) rfl (by decide) ?_
                  show Ev _ _ _ (11, _, _, _) _
                  refine sp_iload_n (p2 := 12) rfl rfl rfl ?_
                  refine st_ifc (b := true) rfl (by decide) ?_
                  show Ev _ _ _ (24, _, _, _) _
                  refine sp_iload_n (p2 := 25) rfl rfl rfl ?_
                  refine sp_iconst (p2 := 26) (x := 1) rfl rfl (by decide) ?_
                  refine st_icmp (b := false) rfl (by decide) ?_
                  show Ev _ _ _ (29, _, _, _) _
                  refine sp_aload_n (p2 := 30) rfl rfl rfl ?_
                  refine st_get rfl hh_148 rfl ?_
                  show Ev _ _ _ (33, _, _, _) _
                  refine sp_sipush (p2 := 36) (x := 280) rfl rfl (by decide) ?_
                  refine sp_iload_n (p2 := 37) rfl rfl rfl ?_
                  refine sp_iadd (p2 := 38) (z := 281) rfl rfl (by decide) ?_
                  refine st_iald (x := 0) rfl (by decide) hh_149 rfl rfl ?_
                  show Ev _ _ _ (39, _, _, _) _
                  refine sp_goto rfl ?_
                  exact sp_iret rfl rfl
              · obtain rfl : x1 = 2 := i32_ext (by have e9 : Int32.toInt 2 = 2 := rfl; omega)
                refine ⟨.int 0, hh, hh, ?_, ?_⟩
                · refine ca_of (d := 19) (M := mX11_railTold) rfl (Nat.le_of_ble_eq_true rfl) ?_
                  show Ev im_K0 19 mX11_railTold (0, [(0, .ref 16), (1, .int 2), (2, .int 1)], [], hh) _
                  refine sp_iload_n (p2 := 1) rfl rfl rfl ?_
                  refine sp_iconst (p2 := 2) (x := 3) rfl rfl (by decide) ?_
                  refine st_callS rfl rfl rfl (cl_within_T (n := 2) (b := 3) (show Int32.toInt _ = _ from rfl) (by have e9 : Int32.toInt 2 = 2 := rfl; omega)) ?_
                  show Ev _ _ _ (5, [(0, .ref 16), (1, .int 2), (2, .int 1)], [.int 1], hh) _
                  refine st_ifc (b := true) rfl (by decide) ?_
                  show Ev _ _ _ (10, _, _, _) _
                  refine sp_iload_n (p2 := 11) rfl rfl rfl ?_
                  refine sp_ls (p2 := 49) (off := 38) rfl (by decide) (by decide) (by decide) ?_
                  refine sp_aload_n (p2 := 50) rfl rfl rfl ?_
                  refine st_get rfl hh_0 rfl ?_
                  show Ev _ _ _ (53, _, _, _) _
                  refine st_get rfl hh_23 rfl ?_
                  show Ev _ _ _ (56, _, _, _) _
                  refine sp_iload_n (p2 := 57) rfl rfl rfl ?_
                  refine st_iald (x := 0) rfl (by decide) hh_36 rfl rfl ?_
                  show Ev _ _ _ (58, _, _, _) _
                  exact sp_iret rfl rfl
                · refine ca_of (d := 19) (M := mX12_railTold) rfl (Nat.le_of_ble_eq_true rfl) ?_
                  show Ev im_K0 19 mX12_railTold (0, [(0, .ref 164), (1, .int 2), (2, .int 1)], [], hh) _
                  refine sp_iload_n (p2 := 1) rfl rfl rfl ?_
                  refine sp_iconst (p2 := 2) (x := 0) rfl rfl (by decide) ?_
                  refine sp_iconst (p2 := 3) (x := 2) rfl rfl (by decide) ?_
                  refine st_callS rfl rfl rfl (cl_in_T (n := 2) (a := 0) (b := 2) (show Int32.toInt _ = _ from rfl) (show Int32.toInt _ = _ from rfl) (by have e9 : Int32.toInt 2 = 2 := rfl; omega)) ?_
                  show Ev _ _ _ (6, [(0, .ref 164), (1, .int 2), (2, .int 1)], [.int 1], hh) _
                  refine st_ifc (b := true) rfl (by decide) ?_
                  show Ev _ _ _ (11, _, _, _) _
                  refine sp_iload_n (p2 := 12) rfl rfl rfl ?_
                  refine st_ifc (b := true) rfl (by decide) ?_
                  show Ev _ _ _ (24, _, _, _) _
                  refine sp_iload_n (p2 := 25) rfl rfl rfl ?_
                  refine sp_iconst (p2 := 26) (x := 1) rfl rfl (by decide) ?_
                  refine st_icmp (b := false) rfl (by decide) ?_
                  show Ev _ _ _ (29, _, _, _) _
                  refine sp_aload_n (p2 := 30) rfl rfl rfl ?_
                  refine st_get rfl hh_148 rfl ?_
                  show Ev _ _ _ (33, _, _, _) _
                  refine sp_sipush (p2 := 36) (x := 280) rfl rfl (by decide) ?_
                  refine sp_iload_n (p2 := 37) rfl rfl rfl ?_
                  refine sp_iadd (p2 := 38) (z := 282) rfl rfl (by decide) ?_
                  refine st_iald (x := 0) rfl (by decide) hh_149 rfl rfl ?_
                  show Ev _ _ _ (39, _, _, _) _
                  refine sp_goto rfl ?_
                  exact sp_iret rfl rfl
          · refine ⟨.int (-2), hh, hh, ?_, ?_⟩
            · refine ca_of (d := 19) (M := mX11_railTold) rfl (Nat.le_of_ble_eq_true rfl) ?_
              show Ev im_K0 19 mX11_railTold (0, [(0, .ref 16), (1, .int x1), (2, .int x2)], [], hh) _
              refine sp_iload_n (p2 := 1) rfl rfl rfl ?_
              refine sp_iconst (p2 := 2) (x := 3) rfl rfl (by decide) ?_
              refine st_callS rfl rfl rfl (cl_within_T (b := 3) rfl (by omega)) ?_
              show Ev _ _ _ (5, [(0, .ref 16), (1, .int x1), (2, .int x2)], [.int 1], hh) _
              refine st_ifc (b := true) rfl (by decide) ?_
              show Ev _ _ _ (10, _, _, _) _
              refine sp_iload_n (p2 := 11) rfl rfl rfl ?_
              refine sp_ls (p2 := 59) (off := 48) rfl (by decide) (ls_ne (by omega) (ls_ne (by omega) (ls_nil))) (by decide) ?_
              refine sp_bipush (p2 := 61) (x := (-2)) rfl rfl (by decide) ?_
              exact sp_iret rfl rfl
            · refine ca_of (d := 19) (M := mX12_railTold) rfl (Nat.le_of_ble_eq_true rfl) ?_
              show Ev im_K0 19 mX12_railTold (0, [(0, .ref 164), (1, .int x1), (2, .int x2)], [], hh) _
              refine sp_iload_n (p2 := 1) rfl rfl rfl ?_
              refine sp_iconst (p2 := 2) (x := 0) rfl rfl (by decide) ?_
              refine sp_iconst (p2 := 3) (x := 2) rfl rfl (by decide) ?_
              refine st_callS rfl rfl rfl (cl_in_T (a := 0) (b := 2) rfl rfl (by omega)) ?_
              show Ev _ _ _ (6, [(0, .ref 164), (1, .int x1), (2, .int x2)], [.int 1], hh) _
              refine st_ifc (b := true) rfl (by decide) ?_
              show Ev _ _ _ (11, _, _, _) _
              refine sp_iload_n (p2 := 12) rfl rfl rfl ?_
              refine st_ifc (b := true) rfl (cn_ne_T rfl (show Int32.toInt 0 = 0 from rfl) (by omega)) ?_
              show Ev _ _ _ (24, _, _, _) _
              refine sp_iload_n (p2 := 25) rfl rfl rfl ?_
              refine sp_iconst (p2 := 26) (x := 1) rfl rfl (by decide) ?_
              refine st_icmp (b := true) rfl (cn_ne_T rfl (show Int32.toInt 1 = 1 from rfl) (by omega)) ?_
              show Ev _ _ _ (42, _, _, _) _
              refine sp_bipush (p2 := 44) (x := (-2)) rfl rfl (by decide) ?_
              exact sp_iret rfl rfl
    · refine ⟨.int (-1), hh, hh, ?_, ?_⟩
      · refine ca_of (d := 19) (M := mX11_railTold) rfl (Nat.le_of_ble_eq_true rfl) ?_
        show Ev im_K0 19 mX11_railTold (0, [(0, .ref 16), (1, .int x1), (2, .int x2)], [], hh) _
        refine sp_iload_n (p2 := 1) rfl rfl rfl ?_
        refine sp_iconst (p2 := 2) (x := 3) rfl rfl (by decide) ?_
        refine st_callS rfl rfl rfl (cl_within_F (b := 3) rfl (by omega)) ?_
        show Ev _ _ _ (5, [(0, .ref 16), (1, .int x1), (2, .int x2)], [.int 0], hh) _
        refine st_ifc (b := false) rfl (by decide) ?_
        show Ev _ _ _ (8, _, _, _) _
        refine sp_iconst (p2 := 9) (x := (-1)) rfl rfl (by decide) ?_
        exact sp_iret rfl rfl
      · refine ca_of (d := 19) (M := mX12_railTold) rfl (Nat.le_of_ble_eq_true rfl) ?_
        show Ev im_K0 19 mX12_railTold (0, [(0, .ref 164), (1, .int x1), (2, .int x2)], [], hh) _
        refine sp_iload_n (p2 := 1) rfl rfl rfl ?_
        refine sp_iconst (p2 := 2) (x := 0) rfl rfl (by decide) ?_
        refine sp_iconst (p2 := 3) (x := 2) rfl rfl (by decide) ?_
        refine st_callS rfl rfl rfl (cl_in_F (a := 0) (b := 2) rfl rfl (by omega)) ?_
        show Ev _ _ _ (6, [(0, .ref 164), (1, .int x1), (2, .int x2)], [.int 0], hh) _
        refine st_ifc (b := false) rfl (by decide) ?_
        show Ev _ _ _ (9, _, _, _) _
        refine sp_iconst (p2 := 10) (x := (-1)) rfl rfl (by decide) ?_
        exact sp_iret rfl rfl
set_option maxRecDepth 10000 in
set_option maxHeartbeats 4000000 in
theorem q_wallTold (x1 x2 : Int32) : ∃ (v : Value) (h1 h2 : im_H), Ca 20 82 [.ref 16, .int x1, .int x2] hh (some v, h1) ∧ Ca 20 162 [.ref 164, .int x1, .int x2] h1 (some v, h2) := by
  refine ⟨.int (-1), hh, hh, ?_, ?_⟩
  · refine ca_of (d := 19) (M := mX11_wallTold) rfl (Nat.le_of_ble_eq_true rfl) ?_
    show Ev im_K0 19 mX11_wallTold (0, [(0, .ref 16), (1, .int x1), (2, .int x2)], [], hh) _
    refine sp_iload_n (p2 := 1) rfl rfl rfl ?_
    refine sp_aload_n (p2 := 2) rfl rfl rfl ?_
    refine st_get rfl hh_0 rfl ?_
    show Ev _ _ _ (5, _, _, _) _
    refine st_get rfl hh_1 rfl ?_
    show Ev _ _ _ (8, _, _, _) _
    refine st_callS rfl rfl rfl (cl_within_F (b := 0) rfl (by omega)) ?_
    show Ev _ _ _ (11, [(0, .ref 16), (1, .int x1), (2, .int x2)], [.int 0], hh) _
    refine st_ifc (b := false) rfl (by decide) ?_
    show Ev _ _ _ (14, _, _, _) _
    refine sp_iconst (p2 := 15) (x := (-1)) rfl rfl (by decide) ?_
    exact sp_iret rfl rfl
  · refine ca_of (d := 19) (M := mX12_wallTold) rfl (Nat.le_of_ble_eq_true rfl) ?_
    show Ev im_K0 19 mX12_wallTold (0, [(0, .ref 164), (1, .int x1), (2, .int x2)], [], hh) _
    refine sp_aload_n (p2 := 1) rfl rfl rfl ?_
    refine sp_iload_n (p2 := 2) rfl rfl rfl ?_
    have c1 : Ca 19 161 [.ref 164, .int x1] hh (some (.int 0), hh) := by
      refine ca_of (d := 18) (M := mX12_isWall) rfl (Nat.le_of_ble_eq_true rfl) ?_
      show Ev im_K0 18 mX12_isWall (0, [(0, .ref 164), (1, .int x1)], [], hh) _
      refine sp_iload_n (p2 := 1) rfl rfl rfl ?_
      refine sp_iconst (p2 := 2) (x := 0) rfl rfl (by decide) ?_
      refine sp_aload_n (p2 := 3) rfl rfl rfl ?_
      refine st_get rfl hh_148 rfl ?_
      show Ev _ _ _ (6, _, _, _) _
      refine sp_iconst (p2 := 7) (x := 1) rfl rfl (by decide) ?_
      refine sp_isub (p2 := 8) (z := (-1)) rfl rfl (by decide) ?_
      refine st_callS rfl rfl rfl (cl_in_F (a := 0) (b := -1) rfl rfl (by omega)) ?_
      show Ev _ _ _ (11, [(0, .ref 164), (1, .int x1)], [.int 0], hh) _
      exact sp_zret rfl rfl (by decide)
    refine st_callV (R := 164) rfl rfl rfl hh_148 rfl c1 ?_
    show Ev _ _ _ (5, [(0, .ref 164), (1, .int x1), (2, .int x2)], [.int 0], hh) _
    refine st_ifc (b := false) rfl (by decide) ?_
    show Ev _ _ _ (8, _, _, _) _
    refine sp_iconst (p2 := 9) (x := (-1)) rfl rfl (by decide) ?_
    exact sp_iret rfl rfl
set_option maxRecDepth 10000 in
set_option maxHeartbeats 4000000 in
theorem q_pull (x1 : Int32) : ∃ (v : Value) (h1 h2 : im_H), Ca 20 84 [.ref 16, .int x1] hh (some v, h1) ∧ Ca 20 165 [.ref 164, .int x1] h1 (some v, h2) := by
  refine ⟨.int (-1), hh, hh, ?_, ?_⟩
  · refine ca_of (d := 19) (M := mX11_pull) rfl (Nat.le_of_ble_eq_true rfl) ?_
    show Ev im_K0 19 mX11_pull (0, [(0, .ref 16), (1, .int x1)], [], hh) _
    refine sp_iload_n (p2 := 1) rfl rfl rfl ?_
    refine sp_aload_n (p2 := 2) rfl rfl rfl ?_
    refine st_get rfl hh_0 rfl ?_
    show Ev _ _ _ (5, _, _, _) _
    refine st_get rfl hh_1 rfl ?_
    show Ev _ _ _ (8, _, _, _) _
    refine st_callS rfl rfl rfl (cl_within_F (b := 0) rfl (by omega)) ?_
    show Ev _ _ _ (11, [(0, .ref 16), (1, .int x1)], [.int 0], hh) _
    refine st_ifc (b := false) rfl (by decide) ?_
    show Ev _ _ _ (14, _, _, _) _
    refine sp_iconst (p2 := 15) (x := (-1)) rfl rfl (by decide) ?_
    exact sp_iret rfl rfl
  · refine ca_of (d := 19) (M := mX12_pull) rfl (Nat.le_of_ble_eq_true rfl) ?_
    show Ev im_K0 19 mX12_pull (0, [(0, .ref 164), (1, .int x1)], [], hh) _
    refine sp_aload_n (p2 := 1) rfl rfl rfl ?_
    refine sp_iload_n (p2 := 2) rfl rfl rfl ?_
    have c1 : Ca 19 161 [.ref 164, .int x1] hh (some (.int 0), hh) := by
      refine ca_of (d := 18) (M := mX12_isWall) rfl (Nat.le_of_ble_eq_true rfl) ?_
      show Ev im_K0 18 mX12_isWall (0, [(0, .ref 164), (1, .int x1)], [], hh) _
      refine sp_iload_n (p2 := 1) rfl rfl rfl ?_
      refine sp_iconst (p2 := 2) (x := 0) rfl rfl (by decide) ?_
      refine sp_aload_n (p2 := 3) rfl rfl rfl ?_
      refine st_get rfl hh_148 rfl ?_
      show Ev _ _ _ (6, _, _, _) _
      refine sp_iconst (p2 := 7) (x := 1) rfl rfl (by decide) ?_
      refine sp_isub (p2 := 8) (z := (-1)) rfl rfl (by decide) ?_
      refine st_callS rfl rfl rfl (cl_in_F (a := 0) (b := -1) rfl rfl (by omega)) ?_
      show Ev _ _ _ (11, [(0, .ref 164), (1, .int x1)], [.int 0], hh) _
      exact sp_zret rfl rfl (by decide)
    refine st_callV (R := 164) rfl rfl rfl hh_148 rfl c1 ?_
    show Ev _ _ _ (5, [(0, .ref 164), (1, .int x1)], [.int 0], hh) _
    refine st_ifc (b := false) rfl (by decide) ?_
    show Ev _ _ _ (8, _, _, _) _
    refine sp_iconst (p2 := 9) (x := (-1)) rfl rfl (by decide) ?_
    exact sp_iret rfl rfl
set_option maxRecDepth 10000 in
set_option maxHeartbeats 4000000 in
theorem q_pulls (x1 : Int32) : ∃ (v : Value) (h1 h2 : im_H), Ca 20 85 [.ref 16, .int x1] hh (some v, h1) ∧ Ca 20 168 [.ref 164, .int x1] h1 (some v, h2) := by
  by_cases h1 : x1.toInt ≤ (-1)
  · refine ⟨.int (-1), hh, hh, ?_, ?_⟩
    · refine ca_of (d := 19) (M := mX11_pulls) rfl (Nat.le_of_ble_eq_true rfl) ?_
      show Ev im_K0 19 mX11_pulls (0, [(0, .ref 16), (1, .int x1)], [], hh) _
      refine sp_iload_n (p2 := 1) rfl rfl rfl ?_
      refine sp_iconst (p2 := 2) (x := 4) rfl rfl (by decide) ?_
      refine st_callS rfl rfl rfl (cl_within_F (b := 4) rfl (by omega)) ?_
      show Ev _ _ _ (5, [(0, .ref 16), (1, .int x1)], [.int 0], hh) _
      refine st_ifc (b := false) rfl (by decide) ?_
      show Ev _ _ _ (8, _, _, _) _
      refine sp_iconst (p2 := 9) (x := (-1)) rfl rfl (by decide) ?_
      exact sp_iret rfl rfl
    · refine ca_of (d := 19) (M := mX12_pulls) rfl (Nat.le_of_ble_eq_true rfl) ?_
      show Ev im_K0 19 mX12_pulls (0, [(0, .ref 164), (1, .int x1)], [], hh) _
      refine sp_iload_n (p2 := 1) rfl rfl rfl ?_
      refine sp_iconst (p2 := 2) (x := 0) rfl rfl (by decide) ?_
      refine sp_iconst (p2 := 3) (x := 3) rfl rfl (by decide) ?_
      refine st_callS rfl rfl rfl (cl_in_F (a := 0) (b := 3) rfl rfl (by omega)) ?_
      show Ev _ _ _ (6, [(0, .ref 164), (1, .int x1)], [.int 0], hh) _
      refine st_ifc (b := false) rfl (by decide) ?_
      show Ev _ _ _ (9, _, _, _) _
      refine sp_iconst (p2 := 10) (x := (-1)) rfl rfl (by decide) ?_
      exact sp_iret rfl rfl
  · by_cases h2 : x1.toInt ≤ 3
    · by_cases h3 : x1.toInt ≤ 0
      · obtain rfl : x1 = 0 := i32_ext (by have e9 : Int32.toInt 0 = 0 := rfl; omega)
        refine ⟨.int (-11), hh, hh, ?_, ?_⟩
        · refine ca_of (d := 19) (M := mX11_pulls) rfl (Nat.le_of_ble_eq_true rfl) ?_
          show Ev im_K0 19 mX11_pulls (0, [(0, .ref 16), (1, .int 0)], [], hh) _
          refine sp_iload_n (p2 := 1) rfl rfl rfl ?_
          refine sp_iconst (p2 := 2) (x := 4) rfl rfl (by decide) ?_
          refine st_callS rfl rfl rfl (cl_within_T (n := 0) (b := 4) (show Int32.toInt _ = _ from rfl) (by have e9 : Int32.toInt 0 = 0 := rfl; omega)) ?_
          show Ev _ _ _ (5, [(0, .ref 16), (1, .int 0)], [.int 1], hh) _
          refine st_ifc (b := true) rfl (by decide) ?_
          show Ev _ _ _ (10, _, _, _) _
          refine sp_aload_n (p2 := 11) rfl rfl rfl ?_
          refine st_get rfl hh_0 rfl ?_
          show Ev _ _ _ (14, _, _, _) _
          refine sp_iload_n (p2 := 15) rfl rfl rfl ?_
          refine st_aald (v := .ref 156) rfl hh_97 (by decide) rfl ?_
          show Ev _ _ _ (16, _, _, _) _
          refine sp_astore_n (p2 := 17) (lv2 := [(2, .ref 156), (0, .ref 16), (1, .int 0)]) rfl rfl (by decide) rfl ?_
          refine sp_aload_n (p2 := 18) rfl rfl rfl ?_
          have c1 : Ca 19 41 [.ref 156] hh (some (.int 1), hh) := by
            refine ca_of (d := 18) (M := mX8_isMissing) rfl (Nat.le_of_ble_eq_true rfl) ?_
            show Ev im_K0 18 mX8_isMissing (0, [(0, .ref 156)], [], hh) _
            refine sp_aload_n (p2 := 1) rfl rfl rfl ?_
            refine st_get rfl hh_140 rfl ?_
            show Ev _ _ _ (4, _, _, _) _
            refine sp_iconst (p2 := 5) (x := (-1)) rfl rfl (by decide) ?_
            refine st_icmp (b := false) rfl (by decide) ?_
            show Ev _ _ _ (8, _, _, _) _
            refine sp_iconst (p2 := 9) (x := 1) rfl rfl (by decide) ?_
            refine sp_goto rfl ?_
            exact sp_zret rfl rfl (by decide)
          refine st_callV (R := 156) rfl rfl rfl hh_140 rfl c1 ?_
          show Ev _ _ _ (21, [(2, .ref 156), (0, .ref 16), (1, .int 0)], [.int 1], hh) _
          refine st_ifc (b := false) rfl (by decide) ?_
          show Ev _ _ _ (24, _, _, _) _
          refine sp_bipush (p2 := 26) (x := (-11)) rfl rfl (by decide) ?_
          exact sp_iret rfl rfl
        · refine ca_of (d := 19) (M := mX12_pulls) rfl (Nat.le_of_ble_eq_true rfl) ?_
          show Ev im_K0 19 mX12_pulls (0, [(0, .ref 164), (1, .int 0)], [], hh) _
          refine sp_iload_n (p2 := 1) rfl rfl rfl ?_
          refine sp_iconst (p2 := 2) (x := 0) rfl rfl (by decide) ?_
          refine sp_iconst (p2 := 3) (x := 3) rfl rfl (by decide) ?_
          refine st_callS rfl rfl rfl (cl_in_T (n := 0) (a := 0) (b := 3) (show Int32.toInt _ = _ from rfl) (show Int32.toInt _ = _ from rfl) (by have e9 : Int32.toInt 0 = 0 := rfl; omega)) ?_
          show Ev _ _ _ (6, [(0, .ref 164), (1, .int 0)], [.int 1], hh) _
          refine st_ifc (b := true) rfl (by decide) ?_
          show Ev _ _ _ (11, _, _, _) _
          refine sp_aload_n (p2 := 12) rfl rfl rfl ?_
          refine st_get rfl hh_148 rfl ?_
          show Ev _ _ _ (15, _, _, _) _
          refine sp_iload_n (p2 := 16) rfl rfl rfl ?_
          refine st_iald (x := (-1)) rfl (by decide) hh_192 rfl rfl ?_
          show Ev _ _ _ (17, _, _, _) _
          refine sp_iconst (p2 := 18) (x := (-1)) rfl rfl (by decide) ?_
          refine st_icmp (b := false) rfl (by decide) ?_
          show Ev _ _ _ (21, _, _, _) _
          refine sp_bipush (p2 := 23) (x := (-11)) rfl rfl (by decide) ?_
          exact sp_iret rfl rfl
      · by_cases h4 : x1.toInt ≤ 1
        · obtain rfl : x1 = 1 := i32_ext (by have e9 : Int32.toInt 1 = 1 := rfl; omega)
          refine ⟨.int (-11), hh, hh, ?_, ?_⟩
          · refine ca_of (d := 19) (M := mX11_pulls) rfl (Nat.le_of_ble_eq_true rfl) ?_
            show Ev im_K0 19 mX11_pulls (0, [(0, .ref 16), (1, .int 1)], [], hh) _
            refine sp_iload_n (p2 := 1) rfl rfl rfl ?_
            refine sp_iconst (p2 := 2) (x := 4) rfl rfl (by decide) ?_
            refine st_callS rfl rfl rfl (cl_within_T (n := 1) (b := 4) (show Int32.toInt _ = _ from rfl) (by have e9 : Int32.toInt 1 = 1 := rfl; omega)) ?_
            show Ev _ _ _ (5, [(0, .ref 16), (1, .int 1)], [.int 1], hh) _
            refine st_ifc (b := true) rfl (by decide) ?_
            show Ev _ _ _ (10, _, _, _) _
            refine sp_aload_n (p2 := 11) rfl rfl rfl ?_
            refine st_get rfl hh_0 rfl ?_
            show Ev _ _ _ (14, _, _, _) _
            refine sp_iload_n (p2 := 15) rfl rfl rfl ?_
            refine st_aald (v := .ref 158) rfl hh_97 (by decide) rfl ?_
            show Ev _ _ _ (16, _, _, _) _
            refine sp_astore_n (p2 := 17) (lv2 := [(2, .ref 158), (0, .ref 16), (1, .int 1)]) rfl rfl (by decide) rfl ?_
            refine sp_aload_n (p2 := 18) rfl rfl rfl ?_
            have c1 : Ca 19 41 [.ref 158] hh (some (.int 1), hh) := by
              refine ca_of (d := 18) (M := mX8_isMissing) rfl (Nat.le_of_ble_eq_true rfl) ?_
              show Ev im_K0 18 mX8_isMissing (0, [(0, .ref 158)], [], hh) _
              refine sp_aload_n (p2 := 1) rfl rfl rfl ?_
              refine st_get rfl hh_142 rfl ?_
              show Ev _ _ _ (4, _, _, _) _
              refine sp_iconst (p2 := 5) (x := (-1)) rfl rfl (by decide) ?_
              refine st_icmp (b := false) rfl (by decide) ?_
              show Ev _ _ _ (8, _, _, _) _
              refine sp_iconst (p2 := 9) (x := 1) rfl rfl (by decide) ?_
              refine sp_goto rfl ?_
              exact sp_zret rfl rfl (by decide)
            refine st_callV (R := 158) rfl rfl rfl hh_142 rfl c1 ?_
            show Ev _ _ _ (21, [(2, .ref 158), (0, .ref 16), (1, .int 1)], [.int 1], hh) _
            refine st_ifc (b := false) rfl (by decide) ?_
            show Ev _ _ _ (24, _, _, _) _
            refine sp_bipush (p2 := 26) (x := (-11)) rfl rfl (by decide) ?_
            exact sp_iret rfl rfl
          · refine ca_of (d := 19) (M := mX12_pulls) rfl (Nat.le_of_ble_eq_true rfl) ?_
            show Ev im_K0 19 mX12_pulls (0, [(0, .ref 164), (1, .int 1)], [], hh) _
            refine sp_iload_n (p2 := 1) rfl rfl rfl ?_
            refine sp_iconst (p2 := 2) (x := 0) rfl rfl (by decide) ?_
            refine sp_iconst (p2 := 3) (x := 3) rfl rfl (by decide) ?_
            refine st_callS rfl rfl rfl (cl_in_T (n := 1) (a := 0) (b := 3) (show Int32.toInt _ = _ from rfl) (show Int32.toInt _ = _ from rfl) (by have e9 : Int32.toInt 1 = 1 := rfl; omega)) ?_
            show Ev _ _ _ (6, [(0, .ref 164), (1, .int 1)], [.int 1], hh) _
            refine st_ifc (b := true) rfl (by decide) ?_
            show Ev _ _ _ (11, _, _, _) _
            refine sp_aload_n (p2 := 12) rfl rfl rfl ?_
            refine st_get rfl hh_148 rfl ?_
            show Ev _ _ _ (15, _, _, _) _
            refine sp_iload_n (p2 := 16) rfl rfl rfl ?_
            refine st_iald (x := (-1)) rfl (by decide) hh_192 rfl rfl ?_
            show Ev _ _ _ (17, _, _, _) _
            refine sp_iconst (p2 := 18) (x := (-1)) rfl rfl (by decide) ?_
            refine st_icmp (b := false) rfl (by decide) ?_
            show Ev _ _ _ (21, _, _, _) _
            refine sp_bipush (p2 := 23) (x := (-11)) rfl rfl (by decide) ?_
            exact sp_iret rfl rfl
        · by_cases h5 : x1.toInt ≤ 2
          · obtain rfl : x1 = 2 := i32_ext (by have e9 : Int32.toInt 2 = 2 := rfl; omega)
            refine ⟨.int (-11), hh, hh, ?_, ?_⟩
            · refine ca_of (d := 19) (M := mX11_pulls) rfl (Nat.le_of_ble_eq_true rfl) ?_
              show Ev im_K0 19 mX11_pulls (0, [(0, .ref 16), (1, .int 2)], [], hh) _
              refine sp_iload_n (p2 := 1) rfl rfl rfl ?_
              refine sp_iconst (p2 := 2) (x := 4) rfl rfl (by decide) ?_
              refine st_callS rfl rfl rfl (cl_within_T (n := 2) (b := 4) (show Int32.toInt _ = _ from rfl) (by have e9 : Int32.toInt 2 = 2 := rfl; omega)) ?_
              show Ev _ _ _ (5, [(0, .ref 16), (1, .int 2)], [.int 1], hh) _
              refine st_ifc (b := true) rfl (by decide) ?_
              show Ev _ _ _ (10, _, _, _) _
              refine sp_aload_n (p2 := 11) rfl rfl rfl ?_
              refine st_get rfl hh_0 rfl ?_
              show Ev _ _ _ (14, _, _, _) _
              refine sp_iload_n (p2 := 15) rfl rfl rfl ?_
              refine st_aald (v := .ref 160) rfl hh_97 (by decide) rfl ?_
              show Ev _ _ _ (16, _, _, _) _
              refine sp_astore_n (p2 := 17) (lv2 := [(2, .ref 160), (0, .ref 16), (1, .int 2)]) rfl rfl (by decide) rfl ?_
              refine sp_aload_n (p2 := 18) rfl rfl rfl ?_
              have c1 : Ca 19 41 [.ref 160] hh (some (.int 1), hh) := by
                refine ca_of (d := 18) (M := mX8_isMissing) rfl (Nat.le_of_ble_eq_true rfl) ?_
                show Ev im_K0 18 mX8_isMissing (0, [(0, .ref 160)], [], hh) _
                refine sp_aload_n (p2 := 1) rfl rfl rfl ?_
                refine st_get rfl hh_144 rfl ?_
                show Ev _ _ _ (4, _, _, _) _
                refine sp_iconst (p2 := 5) (x := (-1)) rfl rfl (by decide) ?_
                refine st_icmp (b := false) rfl (by decide) ?_
                show Ev _ _ _ (8, _, _, _) _
                refine sp_iconst (p2 := 9) (x := 1) rfl rfl (by decide) ?_
                refine sp_goto rfl ?_
                exact sp_zret rfl rfl (by decide)
              refine st_callV (R := 160) rfl rfl rfl hh_144 rfl c1 ?_
              show Ev _ _ _ (21, [(2, .ref 160), (0, .ref 16), (1, .int 2)], [.int 1], hh) _
              refine st_ifc (b := false) rfl (by decide) ?_
              show Ev _ _ _ (24, _, _, _) _
              refine sp_bipush (p2 := 26) (x := (-11)) rfl rfl (by decide) ?_
              exact sp_iret rfl rfl
            · refine ca_of (d := 19) (M := mX12_pulls) rfl (Nat.le_of_ble_eq_true rfl) ?_
              show Ev im_K0 19 mX12_pulls (0, [(0, .ref 164), (1, .int 2)], [], hh) _
              refine sp_iload_n (p2 := 1) rfl rfl rfl ?_
              refine sp_iconst (p2 := 2) (x := 0) rfl rfl (by decide) ?_
              refine sp_iconst (p2 := 3) (x := 3) rfl rfl (by decide) ?_
              refine st_callS rfl rfl rfl (cl_in_T (n := 2) (a := 0) (b := 3) (show Int32.toInt _ = _ from rfl) (show Int32.toInt _ = _ from rfl) (by have e9 : Int32.toInt 2 = 2 := rfl; omega)) ?_
              show Ev _ _ _ (6, [(0, .ref 164), (1, .int 2)], [.int 1], hh) _
              refine st_ifc (b := true) rfl (by decide) ?_
              show Ev _ _ _ (11, _, _, _) _
              refine sp_aload_n (p2 := 12) rfl rfl rfl ?_
              refine st_get rfl hh_148 rfl ?_
              show Ev _ _ _ (15, _, _, _) _
              refine sp_iload_n (p2 := 16) rfl rfl rfl ?_
              refine st_iald (x := (-1)) rfl (by decide) hh_192 rfl rfl ?_
              show Ev _ _ _ (17, _, _, _) _
              refine sp_iconst (p2 := 18) (x := (-1)) rfl rfl (by decide) ?_
              refine st_icmp (b := false) rfl (by decide) ?_
              show Ev _ _ _ (21, _, _, _) _
              refine sp_bipush (p2 := 23) (x := (-11)) rfl rfl (by decide) ?_
              exact sp_iret rfl rfl
          · obtain rfl : x1 = 3 := i32_ext (by have e9 : Int32.toInt 3 = 3 := rfl; omega)
            refine ⟨.int (-11), hh, hh, ?_, ?_⟩
            · refine ca_of (d := 19) (M := mX11_pulls) rfl (Nat.le_of_ble_eq_true rfl) ?_
              show Ev im_K0 19 mX11_pulls (0, [(0, .ref 16), (1, .int 3)], [], hh) _
              refine sp_iload_n (p2 := 1) rfl rfl rfl ?_
              refine sp_iconst (p2 := 2) (x := 4) rfl rfl (by decide) ?_
              refine st_callS rfl rfl rfl (cl_within_T (n := 3) (b := 4) (show Int32.toInt _ = _ from rfl) (by have e9 : Int32.toInt 3 = 3 := rfl; omega)) ?_
              show Ev _ _ _ (5, [(0, .ref 16), (1, .int 3)], [.int 1], hh) _
              refine st_ifc (b := true) rfl (by decide) ?_
              show Ev _ _ _ (10, _, _, _) _
              refine sp_aload_n (p2 := 11) rfl rfl rfl ?_
              refine st_get rfl hh_0 rfl ?_
              show Ev _ _ _ (14, _, _, _) _
              refine sp_iload_n (p2 := 15) rfl rfl rfl ?_
              refine st_aald (v := .ref 162) rfl hh_97 (by decide) rfl ?_
              show Ev _ _ _ (16, _, _, _) _
              refine sp_astore_n (p2 := 17) (lv2 := [(2, .ref 162), (0, .ref 16), (1, .int 3)]) rfl rfl (by decide) rfl ?_
              refine sp_aload_n (p2 := 18) rfl rfl rfl ?_
              have c1 : Ca 19 41 [.ref 162] hh (some (.int 1), hh) := by
                refine ca_of (d := 18) (M := mX8_isMissing) rfl (Nat.le_of_ble_eq_true rfl) ?_
                show Ev im_K0 18 mX8_isMissing (0, [(0, .ref 162)], [], hh) _
                refine sp_aload_n (p2 := 1) rfl rfl rfl ?_
                refine st_get rfl hh_146 rfl ?_
                show Ev _ _ _ (4, _, _, _) _
                refine sp_iconst (p2 := 5) (x := (-1)) rfl rfl (by decide) ?_
                refine st_icmp (b := false) rfl (by decide) ?_
                show Ev _ _ _ (8, _, _, _) _
                refine sp_iconst (p2 := 9) (x := 1) rfl rfl (by decide) ?_
                refine sp_goto rfl ?_
                exact sp_zret rfl rfl (by decide)
              refine st_callV (R := 162) rfl rfl rfl hh_146 rfl c1 ?_
              show Ev _ _ _ (21, [(2, .ref 162), (0, .ref 16), (1, .int 3)], [.int 1], hh) _
              refine st_ifc (b := false) rfl (by decide) ?_
              show Ev _ _ _ (24, _, _, _) _
              refine sp_bipush (p2 := 26) (x := (-11)) rfl rfl (by decide) ?_
              exact sp_iret rfl rfl
            · refine ca_of (d := 19) (M := mX12_pulls) rfl (Nat.le_of_ble_eq_true rfl) ?_
              show Ev im_K0 19 mX12_pulls (0, [(0, .ref 164), (1, .int 3)], [], hh) _
              refine sp_iload_n (p2 := 1) rfl rfl rfl ?_
              refine sp_iconst (p2 := 2) (x := 0) rfl rfl (by decide) ?_
              refine sp_iconst (p2 := 3) (x := 3) rfl rfl (by decide) ?_
              refine st_callS rfl rfl rfl (cl_in_T (n := 3) (a := 0) (b := 3) (show Int32.toInt _ = _ from rfl) (show Int32.toInt _ = _ from rfl) (by have e9 : Int32.toInt 3 = 3 := rfl; omega)) ?_
              show Ev _ _ _ (6, [(0, .ref 164), (1, .int 3)], [.int 1], hh) _
              refine st_ifc (b := true) rfl (by decide) ?_
              show Ev _ _ _ (11, _, _, _) _
              refine sp_aload_n (p2 := 12) rfl rfl rfl ?_
              refine st_get rfl hh_148 rfl ?_
              show Ev _ _ _ (15, _, _, _) _
              refine sp_iload_n (p2 := 16) rfl rfl rfl ?_
              refine st_iald (x := (-1)) rfl (by decide) hh_192 rfl rfl ?_
              show Ev _ _ _ (17, _, _, _) _
              refine sp_iconst (p2 := 18) (x := (-1)) rfl rfl (by decide) ?_
              refine st_icmp (b := false) rfl (by decide) ?_
              show Ev _ _ _ (21, _, _, _) _
              refine sp_bipush (p2 := 23) (x := (-11)) rfl rfl (by decide) ?_
              exact sp_iret rfl rfl
    · refine ⟨.int (-1), hh, hh, ?_, ?_⟩
      · refine ca_of (d := 19) (M := mX11_pulls) rfl (Nat.le_of_ble_eq_true rfl) ?_
        show Ev im_K0 19 mX11_pulls (0, [(0, .ref 16), (1, .int x1)], [], hh) _
        refine sp_iload_n (p2 := 1) rfl rfl rfl ?_
        refine sp_iconst (p2 := 2) (x := 4) rfl rfl (by decide) ?_
        refine st_callS rfl rfl rfl (cl_within_F (b := 4) rfl (by omega)) ?_
        show Ev _ _ _ (5, [(0, .ref 16), (1, .int x1)], [.int 0], hh) _
        refine st_ifc (b := false) rfl (by decide) ?_
        show Ev _ _ _ (8, _, _, _) _
        refine sp_iconst (p2 := 9) (x := (-1)) rfl rfl (by decide) ?_
        exact sp_iret rfl rfl
      · refine ca_of (d := 19) (M := mX12_pulls) rfl (Nat.le_of_ble_eq_true rfl) ?_
        show Ev im_K0 19 mX12_pulls (0, [(0, .ref 164), (1, .int x1)], [], hh) _
        refine sp_iload_n (p2 := 1) rfl rfl rfl ?_
        refine sp_iconst (p2 := 2) (x := 0) rfl rfl (by decide) ?_
        refine sp_iconst (p2 := 3) (x := 3) rfl rfl (by decide) ?_
        refine st_callS rfl rfl rfl (cl_in_F (a := 0) (b := 3) rfl rfl (by omega)) ?_
        show Ev _ _ _ (6, [(0, .ref 164), (1, .int x1)], [.int 0], hh) _
        refine st_ifc (b := false) rfl (by decide) ?_
        show Ev _ _ _ (9, _, _, _) _
        refine sp_iconst (p2 := 10) (x := (-1)) rfl rfl (by decide) ?_
        exact sp_iret rfl rfl
set_option maxRecDepth 10000 in
set_option maxHeartbeats 4000000 in
theorem q_pullTold (x1 : Int32) : ∃ (v : Value) (h1 h2 : im_H), Ca 20 87 [.ref 16, .int x1] hh (some v, h1) ∧ Ca 20 169 [.ref 164, .int x1] h1 (some v, h2) := by
  refine ⟨.int (-1), hh, hh, ?_, ?_⟩
  · refine ca_of (d := 19) (M := mX11_pullTold) rfl (Nat.le_of_ble_eq_true rfl) ?_
    show Ev im_K0 19 mX11_pullTold (0, [(0, .ref 16), (1, .int x1)], [], hh) _
    refine sp_iload_n (p2 := 1) rfl rfl rfl ?_
    refine sp_aload_n (p2 := 2) rfl rfl rfl ?_
    refine st_get rfl hh_0 rfl ?_
    show Ev _ _ _ (5, _, _, _) _
    refine st_get rfl hh_68 rfl ?_
    show Ev _ _ _ (8, _, _, _) _
    refine st_callS rfl rfl rfl (cl_within_F (b := 0) rfl (by omega)) ?_
    show Ev _ _ _ (11, [(0, .ref 16), (1, .int x1)], [.int 0], hh) _
    refine st_ifc (b := true) rfl (by decide) ?_
    show Ev _ _ _ (26, _, _, _) _
    refine sp_iconst (p2 := 27) (x := (-1)) rfl rfl (by decide) ?_
    exact sp_iret rfl rfl
  · refine ca_of (d := 19) (M := mX12_pullTold) rfl (Nat.le_of_ble_eq_true rfl) ?_
    show Ev im_K0 19 mX12_pullTold (0, [(0, .ref 164), (1, .int x1)], [], hh) _
    refine sp_iload_n (p2 := 1) rfl rfl rfl ?_
    refine sp_iconst (p2 := 2) (x := 0) rfl rfl (by decide) ?_
    refine sp_aload_n (p2 := 3) rfl rfl rfl ?_
    refine st_get rfl hh_148 rfl ?_
    show Ev _ _ _ (6, _, _, _) _
    refine sp_iconst (p2 := 7) (x := 1) rfl rfl (by decide) ?_
    refine sp_isub (p2 := 8) (z := (-1)) rfl rfl (by decide) ?_
    refine st_callS rfl rfl rfl (cl_in_F (a := 0) (b := -1) rfl rfl (by omega)) ?_
    show Ev _ _ _ (11, [(0, .ref 164), (1, .int x1)], [.int 0], hh) _
    refine st_ifc (b := true) rfl (by decide) ?_
    show Ev _ _ _ (23, _, _, _) _
    refine sp_iconst (p2 := 24) (x := (-1)) rfl rfl (by decide) ?_
    exact sp_iret rfl rfl
set_option maxRecDepth 10000 in
set_option maxHeartbeats 4000000 in
theorem q_mends (x1 : Int32) : ∃ (v : Value) (h1 h2 : im_H), Ca 20 88 [.ref 16, .int x1] hh (some v, h1) ∧ Ca 20 170 [.ref 164, .int x1] h1 (some v, h2) := by
  by_cases h1 : x1.toInt ≤ (-1)
  · refine ⟨.int (-2), hh, hh, ?_, ?_⟩
    · refine ca_of (d := 19) (M := mX11_mends) rfl (Nat.le_of_ble_eq_true rfl) ?_
      show Ev im_K0 19 mX11_mends (0, [(0, .ref 16), (1, .int x1)], [], hh) _
      refine sp_iload_n (p2 := 1) rfl rfl rfl ?_
      refine sp_iconst (p2 := 2) (x := 0) rfl rfl (by decide) ?_
      refine sp_bipush (p2 := 4) (x := 12) rfl rfl (by decide) ?_
      refine st_callS rfl rfl rfl (cl_between_F (a := 0) (b := 12) rfl rfl (by omega)) ?_
      show Ev _ _ _ (7, [(0, .ref 16), (1, .int x1)], [.int 0], hh) _
      refine st_ifc (b := false) rfl (by decide) ?_
      show Ev _ _ _ (10, _, _, _) _
      refine sp_bipush (p2 := 12) (x := (-2)) rfl rfl (by decide) ?_
      exact sp_iret rfl rfl
    · refine ca_of (d := 19) (M := mX12_mends) rfl (Nat.le_of_ble_eq_true rfl) ?_
      show Ev im_K0 19 mX12_mends (0, [(0, .ref 164), (1, .int x1)], [], hh) _
      refine sp_iload_n (p2 := 1) rfl rfl rfl ?_
      refine sp_iconst (p2 := 2) (x := 0) rfl rfl (by decide) ?_
      refine sp_bipush (p2 := 4) (x := 12) rfl rfl (by decide) ?_
      refine st_callS rfl rfl rfl (cl_in_F (a := 0) (b := 12) rfl rfl (by omega)) ?_
      show Ev _ _ _ (7, [(0, .ref 164), (1, .int x1)], [.int 0], hh) _
      refine st_ifc (b := false) rfl (by decide) ?_
      show Ev _ _ _ (10, _, _, _) _
      refine sp_bipush (p2 := 12) (x := (-2)) rfl rfl (by decide) ?_
      exact sp_iret rfl rfl
  · by_cases h2 : x1.toInt ≤ 12
    · refine ⟨.int 0, ((((hh.set 72 (.inr (6, [.int 0, .ref 89, .ref 90, .ref 91, .ref 92, .int 0, .int 0, .int 0, .int 0]))).set 72 (.inr (6, [.int 0, .ref 89, .ref 90, .ref 91, .ref 92, .int 0, .int 0, .int 0, .int 0]))).set 72 (.inr (6, [.int 0, .ref 89, .ref 90, .ref 91, .ref 92, .int 0, .int 0, .int 0, .int 0]))).set 72 (.inr (6, [.int 0, .ref 89, .ref 90, .ref 91, .ref 92, .int 0, .int 0, .int 0, .int 0]))), ((((((hh.set 72 (.inr (6, [.int 0, .ref 89, .ref 90, .ref 91, .ref 92, .int 0, .int 0, .int 0, .int 0]))).set 72 (.inr (6, [.int 0, .ref 89, .ref 90, .ref 91, .ref 92, .int 0, .int 0, .int 0, .int 0]))).set 72 (.inr (6, [.int 0, .ref 89, .ref 90, .ref 91, .ref 92, .int 0, .int 0, .int 0, .int 0]))).set 72 (.inr (6, [.int 0, .ref 89, .ref 90, .ref 91, .ref 92, .int 0, .int 0, .int 0, .int 0]))).set 148 (.inr (12, [.ref 165, .ref 166, .ref 167, .int 0, .ref 168, .ref 169, .ref 170, .ref 171, .ref 172, .int (-1), .int 0, .ref 173, .ref 174, .ref 175, .ref 176, .ref 177, .ref 178, .ref 179, .ref 180, .ref 181, .ref 182, .int 0, .ref 183, .ref 184, .int 0, .ref 185, .ref 186, .ref 187, .ref 188, .int 0, .ref 189, .ref 190, .ref 191, .ref 192, .ref 193, .int 0, .ref 194, .ref 195, .ref 196, .ref 197, .ref 198, .int 0, .ref 199, .int 0, .ref 200, .int 0, .int 0, .int (-1), .ref 201, .ref 202, .ref 203, .ref 204, .ref 205, .ref 206, .ref 207, .ref 208, .ref 209, .ref 210, .ref 211, .ref 212, .int 0, .int 0, .int 0, .ref 213, .ref 214, .ref 215]))).set 148 (.inr (12, [.ref 165, .ref 166, .ref 167, .int 0, .ref 168, .ref 169, .ref 170, .ref 171, .ref 172, .int (-1), .int 0, .ref 173, .ref 174, .ref 175, .ref 176, .ref 177, .ref 178, .ref 179, .ref 180, .ref 181, .ref 182, .int 0, .ref 183, .ref 184, .int 0, .ref 185, .ref 186, .ref 187, .ref 188, .int 0, .ref 189, .ref 190, .ref 191, .ref 192, .ref 193, .int 0, .ref 194, .ref 195, .ref 196, .ref 197, .ref 198, .int 0, .ref 199, .int 0, .ref 200, .int 0, .int 0, .int (-1), .ref 201, .ref 202, .ref 203, .ref 204, .ref 205, .ref 206, .ref 207, .ref 208, .ref 209, .ref 210, .ref 211, .ref 212, .int 0, .int 0, .int 0, .ref 213, .ref 214, .ref 215]))), ?_, ?_⟩
      · refine ca_of (d := 19) (M := mX11_mends) rfl (Nat.le_of_ble_eq_true rfl) ?_
        show Ev im_K0 19 mX11_mends (0, [(0, .ref 16), (1, .int x1)], [], hh) _
        refine sp_iload_n (p2 := 1) rfl rfl rfl ?_
        refine sp_iconst (p2 := 2) (x := 0) rfl rfl (by decide) ?_
        refine sp_bipush (p2 := 4) (x := 12) rfl rfl (by decide) ?_
        refine st_callS rfl rfl rfl (cl_between_T (a := 0) (b := 12) rfl rfl (by omega)) ?_
        show Ev _ _ _ (7, [(0, .ref 16), (1, .int x1)], [.int 1], hh) _
        refine st_ifc (b := true) rfl (by decide) ?_
        show Ev _ _ _ (13, _, _, _) _
        refine sp_aload_n (p2 := 14) rfl rfl rfl ?_
        refine st_get rfl hh_0 rfl ?_
        show Ev _ _ _ (17, _, _, _) _
        refine sp_aload_n (p2 := 18) rfl rfl rfl ?_
        refine st_get rfl hh_0 rfl ?_
        show Ev _ _ _ (21, _, _, _) _
        refine sp_iload_n (p2 := 22) rfl rfl rfl ?_
        have c1 : Ca 19 37 [.ref 88, .ref 39, .int x1] hh (some (.int 0), ((((hh.set 72 (.inr (6, [.int 0, .ref 89, .ref 90, .ref 91, .ref 92, .int 0, .int 0, .int 0, .int 0]))).set 72 (.inr (6, [.int 0, .ref 89, .ref 90, .ref 91, .ref 92, .int 0, .int 0, .int 0, .int 0]))).set 72 (.inr (6, [.int 0, .ref 89, .ref 90, .ref 91, .ref 92, .int 0, .int 0, .int 0, .int 0]))).set 72 (.inr (6, [.int 0, .ref 89, .ref 90, .ref 91, .ref 92, .int 0, .int 0, .int 0, .int 0])))) := by
          refine ca_of (d := 18) (M := mX6_findBest) rfl (Nat.le_of_ble_eq_true rfl) ?_
          show Ev im_K0 18 mX6_findBest (0, [(0, .ref 88), (1, .ref 39), (2, .int x1)], [], hh) _
          refine sp_aload_n (p2 := 1) rfl rfl rfl ?_
          refine sp_iconst (p2 := 2) (x := 0) rfl rfl (by decide) ?_
          refine st_put (i := 72) rfl rfl hh_72 rfl rfl (Nat.le_of_ble_eq_true rfl) ?_
          show Ev _ _ _ (5, [(0, .ref 88), (1, .ref 39), (2, .int x1)], [], (hh.set 72 (.inr (6, [.int 0, .ref 89, .ref 90, .ref 91, .ref 92, .int 0, .int 0, .int 0, .int 0])))) _
          refine sp_aload_n (p2 := 6) rfl rfl rfl ?_
          refine sp_iconst (p2 := 7) (x := 0) rfl rfl (by decide) ?_
          refine st_put (i := 72) rfl rfl (ob_eq2 hh_len (by decide)) rfl rfl (Nat.le_of_ble_eq_true rfl) ?_
          show Ev _ _ _ (10, [(0, .ref 88), (1, .ref 39), (2, .int x1)], [], ((hh.set 72 (.inr (6, [.int 0, .ref 89, .ref 90, .ref 91, .ref 92, .int 0, .int 0, .int 0, .int 0]))).set 72 (.inr (6, [.int 0, .ref 89, .ref 90, .ref 91, .ref 92, .int 0, .int 0, .int 0, .int 0])))) _
          refine sp_aload_n (p2 := 11) rfl rfl rfl ?_
          refine sp_aload_n (p2 := 12) rfl rfl rfl ?_
          refine st_get rfl (ob_ne (by decide) (ob_ne (by decide) hh_23)) rfl ?_
          show Ev _ _ _ (15, _, _, _) _
          refine sp_iconst (p2 := 16) (x := 0) rfl rfl (by decide) ?_
          refine st_iald (x := 0) rfl (by decide) (ia_ne (by decide) (ia_ne (by decide) hh_24)) rfl rfl ?_
          show Ev _ _ _ (17, _, _, _) _
          refine st_put (i := 72) rfl rfl (ob_eq2 (sl_len hh_len) (by decide)) rfl rfl (Nat.le_of_ble_eq_true rfl) ?_
          show Ev _ _ _ (20, [(0, .ref 88), (1, .ref 39), (2, .int x1)], [], (((hh.set 72 (.inr (6, [.int 0, .ref 89, .ref 90, .ref 91, .ref 92, .int 0, .int 0, .int 0, .int 0]))).set 72 (.inr (6, [.int 0, .ref 89, .ref 90, .ref 91, .ref 92, .int 0, .int 0, .int 0, .int 0]))).set 72 (.inr (6, [.int 0, .ref 89, .ref 90, .ref 91, .ref 92, .int 0, .int 0, .int 0, .int 0])))) _
          refine sp_aload_n (p2 := 21) rfl rfl rfl ?_
          refine sp_aload_n (p2 := 22) rfl rfl rfl ?_
          refine st_get rfl (ob_ne (by decide) (ob_ne (by decide) (ob_ne (by decide) hh_23))) rfl ?_
          show Ev _ _ _ (25, _, _, _) _
          refine sp_iconst (p2 := 26) (x := 1) rfl rfl (by decide) ?_
          refine st_iald (x := 0) rfl (by decide) (ia_ne (by decide) (ia_ne (by decide) (ia_ne (by decide) hh_24))) rfl rfl ?_
          show Ev _ _ _ (27, _, _, _) _
          refine st_put (i := 72) rfl rfl (ob_eq2 (sl_len (sl_len hh_len)) (by decide)) rfl rfl (Nat.le_of_ble_eq_true rfl) ?_
          show Ev _ _ _ (30, [(0, .ref 88), (1, .ref 39), (2, .int x1)], [], ((((hh.set 72 (.inr (6, [.int 0, .ref 89, .ref 90, .ref 91, .ref 92, .int 0, .int 0, .int 0, .int 0]))).set 72 (.inr (6, [.int 0, .ref 89, .ref 90, .ref 91, .ref 92, .int 0, .int 0, .int 0, .int 0]))).set 72 (.inr (6, [.int 0, .ref 89, .ref 90, .ref 91, .ref 92, .int 0, .int 0, .int 0, .int 0]))).set 72 (.inr (6, [.int 0, .ref 89, .ref 90, .ref 91, .ref 92, .int 0, .int 0, .int 0, .int 0])))) _
          refine sp_aload_n (p2 := 31) rfl rfl rfl ?_
          refine sp_aload_n (p2 := 32) rfl rfl rfl ?_
          refine sp_aload_n (p2 := 33) rfl rfl rfl ?_
          refine st_get rfl (ob_eq2 (sl_len (sl_len (sl_len hh_len))) (by decide)) rfl ?_
          show Ev _ _ _ (36, _, _, _) _
          refine sp_iconst (p2 := 37) (x := 1) rfl rfl (by decide) ?_
          refine sp_isub (p2 := 38) (z := (-1)) rfl rfl (by decide) ?_
          refine sp_iload_n (p2 := 39) rfl rfl rfl ?_
          refine sp_iconst (p2 := 40) (x := 0) rfl rfl (by decide) ?_
          refine sp_iconst (p2 := 41) (x := 0) rfl rfl (by decide) ?_
          have c2 : Ca 18 38 [.ref 88, .ref 39, .int (-1), .int x1, .int 0, .int 0] ((((hh.set 72 (.inr (6, [.int 0, .ref 89, .ref 90, .ref 91, .ref 92, .int 0, .int 0, .int 0, .int 0]))).set 72 (.inr (6, [.int 0, .ref 89, .ref 90, .ref 91, .ref 92, .int 0, .int 0, .int 0, .int 0]))).set 72 (.inr (6, [.int 0, .ref 89, .ref 90, .ref 91, .ref 92, .int 0, .int 0, .int 0, .int 0]))).set 72 (.inr (6, [.int 0, .ref 89, .ref 90, .ref 91, .ref 92, .int 0, .int 0, .int 0, .int 0]))) (none, ((((hh.set 72 (.inr (6, [.int 0, .ref 89, .ref 90, .ref 91, .ref 92, .int 0, .int 0, .int 0, .int 0]))).set 72 (.inr (6, [.int 0, .ref 89, .ref 90, .ref 91, .ref 92, .int 0, .int 0, .int 0, .int 0]))).set 72 (.inr (6, [.int 0, .ref 89, .ref 90, .ref 91, .ref 92, .int 0, .int 0, .int 0, .int 0]))).set 72 (.inr (6, [.int 0, .ref 89, .ref 90, .ref 91, .ref 92, .int 0, .int 0, .int 0, .int 0])))) := by
            refine ca_of (d := 17) (M := mX6_choose) rfl (Nat.le_of_ble_eq_true rfl) ?_
            show Ev im_K0 17 mX6_choose (0, [(0, .ref 88), (1, .ref 39), (2, .int (-1)), (3, .int x1), (4, .int 0), (5, .int 0)], [], ((((hh.set 72 (.inr (6, [.int 0, .ref 89, .ref 90, .ref 91, .ref 92, .int 0, .int 0, .int 0, .int 0]))).set 72 (.inr (6, [.int 0, .ref 89, .ref 90, .ref 91, .ref 92, .int 0, .int 0, .int 0, .int 0]))).set 72 (.inr (6, [.int 0, .ref 89, .ref 90, .ref 91, .ref 92, .int 0, .int 0, .int 0, .int 0]))).set 72 (.inr (6, [.int 0, .ref 89, .ref 90, .ref 91, .ref 92, .int 0, .int 0, .int 0, .int 0])))) _
            refine sp_iload_n (p2 := 1) rfl rfl rfl ?_
            refine st_ifc (b := false) rfl (by decide) ?_
            show Ev _ _ _ (4, _, _, _) _
            refine sp_iload (p2 := 6) rfl rfl rfl ?_
            refine sp_aload_n (p2 := 7) rfl rfl rfl ?_
            refine st_get rfl (ob_eq2 (sl_len (sl_len (sl_len hh_len))) (by decide)) rfl ?_
            show Ev _ _ _ (10, _, _, _) _
            refine st_icmp (b := true) rfl (by decide) ?_
            show Ev _ _ _ (25, _, _, _) _
            exact sp_vret rfl rfl
          refine st_callV (R := 88) rfl rfl rfl (ob_eq2 (sl_len (sl_len (sl_len hh_len))) (by decide)) rfl c2 ?_
          show Ev _ _ _ (44, [(0, .ref 88), (1, .ref 39), (2, .int x1)], [], ((((hh.set 72 (.inr (6, [.int 0, .ref 89, .ref 90, .ref 91, .ref 92, .int 0, .int 0, .int 0, .int 0]))).set 72 (.inr (6, [.int 0, .ref 89, .ref 90, .ref 91, .ref 92, .int 0, .int 0, .int 0, .int 0]))).set 72 (.inr (6, [.int 0, .ref 89, .ref 90, .ref 91, .ref 92, .int 0, .int 0, .int 0, .int 0]))).set 72 (.inr (6, [.int 0, .ref 89, .ref 90, .ref 91, .ref 92, .int 0, .int 0, .int 0, .int 0])))) _
          refine sp_aload_n (p2 := 45) rfl rfl rfl ?_
          refine st_get rfl (ob_eq2 (sl_len (sl_len (sl_len hh_len))) (by decide)) rfl ?_
          show Ev _ _ _ (48, _, _, _) _
          exact sp_iret rfl rfl
        refine st_callV (R := 88) rfl rfl rfl hh_72 rfl c1 ?_
        show Ev _ _ _ (25, [(0, .ref 16), (1, .int x1)], [.int 0], ((((hh.set 72 (.inr (6, [.int 0, .ref 89, .ref 90, .ref 91, .ref 92, .int 0, .int 0, .int 0, .int 0]))).set 72 (.inr (6, [.int 0, .ref 89, .ref 90, .ref 91, .ref 92, .int 0, .int 0, .int 0, .int 0]))).set 72 (.inr (6, [.int 0, .ref 89, .ref 90, .ref 91, .ref 92, .int 0, .int 0, .int 0, .int 0]))).set 72 (.inr (6, [.int 0, .ref 89, .ref 90, .ref 91, .ref 92, .int 0, .int 0, .int 0, .int 0])))) _
        exact sp_iret rfl rfl
      · refine ca_of (d := 19) (M := mX12_mends) rfl (Nat.le_of_ble_eq_true rfl) ?_
        show Ev im_K0 19 mX12_mends (0, [(0, .ref 164), (1, .int x1)], [], ((((hh.set 72 (.inr (6, [.int 0, .ref 89, .ref 90, .ref 91, .ref 92, .int 0, .int 0, .int 0, .int 0]))).set 72 (.inr (6, [.int 0, .ref 89, .ref 90, .ref 91, .ref 92, .int 0, .int 0, .int 0, .int 0]))).set 72 (.inr (6, [.int 0, .ref 89, .ref 90, .ref 91, .ref 92, .int 0, .int 0, .int 0, .int 0]))).set 72 (.inr (6, [.int 0, .ref 89, .ref 90, .ref 91, .ref 92, .int 0, .int 0, .int 0, .int 0])))) _
        refine sp_iload_n (p2 := 1) rfl rfl rfl ?_
        refine sp_iconst (p2 := 2) (x := 0) rfl rfl (by decide) ?_
        refine sp_bipush (p2 := 4) (x := 12) rfl rfl (by decide) ?_
        refine st_callS rfl rfl rfl (cl_in_T (a := 0) (b := 12) rfl rfl (by omega)) ?_
        show Ev _ _ _ (7, [(0, .ref 164), (1, .int x1)], [.int 1], ((((hh.set 72 (.inr (6, [.int 0, .ref 89, .ref 90, .ref 91, .ref 92, .int 0, .int 0, .int 0, .int 0]))).set 72 (.inr (6, [.int 0, .ref 89, .ref 90, .ref 91, .ref 92, .int 0, .int 0, .int 0, .int 0]))).set 72 (.inr (6, [.int 0, .ref 89, .ref 90, .ref 91, .ref 92, .int 0, .int 0, .int 0, .int 0]))).set 72 (.inr (6, [.int 0, .ref 89, .ref 90, .ref 91, .ref 92, .int 0, .int 0, .int 0, .int 0])))) _
        refine st_ifc (b := true) rfl (by decide) ?_
        show Ev _ _ _ (13, _, _, _) _
        refine sp_iconst (p2 := 14) (x := (-1)) rfl rfl (by decide) ?_
        refine sp_istore_n (p2 := 15) (lv2 := [(2, .int (-1)), (0, .ref 164), (1, .int x1)]) rfl rfl (by decide) rfl ?_
        refine sp_aload_n (p2 := 16) rfl rfl rfl ?_
        refine sp_iconst (p2 := 17) (x := 0) rfl rfl (by decide) ?_
        refine st_put (i := 148) rfl rfl (ob_ne (by decide) (ob_ne (by decide) (ob_ne (by decide) (ob_ne (by decide) hh_148)))) rfl rfl (Nat.le_of_ble_eq_true rfl) ?_
        show Ev _ _ _ (20, [(2, .int (-1)), (0, .ref 164), (1, .int x1)], [], (((((hh.set 72 (.inr (6, [.int 0, .ref 89, .ref 90, .ref 91, .ref 92, .int 0, .int 0, .int 0, .int 0]))).set 72 (.inr (6, [.int 0, .ref 89, .ref 90, .ref 91, .ref 92, .int 0, .int 0, .int 0, .int 0]))).set 72 (.inr (6, [.int 0, .ref 89, .ref 90, .ref 91, .ref 92, .int 0, .int 0, .int 0, .int 0]))).set 72 (.inr (6, [.int 0, .ref 89, .ref 90, .ref 91, .ref 92, .int 0, .int 0, .int 0, .int 0]))).set 148 (.inr (12, [.ref 165, .ref 166, .ref 167, .int 0, .ref 168, .ref 169, .ref 170, .ref 171, .ref 172, .int (-1), .int 0, .ref 173, .ref 174, .ref 175, .ref 176, .ref 177, .ref 178, .ref 179, .ref 180, .ref 181, .ref 182, .int 0, .ref 183, .ref 184, .int 0, .ref 185, .ref 186, .ref 187, .ref 188, .int 0, .ref 189, .ref 190, .ref 191, .ref 192, .ref 193, .int 0, .ref 194, .ref 195, .ref 196, .ref 197, .ref 198, .int 0, .ref 199, .int 0, .ref 200, .int 0, .int 0, .int (-1), .ref 201, .ref 202, .ref 203, .ref 204, .ref 205, .ref 206, .ref 207, .ref 208, .ref 209, .ref 210, .ref 211, .ref 212, .int 0, .int 0, .int 0, .ref 213, .ref 214, .ref 215])))) _
        refine sp_iconst (p2 := 21) (x := 0) rfl rfl (by decide) ?_
        refine sp_istore_n (p2 := 22) (lv2 := [(3, .int 0), (2, .int (-1)), (0, .ref 164), (1, .int x1)]) rfl rfl (by decide) rfl ?_
        refine sp_iload_n (p2 := 23) rfl rfl rfl ?_
        refine sp_iconst (p2 := 24) (x := 1) rfl rfl (by decide) ?_
        refine sp_aload_n (p2 := 25) rfl rfl rfl ?_
        refine st_get rfl (ob_eq2 (sl_len (sl_len (sl_len (sl_len hh_len)))) (by decide)) rfl ?_
        show Ev _ _ _ (28, _, _, _) _
        refine sp_ishl (p2 := 29) (z := 1) rfl rfl (by decide) ?_
        refine st_icmp (b := false) rfl (by decide) ?_
        show Ev _ _ _ (32, _, _, _) _
        refine sp_iconst (p2 := 33) (x := 0) rfl rfl (by decide) ?_
        refine sp_istore (p2 := 35) (lv2 := [(4, .int 0), (3, .int 0), (2, .int (-1)), (0, .ref 164), (1, .int x1)]) rfl rfl (by decide) rfl ?_
        refine sp_iconst (p2 := 36) (x := 0) rfl rfl (by decide) ?_
        refine sp_istore (p2 := 38) (lv2 := [(5, .int 0), (4, .int 0), (3, .int 0), (2, .int (-1)), (0, .ref 164), (1, .int x1)]) rfl rfl (by decide) rfl ?_
        refine sp_iconst (p2 := 39) (x := 0) rfl rfl (by decide) ?_
        refine sp_istore (p2 := 41) (lv2 := [(6, .int 0), (5, .int 0), (4, .int 0), (3, .int 0), (2, .int (-1)), (0, .ref 164), (1, .int x1)]) rfl rfl (by decide) rfl ?_
        refine sp_iconst (p2 := 42) (x := 0) rfl rfl (by decide) ?_
        refine sp_istore (p2 := 44) (lv2 := [(7, .int 0), (6, .int 0), (5, .int 0), (4, .int 0), (3, .int 0), (2, .int (-1)), (0, .ref 164), (1, .int x1)]) rfl rfl (by decide) rfl ?_
        refine sp_iconst (p2 := 45) (x := 1) rfl rfl (by decide) ?_
        refine sp_istore (p2 := 47) (lv2 := [(8, .int 1), (7, .int 0), (6, .int 0), (5, .int 0), (4, .int 0), (3, .int 0), (2, .int (-1)), (0, .ref 164), (1, .int x1)]) rfl rfl (by decide) rfl ?_
        refine sp_iconst (p2 := 48) (x := 0) rfl rfl (by decide) ?_
        refine sp_istore (p2 := 50) (lv2 := [(9, .int 0), (8, .int 1), (7, .int 0), (6, .int 0), (5, .int 0), (4, .int 0), (3, .int 0), (2, .int (-1)), (0, .ref 164), (1, .int x1)]) rfl rfl (by decide) rfl ?_
        refine sp_iload (p2 := 52) rfl rfl rfl ?_
        refine sp_aload_n (p2 := 53) rfl rfl rfl ?_
        refine st_get rfl (ob_eq2 (sl_len (sl_len (sl_len (sl_len hh_len)))) (by decide)) rfl ?_
        show Ev _ _ _ (56, _, _, _) _
        refine st_icmp (b := true) rfl (by decide) ?_
        show Ev _ _ _ (140, _, _, _) _
        refine sp_iload (p2 := 142) rfl rfl rfl ?_
        refine st_ifc (b := false) rfl (by decide) ?_
        show Ev _ _ _ (145, _, _, _) _
        refine sp_iload (p2 := 147) rfl rfl rfl ?_
        refine sp_iload_n (p2 := 148) rfl rfl rfl ?_
        refine st_icmp (b := false) rfl (cn_gt_F (show Int32.toInt 0 = 0 from rfl) rfl (by omega)) ?_
        show Ev _ _ _ (151, _, _, _) _
        refine sp_iload (p2 := 153) rfl rfl rfl ?_
        refine sp_aload_n (p2 := 154) rfl rfl rfl ?_
        refine st_get rfl (ob_eq2 (sl_len (sl_len (sl_len (sl_len hh_len)))) (by decide)) rfl ?_
        show Ev _ _ _ (157, _, _, _) _
        refine sp_bipush (p2 := 159) (x := 100) rfl rfl (by decide) ?_
        refine st_iald (x := 0) rfl (by decide) (ia_ne (by decide) (ia_ne (by decide) (ia_ne (by decide) (ia_ne (by decide) (ia_ne (by decide) hh_149))))) rfl rfl ?_
        show Ev _ _ _ (160, _, _, _) _
        refine st_icmp (b := false) rfl (by decide) ?_
        show Ev _ _ _ (163, _, _, _) _
        refine sp_iload (p2 := 165) rfl rfl rfl ?_
        refine sp_aload_n (p2 := 166) rfl rfl rfl ?_
        refine st_get rfl (ob_eq2 (sl_len (sl_len (sl_len (sl_len hh_len)))) (by decide)) rfl ?_
        show Ev _ _ _ (169, _, _, _) _
        refine sp_bipush (p2 := 171) (x := 101) rfl rfl (by decide) ?_
        refine st_iald (x := 0) rfl (by decide) (ia_ne (by decide) (ia_ne (by decide) (ia_ne (by decide) (ia_ne (by decide) (ia_ne (by decide) hh_149))))) rfl rfl ?_
        show Ev _ _ _ (172, _, _, _) _
        refine st_icmp (b := false) rfl (by decide) ?_
        show Ev _ _ _ (175, _, _, _) _
        refine sp_iload (p2 := 177) rfl rfl rfl ?_
        refine sp_iload_n (p2 := 178) rfl rfl rfl ?_
        refine st_icmp (b := false) rfl (by decide) ?_
        show Ev _ _ _ (181, _, _, _) _
        refine sp_iload (p2 := 183) rfl rfl rfl ?_
        refine sp_istore_n (p2 := 184) (lv2 := [(2, .int 0), (9, .int 0), (8, .int 1), (7, .int 0), (6, .int 0), (5, .int 0), (4, .int 0), (3, .int 0), (0, .ref 164), (1, .int x1)]) rfl rfl (by decide) rfl ?_
        refine sp_aload_n (p2 := 185) rfl rfl rfl ?_
        refine sp_iload_n (p2 := 186) rfl rfl rfl ?_
        refine st_put (i := 148) rfl rfl (ob_eq2 (sl_len (sl_len (sl_len (sl_len hh_len)))) (by decide)) rfl rfl (Nat.le_of_ble_eq_true rfl) ?_
        show Ev _ _ _ (189, [(2, .int 0), (9, .int 0), (8, .int 1), (7, .int 0), (6, .int 0), (5, .int 0), (4, .int 0), (3, .int 0), (0, .ref 164), (1, .int x1)], [], ((((((hh.set 72 (.inr (6, [.int 0, .ref 89, .ref 90, .ref 91, .ref 92, .int 0, .int 0, .int 0, .int 0]))).set 72 (.inr (6, [.int 0, .ref 89, .ref 90, .ref 91, .ref 92, .int 0, .int 0, .int 0, .int 0]))).set 72 (.inr (6, [.int 0, .ref 89, .ref 90, .ref 91, .ref 92, .int 0, .int 0, .int 0, .int 0]))).set 72 (.inr (6, [.int 0, .ref 89, .ref 90, .ref 91, .ref 92, .int 0, .int 0, .int 0, .int 0]))).set 148 (.inr (12, [.ref 165, .ref 166, .ref 167, .int 0, .ref 168, .ref 169, .ref 170, .ref 171, .ref 172, .int (-1), .int 0, .ref 173, .ref 174, .ref 175, .ref 176, .ref 177, .ref 178, .ref 179, .ref 180, .ref 181, .ref 182, .int 0, .ref 183, .ref 184, .int 0, .ref 185, .ref 186, .ref 187, .ref 188, .int 0, .ref 189, .ref 190, .ref 191, .ref 192, .ref 193, .int 0, .ref 194, .ref 195, .ref 196, .ref 197, .ref 198, .int 0, .ref 199, .int 0, .ref 200, .int 0, .int 0, .int (-1), .ref 201, .ref 202, .ref 203, .ref 204, .ref 205, .ref 206, .ref 207, .ref 208, .ref 209, .ref 210, .ref 211, .ref 212, .int 0, .int 0, .int 0, .ref 213, .ref 214, .ref 215]))).set 148 (.inr (12, [.ref 165, .ref 166, .ref 167, .int 0, .ref 168, .ref 169, .ref 170, .ref 171, .ref 172, .int (-1), .int 0, .ref 173, .ref 174, .ref 175, .ref 176, .ref 177, .ref 178, .ref 179, .ref 180, .ref 181, .ref 182, .int 0, .ref 183, .ref 184, .int 0, .ref 185, .ref 186, .ref 187, .ref 188, .int 0, .ref 189, .ref 190, .ref 191, .ref 192, .ref 193, .int 0, .ref 194, .ref 195, .ref 196, .ref 197, .ref 198, .int 0, .ref 199, .int 0, .ref 200, .int 0, .int 0, .int (-1), .ref 201, .ref 202, .ref 203, .ref 204, .ref 205, .ref 206, .ref 207, .ref 208, .ref 209, .ref 210, .ref 211, .ref 212, .int 0, .int 0, .int 0, .ref 213, .ref 214, .ref 215])))) _
        refine sp_iinc (p2 := 192) (y := 1) (lv2 := [(3, .int 1), (2, .int 0), (9, .int 0), (8, .int 1), (7, .int 0), (6, .int 0), (5, .int 0), (4, .int 0), (0, .ref 164), (1, .int x1)]) rfl rfl (by decide) rfl (by decide) rfl ?_
        refine sp_goto rfl ?_
        refine sp_iload_n (p2 := 23) rfl rfl rfl ?_
        refine sp_iconst (p2 := 24) (x := 1) rfl rfl (by decide) ?_
        refine sp_aload_n (p2 := 25) rfl rfl rfl ?_
        refine st_get rfl (ob_eq2 (sl_len (sl_len (sl_len (sl_len (sl_len hh_len))))) (by decide)) rfl ?_
        show Ev _ _ _ (28, _, _, _) _
        refine sp_ishl (p2 := 29) (z := 1) rfl rfl (by decide) ?_
        refine st_icmp (b := true) rfl (by decide) ?_
        show Ev _ _ _ (195, _, _, _) _
        refine sp_iload_n (p2 := 196) rfl rfl rfl ?_
        exact sp_iret rfl rfl
    · refine ⟨.int (-2), hh, hh, ?_, ?_⟩
      · refine ca_of (d := 19) (M := mX11_mends) rfl (Nat.le_of_ble_eq_true rfl) ?_
        show Ev im_K0 19 mX11_mends (0, [(0, .ref 16), (1, .int x1)], [], hh) _
        refine sp_iload_n (p2 := 1) rfl rfl rfl ?_
        refine sp_iconst (p2 := 2) (x := 0) rfl rfl (by decide) ?_
        refine sp_bipush (p2 := 4) (x := 12) rfl rfl (by decide) ?_
        refine st_callS rfl rfl rfl (cl_between_F (a := 0) (b := 12) rfl rfl (by omega)) ?_
        show Ev _ _ _ (7, [(0, .ref 16), (1, .int x1)], [.int 0], hh) _
        refine st_ifc (b := false) rfl (by decide) ?_
        show Ev _ _ _ (10, _, _, _) _
        refine sp_bipush (p2 := 12) (x := (-2)) rfl rfl (by decide) ?_
        exact sp_iret rfl rfl
      · refine ca_of (d := 19) (M := mX12_mends) rfl (Nat.le_of_ble_eq_true rfl) ?_
        show Ev im_K0 19 mX12_mends (0, [(0, .ref 164), (1, .int x1)], [], hh) _
        refine sp_iload_n (p2 := 1) rfl rfl rfl ?_
        refine sp_iconst (p2 := 2) (x := 0) rfl rfl (by decide) ?_
        refine sp_bipush (p2 := 4) (x := 12) rfl rfl (by decide) ?_
        refine st_callS rfl rfl rfl (cl_in_F (a := 0) (b := 12) rfl rfl (by omega)) ?_
        show Ev _ _ _ (7, [(0, .ref 164), (1, .int x1)], [.int 0], hh) _
        refine st_ifc (b := false) rfl (by decide) ?_
        show Ev _ _ _ (10, _, _, _) _
        refine sp_bipush (p2 := 12) (x := (-2)) rfl rfl (by decide) ?_
        exact sp_iret rfl rfl
set_option maxRecDepth 10000 in
set_option maxHeartbeats 4000000 in
theorem q_mendTold : ∃ (v : Value) (h1 h2 : im_H), Ca 20 89 [.ref 16] hh (some v, h1) ∧ Ca 20 171 [.ref 164] h1 (some v, h2) := by
  refine ⟨.int 0, hh, hh, ?_, ?_⟩
  · refine ca_of (d := 19) (M := mX11_mendTold) rfl (Nat.le_of_ble_eq_true rfl) ?_
    show Ev im_K0 19 mX11_mendTold (0, [(0, .ref 16)], [], hh) _
    refine sp_aload_n (p2 := 1) rfl rfl rfl ?_
    refine st_get rfl hh_0 rfl ?_
    show Ev _ _ _ (4, _, _, _) _
    refine st_get rfl hh_72 rfl ?_
    show Ev _ _ _ (7, _, _, _) _
    exact sp_iret rfl rfl
  · refine ca_of (d := 19) (M := mX12_mendTold) rfl (Nat.le_of_ble_eq_true rfl) ?_
    show Ev im_K0 19 mX12_mendTold (0, [(0, .ref 164)], [], hh) _
    refine sp_aload_n (p2 := 1) rfl rfl rfl ?_
    refine st_get rfl hh_148 rfl ?_
    show Ev _ _ _ (4, _, _, _) _
    exact sp_iret rfl rfl
set_option maxRecDepth 10000 in
set_option maxHeartbeats 4000000 in
theorem q_mend (x1 : Int32) : ∃ (v : Value) (h1 h2 : im_H), Ca 20 90 [.ref 16, .int x1] hh (some v, h1) ∧ Ca 20 173 [.ref 164, .int x1] h1 (some v, h2) := by
  refine ⟨.int (-1), hh, hh, ?_, ?_⟩
  · refine ca_of (d := 19) (M := mX11_mend) rfl (Nat.le_of_ble_eq_true rfl) ?_
    show Ev im_K0 19 mX11_mend (0, [(0, .ref 16), (1, .int x1)], [], hh) _
    refine sp_iload_n (p2 := 1) rfl rfl rfl ?_
    refine sp_aload_n (p2 := 2) rfl rfl rfl ?_
    refine st_get rfl hh_0 rfl ?_
    show Ev _ _ _ (5, _, _, _) _
    refine st_get rfl hh_72 rfl ?_
    show Ev _ _ _ (8, _, _, _) _
    refine st_callS rfl rfl rfl (cl_within_F (b := 0) rfl (by omega)) ?_
    show Ev _ _ _ (11, [(0, .ref 16), (1, .int x1)], [.int 0], hh) _
    refine st_ifc (b := false) rfl (by decide) ?_
    show Ev _ _ _ (14, _, _, _) _
    refine sp_iconst (p2 := 15) (x := (-1)) rfl rfl (by decide) ?_
    exact sp_iret rfl rfl
  · refine ca_of (d := 19) (M := mX12_mend) rfl (Nat.le_of_ble_eq_true rfl) ?_
    show Ev im_K0 19 mX12_mend (0, [(0, .ref 164), (1, .int x1)], [], hh) _
    refine sp_aload_n (p2 := 1) rfl rfl rfl ?_
    refine sp_iload_n (p2 := 2) rfl rfl rfl ?_
    have c1 : Ca 19 172 [.ref 164, .int x1] hh (some (.int 0), hh) := by
      refine ca_of (d := 18) (M := mX12_isRoom) rfl (Nat.le_of_ble_eq_true rfl) ?_
      show Ev im_K0 18 mX12_isRoom (0, [(0, .ref 164), (1, .int x1)], [], hh) _
      refine sp_iload_n (p2 := 1) rfl rfl rfl ?_
      refine sp_iconst (p2 := 2) (x := 0) rfl rfl (by decide) ?_
      refine sp_aload_n (p2 := 3) rfl rfl rfl ?_
      refine st_get rfl hh_148 rfl ?_
      show Ev _ _ _ (6, _, _, _) _
      refine sp_iconst (p2 := 7) (x := 1) rfl rfl (by decide) ?_
      refine sp_isub (p2 := 8) (z := (-1)) rfl rfl (by decide) ?_
      refine st_callS rfl rfl rfl (cl_in_F (a := 0) (b := -1) rfl rfl (by omega)) ?_
      show Ev _ _ _ (11, [(0, .ref 164), (1, .int x1)], [.int 0], hh) _
      exact sp_zret rfl rfl (by decide)
    refine st_callV (R := 164) rfl rfl rfl hh_148 rfl c1 ?_
    show Ev _ _ _ (5, [(0, .ref 164), (1, .int x1)], [.int 0], hh) _
    refine st_ifc (b := false) rfl (by decide) ?_
    show Ev _ _ _ (8, _, _, _) _
    refine sp_iconst (p2 := 9) (x := (-1)) rfl rfl (by decide) ?_
    exact sp_iret rfl rfl
set_option maxRecDepth 10000 in
set_option maxHeartbeats 4000000 in
theorem q_roomTold (x1 x2 : Int32) : ∃ (v : Value) (h1 h2 : im_H), Ca 20 91 [.ref 16, .int x1, .int x2] hh (some v, h1) ∧ Ca 20 174 [.ref 164, .int x1, .int x2] h1 (some v, h2) := by
  refine ⟨.int (-1), hh, hh, ?_, ?_⟩
  · refine ca_of (d := 19) (M := mX11_roomTold) rfl (Nat.le_of_ble_eq_true rfl) ?_
    show Ev im_K0 19 mX11_roomTold (0, [(0, .ref 16), (1, .int x1), (2, .int x2)], [], hh) _
    refine sp_iload_n (p2 := 1) rfl rfl rfl ?_
    refine sp_aload_n (p2 := 2) rfl rfl rfl ?_
    refine st_get rfl hh_0 rfl ?_
    show Ev _ _ _ (5, _, _, _) _
    refine st_get rfl hh_72 rfl ?_
    show Ev _ _ _ (8, _, _, _) _
    refine st_callS rfl rfl rfl (cl_within_F (b := 0) rfl (by omega)) ?_
    show Ev _ _ _ (11, [(0, .ref 16), (1, .int x1), (2, .int x2)], [.int 0], hh) _
    refine st_ifc (b := false) rfl (by decide) ?_
    show Ev _ _ _ (14, _, _, _) _
    refine sp_iconst (p2 := 15) (x := (-1)) rfl rfl (by decide) ?_
    exact sp_iret rfl rfl
  · refine ca_of (d := 19) (M := mX12_roomTold) rfl (Nat.le_of_ble_eq_true rfl) ?_
    show Ev im_K0 19 mX12_roomTold (0, [(0, .ref 164), (1, .int x1), (2, .int x2)], [], hh) _
    refine sp_aload_n (p2 := 1) rfl rfl rfl ?_
    refine sp_iload_n (p2 := 2) rfl rfl rfl ?_
    have c1 : Ca 19 172 [.ref 164, .int x1] hh (some (.int 0), hh) := by
      refine ca_of (d := 18) (M := mX12_isRoom) rfl (Nat.le_of_ble_eq_true rfl) ?_
      show Ev im_K0 18 mX12_isRoom (0, [(0, .ref 164), (1, .int x1)], [], hh) _
      refine sp_iload_n (p2 := 1) rfl rfl rfl ?_
      refine sp_iconst (p2 := 2) (x := 0) rfl rfl (by decide) ?_
      refine sp_aload_n (p2 := 3) rfl rfl rfl ?_
      refine st_get rfl hh_148 rfl ?_
      show Ev _ _ _ (6, _, _, _) _
      refine sp_iconst (p2 := 7) (x := 1) rfl rfl (by decide) ?_
      refine sp_isub (p2 := 8) (z := (-1)) rfl rfl (by decide) ?_
      refine st_callS rfl rfl rfl (cl_in_F (a := 0) (b := -1) rfl rfl (by omega)) ?_
      show Ev _ _ _ (11, [(0, .ref 164), (1, .int x1)], [.int 0], hh) _
      exact sp_zret rfl rfl (by decide)
    refine st_callV (R := 164) rfl rfl rfl hh_148 rfl c1 ?_
    show Ev _ _ _ (5, [(0, .ref 164), (1, .int x1), (2, .int x2)], [.int 0], hh) _
    refine st_ifc (b := false) rfl (by decide) ?_
    show Ev _ _ _ (8, _, _, _) _
    refine sp_iconst (p2 := 9) (x := (-1)) rfl rfl (by decide) ?_
    exact sp_iret rfl rfl
set_option maxRecDepth 10000 in
set_option maxHeartbeats 4000000 in
theorem q_probe (x1 x2 : Int32) : ∃ (v : Value) (h1 h2 : im_H), Ca 20 93 [.ref 16, .int x1, .int x2] hh (some v, h1) ∧ Ca 20 178 [.ref 164, .int x1, .int x2] h1 (some v, h2) := by
  by_cases h1 : x1.toInt ≤ (-1)
  · refine ⟨.int (-1), hh, hh, ?_, ?_⟩
    · refine ca_of (d := 19) (M := mX11_probe) rfl (Nat.le_of_ble_eq_true rfl) ?_
      show Ev im_K0 19 mX11_probe (0, [(0, .ref 16), (1, .int x1), (2, .int x2)], [], hh) _
      refine sp_iload_n (p2 := 1) rfl rfl rfl ?_
      refine sp_bipush (p2 := 3) (x := 100) rfl rfl (by decide) ?_
      refine st_callS rfl rfl rfl (cl_within_F (b := 100) rfl (by omega)) ?_
      show Ev _ _ _ (6, [(0, .ref 16), (1, .int x1), (2, .int x2)], [.int 0], hh) _
      refine st_ifc (b := false) rfl (by decide) ?_
      show Ev _ _ _ (9, _, _, _) _
      refine sp_iconst (p2 := 10) (x := (-1)) rfl rfl (by decide) ?_
      exact sp_iret rfl rfl
    · refine ca_of (d := 19) (M := mX12_probe) rfl (Nat.le_of_ble_eq_true rfl) ?_
      show Ev im_K0 19 mX12_probe (0, [(0, .ref 164), (1, .int x1), (2, .int x2)], [], hh) _
      refine sp_iload_n (p2 := 1) rfl rfl rfl ?_
      refine st_callS rfl rfl rfl (cl_isCell_F (by omega)) ?_
      show Ev _ _ _ (4, [(0, .ref 164), (1, .int x1), (2, .int x2)], [.int 0], hh) _
      refine st_ifc (b := false) rfl (by decide) ?_
      show Ev _ _ _ (7, _, _, _) _
      refine sp_iconst (p2 := 8) (x := (-1)) rfl rfl (by decide) ?_
      exact sp_iret rfl rfl
  · by_cases h2 : x1.toInt ≤ 99
    · by_cases h3 : x2.toInt ≤ (-1)
      · refine ⟨.int (-2), hh, hh, ?_, ?_⟩
        · refine ca_of (d := 19) (M := mX11_probe) rfl (Nat.le_of_ble_eq_true rfl) ?_
          show Ev im_K0 19 mX11_probe (0, [(0, .ref 16), (1, .int x1), (2, .int x2)], [], hh) _
          refine sp_iload_n (p2 := 1) rfl rfl rfl ?_
          refine sp_bipush (p2 := 3) (x := 100) rfl rfl (by decide) ?_
          refine st_callS rfl rfl rfl (cl_within_T (b := 100) rfl (by omega)) ?_
          show Ev _ _ _ (6, [(0, .ref 16), (1, .int x1), (2, .int x2)], [.int 1], hh) _
          refine st_ifc (b := true) rfl (by decide) ?_
          show Ev _ _ _ (11, _, _, _) _
          refine sp_iload_n (p2 := 12) rfl rfl rfl ?_
          refine sp_iconst (p2 := 13) (x := 0) rfl rfl (by decide) ?_
          refine sp_bipush (p2 := 15) (x := 9) rfl rfl (by decide) ?_
          refine st_callS rfl rfl rfl (cl_between_F (a := 0) (b := 9) rfl rfl (by omega)) ?_
          show Ev _ _ _ (18, [(0, .ref 16), (1, .int x1), (2, .int x2)], [.int 0], hh) _
          refine st_ifc (b := false) rfl (by decide) ?_
          show Ev _ _ _ (21, _, _, _) _
          refine sp_bipush (p2 := 23) (x := (-2)) rfl rfl (by decide) ?_
          exact sp_iret rfl rfl
        · refine ca_of (d := 19) (M := mX12_probe) rfl (Nat.le_of_ble_eq_true rfl) ?_
          show Ev im_K0 19 mX12_probe (0, [(0, .ref 164), (1, .int x1), (2, .int x2)], [], hh) _
          refine sp_iload_n (p2 := 1) rfl rfl rfl ?_
          refine st_callS rfl rfl rfl (cl_isCell_T (by omega)) ?_
          show Ev _ _ _ (4, [(0, .ref 164), (1, .int x1), (2, .int x2)], [.int 1], hh) _
          refine st_ifc (b := true) rfl (by decide) ?_
          show Ev _ _ _ (9, _, _, _) _
          refine sp_iload_n (p2 := 10) rfl rfl rfl ?_
          refine sp_iconst (p2 := 11) (x := 0) rfl rfl (by decide) ?_
          refine sp_bipush (p2 := 13) (x := 9) rfl rfl (by decide) ?_
          refine st_callS rfl rfl rfl (cl_in_F (a := 0) (b := 9) rfl rfl (by omega)) ?_
          show Ev _ _ _ (16, [(0, .ref 164), (1, .int x1), (2, .int x2)], [.int 0], hh) _
          refine st_ifc (b := false) rfl (by decide) ?_
          show Ev _ _ _ (19, _, _, _) _
          refine sp_bipush (p2 := 21) (x := (-2)) rfl rfl (by decide) ?_
          exact sp_iret rfl rfl
      · by_cases h4 : x2.toInt ≤ 9
        · by_cases h5 : x2.toInt ≤ 0
          · obtain rfl : x2 = 0 := i32_ext (by have e9 : Int32.toInt 0 = 0 := rfl; omega)
            refine ⟨.int 0, (hh.set 90 (.inl (1, .inl (((List.replicate 100 0 : List Int32)).set (Int32.toNatClampNeg x1) 1)))), ((hh.set 90 (.inl (1, .inl (((List.replicate 100 0 : List Int32)).set (Int32.toNatClampNeg x1) 1)))).set 177 (.inl (1, .inl (((List.replicate 100 0 : List Int32)).set (Int32.toNatClampNeg x1) 1)))), ?_, ?_⟩
            · refine ca_of (d := 19) (M := mX11_probe) rfl (Nat.le_of_ble_eq_true rfl) ?_
              show Ev im_K0 19 mX11_probe (0, [(0, .ref 16), (1, .int x1), (2, .int 0)], [], hh) _
              refine sp_iload_n (p2 := 1) rfl rfl rfl ?_
              refine sp_bipush (p2 := 3) (x := 100) rfl rfl (by decide) ?_
              refine st_callS rfl rfl rfl (cl_within_T (b := 100) rfl (by omega)) ?_
              show Ev _ _ _ (6, [(0, .ref 16), (1, .int x1), (2, .int 0)], [.int 1], hh) _
              refine st_ifc (b := true) rfl (by decide) ?_
              show Ev _ _ _ (11, _, _, _) _
              refine sp_iload_n (p2 := 12) rfl rfl rfl ?_
              refine sp_iconst (p2 := 13) (x := 0) rfl rfl (by decide) ?_
              refine sp_bipush (p2 := 15) (x := 9) rfl rfl (by decide) ?_
              refine st_callS rfl rfl rfl (cl_between_T (n := 0) (a := 0) (b := 9) (show Int32.toInt _ = _ from rfl) (show Int32.toInt _ = _ from rfl) (by have e9 : Int32.toInt 0 = 0 := rfl; omega)) ?_
              show Ev _ _ _ (18, [(0, .ref 16), (1, .int x1), (2, .int 0)], [.int 1], hh) _
              refine st_ifc (b := true) rfl (by decide) ?_
              show Ev _ _ _ (24, _, _, _) _
              refine sp_aload_n (p2 := 25) rfl rfl rfl ?_
              refine st_get rfl hh_0 rfl ?_
              show Ev _ _ _ (28, _, _, _) _
              refine st_get rfl hh_77 rfl ?_
              show Ev _ _ _ (31, _, _, _) _
              refine sp_iload_n (p2 := 32) rfl rfl rfl ?_
              refine st_bald (x := 0) rfl hh_90 (in_at (n := 100) rfl (by omega) (by omega)) (rd_at 0 99 (by decide +kernel) (by omega) (by omega)) ?_
              show Ev _ _ _ (33, _, _, _) _
              refine st_ifc (b := true) rfl (by decide) ?_
              show Ev _ _ _ (39, _, _, _) _
              refine sp_iload_n (p2 := 40) rfl rfl rfl ?_
              refine sp_aload_n (p2 := 41) rfl rfl rfl ?_
              refine st_get rfl hh_0 rfl ?_
              show Ev _ _ _ (44, _, _, _) _
              refine sp_iload_n (p2 := 45) rfl rfl rfl ?_
              have c1 : Ca 19 31 [.ref 93, .int x1] hh (some (.int 0), hh) := by
                refine ca_of (d := 18) (M := mX4_leftOver) rfl (Nat.le_of_ble_eq_true rfl) ?_
                show Ev im_K0 18 mX4_leftOver (0, [(0, .ref 93), (1, .int x1)], [], hh) _
                refine sp_iconst (p2 := 1) (x := 0) rfl rfl (by decide) ?_
                refine sp_istore_n (p2 := 2) (lv2 := [(2, .int 0), (0, .ref 93), (1, .int x1)]) rfl rfl (by decide) rfl ?_
                refine sp_iconst (p2 := 3) (x := 0) rfl rfl (by decide) ?_
                refine sp_istore_n (p2 := 4) (lv2 := [(3, .int 0), (2, .int 0), (0, .ref 93), (1, .int x1)]) rfl rfl (by decide) rfl ?_
                refine sp_iload_n (p2 := 5) rfl rfl rfl ?_
                refine sp_aload_n (p2 := 6) rfl rfl rfl ?_
                refine st_get rfl hh_77 rfl ?_
                show Ev _ _ _ (9, _, _, _) _
                refine st_icmp (b := true) rfl (by decide) ?_
                show Ev _ _ _ (40, _, _, _) _
                refine sp_iload_n (p2 := 41) rfl rfl rfl ?_
                exact sp_iret rfl rfl
              refine st_callV (R := 93) rfl rfl rfl hh_77 rfl c1 ?_
              show Ev _ _ _ (48, [(0, .ref 16), (1, .int x1), (2, .int 0)], [.int 0, .int 0], hh) _
              refine st_icmp (b := true) rfl (by decide) ?_
              show Ev _ _ _ (54, _, _, _) _
              refine sp_aload_n (p2 := 55) rfl rfl rfl ?_
              refine st_get rfl hh_0 rfl ?_
              show Ev _ _ _ (58, _, _, _) _
              refine sp_iload_n (p2 := 59) rfl rfl rfl ?_
              refine sp_iload_n (p2 := 60) rfl rfl rfl ?_
              have c2 : Ca 19 32 [.ref 93, .int x1, .int 0] hh (none, (hh.set 90 (.inl (1, .inl (((List.replicate 100 0 : List Int32)).set (Int32.toNatClampNeg x1) 1))))) := by
                refine ca_of (d := 18) (M := mX4_find) rfl (Nat.le_of_ble_eq_true rfl) ?_
                show Ev im_K0 18 mX4_find (0, [(0, .ref 93), (1, .int x1), (2, .int 0)], [], hh) _
                refine sp_iload_n (p2 := 1) rfl rfl rfl ?_
                refine sp_istore_n (p2 := 2) (lv2 := [(3, .int 0), (0, .ref 93), (1, .int x1), (2, .int 0)]) rfl rfl (by decide) rfl ?_
                refine sp_aload_n (p2 := 3) rfl rfl rfl ?_
                refine st_get rfl hh_77 rfl ?_
                show Ev _ _ _ (6, _, _, _) _
                refine sp_iload_n (p2 := 7) rfl rfl rfl ?_
                refine sp_iconst (p2 := 8) (x := 1) rfl rfl (by decide) ?_
                refine st_bast (i := 90) rfl rfl hh_90 (in_at (n := 100) rfl (by omega) (by omega)) (by decide) ?_
                show Ev _ _ _ (9, [(3, .int 0), (0, .ref 93), (1, .int x1), (2, .int 0)], [], (hh.set 90 (.inl (1, .inl (((List.replicate 100 0 : List Int32)).set (Int32.toNatClampNeg x1) 1))))) _
                refine sp_iconst (p2 := 10) (x := 0) rfl rfl (by decide) ?_
                refine sp_istore (p2 := 12) (lv2 := [(4, .int 0), (3, .int 0), (0, .ref 93), (1, .int x1), (2, .int 0)]) rfl rfl (by decide) rfl ?_
                refine sp_iload (p2 := 14) rfl rfl rfl ?_
                refine sp_aload_n (p2 := 15) rfl rfl rfl ?_
                refine st_get rfl (ob_ne (by decide) hh_77) rfl ?_
                show Ev _ _ _ (18, _, _, _) _
                refine st_icmp (b := true) rfl (by decide) ?_
                show Ev _ _ _ (78, _, _, _) _
                exact sp_vret rfl rfl
              refine st_callV (R := 93) rfl rfl rfl hh_77 rfl c2 ?_
              show Ev _ _ _ (63, [(0, .ref 16), (1, .int x1), (2, .int 0)], [], (hh.set 90 (.inl (1, .inl (((List.replicate 100 0 : List Int32)).set (Int32.toNatClampNeg x1) 1))))) _
              refine sp_aload_n (p2 := 64) rfl rfl rfl ?_
              refine st_get rfl (ob_ne (by decide) hh_0) rfl ?_
              show Ev _ _ _ (67, _, _, _) _
              refine sp_iload_n (p2 := 68) rfl rfl rfl ?_
              have c3 : Ca 19 31 [.ref 93, .int x1] (hh.set 90 (.inl (1, .inl (((List.replicate 100 0 : List Int32)).set (Int32.toNatClampNeg x1) 1)))) (some (.int 0), (hh.set 90 (.inl (1, .inl (((List.replicate 100 0 : List Int32)).set (Int32.toNatClampNeg x1) 1))))) := by
                refine ca_of (d := 18) (M := mX4_leftOver) rfl (Nat.le_of_ble_eq_true rfl) ?_
                show Ev im_K0 18 mX4_leftOver (0, [(0, .ref 93), (1, .int x1)], [], (hh.set 90 (.inl (1, .inl (((List.replicate 100 0 : List Int32)).set (Int32.toNatClampNeg x1) 1))))) _
                refine sp_iconst (p2 := 1) (x := 0) rfl rfl (by decide) ?_
                refine sp_istore_n (p2 := 2) (lv2 := [(2, .int 0), (0, .ref 93), (1, .int x1)]) rfl rfl (by decide) rfl ?_
                refine sp_iconst (p2 := 3) (x := 0) rfl rfl (by decide) ?_
                refine sp_istore_n (p2 := 4) (lv2 := [(3, .int 0), (2, .int 0), (0, .ref 93), (1, .int x1)]) rfl rfl (by decide) rfl ?_
                refine sp_iload_n (p2 := 5) rfl rfl rfl ?_
                refine sp_aload_n (p2 := 6) rfl rfl rfl ?_
                refine st_get rfl (ob_ne (by decide) hh_77) rfl ?_
                show Ev _ _ _ (9, _, _, _) _
                refine st_icmp (b := true) rfl (by decide) ?_
                show Ev _ _ _ (40, _, _, _) _
                refine sp_iload_n (p2 := 41) rfl rfl rfl ?_
                exact sp_iret rfl rfl
              refine st_callV (R := 93) rfl rfl rfl (ob_ne (by decide) hh_77) rfl c3 ?_
              show Ev _ _ _ (71, [(0, .ref 16), (1, .int x1), (2, .int 0)], [.int 0], (hh.set 90 (.inl (1, .inl (((List.replicate 100 0 : List Int32)).set (Int32.toNatClampNeg x1) 1))))) _
              exact sp_iret rfl rfl
            · refine ca_of (d := 19) (M := mX12_probe) rfl (Nat.le_of_ble_eq_true rfl) ?_
              show Ev im_K0 19 mX12_probe (0, [(0, .ref 164), (1, .int x1), (2, .int 0)], [], (hh.set 90 (.inl (1, .inl (((List.replicate 100 0 : List Int32)).set (Int32.toNatClampNeg x1) 1))))) _
              refine sp_iload_n (p2 := 1) rfl rfl rfl ?_
              refine st_callS rfl rfl rfl (cl_isCell_T (by omega)) ?_
              show Ev _ _ _ (4, [(0, .ref 164), (1, .int x1), (2, .int 0)], [.int 1], (hh.set 90 (.inl (1, .inl (((List.replicate 100 0 : List Int32)).set (Int32.toNatClampNeg x1) 1))))) _
              refine st_ifc (b := true) rfl (by decide) ?_
              show Ev _ _ _ (9, _, _, _) _
              refine sp_iload_n (p2 := 10) rfl rfl rfl ?_
              refine sp_iconst (p2 := 11) (x := 0) rfl rfl (by decide) ?_
              refine sp_bipush (p2 := 13) (x := 9) rfl rfl (by decide) ?_
              refine st_callS rfl rfl rfl (cl_in_T (n := 0) (a := 0) (b := 9) (show Int32.toInt _ = _ from rfl) (show Int32.toInt _ = _ from rfl) (by have e9 : Int32.toInt 0 = 0 := rfl; omega)) ?_
              show Ev _ _ _ (16, [(0, .ref 164), (1, .int x1), (2, .int 0)], [.int 1], (hh.set 90 (.inl (1, .inl (((List.replicate 100 0 : List Int32)).set (Int32.toNatClampNeg x1) 1))))) _
              refine st_ifc (b := true) rfl (by decide) ?_
              show Ev _ _ _ (22, _, _, _) _
              refine sp_aload_n (p2 := 23) rfl rfl rfl ?_
              refine st_get rfl (ob_ne (by decide) hh_148) rfl ?_
              show Ev _ _ _ (26, _, _, _) _
              refine sp_iload_n (p2 := 27) rfl rfl rfl ?_
              refine st_bald (x := 0) rfl (ia_ne (by decide) hh_177) (in_at (n := 100) rfl (by omega) (by omega)) (rd_at 0 99 (by decide +kernel) (by omega) (by omega)) ?_
              show Ev _ _ _ (28, _, _, _) _
              refine st_ifc (b := true) rfl (by decide) ?_
              show Ev _ _ _ (34, _, _, _) _
              refine sp_iload_n (p2 := 35) rfl rfl rfl ?_
              refine sp_aload_n (p2 := 36) rfl rfl rfl ?_
              refine sp_iload_n (p2 := 37) rfl rfl rfl ?_
              have c4 : Ca 19 177 [.ref 164, .int x1] (hh.set 90 (.inl (1, .inl (((List.replicate 100 0 : List Int32)).set (Int32.toNatClampNeg x1) 1)))) (some (.int 0), (hh.set 90 (.inl (1, .inl (((List.replicate 100 0 : List Int32)).set (Int32.toNatClampNeg x1) 1))))) := by
                refine ca_of (d := 18) (M := mX12_leftOver) rfl (Nat.le_of_ble_eq_true rfl) ?_
                show Ev im_K0 18 mX12_leftOver (0, [(0, .ref 164), (1, .int x1)], [], (hh.set 90 (.inl (1, .inl (((List.replicate 100 0 : List Int32)).set (Int32.toNatClampNeg x1) 1))))) _
                refine sp_iconst (p2 := 1) (x := 0) rfl rfl (by decide) ?_
                refine sp_istore_n (p2 := 2) (lv2 := [(2, .int 0), (0, .ref 164), (1, .int x1)]) rfl rfl (by decide) rfl ?_
                refine sp_iconst (p2 := 3) (x := 0) rfl rfl (by decide) ?_
                refine sp_istore_n (p2 := 4) (lv2 := [(3, .int 0), (2, .int 0), (0, .ref 164), (1, .int x1)]) rfl rfl (by decide) rfl ?_
                refine sp_iload_n (p2 := 5) rfl rfl rfl ?_
                refine sp_aload_n (p2 := 6) rfl rfl rfl ?_
                refine st_get rfl (ob_ne (by decide) hh_148) rfl ?_
                show Ev _ _ _ (9, _, _, _) _
                refine st_icmp (b := true) rfl (by decide) ?_
                show Ev _ _ _ (40, _, _, _) _
                refine sp_iload_n (p2 := 41) rfl rfl rfl ?_
                exact sp_iret rfl rfl
              refine st_callV (R := 164) rfl rfl rfl (ob_ne (by decide) hh_148) rfl c4 ?_
              show Ev _ _ _ (40, [(0, .ref 164), (1, .int x1), (2, .int 0)], [.int 0, .int 0], (hh.set 90 (.inl (1, .inl (((List.replicate 100 0 : List Int32)).set (Int32.toNatClampNeg x1) 1))))) _
              refine st_icmp (b := true) rfl (by decide) ?_
              show Ev _ _ _ (46, _, _, _) _
              refine sp_aload_n (p2 := 47) rfl rfl rfl ?_
              refine st_get rfl (ob_ne (by decide) hh_148) rfl ?_
              show Ev _ _ _ (50, _, _, _) _
              refine sp_iload_n (p2 := 51) rfl rfl rfl ?_
              refine sp_iconst (p2 := 52) (x := 1) rfl rfl (by decide) ?_
              refine st_bast (i := 177) rfl rfl (ia_ne (by decide) hh_177) (in_at (n := 100) rfl (by omega) (by omega)) (by decide) ?_
              show Ev _ _ _ (53, [(0, .ref 164), (1, .int x1), (2, .int 0)], [], ((hh.set 90 (.inl (1, .inl (((List.replicate 100 0 : List Int32)).set (Int32.toNatClampNeg x1) 1)))).set 177 (.inl (1, .inl (((List.replicate 100 0 : List Int32)).set (Int32.toNatClampNeg x1) 1))))) _
              refine sp_iconst (p2 := 54) (x := 0) rfl rfl (by decide) ?_
              refine sp_istore_n (p2 := 55) (lv2 := [(3, .int 0), (0, .ref 164), (1, .int x1), (2, .int 0)]) rfl rfl (by decide) rfl ?_
              refine sp_iload_n (p2 := 56) rfl rfl rfl ?_
              refine sp_iload_n (p2 := 57) rfl rfl rfl ?_
              refine st_icmp (b := true) rfl (by decide) ?_
              show Ev _ _ _ (106, _, _, _) _
              refine sp_aload_n (p2 := 107) rfl rfl rfl ?_
              refine sp_iload_n (p2 := 108) rfl rfl rfl ?_
              have c5 : Ca 19 177 [.ref 164, .int x1] ((hh.set 90 (.inl (1, .inl (((List.replicate 100 0 : List Int32)).set (Int32.toNatClampNeg x1) 1)))).set 177 (.inl (1, .inl (((List.replicate 100 0 : List Int32)).set (Int32.toNatClampNeg x1) 1)))) (some (.int 0), ((hh.set 90 (.inl (1, .inl (((List.replicate 100 0 : List Int32)).set (Int32.toNatClampNeg x1) 1)))).set 177 (.inl (1, .inl (((List.replicate 100 0 : List Int32)).set (Int32.toNatClampNeg x1) 1))))) := by
                refine ca_of (d := 18) (M := mX12_leftOver) rfl (Nat.le_of_ble_eq_true rfl) ?_
                show Ev im_K0 18 mX12_leftOver (0, [(0, .ref 164), (1, .int x1)], [], ((hh.set 90 (.inl (1, .inl (((List.replicate 100 0 : List Int32)).set (Int32.toNatClampNeg x1) 1)))).set 177 (.inl (1, .inl (((List.replicate 100 0 : List Int32)).set (Int32.toNatClampNeg x1) 1))))) _
                refine sp_iconst (p2 := 1) (x := 0) rfl rfl (by decide) ?_
                refine sp_istore_n (p2 := 2) (lv2 := [(2, .int 0), (0, .ref 164), (1, .int x1)]) rfl rfl (by decide) rfl ?_
                refine sp_iconst (p2 := 3) (x := 0) rfl rfl (by decide) ?_
                refine sp_istore_n (p2 := 4) (lv2 := [(3, .int 0), (2, .int 0), (0, .ref 164), (1, .int x1)]) rfl rfl (by decide) rfl ?_
                refine sp_iload_n (p2 := 5) rfl rfl rfl ?_
                refine sp_aload_n (p2 := 6) rfl rfl rfl ?_
                refine st_get rfl (ob_ne (by decide) (ob_ne (by decide) hh_148)) rfl ?_
                show Ev _ _ _ (9, _, _, _) _
                refine st_icmp (b := true) rfl (by decide) ?_
                show Ev _ _ _ (40, _, _, _) _
                refine sp_iload_n (p2 := 41) rfl rfl rfl ?_
                exact sp_iret rfl rfl
              refine st_callV (R := 164) rfl rfl rfl (ob_ne (by decide) (ob_ne (by decide) hh_148)) rfl c5 ?_
              show Ev _ _ _ (111, [(3, .int 0), (0, .ref 164), (1, .int x1), (2, .int 0)], [.int 0], ((hh.set 90 (.inl (1, .inl (((List.replicate 100 0 : List Int32)).set (Int32.toNatClampNeg x1) 1)))).set 177 (.inl (1, .inl (((List.replicate 100 0 : List Int32)).set (Int32.toNatClampNeg x1) 1))))) _
              exact sp_iret rfl rfl
          · refine ⟨.int (-6), hh, hh, ?_, ?_⟩
            · refine ca_of (d := 19) (M := mX11_probe) rfl (Nat.le_of_ble_eq_true rfl) ?_
              show Ev im_K0 19 mX11_probe (0, [(0, .ref 16), (1, .int x1), (2, .int x2)], [], hh) _
              refine sp_iload_n (p2 := 1) rfl rfl rfl ?_
              refine sp_bipush (p2 := 3) (x := 100) rfl rfl (by decide) ?_
              refine st_callS rfl rfl rfl (cl_within_T (b := 100) rfl (by omega)) ?_
              show Ev _ _ _ (6, [(0, .ref 16), (1, .int x1), (2, .int x2)], [.int 1], hh) _
              refine st_ifc (b := true) rfl (by decide) ?_
              show Ev _ _ _ (11, _, _, _) _
              refine sp_iload_n (p2 := 12) rfl rfl rfl ?_
              refine sp_iconst (p2 := 13) (x := 0) rfl rfl (by decide) ?_
              refine sp_bipush (p2 := 15) (x := 9) rfl rfl (by decide) ?_
              refine st_callS rfl rfl rfl (cl_between_T (a := 0) (b := 9) rfl rfl (by omega)) ?_
              show Ev _ _ _ (18, [(0, .ref 16), (1, .int x1), (2, .int x2)], [.int 1], hh) _
              refine st_ifc (b := true) rfl (by decide) ?_
              show Ev _ _ _ (24, _, _, _) _
              refine sp_aload_n (p2 := 25) rfl rfl rfl ?_
              refine st_get rfl hh_0 rfl ?_
              show Ev _ _ _ (28, _, _, _) _
              refine st_get rfl hh_77 rfl ?_
              show Ev _ _ _ (31, _, _, _) _
              refine sp_iload_n (p2 := 32) rfl rfl rfl ?_
              refine st_bald (x := 0) rfl hh_90 (in_at (n := 100) rfl (by omega) (by omega)) (rd_at 0 99 (by decide +kernel) (by omega) (by omega)) ?_
              show Ev _ _ _ (33, _, _, _) _
              refine st_ifc (b := true) rfl (by decide) ?_
              show Ev _ _ _ (39, _, _, _) _
              refine sp_iload_n (p2 := 40) rfl rfl rfl ?_
              refine sp_aload_n (p2 := 41) rfl rfl rfl ?_
              refine st_get rfl hh_0 rfl ?_
              show Ev _ _ _ (44, _, _, _) _
              refine sp_iload_n (p2 := 45) rfl rfl rfl ?_
              have c1 : Ca 19 31 [.ref 93, .int x1] hh (some (.int 0), hh) := by
                refine ca_of (d := 18) (M := mX4_leftOver) rfl (Nat.le_of_ble_eq_true rfl) ?_
                show Ev im_K0 18 mX4_leftOver (0, [(0, .ref 93), (1, .int x1)], [], hh) _
                refine sp_iconst (p2 := 1) (x := 0) rfl rfl (by decide) ?_
                refine sp_istore_n (p2 := 2) (lv2 := [(2, .int 0), (0, .ref 93), (1, .int x1)]) rfl rfl (by decide) rfl ?_
                refine sp_iconst (p2 := 3) (x := 0) rfl rfl (by decide) ?_
                refine sp_istore_n (p2 := 4) (lv2 := [(3, .int 0), (2, .int 0), (0, .ref 93), (1, .int x1)]) rfl rfl (by decide) rfl ?_
                refine sp_iload_n (p2 := 5) rfl rfl rfl ?_
                refine sp_aload_n (p2 := 6) rfl rfl rfl ?_
                refine st_get rfl hh_77 rfl ?_
                show Ev _ _ _ (9, _, _, _) _
                refine st_icmp (b := true) rfl (by decide) ?_
                show Ev _ _ _ (40, _, _, _) _
                refine sp_iload_n (p2 := 41) rfl rfl rfl ?_
                exact sp_iret rfl rfl
              refine st_callV (R := 93) rfl rfl rfl hh_77 rfl c1 ?_
              show Ev _ _ _ (48, [(0, .ref 16), (1, .int x1), (2, .int x2)], [.int 0, .int x2], hh) _
              refine st_icmp (b := false) rfl (cn_le_F rfl (show Int32.toInt 0 = 0 from rfl) (by omega)) ?_
              show Ev _ _ _ (51, _, _, _) _
              refine sp_bipush (p2 := 53) (x := (-6)) rfl rfl (by decide) ?_
              exact sp_iret rfl rfl
            · refine ca_of (d := 19) (M := mX12_probe) rfl (Nat.le_of_ble_eq_true rfl) ?_
              show Ev im_K0 19 mX12_probe (0, [(0, .ref 164), (1, .int x1), (2, .int x2)], [], hh) _
              refine sp_iload_n (p2 := 1) rfl rfl rfl ?_
              refine st_callS rfl rfl rfl (cl_isCell_T (by omega)) ?_
              show Ev _ _ _ (4, [(0, .ref 164), (1, .int x1), (2, .int x2)], [.int 1], hh) _
              refine st_ifc (b := true) rfl (by decide) ?_
              show Ev _ _ _ (9, _, _, _) _
              refine sp_iload_n (p2 := 10) rfl rfl rfl ?_
              refine sp_iconst (p2 := 11) (x := 0) rfl rfl (by decide) ?_
              refine sp_bipush (p2 := 13) (x := 9) rfl rfl (by decide) ?_
              refine st_callS rfl rfl rfl (cl_in_T (a := 0) (b := 9) rfl rfl (by omega)) ?_
              show Ev _ _ _ (16, [(0, .ref 164), (1, .int x1), (2, .int x2)], [.int 1], hh) _
              refine st_ifc (b := true) rfl (by decide) ?_
              show Ev _ _ _ (22, _, _, _) _
              refine sp_aload_n (p2 := 23) rfl rfl rfl ?_
              refine st_get rfl hh_148 rfl ?_
              show Ev _ _ _ (26, _, _, _) _
              refine sp_iload_n (p2 := 27) rfl rfl rfl ?_
              refine st_bald (x := 0) rfl hh_177 (in_at (n := 100) rfl (by omega) (by omega)) (rd_at 0 99 (by decide +kernel) (by omega) (by omega)) ?_
              show Ev _ _ _ (28, _, _, _) _
              refine st_ifc (b := true) rfl (by decide) ?_
              show Ev _ _ _ (34, _, _, _) _
              refine sp_iload_n (p2 := 35) rfl rfl rfl ?_
              refine sp_aload_n (p2 := 36) rfl rfl rfl ?_
              refine sp_iload_n (p2 := 37) rfl rfl rfl ?_
              have c2 : Ca 19 177 [.ref 164, .int x1] hh (some (.int 0), hh) := by
                refine ca_of (d := 18) (M := mX12_leftOver) rfl (Nat.le_of_ble_eq_true rfl) ?_
                show Ev im_K0 18 mX12_leftOver (0, [(0, .ref 164), (1, .int x1)], [], hh) _
                refine sp_iconst (p2 := 1) (x := 0) rfl rfl (by decide) ?_
                refine sp_istore_n (p2 := 2) (lv2 := [(2, .int 0), (0, .ref 164), (1, .int x1)]) rfl rfl (by decide) rfl ?_
                refine sp_iconst (p2 := 3) (x := 0) rfl rfl (by decide) ?_
                refine sp_istore_n (p2 := 4) (lv2 := [(3, .int 0), (2, .int 0), (0, .ref 164), (1, .int x1)]) rfl rfl (by decide) rfl ?_
                refine sp_iload_n (p2 := 5) rfl rfl rfl ?_
                refine sp_aload_n (p2 := 6) rfl rfl rfl ?_
                refine st_get rfl hh_148 rfl ?_
                show Ev _ _ _ (9, _, _, _) _
                refine st_icmp (b := true) rfl (by decide) ?_
                show Ev _ _ _ (40, _, _, _) _
                refine sp_iload_n (p2 := 41) rfl rfl rfl ?_
                exact sp_iret rfl rfl
              refine st_callV (R := 164) rfl rfl rfl hh_148 rfl c2 ?_
              show Ev _ _ _ (40, [(0, .ref 164), (1, .int x1), (2, .int x2)], [.int 0, .int x2], hh) _
              refine st_icmp (b := false) rfl (cn_le_F rfl (show Int32.toInt 0 = 0 from rfl) (by omega)) ?_
              show Ev _ _ _ (43, _, _, _) _
              refine sp_bipush (p2 := 45) (x := (-6)) rfl rfl (by decide) ?_
              exact sp_iret rfl rfl
        · refine ⟨.int (-2), hh, hh, ?_, ?_⟩
          · refine ca_of (d := 19) (M := mX11_probe) rfl (Nat.le_of_ble_eq_true rfl) ?_
            show Ev im_K0 19 mX11_probe (0, [(0, .ref 16), (1, .int x1), (2, .int x2)], [], hh) _
            refine sp_iload_n (p2 := 1) rfl rfl rfl ?_
            refine sp_bipush (p2 := 3) (x := 100) rfl rfl (by decide) ?_
            refine st_callS rfl rfl rfl (cl_within_T (b := 100) rfl (by omega)) ?_
            show Ev _ _ _ (6, [(0, .ref 16), (1, .int x1), (2, .int x2)], [.int 1], hh) _
            refine st_ifc (b := true) rfl (by decide) ?_
            show Ev _ _ _ (11, _, _, _) _
            refine sp_iload_n (p2 := 12) rfl rfl rfl ?_
            refine sp_iconst (p2 := 13) (x := 0) rfl rfl (by decide) ?_
            refine sp_bipush (p2 := 15) (x := 9) rfl rfl (by decide) ?_
            refine st_callS rfl rfl rfl (cl_between_F (a := 0) (b := 9) rfl rfl (by omega)) ?_
            show Ev _ _ _ (18, [(0, .ref 16), (1, .int x1), (2, .int x2)], [.int 0], hh) _
            refine st_ifc (b := false) rfl (by decide) ?_
            show Ev _ _ _ (21, _, _, _) _
            refine sp_bipush (p2 := 23) (x := (-2)) rfl rfl (by decide) ?_
            exact sp_iret rfl rfl
          · refine ca_of (d := 19) (M := mX12_probe) rfl (Nat.le_of_ble_eq_true rfl) ?_
            show Ev im_K0 19 mX12_probe (0, [(0, .ref 164), (1, .int x1), (2, .int x2)], [], hh) _
            refine sp_iload_n (p2 := 1) rfl rfl rfl ?_
            refine st_callS rfl rfl rfl (cl_isCell_T (by omega)) ?_
            show Ev _ _ _ (4, [(0, .ref 164), (1, .int x1), (2, .int x2)], [.int 1], hh) _
            refine st_ifc (b := true) rfl (by decide) ?_
            show Ev _ _ _ (9, _, _, _) _
            refine sp_iload_n (p2 := 10) rfl rfl rfl ?_
            refine sp_iconst (p2 := 11) (x := 0) rfl rfl (by decide) ?_
            refine sp_bipush (p2 := 13) (x := 9) rfl rfl (by decide) ?_
            refine st_callS rfl rfl rfl (cl_in_F (a := 0) (b := 9) rfl rfl (by omega)) ?_
            show Ev _ _ _ (16, [(0, .ref 164), (1, .int x1), (2, .int x2)], [.int 0], hh) _
            refine st_ifc (b := false) rfl (by decide) ?_
            show Ev _ _ _ (19, _, _, _) _
            refine sp_bipush (p2 := 21) (x := (-2)) rfl rfl (by decide) ?_
            exact sp_iret rfl rfl
    · refine ⟨.int (-1), hh, hh, ?_, ?_⟩
      · refine ca_of (d := 19) (M := mX11_probe) rfl (Nat.le_of_ble_eq_true rfl) ?_
        show Ev im_K0 19 mX11_probe (0, [(0, .ref 16), (1, .int x1), (2, .int x2)], [], hh) _
        refine sp_iload_n (p2 := 1) rfl rfl rfl ?_
        refine sp_bipush (p2 := 3) (x := 100) rfl rfl (by decide) ?_
        refine st_callS rfl rfl rfl (cl_within_F (b := 100) rfl (by omega)) ?_
        show Ev _ _ _ (6, [(0, .ref 16), (1, .int x1), (2, .int x2)], [.int 0], hh) _
        refine st_ifc (b := false) rfl (by decide) ?_
        show Ev _ _ _ (9, _, _, _) _
        refine sp_iconst (p2 := 10) (x := (-1)) rfl rfl (by decide) ?_
        exact sp_iret rfl rfl
      · refine ca_of (d := 19) (M := mX12_probe) rfl (Nat.le_of_ble_eq_true rfl) ?_
        show Ev im_K0 19 mX12_probe (0, [(0, .ref 164), (1, .int x1), (2, .int x2)], [], hh) _
        refine sp_iload_n (p2 := 1) rfl rfl rfl ?_
        refine st_callS rfl rfl rfl (cl_isCell_F (by omega)) ?_
        show Ev _ _ _ (4, [(0, .ref 164), (1, .int x1), (2, .int x2)], [.int 0], hh) _
        refine st_ifc (b := false) rfl (by decide) ?_
        show Ev _ _ _ (7, _, _, _) _
        refine sp_iconst (p2 := 8) (x := (-1)) rfl rfl (by decide) ?_
        exact sp_iret rfl rfl
set_option maxRecDepth 10000 in
set_option maxHeartbeats 4000000 in
theorem q_likely (x1 x2 : Int32) : ∃ (v : Value) (h1 h2 : im_H), Ca 20 94 [.ref 16, .int x1, .int x2] hh (some v, h1) ∧ Ca 20 180 [.ref 164, .int x1, .int x2] h1 (some v, h2) := by
  by_cases h1 : x1.toInt ≤ (-1)
  · refine ⟨.long (-4611686018427387904), hh, hh, ?_, ?_⟩
    · refine ca_of (d := 19) (M := mX11_likely) rfl (Nat.le_of_ble_eq_true rfl) ?_
      show Ev im_K0 19 mX11_likely (0, [(0, .ref 16), (1, .int x1), (2, .int x2)], [], hh) _
      refine sp_iload_n (p2 := 1) rfl rfl rfl ?_
      refine sp_bipush (p2 := 3) (x := 100) rfl rfl (by decide) ?_
      refine st_callS rfl rfl rfl (cl_within_F (b := 100) rfl (by omega)) ?_
      show Ev _ _ _ (6, [(0, .ref 16), (1, .int x1), (2, .int x2)], [.int 0], hh) _
      refine st_ifc (b := true) rfl (by decide) ?_
      show Ev _ _ _ (17, _, _, _) _
      refine sp_ldc2 (p2 := 20) (x := (-4611686018427387904)) rfl rfl rfl ?_
      exact sp_lret rfl rfl
    · refine ca_of (d := 19) (M := mX12_likely) rfl (Nat.le_of_ble_eq_true rfl) ?_
      show Ev im_K0 19 mX12_likely (0, [(0, .ref 164), (1, .int x1), (2, .int x2)], [], hh) _
      refine sp_iload_n (p2 := 1) rfl rfl rfl ?_
      refine st_callS rfl rfl rfl (cl_isCell_F (by omega)) ?_
      show Ev _ _ _ (4, [(0, .ref 164), (1, .int x1), (2, .int x2)], [.int 0], hh) _
      refine st_ifc (b := true) rfl (by decide) ?_
      show Ev _ _ _ (16, _, _, _) _
      refine sp_ldc2 (p2 := 19) (x := (-4611686018427387904)) rfl rfl rfl ?_
      exact sp_lret rfl rfl
  · by_cases h2 : x1.toInt ≤ 99
    · by_cases h3 : x2.toInt ≤ (-1)
      · refine ⟨.long (-4611686018427387904), hh, hh, ?_, ?_⟩
        · refine ca_of (d := 19) (M := mX11_likely) rfl (Nat.le_of_ble_eq_true rfl) ?_
          show Ev im_K0 19 mX11_likely (0, [(0, .ref 16), (1, .int x1), (2, .int x2)], [], hh) _
          refine sp_iload_n (p2 := 1) rfl rfl rfl ?_
          refine sp_bipush (p2 := 3) (x := 100) rfl rfl (by decide) ?_
          refine st_callS rfl rfl rfl (cl_within_T (b := 100) rfl (by omega)) ?_
          show Ev _ _ _ (6, [(0, .ref 16), (1, .int x1), (2, .int x2)], [.int 1], hh) _
          refine st_ifc (b := false) rfl (by decide) ?_
          show Ev _ _ _ (9, _, _, _) _
          refine sp_iload_n (p2 := 10) rfl rfl rfl ?_
          refine sp_iconst (p2 := 11) (x := 2) rfl rfl (by decide) ?_
          refine st_callS rfl rfl rfl (cl_within_F (b := 2) rfl (by omega)) ?_
          show Ev _ _ _ (14, [(0, .ref 16), (1, .int x1), (2, .int x2)], [.int 0], hh) _
          refine st_ifc (b := false) rfl (by decide) ?_
          show Ev _ _ _ (17, _, _, _) _
          refine sp_ldc2 (p2 := 20) (x := (-4611686018427387904)) rfl rfl rfl ?_
          exact sp_lret rfl rfl
        · refine ca_of (d := 19) (M := mX12_likely) rfl (Nat.le_of_ble_eq_true rfl) ?_
          show Ev im_K0 19 mX12_likely (0, [(0, .ref 164), (1, .int x1), (2, .int x2)], [], hh) _
          refine sp_iload_n (p2 := 1) rfl rfl rfl ?_
          refine st_callS rfl rfl rfl (cl_isCell_T (by omega)) ?_
          show Ev _ _ _ (4, [(0, .ref 164), (1, .int x1), (2, .int x2)], [.int 1], hh) _
          refine st_ifc (b := false) rfl (by decide) ?_
          show Ev _ _ _ (7, _, _, _) _
          refine sp_iload_n (p2 := 8) rfl rfl rfl ?_
          refine sp_iconst (p2 := 9) (x := 0) rfl rfl (by decide) ?_
          refine sp_iconst (p2 := 10) (x := 1) rfl rfl (by decide) ?_
          refine st_callS rfl rfl rfl (cl_in_F (a := 0) (b := 1) rfl rfl (by omega)) ?_
          show Ev _ _ _ (13, [(0, .ref 164), (1, .int x1), (2, .int x2)], [.int 0], hh) _
          refine st_ifc (b := false) rfl (by decide) ?_
          show Ev _ _ _ (16, _, _, _) _
          refine sp_ldc2 (p2 := 19) (x := (-4611686018427387904)) rfl rfl rfl ?_
          exact sp_lret rfl rfl
      · by_cases h4 : x2.toInt ≤ 1
        · by_cases h5 : x2.toInt ≤ 0
          · obtain rfl : x2 = 0 := i32_ext (by have e9 : Int32.toInt 0 = 0 := rfl; omega)
            refine ⟨.long 0, hh, hh, ?_, ?_⟩
            · refine ca_of (d := 19) (M := mX11_likely) rfl (Nat.le_of_ble_eq_true rfl) ?_
              show Ev im_K0 19 mX11_likely (0, [(0, .ref 16), (1, .int x1), (2, .int 0)], [], hh) _
              refine sp_iload_n (p2 := 1) rfl rfl rfl ?_
              refine sp_bipush (p2 := 3) (x := 100) rfl rfl (by decide) ?_
              refine st_callS rfl rfl rfl (cl_within_T (b := 100) rfl (by omega)) ?_
              show Ev _ _ _ (6, [(0, .ref 16), (1, .int x1), (2, .int 0)], [.int 1], hh) _
              refine st_ifc (b := false) rfl (by decide) ?_
              show Ev _ _ _ (9, _, _, _) _
              refine sp_iload_n (p2 := 10) rfl rfl rfl ?_
              refine sp_iconst (p2 := 11) (x := 2) rfl rfl (by decide) ?_
              refine st_callS rfl rfl rfl (cl_within_T (n := 0) (b := 2) (show Int32.toInt _ = _ from rfl) (by have e9 : Int32.toInt 0 = 0 := rfl; omega)) ?_
              show Ev _ _ _ (14, [(0, .ref 16), (1, .int x1), (2, .int 0)], [.int 1], hh) _
              refine st_ifc (b := true) rfl (by decide) ?_
              show Ev _ _ _ (21, _, _, _) _
              refine sp_aload_n (p2 := 22) rfl rfl rfl ?_
              refine st_get rfl hh_0 rfl ?_
              show Ev _ _ _ (25, _, _, _) _
              refine sp_iload_n (p2 := 26) rfl rfl rfl ?_
              have c1 : Ca 19 33 [.ref 93, .int x1] hh (some (.int 0), hh) := by
                refine ca_of (d := 18) (M := mX4_chance) rfl (Nat.le_of_ble_eq_true rfl) ?_
                show Ev im_K0 18 mX4_chance (0, [(0, .ref 93), (1, .int x1)], [], hh) _
                refine sp_aload_n (p2 := 1) rfl rfl rfl ?_
                refine st_get rfl hh_77 rfl ?_
                show Ev _ _ _ (4, _, _, _) _
                refine sp_iload_n (p2 := 5) rfl rfl rfl ?_
                refine st_bald (x := 0) rfl hh_90 (in_at (n := 100) rfl (by omega) (by omega)) (rd_at 0 99 (by decide +kernel) (by omega) (by omega)) ?_
                show Ev _ _ _ (6, _, _, _) _
                refine st_ifc (b := true) rfl (by decide) ?_
                show Ev _ _ _ (11, _, _, _) _
                refine sp_iconst (p2 := 12) (x := 0) rfl rfl (by decide) ?_
                refine sp_istore_n (p2 := 13) (lv2 := [(2, .int 0), (0, .ref 93), (1, .int x1)]) rfl rfl (by decide) rfl ?_
                refine sp_iconst (p2 := 14) (x := 0) rfl rfl (by decide) ?_
                refine sp_istore_n (p2 := 15) (lv2 := [(3, .int 0), (2, .int 0), (0, .ref 93), (1, .int x1)]) rfl rfl (by decide) rfl ?_
                refine sp_iload_n (p2 := 16) rfl rfl rfl ?_
                refine sp_aload_n (p2 := 17) rfl rfl rfl ?_
                refine st_get rfl hh_77 rfl ?_
                show Ev _ _ _ (20, _, _, _) _
                refine st_icmp (b := true) rfl (by decide) ?_
                show Ev _ _ _ (67, _, _, _) _
                refine sp_iload_n (p2 := 68) rfl rfl rfl ?_
                exact sp_iret rfl rfl
              refine st_callV (R := 93) rfl rfl rfl hh_77 rfl c1 ?_
              show Ev _ _ _ (29, [(0, .ref 16), (1, .int x1), (2, .int 0)], [.int 0], hh) _
              refine sp_istore_n (p2 := 30) (lv2 := [(3, .int 0), (0, .ref 16), (1, .int x1), (2, .int 0)]) rfl rfl (by decide) rfl ?_
              refine sp_iload_n (p2 := 31) rfl rfl rfl ?_
              refine sp_sipush (p2 := 34) (x := 2520) rfl rfl (by decide) ?_
              have c2 : Ca 19 115 [.int 0, .int 2520] hh (some (.int 2520), hh) := by
                refine ca_of (d := 18) (M := mX11_greatestDivisor) rfl (Nat.le_of_ble_eq_true rfl) ?_
                show Ev im_K0 18 mX11_greatestDivisor (0, [(0, .int 0), (1, .int 2520)], [], hh) _
                refine sp_iload_n (p2 := 1) rfl rfl rfl ?_
                refine sp_istore_n (p2 := 2) (lv2 := [(2, .int 0), (0, .int 0), (1, .int 2520)]) rfl rfl (by decide) rfl ?_
                refine sp_iload_n (p2 := 3) rfl rfl rfl ?_
                refine sp_istore_n (p2 := 4) (lv2 := [(3, .int 2520), (2, .int 0), (0, .int 0), (1, .int 2520)]) rfl rfl (by decide) rfl ?_
                refine sp_iconst (p2 := 5) (x := 0) rfl rfl (by decide) ?_
                refine sp_istore (p2 := 7) (lv2 := [(4, .int 0), (3, .int 2520), (2, .int 0), (0, .int 0), (1, .int 2520)]) rfl rfl (by decide) rfl ?_
                refine sp_iload (p2 := 9) rfl rfl rfl ?_
                refine sp_bipush (p2 := 11) (x := 64) rfl rfl (by decide) ?_
                refine st_icmp (b := false) rfl (by decide) ?_
                show Ev _ _ _ (14, _, _, _) _
                refine sp_iload_n (p2 := 15) rfl rfl rfl ?_
                refine st_ifc (b := false) rfl (by decide) ?_
                show Ev _ _ _ (18, _, _, _) _
                refine sp_iload_n (p2 := 19) rfl rfl rfl ?_
                refine sp_iload_n (p2 := 20) rfl rfl rfl ?_
                refine sp_irem (p2 := 21) (z := 0) rfl rfl (by decide) (by decide) ?_
                refine sp_istore (p2 := 23) (lv2 := [(5, .int 0), (4, .int 0), (3, .int 2520), (2, .int 0), (0, .int 0), (1, .int 2520)]) rfl rfl (by decide) rfl ?_
                refine sp_iload_n (p2 := 24) rfl rfl rfl ?_
                refine sp_istore_n (p2 := 25) (lv2 := [(2, .int 2520), (5, .int 0), (4, .int 0), (3, .int 2520), (0, .int 0), (1, .int 2520)]) rfl rfl (by decide) rfl ?_
                refine sp_iload (p2 := 27) rfl rfl rfl ?_
                refine sp_istore_n (p2 := 28) (lv2 := [(3, .int 0), (2, .int 2520), (5, .int 0), (4, .int 0), (0, .int 0), (1, .int 2520)]) rfl rfl (by decide) rfl ?_
                refine sp_iinc (p2 := 31) (y := 1) (lv2 := [(4, .int 1), (3, .int 0), (2, .int 2520), (5, .int 0), (0, .int 0), (1, .int 2520)]) rfl rfl (by decide) rfl (by decide) rfl ?_
                refine sp_goto rfl ?_
                refine sp_iload (p2 := 9) rfl rfl rfl ?_
                refine sp_bipush (p2 := 11) (x := 64) rfl rfl (by decide) ?_
                refine st_icmp (b := false) rfl (by decide) ?_
                show Ev _ _ _ (14, _, _, _) _
                refine sp_iload_n (p2 := 15) rfl rfl rfl ?_
                refine st_ifc (b := true) rfl (by decide) ?_
                show Ev _ _ _ (34, _, _, _) _
                refine sp_iload_n (p2 := 35) rfl rfl rfl ?_
                exact sp_iret rfl rfl
              refine st_callS rfl rfl rfl c2 ?_
              show Ev _ _ _ (37, [(3, .int 0), (0, .ref 16), (1, .int x1), (2, .int 0)], [.int 2520], hh) _
              refine sp_istore (p2 := 39) (lv2 := [(4, .int 2520), (3, .int 0), (0, .ref 16), (1, .int x1), (2, .int 0)]) rfl rfl (by decide) rfl ?_
              refine sp_iload_n (p2 := 40) rfl rfl rfl ?_
              refine st_ifc (b := false) rfl (by decide) ?_
              show Ev _ _ _ (43, _, _, _) _
              refine sp_iload_n (p2 := 44) rfl rfl rfl ?_
              refine sp_goto rfl ?_
              refine sp_iload (p2 := 52) rfl rfl rfl ?_
              refine sp_iconst (p2 := 53) (x := 1) rfl rfl (by decide) ?_
              refine sp_max (p2 := 56) (z := 2520) rfl rfl rfl (by decide) ?_
              refine sp_idiv (p2 := 57) (z := 0) rfl rfl (by decide) (by decide) ?_
              refine sp_i2l (p2 := 58) (z := 0) rfl rfl (by decide) ?_
              exact sp_lret rfl rfl
            · refine ca_of (d := 19) (M := mX12_likely) rfl (Nat.le_of_ble_eq_true rfl) ?_
              show Ev im_K0 19 mX12_likely (0, [(0, .ref 164), (1, .int x1), (2, .int 0)], [], hh) _
              refine sp_iload_n (p2 := 1) rfl rfl rfl ?_
              refine st_callS rfl rfl rfl (cl_isCell_T (by omega)) ?_
              show Ev _ _ _ (4, [(0, .ref 164), (1, .int x1), (2, .int 0)], [.int 1], hh) _
              refine st_ifc (b := false) rfl (by decide) ?_
              show Ev _ _ _ (7, _, _, _) _
              refine sp_iload_n (p2 := 8) rfl rfl rfl ?_
              refine sp_iconst (p2 := 9) (x := 0) rfl rfl (by decide) ?_
              refine sp_iconst (p2 := 10) (x := 1) rfl rfl (by decide) ?_
              refine st_callS rfl rfl rfl (cl_in_T (n := 0) (a := 0) (b := 1) (show Int32.toInt _ = _ from rfl) (show Int32.toInt _ = _ from rfl) (by have e9 : Int32.toInt 0 = 0 := rfl; omega)) ?_
              show Ev _ _ _ (13, [(0, .ref 164), (1, .int x1), (2, .int 0)], [.int 1], hh) _
              refine st_ifc (b := true) rfl (by decide) ?_
              show Ev _ _ _ (20, _, _, _) _
              refine sp_aload_n (p2 := 21) rfl rfl rfl ?_
              refine sp_iload_n (p2 := 22) rfl rfl rfl ?_
              have c3 : Ca 19 179 [.ref 164, .int x1] hh (some (.int 0), hh) := by
                refine ca_of (d := 18) (M := mX12_likelyIn) rfl (Nat.le_of_ble_eq_true rfl) ?_
                show Ev im_K0 18 mX12_likelyIn (0, [(0, .ref 164), (1, .int x1)], [], hh) _
                refine sp_iconst (p2 := 1) (x := 0) rfl rfl (by decide) ?_
                refine sp_istore_n (p2 := 2) (lv2 := [(2, .int 0), (0, .ref 164), (1, .int x1)]) rfl rfl (by decide) rfl ?_
                refine sp_iconst (p2 := 3) (x := 0) rfl rfl (by decide) ?_
                refine sp_istore_n (p2 := 4) (lv2 := [(3, .int 0), (2, .int 0), (0, .ref 164), (1, .int x1)]) rfl rfl (by decide) rfl ?_
                refine sp_iload_n (p2 := 5) rfl rfl rfl ?_
                refine sp_aload_n (p2 := 6) rfl rfl rfl ?_
                refine st_get rfl hh_148 rfl ?_
                show Ev _ _ _ (9, _, _, _) _
                refine st_icmp (b := true) rfl (by decide) ?_
                show Ev _ _ _ (122, _, _, _) _
                refine sp_iload_n (p2 := 123) rfl rfl rfl ?_
                exact sp_iret rfl rfl
              refine st_callV (R := 164) rfl rfl rfl hh_148 rfl c3 ?_
              show Ev _ _ _ (25, [(0, .ref 164), (1, .int x1), (2, .int 0)], [.int 0], hh) _
              refine sp_istore_n (p2 := 26) (lv2 := [(3, .int 0), (0, .ref 164), (1, .int x1), (2, .int 0)]) rfl rfl (by decide) rfl ?_
              refine sp_iload_n (p2 := 27) rfl rfl rfl ?_
              refine sp_istore (p2 := 29) (lv2 := [(4, .int 0), (3, .int 0), (0, .ref 164), (1, .int x1), (2, .int 0)]) rfl rfl (by decide) rfl ?_
              refine sp_sipush (p2 := 32) (x := 2520) rfl rfl (by decide) ?_
              refine sp_istore (p2 := 34) (lv2 := [(5, .int 2520), (4, .int 0), (3, .int 0), (0, .ref 164), (1, .int x1), (2, .int 0)]) rfl rfl (by decide) rfl ?_
              refine sp_iload (p2 := 36) rfl rfl rfl ?_
              refine st_ifc (b := false) rfl (by decide) ?_
              show Ev _ _ _ (39, _, _, _) _
              refine sp_iload (p2 := 41) rfl rfl rfl ?_
              refine sp_iload (p2 := 43) rfl rfl rfl ?_
              refine sp_irem (p2 := 44) (z := 0) rfl rfl (by decide) (by decide) ?_
              refine sp_istore (p2 := 46) (lv2 := [(6, .int 0), (5, .int 2520), (4, .int 0), (3, .int 0), (0, .ref 164), (1, .int x1), (2, .int 0)]) rfl rfl (by decide) rfl ?_
              refine sp_iload (p2 := 48) rfl rfl rfl ?_
              refine sp_istore (p2 := 50) (lv2 := [(4, .int 2520), (6, .int 0), (5, .int 2520), (3, .int 0), (0, .ref 164), (1, .int x1), (2, .int 0)]) rfl rfl (by decide) rfl ?_
              refine sp_iload (p2 := 52) rfl rfl rfl ?_
              refine sp_istore (p2 := 54) (lv2 := [(5, .int 0), (4, .int 2520), (6, .int 0), (3, .int 0), (0, .ref 164), (1, .int x1), (2, .int 0)]) rfl rfl (by decide) rfl ?_
              refine sp_goto rfl ?_
              refine sp_iload (p2 := 36) rfl rfl rfl ?_
              refine st_ifc (b := true) rfl (by decide) ?_
              show Ev _ _ _ (57, _, _, _) _
              refine sp_iload_n (p2 := 58) rfl rfl rfl ?_
              refine st_ifc (b := false) rfl (by decide) ?_
              show Ev _ _ _ (61, _, _, _) _
              refine sp_iload_n (p2 := 62) rfl rfl rfl ?_
              refine sp_goto rfl ?_
              refine sp_iload (p2 := 70) rfl rfl rfl ?_
              refine sp_idiv (p2 := 71) (z := 0) rfl rfl (by decide) (by decide) ?_
              refine sp_i2l (p2 := 72) (z := 0) rfl rfl (by decide) ?_
              exact sp_lret rfl rfl
          · obtain rfl : x2 = 1 := i32_ext (by have e9 : Int32.toInt 1 = 1 := rfl; omega)
            refine ⟨.long 1, hh, hh, ?_, ?_⟩
            · refine ca_of (d := 19) (M := mX11_likely) rfl (Nat.le_of_ble_eq_true rfl) ?_
              show Ev im_K0 19 mX11_likely (0, [(0, .ref 16), (1, .int x1), (2, .int 1)], [], hh) _
              refine sp_iload_n (p2 := 1) rfl rfl rfl ?_
              refine sp_bipush (p2 := 3) (x := 100) rfl rfl (by decide) ?_
              refine st_callS rfl rfl rfl (cl_within_T (b := 100) rfl (by omega)) ?_
              show Ev _ _ _ (6, [(0, .ref 16), (1, .int x1), (2, .int 1)], [.int 1], hh) _
              refine st_ifc (b := false) rfl (by decide) ?_
              show Ev _ _ _ (9, _, _, _) _
              refine sp_iload_n (p2 := 10) rfl rfl rfl ?_
              refine sp_iconst (p2 := 11) (x := 2) rfl rfl (by decide) ?_
              refine st_callS rfl rfl rfl (cl_within_T (n := 1) (b := 2) (show Int32.toInt _ = _ from rfl) (by have e9 : Int32.toInt 1 = 1 := rfl; omega)) ?_
              show Ev _ _ _ (14, [(0, .ref 16), (1, .int x1), (2, .int 1)], [.int 1], hh) _
              refine st_ifc (b := true) rfl (by decide) ?_
              show Ev _ _ _ (21, _, _, _) _
              refine sp_aload_n (p2 := 22) rfl rfl rfl ?_
              refine st_get rfl hh_0 rfl ?_
              show Ev _ _ _ (25, _, _, _) _
              refine sp_iload_n (p2 := 26) rfl rfl rfl ?_
              have c1 : Ca 19 33 [.ref 93, .int x1] hh (some (.int 0), hh) := by
                refine ca_of (d := 18) (M := mX4_chance) rfl (Nat.le_of_ble_eq_true rfl) ?_
                show Ev im_K0 18 mX4_chance (0, [(0, .ref 93), (1, .int x1)], [], hh) _
                refine sp_aload_n (p2 := 1) rfl rfl rfl ?_
                refine st_get rfl hh_77 rfl ?_
                show Ev _ _ _ (4, _, _, _) _
                refine sp_iload_n (p2 := 5) rfl rfl rfl ?_
                refine st_bald (x := 0) rfl hh_90 (in_at (n := 100) rfl (by omega) (by omega)) (rd_at 0 99 (by decide +kernel) (by omega) (by omega)) ?_
                show Ev _ _ _ (6, _, _, _) _
                refine st_ifc (b := true) rfl (by decide) ?_
                show Ev _ _ _ (11, _, _, _) _
                refine sp_iconst (p2 := 12) (x := 0) rfl rfl (by decide) ?_
                refine sp_istore_n (p2 := 13) (lv2 := [(2, .int 0), (0, .ref 93), (1, .int x1)]) rfl rfl (by decide) rfl ?_
                refine sp_iconst (p2 := 14) (x := 0) rfl rfl (by decide) ?_
                refine sp_istore_n (p2 := 15) (lv2 := [(3, .int 0), (2, .int 0), (0, .ref 93), (1, .int x1)]) rfl rfl (by decide) rfl ?_
                refine sp_iload_n (p2 := 16) rfl rfl rfl ?_
                refine sp_aload_n (p2 := 17) rfl rfl rfl ?_
                refine st_get rfl hh_77 rfl ?_
                show Ev _ _ _ (20, _, _, _) _
                refine st_icmp (b := true) rfl (by decide) ?_
                show Ev _ _ _ (67, _, _, _) _
                refine sp_iload_n (p2 := 68) rfl rfl rfl ?_
                exact sp_iret rfl rfl
              refine st_callV (R := 93) rfl rfl rfl hh_77 rfl c1 ?_
              show Ev _ _ _ (29, [(0, .ref 16), (1, .int x1), (2, .int 1)], [.int 0], hh) _
              refine sp_istore_n (p2 := 30) (lv2 := [(3, .int 0), (0, .ref 16), (1, .int x1), (2, .int 1)]) rfl rfl (by decide) rfl ?_
              refine sp_iload_n (p2 := 31) rfl rfl rfl ?_
              refine sp_sipush (p2 := 34) (x := 2520) rfl rfl (by decide) ?_
              have c2 : Ca 19 115 [.int 0, .int 2520] hh (some (.int 2520), hh) := by
                refine ca_of (d := 18) (M := mX11_greatestDivisor) rfl (Nat.le_of_ble_eq_true rfl) ?_
                show Ev im_K0 18 mX11_greatestDivisor (0, [(0, .int 0), (1, .int 2520)], [], hh) _
                refine sp_iload_n (p2 := 1) rfl rfl rfl ?_
                refine sp_istore_n (p2 := 2) (lv2 := [(2, .int 0), (0, .int 0), (1, .int 2520)]) rfl rfl (by decide) rfl ?_
                refine sp_iload_n (p2 := 3) rfl rfl rfl ?_
                refine sp_istore_n (p2 := 4) (lv2 := [(3, .int 2520), (2, .int 0), (0, .int 0), (1, .int 2520)]) rfl rfl (by decide) rfl ?_
                refine sp_iconst (p2 := 5) (x := 0) rfl rfl (by decide) ?_
                refine sp_istore (p2 := 7) (lv2 := [(4, .int 0), (3, .int 2520), (2, .int 0), (0, .int 0), (1, .int 2520)]) rfl rfl (by decide) rfl ?_
                refine sp_iload (p2 := 9) rfl rfl rfl ?_
                refine sp_bipush (p2 := 11) (x := 64) rfl rfl (by decide) ?_
                refine st_icmp (b := false) rfl (by decide) ?_
                show Ev _ _ _ (14, _, _, _) _
                refine sp_iload_n (p2 := 15) rfl rfl rfl ?_
                refine st_ifc (b := false) rfl (by decide) ?_
                show Ev _ _ _ (18, _, _, _) _
                refine sp_iload_n (p2 := 19) rfl rfl rfl ?_
                refine sp_iload_n (p2 := 20) rfl rfl rfl ?_
                refine sp_irem (p2 := 21) (z := 0) rfl rfl (by decide) (by decide) ?_
                refine sp_istore (p2 := 23) (lv2 := [(5, .int 0), (4, .int 0), (3, .int 2520), (2, .int 0), (0, .int 0), (1, .int 2520)]) rfl rfl (by decide) rfl ?_
                refine sp_iload_n (p2 := 24) rfl rfl rfl ?_
                refine sp_istore_n (p2 := 25) (lv2 := [(2, .int 2520), (5, .int 0), (4, .int 0), (3, .int 2520), (0, .int 0), (1, .int 2520)]) rfl rfl (by decide) rfl ?_
                refine sp_iload (p2 := 27) rfl rfl rfl ?_
                refine sp_istore_n (p2 := 28) (lv2 := [(3, .int 0), (2, .int 2520), (5, .int 0), (4, .int 0), (0, .int 0), (1, .int 2520)]) rfl rfl (by decide) rfl ?_
                refine sp_iinc (p2 := 31) (y := 1) (lv2 := [(4, .int 1), (3, .int 0), (2, .int 2520), (5, .int 0), (0, .int 0), (1, .int 2520)]) rfl rfl (by decide) rfl (by decide) rfl ?_
                refine sp_goto rfl ?_
                refine sp_iload (p2 := 9) rfl rfl rfl ?_
                refine sp_bipush (p2 := 11) (x := 64) rfl rfl (by decide) ?_
                refine st_icmp (b := false) rfl (by decide) ?_
                show Ev _ _ _ (14, _, _, _) _
                refine sp_iload_n (p2 := 15) rfl rfl rfl ?_
                refine st_ifc (b := true) rfl (by decide) ?_
                show Ev _ _ _ (34, _, _, _) _
                refine sp_iload_n (p2 := 35) rfl rfl rfl ?_
                exact sp_iret rfl rfl
              refine st_callS rfl rfl rfl c2 ?_
              show Ev _ _ _ (37, [(3, .int 0), (0, .ref 16), (1, .int x1), (2, .int 1)], [.int 2520], hh) _
              refine sp_istore (p2 := 39) (lv2 := [(4, .int 2520), (3, .int 0), (0, .ref 16), (1, .int x1), (2, .int 1)]) rfl rfl (by decide) rfl ?_
              refine sp_iload_n (p2 := 40) rfl rfl rfl ?_
              refine st_ifc (b := true) rfl (by decide) ?_
              show Ev _ _ _ (47, _, _, _) _
              refine sp_sipush (p2 := 50) (x := 2520) rfl rfl (by decide) ?_
              refine sp_iload (p2 := 52) rfl rfl rfl ?_
              refine sp_iconst (p2 := 53) (x := 1) rfl rfl (by decide) ?_
              refine sp_max (p2 := 56) (z := 2520) rfl rfl rfl (by decide) ?_
              refine sp_idiv (p2 := 57) (z := 1) rfl rfl (by decide) (by decide) ?_
              refine sp_i2l (p2 := 58) (z := 1) rfl rfl (by decide) ?_
              exact sp_lret rfl rfl
            · refine ca_of (d := 19) (M := mX12_likely) rfl (Nat.le_of_ble_eq_true rfl) ?_
              show Ev im_K0 19 mX12_likely (0, [(0, .ref 164), (1, .int x1), (2, .int 1)], [], hh) _
              refine sp_iload_n (p2 := 1) rfl rfl rfl ?_
              refine st_callS rfl rfl rfl (cl_isCell_T (by omega)) ?_
              show Ev _ _ _ (4, [(0, .ref 164), (1, .int x1), (2, .int 1)], [.int 1], hh) _
              refine st_ifc (b := false) rfl (by decide) ?_
              show Ev _ _ _ (7, _, _, _) _
              refine sp_iload_n (p2 := 8) rfl rfl rfl ?_
              refine sp_iconst (p2 := 9) (x := 0) rfl rfl (by decide) ?_
              refine sp_iconst (p2 := 10) (x := 1) rfl rfl (by decide) ?_
              refine st_callS rfl rfl rfl (cl_in_T (n := 1) (a := 0) (b := 1) (show Int32.toInt _ = _ from rfl) (show Int32.toInt _ = _ from rfl) (by have e9 : Int32.toInt 1 = 1 := rfl; omega)) ?_
              show Ev _ _ _ (13, [(0, .ref 164), (1, .int x1), (2, .int 1)], [.int 1], hh) _
              refine st_ifc (b := true) rfl (by decide) ?_
              show Ev _ _ _ (20, _, _, _) _
              refine sp_aload_n (p2 := 21) rfl rfl rfl ?_
              refine sp_iload_n (p2 := 22) rfl rfl rfl ?_
              have c3 : Ca 19 179 [.ref 164, .int x1] hh (some (.int 0), hh) := by
                refine ca_of (d := 18) (M := mX12_likelyIn) rfl (Nat.le_of_ble_eq_true rfl) ?_
                show Ev im_K0 18 mX12_likelyIn (0, [(0, .ref 164), (1, .int x1)], [], hh) _
                refine sp_iconst (p2 := 1) (x := 0) rfl rfl (by decide) ?_
                refine sp_istore_n (p2 := 2) (lv2 := [(2, .int 0), (0, .ref 164), (1, .int x1)]) rfl rfl (by decide) rfl ?_
                refine sp_iconst (p2 := 3) (x := 0) rfl rfl (by decide) ?_
                refine sp_istore_n (p2 := 4) (lv2 := [(3, .int 0), (2, .int 0), (0, .ref 164), (1, .int x1)]) rfl rfl (by decide) rfl ?_
                refine sp_iload_n (p2 := 5) rfl rfl rfl ?_
                refine sp_aload_n (p2 := 6) rfl rfl rfl ?_
                refine st_get rfl hh_148 rfl ?_
                show Ev _ _ _ (9, _, _, _) _
                refine st_icmp (b := true) rfl (by decide) ?_
                show Ev _ _ _ (122, _, _, _) _
                refine sp_iload_n (p2 := 123) rfl rfl rfl ?_
                exact sp_iret rfl rfl
              refine st_callV (R := 164) rfl rfl rfl hh_148 rfl c3 ?_
              show Ev _ _ _ (25, [(0, .ref 164), (1, .int x1), (2, .int 1)], [.int 0], hh) _
              refine sp_istore_n (p2 := 26) (lv2 := [(3, .int 0), (0, .ref 164), (1, .int x1), (2, .int 1)]) rfl rfl (by decide) rfl ?_
              refine sp_iload_n (p2 := 27) rfl rfl rfl ?_
              refine sp_istore (p2 := 29) (lv2 := [(4, .int 0), (3, .int 0), (0, .ref 164), (1, .int x1), (2, .int 1)]) rfl rfl (by decide) rfl ?_
              refine sp_sipush (p2 := 32) (x := 2520) rfl rfl (by decide) ?_
              refine sp_istore (p2 := 34) (lv2 := [(5, .int 2520), (4, .int 0), (3, .int 0), (0, .ref 164), (1, .int x1), (2, .int 1)]) rfl rfl (by decide) rfl ?_
              refine sp_iload (p2 := 36) rfl rfl rfl ?_
              refine st_ifc (b := false) rfl (by decide) ?_
              show Ev _ _ _ (39, _, _, _) _
              refine sp_iload (p2 := 41) rfl rfl rfl ?_
              refine sp_iload (p2 := 43) rfl rfl rfl ?_
              refine sp_irem (p2 := 44) (z := 0) rfl rfl (by decide) (by decide) ?_
              refine sp_istore (p2 := 46) (lv2 := [(6, .int 0), (5, .int 2520), (4, .int 0), (3, .int 0), (0, .ref 164), (1, .int x1), (2, .int 1)]) rfl rfl (by decide) rfl ?_
              refine sp_iload (p2 := 48) rfl rfl rfl ?_
              refine sp_istore (p2 := 50) (lv2 := [(4, .int 2520), (6, .int 0), (5, .int 2520), (3, .int 0), (0, .ref 164), (1, .int x1), (2, .int 1)]) rfl rfl (by decide) rfl ?_
              refine sp_iload (p2 := 52) rfl rfl rfl ?_
              refine sp_istore (p2 := 54) (lv2 := [(5, .int 0), (4, .int 2520), (6, .int 0), (3, .int 0), (0, .ref 164), (1, .int x1), (2, .int 1)]) rfl rfl (by decide) rfl ?_
              refine sp_goto rfl ?_
              refine sp_iload (p2 := 36) rfl rfl rfl ?_
              refine st_ifc (b := true) rfl (by decide) ?_
              show Ev _ _ _ (57, _, _, _) _
              refine sp_iload_n (p2 := 58) rfl rfl rfl ?_
              refine st_ifc (b := true) rfl (by decide) ?_
              show Ev _ _ _ (65, _, _, _) _
              refine sp_sipush (p2 := 68) (x := 2520) rfl rfl (by decide) ?_
              refine sp_iload (p2 := 70) rfl rfl rfl ?_
              refine sp_idiv (p2 := 71) (z := 1) rfl rfl (by decide) (by decide) ?_
              refine sp_i2l (p2 := 72) (z := 1) rfl rfl (by decide) ?_
              exact sp_lret rfl rfl
        · refine ⟨.long (-4611686018427387904), hh, hh, ?_, ?_⟩
          · refine ca_of (d := 19) (M := mX11_likely) rfl (Nat.le_of_ble_eq_true rfl) ?_
            show Ev im_K0 19 mX11_likely (0, [(0, .ref 16), (1, .int x1), (2, .int x2)], [], hh) _
            refine sp_iload_n (p2 := 1) rfl rfl rfl ?_
            refine sp_bipush (p2 := 3) (x := 100) rfl rfl (by decide) ?_
            refine st_callS rfl rfl rfl (cl_within_T (b := 100) rfl (by omega)) ?_
            show Ev _ _ _ (6, [(0, .ref 16), (1, .int x1), (2, .int x2)], [.int 1], hh) _
            refine st_ifc (b := false) rfl (by decide) ?_
            show Ev _ _ _ (9, _, _, _) _
            refine sp_iload_n (p2 := 10) rfl rfl rfl ?_
            refine sp_iconst (p2 := 11) (x := 2) rfl rfl (by decide) ?_
            refine st_callS rfl rfl rfl (cl_within_F (b := 2) rfl (by omega)) ?_
            show Ev _ _ _ (14, [(0, .ref 16), (1, .int x1), (2, .int x2)], [.int 0], hh) _
            refine st_ifc (b := false) rfl (by decide) ?_
            show Ev _ _ _ (17, _, _, _) _
            refine sp_ldc2 (p2 := 20) (x := (-4611686018427387904)) rfl rfl rfl ?_
            exact sp_lret rfl rfl
          · refine ca_of (d := 19) (M := mX12_likely) rfl (Nat.le_of_ble_eq_true rfl) ?_
            show Ev im_K0 19 mX12_likely (0, [(0, .ref 164), (1, .int x1), (2, .int x2)], [], hh) _
            refine sp_iload_n (p2 := 1) rfl rfl rfl ?_
            refine st_callS rfl rfl rfl (cl_isCell_T (by omega)) ?_
            show Ev _ _ _ (4, [(0, .ref 164), (1, .int x1), (2, .int x2)], [.int 1], hh) _
            refine st_ifc (b := false) rfl (by decide) ?_
            show Ev _ _ _ (7, _, _, _) _
            refine sp_iload_n (p2 := 8) rfl rfl rfl ?_
            refine sp_iconst (p2 := 9) (x := 0) rfl rfl (by decide) ?_
            refine sp_iconst (p2 := 10) (x := 1) rfl rfl (by decide) ?_
            refine st_callS rfl rfl rfl (cl_in_F (a := 0) (b := 1) rfl rfl (by omega)) ?_
            show Ev _ _ _ (13, [(0, .ref 164), (1, .int x1), (2, .int x2)], [.int 0], hh) _
            refine st_ifc (b := false) rfl (by decide) ?_
            show Ev _ _ _ (16, _, _, _) _
            refine sp_ldc2 (p2 := 19) (x := (-4611686018427387904)) rfl rfl rfl ?_
            exact sp_lret rfl rfl
    · refine ⟨.long (-4611686018427387904), hh, hh, ?_, ?_⟩
      · refine ca_of (d := 19) (M := mX11_likely) rfl (Nat.le_of_ble_eq_true rfl) ?_
        show Ev im_K0 19 mX11_likely (0, [(0, .ref 16), (1, .int x1), (2, .int x2)], [], hh) _
        refine sp_iload_n (p2 := 1) rfl rfl rfl ?_
        refine sp_bipush (p2 := 3) (x := 100) rfl rfl (by decide) ?_
        refine st_callS rfl rfl rfl (cl_within_F (b := 100) rfl (by omega)) ?_
        show Ev _ _ _ (6, [(0, .ref 16), (1, .int x1), (2, .int x2)], [.int 0], hh) _
        refine st_ifc (b := true) rfl (by decide) ?_
        show Ev _ _ _ (17, _, _, _) _
        refine sp_ldc2 (p2 := 20) (x := (-4611686018427387904)) rfl rfl rfl ?_
        exact sp_lret rfl rfl
      · refine ca_of (d := 19) (M := mX12_likely) rfl (Nat.le_of_ble_eq_true rfl) ?_
        show Ev im_K0 19 mX12_likely (0, [(0, .ref 164), (1, .int x1), (2, .int x2)], [], hh) _
        refine sp_iload_n (p2 := 1) rfl rfl rfl ?_
        refine st_callS rfl rfl rfl (cl_isCell_F (by omega)) ?_
        show Ev _ _ _ (4, [(0, .ref 164), (1, .int x1), (2, .int x2)], [.int 0], hh) _
        refine st_ifc (b := true) rfl (by decide) ?_
        show Ev _ _ _ (16, _, _, _) _
        refine sp_ldc2 (p2 := 19) (x := (-4611686018427387904)) rfl rfl rfl ?_
        exact sp_lret rfl rfl
set_option maxRecDepth 10000 in
set_option maxHeartbeats 4000000 in
theorem q_paper (x1 x2 x3 : Int32) : ∃ (v : Value) (h1 h2 : im_H), Ca 20 96 [.ref 16, .int x1, .int x2, .int x3] hh (some v, h1) ∧ Ca 20 182 [.ref 164, .int x1, .int x2, .int x3] h1 (some v, h2) := by
  by_cases h1 : x1.toInt ≤ (-1)
  · refine ⟨.int (-1), hh, hh, ?_, ?_⟩
    · refine ca_of (d := 19) (M := mX11_paper) rfl (Nat.le_of_ble_eq_true rfl) ?_
      show Ev im_K0 19 mX11_paper (0, [(0, .ref 16), (1, .int x1), (2, .int x2), (3, .int x3)], [], hh) _
      refine sp_iload_n (p2 := 1) rfl rfl rfl ?_
      refine sp_bipush (p2 := 3) (x := 12) rfl rfl (by decide) ?_
      refine st_callS rfl rfl rfl (cl_within_F (b := 12) rfl (by omega)) ?_
      show Ev _ _ _ (6, [(0, .ref 16), (1, .int x1), (2, .int x2), (3, .int x3)], [.int 0], hh) _
      refine st_ifc (b := true) rfl (by decide) ?_
      show Ev _ _ _ (23, _, _, _) _
      refine sp_iconst (p2 := 24) (x := (-1)) rfl rfl (by decide) ?_
      exact sp_iret rfl rfl
    · refine ca_of (d := 19) (M := mX12_paper) rfl (Nat.le_of_ble_eq_true rfl) ?_
      show Ev im_K0 19 mX12_paper (0, [(0, .ref 164), (1, .int x1), (2, .int x2), (3, .int x3)], [], hh) _
      refine sp_iload_n (p2 := 1) rfl rfl rfl ?_
      refine sp_iconst (p2 := 2) (x := 0) rfl rfl (by decide) ?_
      refine sp_bipush (p2 := 4) (x := 11) rfl rfl (by decide) ?_
      refine st_callS rfl rfl rfl (cl_in_F (a := 0) (b := 11) rfl rfl (by omega)) ?_
      show Ev _ _ _ (7, [(0, .ref 164), (1, .int x1), (2, .int x2), (3, .int x3)], [.int 0], hh) _
      refine st_ifc (b := true) rfl (by decide) ?_
      show Ev _ _ _ (18, _, _, _) _
      refine sp_iconst (p2 := 19) (x := (-1)) rfl rfl (by decide) ?_
      exact sp_iret rfl rfl
  · by_cases h2 : x1.toInt ≤ 11
    · refine ⟨.int (-1), hh, hh, ?_, ?_⟩
      · refine ca_of (d := 19) (M := mX11_paper) rfl (Nat.le_of_ble_eq_true rfl) ?_
        show Ev im_K0 19 mX11_paper (0, [(0, .ref 16), (1, .int x1), (2, .int x2), (3, .int x3)], [], hh) _
        refine sp_iload_n (p2 := 1) rfl rfl rfl ?_
        refine sp_bipush (p2 := 3) (x := 12) rfl rfl (by decide) ?_
        refine st_callS rfl rfl rfl (cl_within_T (b := 12) rfl (by omega)) ?_
        show Ev _ _ _ (6, [(0, .ref 16), (1, .int x1), (2, .int x2), (3, .int x3)], [.int 1], hh) _
        refine st_ifc (b := false) rfl (by decide) ?_
        show Ev _ _ _ (9, _, _, _) _
        refine sp_iload_n (p2 := 10) rfl rfl rfl ?_
        refine sp_aload_n (p2 := 11) rfl rfl rfl ?_
        refine st_get rfl hh_0 rfl ?_
        show Ev _ _ _ (14, _, _, _) _
        refine st_get rfl hh_1 rfl ?_
        show Ev _ _ _ (17, _, _, _) _
        refine st_callS rfl rfl rfl (cl_within_F (b := 0) rfl (by omega)) ?_
        show Ev _ _ _ (20, [(0, .ref 16), (1, .int x1), (2, .int x2), (3, .int x3)], [.int 0], hh) _
        refine st_ifc (b := false) rfl (by decide) ?_
        show Ev _ _ _ (23, _, _, _) _
        refine sp_iconst (p2 := 24) (x := (-1)) rfl rfl (by decide) ?_
        exact sp_iret rfl rfl
      · refine ca_of (d := 19) (M := mX12_paper) rfl (Nat.le_of_ble_eq_true rfl) ?_
        show Ev im_K0 19 mX12_paper (0, [(0, .ref 164), (1, .int x1), (2, .int x2), (3, .int x3)], [], hh) _
        refine sp_iload_n (p2 := 1) rfl rfl rfl ?_
        refine sp_iconst (p2 := 2) (x := 0) rfl rfl (by decide) ?_
        refine sp_bipush (p2 := 4) (x := 11) rfl rfl (by decide) ?_
        refine st_callS rfl rfl rfl (cl_in_T (a := 0) (b := 11) rfl rfl (by omega)) ?_
        show Ev _ _ _ (7, [(0, .ref 164), (1, .int x1), (2, .int x2), (3, .int x3)], [.int 1], hh) _
        refine st_ifc (b := false) rfl (by decide) ?_
        show Ev _ _ _ (10, _, _, _) _
        refine sp_aload_n (p2 := 11) rfl rfl rfl ?_
        refine sp_iload_n (p2 := 12) rfl rfl rfl ?_
        have c1 : Ca 19 119 [.ref 164, .int x2] hh (some (.int 0), hh) := by
          refine ca_of (d := 18) (M := mX12_isPerson) rfl (Nat.le_of_ble_eq_true rfl) ?_
          show Ev im_K0 18 mX12_isPerson (0, [(0, .ref 164), (1, .int x2)], [], hh) _
          refine sp_iload_n (p2 := 1) rfl rfl rfl ?_
          refine sp_iconst (p2 := 2) (x := 0) rfl rfl (by decide) ?_
          refine sp_aload_n (p2 := 3) rfl rfl rfl ?_
          refine st_get rfl hh_148 rfl ?_
          show Ev _ _ _ (6, _, _, _) _
          refine sp_iconst (p2 := 7) (x := 1) rfl rfl (by decide) ?_
          refine sp_isub (p2 := 8) (z := (-1)) rfl rfl (by decide) ?_
          refine st_callS rfl rfl rfl (cl_in_F (a := 0) (b := -1) rfl rfl (by omega)) ?_
          show Ev _ _ _ (11, [(0, .ref 164), (1, .int x2)], [.int 0], hh) _
          exact sp_zret rfl rfl (by decide)
        refine st_callV (R := 164) rfl rfl rfl hh_148 rfl c1 ?_
        show Ev _ _ _ (15, [(0, .ref 164), (1, .int x1), (2, .int x2), (3, .int x3)], [.int 0], hh) _
        refine st_ifc (b := false) rfl (by decide) ?_
        show Ev _ _ _ (18, _, _, _) _
        refine sp_iconst (p2 := 19) (x := (-1)) rfl rfl (by decide) ?_
        exact sp_iret rfl rfl
    · refine ⟨.int (-1), hh, hh, ?_, ?_⟩
      · refine ca_of (d := 19) (M := mX11_paper) rfl (Nat.le_of_ble_eq_true rfl) ?_
        show Ev im_K0 19 mX11_paper (0, [(0, .ref 16), (1, .int x1), (2, .int x2), (3, .int x3)], [], hh) _
        refine sp_iload_n (p2 := 1) rfl rfl rfl ?_
        refine sp_bipush (p2 := 3) (x := 12) rfl rfl (by decide) ?_
        refine st_callS rfl rfl rfl (cl_within_F (b := 12) rfl (by omega)) ?_
        show Ev _ _ _ (6, [(0, .ref 16), (1, .int x1), (2, .int x2), (3, .int x3)], [.int 0], hh) _
        refine st_ifc (b := true) rfl (by decide) ?_
        show Ev _ _ _ (23, _, _, _) _
        refine sp_iconst (p2 := 24) (x := (-1)) rfl rfl (by decide) ?_
        exact sp_iret rfl rfl
      · refine ca_of (d := 19) (M := mX12_paper) rfl (Nat.le_of_ble_eq_true rfl) ?_
        show Ev im_K0 19 mX12_paper (0, [(0, .ref 164), (1, .int x1), (2, .int x2), (3, .int x3)], [], hh) _
        refine sp_iload_n (p2 := 1) rfl rfl rfl ?_
        refine sp_iconst (p2 := 2) (x := 0) rfl rfl (by decide) ?_
        refine sp_bipush (p2 := 4) (x := 11) rfl rfl (by decide) ?_
        refine st_callS rfl rfl rfl (cl_in_F (a := 0) (b := 11) rfl rfl (by omega)) ?_
        show Ev _ _ _ (7, [(0, .ref 164), (1, .int x1), (2, .int x2), (3, .int x3)], [.int 0], hh) _
        refine st_ifc (b := true) rfl (by decide) ?_
        show Ev _ _ _ (18, _, _, _) _
        refine sp_iconst (p2 := 19) (x := (-1)) rfl rfl (by decide) ?_
        exact sp_iret rfl rfl
set_option maxRecDepth 10000 in
set_option maxHeartbeats 4000000 in
theorem q_burn (x1 : Int32) : ∃ (v : Value) (h1 h2 : im_H), Ca 20 97 [.ref 16, .int x1] hh (some v, h1) ∧ Ca 20 183 [.ref 164, .int x1] h1 (some v, h2) := by
  refine ⟨.int (-1), hh, hh, ?_, ?_⟩
  · refine ca_of (d := 19) (M := mX11_burn) rfl (Nat.le_of_ble_eq_true rfl) ?_
    show Ev im_K0 19 mX11_burn (0, [(0, .ref 16), (1, .int x1)], [], hh) _
    refine sp_iload_n (p2 := 1) rfl rfl rfl ?_
    refine sp_aload_n (p2 := 2) rfl rfl rfl ?_
    refine st_get rfl hh_0 rfl ?_
    show Ev _ _ _ (5, _, _, _) _
    refine st_get rfl hh_91 rfl ?_
    show Ev _ _ _ (8, _, _, _) _
    refine st_callS rfl rfl rfl (cl_within_F (b := 0) rfl (by omega)) ?_
    show Ev _ _ _ (11, [(0, .ref 16), (1, .int x1)], [.int 0], hh) _
    refine st_ifc (b := false) rfl (by decide) ?_
    show Ev _ _ _ (14, _, _, _) _
    refine sp_iconst (p2 := 15) (x := (-1)) rfl rfl (by decide) ?_
    exact sp_iret rfl rfl
  · refine ca_of (d := 19) (M := mX12_burn) rfl (Nat.le_of_ble_eq_true rfl) ?_
    show Ev im_K0 19 mX12_burn (0, [(0, .ref 164), (1, .int x1)], [], hh) _
    refine sp_iload_n (p2 := 1) rfl rfl rfl ?_
    refine sp_iconst (p2 := 2) (x := 0) rfl rfl (by decide) ?_
    refine sp_aload_n (p2 := 3) rfl rfl rfl ?_
    refine st_get rfl hh_148 rfl ?_
    show Ev _ _ _ (6, _, _, _) _
    refine sp_iconst (p2 := 7) (x := 1) rfl rfl (by decide) ?_
    refine sp_isub (p2 := 8) (z := (-1)) rfl rfl (by decide) ?_
    refine st_callS rfl rfl rfl (cl_in_F (a := 0) (b := -1) rfl rfl (by omega)) ?_
    show Ev _ _ _ (11, [(0, .ref 164), (1, .int x1)], [.int 0], hh) _
    refine st_ifc (b := false) rfl (by decide) ?_
    show Ev _ _ _ (14, _, _, _) _
    refine sp_iconst (p2 := 15) (x := (-1)) rfl rfl (by decide) ?_
    exact sp_iret rfl rfl
set_option maxRecDepth 10000 in
set_option maxHeartbeats 4000000 in
theorem q_owner (x1 x2 x3 : Int32) : ∃ (v : Value) (h1 h2 : im_H), Ca 20 98 [.ref 16, .int x1, .int x2, .int x3] hh (some v, h1) ∧ Ca 20 184 [.ref 164, .int x1, .int x2, .int x3] h1 (some v, h2) := by
  by_cases h1 : x1.toInt ≤ (-1)
  · refine ⟨.int (-5), hh, hh, ?_, ?_⟩
    · refine ca_of (d := 19) (M := mX11_owner) rfl (Nat.le_of_ble_eq_true rfl) ?_
      show Ev im_K0 19 mX11_owner (0, [(0, .ref 16), (1, .int x1), (2, .int x2), (3, .int x3)], [], hh) _
      refine sp_iload_n (p2 := 1) rfl rfl rfl ?_
      refine sp_bipush (p2 := 3) (x := 12) rfl rfl (by decide) ?_
      refine st_callS rfl rfl rfl (cl_within_F (b := 12) rfl (by omega)) ?_
      show Ev _ _ _ (6, [(0, .ref 16), (1, .int x1), (2, .int x2), (3, .int x3)], [.int 0], hh) _
      refine st_ifc (b := false) rfl (by decide) ?_
      show Ev _ _ _ (9, _, _, _) _
      refine sp_bipush (p2 := 11) (x := (-5)) rfl rfl (by decide) ?_
      exact sp_iret rfl rfl
    · refine ca_of (d := 19) (M := mX12_owner) rfl (Nat.le_of_ble_eq_true rfl) ?_
      show Ev im_K0 19 mX12_owner (0, [(0, .ref 164), (1, .int x1), (2, .int x2), (3, .int x3)], [], hh) _
      refine sp_iload_n (p2 := 1) rfl rfl rfl ?_
      refine sp_iconst (p2 := 2) (x := 0) rfl rfl (by decide) ?_
      refine sp_bipush (p2 := 4) (x := 11) rfl rfl (by decide) ?_
      refine st_callS rfl rfl rfl (cl_in_F (a := 0) (b := 11) rfl rfl (by omega)) ?_
      show Ev _ _ _ (7, [(0, .ref 164), (1, .int x1), (2, .int x2), (3, .int x3)], [.int 0], hh) _
      refine st_ifc (b := false) rfl (by decide) ?_
      show Ev _ _ _ (10, _, _, _) _
      refine sp_bipush (p2 := 12) (x := (-5)) rfl rfl (by decide) ?_
      exact sp_iret rfl rfl
  · by_cases h2 : x1.toInt ≤ 11
    · by_cases h3 : x2.toInt ≤ (-1)
      · refine ⟨.int (-2), hh, hh, ?_, ?_⟩
        · refine ca_of (d := 19) (M := mX11_owner) rfl (Nat.le_of_ble_eq_true rfl) ?_
          show Ev im_K0 19 mX11_owner (0, [(0, .ref 16), (1, .int x1), (2, .int x2), (3, .int x3)], [], hh) _
          refine sp_iload_n (p2 := 1) rfl rfl rfl ?_
          refine sp_bipush (p2 := 3) (x := 12) rfl rfl (by decide) ?_
          refine st_callS rfl rfl rfl (cl_within_T (b := 12) rfl (by omega)) ?_
          show Ev _ _ _ (6, [(0, .ref 16), (1, .int x1), (2, .int x2), (3, .int x3)], [.int 1], hh) _
          refine st_ifc (b := true) rfl (by decide) ?_
          show Ev _ _ _ (12, _, _, _) _
          refine sp_iload_n (p2 := 13) rfl rfl rfl ?_
          refine sp_iconst (p2 := 14) (x := 0) rfl rfl (by decide) ?_
          refine sp_sipush (p2 := 17) (x := 2000) rfl rfl (by decide) ?_
          refine st_callS rfl rfl rfl (cl_between_F (a := 0) (b := 2000) rfl rfl (by omega)) ?_
          show Ev _ _ _ (20, [(0, .ref 16), (1, .int x1), (2, .int x2), (3, .int x3)], [.int 0], hh) _
          refine st_ifc (b := true) rfl (by decide) ?_
          show Ev _ _ _ (38, _, _, _) _
          refine sp_bipush (p2 := 40) (x := (-2)) rfl rfl (by decide) ?_
          exact sp_iret rfl rfl
        · refine ca_of (d := 19) (M := mX12_owner) rfl (Nat.le_of_ble_eq_true rfl) ?_
          show Ev im_K0 19 mX12_owner (0, [(0, .ref 164), (1, .int x1), (2, .int x2), (3, .int x3)], [], hh) _
          refine sp_iload_n (p2 := 1) rfl rfl rfl ?_
          refine sp_iconst (p2 := 2) (x := 0) rfl rfl (by decide) ?_
          refine sp_bipush (p2 := 4) (x := 11) rfl rfl (by decide) ?_
          refine st_callS rfl rfl rfl (cl_in_T (a := 0) (b := 11) rfl rfl (by omega)) ?_
          show Ev _ _ _ (7, [(0, .ref 164), (1, .int x1), (2, .int x2), (3, .int x3)], [.int 1], hh) _
          refine st_ifc (b := true) rfl (by decide) ?_
          show Ev _ _ _ (13, _, _, _) _
          refine sp_iload_n (p2 := 14) rfl rfl rfl ?_
          refine sp_iconst (p2 := 15) (x := 0) rfl rfl (by decide) ?_
          refine sp_sipush (p2 := 18) (x := 2000) rfl rfl (by decide) ?_
          refine st_callS rfl rfl rfl (cl_in_F (a := 0) (b := 2000) rfl rfl (by omega)) ?_
          show Ev _ _ _ (21, [(0, .ref 164), (1, .int x1), (2, .int x2), (3, .int x3)], [.int 0], hh) _
          refine st_ifc (b := true) rfl (by decide) ?_
          show Ev _ _ _ (39, _, _, _) _
          refine sp_bipush (p2 := 41) (x := (-2)) rfl rfl (by decide) ?_
          exact sp_iret rfl rfl
      · by_cases h4 : x2.toInt ≤ 2000
        · by_cases h5 : x3.toInt ≤ (-1)
          · refine ⟨.int (-2), hh, hh, ?_, ?_⟩
            · refine ca_of (d := 19) (M := mX11_owner) rfl (Nat.le_of_ble_eq_true rfl) ?_
              show Ev im_K0 19 mX11_owner (0, [(0, .ref 16), (1, .int x1), (2, .int x2), (3, .int x3)], [], hh) _
              refine sp_iload_n (p2 := 1) rfl rfl rfl ?_
              refine sp_bipush (p2 := 3) (x := 12) rfl rfl (by decide) ?_
              refine st_callS rfl rfl rfl (cl_within_T (b := 12) rfl (by omega)) ?_
              show Ev _ _ _ (6, [(0, .ref 16), (1, .int x1), (2, .int x2), (3, .int x3)], [.int 1], hh) _
              refine st_ifc (b := true) rfl (by decide) ?_
              show Ev _ _ _ (12, _, _, _) _
              refine sp_iload_n (p2 := 13) rfl rfl rfl ?_
              refine sp_iconst (p2 := 14) (x := 0) rfl rfl (by decide) ?_
              refine sp_sipush (p2 := 17) (x := 2000) rfl rfl (by decide) ?_
              refine st_callS rfl rfl rfl (cl_between_T (a := 0) (b := 2000) rfl rfl (by omega)) ?_
              show Ev _ _ _ (20, [(0, .ref 16), (1, .int x1), (2, .int x2), (3, .int x3)], [.int 1], hh) _
              refine st_ifc (b := false) rfl (by decide) ?_
              show Ev _ _ _ (23, _, _, _) _
              refine sp_iload_n (p2 := 24) rfl rfl rfl ?_
              refine sp_iconst (p2 := 25) (x := 0) rfl rfl (by decide) ?_
              refine sp_aload_n (p2 := 26) rfl rfl rfl ?_
              refine st_get rfl hh_0 rfl ?_
              show Ev _ _ _ (29, _, _, _) _
              refine st_get rfl hh_23 rfl ?_
              show Ev _ _ _ (32, _, _, _) _
              refine st_callS rfl rfl rfl (cl_between_F (a := 0) (b := 0) rfl rfl (by omega)) ?_
              show Ev _ _ _ (35, [(0, .ref 16), (1, .int x1), (2, .int x2), (3, .int x3)], [.int 0], hh) _
              refine st_ifc (b := false) rfl (by decide) ?_
              show Ev _ _ _ (38, _, _, _) _
              refine sp_bipush (p2 := 40) (x := (-2)) rfl rfl (by decide) ?_
              exact sp_iret rfl rfl
            · refine ca_of (d := 19) (M := mX12_owner) rfl (Nat.le_of_ble_eq_true rfl) ?_
              show Ev im_K0 19 mX12_owner (0, [(0, .ref 164), (1, .int x1), (2, .int x2), (3, .int x3)], [], hh) _
              refine sp_iload_n (p2 := 1) rfl rfl rfl ?_
              refine sp_iconst (p2 := 2) (x := 0) rfl rfl (by decide) ?_
              refine sp_bipush (p2 := 4) (x := 11) rfl rfl (by decide) ?_
              refine st_callS rfl rfl rfl (cl_in_T (a := 0) (b := 11) rfl rfl (by omega)) ?_
              show Ev _ _ _ (7, [(0, .ref 164), (1, .int x1), (2, .int x2), (3, .int x3)], [.int 1], hh) _
              refine st_ifc (b := true) rfl (by decide) ?_
              show Ev _ _ _ (13, _, _, _) _
              refine sp_iload_n (p2 := 14) rfl rfl rfl ?_
              refine sp_iconst (p2 := 15) (x := 0) rfl rfl (by decide) ?_
              refine sp_sipush (p2 := 18) (x := 2000) rfl rfl (by decide) ?_
              refine st_callS rfl rfl rfl (cl_in_T (a := 0) (b := 2000) rfl rfl (by omega)) ?_
              show Ev _ _ _ (21, [(0, .ref 164), (1, .int x1), (2, .int x2), (3, .int x3)], [.int 1], hh) _
              refine st_ifc (b := false) rfl (by decide) ?_
              show Ev _ _ _ (24, _, _, _) _
              refine sp_iload_n (p2 := 25) rfl rfl rfl ?_
              refine sp_iconst (p2 := 26) (x := 0) rfl rfl (by decide) ?_
              refine sp_aload_n (p2 := 27) rfl rfl rfl ?_
              refine st_get rfl hh_148 rfl ?_
              show Ev _ _ _ (30, _, _, _) _
              refine sp_bipush (p2 := 32) (x := 105) rfl rfl (by decide) ?_
              refine st_iald (x := 0) rfl (by decide) hh_149 rfl rfl ?_
              show Ev _ _ _ (33, _, _, _) _
              refine st_callS rfl rfl rfl (cl_in_F (a := 0) (b := 0) rfl rfl (by omega)) ?_
              show Ev _ _ _ (36, [(0, .ref 164), (1, .int x1), (2, .int x2), (3, .int x3)], [.int 0], hh) _
              refine st_ifc (b := false) rfl (by decide) ?_
              show Ev _ _ _ (39, _, _, _) _
              refine sp_bipush (p2 := 41) (x := (-2)) rfl rfl (by decide) ?_
              exact sp_iret rfl rfl
          · by_cases h6 : x3.toInt ≤ 0
            · obtain rfl : x3 = 0 := i32_ext (by have e9 : Int32.toInt 0 = 0 := rfl; omega)
              refine ⟨.int (-1), hh, hh, ?_, ?_⟩
              · refine ca_of (d := 19) (M := mX11_owner) rfl (Nat.le_of_ble_eq_true rfl) ?_
                show Ev im_K0 19 mX11_owner (0, [(0, .ref 16), (1, .int x1), (2, .int x2), (3, .int 0)], [], hh) _
                refine sp_iload_n (p2 := 1) rfl rfl rfl ?_
                refine sp_bipush (p2 := 3) (x := 12) rfl rfl (by decide) ?_
                refine st_callS rfl rfl rfl (cl_within_T (b := 12) rfl (by omega)) ?_
                show Ev _ _ _ (6, [(0, .ref 16), (1, .int x1), (2, .int x2), (3, .int 0)], [.int 1], hh) _
                refine st_ifc (b := true) rfl (by decide) ?_
                show Ev _ _ _ (12, _, _, _) _
                refine sp_iload_n (p2 := 13) rfl rfl rfl ?_
                refine sp_iconst (p2 := 14) (x := 0) rfl rfl (by decide) ?_
                refine sp_sipush (p2 := 17) (x := 2000) rfl rfl (by decide) ?_
                refine st_callS rfl rfl rfl (cl_between_T (a := 0) (b := 2000) rfl rfl (by omega)) ?_
                show Ev _ _ _ (20, [(0, .ref 16), (1, .int x1), (2, .int x2), (3, .int 0)], [.int 1], hh) _
                refine st_ifc (b := false) rfl (by decide) ?_
                show Ev _ _ _ (23, _, _, _) _
                refine sp_iload_n (p2 := 24) rfl rfl rfl ?_
                refine sp_iconst (p2 := 25) (x := 0) rfl rfl (by decide) ?_
                refine sp_aload_n (p2 := 26) rfl rfl rfl ?_
                refine st_get rfl hh_0 rfl ?_
                show Ev _ _ _ (29, _, _, _) _
                refine st_get rfl hh_23 rfl ?_
                show Ev _ _ _ (32, _, _, _) _
                refine st_callS rfl rfl rfl (cl_between_T (n := 0) (a := 0) (b := 0) (show Int32.toInt _ = _ from rfl) (show Int32.toInt _ = _ from rfl) (by have e9 : Int32.toInt 0 = 0 := rfl; omega)) ?_
                show Ev _ _ _ (35, [(0, .ref 16), (1, .int x1), (2, .int x2), (3, .int 0)], [.int 1], hh) _
                refine st_ifc (b := true) rfl (by decide) ?_
                show Ev _ _ _ (41, _, _, _) _
                refine sp_aload_n (p2 := 42) rfl rfl rfl ?_
                refine st_get rfl hh_0 rfl ?_
                show Ev _ _ _ (45, _, _, _) _
                refine sp_iload_n (p2 := 46) rfl rfl rfl ?_
                refine sp_iload_n (p2 := 47) rfl rfl rfl ?_
                refine sp_iload_n (p2 := 48) rfl rfl rfl ?_
                have c1 : Ca 19 20 [.ref 107, .int x1, .int x2, .int 0] hh (some (.int (-1)), hh) := by
                  refine ca_of (d := 18) (M := mX2_ownerOf) rfl (Nat.le_of_ble_eq_true rfl) ?_
                  show Ev im_K0 18 mX2_ownerOf (0, [(0, .ref 107), (1, .int x1), (2, .int x2), (3, .int 0)], [], hh) _
                  refine sp_iconst (p2 := 1) (x := (-1)) rfl rfl (by decide) ?_
                  refine sp_istore (p2 := 3) (lv2 := [(4, .int (-1)), (0, .ref 107), (1, .int x1), (2, .int x2), (3, .int 0)]) rfl rfl (by decide) rfl ?_
                  refine sp_iconst (p2 := 4) (x := 0) rfl rfl (by decide) ?_
                  refine sp_istore (p2 := 6) (lv2 := [(5, .int 0), (4, .int (-1)), (0, .ref 107), (1, .int x1), (2, .int x2), (3, .int 0)]) rfl rfl (by decide) rfl ?_
                  refine sp_iload (p2 := 8) rfl rfl rfl ?_
                  refine sp_aload_n (p2 := 9) rfl rfl rfl ?_
                  refine st_get rfl hh_91 rfl ?_
                  show Ev _ _ _ (12, _, _, _) _
                  refine st_icmp (b := true) rfl (by decide) ?_
                  show Ev _ _ _ (92, _, _, _) _
                  refine sp_iload (p2 := 94) rfl rfl rfl ?_
                  refine sp_iconst (p2 := 95) (x := (-1)) rfl rfl (by decide) ?_
                  refine st_icmp (b := false) rfl (by decide) ?_
                  show Ev _ _ _ (98, _, _, _) _
                  refine sp_iconst (p2 := 99) (x := (-1)) rfl rfl (by decide) ?_
                  refine sp_goto rfl ?_
                  exact sp_iret rfl rfl
                refine st_callV (R := 107) rfl rfl rfl hh_91 rfl c1 ?_
                show Ev _ _ _ (51, [(0, .ref 16), (1, .int x1), (2, .int x2), (3, .int 0)], [.int (-1)], hh) _
                exact sp_iret rfl rfl
              · refine ca_of (d := 19) (M := mX12_owner) rfl (Nat.le_of_ble_eq_true rfl) ?_
                show Ev im_K0 19 mX12_owner (0, [(0, .ref 164), (1, .int x1), (2, .int x2), (3, .int 0)], [], hh) _
                refine sp_iload_n (p2 := 1) rfl rfl rfl ?_
                refine sp_iconst (p2 := 2) (x := 0) rfl rfl (by decide) ?_
                refine sp_bipush (p2 := 4) (x := 11) rfl rfl (by decide) ?_
                refine st_callS rfl rfl rfl (cl_in_T (a := 0) (b := 11) rfl rfl (by omega)) ?_
                show Ev _ _ _ (7, [(0, .ref 164), (1, .int x1), (2, .int x2), (3, .int 0)], [.int 1], hh) _
                refine st_ifc (b := true) rfl (by decide) ?_
                show Ev _ _ _ (13, _, _, _) _
                refine sp_iload_n (p2 := 14) rfl rfl rfl ?_
                refine sp_iconst (p2 := 15) (x := 0) rfl rfl (by decide) ?_
                refine sp_sipush (p2 := 18) (x := 2000) rfl rfl (by decide) ?_
                refine st_callS rfl rfl rfl (cl_in_T (a := 0) (b := 2000) rfl rfl (by omega)) ?_
                show Ev _ _ _ (21, [(0, .ref 164), (1, .int x1), (2, .int x2), (3, .int 0)], [.int 1], hh) _
                refine st_ifc (b := false) rfl (by decide) ?_
                show Ev _ _ _ (24, _, _, _) _
                refine sp_iload_n (p2 := 25) rfl rfl rfl ?_
                refine sp_iconst (p2 := 26) (x := 0) rfl rfl (by decide) ?_
                refine sp_aload_n (p2 := 27) rfl rfl rfl ?_
                refine st_get rfl hh_148 rfl ?_
                show Ev _ _ _ (30, _, _, _) _
                refine sp_bipush (p2 := 32) (x := 105) rfl rfl (by decide) ?_
                refine st_iald (x := 0) rfl (by decide) hh_149 rfl rfl ?_
                show Ev _ _ _ (33, _, _, _) _
                refine st_callS rfl rfl rfl (cl_in_T (n := 0) (a := 0) (b := 0) (show Int32.toInt _ = _ from rfl) (show Int32.toInt _ = _ from rfl) (by have e9 : Int32.toInt 0 = 0 := rfl; omega)) ?_
                show Ev _ _ _ (36, [(0, .ref 164), (1, .int x1), (2, .int x2), (3, .int 0)], [.int 1], hh) _
                refine st_ifc (b := true) rfl (by decide) ?_
                show Ev _ _ _ (42, _, _, _) _
                refine sp_iconst (p2 := 43) (x := (-1)) rfl rfl (by decide) ?_
                refine sp_istore (p2 := 45) (lv2 := [(4, .int (-1)), (0, .ref 164), (1, .int x1), (2, .int x2), (3, .int 0)]) rfl rfl (by decide) rfl ?_
                refine sp_iconst (p2 := 46) (x := 0) rfl rfl (by decide) ?_
                refine sp_istore (p2 := 48) (lv2 := [(5, .int 0), (4, .int (-1)), (0, .ref 164), (1, .int x1), (2, .int x2), (3, .int 0)]) rfl rfl (by decide) rfl ?_
                refine sp_iload (p2 := 50) rfl rfl rfl ?_
                refine sp_aload_n (p2 := 51) rfl rfl rfl ?_
                refine st_get rfl hh_148 rfl ?_
                show Ev _ _ _ (54, _, _, _) _
                refine st_icmp (b := true) rfl (by decide) ?_
                show Ev _ _ _ (162, _, _, _) _
                refine sp_iload (p2 := 164) rfl rfl rfl ?_
                refine sp_iconst (p2 := 165) (x := (-1)) rfl rfl (by decide) ?_
                refine st_icmp (b := false) rfl (by decide) ?_
                show Ev _ _ _ (168, _, _, _) _
                refine sp_iconst (p2 := 169) (x := (-1)) rfl rfl (by decide) ?_
                refine sp_goto rfl ?_
                exact sp_iret rfl rfl
            · refine ⟨.int (-2), hh, hh, ?_, ?_⟩
              · refine ca_of (d := 19) (M := mX11_owner) rfl (Nat.le_of_ble_eq_true rfl) ?_
                show Ev im_K0 19 mX11_owner (0, [(0, .ref 16), (1, .int x1), (2, .int x2), (3, .int x3)], [], hh) _
                refine sp_iload_n (p2 := 1) rfl rfl rfl ?_
                refine sp_bipush (p2 := 3) (x := 12) rfl rfl (by decide) ?_
                refine st_callS rfl rfl rfl (cl_within_T (b := 12) rfl (by omega)) ?_
                show Ev _ _ _ (6, [(0, .ref 16), (1, .int x1), (2, .int x2), (3, .int x3)], [.int 1], hh) _
                refine st_ifc (b := true) rfl (by decide) ?_
                show Ev _ _ _ (12, _, _, _) _
                refine sp_iload_n (p2 := 13) rfl rfl rfl ?_
                refine sp_iconst (p2 := 14) (x := 0) rfl rfl (by decide) ?_
                refine sp_sipush (p2 := 17) (x := 2000) rfl rfl (by decide) ?_
                refine st_callS rfl rfl rfl (cl_between_T (a := 0) (b := 2000) rfl rfl (by omega)) ?_
                show Ev _ _ _ (20, [(0, .ref 16), (1, .int x1), (2, .int x2), (3, .int x3)], [.int 1], hh) _
                refine st_ifc (b := false) rfl (by decide) ?_
                show Ev _ _ _ (23, _, _, _) _
                refine sp_iload_n (p2 := 24) rfl rfl rfl ?_
                refine sp_iconst (p2 := 25) (x := 0) rfl rfl (by decide) ?_
                refine sp_aload_n (p2 := 26) rfl rfl rfl ?_
                refine st_get rfl hh_0 rfl ?_
                show Ev _ _ _ (29, _, _, _) _
                refine st_get rfl hh_23 rfl ?_
                show Ev _ _ _ (32, _, _, _) _
                refine st_callS rfl rfl rfl (cl_between_F (a := 0) (b := 0) rfl rfl (by omega)) ?_
                show Ev _ _ _ (35, [(0, .ref 16), (1, .int x1), (2, .int x2), (3, .int x3)], [.int 0], hh) _
                refine st_ifc (b := false) rfl (by decide) ?_
                show Ev _ _ _ (38, _, _, _) _
                refine sp_bipush (p2 := 40) (x := (-2)) rfl rfl (by decide) ?_
                exact sp_iret rfl rfl
              · refine ca_of (d := 19) (M := mX12_owner) rfl (Nat.le_of_ble_eq_true rfl) ?_
                show Ev im_K0 19 mX12_owner (0, [(0, .ref 164), (1, .int x1), (2, .int x2), (3, .int x3)], [], hh) _
                refine sp_iload_n (p2 := 1) rfl rfl rfl ?_
                refine sp_iconst (p2 := 2) (x := 0) rfl rfl (by decide) ?_
                refine sp_bipush (p2 := 4) (x := 11) rfl rfl (by decide) ?_
                refine st_callS rfl rfl rfl (cl_in_T (a := 0) (b := 11) rfl rfl (by omega)) ?_
                show Ev _ _ _ (7, [(0, .ref 164), (1, .int x1), (2, .int x2), (3, .int x3)], [.int 1], hh) _
                refine st_ifc (b := true) rfl (by decide) ?_
                show Ev _ _ _ (13, _, _, _) _
                refine sp_iload_n (p2 := 14) rfl rfl rfl ?_
                refine sp_iconst (p2 := 15) (x := 0) rfl rfl (by decide) ?_
                refine sp_sipush (p2 := 18) (x := 2000) rfl rfl (by decide) ?_
                refine st_callS rfl rfl rfl (cl_in_T (a := 0) (b := 2000) rfl rfl (by omega)) ?_
                show Ev _ _ _ (21, [(0, .ref 164), (1, .int x1), (2, .int x2), (3, .int x3)], [.int 1], hh) _
                refine st_ifc (b := false) rfl (by decide) ?_
                show Ev _ _ _ (24, _, _, _) _
                refine sp_iload_n (p2 := 25) rfl rfl rfl ?_
                refine sp_iconst (p2 := 26) (x := 0) rfl rfl (by decide) ?_
                refine sp_aload_n (p2 := 27) rfl rfl rfl ?_
                refine st_get rfl hh_148 rfl ?_
                show Ev _ _ _ (30, _, _, _) _
                refine sp_bipush (p2 := 32) (x := 105) rfl rfl (by decide) ?_
                refine st_iald (x := 0) rfl (by decide) hh_149 rfl rfl ?_
                show Ev _ _ _ (33, _, _, _) _
                refine st_callS rfl rfl rfl (cl_in_F (a := 0) (b := 0) rfl rfl (by omega)) ?_
                show Ev _ _ _ (36, [(0, .ref 164), (1, .int x1), (2, .int x2), (3, .int x3)], [.int 0], hh) _
                refine st_ifc (b := false) rfl (by decide) ?_
                show Ev _ _ _ (39, _, _, _) _
                refine sp_bipush (p2 := 41) (x := (-2)) rfl rfl (by decide) ?_
                exact sp_iret rfl rfl
        · refine ⟨.int (-2), hh, hh, ?_, ?_⟩
          · refine ca_of (d := 19) (M := mX11_owner) rfl (Nat.le_of_ble_eq_true rfl) ?_
            show Ev im_K0 19 mX11_owner (0, [(0, .ref 16), (1, .int x1), (2, .int x2), (3, .int x3)], [], hh) _
            refine sp_iload_n (p2 := 1) rfl rfl rfl ?_
            refine sp_bipush (p2 := 3) (x := 12) rfl rfl (by decide) ?_
            refine st_callS rfl rfl rfl (cl_within_T (b := 12) rfl (by omega)) ?_
            show Ev _ _ _ (6, [(0, .ref 16), (1, .int x1), (2, .int x2), (3, .int x3)], [.int 1], hh) _
            refine st_ifc (b := true) rfl (by decide) ?_
            show Ev _ _ _ (12, _, _, _) _
            refine sp_iload_n (p2 := 13) rfl rfl rfl ?_
            refine sp_iconst (p2 := 14) (x := 0) rfl rfl (by decide) ?_
            refine sp_sipush (p2 := 17) (x := 2000) rfl rfl (by decide) ?_
            refine st_callS rfl rfl rfl (cl_between_F (a := 0) (b := 2000) rfl rfl (by omega)) ?_
            show Ev _ _ _ (20, [(0, .ref 16), (1, .int x1), (2, .int x2), (3, .int x3)], [.int 0], hh) _
            refine st_ifc (b := true) rfl (by decide) ?_
            show Ev _ _ _ (38, _, _, _) _
            refine sp_bipush (p2 := 40) (x := (-2)) rfl rfl (by decide) ?_
            exact sp_iret rfl rfl
          · refine ca_of (d := 19) (M := mX12_owner) rfl (Nat.le_of_ble_eq_true rfl) ?_
            show Ev im_K0 19 mX12_owner (0, [(0, .ref 164), (1, .int x1), (2, .int x2), (3, .int x3)], [], hh) _
            refine sp_iload_n (p2 := 1) rfl rfl rfl ?_
            refine sp_iconst (p2 := 2) (x := 0) rfl rfl (by decide) ?_
            refine sp_bipush (p2 := 4) (x := 11) rfl rfl (by decide) ?_
            refine st_callS rfl rfl rfl (cl_in_T (a := 0) (b := 11) rfl rfl (by omega)) ?_
            show Ev _ _ _ (7, [(0, .ref 164), (1, .int x1), (2, .int x2), (3, .int x3)], [.int 1], hh) _
            refine st_ifc (b := true) rfl (by decide) ?_
            show Ev _ _ _ (13, _, _, _) _
            refine sp_iload_n (p2 := 14) rfl rfl rfl ?_
            refine sp_iconst (p2 := 15) (x := 0) rfl rfl (by decide) ?_
            refine sp_sipush (p2 := 18) (x := 2000) rfl rfl (by decide) ?_
            refine st_callS rfl rfl rfl (cl_in_F (a := 0) (b := 2000) rfl rfl (by omega)) ?_
            show Ev _ _ _ (21, [(0, .ref 164), (1, .int x1), (2, .int x2), (3, .int x3)], [.int 0], hh) _
            refine st_ifc (b := true) rfl (by decide) ?_
            show Ev _ _ _ (39, _, _, _) _
            refine sp_bipush (p2 := 41) (x := (-2)) rfl rfl (by decide) ?_
            exact sp_iret rfl rfl
    · refine ⟨.int (-5), hh, hh, ?_, ?_⟩
      · refine ca_of (d := 19) (M := mX11_owner) rfl (Nat.le_of_ble_eq_true rfl) ?_
        show Ev im_K0 19 mX11_owner (0, [(0, .ref 16), (1, .int x1), (2, .int x2), (3, .int x3)], [], hh) _
        refine sp_iload_n (p2 := 1) rfl rfl rfl ?_
        refine sp_bipush (p2 := 3) (x := 12) rfl rfl (by decide) ?_
        refine st_callS rfl rfl rfl (cl_within_F (b := 12) rfl (by omega)) ?_
        show Ev _ _ _ (6, [(0, .ref 16), (1, .int x1), (2, .int x2), (3, .int x3)], [.int 0], hh) _
        refine st_ifc (b := false) rfl (by decide) ?_
        show Ev _ _ _ (9, _, _, _) _
        refine sp_bipush (p2 := 11) (x := (-5)) rfl rfl (by decide) ?_
        exact sp_iret rfl rfl
      · refine ca_of (d := 19) (M := mX12_owner) rfl (Nat.le_of_ble_eq_true rfl) ?_
        show Ev im_K0 19 mX12_owner (0, [(0, .ref 164), (1, .int x1), (2, .int x2), (3, .int x3)], [], hh) _
        refine sp_iload_n (p2 := 1) rfl rfl rfl ?_
        refine sp_iconst (p2 := 2) (x := 0) rfl rfl (by decide) ?_
        refine sp_bipush (p2 := 4) (x := 11) rfl rfl (by decide) ?_
        refine st_callS rfl rfl rfl (cl_in_F (a := 0) (b := 11) rfl rfl (by omega)) ?_
        show Ev _ _ _ (7, [(0, .ref 164), (1, .int x1), (2, .int x2), (3, .int x3)], [.int 0], hh) _
        refine st_ifc (b := false) rfl (by decide) ?_
        show Ev _ _ _ (10, _, _, _) _
        refine sp_bipush (p2 := 12) (x := (-5)) rfl rfl (by decide) ?_
        exact sp_iret rfl rfl
set_option maxRecDepth 10000 in
set_option maxHeartbeats 4000000 in
theorem q_heirs (x1 x2 x3 : Int32) : ∃ (v : Value) (h1 h2 : im_H), Ca 20 99 [.ref 16, .int x1, .int x2, .int x3] hh (some v, h1) ∧ Ca 20 185 [.ref 164, .int x1, .int x2, .int x3] h1 (some v, h2) := by
  by_cases h1 : x1.toInt ≤ (-1)
  · refine ⟨.int (-5), hh, hh, ?_, ?_⟩
    · refine ca_of (d := 19) (M := mX11_heirs) rfl (Nat.le_of_ble_eq_true rfl) ?_
      show Ev im_K0 19 mX11_heirs (0, [(0, .ref 16), (1, .int x1), (2, .int x2), (3, .int x3)], [], hh) _
      refine sp_aload_n (p2 := 1) rfl rfl rfl ?_
      refine sp_iload_n (p2 := 2) rfl rfl rfl ?_
      refine sp_iload_n (p2 := 3) rfl rfl rfl ?_
      refine sp_iload_n (p2 := 4) rfl rfl rfl ?_
      have c1 : Ca 19 98 [.ref 16, .int x1, .int x2, .int x3] hh (some (.int (-5)), hh) := by
        refine ca_of (d := 18) (M := mX11_owner) rfl (Nat.le_of_ble_eq_true rfl) ?_
        show Ev im_K0 18 mX11_owner (0, [(0, .ref 16), (1, .int x1), (2, .int x2), (3, .int x3)], [], hh) _
        refine sp_iload_n (p2 := 1) rfl rfl rfl ?_
        refine sp_bipush (p2 := 3) (x := 12) rfl rfl (by decide) ?_
        refine st_callS rfl rfl rfl (cl_within_F (b := 12) rfl (by omega)) ?_
        show Ev _ _ _ (6, [(0, .ref 16), (1, .int x1), (2, .int x2), (3, .int x3)], [.int 0], hh) _
        refine st_ifc (b := false) rfl (by decide) ?_
        show Ev _ _ _ (9, _, _, _) _
        refine sp_bipush (p2 := 11) (x := (-5)) rfl rfl (by decide) ?_
        exact sp_iret rfl rfl
      refine st_callV (R := 16) rfl rfl rfl hh_0 rfl c1 ?_
      show Ev _ _ _ (7, [(0, .ref 16), (1, .int x1), (2, .int x2), (3, .int x3)], [.int (-5)], hh) _
      refine sp_istore (p2 := 9) (lv2 := [(4, .int (-5)), (0, .ref 16), (1, .int x1), (2, .int x2), (3, .int x3)]) rfl rfl (by decide) rfl ?_
      refine sp_iload (p2 := 11) rfl rfl rfl ?_
      refine sp_aload_n (p2 := 12) rfl rfl rfl ?_
      refine st_get rfl hh_0 rfl ?_
      show Ev _ _ _ (15, _, _, _) _
      refine st_get rfl hh_1 rfl ?_
      show Ev _ _ _ (18, _, _, _) _
      refine st_callS rfl rfl rfl (cl_within_F (n := (-5)) (b := 0) (show Int32.toInt _ = _ from rfl) (by have e9 : Int32.toInt (-5) = (-5) := rfl; omega)) ?_
      show Ev _ _ _ (21, [(4, .int (-5)), (0, .ref 16), (1, .int x1), (2, .int x2), (3, .int x3)], [.int 0], hh) _
      refine st_ifc (b := false) rfl (by decide) ?_
      show Ev _ _ _ (24, _, _, _) _
      refine sp_iload (p2 := 26) rfl rfl rfl ?_
      exact sp_iret rfl rfl
    · refine ca_of (d := 19) (M := mX12_heirs) rfl (Nat.le_of_ble_eq_true rfl) ?_
      show Ev im_K0 19 mX12_heirs (0, [(0, .ref 164), (1, .int x1), (2, .int x2), (3, .int x3)], [], hh) _
      refine sp_aload_n (p2 := 1) rfl rfl rfl ?_
      refine sp_iload_n (p2 := 2) rfl rfl rfl ?_
      refine sp_iload_n (p2 := 3) rfl rfl rfl ?_
      refine sp_iload_n (p2 := 4) rfl rfl rfl ?_
      have c2 : Ca 19 184 [.ref 164, .int x1, .int x2, .int x3] hh (some (.int (-5)), hh) := by
        refine ca_of (d := 18) (M := mX12_owner) rfl (Nat.le_of_ble_eq_true rfl) ?_
        show Ev im_K0 18 mX12_owner (0, [(0, .ref 164), (1, .int x1), (2, .int x2), (3, .int x3)], [], hh) _
        refine sp_iload_n (p2 := 1) rfl rfl rfl ?_
        refine sp_iconst (p2 := 2) (x := 0) rfl rfl (by decide) ?_
        refine sp_bipush (p2 := 4) (x := 11) rfl rfl (by decide) ?_
        refine st_callS rfl rfl rfl (cl_in_F (a := 0) (b := 11) rfl rfl (by omega)) ?_
        show Ev _ _ _ (7, [(0, .ref 164), (1, .int x1), (2, .int x2), (3, .int x3)], [.int 0], hh) _
        refine st_ifc (b := false) rfl (by decide) ?_
        show Ev _ _ _ (10, _, _, _) _
        refine sp_bipush (p2 := 12) (x := (-5)) rfl rfl (by decide) ?_
        exact sp_iret rfl rfl
      refine st_callV (R := 164) rfl rfl rfl hh_148 rfl c2 ?_
      show Ev _ _ _ (7, [(0, .ref 164), (1, .int x1), (2, .int x2), (3, .int x3)], [.int (-5)], hh) _
      refine sp_istore (p2 := 9) (lv2 := [(4, .int (-5)), (0, .ref 164), (1, .int x1), (2, .int x2), (3, .int x3)]) rfl rfl (by decide) rfl ?_
      refine sp_iload (p2 := 11) rfl rfl rfl ?_
      refine st_ifc (b := false) rfl (by decide) ?_
      show Ev _ _ _ (14, _, _, _) _
      refine sp_iload (p2 := 16) rfl rfl rfl ?_
      exact sp_iret rfl rfl
  · by_cases h2 : x1.toInt ≤ 11
    · by_cases h3 : x2.toInt ≤ (-1)
      · refine ⟨.int (-2), hh, hh, ?_, ?_⟩
        · refine ca_of (d := 19) (M := mX11_heirs) rfl (Nat.le_of_ble_eq_true rfl) ?_
          show Ev im_K0 19 mX11_heirs (0, [(0, .ref 16), (1, .int x1), (2, .int x2), (3, .int x3)], [], hh) _
          refine sp_aload_n (p2 := 1) rfl rfl rfl ?_
          refine sp_iload_n (p2 := 2) rfl rfl rfl ?_
          refine sp_iload_n (p2 := 3) rfl rfl rfl ?_
          refine sp_iload_n (p2 := 4) rfl rfl rfl ?_
          have c1 : Ca 19 98 [.ref 16, .int x1, .int x2, .int x3] hh (some (.int (-2)), hh) := by
            refine ca_of (d := 18) (M := mX11_owner) rfl (Nat.le_of_ble_eq_true rfl) ?_
            show Ev im_K0 18 mX11_owner (0, [(0, .ref 16), (1, .int x1), (2, .int x2), (3, .int x3)], [], hh) _
            refine sp_iload_n (p2 := 1) rfl rfl rfl ?_
            refine sp_bipush (p2 := 3) (x := 12) rfl rfl (by decide) ?_
            refine st_callS rfl rfl rfl (cl_within_T (b := 12) rfl (by omega)) ?_
            show Ev _ _ _ (6, [(0, .ref 16), (1, .int x1), (2, .int x2), (3, .int x3)], [.int 1], hh) _
            refine st_ifc (b := true) rfl (by decide) ?_
            show Ev _ _ _ (12, _, _, _) _
            refine sp_iload_n (p2 := 13) rfl rfl rfl ?_
            refine sp_iconst (p2 := 14) (x := 0) rfl rfl (by decide) ?_
            refine sp_sipush (p2 := 17) (x := 2000) rfl rfl (by decide) ?_
            refine st_callS rfl rfl rfl (cl_between_F (a := 0) (b := 2000) rfl rfl (by omega)) ?_
            show Ev _ _ _ (20, [(0, .ref 16), (1, .int x1), (2, .int x2), (3, .int x3)], [.int 0], hh) _
            refine st_ifc (b := true) rfl (by decide) ?_
            show Ev _ _ _ (38, _, _, _) _
            refine sp_bipush (p2 := 40) (x := (-2)) rfl rfl (by decide) ?_
            exact sp_iret rfl rfl
          refine st_callV (R := 16) rfl rfl rfl hh_0 rfl c1 ?_
          show Ev _ _ _ (7, [(0, .ref 16), (1, .int x1), (2, .int x2), (3, .int x3)], [.int (-2)], hh) _
          refine sp_istore (p2 := 9) (lv2 := [(4, .int (-2)), (0, .ref 16), (1, .int x1), (2, .int x2), (3, .int x3)]) rfl rfl (by decide) rfl ?_
          refine sp_iload (p2 := 11) rfl rfl rfl ?_
          refine sp_aload_n (p2 := 12) rfl rfl rfl ?_
          refine st_get rfl hh_0 rfl ?_
          show Ev _ _ _ (15, _, _, _) _
          refine st_get rfl hh_1 rfl ?_
          show Ev _ _ _ (18, _, _, _) _
          refine st_callS rfl rfl rfl (cl_within_F (n := (-2)) (b := 0) (show Int32.toInt _ = _ from rfl) (by have e9 : Int32.toInt (-2) = (-2) := rfl; omega)) ?_
          show Ev _ _ _ (21, [(4, .int (-2)), (0, .ref 16), (1, .int x1), (2, .int x2), (3, .int x3)], [.int 0], hh) _
          refine st_ifc (b := false) rfl (by decide) ?_
          show Ev _ _ _ (24, _, _, _) _
          refine sp_iload (p2 := 26) rfl rfl rfl ?_
          exact sp_iret rfl rfl
        · refine ca_of (d := 19) (M := mX12_heirs) rfl (Nat.le_of_ble_eq_true rfl) ?_
          show Ev im_K0 19 mX12_heirs (0, [(0, .ref 164), (1, .int x1), (2, .int x2), (3, .int x3)], [], hh) _
          refine sp_aload_n (p2 := 1) rfl rfl rfl ?_
          refine sp_iload_n (p2 := 2) rfl rfl rfl ?_
          refine sp_iload_n (p2 := 3) rfl rfl rfl ?_
          refine sp_iload_n (p2 := 4) rfl rfl rfl ?_
          have c2 : Ca 19 184 [.ref 164, .int x1, .int x2, .int x3] hh (some (.int (-2)), hh) := by
            refine ca_of (d := 18) (M := mX12_owner) rfl (Nat.le_of_ble_eq_true rfl) ?_
            show Ev im_K0 18 mX12_owner (0, [(0, .ref 164), (1, .int x1), (2, .int x2), (3, .int x3)], [], hh) _
            refine sp_iload_n (p2 := 1) rfl rfl rfl ?_
            refine sp_iconst (p2 := 2) (x := 0) rfl rfl (by decide) ?_
            refine sp_bipush (p2 := 4) (x := 11) rfl rfl (by decide) ?_
            refine st_callS rfl rfl rfl (cl_in_T (a := 0) (b := 11) rfl rfl (by omega)) ?_
            show Ev _ _ _ (7, [(0, .ref 164), (1, .int x1), (2, .int x2), (3, .int x3)], [.int 1], hh) _
            refine st_ifc (b := true) rfl (by decide) ?_
            show Ev _ _ _ (13, _, _, _) _
            refine sp_iload_n (p2 := 14) rfl rfl rfl ?_
            refine sp_iconst (p2 := 15) (x := 0) rfl rfl (by decide) ?_
            refine sp_sipush (p2 := 18) (x := 2000) rfl rfl (by decide) ?_
            refine st_callS rfl rfl rfl (cl_in_F (a := 0) (b := 2000) rfl rfl (by omega)) ?_
            show Ev _ _ _ (21, [(0, .ref 164), (1, .int x1), (2, .int x2), (3, .int x3)], [.int 0], hh) _
            refine st_ifc (b := true) rfl (by decide) ?_
            show Ev _ _ _ (39, _, _, _) _
            refine sp_bipush (p2 := 41) (x := (-2)) rfl rfl (by decide) ?_
            exact sp_iret rfl rfl
          refine st_callV (R := 164) rfl rfl rfl hh_148 rfl c2 ?_
          show Ev _ _ _ (7, [(0, .ref 164), (1, .int x1), (2, .int x2), (3, .int x3)], [.int (-2)], hh) _
          refine sp_istore (p2 := 9) (lv2 := [(4, .int (-2)), (0, .ref 164), (1, .int x1), (2, .int x2), (3, .int x3)]) rfl rfl (by decide) rfl ?_
          refine sp_iload (p2 := 11) rfl rfl rfl ?_
          refine st_ifc (b := false) rfl (by decide) ?_
          show Ev _ _ _ (14, _, _, _) _
          refine sp_iload (p2 := 16) rfl rfl rfl ?_
          exact sp_iret rfl rfl
      · by_cases h4 : x2.toInt ≤ 2000
        · by_cases h5 : x3.toInt ≤ (-1)
          · refine ⟨.int (-2), hh, hh, ?_, ?_⟩
            · refine ca_of (d := 19) (M := mX11_heirs) rfl (Nat.le_of_ble_eq_true rfl) ?_
              show Ev im_K0 19 mX11_heirs (0, [(0, .ref 16), (1, .int x1), (2, .int x2), (3, .int x3)], [], hh) _
              refine sp_aload_n (p2 := 1) rfl rfl rfl ?_
              refine sp_iload_n (p2 := 2) rfl rfl rfl ?_
              refine sp_iload_n (p2 := 3) rfl rfl rfl ?_
              refine sp_iload_n (p2 := 4) rfl rfl rfl ?_
              have c1 : Ca 19 98 [.ref 16, .int x1, .int x2, .int x3] hh (some (.int (-2)), hh) := by
                refine ca_of (d := 18) (M := mX11_owner) rfl (Nat.le_of_ble_eq_true rfl) ?_
                show Ev im_K0 18 mX11_owner (0, [(0, .ref 16), (1, .int x1), (2, .int x2), (3, .int x3)], [], hh) _
                refine sp_iload_n (p2 := 1) rfl rfl rfl ?_
                refine sp_bipush (p2 := 3) (x := 12) rfl rfl (by decide) ?_
                refine st_callS rfl rfl rfl (cl_within_T (b := 12) rfl (by omega)) ?_
                show Ev _ _ _ (6, [(0, .ref 16), (1, .int x1), (2, .int x2), (3, .int x3)], [.int 1], hh) _
                refine st_ifc (b := true) rfl (by decide) ?_
                show Ev _ _ _ (12, _, _, _) _
                refine sp_iload_n (p2 := 13) rfl rfl rfl ?_
                refine sp_iconst (p2 := 14) (x := 0) rfl rfl (by decide) ?_
                refine sp_sipush (p2 := 17) (x := 2000) rfl rfl (by decide) ?_
                refine st_callS rfl rfl rfl (cl_between_T (a := 0) (b := 2000) rfl rfl (by omega)) ?_
                show Ev _ _ _ (20, [(0, .ref 16), (1, .int x1), (2, .int x2), (3, .int x3)], [.int 1], hh) _
                refine st_ifc (b := false) rfl (by decide) ?_
                show Ev _ _ _ (23, _, _, _) _
                refine sp_iload_n (p2 := 24) rfl rfl rfl ?_
                refine sp_iconst (p2 := 25) (x := 0) rfl rfl (by decide) ?_
                refine sp_aload_n (p2 := 26) rfl rfl rfl ?_
                refine st_get rfl hh_0 rfl ?_
                show Ev _ _ _ (29, _, _, _) _
                refine st_get rfl hh_23 rfl ?_
                show Ev _ _ _ (32, _, _, _) _
                refine st_callS rfl rfl rfl (cl_between_F (a := 0) (b := 0) rfl rfl (by omega)) ?_
                show Ev _ _ _ (35, [(0, .ref 16), (1, .int x1), (2, .int x2), (3, .int x3)], [.int 0], hh) _
                refine st_ifc (b := false) rfl (by decide) ?_
                show Ev _ _ _ (38, _, _, _) _
                refine sp_bipush (p2 := 40) (x := (-2)) rfl rfl (by decide) ?_
                exact sp_iret rfl rfl
              refine st_callV (R := 16) rfl rfl rfl hh_0 rfl c1 ?_
              show Ev _ _ _ (7, [(0, .ref 16), (1, .int x1), (2, .int x2), (3, .int x3)], [.int (-2)], hh) _
              refine sp_istore (p2 := 9) (lv2 := [(4, .int (-2)), (0, .ref 16), (1, .int x1), (2, .int x2), (3, .int x3)]) rfl rfl (by decide) rfl ?_
              refine sp_iload (p2 := 11) rfl rfl rfl ?_
              refine sp_aload_n (p2 := 12) rfl rfl rfl ?_
              refine st_get rfl hh_0 rfl ?_
              show Ev _ _ _ (15, _, _, _) _
              refine st_get rfl hh_1 rfl ?_
              show Ev _ _ _ (18, _, _, _) _
              refine st_callS rfl rfl rfl (cl_within_F (n := (-2)) (b := 0) (show Int32.toInt _ = _ from rfl) (by have e9 : Int32.toInt (-2) = (-2) := rfl; omega)) ?_
              show Ev _ _ _ (21, [(4, .int (-2)), (0, .ref 16), (1, .int x1), (2, .int x2), (3, .int x3)], [.int 0], hh) _
              refine st_ifc (b := false) rfl (by decide) ?_
              show Ev _ _ _ (24, _, _, _) _
              refine sp_iload (p2 := 26) rfl rfl rfl ?_
              exact sp_iret rfl rfl
            · refine ca_of (d := 19) (M := mX12_heirs) rfl (Nat.le_of_ble_eq_true rfl) ?_
              show Ev im_K0 19 mX12_heirs (0, [(0, .ref 164), (1, .int x1), (2, .int x2), (3, .int x3)], [], hh) _
              refine sp_aload_n (p2 := 1) rfl rfl rfl ?_
              refine sp_iload_n (p2 := 2) rfl rfl rfl ?_
              refine sp_iload_n (p2 := 3) rfl rfl rfl ?_
              refine sp_iload_n (p2 := 4) rfl rfl rfl ?_
              have c2 : Ca 19 184 [.ref 164, .int x1, .int x2, .int x3] hh (some (.int (-2)), hh) := by
                refine ca_of (d := 18) (M := mX12_owner) rfl (Nat.le_of_ble_eq_true rfl) ?_
                show Ev im_K0 18 mX12_owner (0, [(0, .ref 164), (1, .int x1), (2, .int x2), (3, .int x3)], [], hh) _
                refine sp_iload_n (p2 := 1) rfl rfl rfl ?_
                refine sp_iconst (p2 := 2) (x := 0) rfl rfl (by decide) ?_
                refine sp_bipush (p2 := 4) (x := 11) rfl rfl (by decide) ?_
                refine st_callS rfl rfl rfl (cl_in_T (a := 0) (b := 11) rfl rfl (by omega)) ?_
                show Ev _ _ _ (7, [(0, .ref 164), (1, .int x1), (2, .int x2), (3, .int x3)], [.int 1], hh) _
                refine st_ifc (b := true) rfl (by decide) ?_
                show Ev _ _ _ (13, _, _, _) _
                refine sp_iload_n (p2 := 14) rfl rfl rfl ?_
                refine sp_iconst (p2 := 15) (x := 0) rfl rfl (by decide) ?_
                refine sp_sipush (p2 := 18) (x := 2000) rfl rfl (by decide) ?_
                refine st_callS rfl rfl rfl (cl_in_T (a := 0) (b := 2000) rfl rfl (by omega)) ?_
                show Ev _ _ _ (21, [(0, .ref 164), (1, .int x1), (2, .int x2), (3, .int x3)], [.int 1], hh) _
                refine st_ifc (b := false) rfl (by decide) ?_
                show Ev _ _ _ (24, _, _, _) _
                refine sp_iload_n (p2 := 25) rfl rfl rfl ?_
                refine sp_iconst (p2 := 26) (x := 0) rfl rfl (by decide) ?_
                refine sp_aload_n (p2 := 27) rfl rfl rfl ?_
                refine st_get rfl hh_148 rfl ?_
                show Ev _ _ _ (30, _, _, _) _
                refine sp_bipush (p2 := 32) (x := 105) rfl rfl (by decide) ?_
                refine st_iald (x := 0) rfl (by decide) hh_149 rfl rfl ?_
                show Ev _ _ _ (33, _, _, _) _
                refine st_callS rfl rfl rfl (cl_in_F (a := 0) (b := 0) rfl rfl (by omega)) ?_
                show Ev _ _ _ (36, [(0, .ref 164), (1, .int x1), (2, .int x2), (3, .int x3)], [.int 0], hh) _
                refine st_ifc (b := false) rfl (by decide) ?_
                show Ev _ _ _ (39, _, _, _) _
                refine sp_bipush (p2 := 41) (x := (-2)) rfl rfl (by decide) ?_
                exact sp_iret rfl rfl
              refine st_callV (R := 164) rfl rfl rfl hh_148 rfl c2 ?_
              show Ev _ _ _ (7, [(0, .ref 164), (1, .int x1), (2, .int x2), (3, .int x3)], [.int (-2)], hh) _
              refine sp_istore (p2 := 9) (lv2 := [(4, .int (-2)), (0, .ref 164), (1, .int x1), (2, .int x2), (3, .int x3)]) rfl rfl (by decide) rfl ?_
              refine sp_iload (p2 := 11) rfl rfl rfl ?_
              refine st_ifc (b := false) rfl (by decide) ?_
              show Ev _ _ _ (14, _, _, _) _
              refine sp_iload (p2 := 16) rfl rfl rfl ?_
              exact sp_iret rfl rfl
          · by_cases h6 : x3.toInt ≤ 0
            · obtain rfl : x3 = 0 := i32_ext (by have e9 : Int32.toInt 0 = 0 := rfl; omega)
              refine ⟨.int (-1), hh, hh, ?_, ?_⟩
              · refine ca_of (d := 19) (M := mX11_heirs) rfl (Nat.le_of_ble_eq_true rfl) ?_
                show Ev im_K0 19 mX11_heirs (0, [(0, .ref 16), (1, .int x1), (2, .int x2), (3, .int 0)], [], hh) _
                refine sp_aload_n (p2 := 1) rfl rfl rfl ?_
                refine sp_iload_n (p2 := 2) rfl rfl rfl ?_
                refine sp_iload_n (p2 := 3) rfl rfl rfl ?_
                refine sp_iload_n (p2 := 4) rfl rfl rfl ?_
                have c1 : Ca 19 98 [.ref 16, .int x1, .int x2, .int 0] hh (some (.int (-1)), hh) := by
                  refine ca_of (d := 18) (M := mX11_owner) rfl (Nat.le_of_ble_eq_true rfl) ?_
                  show Ev im_K0 18 mX11_owner (0, [(0, .ref 16), (1, .int x1), (2, .int x2), (3, .int 0)], [], hh) _
                  refine sp_iload_n (p2 := 1) rfl rfl rfl ?_
                  refine sp_bipush (p2 := 3) (x := 12) rfl rfl (by decide) ?_
                  refine st_callS rfl rfl rfl (cl_within_T (b := 12) rfl (by omega)) ?_
                  show Ev _ _ _ (6, [(0, .ref 16), (1, .int x1), (2, .int x2), (3, .int 0)], [.int 1], hh) _
                  refine st_ifc (b := true) rfl (by decide) ?_
                  show Ev _ _ _ (12, _, _, _) _
                  refine sp_iload_n (p2 := 13) rfl rfl rfl ?_
                  refine sp_iconst (p2 := 14) (x := 0) rfl rfl (by decide) ?_
                  refine sp_sipush (p2 := 17) (x := 2000) rfl rfl (by decide) ?_
                  refine st_callS rfl rfl rfl (cl_between_T (a := 0) (b := 2000) rfl rfl (by omega)) ?_
                  show Ev _ _ _ (20, [(0, .ref 16), (1, .int x1), (2, .int x2), (3, .int 0)], [.int 1], hh) _
                  refine st_ifc (b := false) rfl (by decide) ?_
                  show Ev _ _ _ (23, _, _, _) _
                  refine sp_iload_n (p2 := 24) rfl rfl rfl ?_
                  refine sp_iconst (p2 := 25) (x := 0) rfl rfl (by decide) ?_
                  refine sp_aload_n (p2 := 26) rfl rfl rfl ?_
                  refine st_get rfl hh_0 rfl ?_
                  show Ev _ _ _ (29, _, _, _) _
                  refine st_get rfl hh_23 rfl ?_
                  show Ev _ _ _ (32, _, _, _) _
                  refine st_callS rfl rfl rfl (cl_between_T (n := 0) (a := 0) (b := 0) (show Int32.toInt _ = _ from rfl) (show Int32.toInt _ = _ from rfl) (by have e9 : Int32.toInt 0 = 0 := rfl; omega)) ?_
                  show Ev _ _ _ (35, [(0, .ref 16), (1, .int x1), (2, .int x2), (3, .int 0)], [.int 1], hh) _
                  refine st_ifc (b := true) rfl (by decide) ?_
                  show Ev _ _ _ (41, _, _, _) _
                  refine sp_aload_n (p2 := 42) rfl rfl rfl ?_
                  refine st_get rfl hh_0 rfl ?_
                  show Ev _ _ _ (45, _, _, _) _
                  refine sp_iload_n (p2 := 46) rfl rfl rfl ?_
                  refine sp_iload_n (p2 := 47) rfl rfl rfl ?_
                  refine sp_iload_n (p2 := 48) rfl rfl rfl ?_
                  have c2 : Ca 18 20 [.ref 107, .int x1, .int x2, .int 0] hh (some (.int (-1)), hh) := by
                    refine ca_of (d := 17) (M := mX2_ownerOf) rfl (Nat.le_of_ble_eq_true rfl) ?_
                    show Ev im_K0 17 mX2_ownerOf (0, [(0, .ref 107), (1, .int x1), (2, .int x2), (3, .int 0)], [], hh) _
                    refine sp_iconst (p2 := 1) (x := (-1)) rfl rfl (by decide) ?_
                    refine sp_istore (p2 := 3) (lv2 := [(4, .int (-1)), (0, .ref 107), (1, .int x1), (2, .int x2), (3, .int 0)]) rfl rfl (by decide) rfl ?_
                    refine sp_iconst (p2 := 4) (x := 0) rfl rfl (by decide) ?_
                    refine sp_istore (p2 := 6) (lv2 := [(5, .int 0), (4, .int (-1)), (0, .ref 107), (1, .int x1), (2, .int x2), (3, .int 0)]) rfl rfl (by decide) rfl ?_
                    refine sp_iload (p2 := 8) rfl rfl rfl ?_
                    refine sp_aload_n (p2 := 9) rfl rfl rfl ?_
                    refine st_get rfl hh_91 rfl ?_
                    show Ev _ _ _ (12, _, _, _) _
                    refine st_icmp (b := true) rfl (by decide) ?_
                    show Ev _ _ _ (92, _, _, _) _
                    refine sp_iload (p2 := 94) rfl rfl rfl ?_
                    refine sp_iconst (p2 := 95) (x := (-1)) rfl rfl (by decide) ?_
                    refine st_icmp (b := false) rfl (by decide) ?_
                    show Ev _ _ _ (98, _, _, _) _
                    refine sp_iconst (p2 := 99) (x := (-1)) rfl rfl (by decide) ?_
                    refine sp_goto rfl ?_
                    exact sp_iret rfl rfl
                  refine st_callV (R := 107) rfl rfl rfl hh_91 rfl c2 ?_
                  show Ev _ _ _ (51, [(0, .ref 16), (1, .int x1), (2, .int x2), (3, .int 0)], [.int (-1)], hh) _
                  exact sp_iret rfl rfl
                refine st_callV (R := 16) rfl rfl rfl hh_0 rfl c1 ?_
                show Ev _ _ _ (7, [(0, .ref 16), (1, .int x1), (2, .int x2), (3, .int 0)], [.int (-1)], hh) _
                refine sp_istore (p2 := 9) (lv2 := [(4, .int (-1)), (0, .ref 16), (1, .int x1), (2, .int x2), (3, .int 0)]) rfl rfl (by decide) rfl ?_
                refine sp_iload (p2 := 11) rfl rfl rfl ?_
                refine sp_aload_n (p2 := 12) rfl rfl rfl ?_
                refine st_get rfl hh_0 rfl ?_
                show Ev _ _ _ (15, _, _, _) _
                refine st_get rfl hh_1 rfl ?_
                show Ev _ _ _ (18, _, _, _) _
                refine st_callS rfl rfl rfl (cl_within_F (n := (-1)) (b := 0) (show Int32.toInt _ = _ from rfl) (by have e9 : Int32.toInt (-1) = (-1) := rfl; omega)) ?_
                show Ev _ _ _ (21, [(4, .int (-1)), (0, .ref 16), (1, .int x1), (2, .int x2), (3, .int 0)], [.int 0], hh) _
                refine st_ifc (b := false) rfl (by decide) ?_
                show Ev _ _ _ (24, _, _, _) _
                refine sp_iload (p2 := 26) rfl rfl rfl ?_
                exact sp_iret rfl rfl
              · refine ca_of (d := 19) (M := mX12_heirs) rfl (Nat.le_of_ble_eq_true rfl) ?_
                show Ev im_K0 19 mX12_heirs (0, [(0, .ref 164), (1, .int x1), (2, .int x2), (3, .int 0)], [], hh) _
                refine sp_aload_n (p2 := 1) rfl rfl rfl ?_
                refine sp_iload_n (p2 := 2) rfl rfl rfl ?_
                refine sp_iload_n (p2 := 3) rfl rfl rfl ?_
                refine sp_iload_n (p2 := 4) rfl rfl rfl ?_
                have c3 : Ca 19 184 [.ref 164, .int x1, .int x2, .int 0] hh (some (.int (-1)), hh) := by
                  refine ca_of (d := 18) (M := mX12_owner) rfl (Nat.le_of_ble_eq_true rfl) ?_
                  show Ev im_K0 18 mX12_owner (0, [(0, .ref 164), (1, .int x1), (2, .int x2), (3, .int 0)], [], hh) _
                  refine sp_iload_n (p2 := 1) rfl rfl rfl ?_
                  refine sp_iconst (p2 := 2) (x := 0) rfl rfl (by decide) ?_
                  refine sp_bipush (p2 := 4) (x := 11) rfl rfl (by decide) ?_
                  refine st_callS rfl rfl rfl (cl_in_T (a := 0) (b := 11) rfl rfl (by omega)) ?_
                  show Ev _ _ _ (7, [(0, .ref 164), (1, .int x1), (2, .int x2), (3, .int 0)], [.int 1], hh) _
                  refine st_ifc (b := true) rfl (by decide) ?_
                  show Ev _ _ _ (13, _, _, _) _
                  refine sp_iload_n (p2 := 14) rfl rfl rfl ?_
                  refine sp_iconst (p2 := 15) (x := 0) rfl rfl (by decide) ?_
                  refine sp_sipush (p2 := 18) (x := 2000) rfl rfl (by decide) ?_
                  refine st_callS rfl rfl rfl (cl_in_T (a := 0) (b := 2000) rfl rfl (by omega)) ?_
                  show Ev _ _ _ (21, [(0, .ref 164), (1, .int x1), (2, .int x2), (3, .int 0)], [.int 1], hh) _
                  refine st_ifc (b := false) rfl (by decide) ?_
                  show Ev _ _ _ (24, _, _, _) _
                  refine sp_iload_n (p2 := 25) rfl rfl rfl ?_
                  refine sp_iconst (p2 := 26) (x := 0) rfl rfl (by decide) ?_
                  refine sp_aload_n (p2 := 27) rfl rfl rfl ?_
                  refine st_get rfl hh_148 rfl ?_
                  show Ev _ _ _ (30, _, _, _) _
                  refine sp_bipush (p2 := 32) (x := 105) rfl rfl (by decide) ?_
                  refine st_iald (x := 0) rfl (by decide) hh_149 rfl rfl ?_
                  show Ev _ _ _ (33, _, _, _) _
                  refine st_callS rfl rfl rfl (cl_in_T (n := 0) (a := 0) (b := 0) (show Int32.toInt _ = _ from rfl) (show Int32.toInt _ = _ from rfl) (by have e9 : Int32.toInt 0 = 0 := rfl; omega)) ?_
                  show Ev _ _ _ (36, [(0, .ref 164), (1, .int x1), (2, .int x2), (3, .int 0)], [.int 1], hh) _
                  refine st_ifc (b := true) rfl (by decide) ?_
                  show Ev _ _ _ (42, _, _, _) _
                  refine sp_iconst (p2 := 43) (x := (-1)) rfl rfl (by decide) ?_
                  refine sp_istore (p2 := 45) (lv2 := [(4, .int (-1)), (0, .ref 164), (1, .int x1), (2, .int x2), (3, .int 0)]) rfl rfl (by decide) rfl ?_
                  refine sp_iconst (p2 := 46) (x := 0) rfl rfl (by decide) ?_
                  refine sp_istore (p2 := 48) (lv2 := [(5, .int 0), (4, .int (-1)), (0, .ref 164), (1, .int x1), (2, .int x2), (3, .int 0)]) rfl rfl (by decide) rfl ?_
                  refine sp_iload (p2 := 50) rfl rfl rfl ?_
                  refine sp_aload_n (p2 := 51) rfl rfl rfl ?_
                  refine st_get rfl hh_148 rfl ?_
                  show Ev _ _ _ (54, _, _, _) _
                  refine st_icmp (b := true) rfl (by decide) ?_
                  show Ev _ _ _ (162, _, _, _) _
                  refine sp_iload (p2 := 164) rfl rfl rfl ?_
                  refine sp_iconst (p2 := 165) (x := (-1)) rfl rfl (by decide) ?_
                  refine st_icmp (b := false) rfl (by decide) ?_
                  show Ev _ _ _ (168, _, _, _) _
                  refine sp_iconst (p2 := 169) (x := (-1)) rfl rfl (by decide) ?_
                  refine sp_goto rfl ?_
                  exact sp_iret rfl rfl
                refine st_callV (R := 164) rfl rfl rfl hh_148 rfl c3 ?_
                show Ev _ _ _ (7, [(0, .ref 164), (1, .int x1), (2, .int x2), (3, .int 0)], [.int (-1)], hh) _
                refine sp_istore (p2 := 9) (lv2 := [(4, .int (-1)), (0, .ref 164), (1, .int x1), (2, .int x2), (3, .int 0)]) rfl rfl (by decide) rfl ?_
                refine sp_iload (p2 := 11) rfl rfl rfl ?_
                refine st_ifc (b := false) rfl (by decide) ?_
                show Ev _ _ _ (14, _, _, _) _
                refine sp_iload (p2 := 16) rfl rfl rfl ?_
                exact sp_iret rfl rfl
            · refine ⟨.int (-2), hh, hh, ?_, ?_⟩
              · refine ca_of (d := 19) (M := mX11_heirs) rfl (Nat.le_of_ble_eq_true rfl) ?_
                show Ev im_K0 19 mX11_heirs (0, [(0, .ref 16), (1, .int x1), (2, .int x2), (3, .int x3)], [], hh) _
                refine sp_aload_n (p2 := 1) rfl rfl rfl ?_
                refine sp_iload_n (p2 := 2) rfl rfl rfl ?_
                refine sp_iload_n (p2 := 3) rfl rfl rfl ?_
                refine sp_iload_n (p2 := 4) rfl rfl rfl ?_
                have c1 : Ca 19 98 [.ref 16, .int x1, .int x2, .int x3] hh (some (.int (-2)), hh) := by
                  refine ca_of (d := 18) (M := mX11_owner) rfl (Nat.le_of_ble_eq_true rfl) ?_
                  show Ev im_K0 18 mX11_owner (0, [(0, .ref 16), (1, .int x1), (2, .int x2), (3, .int x3)], [], hh) _
                  refine sp_iload_n (p2 := 1) rfl rfl rfl ?_
                  refine sp_bipush (p2 := 3) (x := 12) rfl rfl (by decide) ?_
                  refine st_callS rfl rfl rfl (cl_within_T (b := 12) rfl (by omega)) ?_
                  show Ev _ _ _ (6, [(0, .ref 16), (1, .int x1), (2, .int x2), (3, .int x3)], [.int 1], hh) _
                  refine st_ifc (b := true) rfl (by decide) ?_
                  show Ev _ _ _ (12, _, _, _) _
                  refine sp_iload_n (p2 := 13) rfl rfl rfl ?_
                  refine sp_iconst (p2 := 14) (x := 0) rfl rfl (by decide) ?_
                  refine sp_sipush (p2 := 17) (x := 2000) rfl rfl (by decide) ?_
                  refine st_callS rfl rfl rfl (cl_between_T (a := 0) (b := 2000) rfl rfl (by omega)) ?_
                  show Ev _ _ _ (20, [(0, .ref 16), (1, .int x1), (2, .int x2), (3, .int x3)], [.int 1], hh) _
                  refine st_ifc (b := false) rfl (by decide) ?_
                  show Ev _ _ _ (23, _, _, _) _
                  refine sp_iload_n (p2 := 24) rfl rfl rfl ?_
                  refine sp_iconst (p2 := 25) (x := 0) rfl rfl (by decide) ?_
                  refine sp_aload_n (p2 := 26) rfl rfl rfl ?_
                  refine st_get rfl hh_0 rfl ?_
                  show Ev _ _ _ (29, _, _, _) _
                  refine st_get rfl hh_23 rfl ?_
                  show Ev _ _ _ (32, _, _, _) _
                  refine st_callS rfl rfl rfl (cl_between_F (a := 0) (b := 0) rfl rfl (by omega)) ?_
                  show Ev _ _ _ (35, [(0, .ref 16), (1, .int x1), (2, .int x2), (3, .int x3)], [.int 0], hh) _
                  refine st_ifc (b := false) rfl (by decide) ?_
                  show Ev _ _ _ (38, _, _, _) _
                  refine sp_bipush (p2 := 40) (x := (-2)) rfl rfl (by decide) ?_
                  exact sp_iret rfl rfl
                refine st_callV (R := 16) rfl rfl rfl hh_0 rfl c1 ?_
                show Ev _ _ _ (7, [(0, .ref 16), (1, .int x1), (2, .int x2), (3, .int x3)], [.int (-2)], hh) _
                refine sp_istore (p2 := 9) (lv2 := [(4, .int (-2)), (0, .ref 16), (1, .int x1), (2, .int x2), (3, .int x3)]) rfl rfl (by decide) rfl ?_
                refine sp_iload (p2 := 11) rfl rfl rfl ?_
                refine sp_aload_n (p2 := 12) rfl rfl rfl ?_
                refine st_get rfl hh_0 rfl ?_
                show Ev _ _ _ (15, _, _, _) _
                refine st_get rfl hh_1 rfl ?_
                show Ev _ _ _ (18, _, _, _) _
                refine st_callS rfl rfl rfl (cl_within_F (n := (-2)) (b := 0) (show Int32.toInt _ = _ from rfl) (by have e9 : Int32.toInt (-2) = (-2) := rfl; omega)) ?_
                show Ev _ _ _ (21, [(4, .int (-2)), (0, .ref 16), (1, .int x1), (2, .int x2), (3, .int x3)], [.int 0], hh) _
                refine st_ifc (b := false) rfl (by decide) ?_
                show Ev _ _ _ (24, _, _, _) _
                refine sp_iload (p2 := 26) rfl rfl rfl ?_
                exact sp_iret rfl rfl
              · refine ca_of (d := 19) (M := mX12_heirs) rfl (Nat.le_of_ble_eq_true rfl) ?_
                show Ev im_K0 19 mX12_heirs (0, [(0, .ref 164), (1, .int x1), (2, .int x2), (3, .int x3)], [], hh) _
                refine sp_aload_n (p2 := 1) rfl rfl rfl ?_
                refine sp_iload_n (p2 := 2) rfl rfl rfl ?_
                refine sp_iload_n (p2 := 3) rfl rfl rfl ?_
                refine sp_iload_n (p2 := 4) rfl rfl rfl ?_
                have c2 : Ca 19 184 [.ref 164, .int x1, .int x2, .int x3] hh (some (.int (-2)), hh) := by
                  refine ca_of (d := 18) (M := mX12_owner) rfl (Nat.le_of_ble_eq_true rfl) ?_
                  show Ev im_K0 18 mX12_owner (0, [(0, .ref 164), (1, .int x1), (2, .int x2), (3, .int x3)], [], hh) _
                  refine sp_iload_n (p2 := 1) rfl rfl rfl ?_
                  refine sp_iconst (p2 := 2) (x := 0) rfl rfl (by decide) ?_
                  refine sp_bipush (p2 := 4) (x := 11) rfl rfl (by decide) ?_
                  refine st_callS rfl rfl rfl (cl_in_T (a := 0) (b := 11) rfl rfl (by omega)) ?_
                  show Ev _ _ _ (7, [(0, .ref 164), (1, .int x1), (2, .int x2), (3, .int x3)], [.int 1], hh) _
                  refine st_ifc (b := true) rfl (by decide) ?_
                  show Ev _ _ _ (13, _, _, _) _
                  refine sp_iload_n (p2 := 14) rfl rfl rfl ?_
                  refine sp_iconst (p2 := 15) (x := 0) rfl rfl (by decide) ?_
                  refine sp_sipush (p2 := 18) (x := 2000) rfl rfl (by decide) ?_
                  refine st_callS rfl rfl rfl (cl_in_T (a := 0) (b := 2000) rfl rfl (by omega)) ?_
                  show Ev _ _ _ (21, [(0, .ref 164), (1, .int x1), (2, .int x2), (3, .int x3)], [.int 1], hh) _
                  refine st_ifc (b := false) rfl (by decide) ?_
                  show Ev _ _ _ (24, _, _, _) _
                  refine sp_iload_n (p2 := 25) rfl rfl rfl ?_
                  refine sp_iconst (p2 := 26) (x := 0) rfl rfl (by decide) ?_
                  refine sp_aload_n (p2 := 27) rfl rfl rfl ?_
                  refine st_get rfl hh_148 rfl ?_
                  show Ev _ _ _ (30, _, _, _) _
                  refine sp_bipush (p2 := 32) (x := 105) rfl rfl (by decide) ?_
                  refine st_iald (x := 0) rfl (by decide) hh_149 rfl rfl ?_
                  show Ev _ _ _ (33, _, _, _) _
                  refine st_callS rfl rfl rfl (cl_in_F (a := 0) (b := 0) rfl rfl (by omega)) ?_
                  show Ev _ _ _ (36, [(0, .ref 164), (1, .int x1), (2, .int x2), (3, .int x3)], [.int 0], hh) _
                  refine st_ifc (b := false) rfl (by decide) ?_
                  show Ev _ _ _ (39, _, _, _) _
                  refine sp_bipush (p2 := 41) (x := (-2)) rfl rfl (by decide) ?_
                  exact sp_iret rfl rfl
                refine st_callV (R := 164) rfl rfl rfl hh_148 rfl c2 ?_
                show Ev _ _ _ (7, [(0, .ref 164), (1, .int x1), (2, .int x2), (3, .int x3)], [.int (-2)], hh) _
                refine sp_istore (p2 := 9) (lv2 := [(4, .int (-2)), (0, .ref 164), (1, .int x1), (2, .int x2), (3, .int x3)]) rfl rfl (by decide) rfl ?_
                refine sp_iload (p2 := 11) rfl rfl rfl ?_
                refine st_ifc (b := false) rfl (by decide) ?_
                show Ev _ _ _ (14, _, _, _) _
                refine sp_iload (p2 := 16) rfl rfl rfl ?_
                exact sp_iret rfl rfl
        · refine ⟨.int (-2), hh, hh, ?_, ?_⟩
          · refine ca_of (d := 19) (M := mX11_heirs) rfl (Nat.le_of_ble_eq_true rfl) ?_
            show Ev im_K0 19 mX11_heirs (0, [(0, .ref 16), (1, .int x1), (2, .int x2), (3, .int x3)], [], hh) _
            refine sp_aload_n (p2 := 1) rfl rfl rfl ?_
            refine sp_iload_n (p2 := 2) rfl rfl rfl ?_
            refine sp_iload_n (p2 := 3) rfl rfl rfl ?_
            refine sp_iload_n (p2 := 4) rfl rfl rfl ?_
            have c1 : Ca 19 98 [.ref 16, .int x1, .int x2, .int x3] hh (some (.int (-2)), hh) := by
              refine ca_of (d := 18) (M := mX11_owner) rfl (Nat.le_of_ble_eq_true rfl) ?_
              show Ev im_K0 18 mX11_owner (0, [(0, .ref 16), (1, .int x1), (2, .int x2), (3, .int x3)], [], hh) _
              refine sp_iload_n (p2 := 1) rfl rfl rfl ?_
              refine sp_bipush (p2 := 3) (x := 12) rfl rfl (by decide) ?_
              refine st_callS rfl rfl rfl (cl_within_T (b := 12) rfl (by omega)) ?_
              show Ev _ _ _ (6, [(0, .ref 16), (1, .int x1), (2, .int x2), (3, .int x3)], [.int 1], hh) _
              refine st_ifc (b := true) rfl (by decide) ?_
              show Ev _ _ _ (12, _, _, _) _
              refine sp_iload_n (p2 := 13) rfl rfl rfl ?_
              refine sp_iconst (p2 := 14) (x := 0) rfl rfl (by decide) ?_
              refine sp_sipush (p2 := 17) (x := 2000) rfl rfl (by decide) ?_
              refine st_callS rfl rfl rfl (cl_between_F (a := 0) (b := 2000) rfl rfl (by omega)) ?_
              show Ev _ _ _ (20, [(0, .ref 16), (1, .int x1), (2, .int x2), (3, .int x3)], [.int 0], hh) _
              refine st_ifc (b := true) rfl (by decide) ?_
              show Ev _ _ _ (38, _, _, _) _
              refine sp_bipush (p2 := 40) (x := (-2)) rfl rfl (by decide) ?_
              exact sp_iret rfl rfl
            refine st_callV (R := 16) rfl rfl rfl hh_0 rfl c1 ?_
            show Ev _ _ _ (7, [(0, .ref 16), (1, .int x1), (2, .int x2), (3, .int x3)], [.int (-2)], hh) _
            refine sp_istore (p2 := 9) (lv2 := [(4, .int (-2)), (0, .ref 16), (1, .int x1), (2, .int x2), (3, .int x3)]) rfl rfl (by decide) rfl ?_
            refine sp_iload (p2 := 11) rfl rfl rfl ?_
            refine sp_aload_n (p2 := 12) rfl rfl rfl ?_
            refine st_get rfl hh_0 rfl ?_
            show Ev _ _ _ (15, _, _, _) _
            refine st_get rfl hh_1 rfl ?_
            show Ev _ _ _ (18, _, _, _) _
            refine st_callS rfl rfl rfl (cl_within_F (n := (-2)) (b := 0) (show Int32.toInt _ = _ from rfl) (by have e9 : Int32.toInt (-2) = (-2) := rfl; omega)) ?_
            show Ev _ _ _ (21, [(4, .int (-2)), (0, .ref 16), (1, .int x1), (2, .int x2), (3, .int x3)], [.int 0], hh) _
            refine st_ifc (b := false) rfl (by decide) ?_
            show Ev _ _ _ (24, _, _, _) _
            refine sp_iload (p2 := 26) rfl rfl rfl ?_
            exact sp_iret rfl rfl
          · refine ca_of (d := 19) (M := mX12_heirs) rfl (Nat.le_of_ble_eq_true rfl) ?_
            show Ev im_K0 19 mX12_heirs (0, [(0, .ref 164), (1, .int x1), (2, .int x2), (3, .int x3)], [], hh) _
            refine sp_aload_n (p2 := 1) rfl rfl rfl ?_
            refine sp_iload_n (p2 := 2) rfl rfl rfl ?_
            refine sp_iload_n (p2 := 3) rfl rfl rfl ?_
            refine sp_iload_n (p2 := 4) rfl rfl rfl ?_
            have c2 : Ca 19 184 [.ref 164, .int x1, .int x2, .int x3] hh (some (.int (-2)), hh) := by
              refine ca_of (d := 18) (M := mX12_owner) rfl (Nat.le_of_ble_eq_true rfl) ?_
              show Ev im_K0 18 mX12_owner (0, [(0, .ref 164), (1, .int x1), (2, .int x2), (3, .int x3)], [], hh) _
              refine sp_iload_n (p2 := 1) rfl rfl rfl ?_
              refine sp_iconst (p2 := 2) (x := 0) rfl rfl (by decide) ?_
              refine sp_bipush (p2 := 4) (x := 11) rfl rfl (by decide) ?_
              refine st_callS rfl rfl rfl (cl_in_T (a := 0) (b := 11) rfl rfl (by omega)) ?_
              show Ev _ _ _ (7, [(0, .ref 164), (1, .int x1), (2, .int x2), (3, .int x3)], [.int 1], hh) _
              refine st_ifc (b := true) rfl (by decide) ?_
              show Ev _ _ _ (13, _, _, _) _
              refine sp_iload_n (p2 := 14) rfl rfl rfl ?_
              refine sp_iconst (p2 := 15) (x := 0) rfl rfl (by decide) ?_
              refine sp_sipush (p2 := 18) (x := 2000) rfl rfl (by decide) ?_
              refine st_callS rfl rfl rfl (cl_in_F (a := 0) (b := 2000) rfl rfl (by omega)) ?_
              show Ev _ _ _ (21, [(0, .ref 164), (1, .int x1), (2, .int x2), (3, .int x3)], [.int 0], hh) _
              refine st_ifc (b := true) rfl (by decide) ?_
              show Ev _ _ _ (39, _, _, _) _
              refine sp_bipush (p2 := 41) (x := (-2)) rfl rfl (by decide) ?_
              exact sp_iret rfl rfl
            refine st_callV (R := 164) rfl rfl rfl hh_148 rfl c2 ?_
            show Ev _ _ _ (7, [(0, .ref 164), (1, .int x1), (2, .int x2), (3, .int x3)], [.int (-2)], hh) _
            refine sp_istore (p2 := 9) (lv2 := [(4, .int (-2)), (0, .ref 164), (1, .int x1), (2, .int x2), (3, .int x3)]) rfl rfl (by decide) rfl ?_
            refine sp_iload (p2 := 11) rfl rfl rfl ?_
            refine st_ifc (b := false) rfl (by decide) ?_
            show Ev _ _ _ (14, _, _, _) _
            refine sp_iload (p2 := 16) rfl rfl rfl ?_
            exact sp_iret rfl rfl
    · refine ⟨.int (-5), hh, hh, ?_, ?_⟩
      · refine ca_of (d := 19) (M := mX11_heirs) rfl (Nat.le_of_ble_eq_true rfl) ?_
        show Ev im_K0 19 mX11_heirs (0, [(0, .ref 16), (1, .int x1), (2, .int x2), (3, .int x3)], [], hh) _
        refine sp_aload_n (p2 := 1) rfl rfl rfl ?_
        refine sp_iload_n (p2 := 2) rfl rfl rfl ?_
        refine sp_iload_n (p2 := 3) rfl rfl rfl ?_
        refine sp_iload_n (p2 := 4) rfl rfl rfl ?_
        have c1 : Ca 19 98 [.ref 16, .int x1, .int x2, .int x3] hh (some (.int (-5)), hh) := by
          refine ca_of (d := 18) (M := mX11_owner) rfl (Nat.le_of_ble_eq_true rfl) ?_
          show Ev im_K0 18 mX11_owner (0, [(0, .ref 16), (1, .int x1), (2, .int x2), (3, .int x3)], [], hh) _
          refine sp_iload_n (p2 := 1) rfl rfl rfl ?_
          refine sp_bipush (p2 := 3) (x := 12) rfl rfl (by decide) ?_
          refine st_callS rfl rfl rfl (cl_within_F (b := 12) rfl (by omega)) ?_
          show Ev _ _ _ (6, [(0, .ref 16), (1, .int x1), (2, .int x2), (3, .int x3)], [.int 0], hh) _
          refine st_ifc (b := false) rfl (by decide) ?_
          show Ev _ _ _ (9, _, _, _) _
          refine sp_bipush (p2 := 11) (x := (-5)) rfl rfl (by decide) ?_
          exact sp_iret rfl rfl
        refine st_callV (R := 16) rfl rfl rfl hh_0 rfl c1 ?_
        show Ev _ _ _ (7, [(0, .ref 16), (1, .int x1), (2, .int x2), (3, .int x3)], [.int (-5)], hh) _
        refine sp_istore (p2 := 9) (lv2 := [(4, .int (-5)), (0, .ref 16), (1, .int x1), (2, .int x2), (3, .int x3)]) rfl rfl (by decide) rfl ?_
        refine sp_iload (p2 := 11) rfl rfl rfl ?_
        refine sp_aload_n (p2 := 12) rfl rfl rfl ?_
        refine st_get rfl hh_0 rfl ?_
        show Ev _ _ _ (15, _, _, _) _
        refine st_get rfl hh_1 rfl ?_
        show Ev _ _ _ (18, _, _, _) _
        refine st_callS rfl rfl rfl (cl_within_F (n := (-5)) (b := 0) (show Int32.toInt _ = _ from rfl) (by have e9 : Int32.toInt (-5) = (-5) := rfl; omega)) ?_
        show Ev _ _ _ (21, [(4, .int (-5)), (0, .ref 16), (1, .int x1), (2, .int x2), (3, .int x3)], [.int 0], hh) _
        refine st_ifc (b := false) rfl (by decide) ?_
        show Ev _ _ _ (24, _, _, _) _
        refine sp_iload (p2 := 26) rfl rfl rfl ?_
        exact sp_iret rfl rfl
      · refine ca_of (d := 19) (M := mX12_heirs) rfl (Nat.le_of_ble_eq_true rfl) ?_
        show Ev im_K0 19 mX12_heirs (0, [(0, .ref 164), (1, .int x1), (2, .int x2), (3, .int x3)], [], hh) _
        refine sp_aload_n (p2 := 1) rfl rfl rfl ?_
        refine sp_iload_n (p2 := 2) rfl rfl rfl ?_
        refine sp_iload_n (p2 := 3) rfl rfl rfl ?_
        refine sp_iload_n (p2 := 4) rfl rfl rfl ?_
        have c2 : Ca 19 184 [.ref 164, .int x1, .int x2, .int x3] hh (some (.int (-5)), hh) := by
          refine ca_of (d := 18) (M := mX12_owner) rfl (Nat.le_of_ble_eq_true rfl) ?_
          show Ev im_K0 18 mX12_owner (0, [(0, .ref 164), (1, .int x1), (2, .int x2), (3, .int x3)], [], hh) _
          refine sp_iload_n (p2 := 1) rfl rfl rfl ?_
          refine sp_iconst (p2 := 2) (x := 0) rfl rfl (by decide) ?_
          refine sp_bipush (p2 := 4) (x := 11) rfl rfl (by decide) ?_
          refine st_callS rfl rfl rfl (cl_in_F (a := 0) (b := 11) rfl rfl (by omega)) ?_
          show Ev _ _ _ (7, [(0, .ref 164), (1, .int x1), (2, .int x2), (3, .int x3)], [.int 0], hh) _
          refine st_ifc (b := false) rfl (by decide) ?_
          show Ev _ _ _ (10, _, _, _) _
          refine sp_bipush (p2 := 12) (x := (-5)) rfl rfl (by decide) ?_
          exact sp_iret rfl rfl
        refine st_callV (R := 164) rfl rfl rfl hh_148 rfl c2 ?_
        show Ev _ _ _ (7, [(0, .ref 164), (1, .int x1), (2, .int x2), (3, .int x3)], [.int (-5)], hh) _
        refine sp_istore (p2 := 9) (lv2 := [(4, .int (-5)), (0, .ref 164), (1, .int x1), (2, .int x2), (3, .int x3)]) rfl rfl (by decide) rfl ?_
        refine sp_iload (p2 := 11) rfl rfl rfl ?_
        refine st_ifc (b := false) rfl (by decide) ?_
        show Ev _ _ _ (14, _, _, _) _
        refine sp_iload (p2 := 16) rfl rfl rfl ?_
        exact sp_iret rfl rfl
set_option maxRecDepth 10000 in
set_option maxHeartbeats 4000000 in
theorem q_back : ∃ (v : Value) (h1 h2 : im_H), Ca 20 103 [.ref 16] hh (some v, h1) ∧ Ca 20 190 [.ref 164] h1 (some v, h2) := by
  refine ⟨.int (-3), hh, hh, ?_, ?_⟩
  · refine ca_of (d := 19) (M := mX11_back) rfl (Nat.le_of_ble_eq_true rfl) ?_
    show Ev im_K0 19 mX11_back (0, [(0, .ref 16)], [], hh) _
    refine sp_aload_n (p2 := 1) rfl rfl rfl ?_
    refine st_get rfl hh_0 rfl ?_
    show Ev _ _ _ (4, _, _, _) _
    refine st_ifc (b := false) rfl (by decide) ?_
    show Ev _ _ _ (7, _, _, _) _
    refine sp_bipush (p2 := 9) (x := (-3)) rfl rfl (by decide) ?_
    exact sp_iret rfl rfl
  · refine ca_of (d := 19) (M := mX12_back) rfl (Nat.le_of_ble_eq_true rfl) ?_
    show Ev im_K0 19 mX12_back (0, [(0, .ref 164)], [], hh) _
    refine sp_aload_n (p2 := 1) rfl rfl rfl ?_
    refine st_get rfl hh_148 rfl ?_
    show Ev _ _ _ (4, _, _, _) _
    refine st_ifc (b := false) rfl (by decide) ?_
    show Ev _ _ _ (7, _, _, _) _
    refine sp_bipush (p2 := 9) (x := (-3)) rfl rfl (by decide) ?_
    exact sp_iret rfl rfl
set_option maxRecDepth 10000 in
set_option maxHeartbeats 4000000 in
theorem q_taken (x1 x2 : Int32) : ∃ (v : Value) (h1 h2 : im_H), Ca 20 109 [.ref 16, .int x1, .int x2] hh (some v, h1) ∧ Ca 20 196 [.ref 164, .int x1, .int x2] h1 (some v, h2) := by
  by_cases h1 : x2.toInt ≤ (-1)
  · refine ⟨.int (-2), hh, hh, ?_, ?_⟩
    · refine ca_of (d := 19) (M := mX11_taken) rfl (Nat.le_of_ble_eq_true rfl) ?_
      show Ev im_K0 19 mX11_taken (0, [(0, .ref 16), (1, .int x1), (2, .int x2)], [], hh) _
      refine sp_iload_n (p2 := 1) rfl rfl rfl ?_
      refine sp_bipush (p2 := 3) (x := 6) rfl rfl (by decide) ?_
      refine st_callS rfl rfl rfl (cl_within_F (b := 6) rfl (by omega)) ?_
      show Ev _ _ _ (6, [(0, .ref 16), (1, .int x1), (2, .int x2)], [.int 0], hh) _
      refine st_ifc (b := false) rfl (by decide) ?_
      show Ev _ _ _ (9, _, _, _) _
      refine sp_bipush (p2 := 11) (x := (-2)) rfl rfl (by decide) ?_
      exact sp_iret rfl rfl
    · refine ca_of (d := 19) (M := mX12_taken) rfl (Nat.le_of_ble_eq_true rfl) ?_
      show Ev im_K0 19 mX12_taken (0, [(0, .ref 164), (1, .int x1), (2, .int x2)], [], hh) _
      refine sp_iload_n (p2 := 1) rfl rfl rfl ?_
      refine sp_iconst (p2 := 2) (x := 0) rfl rfl (by decide) ?_
      refine sp_iconst (p2 := 3) (x := 5) rfl rfl (by decide) ?_
      refine st_callS rfl rfl rfl (cl_in_F (a := 0) (b := 5) rfl rfl (by omega)) ?_
      show Ev _ _ _ (6, [(0, .ref 164), (1, .int x1), (2, .int x2)], [.int 0], hh) _
      refine st_ifc (b := false) rfl (by decide) ?_
      show Ev _ _ _ (9, _, _, _) _
      refine sp_bipush (p2 := 11) (x := (-2)) rfl rfl (by decide) ?_
      exact sp_iret rfl rfl
  · by_cases h2 : x2.toInt ≤ 5
    · by_cases h3 : x1.toInt ≤ (-1)
      · refine ⟨.int (-12), hh, hh, ?_, ?_⟩
        · refine ca_of (d := 19) (M := mX11_taken) rfl (Nat.le_of_ble_eq_true rfl) ?_
          show Ev im_K0 19 mX11_taken (0, [(0, .ref 16), (1, .int x1), (2, .int x2)], [], hh) _
          refine sp_iload_n (p2 := 1) rfl rfl rfl ?_
          refine sp_bipush (p2 := 3) (x := 6) rfl rfl (by decide) ?_
          refine st_callS rfl rfl rfl (cl_within_T (b := 6) rfl (by omega)) ?_
          show Ev _ _ _ (6, [(0, .ref 16), (1, .int x1), (2, .int x2)], [.int 1], hh) _
          refine st_ifc (b := true) rfl (by decide) ?_
          show Ev _ _ _ (12, _, _, _) _
          refine sp_iload_n (p2 := 13) rfl rfl rfl ?_
          refine sp_bipush (p2 := 15) (x := 100) rfl rfl (by decide) ?_
          refine st_callS rfl rfl rfl (cl_within_F (b := 100) rfl (by omega)) ?_
          show Ev _ _ _ (18, [(0, .ref 16), (1, .int x1), (2, .int x2)], [.int 0], hh) _
          refine st_ifc (b := false) rfl (by decide) ?_
          show Ev _ _ _ (21, _, _, _) _
          refine sp_bipush (p2 := 23) (x := (-12)) rfl rfl (by decide) ?_
          exact sp_iret rfl rfl
        · refine ca_of (d := 19) (M := mX12_taken) rfl (Nat.le_of_ble_eq_true rfl) ?_
          show Ev im_K0 19 mX12_taken (0, [(0, .ref 164), (1, .int x1), (2, .int x2)], [], hh) _
          refine sp_iload_n (p2 := 1) rfl rfl rfl ?_
          refine sp_iconst (p2 := 2) (x := 0) rfl rfl (by decide) ?_
          refine sp_iconst (p2 := 3) (x := 5) rfl rfl (by decide) ?_
          refine st_callS rfl rfl rfl (cl_in_T (a := 0) (b := 5) rfl rfl (by omega)) ?_
          show Ev _ _ _ (6, [(0, .ref 164), (1, .int x1), (2, .int x2)], [.int 1], hh) _
          refine st_ifc (b := true) rfl (by decide) ?_
          show Ev _ _ _ (12, _, _, _) _
          refine sp_iload_n (p2 := 13) rfl rfl rfl ?_
          refine st_callS rfl rfl rfl (cl_isCell_F (by omega)) ?_
          show Ev _ _ _ (16, [(0, .ref 164), (1, .int x1), (2, .int x2)], [.int 0], hh) _
          refine st_ifc (b := false) rfl (by decide) ?_
          show Ev _ _ _ (19, _, _, _) _
          refine sp_bipush (p2 := 21) (x := (-12)) rfl rfl (by decide) ?_
          exact sp_iret rfl rfl
      · by_cases h4 : x1.toInt ≤ 99
        · refine ⟨.int (-11), hh, hh, ?_, ?_⟩
          · refine ca_of (d := 19) (M := mX11_taken) rfl (Nat.le_of_ble_eq_true rfl) ?_
            show Ev im_K0 19 mX11_taken (0, [(0, .ref 16), (1, .int x1), (2, .int x2)], [], hh) _
            refine sp_iload_n (p2 := 1) rfl rfl rfl ?_
            refine sp_bipush (p2 := 3) (x := 6) rfl rfl (by decide) ?_
            refine st_callS rfl rfl rfl (cl_within_T (b := 6) rfl (by omega)) ?_
            show Ev _ _ _ (6, [(0, .ref 16), (1, .int x1), (2, .int x2)], [.int 1], hh) _
            refine st_ifc (b := true) rfl (by decide) ?_
            show Ev _ _ _ (12, _, _, _) _
            refine sp_iload_n (p2 := 13) rfl rfl rfl ?_
            refine sp_bipush (p2 := 15) (x := 100) rfl rfl (by decide) ?_
            refine st_callS rfl rfl rfl (cl_within_T (b := 100) rfl (by omega)) ?_
            show Ev _ _ _ (18, [(0, .ref 16), (1, .int x1), (2, .int x2)], [.int 1], hh) _
            refine st_ifc (b := true) rfl (by decide) ?_
            show Ev _ _ _ (24, _, _, _) _
            refine sp_aload_n (p2 := 25) rfl rfl rfl ?_
            refine st_get rfl hh_0 rfl ?_
            show Ev _ _ _ (28, _, _, _) _
            refine st_get rfl hh_1 rfl ?_
            show Ev _ _ _ (31, _, _, _) _
            refine sp_iload_n (p2 := 32) rfl rfl rfl ?_
            refine st_iald (x := (-1)) rfl (by decide) hh_2 (in_at (n := 100) rfl (by omega) (by omega)) (rd_at 0 99 (by decide +kernel) (by omega) (by omega)) ?_
            show Ev _ _ _ (33, _, _, _) _
            refine sp_istore_n (p2 := 34) (lv2 := [(3, .int (-1)), (0, .ref 16), (1, .int x1), (2, .int x2)]) rfl rfl (by decide) rfl ?_
            refine sp_iload_n (p2 := 35) rfl rfl rfl ?_
            refine sp_iconst (p2 := 36) (x := (-1)) rfl rfl (by decide) ?_
            refine st_icmp (b := false) rfl (by decide) ?_
            show Ev _ _ _ (39, _, _, _) _
            refine sp_iload_n (p2 := 40) rfl rfl rfl ?_
            refine sp_aload_n (p2 := 41) rfl rfl rfl ?_
            refine st_get rfl hh_0 rfl ?_
            show Ev _ _ _ (44, _, _, _) _
            refine st_get rfl hh_1 rfl ?_
            show Ev _ _ _ (47, _, _, _) _
            refine st_icmp (b := true) rfl (cn_ne_T rfl (show Int32.toInt (-1) = (-1) from rfl) (by omega)) ?_
            show Ev _ _ _ (55, _, _, _) _
            refine sp_bipush (p2 := 57) (x := (-11)) rfl rfl (by decide) ?_
            exact sp_iret rfl rfl
          · refine ca_of (d := 19) (M := mX12_taken) rfl (Nat.le_of_ble_eq_true rfl) ?_
            show Ev im_K0 19 mX12_taken (0, [(0, .ref 164), (1, .int x1), (2, .int x2)], [], hh) _
            refine sp_iload_n (p2 := 1) rfl rfl rfl ?_
            refine sp_iconst (p2 := 2) (x := 0) rfl rfl (by decide) ?_
            refine sp_iconst (p2 := 3) (x := 5) rfl rfl (by decide) ?_
            refine st_callS rfl rfl rfl (cl_in_T (a := 0) (b := 5) rfl rfl (by omega)) ?_
            show Ev _ _ _ (6, [(0, .ref 164), (1, .int x1), (2, .int x2)], [.int 1], hh) _
            refine st_ifc (b := true) rfl (by decide) ?_
            show Ev _ _ _ (12, _, _, _) _
            refine sp_iload_n (p2 := 13) rfl rfl rfl ?_
            refine st_callS rfl rfl rfl (cl_isCell_T (by omega)) ?_
            show Ev _ _ _ (16, [(0, .ref 164), (1, .int x1), (2, .int x2)], [.int 1], hh) _
            refine st_ifc (b := true) rfl (by decide) ?_
            show Ev _ _ _ (22, _, _, _) _
            refine sp_aload_n (p2 := 23) rfl rfl rfl ?_
            refine st_get rfl hh_148 rfl ?_
            show Ev _ _ _ (26, _, _, _) _
            refine sp_iload_n (p2 := 27) rfl rfl rfl ?_
            refine st_iald (x := (-1)) rfl (by decide) hh_152 (in_at (n := 100) rfl (by omega) (by omega)) (rd_at 0 99 (by decide +kernel) (by omega) (by omega)) ?_
            show Ev _ _ _ (28, _, _, _) _
            refine sp_iconst (p2 := 29) (x := (-1)) rfl rfl (by decide) ?_
            refine st_icmp (b := false) rfl (by decide) ?_
            show Ev _ _ _ (32, _, _, _) _
            refine sp_iload_n (p2 := 33) rfl rfl rfl ?_
            refine sp_aload_n (p2 := 34) rfl rfl rfl ?_
            refine st_get rfl hh_148 rfl ?_
            show Ev _ _ _ (37, _, _, _) _
            refine st_icmp (b := true) rfl (cn_ne_T rfl (show Int32.toInt (-1) = (-1) from rfl) (by omega)) ?_
            show Ev _ _ _ (45, _, _, _) _
            refine sp_bipush (p2 := 47) (x := (-11)) rfl rfl (by decide) ?_
            exact sp_iret rfl rfl
        · refine ⟨.int (-12), hh, hh, ?_, ?_⟩
          · refine ca_of (d := 19) (M := mX11_taken) rfl (Nat.le_of_ble_eq_true rfl) ?_
            show Ev im_K0 19 mX11_taken (0, [(0, .ref 16), (1, .int x1), (2, .int x2)], [], hh) _
            refine sp_iload_n (p2 := 1) rfl rfl rfl ?_
            refine sp_bipush (p2 := 3) (x := 6) rfl rfl (by decide) ?_
            refine st_callS rfl rfl rfl (cl_within_T (b := 6) rfl (by omega)) ?_
            show Ev _ _ _ (6, [(0, .ref 16), (1, .int x1), (2, .int x2)], [.int 1], hh) _
            refine st_ifc (b := true) rfl (by decide) ?_
            show Ev _ _ _ (12, _, _, _) _
            refine sp_iload_n (p2 := 13) rfl rfl rfl ?_
            refine sp_bipush (p2 := 15) (x := 100) rfl rfl (by decide) ?_
            refine st_callS rfl rfl rfl (cl_within_F (b := 100) rfl (by omega)) ?_
            show Ev _ _ _ (18, [(0, .ref 16), (1, .int x1), (2, .int x2)], [.int 0], hh) _
            refine st_ifc (b := false) rfl (by decide) ?_
            show Ev _ _ _ (21, _, _, _) _
            refine sp_bipush (p2 := 23) (x := (-12)) rfl rfl (by decide) ?_
            exact sp_iret rfl rfl
          · refine ca_of (d := 19) (M := mX12_taken) rfl (Nat.le_of_ble_eq_true rfl) ?_
            show Ev im_K0 19 mX12_taken (0, [(0, .ref 164), (1, .int x1), (2, .int x2)], [], hh) _
            refine sp_iload_n (p2 := 1) rfl rfl rfl ?_
            refine sp_iconst (p2 := 2) (x := 0) rfl rfl (by decide) ?_
            refine sp_iconst (p2 := 3) (x := 5) rfl rfl (by decide) ?_
            refine st_callS rfl rfl rfl (cl_in_T (a := 0) (b := 5) rfl rfl (by omega)) ?_
            show Ev _ _ _ (6, [(0, .ref 164), (1, .int x1), (2, .int x2)], [.int 1], hh) _
            refine st_ifc (b := true) rfl (by decide) ?_
            show Ev _ _ _ (12, _, _, _) _
            refine sp_iload_n (p2 := 13) rfl rfl rfl ?_
            refine st_callS rfl rfl rfl (cl_isCell_F (by omega)) ?_
            show Ev _ _ _ (16, [(0, .ref 164), (1, .int x1), (2, .int x2)], [.int 0], hh) _
            refine st_ifc (b := false) rfl (by decide) ?_
            show Ev _ _ _ (19, _, _, _) _
            refine sp_bipush (p2 := 21) (x := (-12)) rfl rfl (by decide) ?_
            exact sp_iret rfl rfl
    · refine ⟨.int (-2), hh, hh, ?_, ?_⟩
      · refine ca_of (d := 19) (M := mX11_taken) rfl (Nat.le_of_ble_eq_true rfl) ?_
        show Ev im_K0 19 mX11_taken (0, [(0, .ref 16), (1, .int x1), (2, .int x2)], [], hh) _
        refine sp_iload_n (p2 := 1) rfl rfl rfl ?_
        refine sp_bipush (p2 := 3) (x := 6) rfl rfl (by decide) ?_
        refine st_callS rfl rfl rfl (cl_within_F (b := 6) rfl (by omega)) ?_
        show Ev _ _ _ (6, [(0, .ref 16), (1, .int x1), (2, .int x2)], [.int 0], hh) _
        refine st_ifc (b := false) rfl (by decide) ?_
        show Ev _ _ _ (9, _, _, _) _
        refine sp_bipush (p2 := 11) (x := (-2)) rfl rfl (by decide) ?_
        exact sp_iret rfl rfl
      · refine ca_of (d := 19) (M := mX12_taken) rfl (Nat.le_of_ble_eq_true rfl) ?_
        show Ev im_K0 19 mX12_taken (0, [(0, .ref 164), (1, .int x1), (2, .int x2)], [], hh) _
        refine sp_iload_n (p2 := 1) rfl rfl rfl ?_
        refine sp_iconst (p2 := 2) (x := 0) rfl rfl (by decide) ?_
        refine sp_iconst (p2 := 3) (x := 5) rfl rfl (by decide) ?_
        refine st_callS rfl rfl rfl (cl_in_F (a := 0) (b := 5) rfl rfl (by omega)) ?_
        show Ev _ _ _ (6, [(0, .ref 164), (1, .int x1), (2, .int x2)], [.int 0], hh) _
        refine st_ifc (b := false) rfl (by decide) ?_
        show Ev _ _ _ (9, _, _, _) _
        refine sp_bipush (p2 := 11) (x := (-2)) rfl rfl (by decide) ?_
        exact sp_iret rfl rfl
