def im_dA : DecidableEq im_A := inferInstance
def im_dE : DecidableEq im_E := haveI : DecidableEq im_A := im_dA; inferInstance
def im_dH : DecidableEq im_H := haveI : DecidableEq im_E := im_dE; inferInstance
def im_dR : DecidableEq (Option (Option Value × im_H)) := haveI : DecidableEq im_H := im_dH; inferInstance
def im_eqb (a b : Option (Option Value × im_H)) : Bool := @decide (a = b) (im_dR a b)
theorem im_eqb_eq {a b : Option (Option Value × im_H)} (h : im_eqb a b = true) : a = b := @of_decide_eq_true (a = b) (im_dR a b) h
set_option maxRecDepth 10000 in
set_option maxHeartbeats 4000000 in
theorem q_kindTold (x1 x2 : Int32) : ∃ (v : Value) (h1 h2 : im_H), Ca 20 78 [.ref 16, .int x1, .int x2] hh (some v, h1) ∧ Ca 20 157 [.ref 164, .int x1, .int x2] h1 (some v, h2) := by
  by_cases h1 : x1.toInt ≤ (-1)
  · refine ⟨.int (-2), hh, hh, ?_, ?_⟩
    · refine ca_of (d := 19) (M := mX11_kindTold) rfl (Nat.le_of_ble_eq_true rfl) ?_
      show Ev im_K0 19 mX11_kindTold (0, [(0, .ref 16), (1, .int x1), (2, .int x2)], [], hh) _
      refine sp_iload_n (p2 := 1) rfl rfl rfl ?_
      refine sp_bipush (p2 := 3) (x := 6) rfl rfl (by decide) ?_
      refine st_callS rfl rfl rfl (cl_within_F (b := 6) rfl (by omega)) ?_
      show Ev _ _ _ (6, [(0, .ref 16), (1, .int x1), (2, .int x2)], [.int 0], hh) _
      refine st_ifc (b := false) rfl (by decide) ?_
      show Ev _ _ _ (9, _, _, _) _
      refine sp_bipush (p2 := 11) (x := (-2)) rfl rfl (by decide) ?_
      exact sp_iret rfl rfl
    · refine ca_of (d := 19) (M := mX12_kindTold) rfl (Nat.le_of_ble_eq_true rfl) ?_
      show Ev im_K0 19 mX12_kindTold (0, [(0, .ref 164), (1, .int x1), (2, .int x2)], [], hh) _
      refine sp_iload_n (p2 := 1) rfl rfl rfl ?_
      refine sp_iconst (p2 := 2) (x := 0) rfl rfl (by decide) ?_
      refine sp_iconst (p2 := 3) (x := 5) rfl rfl (by decide) ?_
      refine st_callS rfl rfl rfl (cl_in_F (a := 0) (b := 5) rfl rfl (by omega)) ?_
      show Ev _ _ _ (6, [(0, .ref 164), (1, .int x1), (2, .int x2)], [.int 0], hh) _
      refine st_ifc (b := true) rfl (by decide) ?_
      show Ev _ _ _ (18, _, _, _) _
      refine sp_bipush (p2 := 20) (x := (-2)) rfl rfl (by decide) ?_
      exact sp_iret rfl rfl
  · by_cases h2 : x1.toInt ≤ 5
    · by_cases h3 : x2.toInt ≤ (-1)
      · refine ⟨.int (-2), hh, hh, ?_, ?_⟩
        · refine ca_of (d := 19) (M := mX11_kindTold) rfl (Nat.le_of_ble_eq_true rfl) ?_
          show Ev im_K0 19 mX11_kindTold (0, [(0, .ref 16), (1, .int x1), (2, .int x2)], [], hh) _
          refine sp_iload_n (p2 := 1) rfl rfl rfl ?_
          refine sp_bipush (p2 := 3) (x := 6) rfl rfl (by decide) ?_
          refine st_callS rfl rfl rfl (cl_within_T (b := 6) rfl (by omega)) ?_
          show Ev _ _ _ (6, [(0, .ref 16), (1, .int x1), (2, .int x2)], [.int 1], hh) _
          refine st_ifc (b := true) rfl (by decide) ?_
          show Ev _ _ _ (12, _, _, _) _
          refine sp_iload_n (p2 := 13) rfl rfl rfl ?_
          refine sp_tsOut (p2 := 68) rfl (by omega) (by decide) ?_
          refine sp_bipush (p2 := 70) (x := (-2)) rfl rfl (by decide) ?_
          exact sp_iret rfl rfl
        · refine ca_of (d := 19) (M := mX12_kindTold) rfl (Nat.le_of_ble_eq_true rfl) ?_
          show Ev im_K0 19 mX12_kindTold (0, [(0, .ref 164), (1, .int x1), (2, .int x2)], [], hh) _
          refine sp_iload_n (p2 := 1) rfl rfl rfl ?_
          refine sp_iconst (p2 := 2) (x := 0) rfl rfl (by decide) ?_
          refine sp_iconst (p2 := 3) (x := 5) rfl rfl (by decide) ?_
          refine st_callS rfl rfl rfl (cl_in_T (a := 0) (b := 5) rfl rfl (by omega)) ?_
          show Ev _ _ _ (6, [(0, .ref 164), (1, .int x1), (2, .int x2)], [.int 1], hh) _
          refine st_ifc (b := false) rfl (by decide) ?_
          show Ev _ _ _ (9, _, _, _) _
          refine sp_iload_n (p2 := 10) rfl rfl rfl ?_
          refine sp_iconst (p2 := 11) (x := 0) rfl rfl (by decide) ?_
          refine sp_iconst (p2 := 12) (x := 3) rfl rfl (by decide) ?_
          refine st_callS rfl rfl rfl (cl_in_F (a := 0) (b := 3) rfl rfl (by omega)) ?_
          show Ev _ _ _ (15, [(0, .ref 164), (1, .int x1), (2, .int x2)], [.int 0], hh) _
          refine st_ifc (b := false) rfl (by decide) ?_
          show Ev _ _ _ (18, _, _, _) _
          refine sp_bipush (p2 := 20) (x := (-2)) rfl rfl (by decide) ?_
          exact sp_iret rfl rfl
      · by_cases h4 : x2.toInt ≤ 0
        · obtain rfl : x2 = 0 := i32_ext (by have e9 : Int32.toInt 0 = 0 := rfl; omega)
          by_cases h5 : x1.toInt ≤ 0
          · obtain rfl : x1 = 0 := i32_ext (by have e9 : Int32.toInt 0 = 0 := rfl; omega)
            refine ⟨.int 20, hh, hh, ?_, ?_⟩
            · refine ca_of (d := 19) (M := mX11_kindTold) rfl (Nat.le_of_ble_eq_true rfl) ?_
              show Ev im_K0 19 mX11_kindTold (0, [(0, .ref 16), (1, .int 0), (2, .int 0)], [], hh) _
              refine sp_iload_n (p2 := 1) rfl rfl rfl ?_
              refine sp_bipush (p2 := 3) (x := 6) rfl rfl (by decide) ?_
              refine st_callS rfl rfl rfl (cl_within_T (n := 0) (b := 6) (show Int32.toInt _ = _ from rfl) (by have e9 : Int32.toInt 0 = 0 := rfl; omega)) ?_
              show Ev _ _ _ (6, [(0, .ref 16), (1, .int 0), (2, .int 0)], [.int 1], hh) _
              refine st_ifc (b := true) rfl (by decide) ?_
              show Ev _ _ _ (12, _, _, _) _
              refine sp_iload_n (p2 := 13) rfl rfl rfl ?_
              refine sp_tsIn (k := 0) (p2 := 44) rfl (by decide) (by decide) (by decide) rfl (by decide) ?_
              refine sp_gst (p2 := 47) rfl rfl (by decide) ?_
              refine sp_iload_n (p2 := 48) rfl rfl rfl ?_
              refine st_isld (x := 20) rfl (by decide) rfl rfl rfl ?_
              show Ev _ _ _ (49, _, _, _) _
              exact sp_iret rfl rfl
            · refine ca_of (d := 19) (M := mX12_kindTold) rfl (Nat.le_of_ble_eq_true rfl) ?_
              show Ev im_K0 19 mX12_kindTold (0, [(0, .ref 164), (1, .int 0), (2, .int 0)], [], hh) _
              refine sp_iload_n (p2 := 1) rfl rfl rfl ?_
              refine sp_iconst (p2 := 2) (x := 0) rfl rfl (by decide) ?_
              refine sp_iconst (p2 := 3) (x := 5) rfl rfl (by decide) ?_
              refine st_callS rfl rfl rfl (cl_in_T (n := 0) (a := 0) (b := 5) (show Int32.toInt _ = _ from rfl) (show Int32.toInt _ = _ from rfl) (by have e9 : Int32.toInt 0 = 0 := rfl; omega)) ?_
              show Ev _ _ _ (6, [(0, .ref 164), (1, .int 0), (2, .int 0)], [.int 1], hh) _
              refine st_ifc (b := false) rfl (by decide) ?_
              show Ev _ _ _ (9, _, _, _) _
              refine sp_iload_n (p2 := 10) rfl rfl rfl ?_
              refine sp_iconst (p2 := 11) (x := 0) rfl rfl (by decide) ?_
              refine sp_iconst (p2 := 12) (x := 3) rfl rfl (by decide) ?_
              refine st_callS rfl rfl rfl (cl_in_T (n := 0) (a := 0) (b := 3) (show Int32.toInt _ = _ from rfl) (show Int32.toInt _ = _ from rfl) (by have e9 : Int32.toInt 0 = 0 := rfl; omega)) ?_
              show Ev _ _ _ (15, [(0, .ref 164), (1, .int 0), (2, .int 0)], [.int 1], hh) _
              refine st_ifc (b := true) rfl (by decide) ?_
              show Ev _ _ _ (21, _, _, _) _
              refine sp_iload_n (p2 := 22) rfl rfl rfl ?_
              refine st_ifc (b := false) rfl (by decide) ?_
              show Ev _ _ _ (25, _, _, _) _
              refine sp_aload_n (p2 := 26) rfl rfl rfl ?_
              refine st_get rfl hh_148 rfl ?_
              show Ev _ _ _ (29, _, _, _) _
              refine sp_iload_n (p2 := 30) rfl rfl rfl ?_
              refine st_iald (x := 20) rfl (by decide) hh_153 rfl rfl ?_
              show Ev _ _ _ (31, _, _, _) _
              refine sp_goto rfl ?_
              exact sp_iret rfl rfl
          · by_cases h6 : x1.toInt ≤ 1
            · obtain rfl : x1 = 1 := i32_ext (by have e9 : Int32.toInt 1 = 1 := rfl; omega)
              refine ⟨.int 35, hh, hh, ?_, ?_⟩
              · refine ca_of (d := 19) (M := mX11_kindTold) rfl (Nat.le_of_ble_eq_true rfl) ?_
                show Ev im_K0 19 mX11_kindTold (0, [(0, .ref 16), (1, .int 1), (2, .int 0)], [], hh) _
                refine sp_iload_n (p2 := 1) rfl rfl rfl ?_
                refine sp_bipush (p2 := 3) (x := 6) rfl rfl (by decide) ?_
                refine st_callS rfl rfl rfl (cl_within_T (n := 1) (b := 6) (show Int32.toInt _ = _ from rfl) (by have e9 : Int32.toInt 1 = 1 := rfl; omega)) ?_
                show Ev _ _ _ (6, [(0, .ref 16), (1, .int 1), (2, .int 0)], [.int 1], hh) _
                refine st_ifc (b := true) rfl (by decide) ?_
                show Ev _ _ _ (12, _, _, _) _
                refine sp_iload_n (p2 := 13) rfl rfl rfl ?_
                refine sp_tsIn (k := 0) (p2 := 44) rfl (by decide) (by decide) (by decide) rfl (by decide) ?_
                refine sp_gst (p2 := 47) rfl rfl (by decide) ?_
                refine sp_iload_n (p2 := 48) rfl rfl rfl ?_
                refine st_isld (x := 35) rfl (by decide) rfl rfl rfl ?_
                show Ev _ _ _ (49, _, _, _) _
                exact sp_iret rfl rfl
              · refine ca_of (d := 19) (M := mX12_kindTold) rfl (Nat.le_of_ble_eq_true rfl) ?_
                show Ev im_K0 19 mX12_kindTold (0, [(0, .ref 164), (1, .int 1), (2, .int 0)], [], hh) _
                refine sp_iload_n (p2 := 1) rfl rfl rfl ?_
                refine sp_iconst (p2 := 2) (x := 0) rfl rfl (by decide) ?_
                refine sp_iconst (p2 := 3) (x := 5) rfl rfl (by decide) ?_
                refine st_callS rfl rfl rfl (cl_in_T (n := 1) (a := 0) (b := 5) (show Int32.toInt _ = _ from rfl) (show Int32.toInt _ = _ from rfl) (by have e9 : Int32.toInt 1 = 1 := rfl; omega)) ?_
                show Ev _ _ _ (6, [(0, .ref 164), (1, .int 1), (2, .int 0)], [.int 1], hh) _
                refine st_ifc (b := false) rfl (by decide) ?_
                show Ev _ _ _ (9, _, _, _) _
                refine sp_iload_n (p2 := 10) rfl rfl rfl ?_
                refine sp_iconst (p2 := 11) (x := 0) rfl rfl (by decide) ?_
                refine sp_iconst (p2 := 12) (x := 3) rfl rfl (by decide) ?_
                refine st_callS rfl rfl rfl (cl_in_T (n := 0) (a := 0) (b := 3) (show Int32.toInt _ = _ from rfl) (show Int32.toInt _ = _ from rfl) (by have e9 : Int32.toInt 0 = 0 := rfl; omega)) ?_
                show Ev _ _ _ (15, [(0, .ref 164), (1, .int 1), (2, .int 0)], [.int 1], hh) _
                refine st_ifc (b := true) rfl (by decide) ?_
                show Ev _ _ _ (21, _, _, _) _
                refine sp_iload_n (p2 := 22) rfl rfl rfl ?_
                refine st_ifc (b := false) rfl (by decide) ?_
                show Ev _ _ _ (25, _, _, _) _
                refine sp_aload_n (p2 := 26) rfl rfl rfl ?_
                refine st_get rfl hh_148 rfl ?_
                show Ev _ _ _ (29, _, _, _) _
                refine sp_iload_n (p2 := 30) rfl rfl rfl ?_
                refine st_iald (x := 35) rfl (by decide) hh_153 rfl rfl ?_
                show Ev _ _ _ (31, _, _, _) _
                refine sp_goto rfl ?_
                exact sp_iret rfl rfl
            · by_cases h7 : x1.toInt ≤ 2
              · obtain rfl : x1 = 2 := i32_ext (by have e9 : Int32.toInt 2 = 2 := rfl; omega)
                refine ⟨.int 20, hh, hh, ?_, ?_⟩
                · refine ca_of (d := 19) (M := mX11_kindTold) rfl (Nat.le_of_ble_eq_true rfl) ?_
                  show Ev im_K0 19 mX11_kindTold (0, [(0, .ref 16), (1, .int 2), (2, .int 0)], [], hh) _
                  refine sp_iload_n (p2 := 1) rfl rfl rfl ?_
                  refine sp_bipush (p2 := 3) (x := 6) rfl rfl (by decide) ?_
                  refine st_callS rfl rfl rfl (cl_within_T (n := 2) (b := 6) (show Int32.toInt _ = _ from rfl) (by have e9 : Int32.toInt 2 = 2 := rfl; omega)) ?_
                  show Ev _ _ _ (6, [(0, .ref 16), (1, .int 2), (2, .int 0)], [.int 1], hh) _
                  refine st_ifc (b := true) rfl (by decide) ?_
                  show Ev _ _ _ (12, _, _, _) _
                  refine sp_iload_n (p2 := 13) rfl rfl rfl ?_
                  refine sp_tsIn (k := 0) (p2 := 44) rfl (by decide) (by decide) (by decide) rfl (by decide) ?_
                  refine sp_gst (p2 := 47) rfl rfl (by decide) ?_
                  refine sp_iload_n (p2 := 48) rfl rfl rfl ?_
                  refine st_isld (x := 20) rfl (by decide) rfl rfl rfl ?_
                  show Ev _ _ _ (49, _, _, _) _
                  exact sp_iret rfl rfl
                · refine ca_of (d := 19) (M := mX12_kindTold) rfl (Nat.le_of_ble_eq_true rfl) ?_
                  show Ev im_K0 19 mX12_kindTold (0, [(0, .ref 164), (1, .int 2), (2, .int 0)], [], hh) _
                  refine sp_iload_n (p2 := 1) rfl rfl rfl ?_
                  refine sp_iconst (p2 := 2) (x := 0) rfl rfl (by decide) ?_
                  refine sp_iconst (p2 := 3) (x := 5) rfl rfl (by decide) ?_
                  refine st_callS rfl rfl rfl (cl_in_T (n := 2) (a := 0) (b := 5) (show Int32.toInt _ = _ from rfl) (show Int32.toInt _ = _ from rfl) (by have e9 : Int32.toInt 2 = 2 := rfl; omega)) ?_
                  show Ev _ _ _ (6, [(0, .ref 164), (1, .int 2), (2, .int 0)], [.int 1], hh) _
                  refine st_ifc (b := false) rfl (by decide) ?_
                  show Ev _ _ _ (9, _, _, _) _
                  refine sp_iload_n (p2 := 10) rfl rfl rfl ?_
                  refine sp_iconst (p2 := 11) (x := 0) rfl rfl (by decide) ?_
                  refine sp_iconst (p2 := 12) (x := 3) rfl rfl (by decide) ?_
                  refine st_callS rfl rfl rfl (cl_in_T (n := 0) (a := 0) (b := 3) (show Int32.toInt _ = _ from rfl) (show Int32.toInt _ = _ from rfl) (by have e9 : Int32.toInt 0 = 0 := rfl; omega)) ?_
                  show Ev _ _ _ (15, [(0, .ref 164), (1, .int 2), (2, .int 0)], [.int 1], hh) _
                  refine st_ifc (b := true) rfl (by decide) ?_
                  show Ev _ _ _ (21, _, _, _) _
                  refine sp_iload_n (p2 := 22) rfl rfl rfl ?_
                  refine st_ifc (b := false) rfl (by decide) ?_
                  show Ev _ _ _ (25, _, _, _) _
                  refine sp_aload_n (p2 := 26) rfl rfl rfl ?_
                  refine st_get rfl hh_148 rfl ?_
                  show Ev _ _ _ (29, _, _, _) _
                  refine sp_iload_n (p2 := 30) rfl rfl rfl ?_
                  refine st_iald (x := 20) rfl (by decide) hh_153 rfl rfl ?_
                  show Ev _ _ _ (31, _, _, _) _
                  refine sp_goto rfl ?_
                  exact sp_iret rfl rfl
              · by_cases h8 : x1.toInt ≤ 3
                · obtain rfl : x1 = 3 := i32_ext (by have e9 : Int32.toInt 3 = 3 := rfl; omega)
                  refine ⟨.int 70, hh, hh, ?_, ?_⟩
                  · refine ca_of (d := 19) (M := mX11_kindTold) rfl (Nat.le_of_ble_eq_true rfl) ?_
                    show Ev im_K0 19 mX11_kindTold (0, [(0, .ref 16), (1, .int 3), (2, .int 0)], [], hh) _
                    refine sp_iload_n (p2 := 1) rfl rfl rfl ?_
                    refine sp_bipush (p2 := 3) (x := 6) rfl rfl (by decide) ?_
                    refine st_callS rfl rfl rfl (cl_within_T (n := 3) (b := 6) (show Int32.toInt _ = _ from rfl) (by have e9 : Int32.toInt 3 = 3 := rfl; omega)) ?_
                    show Ev _ _ _ (6, [(0, .ref 16), (1, .int 3), (2, .int 0)], [.int 1], hh) _
                    refine st_ifc (b := true) rfl (by decide) ?_
                    show Ev _ _ _ (12, _, _, _) _
                    refine sp_iload_n (p2 := 13) rfl rfl rfl ?_
                    refine sp_tsIn (k := 0) (p2 := 44) rfl (by decide) (by decide) (by decide) rfl (by decide) ?_
                    refine sp_gst (p2 := 47) rfl rfl (by decide) ?_
                    refine sp_iload_n (p2 := 48) rfl rfl rfl ?_
                    refine st_isld (x := 70) rfl (by decide) rfl rfl rfl ?_
                    show Ev _ _ _ (49, _, _, _) _
                    exact sp_iret rfl rfl
                  · refine ca_of (d := 19) (M := mX12_kindTold) rfl (Nat.le_of_ble_eq_true rfl) ?_
                    show Ev im_K0 19 mX12_kindTold (0, [(0, .ref 164), (1, .int 3), (2, .int 0)], [], hh) _
                    refine sp_iload_n (p2 := 1) rfl rfl rfl ?_
                    refine sp_iconst (p2 := 2) (x := 0) rfl rfl (by decide) ?_
                    refine sp_iconst (p2 := 3) (x := 5) rfl rfl (by decide) ?_
                    refine st_callS rfl rfl rfl (cl_in_T (n := 3) (a := 0) (b := 5) (show Int32.toInt _ = _ from rfl) (show Int32.toInt _ = _ from rfl) (by have e9 : Int32.toInt 3 = 3 := rfl; omega)) ?_
                    show Ev _ _ _ (6, [(0, .ref 164), (1, .int 3), (2, .int 0)], [.int 1], hh) _
                    refine st_ifc (b := false) rfl (by decide) ?_
                    show Ev _ _ _ (9, _, _, _) _
                    refine sp_iload_n (p2 := 10) rfl rfl rfl ?_
                    refine sp_iconst (p2 := 11) (x := 0) rfl rfl (by decide) ?_
                    refine sp_iconst (p2 := 12) (x := 3) rfl rfl (by decide) ?_
                    refine st_callS rfl rfl rfl (cl_in_T (n := 0) (a := 0) (b := 3) (show Int32.toInt _ = _ from rfl) (show Int32.toInt _ = _ from rfl) (by have e9 : Int32.toInt 0 = 0 := rfl; omega)) ?_
                    show Ev _ _ _ (15, [(0, .ref 164), (1, .int 3), (2, .int 0)], [.int 1], hh) _
                    refine st_ifc (b := true) rfl (by decide) ?_
                    show Ev _ _ _ (21, _, _, _) _
                    refine sp_iload_n (p2 := 22) rfl rfl rfl ?_
                    refine st_ifc (b := false) rfl (by decide) ?_
                    show Ev _ _ _ (25, _, _, _) _
                    refine sp_aload_n (p2 := 26) rfl rfl rfl ?_
                    refine st_get rfl hh_148 rfl ?_
                    show Ev _ _ _ (29, _, _, _) _
                    refine sp_iload_n (p2 := 30) rfl rfl rfl ?_
                    refine st_iald (x := 70) rfl (by decide) hh_153 rfl rfl ?_
                    show Ev _ _ _ (31, _, _, _) _
                    refine sp_goto rfl ?_
                    exact sp_iret rfl rfl
                · by_cases h9 : x1.toInt ≤ 4
                  · obtain rfl : x1 = 4 := i32_ext (by have e9 : Int32.toInt 4 = 4 := rfl; omega)
                    refine ⟨.int 10, hh, hh, ?_, ?_⟩
                    · refine ca_of (d := 19) (M := mX11_kindTold) rfl (Nat.le_of_ble_eq_true rfl) ?_
                      show Ev im_K0 19 mX11_kindTold (0, [(0, .ref 16), (1, .int 4), (2, .int 0)], [], hh) _
                      refine sp_iload_n (p2 := 1) rfl rfl rfl ?_
                      refine sp_bipush (p2 := 3) (x := 6) rfl rfl (by decide) ?_
                      refine st_callS rfl rfl rfl (cl_within_T (n := 4) (b := 6) (show Int32.toInt _ = _ from rfl) (by have e9 : Int32.toInt 4 = 4 := rfl; omega)) ?_
                      show Ev _ _ _ (6, [(0, .ref 16), (1, .int 4), (2, .int 0)], [.int 1], hh) _
                      refine st_ifc (b := true) rfl (by decide) ?_
                      show Ev _ _ _ (12, _, _, _) _
                      refine sp_iload_n (p2 := 13) rfl rfl rfl ?_
                      refine sp_tsIn (k := 0) (p2 := 44) rfl (by decide) (by decide) (by decide) rfl (by decide) ?_
                      refine sp_gst (p2 := 47) rfl rfl (by decide) ?_
                      refine sp_iload_n (p2 := 48) rfl rfl rfl ?_
                      refine st_isld (x := 10) rfl (by decide) rfl rfl rfl ?_
                      show Ev _ _ _ (49, _, _, _) _
                      exact sp_iret rfl rfl
                    · refine ca_of (d := 19) (M := mX12_kindTold) rfl (Nat.le_of_ble_eq_true rfl) ?_
                      show Ev im_K0 19 mX12_kindTold (0, [(0, .ref 164), (1, .int 4), (2, .int 0)], [], hh) _
                      refine sp_iload_n (p2 := 1) rfl rfl rfl ?_
                      refine sp_iconst (p2 := 2) (x := 0) rfl rfl (by decide) ?_
                      refine sp_iconst (p2 := 3) (x := 5) rfl rfl (by decide) ?_
                      refine st_callS rfl rfl rfl (cl_in_T (n := 4) (a := 0) (b := 5) (show Int32.toInt _ = _ from rfl) (show Int32.toInt _ = _ from rfl) (by have e9 : Int32.toInt 4 = 4 := rfl; omega)) ?_
                      show Ev _ _ _ (6, [(0, .ref 164), (1, .int 4), (2, .int 0)], [.int 1], hh) _
                      refine st_ifc (b := false) rfl (by decide) ?_
                      show Ev _ _ _ (9, _, _, _) _
                      refine sp_iload_n (p2 := 10) rfl rfl rfl ?_
                      refine sp_iconst (p2 := 11) (x := 0) rfl rfl (by decide) ?_
                      refine sp_iconst (p2 := 12) (x := 3) rfl rfl (by decide) ?_
                      refine st_callS rfl rfl rfl (cl_in_T (n := 0) (a := 0) (b := 3) (show Int32.toInt _ = _ from rfl) (show Int32.toInt _ = _ from rfl) (by have e9 : Int32.toInt 0 = 0 := rfl; omega)) ?_
                      show Ev _ _ _ (15, [(0, .ref 164), (1, .int 4), (2, .int 0)], [.int 1], hh) _
                      refine st_ifc (b := true) rfl (by decide) ?_
                      show Ev _ _ _ (21, _, _, _) _
                      refine sp_iload_n (p2 := 22) rfl rfl rfl ?_
                      refine st_ifc (b := false) rfl (by decide) ?_
                      show Ev _ _ _ (25, _, _, _) _
                      refine sp_aload_n (p2 := 26) rfl rfl rfl ?_
                      refine st_get rfl hh_148 rfl ?_
                      show Ev _ _ _ (29, _, _, _) _
                      refine sp_iload_n (p2 := 30) rfl rfl rfl ?_
                      refine st_iald (x := 10) rfl (by decide) hh_153 rfl rfl ?_
                      show Ev _ _ _ (31, _, _, _) _
                      refine sp_goto rfl ?_
                      exact sp_iret rfl rfl
                  · obtain rfl : x1 = 5 := i32_ext (by have e9 : Int32.toInt 5 = 5 := rfl; omega)
                    refine ⟨.int 5, hh, hh, ?_, ?_⟩
                    · refine ca_of (d := 19) (M := mX11_kindTold) rfl (Nat.le_of_ble_eq_true rfl) ?_
                      show Ev im_K0 19 mX11_kindTold (0, [(0, .ref 16), (1, .int 5), (2, .int 0)], [], hh) _
                      refine sp_iload_n (p2 := 1) rfl rfl rfl ?_
                      refine sp_bipush (p2 := 3) (x := 6) rfl rfl (by decide) ?_
                      refine st_callS rfl rfl rfl (cl_within_T (n := 5) (b := 6) (show Int32.toInt _ = _ from rfl) (by have e9 : Int32.toInt 5 = 5 := rfl; omega)) ?_
                      show Ev _ _ _ (6, [(0, .ref 16), (1, .int 5), (2, .int 0)], [.int 1], hh) _
                      refine st_ifc (b := true) rfl (by decide) ?_
                      show Ev _ _ _ (12, _, _, _) _
                      refine sp_iload_n (p2 := 13) rfl rfl rfl ?_
                      refine sp_tsIn (k := 0) (p2 := 44) rfl (by decide) (by decide) (by decide) rfl (by decide) ?_
                      refine sp_gst (p2 := 47) rfl rfl (by decide) ?_
                      refine sp_iload_n (p2 := 48) rfl rfl rfl ?_
                      refine st_isld (x := 5) rfl (by decide) rfl rfl rfl ?_
                      show Ev _ _ _ (49, _, _, _) _
                      exact sp_iret rfl rfl
                    · refine ca_of (d := 19) (M := mX12_kindTold) rfl (Nat.le_of_ble_eq_true rfl) ?_
                      show Ev im_K0 19 mX12_kindTold (0, [(0, .ref 164), (1, .int 5), (2, .int 0)], [], hh) _
                      refine sp_iload_n (p2 := 1) rfl rfl rfl ?_
                      refine sp_iconst (p2 := 2) (x := 0) rfl rfl (by decide) ?_
                      refine sp_iconst (p2 := 3) (x := 5) rfl rfl (by decide) ?_
                      refine st_callS rfl rfl rfl (cl_in_T (n := 5) (a := 0) (b := 5) (show Int32.toInt _ = _ from rfl) (show Int32.toInt _ = _ from rfl) (by have e9 : Int32.toInt 5 = 5 := rfl; omega)) ?_
                      show Ev _ _ _ (6, [(0, .ref 164), (1, .int 5), (2, .int 0)], [.int 1], hh) _
                      refine st_ifc (b := false) rfl (by decide) ?_
                      show Ev _ _ _ (9, _, _, _) _
                      refine sp_iload_n (p2 := 10) rfl rfl rfl ?_
                      refine sp_iconst (p2 := 11) (x := 0) rfl rfl (by decide) ?_
                      refine sp_iconst (p2 := 12) (x := 3) rfl rfl (by decide) ?_
                      refine st_callS rfl rfl rfl (cl_in_T (n := 0) (a := 0) (b := 3) (show Int32.toInt _ = _ from rfl) (show Int32.toInt _ = _ from rfl) (by have e9 : Int32.toInt 0 = 0 := rfl; omega)) ?_
                      show Ev _ _ _ (15, [(0, .ref 164), (1, .int 5), (2, .int 0)], [.int 1], hh) _
                      refine st_ifc (b := true) rfl (by decide) ?_
                      show Ev _ _ _ (21, _, _, _) _
                      refine sp_iload_n (p2 := 22) rfl rfl rfl ?_
                      refine st_ifc (b := false) rfl (by decide) ?_
                      show Ev _ _ _ (25, _, _, _) _
                      refine sp_aload_n (p2 := 26) rfl rfl rfl ?_
                      refine st_get rfl hh_148 rfl ?_
                      show Ev _ _ _ (29, _, _, _) _
                      refine sp_iload_n (p2 := 30) rfl rfl rfl ?_
                      refine st_iald (x := 5) rfl (by decide) hh_153 rfl rfl ?_
                      show Ev _ _ _ (31, _, _, _) _
                      refine sp_goto rfl ?_
                      exact sp_iret rfl rfl
        · by_cases h5 : x2.toInt ≤ 1
          · obtain rfl : x2 = 1 := i32_ext (by have e9 : Int32.toInt 1 = 1 := rfl; omega)
            by_cases h6 : x1.toInt ≤ 0
            · obtain rfl : x1 = 0 := i32_ext (by have e9 : Int32.toInt 0 = 0 := rfl; omega)
              refine ⟨.int 1, hh, hh, ?_, ?_⟩
              · refine ca_of (d := 19) (M := mX11_kindTold) rfl (Nat.le_of_ble_eq_true rfl) ?_
                show Ev im_K0 19 mX11_kindTold (0, [(0, .ref 16), (1, .int 0), (2, .int 1)], [], hh) _
                refine sp_iload_n (p2 := 1) rfl rfl rfl ?_
                refine sp_bipush (p2 := 3) (x := 6) rfl rfl (by decide) ?_
                refine st_callS rfl rfl rfl (cl_within_T (n := 0) (b := 6) (show Int32.toInt _ = _ from rfl) (by have e9 : Int32.toInt 0 = 0 := rfl; omega)) ?_
                show Ev _ _ _ (6, [(0, .ref 16), (1, .int 0), (2, .int 1)], [.int 1], hh) _
                refine st_ifc (b := true) rfl (by decide) ?_
                show Ev _ _ _ (12, _, _, _) _
                refine sp_iload_n (p2 := 13) rfl rfl rfl ?_
                refine sp_tsIn (k := 1) (p2 := 50) rfl (by decide) (by decide) (by decide) rfl (by decide) ?_
                refine sp_gst (p2 := 53) rfl rfl (by decide) ?_
                refine sp_iload_n (p2 := 54) rfl rfl rfl ?_
                refine st_isld (x := 1) rfl (by decide) rfl rfl rfl ?_
                show Ev _ _ _ (55, _, _, _) _
                exact sp_iret rfl rfl
              · refine ca_of (d := 19) (M := mX12_kindTold) rfl (Nat.le_of_ble_eq_true rfl) ?_
                show Ev im_K0 19 mX12_kindTold (0, [(0, .ref 164), (1, .int 0), (2, .int 1)], [], hh) _
                refine sp_iload_n (p2 := 1) rfl rfl rfl ?_
                refine sp_iconst (p2 := 2) (x := 0) rfl rfl (by decide) ?_
                refine sp_iconst (p2 := 3) (x := 5) rfl rfl (by decide) ?_
                refine st_callS rfl rfl rfl (cl_in_T (n := 0) (a := 0) (b := 5) (show Int32.toInt _ = _ from rfl) (show Int32.toInt _ = _ from rfl) (by have e9 : Int32.toInt 0 = 0 := rfl; omega)) ?_
                show Ev _ _ _ (6, [(0, .ref 164), (1, .int 0), (2, .int 1)], [.int 1], hh) _
                refine st_ifc (b := false) rfl (by decide) ?_
                show Ev _ _ _ (9, _, _, _) _
                refine sp_iload_n (p2 := 10) rfl rfl rfl ?_
                refine sp_iconst (p2 := 11) (x := 0) rfl rfl (by decide) ?_
                refine sp_iconst (p2 := 12) (x := 3) rfl rfl (by decide) ?_
                refine st_callS rfl rfl rfl (cl_in_T (n := 1) (a := 0) (b := 3) (show Int32.toInt _ = _ from rfl) (show Int32.toInt _ = _ from rfl) (by have e9 : Int32.toInt 1 = 1 := rfl; omega)) ?_
                show Ev _ _ _ (15, [(0, .ref 164), (1, .int 0), (2, .int 1)], [.int 1], hh) _
                refine st_ifc (b := true) rfl (by decide) ?_
                show Ev _ _ _ (21, _, _, _) _
                refine sp_iload_n (p2 := 22) rfl rfl rfl ?_
                refine st_ifc (b := true) rfl (by decide) ?_
                show Ev _ _ _ (34, _, _, _) _
                refine sp_iload_n (p2 := 35) rfl rfl rfl ?_
                refine sp_iconst (p2 := 36) (x := 1) rfl rfl (by decide) ?_
                refine st_icmp (b := false) rfl (by decide) ?_
                show Ev _ _ _ (39, _, _, _) _
                refine sp_aload_n (p2 := 40) rfl rfl rfl ?_
                refine st_get rfl hh_148 rfl ?_
                show Ev _ _ _ (43, _, _, _) _
                refine sp_iload_n (p2 := 44) rfl rfl rfl ?_
                refine st_iald (x := 1) rfl (by decide) hh_154 rfl rfl ?_
                show Ev _ _ _ (45, _, _, _) _
                refine sp_goto rfl ?_
                exact sp_iret rfl rfl
            · by_cases h7 : x1.toInt ≤ 1
              · obtain rfl : x1 = 1 := i32_ext (by have e9 : Int32.toInt 1 = 1 := rfl; omega)
                refine ⟨.int 4, hh, hh, ?_, ?_⟩
                · refine ca_of (d := 19) (M := mX11_kindTold) rfl (Nat.le_of_ble_eq_true rfl) ?_
                  show Ev im_K0 19 mX11_kindTold (0, [(0, .ref 16), (1, .int 1), (2, .int 1)], [], hh) _
                  refine sp_iload_n (p2 := 1) rfl rfl rfl ?_
                  refine sp_bipush (p2 := 3) (x := 6) rfl rfl (by decide) ?_
                  refine st_callS rfl rfl rfl (cl_within_T (n := 1) (b := 6) (show Int32.toInt _ = _ from rfl) (by have e9 : Int32.toInt 1 = 1 := rfl; omega)) ?_
                  show Ev _ _ _ (6, [(0, .ref 16), (1, .int 1), (2, .int 1)], [.int 1], hh) _
                  refine st_ifc (b := true) rfl (by decide) ?_
                  show Ev _ _ _ (12, _, _, _) _
                  refine sp_iload_n (p2 := 13) rfl rfl rfl ?_
                  refine sp_tsIn (k := 1) (p2 := 50) rfl (by decide) (by decide) (by decide) rfl (by decide) ?_
                  refine sp_gst (p2 := 53) rfl rfl (by decide) ?_
                  refine sp_iload_n (p2 := 54) rfl rfl rfl ?_
                  refine st_isld (x := 4) rfl (by decide) rfl rfl rfl ?_
                  show Ev _ _ _ (55, _, _, _) _
                  exact sp_iret rfl rfl
                · refine ca_of (d := 19) (M := mX12_kindTold) rfl (Nat.le_of_ble_eq_true rfl) ?_
                  show Ev im_K0 19 mX12_kindTold (0, [(0, .ref 164), (1, .int 1), (2, .int 1)], [], hh) _
                  refine sp_iload_n (p2 := 1) rfl rfl rfl ?_
                  refine sp_iconst (p2 := 2) (x := 0) rfl rfl (by decide) ?_
                  refine sp_iconst (p2 := 3) (x := 5) rfl rfl (by decide) ?_
                  refine st_callS rfl rfl rfl (cl_in_T (n := 1) (a := 0) (b := 5) (show Int32.toInt _ = _ from rfl) (show Int32.toInt _ = _ from rfl) (by have e9 : Int32.toInt 1 = 1 := rfl; omega)) ?_
                  show Ev _ _ _ (6, [(0, .ref 164), (1, .int 1), (2, .int 1)], [.int 1], hh) _
                  refine st_ifc (b := false) rfl (by decide) ?_
                  show Ev _ _ _ (9, _, _, _) _
                  refine sp_iload_n (p2 := 10) rfl rfl rfl ?_
                  refine sp_iconst (p2 := 11) (x := 0) rfl rfl (by decide) ?_
                  refine sp_iconst (p2 := 12) (x := 3) rfl rfl (by decide) ?_
                  refine st_callS rfl rfl rfl (cl_in_T (n := 1) (a := 0) (b := 3) (show Int32.toInt _ = _ from rfl) (show Int32.toInt _ = _ from rfl) (by have e9 : Int32.toInt 1 = 1 := rfl; omega)) ?_
                  show Ev _ _ _ (15, [(0, .ref 164), (1, .int 1), (2, .int 1)], [.int 1], hh) _
                  refine st_ifc (b := true) rfl (by decide) ?_
                  show Ev _ _ _ (21, _, _, _) _
                  refine sp_iload_n (p2 := 22) rfl rfl rfl ?_
                  refine st_ifc (b := true) rfl (by decide) ?_
                  show Ev _ _ _ (34, _, _, _) _
                  refine sp_iload_n (p2 := 35) rfl rfl rfl ?_
                  refine sp_iconst (p2 := 36) (x := 1) rfl rfl (by decide) ?_
                  refine st_icmp (b := false) rfl (by decide) ?_
                  show Ev _ _ _ (39, _, _, _) _
                  refine sp_aload_n (p2 := 40) rfl rfl rfl ?_
                  refine st_get rfl hh_148 rfl ?_
                  show Ev _ _ _ (43, _, _, _) _
                  refine sp_iload_n (p2 := 44) rfl rfl rfl ?_
                  refine st_iald (x := 4) rfl (by decide) hh_154 rfl rfl ?_
                  show Ev _ _ _ (45, _, _, _) _
                  refine sp_goto rfl ?_
                  exact sp_iret rfl rfl
              · by_cases h8 : x1.toInt ≤ 2
                · obtain rfl : x1 = 2 := i32_ext (by have e9 : Int32.toInt 2 = 2 := rfl; omega)
                  refine ⟨.int 1, hh, hh, ?_, ?_⟩
                  · refine ca_of (d := 19) (M := mX11_kindTold) rfl (Nat.le_of_ble_eq_true rfl) ?_
                    show Ev im_K0 19 mX11_kindTold (0, [(0, .ref 16), (1, .int 2), (2, .int 1)], [], hh) _
                    refine sp_iload_n (p2 := 1) rfl rfl rfl ?_
                    refine sp_bipush (p2 := 3) (x := 6) rfl rfl (by decide) ?_
                    refine st_callS rfl rfl rfl (cl_within_T (n := 2) (b := 6) (show Int32.toInt _ = _ from rfl) (by have e9 : Int32.toInt 2 = 2 := rfl; omega)) ?_
                    show Ev _ _ _ (6, [(0, .ref 16), (1, .int 2), (2, .int 1)], [.int 1], hh) _
                    refine st_ifc (b := true) rfl (by decide) ?_
                    show Ev _ _ _ (12, _, _, _) _
                    refine sp_iload_n (p2 := 13) rfl rfl rfl ?_
                    refine sp_tsIn (k := 1) (p2 := 50) rfl (by decide) (by decide) (by decide) rfl (by decide) ?_
                    refine sp_gst (p2 := 53) rfl rfl (by decide) ?_
                    refine sp_iload_n (p2 := 54) rfl rfl rfl ?_
                    refine st_isld (x := 1) rfl (by decide) rfl rfl rfl ?_
                    show Ev _ _ _ (55, _, _, _) _
                    exact sp_iret rfl rfl
                  · refine ca_of (d := 19) (M := mX12_kindTold) rfl (Nat.le_of_ble_eq_true rfl) ?_
                    show Ev im_K0 19 mX12_kindTold (0, [(0, .ref 164), (1, .int 2), (2, .int 1)], [], hh) _
                    refine sp_iload_n (p2 := 1) rfl rfl rfl ?_
                    refine sp_iconst (p2 := 2) (x := 0) rfl rfl (by decide) ?_
                    refine sp_iconst (p2 := 3) (x := 5) rfl rfl (by decide) ?_
                    refine st_callS rfl rfl rfl (cl_in_T (n := 2) (a := 0) (b := 5) (show Int32.toInt _ = _ from rfl) (show Int32.toInt _ = _ from rfl) (by have e9 : Int32.toInt 2 = 2 := rfl; omega)) ?_
                    show Ev _ _ _ (6, [(0, .ref 164), (1, .int 2), (2, .int 1)], [.int 1], hh) _
                    refine st_ifc (b := false) rfl (by decide) ?_
                    show Ev _ _ _ (9, _, _, _) _
                    refine sp_iload_n (p2 := 10) rfl rfl rfl ?_
                    refine sp_iconst (p2 := 11) (x := 0) rfl rfl (by decide) ?_
                    refine sp_iconst (p2 := 12) (x := 3) rfl rfl (by decide) ?_
                    refine st_callS rfl rfl rfl (cl_in_T (n := 1) (a := 0) (b := 3) (show Int32.toInt _ = _ from rfl) (show Int32.toInt _ = _ from rfl) (by have e9 : Int32.toInt 1 = 1 := rfl; omega)) ?_
                    show Ev _ _ _ (15, [(0, .ref 164), (1, .int 2), (2, .int 1)], [.int 1], hh) _
                    refine st_ifc (b := true) rfl (by decide) ?_
                    show Ev _ _ _ (21, _, _, _) _
                    refine sp_iload_n (p2 := 22) rfl rfl rfl ?_
                    refine st_ifc (b := true) rfl (by decide) ?_
                    show Ev _ _ _ (34, _, _, _) _
                    refine sp_iload_n (p2 := 35) rfl rfl rfl ?_
                    refine sp_iconst (p2 := 36) (x := 1) rfl rfl (by decide) ?_
                    refine st_icmp (b := false) rfl (by decide) ?_
                    show Ev _ _ _ (39, _, _, _) _
                    refine sp_aload_n (p2 := 40) rfl rfl rfl ?_
                    refine st_get rfl hh_148 rfl ?_
                    show Ev _ _ _ (43, _, _, _) _
                    refine sp_iload_n (p2 := 44) rfl rfl rfl ?_
                    refine st_iald (x := 1) rfl (by decide) hh_154 rfl rfl ?_
                    show Ev _ _ _ (45, _, _, _) _
                    refine sp_goto rfl ?_
                    exact sp_iret rfl rfl
                · by_cases h9 : x1.toInt ≤ 3
                  · obtain rfl : x1 = 3 := i32_ext (by have e9 : Int32.toInt 3 = 3 := rfl; omega)
                    refine ⟨.int 4, hh, hh, ?_, ?_⟩
                    · refine ca_of (d := 19) (M := mX11_kindTold) rfl (Nat.le_of_ble_eq_true rfl) ?_
                      show Ev im_K0 19 mX11_kindTold (0, [(0, .ref 16), (1, .int 3), (2, .int 1)], [], hh) _
                      refine sp_iload_n (p2 := 1) rfl rfl rfl ?_
                      refine sp_bipush (p2 := 3) (x := 6) rfl rfl (by decide) ?_
                      refine st_callS rfl rfl rfl (cl_within_T (n := 3) (b := 6) (show Int32.toInt _ = _ from rfl) (by have e9 : Int32.toInt 3 = 3 := rfl; omega)) ?_
                      show Ev _ _ _ (6, [(0, .ref 16), (1, .int 3), (2, .int 1)], [.int 1], hh) _
                      refine st_ifc (b := true) rfl (by decide) ?_
                      show Ev _ _ _ (12, _, _, _) _
                      refine sp_iload_n (p2 := 13) rfl rfl rfl ?_
                      refine sp_tsIn (k := 1) (p2 := 50) rfl (by decide) (by decide) (by decide) rfl (by decide) ?_
                      refine sp_gst (p2 := 53) rfl rfl (by decide) ?_
                      refine sp_iload_n (p2 := 54) rfl rfl rfl ?_
                      refine st_isld (x := 4) rfl (by decide) rfl rfl rfl ?_
                      show Ev _ _ _ (55, _, _, _) _
                      exact sp_iret rfl rfl
                    · refine ca_of (d := 19) (M := mX12_kindTold) rfl (Nat.le_of_ble_eq_true rfl) ?_
                      show Ev im_K0 19 mX12_kindTold (0, [(0, .ref 164), (1, .int 3), (2, .int 1)], [], hh) _
                      refine sp_iload_n (p2 := 1) rfl rfl rfl ?_
                      refine sp_iconst (p2 := 2) (x := 0) rfl rfl (by decide) ?_
                      refine sp_iconst (p2 := 3) (x := 5) rfl rfl (by decide) ?_
                      refine st_callS rfl rfl rfl (cl_in_T (n := 3) (a := 0) (b := 5) (show Int32.toInt _ = _ from rfl) (show Int32.toInt _ = _ from rfl) (by have e9 : Int32.toInt 3 = 3 := rfl; omega)) ?_
                      show Ev _ _ _ (6, [(0, .ref 164), (1, .int 3), (2, .int 1)], [.int 1], hh) _
                      refine st_ifc (b := false) rfl (by decide) ?_
                      show Ev _ _ _ (9, _, _, _) _
                      refine sp_iload_n (p2 := 10) rfl rfl rfl ?_
                      refine sp_iconst (p2 := 11) (x := 0) rfl rfl (by decide) ?_
                      refine sp_iconst (p2 := 12) (x := 3) rfl rfl (by decide) ?_
                      refine st_callS rfl rfl rfl (cl_in_T (n := 1) (a := 0) (b := 3) (show Int32.toInt _ = _ from rfl) (show Int32.toInt _ = _ from rfl) (by have e9 : Int32.toInt 1 = 1 := rfl; omega)) ?_
                      show Ev _ _ _ (15, [(0, .ref 164), (1, .int 3), (2, .int 1)], [.int 1], hh) _
                      refine st_ifc (b := true) rfl (by decide) ?_
                      show Ev _ _ _ (21, _, _, _) _
                      refine sp_iload_n (p2 := 22) rfl rfl rfl ?_
                      refine st_ifc (b := true) rfl (by decide) ?_
                      show Ev _ _ _ (34, _, _, _) _
                      refine sp_iload_n (p2 := 35) rfl rfl rfl ?_
                      refine sp_iconst (p2 := 36) (x := 1) rfl rfl (by decide) ?_
                      refine st_icmp (b := false) rfl (by decide) ?_
                      show Ev _ _ _ (39, _, _, _) _
                      refine sp_aload_n (p2 := 40) rfl rfl rfl ?_
                      refine st_get rfl hh_148 rfl ?_
                      show Ev _ _ _ (43, _, _, _) _
                      refine sp_iload_n (p2 := 44) rfl rfl rfl ?_
                      refine st_iald (x := 4) rfl (by decide) hh_154 rfl rfl ?_
                      show Ev _ _ _ (45, _, _, _) _
                      refine sp_goto rfl ?_
                      exact sp_iret rfl rfl
                  · by_cases h10 : x1.toInt ≤ 4
                    · obtain rfl : x1 = 4 := i32_ext (by have e9 : Int32.toInt 4 = 4 := rfl; omega)
                      refine ⟨.int 7, hh, hh, ?_, ?_⟩
                      · refine ca_of (d := 19) (M := mX11_kindTold) rfl (Nat.le_of_ble_eq_true rfl) ?_
                        show Ev im_K0 19 mX11_kindTold (0, [(0, .ref 16), (1, .int 4), (2, .int 1)], [], hh) _
                        refine sp_iload_n (p2 := 1) rfl rfl rfl ?_
                        refine sp_bipush (p2 := 3) (x := 6) rfl rfl (by decide) ?_
                        refine st_callS rfl rfl rfl (cl_within_T (n := 4) (b := 6) (show Int32.toInt _ = _ from rfl) (by have e9 : Int32.toInt 4 = 4 := rfl; omega)) ?_
                        show Ev _ _ _ (6, [(0, .ref 16), (1, .int 4), (2, .int 1)], [.int 1], hh) _
                        refine st_ifc (b := true) rfl (by decide) ?_
                        show Ev _ _ _ (12, _, _, _) _
                        refine sp_iload_n (p2 := 13) rfl rfl rfl ?_
                        refine sp_tsIn (k := 1) (p2 := 50) rfl (by decide) (by decide) (by decide) rfl (by decide) ?_
                        refine sp_gst (p2 := 53) rfl rfl (by decide) ?_
                        refine sp_iload_n (p2 := 54) rfl rfl rfl ?_
                        refine st_isld (x := 7) rfl (by decide) rfl rfl rfl ?_
                        show Ev _ _ _ (55, _, _, _) _
                        exact sp_iret rfl rfl
                      · refine ca_of (d := 19) (M := mX12_kindTold) rfl (Nat.le_of_ble_eq_true rfl) ?_
                        show Ev im_K0 19 mX12_kindTold (0, [(0, .ref 164), (1, .int 4), (2, .int 1)], [], hh) _
                        refine sp_iload_n (p2 := 1) rfl rfl rfl ?_
                        refine sp_iconst (p2 := 2) (x := 0) rfl rfl (by decide) ?_
                        refine sp_iconst (p2 := 3) (x := 5) rfl rfl (by decide) ?_
                        refine st_callS rfl rfl rfl (cl_in_T (n := 4) (a := 0) (b := 5) (show Int32.toInt _ = _ from rfl) (show Int32.toInt _ = _ from rfl) (by have e9 : Int32.toInt 4 = 4 := rfl; omega)) ?_
                        show Ev _ _ _ (6, [(0, .ref 164), (1, .int 4), (2, .int 1)], [.int 1], hh) _
                        refine st_ifc (b := false) rfl (by decide) ?_
                        show Ev _ _ _ (9, _, _, _) _
                        refine sp_iload_n (p2 := 10) rfl rfl rfl ?_
                        refine sp_iconst (p2 := 11) (x := 0) rfl rfl (by decide) ?_
                        refine sp_iconst (p2 := 12) (x := 3) rfl rfl (by decide) ?_
                        refine st_callS rfl rfl rfl (cl_in_T (n := 1) (a := 0) (b := 3) (show Int32.toInt _ = _ from rfl) (show Int32.toInt _ = _ from rfl) (by have e9 : Int32.toInt 1 = 1 := rfl; omega)) ?_
                        show Ev _ _ _ (15, [(0, .ref 164), (1, .int 4), (2, .int 1)], [.int 1], hh) _
                        refine st_ifc (b := true) rfl (by decide) ?_
                        show Ev _ _ _ (21, _, _, _) _
                        refine sp_iload_n (p2 := 22) rfl rfl rfl ?_
                        refine st_ifc (b := true) rfl (by decide) ?_
                        show Ev _ _ _ (34, _, _, _) _
                        refine sp_iload_n (p2 := 35) rfl rfl rfl ?_
                        refine sp_iconst (p2 := 36) (x := 1) rfl rfl (by decide) ?_
                        refine st_icmp (b := false) rfl (by decide) ?_
                        show Ev _ _ _ (39, _, _, _) _
                        refine sp_aload_n (p2 := 40) rfl rfl rfl ?_
                        refine st_get rfl hh_148 rfl ?_
                        show Ev _ _ _ (43, _, _, _) _
                        refine sp_iload_n (p2 := 44) rfl rfl rfl ?_
                        refine st_iald (x := 7) rfl (by decide) hh_154 rfl rfl ?_
                        show Ev _ _ _ (45, _, _, _) _
                        refine sp_goto rfl ?_
                        exact sp_iret rfl rfl
                    · obtain rfl : x1 = 5 := i32_ext (by have e9 : Int32.toInt 5 = 5 := rfl; omega)
                      refine ⟨.int 4, hh, hh, ?_, ?_⟩
                      · refine ca_of (d := 19) (M := mX11_kindTold) rfl (Nat.le_of_ble_eq_true rfl) ?_
                        show Ev im_K0 19 mX11_kindTold (0, [(0, .ref 16), (1, .int 5), (2, .int 1)], [], hh) _
                        refine sp_iload_n (p2 := 1) rfl rfl rfl ?_
                        refine sp_bipush (p2 := 3) (x := 6) rfl rfl (by decide) ?_
                        refine st_callS rfl rfl rfl (cl_within_T (n := 5) (b := 6) (show Int32.toInt _ = _ from rfl) (by have e9 : Int32.toInt 5 = 5 := rfl; omega)) ?_
                        show Ev _ _ _ (6, [(0, .ref 16), (1, .int 5), (2, .int 1)], [.int 1], hh) _
                        refine st_ifc (b := true) rfl (by decide) ?_
                        show Ev _ _ _ (12, _, _, _) _
                        refine sp_iload_n (p2 := 13) rfl rfl rfl ?_
                        refine sp_tsIn (k := 1) (p2 := 50) rfl (by decide) (by decide) (by decide) rfl (by decide) ?_
                        refine sp_gst (p2 := 53) rfl rfl (by decide) ?_
                        refine sp_iload_n (p2 := 54) rfl rfl rfl ?_
                        refine st_isld (x := 4) rfl (by decide) rfl rfl rfl ?_
                        show Ev _ _ _ (55, _, _, _) _
                        exact sp_iret rfl rfl
                      · refine ca_of (d := 19) (M := mX12_kindTold) rfl (Nat.le_of_ble_eq_true rfl) ?_
                        show Ev im_K0 19 mX12_kindTold (0, [(0, .ref 164), (1, .int 5), (2, .int 1)], [], hh) _
                        refine sp_iload_n (p2 := 1) rfl rfl rfl ?_
                        refine sp_iconst (p2 := 2) (x := 0) rfl rfl (by decide) ?_
                        refine sp_iconst (p2 := 3) (x := 5) rfl rfl (by decide) ?_
                        refine st_callS rfl rfl rfl (cl_in_T (n := 5) (a := 0) (b := 5) (show Int32.toInt _ = _ from rfl) (show Int32.toInt _ = _ from rfl) (by have e9 : Int32.toInt 5 = 5 := rfl; omega)) ?_
                        show Ev _ _ _ (6, [(0, .ref 164), (1, .int 5), (2, .int 1)], [.int 1], hh) _
                        refine st_ifc (b := false) rfl (by decide) ?_
                        show Ev _ _ _ (9, _, _, _) _
                        refine sp_iload_n (p2 := 10) rfl rfl rfl ?_
                        refine sp_iconst (p2 := 11) (x := 0) rfl rfl (by decide) ?_
                        refine sp_iconst (p2 := 12) (x := 3) rfl rfl (by decide) ?_
                        refine st_callS rfl rfl rfl (cl_in_T (n := 1) (a := 0) (b := 3) (show Int32.toInt _ = _ from rfl) (show Int32.toInt _ = _ from rfl) (by have e9 : Int32.toInt 1 = 1 := rfl; omega)) ?_
                        show Ev _ _ _ (15, [(0, .ref 164), (1, .int 5), (2, .int 1)], [.int 1], hh) _
                        refine st_ifc (b := true) rfl (by decide) ?_
                        show Ev _ _ _ (21, _, _, _) _
                        refine sp_iload_n (p2 := 22) rfl rfl rfl ?_
                        refine st_ifc (b := true) rfl (by decide) ?_
                        show Ev _ _ _ (34, _, _, _) _
                        refine sp_iload_n (p2 := 35) rfl rfl rfl ?_
                        refine sp_iconst (p2 := 36) (x := 1) rfl rfl (by decide) ?_
                        refine st_icmp (b := false) rfl (by decide) ?_
                        show Ev _ _ _ (39, _, _, _) _
                        refine sp_aload_n (p2 := 40) rfl rfl rfl ?_
                        refine st_get rfl hh_148 rfl ?_
                        show Ev _ _ _ (43, _, _, _) _
                        refine sp_iload_n (p2 := 44) rfl rfl rfl ?_
                        refine st_iald (x := 4) rfl (by decide) hh_154 rfl rfl ?_
                        show Ev _ _ _ (45, _, _, _) _
                        refine sp_goto rfl ?_
                        exact sp_iret rfl rfl
          · by_cases h6 : x2.toInt ≤ 2
            · obtain rfl : x2 = 2 := i32_ext (by have e9 : Int32.toInt 2 = 2 := rfl; omega)
              by_cases h7 : x1.toInt ≤ 0
              · obtain rfl : x1 = 0 := i32_ext (by have e9 : Int32.toInt 0 = 0 := rfl; omega)
                refine ⟨.int 0, hh, hh, ?_, ?_⟩
                · refine ca_of (d := 19) (M := mX11_kindTold) rfl (Nat.le_of_ble_eq_true rfl) ?_
                  show Ev im_K0 19 mX11_kindTold (0, [(0, .ref 16), (1, .int 0), (2, .int 2)], [], hh) _
                  refine sp_iload_n (p2 := 1) rfl rfl rfl ?_
                  refine sp_bipush (p2 := 3) (x := 6) rfl rfl (by decide) ?_
                  refine st_callS rfl rfl rfl (cl_within_T (n := 0) (b := 6) (show Int32.toInt _ = _ from rfl) (by have e9 : Int32.toInt 0 = 0 := rfl; omega)) ?_
                  show Ev _ _ _ (6, [(0, .ref 16), (1, .int 0), (2, .int 2)], [.int 1], hh) _
                  refine st_ifc (b := true) rfl (by decide) ?_
                  show Ev _ _ _ (12, _, _, _) _
                  refine sp_iload_n (p2 := 13) rfl rfl rfl ?_
                  refine sp_tsIn (k := 2) (p2 := 56) rfl (by decide) (by decide) (by decide) rfl (by decide) ?_
                  refine sp_gst (p2 := 59) rfl rfl (by decide) ?_
                  refine sp_iload_n (p2 := 60) rfl rfl rfl ?_
                  refine st_isld (x := 0) rfl (by decide) rfl rfl rfl ?_
                  show Ev _ _ _ (61, _, _, _) _
                  exact sp_iret rfl rfl
                · refine ca_of (d := 19) (M := mX12_kindTold) rfl (Nat.le_of_ble_eq_true rfl) ?_
                  show Ev im_K0 19 mX12_kindTold (0, [(0, .ref 164), (1, .int 0), (2, .int 2)], [], hh) _
                  refine sp_iload_n (p2 := 1) rfl rfl rfl ?_
                  refine sp_iconst (p2 := 2) (x := 0) rfl rfl (by decide) ?_
                  refine sp_iconst (p2 := 3) (x := 5) rfl rfl (by decide) ?_
                  refine st_callS rfl rfl rfl (cl_in_T (n := 0) (a := 0) (b := 5) (show Int32.toInt _ = _ from rfl) (show Int32.toInt _ = _ from rfl) (by have e9 : Int32.toInt 0 = 0 := rfl; omega)) ?_
                  show Ev _ _ _ (6, [(0, .ref 164), (1, .int 0), (2, .int 2)], [.int 1], hh) _
                  refine st_ifc (b := false) rfl (by decide) ?_
                  show Ev _ _ _ (9, _, _, _) _
                  refine sp_iload_n (p2 := 10) rfl rfl rfl ?_
                  refine sp_iconst (p2 := 11) (x := 0) rfl rfl (by decide) ?_
                  refine sp_iconst (p2 := 12) (x := 3) rfl rfl (by decide) ?_
                  refine st_callS rfl rfl rfl (cl_in_T (n := 2) (a := 0) (b := 3) (show Int32.toInt _ = _ from rfl) (show Int32.toInt _ = _ from rfl) (by have e9 : Int32.toInt 2 = 2 := rfl; omega)) ?_
                  show Ev _ _ _ (15, [(0, .ref 164), (1, .int 0), (2, .int 2)], [.int 1], hh) _
                  refine st_ifc (b := true) rfl (by decide) ?_
                  show Ev _ _ _ (21, _, _, _) _
                  refine sp_iload_n (p2 := 22) rfl rfl rfl ?_
                  refine st_ifc (b := true) rfl (by decide) ?_
                  show Ev _ _ _ (34, _, _, _) _
                  refine sp_iload_n (p2 := 35) rfl rfl rfl ?_
                  refine sp_iconst (p2 := 36) (x := 1) rfl rfl (by decide) ?_
                  refine st_icmp (b := true) rfl (by decide) ?_
                  show Ev _ _ _ (48, _, _, _) _
                  refine sp_iload_n (p2 := 49) rfl rfl rfl ?_
                  refine sp_iconst (p2 := 50) (x := 2) rfl rfl (by decide) ?_
                  refine st_icmp (b := false) rfl (by decide) ?_
                  show Ev _ _ _ (53, _, _, _) _
                  refine sp_aload_n (p2 := 54) rfl rfl rfl ?_
                  refine st_get rfl hh_148 rfl ?_
                  show Ev _ _ _ (57, _, _, _) _
                  refine sp_iload_n (p2 := 58) rfl rfl rfl ?_
                  refine st_iald (x := 0) rfl (by decide) hh_155 rfl rfl ?_
                  show Ev _ _ _ (59, _, _, _) _
                  refine sp_goto rfl ?_
                  exact sp_iret rfl rfl
              · by_cases h8 : x1.toInt ≤ 1
                · obtain rfl : x1 = 1 := i32_ext (by have e9 : Int32.toInt 1 = 1 := rfl; omega)
                  refine ⟨.int 0, hh, hh, ?_, ?_⟩
                  · refine ca_of (d := 19) (M := mX11_kindTold) rfl (Nat.le_of_ble_eq_true rfl) ?_
                    show Ev im_K0 19 mX11_kindTold (0, [(0, .ref 16), (1, .int 1), (2, .int 2)], [], hh) _
                    refine sp_iload_n (p2 := 1) rfl rfl rfl ?_
                    refine sp_bipush (p2 := 3) (x := 6) rfl rfl (by decide) ?_
                    refine st_callS rfl rfl rfl (cl_within_T (n := 1) (b := 6) (show Int32.toInt _ = _ from rfl) (by have e9 : Int32.toInt 1 = 1 := rfl; omega)) ?_
                    show Ev _ _ _ (6, [(0, .ref 16), (1, .int 1), (2, .int 2)], [.int 1], hh) _
                    refine st_ifc (b := true) rfl (by decide) ?_
                    show Ev _ _ _ (12, _, _, _) _
                    refine sp_iload_n (p2 := 13) rfl rfl rfl ?_
                    refine sp_tsIn (k := 2) (p2 := 56) rfl (by decide) (by decide) (by decide) rfl (by decide) ?_
                    refine sp_gst (p2 := 59) rfl rfl (by decide) ?_
                    refine sp_iload_n (p2 := 60) rfl rfl rfl ?_
                    refine st_isld (x := 0) rfl (by decide) rfl rfl rfl ?_
                    show Ev _ _ _ (61, _, _, _) _
                    exact sp_iret rfl rfl
                  · refine ca_of (d := 19) (M := mX12_kindTold) rfl (Nat.le_of_ble_eq_true rfl) ?_
                    show Ev im_K0 19 mX12_kindTold (0, [(0, .ref 164), (1, .int 1), (2, .int 2)], [], hh) _
                    refine sp_iload_n (p2 := 1) rfl rfl rfl ?_
                    refine sp_iconst (p2 := 2) (x := 0) rfl rfl (by decide) ?_
                    refine sp_iconst (p2 := 3) (x := 5) rfl rfl (by decide) ?_
                    refine st_callS rfl rfl rfl (cl_in_T (n := 1) (a := 0) (b := 5) (show Int32.toInt _ = _ from rfl) (show Int32.toInt _ = _ from rfl) (by have e9 : Int32.toInt 1 = 1 := rfl; omega)) ?_
                    show Ev _ _ _ (6, [(0, .ref 164), (1, .int 1), (2, .int 2)], [.int 1], hh) _
                    refine st_ifc (b := false) rfl (by decide) ?_
                    show Ev _ _ _ (9, _, _, _) _
                    refine sp_iload_n (p2 := 10) rfl rfl rfl ?_
                    refine sp_iconst (p2 := 11) (x := 0) rfl rfl (by decide) ?_
                    refine sp_iconst (p2 := 12) (x := 3) rfl rfl (by decide) ?_
                    refine st_callS rfl rfl rfl (cl_in_T (n := 2) (a := 0) (b := 3) (show Int32.toInt _ = _ from rfl) (show Int32.toInt _ = _ from rfl) (by have e9 : Int32.toInt 2 = 2 := rfl; omega)) ?_
                    show Ev _ _ _ (15, [(0, .ref 164), (1, .int 1), (2, .int 2)], [.int 1], hh) _
                    refine st_ifc (b := true) rfl (by decide) ?_
                    show Ev _ _ _ (21, _, _, _) _
                    refine sp_iload_n (p2 := 22) rfl rfl rfl ?_
                    refine st_ifc (b := true) rfl (by decide) ?_
                    show Ev _ _ _ (34, _, _, _) _
                    refine sp_iload_n (p2 := 35) rfl rfl rfl ?_
                    refine sp_iconst (p2 := 36) (x := 1) rfl rfl (by decide) ?_
                    refine st_icmp (b := true) rfl (by decide) ?_
                    show Ev _ _ _ (48, _, _, _) _
                    refine sp_iload_n (p2 := 49) rfl rfl rfl ?_
                    refine sp_iconst (p2 := 50) (x := 2) rfl rfl (by decide) ?_
                    refine st_icmp (b := false) rfl (by decide) ?_
                    show Ev _ _ _ (53, _, _, _) _
                    refine sp_aload_n (p2 := 54) rfl rfl rfl ?_
                    refine st_get rfl hh_148 rfl ?_
                    show Ev _ _ _ (57, _, _, _) _
                    refine sp_iload_n (p2 := 58) rfl rfl rfl ?_
                    refine st_iald (x := 0) rfl (by decide) hh_155 rfl rfl ?_
                    show Ev _ _ _ (59, _, _, _) _
                    refine sp_goto rfl ?_
                    exact sp_iret rfl rfl
                · by_cases h9 : x1.toInt ≤ 2
                  · obtain rfl : x1 = 2 := i32_ext (by have e9 : Int32.toInt 2 = 2 := rfl; omega)
                    refine ⟨.int 5, hh, hh, ?_, ?_⟩
                    · refine ca_of (d := 19) (M := mX11_kindTold) rfl (Nat.le_of_ble_eq_true rfl) ?_
                      show Ev im_K0 19 mX11_kindTold (0, [(0, .ref 16), (1, .int 2), (2, .int 2)], [], hh) _
                      refine sp_iload_n (p2 := 1) rfl rfl rfl ?_
                      refine sp_bipush (p2 := 3) (x := 6) rfl rfl (by decide) ?_
                      refine st_callS rfl rfl rfl (cl_within_T (n := 2) (b := 6) (show Int32.toInt _ = _ from rfl) (by have e9 : Int32.toInt 2 = 2 := rfl; omega)) ?_
                      show Ev _ _ _ (6, [(0, .ref 16), (1, .int 2), (2, .int 2)], [.int 1], hh) _
                      refine st_ifc (b := true) rfl (by decide) ?_
                      show Ev _ _ _ (12, _, _, _) _
                      refine sp_iload_n (p2 := 13) rfl rfl rfl ?_
                      refine sp_tsIn (k := 2) (p2 := 56) rfl (by decide) (by decide) (by decide) rfl (by decide) ?_
                      refine sp_gst (p2 := 59) rfl rfl (by decide) ?_
                      refine sp_iload_n (p2 := 60) rfl rfl rfl ?_
                      refine st_isld (x := 5) rfl (by decide) rfl rfl rfl ?_
                      show Ev _ _ _ (61, _, _, _) _
                      exact sp_iret rfl rfl
                    · refine ca_of (d := 19) (M := mX12_kindTold) rfl (Nat.le_of_ble_eq_true rfl) ?_
                      show Ev im_K0 19 mX12_kindTold (0, [(0, .ref 164), (1, .int 2), (2, .int 2)], [], hh) _
                      refine sp_iload_n (p2 := 1) rfl rfl rfl ?_
                      refine sp_iconst (p2 := 2) (x := 0) rfl rfl (by decide) ?_
                      refine sp_iconst (p2 := 3) (x := 5) rfl rfl (by decide) ?_
                      refine st_callS rfl rfl rfl (cl_in_T (n := 2) (a := 0) (b := 5) (show Int32.toInt _ = _ from rfl) (show Int32.toInt _ = _ from rfl) (by have e9 : Int32.toInt 2 = 2 := rfl; omega)) ?_
                      show Ev _ _ _ (6, [(0, .ref 164), (1, .int 2), (2, .int 2)], [.int 1], hh) _
                      refine st_ifc (b := false) rfl (by decide) ?_
                      show Ev _ _ _ (9, _, _, _) _
                      refine sp_iload_n (p2 := 10) rfl rfl rfl ?_
                      refine sp_iconst (p2 := 11) (x := 0) rfl rfl (by decide) ?_
                      refine sp_iconst (p2 := 12) (x := 3) rfl rfl (by decide) ?_
                      refine st_callS rfl rfl rfl (cl_in_T (n := 2) (a := 0) (b := 3) (show Int32.toInt _ = _ from rfl) (show Int32.toInt _ = _ from rfl) (by have e9 : Int32.toInt 2 = 2 := rfl; omega)) ?_
                      show Ev _ _ _ (15, [(0, .ref 164), (1, .int 2), (2, .int 2)], [.int 1], hh) _
                      refine st_ifc (b := true) rfl (by decide) ?_
                      show Ev _ _ _ (21, _, _, _) _
                      refine sp_iload_n (p2 := 22) rfl rfl rfl ?_
                      refine st_ifc (b := true) rfl (by decide) ?_
                      show Ev _ _ _ (34, _, _, _) _
                      refine sp_iload_n (p2 := 35) rfl rfl rfl ?_
                      refine sp_iconst (p2 := 36) (x := 1) rfl rfl (by decide) ?_
                      refine st_icmp (b := true) rfl (by decide) ?_
                      show Ev _ _ _ (48, _, _, _) _
                      refine sp_iload_n (p2 := 49) rfl rfl rfl ?_
                      refine sp_iconst (p2 := 50) (x := 2) rfl rfl (by decide) ?_
                      refine st_icmp (b := false) rfl (by decide) ?_
                      show Ev _ _ _ (53, _, _, _) _
                      refine sp_aload_n (p2 := 54) rfl rfl rfl ?_
                      refine st_get rfl hh_148 rfl ?_
                      show Ev _ _ _ (57, _, _, _) _
                      refine sp_iload_n (p2 := 58) rfl rfl rfl ?_
                      refine st_iald (x := 5) rfl (by decide) hh_155 rfl rfl ?_
                      show Ev _ _ _ (59, _, _, _) _
                      refine sp_goto rfl ?_
                      exact sp_iret rfl rfl
                  · by_cases h10 : x1.toInt ≤ 3
                    · obtain rfl : x1 = 3 := i32_ext (by have e9 : Int32.toInt 3 = 3 := rfl; omega)
                      refine ⟨.int 0, hh, hh, ?_, ?_⟩
                      · refine ca_of (d := 19) (M := mX11_kindTold) rfl (Nat.le_of_ble_eq_true rfl) ?_
                        show Ev im_K0 19 mX11_kindTold (0, [(0, .ref 16), (1, .int 3), (2, .int 2)], [], hh) _
                        refine sp_iload_n (p2 := 1) rfl rfl rfl ?_
                        refine sp_bipush (p2 := 3) (x := 6) rfl rfl (by decide) ?_
                        refine st_callS rfl rfl rfl (cl_within_T (n := 3) (b := 6) (show Int32.toInt _ = _ from rfl) (by have e9 : Int32.toInt 3 = 3 := rfl; omega)) ?_
                        show Ev _ _ _ (6, [(0, .ref 16), (1, .int 3), (2, .int 2)], [.int 1], hh) _
                        refine st_ifc (b := true) rfl (by decide) ?_
                        show Ev _ _ _ (12, _, _, _) _
                        refine sp_iload_n (p2 := 13) rfl rfl rfl ?_
                        refine sp_tsIn (k := 2) (p2 := 56) rfl (by decide) (by decide) (by decide) rfl (by decide) ?_
                        refine sp_gst (p2 := 59) rfl rfl (by decide) ?_
                        refine sp_iload_n (p2 := 60) rfl rfl rfl ?_
                        refine st_isld (x := 0) rfl (by decide) rfl rfl rfl ?_
                        show Ev _ _ _ (61, _, _, _) _
                        exact sp_iret rfl rfl
                      · refine ca_of (d := 19) (M := mX12_kindTold) rfl (Nat.le_of_ble_eq_true rfl) ?_
                        show Ev im_K0 19 mX12_kindTold (0, [(0, .ref 164), (1, .int 3), (2, .int 2)], [], hh) _
                        refine sp_iload_n (p2 := 1) rfl rfl rfl ?_
                        refine sp_iconst (p2 := 2) (x := 0) rfl rfl (by decide) ?_
                        refine sp_iconst (p2 := 3) (x := 5) rfl rfl (by decide) ?_
                        refine st_callS rfl rfl rfl (cl_in_T (n := 3) (a := 0) (b := 5) (show Int32.toInt _ = _ from rfl) (show Int32.toInt _ = _ from rfl) (by have e9 : Int32.toInt 3 = 3 := rfl; omega)) ?_
                        show Ev _ _ _ (6, [(0, .ref 164), (1, .int 3), (2, .int 2)], [.int 1], hh) _
                        refine st_ifc (b := false) rfl (by decide) ?_
                        show Ev _ _ _ (9, _, _, _) _
                        refine sp_iload_n (p2 := 10) rfl rfl rfl ?_
                        refine sp_iconst (p2 := 11) (x := 0) rfl rfl (by decide) ?_
                        refine sp_iconst (p2 := 12) (x := 3) rfl rfl (by decide) ?_
                        refine st_callS rfl rfl rfl (cl_in_T (n := 2) (a := 0) (b := 3) (show Int32.toInt _ = _ from rfl) (show Int32.toInt _ = _ from rfl) (by have e9 : Int32.toInt 2 = 2 := rfl; omega)) ?_
                        show Ev _ _ _ (15, [(0, .ref 164), (1, .int 3), (2, .int 2)], [.int 1], hh) _
                        refine st_ifc (b := true) rfl (by decide) ?_
                        show Ev _ _ _ (21, _, _, _) _
                        refine sp_iload_n (p2 := 22) rfl rfl rfl ?_
                        refine st_ifc (b := true) rfl (by decide) ?_
                        show Ev _ _ _ (34, _, _, _) _
                        refine sp_iload_n (p2 := 35) rfl rfl rfl ?_
                        refine sp_iconst (p2 := 36) (x := 1) rfl rfl (by decide) ?_
                        refine st_icmp (b := true) rfl (by decide) ?_
                        show Ev _ _ _ (48, _, _, _) _
                        refine sp_iload_n (p2 := 49) rfl rfl rfl ?_
                        refine sp_iconst (p2 := 50) (x := 2) rfl rfl (by decide) ?_
                        refine st_icmp (b := false) rfl (by decide) ?_
                        show Ev _ _ _ (53, _, _, _) _
                        refine sp_aload_n (p2 := 54) rfl rfl rfl ?_
                        refine st_get rfl hh_148 rfl ?_
                        show Ev _ _ _ (57, _, _, _) _
                        refine sp_iload_n (p2 := 58) rfl rfl rfl ?_
                        refine st_iald (x := 0) rfl (by decide) hh_155 rfl rfl ?_
                        show Ev _ _ _ (59, _, _, _) _
                        refine sp_goto rfl ?_
                        exact sp_iret rfl rfl
                    · by_cases h11 : x1.toInt ≤ 4
                      · obtain rfl : x1 = 4 := i32_ext (by have e9 : Int32.toInt 4 = 4 := rfl; omega)
                        refine ⟨.int 5, hh, hh, ?_, ?_⟩
                        · refine ca_of (d := 19) (M := mX11_kindTold) rfl (Nat.le_of_ble_eq_true rfl) ?_
                          show Ev im_K0 19 mX11_kindTold (0, [(0, .ref 16), (1, .int 4), (2, .int 2)], [], hh) _
                          refine sp_iload_n (p2 := 1) rfl rfl rfl ?_
                          refine sp_bipush (p2 := 3) (x := 6) rfl rfl (by decide) ?_
                          refine st_callS rfl rfl rfl (cl_within_T (n := 4) (b := 6) (show Int32.toInt _ = _ from rfl) (by have e9 : Int32.toInt 4 = 4 := rfl; omega)) ?_
                          show Ev _ _ _ (6, [(0, .ref 16), (1, .int 4), (2, .int 2)], [.int 1], hh) _
                          refine st_ifc (b := true) rfl (by decide) ?_
                          show Ev _ _ _ (12, _, _, _) _
                          refine sp_iload_n (p2 := 13) rfl rfl rfl ?_
                          refine sp_tsIn (k := 2) (p2 := 56) rfl (by decide) (by decide) (by decide) rfl (by decide) ?_
                          refine sp_gst (p2 := 59) rfl rfl (by decide) ?_
                          refine sp_iload_n (p2 := 60) rfl rfl rfl ?_
                          refine st_isld (x := 5) rfl (by decide) rfl rfl rfl ?_
                          show Ev _ _ _ (61, _, _, _) _
                          exact sp_iret rfl rfl
                        · refine ca_of (d := 19) (M := mX12_kindTold) rfl (Nat.le_of_ble_eq_true rfl) ?_
                          show Ev im_K0 19 mX12_kindTold (0, [(0, .ref 164), (1, .int 4), (2, .int 2)], [], hh) _
                          refine sp_iload_n (p2 := 1) rfl rfl rfl ?_
                          refine sp_iconst (p2 := 2) (x := 0) rfl rfl (by decide) ?_
                          refine sp_iconst (p2 := 3) (x := 5) rfl rfl (by decide) ?_
                          refine st_callS rfl rfl rfl (cl_in_T (n := 4) (a := 0) (b := 5) (show Int32.toInt _ = _ from rfl) (show Int32.toInt _ = _ from rfl) (by have e9 : Int32.toInt 4 = 4 := rfl; omega)) ?_
                          show Ev _ _ _ (6, [(0, .ref 164), (1, .int 4), (2, .int 2)], [.int 1], hh) _
                          refine st_ifc (b := false) rfl (by decide) ?_
                          show Ev _ _ _ (9, _, _, _) _
                          refine sp_iload_n (p2 := 10) rfl rfl rfl ?_
                          refine sp_iconst (p2 := 11) (x := 0) rfl rfl (by decide) ?_
                          refine sp_iconst (p2 := 12) (x := 3) rfl rfl (by decide) ?_
                          refine st_callS rfl rfl rfl (cl_in_T (n := 2) (a := 0) (b := 3) (show Int32.toInt _ = _ from rfl) (show Int32.toInt _ = _ from rfl) (by have e9 : Int32.toInt 2 = 2 := rfl; omega)) ?_
                          show Ev _ _ _ (15, [(0, .ref 164), (1, .int 4), (2, .int 2)], [.int 1], hh) _
                          refine st_ifc (b := true) rfl (by decide) ?_
                          show Ev _ _ _ (21, _, _, _) _
                          refine sp_iload_n (p2 := 22) rfl rfl rfl ?_
                          refine st_ifc (b := true) rfl (by decide) ?_
                          show Ev _ _ _ (34, _, _, _) _
                          refine sp_iload_n (p2 := 35) rfl rfl rfl ?_
                          refine sp_iconst (p2 := 36) (x := 1) rfl rfl (by decide) ?_
                          refine st_icmp (b := true) rfl (by decide) ?_
                          show Ev _ _ _ (48, _, _, _) _
                          refine sp_iload_n (p2 := 49) rfl rfl rfl ?_
                          refine sp_iconst (p2 := 50) (x := 2) rfl rfl (by decide) ?_
                          refine st_icmp (b := false) rfl (by decide) ?_
                          show Ev _ _ _ (53, _, _, _) _
                          refine sp_aload_n (p2 := 54) rfl rfl rfl ?_
                          refine st_get rfl hh_148 rfl ?_
                          show Ev _ _ _ (57, _, _, _) _
                          refine sp_iload_n (p2 := 58) rfl rfl rfl ?_
                          refine st_iald (x := 5) rfl (by decide) hh_155 rfl rfl ?_
                          show Ev _ _ _ (59, _, _, _) _
                          refine sp_goto rfl ?_
                          exact sp_iret rfl rfl
                      · obtain rfl : x1 = 5 := i32_ext (by have e9 : Int32.toInt 5 = 5 := rfl; omega)
                        refine ⟨.int 0, hh, hh, ?_, ?_⟩
                        · refine ca_of (d := 19) (M := mX11_kindTold) rfl (Nat.le_of_ble_eq_true rfl) ?_
                          show Ev im_K0 19 mX11_kindTold (0, [(0, .ref 16), (1, .int 5), (2, .int 2)], [], hh) _
                          refine sp_iload_n (p2 := 1) rfl rfl rfl ?_
                          refine sp_bipush (p2 := 3) (x := 6) rfl rfl (by decide) ?_
                          refine st_callS rfl rfl rfl (cl_within_T (n := 5) (b := 6) (show Int32.toInt _ = _ from rfl) (by have e9 : Int32.toInt 5 = 5 := rfl; omega)) ?_
                          show Ev _ _ _ (6, [(0, .ref 16), (1, .int 5), (2, .int 2)], [.int 1], hh) _
                          refine st_ifc (b := true) rfl (by decide) ?_
                          show Ev _ _ _ (12, _, _, _) _
                          refine sp_iload_n (p2 := 13) rfl rfl rfl ?_
                          refine sp_tsIn (k := 2) (p2 := 56) rfl (by decide) (by decide) (by decide) rfl (by decide) ?_
                          refine sp_gst (p2 := 59) rfl rfl (by decide) ?_
                          refine sp_iload_n (p2 := 60) rfl rfl rfl ?_
                          refine st_isld (x := 0) rfl (by decide) rfl rfl rfl ?_
                          show Ev _ _ _ (61, _, _, _) _
                          exact sp_iret rfl rfl
                        · refine ca_of (d := 19) (M := mX12_kindTold) rfl (Nat.le_of_ble_eq_true rfl) ?_
                          show Ev im_K0 19 mX12_kindTold (0, [(0, .ref 164), (1, .int 5), (2, .int 2)], [], hh) _
                          refine sp_iload_n (p2 := 1) rfl rfl rfl ?_
                          refine sp_iconst (p2 := 2) (x := 0) rfl rfl (by decide) ?_
                          refine sp_iconst (p2 := 3) (x := 5) rfl rfl (by decide) ?_
                          refine st_callS rfl rfl rfl (cl_in_T (n := 5) (a := 0) (b := 5) (show Int32.toInt _ = _ from rfl) (show Int32.toInt _ = _ from rfl) (by have e9 : Int32.toInt 5 = 5 := rfl; omega)) ?_
                          show Ev _ _ _ (6, [(0, .ref 164), (1, .int 5), (2, .int 2)], [.int 1], hh) _
                          refine st_ifc (b := false) rfl (by decide) ?_
                          show Ev _ _ _ (9, _, _, _) _
                          refine sp_iload_n (p2 := 10) rfl rfl rfl ?_
                          refine sp_iconst (p2 := 11) (x := 0) rfl rfl (by decide) ?_
                          refine sp_iconst (p2 := 12) (x := 3) rfl rfl (by decide) ?_
                          refine st_callS rfl rfl rfl (cl_in_T (n := 2) (a := 0) (b := 3) (show Int32.toInt _ = _ from rfl) (show Int32.toInt _ = _ from rfl) (by have e9 : Int32.toInt 2 = 2 := rfl; omega)) ?_
                          show Ev _ _ _ (15, [(0, .ref 164), (1, .int 5), (2, .int 2)], [.int 1], hh) _
                          refine st_ifc (b := true) rfl (by decide) ?_
                          show Ev _ _ _ (21, _, _, _) _
                          refine sp_iload_n (p2 := 22) rfl rfl rfl ?_
                          refine st_ifc (b := true) rfl (by decide) ?_
                          show Ev _ _ _ (34, _, _, _) _
                          refine sp_iload_n (p2 := 35) rfl rfl rfl ?_
                          refine sp_iconst (p2 := 36) (x := 1) rfl rfl (by decide) ?_
                          refine st_icmp (b := true) rfl (by decide) ?_
                          show Ev _ _ _ (48, _, _, _) _
                          refine sp_iload_n (p2 := 49) rfl rfl rfl ?_
                          refine sp_iconst (p2 := 50) (x := 2) rfl rfl (by decide) ?_
                          refine st_icmp (b := false) rfl (by decide) ?_
                          show Ev _ _ _ (53, _, _, _) _
                          refine sp_aload_n (p2 := 54) rfl rfl rfl ?_
                          refine st_get rfl hh_148 rfl ?_
                          show Ev _ _ _ (57, _, _, _) _
                          refine sp_iload_n (p2 := 58) rfl rfl rfl ?_
                          refine st_iald (x := 0) rfl (by decide) hh_155 rfl rfl ?_
                          show Ev _ _ _ (59, _, _, _) _
                          refine sp_goto rfl ?_
                          exact sp_iret rfl rfl
            · by_cases h7 : x2.toInt ≤ 3
              · obtain rfl : x2 = 3 := i32_ext (by have e9 : Int32.toInt 3 = 3 := rfl; omega)
                by_cases h8 : x1.toInt ≤ 0
                · obtain rfl : x1 = 0 := i32_ext (by have e9 : Int32.toInt 0 = 0 := rfl; omega)
                  refine ⟨.int 3, hh, hh, ?_, ?_⟩
                  · refine ca_of (d := 19) (M := mX11_kindTold) rfl (Nat.le_of_ble_eq_true rfl) ?_
                    show Ev im_K0 19 mX11_kindTold (0, [(0, .ref 16), (1, .int 0), (2, .int 3)], [], hh) _
                    refine sp_iload_n (p2 := 1) rfl rfl rfl ?_
                    refine sp_bipush (p2 := 3) (x := 6) rfl rfl (by decide) ?_
                    refine st_callS rfl rfl rfl (cl_within_T (n := 0) (b := 6) (show Int32.toInt _ = _ from rfl) (by have e9 : Int32.toInt 0 = 0 := rfl; omega)) ?_
                    show Ev _ _ _ (6, [(0, .ref 16), (1, .int 0), (2, .int 3)], [.int 1], hh) _
                    refine st_ifc (b := true) rfl (by decide) ?_
                    show Ev _ _ _ (12, _, _, _) _
                    refine sp_iload_n (p2 := 13) rfl rfl rfl ?_
                    refine sp_tsIn (k := 3) (p2 := 62) rfl (by decide) (by decide) (by decide) rfl (by decide) ?_
                    refine sp_gst (p2 := 65) rfl rfl (by decide) ?_
                    refine sp_iload_n (p2 := 66) rfl rfl rfl ?_
                    refine st_isld (x := 3) rfl (by decide) rfl rfl rfl ?_
                    show Ev _ _ _ (67, _, _, _) _
                    exact sp_iret rfl rfl
                  · refine ca_of (d := 19) (M := mX12_kindTold) rfl (Nat.le_of_ble_eq_true rfl) ?_
                    show Ev im_K0 19 mX12_kindTold (0, [(0, .ref 164), (1, .int 0), (2, .int 3)], [], hh) _
                    refine sp_iload_n (p2 := 1) rfl rfl rfl ?_
                    refine sp_iconst (p2 := 2) (x := 0) rfl rfl (by decide) ?_
                    refine sp_iconst (p2 := 3) (x := 5) rfl rfl (by decide) ?_
                    refine st_callS rfl rfl rfl (cl_in_T (n := 0) (a := 0) (b := 5) (show Int32.toInt _ = _ from rfl) (show Int32.toInt _ = _ from rfl) (by have e9 : Int32.toInt 0 = 0 := rfl; omega)) ?_
                    show Ev _ _ _ (6, [(0, .ref 164), (1, .int 0), (2, .int 3)], [.int 1], hh) _
                    refine st_ifc (b := false) rfl (by decide) ?_
                    show Ev _ _ _ (9, _, _, _) _
                    refine sp_iload_n (p2 := 10) rfl rfl rfl ?_
                    refine sp_iconst (p2 := 11) (x := 0) rfl rfl (by decide) ?_
                    refine sp_iconst (p2 := 12) (x := 3) rfl rfl (by decide) ?_
                    refine st_callS rfl rfl rfl (cl_in_T (n := 3) (a := 0) (b := 3) (show Int32.toInt _ = _ from rfl) (show Int32.toInt _ = _ from rfl) (by have e9 : Int32.toInt 3 = 3 := rfl; omega)) ?_
                    show Ev _ _ _ (15, [(0, .ref 164), (1, .int 0), (2, .int 3)], [.int 1], hh) _
                    refine st_ifc (b := true) rfl (by decide) ?_
                    show Ev _ _ _ (21, _, _, _) _
                    refine sp_iload_n (p2 := 22) rfl rfl rfl ?_
                    refine st_ifc (b := true) rfl (by decide) ?_
                    show Ev _ _ _ (34, _, _, _) _
                    refine sp_iload_n (p2 := 35) rfl rfl rfl ?_
                    refine sp_iconst (p2 := 36) (x := 1) rfl rfl (by decide) ?_
                    refine st_icmp (b := true) rfl (by decide) ?_
                    show Ev _ _ _ (48, _, _, _) _
                    refine sp_iload_n (p2 := 49) rfl rfl rfl ?_
                    refine sp_iconst (p2 := 50) (x := 2) rfl rfl (by decide) ?_
                    refine st_icmp (b := true) rfl (by decide) ?_
                    show Ev _ _ _ (62, _, _, _) _
                    refine sp_aload_n (p2 := 63) rfl rfl rfl ?_
                    refine st_get rfl hh_148 rfl ?_
                    show Ev _ _ _ (66, _, _, _) _
                    refine sp_iload_n (p2 := 67) rfl rfl rfl ?_
                    refine st_iald (x := 3) rfl (by decide) hh_156 rfl rfl ?_
                    show Ev _ _ _ (68, _, _, _) _
                    exact sp_iret rfl rfl
                · by_cases h9 : x1.toInt ≤ 1
                  · obtain rfl : x1 = 1 := i32_ext (by have e9 : Int32.toInt 1 = 1 := rfl; omega)
                    refine ⟨.int 3, hh, hh, ?_, ?_⟩
                    · refine ca_of (d := 19) (M := mX11_kindTold) rfl (Nat.le_of_ble_eq_true rfl) ?_
                      show Ev im_K0 19 mX11_kindTold (0, [(0, .ref 16), (1, .int 1), (2, .int 3)], [], hh) _
                      refine sp_iload_n (p2 := 1) rfl rfl rfl ?_
                      refine sp_bipush (p2 := 3) (x := 6) rfl rfl (by decide) ?_
                      refine st_callS rfl rfl rfl (cl_within_T (n := 1) (b := 6) (show Int32.toInt _ = _ from rfl) (by have e9 : Int32.toInt 1 = 1 := rfl; omega)) ?_
                      show Ev _ _ _ (6, [(0, .ref 16), (1, .int 1), (2, .int 3)], [.int 1], hh) _
                      refine st_ifc (b := true) rfl (by decide) ?_
                      show Ev _ _ _ (12, _, _, _) _
                      refine sp_iload_n (p2 := 13) rfl rfl rfl ?_
                      refine sp_tsIn (k := 3) (p2 := 62) rfl (by decide) (by decide) (by decide) rfl (by decide) ?_
                      refine sp_gst (p2 := 65) rfl rfl (by decide) ?_
                      refine sp_iload_n (p2 := 66) rfl rfl rfl ?_
                      refine st_isld (x := 3) rfl (by decide) rfl rfl rfl ?_
                      show Ev _ _ _ (67, _, _, _) _
                      exact sp_iret rfl rfl
                    · refine ca_of (d := 19) (M := mX12_kindTold) rfl (Nat.le_of_ble_eq_true rfl) ?_
                      show Ev im_K0 19 mX12_kindTold (0, [(0, .ref 164), (1, .int 1), (2, .int 3)], [], hh) _
                      refine sp_iload_n (p2 := 1) rfl rfl rfl ?_
                      refine sp_iconst (p2 := 2) (x := 0) rfl rfl (by decide) ?_
                      refine sp_iconst (p2 := 3) (x := 5) rfl rfl (by decide) ?_
                      refine st_callS rfl rfl rfl (cl_in_T (n := 1) (a := 0) (b := 5) (show Int32.toInt _ = _ from rfl) (show Int32.toInt _ = _ from rfl) (by have e9 : Int32.toInt 1 = 1 := rfl; omega)) ?_
                      show Ev _ _ _ (6, [(0, .ref 164), (1, .int 1), (2, .int 3)], [.int 1], hh) _
                      refine st_ifc (b := false) rfl (by decide) ?_
                      show Ev _ _ _ (9, _, _, _) _
                      refine sp_iload_n (p2 := 10) rfl rfl rfl ?_
                      refine sp_iconst (p2 := 11) (x := 0) rfl rfl (by decide) ?_
                      refine sp_iconst (p2 := 12) (x := 3) rfl rfl (by decide) ?_
                      refine st_callS rfl rfl rfl (cl_in_T (n := 3) (a := 0) (b := 3) (show Int32.toInt _ = _ from rfl) (show Int32.toInt _ = _ from rfl) (by have e9 : Int32.toInt 3 = 3 := rfl; omega)) ?_
                      show Ev _ _ _ (15, [(0, .ref 164), (1, .int 1), (2, .int 3)], [.int 1], hh) _
                      refine st_ifc (b := true) rfl (by decide) ?_
                      show Ev _ _ _ (21, _, _, _) _
                      refine sp_iload_n (p2 := 22) rfl rfl rfl ?_
                      refine st_ifc (b := true) rfl (by decide) ?_
                      show Ev _ _ _ (34, _, _, _) _
                      refine sp_iload_n (p2 := 35) rfl rfl rfl ?_
                      refine sp_iconst (p2 := 36) (x := 1) rfl rfl (by decide) ?_
                      refine st_icmp (b := true) rfl (by decide) ?_
                      show Ev _ _ _ (48, _, _, _) _
                      refine sp_iload_n (p2 := 49) rfl rfl rfl ?_
                      refine sp_iconst (p2 := 50) (x := 2) rfl rfl (by decide) ?_
                      refine st_icmp (b := true) rfl (by decide) ?_
                      show Ev _ _ _ (62, _, _, _) _
                      refine sp_aload_n (p2 := 63) rfl rfl rfl ?_
                      refine st_get rfl hh_148 rfl ?_
                      show Ev _ _ _ (66, _, _, _) _
                      refine sp_iload_n (p2 := 67) rfl rfl rfl ?_
                      refine st_iald (x := 3) rfl (by decide) hh_156 rfl rfl ?_
                      show Ev _ _ _ (68, _, _, _) _
                      exact sp_iret rfl rfl
                  · by_cases h10 : x1.toInt ≤ 2
                    · obtain rfl : x1 = 2 := i32_ext (by have e9 : Int32.toInt 2 = 2 := rfl; omega)
                      refine ⟨.int 2, hh, hh, ?_, ?_⟩
                      · refine ca_of (d := 19) (M := mX11_kindTold) rfl (Nat.le_of_ble_eq_true rfl) ?_
                        show Ev im_K0 19 mX11_kindTold (0, [(0, .ref 16), (1, .int 2), (2, .int 3)], [], hh) _
                        refine sp_iload_n (p2 := 1) rfl rfl rfl ?_
                        refine sp_bipush (p2 := 3) (x := 6) rfl rfl (by decide) ?_
                        refine st_callS rfl rfl rfl (cl_within_T (n := 2) (b := 6) (show Int32.toInt _ = _ from rfl) (by have e9 : Int32.toInt 2 = 2 := rfl; omega)) ?_
                        show Ev _ _ _ (6, [(0, .ref 16), (1, .int 2), (2, .int 3)], [.int 1], hh) _
                        refine st_ifc (b := true) rfl (by decide) ?_
                        show Ev _ _ _ (12, _, _, _) _
                        refine sp_iload_n (p2 := 13) rfl rfl rfl ?_
                        refine sp_tsIn (k := 3) (p2 := 62) rfl (by decide) (by decide) (by decide) rfl (by decide) ?_
                        refine sp_gst (p2 := 65) rfl rfl (by decide) ?_
                        refine sp_iload_n (p2 := 66) rfl rfl rfl ?_
                        refine st_isld (x := 2) rfl (by decide) rfl rfl rfl ?_
                        show Ev _ _ _ (67, _, _, _) _
                        exact sp_iret rfl rfl
                      · refine ca_of (d := 19) (M := mX12_kindTold) rfl (Nat.le_of_ble_eq_true rfl) ?_
                        show Ev im_K0 19 mX12_kindTold (0, [(0, .ref 164), (1, .int 2), (2, .int 3)], [], hh) _
                        refine sp_iload_n (p2 := 1) rfl rfl rfl ?_
                        refine sp_iconst (p2 := 2) (x := 0) rfl rfl (by decide) ?_
                        refine sp_iconst (p2 := 3) (x := 5) rfl rfl (by decide) ?_
                        refine st_callS rfl rfl rfl (cl_in_T (n := 2) (a := 0) (b := 5) (show Int32.toInt _ = _ from rfl) (show Int32.toInt _ = _ from rfl) (by have e9 : Int32.toInt 2 = 2 := rfl; omega)) ?_
                        show Ev _ _ _ (6, [(0, .ref 164), (1, .int 2), (2, .int 3)], [.int 1], hh) _
                        refine st_ifc (b := false) rfl (by decide) ?_
                        show Ev _ _ _ (9, _, _, _) _
                        refine sp_iload_n (p2 := 10) rfl rfl rfl ?_
                        refine sp_iconst (p2 := 11) (x := 0) rfl rfl (by decide) ?_
                        refine sp_iconst (p2 := 12) (x := 3) rfl rfl (by decide) ?_
                        refine st_callS rfl rfl rfl (cl_in_T (n := 3) (a := 0) (b := 3) (show Int32.toInt _ = _ from rfl) (show Int32.toInt _ = _ from rfl) (by have e9 : Int32.toInt 3 = 3 := rfl; omega)) ?_
                        show Ev _ _ _ (15, [(0, .ref 164), (1, .int 2), (2, .int 3)], [.int 1], hh) _
                        refine st_ifc (b := true) rfl (by decide) ?_
                        show Ev _ _ _ (21, _, _, _) _
                        refine sp_iload_n (p2 := 22) rfl rfl rfl ?_
                        refine st_ifc (b := true) rfl (by decide) ?_
                        show Ev _ _ _ (34, _, _, _) _
                        refine sp_iload_n (p2 := 35) rfl rfl rfl ?_
                        refine sp_iconst (p2 := 36) (x := 1) rfl rfl (by decide) ?_
                        refine st_icmp (b := true) rfl (by decide) ?_
                        show Ev _ _ _ (48, _, _, _) _
                        refine sp_iload_n (p2 := 49) rfl rfl rfl ?_
                        refine sp_iconst (p2 := 50) (x := 2) rfl rfl (by decide) ?_
                        refine st_icmp (b := true) rfl (by decide) ?_
                        show Ev _ _ _ (62, _, _, _) _
                        refine sp_aload_n (p2 := 63) rfl rfl rfl ?_
                        refine st_get rfl hh_148 rfl ?_
                        show Ev _ _ _ (66, _, _, _) _
                        refine sp_iload_n (p2 := 67) rfl rfl rfl ?_
                        refine st_iald (x := 2) rfl (by decide) hh_156 rfl rfl ?_
                        show Ev _ _ _ (68, _, _, _) _
                        exact sp_iret rfl rfl
                    · by_cases h11 : x1.toInt ≤ 3
                      · obtain rfl : x1 = 3 := i32_ext (by have e9 : Int32.toInt 3 = 3 := rfl; omega)
                        refine ⟨.int 7, hh, hh, ?_, ?_⟩
                        · refine ca_of (d := 19) (M := mX11_kindTold) rfl (Nat.le_of_ble_eq_true rfl) ?_
                          show Ev im_K0 19 mX11_kindTold (0, [(0, .ref 16), (1, .int 3), (2, .int 3)], [], hh) _
                          refine sp_iload_n (p2 := 1) rfl rfl rfl ?_
                          refine sp_bipush (p2 := 3) (x := 6) rfl rfl (by decide) ?_
                          refine st_callS rfl rfl rfl (cl_within_T (n := 3) (b := 6) (show Int32.toInt _ = _ from rfl) (by have e9 : Int32.toInt 3 = 3 := rfl; omega)) ?_
                          show Ev _ _ _ (6, [(0, .ref 16), (1, .int 3), (2, .int 3)], [.int 1], hh) _
                          refine st_ifc (b := true) rfl (by decide) ?_
                          show Ev _ _ _ (12, _, _, _) _
                          refine sp_iload_n (p2 := 13) rfl rfl rfl ?_
                          refine sp_tsIn (k := 3) (p2 := 62) rfl (by decide) (by decide) (by decide) rfl (by decide) ?_
                          refine sp_gst (p2 := 65) rfl rfl (by decide) ?_
                          refine sp_iload_n (p2 := 66) rfl rfl rfl ?_
                          refine st_isld (x := 7) rfl (by decide) rfl rfl rfl ?_
                          show Ev _ _ _ (67, _, _, _) _
                          exact sp_iret rfl rfl
                        · refine ca_of (d := 19) (M := mX12_kindTold) rfl (Nat.le_of_ble_eq_true rfl) ?_
                          show Ev im_K0 19 mX12_kindTold (0, [(0, .ref 164), (1, .int 3), (2, .int 3)], [], hh) _
                          refine sp_iload_n (p2 := 1) rfl rfl rfl ?_
                          refine sp_iconst (p2 := 2) (x := 0) rfl rfl (by decide) ?_
                          refine sp_iconst (p2 := 3) (x := 5) rfl rfl (by decide) ?_
                          refine st_callS rfl rfl rfl (cl_in_T (n := 3) (a := 0) (b := 5) (show Int32.toInt _ = _ from rfl) (show Int32.toInt _ = _ from rfl) (by have e9 : Int32.toInt 3 = 3 := rfl; omega)) ?_
                          show Ev _ _ _ (6, [(0, .ref 164), (1, .int 3), (2, .int 3)], [.int 1], hh) _
                          refine st_ifc (b := false) rfl (by decide) ?_
                          show Ev _ _ _ (9, _, _, _) _
                          refine sp_iload_n (p2 := 10) rfl rfl rfl ?_
                          refine sp_iconst (p2 := 11) (x := 0) rfl rfl (by decide) ?_
                          refine sp_iconst (p2 := 12) (x := 3) rfl rfl (by decide) ?_
                          refine st_callS rfl rfl rfl (cl_in_T (n := 3) (a := 0) (b := 3) (show Int32.toInt _ = _ from rfl) (show Int32.toInt _ = _ from rfl) (by have e9 : Int32.toInt 3 = 3 := rfl; omega)) ?_
                          show Ev _ _ _ (15, [(0, .ref 164), (1, .int 3), (2, .int 3)], [.int 1], hh) _
                          refine st_ifc (b := true) rfl (by decide) ?_
                          show Ev _ _ _ (21, _, _, _) _
                          refine sp_iload_n (p2 := 22) rfl rfl rfl ?_
                          refine st_ifc (b := true) rfl (by decide) ?_
                          show Ev _ _ _ (34, _, _, _) _
                          refine sp_iload_n (p2 := 35) rfl rfl rfl ?_
                          refine sp_iconst (p2 := 36) (x := 1) rfl rfl (by decide) ?_
                          refine st_icmp (b := true) rfl (by decide) ?_
                          show Ev _ _ _ (48, _, _, _) _
                          refine sp_iload_n (p2 := 49) rfl rfl rfl ?_
                          refine sp_iconst (p2 := 50) (x := 2) rfl rfl (by decide) ?_
                          refine st_icmp (b := true) rfl (by decide) ?_
                          show Ev _ _ _ (62, _, _, _) _
                          refine sp_aload_n (p2 := 63) rfl rfl rfl ?_
                          refine st_get rfl hh_148 rfl ?_
                          show Ev _ _ _ (66, _, _, _) _
                          refine sp_iload_n (p2 := 67) rfl rfl rfl ?_
                          refine st_iald (x := 7) rfl (by decide) hh_156 rfl rfl ?_
                          show Ev _ _ _ (68, _, _, _) _
                          exact sp_iret rfl rfl
                      · by_cases h12 : x1.toInt ≤ 4
                        · obtain rfl : x1 = 4 := i32_ext (by have e9 : Int32.toInt 4 = 4 := rfl; omega)
                          refine ⟨.int 2, hh, hh, ?_, ?_⟩
                          · refine ca_of (d := 19) (M := mX11_kindTold) rfl (Nat.le_of_ble_eq_true rfl) ?_
                            show Ev im_K0 19 mX11_kindTold (0, [(0, .ref 16), (1, .int 4), (2, .int 3)], [], hh) _
                            refine sp_iload_n (p2 := 1) rfl rfl rfl ?_
                            refine sp_bipush (p2 := 3) (x := 6) rfl rfl (by decide) ?_
                            refine st_callS rfl rfl rfl (cl_within_T (n := 4) (b := 6) (show Int32.toInt _ = _ from rfl) (by have e9 : Int32.toInt 4 = 4 := rfl; omega)) ?_
                            show Ev _ _ _ (6, [(0, .ref 16), (1, .int 4), (2, .int 3)], [.int 1], hh) _
                            refine st_ifc (b := true) rfl (by decide) ?_
                            show Ev _ _ _ (12, _, _, _) _
                            refine sp_iload_n (p2 := 13) rfl rfl rfl ?_
                            refine sp_tsIn (k := 3) (p2 := 62) rfl (by decide) (by decide) (by decide) rfl (by decide) ?_
                            refine sp_gst (p2 := 65) rfl rfl (by decide) ?_
                            refine sp_iload_n (p2 := 66) rfl rfl rfl ?_
                            refine st_isld (x := 2) rfl (by decide) rfl rfl rfl ?_
                            show Ev _ _ _ (67, _, _, _) _
                            exact sp_iret rfl rfl
                          · refine ca_of (d := 19) (M := mX12_kindTold) rfl (Nat.le_of_ble_eq_true rfl) ?_
                            show Ev im_K0 19 mX12_kindTold (0, [(0, .ref 164), (1, .int 4), (2, .int 3)], [], hh) _
                            refine sp_iload_n (p2 := 1) rfl rfl rfl ?_
                            refine sp_iconst (p2 := 2) (x := 0) rfl rfl (by decide) ?_
                            refine sp_iconst (p2 := 3) (x := 5) rfl rfl (by decide) ?_
                            refine st_callS rfl rfl rfl (cl_in_T (n := 4) (a := 0) (b := 5) (show Int32.toInt _ = _ from rfl) (show Int32.toInt _ = _ from rfl) (by have e9 : Int32.toInt 4 = 4 := rfl; omega)) ?_
                            show Ev _ _ _ (6, [(0, .ref 164), (1, .int 4), (2, .int 3)], [.int 1], hh) _
                            refine st_ifc (b := false) rfl (by decide) ?_
                            show Ev _ _ _ (9, _, _, _) _
                            refine sp_iload_n (p2 := 10) rfl rfl rfl ?_
                            refine sp_iconst (p2 := 11) (x := 0) rfl rfl (by decide) ?_
                            refine sp_iconst (p2 := 12) (x := 3) rfl rfl (by decide) ?_
                            refine st_callS rfl rfl rfl (cl_in_T (n := 3) (a := 0) (b := 3) (show Int32.toInt _ = _ from rfl) (show Int32.toInt _ = _ from rfl) (by have e9 : Int32.toInt 3 = 3 := rfl; omega)) ?_
                            show Ev _ _ _ (15, [(0, .ref 164), (1, .int 4), (2, .int 3)], [.int 1], hh) _
                            refine st_ifc (b := true) rfl (by decide) ?_
                            show Ev _ _ _ (21, _, _, _) _
                            refine sp_iload_n (p2 := 22) rfl rfl rfl ?_
                            refine st_ifc (b := true) rfl (by decide) ?_
                            show Ev _ _ _ (34, _, _, _) _
                            refine sp_iload_n (p2 := 35) rfl rfl rfl ?_
                            refine sp_iconst (p2 := 36) (x := 1) rfl rfl (by decide) ?_
                            refine st_icmp (b := true) rfl (by decide) ?_
                            show Ev _ _ _ (48, _, _, _) _
                            refine sp_iload_n (p2 := 49) rfl rfl rfl ?_
                            refine sp_iconst (p2 := 50) (x := 2) rfl rfl (by decide) ?_
                            refine st_icmp (b := true) rfl (by decide) ?_
                            show Ev _ _ _ (62, _, _, _) _
                            refine sp_aload_n (p2 := 63) rfl rfl rfl ?_
                            refine st_get rfl hh_148 rfl ?_
                            show Ev _ _ _ (66, _, _, _) _
                            refine sp_iload_n (p2 := 67) rfl rfl rfl ?_
                            refine st_iald (x := 2) rfl (by decide) hh_156 rfl rfl ?_
                            show Ev _ _ _ (68, _, _, _) _
                            exact sp_iret rfl rfl
                        · obtain rfl : x1 = 5 := i32_ext (by have e9 : Int32.toInt 5 = 5 := rfl; omega)
                          refine ⟨.int 6, hh, hh, ?_, ?_⟩
                          · refine ca_of (d := 19) (M := mX11_kindTold) rfl (Nat.le_of_ble_eq_true rfl) ?_
                            show Ev im_K0 19 mX11_kindTold (0, [(0, .ref 16), (1, .int 5), (2, .int 3)], [], hh) _
                            refine sp_iload_n (p2 := 1) rfl rfl rfl ?_
                            refine sp_bipush (p2 := 3) (x := 6) rfl rfl (by decide) ?_
                            refine st_callS rfl rfl rfl (cl_within_T (n := 5) (b := 6) (show Int32.toInt _ = _ from rfl) (by have e9 : Int32.toInt 5 = 5 := rfl; omega)) ?_
                            show Ev _ _ _ (6, [(0, .ref 16), (1, .int 5), (2, .int 3)], [.int 1], hh) _
                            refine st_ifc (b := true) rfl (by decide) ?_
                            show Ev _ _ _ (12, _, _, _) _
                            refine sp_iload_n (p2 := 13) rfl rfl rfl ?_
                            refine sp_tsIn (k := 3) (p2 := 62) rfl (by decide) (by decide) (by decide) rfl (by decide) ?_
                            refine sp_gst (p2 := 65) rfl rfl (by decide) ?_
                            refine sp_iload_n (p2 := 66) rfl rfl rfl ?_
                            refine st_isld (x := 6) rfl (by decide) rfl rfl rfl ?_
                            show Ev _ _ _ (67, _, _, _) _
                            exact sp_iret rfl rfl
                          · refine ca_of (d := 19) (M := mX12_kindTold) rfl (Nat.le_of_ble_eq_true rfl) ?_
                            show Ev im_K0 19 mX12_kindTold (0, [(0, .ref 164), (1, .int 5), (2, .int 3)], [], hh) _
                            refine sp_iload_n (p2 := 1) rfl rfl rfl ?_
                            refine sp_iconst (p2 := 2) (x := 0) rfl rfl (by decide) ?_
                            refine sp_iconst (p2 := 3) (x := 5) rfl rfl (by decide) ?_
                            refine st_callS rfl rfl rfl (cl_in_T (n := 5) (a := 0) (b := 5) (show Int32.toInt _ = _ from rfl) (show Int32.toInt _ = _ from rfl) (by have e9 : Int32.toInt 5 = 5 := rfl; omega)) ?_
                            show Ev _ _ _ (6, [(0, .ref 164), (1, .int 5), (2, .int 3)], [.int 1], hh) _
                            refine st_ifc (b := false) rfl (by decide) ?_
                            show Ev _ _ _ (9, _, _, _) _
                            refine sp_iload_n (p2 := 10) rfl rfl rfl ?_
                            refine sp_iconst (p2 := 11) (x := 0) rfl rfl (by decide) ?_
                            refine sp_iconst (p2 := 12) (x := 3) rfl rfl (by decide) ?_
                            refine st_callS rfl rfl rfl (cl_in_T (n := 3) (a := 0) (b := 3) (show Int32.toInt _ = _ from rfl) (show Int32.toInt _ = _ from rfl) (by have e9 : Int32.toInt 3 = 3 := rfl; omega)) ?_
                            show Ev _ _ _ (15, [(0, .ref 164), (1, .int 5), (2, .int 3)], [.int 1], hh) _
                            refine st_ifc (b := true) rfl (by decide) ?_
                            show Ev _ _ _ (21, _, _, _) _
                            refine sp_iload_n (p2 := 22) rfl rfl rfl ?_
                            refine st_ifc (b := true) rfl (by decide) ?_
                            show Ev _ _ _ (34, _, _, _) _
                            refine sp_iload_n (p2 := 35) rfl rfl rfl ?_
                            refine sp_iconst (p2 := 36) (x := 1) rfl rfl (by decide) ?_
                            refine st_icmp (b := true) rfl (by decide) ?_
                            show Ev _ _ _ (48, _, _, _) _
                            refine sp_iload_n (p2 := 49) rfl rfl rfl ?_
                            refine sp_iconst (p2 := 50) (x := 2) rfl rfl (by decide) ?_
                            refine st_icmp (b := true) rfl (by decide) ?_
                            show Ev _ _ _ (62, _, _, _) _
                            refine sp_aload_n (p2 := 63) rfl rfl rfl ?_
                            refine st_get rfl hh_148 rfl ?_
                            show Ev _ _ _ (66, _, _, _) _
                            refine sp_iload_n (p2 := 67) rfl rfl rfl ?_
                            refine st_iald (x := 6) rfl (by decide) hh_156 rfl rfl ?_
                            show Ev _ _ _ (68, _, _, _) _
                            exact sp_iret rfl rfl
              · refine ⟨.int (-2), hh, hh, ?_, ?_⟩
                · refine ca_of (d := 19) (M := mX11_kindTold) rfl (Nat.le_of_ble_eq_true rfl) ?_
                  show Ev im_K0 19 mX11_kindTold (0, [(0, .ref 16), (1, .int x1), (2, .int x2)], [], hh) _
                  refine sp_iload_n (p2 := 1) rfl rfl rfl ?_
                  refine sp_bipush (p2 := 3) (x := 6) rfl rfl (by decide) ?_
                  refine st_callS rfl rfl rfl (cl_within_T (b := 6) rfl (by omega)) ?_
                  show Ev _ _ _ (6, [(0, .ref 16), (1, .int x1), (2, .int x2)], [.int 1], hh) _
                  refine st_ifc (b := true) rfl (by decide) ?_
                  show Ev _ _ _ (12, _, _, _) _
                  refine sp_iload_n (p2 := 13) rfl rfl rfl ?_
                  refine sp_tsOut (p2 := 68) rfl (by omega) (by decide) ?_
                  refine sp_bipush (p2 := 70) (x := (-2)) rfl rfl (by decide) ?_
                  exact sp_iret rfl rfl
                · refine ca_of (d := 19) (M := mX12_kindTold) rfl (Nat.le_of_ble_eq_true rfl) ?_
                  show Ev im_K0 19 mX12_kindTold (0, [(0, .ref 164), (1, .int x1), (2, .int x2)], [], hh) _
                  refine sp_iload_n (p2 := 1) rfl rfl rfl ?_
                  refine sp_iconst (p2 := 2) (x := 0) rfl rfl (by decide) ?_
                  refine sp_iconst (p2 := 3) (x := 5) rfl rfl (by decide) ?_
                  refine st_callS rfl rfl rfl (cl_in_T (a := 0) (b := 5) rfl rfl (by omega)) ?_
                  show Ev _ _ _ (6, [(0, .ref 164), (1, .int x1), (2, .int x2)], [.int 1], hh) _
                  refine st_ifc (b := false) rfl (by decide) ?_
                  show Ev _ _ _ (9, _, _, _) _
                  refine sp_iload_n (p2 := 10) rfl rfl rfl ?_
                  refine sp_iconst (p2 := 11) (x := 0) rfl rfl (by decide) ?_
                  refine sp_iconst (p2 := 12) (x := 3) rfl rfl (by decide) ?_
                  refine st_callS rfl rfl rfl (cl_in_F (a := 0) (b := 3) rfl rfl (by omega)) ?_
                  show Ev _ _ _ (15, [(0, .ref 164), (1, .int x1), (2, .int x2)], [.int 0], hh) _
                  refine st_ifc (b := false) rfl (by decide) ?_
                  show Ev _ _ _ (18, _, _, _) _
                  refine sp_bipush (p2 := 20) (x := (-2)) rfl rfl (by decide) ?_
                  exact sp_iret rfl rfl
    · refine ⟨.int (-2), hh, hh, ?_, ?_⟩
      · refine ca_of (d := 19) (M := mX11_kindTold) rfl (Nat.le_of_ble_eq_true rfl) ?_
        show Ev im_K0 19 mX11_kindTold (0, [(0, .ref 16), (1, .int x1), (2, .int x2)], [], hh) _
        refine sp_iload_n (p2 := 1) rfl rfl rfl ?_
        refine sp_bipush (p2 := 3) (x := 6) rfl rfl (by decide) ?_
        refine st_callS rfl rfl rfl (cl_within_F (b := 6) rfl (by omega)) ?_
        show Ev _ _ _ (6, [(0, .ref 16), (1, .int x1), (2, .int x2)], [.int 0], hh) _
        refine st_ifc (b := false) rfl (by decide) ?_
        show Ev _ _ _ (9, _, _, _) _
        refine sp_bipush (p2 := 11) (x := (-2)) rfl rfl (by decide) ?_
        exact sp_iret rfl rfl
      · refine ca_of (d := 19) (M := mX12_kindTold) rfl (Nat.le_of_ble_eq_true rfl) ?_
        show Ev im_K0 19 mX12_kindTold (0, [(0, .ref 164), (1, .int x1), (2, .int x2)], [], hh) _
        refine sp_iload_n (p2 := 1) rfl rfl rfl ?_
        refine sp_iconst (p2 := 2) (x := 0) rfl rfl (by decide) ?_
        refine sp_iconst (p2 := 3) (x := 5) rfl rfl (by decide) ?_
        refine st_callS rfl rfl rfl (cl_in_F (a := 0) (b := 5) rfl rfl (by omega)) ?_
        show Ev _ _ _ (6, [(0, .ref 164), (1, .int x1), (2, .int x2)], [.int 0], hh) _
        refine st_ifc (b := true) rfl (by decide) ?_
        show Ev _ _ _ (18, _, _, _) _
        refine sp_bipush (p2 := 20) (x := (-2)) rfl rfl (by decide) ?_
        exact sp_iret rfl rfl
set_option maxRecDepth 10000 in
set_option maxHeartbeats 4000000 in
theorem q_count (x1 : Int32) : ∃ (v : Value) (h1 h2 : im_H), Ca 20 83 [.ref 16, .int x1] hh (some v, h1) ∧ Ca 20 164 [.ref 164, .int x1] h1 (some v, h2) := by
  by_cases h1 : x1.toInt ≤ (-1)
  · refine ⟨.int (-2), hh, hh, ?_, ?_⟩
    · refine ca_of (d := 19) (M := mX11_count) rfl (Nat.le_of_ble_eq_true rfl) ?_
      show Ev im_K0 19 mX11_count (0, [(0, .ref 16), (1, .int x1)], [], hh) _
      refine sp_iload_n (p2 := 1) rfl rfl rfl ?_
      refine sp_tsOut (p2 := 184) rfl (by omega) (by decide) ?_
      refine sp_bipush (p2 := 186) (x := (-2)) rfl rfl (by decide) ?_
      exact sp_iret rfl rfl
    · refine ca_of (d := 19) (M := mX12_count) rfl (Nat.le_of_ble_eq_true rfl) ?_
      show Ev im_K0 19 mX12_count (0, [(0, .ref 164), (1, .int x1)], [], hh) _
      refine sp_iload_n (p2 := 1) rfl rfl rfl ?_
      refine sp_tsOut (p2 := 158) rfl (by omega) (by decide) ?_
      refine sp_bipush (p2 := 160) (x := (-2)) rfl rfl (by decide) ?_
      exact sp_iret rfl rfl
  · by_cases h2 : x1.toInt ≤ 0
    · obtain rfl : x1 = 0 := i32_ext (by have e9 : Int32.toInt 0 = 0 := rfl; omega)
      refine ⟨.int 0, hh, hh, ?_, ?_⟩
      · refine ca_of (d := 19) (M := mX11_count) rfl (Nat.le_of_ble_eq_true rfl) ?_
        show Ev im_K0 19 mX11_count (0, [(0, .ref 16), (1, .int 0)], [], hh) _
        refine sp_iload_n (p2 := 1) rfl rfl rfl ?_
        refine sp_tsIn (k := 0) (p2 := 72) rfl (by decide) (by decide) (by decide) rfl (by decide) ?_
        refine sp_aload_n (p2 := 73) rfl rfl rfl ?_
        refine st_get rfl hh_0 rfl ?_
        show Ev _ _ _ (76, _, _, _) _
        refine st_get rfl hh_23 rfl ?_
        show Ev _ _ _ (79, _, _, _) _
        exact sp_iret rfl rfl
      · refine ca_of (d := 19) (M := mX12_count) rfl (Nat.le_of_ble_eq_true rfl) ?_
        show Ev im_K0 19 mX12_count (0, [(0, .ref 164), (1, .int 0)], [], hh) _
        refine sp_iload_n (p2 := 1) rfl rfl rfl ?_
        refine sp_tsIn (k := 0) (p2 := 72) rfl (by decide) (by decide) (by decide) rfl (by decide) ?_
        refine sp_aload_n (p2 := 73) rfl rfl rfl ?_
        refine st_get rfl hh_148 rfl ?_
        show Ev _ _ _ (76, _, _, _) _
        refine sp_bipush (p2 := 78) (x := 105) rfl rfl (by decide) ?_
        refine st_iald (x := 0) rfl (by decide) hh_149 rfl rfl ?_
        show Ev _ _ _ (79, _, _, _) _
        exact sp_iret rfl rfl
    · by_cases h3 : x1.toInt ≤ 1
      · obtain rfl : x1 = 1 := i32_ext (by have e9 : Int32.toInt 1 = 1 := rfl; omega)
        refine ⟨.int 0, hh, hh, ?_, ?_⟩
        · exact (show Ca 20 83 [.ref 16, .int 1] hh (some (.int 0), hh) from ca_dec (d := 9) (f := 1265) (by decide) (im_eqb_eq (by decide +kernel)))
        · exact (show Ca 20 164 [.ref 164, .int 1] hh (some (.int 0), hh) from ca_dec (d := 9) (f := 1466) (by decide) (im_eqb_eq (by decide +kernel)))
      · by_cases h4 : x1.toInt ≤ 2
        · obtain rfl : x1 = 2 := i32_ext (by have e9 : Int32.toInt 2 = 2 := rfl; omega)
          refine ⟨.int 0, hh, hh, ?_, ?_⟩
          · refine ca_of (d := 19) (M := mX11_count) rfl (Nat.le_of_ble_eq_true rfl) ?_
            show Ev im_K0 19 mX11_count (0, [(0, .ref 16), (1, .int 2)], [], hh) _
            refine sp_iload_n (p2 := 1) rfl rfl rfl ?_
            refine sp_tsIn (k := 2) (p2 := 88) rfl (by decide) (by decide) (by decide) rfl (by decide) ?_
            refine sp_aload_n (p2 := 89) rfl rfl rfl ?_
            refine st_get rfl hh_0 rfl ?_
            show Ev _ _ _ (92, _, _, _) _
            refine st_get rfl hh_23 rfl ?_
            show Ev _ _ _ (95, _, _, _) _
            exact sp_iret rfl rfl
          · refine ca_of (d := 19) (M := mX12_count) rfl (Nat.le_of_ble_eq_true rfl) ?_
            show Ev im_K0 19 mX12_count (0, [(0, .ref 164), (1, .int 2)], [], hh) _
            refine sp_iload_n (p2 := 1) rfl rfl rfl ?_
            refine sp_tsIn (k := 2) (p2 := 88) rfl (by decide) (by decide) (by decide) rfl (by decide) ?_
            refine sp_aload_n (p2 := 89) rfl rfl rfl ?_
            refine st_get rfl hh_148 rfl ?_
            show Ev _ _ _ (92, _, _, _) _
            refine sp_bipush (p2 := 94) (x := 104) rfl rfl (by decide) ?_
            refine st_iald (x := 0) rfl (by decide) hh_149 rfl rfl ?_
            show Ev _ _ _ (95, _, _, _) _
            exact sp_iret rfl rfl
        · by_cases h5 : x1.toInt ≤ 3
          · obtain rfl : x1 = 3 := i32_ext (by have e9 : Int32.toInt 3 = 3 := rfl; omega)
            refine ⟨.int 0, hh, hh, ?_, ?_⟩
            · refine ca_of (d := 19) (M := mX11_count) rfl (Nat.le_of_ble_eq_true rfl) ?_
              show Ev im_K0 19 mX11_count (0, [(0, .ref 16), (1, .int 3)], [], hh) _
              refine sp_iload_n (p2 := 1) rfl rfl rfl ?_
              refine sp_tsIn (k := 3) (p2 := 96) rfl (by decide) (by decide) (by decide) rfl (by decide) ?_
              refine sp_aload_n (p2 := 97) rfl rfl rfl ?_
              refine st_get rfl hh_0 rfl ?_
              show Ev _ _ _ (100, _, _, _) _
              refine st_get rfl hh_23 rfl ?_
              show Ev _ _ _ (103, _, _, _) _
              exact sp_iret rfl rfl
            · refine ca_of (d := 19) (M := mX12_count) rfl (Nat.le_of_ble_eq_true rfl) ?_
              show Ev im_K0 19 mX12_count (0, [(0, .ref 164), (1, .int 3)], [], hh) _
              refine sp_iload_n (p2 := 1) rfl rfl rfl ?_
              refine sp_tsIn (k := 3) (p2 := 96) rfl (by decide) (by decide) (by decide) rfl (by decide) ?_
              refine sp_aload_n (p2 := 97) rfl rfl rfl ?_
              refine st_get rfl hh_148 rfl ?_
              show Ev _ _ _ (100, _, _, _) _
              refine sp_bipush (p2 := 102) (x := 103) rfl rfl (by decide) ?_
              refine st_iald (x := 0) rfl (by decide) hh_149 rfl rfl ?_
              show Ev _ _ _ (103, _, _, _) _
              exact sp_iret rfl rfl
          · by_cases h6 : x1.toInt ≤ 4
            · obtain rfl : x1 = 4 := i32_ext (by have e9 : Int32.toInt 4 = 4 := rfl; omega)
              refine ⟨.int 0, hh, hh, ?_, ?_⟩
              · refine ca_of (d := 19) (M := mX11_count) rfl (Nat.le_of_ble_eq_true rfl) ?_
                show Ev im_K0 19 mX11_count (0, [(0, .ref 16), (1, .int 4)], [], hh) _
                refine sp_iload_n (p2 := 1) rfl rfl rfl ?_
                refine sp_tsIn (k := 4) (p2 := 104) rfl (by decide) (by decide) (by decide) rfl (by decide) ?_
                refine sp_aload_n (p2 := 105) rfl rfl rfl ?_
                refine st_get rfl hh_0 rfl ?_
                show Ev _ _ _ (108, _, _, _) _
                refine st_get rfl hh_23 rfl ?_
                show Ev _ _ _ (111, _, _, _) _
                refine sp_iconst (p2 := 112) (x := 0) rfl rfl (by decide) ?_
                refine st_iald (x := 0) rfl (by decide) hh_24 rfl rfl ?_
                show Ev _ _ _ (113, _, _, _) _
                exact sp_iret rfl rfl
              · refine ca_of (d := 19) (M := mX12_count) rfl (Nat.le_of_ble_eq_true rfl) ?_
                show Ev im_K0 19 mX12_count (0, [(0, .ref 164), (1, .int 4)], [], hh) _
                refine sp_iload_n (p2 := 1) rfl rfl rfl ?_
                refine sp_tsIn (k := 4) (p2 := 104) rfl (by decide) (by decide) (by decide) rfl (by decide) ?_
                refine sp_aload_n (p2 := 105) rfl rfl rfl ?_
                refine st_get rfl hh_148 rfl ?_
                show Ev _ _ _ (108, _, _, _) _
                refine sp_bipush (p2 := 110) (x := 100) rfl rfl (by decide) ?_
                refine sp_iload_n (p2 := 111) rfl rfl rfl ?_
                refine sp_iadd (p2 := 112) (z := 104) rfl rfl (by decide) ?_
                refine sp_iconst (p2 := 113) (x := 4) rfl rfl (by decide) ?_
                refine sp_isub (p2 := 114) (z := 100) rfl rfl (by decide) ?_
                refine st_iald (x := 0) rfl (by decide) hh_149 rfl rfl ?_
                show Ev _ _ _ (115, _, _, _) _
                exact sp_iret rfl rfl
            · by_cases h7 : x1.toInt ≤ 5
              · obtain rfl : x1 = 5 := i32_ext (by have e9 : Int32.toInt 5 = 5 := rfl; omega)
                refine ⟨.int 0, hh, hh, ?_, ?_⟩
                · refine ca_of (d := 19) (M := mX11_count) rfl (Nat.le_of_ble_eq_true rfl) ?_
                  show Ev im_K0 19 mX11_count (0, [(0, .ref 16), (1, .int 5)], [], hh) _
                  refine sp_iload_n (p2 := 1) rfl rfl rfl ?_
                  refine sp_tsIn (k := 5) (p2 := 114) rfl (by decide) (by decide) (by decide) rfl (by decide) ?_
                  refine sp_aload_n (p2 := 115) rfl rfl rfl ?_
                  refine st_get rfl hh_0 rfl ?_
                  show Ev _ _ _ (118, _, _, _) _
                  refine st_get rfl hh_23 rfl ?_
                  show Ev _ _ _ (121, _, _, _) _
                  refine sp_iconst (p2 := 122) (x := 1) rfl rfl (by decide) ?_
                  refine st_iald (x := 0) rfl (by decide) hh_24 rfl rfl ?_
                  show Ev _ _ _ (123, _, _, _) _
                  exact sp_iret rfl rfl
                · refine ca_of (d := 19) (M := mX12_count) rfl (Nat.le_of_ble_eq_true rfl) ?_
                  show Ev im_K0 19 mX12_count (0, [(0, .ref 164), (1, .int 5)], [], hh) _
                  refine sp_iload_n (p2 := 1) rfl rfl rfl ?_
                  refine sp_tsIn (k := 5) (p2 := 104) rfl (by decide) (by decide) (by decide) rfl (by decide) ?_
                  refine sp_aload_n (p2 := 105) rfl rfl rfl ?_
                  refine st_get rfl hh_148 rfl ?_
                  show Ev _ _ _ (108, _, _, _) _
                  refine sp_bipush (p2 := 110) (x := 100) rfl rfl (by decide) ?_
                  refine sp_iload_n (p2 := 111) rfl rfl rfl ?_
                  refine sp_iadd (p2 := 112) (z := 105) rfl rfl (by decide) ?_
                  refine sp_iconst (p2 := 113) (x := 4) rfl rfl (by decide) ?_
                  refine sp_isub (p2 := 114) (z := 101) rfl rfl (by decide) ?_
                  refine st_iald (x := 0) rfl (by decide) hh_149 rfl rfl ?_
                  show Ev _ _ _ (115, _, _, _) _
                  exact sp_iret rfl rfl
              · by_cases h8 : x1.toInt ≤ 6
                · obtain rfl : x1 = 6 := i32_ext (by have e9 : Int32.toInt 6 = 6 := rfl; omega)
                  refine ⟨.int 0, hh, hh, ?_, ?_⟩
                  · refine ca_of (d := 19) (M := mX11_count) rfl (Nat.le_of_ble_eq_true rfl) ?_
                    show Ev im_K0 19 mX11_count (0, [(0, .ref 16), (1, .int 6)], [], hh) _
                    refine sp_iload_n (p2 := 1) rfl rfl rfl ?_
                    refine sp_tsIn (k := 6) (p2 := 124) rfl (by decide) (by decide) (by decide) rfl (by decide) ?_
                    refine sp_aload_n (p2 := 125) rfl rfl rfl ?_
                    refine st_get rfl hh_0 rfl ?_
                    show Ev _ _ _ (128, _, _, _) _
                    refine st_get rfl hh_23 rfl ?_
                    show Ev _ _ _ (131, _, _, _) _
                    refine sp_iconst (p2 := 132) (x := 2) rfl rfl (by decide) ?_
                    refine st_iald (x := 0) rfl (by decide) hh_24 rfl rfl ?_
                    show Ev _ _ _ (133, _, _, _) _
                    exact sp_iret rfl rfl
                  · refine ca_of (d := 19) (M := mX12_count) rfl (Nat.le_of_ble_eq_true rfl) ?_
                    show Ev im_K0 19 mX12_count (0, [(0, .ref 164), (1, .int 6)], [], hh) _
                    refine sp_iload_n (p2 := 1) rfl rfl rfl ?_
                    refine sp_tsIn (k := 6) (p2 := 104) rfl (by decide) (by decide) (by decide) rfl (by decide) ?_
                    refine sp_aload_n (p2 := 105) rfl rfl rfl ?_
                    refine st_get rfl hh_148 rfl ?_
                    show Ev _ _ _ (108, _, _, _) _
                    refine sp_bipush (p2 := 110) (x := 100) rfl rfl (by decide) ?_
                    refine sp_iload_n (p2 := 111) rfl rfl rfl ?_
                    refine sp_iadd (p2 := 112) (z := 106) rfl rfl (by decide) ?_
                    refine sp_iconst (p2 := 113) (x := 4) rfl rfl (by decide) ?_
                    refine sp_isub (p2 := 114) (z := 102) rfl rfl (by decide) ?_
                    refine st_iald (x := 0) rfl (by decide) hh_149 rfl rfl ?_
                    show Ev _ _ _ (115, _, _, _) _
                    exact sp_iret rfl rfl
                · by_cases h9 : x1.toInt ≤ 7
                  · obtain rfl : x1 = 7 := i32_ext (by have e9 : Int32.toInt 7 = 7 := rfl; omega)
                    refine ⟨.int 0, hh, hh, ?_, ?_⟩
                    · refine ca_of (d := 19) (M := mX11_count) rfl (Nat.le_of_ble_eq_true rfl) ?_
                      show Ev im_K0 19 mX11_count (0, [(0, .ref 16), (1, .int 7)], [], hh) _
                      refine sp_iload_n (p2 := 1) rfl rfl rfl ?_
                      refine sp_tsIn (k := 7) (p2 := 134) rfl (by decide) (by decide) (by decide) rfl (by decide) ?_
                      refine sp_aload_n (p2 := 135) rfl rfl rfl ?_
                      refine st_get rfl hh_0 rfl ?_
                      show Ev _ _ _ (138, _, _, _) _
                      refine st_get rfl hh_1 rfl ?_
                      show Ev _ _ _ (141, _, _, _) _
                      exact sp_iret rfl rfl
                    · refine ca_of (d := 19) (M := mX12_count) rfl (Nat.le_of_ble_eq_true rfl) ?_
                      show Ev im_K0 19 mX12_count (0, [(0, .ref 164), (1, .int 7)], [], hh) _
                      refine sp_iload_n (p2 := 1) rfl rfl rfl ?_
                      refine sp_tsIn (k := 7) (p2 := 116) rfl (by decide) (by decide) (by decide) rfl (by decide) ?_
                      refine sp_aload_n (p2 := 117) rfl rfl rfl ?_
                      refine st_get rfl hh_148 rfl ?_
                      show Ev _ _ _ (120, _, _, _) _
                      exact sp_iret rfl rfl
                  · by_cases h10 : x1.toInt ≤ 8
                    · obtain rfl : x1 = 8 := i32_ext (by have e9 : Int32.toInt 8 = 8 := rfl; omega)
                      refine ⟨.int 0, hh, hh, ?_, ?_⟩
                      · exact (show Ca 20 83 [.ref 16, .int 8] hh (some (.int 0), hh) from ca_dec (d := 9) (f := 401) (by decide) (im_eqb_eq (by decide +kernel)))
                      · refine ca_of (d := 19) (M := mX12_count) rfl (Nat.le_of_ble_eq_true rfl) ?_
                        show Ev im_K0 19 mX12_count (0, [(0, .ref 164), (1, .int 8)], [], hh) _
                        refine sp_iload_n (p2 := 1) rfl rfl rfl ?_
                        refine sp_tsIn (k := 8) (p2 := 121) rfl (by decide) (by decide) (by decide) rfl (by decide) ?_
                        refine sp_aload_n (p2 := 122) rfl rfl rfl ?_
                        refine sp_sipush (p2 := 125) (x := 236) rfl rfl (by decide) ?_
                        refine sp_aload_n (p2 := 126) rfl rfl rfl ?_
                        refine st_get rfl hh_148 rfl ?_
                        show Ev _ _ _ (129, _, _, _) _
                        have c1 : Ca 19 163 [.ref 164, .int 236, .int 0] hh (some (.int 0), hh) := by
                          refine ca_of (d := 18) (M := mX12_sum) rfl (Nat.le_of_ble_eq_true rfl) ?_
                          show Ev im_K0 18 mX12_sum (0, [(0, .ref 164), (1, .int 236), (2, .int 0)], [], hh) _
                          refine sp_iconst (p2 := 1) (x := 0) rfl rfl (by decide) ?_
                          refine sp_istore_n (p2 := 2) (lv2 := [(3, .int 0), (0, .ref 164), (1, .int 236), (2, .int 0)]) rfl rfl (by decide) rfl ?_
                          refine sp_iconst (p2 := 3) (x := 0) rfl rfl (by decide) ?_
                          refine sp_istore (p2 := 5) (lv2 := [(4, .int 0), (3, .int 0), (0, .ref 164), (1, .int 236), (2, .int 0)]) rfl rfl (by decide) rfl ?_
                          refine sp_iload (p2 := 7) rfl rfl rfl ?_
                          refine sp_iload_n (p2 := 8) rfl rfl rfl ?_
                          refine st_icmp (b := true) rfl (by decide) ?_
                          show Ev _ _ _ (29, _, _, _) _
                          refine sp_iload_n (p2 := 30) rfl rfl rfl ?_
                          exact sp_iret rfl rfl
                        refine st_callV (R := 164) rfl rfl rfl hh_148 rfl c1 ?_
                        show Ev _ _ _ (132, [(0, .ref 164), (1, .int 8)], [.int 0], hh) _
                        exact sp_iret rfl rfl
                    · by_cases h11 : x1.toInt ≤ 9
                      · obtain rfl : x1 = 9 := i32_ext (by have e9 : Int32.toInt 9 = 9 := rfl; omega)
                        refine ⟨.int 0, hh, hh, ?_, ?_⟩
                        · refine ca_of (d := 19) (M := mX11_count) rfl (Nat.le_of_ble_eq_true rfl) ?_
                          show Ev im_K0 19 mX11_count (0, [(0, .ref 16), (1, .int 9)], [], hh) _
                          refine sp_iload_n (p2 := 1) rfl rfl rfl ?_
                          refine sp_tsIn (k := 9) (p2 := 150) rfl (by decide) (by decide) (by decide) rfl (by decide) ?_
                          refine sp_aload_n (p2 := 151) rfl rfl rfl ?_
                          refine st_get rfl hh_0 rfl ?_
                          show Ev _ _ _ (154, _, _, _) _
                          exact sp_iret rfl rfl
                        · refine ca_of (d := 19) (M := mX12_count) rfl (Nat.le_of_ble_eq_true rfl) ?_
                          show Ev im_K0 19 mX12_count (0, [(0, .ref 164), (1, .int 9)], [], hh) _
                          refine sp_iload_n (p2 := 1) rfl rfl rfl ?_
                          refine sp_tsIn (k := 9) (p2 := 133) rfl (by decide) (by decide) (by decide) rfl (by decide) ?_
                          refine sp_aload_n (p2 := 134) rfl rfl rfl ?_
                          refine st_get rfl hh_148 rfl ?_
                          show Ev _ _ _ (137, _, _, _) _
                          exact sp_iret rfl rfl
                      · by_cases h12 : x1.toInt ≤ 10
                        · obtain rfl : x1 = 10 := i32_ext (by have e9 : Int32.toInt 10 = 10 := rfl; omega)
                          refine ⟨.int (-1), hh, hh, ?_, ?_⟩
                          · refine ca_of (d := 19) (M := mX11_count) rfl (Nat.le_of_ble_eq_true rfl) ?_
                            show Ev im_K0 19 mX11_count (0, [(0, .ref 16), (1, .int 10)], [], hh) _
                            refine sp_iload_n (p2 := 1) rfl rfl rfl ?_
                            refine sp_tsIn (k := 10) (p2 := 155) rfl (by decide) (by decide) (by decide) rfl (by decide) ?_
                            refine sp_aload_n (p2 := 156) rfl rfl rfl ?_
                            refine st_get rfl hh_0 rfl ?_
                            show Ev _ _ _ (159, _, _, _) _
                            exact sp_iret rfl rfl
                          · refine ca_of (d := 19) (M := mX12_count) rfl (Nat.le_of_ble_eq_true rfl) ?_
                            show Ev im_K0 19 mX12_count (0, [(0, .ref 164), (1, .int 10)], [], hh) _
                            refine sp_iload_n (p2 := 1) rfl rfl rfl ?_
                            refine sp_tsIn (k := 10) (p2 := 138) rfl (by decide) (by decide) (by decide) rfl (by decide) ?_
                            refine sp_aload_n (p2 := 139) rfl rfl rfl ?_
                            refine st_get rfl hh_148 rfl ?_
                            show Ev _ _ _ (142, _, _, _) _
                            exact sp_iret rfl rfl
                        · by_cases h13 : x1.toInt ≤ 11
                          · obtain rfl : x1 = 11 := i32_ext (by have e9 : Int32.toInt 11 = 11 := rfl; omega)
                            refine ⟨.int 0, hh, hh, ?_, ?_⟩
                            · refine ca_of (d := 19) (M := mX11_count) rfl (Nat.le_of_ble_eq_true rfl) ?_
                              show Ev im_K0 19 mX11_count (0, [(0, .ref 16), (1, .int 11)], [], hh) _
                              refine sp_iload_n (p2 := 1) rfl rfl rfl ?_
                              refine sp_tsIn (k := 11) (p2 := 160) rfl (by decide) (by decide) (by decide) rfl (by decide) ?_
                              refine sp_aload_n (p2 := 161) rfl rfl rfl ?_
                              refine st_get rfl hh_0 rfl ?_
                              show Ev _ _ _ (164, _, _, _) _
                              refine st_get rfl hh_65 rfl ?_
                              show Ev _ _ _ (167, _, _, _) _
                              exact sp_iret rfl rfl
                            · refine ca_of (d := 19) (M := mX12_count) rfl (Nat.le_of_ble_eq_true rfl) ?_
                              show Ev im_K0 19 mX12_count (0, [(0, .ref 164), (1, .int 11)], [], hh) _
                              refine sp_iload_n (p2 := 1) rfl rfl rfl ?_
                              refine sp_tsIn (k := 11) (p2 := 143) rfl (by decide) (by decide) (by decide) rfl (by decide) ?_
                              refine sp_aload_n (p2 := 144) rfl rfl rfl ?_
                              refine st_get rfl hh_148 rfl ?_
                              show Ev _ _ _ (147, _, _, _) _
                              exact sp_iret rfl rfl
                          · by_cases h14 : x1.toInt ≤ 12
                            · obtain rfl : x1 = 12 := i32_ext (by have e9 : Int32.toInt 12 = 12 := rfl; omega)
                              refine ⟨.int 0, hh, hh, ?_, ?_⟩
                              · refine ca_of (d := 19) (M := mX11_count) rfl (Nat.le_of_ble_eq_true rfl) ?_
                                show Ev im_K0 19 mX11_count (0, [(0, .ref 16), (1, .int 12)], [], hh) _
                                refine sp_iload_n (p2 := 1) rfl rfl rfl ?_
                                refine sp_tsIn (k := 12) (p2 := 168) rfl (by decide) (by decide) (by decide) rfl (by decide) ?_
                                refine sp_aload_n (p2 := 169) rfl rfl rfl ?_
                                refine st_get rfl hh_0 rfl ?_
                                show Ev _ _ _ (172, _, _, _) _
                                refine st_get rfl hh_72 rfl ?_
                                show Ev _ _ _ (175, _, _, _) _
                                exact sp_iret rfl rfl
                              · refine ca_of (d := 19) (M := mX12_count) rfl (Nat.le_of_ble_eq_true rfl) ?_
                                show Ev im_K0 19 mX12_count (0, [(0, .ref 164), (1, .int 12)], [], hh) _
                                refine sp_iload_n (p2 := 1) rfl rfl rfl ?_
                                refine sp_tsIn (k := 12) (p2 := 148) rfl (by decide) (by decide) (by decide) rfl (by decide) ?_
                                refine sp_aload_n (p2 := 149) rfl rfl rfl ?_
                                refine st_get rfl hh_148 rfl ?_
                                show Ev _ _ _ (152, _, _, _) _
                                exact sp_iret rfl rfl
                            · by_cases h15 : x1.toInt ≤ 13
                              · obtain rfl : x1 = 13 := i32_ext (by have e9 : Int32.toInt 13 = 13 := rfl; omega)
                                refine ⟨.int 0, hh, hh, ?_, ?_⟩
                                · refine ca_of (d := 19) (M := mX11_count) rfl (Nat.le_of_ble_eq_true rfl) ?_
                                  show Ev im_K0 19 mX11_count (0, [(0, .ref 16), (1, .int 13)], [], hh) _
                                  refine sp_iload_n (p2 := 1) rfl rfl rfl ?_
                                  refine sp_tsIn (k := 13) (p2 := 176) rfl (by decide) (by decide) (by decide) rfl (by decide) ?_
                                  refine sp_aload_n (p2 := 177) rfl rfl rfl ?_
                                  refine st_get rfl hh_0 rfl ?_
                                  show Ev _ _ _ (180, _, _, _) _
                                  refine st_get rfl hh_1 rfl ?_
                                  show Ev _ _ _ (183, _, _, _) _
                                  exact sp_iret rfl rfl
                                · refine ca_of (d := 19) (M := mX12_count) rfl (Nat.le_of_ble_eq_true rfl) ?_
                                  show Ev im_K0 19 mX12_count (0, [(0, .ref 164), (1, .int 13)], [], hh) _
                                  refine sp_iload_n (p2 := 1) rfl rfl rfl ?_
                                  refine sp_tsIn (k := 13) (p2 := 153) rfl (by decide) (by decide) (by decide) rfl (by decide) ?_
                                  refine sp_aload_n (p2 := 154) rfl rfl rfl ?_
                                  refine st_get rfl hh_148 rfl ?_
                                  show Ev _ _ _ (157, _, _, _) _
                                  exact sp_iret rfl rfl
                              · refine ⟨.int (-2), hh, hh, ?_, ?_⟩
                                · refine ca_of (d := 19) (M := mX11_count) rfl (Nat.le_of_ble_eq_true rfl) ?_
                                  show Ev im_K0 19 mX11_count (0, [(0, .ref 16), (1, .int x1)], [], hh) _
                                  refine sp_iload_n (p2 := 1) rfl rfl rfl ?_
                                  refine sp_tsOut (p2 := 184) rfl (by omega) (by decide) ?_
                                  refine sp_bipush (p2 := 186) (x := (-2)) rfl rfl (by decide) ?_
                                  exact sp_iret rfl rfl
                                · refine ca_of (d := 19) (M := mX12_count) rfl (Nat.le_of_ble_eq_true rfl) ?_
                                  show Ev im_K0 19 mX12_count (0, [(0, .ref 164), (1, .int x1)], [], hh) _
                                  refine sp_iload_n (p2 := 1) rfl rfl rfl ?_
                                  refine sp_tsOut (p2 := 158) rfl (by omega) (by decide) ?_
                                  refine sp_bipush (p2 := 160) (x := (-2)) rfl rfl (by decide) ?_
                                  exact sp_iret rfl rfl
set_option maxRecDepth 10000 in
set_option maxHeartbeats 4000000 in
theorem q_next : ∃ (v : Value) (h1 h2 : im_H), Ca 20 95 [.ref 16] hh (some v, h1) ∧ Ca 20 181 [.ref 164] h1 (some v, h2) := by
  refine ⟨.int (-1), hh, hh, ?_, ?_⟩
  · exact (show Ca 20 95 [.ref 16] hh (some (.int (-1)), hh) from ca_dec (d := 9) (f := 2765) (by decide) (im_eqb_eq (by decide +kernel)))
  · exact (show Ca 20 181 [.ref 164] hh (some (.int (-1)), hh) from ca_dec (d := 9) (f := 2261) (by decide) (im_eqb_eq (by decide +kernel)))
set_option maxRecDepth 10000 in
set_option maxHeartbeats 4000000 in
theorem q_order : ∃ (v : Value) (h1 h2 : im_H), Ca 20 73 [.ref 16] hh (some v, h1) ∧ Ca 20 140 [.ref 164] h1 (some v, h2) := by
  refine ⟨.int (-100), (hh.set 99 (.inl (0, .inl (([(-1), 0, 0, 0, 0, 0, 0, 0] : List Int32))))), ((hh.set 99 (.inl (0, .inl (([(-1), 0, 0, 0, 0, 0, 0, 0] : List Int32))))).set 186 (.inl (0, .inl ((([(-1)] ++ (List.replicate 47 0)) : List Int32))))), ?_, ?_⟩
  · exact (show Ca 20 73 [.ref 16] hh (some (.int (-100)), (hh.set 99 (.inl (0, .inl (([(-1), 0, 0, 0, 0, 0, 0, 0] : List Int32)))))) from ca_dec (d := 9) (f := 483) (by decide) (im_eqb_eq (by decide +kernel)))
  · exact (show Ca 20 140 [.ref 164] (hh.set 99 (.inl (0, .inl (([(-1), 0, 0, 0, 0, 0, 0, 0] : List Int32))))) (some (.int (-100)), ((hh.set 99 (.inl (0, .inl (([(-1), 0, 0, 0, 0, 0, 0, 0] : List Int32))))).set 186 (.inl (0, .inl ((([(-1)] ++ (List.replicate 47 0)) : List Int32)))))) from ca_dec (d := 9) (f := 329) (by decide) (im_eqb_eq (by decide +kernel)))
set_option maxRecDepth 10000 in
set_option maxHeartbeats 4000000 in
theorem q_image : ∃ (v : Value) (h1 h2 : im_H), Ca 20 102 [.ref 16] hh (some v, h1) ∧ Ca 20 189 [.ref 164] h1 (some v, h2) := by
  refine ⟨.int 0, (hh.set 0 (.inr (11, [.ref 17, .ref 39, .ref 53, .ref 67, .int 1, .ref 81, .ref 83, .int 0, .int (-1), .ref 84, .ref 88, .ref 93, .ref 107, .ref 113]))), (((hh.set 0 (.inr (11, [.ref 17, .ref 39, .ref 53, .ref 67, .int 1, .ref 81, .ref 83, .int 0, .int (-1), .ref 84, .ref 88, .ref 93, .ref 107, .ref 113]))).set 148 (.inr (12, [.ref 165, .ref 166, .ref 167, .int 1, .ref 168, .ref 169, .ref 170, .ref 171, .ref 172, .int (-1), .int 0, .ref 173, .ref 174, .ref 175, .ref 176, .ref 177, .ref 178, .ref 179, .ref 180, .ref 181, .ref 182, .int 0, .ref 183, .ref 184, .int 0, .ref 185, .ref 186, .ref 187, .ref 188, .int 0, .ref 189, .ref 190, .ref 191, .ref 192, .ref 193, .int 0, .ref 194, .ref 195, .ref 196, .ref 197, .ref 198, .int 0, .ref 199, .int 0, .ref 200, .int 0, .int 0, .int (-1), .ref 201, .ref 202, .ref 203, .ref 204, .ref 205, .ref 206, .ref 207, .ref 208, .ref 209, .ref 210, .ref 211, .ref 212, .int 0, .int 0, .int 0, .ref 213, .ref 214, .ref 215]))).set 151 (.inl (0, .inl (((List.replicate 140 0 ++ (List.replicate 24 (-1) ++ (List.replicate 119 0))) : List Int32))))), ?_, ?_⟩
  · refine ca_of (d := 19) (M := mX11_image) rfl (Nat.le_of_ble_eq_true rfl) ?_
    show Ev im_K0 19 mX11_image (0, [(0, .ref 16)], [], hh) _
    refine sp_aload_n (p2 := 1) rfl rfl rfl ?_
    refine st_get rfl hh_0 rfl ?_
    show Ev _ _ _ (4, _, _, _) _
    refine sp_aload_n (p2 := 5) rfl rfl rfl ?_
    refine st_get rfl hh_0 rfl ?_
    show Ev _ _ _ (8, _, _, _) _
    refine st_callV (R := 67) rfl rfl rfl hh_51 rfl (show Ca 19 46 [.ref 67, .ref 39] hh (none, hh) from ca_dec (d := 9) (f := 175) (by decide) (im_eqb_eq (by decide +kernel))) ?_
    show Ev _ _ _ (11, [(0, .ref 16)], [], hh) _
    refine sp_aload_n (p2 := 12) rfl rfl rfl ?_
    refine sp_iconst (p2 := 13) (x := 1) rfl rfl (by decide) ?_
    refine st_put (i := 0) rfl rfl hh_0 rfl rfl (Nat.le_of_ble_eq_true rfl) ?_
    show Ev _ _ _ (16, [(0, .ref 16)], [], (hh.set 0 (.inr (11, [.ref 17, .ref 39, .ref 53, .ref 67, .int 1, .ref 81, .ref 83, .int 0, .int (-1), .ref 84, .ref 88, .ref 93, .ref 107, .ref 113])))) _
    refine sp_aload_n (p2 := 17) rfl rfl rfl ?_
    refine st_get rfl (ob_eq2 hh_len (by decide)) rfl ?_
    show Ev _ _ _ (20, _, _, _) _
    refine st_get rfl (ob_ne (by decide) hh_23) rfl ?_
    show Ev _ _ _ (23, _, _, _) _
    exact sp_iret rfl rfl
  · exact (show Ca 20 189 [.ref 164] (hh.set 0 (.inr (11, [.ref 17, .ref 39, .ref 53, .ref 67, .int 1, .ref 81, .ref 83, .int 0, .int (-1), .ref 84, .ref 88, .ref 93, .ref 107, .ref 113]))) (some (.int 0), (((hh.set 0 (.inr (11, [.ref 17, .ref 39, .ref 53, .ref 67, .int 1, .ref 81, .ref 83, .int 0, .int (-1), .ref 84, .ref 88, .ref 93, .ref 107, .ref 113]))).set 148 (.inr (12, [.ref 165, .ref 166, .ref 167, .int 1, .ref 168, .ref 169, .ref 170, .ref 171, .ref 172, .int (-1), .int 0, .ref 173, .ref 174, .ref 175, .ref 176, .ref 177, .ref 178, .ref 179, .ref 180, .ref 181, .ref 182, .int 0, .ref 183, .ref 184, .int 0, .ref 185, .ref 186, .ref 187, .ref 188, .int 0, .ref 189, .ref 190, .ref 191, .ref 192, .ref 193, .int 0, .ref 194, .ref 195, .ref 196, .ref 197, .ref 198, .int 0, .ref 199, .int 0, .ref 200, .int 0, .int 0, .int (-1), .ref 201, .ref 202, .ref 203, .ref 204, .ref 205, .ref 206, .ref 207, .ref 208, .ref 209, .ref 210, .ref 211, .ref 212, .int 0, .int 0, .int 0, .ref 213, .ref 214, .ref 215]))).set 151 (.inl (0, .inl (((List.replicate 140 0 ++ (List.replicate 24 (-1) ++ (List.replicate 119 0))) : List Int32)))))) from ca_dec (d := 9) (f := 3742) (by decide) (im_eqb_eq (by decide +kernel)))
set_option maxRecDepth 10000 in
set_option maxHeartbeats 4000000 in
theorem q_clear (x1 x2 : Int32) : ∃ (v : Value) (h1 h2 : im_H), Ca 20 101 [.ref 16, .int x1, .int x2] hh (some v, h1) ∧ Ca 20 188 [.ref 164, .int x1, .int x2] h1 (some v, h2) := by
  by_cases h1 : x1.toInt ≤ (-1)
  · refine ⟨.int (-1), hh, hh, ?_, ?_⟩
    · refine ca_of (d := 19) (M := mX11_clear) rfl (Nat.le_of_ble_eq_true rfl) ?_
      show Ev im_K0 19 mX11_clear (0, [(0, .ref 16), (1, .int x1), (2, .int x2)], [], hh) _
      refine sp_iload_n (p2 := 1) rfl rfl rfl ?_
      refine sp_bipush (p2 := 3) (x := 100) rfl rfl (by decide) ?_
      refine st_callS rfl rfl rfl (cl_within_F (b := 100) rfl (by omega)) ?_
      show Ev _ _ _ (6, [(0, .ref 16), (1, .int x1), (2, .int x2)], [.int 0], hh) _
      refine st_ifc (b := false) rfl (by decide) ?_
      show Ev _ _ _ (9, _, _, _) _
      refine sp_iconst (p2 := 10) (x := (-1)) rfl rfl (by decide) ?_
      exact sp_iret rfl rfl
    · refine ca_of (d := 19) (M := mX12_clear) rfl (Nat.le_of_ble_eq_true rfl) ?_
      show Ev im_K0 19 mX12_clear (0, [(0, .ref 164), (1, .int x1), (2, .int x2)], [], hh) _
      refine sp_iload_n (p2 := 1) rfl rfl rfl ?_
      refine st_callS rfl rfl rfl (cl_isCell_F (by omega)) ?_
      show Ev _ _ _ (4, [(0, .ref 164), (1, .int x1), (2, .int x2)], [.int 0], hh) _
      refine st_ifc (b := false) rfl (by decide) ?_
      show Ev _ _ _ (7, _, _, _) _
      refine sp_iconst (p2 := 8) (x := (-1)) rfl rfl (by decide) ?_
      exact sp_iret rfl rfl
  · by_cases h2 : x1.toInt ≤ 99
    · by_cases h3 : x2.toInt ≤ 0
      · refine ⟨.int (-2), hh, hh, ?_, ?_⟩
        · refine ca_of (d := 19) (M := mX11_clear) rfl (Nat.le_of_ble_eq_true rfl) ?_
          show Ev im_K0 19 mX11_clear (0, [(0, .ref 16), (1, .int x1), (2, .int x2)], [], hh) _
          refine sp_iload_n (p2 := 1) rfl rfl rfl ?_
          refine sp_bipush (p2 := 3) (x := 100) rfl rfl (by decide) ?_
          refine st_callS rfl rfl rfl (cl_within_T (b := 100) rfl (by omega)) ?_
          show Ev _ _ _ (6, [(0, .ref 16), (1, .int x1), (2, .int x2)], [.int 1], hh) _
          refine st_ifc (b := true) rfl (by decide) ?_
          show Ev _ _ _ (11, _, _, _) _
          refine sp_iload_n (p2 := 12) rfl rfl rfl ?_
          refine sp_iconst (p2 := 13) (x := 1) rfl rfl (by decide) ?_
          refine sp_bipush (p2 := 15) (x := 60) rfl rfl (by decide) ?_
          refine st_callS rfl rfl rfl (cl_between_F (a := 1) (b := 60) rfl rfl (by omega)) ?_
          show Ev _ _ _ (18, [(0, .ref 16), (1, .int x1), (2, .int x2)], [.int 0], hh) _
          refine st_ifc (b := false) rfl (by decide) ?_
          show Ev _ _ _ (21, _, _, _) _
          refine sp_bipush (p2 := 23) (x := (-2)) rfl rfl (by decide) ?_
          exact sp_iret rfl rfl
        · refine ca_of (d := 19) (M := mX12_clear) rfl (Nat.le_of_ble_eq_true rfl) ?_
          show Ev im_K0 19 mX12_clear (0, [(0, .ref 164), (1, .int x1), (2, .int x2)], [], hh) _
          refine sp_iload_n (p2 := 1) rfl rfl rfl ?_
          refine st_callS rfl rfl rfl (cl_isCell_T (by omega)) ?_
          show Ev _ _ _ (4, [(0, .ref 164), (1, .int x1), (2, .int x2)], [.int 1], hh) _
          refine st_ifc (b := true) rfl (by decide) ?_
          show Ev _ _ _ (9, _, _, _) _
          refine sp_iload_n (p2 := 10) rfl rfl rfl ?_
          refine sp_iconst (p2 := 11) (x := 1) rfl rfl (by decide) ?_
          refine sp_bipush (p2 := 13) (x := 60) rfl rfl (by decide) ?_
          refine st_callS rfl rfl rfl (cl_in_F (a := 1) (b := 60) rfl rfl (by omega)) ?_
          show Ev _ _ _ (16, [(0, .ref 164), (1, .int x1), (2, .int x2)], [.int 0], hh) _
          refine st_ifc (b := false) rfl (by decide) ?_
          show Ev _ _ _ (19, _, _, _) _
          refine sp_bipush (p2 := 21) (x := (-2)) rfl rfl (by decide) ?_
          exact sp_iret rfl rfl
      · by_cases h4 : x2.toInt ≤ 60
        · refine ⟨.int 0, hh, (hh.set 150 (.inl (0, .inl (((List.replicate 140 0 ++ (List.replicate 24 (-1) ++ (List.replicate 119 0))) : List Int32))))), ?_, ?_⟩
          · refine ca_of (d := 19) (M := mX11_clear) rfl (Nat.le_of_ble_eq_true rfl) ?_
            show Ev im_K0 19 mX11_clear (0, [(0, .ref 16), (1, .int x1), (2, .int x2)], [], hh) _
            refine sp_iload_n (p2 := 1) rfl rfl rfl ?_
            refine sp_bipush (p2 := 3) (x := 100) rfl rfl (by decide) ?_
            refine st_callS rfl rfl rfl (cl_within_T (b := 100) rfl (by omega)) ?_
            show Ev _ _ _ (6, [(0, .ref 16), (1, .int x1), (2, .int x2)], [.int 1], hh) _
            refine st_ifc (b := true) rfl (by decide) ?_
            show Ev _ _ _ (11, _, _, _) _
            refine sp_iload_n (p2 := 12) rfl rfl rfl ?_
            refine sp_iconst (p2 := 13) (x := 1) rfl rfl (by decide) ?_
            refine sp_bipush (p2 := 15) (x := 60) rfl rfl (by decide) ?_
            refine st_callS rfl rfl rfl (cl_between_T (a := 1) (b := 60) rfl rfl (by omega)) ?_
            show Ev _ _ _ (18, [(0, .ref 16), (1, .int x1), (2, .int x2)], [.int 1], hh) _
            refine st_ifc (b := true) rfl (by decide) ?_
            show Ev _ _ _ (24, _, _, _) _
            refine sp_aload_n (p2 := 25) rfl rfl rfl ?_
            refine st_get rfl hh_0 rfl ?_
            show Ev _ _ _ (28, _, _, _) _
            refine sp_aload_n (p2 := 29) rfl rfl rfl ?_
            refine st_get rfl hh_0 rfl ?_
            show Ev _ _ _ (32, _, _, _) _
            refine st_callV (R := 53) rfl rfl rfl hh_37 rfl (show Ca 19 46 [.ref 53, .ref 39] hh (none, hh) from ca_dec (d := 9) (f := 175) (by decide) (im_eqb_eq (by decide +kernel))) ?_
            show Ev _ _ _ (35, [(0, .ref 16), (1, .int x1), (2, .int x2)], [], hh) _
            refine sp_iconst (p2 := 36) (x := 0) rfl rfl (by decide) ?_
            refine sp_istore_n (p2 := 37) (lv2 := [(3, .int 0), (0, .ref 16), (1, .int x1), (2, .int x2)]) rfl rfl (by decide) rfl ?_
            refine sp_iload_n (p2 := 38) rfl rfl rfl ?_
            refine sp_iload_n (p2 := 39) rfl rfl rfl ?_
            refine st_icmp (b := false) rfl (cn_ge_F (show Int32.toInt 0 = 0 from rfl) rfl (by omega)) ?_
            show Ev _ _ _ (42, _, _, _) _
            refine sp_aload_n (p2 := 43) rfl rfl rfl ?_
            refine st_get rfl hh_0 rfl ?_
            show Ev _ _ _ (46, _, _, _) _
            refine st_get rfl hh_37 rfl ?_
            show Ev _ _ _ (49, _, _, _) _
            refine sp_iload_n (p2 := 50) rfl rfl rfl ?_
            refine st_iald (x := 0) rfl (by decide) hh_39 (in_at (n := 100) rfl (by omega) (by omega)) (rd_at 0 99 (by decide +kernel) (by omega) (by omega)) ?_
            show Ev _ _ _ (51, _, _, _) _
            refine st_ifc (b := false) rfl (by decide) ?_
            show Ev _ _ _ (54, _, _, _) _
            refine sp_iload_n (p2 := 55) rfl rfl rfl ?_
            exact sp_iret rfl rfl
          · refine ca_of (d := 19) (M := mX12_clear) rfl (Nat.le_of_ble_eq_true rfl) ?_
            show Ev im_K0 19 mX12_clear (0, [(0, .ref 164), (1, .int x1), (2, .int x2)], [], hh) _
            refine sp_iload_n (p2 := 1) rfl rfl rfl ?_
            refine st_callS rfl rfl rfl (cl_isCell_T (by omega)) ?_
            show Ev _ _ _ (4, [(0, .ref 164), (1, .int x1), (2, .int x2)], [.int 1], hh) _
            refine st_ifc (b := true) rfl (by decide) ?_
            show Ev _ _ _ (9, _, _, _) _
            refine sp_iload_n (p2 := 10) rfl rfl rfl ?_
            refine sp_iconst (p2 := 11) (x := 1) rfl rfl (by decide) ?_
            refine sp_bipush (p2 := 13) (x := 60) rfl rfl (by decide) ?_
            refine st_callS rfl rfl rfl (cl_in_T (a := 1) (b := 60) rfl rfl (by omega)) ?_
            show Ev _ _ _ (16, [(0, .ref 164), (1, .int x1), (2, .int x2)], [.int 1], hh) _
            refine st_ifc (b := true) rfl (by decide) ?_
            show Ev _ _ _ (22, _, _, _) _
            refine sp_aload_n (p2 := 23) rfl rfl rfl ?_
            refine sp_iconst (p2 := 24) (x := 0) rfl rfl (by decide) ?_
            refine st_callV (R := 164) rfl rfl rfl hh_148 rfl (show Ca 19 186 [.ref 164, .int 0] hh (none, (hh.set 150 (.inl (0, .inl (((List.replicate 140 0 ++ (List.replicate 24 (-1) ++ (List.replicate 119 0))) : List Int32)))))) from ca_dec (d := 9) (f := 4301) (by decide) (im_eqb_eq (by decide +kernel))) ?_
            show Ev _ _ _ (27, [(0, .ref 164), (1, .int x1), (2, .int x2)], [], (hh.set 150 (.inl (0, .inl (((List.replicate 140 0 ++ (List.replicate 24 (-1) ++ (List.replicate 119 0))) : List Int32)))))) _
            refine sp_iconst (p2 := 28) (x := 0) rfl rfl (by decide) ?_
            refine sp_istore_n (p2 := 29) (lv2 := [(3, .int 0), (0, .ref 164), (1, .int x1), (2, .int x2)]) rfl rfl (by decide) rfl ?_
            refine sp_iload_n (p2 := 30) rfl rfl rfl ?_
            refine sp_iload_n (p2 := 31) rfl rfl rfl ?_
            refine st_icmp (b := false) rfl (cn_gt_F (show Int32.toInt 0 = 0 from rfl) rfl (by omega)) ?_
            show Ev _ _ _ (34, _, _, _) _
            refine sp_aload_n (p2 := 35) rfl rfl rfl ?_
            refine st_get rfl (ob_ne (by decide) hh_148) rfl ?_
            show Ev _ _ _ (38, _, _, _) _
            refine sp_iload_n (p2 := 39) rfl rfl rfl ?_
            refine st_iald (x := 0) rfl (by decide) (ia_ne (by decide) hh_149) (in_at (n := 283) rfl (by omega) (by omega)) (rd_at 0 99 (by decide +kernel) (by omega) (by omega)) ?_
            show Ev _ _ _ (40, _, _, _) _
            refine st_ifc (b := true) rfl (by decide) ?_
            show Ev _ _ _ (53, _, _, _) _
            refine sp_aload_n (p2 := 54) rfl rfl rfl ?_
            refine sp_iconst (p2 := 55) (x := 1) rfl rfl (by decide) ?_
            refine st_callV (R := 164) rfl rfl rfl (ob_ne (by decide) hh_148) rfl (show Ca 19 186 [.ref 164, .int 1] (hh.set 150 (.inl (0, .inl (((List.replicate 140 0 ++ (List.replicate 24 (-1) ++ (List.replicate 119 0))) : List Int32))))) (none, (hh.set 150 (.inl (0, .inl (((List.replicate 140 0 ++ (List.replicate 24 (-1) ++ (List.replicate 119 0))) : List Int32)))))) from ca_dec (d := 9) (f := 4584) (by decide) (im_eqb_eq (by decide +kernel))) ?_
            show Ev _ _ _ (58, [(3, .int 0), (0, .ref 164), (1, .int x1), (2, .int x2)], [], (hh.set 150 (.inl (0, .inl (((List.replicate 140 0 ++ (List.replicate 24 (-1) ++ (List.replicate 119 0))) : List Int32)))))) _
            refine sp_iload_n (p2 := 59) rfl rfl rfl ?_
            refine sp_iload_n (p2 := 60) rfl rfl rfl ?_
            refine st_icmp (b := true) rfl (cn_le_T (show Int32.toInt 0 = 0 from rfl) rfl (by omega)) ?_
            show Ev _ _ _ (68, _, _, _) _
            refine sp_iload_n (p2 := 69) rfl rfl rfl ?_
            exact sp_iret rfl rfl
        · refine ⟨.int (-2), hh, hh, ?_, ?_⟩
          · refine ca_of (d := 19) (M := mX11_clear) rfl (Nat.le_of_ble_eq_true rfl) ?_
            show Ev im_K0 19 mX11_clear (0, [(0, .ref 16), (1, .int x1), (2, .int x2)], [], hh) _
            refine sp_iload_n (p2 := 1) rfl rfl rfl ?_
            refine sp_bipush (p2 := 3) (x := 100) rfl rfl (by decide) ?_
            refine st_callS rfl rfl rfl (cl_within_T (b := 100) rfl (by omega)) ?_
            show Ev _ _ _ (6, [(0, .ref 16), (1, .int x1), (2, .int x2)], [.int 1], hh) _
            refine st_ifc (b := true) rfl (by decide) ?_
            show Ev _ _ _ (11, _, _, _) _
            refine sp_iload_n (p2 := 12) rfl rfl rfl ?_
            refine sp_iconst (p2 := 13) (x := 1) rfl rfl (by decide) ?_
            refine sp_bipush (p2 := 15) (x := 60) rfl rfl (by decide) ?_
            refine st_callS rfl rfl rfl (cl_between_F (a := 1) (b := 60) rfl rfl (by omega)) ?_
            show Ev _ _ _ (18, [(0, .ref 16), (1, .int x1), (2, .int x2)], [.int 0], hh) _
            refine st_ifc (b := false) rfl (by decide) ?_
            show Ev _ _ _ (21, _, _, _) _
            refine sp_bipush (p2 := 23) (x := (-2)) rfl rfl (by decide) ?_
            exact sp_iret rfl rfl
          · refine ca_of (d := 19) (M := mX12_clear) rfl (Nat.le_of_ble_eq_true rfl) ?_
            show Ev im_K0 19 mX12_clear (0, [(0, .ref 164), (1, .int x1), (2, .int x2)], [], hh) _
            refine sp_iload_n (p2 := 1) rfl rfl rfl ?_
            refine st_callS rfl rfl rfl (cl_isCell_T (by omega)) ?_
            show Ev _ _ _ (4, [(0, .ref 164), (1, .int x1), (2, .int x2)], [.int 1], hh) _
            refine st_ifc (b := true) rfl (by decide) ?_
            show Ev _ _ _ (9, _, _, _) _
            refine sp_iload_n (p2 := 10) rfl rfl rfl ?_
            refine sp_iconst (p2 := 11) (x := 1) rfl rfl (by decide) ?_
            refine sp_bipush (p2 := 13) (x := 60) rfl rfl (by decide) ?_
            refine st_callS rfl rfl rfl (cl_in_F (a := 1) (b := 60) rfl rfl (by omega)) ?_
            show Ev _ _ _ (16, [(0, .ref 164), (1, .int x1), (2, .int x2)], [.int 0], hh) _
            refine st_ifc (b := false) rfl (by decide) ?_
            show Ev _ _ _ (19, _, _, _) _
            refine sp_bipush (p2 := 21) (x := (-2)) rfl rfl (by decide) ?_
            exact sp_iret rfl rfl
    · refine ⟨.int (-1), hh, hh, ?_, ?_⟩
      · refine ca_of (d := 19) (M := mX11_clear) rfl (Nat.le_of_ble_eq_true rfl) ?_
        show Ev im_K0 19 mX11_clear (0, [(0, .ref 16), (1, .int x1), (2, .int x2)], [], hh) _
        refine sp_iload_n (p2 := 1) rfl rfl rfl ?_
        refine sp_bipush (p2 := 3) (x := 100) rfl rfl (by decide) ?_
        refine st_callS rfl rfl rfl (cl_within_F (b := 100) rfl (by omega)) ?_
        show Ev _ _ _ (6, [(0, .ref 16), (1, .int x1), (2, .int x2)], [.int 0], hh) _
        refine st_ifc (b := false) rfl (by decide) ?_
        show Ev _ _ _ (9, _, _, _) _
        refine sp_iconst (p2 := 10) (x := (-1)) rfl rfl (by decide) ?_
        exact sp_iret rfl rfl
      · refine ca_of (d := 19) (M := mX12_clear) rfl (Nat.le_of_ble_eq_true rfl) ?_
        show Ev im_K0 19 mX12_clear (0, [(0, .ref 164), (1, .int x1), (2, .int x2)], [], hh) _
        refine sp_iload_n (p2 := 1) rfl rfl rfl ?_
        refine st_callS rfl rfl rfl (cl_isCell_F (by omega)) ?_
        show Ev _ _ _ (4, [(0, .ref 164), (1, .int x1), (2, .int x2)], [.int 0], hh) _
        refine st_ifc (b := false) rfl (by decide) ?_
        show Ev _ _ _ (7, _, _, _) _
        refine sp_iconst (p2 := 8) (x := (-1)) rfl rfl (by decide) ?_
        exact sp_iret rfl rfl
set_option maxRecDepth 10000 in
set_option maxHeartbeats 4000000 in
theorem q_cell (x1 x2 x3 : Int32) : ∃ (v : Value) (h1 h2 : im_H), Ca 20 105 [.ref 16, .int x1, .int x2, .int x3] hh (some v, h1) ∧ Ca 20 192 [.ref 164, .int x1, .int x2, .int x3] h1 (some v, h2) := by
  by_cases h1 : x1.toInt ≤ (-1)
  · refine ⟨.int (-2), hh, hh, ?_, ?_⟩
    · refine ca_of (d := 19) (M := mX11_cell) rfl (Nat.le_of_ble_eq_true rfl) ?_
      show Ev im_K0 19 mX11_cell (0, [(0, .ref 16), (1, .int x1), (2, .int x2), (3, .int x3)], [], hh) _
      refine sp_iload_n (p2 := 1) rfl rfl rfl ?_
      refine sp_iconst (p2 := 2) (x := 4) rfl rfl (by decide) ?_
      refine st_callS rfl rfl rfl (cl_within_F (b := 4) rfl (by omega)) ?_
      show Ev _ _ _ (5, [(0, .ref 16), (1, .int x1), (2, .int x2), (3, .int x3)], [.int 0], hh) _
      refine st_ifc (b := false) rfl (by decide) ?_
      show Ev _ _ _ (8, _, _, _) _
      refine sp_bipush (p2 := 10) (x := (-2)) rfl rfl (by decide) ?_
      exact sp_iret rfl rfl
    · refine ca_of (d := 19) (M := mX12_cell) rfl (Nat.le_of_ble_eq_true rfl) ?_
      show Ev im_K0 19 mX12_cell (0, [(0, .ref 164), (1, .int x1), (2, .int x2), (3, .int x3)], [], hh) _
      refine sp_iload_n (p2 := 1) rfl rfl rfl ?_
      refine sp_iconst (p2 := 2) (x := 0) rfl rfl (by decide) ?_
      refine sp_iconst (p2 := 3) (x := 3) rfl rfl (by decide) ?_
      refine st_callS rfl rfl rfl (cl_in_F (a := 0) (b := 3) rfl rfl (by omega)) ?_
      show Ev _ _ _ (6, [(0, .ref 164), (1, .int x1), (2, .int x2), (3, .int x3)], [.int 0], hh) _
      refine st_ifc (b := false) rfl (by decide) ?_
      show Ev _ _ _ (9, _, _, _) _
      refine sp_bipush (p2 := 11) (x := (-2)) rfl rfl (by decide) ?_
      exact sp_iret rfl rfl
  · by_cases h2 : x1.toInt ≤ 3
    · by_cases h3 : x1.toInt ≤ 0
      · obtain rfl : x1 = 0 := i32_ext (by have e9 : Int32.toInt 0 = 0 := rfl; omega)
        refine ⟨.int (-11), hh, hh, ?_, ?_⟩
        · refine ca_of (d := 19) (M := mX11_cell) rfl (Nat.le_of_ble_eq_true rfl) ?_
          show Ev im_K0 19 mX11_cell (0, [(0, .ref 16), (1, .int 0), (2, .int x2), (3, .int x3)], [], hh) _
          refine sp_iload_n (p2 := 1) rfl rfl rfl ?_
          refine sp_iconst (p2 := 2) (x := 4) rfl rfl (by decide) ?_
          refine st_callS rfl rfl rfl (cl_within_T (n := 0) (b := 4) (show Int32.toInt _ = _ from rfl) (by have e9 : Int32.toInt 0 = 0 := rfl; omega)) ?_
          show Ev _ _ _ (5, [(0, .ref 16), (1, .int 0), (2, .int x2), (3, .int x3)], [.int 1], hh) _
          refine st_ifc (b := true) rfl (by decide) ?_
          show Ev _ _ _ (11, _, _, _) _
          refine sp_aload_n (p2 := 12) rfl rfl rfl ?_
          refine st_get rfl hh_0 rfl ?_
          show Ev _ _ _ (15, _, _, _) _
          refine sp_iload_n (p2 := 16) rfl rfl rfl ?_
          refine st_aald (v := .ref 156) rfl hh_97 (by decide) rfl ?_
          show Ev _ _ _ (17, _, _, _) _
          have c1 : Ca 19 41 [.ref 156] hh (some (.int 1), hh) := by
            refine ca_of (d := 18) (M := mX8_isMissing) rfl (Nat.le_of_ble_eq_true rfl) ?_
            show Ev im_K0 18 mX8_isMissing (0, [(0, .ref 156)], [], hh) _
            refine sp_aload_n (p2 := 1) rfl rfl rfl ?_
            refine st_get rfl hh_140 rfl ?_
            show Ev _ _ _ (4, _, _, _) _
            refine sp_iconst (p2 := 5) (x := (-1)) rfl rfl (by decide) ?_
            refine st_icmp (b := false) rfl (by decide) ?_
            show Ev _ _ _ (8, _, _, _) _
            refine sp_iconst (p2 := 9) (x := 1) rfl rfl (by decide) ?_
            refine sp_goto rfl ?_
            exact sp_zret rfl rfl (by decide)
          refine st_callV (R := 156) rfl rfl rfl hh_140 rfl c1 ?_
          show Ev _ _ _ (20, [(0, .ref 16), (1, .int 0), (2, .int x2), (3, .int x3)], [.int 1], hh) _
          refine st_ifc (b := false) rfl (by decide) ?_
          show Ev _ _ _ (23, _, _, _) _
          refine sp_bipush (p2 := 25) (x := (-11)) rfl rfl (by decide) ?_
          exact sp_iret rfl rfl
        · refine ca_of (d := 19) (M := mX12_cell) rfl (Nat.le_of_ble_eq_true rfl) ?_
          show Ev im_K0 19 mX12_cell (0, [(0, .ref 164), (1, .int 0), (2, .int x2), (3, .int x3)], [], hh) _
          refine sp_iload_n (p2 := 1) rfl rfl rfl ?_
          refine sp_iconst (p2 := 2) (x := 0) rfl rfl (by decide) ?_
          refine sp_iconst (p2 := 3) (x := 3) rfl rfl (by decide) ?_
          refine st_callS rfl rfl rfl (cl_in_T (n := 0) (a := 0) (b := 3) (show Int32.toInt _ = _ from rfl) (show Int32.toInt _ = _ from rfl) (by have e9 : Int32.toInt 0 = 0 := rfl; omega)) ?_
          show Ev _ _ _ (6, [(0, .ref 164), (1, .int 0), (2, .int x2), (3, .int x3)], [.int 1], hh) _
          refine st_ifc (b := true) rfl (by decide) ?_
          show Ev _ _ _ (12, _, _, _) _
          refine sp_aload_n (p2 := 13) rfl rfl rfl ?_
          refine st_get rfl hh_148 rfl ?_
          show Ev _ _ _ (16, _, _, _) _
          refine sp_iload_n (p2 := 17) rfl rfl rfl ?_
          refine st_iald (x := (-1)) rfl (by decide) hh_192 rfl rfl ?_
          show Ev _ _ _ (18, _, _, _) _
          refine sp_iconst (p2 := 19) (x := (-1)) rfl rfl (by decide) ?_
          refine st_icmp (b := false) rfl (by decide) ?_
          show Ev _ _ _ (22, _, _, _) _
          refine sp_bipush (p2 := 24) (x := (-11)) rfl rfl (by decide) ?_
          exact sp_iret rfl rfl
      · by_cases h4 : x1.toInt ≤ 1
        · obtain rfl : x1 = 1 := i32_ext (by have e9 : Int32.toInt 1 = 1 := rfl; omega)
          refine ⟨.int (-11), hh, hh, ?_, ?_⟩
          · refine ca_of (d := 19) (M := mX11_cell) rfl (Nat.le_of_ble_eq_true rfl) ?_
            show Ev im_K0 19 mX11_cell (0, [(0, .ref 16), (1, .int 1), (2, .int x2), (3, .int x3)], [], hh) _
            refine sp_iload_n (p2 := 1) rfl rfl rfl ?_
            refine sp_iconst (p2 := 2) (x := 4) rfl rfl (by decide) ?_
            refine st_callS rfl rfl rfl (cl_within_T (n := 1) (b := 4) (show Int32.toInt _ = _ from rfl) (by have e9 : Int32.toInt 1 = 1 := rfl; omega)) ?_
            show Ev _ _ _ (5, [(0, .ref 16), (1, .int 1), (2, .int x2), (3, .int x3)], [.int 1], hh) _
            refine st_ifc (b := true) rfl (by decide) ?_
            show Ev _ _ _ (11, _, _, _) _
            refine sp_aload_n (p2 := 12) rfl rfl rfl ?_
            refine st_get rfl hh_0 rfl ?_
            show Ev _ _ _ (15, _, _, _) _
            refine sp_iload_n (p2 := 16) rfl rfl rfl ?_
            refine st_aald (v := .ref 158) rfl hh_97 (by decide) rfl ?_
            show Ev _ _ _ (17, _, _, _) _
            have c1 : Ca 19 41 [.ref 158] hh (some (.int 1), hh) := by
              refine ca_of (d := 18) (M := mX8_isMissing) rfl (Nat.le_of_ble_eq_true rfl) ?_
              show Ev im_K0 18 mX8_isMissing (0, [(0, .ref 158)], [], hh) _
              refine sp_aload_n (p2 := 1) rfl rfl rfl ?_
              refine st_get rfl hh_142 rfl ?_
              show Ev _ _ _ (4, _, _, _) _
              refine sp_iconst (p2 := 5) (x := (-1)) rfl rfl (by decide) ?_
              refine st_icmp (b := false) rfl (by decide) ?_
              show Ev _ _ _ (8, _, _, _) _
              refine sp_iconst (p2 := 9) (x := 1) rfl rfl (by decide) ?_
              refine sp_goto rfl ?_
              exact sp_zret rfl rfl (by decide)
            refine st_callV (R := 158) rfl rfl rfl hh_142 rfl c1 ?_
            show Ev _ _ _ (20, [(0, .ref 16), (1, .int 1), (2, .int x2), (3, .int x3)], [.int 1], hh) _
            refine st_ifc (b := false) rfl (by decide) ?_
            show Ev _ _ _ (23, _, _, _) _
            refine sp_bipush (p2 := 25) (x := (-11)) rfl rfl (by decide) ?_
            exact sp_iret rfl rfl
          · refine ca_of (d := 19) (M := mX12_cell) rfl (Nat.le_of_ble_eq_true rfl) ?_
            show Ev im_K0 19 mX12_cell (0, [(0, .ref 164), (1, .int 1), (2, .int x2), (3, .int x3)], [], hh) _
            refine sp_iload_n (p2 := 1) rfl rfl rfl ?_
            refine sp_iconst (p2 := 2) (x := 0) rfl rfl (by decide) ?_
            refine sp_iconst (p2 := 3) (x := 3) rfl rfl (by decide) ?_
            refine st_callS rfl rfl rfl (cl_in_T (n := 1) (a := 0) (b := 3) (show Int32.toInt _ = _ from rfl) (show Int32.toInt _ = _ from rfl) (by have e9 : Int32.toInt 1 = 1 := rfl; omega)) ?_
            show Ev _ _ _ (6, [(0, .ref 164), (1, .int 1), (2, .int x2), (3, .int x3)], [.int 1], hh) _
            refine st_ifc (b := true) rfl (by decide) ?_
            show Ev _ _ _ (12, _, _, _) _
            refine sp_aload_n (p2 := 13) rfl rfl rfl ?_
            refine st_get rfl hh_148 rfl ?_
            show Ev _ _ _ (16, _, _, _) _
            refine sp_iload_n (p2 := 17) rfl rfl rfl ?_
            refine st_iald (x := (-1)) rfl (by decide) hh_192 rfl rfl ?_
            show Ev _ _ _ (18, _, _, _) _
            refine sp_iconst (p2 := 19) (x := (-1)) rfl rfl (by decide) ?_
            refine st_icmp (b := false) rfl (by decide) ?_
            show Ev _ _ _ (22, _, _, _) _
            refine sp_bipush (p2 := 24) (x := (-11)) rfl rfl (by decide) ?_
            exact sp_iret rfl rfl
        · by_cases h5 : x1.toInt ≤ 2
          · obtain rfl : x1 = 2 := i32_ext (by have e9 : Int32.toInt 2 = 2 := rfl; omega)
            refine ⟨.int (-11), hh, hh, ?_, ?_⟩
            · refine ca_of (d := 19) (M := mX11_cell) rfl (Nat.le_of_ble_eq_true rfl) ?_
              show Ev im_K0 19 mX11_cell (0, [(0, .ref 16), (1, .int 2), (2, .int x2), (3, .int x3)], [], hh) _
              refine sp_iload_n (p2 := 1) rfl rfl rfl ?_
              refine sp_iconst (p2 := 2) (x := 4) rfl rfl (by decide) ?_
              refine st_callS rfl rfl rfl (cl_within_T (n := 2) (b := 4) (show Int32.toInt _ = _ from rfl) (by have e9 : Int32.toInt 2 = 2 := rfl; omega)) ?_
              show Ev _ _ _ (5, [(0, .ref 16), (1, .int 2), (2, .int x2), (3, .int x3)], [.int 1], hh) _
              refine st_ifc (b := true) rfl (by decide) ?_
              show Ev _ _ _ (11, _, _, _) _
              refine sp_aload_n (p2 := 12) rfl rfl rfl ?_
              refine st_get rfl hh_0 rfl ?_
              show Ev _ _ _ (15, _, _, _) _
              refine sp_iload_n (p2 := 16) rfl rfl rfl ?_
              refine st_aald (v := .ref 160) rfl hh_97 (by decide) rfl ?_
              show Ev _ _ _ (17, _, _, _) _
              have c1 : Ca 19 41 [.ref 160] hh (some (.int 1), hh) := by
                refine ca_of (d := 18) (M := mX8_isMissing) rfl (Nat.le_of_ble_eq_true rfl) ?_
                show Ev im_K0 18 mX8_isMissing (0, [(0, .ref 160)], [], hh) _
                refine sp_aload_n (p2 := 1) rfl rfl rfl ?_
                refine st_get rfl hh_144 rfl ?_
                show Ev _ _ _ (4, _, _, _) _
                refine sp_iconst (p2 := 5) (x := (-1)) rfl rfl (by decide) ?_
                refine st_icmp (b := false) rfl (by decide) ?_
                show Ev _ _ _ (8, _, _, _) _
                refine sp_iconst (p2 := 9) (x := 1) rfl rfl (by decide) ?_
                refine sp_goto rfl ?_
                exact sp_zret rfl rfl (by decide)
              refine st_callV (R := 160) rfl rfl rfl hh_144 rfl c1 ?_
              show Ev _ _ _ (20, [(0, .ref 16), (1, .int 2), (2, .int x2), (3, .int x3)], [.int 1], hh) _
              refine st_ifc (b := false) rfl (by decide) ?_
              show Ev _ _ _ (23, _, _, _) _
              refine sp_bipush (p2 := 25) (x := (-11)) rfl rfl (by decide) ?_
              exact sp_iret rfl rfl
            · refine ca_of (d := 19) (M := mX12_cell) rfl (Nat.le_of_ble_eq_true rfl) ?_
              show Ev im_K0 19 mX12_cell (0, [(0, .ref 164), (1, .int 2), (2, .int x2), (3, .int x3)], [], hh) _
              refine sp_iload_n (p2 := 1) rfl rfl rfl ?_
              refine sp_iconst (p2 := 2) (x := 0) rfl rfl (by decide) ?_
              refine sp_iconst (p2 := 3) (x := 3) rfl rfl (by decide) ?_
              refine st_callS rfl rfl rfl (cl_in_T (n := 2) (a := 0) (b := 3) (show Int32.toInt _ = _ from rfl) (show Int32.toInt _ = _ from rfl) (by have e9 : Int32.toInt 2 = 2 := rfl; omega)) ?_
              show Ev _ _ _ (6, [(0, .ref 164), (1, .int 2), (2, .int x2), (3, .int x3)], [.int 1], hh) _
              refine st_ifc (b := true) rfl (by decide) ?_
              show Ev _ _ _ (12, _, _, _) _
              refine sp_aload_n (p2 := 13) rfl rfl rfl ?_
              refine st_get rfl hh_148 rfl ?_
              show Ev _ _ _ (16, _, _, _) _
              refine sp_iload_n (p2 := 17) rfl rfl rfl ?_
              refine st_iald (x := (-1)) rfl (by decide) hh_192 rfl rfl ?_
              show Ev _ _ _ (18, _, _, _) _
              refine sp_iconst (p2 := 19) (x := (-1)) rfl rfl (by decide) ?_
              refine st_icmp (b := false) rfl (by decide) ?_
              show Ev _ _ _ (22, _, _, _) _
              refine sp_bipush (p2 := 24) (x := (-11)) rfl rfl (by decide) ?_
              exact sp_iret rfl rfl
          · obtain rfl : x1 = 3 := i32_ext (by have e9 : Int32.toInt 3 = 3 := rfl; omega)
            refine ⟨.int (-11), hh, hh, ?_, ?_⟩
            · refine ca_of (d := 19) (M := mX11_cell) rfl (Nat.le_of_ble_eq_true rfl) ?_
              show Ev im_K0 19 mX11_cell (0, [(0, .ref 16), (1, .int 3), (2, .int x2), (3, .int x3)], [], hh) _
              refine sp_iload_n (p2 := 1) rfl rfl rfl ?_
              refine sp_iconst (p2 := 2) (x := 4) rfl rfl (by decide) ?_
              refine st_callS rfl rfl rfl (cl_within_T (n := 3) (b := 4) (show Int32.toInt _ = _ from rfl) (by have e9 : Int32.toInt 3 = 3 := rfl; omega)) ?_
              show Ev _ _ _ (5, [(0, .ref 16), (1, .int 3), (2, .int x2), (3, .int x3)], [.int 1], hh) _
              refine st_ifc (b := true) rfl (by decide) ?_
              show Ev _ _ _ (11, _, _, _) _
              refine sp_aload_n (p2 := 12) rfl rfl rfl ?_
              refine st_get rfl hh_0 rfl ?_
              show Ev _ _ _ (15, _, _, _) _
              refine sp_iload_n (p2 := 16) rfl rfl rfl ?_
              refine st_aald (v := .ref 162) rfl hh_97 (by decide) rfl ?_
              show Ev _ _ _ (17, _, _, _) _
              have c1 : Ca 19 41 [.ref 162] hh (some (.int 1), hh) := by
                refine ca_of (d := 18) (M := mX8_isMissing) rfl (Nat.le_of_ble_eq_true rfl) ?_
                show Ev im_K0 18 mX8_isMissing (0, [(0, .ref 162)], [], hh) _
                refine sp_aload_n (p2 := 1) rfl rfl rfl ?_
                refine st_get rfl hh_146 rfl ?_
                show Ev _ _ _ (4, _, _, _) _
                refine sp_iconst (p2 := 5) (x := (-1)) rfl rfl (by decide) ?_
                refine st_icmp (b := false) rfl (by decide) ?_
                show Ev _ _ _ (8, _, _, _) _
                refine sp_iconst (p2 := 9) (x := 1) rfl rfl (by decide) ?_
                refine sp_goto rfl ?_
                exact sp_zret rfl rfl (by decide)
              refine st_callV (R := 162) rfl rfl rfl hh_146 rfl c1 ?_
              show Ev _ _ _ (20, [(0, .ref 16), (1, .int 3), (2, .int x2), (3, .int x3)], [.int 1], hh) _
              refine st_ifc (b := false) rfl (by decide) ?_
              show Ev _ _ _ (23, _, _, _) _
              refine sp_bipush (p2 := 25) (x := (-11)) rfl rfl (by decide) ?_
              exact sp_iret rfl rfl
            · refine ca_of (d := 19) (M := mX12_cell) rfl (Nat.le_of_ble_eq_true rfl) ?_
              show Ev im_K0 19 mX12_cell (0, [(0, .ref 164), (1, .int 3), (2, .int x2), (3, .int x3)], [], hh) _
              refine sp_iload_n (p2 := 1) rfl rfl rfl ?_
              refine sp_iconst (p2 := 2) (x := 0) rfl rfl (by decide) ?_
              refine sp_iconst (p2 := 3) (x := 3) rfl rfl (by decide) ?_
              refine st_callS rfl rfl rfl (cl_in_T (n := 3) (a := 0) (b := 3) (show Int32.toInt _ = _ from rfl) (show Int32.toInt _ = _ from rfl) (by have e9 : Int32.toInt 3 = 3 := rfl; omega)) ?_
              show Ev _ _ _ (6, [(0, .ref 164), (1, .int 3), (2, .int x2), (3, .int x3)], [.int 1], hh) _
              refine st_ifc (b := true) rfl (by decide) ?_
              show Ev _ _ _ (12, _, _, _) _
              refine sp_aload_n (p2 := 13) rfl rfl rfl ?_
              refine st_get rfl hh_148 rfl ?_
              show Ev _ _ _ (16, _, _, _) _
              refine sp_iload_n (p2 := 17) rfl rfl rfl ?_
              refine st_iald (x := (-1)) rfl (by decide) hh_192 rfl rfl ?_
              show Ev _ _ _ (18, _, _, _) _
              refine sp_iconst (p2 := 19) (x := (-1)) rfl rfl (by decide) ?_
              refine st_icmp (b := false) rfl (by decide) ?_
              show Ev _ _ _ (22, _, _, _) _
              refine sp_bipush (p2 := 24) (x := (-11)) rfl rfl (by decide) ?_
              exact sp_iret rfl rfl
    · refine ⟨.int (-2), hh, hh, ?_, ?_⟩
      · refine ca_of (d := 19) (M := mX11_cell) rfl (Nat.le_of_ble_eq_true rfl) ?_
        show Ev im_K0 19 mX11_cell (0, [(0, .ref 16), (1, .int x1), (2, .int x2), (3, .int x3)], [], hh) _
        refine sp_iload_n (p2 := 1) rfl rfl rfl ?_
        refine sp_iconst (p2 := 2) (x := 4) rfl rfl (by decide) ?_
        refine st_callS rfl rfl rfl (cl_within_F (b := 4) rfl (by omega)) ?_
        show Ev _ _ _ (5, [(0, .ref 16), (1, .int x1), (2, .int x2), (3, .int x3)], [.int 0], hh) _
        refine st_ifc (b := false) rfl (by decide) ?_
        show Ev _ _ _ (8, _, _, _) _
        refine sp_bipush (p2 := 10) (x := (-2)) rfl rfl (by decide) ?_
        exact sp_iret rfl rfl
      · refine ca_of (d := 19) (M := mX12_cell) rfl (Nat.le_of_ble_eq_true rfl) ?_
        show Ev im_K0 19 mX12_cell (0, [(0, .ref 164), (1, .int x1), (2, .int x2), (3, .int x3)], [], hh) _
        refine sp_iload_n (p2 := 1) rfl rfl rfl ?_
        refine sp_iconst (p2 := 2) (x := 0) rfl rfl (by decide) ?_
        refine sp_iconst (p2 := 3) (x := 3) rfl rfl (by decide) ?_
        refine st_callS rfl rfl rfl (cl_in_F (a := 0) (b := 3) rfl rfl (by omega)) ?_
        show Ev _ _ _ (6, [(0, .ref 164), (1, .int x1), (2, .int x2), (3, .int x3)], [.int 0], hh) _
        refine st_ifc (b := false) rfl (by decide) ?_
        show Ev _ _ _ (9, _, _, _) _
        refine sp_bipush (p2 := 11) (x := (-2)) rfl rfl (by decide) ?_
        exact sp_iret rfl rfl
set_option maxRecDepth 10000 in
set_option maxHeartbeats 4000000 in
theorem q_copy (x1 x2 x3 x4 x5 : Int32) : ∃ (v : Value) (h1 h2 : im_H), Ca 20 106 [.ref 16, .int x1, .int x2, .int x3, .int x4, .int x5] hh (some v, h1) ∧ Ca 20 193 [.ref 164, .int x1, .int x2, .int x3, .int x4, .int x5] h1 (some v, h2) := by
  by_cases h1 : x1.toInt ≤ (-1)
  · refine ⟨.int (-2), hh, hh, ?_, ?_⟩
    · refine ca_of (d := 19) (M := mX11_copy) rfl (Nat.le_of_ble_eq_true rfl) ?_
      show Ev im_K0 19 mX11_copy (0, [(0, .ref 16), (1, .int x1), (2, .int x2), (3, .int x3), (4, .int x4), (5, .int x5)], [], hh) _
      refine sp_iload_n (p2 := 1) rfl rfl rfl ?_
      refine sp_iconst (p2 := 2) (x := 4) rfl rfl (by decide) ?_
      refine st_callS rfl rfl rfl (cl_within_F (b := 4) rfl (by omega)) ?_
      show Ev _ _ _ (5, [(0, .ref 16), (1, .int x1), (2, .int x2), (3, .int x3), (4, .int x4), (5, .int x5)], [.int 0], hh) _
      refine st_ifc (b := true) rfl (by decide) ?_
      show Ev _ _ _ (16, _, _, _) _
      refine sp_bipush (p2 := 18) (x := (-2)) rfl rfl (by decide) ?_
      exact sp_iret rfl rfl
    · refine ca_of (d := 19) (M := mX12_copy) rfl (Nat.le_of_ble_eq_true rfl) ?_
      show Ev im_K0 19 mX12_copy (0, [(0, .ref 164), (1, .int x1), (2, .int x2), (3, .int x3), (4, .int x4), (5, .int x5)], [], hh) _
      refine sp_iload_n (p2 := 1) rfl rfl rfl ?_
      refine sp_iconst (p2 := 2) (x := 0) rfl rfl (by decide) ?_
      refine sp_iconst (p2 := 3) (x := 3) rfl rfl (by decide) ?_
      refine st_callS rfl rfl rfl (cl_in_F (a := 0) (b := 3) rfl rfl (by omega)) ?_
      show Ev _ _ _ (6, [(0, .ref 164), (1, .int x1), (2, .int x2), (3, .int x3), (4, .int x4), (5, .int x5)], [.int 0], hh) _
      refine st_ifc (b := true) rfl (by decide) ?_
      show Ev _ _ _ (18, _, _, _) _
      refine sp_bipush (p2 := 20) (x := (-2)) rfl rfl (by decide) ?_
      exact sp_iret rfl rfl
  · by_cases h2 : x1.toInt ≤ 3
    · by_cases h3 : x3.toInt ≤ (-1)
      · refine ⟨.int (-2), hh, hh, ?_, ?_⟩
        · refine ca_of (d := 19) (M := mX11_copy) rfl (Nat.le_of_ble_eq_true rfl) ?_
          show Ev im_K0 19 mX11_copy (0, [(0, .ref 16), (1, .int x1), (2, .int x2), (3, .int x3), (4, .int x4), (5, .int x5)], [], hh) _
          refine sp_iload_n (p2 := 1) rfl rfl rfl ?_
          refine sp_iconst (p2 := 2) (x := 4) rfl rfl (by decide) ?_
          refine st_callS rfl rfl rfl (cl_within_T (b := 4) rfl (by omega)) ?_
          show Ev _ _ _ (5, [(0, .ref 16), (1, .int x1), (2, .int x2), (3, .int x3), (4, .int x4), (5, .int x5)], [.int 1], hh) _
          refine st_ifc (b := false) rfl (by decide) ?_
          show Ev _ _ _ (8, _, _, _) _
          refine sp_iload_n (p2 := 9) rfl rfl rfl ?_
          refine sp_iconst (p2 := 10) (x := 4) rfl rfl (by decide) ?_
          refine st_callS rfl rfl rfl (cl_within_F (b := 4) rfl (by omega)) ?_
          show Ev _ _ _ (13, [(0, .ref 16), (1, .int x1), (2, .int x2), (3, .int x3), (4, .int x4), (5, .int x5)], [.int 0], hh) _
          refine st_ifc (b := false) rfl (by decide) ?_
          show Ev _ _ _ (16, _, _, _) _
          refine sp_bipush (p2 := 18) (x := (-2)) rfl rfl (by decide) ?_
          exact sp_iret rfl rfl
        · refine ca_of (d := 19) (M := mX12_copy) rfl (Nat.le_of_ble_eq_true rfl) ?_
          show Ev im_K0 19 mX12_copy (0, [(0, .ref 164), (1, .int x1), (2, .int x2), (3, .int x3), (4, .int x4), (5, .int x5)], [], hh) _
          refine sp_iload_n (p2 := 1) rfl rfl rfl ?_
          refine sp_iconst (p2 := 2) (x := 0) rfl rfl (by decide) ?_
          refine sp_iconst (p2 := 3) (x := 3) rfl rfl (by decide) ?_
          refine st_callS rfl rfl rfl (cl_in_T (a := 0) (b := 3) rfl rfl (by omega)) ?_
          show Ev _ _ _ (6, [(0, .ref 164), (1, .int x1), (2, .int x2), (3, .int x3), (4, .int x4), (5, .int x5)], [.int 1], hh) _
          refine st_ifc (b := false) rfl (by decide) ?_
          show Ev _ _ _ (9, _, _, _) _
          refine sp_iload_n (p2 := 10) rfl rfl rfl ?_
          refine sp_iconst (p2 := 11) (x := 0) rfl rfl (by decide) ?_
          refine sp_iconst (p2 := 12) (x := 3) rfl rfl (by decide) ?_
          refine st_callS rfl rfl rfl (cl_in_F (a := 0) (b := 3) rfl rfl (by omega)) ?_
          show Ev _ _ _ (15, [(0, .ref 164), (1, .int x1), (2, .int x2), (3, .int x3), (4, .int x4), (5, .int x5)], [.int 0], hh) _
          refine st_ifc (b := false) rfl (by decide) ?_
          show Ev _ _ _ (18, _, _, _) _
          refine sp_bipush (p2 := 20) (x := (-2)) rfl rfl (by decide) ?_
          exact sp_iret rfl rfl
      · by_cases h4 : x3.toInt ≤ 3
        · by_cases h5 : x1.toInt ≤ 0
          · obtain rfl : x1 = 0 := i32_ext (by have e9 : Int32.toInt 0 = 0 := rfl; omega)
            by_cases h6 : x3.toInt ≤ 0
            · obtain rfl : x3 = 0 := i32_ext (by have e9 : Int32.toInt 0 = 0 := rfl; omega)
              refine ⟨.int (-11), hh, hh, ?_, ?_⟩
              · refine ca_of (d := 19) (M := mX11_copy) rfl (Nat.le_of_ble_eq_true rfl) ?_
                show Ev im_K0 19 mX11_copy (0, [(0, .ref 16), (1, .int 0), (2, .int x2), (3, .int 0), (4, .int x4), (5, .int x5)], [], hh) _
                refine sp_iload_n (p2 := 1) rfl rfl rfl ?_
                refine sp_iconst (p2 := 2) (x := 4) rfl rfl (by decide) ?_
                refine st_callS rfl rfl rfl (cl_within_T (n := 0) (b := 4) (show Int32.toInt _ = _ from rfl) (by have e9 : Int32.toInt 0 = 0 := rfl; omega)) ?_
                show Ev _ _ _ (5, [(0, .ref 16), (1, .int 0), (2, .int x2), (3, .int 0), (4, .int x4), (5, .int x5)], [.int 1], hh) _
                refine st_ifc (b := false) rfl (by decide) ?_
                show Ev _ _ _ (8, _, _, _) _
                refine sp_iload_n (p2 := 9) rfl rfl rfl ?_
                refine sp_iconst (p2 := 10) (x := 4) rfl rfl (by decide) ?_
                refine st_callS rfl rfl rfl (cl_within_T (n := 0) (b := 4) (show Int32.toInt _ = _ from rfl) (by have e9 : Int32.toInt 0 = 0 := rfl; omega)) ?_
                show Ev _ _ _ (13, [(0, .ref 16), (1, .int 0), (2, .int x2), (3, .int 0), (4, .int x4), (5, .int x5)], [.int 1], hh) _
                refine st_ifc (b := true) rfl (by decide) ?_
                show Ev _ _ _ (19, _, _, _) _
                refine sp_aload_n (p2 := 20) rfl rfl rfl ?_
                refine st_get rfl hh_0 rfl ?_
                show Ev _ _ _ (23, _, _, _) _
                refine sp_iload_n (p2 := 24) rfl rfl rfl ?_
                refine st_aald (v := .ref 156) rfl hh_97 (by decide) rfl ?_
                show Ev _ _ _ (25, _, _, _) _
                refine sp_astore (p2 := 27) (lv2 := [(6, .ref 156), (0, .ref 16), (1, .int 0), (2, .int x2), (3, .int 0), (4, .int x4), (5, .int x5)]) rfl rfl (by decide) rfl ?_
                refine sp_aload_n (p2 := 28) rfl rfl rfl ?_
                refine st_get rfl hh_0 rfl ?_
                show Ev _ _ _ (31, _, _, _) _
                refine sp_iload_n (p2 := 32) rfl rfl rfl ?_
                refine st_aald (v := .ref 156) rfl hh_97 (by decide) rfl ?_
                show Ev _ _ _ (33, _, _, _) _
                refine sp_astore (p2 := 35) (lv2 := [(7, .ref 156), (6, .ref 156), (0, .ref 16), (1, .int 0), (2, .int x2), (3, .int 0), (4, .int x4), (5, .int x5)]) rfl rfl (by decide) rfl ?_
                refine sp_aload (p2 := 37) rfl rfl rfl ?_
                have c1 : Ca 19 41 [.ref 156] hh (some (.int 1), hh) := by
                  refine ca_of (d := 18) (M := mX8_isMissing) rfl (Nat.le_of_ble_eq_true rfl) ?_
                  show Ev im_K0 18 mX8_isMissing (0, [(0, .ref 156)], [], hh) _
                  refine sp_aload_n (p2 := 1) rfl rfl rfl ?_
                  refine st_get rfl hh_140 rfl ?_
                  show Ev _ _ _ (4, _, _, _) _
                  refine sp_iconst (p2 := 5) (x := (-1)) rfl rfl (by decide) ?_
                  refine st_icmp (b := false) rfl (by decide) ?_
                  show Ev _ _ _ (8, _, _, _) _
                  refine sp_iconst (p2 := 9) (x := 1) rfl rfl (by decide) ?_
                  refine sp_goto rfl ?_
                  exact sp_zret rfl rfl (by decide)
                refine st_callV (R := 156) rfl rfl rfl hh_140 rfl c1 ?_
                show Ev _ _ _ (40, [(7, .ref 156), (6, .ref 156), (0, .ref 16), (1, .int 0), (2, .int x2), (3, .int 0), (4, .int x4), (5, .int x5)], [.int 1], hh) _
                refine st_ifc (b := true) rfl (by decide) ?_
                show Ev _ _ _ (51, _, _, _) _
                refine sp_bipush (p2 := 53) (x := (-11)) rfl rfl (by decide) ?_
                exact sp_iret rfl rfl
              · refine ca_of (d := 19) (M := mX12_copy) rfl (Nat.le_of_ble_eq_true rfl) ?_
                show Ev im_K0 19 mX12_copy (0, [(0, .ref 164), (1, .int 0), (2, .int x2), (3, .int 0), (4, .int x4), (5, .int x5)], [], hh) _
                refine sp_iload_n (p2 := 1) rfl rfl rfl ?_
                refine sp_iconst (p2 := 2) (x := 0) rfl rfl (by decide) ?_
                refine sp_iconst (p2 := 3) (x := 3) rfl rfl (by decide) ?_
                refine st_callS rfl rfl rfl (cl_in_T (n := 0) (a := 0) (b := 3) (show Int32.toInt _ = _ from rfl) (show Int32.toInt _ = _ from rfl) (by have e9 : Int32.toInt 0 = 0 := rfl; omega)) ?_
                show Ev _ _ _ (6, [(0, .ref 164), (1, .int 0), (2, .int x2), (3, .int 0), (4, .int x4), (5, .int x5)], [.int 1], hh) _
                refine st_ifc (b := false) rfl (by decide) ?_
                show Ev _ _ _ (9, _, _, _) _
                refine sp_iload_n (p2 := 10) rfl rfl rfl ?_
                refine sp_iconst (p2 := 11) (x := 0) rfl rfl (by decide) ?_
                refine sp_iconst (p2 := 12) (x := 3) rfl rfl (by decide) ?_
                refine st_callS rfl rfl rfl (cl_in_T (n := 0) (a := 0) (b := 3) (show Int32.toInt _ = _ from rfl) (show Int32.toInt _ = _ from rfl) (by have e9 : Int32.toInt 0 = 0 := rfl; omega)) ?_
                show Ev _ _ _ (15, [(0, .ref 164), (1, .int 0), (2, .int x2), (3, .int 0), (4, .int x4), (5, .int x5)], [.int 1], hh) _
                refine st_ifc (b := true) rfl (by decide) ?_
                show Ev _ _ _ (21, _, _, _) _
                refine sp_aload_n (p2 := 22) rfl rfl rfl ?_
                refine st_get rfl hh_148 rfl ?_
                show Ev _ _ _ (25, _, _, _) _
                refine sp_iload_n (p2 := 26) rfl rfl rfl ?_
                refine st_iald (x := (-1)) rfl (by decide) hh_192 rfl rfl ?_
                show Ev _ _ _ (27, _, _, _) _
                refine sp_iconst (p2 := 28) (x := (-1)) rfl rfl (by decide) ?_
                refine st_icmp (b := true) rfl (by decide) ?_
                show Ev _ _ _ (41, _, _, _) _
                refine sp_bipush (p2 := 43) (x := (-11)) rfl rfl (by decide) ?_
                exact sp_iret rfl rfl
            · by_cases h7 : x3.toInt ≤ 1
              · obtain rfl : x3 = 1 := i32_ext (by have e9 : Int32.toInt 1 = 1 := rfl; omega)
                refine ⟨.int (-11), hh, hh, ?_, ?_⟩
                · refine ca_of (d := 19) (M := mX11_copy) rfl (Nat.le_of_ble_eq_true rfl) ?_
                  show Ev im_K0 19 mX11_copy (0, [(0, .ref 16), (1, .int 0), (2, .int x2), (3, .int 1), (4, .int x4), (5, .int x5)], [], hh) _
                  refine sp_iload_n (p2 := 1) rfl rfl rfl ?_
                  refine sp_iconst (p2 := 2) (x := 4) rfl rfl (by decide) ?_
                  refine st_callS rfl rfl rfl (cl_within_T (n := 0) (b := 4) (show Int32.toInt _ = _ from rfl) (by have e9 : Int32.toInt 0 = 0 := rfl; omega)) ?_
                  show Ev _ _ _ (5, [(0, .ref 16), (1, .int 0), (2, .int x2), (3, .int 1), (4, .int x4), (5, .int x5)], [.int 1], hh) _
                  refine st_ifc (b := false) rfl (by decide) ?_
                  show Ev _ _ _ (8, _, _, _) _
                  refine sp_iload_n (p2 := 9) rfl rfl rfl ?_
                  refine sp_iconst (p2 := 10) (x := 4) rfl rfl (by decide) ?_
                  refine st_callS rfl rfl rfl (cl_within_T (n := 1) (b := 4) (show Int32.toInt _ = _ from rfl) (by have e9 : Int32.toInt 1 = 1 := rfl; omega)) ?_
                  show Ev _ _ _ (13, [(0, .ref 16), (1, .int 0), (2, .int x2), (3, .int 1), (4, .int x4), (5, .int x5)], [.int 1], hh) _
                  refine st_ifc (b := true) rfl (by decide) ?_
                  show Ev _ _ _ (19, _, _, _) _
                  refine sp_aload_n (p2 := 20) rfl rfl rfl ?_
                  refine st_get rfl hh_0 rfl ?_
                  show Ev _ _ _ (23, _, _, _) _
                  refine sp_iload_n (p2 := 24) rfl rfl rfl ?_
                  refine st_aald (v := .ref 156) rfl hh_97 (by decide) rfl ?_
                  show Ev _ _ _ (25, _, _, _) _
                  refine sp_astore (p2 := 27) (lv2 := [(6, .ref 156), (0, .ref 16), (1, .int 0), (2, .int x2), (3, .int 1), (4, .int x4), (5, .int x5)]) rfl rfl (by decide) rfl ?_
                  refine sp_aload_n (p2 := 28) rfl rfl rfl ?_
                  refine st_get rfl hh_0 rfl ?_
                  show Ev _ _ _ (31, _, _, _) _
                  refine sp_iload_n (p2 := 32) rfl rfl rfl ?_
                  refine st_aald (v := .ref 158) rfl hh_97 (by decide) rfl ?_
                  show Ev _ _ _ (33, _, _, _) _
                  refine sp_astore (p2 := 35) (lv2 := [(7, .ref 158), (6, .ref 156), (0, .ref 16), (1, .int 0), (2, .int x2), (3, .int 1), (4, .int x4), (5, .int x5)]) rfl rfl (by decide) rfl ?_
                  refine sp_aload (p2 := 37) rfl rfl rfl ?_
                  have c1 : Ca 19 41 [.ref 156] hh (some (.int 1), hh) := by
                    refine ca_of (d := 18) (M := mX8_isMissing) rfl (Nat.le_of_ble_eq_true rfl) ?_
                    show Ev im_K0 18 mX8_isMissing (0, [(0, .ref 156)], [], hh) _
                    refine sp_aload_n (p2 := 1) rfl rfl rfl ?_
                    refine st_get rfl hh_140 rfl ?_
                    show Ev _ _ _ (4, _, _, _) _
                    refine sp_iconst (p2 := 5) (x := (-1)) rfl rfl (by decide) ?_
                    refine st_icmp (b := false) rfl (by decide) ?_
                    show Ev _ _ _ (8, _, _, _) _
                    refine sp_iconst (p2 := 9) (x := 1) rfl rfl (by decide) ?_
                    refine sp_goto rfl ?_
                    exact sp_zret rfl rfl (by decide)
                  refine st_callV (R := 156) rfl rfl rfl hh_140 rfl c1 ?_
                  show Ev _ _ _ (40, [(7, .ref 158), (6, .ref 156), (0, .ref 16), (1, .int 0), (2, .int x2), (3, .int 1), (4, .int x4), (5, .int x5)], [.int 1], hh) _
                  refine st_ifc (b := true) rfl (by decide) ?_
                  show Ev _ _ _ (51, _, _, _) _
                  refine sp_bipush (p2 := 53) (x := (-11)) rfl rfl (by decide) ?_
                  exact sp_iret rfl rfl
                · refine ca_of (d := 19) (M := mX12_copy) rfl (Nat.le_of_ble_eq_true rfl) ?_
                  show Ev im_K0 19 mX12_copy (0, [(0, .ref 164), (1, .int 0), (2, .int x2), (3, .int 1), (4, .int x4), (5, .int x5)], [], hh) _
                  refine sp_iload_n (p2 := 1) rfl rfl rfl ?_
                  refine sp_iconst (p2 := 2) (x := 0) rfl rfl (by decide) ?_
                  refine sp_iconst (p2 := 3) (x := 3) rfl rfl (by decide) ?_
                  refine st_callS rfl rfl rfl (cl_in_T (n := 0) (a := 0) (b := 3) (show Int32.toInt _ = _ from rfl) (show Int32.toInt _ = _ from rfl) (by have e9 : Int32.toInt 0 = 0 := rfl; omega)) ?_
                  show Ev _ _ _ (6, [(0, .ref 164), (1, .int 0), (2, .int x2), (3, .int 1), (4, .int x4), (5, .int x5)], [.int 1], hh) _
                  refine st_ifc (b := false) rfl (by decide) ?_
                  show Ev _ _ _ (9, _, _, _) _
                  refine sp_iload_n (p2 := 10) rfl rfl rfl ?_
                  refine sp_iconst (p2 := 11) (x := 0) rfl rfl (by decide) ?_
                  refine sp_iconst (p2 := 12) (x := 3) rfl rfl (by decide) ?_
                  refine st_callS rfl rfl rfl (cl_in_T (n := 1) (a := 0) (b := 3) (show Int32.toInt _ = _ from rfl) (show Int32.toInt _ = _ from rfl) (by have e9 : Int32.toInt 1 = 1 := rfl; omega)) ?_
                  show Ev _ _ _ (15, [(0, .ref 164), (1, .int 0), (2, .int x2), (3, .int 1), (4, .int x4), (5, .int x5)], [.int 1], hh) _
                  refine st_ifc (b := true) rfl (by decide) ?_
                  show Ev _ _ _ (21, _, _, _) _
                  refine sp_aload_n (p2 := 22) rfl rfl rfl ?_
                  refine st_get rfl hh_148 rfl ?_
                  show Ev _ _ _ (25, _, _, _) _
                  refine sp_iload_n (p2 := 26) rfl rfl rfl ?_
                  refine st_iald (x := (-1)) rfl (by decide) hh_192 rfl rfl ?_
                  show Ev _ _ _ (27, _, _, _) _
                  refine sp_iconst (p2 := 28) (x := (-1)) rfl rfl (by decide) ?_
                  refine st_icmp (b := true) rfl (by decide) ?_
                  show Ev _ _ _ (41, _, _, _) _
                  refine sp_bipush (p2 := 43) (x := (-11)) rfl rfl (by decide) ?_
                  exact sp_iret rfl rfl
              · by_cases h8 : x3.toInt ≤ 2
                · obtain rfl : x3 = 2 := i32_ext (by have e9 : Int32.toInt 2 = 2 := rfl; omega)
                  refine ⟨.int (-11), hh, hh, ?_, ?_⟩
                  · refine ca_of (d := 19) (M := mX11_copy) rfl (Nat.le_of_ble_eq_true rfl) ?_
                    show Ev im_K0 19 mX11_copy (0, [(0, .ref 16), (1, .int 0), (2, .int x2), (3, .int 2), (4, .int x4), (5, .int x5)], [], hh) _
                    refine sp_iload_n (p2 := 1) rfl rfl rfl ?_
                    refine sp_iconst (p2 := 2) (x := 4) rfl rfl (by decide) ?_
                    refine st_callS rfl rfl rfl (cl_within_T (n := 0) (b := 4) (show Int32.toInt _ = _ from rfl) (by have e9 : Int32.toInt 0 = 0 := rfl; omega)) ?_
                    show Ev _ _ _ (5, [(0, .ref 16), (1, .int 0), (2, .int x2), (3, .int 2), (4, .int x4), (5, .int x5)], [.int 1], hh) _
                    refine st_ifc (b := false) rfl (by decide) ?_
                    show Ev _ _ _ (8, _, _, _) _
                    refine sp_iload_n (p2 := 9) rfl rfl rfl ?_
                    refine sp_iconst (p2 := 10) (x := 4) rfl rfl (by decide) ?_
                    refine st_callS rfl rfl rfl (cl_within_T (n := 2) (b := 4) (show Int32.toInt _ = _ from rfl) (by have e9 : Int32.toInt 2 = 2 := rfl; omega)) ?_
                    show Ev _ _ _ (13, [(0, .ref 16), (1, .int 0), (2, .int x2), (3, .int 2), (4, .int x4), (5, .int x5)], [.int 1], hh) _
                    refine st_ifc (b := true) rfl (by decide) ?_
                    show Ev _ _ _ (19, _, _, _) _
                    refine sp_aload_n (p2 := 20) rfl rfl rfl ?_
                    refine st_get rfl hh_0 rfl ?_
                    show Ev _ _ _ (23, _, _, _) _
                    refine sp_iload_n (p2 := 24) rfl rfl rfl ?_
                    refine st_aald (v := .ref 156) rfl hh_97 (by decide) rfl ?_
                    show Ev _ _ _ (25, _, _, _) _
                    refine sp_astore (p2 := 27) (lv2 := [(6, .ref 156), (0, .ref 16), (1, .int 0), (2, .int x2), (3, .int 2), (4, .int x4), (5, .int x5)]) rfl rfl (by decide) rfl ?_
                    refine sp_aload_n (p2 := 28) rfl rfl rfl ?_
                    refine st_get rfl hh_0 rfl ?_
                    show Ev _ _ _ (31, _, _, _) _
                    refine sp_iload_n (p2 := 32) rfl rfl rfl ?_
                    refine st_aald (v := .ref 160) rfl hh_97 (by decide) rfl ?_
                    show Ev _ _ _ (33, _, _, _) _
                    refine sp_astore (p2 := 35) (lv2 := [(7, .ref 160), (6, .ref 156), (0, .ref 16), (1, .int 0), (2, .int x2), (3, .int 2), (4, .int x4), (5, .int x5)]) rfl rfl (by decide) rfl ?_
                    refine sp_aload (p2 := 37) rfl rfl rfl ?_
                    have c1 : Ca 19 41 [.ref 156] hh (some (.int 1), hh) := by
                      refine ca_of (d := 18) (M := mX8_isMissing) rfl (Nat.le_of_ble_eq_true rfl) ?_
                      show Ev im_K0 18 mX8_isMissing (0, [(0, .ref 156)], [], hh) _
                      refine sp_aload_n (p2 := 1) rfl rfl rfl ?_
                      refine st_get rfl hh_140 rfl ?_
                      show Ev _ _ _ (4, _, _, _) _
                      refine sp_iconst (p2 := 5) (x := (-1)) rfl rfl (by decide) ?_
                      refine st_icmp (b := false) rfl (by decide) ?_
                      show Ev _ _ _ (8, _, _, _) _
                      refine sp_iconst (p2 := 9) (x := 1) rfl rfl (by decide) ?_
                      refine sp_goto rfl ?_
                      exact sp_zret rfl rfl (by decide)
                    refine st_callV (R := 156) rfl rfl rfl hh_140 rfl c1 ?_
                    show Ev _ _ _ (40, [(7, .ref 160), (6, .ref 156), (0, .ref 16), (1, .int 0), (2, .int x2), (3, .int 2), (4, .int x4), (5, .int x5)], [.int 1], hh) _
                    refine st_ifc (b := true) rfl (by decide) ?_
                    show Ev _ _ _ (51, _, _, _) _
                    refine sp_bipush (p2 := 53) (x := (-11)) rfl rfl (by decide) ?_
                    exact sp_iret rfl rfl
                  · refine ca_of (d := 19) (M := mX12_copy) rfl (Nat.le_of_ble_eq_true rfl) ?_
                    show Ev im_K0 19 mX12_copy (0, [(0, .ref 164), (1, .int 0), (2, .int x2), (3, .int 2), (4, .int x4), (5, .int x5)], [], hh) _
                    refine sp_iload_n (p2 := 1) rfl rfl rfl ?_
                    refine sp_iconst (p2 := 2) (x := 0) rfl rfl (by decide) ?_
                    refine sp_iconst (p2 := 3) (x := 3) rfl rfl (by decide) ?_
                    refine st_callS rfl rfl rfl (cl_in_T (n := 0) (a := 0) (b := 3) (show Int32.toInt _ = _ from rfl) (show Int32.toInt _ = _ from rfl) (by have e9 : Int32.toInt 0 = 0 := rfl; omega)) ?_
                    show Ev _ _ _ (6, [(0, .ref 164), (1, .int 0), (2, .int x2), (3, .int 2), (4, .int x4), (5, .int x5)], [.int 1], hh) _
                    refine st_ifc (b := false) rfl (by decide) ?_
                    show Ev _ _ _ (9, _, _, _) _
                    refine sp_iload_n (p2 := 10) rfl rfl rfl ?_
                    refine sp_iconst (p2 := 11) (x := 0) rfl rfl (by decide) ?_
                    refine sp_iconst (p2 := 12) (x := 3) rfl rfl (by decide) ?_
                    refine st_callS rfl rfl rfl (cl_in_T (n := 2) (a := 0) (b := 3) (show Int32.toInt _ = _ from rfl) (show Int32.toInt _ = _ from rfl) (by have e9 : Int32.toInt 2 = 2 := rfl; omega)) ?_
                    show Ev _ _ _ (15, [(0, .ref 164), (1, .int 0), (2, .int x2), (3, .int 2), (4, .int x4), (5, .int x5)], [.int 1], hh) _
                    refine st_ifc (b := true) rfl (by decide) ?_
                    show Ev _ _ _ (21, _, _, _) _
                    refine sp_aload_n (p2 := 22) rfl rfl rfl ?_
                    refine st_get rfl hh_148 rfl ?_
                    show Ev _ _ _ (25, _, _, _) _
                    refine sp_iload_n (p2 := 26) rfl rfl rfl ?_
                    refine st_iald (x := (-1)) rfl (by decide) hh_192 rfl rfl ?_
                    show Ev _ _ _ (27, _, _, _) _
                    refine sp_iconst (p2 := 28) (x := (-1)) rfl rfl (by decide) ?_
                    refine st_icmp (b := true) rfl (by decide) ?_
                    show Ev _ _ _ (41, _, _, _) _
                    refine sp_bipush (p2 := 43) (x := (-11)) rfl rfl (by decide) ?_
                    exact sp_iret rfl rfl
                · obtain rfl : x3 = 3 := i32_ext (by have e9 : Int32.toInt 3 = 3 := rfl; omega)
                  refine ⟨.int (-11), hh, hh, ?_, ?_⟩
                  · refine ca_of (d := 19) (M := mX11_copy) rfl (Nat.le_of_ble_eq_true rfl) ?_
                    show Ev im_K0 19 mX11_copy (0, [(0, .ref 16), (1, .int 0), (2, .int x2), (3, .int 3), (4, .int x4), (5, .int x5)], [], hh) _
                    refine sp_iload_n (p2 := 1) rfl rfl rfl ?_
                    refine sp_iconst (p2 := 2) (x := 4) rfl rfl (by decide) ?_
                    refine st_callS rfl rfl rfl (cl_within_T (n := 0) (b := 4) (show Int32.toInt _ = _ from rfl) (by have e9 : Int32.toInt 0 = 0 := rfl; omega)) ?_
                    show Ev _ _ _ (5, [(0, .ref 16), (1, .int 0), (2, .int x2), (3, .int 3), (4, .int x4), (5, .int x5)], [.int 1], hh) _
                    refine st_ifc (b := false) rfl (by decide) ?_
                    show Ev _ _ _ (8, _, _, _) _
                    refine sp_iload_n (p2 := 9) rfl rfl rfl ?_
                    refine sp_iconst (p2 := 10) (x := 4) rfl rfl (by decide) ?_
                    refine st_callS rfl rfl rfl (cl_within_T (n := 3) (b := 4) (show Int32.toInt _ = _ from rfl) (by have e9 : Int32.toInt 3 = 3 := rfl; omega)) ?_
                    show Ev _ _ _ (13, [(0, .ref 16), (1, .int 0), (2, .int x2), (3, .int 3), (4, .int x4), (5, .int x5)], [.int 1], hh) _
                    refine st_ifc (b := true) rfl (by decide) ?_
                    show Ev _ _ _ (19, _, _, _) _
                    refine sp_aload_n (p2 := 20) rfl rfl rfl ?_
                    refine st_get rfl hh_0 rfl ?_
                    show Ev _ _ _ (23, _, _, _) _
                    refine sp_iload_n (p2 := 24) rfl rfl rfl ?_
                    refine st_aald (v := .ref 156) rfl hh_97 (by decide) rfl ?_
                    show Ev _ _ _ (25, _, _, _) _
                    refine sp_astore (p2 := 27) (lv2 := [(6, .ref 156), (0, .ref 16), (1, .int 0), (2, .int x2), (3, .int 3), (4, .int x4), (5, .int x5)]) rfl rfl (by decide) rfl ?_
                    refine sp_aload_n (p2 := 28) rfl rfl rfl ?_
                    refine st_get rfl hh_0 rfl ?_
                    show Ev _ _ _ (31, _, _, _) _
                    refine sp_iload_n (p2 := 32) rfl rfl rfl ?_
                    refine st_aald (v := .ref 162) rfl hh_97 (by decide) rfl ?_
                    show Ev _ _ _ (33, _, _, _) _
                    refine sp_astore (p2 := 35) (lv2 := [(7, .ref 162), (6, .ref 156), (0, .ref 16), (1, .int 0), (2, .int x2), (3, .int 3), (4, .int x4), (5, .int x5)]) rfl rfl (by decide) rfl ?_
                    refine sp_aload (p2 := 37) rfl rfl rfl ?_
                    have c1 : Ca 19 41 [.ref 156] hh (some (.int 1), hh) := by
                      refine ca_of (d := 18) (M := mX8_isMissing) rfl (Nat.le_of_ble_eq_true rfl) ?_
                      show Ev im_K0 18 mX8_isMissing (0, [(0, .ref 156)], [], hh) _
                      refine sp_aload_n (p2 := 1) rfl rfl rfl ?_
                      refine st_get rfl hh_140 rfl ?_
                      show Ev _ _ _ (4, _, _, _) _
                      refine sp_iconst (p2 := 5) (x := (-1)) rfl rfl (by decide) ?_
                      refine st_icmp (b := false) rfl (by decide) ?_
                      show Ev _ _ _ (8, _, _, _) _
                      refine sp_iconst (p2 := 9) (x := 1) rfl rfl (by decide) ?_
                      refine sp_goto rfl ?_
                      exact sp_zret rfl rfl (by decide)
                    refine st_callV (R := 156) rfl rfl rfl hh_140 rfl c1 ?_
                    show Ev _ _ _ (40, [(7, .ref 162), (6, .ref 156), (0, .ref 16), (1, .int 0), (2, .int x2), (3, .int 3), (4, .int x4), (5, .int x5)], [.int 1], hh) _
                    refine st_ifc (b := true) rfl (by decide) ?_
                    show Ev _ _ _ (51, _, _, _) _
                    refine sp_bipush (p2 := 53) (x := (-11)) rfl rfl (by decide) ?_
                    exact sp_iret rfl rfl
                  · refine ca_of (d := 19) (M := mX12_copy) rfl (Nat.le_of_ble_eq_true rfl) ?_
                    show Ev im_K0 19 mX12_copy (0, [(0, .ref 164), (1, .int 0), (2, .int x2), (3, .int 3), (4, .int x4), (5, .int x5)], [], hh) _
                    refine sp_iload_n (p2 := 1) rfl rfl rfl ?_
                    refine sp_iconst (p2 := 2) (x := 0) rfl rfl (by decide) ?_
                    refine sp_iconst (p2 := 3) (x := 3) rfl rfl (by decide) ?_
                    refine st_callS rfl rfl rfl (cl_in_T (n := 0) (a := 0) (b := 3) (show Int32.toInt _ = _ from rfl) (show Int32.toInt _ = _ from rfl) (by have e9 : Int32.toInt 0 = 0 := rfl; omega)) ?_
                    show Ev _ _ _ (6, [(0, .ref 164), (1, .int 0), (2, .int x2), (3, .int 3), (4, .int x4), (5, .int x5)], [.int 1], hh) _
                    refine st_ifc (b := false) rfl (by decide) ?_
                    show Ev _ _ _ (9, _, _, _) _
                    refine sp_iload_n (p2 := 10) rfl rfl rfl ?_
                    refine sp_iconst (p2 := 11) (x := 0) rfl rfl (by decide) ?_
                    refine sp_iconst (p2 := 12) (x := 3) rfl rfl (by decide) ?_
                    refine st_callS rfl rfl rfl (cl_in_T (n := 3) (a := 0) (b := 3) (show Int32.toInt _ = _ from rfl) (show Int32.toInt _ = _ from rfl) (by have e9 : Int32.toInt 3 = 3 := rfl; omega)) ?_
                    show Ev _ _ _ (15, [(0, .ref 164), (1, .int 0), (2, .int x2), (3, .int 3), (4, .int x4), (5, .int x5)], [.int 1], hh) _
                    refine st_ifc (b := true) rfl (by decide) ?_
                    show Ev _ _ _ (21, _, _, _) _
                    refine sp_aload_n (p2 := 22) rfl rfl rfl ?_
                    refine st_get rfl hh_148 rfl ?_
                    show Ev _ _ _ (25, _, _, _) _
                    refine sp_iload_n (p2 := 26) rfl rfl rfl ?_
                    refine st_iald (x := (-1)) rfl (by decide) hh_192 rfl rfl ?_
                    show Ev _ _ _ (27, _, _, _) _
                    refine sp_iconst (p2 := 28) (x := (-1)) rfl rfl (by decide) ?_
                    refine st_icmp (b := true) rfl (by decide) ?_
                    show Ev _ _ _ (41, _, _, _) _
                    refine sp_bipush (p2 := 43) (x := (-11)) rfl rfl (by decide) ?_
                    exact sp_iret rfl rfl
          · by_cases h6 : x1.toInt ≤ 1
            · obtain rfl : x1 = 1 := i32_ext (by have e9 : Int32.toInt 1 = 1 := rfl; omega)
              by_cases h7 : x3.toInt ≤ 0
              · obtain rfl : x3 = 0 := i32_ext (by have e9 : Int32.toInt 0 = 0 := rfl; omega)
                refine ⟨.int (-11), hh, hh, ?_, ?_⟩
                · refine ca_of (d := 19) (M := mX11_copy) rfl (Nat.le_of_ble_eq_true rfl) ?_
                  show Ev im_K0 19 mX11_copy (0, [(0, .ref 16), (1, .int 1), (2, .int x2), (3, .int 0), (4, .int x4), (5, .int x5)], [], hh) _
                  refine sp_iload_n (p2 := 1) rfl rfl rfl ?_
                  refine sp_iconst (p2 := 2) (x := 4) rfl rfl (by decide) ?_
                  refine st_callS rfl rfl rfl (cl_within_T (n := 1) (b := 4) (show Int32.toInt _ = _ from rfl) (by have e9 : Int32.toInt 1 = 1 := rfl; omega)) ?_
                  show Ev _ _ _ (5, [(0, .ref 16), (1, .int 1), (2, .int x2), (3, .int 0), (4, .int x4), (5, .int x5)], [.int 1], hh) _
                  refine st_ifc (b := false) rfl (by decide) ?_
                  show Ev _ _ _ (8, _, _, _) _
                  refine sp_iload_n (p2 := 9) rfl rfl rfl ?_
                  refine sp_iconst (p2 := 10) (x := 4) rfl rfl (by decide) ?_
                  refine st_callS rfl rfl rfl (cl_within_T (n := 0) (b := 4) (show Int32.toInt _ = _ from rfl) (by have e9 : Int32.toInt 0 = 0 := rfl; omega)) ?_
                  show Ev _ _ _ (13, [(0, .ref 16), (1, .int 1), (2, .int x2), (3, .int 0), (4, .int x4), (5, .int x5)], [.int 1], hh) _
                  refine st_ifc (b := true) rfl (by decide) ?_
                  show Ev _ _ _ (19, _, _, _) _
                  refine sp_aload_n (p2 := 20) rfl rfl rfl ?_
                  refine st_get rfl hh_0 rfl ?_
                  show Ev _ _ _ (23, _, _, _) _
                  refine sp_iload_n (p2 := 24) rfl rfl rfl ?_
                  refine st_aald (v := .ref 158) rfl hh_97 (by decide) rfl ?_
                  show Ev _ _ _ (25, _, _, _) _
                  refine sp_astore (p2 := 27) (lv2 := [(6, .ref 158), (0, .ref 16), (1, .int 1), (2, .int x2), (3, .int 0), (4, .int x4), (5, .int x5)]) rfl rfl (by decide) rfl ?_
                  refine sp_aload_n (p2 := 28) rfl rfl rfl ?_
                  refine st_get rfl hh_0 rfl ?_
                  show Ev _ _ _ (31, _, _, _) _
                  refine sp_iload_n (p2 := 32) rfl rfl rfl ?_
                  refine st_aald (v := .ref 156) rfl hh_97 (by decide) rfl ?_
                  show Ev _ _ _ (33, _, _, _) _
                  refine sp_astore (p2 := 35) (lv2 := [(7, .ref 156), (6, .ref 158), (0, .ref 16), (1, .int 1), (2, .int x2), (3, .int 0), (4, .int x4), (5, .int x5)]) rfl rfl (by decide) rfl ?_
                  refine sp_aload (p2 := 37) rfl rfl rfl ?_
                  have c1 : Ca 19 41 [.ref 158] hh (some (.int 1), hh) := by
                    refine ca_of (d := 18) (M := mX8_isMissing) rfl (Nat.le_of_ble_eq_true rfl) ?_
                    show Ev im_K0 18 mX8_isMissing (0, [(0, .ref 158)], [], hh) _
                    refine sp_aload_n (p2 := 1) rfl rfl rfl ?_
                    refine st_get rfl hh_142 rfl ?_
                    show Ev _ _ _ (4, _, _, _) _
                    refine sp_iconst (p2 := 5) (x := (-1)) rfl rfl (by decide) ?_
                    refine st_icmp (b := false) rfl (by decide) ?_
                    show Ev _ _ _ (8, _, _, _) _
                    refine sp_iconst (p2 := 9) (x := 1) rfl rfl (by decide) ?_
                    refine sp_goto rfl ?_
                    exact sp_zret rfl rfl (by decide)
                  refine st_callV (R := 158) rfl rfl rfl hh_142 rfl c1 ?_
                  show Ev _ _ _ (40, [(7, .ref 156), (6, .ref 158), (0, .ref 16), (1, .int 1), (2, .int x2), (3, .int 0), (4, .int x4), (5, .int x5)], [.int 1], hh) _
                  refine st_ifc (b := true) rfl (by decide) ?_
                  show Ev _ _ _ (51, _, _, _) _
                  refine sp_bipush (p2 := 53) (x := (-11)) rfl rfl (by decide) ?_
                  exact sp_iret rfl rfl
                · refine ca_of (d := 19) (M := mX12_copy) rfl (Nat.le_of_ble_eq_true rfl) ?_
                  show Ev im_K0 19 mX12_copy (0, [(0, .ref 164), (1, .int 1), (2, .int x2), (3, .int 0), (4, .int x4), (5, .int x5)], [], hh) _
                  refine sp_iload_n (p2 := 1) rfl rfl rfl ?_
                  refine sp_iconst (p2 := 2) (x := 0) rfl rfl (by decide) ?_
                  refine sp_iconst (p2 := 3) (x := 3) rfl rfl (by decide) ?_
                  refine st_callS rfl rfl rfl (cl_in_T (n := 1) (a := 0) (b := 3) (show Int32.toInt _ = _ from rfl) (show Int32.toInt _ = _ from rfl) (by have e9 : Int32.toInt 1 = 1 := rfl; omega)) ?_
                  show Ev _ _ _ (6, [(0, .ref 164), (1, .int 1), (2, .int x2), (3, .int 0), (4, .int x4), (5, .int x5)], [.int 1], hh) _
                  refine st_ifc (b := false) rfl (by decide) ?_
                  show Ev _ _ _ (9, _, _, _) _
                  refine sp_iload_n (p2 := 10) rfl rfl rfl ?_
                  refine sp_iconst (p2 := 11) (x := 0) rfl rfl (by decide) ?_
                  refine sp_iconst (p2 := 12) (x := 3) rfl rfl (by decide) ?_
                  refine st_callS rfl rfl rfl (cl_in_T (n := 0) (a := 0) (b := 3) (show Int32.toInt _ = _ from rfl) (show Int32.toInt _ = _ from rfl) (by have e9 : Int32.toInt 0 = 0 := rfl; omega)) ?_
                  show Ev _ _ _ (15, [(0, .ref 164), (1, .int 1), (2, .int x2), (3, .int 0), (4, .int x4), (5, .int x5)], [.int 1], hh) _
                  refine st_ifc (b := true) rfl (by decide) ?_
                  show Ev _ _ _ (21, _, _, _) _
                  refine sp_aload_n (p2 := 22) rfl rfl rfl ?_
                  refine st_get rfl hh_148 rfl ?_
                  show Ev _ _ _ (25, _, _, _) _
                  refine sp_iload_n (p2 := 26) rfl rfl rfl ?_
                  refine st_iald (x := (-1)) rfl (by decide) hh_192 rfl rfl ?_
                  show Ev _ _ _ (27, _, _, _) _
                  refine sp_iconst (p2 := 28) (x := (-1)) rfl rfl (by decide) ?_
                  refine st_icmp (b := true) rfl (by decide) ?_
                  show Ev _ _ _ (41, _, _, _) _
                  refine sp_bipush (p2 := 43) (x := (-11)) rfl rfl (by decide) ?_
                  exact sp_iret rfl rfl
              · by_cases h8 : x3.toInt ≤ 1
                · obtain rfl : x3 = 1 := i32_ext (by have e9 : Int32.toInt 1 = 1 := rfl; omega)
                  refine ⟨.int (-11), hh, hh, ?_, ?_⟩
                  · refine ca_of (d := 19) (M := mX11_copy) rfl (Nat.le_of_ble_eq_true rfl) ?_
                    show Ev im_K0 19 mX11_copy (0, [(0, .ref 16), (1, .int 1), (2, .int x2), (3, .int 1), (4, .int x4), (5, .int x5)], [], hh) _
                    refine sp_iload_n (p2 := 1) rfl rfl rfl ?_
                    refine sp_iconst (p2 := 2) (x := 4) rfl rfl (by decide) ?_
                    refine st_callS rfl rfl rfl (cl_within_T (n := 1) (b := 4) (show Int32.toInt _ = _ from rfl) (by have e9 : Int32.toInt 1 = 1 := rfl; omega)) ?_
                    show Ev _ _ _ (5, [(0, .ref 16), (1, .int 1), (2, .int x2), (3, .int 1), (4, .int x4), (5, .int x5)], [.int 1], hh) _
                    refine st_ifc (b := false) rfl (by decide) ?_
                    show Ev _ _ _ (8, _, _, _) _
                    refine sp_iload_n (p2 := 9) rfl rfl rfl ?_
                    refine sp_iconst (p2 := 10) (x := 4) rfl rfl (by decide) ?_
                    refine st_callS rfl rfl rfl (cl_within_T (n := 1) (b := 4) (show Int32.toInt _ = _ from rfl) (by have e9 : Int32.toInt 1 = 1 := rfl; omega)) ?_
                    show Ev _ _ _ (13, [(0, .ref 16), (1, .int 1), (2, .int x2), (3, .int 1), (4, .int x4), (5, .int x5)], [.int 1], hh) _
                    refine st_ifc (b := true) rfl (by decide) ?_
                    show Ev _ _ _ (19, _, _, _) _
                    refine sp_aload_n (p2 := 20) rfl rfl rfl ?_
                    refine st_get rfl hh_0 rfl ?_
                    show Ev _ _ _ (23, _, _, _) _
                    refine sp_iload_n (p2 := 24) rfl rfl rfl ?_
                    refine st_aald (v := .ref 158) rfl hh_97 (by decide) rfl ?_
                    show Ev _ _ _ (25, _, _, _) _
                    refine sp_astore (p2 := 27) (lv2 := [(6, .ref 158), (0, .ref 16), (1, .int 1), (2, .int x2), (3, .int 1), (4, .int x4), (5, .int x5)]) rfl rfl (by decide) rfl ?_
                    refine sp_aload_n (p2 := 28) rfl rfl rfl ?_
                    refine st_get rfl hh_0 rfl ?_
                    show Ev _ _ _ (31, _, _, _) _
                    refine sp_iload_n (p2 := 32) rfl rfl rfl ?_
                    refine st_aald (v := .ref 158) rfl hh_97 (by decide) rfl ?_
                    show Ev _ _ _ (33, _, _, _) _
                    refine sp_astore (p2 := 35) (lv2 := [(7, .ref 158), (6, .ref 158), (0, .ref 16), (1, .int 1), (2, .int x2), (3, .int 1), (4, .int x4), (5, .int x5)]) rfl rfl (by decide) rfl ?_
                    refine sp_aload (p2 := 37) rfl rfl rfl ?_
                    have c1 : Ca 19 41 [.ref 158] hh (some (.int 1), hh) := by
                      refine ca_of (d := 18) (M := mX8_isMissing) rfl (Nat.le_of_ble_eq_true rfl) ?_
                      show Ev im_K0 18 mX8_isMissing (0, [(0, .ref 158)], [], hh) _
                      refine sp_aload_n (p2 := 1) rfl rfl rfl ?_
                      refine st_get rfl hh_142 rfl ?_
                      show Ev _ _ _ (4, _, _, _) _
                      refine sp_iconst (p2 := 5) (x := (-1)) rfl rfl (by decide) ?_
                      refine st_icmp (b := false) rfl (by decide) ?_
                      show Ev _ _ _ (8, _, _, _) _
                      refine sp_iconst (p2 := 9) (x := 1) rfl rfl (by decide) ?_
                      refine sp_goto rfl ?_
                      exact sp_zret rfl rfl (by decide)
                    refine st_callV (R := 158) rfl rfl rfl hh_142 rfl c1 ?_
                    show Ev _ _ _ (40, [(7, .ref 158), (6, .ref 158), (0, .ref 16), (1, .int 1), (2, .int x2), (3, .int 1), (4, .int x4), (5, .int x5)], [.int 1], hh) _
                    refine st_ifc (b := true) rfl (by decide) ?_
                    show Ev _ _ _ (51, _, _, _) _
                    refine sp_bipush (p2 := 53) (x := (-11)) rfl rfl (by decide) ?_
                    exact sp_iret rfl rfl
                  · refine ca_of (d := 19) (M := mX12_copy) rfl (Nat.le_of_ble_eq_true rfl) ?_
                    show Ev im_K0 19 mX12_copy (0, [(0, .ref 164), (1, .int 1), (2, .int x2), (3, .int 1), (4, .int x4), (5, .int x5)], [], hh) _
                    refine sp_iload_n (p2 := 1) rfl rfl rfl ?_
                    refine sp_iconst (p2 := 2) (x := 0) rfl rfl (by decide) ?_
                    refine sp_iconst (p2 := 3) (x := 3) rfl rfl (by decide) ?_
                    refine st_callS rfl rfl rfl (cl_in_T (n := 1) (a := 0) (b := 3) (show Int32.toInt _ = _ from rfl) (show Int32.toInt _ = _ from rfl) (by have e9 : Int32.toInt 1 = 1 := rfl; omega)) ?_
                    show Ev _ _ _ (6, [(0, .ref 164), (1, .int 1), (2, .int x2), (3, .int 1), (4, .int x4), (5, .int x5)], [.int 1], hh) _
                    refine st_ifc (b := false) rfl (by decide) ?_
                    show Ev _ _ _ (9, _, _, _) _
                    refine sp_iload_n (p2 := 10) rfl rfl rfl ?_
                    refine sp_iconst (p2 := 11) (x := 0) rfl rfl (by decide) ?_
                    refine sp_iconst (p2 := 12) (x := 3) rfl rfl (by decide) ?_
                    refine st_callS rfl rfl rfl (cl_in_T (n := 1) (a := 0) (b := 3) (show Int32.toInt _ = _ from rfl) (show Int32.toInt _ = _ from rfl) (by have e9 : Int32.toInt 1 = 1 := rfl; omega)) ?_
                    show Ev _ _ _ (15, [(0, .ref 164), (1, .int 1), (2, .int x2), (3, .int 1), (4, .int x4), (5, .int x5)], [.int 1], hh) _
                    refine st_ifc (b := true) rfl (by decide) ?_
                    show Ev _ _ _ (21, _, _, _) _
                    refine sp_aload_n (p2 := 22) rfl rfl rfl ?_
                    refine st_get rfl hh_148 rfl ?_
                    show Ev _ _ _ (25, _, _, _) _
                    refine sp_iload_n (p2 := 26) rfl rfl rfl ?_
                    refine st_iald (x := (-1)) rfl (by decide) hh_192 rfl rfl ?_
                    show Ev _ _ _ (27, _, _, _) _
                    refine sp_iconst (p2 := 28) (x := (-1)) rfl rfl (by decide) ?_
                    refine st_icmp (b := true) rfl (by decide) ?_
                    show Ev _ _ _ (41, _, _, _) _
                    refine sp_bipush (p2 := 43) (x := (-11)) rfl rfl (by decide) ?_
                    exact sp_iret rfl rfl
                · by_cases h9 : x3.toInt ≤ 2
                  · obtain rfl : x3 = 2 := i32_ext (by have e9 : Int32.toInt 2 = 2 := rfl; omega)
                    refine ⟨.int (-11), hh, hh, ?_, ?_⟩
                    · refine ca_of (d := 19) (M := mX11_copy) rfl (Nat.le_of_ble_eq_true rfl) ?_
                      show Ev im_K0 19 mX11_copy (0, [(0, .ref 16), (1, .int 1), (2, .int x2), (3, .int 2), (4, .int x4), (5, .int x5)], [], hh) _
                      refine sp_iload_n (p2 := 1) rfl rfl rfl ?_
                      refine sp_iconst (p2 := 2) (x := 4) rfl rfl (by decide) ?_
                      refine st_callS rfl rfl rfl (cl_within_T (n := 1) (b := 4) (show Int32.toInt _ = _ from rfl) (by have e9 : Int32.toInt 1 = 1 := rfl; omega)) ?_
                      show Ev _ _ _ (5, [(0, .ref 16), (1, .int 1), (2, .int x2), (3, .int 2), (4, .int x4), (5, .int x5)], [.int 1], hh) _
                      refine st_ifc (b := false) rfl (by decide) ?_
                      show Ev _ _ _ (8, _, _, _) _
                      refine sp_iload_n (p2 := 9) rfl rfl rfl ?_
                      refine sp_iconst (p2 := 10) (x := 4) rfl rfl (by decide) ?_
                      refine st_callS rfl rfl rfl (cl_within_T (n := 2) (b := 4) (show Int32.toInt _ = _ from rfl) (by have e9 : Int32.toInt 2 = 2 := rfl; omega)) ?_
                      show Ev _ _ _ (13, [(0, .ref 16), (1, .int 1), (2, .int x2), (3, .int 2), (4, .int x4), (5, .int x5)], [.int 1], hh) _
                      refine st_ifc (b := true) rfl (by decide) ?_
                      show Ev _ _ _ (19, _, _, _) _
                      refine sp_aload_n (p2 := 20) rfl rfl rfl ?_
                      refine st_get rfl hh_0 rfl ?_
                      show Ev _ _ _ (23, _, _, _) _
                      refine sp_iload_n (p2 := 24) rfl rfl rfl ?_
                      refine st_aald (v := .ref 158) rfl hh_97 (by decide) rfl ?_
                      show Ev _ _ _ (25, _, _, _) _
                      refine sp_astore (p2 := 27) (lv2 := [(6, .ref 158), (0, .ref 16), (1, .int 1), (2, .int x2), (3, .int 2), (4, .int x4), (5, .int x5)]) rfl rfl (by decide) rfl ?_
                      refine sp_aload_n (p2 := 28) rfl rfl rfl ?_
                      refine st_get rfl hh_0 rfl ?_
                      show Ev _ _ _ (31, _, _, _) _
                      refine sp_iload_n (p2 := 32) rfl rfl rfl ?_
                      refine st_aald (v := .ref 160) rfl hh_97 (by decide) rfl ?_
                      show Ev _ _ _ (33, _, _, _) _
                      refine sp_astore (p2 := 35) (lv2 := [(7, .ref 160), (6, .ref 158), (0, .ref 16), (1, .int 1), (2, .int x2), (3, .int 2), (4, .int x4), (5, .int x5)]) rfl rfl (by decide) rfl ?_
                      refine sp_aload (p2 := 37) rfl rfl rfl ?_
                      have c1 : Ca 19 41 [.ref 158] hh (some (.int 1), hh) := by
                        refine ca_of (d := 18) (M := mX8_isMissing) rfl (Nat.le_of_ble_eq_true rfl) ?_
                        show Ev im_K0 18 mX8_isMissing (0, [(0, .ref 158)], [], hh) _
                        refine sp_aload_n (p2 := 1) rfl rfl rfl ?_
                        refine st_get rfl hh_142 rfl ?_
                        show Ev _ _ _ (4, _, _, _) _
                        refine sp_iconst (p2 := 5) (x := (-1)) rfl rfl (by decide) ?_
                        refine st_icmp (b := false) rfl (by decide) ?_
                        show Ev _ _ _ (8, _, _, _) _
                        refine sp_iconst (p2 := 9) (x := 1) rfl rfl (by decide) ?_
                        refine sp_goto rfl ?_
                        exact sp_zret rfl rfl (by decide)
                      refine st_callV (R := 158) rfl rfl rfl hh_142 rfl c1 ?_
                      show Ev _ _ _ (40, [(7, .ref 160), (6, .ref 158), (0, .ref 16), (1, .int 1), (2, .int x2), (3, .int 2), (4, .int x4), (5, .int x5)], [.int 1], hh) _
                      refine st_ifc (b := true) rfl (by decide) ?_
                      show Ev _ _ _ (51, _, _, _) _
                      refine sp_bipush (p2 := 53) (x := (-11)) rfl rfl (by decide) ?_
                      exact sp_iret rfl rfl
                    · refine ca_of (d := 19) (M := mX12_copy) rfl (Nat.le_of_ble_eq_true rfl) ?_
                      show Ev im_K0 19 mX12_copy (0, [(0, .ref 164), (1, .int 1), (2, .int x2), (3, .int 2), (4, .int x4), (5, .int x5)], [], hh) _
                      refine sp_iload_n (p2 := 1) rfl rfl rfl ?_
                      refine sp_iconst (p2 := 2) (x := 0) rfl rfl (by decide) ?_
                      refine sp_iconst (p2 := 3) (x := 3) rfl rfl (by decide) ?_
                      refine st_callS rfl rfl rfl (cl_in_T (n := 1) (a := 0) (b := 3) (show Int32.toInt _ = _ from rfl) (show Int32.toInt _ = _ from rfl) (by have e9 : Int32.toInt 1 = 1 := rfl; omega)) ?_
                      show Ev _ _ _ (6, [(0, .ref 164), (1, .int 1), (2, .int x2), (3, .int 2), (4, .int x4), (5, .int x5)], [.int 1], hh) _
                      refine st_ifc (b := false) rfl (by decide) ?_
                      show Ev _ _ _ (9, _, _, _) _
                      refine sp_iload_n (p2 := 10) rfl rfl rfl ?_
                      refine sp_iconst (p2 := 11) (x := 0) rfl rfl (by decide) ?_
                      refine sp_iconst (p2 := 12) (x := 3) rfl rfl (by decide) ?_
                      refine st_callS rfl rfl rfl (cl_in_T (n := 2) (a := 0) (b := 3) (show Int32.toInt _ = _ from rfl) (show Int32.toInt _ = _ from rfl) (by have e9 : Int32.toInt 2 = 2 := rfl; omega)) ?_
                      show Ev _ _ _ (15, [(0, .ref 164), (1, .int 1), (2, .int x2), (3, .int 2), (4, .int x4), (5, .int x5)], [.int 1], hh) _
                      refine st_ifc (b := true) rfl (by decide) ?_
                      show Ev _ _ _ (21, _, _, _) _
                      refine sp_aload_n (p2 := 22) rfl rfl rfl ?_
                      refine st_get rfl hh_148 rfl ?_
                      show Ev _ _ _ (25, _, _, _) _
                      refine sp_iload_n (p2 := 26) rfl rfl rfl ?_
                      refine st_iald (x := (-1)) rfl (by decide) hh_192 rfl rfl ?_
                      show Ev _ _ _ (27, _, _, _) _
                      refine sp_iconst (p2 := 28) (x := (-1)) rfl rfl (by decide) ?_
                      refine st_icmp (b := true) rfl (by decide) ?_
                      show Ev _ _ _ (41, _, _, _) _
                      refine sp_bipush (p2 := 43) (x := (-11)) rfl rfl (by decide) ?_
                      exact sp_iret rfl rfl
                  · obtain rfl : x3 = 3 := i32_ext (by have e9 : Int32.toInt 3 = 3 := rfl; omega)
                    refine ⟨.int (-11), hh, hh, ?_, ?_⟩
                    · refine ca_of (d := 19) (M := mX11_copy) rfl (Nat.le_of_ble_eq_true rfl) ?_
                      show Ev im_K0 19 mX11_copy (0, [(0, .ref 16), (1, .int 1), (2, .int x2), (3, .int 3), (4, .int x4), (5, .int x5)], [], hh) _
                      refine sp_iload_n (p2 := 1) rfl rfl rfl ?_
                      refine sp_iconst (p2 := 2) (x := 4) rfl rfl (by decide) ?_
                      refine st_callS rfl rfl rfl (cl_within_T (n := 1) (b := 4) (show Int32.toInt _ = _ from rfl) (by have e9 : Int32.toInt 1 = 1 := rfl; omega)) ?_
                      show Ev _ _ _ (5, [(0, .ref 16), (1, .int 1), (2, .int x2), (3, .int 3), (4, .int x4), (5, .int x5)], [.int 1], hh) _
                      refine st_ifc (b := false) rfl (by decide) ?_
                      show Ev _ _ _ (8, _, _, _) _
                      refine sp_iload_n (p2 := 9) rfl rfl rfl ?_
                      refine sp_iconst (p2 := 10) (x := 4) rfl rfl (by decide) ?_
                      refine st_callS rfl rfl rfl (cl_within_T (n := 3) (b := 4) (show Int32.toInt _ = _ from rfl) (by have e9 : Int32.toInt 3 = 3 := rfl; omega)) ?_
                      show Ev _ _ _ (13, [(0, .ref 16), (1, .int 1), (2, .int x2), (3, .int 3), (4, .int x4), (5, .int x5)], [.int 1], hh) _
                      refine st_ifc (b := true) rfl (by decide) ?_
                      show Ev _ _ _ (19, _, _, _) _
                      refine sp_aload_n (p2 := 20) rfl rfl rfl ?_
                      refine st_get rfl hh_0 rfl ?_
                      show Ev _ _ _ (23, _, _, _) _
                      refine sp_iload_n (p2 := 24) rfl rfl rfl ?_
                      refine st_aald (v := .ref 158) rfl hh_97 (by decide) rfl ?_
                      show Ev _ _ _ (25, _, _, _) _
                      refine sp_astore (p2 := 27) (lv2 := [(6, .ref 158), (0, .ref 16), (1, .int 1), (2, .int x2), (3, .int 3), (4, .int x4), (5, .int x5)]) rfl rfl (by decide) rfl ?_
                      refine sp_aload_n (p2 := 28) rfl rfl rfl ?_
                      refine st_get rfl hh_0 rfl ?_
                      show Ev _ _ _ (31, _, _, _) _
                      refine sp_iload_n (p2 := 32) rfl rfl rfl ?_
                      refine st_aald (v := .ref 162) rfl hh_97 (by decide) rfl ?_
                      show Ev _ _ _ (33, _, _, _) _
                      refine sp_astore (p2 := 35) (lv2 := [(7, .ref 162), (6, .ref 158), (0, .ref 16), (1, .int 1), (2, .int x2), (3, .int 3), (4, .int x4), (5, .int x5)]) rfl rfl (by decide) rfl ?_
                      refine sp_aload (p2 := 37) rfl rfl rfl ?_
                      have c1 : Ca 19 41 [.ref 158] hh (some (.int 1), hh) := by
                        refine ca_of (d := 18) (M := mX8_isMissing) rfl (Nat.le_of_ble_eq_true rfl) ?_
                        show Ev im_K0 18 mX8_isMissing (0, [(0, .ref 158)], [], hh) _
                        refine sp_aload_n (p2 := 1) rfl rfl rfl ?_
                        refine st_get rfl hh_142 rfl ?_
                        show Ev _ _ _ (4, _, _, _) _
                        refine sp_iconst (p2 := 5) (x := (-1)) rfl rfl (by decide) ?_
                        refine st_icmp (b := false) rfl (by decide) ?_
                        show Ev _ _ _ (8, _, _, _) _
                        refine sp_iconst (p2 := 9) (x := 1) rfl rfl (by decide) ?_
                        refine sp_goto rfl ?_
                        exact sp_zret rfl rfl (by decide)
                      refine st_callV (R := 158) rfl rfl rfl hh_142 rfl c1 ?_
                      show Ev _ _ _ (40, [(7, .ref 162), (6, .ref 158), (0, .ref 16), (1, .int 1), (2, .int x2), (3, .int 3), (4, .int x4), (5, .int x5)], [.int 1], hh) _
                      refine st_ifc (b := true) rfl (by decide) ?_
                      show Ev _ _ _ (51, _, _, _) _
                      refine sp_bipush (p2 := 53) (x := (-11)) rfl rfl (by decide) ?_
                      exact sp_iret rfl rfl
                    · refine ca_of (d := 19) (M := mX12_copy) rfl (Nat.le_of_ble_eq_true rfl) ?_
                      show Ev im_K0 19 mX12_copy (0, [(0, .ref 164), (1, .int 1), (2, .int x2), (3, .int 3), (4, .int x4), (5, .int x5)], [], hh) _
                      refine sp_iload_n (p2 := 1) rfl rfl rfl ?_
                      refine sp_iconst (p2 := 2) (x := 0) rfl rfl (by decide) ?_
                      refine sp_iconst (p2 := 3) (x := 3) rfl rfl (by decide) ?_
                      refine st_callS rfl rfl rfl (cl_in_T (n := 1) (a := 0) (b := 3) (show Int32.toInt _ = _ from rfl) (show Int32.toInt _ = _ from rfl) (by have e9 : Int32.toInt 1 = 1 := rfl; omega)) ?_
                      show Ev _ _ _ (6, [(0, .ref 164), (1, .int 1), (2, .int x2), (3, .int 3), (4, .int x4), (5, .int x5)], [.int 1], hh) _
                      refine st_ifc (b := false) rfl (by decide) ?_
                      show Ev _ _ _ (9, _, _, _) _
                      refine sp_iload_n (p2 := 10) rfl rfl rfl ?_
                      refine sp_iconst (p2 := 11) (x := 0) rfl rfl (by decide) ?_
                      refine sp_iconst (p2 := 12) (x := 3) rfl rfl (by decide) ?_
                      refine st_callS rfl rfl rfl (cl_in_T (n := 3) (a := 0) (b := 3) (show Int32.toInt _ = _ from rfl) (show Int32.toInt _ = _ from rfl) (by have e9 : Int32.toInt 3 = 3 := rfl; omega)) ?_
                      show Ev _ _ _ (15, [(0, .ref 164), (1, .int 1), (2, .int x2), (3, .int 3), (4, .int x4), (5, .int x5)], [.int 1], hh) _
                      refine st_ifc (b := true) rfl (by decide) ?_
                      show Ev _ _ _ (21, _, _, _) _
                      refine sp_aload_n (p2 := 22) rfl rfl rfl ?_
                      refine st_get rfl hh_148 rfl ?_
                      show Ev _ _ _ (25, _, _, _) _
                      refine sp_iload_n (p2 := 26) rfl rfl rfl ?_
                      refine st_iald (x := (-1)) rfl (by decide) hh_192 rfl rfl ?_
                      show Ev _ _ _ (27, _, _, _) _
                      refine sp_iconst (p2 := 28) (x := (-1)) rfl rfl (by decide) ?_
                      refine st_icmp (b := true) rfl (by decide) ?_
                      show Ev _ _ _ (41, _, _, _) _
                      refine sp_bipush (p2 := 43) (x := (-11)) rfl rfl (by decide) ?_
                      exact sp_iret rfl rfl
            · by_cases h7 : x1.toInt ≤ 2
              · obtain rfl : x1 = 2 := i32_ext (by have e9 : Int32.toInt 2 = 2 := rfl; omega)
                by_cases h8 : x3.toInt ≤ 0
                · obtain rfl : x3 = 0 := i32_ext (by have e9 : Int32.toInt 0 = 0 := rfl; omega)
                  refine ⟨.int (-11), hh, hh, ?_, ?_⟩
                  · refine ca_of (d := 19) (M := mX11_copy) rfl (Nat.le_of_ble_eq_true rfl) ?_
                    show Ev im_K0 19 mX11_copy (0, [(0, .ref 16), (1, .int 2), (2, .int x2), (3, .int 0), (4, .int x4), (5, .int x5)], [], hh) _
                    refine sp_iload_n (p2 := 1) rfl rfl rfl ?_
                    refine sp_iconst (p2 := 2) (x := 4) rfl rfl (by decide) ?_
                    refine st_callS rfl rfl rfl (cl_within_T (n := 2) (b := 4) (show Int32.toInt _ = _ from rfl) (by have e9 : Int32.toInt 2 = 2 := rfl; omega)) ?_
                    show Ev _ _ _ (5, [(0, .ref 16), (1, .int 2), (2, .int x2), (3, .int 0), (4, .int x4), (5, .int x5)], [.int 1], hh) _
                    refine st_ifc (b := false) rfl (by decide) ?_
                    show Ev _ _ _ (8, _, _, _) _
                    refine sp_iload_n (p2 := 9) rfl rfl rfl ?_
                    refine sp_iconst (p2 := 10) (x := 4) rfl rfl (by decide) ?_
                    refine st_callS rfl rfl rfl (cl_within_T (n := 0) (b := 4) (show Int32.toInt _ = _ from rfl) (by have e9 : Int32.toInt 0 = 0 := rfl; omega)) ?_
                    show Ev _ _ _ (13, [(0, .ref 16), (1, .int 2), (2, .int x2), (3, .int 0), (4, .int x4), (5, .int x5)], [.int 1], hh) _
                    refine st_ifc (b := true) rfl (by decide) ?_
                    show Ev _ _ _ (19, _, _, _) _
                    refine sp_aload_n (p2 := 20) rfl rfl rfl ?_
                    refine st_get rfl hh_0 rfl ?_
                    show Ev _ _ _ (23, _, _, _) _
                    refine sp_iload_n (p2 := 24) rfl rfl rfl ?_
                    refine st_aald (v := .ref 160) rfl hh_97 (by decide) rfl ?_
                    show Ev _ _ _ (25, _, _, _) _
                    refine sp_astore (p2 := 27) (lv2 := [(6, .ref 160), (0, .ref 16), (1, .int 2), (2, .int x2), (3, .int 0), (4, .int x4), (5, .int x5)]) rfl rfl (by decide) rfl ?_
                    refine sp_aload_n (p2 := 28) rfl rfl rfl ?_
                    refine st_get rfl hh_0 rfl ?_
                    show Ev _ _ _ (31, _, _, _) _
                    refine sp_iload_n (p2 := 32) rfl rfl rfl ?_
                    refine st_aald (v := .ref 156) rfl hh_97 (by decide) rfl ?_
                    show Ev _ _ _ (33, _, _, _) _
                    refine sp_astore (p2 := 35) (lv2 := [(7, .ref 156), (6, .ref 160), (0, .ref 16), (1, .int 2), (2, .int x2), (3, .int 0), (4, .int x4), (5, .int x5)]) rfl rfl (by decide) rfl ?_
                    refine sp_aload (p2 := 37) rfl rfl rfl ?_
                    have c1 : Ca 19 41 [.ref 160] hh (some (.int 1), hh) := by
                      refine ca_of (d := 18) (M := mX8_isMissing) rfl (Nat.le_of_ble_eq_true rfl) ?_
                      show Ev im_K0 18 mX8_isMissing (0, [(0, .ref 160)], [], hh) _
                      refine sp_aload_n (p2 := 1) rfl rfl rfl ?_
                      refine st_get rfl hh_144 rfl ?_
                      show Ev _ _ _ (4, _, _, _) _
                      refine sp_iconst (p2 := 5) (x := (-1)) rfl rfl (by decide) ?_
                      refine st_icmp (b := false) rfl (by decide) ?_
                      show Ev _ _ _ (8, _, _, _) _
                      refine sp_iconst (p2 := 9) (x := 1) rfl rfl (by decide) ?_
                      refine sp_goto rfl ?_
                      exact sp_zret rfl rfl (by decide)
                    refine st_callV (R := 160) rfl rfl rfl hh_144 rfl c1 ?_
                    show Ev _ _ _ (40, [(7, .ref 156), (6, .ref 160), (0, .ref 16), (1, .int 2), (2, .int x2), (3, .int 0), (4, .int x4), (5, .int x5)], [.int 1], hh) _
                    refine st_ifc (b := true) rfl (by decide) ?_
                    show Ev _ _ _ (51, _, _, _) _
                    refine sp_bipush (p2 := 53) (x := (-11)) rfl rfl (by decide) ?_
                    exact sp_iret rfl rfl
                  · refine ca_of (d := 19) (M := mX12_copy) rfl (Nat.le_of_ble_eq_true rfl) ?_
                    show Ev im_K0 19 mX12_copy (0, [(0, .ref 164), (1, .int 2), (2, .int x2), (3, .int 0), (4, .int x4), (5, .int x5)], [], hh) _
                    refine sp_iload_n (p2 := 1) rfl rfl rfl ?_
                    refine sp_iconst (p2 := 2) (x := 0) rfl rfl (by decide) ?_
                    refine sp_iconst (p2 := 3) (x := 3) rfl rfl (by decide) ?_
                    refine st_callS rfl rfl rfl (cl_in_T (n := 2) (a := 0) (b := 3) (show Int32.toInt _ = _ from rfl) (show Int32.toInt _ = _ from rfl) (by have e9 : Int32.toInt 2 = 2 := rfl; omega)) ?_
                    show Ev _ _ _ (6, [(0, .ref 164), (1, .int 2), (2, .int x2), (3, .int 0), (4, .int x4), (5, .int x5)], [.int 1], hh) _
                    refine st_ifc (b := false) rfl (by decide) ?_
                    show Ev _ _ _ (9, _, _, _) _
                    refine sp_iload_n (p2 := 10) rfl rfl rfl ?_
                    refine sp_iconst (p2 := 11) (x := 0) rfl rfl (by decide) ?_
                    refine sp_iconst (p2 := 12) (x := 3) rfl rfl (by decide) ?_
                    refine st_callS rfl rfl rfl (cl_in_T (n := 0) (a := 0) (b := 3) (show Int32.toInt _ = _ from rfl) (show Int32.toInt _ = _ from rfl) (by have e9 : Int32.toInt 0 = 0 := rfl; omega)) ?_
                    show Ev _ _ _ (15, [(0, .ref 164), (1, .int 2), (2, .int x2), (3, .int 0), (4, .int x4), (5, .int x5)], [.int 1], hh) _
                    refine st_ifc (b := true) rfl (by decide) ?_
                    show Ev _ _ _ (21, _, _, _) _
                    refine sp_aload_n (p2 := 22) rfl rfl rfl ?_
                    refine st_get rfl hh_148 rfl ?_
                    show Ev _ _ _ (25, _, _, _) _
                    refine sp_iload_n (p2 := 26) rfl rfl rfl ?_
                    refine st_iald (x := (-1)) rfl (by decide) hh_192 rfl rfl ?_
                    show Ev _ _ _ (27, _, _, _) _
                    refine sp_iconst (p2 := 28) (x := (-1)) rfl rfl (by decide) ?_
                    refine st_icmp (b := true) rfl (by decide) ?_
                    show Ev _ _ _ (41, _, _, _) _
                    refine sp_bipush (p2 := 43) (x := (-11)) rfl rfl (by decide) ?_
                    exact sp_iret rfl rfl
                · by_cases h9 : x3.toInt ≤ 1
                  · obtain rfl : x3 = 1 := i32_ext (by have e9 : Int32.toInt 1 = 1 := rfl; omega)
                    refine ⟨.int (-11), hh, hh, ?_, ?_⟩
                    · refine ca_of (d := 19) (M := mX11_copy) rfl (Nat.le_of_ble_eq_true rfl) ?_
                      show Ev im_K0 19 mX11_copy (0, [(0, .ref 16), (1, .int 2), (2, .int x2), (3, .int 1), (4, .int x4), (5, .int x5)], [], hh) _
                      refine sp_iload_n (p2 := 1) rfl rfl rfl ?_
                      refine sp_iconst (p2 := 2) (x := 4) rfl rfl (by decide) ?_
                      refine st_callS rfl rfl rfl (cl_within_T (n := 2) (b := 4) (show Int32.toInt _ = _ from rfl) (by have e9 : Int32.toInt 2 = 2 := rfl; omega)) ?_
                      show Ev _ _ _ (5, [(0, .ref 16), (1, .int 2), (2, .int x2), (3, .int 1), (4, .int x4), (5, .int x5)], [.int 1], hh) _
                      refine st_ifc (b := false) rfl (by decide) ?_
                      show Ev _ _ _ (8, _, _, _) _
                      refine sp_iload_n (p2 := 9) rfl rfl rfl ?_
                      refine sp_iconst (p2 := 10) (x := 4) rfl rfl (by decide) ?_
                      refine st_callS rfl rfl rfl (cl_within_T (n := 1) (b := 4) (show Int32.toInt _ = _ from rfl) (by have e9 : Int32.toInt 1 = 1 := rfl; omega)) ?_
                      show Ev _ _ _ (13, [(0, .ref 16), (1, .int 2), (2, .int x2), (3, .int 1), (4, .int x4), (5, .int x5)], [.int 1], hh) _
                      refine st_ifc (b := true) rfl (by decide) ?_
                      show Ev _ _ _ (19, _, _, _) _
                      refine sp_aload_n (p2 := 20) rfl rfl rfl ?_
                      refine st_get rfl hh_0 rfl ?_
                      show Ev _ _ _ (23, _, _, _) _
                      refine sp_iload_n (p2 := 24) rfl rfl rfl ?_
                      refine st_aald (v := .ref 160) rfl hh_97 (by decide) rfl ?_
                      show Ev _ _ _ (25, _, _, _) _
                      refine sp_astore (p2 := 27) (lv2 := [(6, .ref 160), (0, .ref 16), (1, .int 2), (2, .int x2), (3, .int 1), (4, .int x4), (5, .int x5)]) rfl rfl (by decide) rfl ?_
                      refine sp_aload_n (p2 := 28) rfl rfl rfl ?_
                      refine st_get rfl hh_0 rfl ?_
                      show Ev _ _ _ (31, _, _, _) _
                      refine sp_iload_n (p2 := 32) rfl rfl rfl ?_
                      refine st_aald (v := .ref 158) rfl hh_97 (by decide) rfl ?_
                      show Ev _ _ _ (33, _, _, _) _
                      refine sp_astore (p2 := 35) (lv2 := [(7, .ref 158), (6, .ref 160), (0, .ref 16), (1, .int 2), (2, .int x2), (3, .int 1), (4, .int x4), (5, .int x5)]) rfl rfl (by decide) rfl ?_
                      refine sp_aload (p2 := 37) rfl rfl rfl ?_
                      have c1 : Ca 19 41 [.ref 160] hh (some (.int 1), hh) := by
                        refine ca_of (d := 18) (M := mX8_isMissing) rfl (Nat.le_of_ble_eq_true rfl) ?_
                        show Ev im_K0 18 mX8_isMissing (0, [(0, .ref 160)], [], hh) _
                        refine sp_aload_n (p2 := 1) rfl rfl rfl ?_
                        refine st_get rfl hh_144 rfl ?_
                        show Ev _ _ _ (4, _, _, _) _
                        refine sp_iconst (p2 := 5) (x := (-1)) rfl rfl (by decide) ?_
                        refine st_icmp (b := false) rfl (by decide) ?_
                        show Ev _ _ _ (8, _, _, _) _
                        refine sp_iconst (p2 := 9) (x := 1) rfl rfl (by decide) ?_
                        refine sp_goto rfl ?_
                        exact sp_zret rfl rfl (by decide)
                      refine st_callV (R := 160) rfl rfl rfl hh_144 rfl c1 ?_
                      show Ev _ _ _ (40, [(7, .ref 158), (6, .ref 160), (0, .ref 16), (1, .int 2), (2, .int x2), (3, .int 1), (4, .int x4), (5, .int x5)], [.int 1], hh) _
                      refine st_ifc (b := true) rfl (by decide) ?_
                      show Ev _ _ _ (51, _, _, _) _
                      refine sp_bipush (p2 := 53) (x := (-11)) rfl rfl (by decide) ?_
                      exact sp_iret rfl rfl
                    · refine ca_of (d := 19) (M := mX12_copy) rfl (Nat.le_of_ble_eq_true rfl) ?_
                      show Ev im_K0 19 mX12_copy (0, [(0, .ref 164), (1, .int 2), (2, .int x2), (3, .int 1), (4, .int x4), (5, .int x5)], [], hh) _
                      refine sp_iload_n (p2 := 1) rfl rfl rfl ?_
                      refine sp_iconst (p2 := 2) (x := 0) rfl rfl (by decide) ?_
                      refine sp_iconst (p2 := 3) (x := 3) rfl rfl (by decide) ?_
                      refine st_callS rfl rfl rfl (cl_in_T (n := 2) (a := 0) (b := 3) (show Int32.toInt _ = _ from rfl) (show Int32.toInt _ = _ from rfl) (by have e9 : Int32.toInt 2 = 2 := rfl; omega)) ?_
                      show Ev _ _ _ (6, [(0, .ref 164), (1, .int 2), (2, .int x2), (3, .int 1), (4, .int x4), (5, .int x5)], [.int 1], hh) _
                      refine st_ifc (b := false) rfl (by decide) ?_
                      show Ev _ _ _ (9, _, _, _) _
                      refine sp_iload_n (p2 := 10) rfl rfl rfl ?_
                      refine sp_iconst (p2 := 11) (x := 0) rfl rfl (by decide) ?_
                      refine sp_iconst (p2 := 12) (x := 3) rfl rfl (by decide) ?_
                      refine st_callS rfl rfl rfl (cl_in_T (n := 1) (a := 0) (b := 3) (show Int32.toInt _ = _ from rfl) (show Int32.toInt _ = _ from rfl) (by have e9 : Int32.toInt 1 = 1 := rfl; omega)) ?_
                      show Ev _ _ _ (15, [(0, .ref 164), (1, .int 2), (2, .int x2), (3, .int 1), (4, .int x4), (5, .int x5)], [.int 1], hh) _
                      refine st_ifc (b := true) rfl (by decide) ?_
                      show Ev _ _ _ (21, _, _, _) _
                      refine sp_aload_n (p2 := 22) rfl rfl rfl ?_
                      refine st_get rfl hh_148 rfl ?_
                      show Ev _ _ _ (25, _, _, _) _
                      refine sp_iload_n (p2 := 26) rfl rfl rfl ?_
                      refine st_iald (x := (-1)) rfl (by decide) hh_192 rfl rfl ?_
                      show Ev _ _ _ (27, _, _, _) _
                      refine sp_iconst (p2 := 28) (x := (-1)) rfl rfl (by decide) ?_
                      refine st_icmp (b := true) rfl (by decide) ?_
                      show Ev _ _ _ (41, _, _, _) _
                      refine sp_bipush (p2 := 43) (x := (-11)) rfl rfl (by decide) ?_
                      exact sp_iret rfl rfl
                  · by_cases h10 : x3.toInt ≤ 2
                    · obtain rfl : x3 = 2 := i32_ext (by have e9 : Int32.toInt 2 = 2 := rfl; omega)
                      refine ⟨.int (-11), hh, hh, ?_, ?_⟩
                      · refine ca_of (d := 19) (M := mX11_copy) rfl (Nat.le_of_ble_eq_true rfl) ?_
                        show Ev im_K0 19 mX11_copy (0, [(0, .ref 16), (1, .int 2), (2, .int x2), (3, .int 2), (4, .int x4), (5, .int x5)], [], hh) _
                        refine sp_iload_n (p2 := 1) rfl rfl rfl ?_
                        refine sp_iconst (p2 := 2) (x := 4) rfl rfl (by decide) ?_
                        refine st_callS rfl rfl rfl (cl_within_T (n := 2) (b := 4) (show Int32.toInt _ = _ from rfl) (by have e9 : Int32.toInt 2 = 2 := rfl; omega)) ?_
                        show Ev _ _ _ (5, [(0, .ref 16), (1, .int 2), (2, .int x2), (3, .int 2), (4, .int x4), (5, .int x5)], [.int 1], hh) _
                        refine st_ifc (b := false) rfl (by decide) ?_
                        show Ev _ _ _ (8, _, _, _) _
                        refine sp_iload_n (p2 := 9) rfl rfl rfl ?_
                        refine sp_iconst (p2 := 10) (x := 4) rfl rfl (by decide) ?_
                        refine st_callS rfl rfl rfl (cl_within_T (n := 2) (b := 4) (show Int32.toInt _ = _ from rfl) (by have e9 : Int32.toInt 2 = 2 := rfl; omega)) ?_
                        show Ev _ _ _ (13, [(0, .ref 16), (1, .int 2), (2, .int x2), (3, .int 2), (4, .int x4), (5, .int x5)], [.int 1], hh) _
                        refine st_ifc (b := true) rfl (by decide) ?_
                        show Ev _ _ _ (19, _, _, _) _
                        refine sp_aload_n (p2 := 20) rfl rfl rfl ?_
                        refine st_get rfl hh_0 rfl ?_
                        show Ev _ _ _ (23, _, _, _) _
                        refine sp_iload_n (p2 := 24) rfl rfl rfl ?_
                        refine st_aald (v := .ref 160) rfl hh_97 (by decide) rfl ?_
                        show Ev _ _ _ (25, _, _, _) _
                        refine sp_astore (p2 := 27) (lv2 := [(6, .ref 160), (0, .ref 16), (1, .int 2), (2, .int x2), (3, .int 2), (4, .int x4), (5, .int x5)]) rfl rfl (by decide) rfl ?_
                        refine sp_aload_n (p2 := 28) rfl rfl rfl ?_
                        refine st_get rfl hh_0 rfl ?_
                        show Ev _ _ _ (31, _, _, _) _
                        refine sp_iload_n (p2 := 32) rfl rfl rfl ?_
                        refine st_aald (v := .ref 160) rfl hh_97 (by decide) rfl ?_
                        show Ev _ _ _ (33, _, _, _) _
                        refine sp_astore (p2 := 35) (lv2 := [(7, .ref 160), (6, .ref 160), (0, .ref 16), (1, .int 2), (2, .int x2), (3, .int 2), (4, .int x4), (5, .int x5)]) rfl rfl (by decide) rfl ?_
                        refine sp_aload (p2 := 37) rfl rfl rfl ?_
                        have c1 : Ca 19 41 [.ref 160] hh (some (.int 1), hh) := by
                          refine ca_of (d := 18) (M := mX8_isMissing) rfl (Nat.le_of_ble_eq_true rfl) ?_
                          show Ev im_K0 18 mX8_isMissing (0, [(0, .ref 160)], [], hh) _
                          refine sp_aload_n (p2 := 1) rfl rfl rfl ?_
                          refine st_get rfl hh_144 rfl ?_
                          show Ev _ _ _ (4, _, _, _) _
                          refine sp_iconst (p2 := 5) (x := (-1)) rfl rfl (by decide) ?_
                          refine st_icmp (b := false) rfl (by decide) ?_
                          show Ev _ _ _ (8, _, _, _) _
                          refine sp_iconst (p2 := 9) (x := 1) rfl rfl (by decide) ?_
                          refine sp_goto rfl ?_
                          exact sp_zret rfl rfl (by decide)
                        refine st_callV (R := 160) rfl rfl rfl hh_144 rfl c1 ?_
                        show Ev _ _ _ (40, [(7, .ref 160), (6, .ref 160), (0, .ref 16), (1, .int 2), (2, .int x2), (3, .int 2), (4, .int x4), (5, .int x5)], [.int 1], hh) _
                        refine st_ifc (b := true) rfl (by decide) ?_
                        show Ev _ _ _ (51, _, _, _) _
                        refine sp_bipush (p2 := 53) (x := (-11)) rfl rfl (by decide) ?_
                        exact sp_iret rfl rfl
                      · refine ca_of (d := 19) (M := mX12_copy) rfl (Nat.le_of_ble_eq_true rfl) ?_
                        show Ev im_K0 19 mX12_copy (0, [(0, .ref 164), (1, .int 2), (2, .int x2), (3, .int 2), (4, .int x4), (5, .int x5)], [], hh) _
                        refine sp_iload_n (p2 := 1) rfl rfl rfl ?_
                        refine sp_iconst (p2 := 2) (x := 0) rfl rfl (by decide) ?_
                        refine sp_iconst (p2 := 3) (x := 3) rfl rfl (by decide) ?_
                        refine st_callS rfl rfl rfl (cl_in_T (n := 2) (a := 0) (b := 3) (show Int32.toInt _ = _ from rfl) (show Int32.toInt _ = _ from rfl) (by have e9 : Int32.toInt 2 = 2 := rfl; omega)) ?_
                        show Ev _ _ _ (6, [(0, .ref 164), (1, .int 2), (2, .int x2), (3, .int 2), (4, .int x4), (5, .int x5)], [.int 1], hh) _
                        refine st_ifc (b := false) rfl (by decide) ?_
                        show Ev _ _ _ (9, _, _, _) _
                        refine sp_iload_n (p2 := 10) rfl rfl rfl ?_
                        refine sp_iconst (p2 := 11) (x := 0) rfl rfl (by decide) ?_
                        refine sp_iconst (p2 := 12) (x := 3) rfl rfl (by decide) ?_
                        refine st_callS rfl rfl rfl (cl_in_T (n := 2) (a := 0) (b := 3) (show Int32.toInt _ = _ from rfl) (show Int32.toInt _ = _ from rfl) (by have e9 : Int32.toInt 2 = 2 := rfl; omega)) ?_
                        show Ev _ _ _ (15, [(0, .ref 164), (1, .int 2), (2, .int x2), (3, .int 2), (4, .int x4), (5, .int x5)], [.int 1], hh) _
                        refine st_ifc (b := true) rfl (by decide) ?_
                        show Ev _ _ _ (21, _, _, _) _
                        refine sp_aload_n (p2 := 22) rfl rfl rfl ?_
                        refine st_get rfl hh_148 rfl ?_
                        show Ev _ _ _ (25, _, _, _) _
                        refine sp_iload_n (p2 := 26) rfl rfl rfl ?_
                        refine st_iald (x := (-1)) rfl (by decide) hh_192 rfl rfl ?_
                        show Ev _ _ _ (27, _, _, _) _
                        refine sp_iconst (p2 := 28) (x := (-1)) rfl rfl (by decide) ?_
                        refine st_icmp (b := true) rfl (by decide) ?_
                        show Ev _ _ _ (41, _, _, _) _
                        refine sp_bipush (p2 := 43) (x := (-11)) rfl rfl (by decide) ?_
                        exact sp_iret rfl rfl
                    · obtain rfl : x3 = 3 := i32_ext (by have e9 : Int32.toInt 3 = 3 := rfl; omega)
                      refine ⟨.int (-11), hh, hh, ?_, ?_⟩
                      · refine ca_of (d := 19) (M := mX11_copy) rfl (Nat.le_of_ble_eq_true rfl) ?_
                        show Ev im_K0 19 mX11_copy (0, [(0, .ref 16), (1, .int 2), (2, .int x2), (3, .int 3), (4, .int x4), (5, .int x5)], [], hh) _
                        refine sp_iload_n (p2 := 1) rfl rfl rfl ?_
                        refine sp_iconst (p2 := 2) (x := 4) rfl rfl (by decide) ?_
                        refine st_callS rfl rfl rfl (cl_within_T (n := 2) (b := 4) (show Int32.toInt _ = _ from rfl) (by have e9 : Int32.toInt 2 = 2 := rfl; omega)) ?_
                        show Ev _ _ _ (5, [(0, .ref 16), (1, .int 2), (2, .int x2), (3, .int 3), (4, .int x4), (5, .int x5)], [.int 1], hh) _
                        refine st_ifc (b := false) rfl (by decide) ?_
                        show Ev _ _ _ (8, _, _, _) _
                        refine sp_iload_n (p2 := 9) rfl rfl rfl ?_
                        refine sp_iconst (p2 := 10) (x := 4) rfl rfl (by decide) ?_
                        refine st_callS rfl rfl rfl (cl_within_T (n := 3) (b := 4) (show Int32.toInt _ = _ from rfl) (by have e9 : Int32.toInt 3 = 3 := rfl; omega)) ?_
                        show Ev _ _ _ (13, [(0, .ref 16), (1, .int 2), (2, .int x2), (3, .int 3), (4, .int x4), (5, .int x5)], [.int 1], hh) _
                        refine st_ifc (b := true) rfl (by decide) ?_
                        show Ev _ _ _ (19, _, _, _) _
                        refine sp_aload_n (p2 := 20) rfl rfl rfl ?_
                        refine st_get rfl hh_0 rfl ?_
                        show Ev _ _ _ (23, _, _, _) _
                        refine sp_iload_n (p2 := 24) rfl rfl rfl ?_
                        refine st_aald (v := .ref 160) rfl hh_97 (by decide) rfl ?_
                        show Ev _ _ _ (25, _, _, _) _
                        refine sp_astore (p2 := 27) (lv2 := [(6, .ref 160), (0, .ref 16), (1, .int 2), (2, .int x2), (3, .int 3), (4, .int x4), (5, .int x5)]) rfl rfl (by decide) rfl ?_
                        refine sp_aload_n (p2 := 28) rfl rfl rfl ?_
                        refine st_get rfl hh_0 rfl ?_
                        show Ev _ _ _ (31, _, _, _) _
                        refine sp_iload_n (p2 := 32) rfl rfl rfl ?_
                        refine st_aald (v := .ref 162) rfl hh_97 (by decide) rfl ?_
                        show Ev _ _ _ (33, _, _, _) _
                        refine sp_astore (p2 := 35) (lv2 := [(7, .ref 162), (6, .ref 160), (0, .ref 16), (1, .int 2), (2, .int x2), (3, .int 3), (4, .int x4), (5, .int x5)]) rfl rfl (by decide) rfl ?_
                        refine sp_aload (p2 := 37) rfl rfl rfl ?_
                        have c1 : Ca 19 41 [.ref 160] hh (some (.int 1), hh) := by
                          refine ca_of (d := 18) (M := mX8_isMissing) rfl (Nat.le_of_ble_eq_true rfl) ?_
                          show Ev im_K0 18 mX8_isMissing (0, [(0, .ref 160)], [], hh) _
                          refine sp_aload_n (p2 := 1) rfl rfl rfl ?_
                          refine st_get rfl hh_144 rfl ?_
                          show Ev _ _ _ (4, _, _, _) _
                          refine sp_iconst (p2 := 5) (x := (-1)) rfl rfl (by decide) ?_
                          refine st_icmp (b := false) rfl (by decide) ?_
                          show Ev _ _ _ (8, _, _, _) _
                          refine sp_iconst (p2 := 9) (x := 1) rfl rfl (by decide) ?_
                          refine sp_goto rfl ?_
                          exact sp_zret rfl rfl (by decide)
                        refine st_callV (R := 160) rfl rfl rfl hh_144 rfl c1 ?_
                        show Ev _ _ _ (40, [(7, .ref 162), (6, .ref 160), (0, .ref 16), (1, .int 2), (2, .int x2), (3, .int 3), (4, .int x4), (5, .int x5)], [.int 1], hh) _
                        refine st_ifc (b := true) rfl (by decide) ?_
                        show Ev _ _ _ (51, _, _, _) _
                        refine sp_bipush (p2 := 53) (x := (-11)) rfl rfl (by decide) ?_
                        exact sp_iret rfl rfl
                      · refine ca_of (d := 19) (M := mX12_copy) rfl (Nat.le_of_ble_eq_true rfl) ?_
                        show Ev im_K0 19 mX12_copy (0, [(0, .ref 164), (1, .int 2), (2, .int x2), (3, .int 3), (4, .int x4), (5, .int x5)], [], hh) _
                        refine sp_iload_n (p2 := 1) rfl rfl rfl ?_
                        refine sp_iconst (p2 := 2) (x := 0) rfl rfl (by decide) ?_
                        refine sp_iconst (p2 := 3) (x := 3) rfl rfl (by decide) ?_
                        refine st_callS rfl rfl rfl (cl_in_T (n := 2) (a := 0) (b := 3) (show Int32.toInt _ = _ from rfl) (show Int32.toInt _ = _ from rfl) (by have e9 : Int32.toInt 2 = 2 := rfl; omega)) ?_
                        show Ev _ _ _ (6, [(0, .ref 164), (1, .int 2), (2, .int x2), (3, .int 3), (4, .int x4), (5, .int x5)], [.int 1], hh) _
                        refine st_ifc (b := false) rfl (by decide) ?_
                        show Ev _ _ _ (9, _, _, _) _
                        refine sp_iload_n (p2 := 10) rfl rfl rfl ?_
                        refine sp_iconst (p2 := 11) (x := 0) rfl rfl (by decide) ?_
                        refine sp_iconst (p2 := 12) (x := 3) rfl rfl (by decide) ?_
                        refine st_callS rfl rfl rfl (cl_in_T (n := 3) (a := 0) (b := 3) (show Int32.toInt _ = _ from rfl) (show Int32.toInt _ = _ from rfl) (by have e9 : Int32.toInt 3 = 3 := rfl; omega)) ?_
                        show Ev _ _ _ (15, [(0, .ref 164), (1, .int 2), (2, .int x2), (3, .int 3), (4, .int x4), (5, .int x5)], [.int 1], hh) _
                        refine st_ifc (b := true) rfl (by decide) ?_
                        show Ev _ _ _ (21, _, _, _) _
                        refine sp_aload_n (p2 := 22) rfl rfl rfl ?_
                        refine st_get rfl hh_148 rfl ?_
                        show Ev _ _ _ (25, _, _, _) _
                        refine sp_iload_n (p2 := 26) rfl rfl rfl ?_
                        refine st_iald (x := (-1)) rfl (by decide) hh_192 rfl rfl ?_
                        show Ev _ _ _ (27, _, _, _) _
                        refine sp_iconst (p2 := 28) (x := (-1)) rfl rfl (by decide) ?_
                        refine st_icmp (b := true) rfl (by decide) ?_
                        show Ev _ _ _ (41, _, _, _) _
                        refine sp_bipush (p2 := 43) (x := (-11)) rfl rfl (by decide) ?_
                        exact sp_iret rfl rfl
              · obtain rfl : x1 = 3 := i32_ext (by have e9 : Int32.toInt 3 = 3 := rfl; omega)
                by_cases h8 : x3.toInt ≤ 0
                · obtain rfl : x3 = 0 := i32_ext (by have e9 : Int32.toInt 0 = 0 := rfl; omega)
                  refine ⟨.int (-11), hh, hh, ?_, ?_⟩
                  · refine ca_of (d := 19) (M := mX11_copy) rfl (Nat.le_of_ble_eq_true rfl) ?_
                    show Ev im_K0 19 mX11_copy (0, [(0, .ref 16), (1, .int 3), (2, .int x2), (3, .int 0), (4, .int x4), (5, .int x5)], [], hh) _
                    refine sp_iload_n (p2 := 1) rfl rfl rfl ?_
                    refine sp_iconst (p2 := 2) (x := 4) rfl rfl (by decide) ?_
                    refine st_callS rfl rfl rfl (cl_within_T (n := 3) (b := 4) (show Int32.toInt _ = _ from rfl) (by have e9 : Int32.toInt 3 = 3 := rfl; omega)) ?_
                    show Ev _ _ _ (5, [(0, .ref 16), (1, .int 3), (2, .int x2), (3, .int 0), (4, .int x4), (5, .int x5)], [.int 1], hh) _
                    refine st_ifc (b := false) rfl (by decide) ?_
                    show Ev _ _ _ (8, _, _, _) _
                    refine sp_iload_n (p2 := 9) rfl rfl rfl ?_
                    refine sp_iconst (p2 := 10) (x := 4) rfl rfl (by decide) ?_
                    refine st_callS rfl rfl rfl (cl_within_T (n := 0) (b := 4) (show Int32.toInt _ = _ from rfl) (by have e9 : Int32.toInt 0 = 0 := rfl; omega)) ?_
                    show Ev _ _ _ (13, [(0, .ref 16), (1, .int 3), (2, .int x2), (3, .int 0), (4, .int x4), (5, .int x5)], [.int 1], hh) _
                    refine st_ifc (b := true) rfl (by decide) ?_
                    show Ev _ _ _ (19, _, _, _) _
                    refine sp_aload_n (p2 := 20) rfl rfl rfl ?_
                    refine st_get rfl hh_0 rfl ?_
                    show Ev _ _ _ (23, _, _, _) _
                    refine sp_iload_n (p2 := 24) rfl rfl rfl ?_
                    refine st_aald (v := .ref 162) rfl hh_97 (by decide) rfl ?_
                    show Ev _ _ _ (25, _, _, _) _
                    refine sp_astore (p2 := 27) (lv2 := [(6, .ref 162), (0, .ref 16), (1, .int 3), (2, .int x2), (3, .int 0), (4, .int x4), (5, .int x5)]) rfl rfl (by decide) rfl ?_
                    refine sp_aload_n (p2 := 28) rfl rfl rfl ?_
                    refine st_get rfl hh_0 rfl ?_
                    show Ev _ _ _ (31, _, _, _) _
                    refine sp_iload_n (p2 := 32) rfl rfl rfl ?_
                    refine st_aald (v := .ref 156) rfl hh_97 (by decide) rfl ?_
                    show Ev _ _ _ (33, _, _, _) _
                    refine sp_astore (p2 := 35) (lv2 := [(7, .ref 156), (6, .ref 162), (0, .ref 16), (1, .int 3), (2, .int x2), (3, .int 0), (4, .int x4), (5, .int x5)]) rfl rfl (by decide) rfl ?_
                    refine sp_aload (p2 := 37) rfl rfl rfl ?_
                    have c1 : Ca 19 41 [.ref 162] hh (some (.int 1), hh) := by
                      refine ca_of (d := 18) (M := mX8_isMissing) rfl (Nat.le_of_ble_eq_true rfl) ?_
                      show Ev im_K0 18 mX8_isMissing (0, [(0, .ref 162)], [], hh) _
                      refine sp_aload_n (p2 := 1) rfl rfl rfl ?_
                      refine st_get rfl hh_146 rfl ?_
                      show Ev _ _ _ (4, _, _, _) _
                      refine sp_iconst (p2 := 5) (x := (-1)) rfl rfl (by decide) ?_
                      refine st_icmp (b := false) rfl (by decide) ?_
                      show Ev _ _ _ (8, _, _, _) _
                      refine sp_iconst (p2 := 9) (x := 1) rfl rfl (by decide) ?_
                      refine sp_goto rfl ?_
                      exact sp_zret rfl rfl (by decide)
                    refine st_callV (R := 162) rfl rfl rfl hh_146 rfl c1 ?_
                    show Ev _ _ _ (40, [(7, .ref 156), (6, .ref 162), (0, .ref 16), (1, .int 3), (2, .int x2), (3, .int 0), (4, .int x4), (5, .int x5)], [.int 1], hh) _
                    refine st_ifc (b := true) rfl (by decide) ?_
                    show Ev _ _ _ (51, _, _, _) _
                    refine sp_bipush (p2 := 53) (x := (-11)) rfl rfl (by decide) ?_
                    exact sp_iret rfl rfl
                  · refine ca_of (d := 19) (M := mX12_copy) rfl (Nat.le_of_ble_eq_true rfl) ?_
                    show Ev im_K0 19 mX12_copy (0, [(0, .ref 164), (1, .int 3), (2, .int x2), (3, .int 0), (4, .int x4), (5, .int x5)], [], hh) _
                    refine sp_iload_n (p2 := 1) rfl rfl rfl ?_
                    refine sp_iconst (p2 := 2) (x := 0) rfl rfl (by decide) ?_
                    refine sp_iconst (p2 := 3) (x := 3) rfl rfl (by decide) ?_
                    refine st_callS rfl rfl rfl (cl_in_T (n := 3) (a := 0) (b := 3) (show Int32.toInt _ = _ from rfl) (show Int32.toInt _ = _ from rfl) (by have e9 : Int32.toInt 3 = 3 := rfl; omega)) ?_
                    show Ev _ _ _ (6, [(0, .ref 164), (1, .int 3), (2, .int x2), (3, .int 0), (4, .int x4), (5, .int x5)], [.int 1], hh) _
                    refine st_ifc (b := false) rfl (by decide) ?_
                    show Ev _ _ _ (9, _, _, _) _
                    refine sp_iload_n (p2 := 10) rfl rfl rfl ?_
                    refine sp_iconst (p2 := 11) (x := 0) rfl rfl (by decide) ?_
                    refine sp_iconst (p2 := 12) (x := 3) rfl rfl (by decide) ?_
                    refine st_callS rfl rfl rfl (cl_in_T (n := 0) (a := 0) (b := 3) (show Int32.toInt _ = _ from rfl) (show Int32.toInt _ = _ from rfl) (by have e9 : Int32.toInt 0 = 0 := rfl; omega)) ?_
                    show Ev _ _ _ (15, [(0, .ref 164), (1, .int 3), (2, .int x2), (3, .int 0), (4, .int x4), (5, .int x5)], [.int 1], hh) _
                    refine st_ifc (b := true) rfl (by decide) ?_
                    show Ev _ _ _ (21, _, _, _) _
                    refine sp_aload_n (p2 := 22) rfl rfl rfl ?_
                    refine st_get rfl hh_148 rfl ?_
                    show Ev _ _ _ (25, _, _, _) _
                    refine sp_iload_n (p2 := 26) rfl rfl rfl ?_
                    refine st_iald (x := (-1)) rfl (by decide) hh_192 rfl rfl ?_
                    show Ev _ _ _ (27, _, _, _) _
                    refine sp_iconst (p2 := 28) (x := (-1)) rfl rfl (by decide) ?_
                    refine st_icmp (b := true) rfl (by decide) ?_
                    show Ev _ _ _ (41, _, _, _) _
                    refine sp_bipush (p2 := 43) (x := (-11)) rfl rfl (by decide) ?_
                    exact sp_iret rfl rfl
                · by_cases h9 : x3.toInt ≤ 1
                  · obtain rfl : x3 = 1 := i32_ext (by have e9 : Int32.toInt 1 = 1 := rfl; omega)
                    refine ⟨.int (-11), hh, hh, ?_, ?_⟩
                    · refine ca_of (d := 19) (M := mX11_copy) rfl (Nat.le_of_ble_eq_true rfl) ?_
                      show Ev im_K0 19 mX11_copy (0, [(0, .ref 16), (1, .int 3), (2, .int x2), (3, .int 1), (4, .int x4), (5, .int x5)], [], hh) _
                      refine sp_iload_n (p2 := 1) rfl rfl rfl ?_
                      refine sp_iconst (p2 := 2) (x := 4) rfl rfl (by decide) ?_
                      refine st_callS rfl rfl rfl (cl_within_T (n := 3) (b := 4) (show Int32.toInt _ = _ from rfl) (by have e9 : Int32.toInt 3 = 3 := rfl; omega)) ?_
                      show Ev _ _ _ (5, [(0, .ref 16), (1, .int 3), (2, .int x2), (3, .int 1), (4, .int x4), (5, .int x5)], [.int 1], hh) _
                      refine st_ifc (b := false) rfl (by decide) ?_
                      show Ev _ _ _ (8, _, _, _) _
                      refine sp_iload_n (p2 := 9) rfl rfl rfl ?_
                      refine sp_iconst (p2 := 10) (x := 4) rfl rfl (by decide) ?_
                      refine st_callS rfl rfl rfl (cl_within_T (n := 1) (b := 4) (show Int32.toInt _ = _ from rfl) (by have e9 : Int32.toInt 1 = 1 := rfl; omega)) ?_
                      show Ev _ _ _ (13, [(0, .ref 16), (1, .int 3), (2, .int x2), (3, .int 1), (4, .int x4), (5, .int x5)], [.int 1], hh) _
                      refine st_ifc (b := true) rfl (by decide) ?_
                      show Ev _ _ _ (19, _, _, _) _
                      refine sp_aload_n (p2 := 20) rfl rfl rfl ?_
                      refine st_get rfl hh_0 rfl ?_
                      show Ev _ _ _ (23, _, _, _) _
                      refine sp_iload_n (p2 := 24) rfl rfl rfl ?_
                      refine st_aald (v := .ref 162) rfl hh_97 (by decide) rfl ?_
                      show Ev _ _ _ (25, _, _, _) _
                      refine sp_astore (p2 := 27) (lv2 := [(6, .ref 162), (0, .ref 16), (1, .int 3), (2, .int x2), (3, .int 1), (4, .int x4), (5, .int x5)]) rfl rfl (by decide) rfl ?_
                      refine sp_aload_n (p2 := 28) rfl rfl rfl ?_
                      refine st_get rfl hh_0 rfl ?_
                      show Ev _ _ _ (31, _, _, _) _
                      refine sp_iload_n (p2 := 32) rfl rfl rfl ?_
                      refine st_aald (v := .ref 158) rfl hh_97 (by decide) rfl ?_
                      show Ev _ _ _ (33, _, _, _) _
                      refine sp_astore (p2 := 35) (lv2 := [(7, .ref 158), (6, .ref 162), (0, .ref 16), (1, .int 3), (2, .int x2), (3, .int 1), (4, .int x4), (5, .int x5)]) rfl rfl (by decide) rfl ?_
                      refine sp_aload (p2 := 37) rfl rfl rfl ?_
                      have c1 : Ca 19 41 [.ref 162] hh (some (.int 1), hh) := by
                        refine ca_of (d := 18) (M := mX8_isMissing) rfl (Nat.le_of_ble_eq_true rfl) ?_
                        show Ev im_K0 18 mX8_isMissing (0, [(0, .ref 162)], [], hh) _
                        refine sp_aload_n (p2 := 1) rfl rfl rfl ?_
                        refine st_get rfl hh_146 rfl ?_
                        show Ev _ _ _ (4, _, _, _) _
                        refine sp_iconst (p2 := 5) (x := (-1)) rfl rfl (by decide) ?_
                        refine st_icmp (b := false) rfl (by decide) ?_
                        show Ev _ _ _ (8, _, _, _) _
                        refine sp_iconst (p2 := 9) (x := 1) rfl rfl (by decide) ?_
                        refine sp_goto rfl ?_
                        exact sp_zret rfl rfl (by decide)
                      refine st_callV (R := 162) rfl rfl rfl hh_146 rfl c1 ?_
                      show Ev _ _ _ (40, [(7, .ref 158), (6, .ref 162), (0, .ref 16), (1, .int 3), (2, .int x2), (3, .int 1), (4, .int x4), (5, .int x5)], [.int 1], hh) _
                      refine st_ifc (b := true) rfl (by decide) ?_
                      show Ev _ _ _ (51, _, _, _) _
                      refine sp_bipush (p2 := 53) (x := (-11)) rfl rfl (by decide) ?_
                      exact sp_iret rfl rfl
                    · refine ca_of (d := 19) (M := mX12_copy) rfl (Nat.le_of_ble_eq_true rfl) ?_
                      show Ev im_K0 19 mX12_copy (0, [(0, .ref 164), (1, .int 3), (2, .int x2), (3, .int 1), (4, .int x4), (5, .int x5)], [], hh) _
                      refine sp_iload_n (p2 := 1) rfl rfl rfl ?_
                      refine sp_iconst (p2 := 2) (x := 0) rfl rfl (by decide) ?_
                      refine sp_iconst (p2 := 3) (x := 3) rfl rfl (by decide) ?_
                      refine st_callS rfl rfl rfl (cl_in_T (n := 3) (a := 0) (b := 3) (show Int32.toInt _ = _ from rfl) (show Int32.toInt _ = _ from rfl) (by have e9 : Int32.toInt 3 = 3 := rfl; omega)) ?_
                      show Ev _ _ _ (6, [(0, .ref 164), (1, .int 3), (2, .int x2), (3, .int 1), (4, .int x4), (5, .int x5)], [.int 1], hh) _
                      refine st_ifc (b := false) rfl (by decide) ?_
                      show Ev _ _ _ (9, _, _, _) _
                      refine sp_iload_n (p2 := 10) rfl rfl rfl ?_
                      refine sp_iconst (p2 := 11) (x := 0) rfl rfl (by decide) ?_
                      refine sp_iconst (p2 := 12) (x := 3) rfl rfl (by decide) ?_
                      refine st_callS rfl rfl rfl (cl_in_T (n := 1) (a := 0) (b := 3) (show Int32.toInt _ = _ from rfl) (show Int32.toInt _ = _ from rfl) (by have e9 : Int32.toInt 1 = 1 := rfl; omega)) ?_
                      show Ev _ _ _ (15, [(0, .ref 164), (1, .int 3), (2, .int x2), (3, .int 1), (4, .int x4), (5, .int x5)], [.int 1], hh) _
                      refine st_ifc (b := true) rfl (by decide) ?_
                      show Ev _ _ _ (21, _, _, _) _
                      refine sp_aload_n (p2 := 22) rfl rfl rfl ?_
                      refine st_get rfl hh_148 rfl ?_
                      show Ev _ _ _ (25, _, _, _) _
                      refine sp_iload_n (p2 := 26) rfl rfl rfl ?_
                      refine st_iald (x := (-1)) rfl (by decide) hh_192 rfl rfl ?_
                      show Ev _ _ _ (27, _, _, _) _
                      refine sp_iconst (p2 := 28) (x := (-1)) rfl rfl (by decide) ?_
                      refine st_icmp (b := true) rfl (by decide) ?_
                      show Ev _ _ _ (41, _, _, _) _
                      refine sp_bipush (p2 := 43) (x := (-11)) rfl rfl (by decide) ?_
                      exact sp_iret rfl rfl
                  · by_cases h10 : x3.toInt ≤ 2
                    · obtain rfl : x3 = 2 := i32_ext (by have e9 : Int32.toInt 2 = 2 := rfl; omega)
                      refine ⟨.int (-11), hh, hh, ?_, ?_⟩
                      · refine ca_of (d := 19) (M := mX11_copy) rfl (Nat.le_of_ble_eq_true rfl) ?_
                        show Ev im_K0 19 mX11_copy (0, [(0, .ref 16), (1, .int 3), (2, .int x2), (3, .int 2), (4, .int x4), (5, .int x5)], [], hh) _
                        refine sp_iload_n (p2 := 1) rfl rfl rfl ?_
                        refine sp_iconst (p2 := 2) (x := 4) rfl rfl (by decide) ?_
                        refine st_callS rfl rfl rfl (cl_within_T (n := 3) (b := 4) (show Int32.toInt _ = _ from rfl) (by have e9 : Int32.toInt 3 = 3 := rfl; omega)) ?_
                        show Ev _ _ _ (5, [(0, .ref 16), (1, .int 3), (2, .int x2), (3, .int 2), (4, .int x4), (5, .int x5)], [.int 1], hh) _
                        refine st_ifc (b := false) rfl (by decide) ?_
                        show Ev _ _ _ (8, _, _, _) _
                        refine sp_iload_n (p2 := 9) rfl rfl rfl ?_
                        refine sp_iconst (p2 := 10) (x := 4) rfl rfl (by decide) ?_
                        refine st_callS rfl rfl rfl (cl_within_T (n := 2) (b := 4) (show Int32.toInt _ = _ from rfl) (by have e9 : Int32.toInt 2 = 2 := rfl; omega)) ?_
                        show Ev _ _ _ (13, [(0, .ref 16), (1, .int 3), (2, .int x2), (3, .int 2), (4, .int x4), (5, .int x5)], [.int 1], hh) _
                        refine st_ifc (b := true) rfl (by decide) ?_
                        show Ev _ _ _ (19, _, _, _) _
                        refine sp_aload_n (p2 := 20) rfl rfl rfl ?_
                        refine st_get rfl hh_0 rfl ?_
                        show Ev _ _ _ (23, _, _, _) _
                        refine sp_iload_n (p2 := 24) rfl rfl rfl ?_
                        refine st_aald (v := .ref 162) rfl hh_97 (by decide) rfl ?_
                        show Ev _ _ _ (25, _, _, _) _
                        refine sp_astore (p2 := 27) (lv2 := [(6, .ref 162), (0, .ref 16), (1, .int 3), (2, .int x2), (3, .int 2), (4, .int x4), (5, .int x5)]) rfl rfl (by decide) rfl ?_
                        refine sp_aload_n (p2 := 28) rfl rfl rfl ?_
                        refine st_get rfl hh_0 rfl ?_
                        show Ev _ _ _ (31, _, _, _) _
                        refine sp_iload_n (p2 := 32) rfl rfl rfl ?_
                        refine st_aald (v := .ref 160) rfl hh_97 (by decide) rfl ?_
                        show Ev _ _ _ (33, _, _, _) _
                        refine sp_astore (p2 := 35) (lv2 := [(7, .ref 160), (6, .ref 162), (0, .ref 16), (1, .int 3), (2, .int x2), (3, .int 2), (4, .int x4), (5, .int x5)]) rfl rfl (by decide) rfl ?_
                        refine sp_aload (p2 := 37) rfl rfl rfl ?_
                        have c1 : Ca 19 41 [.ref 162] hh (some (.int 1), hh) := by
                          refine ca_of (d := 18) (M := mX8_isMissing) rfl (Nat.le_of_ble_eq_true rfl) ?_
                          show Ev im_K0 18 mX8_isMissing (0, [(0, .ref 162)], [], hh) _
                          refine sp_aload_n (p2 := 1) rfl rfl rfl ?_
                          refine st_get rfl hh_146 rfl ?_
                          show Ev _ _ _ (4, _, _, _) _
                          refine sp_iconst (p2 := 5) (x := (-1)) rfl rfl (by decide) ?_
                          refine st_icmp (b := false) rfl (by decide) ?_
                          show Ev _ _ _ (8, _, _, _) _
                          refine sp_iconst (p2 := 9) (x := 1) rfl rfl (by decide) ?_
                          refine sp_goto rfl ?_
                          exact sp_zret rfl rfl (by decide)
                        refine st_callV (R := 162) rfl rfl rfl hh_146 rfl c1 ?_
                        show Ev _ _ _ (40, [(7, .ref 160), (6, .ref 162), (0, .ref 16), (1, .int 3), (2, .int x2), (3, .int 2), (4, .int x4), (5, .int x5)], [.int 1], hh) _
                        refine st_ifc (b := true) rfl (by decide) ?_
                        show Ev _ _ _ (51, _, _, _) _
                        refine sp_bipush (p2 := 53) (x := (-11)) rfl rfl (by decide) ?_
                        exact sp_iret rfl rfl
                      · refine ca_of (d := 19) (M := mX12_copy) rfl (Nat.le_of_ble_eq_true rfl) ?_
                        show Ev im_K0 19 mX12_copy (0, [(0, .ref 164), (1, .int 3), (2, .int x2), (3, .int 2), (4, .int x4), (5, .int x5)], [], hh) _
                        refine sp_iload_n (p2 := 1) rfl rfl rfl ?_
                        refine sp_iconst (p2 := 2) (x := 0) rfl rfl (by decide) ?_
                        refine sp_iconst (p2 := 3) (x := 3) rfl rfl (by decide) ?_
                        refine st_callS rfl rfl rfl (cl_in_T (n := 3) (a := 0) (b := 3) (show Int32.toInt _ = _ from rfl) (show Int32.toInt _ = _ from rfl) (by have e9 : Int32.toInt 3 = 3 := rfl; omega)) ?_
                        show Ev _ _ _ (6, [(0, .ref 164), (1, .int 3), (2, .int x2), (3, .int 2), (4, .int x4), (5, .int x5)], [.int 1], hh) _
                        refine st_ifc (b := false) rfl (by decide) ?_
                        show Ev _ _ _ (9, _, _, _) _
                        refine sp_iload_n (p2 := 10) rfl rfl rfl ?_
                        refine sp_iconst (p2 := 11) (x := 0) rfl rfl (by decide) ?_
                        refine sp_iconst (p2 := 12) (x := 3) rfl rfl (by decide) ?_
                        refine st_callS rfl rfl rfl (cl_in_T (n := 2) (a := 0) (b := 3) (show Int32.toInt _ = _ from rfl) (show Int32.toInt _ = _ from rfl) (by have e9 : Int32.toInt 2 = 2 := rfl; omega)) ?_
                        show Ev _ _ _ (15, [(0, .ref 164), (1, .int 3), (2, .int x2), (3, .int 2), (4, .int x4), (5, .int x5)], [.int 1], hh) _
                        refine st_ifc (b := true) rfl (by decide) ?_
                        show Ev _ _ _ (21, _, _, _) _
                        refine sp_aload_n (p2 := 22) rfl rfl rfl ?_
                        refine st_get rfl hh_148 rfl ?_
                        show Ev _ _ _ (25, _, _, _) _
                        refine sp_iload_n (p2 := 26) rfl rfl rfl ?_
                        refine st_iald (x := (-1)) rfl (by decide) hh_192 rfl rfl ?_
                        show Ev _ _ _ (27, _, _, _) _
                        refine sp_iconst (p2 := 28) (x := (-1)) rfl rfl (by decide) ?_
                        refine st_icmp (b := true) rfl (by decide) ?_
                        show Ev _ _ _ (41, _, _, _) _
                        refine sp_bipush (p2 := 43) (x := (-11)) rfl rfl (by decide) ?_
                        exact sp_iret rfl rfl
                    · obtain rfl : x3 = 3 := i32_ext (by have e9 : Int32.toInt 3 = 3 := rfl; omega)
                      refine ⟨.int (-11), hh, hh, ?_, ?_⟩
                      · refine ca_of (d := 19) (M := mX11_copy) rfl (Nat.le_of_ble_eq_true rfl) ?_
                        show Ev im_K0 19 mX11_copy (0, [(0, .ref 16), (1, .int 3), (2, .int x2), (3, .int 3), (4, .int x4), (5, .int x5)], [], hh) _
                        refine sp_iload_n (p2 := 1) rfl rfl rfl ?_
                        refine sp_iconst (p2 := 2) (x := 4) rfl rfl (by decide) ?_
                        refine st_callS rfl rfl rfl (cl_within_T (n := 3) (b := 4) (show Int32.toInt _ = _ from rfl) (by have e9 : Int32.toInt 3 = 3 := rfl; omega)) ?_
                        show Ev _ _ _ (5, [(0, .ref 16), (1, .int 3), (2, .int x2), (3, .int 3), (4, .int x4), (5, .int x5)], [.int 1], hh) _
                        refine st_ifc (b := false) rfl (by decide) ?_
                        show Ev _ _ _ (8, _, _, _) _
                        refine sp_iload_n (p2 := 9) rfl rfl rfl ?_
                        refine sp_iconst (p2 := 10) (x := 4) rfl rfl (by decide) ?_
                        refine st_callS rfl rfl rfl (cl_within_T (n := 3) (b := 4) (show Int32.toInt _ = _ from rfl) (by have e9 : Int32.toInt 3 = 3 := rfl; omega)) ?_
                        show Ev _ _ _ (13, [(0, .ref 16), (1, .int 3), (2, .int x2), (3, .int 3), (4, .int x4), (5, .int x5)], [.int 1], hh) _
                        refine st_ifc (b := true) rfl (by decide) ?_
                        show Ev _ _ _ (19, _, _, _) _
                        refine sp_aload_n (p2 := 20) rfl rfl rfl ?_
                        refine st_get rfl hh_0 rfl ?_
                        show Ev _ _ _ (23, _, _, _) _
                        refine sp_iload_n (p2 := 24) rfl rfl rfl ?_
                        refine st_aald (v := .ref 162) rfl hh_97 (by decide) rfl ?_
                        show Ev _ _ _ (25, _, _, _) _
                        refine sp_astore (p2 := 27) (lv2 := [(6, .ref 162), (0, .ref 16), (1, .int 3), (2, .int x2), (3, .int 3), (4, .int x4), (5, .int x5)]) rfl rfl (by decide) rfl ?_
                        refine sp_aload_n (p2 := 28) rfl rfl rfl ?_
                        refine st_get rfl hh_0 rfl ?_
                        show Ev _ _ _ (31, _, _, _) _
                        refine sp_iload_n (p2 := 32) rfl rfl rfl ?_
                        refine st_aald (v := .ref 162) rfl hh_97 (by decide) rfl ?_
                        show Ev _ _ _ (33, _, _, _) _
                        refine sp_astore (p2 := 35) (lv2 := [(7, .ref 162), (6, .ref 162), (0, .ref 16), (1, .int 3), (2, .int x2), (3, .int 3), (4, .int x4), (5, .int x5)]) rfl rfl (by decide) rfl ?_
                        refine sp_aload (p2 := 37) rfl rfl rfl ?_
                        have c1 : Ca 19 41 [.ref 162] hh (some (.int 1), hh) := by
                          refine ca_of (d := 18) (M := mX8_isMissing) rfl (Nat.le_of_ble_eq_true rfl) ?_
                          show Ev im_K0 18 mX8_isMissing (0, [(0, .ref 162)], [], hh) _
                          refine sp_aload_n (p2 := 1) rfl rfl rfl ?_
                          refine st_get rfl hh_146 rfl ?_
                          show Ev _ _ _ (4, _, _, _) _
                          refine sp_iconst (p2 := 5) (x := (-1)) rfl rfl (by decide) ?_
                          refine st_icmp (b := false) rfl (by decide) ?_
                          show Ev _ _ _ (8, _, _, _) _
                          refine sp_iconst (p2 := 9) (x := 1) rfl rfl (by decide) ?_
                          refine sp_goto rfl ?_
                          exact sp_zret rfl rfl (by decide)
                        refine st_callV (R := 162) rfl rfl rfl hh_146 rfl c1 ?_
                        show Ev _ _ _ (40, [(7, .ref 162), (6, .ref 162), (0, .ref 16), (1, .int 3), (2, .int x2), (3, .int 3), (4, .int x4), (5, .int x5)], [.int 1], hh) _
                        refine st_ifc (b := true) rfl (by decide) ?_
                        show Ev _ _ _ (51, _, _, _) _
                        refine sp_bipush (p2 := 53) (x := (-11)) rfl rfl (by decide) ?_
                        exact sp_iret rfl rfl
                      · refine ca_of (d := 19) (M := mX12_copy) rfl (Nat.le_of_ble_eq_true rfl) ?_
                        show Ev im_K0 19 mX12_copy (0, [(0, .ref 164), (1, .int 3), (2, .int x2), (3, .int 3), (4, .int x4), (5, .int x5)], [], hh) _
                        refine sp_iload_n (p2 := 1) rfl rfl rfl ?_
                        refine sp_iconst (p2 := 2) (x := 0) rfl rfl (by decide) ?_
                        refine sp_iconst (p2 := 3) (x := 3) rfl rfl (by decide) ?_
                        refine st_callS rfl rfl rfl (cl_in_T (n := 3) (a := 0) (b := 3) (show Int32.toInt _ = _ from rfl) (show Int32.toInt _ = _ from rfl) (by have e9 : Int32.toInt 3 = 3 := rfl; omega)) ?_
                        show Ev _ _ _ (6, [(0, .ref 164), (1, .int 3), (2, .int x2), (3, .int 3), (4, .int x4), (5, .int x5)], [.int 1], hh) _
                        refine st_ifc (b := false) rfl (by decide) ?_
                        show Ev _ _ _ (9, _, _, _) _
                        refine sp_iload_n (p2 := 10) rfl rfl rfl ?_
                        refine sp_iconst (p2 := 11) (x := 0) rfl rfl (by decide) ?_
                        refine sp_iconst (p2 := 12) (x := 3) rfl rfl (by decide) ?_
                        refine st_callS rfl rfl rfl (cl_in_T (n := 3) (a := 0) (b := 3) (show Int32.toInt _ = _ from rfl) (show Int32.toInt _ = _ from rfl) (by have e9 : Int32.toInt 3 = 3 := rfl; omega)) ?_
                        show Ev _ _ _ (15, [(0, .ref 164), (1, .int 3), (2, .int x2), (3, .int 3), (4, .int x4), (5, .int x5)], [.int 1], hh) _
                        refine st_ifc (b := true) rfl (by decide) ?_
                        show Ev _ _ _ (21, _, _, _) _
                        refine sp_aload_n (p2 := 22) rfl rfl rfl ?_
                        refine st_get rfl hh_148 rfl ?_
                        show Ev _ _ _ (25, _, _, _) _
                        refine sp_iload_n (p2 := 26) rfl rfl rfl ?_
                        refine st_iald (x := (-1)) rfl (by decide) hh_192 rfl rfl ?_
                        show Ev _ _ _ (27, _, _, _) _
                        refine sp_iconst (p2 := 28) (x := (-1)) rfl rfl (by decide) ?_
                        refine st_icmp (b := true) rfl (by decide) ?_
                        show Ev _ _ _ (41, _, _, _) _
                        refine sp_bipush (p2 := 43) (x := (-11)) rfl rfl (by decide) ?_
                        exact sp_iret rfl rfl
        · refine ⟨.int (-2), hh, hh, ?_, ?_⟩
          · refine ca_of (d := 19) (M := mX11_copy) rfl (Nat.le_of_ble_eq_true rfl) ?_
            show Ev im_K0 19 mX11_copy (0, [(0, .ref 16), (1, .int x1), (2, .int x2), (3, .int x3), (4, .int x4), (5, .int x5)], [], hh) _
            refine sp_iload_n (p2 := 1) rfl rfl rfl ?_
            refine sp_iconst (p2 := 2) (x := 4) rfl rfl (by decide) ?_
            refine st_callS rfl rfl rfl (cl_within_T (b := 4) rfl (by omega)) ?_
            show Ev _ _ _ (5, [(0, .ref 16), (1, .int x1), (2, .int x2), (3, .int x3), (4, .int x4), (5, .int x5)], [.int 1], hh) _
            refine st_ifc (b := false) rfl (by decide) ?_
            show Ev _ _ _ (8, _, _, _) _
            refine sp_iload_n (p2 := 9) rfl rfl rfl ?_
            refine sp_iconst (p2 := 10) (x := 4) rfl rfl (by decide) ?_
            refine st_callS rfl rfl rfl (cl_within_F (b := 4) rfl (by omega)) ?_
            show Ev _ _ _ (13, [(0, .ref 16), (1, .int x1), (2, .int x2), (3, .int x3), (4, .int x4), (5, .int x5)], [.int 0], hh) _
            refine st_ifc (b := false) rfl (by decide) ?_
            show Ev _ _ _ (16, _, _, _) _
            refine sp_bipush (p2 := 18) (x := (-2)) rfl rfl (by decide) ?_
            exact sp_iret rfl rfl
          · refine ca_of (d := 19) (M := mX12_copy) rfl (Nat.le_of_ble_eq_true rfl) ?_
            show Ev im_K0 19 mX12_copy (0, [(0, .ref 164), (1, .int x1), (2, .int x2), (3, .int x3), (4, .int x4), (5, .int x5)], [], hh) _
            refine sp_iload_n (p2 := 1) rfl rfl rfl ?_
            refine sp_iconst (p2 := 2) (x := 0) rfl rfl (by decide) ?_
            refine sp_iconst (p2 := 3) (x := 3) rfl rfl (by decide) ?_
            refine st_callS rfl rfl rfl (cl_in_T (a := 0) (b := 3) rfl rfl (by omega)) ?_
            show Ev _ _ _ (6, [(0, .ref 164), (1, .int x1), (2, .int x2), (3, .int x3), (4, .int x4), (5, .int x5)], [.int 1], hh) _
            refine st_ifc (b := false) rfl (by decide) ?_
            show Ev _ _ _ (9, _, _, _) _
            refine sp_iload_n (p2 := 10) rfl rfl rfl ?_
            refine sp_iconst (p2 := 11) (x := 0) rfl rfl (by decide) ?_
            refine sp_iconst (p2 := 12) (x := 3) rfl rfl (by decide) ?_
            refine st_callS rfl rfl rfl (cl_in_F (a := 0) (b := 3) rfl rfl (by omega)) ?_
            show Ev _ _ _ (15, [(0, .ref 164), (1, .int x1), (2, .int x2), (3, .int x3), (4, .int x4), (5, .int x5)], [.int 0], hh) _
            refine st_ifc (b := false) rfl (by decide) ?_
            show Ev _ _ _ (18, _, _, _) _
            refine sp_bipush (p2 := 20) (x := (-2)) rfl rfl (by decide) ?_
            exact sp_iret rfl rfl
    · refine ⟨.int (-2), hh, hh, ?_, ?_⟩
      · refine ca_of (d := 19) (M := mX11_copy) rfl (Nat.le_of_ble_eq_true rfl) ?_
        show Ev im_K0 19 mX11_copy (0, [(0, .ref 16), (1, .int x1), (2, .int x2), (3, .int x3), (4, .int x4), (5, .int x5)], [], hh) _
        refine sp_iload_n (p2 := 1) rfl rfl rfl ?_
        refine sp_iconst (p2 := 2) (x := 4) rfl rfl (by decide) ?_
        refine st_callS rfl rfl rfl (cl_within_F (b := 4) rfl (by omega)) ?_
        show Ev _ _ _ (5, [(0, .ref 16), (1, .int x1), (2, .int x2), (3, .int x3), (4, .int x4), (5, .int x5)], [.int 0], hh) _
        refine st_ifc (b := true) rfl (by decide) ?_
        show Ev _ _ _ (16, _, _, _) _
        refine sp_bipush (p2 := 18) (x := (-2)) rfl rfl (by decide) ?_
        exact sp_iret rfl rfl
      · refine ca_of (d := 19) (M := mX12_copy) rfl (Nat.le_of_ble_eq_true rfl) ?_
        show Ev im_K0 19 mX12_copy (0, [(0, .ref 164), (1, .int x1), (2, .int x2), (3, .int x3), (4, .int x4), (5, .int x5)], [], hh) _
        refine sp_iload_n (p2 := 1) rfl rfl rfl ?_
        refine sp_iconst (p2 := 2) (x := 0) rfl rfl (by decide) ?_
        refine sp_iconst (p2 := 3) (x := 3) rfl rfl (by decide) ?_
        refine st_callS rfl rfl rfl (cl_in_F (a := 0) (b := 3) rfl rfl (by omega)) ?_
        show Ev _ _ _ (6, [(0, .ref 164), (1, .int x1), (2, .int x2), (3, .int x3), (4, .int x4), (5, .int x5)], [.int 0], hh) _
        refine st_ifc (b := true) rfl (by decide) ?_
        show Ev _ _ _ (18, _, _, _) _
        refine sp_bipush (p2 := 20) (x := (-2)) rfl rfl (by decide) ?_
        exact sp_iret rfl rfl
set_option maxRecDepth 10000 in
set_option maxHeartbeats 4000000 in
theorem q_people (x1 x2 x3 x4 : Int32) : ∃ (v : Value) (h1 h2 : im_H), Ca 20 107 [.ref 16, .int x1, .int x2, .int x3, .int x4] hh (some v, h1) ∧ Ca 20 194 [.ref 164, .int x1, .int x2, .int x3, .int x4] h1 (some v, h2) := by
  by_cases h1 : x1.toInt ≤ (-1)
  · refine ⟨.int (-2), hh, hh, ?_, ?_⟩
    · refine ca_of (d := 19) (M := mX11_people) rfl (Nat.le_of_ble_eq_true rfl) ?_
      show Ev im_K0 19 mX11_people (0, [(0, .ref 16), (1, .int x1), (2, .int x2), (3, .int x3), (4, .int x4)], [], hh) _
      refine sp_iload_n (p2 := 1) rfl rfl rfl ?_
      refine sp_iconst (p2 := 2) (x := 4) rfl rfl (by decide) ?_
      refine st_callS rfl rfl rfl (cl_within_F (b := 4) rfl (by omega)) ?_
      show Ev _ _ _ (5, [(0, .ref 16), (1, .int x1), (2, .int x2), (3, .int x3), (4, .int x4)], [.int 0], hh) _
      refine st_ifc (b := true) rfl (by decide) ?_
      show Ev _ _ _ (27, _, _, _) _
      refine sp_bipush (p2 := 29) (x := (-2)) rfl rfl (by decide) ?_
      exact sp_iret rfl rfl
    · refine ca_of (d := 19) (M := mX12_people) rfl (Nat.le_of_ble_eq_true rfl) ?_
      show Ev im_K0 19 mX12_people (0, [(0, .ref 164), (1, .int x1), (2, .int x2), (3, .int x3), (4, .int x4)], [], hh) _
      refine sp_iload_n (p2 := 1) rfl rfl rfl ?_
      refine sp_iconst (p2 := 2) (x := 0) rfl rfl (by decide) ?_
      refine sp_iconst (p2 := 3) (x := 3) rfl rfl (by decide) ?_
      refine st_callS rfl rfl rfl (cl_in_F (a := 0) (b := 3) rfl rfl (by omega)) ?_
      show Ev _ _ _ (6, [(0, .ref 164), (1, .int x1), (2, .int x2), (3, .int x3), (4, .int x4)], [.int 0], hh) _
      refine st_ifc (b := true) rfl (by decide) ?_
      show Ev _ _ _ (29, _, _, _) _
      refine sp_bipush (p2 := 31) (x := (-2)) rfl rfl (by decide) ?_
      exact sp_iret rfl rfl
  · by_cases h2 : x1.toInt ≤ 3
    · by_cases h3 : x2.toInt ≤ (-1)
      · refine ⟨.int (-2), hh, hh, ?_, ?_⟩
        · refine ca_of (d := 19) (M := mX11_people) rfl (Nat.le_of_ble_eq_true rfl) ?_
          show Ev im_K0 19 mX11_people (0, [(0, .ref 16), (1, .int x1), (2, .int x2), (3, .int x3), (4, .int x4)], [], hh) _
          refine sp_iload_n (p2 := 1) rfl rfl rfl ?_
          refine sp_iconst (p2 := 2) (x := 4) rfl rfl (by decide) ?_
          refine st_callS rfl rfl rfl (cl_within_T (b := 4) rfl (by omega)) ?_
          show Ev _ _ _ (5, [(0, .ref 16), (1, .int x1), (2, .int x2), (3, .int x3), (4, .int x4)], [.int 1], hh) _
          refine st_ifc (b := false) rfl (by decide) ?_
          show Ev _ _ _ (8, _, _, _) _
          refine sp_iload_n (p2 := 9) rfl rfl rfl ?_
          refine sp_iconst (p2 := 10) (x := 3) rfl rfl (by decide) ?_
          refine st_callS rfl rfl rfl (cl_within_F (b := 3) rfl (by omega)) ?_
          show Ev _ _ _ (13, [(0, .ref 16), (1, .int x1), (2, .int x2), (3, .int x3), (4, .int x4)], [.int 0], hh) _
          refine st_ifc (b := true) rfl (by decide) ?_
          show Ev _ _ _ (27, _, _, _) _
          refine sp_bipush (p2 := 29) (x := (-2)) rfl rfl (by decide) ?_
          exact sp_iret rfl rfl
        · refine ca_of (d := 19) (M := mX12_people) rfl (Nat.le_of_ble_eq_true rfl) ?_
          show Ev im_K0 19 mX12_people (0, [(0, .ref 164), (1, .int x1), (2, .int x2), (3, .int x3), (4, .int x4)], [], hh) _
          refine sp_iload_n (p2 := 1) rfl rfl rfl ?_
          refine sp_iconst (p2 := 2) (x := 0) rfl rfl (by decide) ?_
          refine sp_iconst (p2 := 3) (x := 3) rfl rfl (by decide) ?_
          refine st_callS rfl rfl rfl (cl_in_T (a := 0) (b := 3) rfl rfl (by omega)) ?_
          show Ev _ _ _ (6, [(0, .ref 164), (1, .int x1), (2, .int x2), (3, .int x3), (4, .int x4)], [.int 1], hh) _
          refine st_ifc (b := false) rfl (by decide) ?_
          show Ev _ _ _ (9, _, _, _) _
          refine sp_iload_n (p2 := 10) rfl rfl rfl ?_
          refine sp_iconst (p2 := 11) (x := 0) rfl rfl (by decide) ?_
          refine sp_iconst (p2 := 12) (x := 2) rfl rfl (by decide) ?_
          refine st_callS rfl rfl rfl (cl_in_F (a := 0) (b := 2) rfl rfl (by omega)) ?_
          show Ev _ _ _ (15, [(0, .ref 164), (1, .int x1), (2, .int x2), (3, .int x3), (4, .int x4)], [.int 0], hh) _
          refine st_ifc (b := true) rfl (by decide) ?_
          show Ev _ _ _ (29, _, _, _) _
          refine sp_bipush (p2 := 31) (x := (-2)) rfl rfl (by decide) ?_
          exact sp_iret rfl rfl
      · by_cases h4 : x2.toInt ≤ 2
        · by_cases h5 : x4.toInt ≤ (-1)
          · refine ⟨.int (-2), hh, hh, ?_, ?_⟩
            · refine ca_of (d := 19) (M := mX11_people) rfl (Nat.le_of_ble_eq_true rfl) ?_
              show Ev im_K0 19 mX11_people (0, [(0, .ref 16), (1, .int x1), (2, .int x2), (3, .int x3), (4, .int x4)], [], hh) _
              refine sp_iload_n (p2 := 1) rfl rfl rfl ?_
              refine sp_iconst (p2 := 2) (x := 4) rfl rfl (by decide) ?_
              refine st_callS rfl rfl rfl (cl_within_T (b := 4) rfl (by omega)) ?_
              show Ev _ _ _ (5, [(0, .ref 16), (1, .int x1), (2, .int x2), (3, .int x3), (4, .int x4)], [.int 1], hh) _
              refine st_ifc (b := false) rfl (by decide) ?_
              show Ev _ _ _ (8, _, _, _) _
              refine sp_iload_n (p2 := 9) rfl rfl rfl ?_
              refine sp_iconst (p2 := 10) (x := 3) rfl rfl (by decide) ?_
              refine st_callS rfl rfl rfl (cl_within_T (b := 3) rfl (by omega)) ?_
              show Ev _ _ _ (13, [(0, .ref 16), (1, .int x1), (2, .int x2), (3, .int x3), (4, .int x4)], [.int 1], hh) _
              refine st_ifc (b := false) rfl (by decide) ?_
              show Ev _ _ _ (16, _, _, _) _
              refine sp_iload (p2 := 18) rfl rfl rfl ?_
              refine sp_iconst (p2 := 19) (x := 0) rfl rfl (by decide) ?_
              refine sp_bipush (p2 := 21) (x := 10) rfl rfl (by decide) ?_
              refine st_callS rfl rfl rfl (cl_between_F (a := 0) (b := 10) rfl rfl (by omega)) ?_
              show Ev _ _ _ (24, [(0, .ref 16), (1, .int x1), (2, .int x2), (3, .int x3), (4, .int x4)], [.int 0], hh) _
              refine st_ifc (b := false) rfl (by decide) ?_
              show Ev _ _ _ (27, _, _, _) _
              refine sp_bipush (p2 := 29) (x := (-2)) rfl rfl (by decide) ?_
              exact sp_iret rfl rfl
            · refine ca_of (d := 19) (M := mX12_people) rfl (Nat.le_of_ble_eq_true rfl) ?_
              show Ev im_K0 19 mX12_people (0, [(0, .ref 164), (1, .int x1), (2, .int x2), (3, .int x3), (4, .int x4)], [], hh) _
              refine sp_iload_n (p2 := 1) rfl rfl rfl ?_
              refine sp_iconst (p2 := 2) (x := 0) rfl rfl (by decide) ?_
              refine sp_iconst (p2 := 3) (x := 3) rfl rfl (by decide) ?_
              refine st_callS rfl rfl rfl (cl_in_T (a := 0) (b := 3) rfl rfl (by omega)) ?_
              show Ev _ _ _ (6, [(0, .ref 164), (1, .int x1), (2, .int x2), (3, .int x3), (4, .int x4)], [.int 1], hh) _
              refine st_ifc (b := false) rfl (by decide) ?_
              show Ev _ _ _ (9, _, _, _) _
              refine sp_iload_n (p2 := 10) rfl rfl rfl ?_
              refine sp_iconst (p2 := 11) (x := 0) rfl rfl (by decide) ?_
              refine sp_iconst (p2 := 12) (x := 2) rfl rfl (by decide) ?_
              refine st_callS rfl rfl rfl (cl_in_T (a := 0) (b := 2) rfl rfl (by omega)) ?_
              show Ev _ _ _ (15, [(0, .ref 164), (1, .int x1), (2, .int x2), (3, .int x3), (4, .int x4)], [.int 1], hh) _
              refine st_ifc (b := false) rfl (by decide) ?_
              show Ev _ _ _ (18, _, _, _) _
              refine sp_iload (p2 := 20) rfl rfl rfl ?_
              refine sp_iconst (p2 := 21) (x := 0) rfl rfl (by decide) ?_
              refine sp_bipush (p2 := 23) (x := 10) rfl rfl (by decide) ?_
              refine st_callS rfl rfl rfl (cl_in_F (a := 0) (b := 10) rfl rfl (by omega)) ?_
              show Ev _ _ _ (26, [(0, .ref 164), (1, .int x1), (2, .int x2), (3, .int x3), (4, .int x4)], [.int 0], hh) _
              refine st_ifc (b := false) rfl (by decide) ?_
              show Ev _ _ _ (29, _, _, _) _
              refine sp_bipush (p2 := 31) (x := (-2)) rfl rfl (by decide) ?_
              exact sp_iret rfl rfl
          · by_cases h6 : x4.toInt ≤ 10
            · by_cases h7 : x1.toInt ≤ 0
              · obtain rfl : x1 = 0 := i32_ext (by have e9 : Int32.toInt 0 = 0 := rfl; omega)
                refine ⟨.int (-11), hh, hh, ?_, ?_⟩
                · refine ca_of (d := 19) (M := mX11_people) rfl (Nat.le_of_ble_eq_true rfl) ?_
                  show Ev im_K0 19 mX11_people (0, [(0, .ref 16), (1, .int 0), (2, .int x2), (3, .int x3), (4, .int x4)], [], hh) _
                  refine sp_iload_n (p2 := 1) rfl rfl rfl ?_
                  refine sp_iconst (p2 := 2) (x := 4) rfl rfl (by decide) ?_
                  refine st_callS rfl rfl rfl (cl_within_T (n := 0) (b := 4) (show Int32.toInt _ = _ from rfl) (by have e9 : Int32.toInt 0 = 0 := rfl; omega)) ?_
                  show Ev _ _ _ (5, [(0, .ref 16), (1, .int 0), (2, .int x2), (3, .int x3), (4, .int x4)], [.int 1], hh) _
                  refine st_ifc (b := false) rfl (by decide) ?_
                  show Ev _ _ _ (8, _, _, _) _
                  refine sp_iload_n (p2 := 9) rfl rfl rfl ?_
                  refine sp_iconst (p2 := 10) (x := 3) rfl rfl (by decide) ?_
                  refine st_callS rfl rfl rfl (cl_within_T (b := 3) rfl (by omega)) ?_
                  show Ev _ _ _ (13, [(0, .ref 16), (1, .int 0), (2, .int x2), (3, .int x3), (4, .int x4)], [.int 1], hh) _
                  refine st_ifc (b := false) rfl (by decide) ?_
                  show Ev _ _ _ (16, _, _, _) _
                  refine sp_iload (p2 := 18) rfl rfl rfl ?_
                  refine sp_iconst (p2 := 19) (x := 0) rfl rfl (by decide) ?_
                  refine sp_bipush (p2 := 21) (x := 10) rfl rfl (by decide) ?_
                  refine st_callS rfl rfl rfl (cl_between_T (a := 0) (b := 10) rfl rfl (by omega)) ?_
                  show Ev _ _ _ (24, [(0, .ref 16), (1, .int 0), (2, .int x2), (3, .int x3), (4, .int x4)], [.int 1], hh) _
                  refine st_ifc (b := true) rfl (by decide) ?_
                  show Ev _ _ _ (30, _, _, _) _
                  refine sp_aload_n (p2 := 31) rfl rfl rfl ?_
                  refine st_get rfl hh_0 rfl ?_
                  show Ev _ _ _ (34, _, _, _) _
                  refine sp_iload_n (p2 := 35) rfl rfl rfl ?_
                  refine st_aald (v := .ref 156) rfl hh_97 (by decide) rfl ?_
                  show Ev _ _ _ (36, _, _, _) _
                  refine sp_astore (p2 := 38) (lv2 := [(5, .ref 156), (0, .ref 16), (1, .int 0), (2, .int x2), (3, .int x3), (4, .int x4)]) rfl rfl (by decide) rfl ?_
                  refine sp_aload (p2 := 40) rfl rfl rfl ?_
                  have c1 : Ca 19 41 [.ref 156] hh (some (.int 1), hh) := by
                    refine ca_of (d := 18) (M := mX8_isMissing) rfl (Nat.le_of_ble_eq_true rfl) ?_
                    show Ev im_K0 18 mX8_isMissing (0, [(0, .ref 156)], [], hh) _
                    refine sp_aload_n (p2 := 1) rfl rfl rfl ?_
                    refine st_get rfl hh_140 rfl ?_
                    show Ev _ _ _ (4, _, _, _) _
                    refine sp_iconst (p2 := 5) (x := (-1)) rfl rfl (by decide) ?_
                    refine st_icmp (b := false) rfl (by decide) ?_
                    show Ev _ _ _ (8, _, _, _) _
                    refine sp_iconst (p2 := 9) (x := 1) rfl rfl (by decide) ?_
                    refine sp_goto rfl ?_
                    exact sp_zret rfl rfl (by decide)
                  refine st_callV (R := 156) rfl rfl rfl hh_140 rfl c1 ?_
                  show Ev _ _ _ (43, [(5, .ref 156), (0, .ref 16), (1, .int 0), (2, .int x2), (3, .int x3), (4, .int x4)], [.int 1], hh) _
                  refine st_ifc (b := false) rfl (by decide) ?_
                  show Ev _ _ _ (46, _, _, _) _
                  refine sp_bipush (p2 := 48) (x := (-11)) rfl rfl (by decide) ?_
                  exact sp_iret rfl rfl
                · refine ca_of (d := 19) (M := mX12_people) rfl (Nat.le_of_ble_eq_true rfl) ?_
                  show Ev im_K0 19 mX12_people (0, [(0, .ref 164), (1, .int 0), (2, .int x2), (3, .int x3), (4, .int x4)], [], hh) _
                  refine sp_iload_n (p2 := 1) rfl rfl rfl ?_
                  refine sp_iconst (p2 := 2) (x := 0) rfl rfl (by decide) ?_
                  refine sp_iconst (p2 := 3) (x := 3) rfl rfl (by decide) ?_
                  refine st_callS rfl rfl rfl (cl_in_T (n := 0) (a := 0) (b := 3) (show Int32.toInt _ = _ from rfl) (show Int32.toInt _ = _ from rfl) (by have e9 : Int32.toInt 0 = 0 := rfl; omega)) ?_
                  show Ev _ _ _ (6, [(0, .ref 164), (1, .int 0), (2, .int x2), (3, .int x3), (4, .int x4)], [.int 1], hh) _
                  refine st_ifc (b := false) rfl (by decide) ?_
                  show Ev _ _ _ (9, _, _, _) _
                  refine sp_iload_n (p2 := 10) rfl rfl rfl ?_
                  refine sp_iconst (p2 := 11) (x := 0) rfl rfl (by decide) ?_
                  refine sp_iconst (p2 := 12) (x := 2) rfl rfl (by decide) ?_
                  refine st_callS rfl rfl rfl (cl_in_T (a := 0) (b := 2) rfl rfl (by omega)) ?_
                  show Ev _ _ _ (15, [(0, .ref 164), (1, .int 0), (2, .int x2), (3, .int x3), (4, .int x4)], [.int 1], hh) _
                  refine st_ifc (b := false) rfl (by decide) ?_
                  show Ev _ _ _ (18, _, _, _) _
                  refine sp_iload (p2 := 20) rfl rfl rfl ?_
                  refine sp_iconst (p2 := 21) (x := 0) rfl rfl (by decide) ?_
                  refine sp_bipush (p2 := 23) (x := 10) rfl rfl (by decide) ?_
                  refine st_callS rfl rfl rfl (cl_in_T (a := 0) (b := 10) rfl rfl (by omega)) ?_
                  show Ev _ _ _ (26, [(0, .ref 164), (1, .int 0), (2, .int x2), (3, .int x3), (4, .int x4)], [.int 1], hh) _
                  refine st_ifc (b := true) rfl (by decide) ?_
                  show Ev _ _ _ (32, _, _, _) _
                  refine sp_aload_n (p2 := 33) rfl rfl rfl ?_
                  refine st_get rfl hh_148 rfl ?_
                  show Ev _ _ _ (36, _, _, _) _
                  refine sp_iload_n (p2 := 37) rfl rfl rfl ?_
                  refine st_iald (x := (-1)) rfl (by decide) hh_192 rfl rfl ?_
                  show Ev _ _ _ (38, _, _, _) _
                  refine sp_iconst (p2 := 39) (x := (-1)) rfl rfl (by decide) ?_
                  refine st_icmp (b := false) rfl (by decide) ?_
                  show Ev _ _ _ (42, _, _, _) _
                  refine sp_bipush (p2 := 44) (x := (-11)) rfl rfl (by decide) ?_
                  exact sp_iret rfl rfl
              · by_cases h8 : x1.toInt ≤ 1
                · obtain rfl : x1 = 1 := i32_ext (by have e9 : Int32.toInt 1 = 1 := rfl; omega)
                  refine ⟨.int (-11), hh, hh, ?_, ?_⟩
                  · refine ca_of (d := 19) (M := mX11_people) rfl (Nat.le_of_ble_eq_true rfl) ?_
                    show Ev im_K0 19 mX11_people (0, [(0, .ref 16), (1, .int 1), (2, .int x2), (3, .int x3), (4, .int x4)], [], hh) _
                    refine sp_iload_n (p2 := 1) rfl rfl rfl ?_
                    refine sp_iconst (p2 := 2) (x := 4) rfl rfl (by decide) ?_
                    refine st_callS rfl rfl rfl (cl_within_T (n := 1) (b := 4) (show Int32.toInt _ = _ from rfl) (by have e9 : Int32.toInt 1 = 1 := rfl; omega)) ?_
                    show Ev _ _ _ (5, [(0, .ref 16), (1, .int 1), (2, .int x2), (3, .int x3), (4, .int x4)], [.int 1], hh) _
                    refine st_ifc (b := false) rfl (by decide) ?_
                    show Ev _ _ _ (8, _, _, _) _
                    refine sp_iload_n (p2 := 9) rfl rfl rfl ?_
                    refine sp_iconst (p2 := 10) (x := 3) rfl rfl (by decide) ?_
                    refine st_callS rfl rfl rfl (cl_within_T (b := 3) rfl (by omega)) ?_
                    show Ev _ _ _ (13, [(0, .ref 16), (1, .int 1), (2, .int x2), (3, .int x3), (4, .int x4)], [.int 1], hh) _
                    refine st_ifc (b := false) rfl (by decide) ?_
                    show Ev _ _ _ (16, _, _, _) _
                    refine sp_iload (p2 := 18) rfl rfl rfl ?_
                    refine sp_iconst (p2 := 19) (x := 0) rfl rfl (by decide) ?_
                    refine sp_bipush (p2 := 21) (x := 10) rfl rfl (by decide) ?_
                    refine st_callS rfl rfl rfl (cl_between_T (a := 0) (b := 10) rfl rfl (by omega)) ?_
                    show Ev _ _ _ (24, [(0, .ref 16), (1, .int 1), (2, .int x2), (3, .int x3), (4, .int x4)], [.int 1], hh) _
                    refine st_ifc (b := true) rfl (by decide) ?_
                    show Ev _ _ _ (30, _, _, _) _
                    refine sp_aload_n (p2 := 31) rfl rfl rfl ?_
                    refine st_get rfl hh_0 rfl ?_
                    show Ev _ _ _ (34, _, _, _) _
                    refine sp_iload_n (p2 := 35) rfl rfl rfl ?_
                    refine st_aald (v := .ref 158) rfl hh_97 (by decide) rfl ?_
                    show Ev _ _ _ (36, _, _, _) _
                    refine sp_astore (p2 := 38) (lv2 := [(5, .ref 158), (0, .ref 16), (1, .int 1), (2, .int x2), (3, .int x3), (4, .int x4)]) rfl rfl (by decide) rfl ?_
                    refine sp_aload (p2 := 40) rfl rfl rfl ?_
                    have c1 : Ca 19 41 [.ref 158] hh (some (.int 1), hh) := by
                      refine ca_of (d := 18) (M := mX8_isMissing) rfl (Nat.le_of_ble_eq_true rfl) ?_
                      show Ev im_K0 18 mX8_isMissing (0, [(0, .ref 158)], [], hh) _
                      refine sp_aload_n (p2 := 1) rfl rfl rfl ?_
                      refine st_get rfl hh_142 rfl ?_
                      show Ev _ _ _ (4, _, _, _) _
                      refine sp_iconst (p2 := 5) (x := (-1)) rfl rfl (by decide) ?_
                      refine st_icmp (b := false) rfl (by decide) ?_
                      show Ev _ _ _ (8, _, _, _) _
                      refine sp_iconst (p2 := 9) (x := 1) rfl rfl (by decide) ?_
                      refine sp_goto rfl ?_
                      exact sp_zret rfl rfl (by decide)
                    refine st_callV (R := 158) rfl rfl rfl hh_142 rfl c1 ?_
                    show Ev _ _ _ (43, [(5, .ref 158), (0, .ref 16), (1, .int 1), (2, .int x2), (3, .int x3), (4, .int x4)], [.int 1], hh) _
                    refine st_ifc (b := false) rfl (by decide) ?_
                    show Ev _ _ _ (46, _, _, _) _
                    refine sp_bipush (p2 := 48) (x := (-11)) rfl rfl (by decide) ?_
                    exact sp_iret rfl rfl
                  · refine ca_of (d := 19) (M := mX12_people) rfl (Nat.le_of_ble_eq_true rfl) ?_
                    show Ev im_K0 19 mX12_people (0, [(0, .ref 164), (1, .int 1), (2, .int x2), (3, .int x3), (4, .int x4)], [], hh) _
                    refine sp_iload_n (p2 := 1) rfl rfl rfl ?_
                    refine sp_iconst (p2 := 2) (x := 0) rfl rfl (by decide) ?_
                    refine sp_iconst (p2 := 3) (x := 3) rfl rfl (by decide) ?_
                    refine st_callS rfl rfl rfl (cl_in_T (n := 1) (a := 0) (b := 3) (show Int32.toInt _ = _ from rfl) (show Int32.toInt _ = _ from rfl) (by have e9 : Int32.toInt 1 = 1 := rfl; omega)) ?_
                    show Ev _ _ _ (6, [(0, .ref 164), (1, .int 1), (2, .int x2), (3, .int x3), (4, .int x4)], [.int 1], hh) _
                    refine st_ifc (b := false) rfl (by decide) ?_
                    show Ev _ _ _ (9, _, _, _) _
                    refine sp_iload_n (p2 := 10) rfl rfl rfl ?_
                    refine sp_iconst (p2 := 11) (x := 0) rfl rfl (by decide) ?_
                    refine sp_iconst (p2 := 12) (x := 2) rfl rfl (by decide) ?_
                    refine st_callS rfl rfl rfl (cl_in_T (a := 0) (b := 2) rfl rfl (by omega)) ?_
                    show Ev _ _ _ (15, [(0, .ref 164), (1, .int 1), (2, .int x2), (3, .int x3), (4, .int x4)], [.int 1], hh) _
                    refine st_ifc (b := false) rfl (by decide) ?_
                    show Ev _ _ _ (18, _, _, _) _
                    refine sp_iload (p2 := 20) rfl rfl rfl ?_
                    refine sp_iconst (p2 := 21) (x := 0) rfl rfl (by decide) ?_
                    refine sp_bipush (p2 := 23) (x := 10) rfl rfl (by decide) ?_
                    refine st_callS rfl rfl rfl (cl_in_T (a := 0) (b := 10) rfl rfl (by omega)) ?_
                    show Ev _ _ _ (26, [(0, .ref 164), (1, .int 1), (2, .int x2), (3, .int x3), (4, .int x4)], [.int 1], hh) _
                    refine st_ifc (b := true) rfl (by decide) ?_
                    show Ev _ _ _ (32, _, _, _) _
                    refine sp_aload_n (p2 := 33) rfl rfl rfl ?_
                    refine st_get rfl hh_148 rfl ?_
                    show Ev _ _ _ (36, _, _, _) _
                    refine sp_iload_n (p2 := 37) rfl rfl rfl ?_
                    refine st_iald (x := (-1)) rfl (by decide) hh_192 rfl rfl ?_
                    show Ev _ _ _ (38, _, _, _) _
                    refine sp_iconst (p2 := 39) (x := (-1)) rfl rfl (by decide) ?_
                    refine st_icmp (b := false) rfl (by decide) ?_
                    show Ev _ _ _ (42, _, _, _) _
                    refine sp_bipush (p2 := 44) (x := (-11)) rfl rfl (by decide) ?_
                    exact sp_iret rfl rfl
                · by_cases h9 : x1.toInt ≤ 2
                  · obtain rfl : x1 = 2 := i32_ext (by have e9 : Int32.toInt 2 = 2 := rfl; omega)
                    refine ⟨.int (-11), hh, hh, ?_, ?_⟩
                    · refine ca_of (d := 19) (M := mX11_people) rfl (Nat.le_of_ble_eq_true rfl) ?_
                      show Ev im_K0 19 mX11_people (0, [(0, .ref 16), (1, .int 2), (2, .int x2), (3, .int x3), (4, .int x4)], [], hh) _
                      refine sp_iload_n (p2 := 1) rfl rfl rfl ?_
                      refine sp_iconst (p2 := 2) (x := 4) rfl rfl (by decide) ?_
                      refine st_callS rfl rfl rfl (cl_within_T (n := 2) (b := 4) (show Int32.toInt _ = _ from rfl) (by have e9 : Int32.toInt 2 = 2 := rfl; omega)) ?_
                      show Ev _ _ _ (5, [(0, .ref 16), (1, .int 2), (2, .int x2), (3, .int x3), (4, .int x4)], [.int 1], hh) _
                      refine st_ifc (b := false) rfl (by decide) ?_
                      show Ev _ _ _ (8, _, _, _) _
                      refine sp_iload_n (p2 := 9) rfl rfl rfl ?_
                      refine sp_iconst (p2 := 10) (x := 3) rfl rfl (by decide) ?_
                      refine st_callS rfl rfl rfl (cl_within_T (b := 3) rfl (by omega)) ?_
                      show Ev _ _ _ (13, [(0, .ref 16), (1, .int 2), (2, .int x2), (3, .int x3), (4, .int x4)], [.int 1], hh) _
                      refine st_ifc (b := false) rfl (by decide) ?_
                      show Ev _ _ _ (16, _, _, _) _
                      refine sp_iload (p2 := 18) rfl rfl rfl ?_
                      refine sp_iconst (p2 := 19) (x := 0) rfl rfl (by decide) ?_
                      refine sp_bipush (p2 := 21) (x := 10) rfl rfl (by decide) ?_
                      refine st_callS rfl rfl rfl (cl_between_T (a := 0) (b := 10) rfl rfl (by omega)) ?_
                      show Ev _ _ _ (24, [(0, .ref 16), (1, .int 2), (2, .int x2), (3, .int x3), (4, .int x4)], [.int 1], hh) _
                      refine st_ifc (b := true) rfl (by decide) ?_
                      show Ev _ _ _ (30, _, _, _) _
                      refine sp_aload_n (p2 := 31) rfl rfl rfl ?_
                      refine st_get rfl hh_0 rfl ?_
                      show Ev _ _ _ (34, _, _, _) _
                      refine sp_iload_n (p2 := 35) rfl rfl rfl ?_
                      refine st_aald (v := .ref 160) rfl hh_97 (by decide) rfl ?_
                      show Ev _ _ _ (36, _, _, _) _
                      refine sp_astore (p2 := 38) (lv2 := [(5, .ref 160), (0, .ref 16), (1, .int 2), (2, .int x2), (3, .int x3), (4, .int x4)]) rfl rfl (by decide) rfl ?_
                      refine sp_aload (p2 := 40) rfl rfl rfl ?_
                      have c1 : Ca 19 41 [.ref 160] hh (some (.int 1), hh) := by
                        refine ca_of (d := 18) (M := mX8_isMissing) rfl (Nat.le_of_ble_eq_true rfl) ?_
                        show Ev im_K0 18 mX8_isMissing (0, [(0, .ref 160)], [], hh) _
                        refine sp_aload_n (p2 := 1) rfl rfl rfl ?_
                        refine st_get rfl hh_144 rfl ?_
                        show Ev _ _ _ (4, _, _, _) _
                        refine sp_iconst (p2 := 5) (x := (-1)) rfl rfl (by decide) ?_
                        refine st_icmp (b := false) rfl (by decide) ?_
                        show Ev _ _ _ (8, _, _, _) _
                        refine sp_iconst (p2 := 9) (x := 1) rfl rfl (by decide) ?_
                        refine sp_goto rfl ?_
                        exact sp_zret rfl rfl (by decide)
                      refine st_callV (R := 160) rfl rfl rfl hh_144 rfl c1 ?_
                      show Ev _ _ _ (43, [(5, .ref 160), (0, .ref 16), (1, .int 2), (2, .int x2), (3, .int x3), (4, .int x4)], [.int 1], hh) _
                      refine st_ifc (b := false) rfl (by decide) ?_
                      show Ev _ _ _ (46, _, _, _) _
                      refine sp_bipush (p2 := 48) (x := (-11)) rfl rfl (by decide) ?_
                      exact sp_iret rfl rfl
                    · refine ca_of (d := 19) (M := mX12_people) rfl (Nat.le_of_ble_eq_true rfl) ?_
                      show Ev im_K0 19 mX12_people (0, [(0, .ref 164), (1, .int 2), (2, .int x2), (3, .int x3), (4, .int x4)], [], hh) _
                      refine sp_iload_n (p2 := 1) rfl rfl rfl ?_
                      refine sp_iconst (p2 := 2) (x := 0) rfl rfl (by decide) ?_
                      refine sp_iconst (p2 := 3) (x := 3) rfl rfl (by decide) ?_
                      refine st_callS rfl rfl rfl (cl_in_T (n := 2) (a := 0) (b := 3) (show Int32.toInt _ = _ from rfl) (show Int32.toInt _ = _ from rfl) (by have e9 : Int32.toInt 2 = 2 := rfl; omega)) ?_
                      show Ev _ _ _ (6, [(0, .ref 164), (1, .int 2), (2, .int x2), (3, .int x3), (4, .int x4)], [.int 1], hh) _
                      refine st_ifc (b := false) rfl (by decide) ?_
                      show Ev _ _ _ (9, _, _, _) _
                      refine sp_iload_n (p2 := 10) rfl rfl rfl ?_
                      refine sp_iconst (p2 := 11) (x := 0) rfl rfl (by decide) ?_
                      refine sp_iconst (p2 := 12) (x := 2) rfl rfl (by decide) ?_
                      refine st_callS rfl rfl rfl (cl_in_T (a := 0) (b := 2) rfl rfl (by omega)) ?_
                      show Ev _ _ _ (15, [(0, .ref 164), (1, .int 2), (2, .int x2), (3, .int x3), (4, .int x4)], [.int 1], hh) _
                      refine st_ifc (b := false) rfl (by decide) ?_
                      show Ev _ _ _ (18, _, _, _) _
                      refine sp_iload (p2 := 20) rfl rfl rfl ?_
                      refine sp_iconst (p2 := 21) (x := 0) rfl rfl (by decide) ?_
                      refine sp_bipush (p2 := 23) (x := 10) rfl rfl (by decide) ?_
                      refine st_callS rfl rfl rfl (cl_in_T (a := 0) (b := 10) rfl rfl (by omega)) ?_
                      show Ev _ _ _ (26, [(0, .ref 164), (1, .int 2), (2, .int x2), (3, .int x3), (4, .int x4)], [.int 1], hh) _
                      refine st_ifc (b := true) rfl (by decide) ?_
                      show Ev _ _ _ (32, _, _, _) _
                      refine sp_aload_n (p2 := 33) rfl rfl rfl ?_
                      refine st_get rfl hh_148 rfl ?_
                      show Ev _ _ _ (36, _, _, _) _
                      refine sp_iload_n (p2 := 37) rfl rfl rfl ?_
                      refine st_iald (x := (-1)) rfl (by decide) hh_192 rfl rfl ?_
                      show Ev _ _ _ (38, _, _, _) _
                      refine sp_iconst (p2 := 39) (x := (-1)) rfl rfl (by decide) ?_
                      refine st_icmp (b := false) rfl (by decide) ?_
                      show Ev _ _ _ (42, _, _, _) _
                      refine sp_bipush (p2 := 44) (x := (-11)) rfl rfl (by decide) ?_
                      exact sp_iret rfl rfl
                  · obtain rfl : x1 = 3 := i32_ext (by have e9 : Int32.toInt 3 = 3 := rfl; omega)
                    refine ⟨.int (-11), hh, hh, ?_, ?_⟩
                    · refine ca_of (d := 19) (M := mX11_people) rfl (Nat.le_of_ble_eq_true rfl) ?_
                      show Ev im_K0 19 mX11_people (0, [(0, .ref 16), (1, .int 3), (2, .int x2), (3, .int x3), (4, .int x4)], [], hh) _
                      refine sp_iload_n (p2 := 1) rfl rfl rfl ?_
                      refine sp_iconst (p2 := 2) (x := 4) rfl rfl (by decide) ?_
                      refine st_callS rfl rfl rfl (cl_within_T (n := 3) (b := 4) (show Int32.toInt _ = _ from rfl) (by have e9 : Int32.toInt 3 = 3 := rfl; omega)) ?_
                      show Ev _ _ _ (5, [(0, .ref 16), (1, .int 3), (2, .int x2), (3, .int x3), (4, .int x4)], [.int 1], hh) _
                      refine st_ifc (b := false) rfl (by decide) ?_
                      show Ev _ _ _ (8, _, _, _) _
                      refine sp_iload_n (p2 := 9) rfl rfl rfl ?_
                      refine sp_iconst (p2 := 10) (x := 3) rfl rfl (by decide) ?_
                      refine st_callS rfl rfl rfl (cl_within_T (b := 3) rfl (by omega)) ?_
                      show Ev _ _ _ (13, [(0, .ref 16), (1, .int 3), (2, .int x2), (3, .int x3), (4, .int x4)], [.int 1], hh) _
                      refine st_ifc (b := false) rfl (by decide) ?_
                      show Ev _ _ _ (16, _, _, _) _
                      refine sp_iload (p2 := 18) rfl rfl rfl ?_
                      refine sp_iconst (p2 := 19) (x := 0) rfl rfl (by decide) ?_
                      refine sp_bipush (p2 := 21) (x := 10) rfl rfl (by decide) ?_
                      refine st_callS rfl rfl rfl (cl_between_T (a := 0) (b := 10) rfl rfl (by omega)) ?_
                      show Ev _ _ _ (24, [(0, .ref 16), (1, .int 3), (2, .int x2), (3, .int x3), (4, .int x4)], [.int 1], hh) _
                      refine st_ifc (b := true) rfl (by decide) ?_
                      show Ev _ _ _ (30, _, _, _) _
                      refine sp_aload_n (p2 := 31) rfl rfl rfl ?_
                      refine st_get rfl hh_0 rfl ?_
                      show Ev _ _ _ (34, _, _, _) _
                      refine sp_iload_n (p2 := 35) rfl rfl rfl ?_
                      refine st_aald (v := .ref 162) rfl hh_97 (by decide) rfl ?_
                      show Ev _ _ _ (36, _, _, _) _
                      refine sp_astore (p2 := 38) (lv2 := [(5, .ref 162), (0, .ref 16), (1, .int 3), (2, .int x2), (3, .int x3), (4, .int x4)]) rfl rfl (by decide) rfl ?_
                      refine sp_aload (p2 := 40) rfl rfl rfl ?_
                      have c1 : Ca 19 41 [.ref 162] hh (some (.int 1), hh) := by
                        refine ca_of (d := 18) (M := mX8_isMissing) rfl (Nat.le_of_ble_eq_true rfl) ?_
                        show Ev im_K0 18 mX8_isMissing (0, [(0, .ref 162)], [], hh) _
                        refine sp_aload_n (p2 := 1) rfl rfl rfl ?_
                        refine st_get rfl hh_146 rfl ?_
                        show Ev _ _ _ (4, _, _, _) _
                        refine sp_iconst (p2 := 5) (x := (-1)) rfl rfl (by decide) ?_
                        refine st_icmp (b := false) rfl (by decide) ?_
                        show Ev _ _ _ (8, _, _, _) _
                        refine sp_iconst (p2 := 9) (x := 1) rfl rfl (by decide) ?_
                        refine sp_goto rfl ?_
                        exact sp_zret rfl rfl (by decide)
                      refine st_callV (R := 162) rfl rfl rfl hh_146 rfl c1 ?_
                      show Ev _ _ _ (43, [(5, .ref 162), (0, .ref 16), (1, .int 3), (2, .int x2), (3, .int x3), (4, .int x4)], [.int 1], hh) _
                      refine st_ifc (b := false) rfl (by decide) ?_
                      show Ev _ _ _ (46, _, _, _) _
                      refine sp_bipush (p2 := 48) (x := (-11)) rfl rfl (by decide) ?_
                      exact sp_iret rfl rfl
                    · refine ca_of (d := 19) (M := mX12_people) rfl (Nat.le_of_ble_eq_true rfl) ?_
                      show Ev im_K0 19 mX12_people (0, [(0, .ref 164), (1, .int 3), (2, .int x2), (3, .int x3), (4, .int x4)], [], hh) _
                      refine sp_iload_n (p2 := 1) rfl rfl rfl ?_
                      refine sp_iconst (p2 := 2) (x := 0) rfl rfl (by decide) ?_
                      refine sp_iconst (p2 := 3) (x := 3) rfl rfl (by decide) ?_
                      refine st_callS rfl rfl rfl (cl_in_T (n := 3) (a := 0) (b := 3) (show Int32.toInt _ = _ from rfl) (show Int32.toInt _ = _ from rfl) (by have e9 : Int32.toInt 3 = 3 := rfl; omega)) ?_
                      show Ev _ _ _ (6, [(0, .ref 164), (1, .int 3), (2, .int x2), (3, .int x3), (4, .int x4)], [.int 1], hh) _
                      refine st_ifc (b := false) rfl (by decide) ?_
                      show Ev _ _ _ (9, _, _, _) _
                      refine sp_iload_n (p2 := 10) rfl rfl rfl ?_
                      refine sp_iconst (p2 := 11) (x := 0) rfl rfl (by decide) ?_
                      refine sp_iconst (p2 := 12) (x := 2) rfl rfl (by decide) ?_
                      refine st_callS rfl rfl rfl (cl_in_T (a := 0) (b := 2) rfl rfl (by omega)) ?_
                      show Ev _ _ _ (15, [(0, .ref 164), (1, .int 3), (2, .int x2), (3, .int x3), (4, .int x4)], [.int 1], hh) _
                      refine st_ifc (b := false) rfl (by decide) ?_
                      show Ev _ _ _ (18, _, _, _) _
                      refine sp_iload (p2 := 20) rfl rfl rfl ?_
                      refine sp_iconst (p2 := 21) (x := 0) rfl rfl (by decide) ?_
                      refine sp_bipush (p2 := 23) (x := 10) rfl rfl (by decide) ?_
                      refine st_callS rfl rfl rfl (cl_in_T (a := 0) (b := 10) rfl rfl (by omega)) ?_
                      show Ev _ _ _ (26, [(0, .ref 164), (1, .int 3), (2, .int x2), (3, .int x3), (4, .int x4)], [.int 1], hh) _
                      refine st_ifc (b := true) rfl (by decide) ?_
                      show Ev _ _ _ (32, _, _, _) _
                      refine sp_aload_n (p2 := 33) rfl rfl rfl ?_
                      refine st_get rfl hh_148 rfl ?_
                      show Ev _ _ _ (36, _, _, _) _
                      refine sp_iload_n (p2 := 37) rfl rfl rfl ?_
                      refine st_iald (x := (-1)) rfl (by decide) hh_192 rfl rfl ?_
                      show Ev _ _ _ (38, _, _, _) _
                      refine sp_iconst (p2 := 39) (x := (-1)) rfl rfl (by decide) ?_
                      refine st_icmp (b := false) rfl (by decide) ?_
                      show Ev _ _ _ (42, _, _, _) _
                      refine sp_bipush (p2 := 44) (x := (-11)) rfl rfl (by decide) ?_
                      exact sp_iret rfl rfl
            · refine ⟨.int (-2), hh, hh, ?_, ?_⟩
              · refine ca_of (d := 19) (M := mX11_people) rfl (Nat.le_of_ble_eq_true rfl) ?_
                show Ev im_K0 19 mX11_people (0, [(0, .ref 16), (1, .int x1), (2, .int x2), (3, .int x3), (4, .int x4)], [], hh) _
                refine sp_iload_n (p2 := 1) rfl rfl rfl ?_
                refine sp_iconst (p2 := 2) (x := 4) rfl rfl (by decide) ?_
                refine st_callS rfl rfl rfl (cl_within_T (b := 4) rfl (by omega)) ?_
                show Ev _ _ _ (5, [(0, .ref 16), (1, .int x1), (2, .int x2), (3, .int x3), (4, .int x4)], [.int 1], hh) _
                refine st_ifc (b := false) rfl (by decide) ?_
                show Ev _ _ _ (8, _, _, _) _
                refine sp_iload_n (p2 := 9) rfl rfl rfl ?_
                refine sp_iconst (p2 := 10) (x := 3) rfl rfl (by decide) ?_
                refine st_callS rfl rfl rfl (cl_within_T (b := 3) rfl (by omega)) ?_
                show Ev _ _ _ (13, [(0, .ref 16), (1, .int x1), (2, .int x2), (3, .int x3), (4, .int x4)], [.int 1], hh) _
                refine st_ifc (b := false) rfl (by decide) ?_
                show Ev _ _ _ (16, _, _, _) _
                refine sp_iload (p2 := 18) rfl rfl rfl ?_
                refine sp_iconst (p2 := 19) (x := 0) rfl rfl (by decide) ?_
                refine sp_bipush (p2 := 21) (x := 10) rfl rfl (by decide) ?_
                refine st_callS rfl rfl rfl (cl_between_F (a := 0) (b := 10) rfl rfl (by omega)) ?_
                show Ev _ _ _ (24, [(0, .ref 16), (1, .int x1), (2, .int x2), (3, .int x3), (4, .int x4)], [.int 0], hh) _
                refine st_ifc (b := false) rfl (by decide) ?_
                show Ev _ _ _ (27, _, _, _) _
                refine sp_bipush (p2 := 29) (x := (-2)) rfl rfl (by decide) ?_
                exact sp_iret rfl rfl
              · refine ca_of (d := 19) (M := mX12_people) rfl (Nat.le_of_ble_eq_true rfl) ?_
                show Ev im_K0 19 mX12_people (0, [(0, .ref 164), (1, .int x1), (2, .int x2), (3, .int x3), (4, .int x4)], [], hh) _
                refine sp_iload_n (p2 := 1) rfl rfl rfl ?_
                refine sp_iconst (p2 := 2) (x := 0) rfl rfl (by decide) ?_
                refine sp_iconst (p2 := 3) (x := 3) rfl rfl (by decide) ?_
                refine st_callS rfl rfl rfl (cl_in_T (a := 0) (b := 3) rfl rfl (by omega)) ?_
                show Ev _ _ _ (6, [(0, .ref 164), (1, .int x1), (2, .int x2), (3, .int x3), (4, .int x4)], [.int 1], hh) _
                refine st_ifc (b := false) rfl (by decide) ?_
                show Ev _ _ _ (9, _, _, _) _
                refine sp_iload_n (p2 := 10) rfl rfl rfl ?_
                refine sp_iconst (p2 := 11) (x := 0) rfl rfl (by decide) ?_
                refine sp_iconst (p2 := 12) (x := 2) rfl rfl (by decide) ?_
                refine st_callS rfl rfl rfl (cl_in_T (a := 0) (b := 2) rfl rfl (by omega)) ?_
                show Ev _ _ _ (15, [(0, .ref 164), (1, .int x1), (2, .int x2), (3, .int x3), (4, .int x4)], [.int 1], hh) _
                refine st_ifc (b := false) rfl (by decide) ?_
                show Ev _ _ _ (18, _, _, _) _
                refine sp_iload (p2 := 20) rfl rfl rfl ?_
                refine sp_iconst (p2 := 21) (x := 0) rfl rfl (by decide) ?_
                refine sp_bipush (p2 := 23) (x := 10) rfl rfl (by decide) ?_
                refine st_callS rfl rfl rfl (cl_in_F (a := 0) (b := 10) rfl rfl (by omega)) ?_
                show Ev _ _ _ (26, [(0, .ref 164), (1, .int x1), (2, .int x2), (3, .int x3), (4, .int x4)], [.int 0], hh) _
                refine st_ifc (b := false) rfl (by decide) ?_
                show Ev _ _ _ (29, _, _, _) _
                refine sp_bipush (p2 := 31) (x := (-2)) rfl rfl (by decide) ?_
                exact sp_iret rfl rfl
        · refine ⟨.int (-2), hh, hh, ?_, ?_⟩
          · refine ca_of (d := 19) (M := mX11_people) rfl (Nat.le_of_ble_eq_true rfl) ?_
            show Ev im_K0 19 mX11_people (0, [(0, .ref 16), (1, .int x1), (2, .int x2), (3, .int x3), (4, .int x4)], [], hh) _
            refine sp_iload_n (p2 := 1) rfl rfl rfl ?_
            refine sp_iconst (p2 := 2) (x := 4) rfl rfl (by decide) ?_
            refine st_callS rfl rfl rfl (cl_within_T (b := 4) rfl (by omega)) ?_
            show Ev _ _ _ (5, [(0, .ref 16), (1, .int x1), (2, .int x2), (3, .int x3), (4, .int x4)], [.int 1], hh) _
            refine st_ifc (b := false) rfl (by decide) ?_
            show Ev _ _ _ (8, _, _, _) _
            refine sp_iload_n (p2 := 9) rfl rfl rfl ?_
            refine sp_iconst (p2 := 10) (x := 3) rfl rfl (by decide) ?_
            refine st_callS rfl rfl rfl (cl_within_F (b := 3) rfl (by omega)) ?_
            show Ev _ _ _ (13, [(0, .ref 16), (1, .int x1), (2, .int x2), (3, .int x3), (4, .int x4)], [.int 0], hh) _
            refine st_ifc (b := true) rfl (by decide) ?_
            show Ev _ _ _ (27, _, _, _) _
            refine sp_bipush (p2 := 29) (x := (-2)) rfl rfl (by decide) ?_
            exact sp_iret rfl rfl
          · refine ca_of (d := 19) (M := mX12_people) rfl (Nat.le_of_ble_eq_true rfl) ?_
            show Ev im_K0 19 mX12_people (0, [(0, .ref 164), (1, .int x1), (2, .int x2), (3, .int x3), (4, .int x4)], [], hh) _
            refine sp_iload_n (p2 := 1) rfl rfl rfl ?_
            refine sp_iconst (p2 := 2) (x := 0) rfl rfl (by decide) ?_
            refine sp_iconst (p2 := 3) (x := 3) rfl rfl (by decide) ?_
            refine st_callS rfl rfl rfl (cl_in_T (a := 0) (b := 3) rfl rfl (by omega)) ?_
            show Ev _ _ _ (6, [(0, .ref 164), (1, .int x1), (2, .int x2), (3, .int x3), (4, .int x4)], [.int 1], hh) _
            refine st_ifc (b := false) rfl (by decide) ?_
            show Ev _ _ _ (9, _, _, _) _
            refine sp_iload_n (p2 := 10) rfl rfl rfl ?_
            refine sp_iconst (p2 := 11) (x := 0) rfl rfl (by decide) ?_
            refine sp_iconst (p2 := 12) (x := 2) rfl rfl (by decide) ?_
            refine st_callS rfl rfl rfl (cl_in_F (a := 0) (b := 2) rfl rfl (by omega)) ?_
            show Ev _ _ _ (15, [(0, .ref 164), (1, .int x1), (2, .int x2), (3, .int x3), (4, .int x4)], [.int 0], hh) _
            refine st_ifc (b := true) rfl (by decide) ?_
            show Ev _ _ _ (29, _, _, _) _
            refine sp_bipush (p2 := 31) (x := (-2)) rfl rfl (by decide) ?_
            exact sp_iret rfl rfl
    · refine ⟨.int (-2), hh, hh, ?_, ?_⟩
      · refine ca_of (d := 19) (M := mX11_people) rfl (Nat.le_of_ble_eq_true rfl) ?_
        show Ev im_K0 19 mX11_people (0, [(0, .ref 16), (1, .int x1), (2, .int x2), (3, .int x3), (4, .int x4)], [], hh) _
        refine sp_iload_n (p2 := 1) rfl rfl rfl ?_
        refine sp_iconst (p2 := 2) (x := 4) rfl rfl (by decide) ?_
        refine st_callS rfl rfl rfl (cl_within_F (b := 4) rfl (by omega)) ?_
        show Ev _ _ _ (5, [(0, .ref 16), (1, .int x1), (2, .int x2), (3, .int x3), (4, .int x4)], [.int 0], hh) _
        refine st_ifc (b := true) rfl (by decide) ?_
        show Ev _ _ _ (27, _, _, _) _
        refine sp_bipush (p2 := 29) (x := (-2)) rfl rfl (by decide) ?_
        exact sp_iret rfl rfl
      · refine ca_of (d := 19) (M := mX12_people) rfl (Nat.le_of_ble_eq_true rfl) ?_
        show Ev im_K0 19 mX12_people (0, [(0, .ref 164), (1, .int x1), (2, .int x2), (3, .int x3), (4, .int x4)], [], hh) _
        refine sp_iload_n (p2 := 1) rfl rfl rfl ?_
        refine sp_iconst (p2 := 2) (x := 0) rfl rfl (by decide) ?_
        refine sp_iconst (p2 := 3) (x := 3) rfl rfl (by decide) ?_
        refine st_callS rfl rfl rfl (cl_in_F (a := 0) (b := 3) rfl rfl (by omega)) ?_
        show Ev _ _ _ (6, [(0, .ref 164), (1, .int x1), (2, .int x2), (3, .int x3), (4, .int x4)], [.int 0], hh) _
        refine st_ifc (b := true) rfl (by decide) ?_
        show Ev _ _ _ (29, _, _, _) _
        refine sp_bipush (p2 := 31) (x := (-2)) rfl rfl (by decide) ?_
        exact sp_iret rfl rfl
