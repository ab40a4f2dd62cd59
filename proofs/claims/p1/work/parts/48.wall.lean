set_option maxRecDepth 20000 in
set_option maxHeartbeats 4000000 in
theorem both_cos (c s : Int32) (c0 : 0 ≤ c.toInt) (c1 : c.toInt ≤ 99) (s0 : 0 ≤ s.toInt) (s1 : s.toInt ≤ 3) : ∃ r : Int32, (∀ g, Ca 19 112 [.int c, .int s] g (some (.int r), g)) ∧ (∀ g, Ca 19 120 [.int c, .int s] g (some (.int r), g)) ∧ (r.toInt = -1 ∨ (0 ≤ r.toInt ∧ r.toInt ≤ 99)) := by
  by_cases h1 : Int32.toInt s ≤ 0
  · by_cases h2 : Int32.toInt c ≤ 89
    · refine ⟨(c + 10), fun g => ?_, fun g => ?_, ?_⟩
      · refine ca_of (d := 18) (M := mX11_cellOnSide) rfl (Nat.le_of_ble_eq_true rfl) ?_
        show Ev im_K0 18 mX11_cellOnSide (0, [(0, .int c), (1, .int s)], [], g) _
        refine sp_iload_n (p2 := 1) rfl rfl rfl ?_
        refine sp_bipush (p2 := 3) (x := 10) rfl rfl (by decide) ?_
        have f1 : Int32.toInt (c - c / 10 * 10) = Int32.toInt c % 10 := i32_rem10 (by omega)
        refine sp_irem (p2 := 4) (z := (c - c / 10 * 10)) rfl rfl (by decide) rfl ?_
        refine sp_istore_n (p2 := 5) (lv2 := [(2, .int ((c - c / 10 * 10))), (0, .int c), (1, .int s)]) rfl rfl (by decide) rfl ?_
        refine sp_iload_n (p2 := 6) rfl rfl rfl ?_
        refine sp_bipush (p2 := 8) (x := 10) rfl rfl (by decide) ?_
        have f2 : Int32.toInt (c / 10) = Int32.toInt c / 10 := i32_div10 (by omega)
        refine sp_idiv (p2 := 9) (z := (c / 10)) rfl rfl (by decide) rfl ?_
        refine sp_istore_n (p2 := 10) (lv2 := [(3, .int ((c / 10))), (2, .int ((c - c / 10 * 10))), (0, .int c), (1, .int s)]) rfl rfl (by decide) rfl ?_
        refine sp_iload_n (p2 := 11) rfl rfl rfl ?_
        refine sp_tsIn (k := 0) (p2 := 36) rfl (show Int32.toInt s = 0 by omega) (by decide) (by decide) rfl (by decide) ?_
        refine sp_iload_n (p2 := 37) rfl rfl rfl ?_
        refine sp_bipush (p2 := 39) (x := 9) rfl rfl (by decide) ?_
        refine st_icmp (b := false) rfl (cn_ge_F rfl (show Int32.toInt 9 = 9 from rfl) (by omega)) ?_
        show Ev _ _ _ (42, _, _, _) _
        refine sp_iload_n (p2 := 43) rfl rfl rfl ?_
        refine sp_bipush (p2 := 45) (x := 10) rfl rfl (by decide) ?_
        have f3 : Int32.toInt (c + 10) = Int32.toInt c + 10 := i32_addE (show Int32.toInt 10 = 10 from rfl) (by omega) (by omega)
        refine sp_iadd (p2 := 46) (z := (c + 10)) rfl rfl rfl ?_
        refine sp_goto rfl ?_
        exact sp_iret rfl rfl
      · refine ca_of (d := 18) (M := mX12_nextTo) rfl (Nat.le_of_ble_eq_true rfl) ?_
        show Ev im_K0 18 mX12_nextTo (0, [(0, .int c), (1, .int s)], [], g) _
        refine sp_iload_n (p2 := 1) rfl rfl rfl ?_
        refine sp_tsIn (k := 0) (p2 := 28) rfl (show Int32.toInt s = 0 by omega) (by decide) (by decide) rfl (by decide) ?_
        refine sp_iload_n (p2 := 29) rfl rfl rfl ?_
        refine sp_bipush (p2 := 31) (x := 90) rfl rfl (by decide) ?_
        refine st_icmp (b := false) rfl (cn_ge_F rfl (show Int32.toInt 90 = 90 from rfl) (by omega)) ?_
        show Ev _ _ _ (34, _, _, _) _
        refine sp_iload_n (p2 := 35) rfl rfl rfl ?_
        refine sp_bipush (p2 := 37) (x := 10) rfl rfl (by decide) ?_
        have f4 : Int32.toInt (c + 10) = Int32.toInt c + 10 := i32_addE (show Int32.toInt 10 = 10 from rfl) (by omega) (by omega)
        refine sp_iadd (p2 := 38) (z := (c + 10)) rfl rfl rfl ?_
        refine sp_goto rfl ?_
        exact sp_iret rfl rfl
      · right
        have f4 : Int32.toInt (c + 10) = Int32.toInt c + 10 := i32_addE (show Int32.toInt 10 = 10 from rfl) (by omega) (by omega)
        have f90 : Int32.toInt (c - c / 10 * 10) = Int32.toInt c % 10 := i32_rem10 (by omega)
        have f91 : Int32.toInt (c / 10) = Int32.toInt c / 10 := i32_div10 (by omega)
        omega
    · refine ⟨(-1), fun g => ?_, fun g => ?_, ?_⟩
      · refine ca_of (d := 18) (M := mX11_cellOnSide) rfl (Nat.le_of_ble_eq_true rfl) ?_
        show Ev im_K0 18 mX11_cellOnSide (0, [(0, .int c), (1, .int s)], [], g) _
        refine sp_iload_n (p2 := 1) rfl rfl rfl ?_
        refine sp_bipush (p2 := 3) (x := 10) rfl rfl (by decide) ?_
        have f1 : Int32.toInt (c - c / 10 * 10) = Int32.toInt c % 10 := i32_rem10 (by omega)
        refine sp_irem (p2 := 4) (z := (c - c / 10 * 10)) rfl rfl (by decide) rfl ?_
        refine sp_istore_n (p2 := 5) (lv2 := [(2, .int ((c - c / 10 * 10))), (0, .int c), (1, .int s)]) rfl rfl (by decide) rfl ?_
        refine sp_iload_n (p2 := 6) rfl rfl rfl ?_
        refine sp_bipush (p2 := 8) (x := 10) rfl rfl (by decide) ?_
        have f2 : Int32.toInt (c / 10) = Int32.toInt c / 10 := i32_div10 (by omega)
        refine sp_idiv (p2 := 9) (z := (c / 10)) rfl rfl (by decide) rfl ?_
        refine sp_istore_n (p2 := 10) (lv2 := [(3, .int ((c / 10))), (2, .int ((c - c / 10 * 10))), (0, .int c), (1, .int s)]) rfl rfl (by decide) rfl ?_
        refine sp_iload_n (p2 := 11) rfl rfl rfl ?_
        refine sp_tsIn (k := 0) (p2 := 36) rfl (show Int32.toInt s = 0 by omega) (by decide) (by decide) rfl (by decide) ?_
        refine sp_iload_n (p2 := 37) rfl rfl rfl ?_
        refine sp_bipush (p2 := 39) (x := 9) rfl rfl (by decide) ?_
        refine st_icmp (b := true) rfl (cn_ge_T rfl (show Int32.toInt 9 = 9 from rfl) (by omega)) ?_
        show Ev _ _ _ (49, _, _, _) _
        refine sp_iconst (p2 := 50) (x := (-1)) rfl rfl (by decide) ?_
        exact sp_iret rfl rfl
      · refine ca_of (d := 18) (M := mX12_nextTo) rfl (Nat.le_of_ble_eq_true rfl) ?_
        show Ev im_K0 18 mX12_nextTo (0, [(0, .int c), (1, .int s)], [], g) _
        refine sp_iload_n (p2 := 1) rfl rfl rfl ?_
        refine sp_tsIn (k := 0) (p2 := 28) rfl (show Int32.toInt s = 0 by omega) (by decide) (by decide) rfl (by decide) ?_
        refine sp_iload_n (p2 := 29) rfl rfl rfl ?_
        refine sp_bipush (p2 := 31) (x := 90) rfl rfl (by decide) ?_
        refine st_icmp (b := true) rfl (cn_ge_T rfl (show Int32.toInt 90 = 90 from rfl) (by omega)) ?_
        show Ev _ _ _ (41, _, _, _) _
        refine sp_iconst (p2 := 42) (x := (-1)) rfl rfl (by decide) ?_
        exact sp_iret rfl rfl
      · exact Or.inl rfl
  · by_cases h2 : Int32.toInt s ≤ 1
    · by_cases h3 : Int32.toInt (c - c / 10 * 10) ≤ 8
      · refine ⟨(c + 1), fun g => ?_, fun g => ?_, ?_⟩
        · refine ca_of (d := 18) (M := mX11_cellOnSide) rfl (Nat.le_of_ble_eq_true rfl) ?_
          show Ev im_K0 18 mX11_cellOnSide (0, [(0, .int c), (1, .int s)], [], g) _
          refine sp_iload_n (p2 := 1) rfl rfl rfl ?_
          refine sp_bipush (p2 := 3) (x := 10) rfl rfl (by decide) ?_
          have f1 : Int32.toInt (c - c / 10 * 10) = Int32.toInt c % 10 := i32_rem10 (by omega)
          refine sp_irem (p2 := 4) (z := (c - c / 10 * 10)) rfl rfl (by decide) rfl ?_
          refine sp_istore_n (p2 := 5) (lv2 := [(2, .int ((c - c / 10 * 10))), (0, .int c), (1, .int s)]) rfl rfl (by decide) rfl ?_
          refine sp_iload_n (p2 := 6) rfl rfl rfl ?_
          refine sp_bipush (p2 := 8) (x := 10) rfl rfl (by decide) ?_
          have f2 : Int32.toInt (c / 10) = Int32.toInt c / 10 := i32_div10 (by omega)
          refine sp_idiv (p2 := 9) (z := (c / 10)) rfl rfl (by decide) rfl ?_
          refine sp_istore_n (p2 := 10) (lv2 := [(3, .int ((c / 10))), (2, .int ((c - c / 10 * 10))), (0, .int c), (1, .int s)]) rfl rfl (by decide) rfl ?_
          refine sp_iload_n (p2 := 11) rfl rfl rfl ?_
          refine sp_tsIn (k := 1) (p2 := 51) rfl (show Int32.toInt s = 1 by omega) (by decide) (by decide) rfl (by decide) ?_
          refine sp_iload_n (p2 := 52) rfl rfl rfl ?_
          refine sp_bipush (p2 := 54) (x := 9) rfl rfl (by decide) ?_
          refine st_icmp (b := false) rfl (cn_ge_F rfl (show Int32.toInt 9 = 9 from rfl) (by omega)) ?_
          show Ev _ _ _ (57, _, _, _) _
          refine sp_iload_n (p2 := 58) rfl rfl rfl ?_
          refine sp_iconst (p2 := 59) (x := 1) rfl rfl (by decide) ?_
          have f3 : Int32.toInt (c + 1) = Int32.toInt c + 1 := i32_addE (show Int32.toInt 1 = 1 from rfl) (by omega) (by omega)
          refine sp_iadd (p2 := 60) (z := (c + 1)) rfl rfl rfl ?_
          refine sp_goto rfl ?_
          exact sp_iret rfl rfl
        · refine ca_of (d := 18) (M := mX12_nextTo) rfl (Nat.le_of_ble_eq_true rfl) ?_
          show Ev im_K0 18 mX12_nextTo (0, [(0, .int c), (1, .int s)], [], g) _
          refine sp_iload_n (p2 := 1) rfl rfl rfl ?_
          refine sp_tsIn (k := 1) (p2 := 43) rfl (show Int32.toInt s = 1 by omega) (by decide) (by decide) rfl (by decide) ?_
          refine sp_iload_n (p2 := 44) rfl rfl rfl ?_
          refine sp_bipush (p2 := 46) (x := 10) rfl rfl (by decide) ?_
          have f4 : Int32.toInt (c - c / 10 * 10) = Int32.toInt c % 10 := i32_rem10 (by omega)
          refine sp_irem (p2 := 47) (z := (c - c / 10 * 10)) rfl rfl (by decide) rfl ?_
          refine sp_bipush (p2 := 49) (x := 9) rfl rfl (by decide) ?_
          refine st_icmp (b := false) rfl (cn_ge_F rfl (show Int32.toInt 9 = 9 from rfl) (by omega)) ?_
          show Ev _ _ _ (52, _, _, _) _
          refine sp_iload_n (p2 := 53) rfl rfl rfl ?_
          refine sp_iconst (p2 := 54) (x := 1) rfl rfl (by decide) ?_
          have f5 : Int32.toInt (c + 1) = Int32.toInt c + 1 := i32_addE (show Int32.toInt 1 = 1 from rfl) (by omega) (by omega)
          refine sp_iadd (p2 := 55) (z := (c + 1)) rfl rfl rfl ?_
          refine sp_goto rfl ?_
          exact sp_iret rfl rfl
        · right
          have f5 : Int32.toInt (c + 1) = Int32.toInt c + 1 := i32_addE (show Int32.toInt 1 = 1 from rfl) (by omega) (by omega)
          have f90 : Int32.toInt (c - c / 10 * 10) = Int32.toInt c % 10 := i32_rem10 (by omega)
          have f91 : Int32.toInt (c / 10) = Int32.toInt c / 10 := i32_div10 (by omega)
          omega
      · refine ⟨(-1), fun g => ?_, fun g => ?_, ?_⟩
        · refine ca_of (d := 18) (M := mX11_cellOnSide) rfl (Nat.le_of_ble_eq_true rfl) ?_
          show Ev im_K0 18 mX11_cellOnSide (0, [(0, .int c), (1, .int s)], [], g) _
          refine sp_iload_n (p2 := 1) rfl rfl rfl ?_
          refine sp_bipush (p2 := 3) (x := 10) rfl rfl (by decide) ?_
          have f1 : Int32.toInt (c - c / 10 * 10) = Int32.toInt c % 10 := i32_rem10 (by omega)
          refine sp_irem (p2 := 4) (z := (c - c / 10 * 10)) rfl rfl (by decide) rfl ?_
          refine sp_istore_n (p2 := 5) (lv2 := [(2, .int ((c - c / 10 * 10))), (0, .int c), (1, .int s)]) rfl rfl (by decide) rfl ?_
          refine sp_iload_n (p2 := 6) rfl rfl rfl ?_
          refine sp_bipush (p2 := 8) (x := 10) rfl rfl (by decide) ?_
          have f2 : Int32.toInt (c / 10) = Int32.toInt c / 10 := i32_div10 (by omega)
          refine sp_idiv (p2 := 9) (z := (c / 10)) rfl rfl (by decide) rfl ?_
          refine sp_istore_n (p2 := 10) (lv2 := [(3, .int ((c / 10))), (2, .int ((c - c / 10 * 10))), (0, .int c), (1, .int s)]) rfl rfl (by decide) rfl ?_
          refine sp_iload_n (p2 := 11) rfl rfl rfl ?_
          refine sp_tsIn (k := 1) (p2 := 51) rfl (show Int32.toInt s = 1 by omega) (by decide) (by decide) rfl (by decide) ?_
          refine sp_iload_n (p2 := 52) rfl rfl rfl ?_
          refine sp_bipush (p2 := 54) (x := 9) rfl rfl (by decide) ?_
          refine st_icmp (b := true) rfl (cn_ge_T rfl (show Int32.toInt 9 = 9 from rfl) (by omega)) ?_
          show Ev _ _ _ (63, _, _, _) _
          refine sp_iconst (p2 := 64) (x := (-1)) rfl rfl (by decide) ?_
          exact sp_iret rfl rfl
        · refine ca_of (d := 18) (M := mX12_nextTo) rfl (Nat.le_of_ble_eq_true rfl) ?_
          show Ev im_K0 18 mX12_nextTo (0, [(0, .int c), (1, .int s)], [], g) _
          refine sp_iload_n (p2 := 1) rfl rfl rfl ?_
          refine sp_tsIn (k := 1) (p2 := 43) rfl (show Int32.toInt s = 1 by omega) (by decide) (by decide) rfl (by decide) ?_
          refine sp_iload_n (p2 := 44) rfl rfl rfl ?_
          refine sp_bipush (p2 := 46) (x := 10) rfl rfl (by decide) ?_
          have f3 : Int32.toInt (c - c / 10 * 10) = Int32.toInt c % 10 := i32_rem10 (by omega)
          refine sp_irem (p2 := 47) (z := (c - c / 10 * 10)) rfl rfl (by decide) rfl ?_
          refine sp_bipush (p2 := 49) (x := 9) rfl rfl (by decide) ?_
          refine st_icmp (b := true) rfl (cn_ge_T rfl (show Int32.toInt 9 = 9 from rfl) (by omega)) ?_
          show Ev _ _ _ (58, _, _, _) _
          refine sp_iconst (p2 := 59) (x := (-1)) rfl rfl (by decide) ?_
          exact sp_iret rfl rfl
        · exact Or.inl rfl
    · by_cases h3 : Int32.toInt s ≤ 2
      · by_cases h4 : Int32.toInt c ≤ 9
        · refine ⟨(-1), fun g => ?_, fun g => ?_, ?_⟩
          · refine ca_of (d := 18) (M := mX11_cellOnSide) rfl (Nat.le_of_ble_eq_true rfl) ?_
            show Ev im_K0 18 mX11_cellOnSide (0, [(0, .int c), (1, .int s)], [], g) _
            refine sp_iload_n (p2 := 1) rfl rfl rfl ?_
            refine sp_bipush (p2 := 3) (x := 10) rfl rfl (by decide) ?_
            have f1 : Int32.toInt (c - c / 10 * 10) = Int32.toInt c % 10 := i32_rem10 (by omega)
            refine sp_irem (p2 := 4) (z := (c - c / 10 * 10)) rfl rfl (by decide) rfl ?_
            refine sp_istore_n (p2 := 5) (lv2 := [(2, .int ((c - c / 10 * 10))), (0, .int c), (1, .int s)]) rfl rfl (by decide) rfl ?_
            refine sp_iload_n (p2 := 6) rfl rfl rfl ?_
            refine sp_bipush (p2 := 8) (x := 10) rfl rfl (by decide) ?_
            have f2 : Int32.toInt (c / 10) = Int32.toInt c / 10 := i32_div10 (by omega)
            refine sp_idiv (p2 := 9) (z := (c / 10)) rfl rfl (by decide) rfl ?_
            refine sp_istore_n (p2 := 10) (lv2 := [(3, .int ((c / 10))), (2, .int ((c - c / 10 * 10))), (0, .int c), (1, .int s)]) rfl rfl (by decide) rfl ?_
            refine sp_iload_n (p2 := 11) rfl rfl rfl ?_
            refine sp_tsIn (k := 2) (p2 := 65) rfl (show Int32.toInt s = 2 by omega) (by decide) (by decide) rfl (by decide) ?_
            refine sp_iload_n (p2 := 66) rfl rfl rfl ?_
            refine st_ifc (b := true) rfl (cn_le_T rfl (show Int32.toInt 0 = 0 from rfl) (by omega)) ?_
            show Ev _ _ _ (76, _, _, _) _
            refine sp_iconst (p2 := 77) (x := (-1)) rfl rfl (by decide) ?_
            exact sp_iret rfl rfl
          · refine ca_of (d := 18) (M := mX12_nextTo) rfl (Nat.le_of_ble_eq_true rfl) ?_
            show Ev im_K0 18 mX12_nextTo (0, [(0, .int c), (1, .int s)], [], g) _
            refine sp_iload_n (p2 := 1) rfl rfl rfl ?_
            refine sp_tsIn (k := 2) (p2 := 60) rfl (show Int32.toInt s = 2 by omega) (by decide) (by decide) rfl (by decide) ?_
            refine sp_iload_n (p2 := 61) rfl rfl rfl ?_
            refine sp_bipush (p2 := 63) (x := 10) rfl rfl (by decide) ?_
            refine st_icmp (b := true) rfl (cn_lt_T rfl (show Int32.toInt 10 = 10 from rfl) (by omega)) ?_
            show Ev _ _ _ (73, _, _, _) _
            refine sp_iconst (p2 := 74) (x := (-1)) rfl rfl (by decide) ?_
            exact sp_iret rfl rfl
          · exact Or.inl rfl
        · refine ⟨(c - 10), fun g => ?_, fun g => ?_, ?_⟩
          · refine ca_of (d := 18) (M := mX11_cellOnSide) rfl (Nat.le_of_ble_eq_true rfl) ?_
            show Ev im_K0 18 mX11_cellOnSide (0, [(0, .int c), (1, .int s)], [], g) _
            refine sp_iload_n (p2 := 1) rfl rfl rfl ?_
            refine sp_bipush (p2 := 3) (x := 10) rfl rfl (by decide) ?_
            have f1 : Int32.toInt (c - c / 10 * 10) = Int32.toInt c % 10 := i32_rem10 (by omega)
            refine sp_irem (p2 := 4) (z := (c - c / 10 * 10)) rfl rfl (by decide) rfl ?_
            refine sp_istore_n (p2 := 5) (lv2 := [(2, .int ((c - c / 10 * 10))), (0, .int c), (1, .int s)]) rfl rfl (by decide) rfl ?_
            refine sp_iload_n (p2 := 6) rfl rfl rfl ?_
            refine sp_bipush (p2 := 8) (x := 10) rfl rfl (by decide) ?_
            have f2 : Int32.toInt (c / 10) = Int32.toInt c / 10 := i32_div10 (by omega)
            refine sp_idiv (p2 := 9) (z := (c / 10)) rfl rfl (by decide) rfl ?_
            refine sp_istore_n (p2 := 10) (lv2 := [(3, .int ((c / 10))), (2, .int ((c - c / 10 * 10))), (0, .int c), (1, .int s)]) rfl rfl (by decide) rfl ?_
            refine sp_iload_n (p2 := 11) rfl rfl rfl ?_
            refine sp_tsIn (k := 2) (p2 := 65) rfl (show Int32.toInt s = 2 by omega) (by decide) (by decide) rfl (by decide) ?_
            refine sp_iload_n (p2 := 66) rfl rfl rfl ?_
            refine st_ifc (b := false) rfl (cn_le_F rfl (show Int32.toInt 0 = 0 from rfl) (by omega)) ?_
            show Ev _ _ _ (69, _, _, _) _
            refine sp_iload_n (p2 := 70) rfl rfl rfl ?_
            refine sp_bipush (p2 := 72) (x := 10) rfl rfl (by decide) ?_
            have f3 : Int32.toInt (c - 10) = Int32.toInt c - 10 := i32_subE (show Int32.toInt 10 = 10 from rfl) (by omega) (by omega)
            refine sp_isub (p2 := 73) (z := (c - 10)) rfl rfl rfl ?_
            refine sp_goto rfl ?_
            exact sp_iret rfl rfl
          · refine ca_of (d := 18) (M := mX12_nextTo) rfl (Nat.le_of_ble_eq_true rfl) ?_
            show Ev im_K0 18 mX12_nextTo (0, [(0, .int c), (1, .int s)], [], g) _
            refine sp_iload_n (p2 := 1) rfl rfl rfl ?_
            refine sp_tsIn (k := 2) (p2 := 60) rfl (show Int32.toInt s = 2 by omega) (by decide) (by decide) rfl (by decide) ?_
            refine sp_iload_n (p2 := 61) rfl rfl rfl ?_
            refine sp_bipush (p2 := 63) (x := 10) rfl rfl (by decide) ?_
            refine st_icmp (b := false) rfl (cn_lt_F rfl (show Int32.toInt 10 = 10 from rfl) (by omega)) ?_
            show Ev _ _ _ (66, _, _, _) _
            refine sp_iload_n (p2 := 67) rfl rfl rfl ?_
            refine sp_bipush (p2 := 69) (x := 10) rfl rfl (by decide) ?_
            have f4 : Int32.toInt (c - 10) = Int32.toInt c - 10 := i32_subE (show Int32.toInt 10 = 10 from rfl) (by omega) (by omega)
            refine sp_isub (p2 := 70) (z := (c - 10)) rfl rfl rfl ?_
            refine sp_goto rfl ?_
            exact sp_iret rfl rfl
          · right
            have f4 : Int32.toInt (c - 10) = Int32.toInt c - 10 := i32_subE (show Int32.toInt 10 = 10 from rfl) (by omega) (by omega)
            have f90 : Int32.toInt (c - c / 10 * 10) = Int32.toInt c % 10 := i32_rem10 (by omega)
            have f91 : Int32.toInt (c / 10) = Int32.toInt c / 10 := i32_div10 (by omega)
            omega
      · by_cases h4 : Int32.toInt (c - c / 10 * 10) ≤ 0
        · refine ⟨(-1), fun g => ?_, fun g => ?_, ?_⟩
          · refine ca_of (d := 18) (M := mX11_cellOnSide) rfl (Nat.le_of_ble_eq_true rfl) ?_
            show Ev im_K0 18 mX11_cellOnSide (0, [(0, .int c), (1, .int s)], [], g) _
            refine sp_iload_n (p2 := 1) rfl rfl rfl ?_
            refine sp_bipush (p2 := 3) (x := 10) rfl rfl (by decide) ?_
            have f1 : Int32.toInt (c - c / 10 * 10) = Int32.toInt c % 10 := i32_rem10 (by omega)
            refine sp_irem (p2 := 4) (z := (c - c / 10 * 10)) rfl rfl (by decide) rfl ?_
            refine sp_istore_n (p2 := 5) (lv2 := [(2, .int ((c - c / 10 * 10))), (0, .int c), (1, .int s)]) rfl rfl (by decide) rfl ?_
            refine sp_iload_n (p2 := 6) rfl rfl rfl ?_
            refine sp_bipush (p2 := 8) (x := 10) rfl rfl (by decide) ?_
            have f2 : Int32.toInt (c / 10) = Int32.toInt c / 10 := i32_div10 (by omega)
            refine sp_idiv (p2 := 9) (z := (c / 10)) rfl rfl (by decide) rfl ?_
            refine sp_istore_n (p2 := 10) (lv2 := [(3, .int ((c / 10))), (2, .int ((c - c / 10 * 10))), (0, .int c), (1, .int s)]) rfl rfl (by decide) rfl ?_
            refine sp_iload_n (p2 := 11) rfl rfl rfl ?_
            refine sp_tsOut (p2 := 78) rfl (by omega) (by decide) ?_
            refine sp_iload_n (p2 := 79) rfl rfl rfl ?_
            refine st_ifc (b := true) rfl (cn_le_T rfl (show Int32.toInt 0 = 0 from rfl) (by omega)) ?_
            show Ev _ _ _ (88, _, _, _) _
            refine sp_iconst (p2 := 89) (x := (-1)) rfl rfl (by decide) ?_
            exact sp_iret rfl rfl
          · refine ca_of (d := 18) (M := mX12_nextTo) rfl (Nat.le_of_ble_eq_true rfl) ?_
            show Ev im_K0 18 mX12_nextTo (0, [(0, .int c), (1, .int s)], [], g) _
            refine sp_iload_n (p2 := 1) rfl rfl rfl ?_
            refine sp_tsOut (p2 := 75) rfl (by omega) (by decide) ?_
            refine sp_iload_n (p2 := 76) rfl rfl rfl ?_
            refine sp_bipush (p2 := 78) (x := 10) rfl rfl (by decide) ?_
            have f3 : Int32.toInt (c - c / 10 * 10) = Int32.toInt c % 10 := i32_rem10 (by omega)
            refine sp_irem (p2 := 79) (z := (c - c / 10 * 10)) rfl rfl (by decide) rfl ?_
            refine st_ifc (b := true) rfl (cn_le_T rfl (show Int32.toInt 0 = 0 from rfl) (by omega)) ?_
            show Ev _ _ _ (88, _, _, _) _
            refine sp_iconst (p2 := 89) (x := (-1)) rfl rfl (by decide) ?_
            exact sp_iret rfl rfl
          · exact Or.inl rfl
        · refine ⟨(c - 1), fun g => ?_, fun g => ?_, ?_⟩
          · refine ca_of (d := 18) (M := mX11_cellOnSide) rfl (Nat.le_of_ble_eq_true rfl) ?_
            show Ev im_K0 18 mX11_cellOnSide (0, [(0, .int c), (1, .int s)], [], g) _
            refine sp_iload_n (p2 := 1) rfl rfl rfl ?_
            refine sp_bipush (p2 := 3) (x := 10) rfl rfl (by decide) ?_
            have f1 : Int32.toInt (c - c / 10 * 10) = Int32.toInt c % 10 := i32_rem10 (by omega)
            refine sp_irem (p2 := 4) (z := (c - c / 10 * 10)) rfl rfl (by decide) rfl ?_
            refine sp_istore_n (p2 := 5) (lv2 := [(2, .int ((c - c / 10 * 10))), (0, .int c), (1, .int s)]) rfl rfl (by decide) rfl ?_
            refine sp_iload_n (p2 := 6) rfl rfl rfl ?_
            refine sp_bipush (p2 := 8) (x := 10) rfl rfl (by decide) ?_
            have f2 : Int32.toInt (c / 10) = Int32.toInt c / 10 := i32_div10 (by omega)
            refine sp_idiv (p2 := 9) (z := (c / 10)) rfl rfl (by decide) rfl ?_
            refine sp_istore_n (p2 := 10) (lv2 := [(3, .int ((c / 10))), (2, .int ((c - c / 10 * 10))), (0, .int c), (1, .int s)]) rfl rfl (by decide) rfl ?_
            refine sp_iload_n (p2 := 11) rfl rfl rfl ?_
            refine sp_tsOut (p2 := 78) rfl (by omega) (by decide) ?_
            refine sp_iload_n (p2 := 79) rfl rfl rfl ?_
            refine st_ifc (b := false) rfl (cn_le_F rfl (show Int32.toInt 0 = 0 from rfl) (by omega)) ?_
            show Ev _ _ _ (82, _, _, _) _
            refine sp_iload_n (p2 := 83) rfl rfl rfl ?_
            refine sp_iconst (p2 := 84) (x := 1) rfl rfl (by decide) ?_
            have f3 : Int32.toInt (c - 1) = Int32.toInt c - 1 := i32_subE (show Int32.toInt 1 = 1 from rfl) (by omega) (by omega)
            refine sp_isub (p2 := 85) (z := (c - 1)) rfl rfl rfl ?_
            refine sp_goto rfl ?_
            exact sp_iret rfl rfl
          · refine ca_of (d := 18) (M := mX12_nextTo) rfl (Nat.le_of_ble_eq_true rfl) ?_
            show Ev im_K0 18 mX12_nextTo (0, [(0, .int c), (1, .int s)], [], g) _
            refine sp_iload_n (p2 := 1) rfl rfl rfl ?_
            refine sp_tsOut (p2 := 75) rfl (by omega) (by decide) ?_
            refine sp_iload_n (p2 := 76) rfl rfl rfl ?_
            refine sp_bipush (p2 := 78) (x := 10) rfl rfl (by decide) ?_
            have f4 : Int32.toInt (c - c / 10 * 10) = Int32.toInt c % 10 := i32_rem10 (by omega)
            refine sp_irem (p2 := 79) (z := (c - c / 10 * 10)) rfl rfl (by decide) rfl ?_
            refine st_ifc (b := false) rfl (cn_le_F rfl (show Int32.toInt 0 = 0 from rfl) (by omega)) ?_
            show Ev _ _ _ (82, _, _, _) _
            refine sp_iload_n (p2 := 83) rfl rfl rfl ?_
            refine sp_iconst (p2 := 84) (x := 1) rfl rfl (by decide) ?_
            have f5 : Int32.toInt (c - 1) = Int32.toInt c - 1 := i32_subE (show Int32.toInt 1 = 1 from rfl) (by omega) (by omega)
            refine sp_isub (p2 := 85) (z := (c - 1)) rfl rfl rfl ?_
            refine sp_goto rfl ?_
            exact sp_iret rfl rfl
          · right
            have f5 : Int32.toInt (c - 1) = Int32.toInt c - 1 := i32_subE (show Int32.toInt 1 = 1 from rfl) (by omega) (by omega)
            have f90 : Int32.toInt (c - c / 10 * 10) = Int32.toInt c % 10 := i32_rem10 (by omega)
            have f91 : Int32.toInt (c / 10) = Int32.toInt c / 10 := i32_div10 (by omega)
            omega
set_option maxRecDepth 20000 in
set_option maxHeartbeats 4000000 in
theorem q_wall (x1 x2 x3 : Int32) : ∃ (v : Value) (h1 h2 : im_H), Ca 20 64 [.ref 16, .int x1, .int x2, .int x3] hh (some v, h1) ∧ Ca 20 126 [.ref 164, .int x1, .int x2, .int x3] h1 (some v, h2) := by
  by_cases h1 : x1.toInt ≤ (-1)
  · refine ⟨.int (-1), hh, hh, ?_, ?_⟩
    · refine ca_of (d := 19) (M := mX11_wall) rfl (Nat.le_of_ble_eq_true rfl) ?_
      show Ev im_K0 19 mX11_wall (0, [(0, .ref 16), (1, .int x1), (2, .int x2), (3, .int x3)], [], hh) _
      refine sp_iload_n (p2 := 1) rfl rfl rfl ?_
      refine sp_bipush (p2 := 3) (x := 100) rfl rfl (by decide) ?_
      refine st_callS rfl rfl rfl (cl_within_F (b := 100) rfl (by omega)) ?_
      show Ev _ _ _ (6, [(0, .ref 16), (1, .int x1), (2, .int x2), (3, .int x3)], [.int 0], hh) _
      refine st_ifc (b := false) rfl (by decide) ?_
      show Ev _ _ _ (9, _, _, _) _
      refine sp_iconst (p2 := 10) (x := (-1)) rfl rfl (by decide) ?_
      exact sp_iret rfl rfl
    · refine ca_of (d := 19) (M := mX12_wall) rfl (Nat.le_of_ble_eq_true rfl) ?_
      show Ev im_K0 19 mX12_wall (0, [(0, .ref 164), (1, .int x1), (2, .int x2), (3, .int x3)], [], hh) _
      refine sp_iload_n (p2 := 1) rfl rfl rfl ?_
      refine st_callS rfl rfl rfl (cl_isCell_F (by omega)) ?_
      show Ev _ _ _ (4, [(0, .ref 164), (1, .int x1), (2, .int x2), (3, .int x3)], [.int 0], hh) _
      refine st_ifc (b := false) rfl (by decide) ?_
      show Ev _ _ _ (7, _, _, _) _
      refine sp_iconst (p2 := 8) (x := (-1)) rfl rfl (by decide) ?_
      exact sp_iret rfl rfl
  · by_cases h2 : x1.toInt ≤ 99
    · by_cases h3 : x2.toInt ≤ (-1)
      · refine ⟨.int (-2), hh, hh, ?_, ?_⟩
        · refine ca_of (d := 19) (M := mX11_wall) rfl (Nat.le_of_ble_eq_true rfl) ?_
          show Ev im_K0 19 mX11_wall (0, [(0, .ref 16), (1, .int x1), (2, .int x2), (3, .int x3)], [], hh) _
          refine sp_iload_n (p2 := 1) rfl rfl rfl ?_
          refine sp_bipush (p2 := 3) (x := 100) rfl rfl (by decide) ?_
          refine st_callS rfl rfl rfl (cl_within_T (b := 100) rfl (by omega)) ?_
          show Ev _ _ _ (6, [(0, .ref 16), (1, .int x1), (2, .int x2), (3, .int x3)], [.int 1], hh) _
          refine st_ifc (b := true) rfl (by decide) ?_
          show Ev _ _ _ (11, _, _, _) _
          refine sp_iload_n (p2 := 12) rfl rfl rfl ?_
          refine sp_iconst (p2 := 13) (x := 4) rfl rfl (by decide) ?_
          refine st_callS rfl rfl rfl (cl_within_F (b := 4) rfl (by omega)) ?_
          show Ev _ _ _ (16, [(0, .ref 16), (1, .int x1), (2, .int x2), (3, .int x3)], [.int 0], hh) _
          refine st_ifc (b := true) rfl (by decide) ?_
          show Ev _ _ _ (29, _, _, _) _
          refine sp_bipush (p2 := 31) (x := (-2)) rfl rfl (by decide) ?_
          exact sp_iret rfl rfl
        · refine ca_of (d := 19) (M := mX12_wall) rfl (Nat.le_of_ble_eq_true rfl) ?_
          show Ev im_K0 19 mX12_wall (0, [(0, .ref 164), (1, .int x1), (2, .int x2), (3, .int x3)], [], hh) _
          refine sp_iload_n (p2 := 1) rfl rfl rfl ?_
          refine st_callS rfl rfl rfl (cl_isCell_T (by omega)) ?_
          show Ev _ _ _ (4, [(0, .ref 164), (1, .int x1), (2, .int x2), (3, .int x3)], [.int 1], hh) _
          refine st_ifc (b := true) rfl (by decide) ?_
          show Ev _ _ _ (9, _, _, _) _
          refine sp_iload_n (p2 := 10) rfl rfl rfl ?_
          refine sp_iconst (p2 := 11) (x := 0) rfl rfl (by decide) ?_
          refine sp_iconst (p2 := 12) (x := 3) rfl rfl (by decide) ?_
          refine st_callS rfl rfl rfl (cl_in_F (a := 0) (b := 3) rfl rfl (by omega)) ?_
          show Ev _ _ _ (15, [(0, .ref 164), (1, .int x1), (2, .int x2), (3, .int x3)], [.int 0], hh) _
          refine st_ifc (b := true) rfl (by decide) ?_
          show Ev _ _ _ (28, _, _, _) _
          refine sp_bipush (p2 := 30) (x := (-2)) rfl rfl (by decide) ?_
          exact sp_iret rfl rfl
      · by_cases h4 : x2.toInt ≤ 3
        · by_cases h5 : x3.toInt ≤ 0
          · refine ⟨.int (-2), hh, hh, ?_, ?_⟩
            · refine ca_of (d := 19) (M := mX11_wall) rfl (Nat.le_of_ble_eq_true rfl) ?_
              show Ev im_K0 19 mX11_wall (0, [(0, .ref 16), (1, .int x1), (2, .int x2), (3, .int x3)], [], hh) _
              refine sp_iload_n (p2 := 1) rfl rfl rfl ?_
              refine sp_bipush (p2 := 3) (x := 100) rfl rfl (by decide) ?_
              refine st_callS rfl rfl rfl (cl_within_T (b := 100) rfl (by omega)) ?_
              show Ev _ _ _ (6, [(0, .ref 16), (1, .int x1), (2, .int x2), (3, .int x3)], [.int 1], hh) _
              refine st_ifc (b := true) rfl (by decide) ?_
              show Ev _ _ _ (11, _, _, _) _
              refine sp_iload_n (p2 := 12) rfl rfl rfl ?_
              refine sp_iconst (p2 := 13) (x := 4) rfl rfl (by decide) ?_
              refine st_callS rfl rfl rfl (cl_within_T (b := 4) rfl (by omega)) ?_
              show Ev _ _ _ (16, [(0, .ref 16), (1, .int x1), (2, .int x2), (3, .int x3)], [.int 1], hh) _
              refine st_ifc (b := false) rfl (by decide) ?_
              show Ev _ _ _ (19, _, _, _) _
              refine sp_iload_n (p2 := 20) rfl rfl rfl ?_
              refine sp_iconst (p2 := 21) (x := 1) rfl rfl (by decide) ?_
              refine sp_bipush (p2 := 23) (x := 99) rfl rfl (by decide) ?_
              refine st_callS rfl rfl rfl (cl_between_F (a := 1) (b := 99) rfl rfl (by omega)) ?_
              show Ev _ _ _ (26, [(0, .ref 16), (1, .int x1), (2, .int x2), (3, .int x3)], [.int 0], hh) _
              refine st_ifc (b := false) rfl (by decide) ?_
              show Ev _ _ _ (29, _, _, _) _
              refine sp_bipush (p2 := 31) (x := (-2)) rfl rfl (by decide) ?_
              exact sp_iret rfl rfl
            · refine ca_of (d := 19) (M := mX12_wall) rfl (Nat.le_of_ble_eq_true rfl) ?_
              show Ev im_K0 19 mX12_wall (0, [(0, .ref 164), (1, .int x1), (2, .int x2), (3, .int x3)], [], hh) _
              refine sp_iload_n (p2 := 1) rfl rfl rfl ?_
              refine st_callS rfl rfl rfl (cl_isCell_T (by omega)) ?_
              show Ev _ _ _ (4, [(0, .ref 164), (1, .int x1), (2, .int x2), (3, .int x3)], [.int 1], hh) _
              refine st_ifc (b := true) rfl (by decide) ?_
              show Ev _ _ _ (9, _, _, _) _
              refine sp_iload_n (p2 := 10) rfl rfl rfl ?_
              refine sp_iconst (p2 := 11) (x := 0) rfl rfl (by decide) ?_
              refine sp_iconst (p2 := 12) (x := 3) rfl rfl (by decide) ?_
              refine st_callS rfl rfl rfl (cl_in_T (a := 0) (b := 3) rfl rfl (by omega)) ?_
              show Ev _ _ _ (15, [(0, .ref 164), (1, .int x1), (2, .int x2), (3, .int x3)], [.int 1], hh) _
              refine st_ifc (b := false) rfl (by decide) ?_
              show Ev _ _ _ (18, _, _, _) _
              refine sp_iload_n (p2 := 19) rfl rfl rfl ?_
              refine sp_iconst (p2 := 20) (x := 1) rfl rfl (by decide) ?_
              refine sp_bipush (p2 := 22) (x := 99) rfl rfl (by decide) ?_
              refine st_callS rfl rfl rfl (cl_in_F (a := 1) (b := 99) rfl rfl (by omega)) ?_
              show Ev _ _ _ (25, [(0, .ref 164), (1, .int x1), (2, .int x2), (3, .int x3)], [.int 0], hh) _
              refine st_ifc (b := false) rfl (by decide) ?_
              show Ev _ _ _ (28, _, _, _) _
              refine sp_bipush (p2 := 30) (x := (-2)) rfl rfl (by decide) ?_
              exact sp_iret rfl rfl
          · by_cases h6 : x3.toInt ≤ 99
            · obtain ⟨r, hr1, hr2, hr3⟩ := both_cos x1 x2 (by omega) (by omega) (by omega) (by omega)
              by_cases h7 : r.toInt ≤ -1
              · refine ⟨.int (-3), hh, hh, ?_, ?_⟩
                · refine ca_of (d := 19) (M := mX11_wall) rfl (Nat.le_of_ble_eq_true rfl) ?_
                  show Ev im_K0 19 mX11_wall (0, [(0, .ref 16), (1, .int x1), (2, .int x2), (3, .int x3)], [], hh) _
                  refine sp_iload_n (p2 := 1) rfl rfl rfl ?_
                  refine sp_bipush (p2 := 3) (x := 100) rfl rfl (by decide) ?_
                  refine st_callS rfl rfl rfl (cl_within_T (b := 100) rfl (by omega)) ?_
                  show Ev _ _ _ (6, [(0, .ref 16), (1, .int x1), (2, .int x2), (3, .int x3)], [.int 1], hh) _
                  refine st_ifc (b := true) rfl (by decide) ?_
                  show Ev _ _ _ (11, _, _, _) _
                  refine sp_iload_n (p2 := 12) rfl rfl rfl ?_
                  refine sp_iconst (p2 := 13) (x := 4) rfl rfl (by decide) ?_
                  refine st_callS rfl rfl rfl (cl_within_T (b := 4) rfl (by omega)) ?_
                  show Ev _ _ _ (16, [(0, .ref 16), (1, .int x1), (2, .int x2), (3, .int x3)], [.int 1], hh) _
                  refine st_ifc (b := false) rfl (by decide) ?_
                  show Ev _ _ _ (19, _, _, _) _
                  refine sp_iload_n (p2 := 20) rfl rfl rfl ?_
                  refine sp_iconst (p2 := 21) (x := 1) rfl rfl (by decide) ?_
                  refine sp_bipush (p2 := 23) (x := 99) rfl rfl (by decide) ?_
                  refine st_callS rfl rfl rfl (cl_between_T (a := 1) (b := 99) rfl rfl (by omega)) ?_
                  show Ev _ _ _ (26, [(0, .ref 16), (1, .int x1), (2, .int x2), (3, .int x3)], [.int 1], hh) _
                  refine st_ifc (b := true) rfl (by decide) ?_
                  show Ev _ _ _ (32, _, _, _) _
                  refine sp_iload_n (p2 := 33) rfl rfl rfl ?_
                  refine sp_iload_n (p2 := 34) rfl rfl rfl ?_
                  refine st_callS rfl rfl rfl (hr1 _) ?_
                  show Ev _ _ _ (37, [(0, .ref 16), (1, .int x1), (2, .int x2), (3, .int x3)], [.int r], hh) _
                  refine sp_istore (p2 := 39) (lv2 := [(4, .int r), (0, .ref 16), (1, .int x1), (2, .int x2), (3, .int x3)]) rfl rfl (by decide) rfl ?_
                  refine sp_iload (p2 := 41) rfl rfl rfl ?_
                  refine sp_iconst (p2 := 42) (x := (-1)) rfl rfl (by decide) ?_
                  refine st_icmp (b := false) rfl (cn_ne_F rfl (show Int32.toInt (-1) = (-1) from rfl) (by omega)) ?_
                  show Ev _ _ _ (45, _, _, _) _
                  refine sp_bipush (p2 := 47) (x := (-3)) rfl rfl (by decide) ?_
                  exact sp_iret rfl rfl
                · refine ca_of (d := 19) (M := mX12_wall) rfl (Nat.le_of_ble_eq_true rfl) ?_
                  show Ev im_K0 19 mX12_wall (0, [(0, .ref 164), (1, .int x1), (2, .int x2), (3, .int x3)], [], hh) _
                  refine sp_iload_n (p2 := 1) rfl rfl rfl ?_
                  refine st_callS rfl rfl rfl (cl_isCell_T (by omega)) ?_
                  show Ev _ _ _ (4, [(0, .ref 164), (1, .int x1), (2, .int x2), (3, .int x3)], [.int 1], hh) _
                  refine st_ifc (b := true) rfl (by decide) ?_
                  show Ev _ _ _ (9, _, _, _) _
                  refine sp_iload_n (p2 := 10) rfl rfl rfl ?_
                  refine sp_iconst (p2 := 11) (x := 0) rfl rfl (by decide) ?_
                  refine sp_iconst (p2 := 12) (x := 3) rfl rfl (by decide) ?_
                  refine st_callS rfl rfl rfl (cl_in_T (a := 0) (b := 3) rfl rfl (by omega)) ?_
                  show Ev _ _ _ (15, [(0, .ref 164), (1, .int x1), (2, .int x2), (3, .int x3)], [.int 1], hh) _
                  refine st_ifc (b := false) rfl (by decide) ?_
                  show Ev _ _ _ (18, _, _, _) _
                  refine sp_iload_n (p2 := 19) rfl rfl rfl ?_
                  refine sp_iconst (p2 := 20) (x := 1) rfl rfl (by decide) ?_
                  refine sp_bipush (p2 := 22) (x := 99) rfl rfl (by decide) ?_
                  refine st_callS rfl rfl rfl (cl_in_T (a := 1) (b := 99) rfl rfl (by omega)) ?_
                  show Ev _ _ _ (25, [(0, .ref 164), (1, .int x1), (2, .int x2), (3, .int x3)], [.int 1], hh) _
                  refine st_ifc (b := true) rfl (by decide) ?_
                  show Ev _ _ _ (31, _, _, _) _
                  refine sp_iload_n (p2 := 32) rfl rfl rfl ?_
                  refine sp_iload_n (p2 := 33) rfl rfl rfl ?_
                  refine st_callS rfl rfl rfl (hr2 _) ?_
                  show Ev _ _ _ (36, [(0, .ref 164), (1, .int x1), (2, .int x2), (3, .int x3)], [.int r], hh) _
                  refine sp_iconst (p2 := 37) (x := (-1)) rfl rfl (by decide) ?_
                  refine st_icmp (b := false) rfl (cn_ne_F rfl (show Int32.toInt (-1) = (-1) from rfl) (by omega)) ?_
                  show Ev _ _ _ (40, _, _, _) _
                  refine sp_bipush (p2 := 42) (x := (-3)) rfl rfl (by decide) ?_
                  exact sp_iret rfl rfl
              · refine ⟨.int 0, (((((hh.set 9 (.inl (0, .inl (((List.replicate 16 0 : List Int32)).set 0 x1)))).set 10 (.inl (0, .inl (((List.replicate 16 0 : List Int32)).set 0 r)))).set 31 (.inl (0, .inl (((List.replicate 16 0 : List Int32)).set 0 x3)))).set 32 (.inl (1, .inl (((List.replicate 16 0 : List Int32)).set 0 1)))).set 1 (.inr (0, [.ref 18, .int (-1), .int 0, .ref 19, .ref 20, .ref 21, .ref 22, .ref 23, .ref 24, .int 1, .ref 25, .ref 26, .null, .ref 27]))), ((((((((((hh.set 9 (.inl (0, .inl (((List.replicate 16 0 : List Int32)).set 0 x1)))).set 10 (.inl (0, .inl (((List.replicate 16 0 : List Int32)).set 0 r)))).set 31 (.inl (0, .inl (((List.replicate 16 0 : List Int32)).set 0 x3)))).set 32 (.inl (1, .inl (((List.replicate 16 0 : List Int32)).set 0 1)))).set 1 (.inr (0, [.ref 18, .int (-1), .int 0, .ref 19, .ref 20, .ref 21, .ref 22, .ref 23, .ref 24, .int 1, .ref 25, .ref 26, .null, .ref 27]))).set 167 (.inl (0, .inl (((List.replicate 16 0 : List Int32)).set 0 x1)))).set 168 (.inl (0, .inl (((List.replicate 16 0 : List Int32)).set 0 r)))).set 149 (.inl (0, .inl ((((List.replicate 140 0 ++ (List.replicate 24 (-1) ++ (List.replicate 119 0))) : List Int32)).set 108 1)))).set 149 (.inl (0, .inl (((((List.replicate 140 0 ++ (List.replicate 24 (-1) ++ (List.replicate 119 0))) : List Int32)).set 108 1).set 124 x3)))).set 148 (.inr (12, [.ref 165, .ref 166, .ref 167, .int 0, .ref 168, .ref 169, .ref 170, .ref 171, .ref 172, .int (-1), .int 0, .ref 173, .ref 174, .ref 175, .ref 176, .ref 177, .ref 178, .ref 179, .ref 180, .ref 181, .ref 182, .int 1, .ref 183, .ref 184, .int 0, .ref 185, .ref 186, .ref 187, .ref 188, .int 0, .ref 189, .ref 190, .ref 191, .ref 192, .ref 193, .int 0, .ref 194, .ref 195, .ref 196, .ref 197, .ref 198, .int 0, .ref 199, .int 0, .ref 200, .int 0, .int 0, .int (-1), .ref 201, .ref 202, .ref 203, .ref 204, .ref 205, .ref 206, .ref 207, .ref 208, .ref 209, .ref 210, .ref 211, .ref 212, .int 0, .int 0, .int 0, .ref 213, .ref 214, .ref 215]))), ?_, ?_⟩
                · refine ca_of (d := 19) (M := mX11_wall) rfl (Nat.le_of_ble_eq_true rfl) ?_
                  show Ev im_K0 19 mX11_wall (0, [(0, .ref 16), (1, .int x1), (2, .int x2), (3, .int x3)], [], hh) _
                  refine sp_iload_n (p2 := 1) rfl rfl rfl ?_
                  refine sp_bipush (p2 := 3) (x := 100) rfl rfl (by decide) ?_
                  refine st_callS rfl rfl rfl (cl_within_T (b := 100) rfl (by omega)) ?_
                  show Ev _ _ _ (6, [(0, .ref 16), (1, .int x1), (2, .int x2), (3, .int x3)], [.int 1], hh) _
                  refine st_ifc (b := true) rfl (by decide) ?_
                  show Ev _ _ _ (11, _, _, _) _
                  refine sp_iload_n (p2 := 12) rfl rfl rfl ?_
                  refine sp_iconst (p2 := 13) (x := 4) rfl rfl (by decide) ?_
                  refine st_callS rfl rfl rfl (cl_within_T (b := 4) rfl (by omega)) ?_
                  show Ev _ _ _ (16, [(0, .ref 16), (1, .int x1), (2, .int x2), (3, .int x3)], [.int 1], hh) _
                  refine st_ifc (b := false) rfl (by decide) ?_
                  show Ev _ _ _ (19, _, _, _) _
                  refine sp_iload_n (p2 := 20) rfl rfl rfl ?_
                  refine sp_iconst (p2 := 21) (x := 1) rfl rfl (by decide) ?_
                  refine sp_bipush (p2 := 23) (x := 99) rfl rfl (by decide) ?_
                  refine st_callS rfl rfl rfl (cl_between_T (a := 1) (b := 99) rfl rfl (by omega)) ?_
                  show Ev _ _ _ (26, [(0, .ref 16), (1, .int x1), (2, .int x2), (3, .int x3)], [.int 1], hh) _
                  refine st_ifc (b := true) rfl (by decide) ?_
                  show Ev _ _ _ (32, _, _, _) _
                  refine sp_iload_n (p2 := 33) rfl rfl rfl ?_
                  refine sp_iload_n (p2 := 34) rfl rfl rfl ?_
                  refine st_callS rfl rfl rfl (hr1 _) ?_
                  show Ev _ _ _ (37, [(0, .ref 16), (1, .int x1), (2, .int x2), (3, .int x3)], [.int r], hh) _
                  refine sp_istore (p2 := 39) (lv2 := [(4, .int r), (0, .ref 16), (1, .int x1), (2, .int x2), (3, .int x3)]) rfl rfl (by decide) rfl ?_
                  refine sp_iload (p2 := 41) rfl rfl rfl ?_
                  refine sp_iconst (p2 := 42) (x := (-1)) rfl rfl (by decide) ?_
                  refine st_icmp (b := true) rfl (cn_ne_T rfl (show Int32.toInt (-1) = (-1) from rfl) (by omega)) ?_
                  show Ev _ _ _ (48, _, _, _) _
                  refine sp_aload_n (p2 := 49) rfl rfl rfl ?_
                  refine st_get rfl hh_0 rfl ?_
                  show Ev _ _ _ (52, _, _, _) _
                  refine st_get rfl hh_1 rfl ?_
                  show Ev _ _ _ (55, _, _, _) _
                  refine sp_bipush (p2 := 57) (x := 16) rfl rfl (by decide) ?_
                  refine st_icmp (b := true) rfl (by decide) ?_
                  show Ev _ _ _ (63, _, _, _) _
                  refine sp_aload_n (p2 := 64) rfl rfl rfl ?_
                  refine st_get rfl hh_0 rfl ?_
                  show Ev _ _ _ (67, _, _, _) _
                  refine st_get rfl hh_1 rfl ?_
                  show Ev _ _ _ (70, _, _, _) _
                  refine sp_istore (p2 := 72) (lv2 := [(5, .int 0), (4, .int r), (0, .ref 16), (1, .int x1), (2, .int x2), (3, .int x3)]) rfl rfl (by decide) rfl ?_
                  refine sp_aload_n (p2 := 73) rfl rfl rfl ?_
                  refine st_get rfl hh_0 rfl ?_
                  show Ev _ _ _ (76, _, _, _) _
                  refine st_get rfl hh_1 rfl ?_
                  show Ev _ _ _ (79, _, _, _) _
                  refine sp_iload (p2 := 81) rfl rfl rfl ?_
                  refine sp_iload_n (p2 := 82) rfl rfl rfl ?_
                  refine st_iast (i := 9) rfl rfl hh_9 rfl ?_
                  show Ev _ _ _ (83, [(5, .int 0), (4, .int r), (0, .ref 16), (1, .int x1), (2, .int x2), (3, .int x3)], [], (hh.set 9 (.inl (0, .inl (((List.replicate 16 0 : List Int32)).set 0 x1))))) _
                  refine sp_aload_n (p2 := 84) rfl rfl rfl ?_
                  refine st_get rfl (ob_ne (by decide) hh_0) rfl ?_
                  show Ev _ _ _ (87, _, _, _) _
                  refine st_get rfl (ob_ne (by decide) hh_1) rfl ?_
                  show Ev _ _ _ (90, _, _, _) _
                  refine sp_iload (p2 := 92) rfl rfl rfl ?_
                  refine sp_iload (p2 := 94) rfl rfl rfl ?_
                  refine st_iast (i := 10) rfl rfl (ia_ne (by decide) hh_10) rfl ?_
                  show Ev _ _ _ (95, [(5, .int 0), (4, .int r), (0, .ref 16), (1, .int x1), (2, .int x2), (3, .int x3)], [], ((hh.set 9 (.inl (0, .inl (((List.replicate 16 0 : List Int32)).set 0 x1)))).set 10 (.inl (0, .inl (((List.replicate 16 0 : List Int32)).set 0 r))))) _
                  refine sp_aload_n (p2 := 96) rfl rfl rfl ?_
                  refine st_get rfl (ob_ne (by decide) (ob_ne (by decide) hh_0)) rfl ?_
                  show Ev _ _ _ (99, _, _, _) _
                  refine st_get rfl (ob_ne (by decide) (ob_ne (by decide) hh_23)) rfl ?_
                  show Ev _ _ _ (102, _, _, _) _
                  refine sp_iload (p2 := 104) rfl rfl rfl ?_
                  refine sp_iload_n (p2 := 105) rfl rfl rfl ?_
                  refine st_iast (i := 31) rfl rfl (ia_ne (by decide) (ia_ne (by decide) hh_31)) rfl ?_
                  show Ev _ _ _ (106, [(5, .int 0), (4, .int r), (0, .ref 16), (1, .int x1), (2, .int x2), (3, .int x3)], [], (((hh.set 9 (.inl (0, .inl (((List.replicate 16 0 : List Int32)).set 0 x1)))).set 10 (.inl (0, .inl (((List.replicate 16 0 : List Int32)).set 0 r)))).set 31 (.inl (0, .inl (((List.replicate 16 0 : List Int32)).set 0 x3))))) _
                  refine sp_aload_n (p2 := 107) rfl rfl rfl ?_
                  refine st_get rfl (ob_ne (by decide) (ob_ne (by decide) (ob_ne (by decide) hh_0))) rfl ?_
                  show Ev _ _ _ (110, _, _, _) _
                  refine st_get rfl (ob_ne (by decide) (ob_ne (by decide) (ob_ne (by decide) hh_23))) rfl ?_
                  show Ev _ _ _ (113, _, _, _) _
                  refine sp_iload (p2 := 115) rfl rfl rfl ?_
                  refine sp_iconst (p2 := 116) (x := 1) rfl rfl (by decide) ?_
                  refine st_bast (i := 32) rfl rfl (ia_ne (by decide) (ia_ne (by decide) (ia_ne (by decide) hh_32))) rfl (by decide) ?_
                  show Ev _ _ _ (117, [(5, .int 0), (4, .int r), (0, .ref 16), (1, .int x1), (2, .int x2), (3, .int x3)], [], ((((hh.set 9 (.inl (0, .inl (((List.replicate 16 0 : List Int32)).set 0 x1)))).set 10 (.inl (0, .inl (((List.replicate 16 0 : List Int32)).set 0 r)))).set 31 (.inl (0, .inl (((List.replicate 16 0 : List Int32)).set 0 x3)))).set 32 (.inl (1, .inl (((List.replicate 16 0 : List Int32)).set 0 1))))) _
                  refine sp_aload_n (p2 := 118) rfl rfl rfl ?_
                  refine st_get rfl (ob_ne (by decide) (ob_ne (by decide) (ob_ne (by decide) (ob_ne (by decide) hh_0)))) rfl ?_
                  show Ev _ _ _ (121, _, _, _) _
                  refine sp_dup (p2 := 122) rfl rfl rfl ?_
                  refine st_get rfl (ob_ne (by decide) (ob_ne (by decide) (ob_ne (by decide) (ob_ne (by decide) hh_1)))) rfl ?_
                  show Ev _ _ _ (125, _, _, _) _
                  refine sp_iconst (p2 := 126) (x := 1) rfl rfl (by decide) ?_
                  refine sp_iadd (p2 := 127) (z := 1) rfl rfl (by decide) ?_
                  refine st_put (i := 1) rfl rfl (ob_ne (by decide) (ob_ne (by decide) (ob_ne (by decide) (ob_ne (by decide) hh_1)))) rfl rfl (Nat.le_of_ble_eq_true rfl) ?_
                  show Ev _ _ _ (130, [(5, .int 0), (4, .int r), (0, .ref 16), (1, .int x1), (2, .int x2), (3, .int x3)], [], (((((hh.set 9 (.inl (0, .inl (((List.replicate 16 0 : List Int32)).set 0 x1)))).set 10 (.inl (0, .inl (((List.replicate 16 0 : List Int32)).set 0 r)))).set 31 (.inl (0, .inl (((List.replicate 16 0 : List Int32)).set 0 x3)))).set 32 (.inl (1, .inl (((List.replicate 16 0 : List Int32)).set 0 1)))).set 1 (.inr (0, [.ref 18, .int (-1), .int 0, .ref 19, .ref 20, .ref 21, .ref 22, .ref 23, .ref 24, .int 1, .ref 25, .ref 26, .null, .ref 27])))) _
                  refine sp_iload (p2 := 132) rfl rfl rfl ?_
                  exact sp_iret rfl rfl
                · refine ca_of (d := 19) (M := mX12_wall) rfl (Nat.le_of_ble_eq_true rfl) ?_
                  show Ev im_K0 19 mX12_wall (0, [(0, .ref 164), (1, .int x1), (2, .int x2), (3, .int x3)], [], (((((hh.set 9 (.inl (0, .inl (((List.replicate 16 0 : List Int32)).set 0 x1)))).set 10 (.inl (0, .inl (((List.replicate 16 0 : List Int32)).set 0 r)))).set 31 (.inl (0, .inl (((List.replicate 16 0 : List Int32)).set 0 x3)))).set 32 (.inl (1, .inl (((List.replicate 16 0 : List Int32)).set 0 1)))).set 1 (.inr (0, [.ref 18, .int (-1), .int 0, .ref 19, .ref 20, .ref 21, .ref 22, .ref 23, .ref 24, .int 1, .ref 25, .ref 26, .null, .ref 27])))) _
                  refine sp_iload_n (p2 := 1) rfl rfl rfl ?_
                  refine st_callS rfl rfl rfl (cl_isCell_T (by omega)) ?_
                  show Ev _ _ _ (4, [(0, .ref 164), (1, .int x1), (2, .int x2), (3, .int x3)], [.int 1], (((((hh.set 9 (.inl (0, .inl (((List.replicate 16 0 : List Int32)).set 0 x1)))).set 10 (.inl (0, .inl (((List.replicate 16 0 : List Int32)).set 0 r)))).set 31 (.inl (0, .inl (((List.replicate 16 0 : List Int32)).set 0 x3)))).set 32 (.inl (1, .inl (((List.replicate 16 0 : List Int32)).set 0 1)))).set 1 (.inr (0, [.ref 18, .int (-1), .int 0, .ref 19, .ref 20, .ref 21, .ref 22, .ref 23, .ref 24, .int 1, .ref 25, .ref 26, .null, .ref 27])))) _
                  refine st_ifc (b := true) rfl (by decide) ?_
                  show Ev _ _ _ (9, _, _, _) _
                  refine sp_iload_n (p2 := 10) rfl rfl rfl ?_
                  refine sp_iconst (p2 := 11) (x := 0) rfl rfl (by decide) ?_
                  refine sp_iconst (p2 := 12) (x := 3) rfl rfl (by decide) ?_
                  refine st_callS rfl rfl rfl (cl_in_T (a := 0) (b := 3) rfl rfl (by omega)) ?_
                  show Ev _ _ _ (15, [(0, .ref 164), (1, .int x1), (2, .int x2), (3, .int x3)], [.int 1], (((((hh.set 9 (.inl (0, .inl (((List.replicate 16 0 : List Int32)).set 0 x1)))).set 10 (.inl (0, .inl (((List.replicate 16 0 : List Int32)).set 0 r)))).set 31 (.inl (0, .inl (((List.replicate 16 0 : List Int32)).set 0 x3)))).set 32 (.inl (1, .inl (((List.replicate 16 0 : List Int32)).set 0 1)))).set 1 (.inr (0, [.ref 18, .int (-1), .int 0, .ref 19, .ref 20, .ref 21, .ref 22, .ref 23, .ref 24, .int 1, .ref 25, .ref 26, .null, .ref 27])))) _
                  refine st_ifc (b := false) rfl (by decide) ?_
                  show Ev _ _ _ (18, _, _, _) _
                  refine sp_iload_n (p2 := 19) rfl rfl rfl ?_
                  refine sp_iconst (p2 := 20) (x := 1) rfl rfl (by decide) ?_
                  refine sp_bipush (p2 := 22) (x := 99) rfl rfl (by decide) ?_
                  refine st_callS rfl rfl rfl (cl_in_T (a := 1) (b := 99) rfl rfl (by omega)) ?_
                  show Ev _ _ _ (25, [(0, .ref 164), (1, .int x1), (2, .int x2), (3, .int x3)], [.int 1], (((((hh.set 9 (.inl (0, .inl (((List.replicate 16 0 : List Int32)).set 0 x1)))).set 10 (.inl (0, .inl (((List.replicate 16 0 : List Int32)).set 0 r)))).set 31 (.inl (0, .inl (((List.replicate 16 0 : List Int32)).set 0 x3)))).set 32 (.inl (1, .inl (((List.replicate 16 0 : List Int32)).set 0 1)))).set 1 (.inr (0, [.ref 18, .int (-1), .int 0, .ref 19, .ref 20, .ref 21, .ref 22, .ref 23, .ref 24, .int 1, .ref 25, .ref 26, .null, .ref 27])))) _
                  refine st_ifc (b := true) rfl (by decide) ?_
                  show Ev _ _ _ (31, _, _, _) _
                  refine sp_iload_n (p2 := 32) rfl rfl rfl ?_
                  refine sp_iload_n (p2 := 33) rfl rfl rfl ?_
                  refine st_callS rfl rfl rfl (hr2 _) ?_
                  show Ev _ _ _ (36, [(0, .ref 164), (1, .int x1), (2, .int x2), (3, .int x3)], [.int r], (((((hh.set 9 (.inl (0, .inl (((List.replicate 16 0 : List Int32)).set 0 x1)))).set 10 (.inl (0, .inl (((List.replicate 16 0 : List Int32)).set 0 r)))).set 31 (.inl (0, .inl (((List.replicate 16 0 : List Int32)).set 0 x3)))).set 32 (.inl (1, .inl (((List.replicate 16 0 : List Int32)).set 0 1)))).set 1 (.inr (0, [.ref 18, .int (-1), .int 0, .ref 19, .ref 20, .ref 21, .ref 22, .ref 23, .ref 24, .int 1, .ref 25, .ref 26, .null, .ref 27])))) _
                  refine sp_iconst (p2 := 37) (x := (-1)) rfl rfl (by decide) ?_
                  refine st_icmp (b := true) rfl (cn_ne_T rfl (show Int32.toInt (-1) = (-1) from rfl) (by omega)) ?_
                  show Ev _ _ _ (43, _, _, _) _
                  refine sp_aload_n (p2 := 44) rfl rfl rfl ?_
                  refine st_get rfl (ob_ne (by decide) (ob_ne (by decide) (ob_ne (by decide) (ob_ne (by decide) (ob_ne (by decide) hh_148))))) rfl ?_
                  show Ev _ _ _ (47, _, _, _) _
                  refine sp_bipush (p2 := 49) (x := 16) rfl rfl (by decide) ?_
                  refine st_icmp (b := true) rfl (by decide) ?_
                  show Ev _ _ _ (55, _, _, _) _
                  refine sp_aload_n (p2 := 56) rfl rfl rfl ?_
                  refine st_get rfl (ob_ne (by decide) (ob_ne (by decide) (ob_ne (by decide) (ob_ne (by decide) (ob_ne (by decide) hh_148))))) rfl ?_
                  show Ev _ _ _ (59, _, _, _) _
                  refine sp_aload_n (p2 := 60) rfl rfl rfl ?_
                  refine st_get rfl (ob_ne (by decide) (ob_ne (by decide) (ob_ne (by decide) (ob_ne (by decide) (ob_ne (by decide) hh_148))))) rfl ?_
                  show Ev _ _ _ (63, _, _, _) _
                  refine sp_iload_n (p2 := 64) rfl rfl rfl ?_
                  refine st_iast (i := 167) rfl rfl (ia_ne (by decide) (ia_ne (by decide) (ia_ne (by decide) (ia_ne (by decide) (ia_ne (by decide) hh_167))))) rfl ?_
                  show Ev _ _ _ (65, [(0, .ref 164), (1, .int x1), (2, .int x2), (3, .int x3)], [], ((((((hh.set 9 (.inl (0, .inl (((List.replicate 16 0 : List Int32)).set 0 x1)))).set 10 (.inl (0, .inl (((List.replicate 16 0 : List Int32)).set 0 r)))).set 31 (.inl (0, .inl (((List.replicate 16 0 : List Int32)).set 0 x3)))).set 32 (.inl (1, .inl (((List.replicate 16 0 : List Int32)).set 0 1)))).set 1 (.inr (0, [.ref 18, .int (-1), .int 0, .ref 19, .ref 20, .ref 21, .ref 22, .ref 23, .ref 24, .int 1, .ref 25, .ref 26, .null, .ref 27]))).set 167 (.inl (0, .inl (((List.replicate 16 0 : List Int32)).set 0 x1))))) _
                  refine sp_aload_n (p2 := 66) rfl rfl rfl ?_
                  refine st_get rfl (ob_ne (by decide) (ob_ne (by decide) (ob_ne (by decide) (ob_ne (by decide) (ob_ne (by decide) (ob_ne (by decide) hh_148)))))) rfl ?_
                  show Ev _ _ _ (69, _, _, _) _
                  refine sp_aload_n (p2 := 70) rfl rfl rfl ?_
                  refine st_get rfl (ob_ne (by decide) (ob_ne (by decide) (ob_ne (by decide) (ob_ne (by decide) (ob_ne (by decide) (ob_ne (by decide) hh_148)))))) rfl ?_
                  show Ev _ _ _ (73, _, _, _) _
                  refine sp_iload_n (p2 := 74) rfl rfl rfl ?_
                  refine sp_iload_n (p2 := 75) rfl rfl rfl ?_
                  refine st_callS rfl rfl rfl (hr2 _) ?_
                  show Ev _ _ _ (78, [(0, .ref 164), (1, .int x1), (2, .int x2), (3, .int x3)], [.int r, .int 0, .ref 184], ((((((hh.set 9 (.inl (0, .inl (((List.replicate 16 0 : List Int32)).set 0 x1)))).set 10 (.inl (0, .inl (((List.replicate 16 0 : List Int32)).set 0 r)))).set 31 (.inl (0, .inl (((List.replicate 16 0 : List Int32)).set 0 x3)))).set 32 (.inl (1, .inl (((List.replicate 16 0 : List Int32)).set 0 1)))).set 1 (.inr (0, [.ref 18, .int (-1), .int 0, .ref 19, .ref 20, .ref 21, .ref 22, .ref 23, .ref 24, .int 1, .ref 25, .ref 26, .null, .ref 27]))).set 167 (.inl (0, .inl (((List.replicate 16 0 : List Int32)).set 0 x1))))) _
                  refine st_iast (i := 168) rfl rfl (ia_ne (by decide) (ia_ne (by decide) (ia_ne (by decide) (ia_ne (by decide) (ia_ne (by decide) (ia_ne (by decide) hh_168)))))) rfl ?_
                  show Ev _ _ _ (79, [(0, .ref 164), (1, .int x1), (2, .int x2), (3, .int x3)], [], (((((((hh.set 9 (.inl (0, .inl (((List.replicate 16 0 : List Int32)).set 0 x1)))).set 10 (.inl (0, .inl (((List.replicate 16 0 : List Int32)).set 0 r)))).set 31 (.inl (0, .inl (((List.replicate 16 0 : List Int32)).set 0 x3)))).set 32 (.inl (1, .inl (((List.replicate 16 0 : List Int32)).set 0 1)))).set 1 (.inr (0, [.ref 18, .int (-1), .int 0, .ref 19, .ref 20, .ref 21, .ref 22, .ref 23, .ref 24, .int 1, .ref 25, .ref 26, .null, .ref 27]))).set 167 (.inl (0, .inl (((List.replicate 16 0 : List Int32)).set 0 x1)))).set 168 (.inl (0, .inl (((List.replicate 16 0 : List Int32)).set 0 r))))) _
                  refine sp_aload_n (p2 := 80) rfl rfl rfl ?_
                  refine st_get rfl (ob_ne (by decide) (ob_ne (by decide) (ob_ne (by decide) (ob_ne (by decide) (ob_ne (by decide) (ob_ne (by decide) (ob_ne (by decide) hh_148))))))) rfl ?_
                  show Ev _ _ _ (83, _, _, _) _
                  refine sp_bipush (p2 := 85) (x := 108) rfl rfl (by decide) ?_
                  refine sp_aload_n (p2 := 86) rfl rfl rfl ?_
                  refine st_get rfl (ob_ne (by decide) (ob_ne (by decide) (ob_ne (by decide) (ob_ne (by decide) (ob_ne (by decide) (ob_ne (by decide) (ob_ne (by decide) hh_148))))))) rfl ?_
                  show Ev _ _ _ (89, _, _, _) _
                  refine sp_iadd (p2 := 90) (z := 108) rfl rfl (by decide) ?_
                  refine sp_iconst (p2 := 91) (x := 1) rfl rfl (by decide) ?_
                  refine st_iast (i := 149) rfl rfl (ia_ne (by decide) (ia_ne (by decide) (ia_ne (by decide) (ia_ne (by decide) (ia_ne (by decide) (ia_ne (by decide) (ia_ne (by decide) hh_149))))))) rfl ?_
                  show Ev _ _ _ (92, [(0, .ref 164), (1, .int x1), (2, .int x2), (3, .int x3)], [], ((((((((hh.set 9 (.inl (0, .inl (((List.replicate 16 0 : List Int32)).set 0 x1)))).set 10 (.inl (0, .inl (((List.replicate 16 0 : List Int32)).set 0 r)))).set 31 (.inl (0, .inl (((List.replicate 16 0 : List Int32)).set 0 x3)))).set 32 (.inl (1, .inl (((List.replicate 16 0 : List Int32)).set 0 1)))).set 1 (.inr (0, [.ref 18, .int (-1), .int 0, .ref 19, .ref 20, .ref 21, .ref 22, .ref 23, .ref 24, .int 1, .ref 25, .ref 26, .null, .ref 27]))).set 167 (.inl (0, .inl (((List.replicate 16 0 : List Int32)).set 0 x1)))).set 168 (.inl (0, .inl (((List.replicate 16 0 : List Int32)).set 0 r)))).set 149 (.inl (0, .inl ((((List.replicate 140 0 ++ (List.replicate 24 (-1) ++ (List.replicate 119 0))) : List Int32)).set 108 1))))) _
                  refine sp_aload_n (p2 := 93) rfl rfl rfl ?_
                  refine st_get rfl (ob_ne (by decide) (ob_ne (by decide) (ob_ne (by decide) (ob_ne (by decide) (ob_ne (by decide) (ob_ne (by decide) (ob_ne (by decide) (ob_ne (by decide) hh_148)))))))) rfl ?_
                  show Ev _ _ _ (96, _, _, _) _
                  refine sp_bipush (p2 := 98) (x := 124) rfl rfl (by decide) ?_
                  refine sp_aload_n (p2 := 99) rfl rfl rfl ?_
                  refine st_get rfl (ob_ne (by decide) (ob_ne (by decide) (ob_ne (by decide) (ob_ne (by decide) (ob_ne (by decide) (ob_ne (by decide) (ob_ne (by decide) (ob_ne (by decide) hh_148)))))))) rfl ?_
                  show Ev _ _ _ (102, _, _, _) _
                  refine sp_iadd (p2 := 103) (z := 124) rfl rfl (by decide) ?_
                  refine sp_iload_n (p2 := 104) rfl rfl rfl ?_
                  refine st_iast (i := 149) rfl rfl (ia_eq2 (sl_len (sl_len (sl_len (sl_len (sl_len (sl_len (sl_len hh_len))))))) (by decide)) rfl ?_
                  show Ev _ _ _ (105, [(0, .ref 164), (1, .int x1), (2, .int x2), (3, .int x3)], [], (((((((((hh.set 9 (.inl (0, .inl (((List.replicate 16 0 : List Int32)).set 0 x1)))).set 10 (.inl (0, .inl (((List.replicate 16 0 : List Int32)).set 0 r)))).set 31 (.inl (0, .inl (((List.replicate 16 0 : List Int32)).set 0 x3)))).set 32 (.inl (1, .inl (((List.replicate 16 0 : List Int32)).set 0 1)))).set 1 (.inr (0, [.ref 18, .int (-1), .int 0, .ref 19, .ref 20, .ref 21, .ref 22, .ref 23, .ref 24, .int 1, .ref 25, .ref 26, .null, .ref 27]))).set 167 (.inl (0, .inl (((List.replicate 16 0 : List Int32)).set 0 x1)))).set 168 (.inl (0, .inl (((List.replicate 16 0 : List Int32)).set 0 r)))).set 149 (.inl (0, .inl ((((List.replicate 140 0 ++ (List.replicate 24 (-1) ++ (List.replicate 119 0))) : List Int32)).set 108 1)))).set 149 (.inl (0, .inl (((((List.replicate 140 0 ++ (List.replicate 24 (-1) ++ (List.replicate 119 0))) : List Int32)).set 108 1).set 124 x3))))) _
                  refine sp_aload_n (p2 := 106) rfl rfl rfl ?_
                  refine sp_dup (p2 := 107) rfl rfl rfl ?_
                  refine st_get rfl (ob_ne (by decide) (ob_ne (by decide) (ob_ne (by decide) (ob_ne (by decide) (ob_ne (by decide) (ob_ne (by decide) (ob_ne (by decide) (ob_ne (by decide) (ob_ne (by decide) hh_148))))))))) rfl ?_
                  show Ev _ _ _ (110, _, _, _) _
                  refine sp_iconst (p2 := 111) (x := 1) rfl rfl (by decide) ?_
                  refine sp_iadd (p2 := 112) (z := 1) rfl rfl (by decide) ?_
                  refine st_put (i := 148) rfl rfl (ob_ne (by decide) (ob_ne (by decide) (ob_ne (by decide) (ob_ne (by decide) (ob_ne (by decide) (ob_ne (by decide) (ob_ne (by decide) (ob_ne (by decide) (ob_ne (by decide) hh_148))))))))) rfl rfl (Nat.le_of_ble_eq_true rfl) ?_
                  show Ev _ _ _ (115, [(0, .ref 164), (1, .int x1), (2, .int x2), (3, .int x3)], [], ((((((((((hh.set 9 (.inl (0, .inl (((List.replicate 16 0 : List Int32)).set 0 x1)))).set 10 (.inl (0, .inl (((List.replicate 16 0 : List Int32)).set 0 r)))).set 31 (.inl (0, .inl (((List.replicate 16 0 : List Int32)).set 0 x3)))).set 32 (.inl (1, .inl (((List.replicate 16 0 : List Int32)).set 0 1)))).set 1 (.inr (0, [.ref 18, .int (-1), .int 0, .ref 19, .ref 20, .ref 21, .ref 22, .ref 23, .ref 24, .int 1, .ref 25, .ref 26, .null, .ref 27]))).set 167 (.inl (0, .inl (((List.replicate 16 0 : List Int32)).set 0 x1)))).set 168 (.inl (0, .inl (((List.replicate 16 0 : List Int32)).set 0 r)))).set 149 (.inl (0, .inl ((((List.replicate 140 0 ++ (List.replicate 24 (-1) ++ (List.replicate 119 0))) : List Int32)).set 108 1)))).set 149 (.inl (0, .inl (((((List.replicate 140 0 ++ (List.replicate 24 (-1) ++ (List.replicate 119 0))) : List Int32)).set 108 1).set 124 x3)))).set 148 (.inr (12, [.ref 165, .ref 166, .ref 167, .int 0, .ref 168, .ref 169, .ref 170, .ref 171, .ref 172, .int (-1), .int 0, .ref 173, .ref 174, .ref 175, .ref 176, .ref 177, .ref 178, .ref 179, .ref 180, .ref 181, .ref 182, .int 1, .ref 183, .ref 184, .int 0, .ref 185, .ref 186, .ref 187, .ref 188, .int 0, .ref 189, .ref 190, .ref 191, .ref 192, .ref 193, .int 0, .ref 194, .ref 195, .ref 196, .ref 197, .ref 198, .int 0, .ref 199, .int 0, .ref 200, .int 0, .int 0, .int (-1), .ref 201, .ref 202, .ref 203, .ref 204, .ref 205, .ref 206, .ref 207, .ref 208, .ref 209, .ref 210, .ref 211, .ref 212, .int 0, .int 0, .int 0, .ref 213, .ref 214, .ref 215])))) _
                  refine sp_aload_n (p2 := 116) rfl rfl rfl ?_
                  refine st_get rfl (ob_eq2 (sl_len (sl_len (sl_len (sl_len (sl_len (sl_len (sl_len (sl_len (sl_len hh_len))))))))) (by decide)) rfl ?_
                  show Ev _ _ _ (119, _, _, _) _
                  refine sp_iconst (p2 := 120) (x := 1) rfl rfl (by decide) ?_
                  refine sp_isub (p2 := 121) (z := 0) rfl rfl (by decide) ?_
                  exact sp_iret rfl rfl
            · refine ⟨.int (-2), hh, hh, ?_, ?_⟩
              · refine ca_of (d := 19) (M := mX11_wall) rfl (Nat.le_of_ble_eq_true rfl) ?_
                show Ev im_K0 19 mX11_wall (0, [(0, .ref 16), (1, .int x1), (2, .int x2), (3, .int x3)], [], hh) _
                refine sp_iload_n (p2 := 1) rfl rfl rfl ?_
                refine sp_bipush (p2 := 3) (x := 100) rfl rfl (by decide) ?_
                refine st_callS rfl rfl rfl (cl_within_T (b := 100) rfl (by omega)) ?_
                show Ev _ _ _ (6, [(0, .ref 16), (1, .int x1), (2, .int x2), (3, .int x3)], [.int 1], hh) _
                refine st_ifc (b := true) rfl (by decide) ?_
                show Ev _ _ _ (11, _, _, _) _
                refine sp_iload_n (p2 := 12) rfl rfl rfl ?_
                refine sp_iconst (p2 := 13) (x := 4) rfl rfl (by decide) ?_
                refine st_callS rfl rfl rfl (cl_within_T (b := 4) rfl (by omega)) ?_
                show Ev _ _ _ (16, [(0, .ref 16), (1, .int x1), (2, .int x2), (3, .int x3)], [.int 1], hh) _
                refine st_ifc (b := false) rfl (by decide) ?_
                show Ev _ _ _ (19, _, _, _) _
                refine sp_iload_n (p2 := 20) rfl rfl rfl ?_
                refine sp_iconst (p2 := 21) (x := 1) rfl rfl (by decide) ?_
                refine sp_bipush (p2 := 23) (x := 99) rfl rfl (by decide) ?_
                refine st_callS rfl rfl rfl (cl_between_F (a := 1) (b := 99) rfl rfl (by omega)) ?_
                show Ev _ _ _ (26, [(0, .ref 16), (1, .int x1), (2, .int x2), (3, .int x3)], [.int 0], hh) _
                refine st_ifc (b := false) rfl (by decide) ?_
                show Ev _ _ _ (29, _, _, _) _
                refine sp_bipush (p2 := 31) (x := (-2)) rfl rfl (by decide) ?_
                exact sp_iret rfl rfl
              · refine ca_of (d := 19) (M := mX12_wall) rfl (Nat.le_of_ble_eq_true rfl) ?_
                show Ev im_K0 19 mX12_wall (0, [(0, .ref 164), (1, .int x1), (2, .int x2), (3, .int x3)], [], hh) _
                refine sp_iload_n (p2 := 1) rfl rfl rfl ?_
                refine st_callS rfl rfl rfl (cl_isCell_T (by omega)) ?_
                show Ev _ _ _ (4, [(0, .ref 164), (1, .int x1), (2, .int x2), (3, .int x3)], [.int 1], hh) _
                refine st_ifc (b := true) rfl (by decide) ?_
                show Ev _ _ _ (9, _, _, _) _
                refine sp_iload_n (p2 := 10) rfl rfl rfl ?_
                refine sp_iconst (p2 := 11) (x := 0) rfl rfl (by decide) ?_
                refine sp_iconst (p2 := 12) (x := 3) rfl rfl (by decide) ?_
                refine st_callS rfl rfl rfl (cl_in_T (a := 0) (b := 3) rfl rfl (by omega)) ?_
                show Ev _ _ _ (15, [(0, .ref 164), (1, .int x1), (2, .int x2), (3, .int x3)], [.int 1], hh) _
                refine st_ifc (b := false) rfl (by decide) ?_
                show Ev _ _ _ (18, _, _, _) _
                refine sp_iload_n (p2 := 19) rfl rfl rfl ?_
                refine sp_iconst (p2 := 20) (x := 1) rfl rfl (by decide) ?_
                refine sp_bipush (p2 := 22) (x := 99) rfl rfl (by decide) ?_
                refine st_callS rfl rfl rfl (cl_in_F (a := 1) (b := 99) rfl rfl (by omega)) ?_
                show Ev _ _ _ (25, [(0, .ref 164), (1, .int x1), (2, .int x2), (3, .int x3)], [.int 0], hh) _
                refine st_ifc (b := false) rfl (by decide) ?_
                show Ev _ _ _ (28, _, _, _) _
                refine sp_bipush (p2 := 30) (x := (-2)) rfl rfl (by decide) ?_
                exact sp_iret rfl rfl
        · refine ⟨.int (-2), hh, hh, ?_, ?_⟩
          · refine ca_of (d := 19) (M := mX11_wall) rfl (Nat.le_of_ble_eq_true rfl) ?_
            show Ev im_K0 19 mX11_wall (0, [(0, .ref 16), (1, .int x1), (2, .int x2), (3, .int x3)], [], hh) _
            refine sp_iload_n (p2 := 1) rfl rfl rfl ?_
            refine sp_bipush (p2 := 3) (x := 100) rfl rfl (by decide) ?_
            refine st_callS rfl rfl rfl (cl_within_T (b := 100) rfl (by omega)) ?_
            show Ev _ _ _ (6, [(0, .ref 16), (1, .int x1), (2, .int x2), (3, .int x3)], [.int 1], hh) _
            refine st_ifc (b := true) rfl (by decide) ?_
            show Ev _ _ _ (11, _, _, _) _
            refine sp_iload_n (p2 := 12) rfl rfl rfl ?_
            refine sp_iconst (p2 := 13) (x := 4) rfl rfl (by decide) ?_
            refine st_callS rfl rfl rfl (cl_within_F (b := 4) rfl (by omega)) ?_
            show Ev _ _ _ (16, [(0, .ref 16), (1, .int x1), (2, .int x2), (3, .int x3)], [.int 0], hh) _
            refine st_ifc (b := true) rfl (by decide) ?_
            show Ev _ _ _ (29, _, _, _) _
            refine sp_bipush (p2 := 31) (x := (-2)) rfl rfl (by decide) ?_
            exact sp_iret rfl rfl
          · refine ca_of (d := 19) (M := mX12_wall) rfl (Nat.le_of_ble_eq_true rfl) ?_
            show Ev im_K0 19 mX12_wall (0, [(0, .ref 164), (1, .int x1), (2, .int x2), (3, .int x3)], [], hh) _
            refine sp_iload_n (p2 := 1) rfl rfl rfl ?_
            refine st_callS rfl rfl rfl (cl_isCell_T (by omega)) ?_
            show Ev _ _ _ (4, [(0, .ref 164), (1, .int x1), (2, .int x2), (3, .int x3)], [.int 1], hh) _
            refine st_ifc (b := true) rfl (by decide) ?_
            show Ev _ _ _ (9, _, _, _) _
            refine sp_iload_n (p2 := 10) rfl rfl rfl ?_
            refine sp_iconst (p2 := 11) (x := 0) rfl rfl (by decide) ?_
            refine sp_iconst (p2 := 12) (x := 3) rfl rfl (by decide) ?_
            refine st_callS rfl rfl rfl (cl_in_F (a := 0) (b := 3) rfl rfl (by omega)) ?_
            show Ev _ _ _ (15, [(0, .ref 164), (1, .int x1), (2, .int x2), (3, .int x3)], [.int 0], hh) _
            refine st_ifc (b := true) rfl (by decide) ?_
            show Ev _ _ _ (28, _, _, _) _
            refine sp_bipush (p2 := 30) (x := (-2)) rfl rfl (by decide) ?_
            exact sp_iret rfl rfl
    · refine ⟨.int (-1), hh, hh, ?_, ?_⟩
      · refine ca_of (d := 19) (M := mX11_wall) rfl (Nat.le_of_ble_eq_true rfl) ?_
        show Ev im_K0 19 mX11_wall (0, [(0, .ref 16), (1, .int x1), (2, .int x2), (3, .int x3)], [], hh) _
        refine sp_iload_n (p2 := 1) rfl rfl rfl ?_
        refine sp_bipush (p2 := 3) (x := 100) rfl rfl (by decide) ?_
        refine st_callS rfl rfl rfl (cl_within_F (b := 100) rfl (by omega)) ?_
        show Ev _ _ _ (6, [(0, .ref 16), (1, .int x1), (2, .int x2), (3, .int x3)], [.int 0], hh) _
        refine st_ifc (b := false) rfl (by decide) ?_
        show Ev _ _ _ (9, _, _, _) _
        refine sp_iconst (p2 := 10) (x := (-1)) rfl rfl (by decide) ?_
        exact sp_iret rfl rfl
      · refine ca_of (d := 19) (M := mX12_wall) rfl (Nat.le_of_ble_eq_true rfl) ?_
        show Ev im_K0 19 mX12_wall (0, [(0, .ref 164), (1, .int x1), (2, .int x2), (3, .int x3)], [], hh) _
        refine sp_iload_n (p2 := 1) rfl rfl rfl ?_
        refine st_callS rfl rfl rfl (cl_isCell_F (by omega)) ?_
        show Ev _ _ _ (4, [(0, .ref 164), (1, .int x1), (2, .int x2), (3, .int x3)], [.int 0], hh) _
        refine st_ifc (b := false) rfl (by decide) ?_
        show Ev _ _ _ (7, _, _, _) _
        refine sp_iconst (p2 := 8) (x := (-1)) rfl rfl (by decide) ?_
        exact sp_iret rfl rfl
