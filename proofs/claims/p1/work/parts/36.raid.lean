theorem fr_set {g : im_H} {j : Nat} {x : im_E} (hj : j < 148) (fr : ∀ i, 148 ≤ i → g[i]? = hh[i]?) : ∀ i, 148 ≤ i → (g.set j x)[i]? = hh[i]? := by
  intro i hi; rw [List.getElem?_set_ne (by omega)]; exact fr i hi
set_option maxRecDepth 20000 in
set_option maxHeartbeats 4000000 in
theorem cos_ev (g : im_H) (c s : Int32) (c0 : 0 ≤ c.toInt) (c1 : c.toInt ≤ 99) (s0 : 0 ≤ s.toInt) (s1 : s.toInt ≤ 3) : ∃ r : Int32, Ca 18 112 [.int c, .int s] g (some (.int r), g) ∧ (r.toInt = -1 ∨ (0 ≤ r.toInt ∧ r.toInt ≤ 99)) := by
  by_cases h1 : Int32.toInt s ≤ 0
  · by_cases h2 : Int32.toInt c ≤ 89
    · refine ⟨(c + 10), ?_, ?_⟩
      · refine ca_of (d := 17) (M := mX11_cellOnSide) rfl (Nat.le_of_ble_eq_true rfl) ?_
        show Ev im_K0 17 mX11_cellOnSide (0, [(0, .int c), (1, .int s)], [], g) _
        refine sp_iload_n (p2 := 1) rfl rfl rfl ?_
        refine sp_bipush (p2 := 3) (x := 10) rfl rfl (by decide) ?_
        have f1 : Int32.toInt (c - c / 10 * 10) = Int32.toInt c % 10 := i32_rem10 (by omega)
        refine sp_irem (p2 := 4) (z := (c - c / 10 * 10)) rfl rfl (by decide) rfl ?_
        refine sp_istore_n (p2 := 5) (lv2 := [(2, .int ((c - c / 10 * 10))), (0, .int c), (1, .int s)]) rfl rfl (by decide) rfl ?_
        refine sp_iload_n (p2 := 6) rfl rfl rfl ?_
        refine sp_bipush (p2 := 8) (x := 10) rfl rfl (by decide) ?_
        have f2 : Int32.toInt (c / 10) = Int32.toInt c / 10 := i32_div10 (by omega)
        refine sp_idiv (p2 := 9) (z := (c / 10)) rfl rfl (by decide) rfl ?_
        refine sp_istore_n (p2 := 10) (lv2 := [(3, .int ((c / 10))), (2, .int ((c - c / 10 * 10))), (0, .int c), (1, .int s)]) rfl rfl (by decide) rfl ?_
        refine sp_iload_n (p2 := 11) rfl rfl rfl ?_
        refine sp_tsIn (k := 0) (p2 := 36) rfl (show Int32.toInt s = 0 by omega) (by decide) (by decide) rfl (by decide) ?_
        refine sp_iload_n (p2 := 37) rfl rfl rfl ?_
        refine sp_bipush (p2 := 39) (x := 9) rfl rfl (by decide) ?_
        refine st_icmp (b := false) rfl (cn_ge_F rfl (show Int32.toInt 9 = 9 from rfl) (by omega)) ?_
        show Ev _ _ _ (42, _, _, _) _
        refine sp_iload_n (p2 := 43) rfl rfl rfl ?_
        refine sp_bipush (p2 := 45) (x := 10) rfl rfl (by decide) ?_
        have f3 : Int32.toInt (c + 10) = Int32.toInt c + 10 := i32_addE (show Int32.toInt 10 = 10 from rfl) (by omega) (by omega)
        refine sp_iadd (p2 := 46) (z := (c + 10)) rfl rfl rfl ?_
        refine sp_goto rfl ?_
        exact sp_iret rfl rfl
      · right
        have f3 : Int32.toInt (c + 10) = Int32.toInt c + 10 := i32_addE (show Int32.toInt 10 = 10 from rfl) (by omega) (by omega)
        have f90 : Int32.toInt (c - c / 10 * 10) = Int32.toInt c % 10 := i32_rem10 (by omega)
        have f91 : Int32.toInt (c / 10) = Int32.toInt c / 10 := i32_div10 (by omega)
        omega
    · refine ⟨(-1), ?_, ?_⟩
      · refine ca_of (d := 17) (M := mX11_cellOnSide) rfl (Nat.le_of_ble_eq_true rfl) ?_
        show Ev im_K0 17 mX11_cellOnSide (0, [(0, .int c), (1, .int s)], [], g) _
        refine sp_iload_n (p2 := 1) rfl rfl rfl ?_
        refine sp_bipush (p2 := 3) (x := 10) rfl rfl (by decide) ?_
        have f1 : Int32.toInt (c - c / 10 * 10) = Int32.toInt c % 10 := i32_rem10 (by omega)
        refine sp_irem (p2 := 4) (z := (c - c / 10 * 10)) rfl rfl (by decide) rfl ?_
        refine sp_istore_n (p2 := 5) (lv2 := [(2, .int ((c - c / 10 * 10))), (0, .int c), (1, .int s)]) rfl rfl (by decide) rfl ?_
        refine sp_iload_n (p2 := 6) rfl rfl rfl ?_
        refine sp_bipush (p2 := 8) (x := 10) rfl rfl (by decide) ?_
        have f2 : Int32.toInt (c / 10) = Int32.toInt c / 10 := i32_div10 (by omega)
        refine sp_idiv (p2 := 9) (z := (c / 10)) rfl rfl (by decide) rfl ?_
        refine sp_istore_n (p2 := 10) (lv2 := [(3, .int ((c / 10))), (2, .int ((c - c / 10 * 10))), (0, .int c), (1, .int s)]) rfl rfl (by decide) rfl ?_
        refine sp_iload_n (p2 := 11) rfl rfl rfl ?_
        refine sp_tsIn (k := 0) (p2 := 36) rfl (show Int32.toInt s = 0 by omega) (by decide) (by decide) rfl (by decide) ?_
        refine sp_iload_n (p2 := 37) rfl rfl rfl ?_
        refine sp_bipush (p2 := 39) (x := 9) rfl rfl (by decide) ?_
        refine st_icmp (b := true) rfl (cn_ge_T rfl (show Int32.toInt 9 = 9 from rfl) (by omega)) ?_
        show Ev _ _ _ (49, _, _, _) _
        refine sp_iconst (p2 := 50) (x := (-1)) rfl rfl (by decide) ?_
        exact sp_iret rfl rfl
      · exact Or.inl rfl
  · by_cases h2 : Int32.toInt s ≤ 1
    · by_cases h3 : Int32.toInt (c - c / 10 * 10) ≤ 8
      · refine ⟨(c + 1), ?_, ?_⟩
        · refine ca_of (d := 17) (M := mX11_cellOnSide) rfl (Nat.le_of_ble_eq_true rfl) ?_
          show Ev im_K0 17 mX11_cellOnSide (0, [(0, .int c), (1, .int s)], [], g) _
          refine sp_iload_n (p2 := 1) rfl rfl rfl ?_
          refine sp_bipush (p2 := 3) (x := 10) rfl rfl (by decide) ?_
          have f1 : Int32.toInt (c - c / 10 * 10) = Int32.toInt c % 10 := i32_rem10 (by omega)
          refine sp_irem (p2 := 4) (z := (c - c / 10 * 10)) rfl rfl (by decide) rfl ?_
          refine sp_istore_n (p2 := 5) (lv2 := [(2, .int ((c - c / 10 * 10))), (0, .int c), (1, .int s)]) rfl rfl (by decide) rfl ?_
          refine sp_iload_n (p2 := 6) rfl rfl rfl ?_
          refine sp_bipush (p2 := 8) (x := 10) rfl rfl (by decide) ?_
          have f2 : Int32.toInt (c / 10) = Int32.toInt c / 10 := i32_div10 (by omega)
          refine sp_idiv (p2 := 9) (z := (c / 10)) rfl rfl (by decide) rfl ?_
          refine sp_istore_n (p2 := 10) (lv2 := [(3, .int ((c / 10))), (2, .int ((c - c / 10 * 10))), (0, .int c), (1, .int s)]) rfl rfl (by decide) rfl ?_
          refine sp_iload_n (p2 := 11) rfl rfl rfl ?_
          refine sp_tsIn (k := 1) (p2 := 51) rfl (show Int32.toInt s = 1 by omega) (by decide) (by decide) rfl (by decide) ?_
          refine sp_iload_n (p2 := 52) rfl rfl rfl ?_
          refine sp_bipush (p2 := 54) (x := 9) rfl rfl (by decide) ?_
          refine st_icmp (b := false) rfl (cn_ge_F rfl (show Int32.toInt 9 = 9 from rfl) (by omega)) ?_
          show Ev _ _ _ (57, _, _, _) _
          refine sp_iload_n (p2 := 58) rfl rfl rfl ?_
          refine sp_iconst (p2 := 59) (x := 1) rfl rfl (by decide) ?_
          have f3 : Int32.toInt (c + 1) = Int32.toInt c + 1 := i32_addE (show Int32.toInt 1 = 1 from rfl) (by omega) (by omega)
          refine sp_iadd (p2 := 60) (z := (c + 1)) rfl rfl rfl ?_
          refine sp_goto rfl ?_
          exact sp_iret rfl rfl
        · right
          have f3 : Int32.toInt (c + 1) = Int32.toInt c + 1 := i32_addE (show Int32.toInt 1 = 1 from rfl) (by omega) (by omega)
          have f90 : Int32.toInt (c - c / 10 * 10) = Int32.toInt c % 10 := i32_rem10 (by omega)
          have f91 : Int32.toInt (c / 10) = Int32.toInt c / 10 := i32_div10 (by omega)
          omega
      · refine ⟨(-1), ?_, ?_⟩
        · refine ca_of (d := 17) (M := mX11_cellOnSide) rfl (Nat.le_of_ble_eq_true rfl) ?_
          show Ev im_K0 17 mX11_cellOnSide (0, [(0, .int c), (1, .int s)], [], g) _
          refine sp_iload_n (p2 := 1) rfl rfl rfl ?_
          refine sp_bipush (p2 := 3) (x := 10) rfl rfl (by decide) ?_
          have f1 : Int32.toInt (c - c / 10 * 10) = Int32.toInt c % 10 := i32_rem10 (by omega)
          refine sp_irem (p2 := 4) (z := (c - c / 10 * 10)) rfl rfl (by decide) rfl ?_
          refine sp_istore_n (p2 := 5) (lv2 := [(2, .int ((c - c / 10 * 10))), (0, .int c), (1, .int s)]) rfl rfl (by decide) rfl ?_
          refine sp_iload_n (p2 := 6) rfl rfl rfl ?_
          refine sp_bipush (p2 := 8) (x := 10) rfl rfl (by decide) ?_
          have f2 : Int32.toInt (c / 10) = Int32.toInt c / 10 := i32_div10 (by omega)
          refine sp_idiv (p2 := 9) (z := (c / 10)) rfl rfl (by decide) rfl ?_
          refine sp_istore_n (p2 := 10) (lv2 := [(3, .int ((c / 10))), (2, .int ((c - c / 10 * 10))), (0, .int c), (1, .int s)]) rfl rfl (by decide) rfl ?_
          refine sp_iload_n (p2 := 11) rfl rfl rfl ?_
          refine sp_tsIn (k := 1) (p2 := 51) rfl (show Int32.toInt s = 1 by omega) (by decide) (by decide) rfl (by decide) ?_
          refine sp_iload_n (p2 := 52) rfl rfl rfl ?_
          refine sp_bipush (p2 := 54) (x := 9) rfl rfl (by decide) ?_
          refine st_icmp (b := true) rfl (cn_ge_T rfl (show Int32.toInt 9 = 9 from rfl) (by omega)) ?_
          show Ev _ _ _ (63, _, _, _) _
          refine sp_iconst (p2 := 64) (x := (-1)) rfl rfl (by decide) ?_
          exact sp_iret rfl rfl
        · exact Or.inl rfl
    · by_cases h3 : Int32.toInt s ≤ 2
      · by_cases h4 : Int32.toInt c ≤ 9
        · refine ⟨(-1), ?_, ?_⟩
          · refine ca_of (d := 17) (M := mX11_cellOnSide) rfl (Nat.le_of_ble_eq_true rfl) ?_
            show Ev im_K0 17 mX11_cellOnSide (0, [(0, .int c), (1, .int s)], [], g) _
            refine sp_iload_n (p2 := 1) rfl rfl rfl ?_
            refine sp_bipush (p2 := 3) (x := 10) rfl rfl (by decide) ?_
            have f1 : Int32.toInt (c - c / 10 * 10) = Int32.toInt c % 10 := i32_rem10 (by omega)
            refine sp_irem (p2 := 4) (z := (c - c / 10 * 10)) rfl rfl (by decide) rfl ?_
            refine sp_istore_n (p2 := 5) (lv2 := [(2, .int ((c - c / 10 * 10))), (0, .int c), (1, .int s)]) rfl rfl (by decide) rfl ?_
            refine sp_iload_n (p2 := 6) rfl rfl rfl ?_
            refine sp_bipush (p2 := 8) (x := 10) rfl rfl (by decide) ?_
            have f2 : Int32.toInt (c / 10) = Int32.toInt c / 10 := i32_div10 (by omega)
            refine sp_idiv (p2 := 9) (z := (c / 10)) rfl rfl (by decide) rfl ?_
            refine sp_istore_n (p2 := 10) (lv2 := [(3, .int ((c / 10))), (2, .int ((c - c / 10 * 10))), (0, .int c), (1, .int s)]) rfl rfl (by decide) rfl ?_
            refine sp_iload_n (p2 := 11) rfl rfl rfl ?_
            refine sp_tsIn (k := 2) (p2 := 65) rfl (show Int32.toInt s = 2 by omega) (by decide) (by decide) rfl (by decide) ?_
            refine sp_iload_n (p2 := 66) rfl rfl rfl ?_
            refine st_ifc (b := true) rfl (cn_le_T rfl (show Int32.toInt 0 = 0 from rfl) (by omega)) ?_
            show Ev _ _ _ (76, _, _, _) _
            refine sp_iconst (p2 := 77) (x := (-1)) rfl rfl (by decide) ?_
            exact sp_iret rfl rfl
          · exact Or.inl rfl
        · refine ⟨(c - 10), ?_, ?_⟩
          · refine ca_of (d := 17) (M := mX11_cellOnSide) rfl (Nat.le_of_ble_eq_true rfl) ?_
            show Ev im_K0 17 mX11_cellOnSide (0, [(0, .int c), (1, .int s)], [], g) _
            refine sp_iload_n (p2 := 1) rfl rfl rfl ?_
            refine sp_bipush (p2 := 3) (x := 10) rfl rfl (by decide) ?_
            have f1 : Int32.toInt (c - c / 10 * 10) = Int32.toInt c % 10 := i32_rem10 (by omega)
            refine sp_irem (p2 := 4) (z := (c - c / 10 * 10)) rfl rfl (by decide) rfl ?_
            refine sp_istore_n (p2 := 5) (lv2 := [(2, .int ((c - c / 10 * 10))), (0, .int c), (1, .int s)]) rfl rfl (by decide) rfl ?_
            refine sp_iload_n (p2 := 6) rfl rfl rfl ?_
            refine sp_bipush (p2 := 8) (x := 10) rfl rfl (by decide) ?_
            have f2 : Int32.toInt (c / 10) = Int32.toInt c / 10 := i32_div10 (by omega)
            refine sp_idiv (p2 := 9) (z := (c / 10)) rfl rfl (by decide) rfl ?_
            refine sp_istore_n (p2 := 10) (lv2 := [(3, .int ((c / 10))), (2, .int ((c - c / 10 * 10))), (0, .int c), (1, .int s)]) rfl rfl (by decide) rfl ?_
            refine sp_iload_n (p2 := 11) rfl rfl rfl ?_
            refine sp_tsIn (k := 2) (p2 := 65) rfl (show Int32.toInt s = 2 by omega) (by decide) (by decide) rfl (by decide) ?_
            refine sp_iload_n (p2 := 66) rfl rfl rfl ?_
            refine st_ifc (b := false) rfl (cn_le_F rfl (show Int32.toInt 0 = 0 from rfl) (by omega)) ?_
            show Ev _ _ _ (69, _, _, _) _
            refine sp_iload_n (p2 := 70) rfl rfl rfl ?_
            refine sp_bipush (p2 := 72) (x := 10) rfl rfl (by decide) ?_
            have f3 : Int32.toInt (c - 10) = Int32.toInt c - 10 := i32_subE (show Int32.toInt 10 = 10 from rfl) (by omega) (by omega)
            refine sp_isub (p2 := 73) (z := (c - 10)) rfl rfl rfl ?_
            refine sp_goto rfl ?_
            exact sp_iret rfl rfl
          · right
            have f3 : Int32.toInt (c - 10) = Int32.toInt c - 10 := i32_subE (show Int32.toInt 10 = 10 from rfl) (by omega) (by omega)
            have f90 : Int32.toInt (c - c / 10 * 10) = Int32.toInt c % 10 := i32_rem10 (by omega)
            have f91 : Int32.toInt (c / 10) = Int32.toInt c / 10 := i32_div10 (by omega)
            omega
      · by_cases h4 : Int32.toInt (c - c / 10 * 10) ≤ 0
        · refine ⟨(-1), ?_, ?_⟩
          · refine ca_of (d := 17) (M := mX11_cellOnSide) rfl (Nat.le_of_ble_eq_true rfl) ?_
            show Ev im_K0 17 mX11_cellOnSide (0, [(0, .int c), (1, .int s)], [], g) _
            refine sp_iload_n (p2 := 1) rfl rfl rfl ?_
            refine sp_bipush (p2 := 3) (x := 10) rfl rfl (by decide) ?_
            have f1 : Int32.toInt (c - c / 10 * 10) = Int32.toInt c % 10 := i32_rem10 (by omega)
            refine sp_irem (p2 := 4) (z := (c - c / 10 * 10)) rfl rfl (by decide) rfl ?_
            refine sp_istore_n (p2 := 5) (lv2 := [(2, .int ((c - c / 10 * 10))), (0, .int c), (1, .int s)]) rfl rfl (by decide) rfl ?_
            refine sp_iload_n (p2 := 6) rfl rfl rfl ?_
            refine sp_bipush (p2 := 8) (x := 10) rfl rfl (by decide) ?_
            have f2 : Int32.toInt (c / 10) = Int32.toInt c / 10 := i32_div10 (by omega)
            refine sp_idiv (p2 := 9) (z := (c / 10)) rfl rfl (by decide) rfl ?_
            refine sp_istore_n (p2 := 10) (lv2 := [(3, .int ((c / 10))), (2, .int ((c - c / 10 * 10))), (0, .int c), (1, .int s)]) rfl rfl (by decide) rfl ?_
            refine sp_iload_n (p2 := 11) rfl rfl rfl ?_
            refine sp_tsOut (p2 := 78) rfl (by omega) (by decide) ?_
            refine sp_iload_n (p2 := 79) rfl rfl rfl ?_
            refine st_ifc (b := true) rfl (cn_le_T rfl (show Int32.toInt 0 = 0 from rfl) (by omega)) ?_
            show Ev _ _ _ (88, _, _, _) _
            refine sp_iconst (p2 := 89) (x := (-1)) rfl rfl (by decide) ?_
            exact sp_iret rfl rfl
          · exact Or.inl rfl
        · refine ⟨(c - 1), ?_, ?_⟩
          · refine ca_of (d := 17) (M := mX11_cellOnSide) rfl (Nat.le_of_ble_eq_true rfl) ?_
            show Ev im_K0 17 mX11_cellOnSide (0, [(0, .int c), (1, .int s)], [], g) _
            refine sp_iload_n (p2 := 1) rfl rfl rfl ?_
            refine sp_bipush (p2 := 3) (x := 10) rfl rfl (by decide) ?_
            have f1 : Int32.toInt (c - c / 10 * 10) = Int32.toInt c % 10 := i32_rem10 (by omega)
            refine sp_irem (p2 := 4) (z := (c - c / 10 * 10)) rfl rfl (by decide) rfl ?_
            refine sp_istore_n (p2 := 5) (lv2 := [(2, .int ((c - c / 10 * 10))), (0, .int c), (1, .int s)]) rfl rfl (by decide) rfl ?_
            refine sp_iload_n (p2 := 6) rfl rfl rfl ?_
            refine sp_bipush (p2 := 8) (x := 10) rfl rfl (by decide) ?_
            have f2 : Int32.toInt (c / 10) = Int32.toInt c / 10 := i32_div10 (by omega)
            refine sp_idiv (p2 := 9) (z := (c / 10)) rfl rfl (by decide) rfl ?_
            refine sp_istore_n (p2 := 10) (lv2 := [(3, .int ((c / 10))), (2, .int ((c - c / 10 * 10))), (0, .int c), (1, .int s)]) rfl rfl (by decide) rfl ?_
            refine sp_iload_n (p2 := 11) rfl rfl rfl ?_
            refine sp_tsOut (p2 := 78) rfl (by omega) (by decide) ?_
            refine sp_iload_n (p2 := 79) rfl rfl rfl ?_
            refine st_ifc (b := false) rfl (cn_le_F rfl (show Int32.toInt 0 = 0 from rfl) (by omega)) ?_
            show Ev _ _ _ (82, _, _, _) _
            refine sp_iload_n (p2 := 83) rfl rfl rfl ?_
            refine sp_iconst (p2 := 84) (x := 1) rfl rfl (by decide) ?_
            have f3 : Int32.toInt (c - 1) = Int32.toInt c - 1 := i32_subE (show Int32.toInt 1 = 1 from rfl) (by omega) (by omega)
            refine sp_isub (p2 := 85) (z := (c - 1)) rfl rfl rfl ?_
            refine sp_goto rfl ?_
            exact sp_iret rfl rfl
          · right
            have f3 : Int32.toInt (c - 1) = Int32.toInt c - 1 := i32_subE (show Int32.toInt 1 = 1 from rfl) (by omega) (by omega)
            have f90 : Int32.toInt (c - c / 10 * 10) = Int32.toInt c % 10 := i32_rem10 (by omega)
            have f91 : Int32.toInt (c / 10) = Int32.toInt c / 10 := i32_div10 (by omega)
            omega
abbrev RX (g : im_H) : Prop := g.length = 200 ∧ (∀ i, 148 ≤ i → g[i]? = hh[i]?) ∧ im_obj g 93 4 = some [.int 0, .ref 94, .ref 103, .ref 104, .ref 105, .ref 106] ∧ im_qa g 94 = some (7, [some 95, some 96, some 97, some 98, some 99, some 100, some 101, some 102]) ∧ im_ia g 104 0 = some (([0, 0, 0, 0, 0, 0, 0, 0] : List Int32)) ∧ im_ia g 106 1 = some ((List.replicate 100 0 : List Int32)) ∧ (∃ A : List Int32, A.length = 10 ∧ im_ia g 95 0 = some A) ∧ (∃ L : List Int32, L.length = 8 ∧ im_ia g 103 0 = some L) ∧ (∃ C : List Int32, C.length = 8 ∧ im_ia g 105 0 = some C)
set_option maxRecDepth 20000 in
set_option maxHeartbeats 4000000 in
theorem begin_lp (x1 x2 x3 x4 : Int32) (s0 : 0 ≤ x2.toInt) (s1 : x2.toInt ≤ 3) (l1 : x3.toInt ≤ 10) : ∀ (m : Nat) (g : im_H) (i c : Int32), RX g → 0 ≤ i.toInt → i.toInt + m = 10 → (c.toInt = -1 ∨ (0 ≤ c.toInt ∧ c.toInt ≤ 99)) → ∃ g1 : im_H, Ev im_K0 18 mX4_begin (28, [(7, .int i), (6, .int c), (5, .int 0), (0, .ref 93), (1, .int x1), (2, .int x2), (3, .int x3), (4, .int x4)], [], g) (some (.int 0), g1) ∧ g1.length = 200 ∧ (∀ i, 148 ≤ i → g1[i]? = hh[i]?) := by
  intro m
  induction m with
  | zero =>
    intro g i c hp i0 im hc
    obtain ⟨g_len, fr, g_77, g_78, g_88, g_90, ⟨A, hA, g_79⟩, ⟨L, hL, g_87⟩, ⟨C, hC, g_89⟩⟩ := hp
    refine ⟨((g.set 88 (.inl (0, .inl ((([0, 0, 0, 0, 0, 0, 0, 0] : List Int32)).set 0 x4)))).set 77 (.inr (4, [.int 1, .ref 94, .ref 103, .ref 104, .ref 105, .ref 106]))), ?_, (sl_len (sl_len g_len)), (fr_set (by decide) (fr_set (by decide) fr))⟩
    · refine sp_iload (p2 := 30) rfl rfl rfl ?_
      refine sp_iload_n (p2 := 31) rfl rfl rfl ?_
      refine st_icmp (b := true) rfl (cn_ge_T rfl rfl (by omega)) ?_
      show Ev _ _ _ (102, _, _, _) _
      refine sp_aload_n (p2 := 103) rfl rfl rfl ?_
      refine st_get rfl g_77 rfl ?_
      show Ev _ _ _ (106, _, _, _) _
      refine sp_iload (p2 := 108) rfl rfl rfl ?_
      refine sp_iload (p2 := 110) rfl rfl rfl ?_
      refine st_iast (i := 88) rfl rfl g_88 rfl ?_
      show Ev _ _ _ (111, [(7, .int i), (6, .int c), (5, .int 0), (0, .ref 93), (1, .int x1), (2, .int x2), (3, .int x3), (4, .int x4)], [], (g.set 88 (.inl (0, .inl ((([0, 0, 0, 0, 0, 0, 0, 0] : List Int32)).set 0 x4))))) _
      refine sp_aload_n (p2 := 112) rfl rfl rfl ?_
      refine sp_dup (p2 := 113) rfl rfl rfl ?_
      refine st_get rfl (ob_ne (by decide) g_77) rfl ?_
      show Ev _ _ _ (116, _, _, _) _
      refine sp_iconst (p2 := 117) (x := 1) rfl rfl (by decide) ?_
      refine sp_iadd (p2 := 118) (z := 1) rfl rfl (by decide) ?_
      refine st_put (i := 77) rfl rfl (ob_ne (by decide) g_77) rfl rfl (Nat.le_of_ble_eq_true rfl) ?_
      show Ev _ _ _ (121, [(7, .int i), (6, .int c), (5, .int 0), (0, .ref 93), (1, .int x1), (2, .int x2), (3, .int x3), (4, .int x4)], [], ((g.set 88 (.inl (0, .inl ((([0, 0, 0, 0, 0, 0, 0, 0] : List Int32)).set 0 x4)))).set 77 (.inr (4, [.int 1, .ref 94, .ref 103, .ref 104, .ref 105, .ref 106])))) _
      refine sp_iload (p2 := 123) rfl rfl rfl ?_
      exact sp_iret rfl rfl
  | succ m ih =>
    intro g i c hp i0 im hc
    obtain ⟨g_len, fr, g_77, g_78, g_88, g_90, ⟨A, hA, g_79⟩, ⟨L, hL, g_87⟩, ⟨C, hC, g_89⟩⟩ := hp
    by_cases e1 : x3.toInt ≤ i.toInt
    · refine ⟨((g.set 88 (.inl (0, .inl ((([0, 0, 0, 0, 0, 0, 0, 0] : List Int32)).set 0 x4)))).set 77 (.inr (4, [.int 1, .ref 94, .ref 103, .ref 104, .ref 105, .ref 106]))), ?_, (sl_len (sl_len g_len)), (fr_set (by decide) (fr_set (by decide) fr))⟩
      · refine sp_iload (p2 := 30) rfl rfl rfl ?_
        refine sp_iload_n (p2 := 31) rfl rfl rfl ?_
        refine st_icmp (b := true) rfl (cn_ge_T rfl rfl (by omega)) ?_
        show Ev _ _ _ (102, _, _, _) _
        refine sp_aload_n (p2 := 103) rfl rfl rfl ?_
        refine st_get rfl g_77 rfl ?_
        show Ev _ _ _ (106, _, _, _) _
        refine sp_iload (p2 := 108) rfl rfl rfl ?_
        refine sp_iload (p2 := 110) rfl rfl rfl ?_
        refine st_iast (i := 88) rfl rfl g_88 rfl ?_
        show Ev _ _ _ (111, [(7, .int i), (6, .int c), (5, .int 0), (0, .ref 93), (1, .int x1), (2, .int x2), (3, .int x3), (4, .int x4)], [], (g.set 88 (.inl (0, .inl ((([0, 0, 0, 0, 0, 0, 0, 0] : List Int32)).set 0 x4))))) _
        refine sp_aload_n (p2 := 112) rfl rfl rfl ?_
        refine sp_dup (p2 := 113) rfl rfl rfl ?_
        refine st_get rfl (ob_ne (by decide) g_77) rfl ?_
        show Ev _ _ _ (116, _, _, _) _
        refine sp_iconst (p2 := 117) (x := 1) rfl rfl (by decide) ?_
        refine sp_iadd (p2 := 118) (z := 1) rfl rfl (by decide) ?_
        refine st_put (i := 77) rfl rfl (ob_ne (by decide) g_77) rfl rfl (Nat.le_of_ble_eq_true rfl) ?_
        show Ev _ _ _ (121, [(7, .int i), (6, .int c), (5, .int 0), (0, .ref 93), (1, .int x1), (2, .int x2), (3, .int x3), (4, .int x4)], [], ((g.set 88 (.inl (0, .inl ((([0, 0, 0, 0, 0, 0, 0, 0] : List Int32)).set 0 x4)))).set 77 (.inr (4, [.int 1, .ref 94, .ref 103, .ref 104, .ref 105, .ref 106])))) _
        refine sp_iload (p2 := 123) rfl rfl rfl ?_
        exact sp_iret rfl rfl
    · by_cases e2 : c.toInt = -1
      · refine ⟨((g.set 88 (.inl (0, .inl ((([0, 0, 0, 0, 0, 0, 0, 0] : List Int32)).set 0 x4)))).set 77 (.inr (4, [.int 1, .ref 94, .ref 103, .ref 104, .ref 105, .ref 106]))), ?_, (sl_len (sl_len g_len)), (fr_set (by decide) (fr_set (by decide) fr))⟩
        · refine sp_iload (p2 := 30) rfl rfl rfl ?_
          refine sp_iload_n (p2 := 31) rfl rfl rfl ?_
          refine st_icmp (b := false) rfl (cn_ge_F rfl rfl (by omega)) ?_
          show Ev _ _ _ (34, _, _, _) _
          refine sp_iload (p2 := 36) rfl rfl rfl ?_
          refine sp_iconst (p2 := 37) (x := (-1)) rfl rfl (by decide) ?_
          refine st_icmp (b := true) rfl (cn_eq_T rfl (show Int32.toInt (-1) = (-1) from rfl) (by omega)) ?_
          show Ev _ _ _ (102, _, _, _) _
          refine sp_aload_n (p2 := 103) rfl rfl rfl ?_
          refine st_get rfl g_77 rfl ?_
          show Ev _ _ _ (106, _, _, _) _
          refine sp_iload (p2 := 108) rfl rfl rfl ?_
          refine sp_iload (p2 := 110) rfl rfl rfl ?_
          refine st_iast (i := 88) rfl rfl g_88 rfl ?_
          show Ev _ _ _ (111, [(7, .int i), (6, .int c), (5, .int 0), (0, .ref 93), (1, .int x1), (2, .int x2), (3, .int x3), (4, .int x4)], [], (g.set 88 (.inl (0, .inl ((([0, 0, 0, 0, 0, 0, 0, 0] : List Int32)).set 0 x4))))) _
          refine sp_aload_n (p2 := 112) rfl rfl rfl ?_
          refine sp_dup (p2 := 113) rfl rfl rfl ?_
          refine st_get rfl (ob_ne (by decide) g_77) rfl ?_
          show Ev _ _ _ (116, _, _, _) _
          refine sp_iconst (p2 := 117) (x := 1) rfl rfl (by decide) ?_
          refine sp_iadd (p2 := 118) (z := 1) rfl rfl (by decide) ?_
          refine st_put (i := 77) rfl rfl (ob_ne (by decide) g_77) rfl rfl (Nat.le_of_ble_eq_true rfl) ?_
          show Ev _ _ _ (121, [(7, .int i), (6, .int c), (5, .int 0), (0, .ref 93), (1, .int x1), (2, .int x2), (3, .int x3), (4, .int x4)], [], ((g.set 88 (.inl (0, .inl ((([0, 0, 0, 0, 0, 0, 0, 0] : List Int32)).set 0 x4)))).set 77 (.inr (4, [.int 1, .ref 94, .ref 103, .ref 104, .ref 105, .ref 106])))) _
          refine sp_iload (p2 := 123) rfl rfl rfl ?_
          exact sp_iret rfl rfl
      · obtain ⟨r, hr, hr2⟩ := cos_ev (((g.set 79 (.inl (0, .inl ((A).set (Int32.toNatClampNeg i) c)))).set 87 (.inl (0, .inl ((L).set 0 ((L.getD 0 0) + 1))))).set 89 (.inl (0, .inl ((C).set 0 ((C.getD 0 0) + 1))))) c x2 (by omega) (by omega) s0 s1
        have fi : Int32.toInt (i + 1) = Int32.toInt i + 1 := i32_addE (show Int32.toInt 1 = 1 from rfl) (by omega) (by omega)
        obtain ⟨g1, he, hl, hf⟩ := ih (((g.set 79 (.inl (0, .inl ((A).set (Int32.toNatClampNeg i) c)))).set 87 (.inl (0, .inl ((L).set 0 ((L.getD 0 0) + 1))))).set 89 (.inl (0, .inl ((C).set 0 ((C.getD 0 0) + 1))))) (i + 1) r ⟨(sl_len (sl_len (sl_len g_len))), (fr_set (by decide) (fr_set (by decide) (fr_set (by decide) fr))), (ob_ne (by decide) (ob_ne (by decide) (ob_ne (by decide) g_77))), (qa_ne (by decide) (qa_ne (by decide) (qa_ne (by decide) g_78))), (ia_ne (by decide) (ia_ne (by decide) (ia_ne (by decide) g_88))), (ia_ne (by decide) (ia_ne (by decide) (ia_ne (by decide) g_90))), ⟨_, (ll_set hA), (ia_ne (by decide) (ia_ne (by decide) (ia_eq2 g_len (by decide))))⟩, ⟨_, (ll_set hL), (ia_ne (by decide) (ia_eq2 (sl_len g_len) (by decide)))⟩, ⟨_, (ll_set hC), (ia_eq2 (sl_len (sl_len g_len)) (by decide))⟩⟩ (by omega) (by omega) hr2
        refine ⟨g1, ?_, hl, hf⟩
        refine sp_iload (p2 := 30) rfl rfl rfl ?_
        refine sp_iload_n (p2 := 31) rfl rfl rfl ?_
        refine st_icmp (b := false) rfl (cn_ge_F rfl rfl (by omega)) ?_
        show Ev _ _ _ (34, _, _, _) _
        refine sp_iload (p2 := 36) rfl rfl rfl ?_
        refine sp_iconst (p2 := 37) (x := (-1)) rfl rfl (by decide) ?_
        refine st_icmp (b := false) rfl (cn_eq_F rfl (show Int32.toInt (-1) = (-1) from rfl) (by omega)) ?_
        show Ev _ _ _ (40, _, _, _) _
        refine sp_aload_n (p2 := 41) rfl rfl rfl ?_
        refine st_get rfl g_77 rfl ?_
        show Ev _ _ _ (44, _, _, _) _
        refine sp_iload (p2 := 46) rfl rfl rfl ?_
        refine st_aald (v := .ref 95) rfl g_78 (by decide) rfl ?_
        show Ev _ _ _ (47, _, _, _) _
        refine sp_iload (p2 := 49) rfl rfl rfl ?_
        refine sp_iload (p2 := 51) rfl rfl rfl ?_
        refine st_iast (i := 79) rfl rfl g_79 (in_at (n := 10) hA (by omega) (by omega)) ?_
        show Ev _ _ _ (52, [(7, .int i), (6, .int c), (5, .int 0), (0, .ref 93), (1, .int x1), (2, .int x2), (3, .int x3), (4, .int x4)], [], (g.set 79 (.inl (0, .inl ((A).set (Int32.toNatClampNeg i) c))))) _
        refine sp_aload_n (p2 := 53) rfl rfl rfl ?_
        refine st_get rfl (ob_ne (by decide) g_77) rfl ?_
        show Ev _ _ _ (56, _, _, _) _
        refine sp_iload (p2 := 58) rfl rfl rfl ?_
        refine sp_dup2 (p2 := 59) rfl rfl ⟨rfl, rfl⟩ ?_
        refine st_iald (x := (L.getD 0 0)) rfl (by decide) (ia_ne (by decide) g_87) (in_at (n := 8) hL (by decide) (by decide)) rfl ?_
        show Ev _ _ _ (60, [(7, .int i), (6, .int c), (5, .int 0), (0, .ref 93), (1, .int x1), (2, .int x2), (3, .int x3), (4, .int x4)], [.int ((L.getD 0 0)), .int 0, .ref 103], (g.set 79 (.inl (0, .inl ((A).set (Int32.toNatClampNeg i) c))))) _
        refine sp_iconst (p2 := 61) (x := 1) rfl rfl (by decide) ?_
        refine sp_iadd (p2 := 62) (z := ((L.getD 0 0) + 1)) rfl rfl rfl ?_
        refine st_iast (i := 87) rfl rfl (ia_ne (by decide) g_87) (in_at (n := 8) hL (by decide) (by decide)) ?_
        show Ev _ _ _ (63, [(7, .int i), (6, .int c), (5, .int 0), (0, .ref 93), (1, .int x1), (2, .int x2), (3, .int x3), (4, .int x4)], [], ((g.set 79 (.inl (0, .inl ((A).set (Int32.toNatClampNeg i) c)))).set 87 (.inl (0, .inl ((L).set 0 ((L.getD 0 0) + 1)))))) _
        refine sp_aload_n (p2 := 64) rfl rfl rfl ?_
        refine st_get rfl (ob_ne (by decide) (ob_ne (by decide) g_77)) rfl ?_
        show Ev _ _ _ (67, _, _, _) _
        refine sp_iload (p2 := 69) rfl rfl rfl ?_
        refine sp_dup2 (p2 := 70) rfl rfl ⟨rfl, rfl⟩ ?_
        refine st_iald (x := (C.getD 0 0)) rfl (by decide) (ia_ne (by decide) (ia_ne (by decide) g_89)) (in_at (n := 8) hC (by decide) (by decide)) rfl ?_
        show Ev _ _ _ (71, [(7, .int i), (6, .int c), (5, .int 0), (0, .ref 93), (1, .int x1), (2, .int x2), (3, .int x3), (4, .int x4)], [.int ((C.getD 0 0)), .int 0, .ref 105], ((g.set 79 (.inl (0, .inl ((A).set (Int32.toNatClampNeg i) c)))).set 87 (.inl (0, .inl ((L).set 0 ((L.getD 0 0) + 1)))))) _
        refine sp_aload_n (p2 := 72) rfl rfl rfl ?_
        refine st_get rfl (ob_ne (by decide) (ob_ne (by decide) g_77)) rfl ?_
        show Ev _ _ _ (75, _, _, _) _
        refine sp_iload (p2 := 77) rfl rfl rfl ?_
        refine st_bald (x := 0) rfl (ia_ne (by decide) (ia_ne (by decide) g_90)) (in_at (n := 100) rfl (by omega) (by omega)) (rd_at 0 99 (by decide +kernel) (by omega) (by omega)) ?_
        show Ev _ _ _ (78, _, _, _) _
        refine st_ifc (b := true) rfl (by decide) ?_
        show Ev _ _ _ (85, _, _, _) _
        refine sp_iconst (p2 := 86) (x := 1) rfl rfl (by decide) ?_
        refine sp_iadd (p2 := 87) (z := ((C.getD 0 0) + 1)) rfl rfl rfl ?_
        refine st_iast (i := 89) rfl rfl (ia_ne (by decide) (ia_ne (by decide) g_89)) (in_at (n := 8) hC (by decide) (by decide)) ?_
        show Ev _ _ _ (88, [(7, .int i), (6, .int c), (5, .int 0), (0, .ref 93), (1, .int x1), (2, .int x2), (3, .int x3), (4, .int x4)], [], (((g.set 79 (.inl (0, .inl ((A).set (Int32.toNatClampNeg i) c)))).set 87 (.inl (0, .inl ((L).set 0 ((L.getD 0 0) + 1))))).set 89 (.inl (0, .inl ((C).set 0 ((C.getD 0 0) + 1)))))) _
        refine sp_iload (p2 := 90) rfl rfl rfl ?_
        refine sp_iload_n (p2 := 91) rfl rfl rfl ?_
        refine st_callS rfl rfl rfl hr ?_
        show Ev _ _ _ (94, [(7, .int i), (6, .int c), (5, .int 0), (0, .ref 93), (1, .int x1), (2, .int x2), (3, .int x3), (4, .int x4)], [.int r], (((g.set 79 (.inl (0, .inl ((A).set (Int32.toNatClampNeg i) c)))).set 87 (.inl (0, .inl ((L).set 0 ((L.getD 0 0) + 1))))).set 89 (.inl (0, .inl ((C).set 0 ((C.getD 0 0) + 1)))))) _
        refine sp_istore (p2 := 96) (lv2 := [(6, .int r), (7, .int i), (5, .int 0), (0, .ref 93), (1, .int x1), (2, .int x2), (3, .int x3), (4, .int x4)]) rfl rfl (by decide) rfl ?_
        refine sp_iinc (p2 := 99) (y := (i + 1)) (lv2 := [(7, .int ((i + 1))), (6, .int r), (5, .int 0), (0, .ref 93), (1, .int x1), (2, .int x2), (3, .int x3), (4, .int x4)]) rfl rfl (by decide) rfl rfl rfl ?_
        refine sp_goto rfl ?_
        exact he
set_option maxRecDepth 20000 in
set_option maxHeartbeats 4000000 in
theorem begin_ev (x1 x2 x3 x4 : Int32) (c0 : 0 ≤ x1.toInt) (c1 : x1.toInt ≤ 99) (s0 : 0 ≤ x2.toInt) (s1 : x2.toInt ≤ 3) (l1 : x3.toInt ≤ 10) : ∃ g1 : im_H, Ca 19 29 [.ref 93, .int x1, .int x2, .int x3, .int x4] hh (some (.int 0), g1) ∧ g1.length = 200 ∧ (∀ i, 148 ≤ i → g1[i]? = hh[i]?) := by
  obtain ⟨g1, he, hl, hf⟩ := begin_lp x1 x2 x3 x4 s0 s1 l1 10 ((hh.set 87 (.inl (0, .inl ((([0, 0, 0, 0, 0, 0, 0, 0] : List Int32)).set 0 0)))).set 89 (.inl (0, .inl ((([0, 0, 0, 0, 0, 0, 0, 0] : List Int32)).set 0 0)))) 0 x1 ⟨(sl_len (sl_len hh_len)), (fr_set (by decide) (fr_set (by decide) (fun _ _ => rfl))), (ob_ne (by decide) (ob_ne (by decide) hh_77)), (qa_ne (by decide) (qa_ne (by decide) hh_78)), (ia_ne (by decide) (ia_ne (by decide) hh_88)), (ia_ne (by decide) (ia_ne (by decide) hh_90)), ⟨_, rfl, (ia_ne (by decide) (ia_ne (by decide) hh_79))⟩, ⟨_, rfl, (ia_ne (by decide) (ia_eq2 hh_len (by decide)))⟩, ⟨_, rfl, (ia_eq2 (sl_len hh_len) (by decide))⟩⟩ (by decide) (by decide) (Or.inr ⟨c0, c1⟩)
  refine ⟨g1, ?_, hl, hf⟩
  refine ca_of (d := 18) (M := mX4_begin) rfl (Nat.le_of_ble_eq_true rfl) ?_
  show Ev im_K0 18 mX4_begin (0, [(0, .ref 93), (1, .int x1), (2, .int x2), (3, .int x3), (4, .int x4)], [], hh) _
  refine sp_aload_n (p2 := 1) rfl rfl rfl ?_
  refine st_get rfl hh_77 rfl ?_
  show Ev _ _ _ (4, _, _, _) _
  refine sp_istore (p2 := 6) (lv2 := [(5, .int 0), (0, .ref 93), (1, .int x1), (2, .int x2), (3, .int x3), (4, .int x4)]) rfl rfl (by decide) rfl ?_
  refine sp_iload_n (p2 := 7) rfl rfl rfl ?_
  refine sp_istore (p2 := 9) (lv2 := [(6, .int x1), (5, .int 0), (0, .ref 93), (1, .int x1), (2, .int x2), (3, .int x3), (4, .int x4)]) rfl rfl (by decide) rfl ?_
  refine sp_aload_n (p2 := 10) rfl rfl rfl ?_
  refine st_get rfl hh_77 rfl ?_
  show Ev _ _ _ (13, _, _, _) _
  refine sp_iload (p2 := 15) rfl rfl rfl ?_
  refine sp_iconst (p2 := 16) (x := 0) rfl rfl (by decide) ?_
  refine st_iast (i := 87) rfl rfl hh_87 rfl ?_
  show Ev _ _ _ (17, [(6, .int x1), (5, .int 0), (0, .ref 93), (1, .int x1), (2, .int x2), (3, .int x3), (4, .int x4)], [], (hh.set 87 (.inl (0, .inl ((([0, 0, 0, 0, 0, 0, 0, 0] : List Int32)).set 0 0))))) _
  refine sp_aload_n (p2 := 18) rfl rfl rfl ?_
  refine st_get rfl (ob_ne (by decide) hh_77) rfl ?_
  show Ev _ _ _ (21, _, _, _) _
  refine sp_iload (p2 := 23) rfl rfl rfl ?_
  refine sp_iconst (p2 := 24) (x := 0) rfl rfl (by decide) ?_
  refine st_iast (i := 89) rfl rfl (ia_ne (by decide) hh_89) rfl ?_
  show Ev _ _ _ (25, [(6, .int x1), (5, .int 0), (0, .ref 93), (1, .int x1), (2, .int x2), (3, .int x3), (4, .int x4)], [], ((hh.set 87 (.inl (0, .inl ((([0, 0, 0, 0, 0, 0, 0, 0] : List Int32)).set 0 0)))).set 89 (.inl (0, .inl ((([0, 0, 0, 0, 0, 0, 0, 0] : List Int32)).set 0 0))))) _
  refine sp_iconst (p2 := 26) (x := 0) rfl rfl (by decide) ?_
  refine sp_istore (p2 := 28) (lv2 := [(7, .int 0), (6, .int x1), (5, .int 0), (0, .ref 93), (1, .int x1), (2, .int x2), (3, .int x3), (4, .int x4)]) rfl rfl (by decide) rfl ?_
  exact he
set_option maxRecDepth 20000 in
set_option maxHeartbeats 4000000 in
theorem q_raid (x1 x2 x3 x4 : Int32) : ∃ (v : Value) (h1 h2 : im_H), Ca 20 92 [.ref 16, .int x1, .int x2, .int x3, .int x4] hh (some v, h1) ∧ Ca 20 175 [.ref 164, .int x1, .int x2, .int x3, .int x4] h1 (some v, h2) := by
  by_cases h1 : x1.toInt ≤ (-1)
  · refine ⟨.int (-1), hh, hh, ?_, ?_⟩
    · refine ca_of (d := 19) (M := mX11_raid) rfl (Nat.le_of_ble_eq_true rfl) ?_
      show Ev im_K0 19 mX11_raid (0, [(0, .ref 16), (1, .int x1), (2, .int x2), (3, .int x3), (4, .int x4)], [], hh) _
      refine sp_iload_n (p2 := 1) rfl rfl rfl ?_
      refine sp_bipush (p2 := 3) (x := 100) rfl rfl (by decide) ?_
      refine st_callS rfl rfl rfl (cl_within_F (b := 100) rfl (by omega)) ?_
      show Ev _ _ _ (6, [(0, .ref 16), (1, .int x1), (2, .int x2), (3, .int x3), (4, .int x4)], [.int 0], hh) _
      refine st_ifc (b := false) rfl (by decide) ?_
      show Ev _ _ _ (9, _, _, _) _
      refine sp_iconst (p2 := 10) (x := (-1)) rfl rfl (by decide) ?_
      exact sp_iret rfl rfl
    · refine ca_of (d := 19) (M := mX12_raid) rfl (Nat.le_of_ble_eq_true rfl) ?_
      show Ev im_K0 19 mX12_raid (0, [(0, .ref 164), (1, .int x1), (2, .int x2), (3, .int x3), (4, .int x4)], [], hh) _
      refine sp_iload_n (p2 := 1) rfl rfl rfl ?_
      refine st_callS rfl rfl rfl (cl_isCell_F (by omega)) ?_
      show Ev _ _ _ (4, [(0, .ref 164), (1, .int x1), (2, .int x2), (3, .int x3), (4, .int x4)], [.int 0], hh) _
      refine st_ifc (b := false) rfl (by decide) ?_
      show Ev _ _ _ (7, _, _, _) _
      refine sp_iconst (p2 := 8) (x := (-1)) rfl rfl (by decide) ?_
      exact sp_iret rfl rfl
  · by_cases h2 : x1.toInt ≤ 99
    · by_cases h3 : x2.toInt ≤ (-1)
      · refine ⟨.int (-2), hh, hh, ?_, ?_⟩
        · refine ca_of (d := 19) (M := mX11_raid) rfl (Nat.le_of_ble_eq_true rfl) ?_
          show Ev im_K0 19 mX11_raid (0, [(0, .ref 16), (1, .int x1), (2, .int x2), (3, .int x3), (4, .int x4)], [], hh) _
          refine sp_iload_n (p2 := 1) rfl rfl rfl ?_
          refine sp_bipush (p2 := 3) (x := 100) rfl rfl (by decide) ?_
          refine st_callS rfl rfl rfl (cl_within_T (b := 100) rfl (by omega)) ?_
          show Ev _ _ _ (6, [(0, .ref 16), (1, .int x1), (2, .int x2), (3, .int x3), (4, .int x4)], [.int 1], hh) _
          refine st_ifc (b := true) rfl (by decide) ?_
          show Ev _ _ _ (11, _, _, _) _
          refine sp_iload_n (p2 := 12) rfl rfl rfl ?_
          refine sp_iconst (p2 := 13) (x := 4) rfl rfl (by decide) ?_
          refine st_callS rfl rfl rfl (cl_within_F (b := 4) rfl (by omega)) ?_
          show Ev _ _ _ (16, [(0, .ref 16), (1, .int x1), (2, .int x2), (3, .int x3), (4, .int x4)], [.int 0], hh) _
          refine st_ifc (b := true) rfl (by decide) ?_
          show Ev _ _ _ (40, _, _, _) _
          refine sp_bipush (p2 := 42) (x := (-2)) rfl rfl (by decide) ?_
          exact sp_iret rfl rfl
        · refine ca_of (d := 19) (M := mX12_raid) rfl (Nat.le_of_ble_eq_true rfl) ?_
          show Ev im_K0 19 mX12_raid (0, [(0, .ref 164), (1, .int x1), (2, .int x2), (3, .int x3), (4, .int x4)], [], hh) _
          refine sp_iload_n (p2 := 1) rfl rfl rfl ?_
          refine st_callS rfl rfl rfl (cl_isCell_T (by omega)) ?_
          show Ev _ _ _ (4, [(0, .ref 164), (1, .int x1), (2, .int x2), (3, .int x3), (4, .int x4)], [.int 1], hh) _
          refine st_ifc (b := true) rfl (by decide) ?_
          show Ev _ _ _ (9, _, _, _) _
          refine sp_iload_n (p2 := 10) rfl rfl rfl ?_
          refine sp_iconst (p2 := 11) (x := 0) rfl rfl (by decide) ?_
          refine sp_iconst (p2 := 12) (x := 3) rfl rfl (by decide) ?_
          refine st_callS rfl rfl rfl (cl_in_F (a := 0) (b := 3) rfl rfl (by omega)) ?_
          show Ev _ _ _ (15, [(0, .ref 164), (1, .int x1), (2, .int x2), (3, .int x3), (4, .int x4)], [.int 0], hh) _
          refine st_ifc (b := true) rfl (by decide) ?_
          show Ev _ _ _ (39, _, _, _) _
          refine sp_bipush (p2 := 41) (x := (-2)) rfl rfl (by decide) ?_
          exact sp_iret rfl rfl
      · by_cases h4 : x2.toInt ≤ 3
        · by_cases h5 : x3.toInt ≤ 0
          · refine ⟨.int (-2), hh, hh, ?_, ?_⟩
            · refine ca_of (d := 19) (M := mX11_raid) rfl (Nat.le_of_ble_eq_true rfl) ?_
              show Ev im_K0 19 mX11_raid (0, [(0, .ref 16), (1, .int x1), (2, .int x2), (3, .int x3), (4, .int x4)], [], hh) _
              refine sp_iload_n (p2 := 1) rfl rfl rfl ?_
              refine sp_bipush (p2 := 3) (x := 100) rfl rfl (by decide) ?_
              refine st_callS rfl rfl rfl (cl_within_T (b := 100) rfl (by omega)) ?_
              show Ev _ _ _ (6, [(0, .ref 16), (1, .int x1), (2, .int x2), (3, .int x3), (4, .int x4)], [.int 1], hh) _
              refine st_ifc (b := true) rfl (by decide) ?_
              show Ev _ _ _ (11, _, _, _) _
              refine sp_iload_n (p2 := 12) rfl rfl rfl ?_
              refine sp_iconst (p2 := 13) (x := 4) rfl rfl (by decide) ?_
              refine st_callS rfl rfl rfl (cl_within_T (b := 4) rfl (by omega)) ?_
              show Ev _ _ _ (16, [(0, .ref 16), (1, .int x1), (2, .int x2), (3, .int x3), (4, .int x4)], [.int 1], hh) _
              refine st_ifc (b := false) rfl (by decide) ?_
              show Ev _ _ _ (19, _, _, _) _
              refine sp_iload_n (p2 := 20) rfl rfl rfl ?_
              refine sp_iconst (p2 := 21) (x := 1) rfl rfl (by decide) ?_
              refine sp_bipush (p2 := 23) (x := 10) rfl rfl (by decide) ?_
              refine st_callS rfl rfl rfl (cl_between_F (a := 1) (b := 10) rfl rfl (by omega)) ?_
              show Ev _ _ _ (26, [(0, .ref 16), (1, .int x1), (2, .int x2), (3, .int x3), (4, .int x4)], [.int 0], hh) _
              refine st_ifc (b := true) rfl (by decide) ?_
              show Ev _ _ _ (40, _, _, _) _
              refine sp_bipush (p2 := 42) (x := (-2)) rfl rfl (by decide) ?_
              exact sp_iret rfl rfl
            · refine ca_of (d := 19) (M := mX12_raid) rfl (Nat.le_of_ble_eq_true rfl) ?_
              show Ev im_K0 19 mX12_raid (0, [(0, .ref 164), (1, .int x1), (2, .int x2), (3, .int x3), (4, .int x4)], [], hh) _
              refine sp_iload_n (p2 := 1) rfl rfl rfl ?_
              refine st_callS rfl rfl rfl (cl_isCell_T (by omega)) ?_
              show Ev _ _ _ (4, [(0, .ref 164), (1, .int x1), (2, .int x2), (3, .int x3), (4, .int x4)], [.int 1], hh) _
              refine st_ifc (b := true) rfl (by decide) ?_
              show Ev _ _ _ (9, _, _, _) _
              refine sp_iload_n (p2 := 10) rfl rfl rfl ?_
              refine sp_iconst (p2 := 11) (x := 0) rfl rfl (by decide) ?_
              refine sp_iconst (p2 := 12) (x := 3) rfl rfl (by decide) ?_
              refine st_callS rfl rfl rfl (cl_in_T (a := 0) (b := 3) rfl rfl (by omega)) ?_
              show Ev _ _ _ (15, [(0, .ref 164), (1, .int x1), (2, .int x2), (3, .int x3), (4, .int x4)], [.int 1], hh) _
              refine st_ifc (b := false) rfl (by decide) ?_
              show Ev _ _ _ (18, _, _, _) _
              refine sp_iload_n (p2 := 19) rfl rfl rfl ?_
              refine sp_iconst (p2 := 20) (x := 1) rfl rfl (by decide) ?_
              refine sp_bipush (p2 := 22) (x := 10) rfl rfl (by decide) ?_
              refine st_callS rfl rfl rfl (cl_in_F (a := 1) (b := 10) rfl rfl (by omega)) ?_
              show Ev _ _ _ (25, [(0, .ref 164), (1, .int x1), (2, .int x2), (3, .int x3), (4, .int x4)], [.int 0], hh) _
              refine st_ifc (b := true) rfl (by decide) ?_
              show Ev _ _ _ (39, _, _, _) _
              refine sp_bipush (p2 := 41) (x := (-2)) rfl rfl (by decide) ?_
              exact sp_iret rfl rfl
          · by_cases h6 : x3.toInt ≤ 10
            · by_cases h7 : x4.toInt ≤ 0
              · refine ⟨.int (-2), hh, hh, ?_, ?_⟩
                · refine ca_of (d := 19) (M := mX11_raid) rfl (Nat.le_of_ble_eq_true rfl) ?_
                  show Ev im_K0 19 mX11_raid (0, [(0, .ref 16), (1, .int x1), (2, .int x2), (3, .int x3), (4, .int x4)], [], hh) _
                  refine sp_iload_n (p2 := 1) rfl rfl rfl ?_
                  refine sp_bipush (p2 := 3) (x := 100) rfl rfl (by decide) ?_
                  refine st_callS rfl rfl rfl (cl_within_T (b := 100) rfl (by omega)) ?_
                  show Ev _ _ _ (6, [(0, .ref 16), (1, .int x1), (2, .int x2), (3, .int x3), (4, .int x4)], [.int 1], hh) _
                  refine st_ifc (b := true) rfl (by decide) ?_
                  show Ev _ _ _ (11, _, _, _) _
                  refine sp_iload_n (p2 := 12) rfl rfl rfl ?_
                  refine sp_iconst (p2 := 13) (x := 4) rfl rfl (by decide) ?_
                  refine st_callS rfl rfl rfl (cl_within_T (b := 4) rfl (by omega)) ?_
                  show Ev _ _ _ (16, [(0, .ref 16), (1, .int x1), (2, .int x2), (3, .int x3), (4, .int x4)], [.int 1], hh) _
                  refine st_ifc (b := false) rfl (by decide) ?_
                  show Ev _ _ _ (19, _, _, _) _
                  refine sp_iload_n (p2 := 20) rfl rfl rfl ?_
                  refine sp_iconst (p2 := 21) (x := 1) rfl rfl (by decide) ?_
                  refine sp_bipush (p2 := 23) (x := 10) rfl rfl (by decide) ?_
                  refine st_callS rfl rfl rfl (cl_between_T (a := 1) (b := 10) rfl rfl (by omega)) ?_
                  show Ev _ _ _ (26, [(0, .ref 16), (1, .int x1), (2, .int x2), (3, .int x3), (4, .int x4)], [.int 1], hh) _
                  refine st_ifc (b := false) rfl (by decide) ?_
                  show Ev _ _ _ (29, _, _, _) _
                  refine sp_iload (p2 := 31) rfl rfl rfl ?_
                  refine sp_iconst (p2 := 32) (x := 1) rfl rfl (by decide) ?_
                  refine sp_bipush (p2 := 34) (x := 9) rfl rfl (by decide) ?_
                  refine st_callS rfl rfl rfl (cl_between_F (a := 1) (b := 9) rfl rfl (by omega)) ?_
                  show Ev _ _ _ (37, [(0, .ref 16), (1, .int x1), (2, .int x2), (3, .int x3), (4, .int x4)], [.int 0], hh) _
                  refine st_ifc (b := false) rfl (by decide) ?_
                  show Ev _ _ _ (40, _, _, _) _
                  refine sp_bipush (p2 := 42) (x := (-2)) rfl rfl (by decide) ?_
                  exact sp_iret rfl rfl
                · refine ca_of (d := 19) (M := mX12_raid) rfl (Nat.le_of_ble_eq_true rfl) ?_
                  show Ev im_K0 19 mX12_raid (0, [(0, .ref 164), (1, .int x1), (2, .int x2), (3, .int x3), (4, .int x4)], [], hh) _
                  refine sp_iload_n (p2 := 1) rfl rfl rfl ?_
                  refine st_callS rfl rfl rfl (cl_isCell_T (by omega)) ?_
                  show Ev _ _ _ (4, [(0, .ref 164), (1, .int x1), (2, .int x2), (3, .int x3), (4, .int x4)], [.int 1], hh) _
                  refine st_ifc (b := true) rfl (by decide) ?_
                  show Ev _ _ _ (9, _, _, _) _
                  refine sp_iload_n (p2 := 10) rfl rfl rfl ?_
                  refine sp_iconst (p2 := 11) (x := 0) rfl rfl (by decide) ?_
                  refine sp_iconst (p2 := 12) (x := 3) rfl rfl (by decide) ?_
                  refine st_callS rfl rfl rfl (cl_in_T (a := 0) (b := 3) rfl rfl (by omega)) ?_
                  show Ev _ _ _ (15, [(0, .ref 164), (1, .int x1), (2, .int x2), (3, .int x3), (4, .int x4)], [.int 1], hh) _
                  refine st_ifc (b := false) rfl (by decide) ?_
                  show Ev _ _ _ (18, _, _, _) _
                  refine sp_iload_n (p2 := 19) rfl rfl rfl ?_
                  refine sp_iconst (p2 := 20) (x := 1) rfl rfl (by decide) ?_
                  refine sp_bipush (p2 := 22) (x := 10) rfl rfl (by decide) ?_
                  refine st_callS rfl rfl rfl (cl_in_T (a := 1) (b := 10) rfl rfl (by omega)) ?_
                  show Ev _ _ _ (25, [(0, .ref 164), (1, .int x1), (2, .int x2), (3, .int x3), (4, .int x4)], [.int 1], hh) _
                  refine st_ifc (b := false) rfl (by decide) ?_
                  show Ev _ _ _ (28, _, _, _) _
                  refine sp_iload (p2 := 30) rfl rfl rfl ?_
                  refine sp_iconst (p2 := 31) (x := 1) rfl rfl (by decide) ?_
                  refine sp_bipush (p2 := 33) (x := 9) rfl rfl (by decide) ?_
                  refine st_callS rfl rfl rfl (cl_in_F (a := 1) (b := 9) rfl rfl (by omega)) ?_
                  show Ev _ _ _ (36, [(0, .ref 164), (1, .int x1), (2, .int x2), (3, .int x3), (4, .int x4)], [.int 0], hh) _
                  refine st_ifc (b := false) rfl (by decide) ?_
                  show Ev _ _ _ (39, _, _, _) _
                  refine sp_bipush (p2 := 41) (x := (-2)) rfl rfl (by decide) ?_
                  exact sp_iret rfl rfl
              · by_cases h8 : x4.toInt ≤ 9
                · obtain ⟨g1, hc1, g1_len, fr1⟩ := begin_ev x1 x2 x3 x4 (by omega) (by omega) (by omega) (by omega) (by omega)
                  have g1_148 := ob_fr (fr1 148 (by decide)) hh_148
                  have g1_173 := ia_fr (fr1 173 (by decide)) hh_173
                  have g1_174 := ia_fr (fr1 174 (by decide)) hh_174
                  have g1_175 := ia_fr (fr1 175 (by decide)) hh_175
                  have g1_176 := ia_fr (fr1 176 (by decide)) hh_176
                  refine ⟨.int 0, g1, (((((g1.set 173 (.inl (0, .inl ((([0, 0, 0, 0, 0, 0, 0, 0] : List Int32)).set 0 x1)))).set 174 (.inl (0, .inl ((([0, 0, 0, 0, 0, 0, 0, 0] : List Int32)).set 0 x2)))).set 175 (.inl (0, .inl ((([0, 0, 0, 0, 0, 0, 0, 0] : List Int32)).set 0 x3)))).set 176 (.inl (0, .inl ((([0, 0, 0, 0, 0, 0, 0, 0] : List Int32)).set 0 x4)))).set 148 (.inr (12, [.ref 165, .ref 166, .ref 167, .int 0, .ref 168, .ref 169, .ref 170, .ref 171, .ref 172, .int (-1), .int 0, .ref 173, .ref 174, .ref 175, .ref 176, .ref 177, .ref 178, .ref 179, .ref 180, .ref 181, .ref 182, .int 0, .ref 183, .ref 184, .int 0, .ref 185, .ref 186, .ref 187, .ref 188, .int 1, .ref 189, .ref 190, .ref 191, .ref 192, .ref 193, .int 0, .ref 194, .ref 195, .ref 196, .ref 197, .ref 198, .int 0, .ref 199, .int 0, .ref 200, .int 0, .int 0, .int (-1), .ref 201, .ref 202, .ref 203, .ref 204, .ref 205, .ref 206, .ref 207, .ref 208, .ref 209, .ref 210, .ref 211, .ref 212, .int 0, .int 0, .int 0, .ref 213, .ref 214, .ref 215]))), ?_, ?_⟩
                  · refine ca_of (d := 19) (M := mX11_raid) rfl (Nat.le_of_ble_eq_true rfl) ?_
                    show Ev im_K0 19 mX11_raid (0, [(0, .ref 16), (1, .int x1), (2, .int x2), (3, .int x3), (4, .int x4)], [], hh) _
                    refine sp_iload_n (p2 := 1) rfl rfl rfl ?_
                    refine sp_bipush (p2 := 3) (x := 100) rfl rfl (by decide) ?_
                    refine st_callS rfl rfl rfl (cl_within_T (b := 100) rfl (by omega)) ?_
                    show Ev _ _ _ (6, [(0, .ref 16), (1, .int x1), (2, .int x2), (3, .int x3), (4, .int x4)], [.int 1], hh) _
                    refine st_ifc (b := true) rfl (by decide) ?_
                    show Ev _ _ _ (11, _, _, _) _
                    refine sp_iload_n (p2 := 12) rfl rfl rfl ?_
                    refine sp_iconst (p2 := 13) (x := 4) rfl rfl (by decide) ?_
                    refine st_callS rfl rfl rfl (cl_within_T (b := 4) rfl (by omega)) ?_
                    show Ev _ _ _ (16, [(0, .ref 16), (1, .int x1), (2, .int x2), (3, .int x3), (4, .int x4)], [.int 1], hh) _
                    refine st_ifc (b := false) rfl (by decide) ?_
                    show Ev _ _ _ (19, _, _, _) _
                    refine sp_iload_n (p2 := 20) rfl rfl rfl ?_
                    refine sp_iconst (p2 := 21) (x := 1) rfl rfl (by decide) ?_
                    refine sp_bipush (p2 := 23) (x := 10) rfl rfl (by decide) ?_
                    refine st_callS rfl rfl rfl (cl_between_T (a := 1) (b := 10) rfl rfl (by omega)) ?_
                    show Ev _ _ _ (26, [(0, .ref 16), (1, .int x1), (2, .int x2), (3, .int x3), (4, .int x4)], [.int 1], hh) _
                    refine st_ifc (b := false) rfl (by decide) ?_
                    show Ev _ _ _ (29, _, _, _) _
                    refine sp_iload (p2 := 31) rfl rfl rfl ?_
                    refine sp_iconst (p2 := 32) (x := 1) rfl rfl (by decide) ?_
                    refine sp_bipush (p2 := 34) (x := 9) rfl rfl (by decide) ?_
                    refine st_callS rfl rfl rfl (cl_between_T (a := 1) (b := 9) rfl rfl (by omega)) ?_
                    show Ev _ _ _ (37, [(0, .ref 16), (1, .int x1), (2, .int x2), (3, .int x3), (4, .int x4)], [.int 1], hh) _
                    refine st_ifc (b := true) rfl (by decide) ?_
                    show Ev _ _ _ (43, _, _, _) _
                    refine sp_aload_n (p2 := 44) rfl rfl rfl ?_
                    refine st_get rfl hh_0 rfl ?_
                    show Ev _ _ _ (47, _, _, _) _
                    refine st_get rfl hh_77 rfl ?_
                    show Ev _ _ _ (50, _, _, _) _
                    refine sp_bipush (p2 := 52) (x := 8) rfl rfl (by decide) ?_
                    refine st_icmp (b := true) rfl (by decide) ?_
                    show Ev _ _ _ (58, _, _, _) _
                    refine sp_aload_n (p2 := 59) rfl rfl rfl ?_
                    refine st_get rfl hh_0 rfl ?_
                    show Ev _ _ _ (62, _, _, _) _
                    refine sp_iload_n (p2 := 63) rfl rfl rfl ?_
                    refine sp_iload_n (p2 := 64) rfl rfl rfl ?_
                    refine sp_iload_n (p2 := 65) rfl rfl rfl ?_
                    refine sp_iload (p2 := 67) rfl rfl rfl ?_
                    refine st_callV (R := 93) rfl rfl rfl hh_77 rfl hc1 ?_
                    show Ev _ _ _ (70, [(0, .ref 16), (1, .int x1), (2, .int x2), (3, .int x3), (4, .int x4)], [.int 0], g1) _
                    exact sp_iret rfl rfl
                  · refine ca_of (d := 19) (M := mX12_raid) rfl (Nat.le_of_ble_eq_true rfl) ?_
                    show Ev im_K0 19 mX12_raid (0, [(0, .ref 164), (1, .int x1), (2, .int x2), (3, .int x3), (4, .int x4)], [], g1) _
                    refine sp_iload_n (p2 := 1) rfl rfl rfl ?_
                    refine st_callS rfl rfl rfl (cl_isCell_T (by omega)) ?_
                    show Ev _ _ _ (4, [(0, .ref 164), (1, .int x1), (2, .int x2), (3, .int x3), (4, .int x4)], [.int 1], g1) _
                    refine st_ifc (b := true) rfl (by decide) ?_
                    show Ev _ _ _ (9, _, _, _) _
                    refine sp_iload_n (p2 := 10) rfl rfl rfl ?_
                    refine sp_iconst (p2 := 11) (x := 0) rfl rfl (by decide) ?_
                    refine sp_iconst (p2 := 12) (x := 3) rfl rfl (by decide) ?_
                    refine st_callS rfl rfl rfl (cl_in_T (a := 0) (b := 3) rfl rfl (by omega)) ?_
                    show Ev _ _ _ (15, [(0, .ref 164), (1, .int x1), (2, .int x2), (3, .int x3), (4, .int x4)], [.int 1], g1) _
                    refine st_ifc (b := false) rfl (by decide) ?_
                    show Ev _ _ _ (18, _, _, _) _
                    refine sp_iload_n (p2 := 19) rfl rfl rfl ?_
                    refine sp_iconst (p2 := 20) (x := 1) rfl rfl (by decide) ?_
                    refine sp_bipush (p2 := 22) (x := 10) rfl rfl (by decide) ?_
                    refine st_callS rfl rfl rfl (cl_in_T (a := 1) (b := 10) rfl rfl (by omega)) ?_
                    show Ev _ _ _ (25, [(0, .ref 164), (1, .int x1), (2, .int x2), (3, .int x3), (4, .int x4)], [.int 1], g1) _
                    refine st_ifc (b := false) rfl (by decide) ?_
                    show Ev _ _ _ (28, _, _, _) _
                    refine sp_iload (p2 := 30) rfl rfl rfl ?_
                    refine sp_iconst (p2 := 31) (x := 1) rfl rfl (by decide) ?_
                    refine sp_bipush (p2 := 33) (x := 9) rfl rfl (by decide) ?_
                    refine st_callS rfl rfl rfl (cl_in_T (a := 1) (b := 9) rfl rfl (by omega)) ?_
                    show Ev _ _ _ (36, [(0, .ref 164), (1, .int x1), (2, .int x2), (3, .int x3), (4, .int x4)], [.int 1], g1) _
                    refine st_ifc (b := true) rfl (by decide) ?_
                    show Ev _ _ _ (42, _, _, _) _
                    refine sp_aload_n (p2 := 43) rfl rfl rfl ?_
                    refine st_get rfl g1_148 rfl ?_
                    show Ev _ _ _ (46, _, _, _) _
                    refine sp_bipush (p2 := 48) (x := 8) rfl rfl (by decide) ?_
                    refine st_icmp (b := true) rfl (by decide) ?_
                    show Ev _ _ _ (54, _, _, _) _
                    refine sp_aload_n (p2 := 55) rfl rfl rfl ?_
                    refine st_get rfl g1_148 rfl ?_
                    show Ev _ _ _ (58, _, _, _) _
                    refine sp_aload_n (p2 := 59) rfl rfl rfl ?_
                    refine st_get rfl g1_148 rfl ?_
                    show Ev _ _ _ (62, _, _, _) _
                    refine sp_iload_n (p2 := 63) rfl rfl rfl ?_
                    refine st_iast (i := 173) rfl rfl g1_173 rfl ?_
                    show Ev _ _ _ (64, [(0, .ref 164), (1, .int x1), (2, .int x2), (3, .int x3), (4, .int x4)], [], (g1.set 173 (.inl (0, .inl ((([0, 0, 0, 0, 0, 0, 0, 0] : List Int32)).set 0 x1))))) _
                    refine sp_aload_n (p2 := 65) rfl rfl rfl ?_
                    refine st_get rfl (ob_ne (by decide) g1_148) rfl ?_
                    show Ev _ _ _ (68, _, _, _) _
                    refine sp_aload_n (p2 := 69) rfl rfl rfl ?_
                    refine st_get rfl (ob_ne (by decide) g1_148) rfl ?_
                    show Ev _ _ _ (72, _, _, _) _
                    refine sp_iload_n (p2 := 73) rfl rfl rfl ?_
                    refine st_iast (i := 174) rfl rfl (ia_ne (by decide) g1_174) rfl ?_
                    show Ev _ _ _ (74, [(0, .ref 164), (1, .int x1), (2, .int x2), (3, .int x3), (4, .int x4)], [], ((g1.set 173 (.inl (0, .inl ((([0, 0, 0, 0, 0, 0, 0, 0] : List Int32)).set 0 x1)))).set 174 (.inl (0, .inl ((([0, 0, 0, 0, 0, 0, 0, 0] : List Int32)).set 0 x2))))) _
                    refine sp_aload_n (p2 := 75) rfl rfl rfl ?_
                    refine st_get rfl (ob_ne (by decide) (ob_ne (by decide) g1_148)) rfl ?_
                    show Ev _ _ _ (78, _, _, _) _
                    refine sp_aload_n (p2 := 79) rfl rfl rfl ?_
                    refine st_get rfl (ob_ne (by decide) (ob_ne (by decide) g1_148)) rfl ?_
                    show Ev _ _ _ (82, _, _, _) _
                    refine sp_iload_n (p2 := 83) rfl rfl rfl ?_
                    refine st_iast (i := 175) rfl rfl (ia_ne (by decide) (ia_ne (by decide) g1_175)) rfl ?_
                    show Ev _ _ _ (84, [(0, .ref 164), (1, .int x1), (2, .int x2), (3, .int x3), (4, .int x4)], [], (((g1.set 173 (.inl (0, .inl ((([0, 0, 0, 0, 0, 0, 0, 0] : List Int32)).set 0 x1)))).set 174 (.inl (0, .inl ((([0, 0, 0, 0, 0, 0, 0, 0] : List Int32)).set 0 x2)))).set 175 (.inl (0, .inl ((([0, 0, 0, 0, 0, 0, 0, 0] : List Int32)).set 0 x3))))) _
                    refine sp_aload_n (p2 := 85) rfl rfl rfl ?_
                    refine st_get rfl (ob_ne (by decide) (ob_ne (by decide) (ob_ne (by decide) g1_148))) rfl ?_
                    show Ev _ _ _ (88, _, _, _) _
                    refine sp_aload_n (p2 := 89) rfl rfl rfl ?_
                    refine st_get rfl (ob_ne (by decide) (ob_ne (by decide) (ob_ne (by decide) g1_148))) rfl ?_
                    show Ev _ _ _ (92, _, _, _) _
                    refine sp_iload (p2 := 94) rfl rfl rfl ?_
                    refine st_iast (i := 176) rfl rfl (ia_ne (by decide) (ia_ne (by decide) (ia_ne (by decide) g1_176))) rfl ?_
                    show Ev _ _ _ (95, [(0, .ref 164), (1, .int x1), (2, .int x2), (3, .int x3), (4, .int x4)], [], ((((g1.set 173 (.inl (0, .inl ((([0, 0, 0, 0, 0, 0, 0, 0] : List Int32)).set 0 x1)))).set 174 (.inl (0, .inl ((([0, 0, 0, 0, 0, 0, 0, 0] : List Int32)).set 0 x2)))).set 175 (.inl (0, .inl ((([0, 0, 0, 0, 0, 0, 0, 0] : List Int32)).set 0 x3)))).set 176 (.inl (0, .inl ((([0, 0, 0, 0, 0, 0, 0, 0] : List Int32)).set 0 x4))))) _
                    refine sp_aload_n (p2 := 96) rfl rfl rfl ?_
                    refine sp_dup (p2 := 97) rfl rfl rfl ?_
                    refine st_get rfl (ob_ne (by decide) (ob_ne (by decide) (ob_ne (by decide) (ob_ne (by decide) g1_148)))) rfl ?_
                    show Ev _ _ _ (100, _, _, _) _
                    refine sp_iconst (p2 := 101) (x := 1) rfl rfl (by decide) ?_
                    refine sp_iadd (p2 := 102) (z := 1) rfl rfl (by decide) ?_
                    refine st_put (i := 148) rfl rfl (ob_ne (by decide) (ob_ne (by decide) (ob_ne (by decide) (ob_ne (by decide) g1_148)))) rfl rfl (Nat.le_of_ble_eq_true rfl) ?_
                    show Ev _ _ _ (105, [(0, .ref 164), (1, .int x1), (2, .int x2), (3, .int x3), (4, .int x4)], [], (((((g1.set 173 (.inl (0, .inl ((([0, 0, 0, 0, 0, 0, 0, 0] : List Int32)).set 0 x1)))).set 174 (.inl (0, .inl ((([0, 0, 0, 0, 0, 0, 0, 0] : List Int32)).set 0 x2)))).set 175 (.inl (0, .inl ((([0, 0, 0, 0, 0, 0, 0, 0] : List Int32)).set 0 x3)))).set 176 (.inl (0, .inl ((([0, 0, 0, 0, 0, 0, 0, 0] : List Int32)).set 0 x4)))).set 148 (.inr (12, [.ref 165, .ref 166, .ref 167, .int 0, .ref 168, .ref 169, .ref 170, .ref 171, .ref 172, .int (-1), .int 0, .ref 173, .ref 174, .ref 175, .ref 176, .ref 177, .ref 178, .ref 179, .ref 180, .ref 181, .ref 182, .int 0, .ref 183, .ref 184, .int 0, .ref 185, .ref 186, .ref 187, .ref 188, .int 1, .ref 189, .ref 190, .ref 191, .ref 192, .ref 193, .int 0, .ref 194, .ref 195, .ref 196, .ref 197, .ref 198, .int 0, .ref 199, .int 0, .ref 200, .int 0, .int 0, .int (-1), .ref 201, .ref 202, .ref 203, .ref 204, .ref 205, .ref 206, .ref 207, .ref 208, .ref 209, .ref 210, .ref 211, .ref 212, .int 0, .int 0, .int 0, .ref 213, .ref 214, .ref 215])))) _
                    refine sp_aload_n (p2 := 106) rfl rfl rfl ?_
                    refine st_get rfl (ob_eq2 (sl_len (sl_len (sl_len (sl_len g1_len)))) (by decide)) rfl ?_
                    show Ev _ _ _ (109, _, _, _) _
                    refine sp_iconst (p2 := 110) (x := 1) rfl rfl (by decide) ?_
                    refine sp_isub (p2 := 111) (z := 0) rfl rfl (by decide) ?_
                    exact sp_iret rfl rfl
                · refine ⟨.int (-2), hh, hh, ?_, ?_⟩
                  · refine ca_of (d := 19) (M := mX11_raid) rfl (Nat.le_of_ble_eq_true rfl) ?_
                    show Ev im_K0 19 mX11_raid (0, [(0, .ref 16), (1, .int x1), (2, .int x2), (3, .int x3), (4, .int x4)], [], hh) _
                    refine sp_iload_n (p2 := 1) rfl rfl rfl ?_
                    refine sp_bipush (p2 := 3) (x := 100) rfl rfl (by decide) ?_
                    refine st_callS rfl rfl rfl (cl_within_T (b := 100) rfl (by omega)) ?_
                    show Ev _ _ _ (6, [(0, .ref 16), (1, .int x1), (2, .int x2), (3, .int x3), (4, .int x4)], [.int 1], hh) _
                    refine st_ifc (b := true) rfl (by decide) ?_
                    show Ev _ _ _ (11, _, _, _) _
                    refine sp_iload_n (p2 := 12) rfl rfl rfl ?_
                    refine sp_iconst (p2 := 13) (x := 4) rfl rfl (by decide) ?_
                    refine st_callS rfl rfl rfl (cl_within_T (b := 4) rfl (by omega)) ?_
                    show Ev _ _ _ (16, [(0, .ref 16), (1, .int x1), (2, .int x2), (3, .int x3), (4, .int x4)], [.int 1], hh) _
                    refine st_ifc (b := false) rfl (by decide) ?_
                    show Ev _ _ _ (19, _, _, _) _
                    refine sp_iload_n (p2 := 20) rfl rfl rfl ?_
                    refine sp_iconst (p2 := 21) (x := 1) rfl rfl (by decide) ?_
                    refine sp_bipush (p2 := 23) (x := 10) rfl rfl (by decide) ?_
                    refine st_callS rfl rfl rfl (cl_between_T (a := 1) (b := 10) rfl rfl (by omega)) ?_
                    show Ev _ _ _ (26, [(0, .ref 16), (1, .int x1), (2, .int x2), (3, .int x3), (4, .int x4)], [.int 1], hh) _
                    refine st_ifc (b := false) rfl (by decide) ?_
                    show Ev _ _ _ (29, _, _, _) _
                    refine sp_iload (p2 := 31) rfl rfl rfl ?_
                    refine sp_iconst (p2 := 32) (x := 1) rfl rfl (by decide) ?_
                    refine sp_bipush (p2 := 34) (x := 9) rfl rfl (by decide) ?_
                    refine st_callS rfl rfl rfl (cl_between_F (a := 1) (b := 9) rfl rfl (by omega)) ?_
                    show Ev _ _ _ (37, [(0, .ref 16), (1, .int x1), (2, .int x2), (3, .int x3), (4, .int x4)], [.int 0], hh) _
                    refine st_ifc (b := false) rfl (by decide) ?_
                    show Ev _ _ _ (40, _, _, _) _
                    refine sp_bipush (p2 := 42) (x := (-2)) rfl rfl (by decide) ?_
                    exact sp_iret rfl rfl
                  · refine ca_of (d := 19) (M := mX12_raid) rfl (Nat.le_of_ble_eq_true rfl) ?_
                    show Ev im_K0 19 mX12_raid (0, [(0, .ref 164), (1, .int x1), (2, .int x2), (3, .int x3), (4, .int x4)], [], hh) _
                    refine sp_iload_n (p2 := 1) rfl rfl rfl ?_
                    refine st_callS rfl rfl rfl (cl_isCell_T (by omega)) ?_
                    show Ev _ _ _ (4, [(0, .ref 164), (1, .int x1), (2, .int x2), (3, .int x3), (4, .int x4)], [.int 1], hh) _
                    refine st_ifc (b := true) rfl (by decide) ?_
                    show Ev _ _ _ (9, _, _, _) _
                    refine sp_iload_n (p2 := 10) rfl rfl rfl ?_
                    refine sp_iconst (p2 := 11) (x := 0) rfl rfl (by decide) ?_
                    refine sp_iconst (p2 := 12) (x := 3) rfl rfl (by decide) ?_
                    refine st_callS rfl rfl rfl (cl_in_T (a := 0) (b := 3) rfl rfl (by omega)) ?_
                    show Ev _ _ _ (15, [(0, .ref 164), (1, .int x1), (2, .int x2), (3, .int x3), (4, .int x4)], [.int 1], hh) _
                    refine st_ifc (b := false) rfl (by decide) ?_
                    show Ev _ _ _ (18, _, _, _) _
                    refine sp_iload_n (p2 := 19) rfl rfl rfl ?_
                    refine sp_iconst (p2 := 20) (x := 1) rfl rfl (by decide) ?_
                    refine sp_bipush (p2 := 22) (x := 10) rfl rfl (by decide) ?_
                    refine st_callS rfl rfl rfl (cl_in_T (a := 1) (b := 10) rfl rfl (by omega)) ?_
                    show Ev _ _ _ (25, [(0, .ref 164), (1, .int x1), (2, .int x2), (3, .int x3), (4, .int x4)], [.int 1], hh) _
                    refine st_ifc (b := false) rfl (by decide) ?_
                    show Ev _ _ _ (28, _, _, _) _
                    refine sp_iload (p2 := 30) rfl rfl rfl ?_
                    refine sp_iconst (p2 := 31) (x := 1) rfl rfl (by decide) ?_
                    refine sp_bipush (p2 := 33) (x := 9) rfl rfl (by decide) ?_
                    refine st_callS rfl rfl rfl (cl_in_F (a := 1) (b := 9) rfl rfl (by omega)) ?_
                    show Ev _ _ _ (36, [(0, .ref 164), (1, .int x1), (2, .int x2), (3, .int x3), (4, .int x4)], [.int 0], hh) _
                    refine st_ifc (b := false) rfl (by decide) ?_
                    show Ev _ _ _ (39, _, _, _) _
                    refine sp_bipush (p2 := 41) (x := (-2)) rfl rfl (by decide) ?_
                    exact sp_iret rfl rfl
            · refine ⟨.int (-2), hh, hh, ?_, ?_⟩
              · refine ca_of (d := 19) (M := mX11_raid) rfl (Nat.le_of_ble_eq_true rfl) ?_
                show Ev im_K0 19 mX11_raid (0, [(0, .ref 16), (1, .int x1), (2, .int x2), (3, .int x3), (4, .int x4)], [], hh) _
                refine sp_iload_n (p2 := 1) rfl rfl rfl ?_
                refine sp_bipush (p2 := 3) (x := 100) rfl rfl (by decide) ?_
                refine st_callS rfl rfl rfl (cl_within_T (b := 100) rfl (by omega)) ?_
                show Ev _ _ _ (6, [(0, .ref 16), (1, .int x1), (2, .int x2), (3, .int x3), (4, .int x4)], [.int 1], hh) _
                refine st_ifc (b := true) rfl (by decide) ?_
                show Ev _ _ _ (11, _, _, _) _
                refine sp_iload_n (p2 := 12) rfl rfl rfl ?_
                refine sp_iconst (p2 := 13) (x := 4) rfl rfl (by decide) ?_
                refine st_callS rfl rfl rfl (cl_within_T (b := 4) rfl (by omega)) ?_
                show Ev _ _ _ (16, [(0, .ref 16), (1, .int x1), (2, .int x2), (3, .int x3), (4, .int x4)], [.int 1], hh) _
                refine st_ifc (b := false) rfl (by decide) ?_
                show Ev _ _ _ (19, _, _, _) _
                refine sp_iload_n (p2 := 20) rfl rfl rfl ?_
                refine sp_iconst (p2 := 21) (x := 1) rfl rfl (by decide) ?_
                refine sp_bipush (p2 := 23) (x := 10) rfl rfl (by decide) ?_
                refine st_callS rfl rfl rfl (cl_between_F (a := 1) (b := 10) rfl rfl (by omega)) ?_
                show Ev _ _ _ (26, [(0, .ref 16), (1, .int x1), (2, .int x2), (3, .int x3), (4, .int x4)], [.int 0], hh) _
                refine st_ifc (b := true) rfl (by decide) ?_
                show Ev _ _ _ (40, _, _, _) _
                refine sp_bipush (p2 := 42) (x := (-2)) rfl rfl (by decide) ?_
                exact sp_iret rfl rfl
              · refine ca_of (d := 19) (M := mX12_raid) rfl (Nat.le_of_ble_eq_true rfl) ?_
                show Ev im_K0 19 mX12_raid (0, [(0, .ref 164), (1, .int x1), (2, .int x2), (3, .int x3), (4, .int x4)], [], hh) _
                refine sp_iload_n (p2 := 1) rfl rfl rfl ?_
                refine st_callS rfl rfl rfl (cl_isCell_T (by omega)) ?_
                show Ev _ _ _ (4, [(0, .ref 164), (1, .int x1), (2, .int x2), (3, .int x3), (4, .int x4)], [.int 1], hh) _
                refine st_ifc (b := true) rfl (by decide) ?_
                show Ev _ _ _ (9, _, _, _) _
                refine sp_iload_n (p2 := 10) rfl rfl rfl ?_
                refine sp_iconst (p2 := 11) (x := 0) rfl rfl (by decide) ?_
                refine sp_iconst (p2 := 12) (x := 3) rfl rfl (by decide) ?_
                refine st_callS rfl rfl rfl (cl_in_T (a := 0) (b := 3) rfl rfl (by omega)) ?_
                show Ev _ _ _ (15, [(0, .ref 164), (1, .int x1), (2, .int x2), (3, .int x3), (4, .int x4)], [.int 1], hh) _
                refine st_ifc (b := false) rfl (by decide) ?_
                show Ev _ _ _ (18, _, _, _) _
                refine sp_iload_n (p2 := 19) rfl rfl rfl ?_
                refine sp_iconst (p2 := 20) (x := 1) rfl rfl (by decide) ?_
                refine sp_bipush (p2 := 22) (x := 10) rfl rfl (by decide) ?_
                refine st_callS rfl rfl rfl (cl_in_F (a := 1) (b := 10) rfl rfl (by omega)) ?_
                show Ev _ _ _ (25, [(0, .ref 164), (1, .int x1), (2, .int x2), (3, .int x3), (4, .int x4)], [.int 0], hh) _
                refine st_ifc (b := true) rfl (by decide) ?_
                show Ev _ _ _ (39, _, _, _) _
                refine sp_bipush (p2 := 41) (x := (-2)) rfl rfl (by decide) ?_
                exact sp_iret rfl rfl
        · refine ⟨.int (-2), hh, hh, ?_, ?_⟩
          · refine ca_of (d := 19) (M := mX11_raid) rfl (Nat.le_of_ble_eq_true rfl) ?_
            show Ev im_K0 19 mX11_raid (0, [(0, .ref 16), (1, .int x1), (2, .int x2), (3, .int x3), (4, .int x4)], [], hh) _
            refine sp_iload_n (p2 := 1) rfl rfl rfl ?_
            refine sp_bipush (p2 := 3) (x := 100) rfl rfl (by decide) ?_
            refine st_callS rfl rfl rfl (cl_within_T (b := 100) rfl (by omega)) ?_
            show Ev _ _ _ (6, [(0, .ref 16), (1, .int x1), (2, .int x2), (3, .int x3), (4, .int x4)], [.int 1], hh) _
            refine st_ifc (b := true) rfl (by decide) ?_
            show Ev _ _ _ (11, _, _, _) _
            refine sp_iload_n (p2 := 12) rfl rfl rfl ?_
            refine sp_iconst (p2 := 13) (x := 4) rfl rfl (by decide) ?_
            refine st_callS rfl rfl rfl (cl_within_F (b := 4) rfl (by omega)) ?_
            show Ev _ _ _ (16, [(0, .ref 16), (1, .int x1), (2, .int x2), (3, .int x3), (4, .int x4)], [.int 0], hh) _
            refine st_ifc (b := true) rfl (by decide) ?_
            show Ev _ _ _ (40, _, _, _) _
            refine sp_bipush (p2 := 42) (x := (-2)) rfl rfl (by decide) ?_
            exact sp_iret rfl rfl
          · refine ca_of (d := 19) (M := mX12_raid) rfl (Nat.le_of_ble_eq_true rfl) ?_
            show Ev im_K0 19 mX12_raid (0, [(0, .ref 164), (1, .int x1), (2, .int x2), (3, .int x3), (4, .int x4)], [], hh) _
            refine sp_iload_n (p2 := 1) rfl rfl rfl ?_
            refine st_callS rfl rfl rfl (cl_isCell_T (by omega)) ?_
            show Ev _ _ _ (4, [(0, .ref 164), (1, .int x1), (2, .int x2), (3, .int x3), (4, .int x4)], [.int 1], hh) _
            refine st_ifc (b := true) rfl (by decide) ?_
            show Ev _ _ _ (9, _, _, _) _
            refine sp_iload_n (p2 := 10) rfl rfl rfl ?_
            refine sp_iconst (p2 := 11) (x := 0) rfl rfl (by decide) ?_
            refine sp_iconst (p2 := 12) (x := 3) rfl rfl (by decide) ?_
            refine st_callS rfl rfl rfl (cl_in_F (a := 0) (b := 3) rfl rfl (by omega)) ?_
            show Ev _ _ _ (15, [(0, .ref 164), (1, .int x1), (2, .int x2), (3, .int x3), (4, .int x4)], [.int 0], hh) _
            refine st_ifc (b := true) rfl (by decide) ?_
            show Ev _ _ _ (39, _, _, _) _
            refine sp_bipush (p2 := 41) (x := (-2)) rfl rfl (by decide) ?_
            exact sp_iret rfl rfl
    · refine ⟨.int (-1), hh, hh, ?_, ?_⟩
      · refine ca_of (d := 19) (M := mX11_raid) rfl (Nat.le_of_ble_eq_true rfl) ?_
        show Ev im_K0 19 mX11_raid (0, [(0, .ref 16), (1, .int x1), (2, .int x2), (3, .int x3), (4, .int x4)], [], hh) _
        refine sp_iload_n (p2 := 1) rfl rfl rfl ?_
        refine sp_bipush (p2 := 3) (x := 100) rfl rfl (by decide) ?_
        refine st_callS rfl rfl rfl (cl_within_F (b := 100) rfl (by omega)) ?_
        show Ev _ _ _ (6, [(0, .ref 16), (1, .int x1), (2, .int x2), (3, .int x3), (4, .int x4)], [.int 0], hh) _
        refine st_ifc (b := false) rfl (by decide) ?_
        show Ev _ _ _ (9, _, _, _) _
        refine sp_iconst (p2 := 10) (x := (-1)) rfl rfl (by decide) ?_
        exact sp_iret rfl rfl
      · refine ca_of (d := 19) (M := mX12_raid) rfl (Nat.le_of_ble_eq_true rfl) ?_
        show Ev im_K0 19 mX12_raid (0, [(0, .ref 164), (1, .int x1), (2, .int x2), (3, .int x3), (4, .int x4)], [], hh) _
        refine sp_iload_n (p2 := 1) rfl rfl rfl ?_
        refine st_callS rfl rfl rfl (cl_isCell_F (by omega)) ?_
        show Ev _ _ _ (4, [(0, .ref 164), (1, .int x1), (2, .int x2), (3, .int x3), (4, .int x4)], [.int 0], hh) _
        refine st_ifc (b := false) rfl (by decide) ?_
        show Ev _ _ _ (7, _, _, _) _
        refine sp_iconst (p2 := 8) (x := (-1)) rfl rfl (by decide) ?_
        exact sp_iret rfl rfl
