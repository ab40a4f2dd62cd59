/-! small facts: powers of two, bytes -/
theorem shl12 {r : Int32} (h0 : 0 ≤ r.toInt) (h1 : r.toInt ≤ 12) : 0 ≤ ((1 : Int32) <<< (r &&& 31)).toInt ∧ ((1 : Int32) <<< (r &&& 31)).toInt ≤ 4096 := by
  rcases (show r.toInt = 0 ∨ r.toInt = 1 ∨ r.toInt = 2 ∨ r.toInt = 3 ∨ r.toInt = 4 ∨ r.toInt = 5 ∨ r.toInt = 6 ∨ r.toInt = 7 ∨ r.toInt = 8 ∨ r.toInt = 9 ∨ r.toInt = 10 ∨ r.toInt = 11 ∨ r.toInt = 12 by omega) with h | h | h | h | h | h | h | h | h | h | h | h | h
  · obtain rfl : r = 0 := i32_ext h
    decide
  · obtain rfl : r = 1 := i32_ext h
    decide
  · obtain rfl : r = 2 := i32_ext h
    decide
  · obtain rfl : r = 3 := i32_ext h
    decide
  · obtain rfl : r = 4 := i32_ext h
    decide
  · obtain rfl : r = 5 := i32_ext h
    decide
  · obtain rfl : r = 6 := i32_ext h
    decide
  · obtain rfl : r = 7 := i32_ext h
    decide
  · obtain rfl : r = 8 := i32_ext h
    decide
  · obtain rfl : r = 9 := i32_ext h
    decide
  · obtain rfl : r = 10 := i32_ext h
    decide
  · obtain rfl : r = 11 := i32_ext h
    decide
  · obtain rfl : r = 12 := i32_ext h
    decide
theorem lg_cmp_eq0 {x y : Int64} (h : lg_cmp x y = 0) : x = y := by
  unfold lg_cmp at h
  by_cases h1 : x = y
  · exact h1
  · exfalso
    revert h
    repeat' split
    all_goals first | (intro h; exact absurd h (by decide)) | (intro h; omega) | (intro h; simp_all)
theorem and255 {x : Int64} {y : Int32} (h : x &&& 255 = Int32.toInt64 y) : 0 ≤ y.toInt := by
  have e1 : (x &&& 255).toInt = y.toInt := by rw [h]; exact Int32.toInt_toInt64 y
  have e2 : 0 ≤ (x &&& 255).toInt := by
    have e3 : (x &&& 255).toBitVec = x.toBitVec &&& 255#64 := rfl
    show 0 ≤ (x &&& 255).toBitVec.toInt
    rw [e3, BitVec.toInt_eq_toNat_of_lt]
    · omega
    · rw [BitVec.toNat_and]
      have : x.toBitVec.toNat &&& (255#64).toNat ≤ (255#64).toNat := Nat.and_le_right
      have e4 : (255#64).toNat = 255 := rfl
      omega
  omega
/-- a row of longs that never changes -/
theorem tl_l {K : im_K} {d : Nat} {M : im_M} {pc p2 : Nat} {lv : im_L} {st : List Value} {h : im_H} {Q : Option Value → im_H → Prop} {R i n : Nat} {j : Int32} (ha : im_at M pc = some (.laload, [])) (hp : pc + 1 = p2) (hI : tI h) (hR : R = 16 + i) (hs : tS[i]? = some (1, 2, n)) (h0 : 0 ≤ j.toInt) (h1 : j.toInt < n) (k : ∀ y : Int64, EvP K d M (p2, lv, .long y :: st, h) Q) : EvP K d M (pc, lv, .int j :: .ref R :: st, h) Q := by
  subst hp; subst hR
  have hsh : (im_shs h)[i]? = some (1, 2, n) := by rw [hI.1]; exact hs
  unfold im_shs at hsh
  rw [List.getElem?_map] at hsh
  cases hx : h[i]? with
  | none => rw [hx] at hsh; cases hsh
  | some x =>
    rw [hx] at hsh
    rcases x with ⟨t2, l | l | l⟩ | ⟨c2, fs⟩
    · simp [im_sh] at hsh
    · simp [im_sh] at hsh
      obtain ⟨rfl, hn⟩ := hsh
      have hla : im_la h (16 + i) = some l := by
        unfold im_la
        rw [if_pos (by omega), show 16 + i - 16 = i by omega, hx]
        simp
      refine evp (fun r => ev_step (st_at ha ?_)) (k (l.getD j.toNatClampNeg 0))
      show ((im_la h (16 + i)).bind fun l => if im_in j l.length then im_nx (pc + 1) lv (.long (l.getD j.toNatClampNeg 0) :: st) h else none) = _
      rw [hla]
      simp only [Option.bind_some]
      rw [if_pos (in_at hn h0 (by omega))]
      rfl
    · simp [im_sh] at hsh
    · simp [im_sh] at hsh
