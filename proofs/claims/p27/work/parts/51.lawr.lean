/-! ROWS for the law's own body, and what a method answers -/
section LWR
variable {K : im_K} {d : Nat} {M : im_M} {pc p2 : Nat} {lv lv2 : im_L} {st : List Value} {h : im_H} {r : Option Value × im_H}
theorem sp_lor {x y z : Int64} (ha : im_at M pc = some (.lor, [])) (hp : pc + 1 = p2) (hz : x ||| y = z) (k : Ev K d M (p2, lv, .long z :: st, h) r) : Ev K d M (pc, lv, .long y :: .long x :: st, h) r := by
  subst hp; subst hz
  exact ev_step (st_at ha rfl) k
theorem sp_lshl {x z : Int64} {y : Int32} (ha : im_at M pc = some (.lshl, [])) (hp : pc + 1 = p2) (hz : x <<< (y.toInt64 &&& 63) = z) (k : Ev K d M (p2, lv, .long z :: st, h) r) : Ev K d M (pc, lv, .int y :: .long x :: st, h) r := by
  subst hp; subst hz
  exact ev_step (st_at ha rfl) k
theorem sp_lcmp {x y : Int64} {z : Int32} (ha : im_at M pc = some (.lcmp, [])) (hp : pc + 1 = p2) (hz : lg_cmp x y = z) (k : Ev K d M (p2, lv, .int z :: st, h) r) : Ev K d M (pc, lv, .long y :: .long x :: st, h) r := by
  subst hp; subst hz
  exact ev_step (st_at ha rfl) k
theorem sp_new {idx a x R : Nat} {tys : List FieldType} (ha : im_at M pc = some (.new idx, [a, 0, 0, 0, x])) (hp : pc + 3 = p2) (ht : K.2.1[a]? = some tys) (hR : 16 + h.length = R) (k : Ev K d M (p2, lv, .ref R :: st, h ++ [.inr (a, tys.map defaultValue)]) r) : Ev K d M (pc, lv, st, h) r := by
  subst hp; subst hR
  refine ev_step (st_at ha ?_) k
  show ((K.2.1[a]?).bind fun tys => im_nx (pc + 3) lv (.ref (16 + h.length) :: st) (h ++ [.inr (a, tys.map defaultValue)])) = _
  rw [ht]
  rfl
theorem sp_slen {R : Nat} {l : List Int32} {x : Int32} (ha : im_at M pc = some (.arraylength, [])) (hp : pc + 1 = p2) (hR : ¬ 16 ≤ R) (hl : K.1[R]? = some l) (hx : Int32.ofNat l.length = x) (k : Ev K d M (p2, lv, .int x :: st, h) r) : Ev K d M (pc, lv, .ref R :: st, h) r := by
  subst hp; subst hx
  refine ev_step (st_at ha ?_) k
  show ((im_1r (.ref R :: st)).bind fun q => (if 16 ≤ q.1 then im_len h q.1 else (K.1[q.1]?).map List.length).bind fun n => im_nx (pc + 1) lv (.int (Int32.ofNat n) :: q.2) h) = _
  simp only [im_1r, Option.bind_some, if_neg hR, hl, Option.map_some]
  rfl
end LWR
theorem lg_cmp_self (x : Int64) : lg_cmp x x = 0 := by
  unfold lg_cmp
  simp
/-- the law's locals -/
def lwL (i : Int32) : im_L := [(3, .int i), (2, .ref 164), (1, .ref 16), (0, .ref 5)]
/-- script[i + k] is read -/
theorem lw_rd {l : List Int32} {d pc p2 : Nat} {kk : Int} {i : Int32} {n : Nat} {st : List Value} {h : im_H} {r : Option Value × im_H} (k : Nat) (a0 : im_at mL_law pc = some (.aload_n 0, [])) (a1 : im_at mL_law (pc + 1) = some (.iload_n 3, [])) (a2 : im_at mL_law (pc + 2) = some (.iconst kk, [])) (a3 : im_at mL_law (pc + 3) = some (.iadd, [])) (a4 : im_at mL_law (pc + 4) = some (.iaload, [])) (hp : pc + 5 = p2) (hk : (Int32.ofInt kk).toInt = k) (hi : i.toInt = n) (hl : n + k < l.length) (hb : l.length < 2147483648) (kx : Ev (im_K1 l) d mL_law (p2, lwL i, .int (l.getD (n + k) 0) :: st, h) r) : Ev (im_K1 l) d mL_law (pc, lwL i, st, h) r := by
  subst hp
  have e : Int32.toInt (i + Int32.ofInt kk) = (n + k : Nat) := by rw [i32_addE hk (by omega) (by omega), hi]; omega
  refine sp_aload_n (p2 := pc + 1) a0 rfl rfl ?_
  refine sp_iload_n (p2 := pc + 2) a1 rfl rfl ?_
  refine sp_iconst (p2 := pc + 3) (x := Int32.ofInt kk) a2 rfl rfl ?_
  refine sp_iadd (p2 := pc + 4) (z := i + Int32.ofInt kk) a3 rfl rfl ?_
  exact st_isld (R := 5) (l := l) a4 (by decide) rfl (in_at rfl (by omega) (by omega)) (by rw [clamp_of_toInt e]) kx
/-! what a method answers, by its type -/
def im_rk (ret : Option FieldType) (v : Option Value) : Prop := (ret = some .int ∧ ∃ x, v = some (.int x)) ∨ (ret = some .boolean ∧ ∃ x : Int32, (x = 0 ∨ x = 1) ∧ v = some (.int x)) ∨ (ret = some .long ∧ ∃ x, v = some (.long x)) ∨ (ret = none ∧ v = none)
theorem ins_ret {K : im_K} {M : im_M} {i : Instr} {a b w z pc : Nat} {lv : im_L} {st : List Value} {h : im_H} {v : Option Value} (hs : im_ins K M i a b w z pc lv st h = some (.inr (.inr v))) : im_rk M.2.2.2.1 v := by
  by_cases hi : im_isC i = false
  · exact absurd hs (im_nxs hi _)
  cases i
  case ireturn =>
    obtain ⟨u, h1, hs1⟩ := im_bd hs
    split at hs1
    · rename_i hr1 hr2
      cases hs1
      exact Or.inl ⟨hr1, _, rfl⟩
    · rename_i hr1 hr2
      obtain ⟨h01, hs2⟩ := im_ite _ hs1
      cases hs2
      exact Or.inr (Or.inl ⟨hr1, _, h01, rfl⟩)
    · cases hs1
  case lreturn =>
    obtain ⟨u, h1, hs1⟩ := im_bd hs
    split at hs1
    · rename_i hr1 hr2
      cases hs1
      exact Or.inr (Or.inr (Or.inl ⟨hr1, _, rfl⟩))
    · cases hs1
  case return_ =>
    have hs : (match M.2.2.2.1, st with
      | none, [] => (some (.inr (.inr none)) : Option im_O)
      | _, _ => none) = some (Sum.inr (Sum.inr v)) := hs
    split at hs
    · cases hs
      exact Or.inr (Or.inr (Or.inr ⟨by assumption, rfl⟩))
    · cases hs
  case invokestatic idx =>
    exfalso
    rcases b with _ | _ | _ | _ | _ | _ | _ | b
    · obtain ⟨_, _, hs⟩ := im_bd hs
      obtain ⟨_, hs⟩ := im_ite _ hs
      cases hs
    · cases hs
    · cases hs
    · have hs : im_copy pc lv st h z = some (.inr (.inr v)) := hs
      obtain ⟨_, _, hs⟩ := im_bd hs
      obtain ⟨_, _, hs⟩ := im_bd hs
      obtain ⟨_, _, hs⟩ := im_bd hs
      obtain ⟨_, _, hs⟩ := im_bd hs
      obtain ⟨_, _, hs⟩ := im_bd hs
      obtain ⟨_, _, hs⟩ := im_bd hs
      obtain ⟨_, _, hs⟩ := im_bd hs
      obtain ⟨_, hs⟩ := im_ite _ hs
      exact absurd hs (nx_nx _)
    · cases hs
    · obtain ⟨_, _, hs⟩ := im_bd hs
      obtain ⟨_, _, hs⟩ := im_bd hs
      obtain ⟨_, hs⟩ := im_ite _ hs
      exact absurd hs (nx_nx _)
    · obtain ⟨_, _, hs⟩ := im_bd hs
      obtain ⟨_, _, hs⟩ := im_bd hs
      obtain ⟨_, hs⟩ := im_ite _ hs
      exact absurd hs (nx_nx _)
    · cases hs
  case invokespecial idx =>
    exfalso
    rcases b with _ | _ | _ | _ | _ | b
    · obtain ⟨_, _, hs⟩ := im_bd hs
      obtain ⟨_, _, hs⟩ := im_bd hs
      obtain ⟨_, hs⟩ := im_ite _ hs
      cases hs
    · cases hs
    · cases hs
    · cases hs
    · obtain ⟨r, h3, hs⟩ := im_bd hs
      obtain ⟨_, hs⟩ := im_ite _ hs
      exact absurd hs (nx_nx _)
    · cases hs
  case invokevirtual idx =>
    exfalso
    rcases b with _ | _ | _ | b
    · obtain ⟨_, _, hs⟩ := im_bd hs
      obtain ⟨_, _, hs⟩ := im_bd hs
      obtain ⟨_, _, hs⟩ := im_bd hs
      obtain ⟨_, hs⟩ := im_ite _ hs
      cases hs
    · obtain ⟨r, h3, hs⟩ := im_bd hs
      obtain ⟨_, hs⟩ := im_ite _ hs
      obtain ⟨_, _, hs⟩ := im_bd hs
      exact absurd hs (nx_nx _)
    · obtain ⟨r, h3, hs⟩ := im_bd hs
      obtain ⟨_, _, hs⟩ := im_bd hs
      obtain ⟨_, hs⟩ := im_ite _ hs
      obtain ⟨_, _, hs⟩ := im_bd hs
      obtain ⟨_, hs⟩ := im_ite _ hs
      exact absurd hs (nx_nx _)
    · cases hs
  all_goals exact absurd rfl hi
theorem run_ret {K : im_K} {M : im_M} {call : Nat → List Value → im_H → Option (Option Value × im_H)} : ∀ (n : Nat) (c : im_C) (r : Option Value × im_H), im_run K M call n c = some r → im_rk M.2.2.2.1 r.1 := by
  intro n
  induction n with
  | zero => intro c r h; cases h
  | succ n ih =>
    intro c r h
    obtain ⟨pc, lv, st, hp⟩ := c
    simp only [im_run] at h
    cases hs : im_step K M (pc, lv, st, hp) with
    | none => rw [hs] at h; cases h
    | some o =>
      rw [hs] at h
      cases o with
      | inl c2 => exact ih c2 r h
      | inr y =>
        cases y with
        | inl u =>
          simp only at h
          cases hu : call u.1 u.2.1 hp with
          | none => rw [hu] at h; cases h
          | some v => rw [hu] at h; exact ih _ r h
        | inr v =>
          simp only [Option.some.injEq] at h
          rw [← h]
          unfold im_step at hs
          cases hq : im_at M pc with
          | none => simp only [hq] at hs; cases hs
          | some q =>
            simp only [hq] at hs
            exact ins_ret hs
theorem ca_rk {d j : Nat} {M : im_M} {as : List Value} {h : im_H} {r : Option Value × im_H} (hj : im_ms[j]? = some M) (hc : Ca d j as h r) : im_rk M.2.2.2.1 r.1 := by
  obtain ⟨f0, h0⟩ := hc
  have h1 := h0 f0 (Nat.le_refl _)
  cases d with
  | zero => cases h1
  | succ d =>
    simp only [im_call, hj] at h1
    obtain ⟨hl, h1⟩ := im_ite _ h1
    exact run_ret f0 _ r h1
theorem ca_int {d j : Nat} {M : im_M} {as : List Value} {h h2 : im_H} {v : Value} (hj : im_ms[j]? = some M) (hr : M.2.2.2.1 = some .int) (hc : Ca d j as h (some v, h2)) : ∃ x, v = .int x := by
  have := ca_rk hj hc
  rw [hr] at this
  rcases this with ⟨_, x, e⟩ | ⟨e, _⟩ | ⟨e, _⟩ | ⟨e, _⟩
  · exact ⟨x, Option.some.inj e⟩
  all_goals cases e
theorem ca_long {d j : Nat} {M : im_M} {as : List Value} {h h2 : im_H} {v : Value} (hj : im_ms[j]? = some M) (hr : M.2.2.2.1 = some .long) (hc : Ca d j as h (some v, h2)) : ∃ x, v = .long x := by
  have := ca_rk hj hc
  rw [hr] at this
  rcases this with ⟨e, _⟩ | ⟨e, _⟩ | ⟨_, x, e⟩ | ⟨e, _⟩
  · cases e
  · cases e
  · exact ⟨x, Option.some.inj e⟩
  · cases e
