/-! the way of a raid, what lies over a CELL -/
def pth (c s : Int32) : Nat → Int32
  | 0 => c
  | k + 1 => nbr (pth c s k) s
def ov (f s : Int32) (n : Nat) (c : Int32) : Prop := ∃ j, j < n ∧ pth f s j = c ∧ ∀ i, i ≤ j → (pth f s i).toInt ≠ -1
def rv (h : im_H) (i k : Nat) : Int32 := match rd h i k with
  | some (.int x) => x
  | _ => 0
theorem rv_of {h : im_H} {i k : Nat} {x : Int32} (e : rd h i k = some (.int x)) : rv h i k = x := by
  unfold rv
  rw [e]
def ovh (h : im_H) (r : Nat) (c : Int32) : Prop := ov (rv h 173 r) (rv h 174 r) (rv h 175 r).toInt.toNat c
noncomputable def trm (h : im_H) (c : Int32) (r : Nat) : Int := @ite _ (ovh h r c) (Classical.propDecidable _) (rv h 176 r).toInt 0
noncomputable def sumL (h : im_H) (c : Int32) : Nat → Int
  | 0 => 0
  | n + 1 => sumL h c n + trm h c n
theorem trm_1 {h : im_H} {c : Int32} {r : Nat} {x : Int32} (ho : ovh h r c) (e : rd h 176 r = some (.int x)) : trm h c r = x.toInt := by
  unfold trm
  rw [if_pos ho, rv_of e]
theorem trm_0 {h : im_H} {c : Int32} {r : Nat} (ho : ¬ ovh h r c) : trm h c r = 0 := by
  unfold trm
  rw [if_neg ho]
theorem ovh_of {h : im_H} {r : Nat} {c f s n : Int32} (e1 : rd h 173 r = some (.int f)) (e2 : rd h 174 r = some (.int s)) (e3 : rd h 175 r = some (.int n)) : ovh h r c ↔ ov f s n.toInt.toNat c := by
  unfold ovh
  rw [rv_of e1, rv_of e2, rv_of e3]
theorem rv_ne {h h2 : im_H} {i k j : Nat} {m : Nat} {v : Value} (hu : up h h2 i k v) (hj : j ≠ i) : rv h2 j m = rv h j m := by
  unfold rv
  rw [hu.2 j m (Or.inl hj)]
theorem ovh_up {h h2 : im_H} {i k r : Nat} {v : Value} {c : Int32} (hu : up h h2 i k v) (h1 : 173 ≠ i) (h2' : 174 ≠ i) (h3 : 175 ≠ i) : ovh h2 r c ↔ ovh h r c := by
  unfold ovh
  rw [rv_ne hu h1, rv_ne hu h2', rv_ne hu h3]
theorem sumL_up {h h2 : im_H} {i k : Nat} {v : Value} {c : Int32} (hu : up h h2 i k v) (h1 : 173 ≠ i) (h2' : 174 ≠ i) (h3 : 175 ≠ i) (h4 : 176 ≠ i) : ∀ n, sumL h2 c n = sumL h c n
  | 0 => rfl
  | n + 1 => by
    show sumL h2 c n + trm h2 c n = sumL h c n + trm h c n
    rw [sumL_up hu h1 h2' h3 h4 n]
    congr 1
    by_cases ho : ovh h n c
    · unfold trm
      rw [if_pos ho, if_pos ((ovh_up hu h1 h2' h3).mpr ho), rv_ne hu h4]
    · rw [trm_0 ho, trm_0 (fun e => ho ((ovh_up hu h1 h2' h3).mp e))]
theorem sumL_dec {h h2 : im_H} {k : Nat} {x z c : Int32} (hu : up h h2 176 k (.int z)) (e : rd h 176 k = some (.int x)) (hz : z.toInt = x.toInt - 1) (ho : ovh h k c) : ∀ n, (n ≤ k → sumL h2 c n = sumL h c n) ∧ (k < n → sumL h2 c n = sumL h c n - 1)
  | 0 => ⟨fun _ => rfl, fun hk => by omega⟩
  | n + 1 => by
    have ih := sumL_dec hu e hz ho n
    have hov : ∀ r, ovh h2 r c ↔ ovh h r c := fun r => ovh_up hu (by decide) (by decide) (by decide)
    have hother : n ≠ k → trm h2 c n = trm h c n := by
      intro hn
      by_cases hw : ovh h n c
      · unfold trm
        rw [if_pos hw, if_pos ((hov n).mpr hw)]
        unfold rv
        rw [hu.2 176 n (Or.inr hn)]
      · rw [trm_0 hw, trm_0 (fun q => hw ((hov n).mp q))]
    refine ⟨fun hn => ?_, fun hn => ?_⟩
    · show sumL h2 c n + trm h2 c n = sumL h c n + trm h c n
      rw [ih.1 (by omega), hother (by omega)]
    · show sumL h2 c n + trm h2 c n = sumL h c n + trm h c n - 1
      by_cases hnk : n = k
      · subst hnk
        rw [ih.1 (Nat.le_refl _), trm_1 ho e, trm_1 ((hov n).mpr ho) hu.1, hz]
        omega
      · rw [ih.2 (by omega), hother hnk]
        omega
theorem sumL_s {h : im_H} {c : Int32} {n : Nat} : sumL h c (n + 1) = sumL h c n + trm h c n := rfl
section AB
variable {K : im_K} {d : Nat} {M : im_M} {pc p2 : Nat} {lv : im_L} {st : List Value} {h : im_H} {Q : Option Value → im_H → Prop}
theorem ab_div {x y : Int32} {a b : Int} (hi : im_at M pc = some (.idiv, [])) (hp : pc + 1 = p2) (hx : x.toInt = a) (hy : y.toInt = b) (ha : 0 ≤ a) (hb : 0 < b) (k : ∀ z : Int32, x / y = z → 0 ≤ z.toInt → z.toInt ≤ a → EvP K d M (p2, lv, .int z :: st, h) Q) : EvP K d M (pc, lv, .int y :: .int x :: st, h) Q :=
  te_idiv hi hp (i32_ne0 hy (by omega)) rfl (k _ rfl (by rw [i32_divE hx hy ha hb]; exact Int.ediv_nonneg ha (Int.le_of_lt hb)) (by rw [i32_divE hx hy ha hb]; exact Int.ediv_le_self b ha))
theorem ab_rem {x y : Int32} {a b : Int} (hi : im_at M pc = some (.irem, [])) (hp : pc + 1 = p2) (hx : x.toInt = a) (hy : y.toInt = b) (ha : 0 ≤ a) (hb : 0 < b) (k : ∀ z : Int32, x - x / y * y = z → 0 ≤ z.toInt → z.toInt < b → EvP K d M (p2, lv, .int z :: st, h) Q) : EvP K d M (pc, lv, .int y :: .int x :: st, h) Q :=
  te_irem hi hp (i32_ne0 hy (by omega)) rfl (k _ rfl (by rw [i32_remE hx hy ha hb]; exact Int.emod_nonneg a (by omega)) (by rw [i32_remE hx hy ha hb]; exact Int.emod_lt_of_pos a hb))
theorem ab_mul {x y : Int32} {a b : Int} (A B : Int) (ha : im_at M pc = some (.imul, [])) (hp : pc + 1 = p2) (hx : x.toInt = a) (hy : y.toInt = b) (a0 : 0 ≤ a) (a1 : a ≤ A) (b0 : 0 ≤ b) (b1 : b ≤ B) (hAB : A * B ≤ 2147483647) (k : ∀ z : Int32, x * y = z → 0 ≤ z.toInt → z.toInt ≤ A * B → EvP K d M (p2, lv, .int z :: st, h) Q) : EvP K d M (pc, lv, .int y :: .int x :: st, h) Q := by
  have h1 : 0 ≤ a * b := Int.mul_nonneg a0 b0
  have h2 : a * b ≤ A * B := Int.mul_le_mul a1 b1 b0 (by omega)
  have e := i32_mulE hx hy (by omega) (by omega)
  exact te_imul ha hp rfl (k _ rfl (by rw [e]; exact h1) (by rw [e]; exact h2))
end AB
