/-! stores into an ORDER's tests -/
theorem ord_ne {o p : Nat} (ho : o ∈ [98, 105, 112, 119, 126, 133]) (hp : p ∈ [98, 105, 112, 119, 126, 133]) : o + 3 ≠ p + 4 ∧ (o + 3 = p + 3 → o = p) ∧ (o + 4 = p + 4 → o = p) := by
  simp only [List.mem_cons, List.not_mem_nil, or_false] at ho hp
  omega
theorem tO_field {h h2 : im_H} {o l k : Nat} {c : Int32} {v : Value} (hO : tO h) (ho : o ∈ [98, 105, 112, 119, 126, 133]) (hc : rd h (o + 3) l = some (.int c)) (h0 : 0 ≤ c.toInt) (h1 : c.toInt ≤ 2) (hk : (k : Int) = 3 * l + c.toInt) (hu : up h h2 (o + 4) k v) : tO h2 := by
  intro p m i d f hp hm hd hi h3 hf
  have hn := ord_ne hp ho
  rw [hu.2 _ _ (Or.inl hn.1)] at hd
  by_cases he : p + 4 = o + 4 ∧ 3 * m + i = k
  · exfalso
    have e1 := hn.2.2 he.1
    subst e1
    have e2 : m = l := by omega
    subst e2
    have e3 := int_inj hd hc
    subst e3
    omega
  · rw [hu.2 _ _ (by by_cases h4 : p + 4 = o + 4; exact Or.inr (fun h5 => he ⟨h4, h5⟩); exact Or.inl h4)] at hf
    exact hO p m i d f hp hm hd hi h3 hf
theorem tO_cnt0 {h h2 : im_H} {o l : Nat} (hO : tO h) (ho : o ∈ [98, 105, 112, 119, 126, 133]) (hu : up h h2 (o + 3) l (.int 0)) : tO h2 := by
  intro p m i d f hp hm hd hi h3 hf
  rw [hu.2 _ _ (Or.inl (fun e => (ord_ne ho hp).1 e.symm))] at hf
  by_cases he : p + 3 = o + 3 ∧ m = l
  · exfalso
    rw [he.1, he.2] at hd
    have e3 := int_inj hd hu.1
    rw [e3, show Int32.toInt 0 = 0 from rfl] at hi
    omega
  · rw [hu.2 _ _ (by by_cases h4 : p + 3 = o + 3; exact Or.inr (fun h5 => he ⟨h4, h5⟩); exact Or.inl h4)] at hd
    exact hO p m i d f hp hm hd hi h3 hf
theorem tO_inc {h h2 : im_H} {o l k : Nat} {c z f0 : Int32} (hO : tO h) (ho : o ∈ [98, 105, 112, 119, 126, 133]) (hc : rd h (o + 3) l = some (.int c)) (hz : z.toInt = c.toInt + 1) (hk : (k : Int) = 3 * l + c.toInt) (hf0 : rd h (o + 4) k = some (.int f0)) (hp0 : 0 ≤ f0.toInt) (hu : up h h2 (o + 3) l (.int z)) : tO h2 := by
  intro p m i d f hp hm hd hi h3 hf
  rw [hu.2 _ _ (Or.inl (fun e => (ord_ne ho hp).1 e.symm))] at hf
  by_cases he : p + 3 = o + 3 ∧ m = l
  · have e1 := (ord_ne hp ho).2.1 he.1
    have e2 := he.2
    subst e1; subst e2
    have e3 := int_inj hd hu.1
    subst e3
    by_cases h4 : (i : Int) < c.toInt
    · exact hO p m i c f hp hm hc h4 h3 hf
    · have h5 : 3 * m + i = k := by omega
      rw [h5] at hf
      rw [int_inj hf hf0]
      exact hp0
  · rw [hu.2 _ _ (by by_cases h4 : p + 3 = o + 3; exact Or.inr (fun h5 => he ⟨h4, h5⟩); exact Or.inl h4)] at hd
    exact hO p m i d f hp hm hd hi h3 hf
theorem ts_iO {K : im_K} {d : Nat} {M : im_M} {pc p2 : Nat} {lv : im_L} {st : List Value} {h : im_H} {Q : Option Value → im_H → Prop} {R i n m : Nat} {j x : Int32} {lo hi ho : Int} (ha : im_at M pc = some (.iastore, [])) (hp : pc + 1 = p2) (hI : tI h) (hR : R = 16 + i) (hs : tS[i]? = some (0, 0, n)) (ht : tT.getD i [] = [(0, m, .inl (lo, hi, ho))]) (hm : m + 1 = n) (h0 : 0 ≤ j.toInt) (h1 : j.toInt < n) (b0 : lo ≤ x.toInt) (b1 : x.toInt ≤ hi) (b2 : x.toInt ≠ ho) (hO : ∀ h2, up h h2 i j.toInt.toNat (.int x) → tO h2) (k : ∀ h2, tI h2 → up h h2 i j.toInt.toNat (.int x) → EvP K d M (p2, lv, st, h2) Q) : EvP K d M (pc, lv, .int x :: .int j :: .ref R :: st, h) Q := by
  subst hp; subst hR
  obtain ⟨l, hl, hn⟩ := sh_ia (h := h) (by rw [hI.1]; exact hs)
  obtain ⟨q, hq, hc⟩ := im_ia_eq hl
  have : q = i := by omega
  subst this
  obtain ⟨h3, h4⟩ := tI_stO (e2 := .inl (0, .inl (l.set j.toNatClampNeg x))) (k := j.toInt.toNat) (v := .int x) hI hc (by simp [im_sh]) (by
    show ((l.set j.toInt.toNat x)[j.toInt.toNat]?).map Value.int = _
    rw [List.getElem?_set_self (by omega)]
    rfl) (fun m hm => by
    show ((l.set j.toInt.toNat x)[m]?).map Value.int = (l[m]?).map Value.int
    rw [List.getElem?_set_ne (fun e => hm e.symm)]) (fun u hu => by rw [tq_row ht (by omega)] at hu; cases hu; exact ⟨x, rfl, b0, b1, b2⟩) (hO _)
  exact evp (fun r => st_iast ha rfl hl (in_at hn h0 (by omega))) (k _ h3 h4)
/-- blanks ahead of a place in the text of the fields -/
def cntB (k : Nat) : Int := (((im_txt.getD 2 []).take k).filter (fun x => x == 32)).length
theorem cntB_ok : ∀ k, k < 40 → cntB k ≤ cntB (k + 1) ∧ ((im_txt.getD 2 []).getD k 0 = 32 → cntB k ≤ 7 ∧ cntB (k + 1) = cntB k + 1) := by decide
theorem cntB_0 : cntB 0 = 0 := by decide
