def vld (f s : Int32) (n : Nat) : Prop := ∀ i, i ≤ n → (pth f s i).toInt ≠ -1
noncomputable def cnt (f s : Int32) (pr : Nat → Int32) : Nat → Int
  | 0 => 0
  | n + 1 => cnt f s pr n + @ite _ (vld f s n ∧ (pr (pth f s n).toInt.toNat).toInt = 0) (Classical.propDecidable _) 1 0
theorem cnt_y {f s : Int32} {pr : Nat → Int32} {n : Nat} (h : vld f s n) (e : (pr (pth f s n).toInt.toNat).toInt = 0) : cnt f s pr (n + 1) = cnt f s pr n + 1 := by
  rw [show cnt f s pr (n + 1) = cnt f s pr n + @ite _ (vld f s n ∧ (pr (pth f s n).toInt.toNat).toInt = 0) (Classical.propDecidable _) 1 0 from rfl, if_pos ⟨h, e⟩]
theorem cnt_n {f s : Int32} {pr : Nat → Int32} {n : Nat} (h : ¬ (vld f s n ∧ (pr (pth f s n).toInt.toNat).toInt = 0)) : cnt f s pr (n + 1) = cnt f s pr n := by
  rw [show cnt f s pr (n + 1) = cnt f s pr n + @ite _ (vld f s n ∧ (pr (pth f s n).toInt.toNat).toInt = 0) (Classical.propDecidable _) 1 0 from rfl, if_neg h]; omega
theorem cnt_b {f s : Int32} {pr : Nat → Int32} : ∀ n : Nat, 0 ≤ cnt f s pr n ∧ cnt f s pr n ≤ n
  | 0 => ⟨Int.le_refl _, Int.le_refl _⟩
  | n + 1 => by
    have ih := cnt_b (f := f) (s := s) (pr := pr) n
    by_cases h : vld f s n ∧ (pr (pth f s n).toInt.toNat).toInt = 0
    · rw [cnt_y h.1 h.2]; omega
    · rw [cnt_n h]; omega
theorem cnt_stop {f s : Int32} {pr : Nat → Int32} {m : Nat} (h : ¬ vld f s m) : ∀ n : Nat, m ≤ n → cnt f s pr n = cnt f s pr m := by
  intro n
  induction n with
  | zero => intro hn; rw [show m = 0 by omega]
  | succ n ih =>
    intro hn
    by_cases he : m = n + 1
    · rw [he]
    · rw [cnt_n (fun q => h (fun i hi => q.1 i (by omega))), ih (by omega)]
theorem cnt_pr {f s : Int32} {pr pr2 : Nat → Int32} (h : ∀ k, pr k = pr2 k) : ∀ n, cnt f s pr n = cnt f s pr2 n := fun n => by rw [funext h]
theorem ov_0 {f s c : Int32} : ¬ ov f s 0 c := fun ⟨j, hj, _⟩ => absurd hj (Nat.not_lt_zero j)
theorem ov_s {f s c : Int32} {n : Nat} : ov f s (n + 1) c ↔ ov f s n c ∨ (vld f s n ∧ pth f s n = c) := by
  constructor
  · intro ⟨j, hj, e, hv⟩
    by_cases hc : j = n
    · subst hc; exact Or.inr ⟨hv, e⟩
    · exact Or.inl ⟨j, by omega, e, hv⟩
  · intro h
    rcases h with ⟨j, hj, e, hv⟩ | ⟨hv, e⟩
    · exact ⟨j, by omega, e, hv⟩
    · exact ⟨n, by omega, e, hv⟩
def dd (s : Int32) : Int := if s.toInt = 0 then 10 else if s.toInt = 1 then 1 else if s.toInt = 2 then -10 else -1
theorem nbr_v {c s : Int32} (c0 : 0 ≤ c.toInt) (c1 : c.toInt ≤ 99) (h : (nbr c s).toInt ≠ -1) : (nbr c s).toInt = c.toInt + dd s ∧ 0 ≤ (nbr c s).toInt ∧ (nbr c s).toInt ≤ 99 := by
  unfold nbr at h ⊢
  unfold dd
  have e10 := i32_addE (x := c) (y := 10) (b := 10) rfl (by omega) (by omega)
  have e1 := i32_addE (x := c) (y := 1) (b := 1) rfl (by omega) (by omega)
  have s10 := i32_subE (x := c) (y := 10) (b := 10) rfl (by omega) (by omega)
  have s1 := i32_subE (x := c) (y := 1) (b := 1) rfl (by omega) (by omega)
  have m1 : Int32.toInt (-1) = -1 := rfl
  by_cases h0 : s.toInt = 0
  · rw [if_pos h0] at h ⊢; rw [if_pos h0]
    by_cases hc : c.toInt < 90
    · rw [if_pos hc] at h ⊢; omega
    · rw [if_neg hc] at h; exact absurd m1 h
  · rw [if_neg h0] at h ⊢; rw [if_neg h0]
    by_cases h1 : s.toInt = 1
    · rw [if_pos h1] at h ⊢; rw [if_pos h1]
      by_cases hc : c.toInt % 10 < 9
      · rw [if_pos hc] at h ⊢; omega
      · rw [if_neg hc] at h; exact absurd m1 h
    · rw [if_neg h1] at h ⊢; rw [if_neg h1]
      by_cases h2 : s.toInt = 2
      · rw [if_pos h2] at h ⊢; rw [if_pos h2]
        by_cases hc : 10 ≤ c.toInt
        · rw [if_pos hc] at h ⊢; omega
        · rw [if_neg hc] at h; exact absurd m1 h
      · rw [if_neg h2] at h ⊢; rw [if_neg h2]
        by_cases hc : 0 < c.toInt % 10
        · rw [if_pos hc] at h ⊢; omega
        · rw [if_neg hc] at h; exact absurd m1 h
theorem pth_v {f s : Int32} (f0 : 0 ≤ f.toInt) (f1 : f.toInt ≤ 99) : ∀ n : Nat, vld f s n → (pth f s n).toInt = f.toInt + n * dd s ∧ 0 ≤ (pth f s n).toInt ∧ (pth f s n).toInt ≤ 99
  | 0, _ => ⟨by show f.toInt = _; simp, f0, f1⟩
  | n + 1, h => by
    obtain ⟨a, b, c⟩ := pth_v f0 f1 n (fun i hi => h i (by omega))
    obtain ⟨e, p, q⟩ := nbr_v b c (s := s) (h (n + 1) (Nat.le_refl _))
    refine ⟨?_, p, q⟩
    show (nbr (pth f s n) s).toInt = _
    rw [e, a, Int.natCast_add, Int.add_mul]
    omega
theorem dd_ne (s : Int32) : dd s ≠ 0 := by
  unfold dd
  repeat' split
  all_goals decide
theorem pth_inj {f s : Int32} (f0 : 0 ≤ f.toInt) (f1 : f.toInt ≤ 99) {i j : Nat} (hi : vld f s i) (hj : vld f s j) (e : pth f s i = pth f s j) : i = j := by
  have a := (pth_v f0 f1 i hi).1
  have b := (pth_v f0 f1 j hj).1
  rw [e] at a
  have c : (i : Int) * dd s = j * dd s := by omega
  have := Int.eq_of_mul_eq_mul_right (dd_ne s) c
  omega
theorem cnt_upd {f s c : Int32} {pr pr2 : Nat → Int32} (f0 : 0 ≤ f.toInt) (f1 : f.toInt ≤ 99) (c0 : 0 ≤ c.toInt) (hc : (pr c.toInt.toNat).toInt = 0) (hc2 : (pr2 c.toInt.toNat).toInt ≠ 0) (hk : ∀ k, k ≠ c.toInt.toNat → pr2 k = pr k) : ∀ n, (ov f s n c → cnt f s pr2 n = cnt f s pr n - 1) ∧ (¬ ov f s n c → cnt f s pr2 n = cnt f s pr n)
  | 0 => ⟨fun h => absurd h ov_0, fun _ => rfl⟩
  | n + 1 => by
    obtain ⟨ia, ib⟩ := cnt_upd f0 f1 c0 hc hc2 hk n
    by_cases hv : vld f s n ∧ pth f s n = c
    · have hn : ¬ ov f s n c := fun ⟨j, hj, e, hw⟩ => absurd (pth_inj f0 f1 hw hv.1 (e.trans hv.2.symm)) (by omega)
      have e1 : cnt f s pr2 (n + 1) = cnt f s pr2 n := cnt_n (fun q => hc2 (by rw [← hv.2]; exact q.2))
      have e2 : cnt f s pr (n + 1) = cnt f s pr n + 1 := cnt_y hv.1 (by rw [hv.2]; exact hc)
      refine ⟨fun _ => by rw [e1, e2, ib hn]; omega, fun h => absurd (ov_s.mpr (Or.inr hv)) h⟩
    · have same : cnt f s pr2 (n + 1) - cnt f s pr2 n = cnt f s pr (n + 1) - cnt f s pr n := by
        by_cases hw : vld f s n
        · have hne : pth f s n ≠ c := fun e => hv ⟨hw, e⟩
          have hnn : (pth f s n).toInt.toNat ≠ c.toInt.toNat := fun e => hne (i32_ext (by have := (pth_v f0 f1 n hw).2.1; omega))
          by_cases hq : (pr (pth f s n).toInt.toNat).toInt = 0
          · rw [cnt_y hw hq, cnt_y hw (by rw [hk _ hnn]; exact hq)]; omega
          · rw [cnt_n (fun q => hq q.2), cnt_n (fun q => hq (by rw [← hk _ hnn]; exact q.2))]; omega
        · rw [cnt_n (fun q => hw q.1), cnt_n (fun q => hw q.1)]; omega
      refine ⟨fun h => ?_, fun h => ?_⟩
      · have := ia ((ov_s.mp h).resolve_right hv); omega
      · have := ib (fun q => h (ov_s.mpr (Or.inl q))); omega
theorem cnt_ov {f s c : Int32} {pr : Nat → Int32} (hc : (pr c.toInt.toNat).toInt = 0) : ∀ n, ov f s n c → 1 ≤ cnt f s pr n
  | 0, h => absurd h ov_0
  | n + 1, h => by
    have b := cnt_b (f := f) (s := s) (pr := pr) n
    rcases ov_s.mp h with h1 | ⟨hv, e⟩
    · have := cnt_ov hc n h1
      by_cases hq : vld f s n ∧ (pr (pth f s n).toInt.toNat).toInt = 0
      · rw [cnt_y hq.1 hq.2]; omega
      · rw [cnt_n hq]; omega
    · rw [cnt_y hv (by rw [e]; exact hc)]; omega
noncomputable def tf (P : Nat → Prop) (s : Nat → Int) (j : Int) : Nat → Int
  | 0 => j
  | n + 1 => tf P s j n - @ite _ (P n) (Classical.propDecidable _) (min (tf P s j n) (s n)) 0
noncomputable def nsh (P : Nat → Prop) (s : Nat → Int) (j : Int) (k : Nat) : Int := s k - @ite _ (P k) (Classical.propDecidable _) (min (tf P s j k) (s k)) 0
theorem tf_y {P : Nat → Prop} {s : Nat → Int} {j : Int} {n : Nat} (h : P n) : tf P s j (n + 1) = tf P s j n - min (tf P s j n) (s n) := by
  rw [show tf P s j (n + 1) = tf P s j n - @ite _ (P n) (Classical.propDecidable _) (min (tf P s j n) (s n)) 0 from rfl]
  rw [if_pos h]
theorem tf_n {P : Nat → Prop} {s : Nat → Int} {j : Int} {n : Nat} (h : ¬ P n) : tf P s j (n + 1) = tf P s j n := by
  rw [show tf P s j (n + 1) = tf P s j n - @ite _ (P n) (Classical.propDecidable _) (min (tf P s j n) (s n)) 0 from rfl]
  rw [if_neg h]; omega
theorem nsh_y {P : Nat → Prop} {s : Nat → Int} {j : Int} {n : Nat} (h : P n) : nsh P s j n = s n - min (tf P s j n) (s n) := by
  unfold nsh
  rw [if_pos h]
theorem nsh_n {P : Nat → Prop} {s : Nat → Int} {j : Int} {n : Nat} (h : ¬ P n) : nsh P s j n = s n := by
  unfold nsh
  rw [if_neg h]; omega
theorem tf_b {P : Nat → Prop} {s : Nat → Int} {j : Int} (hj : 0 ≤ j) : ∀ n, (∀ k, k < n → 0 ≤ s k) → 0 ≤ tf P s j n ∧ tf P s j n ≤ j
  | 0, _ => ⟨hj, Int.le_refl _⟩
  | n + 1, hs => by
    have ih := tf_b (P := P) hj n (fun k hk => hs k (by omega))
    have hn := hs n (by omega)
    by_cases h : P n
    · rw [tf_y h]; omega
    · rw [tf_n h]; omega
theorem nsh_step {P : Nat → Prop} {s : Nat → Int} {j : Int} {r : Nat} (hj : 0 ≤ j) (hs : ∀ k, k ≤ r → 0 ≤ s k) (h0 : ∀ k, k < r → P k → nsh P s j k = 0) (hr : P r) (hn : nsh P s j r ≠ 0) : nsh P s (j + 1) r = nsh P s j r - 1 ∧ ∀ k, k ≠ r → nsh P s (j + 1) k = nsh P s j k := by
  have A : ∀ n, n ≤ r → tf P s (j + 1) n = tf P s j n + 1 := by
    intro n
    induction n with
    | zero => intro _; rfl
    | succ n ih =>
      intro hn
      have i := ih (by omega)
      by_cases h : P n
      · have e := h0 n (by omega) h
        rw [nsh_y h] at e
        rw [tf_y h, tf_y h, i]; omega
      · rw [tf_n h, tf_n h, i]
  have hr2 := A r (Nat.le_refl _)
  have br := tf_b (P := P) (s := s) hj r (fun k hk => hs k (by omega))
  rw [nsh_y hr] at hn
  have Bs : ∀ n, r + 1 ≤ n → tf P s (j + 1) n = tf P s j n := by
    intro n
    induction n with
    | zero => intro h; omega
    | succ n ih =>
      intro h
      by_cases hc : n = r
      · subst hc; rw [tf_y hr, tf_y hr, hr2]; omega
      · have i := ih (by omega)
        by_cases h : P n
        · rw [tf_y h, tf_y h, i]
        · rw [tf_n h, tf_n h, i]
  refine ⟨by rw [nsh_y hr, nsh_y hr, hr2]; omega, fun k hk => ?_⟩
  by_cases h : P k
  · rw [nsh_y h, nsh_y h]
    by_cases hl : k < r
    · have e := h0 k hl h
      rw [nsh_y h] at e
      rw [A k (by omega)]; omega
    · rw [Bs k (by omega)]
  · rw [nsh_n h, nsh_n h]
theorem nsh_0 {P : Nat → Prop} {s : Nat → Int} (k : Nat) (hs : ∀ i, i ≤ k → 0 ≤ s i) : nsh P s 0 k = s k := by
  by_cases h : P k
  · have := tf_b (P := P) (s := s) (j := 0) (Int.le_refl _) k (fun i hi => hs i (by omega))
    have := hs k (Nat.le_refl _)
    rw [nsh_y h]; omega
  · rw [nsh_n h]
theorem tf_eq {P P2 : Nat → Prop} {s s2 : Nat → Int} {j : Int} {p : Nat} (hP : ∀ k, k < p → (P k ↔ P2 k)) (hs : ∀ k, k < p → s k = s2 k) : ∀ n, n ≤ p → tf P s j n = tf P2 s2 j n
  | 0, _ => rfl
  | n + 1, hn => by
    have ih := tf_eq (j := j) hP hs n (by omega)
    by_cases h : P n
    · rw [tf_y h, tf_y ((hP n (by omega)).mp h), ih, hs n (by omega)]
    · rw [tf_n h, tf_n (fun q => h ((hP n (by omega)).mpr q)), ih]
theorem nsh_eq {P P2 : Nat → Prop} {s s2 : Nat → Int} {j : Int} {p : Nat} (hP : ∀ k, k < p → (P k ↔ P2 k)) (hs : ∀ k, k < p → s k = s2 k) {k : Nat} (hk : k < p) : nsh P s j k = nsh P2 s2 j k := by
  by_cases h : P k
  · rw [nsh_y h, nsh_y ((hP k hk).mp h), tf_eq hP hs k (by omega), hs k hk]
  · rw [nsh_n h, nsh_n (fun q => h ((hP k hk).mpr q)), hs k hk]
noncomputable def smP (P : Nat → Prop) (s : Nat → Int) : Nat → Int
  | 0 => 0
  | n + 1 => smP P s n + @ite _ (P n) (Classical.propDecidable _) (s n) 0
theorem smP_y {P : Nat → Prop} {s : Nat → Int} {n : Nat} (h : P n) : smP P s (n + 1) = smP P s n + s n := by
  rw [show smP P s (n + 1) = smP P s n + @ite _ (P n) (Classical.propDecidable _) (s n) 0 from rfl]
  rw [if_pos h]
theorem smP_n {P : Nat → Prop} {s : Nat → Int} {n : Nat} (h : ¬ P n) : smP P s (n + 1) = smP P s n := by
  rw [show smP P s (n + 1) = smP P s n + @ite _ (P n) (Classical.propDecidable _) (s n) 0 from rfl]
  rw [if_neg h]; omega
theorem smP_eq {P P2 : Nat → Prop} {s s2 : Nat → Int} : ∀ {p : Nat}, (∀ k, k < p → (P k ↔ P2 k)) → (∀ k, k < p → s k = s2 k) → smP P s p = smP P2 s2 p
  | 0, _, _ => rfl
  | n + 1, hP, hs => by
    have ih := smP_eq (p := n) (fun k hk => hP k (by omega)) (fun k hk => hs k (by omega))
    by_cases h : P n
    · rw [smP_y h, smP_y ((hP n (by omega)).mp h), ih, hs n (by omega)]
    · rw [smP_n h, smP_n (fun q => h ((hP n (by omega)).mpr q)), ih]
theorem sumL_P {h : im_H} {c : Int32} : ∀ n, sumL h c n = smP (fun r => ovh h r c) (fun r => (rv h 176 r).toInt) n
  | 0 => rfl
  | n + 1 => by
    show sumL h c n + trm h c n = _
    rw [sumL_P n]
    rfl
noncomputable def chn (P : Nat → Prop) (u : Nat → Int) (s : Nat → Int32) : Nat → Int32
  | 0 => 0
  | n + 1 => chn P u s n + @ite _ (P n) (Classical.propDecidable _) (s n * (2520 / Int32.ofInt (u n))) 0
theorem chn_y {P : Nat → Prop} {u : Nat → Int} {s : Nat → Int32} {n : Nat} (h : P n) : chn P u s (n + 1) = chn P u s n + s n * (2520 / Int32.ofInt (u n)) := by
  rw [show chn P u s (n + 1) = chn P u s n + @ite _ (P n) (Classical.propDecidable _) (s n * (2520 / Int32.ofInt (u n))) 0 from rfl]
  rw [if_pos h]
theorem chn_n {P : Nat → Prop} {u : Nat → Int} {s : Nat → Int32} {n : Nat} (h : ¬ P n) : chn P u s (n + 1) = chn P u s n := by
  rw [show chn P u s (n + 1) = chn P u s n + @ite _ (P n) (Classical.propDecidable _) (s n * (2520 / Int32.ofInt (u n))) 0 from rfl]
  rw [if_neg h]; exact Int32.add_zero _
theorem chn_eq {P P2 : Nat → Prop} {u u2 : Nat → Int} {s s2 : Nat → Int32} : ∀ {p : Nat}, (∀ k, k < p → (P k ↔ P2 k)) → (∀ k, k < p → P k → u k = u2 k) → (∀ k, k < p → s k = s2 k) → chn P u s p = chn P2 u2 s2 p
  | 0, _, _, _ => rfl
  | n + 1, hP, hu, hs => by
    have ih := chn_eq (p := n) (fun k hk => hP k (by omega)) (fun k hk => hu k (by omega)) (fun k hk => hs k (by omega))
    by_cases h : P n
    · rw [chn_y h, chn_y ((hP n (by omega)).mp h), ih, hs n (by omega), hu n (by omega) h]
    · rw [chn_n h, chn_n (fun q => h ((hP n (by omega)).mpr q)), ih]
def eu (a b : Int32) : Nat → Int32 × Int32
  | 0 => (a, b)
  | k + 1 => ((eu a b k).2, (eu a b k).1 - (eu a b k).1 / (eu a b k).2 * (eu a b k).2)
theorem eu_nn {a b : Int32} (ha : 0 ≤ a.toInt) (hb : 0 ≤ b.toInt) : ∀ k, (∀ j, j < k → (eu a b j).2.toInt ≠ 0) → 0 ≤ (eu a b k).1.toInt ∧ 0 ≤ (eu a b k).2.toInt ∧ ((k = 0 ∧ (eu a b k).2 = b) ∨ (0 < k ∧ (eu a b k).2.toInt < (eu a b k).1.toInt))
  | 0, _ => ⟨ha, hb, Or.inl ⟨rfl, rfl⟩⟩
  | k + 1, h => by
    obtain ⟨p, q, _⟩ := eu_nn ha hb k (fun j hj => h j (by omega))
    have hn := h k (by omega)
    have e := i32_remE (x := (eu a b k).1) (y := (eu a b k).2) rfl rfl p (by omega)
    have e1 := Int.emod_nonneg (eu a b k).1.toInt hn
    have e2 := Int.emod_lt_of_pos (eu a b k).1.toInt (show 0 < (eu a b k).2.toInt by omega)
    refine ⟨q, ?_, Or.inr ⟨by omega, ?_⟩⟩
    · show 0 ≤ (_ - _ : Int32).toInt; rw [e]; exact e1
    · show (_ - _ : Int32).toInt < _; rw [e]; exact e2
theorem eu_half {a b : Int32} (ha : 0 ≤ a.toInt) (hb : 0 ≤ b.toInt) {k : Nat} (h : ∀ j, j < k + 2 → (eu a b j).2.toInt ≠ 0) (hk : 0 < k) : 2 * (eu a b (k + 2)).2.toInt ≤ (eu a b k).2.toInt := by
  obtain ⟨p0, q0, r0⟩ := eu_nn ha hb k (fun j hj => h j (by omega))
  obtain ⟨p1, q1, r1⟩ := eu_nn ha hb (k + 1) (fun j hj => h j (by omega))
  obtain ⟨p2, q2, r2⟩ := eu_nn ha hb (k + 2) h
  have h1 := h (k + 1) (by omega)
  have s1 : (eu a b (k + 1)).1 = (eu a b k).2 := rfl
  have s2 : (eu a b (k + 2)).1 = (eu a b (k + 1)).2 := rfl
  have l1 := (r1.resolve_left (by omega)).2
  have l2 := (r2.resolve_left (by omega)).2
  have e : (eu a b (k + 2)).2.toInt = (eu a b (k + 1)).1.toInt % (eu a b (k + 1)).2.toInt := i32_remE (x := (eu a b (k + 1)).1) (y := (eu a b (k + 1)).2) rfl rfl p1 (by omega)
  have d := Int.emod_add_mul_ediv (eu a b (k + 1)).1.toInt (eu a b (k + 1)).2.toInt
  have dq : 1 ≤ (eu a b (k + 1)).1.toInt / (eu a b (k + 1)).2.toInt := (Int.le_ediv_iff_mul_le (by omega)).mpr (by omega)
  have dm : (eu a b (k + 1)).2.toInt * 1 ≤ (eu a b (k + 1)).2.toInt * ((eu a b (k + 1)).1.toInt / (eu a b (k + 1)).2.toInt) := Int.mul_le_mul_of_nonneg_left dq (by omega)
  rw [s1] at *
  rw [s2] at *
  omega
theorem eu_end {a : Int32} (ha : 0 ≤ a.toInt) : ¬ ∀ j, j < 64 → (eu a 2520 j).2.toInt ≠ 0 := by
  intro h
  have hb : 0 ≤ (2520 : Int32).toInt := by decide
  have g : ∀ m : Nat, m < 14 → (2 ^ m : Int) * (eu a 2520 (2 * m + 1)).2.toInt ≤ 2520 := by
    intro m
    induction m with
    | zero =>
      intro _
      have := (eu_nn ha hb 1 (fun j hj => h j (by omega))).2.2.resolve_left (by omega)
      have e : (eu a 2520 1).1 = 2520 := rfl
      rw [e] at this
      have e2 : (2520 : Int32).toInt = 2520 := rfl
      show 1 * (eu a 2520 1).2.toInt ≤ _
      omega
    | succ m ih =>
      intro hm
      have i := ih (by omega)
      have q := eu_half ha hb (k := 2 * m + 1) (fun j hj => h j (by omega)) (by omega)
      have e : (2 ^ (m + 1) : Int) * (eu a 2520 (2 * (m + 1) + 1)).2.toInt = 2 ^ m * (2 * (eu a 2520 (2 * m + 1 + 2)).2.toInt) := by
        rw [Int.pow_succ, Int.mul_assoc]; rfl
      rw [e]
      exact Int.le_trans (Int.mul_le_mul_of_nonneg_left q (Int.pow_nonneg (by decide))) i
  have z : (2 ^ 13 : Int) * (eu a 2520 27).2.toInt ≤ 2520 := g 13 (by omega)
  have n := eu_nn ha hb 27 (fun j hj => h j (by omega))
  have hn := h 27 (by omega)
  have e13 : (2 ^ 13 : Int) = 8192 := rfl
  rw [e13] at z
  omega
def eun (a : Int32) (k : Nat) : Prop := (eu a 2520 k).2.toInt = 0 ∧ ∀ j, j < k → (eu a 2520 j).2.toInt ≠ 0
theorem eun_eq {a : Int32} {k m : Nat} (h1 : eun a k) (h2 : eun a m) : k = m := by
  rcases Nat.lt_trichotomy k m with h | h | h
  · exact absurd h1.1 (h2.2 k h)
  · exact h
  · exact absurd h2.1 (h1.2 m h)
theorem eun_pos {a : Int32} {k : Nat} (ha : 0 ≤ a.toInt) (h : eun a k) : 1 ≤ (eu a 2520 k).1.toInt := by
  cases k with
  | zero => exact absurd h.1 (by show (2520 : Int32).toInt ≠ 0; decide)
  | succ k =>
    have q := (eu_nn ha (by decide : 0 ≤ (2520 : Int32).toInt) k (fun j hj => h.2 j (by omega))).2.1
    have hn := h.2 k (by omega)
    show 1 ≤ (eu a 2520 k).2.toInt
    omega
def nx (ch : Nat → Int32) : Nat → Int32 × Int32
  | 0 => (-1, 0)
  | n + 1 => if (nx ch n).2.toInt < (ch n).toInt then (Int32.ofInt n, ch n) else nx ch n
theorem nx_y {ch : Nat → Int32} {n : Nat} (h : (nx ch n).2.toInt < (ch n).toInt) : nx ch (n + 1) = (Int32.ofInt n, ch n) := by
  show ite _ _ _ = _
  rw [if_pos h]
theorem nx_n {ch : Nat → Int32} {n : Nat} (h : ¬ (nx ch n).2.toInt < (ch n).toInt) : nx ch (n + 1) = nx ch n := by
  show ite _ _ _ = _
  rw [if_neg h]
theorem nx_eq {ch ch2 : Nat → Int32} : ∀ {p : Nat}, (∀ k, k < p → ch k = ch2 k) → nx ch p = nx ch2 p
  | 0, _ => rfl
  | n + 1, h => by
    have ih := nx_eq (p := n) (fun k hk => h k (by omega))
    show ite _ _ _ = ite _ _ _
    rw [ih, h n (by omega)]
def ovc (h : im_H) (r : Nat) (c : Int32) : Prop := ∃ j : Nat, (j : Int) < (rv h 87 r).toInt ∧ rv h (79 + r) j = c
noncomputable def chX (h : im_H) (c : Nat) : Int32 := if (rv h 90 c).toInt = 0 then chn (fun r => 0 < (rv h 89 r).toInt ∧ ovc h r (Int32.ofInt c)) (fun r => (rv h 89 r).toInt) (rv h 88) (rv h 77 0).toInt.toNat else 0
noncomputable def opn (h : im_H) (r : Nat) : Int := cnt (rv h 173 r) (rv h 174 r) (rv h 177) (rv h 175 r).toInt.toNat
noncomputable def chM (h : im_H) (c : Nat) : Int32 := if (rv h 177 c).toInt = 0 then chn (fun r => ovh h r (Int32.ofInt c)) (opn h) (rv h 176) (rv h 148 29).toInt.toNat else 0
theorem ofI {c : Int32} (h : 0 ≤ c.toInt) : Int32.ofInt (c.toInt.toNat : Int) = c := by
  rw [show (c.toInt.toNat : Int) = c.toInt by omega]
  exact Int32.ofInt_toInt c
theorem vld_s {f s : Int32} {n : Nat} (h : ∀ i, i < n → (pth f s i).toInt ≠ -1) (e : (pth f s n).toInt ≠ -1) : vld f s n := fun i hi => by
  by_cases hc : i = n
  · rw [hc]; exact e
  · exact h i (by omega)
set_option maxRecDepth 20000 in
set_option maxHeartbeats 4000000 in
theorem c_X4_isOver {raid : Int32} {c : Int32} {h : im_H} (hI : tI h) (p_raid0 : 0 ≤ raid.toInt) (p_raid1 : raid.toInt ≤ 7) : CaP 1 30 [.ref 93, .int raid, .int c] h (pI h (fun y => (y = 1 ∧ ovc h raid.toInt.toNat c) ∨ (y = 0 ∧ ¬ ovc h raid.toInt.toNat c))) := by
  refine cap_of (d := 0) (M := mX4_isOver) rfl (Nat.le_of_ble_eq_true rfl) ?_
  show EvP im_K0 0 mX4_isOver (0, [(0, .ref 93), (1, .int raid), (2, .int c)], [], h) _
  refine te_iconst (p2 := 1) (x := 0) rfl rfl (by decide) ?_
  refine te_istore_n (p2 := 2) (lv2 := [(3, .int 0), (0, .ref 93), (1, .int raid), (2, .int c)]) rfl rfl (by decide) rfl ?_
  have lp1 : ∀ (n1 : Nat) (v1_3 : Int32) , 0 ≤ v1_3.toInt → v1_3.toInt ≤ 10 → (∀ j : Nat, (j : Int) < v1_3.toInt → rv h (79 + raid.toInt.toNat) j ≠ c) → 10 - v1_3.toInt < (n1 : Int) → EvP im_K0 0 mX4_isOver (2, [(0, .ref 93), (1, .int raid), (2, .int c), (3, .int v1_3)], [], h) (pI h (fun y => (y = 1 ∧ ovc h raid.toInt.toNat c) ∨ (y = 0 ∧ ¬ ovc h raid.toInt.toNat c))) := by
    intro n1
    induction n1 with
    | zero => intro v1_3 a1_3 b1_3 w1_0 m1; exfalso; omega
    | succ n1 ih1 =>
      intro v1_3 a1_3 b1_3 w1_0 m1
      refine te_iload_n (p2 := 3) rfl rfl rfl ?_
      refine te_aload_n (p2 := 4) rfl rfl rfl ?_
      refine tg_r (p2 := 7) (i := 77) (r := 103) rfl rfl hI rfl rfl rfl ?_
      refine te_iload_n (p2 := 8) rfl rfl rfl ?_
      refine tl_i (p2 := 9) (i := 87) (n := 8) rfl rfl hI rfl rfl rfl rfl (by omega) (by omega) (fun y2 a2 b2 g2 e2 => ?_)
      refine tb_ge (p2 := 12) rfl rfl rfl rfl (fun c3 => ?_) (fun c3 => ?_)
      · refine te_iconst (p2 := 33) (x := 0) rfl rfl (by decide) ?_
        exact te_zret rfl rfl (by decide) ⟨rfl, _, rfl, Or.inr ⟨rfl, fun ⟨j, hj, e⟩ => w1_0 j (by rw [rv_of e2] at hj; omega) e⟩⟩
      · refine te_aload_n (p2 := 13) rfl rfl rfl ?_
        refine tg_r (p2 := 16) (i := 77) (r := 94) rfl rfl hI rfl rfl rfl ?_
        refine te_iload_n (p2 := 17) rfl rfl rfl ?_
        refine tl_f (p2 := 18) (i := 78) (n := 8) (c0 := 79) (sp := 1) rfl rfl hI rfl rfl (by decide) rq_78 (by omega) (by omega) (fun o4 w4 => ?_)
        have q4 : o4 = 79 ∨ o4 = 80 ∨ o4 = 81 ∨ o4 = 82 ∨ o4 = 83 ∨ o4 = 84 ∨ o4 = 85 ∨ o4 = 86 := by omega
        refine te_iload_n (p2 := 19) rfl rfl rfl ?_
        refine tl_i (p2 := 20) (i := o4) (n := 10) rfl rfl hI rfl (by rcases q4 with rfl | rfl | rfl | rfl | rfl | rfl | rfl | rfl <;> rfl) (by rcases q4 with rfl | rfl | rfl | rfl | rfl | rfl | rfl | rfl <;> rfl) rfl (by omega) (by omega) (fun y5 a5 b5 g5 e5 => ?_)
        refine te_iload_n (p2 := 21) rfl rfl rfl ?_
        refine tb_ne (p2 := 24) rfl rfl rfl rfl (fun c6 => ?_) (fun c6 => ?_)
        · refine ar_inc (p2 := 29) (x := v1_3) rfl rfl (by decide) rfl (by decide) rfl (by omega) (by omega) (fun z7 e7 f7 => ?_)
          show EvP _ _ _ (29, [(3, .int z7), (0, .ref 93), (1, .int raid), (2, .int c)], [], h) _
          refine te_goto rfl ?_
          refine te_lv [(0, .ref 93), (1, .int raid), (2, .int c), (3, .int z7)] rfl rfl ⟨rfl, rfl, rfl, rfl, trivial⟩ ?_
          exact ih1 z7 (by omega) (by omega) (fun j hj => by (by_cases hc : j = v1_3.toInt.toNat); (· rw [hc, show 79 + raid.toInt.toNat = o4 by omega, rv_of e5]; exact fun h9 => by (have := congrArg Int32.toInt h9); omega); (· exact w1_0 j (by omega))) (by omega)
        · refine te_iconst (p2 := 25) (x := 1) rfl rfl (by decide) ?_
          exact te_zret rfl rfl (by decide) ⟨rfl, _, rfl, Or.inl ⟨rfl, v1_3.toInt.toNat, by rw [rv_of e2]; omega, by rw [show 79 + raid.toInt.toNat = o4 by omega, rv_of e5]; exact i32_ext (by omega)⟩⟩
  refine te_lv [(0, .ref 93), (1, .int raid), (2, .int c), (3, .int 0)] rfl rfl ⟨rfl, rfl, rfl, rfl, trivial⟩ ?_
  exact lp1 11 0 (by decide) (by decide) (fun j hj => absurd hj (by (have := (show Int32.toInt 0 = 0 from rfl)); omega)) (by have cc0 := (show Int32.toInt 0 = 0 from rfl); omega)
set_option maxRecDepth 20000 in
set_option maxHeartbeats 4000000 in
theorem c_X4_leftOver {c : Int32} {h : im_H} (hI : tI h)  : CaP 2 31 [.ref 93, .int c] h (pI h (fun y => ∃ p : Int32, rd h 77 0 = some (.int p) ∧ 0 ≤ p.toInt ∧ p.toInt ≤ 8 ∧ y.toInt = smP (fun r => ovc h r c) (fun r => (rv h 88 r).toInt) p.toInt.toNat)) := by
  refine cap_of (d := 1) (M := mX4_leftOver) rfl (Nat.le_of_ble_eq_true rfl) ?_
  show EvP im_K0 1 mX4_leftOver (0, [(0, .ref 93), (1, .int c)], [], h) _
  refine te_iconst (p2 := 1) (x := 0) rfl rfl (by decide) ?_
  obtain ⟨v1, e1, y1, w1, a1, b1, _⟩ := hI.2.1 77 0 (.inl (0, 8, 9999999999)) rfl
  subst w1
  refine te_istore_n (p2 := 2) (lv2 := [(2, .int 0), (0, .ref 93), (1, .int c)]) rfl rfl (by decide) rfl ?_
  refine te_iconst (p2 := 3) (x := 0) rfl rfl (by decide) ?_
  refine te_istore_n (p2 := 4) (lv2 := [(3, .int 0), (2, .int 0), (0, .ref 93), (1, .int c)]) rfl rfl (by decide) rfl ?_
  have lp2 : ∀ (n2 : Nat) (v2_2 v2_3 : Int32) , 0 ≤ v2_2.toInt → v2_2.toInt ≤ 72 → 0 ≤ v2_3.toInt → v2_3.toInt ≤ 8 → v2_2.toInt ≤ 9 * v2_3.toInt → v2_3.toInt ≤ y1.toInt → v2_2.toInt = smP (fun r => ovc h r c) (fun r => (rv h 88 r).toInt) v2_3.toInt.toNat → 8 - v2_3.toInt < (n2 : Int) → EvP im_K0 1 mX4_leftOver (4, [(0, .ref 93), (1, .int c), (2, .int v2_2), (3, .int v2_3)], [], h) (pI h (fun y => ∃ p : Int32, rd h 77 0 = some (.int p) ∧ 0 ≤ p.toInt ∧ p.toInt ≤ 8 ∧ y.toInt = smP (fun r => ovc h r c) (fun r => (rv h 88 r).toInt) p.toInt.toNat)) := by
    intro n2
    induction n2 with
    | zero => intro v2_2 v2_3 a2_2 b2_2 a2_3 b2_3 l2_0 l2_1 w2_0 m2; exfalso; omega
    | succ n2 ih2 =>
      intro v2_2 v2_3 a2_2 b2_2 a2_3 b2_3 l2_0 l2_1 w2_0 m2
      refine te_iload_n (p2 := 5) rfl rfl rfl ?_
      refine te_aload_n (p2 := 6) rfl rfl rfl ?_
      refine tg_e (p2 := 9) (i := 77) (v := .int y1) rfl rfl hI rfl rfl e1 ?_
      refine tb_ge (p2 := 12) rfl rfl rfl rfl (fun c3 => ?_) (fun c3 => ?_)
      · refine te_iload_n (p2 := 41) rfl rfl rfl ?_
        exact te_iret rfl rfl ⟨rfl, _, rfl, y1, e1, by omega, by omega, by rw [show y1.toInt.toNat = v2_3.toInt.toNat by omega]; exact w2_0⟩
      · refine te_iload_n (p2 := 13) rfl rfl rfl ?_
        refine te_aload_n (p2 := 14) rfl rfl rfl ?_
        refine te_iload_n (p2 := 15) rfl rfl rfl ?_
        refine te_iload_n (p2 := 16) rfl rfl rfl ?_
        refine cV_pI (p2 := 19) (i := 77) rfl rfl rfl rfl hI rfl rfl rfl (c_X4_isOver (raid := v2_3) (c := c) hI (by omega) (by omega)) (by decide) (fun y4 r4 => ?_)
        rcases r4 with ⟨w4, ov4⟩ | ⟨w4, ov4⟩
        · subst w4
          refine tz_eq (p2 := 22) rfl rfl (show Int32.toInt 1 = 1 from rfl) (fun c5 => absurd c5 (by omega)) (fun c5 => ?_)
          refine te_aload_n (p2 := 23) rfl rfl rfl ?_
          refine tg_r (p2 := 26) (i := 77) (r := 104) rfl rfl hI rfl rfl rfl ?_
          refine te_iload_n (p2 := 27) rfl rfl rfl ?_
          refine tl_i (p2 := 28) (i := 88) (n := 8) rfl rfl hI rfl rfl rfl rfl (by omega) (by omega) (fun y6 a6 b6 g6 e6 => ?_)
          refine te_goto rfl ?_
          refine ar_add (p2 := 33) rfl rfl rfl rfl (by omega) (by omega) (fun z7 e7 f7 => ?_)
          refine te_istore_n (p2 := 34) (lv2 := [(2, .int z7), (0, .ref 93), (1, .int c), (3, .int v2_3)]) rfl rfl (by decide) rfl ?_
          refine ar_inc (p2 := 37) (x := v2_3) rfl rfl (by decide) rfl (by decide) rfl (by omega) (by omega) (fun z8 e8 f8 => ?_)
          show EvP _ _ _ (37, [(3, .int z8), (2, .int z7), (0, .ref 93), (1, .int c)], [], h) _
          refine te_goto rfl ?_
          refine te_lv [(0, .ref 93), (1, .int c), (2, .int z7), (3, .int z8)] rfl rfl ⟨rfl, rfl, rfl, rfl, trivial⟩ ?_
          exact ih2 z7 z8 (by omega) (by omega) (by omega) (by omega) (by omega) (by omega) (by rw [show z8.toInt.toNat = v2_3.toInt.toNat + 1 by omega, smP_y (P := (fun r => ovc h r c)) (s := (fun r => (rv h 88 r).toInt)) ov4, ← w2_0, rv_of e6]; omega) (by omega)
        · subst w4
          refine tz_eq (p2 := 22) rfl rfl (show Int32.toInt 0 = 0 from rfl) (fun c9 => ?_) (fun c9 => absurd c9 (by omega))
          refine te_iconst (p2 := 32) (x := 0) rfl rfl (by decide) ?_
          refine ar_add (p2 := 33) rfl rfl rfl (show Int32.toInt 0 = 0 from rfl) (by omega) (by omega) (fun z10 e10 f10 => ?_)
          refine te_istore_n (p2 := 34) (lv2 := [(2, .int z10), (0, .ref 93), (1, .int c), (3, .int v2_3)]) rfl rfl (by decide) rfl ?_
          refine ar_inc (p2 := 37) (x := v2_3) rfl rfl (by decide) rfl (by decide) rfl (by omega) (by omega) (fun z11 e11 f11 => ?_)
          show EvP _ _ _ (37, [(3, .int z11), (2, .int z10), (0, .ref 93), (1, .int c)], [], h) _
          refine te_goto rfl ?_
          refine te_lv [(0, .ref 93), (1, .int c), (2, .int z10), (3, .int z11)] rfl rfl ⟨rfl, rfl, rfl, rfl, trivial⟩ ?_
          exact ih2 z10 z11 (by omega) (by omega) (by omega) (by omega) (by omega) (by omega) (by rw [show z11.toInt.toNat = v2_3.toInt.toNat + 1 by omega, smP_n (P := (fun r => ovc h r c)) (s := (fun r => (rv h 88 r).toInt)) ov4, ← w2_0]; omega) (by omega)
  refine te_lv [(0, .ref 93), (1, .int c), (2, .int 0), (3, .int 0)] rfl rfl ⟨rfl, rfl, rfl, rfl, trivial⟩ ?_
  exact lp2 9 0 0 (by decide) (by decide) (by decide) (by decide) (by have cc0 := (show Int32.toInt 0 = 0 from rfl); omega) (by have cc0 := (show Int32.toInt 0 = 0 from rfl); omega) rfl (by have cc0 := (show Int32.toInt 0 = 0 from rfl); omega)
set_option maxRecDepth 20000 in
set_option maxHeartbeats 4000000 in
theorem c_X4_chance {c : Int32} {h : im_H} (hI : tI h) (p_c0 : 0 ≤ c.toInt) (p_c1 : c.toInt ≤ 99) : CaP 2 33 [.ref 93, .int c] h (pI h (fun y => y = chX h c.toInt.toNat)) := by
  refine cap_of (d := 1) (M := mX4_chance) rfl (Nat.le_of_ble_eq_true rfl) ?_
  show EvP im_K0 1 mX4_chance (0, [(0, .ref 93), (1, .int c)], [], h) _
  refine te_aload_n (p2 := 1) rfl rfl rfl ?_
  obtain ⟨v1, e1, y1, w1, a1, b1, _⟩ := hI.2.1 77 0 (.inl (0, 8, 9999999999)) rfl
  subst w1
  refine tg_r (p2 := 4) (i := 77) (r := 106) rfl rfl hI rfl rfl rfl ?_
  refine te_iload_n (p2 := 5) rfl rfl rfl ?_
  refine tl_b (p2 := 6) (i := 90) (n := 100) rfl rfl hI rfl rfl rfl rfl (by omega) (by omega) (fun y2 a2 e2 => ?_)
  refine tz_eq (p2 := 9) rfl rfl rfl (fun c3 => ?_) (fun c3 => ?_)
  · refine te_iconst (p2 := 12) (x := 0) rfl rfl (by decide) ?_
    refine te_istore_n (p2 := 13) (lv2 := [(2, .int 0), (0, .ref 93), (1, .int c)]) rfl rfl (by decide) rfl ?_
    refine te_iconst (p2 := 14) (x := 0) rfl rfl (by decide) ?_
    refine te_istore_n (p2 := 15) (lv2 := [(3, .int 0), (2, .int 0), (0, .ref 93), (1, .int c)]) rfl rfl (by decide) rfl ?_
    have lp4 : ∀ (n4 : Nat) (v4_2 v4_3 : Int32) , 0 ≤ v4_3.toInt → v4_3.toInt ≤ 8 → v4_3.toInt ≤ y1.toInt → v4_2 = chn (fun r => 0 < (rv h 89 r).toInt ∧ ovc h r c) (fun r => (rv h 89 r).toInt) (rv h 88) v4_3.toInt.toNat → 8 - v4_3.toInt < (n4 : Int) → EvP im_K0 1 mX4_chance (15, [(0, .ref 93), (1, .int c), (2, .int v4_2), (3, .int v4_3)], [], h) (pI h (fun y => y = chX h c.toInt.toNat)) := by
      intro n4
      induction n4 with
      | zero => intro v4_2 v4_3 a4_3 b4_3 l4_0 w4_0 m4; exfalso; omega
      | succ n4 ih4 =>
        intro v4_2 v4_3 a4_3 b4_3 l4_0 w4_0 m4
        refine te_iload_n (p2 := 16) rfl rfl rfl ?_
        refine te_aload_n (p2 := 17) rfl rfl rfl ?_
        refine tg_e (p2 := 20) (i := 77) (v := .int y1) rfl rfl hI rfl rfl e1 ?_
        refine tb_ge (p2 := 23) rfl rfl rfl rfl (fun c5 => ?_) (fun c5 => ?_)
        · refine te_iload_n (p2 := 68) rfl rfl rfl ?_
          exact te_iret rfl rfl ⟨rfl, _, rfl, (by unfold chX; rw [rv_of e2, ofI (by omega)]; rw [if_pos (by omega), rv_of e1, show y1.toInt.toNat = v4_3.toInt.toNat by omega]; exact w4_0)⟩
        · refine te_aload_n (p2 := 24) rfl rfl rfl ?_
          refine tg_r (p2 := 27) (i := 77) (r := 105) rfl rfl hI rfl rfl rfl ?_
          refine te_iload_n (p2 := 28) rfl rfl rfl ?_
          refine tl_i (p2 := 29) (i := 89) (n := 8) rfl rfl hI rfl rfl rfl rfl (by omega) (by omega) (fun y6 a6 b6 g6 e6 => ?_)
          refine tz_le (p2 := 32) rfl rfl rfl (fun c7 => ?_) (fun c7 => ?_)
          · refine ar_inc (p2 := 64) (x := v4_3) rfl rfl (by decide) rfl (by decide) rfl (by omega) (by omega) (fun z8 e8 f8 => ?_)
            show EvP _ _ _ (64, [(3, .int z8), (0, .ref 93), (1, .int c), (2, .int v4_2)], [], h) _
            refine te_goto rfl ?_
            refine te_lv [(0, .ref 93), (1, .int c), (2, .int v4_2), (3, .int z8)] rfl rfl ⟨rfl, rfl, rfl, rfl, trivial⟩ ?_
            exact ih4 v4_2 z8 (by omega) (by omega) (by omega) (by rw [show z8.toInt.toNat = v4_3.toInt.toNat + 1 by omega, chn_n (P := (fun r => 0 < (rv h 89 r).toInt ∧ ovc h r c)) (u := (fun r => (rv h 89 r).toInt)) (s := rv h 88) (fun q => absurd q.1 (by rw [rv_of e6]; omega)), ← w4_0]) (by omega)
          · refine te_aload_n (p2 := 33) rfl rfl rfl ?_
            refine te_iload_n (p2 := 34) rfl rfl rfl ?_
            refine te_iload_n (p2 := 35) rfl rfl rfl ?_
            refine cV_pI (p2 := 38) (i := 77) rfl rfl rfl rfl hI rfl rfl rfl (c_X4_isOver (raid := v4_3) (c := c) hI (by omega) (by omega)) (by decide) (fun y9 r9 => ?_)
            rcases r9 with ⟨w9, ov9⟩ | ⟨w9, ov9⟩
            · subst w9
              refine tz_eq (p2 := 41) rfl rfl (show Int32.toInt 1 = 1 from rfl) (fun c10 => absurd c10 (by omega)) (fun c10 => ?_)
              refine te_iload_n (p2 := 42) rfl rfl rfl ?_
              refine te_aload_n (p2 := 43) rfl rfl rfl ?_
              refine tg_r (p2 := 46) (i := 77) (r := 104) rfl rfl hI rfl rfl rfl ?_
              refine te_iload_n (p2 := 47) rfl rfl rfl ?_
              refine tl_i (p2 := 48) (i := 88) (n := 8) rfl rfl hI rfl rfl rfl rfl (by omega) (by omega) (fun y11 a11 b11 g11 e11 => ?_)
              refine te_sipush (p2 := 51) (x := 2520) rfl rfl (by decide) ?_
              refine te_aload_n (p2 := 52) rfl rfl rfl ?_
              refine tg_r (p2 := 55) (i := 77) (r := 105) rfl rfl hI rfl rfl rfl ?_
              refine te_iload_n (p2 := 56) rfl rfl rfl ?_
              refine tl_e (p2 := 57) (i := 89) (n := 8) (t := 0) (Or.inl rfl) rfl rfl hI rfl rfl (by omega) (by omega) e6 ?_
              refine au_div (p2 := 58) rfl rfl rfl (by omega) (fun z13 e13 => ?_)
              refine au_mul (p2 := 59) rfl rfl (fun z14 e14 => ?_)
              refine au_add (p2 := 60) rfl rfl (fun z15 e15 => ?_)
              refine te_istore_n (p2 := 61) (lv2 := [(2, .int z15), (0, .ref 93), (1, .int c), (3, .int v4_3)]) rfl rfl (by decide) rfl ?_
              refine ar_inc (p2 := 64) (x := v4_3) rfl rfl (by decide) rfl (by decide) rfl (by omega) (by omega) (fun z16 e16 f16 => ?_)
              show EvP _ _ _ (64, [(3, .int z16), (2, .int z15), (0, .ref 93), (1, .int c)], [], h) _
              refine te_goto rfl ?_
              refine te_lv [(0, .ref 93), (1, .int c), (2, .int z15), (3, .int z16)] rfl rfl ⟨rfl, rfl, rfl, rfl, trivial⟩ ?_
              exact ih4 z15 z16 (by omega) (by omega) (by omega) (by rw [show z16.toInt.toNat = v4_3.toInt.toNat + 1 by omega, chn_y (P := (fun r => 0 < (rv h 89 r).toInt ∧ ovc h r c)) (u := (fun r => (rv h 89 r).toInt)) (s := rv h 88) ⟨by rw [rv_of e6]; omega, ov9⟩, ← w4_0, rv_of e11, rv_of e6, Int32.ofInt_toInt, e13, e14, e15]) (by omega)
            · subst w9
              refine tz_eq (p2 := 41) rfl rfl (show Int32.toInt 0 = 0 from rfl) (fun c17 => ?_) (fun c17 => absurd c17 (by omega))
              refine ar_inc (p2 := 64) (x := v4_3) rfl rfl (by decide) rfl (by decide) rfl (by omega) (by omega) (fun z18 e18 f18 => ?_)
              show EvP _ _ _ (64, [(3, .int z18), (0, .ref 93), (1, .int c), (2, .int v4_2)], [], h) _
              refine te_goto rfl ?_
              refine te_lv [(0, .ref 93), (1, .int c), (2, .int v4_2), (3, .int z18)] rfl rfl ⟨rfl, rfl, rfl, rfl, trivial⟩ ?_
              exact ih4 v4_2 z18 (by omega) (by omega) (by omega) (by rw [show z18.toInt.toNat = v4_3.toInt.toNat + 1 by omega, chn_n (P := (fun r => 0 < (rv h 89 r).toInt ∧ ovc h r c)) (u := (fun r => (rv h 89 r).toInt)) (s := rv h 88) (fun q => ov9 q.2), ← w4_0]) (by omega)
    refine te_lv [(0, .ref 93), (1, .int c), (2, .int 0), (3, .int 0)] rfl rfl ⟨rfl, rfl, rfl, rfl, trivial⟩ ?_
    exact lp4 9 0 0 (by decide) (by decide) (by have cc0 := (show Int32.toInt 0 = 0 from rfl); omega) rfl (by have cc0 := (show Int32.toInt 0 = 0 from rfl); omega)
  · refine te_iconst (p2 := 10) (x := 0) rfl rfl (by decide) ?_
    exact te_iret rfl rfl ⟨rfl, _, rfl, (by unfold chX; rw [rv_of e2, ofI (by omega)]; rw [if_neg (by omega)])⟩
set_option maxRecDepth 20000 in
set_option maxHeartbeats 4000000 in
theorem c_X4_likeliest  {h : im_H} (hI : tI h)  : CaP 3 34 [.ref 93] h (pI h (fun y => y = (nx (chX h) 100).1)) := by
  refine cap_of (d := 2) (M := mX4_likeliest) rfl (Nat.le_of_ble_eq_true rfl) ?_
  show EvP im_K0 2 mX4_likeliest (0, [(0, .ref 93)], [], h) _
  refine te_iconst (p2 := 1) (x := (-1)) rfl rfl (by decide) ?_
  refine te_istore_n (p2 := 2) (lv2 := [(1, .int (-1)), (0, .ref 93)]) rfl rfl (by decide) rfl ?_
  refine te_iconst (p2 := 3) (x := 0) rfl rfl (by decide) ?_
  refine te_istore_n (p2 := 4) (lv2 := [(2, .int 0), (1, .int (-1)), (0, .ref 93)]) rfl rfl (by decide) rfl ?_
  refine te_iconst (p2 := 5) (x := 0) rfl rfl (by decide) ?_
  refine te_istore_n (p2 := 6) (lv2 := [(3, .int 0), (2, .int 0), (1, .int (-1)), (0, .ref 93)]) rfl rfl (by decide) rfl ?_
  have lp1 : ∀ (n1 : Nat) (v1_1 v1_2 v1_3 : Int32) , 0 ≤ v1_3.toInt → v1_3.toInt ≤ 100 → (v1_1, v1_2) = nx (chX h) v1_3.toInt.toNat → 100 - v1_3.toInt < (n1 : Int) → EvP im_K0 2 mX4_likeliest (6, [(0, .ref 93), (1, .int v1_1), (2, .int v1_2), (3, .int v1_3)], [], h) (pI h (fun y => y = (nx (chX h) 100).1)) := by
    intro n1
    induction n1 with
    | zero => intro v1_1 v1_2 v1_3 a1_3 b1_3 w1_0 m1; exfalso; omega
    | succ n1 ih1 =>
      intro v1_1 v1_2 v1_3 a1_3 b1_3 w1_0 m1
      refine te_iload_n (p2 := 7) rfl rfl rfl ?_
      refine te_bipush (p2 := 9) (x := 100) rfl rfl (by decide) ?_
      refine tb_ge (p2 := 12) rfl rfl rfl (show Int32.toInt 100 = 100 from rfl) (fun c2 => ?_) (fun c2 => ?_)
      · refine te_iload_n (p2 := 37) rfl rfl rfl ?_
        exact te_iret rfl rfl ⟨rfl, _, rfl, (show _ = (nx (chX h) 100).1 from (by rw [show 100 = v1_3.toInt.toNat by omega, ← w1_0]))⟩
      · refine te_aload_n (p2 := 13) rfl rfl rfl ?_
        refine te_iload_n (p2 := 14) rfl rfl rfl ?_
        refine cV_pI (p2 := 17) (i := 77) rfl rfl rfl rfl hI rfl rfl rfl (c_X4_chance (c := v1_3) hI (by omega) (by omega)) (by decide) (fun y3 r3 => ?_)
        refine te_istore (p2 := 19) (lv2 := [(4, .int y3), (0, .ref 93), (1, .int v1_1), (2, .int v1_2), (3, .int v1_3)]) rfl rfl (by decide) rfl ?_
        refine te_iload (p2 := 21) rfl rfl rfl ?_
        refine te_iload_n (p2 := 22) rfl rfl rfl ?_
        refine tb_le (p2 := 25) rfl rfl rfl rfl (fun c4 => ?_) (fun c4 => ?_)
        · refine ar_inc (p2 := 33) (x := v1_3) rfl rfl (by decide) rfl (by decide) rfl (by omega) (by omega) (fun z5 e5 f5 => ?_)
          show EvP _ _ _ (33, [(3, .int z5), (4, .int y3), (0, .ref 93), (1, .int v1_1), (2, .int v1_2)], [], h) _
          refine te_goto rfl ?_
          refine te_lv [(0, .ref 93), (1, .int v1_1), (2, .int v1_2), (3, .int z5)] rfl rfl ⟨rfl, rfl, rfl, rfl, trivial⟩ ?_
          exact ih1 v1_1 v1_2 z5 (by omega) (by omega) (by rw [show z5.toInt.toNat = v1_3.toInt.toNat + 1 by omega, nx_n (by rw [← w1_0, ← r3]; show ¬ v1_2.toInt < _; omega)]; exact w1_0) (by omega)
        · refine te_iload (p2 := 27) rfl rfl rfl ?_
          refine te_istore_n (p2 := 28) (lv2 := [(2, .int y3), (4, .int y3), (0, .ref 93), (1, .int v1_1), (3, .int v1_3)]) rfl rfl (by decide) rfl ?_
          refine te_iload_n (p2 := 29) rfl rfl rfl ?_
          refine te_istore_n (p2 := 30) (lv2 := [(1, .int v1_3), (2, .int y3), (4, .int y3), (0, .ref 93), (3, .int v1_3)]) rfl rfl (by decide) rfl ?_
          refine ar_inc (p2 := 33) (x := v1_3) rfl rfl (by decide) rfl (by decide) rfl (by omega) (by omega) (fun z6 e6 f6 => ?_)
          show EvP _ _ _ (33, [(3, .int z6), (1, .int v1_3), (2, .int y3), (4, .int y3), (0, .ref 93)], [], h) _
          refine te_goto rfl ?_
          refine te_lv [(0, .ref 93), (1, .int v1_3), (2, .int y3), (3, .int z6)] rfl rfl ⟨rfl, rfl, rfl, rfl, trivial⟩ ?_
          exact ih1 v1_3 y3 z6 (by omega) (by omega) (by rw [show z6.toInt.toNat = v1_3.toInt.toNat + 1 by omega, nx_y (by rw [← w1_0, ← r3]; show v1_2.toInt < _; omega), ofI (by omega), ← r3]) (by omega)
  refine te_lv [(0, .ref 93), (1, .int (-1)), (2, .int 0), (3, .int 0)] rfl rfl ⟨rfl, rfl, rfl, rfl, trivial⟩ ?_
  exact lp1 101 (-1) 0 0 (by decide) (by decide) rfl (by have cc0 := (show Int32.toInt (-1) = (-1) from rfl); have cc1 := (show Int32.toInt 0 = 0 from rfl); omega)
abbrev Q1_next (y : Int32) (h h2 : im_H) : Prop := y = (nx (chX h) 100).1
set_option maxRecDepth 20000 in
set_option maxHeartbeats 4000000 in
theorem c_X11_next  {h : im_H} (hI : tI h)  : CaP 4 95 [.ref 16] h (fun v h2 => tI h2 ∧ fr F_X11_next h h2 ∧ ∃ y : Int32, v = some (.int y) ∧ Q1_next y h h2) := by
  refine cap_of (d := 3) (M := mX11_next) rfl (Nat.le_of_ble_eq_true rfl) ?_
  show EvP im_K0 3 mX11_next (0, [(0, .ref 16)], [], h) _
  have f0 : fr F_X11_next h h := fr_rf
  refine te_aload_n (p2 := 1) rfl rfl rfl ?_
  refine tg_r (p2 := 4) (i := 0) (r := 93) rfl rfl hI rfl rfl rfl ?_
  refine cV_pI (p2 := 7) (i := 77) rfl rfl rfl rfl hI rfl rfl rfl (c_X4_likeliest  hI ) (by decide) (fun y1 r1 => ?_)
  exact te_iret rfl rfl ⟨hI, f0, _, rfl, r1⟩
set_option maxRecDepth 20000 in
set_option maxHeartbeats 4000000 in
theorem c_X12_likelyIn {c : Int32} {h : im_H} (hI : tI h) (p_c0 : 0 ≤ c.toInt) (p_c1 : c.toInt ≤ 99) : CaP 3 179 [.ref 164, .int c] h (pI h (fun y => 0 ≤ y.toInt ∧ y.toInt ≤ 181440 ∧ y = chM h c.toInt.toNat)) := by
  refine cap_of (d := 2) (M := mX12_likelyIn) rfl (Nat.le_of_ble_eq_true rfl) ?_
  show EvP im_K0 2 mX12_likelyIn (0, [(0, .ref 164), (1, .int c)], [], h) _
  refine te_iconst (p2 := 1) (x := 0) rfl rfl (by decide) ?_
  obtain ⟨v1, e1, y1, w1, a1, b1, _⟩ := hI.2.1 148 29 (.inl (0, 8, 9999999999)) rfl
  subst w1
  obtain ⟨v2, e2, y2, w2, a2, b2, _⟩ := hI.2.1 177 c.toInt.toNat (.inl (0, 1, 9999999999)) (tq_row rfl (by omega))
  subst w2
  refine te_istore_n (p2 := 2) (lv2 := [(2, .int 0), (0, .ref 164), (1, .int c)]) rfl rfl (by decide) rfl ?_
  refine te_iconst (p2 := 3) (x := 0) rfl rfl (by decide) ?_
  refine te_istore_n (p2 := 4) (lv2 := [(3, .int 0), (2, .int 0), (0, .ref 164), (1, .int c)]) rfl rfl (by decide) rfl ?_
  have lp3 : ∀ (n3 : Nat) (v3_2 v3_3 : Int32) , 0 ≤ v3_2.toInt → v3_2.toInt ≤ 181440 → 0 ≤ v3_3.toInt → v3_3.toInt ≤ 8 → v3_2.toInt ≤ 22680 * v3_3.toInt → v3_3.toInt ≤ y1.toInt → v3_2 = chn (fun r => ovh h r c) (opn h) (rv h 176) v3_3.toInt.toNat → (y2.toInt ≠ 0 → v3_2 = 0) → 8 - v3_3.toInt < (n3 : Int) → EvP im_K0 2 mX12_likelyIn (4, [(0, .ref 164), (1, .int c), (2, .int v3_2), (3, .int v3_3)], [], h) (pI h (fun y => 0 ≤ y.toInt ∧ y.toInt ≤ 181440 ∧ y = chM h c.toInt.toNat)) := by
    intro n3
    induction n3 with
    | zero => intro v3_2 v3_3 a3_2 b3_2 a3_3 b3_3 l3_0 l3_1 w3_0 w3_1 m3; exfalso; omega
    | succ n3 ih3 =>
      intro v3_2 v3_3 a3_2 b3_2 a3_3 b3_3 l3_0 l3_1 w3_0 w3_1 m3
      refine te_iload_n (p2 := 5) rfl rfl rfl ?_
      refine te_aload_n (p2 := 6) rfl rfl rfl ?_
      refine tg_e (p2 := 9) (i := 148) (v := .int y1) rfl rfl hI rfl rfl e1 ?_
      refine tb_ge (p2 := 12) rfl rfl rfl rfl (fun c4 => ?_) (fun c4 => ?_)
      · refine te_iload_n (p2 := 123) rfl rfl rfl ?_
        have fin5 : v3_2 = chM h c.toInt.toNat := (by unfold chM; rw [rv_of e2, ofI (by omega)]; by_cases hq : y2.toInt = 0; (· rw [if_pos hq, rv_of e1, show y1.toInt.toNat = v3_3.toInt.toNat by omega]; exact w3_0); (· rw [if_neg hq]; exact w3_1 (by omega)))
        exact te_iret rfl rfl ⟨rfl, _, rfl, by omega, by omega, fin5⟩
      · refine te_aload_n (p2 := 13) rfl rfl rfl ?_
        refine tg_r (p2 := 16) (i := 148) (r := 193) rfl rfl hI rfl rfl rfl ?_
        refine te_iload_n (p2 := 17) rfl rfl rfl ?_
        refine tl_e (p2 := 18) (i := 177) (n := 100) (t := 1) (Or.inr rfl) rfl rfl hI rfl rfl (by omega) (by omega) e2 ?_
        refine tz_ne (p2 := 21) rfl rfl rfl (fun c7 => ?_) (fun c7 => ?_)
        · refine te_iload_n (p2 := 123) rfl rfl rfl ?_
          have fin8 : v3_2 = chM h c.toInt.toNat := (by unfold chM; rw [rv_of e2, ofI (by omega)]; by_cases hq : y2.toInt = 0; (· rw [if_pos hq, rv_of e1, show y1.toInt.toNat = v3_3.toInt.toNat by omega]; exact w3_0); (· rw [if_neg hq]; exact w3_1 (by omega)))
          exact te_iret rfl rfl ⟨rfl, _, rfl, by omega, by omega, fin8⟩
        · refine te_aload_n (p2 := 22) rfl rfl rfl ?_
          refine te_iload_n (p2 := 23) rfl rfl rfl ?_
          refine te_iload_n (p2 := 24) rfl rfl rfl ?_
          refine cV_pI (p2 := 27) (i := 148) rfl rfl rfl rfl hI rfl rfl rfl (t_X12_isOver (r := v3_3) (c := c) hI (by omega) (by omega)) (by decide) (fun y9 r9 => ?_)
          rcases r9 with ⟨w9, ov9⟩ | ⟨w9, ov9⟩
          · subst w9
            refine tz_eq (p2 := 30) rfl rfl (show Int32.toInt 1 = 1 from rfl) (fun c10 => absurd c10 (by omega)) (fun c10 => ?_)
            refine te_iconst (p2 := 31) (x := 0) rfl rfl (by decide) ?_
            refine te_istore (p2 := 33) (lv2 := [(4, .int 0), (0, .ref 164), (1, .int c), (2, .int v3_2), (3, .int v3_3)]) rfl rfl (by decide) rfl ?_
            refine te_aload_n (p2 := 34) rfl rfl rfl ?_
            refine tg_r (p2 := 37) (i := 148) (r := 189) rfl rfl hI rfl rfl rfl ?_
            refine te_iload_n (p2 := 38) rfl rfl rfl ?_
            refine tl_i (p2 := 39) (i := 173) (n := 8) rfl rfl hI rfl rfl rfl rfl (by omega) (by omega) (fun y11 a11 b11 g11 e11 => ?_)
            refine te_istore (p2 := 41) (lv2 := [(5, .int y11), (4, .int 0), (0, .ref 164), (1, .int c), (2, .int v3_2), (3, .int v3_3)]) rfl rfl (by decide) rfl ?_
            refine te_iconst (p2 := 42) (x := 0) rfl rfl (by decide) ?_
            refine te_istore (p2 := 44) (lv2 := [(6, .int 0), (5, .int y11), (4, .int 0), (0, .ref 164), (1, .int c), (2, .int v3_2), (3, .int v3_3)]) rfl rfl (by decide) rfl ?_
            obtain ⟨v13, e13, y13, w13, a13, b13, _⟩ := hI.2.1 174 v3_3.toInt.toNat (.inl (0, 3, 9999999999)) (tq_row rfl (by omega))
            subst w13
            obtain ⟨v14, e14, y14, w14, a14, b14, _⟩ := hI.2.1 175 v3_3.toInt.toNat (.inl (0, 10, 9999999999)) (tq_row rfl (by omega))
            subst w14
            have lp12 : ∀ (n12 : Nat) (v12_4 v12_5 v12_6 t12_f t12_s t12_n : Int32) , 0 ≤ v12_4.toInt → v12_4.toInt ≤ 10 → (-1) ≤ v12_5.toInt → v12_5.toInt ≤ 99 → 0 ≤ v12_6.toInt → v12_6.toInt ≤ 10 → rd h 173 v3_3.toInt.toNat = some (.int t12_f) → rd h 174 v3_3.toInt.toNat = some (.int t12_s) → rd h 175 v3_3.toInt.toNat = some (.int t12_n) → 0 ≤ t12_f.toInt → t12_f.toInt ≤ 99 → 0 ≤ t12_s.toInt → t12_s.toInt ≤ 3 → 0 ≤ t12_n.toInt → t12_n.toInt ≤ 10 → v12_4.toInt ≤ v12_6.toInt → v12_6.toInt ≤ t12_n.toInt → (v12_4.toInt = cnt t12_f t12_s (rv h 177) v12_6.toInt.toNat ∧ v12_5 = pth t12_f t12_s v12_6.toInt.toNat ∧ ∀ i, i < v12_6.toInt.toNat → (pth t12_f t12_s i).toInt ≠ -1) → 10 - v12_6.toInt < (n12 : Int) → EvP im_K0 2 mX12_likelyIn (44, [(0, .ref 164), (1, .int c), (2, .int v3_2), (3, .int v3_3), (4, .int v12_4), (5, .int v12_5), (6, .int v12_6)], [], h) (pI h (fun y => 0 ≤ y.toInt ∧ y.toInt ≤ 181440 ∧ y = chM h c.toInt.toNat)) := by
              intro n12
              induction n12 with
              | zero => intro v12_4 v12_5 v12_6 t12_f t12_s t12_n a12_4 b12_4 a12_5 b12_5 a12_6 b12_6 v12_f v12_s v12_n va12_f vb12_f va12_s vb12_s va12_n vb12_n l12_0 l12_1 w12_0 m12; exfalso; omega
              | succ n12 ih12 =>
                intro v12_4 v12_5 v12_6 t12_f t12_s t12_n a12_4 b12_4 a12_5 b12_5 a12_6 b12_6 v12_f v12_s v12_n va12_f vb12_f va12_s vb12_s va12_n vb12_n l12_0 l12_1 w12_0 m12
                refine te_iload (p2 := 46) rfl rfl rfl ?_
                refine te_aload_n (p2 := 47) rfl rfl rfl ?_
                refine tg_r (p2 := 50) (i := 148) (r := 191) rfl rfl hI rfl rfl rfl ?_
                refine te_iload_n (p2 := 51) rfl rfl rfl ?_
                refine tl_e (p2 := 52) (i := 175) (n := 8) (t := 0) (Or.inl rfl) rfl rfl hI rfl rfl (by omega) (by omega) v12_n ?_
                refine tb_ge (p2 := 55) rfl rfl rfl rfl (fun c16 => ?_) (fun c16 => ?_)
                · refine te_iload_n (p2 := 101) rfl rfl rfl ?_
                  refine te_sipush (p2 := 104) (x := 2520) rfl rfl (by decide) ?_
                  refine te_iload (p2 := 106) rfl rfl rfl ?_
                  have oe17 : v12_4.toInt = cnt t12_f t12_s (rv h 177) t12_n.toInt.toNat := by (rw [w12_0.1]; by_cases hq : v12_6.toInt.toNat = t12_n.toInt.toNat; rw [hq]; exact (cnt_stop (fun q => absurd (q _ (Nat.le_refl _)) (by rw [← w12_0.2.1]; omega)) _ (by omega)).symm)
                  have oo17 : opn h v3_3.toInt.toNat = v12_4.toInt := by (unfold opn; rw [rv_of v12_f, rv_of v12_s, rv_of v12_n, oe17])
                  have op17 := cnt_ov (pr := rv h 177) (by rw [rv_of e2]; omega) _ ((ovh_of v12_f v12_s v12_n).mp ov9)
                  rw [← oe17] at op17
                  refine ab_div (p2 := 107) rfl rfl (show Int32.toInt 2520 = 2520 from rfl) rfl (by decide) (by omega) (fun z18 e18 fa18 fb18 => ?_)
                  refine te_aload_n (p2 := 108) rfl rfl rfl ?_
                  refine tg_r (p2 := 111) (i := 148) (r := 192) rfl rfl hI rfl rfl rfl ?_
                  refine te_iload_n (p2 := 112) rfl rfl rfl ?_
                  refine tl_i (p2 := 113) (i := 176) (n := 8) rfl rfl hI rfl rfl rfl rfl (by omega) (by omega) (fun y19 a19 b19 g19 e19 => ?_)
                  refine ab_mul 2520 9 (p2 := 114) rfl rfl rfl rfl (by omega) (by omega) (by omega) (by omega) (by decide) (fun z20 e20 fa20 fb20 => ?_)
                  refine ar_add (p2 := 115) rfl rfl rfl rfl (by omega) (by omega) (fun z21 e21 f21 => ?_)
                  refine te_istore_n (p2 := 116) (lv2 := [(2, .int z21), (0, .ref 164), (1, .int c), (3, .int v3_3), (4, .int v12_4), (5, .int v12_5), (6, .int v12_6)]) rfl rfl (by decide) rfl ?_
                  refine ar_inc (p2 := 119) (x := v3_3) rfl rfl (by decide) rfl (by decide) rfl (by omega) (by omega) (fun z22 e22 f22 => ?_)
                  show EvP _ _ _ (119, [(3, .int z22), (2, .int z21), (0, .ref 164), (1, .int c), (4, .int v12_4), (5, .int v12_5), (6, .int v12_6)], [], h) _
                  refine te_goto rfl ?_
                  refine te_lv [(0, .ref 164), (1, .int c), (2, .int z21), (3, .int z22)] rfl rfl ⟨rfl, rfl, rfl, rfl, trivial⟩ ?_
                  exact ih3 z21 z22 (by omega) (by omega) (by omega) (by omega) (by omega) (by omega) (by rw [show z22.toInt.toNat = v3_3.toInt.toNat + 1 by omega, chn_y (P := (fun r => ovh h r c)) (u := opn h) (s := rv h 176) ov9, ← w3_0, rv_of e19, oo17, Int32.ofInt_toInt, e18, Int32.mul_comm, e20, e21]) (fun h9 => absurd (show y2.toInt = 0 by omega) h9) (by omega)
                · refine te_iload (p2 := 57) rfl rfl rfl ?_
                  refine te_iconst (p2 := 58) (x := (-1)) rfl rfl (by decide) ?_
                  refine tb_eq (p2 := 61) rfl rfl rfl (show Int32.toInt (-1) = (-1) from rfl) (fun c23 => ?_) (fun c23 => ?_)
                  · refine te_iload_n (p2 := 101) rfl rfl rfl ?_
                    refine te_sipush (p2 := 104) (x := 2520) rfl rfl (by decide) ?_
                    refine te_iload (p2 := 106) rfl rfl rfl ?_
                    have oe24 : v12_4.toInt = cnt t12_f t12_s (rv h 177) t12_n.toInt.toNat := by (rw [w12_0.1]; by_cases hq : v12_6.toInt.toNat = t12_n.toInt.toNat; rw [hq]; exact (cnt_stop (fun q => absurd (q _ (Nat.le_refl _)) (by rw [← w12_0.2.1]; omega)) _ (by omega)).symm)
                    have oo24 : opn h v3_3.toInt.toNat = v12_4.toInt := by (unfold opn; rw [rv_of v12_f, rv_of v12_s, rv_of v12_n, oe24])
                    have op24 := cnt_ov (pr := rv h 177) (by rw [rv_of e2]; omega) _ ((ovh_of v12_f v12_s v12_n).mp ov9)
                    rw [← oe24] at op24
                    refine ab_div (p2 := 107) rfl rfl (show Int32.toInt 2520 = 2520 from rfl) rfl (by decide) (by omega) (fun z25 e25 fa25 fb25 => ?_)
                    refine te_aload_n (p2 := 108) rfl rfl rfl ?_
                    refine tg_r (p2 := 111) (i := 148) (r := 192) rfl rfl hI rfl rfl rfl ?_
                    refine te_iload_n (p2 := 112) rfl rfl rfl ?_
                    refine tl_i (p2 := 113) (i := 176) (n := 8) rfl rfl hI rfl rfl rfl rfl (by omega) (by omega) (fun y26 a26 b26 g26 e26 => ?_)
                    refine ab_mul 2520 9 (p2 := 114) rfl rfl rfl rfl (by omega) (by omega) (by omega) (by omega) (by decide) (fun z27 e27 fa27 fb27 => ?_)
                    refine ar_add (p2 := 115) rfl rfl rfl rfl (by omega) (by omega) (fun z28 e28 f28 => ?_)
                    refine te_istore_n (p2 := 116) (lv2 := [(2, .int z28), (0, .ref 164), (1, .int c), (3, .int v3_3), (4, .int v12_4), (5, .int v12_5), (6, .int v12_6)]) rfl rfl (by decide) rfl ?_
                    refine ar_inc (p2 := 119) (x := v3_3) rfl rfl (by decide) rfl (by decide) rfl (by omega) (by omega) (fun z29 e29 f29 => ?_)
                    show EvP _ _ _ (119, [(3, .int z29), (2, .int z28), (0, .ref 164), (1, .int c), (4, .int v12_4), (5, .int v12_5), (6, .int v12_6)], [], h) _
                    refine te_goto rfl ?_
                    refine te_lv [(0, .ref 164), (1, .int c), (2, .int z28), (3, .int z29)] rfl rfl ⟨rfl, rfl, rfl, rfl, trivial⟩ ?_
                    exact ih3 z28 z29 (by omega) (by omega) (by omega) (by omega) (by omega) (by omega) (by rw [show z29.toInt.toNat = v3_3.toInt.toNat + 1 by omega, chn_y (P := (fun r => ovh h r c)) (u := opn h) (s := rv h 176) ov9, ← w3_0, rv_of e26, oo24, Int32.ofInt_toInt, e25, Int32.mul_comm, e27, e28]) (fun h9 => absurd (show y2.toInt = 0 by omega) h9) (by omega)
                  · refine te_iload (p2 := 63) rfl rfl rfl ?_
                    refine te_aload_n (p2 := 64) rfl rfl rfl ?_
                    refine tg_r (p2 := 67) (i := 148) (r := 193) rfl rfl hI rfl rfl rfl ?_
                    refine te_iload (p2 := 69) rfl rfl rfl ?_
                    refine tl_b (p2 := 70) (i := 177) (n := 100) rfl rfl hI rfl rfl rfl rfl (by omega) (by omega) (fun y30 a30 e30 => ?_)
                    refine tz_eq (p2 := 73) rfl rfl rfl (fun c31 => ?_) (fun c31 => ?_)
                    · refine te_iconst (p2 := 78) (x := 1) rfl rfl (by decide) ?_
                      refine ar_add (p2 := 79) rfl rfl rfl (show Int32.toInt 1 = 1 from rfl) (by omega) (by omega) (fun z32 e32 f32 => ?_)
                      refine te_istore (p2 := 81) (lv2 := [(4, .int z32), (0, .ref 164), (1, .int c), (2, .int v3_2), (3, .int v3_3), (5, .int v12_5), (6, .int v12_6)]) rfl rfl (by decide) rfl ?_
                      refine te_iload (p2 := 83) rfl rfl rfl ?_
                      refine te_aload_n (p2 := 84) rfl rfl rfl ?_
                      refine tg_r (p2 := 87) (i := 148) (r := 190) rfl rfl hI rfl rfl rfl ?_
                      refine te_iload_n (p2 := 88) rfl rfl rfl ?_
                      refine tl_e (p2 := 89) (i := 174) (n := 8) (t := 0) (Or.inl rfl) rfl rfl hI rfl rfl (by omega) (by omega) v12_s ?_
                      refine cS_pI (p2 := 92) rfl rfl rfl rfl (t_X12_nextTo (c := v12_5) (side := t12_s) hI (by omega) (by omega)) (by decide) (fun y34 r34 => ?_)
                      obtain ⟨a34, b34, e34⟩ := r34
                      refine te_istore (p2 := 94) (lv2 := [(5, .int y34), (4, .int z32), (0, .ref 164), (1, .int c), (2, .int v3_2), (3, .int v3_3), (6, .int v12_6)]) rfl rfl (by decide) rfl ?_
                      refine ar_inc (p2 := 97) (x := v12_6) rfl rfl (by decide) rfl (by decide) rfl (by omega) (by omega) (fun z35 e35 f35 => ?_)
                      show EvP _ _ _ (97, [(6, .int z35), (5, .int y34), (4, .int z32), (0, .ref 164), (1, .int c), (2, .int v3_2), (3, .int v3_3)], [], h) _
                      refine te_goto rfl ?_
                      refine te_lv [(0, .ref 164), (1, .int c), (2, .int v3_2), (3, .int v3_3), (4, .int z32), (5, .int y34), (6, .int z35)] rfl rfl ⟨rfl, rfl, rfl, rfl, rfl, rfl, rfl, trivial⟩ ?_
                      exact ih12 z32 y34 z35 t12_f t12_s t12_n (by omega) (by omega) (by omega) (by omega) (by omega) (by omega) v12_f v12_s v12_n (by omega) (by omega) (by omega) (by omega) (by omega) (by omega) (by omega) (by omega) (by rw [show z35.toInt.toNat = v12_6.toInt.toNat + 1 by omega]; exact ⟨(by (by_cases hq : y30.toInt = 0); (· rw [cnt_y (vld_s w12_0.2.2 (by rw [← w12_0.2.1]; omega)) (by rw [(show rv h 177 (pth t12_f t12_s v12_6.toInt.toNat).toInt.toNat = y30 from (by rw [← w12_0.2.1]; exact rv_of e30))]; exact hq), ← w12_0.1]; omega); (· rw [cnt_n (fun q => hq (by rw [← (show rv h 177 (pth t12_f t12_s v12_6.toInt.toNat).toInt.toNat = y30 from (by rw [← w12_0.2.1]; exact rv_of e30))]; exact q.2)), ← w12_0.1]; omega)), by show y34 = nbr (pth t12_f t12_s v12_6.toInt.toNat) t12_s; rw [← w12_0.2.1]; exact e34, fun i hi => (vld_s w12_0.2.2 (by rw [← w12_0.2.1]; omega)) i (by omega)⟩) (by omega)
                    · refine te_iconst (p2 := 74) (x := 0) rfl rfl (by decide) ?_
                      refine te_goto rfl ?_
                      refine ar_add (p2 := 79) rfl rfl rfl (show Int32.toInt 0 = 0 from rfl) (by omega) (by omega) (fun z36 e36 f36 => ?_)
                      refine te_istore (p2 := 81) (lv2 := [(4, .int z36), (0, .ref 164), (1, .int c), (2, .int v3_2), (3, .int v3_3), (5, .int v12_5), (6, .int v12_6)]) rfl rfl (by decide) rfl ?_
                      refine te_iload (p2 := 83) rfl rfl rfl ?_
                      refine te_aload_n (p2 := 84) rfl rfl rfl ?_
                      refine tg_r (p2 := 87) (i := 148) (r := 190) rfl rfl hI rfl rfl rfl ?_
                      refine te_iload_n (p2 := 88) rfl rfl rfl ?_
                      refine tl_e (p2 := 89) (i := 174) (n := 8) (t := 0) (Or.inl rfl) rfl rfl hI rfl rfl (by omega) (by omega) v12_s ?_
                      refine cS_pI (p2 := 92) rfl rfl rfl rfl (t_X12_nextTo (c := v12_5) (side := t12_s) hI (by omega) (by omega)) (by decide) (fun y38 r38 => ?_)
                      obtain ⟨a38, b38, e38⟩ := r38
                      refine te_istore (p2 := 94) (lv2 := [(5, .int y38), (4, .int z36), (0, .ref 164), (1, .int c), (2, .int v3_2), (3, .int v3_3), (6, .int v12_6)]) rfl rfl (by decide) rfl ?_
                      refine ar_inc (p2 := 97) (x := v12_6) rfl rfl (by decide) rfl (by decide) rfl (by omega) (by omega) (fun z39 e39 f39 => ?_)
                      show EvP _ _ _ (97, [(6, .int z39), (5, .int y38), (4, .int z36), (0, .ref 164), (1, .int c), (2, .int v3_2), (3, .int v3_3)], [], h) _
                      refine te_goto rfl ?_
                      refine te_lv [(0, .ref 164), (1, .int c), (2, .int v3_2), (3, .int v3_3), (4, .int z36), (5, .int y38), (6, .int z39)] rfl rfl ⟨rfl, rfl, rfl, rfl, rfl, rfl, rfl, trivial⟩ ?_
                      exact ih12 z36 y38 z39 t12_f t12_s t12_n (by omega) (by omega) (by omega) (by omega) (by omega) (by omega) v12_f v12_s v12_n (by omega) (by omega) (by omega) (by omega) (by omega) (by omega) (by omega) (by omega) (by rw [show z39.toInt.toNat = v12_6.toInt.toNat + 1 by omega]; exact ⟨(by (by_cases hq : y30.toInt = 0); (· rw [cnt_y (vld_s w12_0.2.2 (by rw [← w12_0.2.1]; omega)) (by rw [(show rv h 177 (pth t12_f t12_s v12_6.toInt.toNat).toInt.toNat = y30 from (by rw [← w12_0.2.1]; exact rv_of e30))]; exact hq), ← w12_0.1]; omega); (· rw [cnt_n (fun q => hq (by rw [← (show rv h 177 (pth t12_f t12_s v12_6.toInt.toNat).toInt.toNat = y30 from (by rw [← w12_0.2.1]; exact rv_of e30))]; exact q.2)), ← w12_0.1]; omega)), by show y38 = nbr (pth t12_f t12_s v12_6.toInt.toNat) t12_s; rw [← w12_0.2.1]; exact e38, fun i hi => (vld_s w12_0.2.2 (by rw [← w12_0.2.1]; omega)) i (by omega)⟩) (by omega)
            refine te_lv [(0, .ref 164), (1, .int c), (2, .int v3_2), (3, .int v3_3), (4, .int 0), (5, .int y11), (6, .int 0)] rfl rfl ⟨rfl, rfl, rfl, rfl, rfl, rfl, rfl, trivial⟩ ?_
            exact lp12 11 0 y11 0 y11 y13 y14 (by decide) (by decide) (by omega) (by omega) (by decide) (by decide) e11 e13 e14 (by omega) (by omega) (by omega) (by omega) (by omega) (by omega) (by have cc0 := (show Int32.toInt 0 = 0 from rfl); omega) (by have cc0 := (show Int32.toInt 0 = 0 from rfl); omega) ⟨rfl, rfl, fun i hi => absurd hi (Nat.not_lt_zero i)⟩ (by have cc0 := (show Int32.toInt 0 = 0 from rfl); omega)
          · subst w9
            refine tz_eq (p2 := 30) rfl rfl (show Int32.toInt 0 = 0 from rfl) (fun c40 => ?_) (fun c40 => absurd c40 (by omega))
            refine ar_inc (p2 := 119) (x := v3_3) rfl rfl (by decide) rfl (by decide) rfl (by omega) (by omega) (fun z41 e41 f41 => ?_)
            show EvP _ _ _ (119, [(3, .int z41), (0, .ref 164), (1, .int c), (2, .int v3_2)], [], h) _
            refine te_goto rfl ?_
            refine te_lv [(0, .ref 164), (1, .int c), (2, .int v3_2), (3, .int z41)] rfl rfl ⟨rfl, rfl, rfl, rfl, trivial⟩ ?_
            exact ih3 v3_2 z41 (by omega) (by omega) (by omega) (by omega) (by omega) (by omega) (by rw [show z41.toInt.toNat = v3_3.toInt.toNat + 1 by omega, chn_n (P := (fun r => ovh h r c)) (u := opn h) (s := rv h 176) ov9, ← w3_0]) (fun h9 => absurd (show y2.toInt = 0 by omega) h9) (by omega)
  refine te_lv [(0, .ref 164), (1, .int c), (2, .int 0), (3, .int 0)] rfl rfl ⟨rfl, rfl, rfl, rfl, trivial⟩ ?_
  exact lp3 9 0 0 (by decide) (by decide) (by decide) (by decide) (by have cc0 := (show Int32.toInt 0 = 0 from rfl); omega) (by have cc0 := (show Int32.toInt 0 = 0 from rfl); omega) rfl (fun _ => rfl) (by have cc0 := (show Int32.toInt 0 = 0 from rfl); omega)
abbrev Q2_next (y : Int32) (h h2 : im_H) : Prop := y = (nx (chM h) 100).1
set_option maxRecDepth 20000 in
set_option maxHeartbeats 4000000 in
theorem c_X12_next  {h : im_H} (hI : tI h)  : CaP 4 181 [.ref 164] h (fun v h2 => tI h2 ∧ fr F_X12_next h h2 ∧ ∃ y : Int32, v = some (.int y) ∧ Q2_next y h h2) := by
  refine cap_of (d := 3) (M := mX12_next) rfl (Nat.le_of_ble_eq_true rfl) ?_
  show EvP im_K0 3 mX12_next (0, [(0, .ref 164)], [], h) _
  have f0 : fr F_X12_next h h := fr_rf
  refine te_iconst (p2 := 1) (x := (-1)) rfl rfl (by decide) ?_
  refine te_istore_n (p2 := 2) (lv2 := [(1, .int (-1)), (0, .ref 164)]) rfl rfl (by decide) rfl ?_
  refine te_iconst (p2 := 3) (x := 0) rfl rfl (by decide) ?_
  refine te_istore_n (p2 := 4) (lv2 := [(2, .int 0), (1, .int (-1)), (0, .ref 164)]) rfl rfl (by decide) rfl ?_
  refine te_iconst (p2 := 5) (x := 0) rfl rfl (by decide) ?_
  refine te_istore_n (p2 := 6) (lv2 := [(3, .int 0), (2, .int 0), (1, .int (-1)), (0, .ref 164)]) rfl rfl (by decide) rfl ?_
  have lp1 : ∀ (n1 : Nat) (v1_1 v1_2 v1_3 : Int32) , 0 ≤ v1_3.toInt → v1_3.toInt ≤ 100 → (v1_1, v1_2) = nx (chM h) v1_3.toInt.toNat → 100 - v1_3.toInt < (n1 : Int) → EvP im_K0 3 mX12_next (6, [(0, .ref 164), (1, .int v1_1), (2, .int v1_2), (3, .int v1_3)], [], h) (fun v h2 => tI h2 ∧ fr F_X12_next h h2 ∧ ∃ y : Int32, v = some (.int y) ∧ Q2_next y h h2) := by
    intro n1
    induction n1 with
    | zero => intro v1_1 v1_2 v1_3 a1_3 b1_3 w1_0 m1; exfalso; omega
    | succ n1 ih1 =>
      intro v1_1 v1_2 v1_3 a1_3 b1_3 w1_0 m1
      refine te_iload_n (p2 := 7) rfl rfl rfl ?_
      refine te_bipush (p2 := 9) (x := 100) rfl rfl (by decide) ?_
      refine tb_ge (p2 := 12) rfl rfl rfl (show Int32.toInt 100 = 100 from rfl) (fun c2 => ?_) (fun c2 => ?_)
      · refine te_iload_n (p2 := 37) rfl rfl rfl ?_
        exact te_iret rfl rfl ⟨hI, f0, _, rfl, (show _ = (nx (chM h) 100).1 from (by rw [show 100 = v1_3.toInt.toNat by omega, ← w1_0]))⟩
      · refine te_aload_n (p2 := 13) rfl rfl rfl ?_
        refine te_iload_n (p2 := 14) rfl rfl rfl ?_
        refine cV_pI (p2 := 17) (i := 148) rfl rfl rfl rfl hI rfl rfl rfl (c_X12_likelyIn (c := v1_3) hI (by omega) (by omega)) (by decide) (fun y3 r3 => ?_)
        obtain ⟨a3, b3, r3⟩ := r3
        refine te_istore (p2 := 19) (lv2 := [(4, .int y3), (0, .ref 164), (1, .int v1_1), (2, .int v1_2), (3, .int v1_3)]) rfl rfl (by decide) rfl ?_
        refine te_iload (p2 := 21) rfl rfl rfl ?_
        refine te_iload_n (p2 := 22) rfl rfl rfl ?_
        refine tb_le (p2 := 25) rfl rfl rfl rfl (fun c4 => ?_) (fun c4 => ?_)
        · refine ar_inc (p2 := 33) (x := v1_3) rfl rfl (by decide) rfl (by decide) rfl (by omega) (by omega) (fun z5 e5 f5 => ?_)
          show EvP _ _ _ (33, [(3, .int z5), (4, .int y3), (0, .ref 164), (1, .int v1_1), (2, .int v1_2)], [], h) _
          refine te_goto rfl ?_
          refine te_lv [(0, .ref 164), (1, .int v1_1), (2, .int v1_2), (3, .int z5)] rfl rfl ⟨rfl, rfl, rfl, rfl, trivial⟩ ?_
          exact ih1 v1_1 v1_2 z5 (by omega) (by omega) (by rw [show z5.toInt.toNat = v1_3.toInt.toNat + 1 by omega, nx_n (by rw [← w1_0, ← r3]; show ¬ v1_2.toInt < _; omega)]; exact w1_0) (by omega)
        · refine te_iload (p2 := 27) rfl rfl rfl ?_
          refine te_istore_n (p2 := 28) (lv2 := [(2, .int y3), (4, .int y3), (0, .ref 164), (1, .int v1_1), (3, .int v1_3)]) rfl rfl (by decide) rfl ?_
          refine te_iload_n (p2 := 29) rfl rfl rfl ?_
          refine te_istore_n (p2 := 30) (lv2 := [(1, .int v1_3), (2, .int y3), (4, .int y3), (0, .ref 164), (3, .int v1_3)]) rfl rfl (by decide) rfl ?_
          refine ar_inc (p2 := 33) (x := v1_3) rfl rfl (by decide) rfl (by decide) rfl (by omega) (by omega) (fun z6 e6 f6 => ?_)
          show EvP _ _ _ (33, [(3, .int z6), (1, .int v1_3), (2, .int y3), (4, .int y3), (0, .ref 164)], [], h) _
          refine te_goto rfl ?_
          refine te_lv [(0, .ref 164), (1, .int v1_3), (2, .int y3), (3, .int z6)] rfl rfl ⟨rfl, rfl, rfl, rfl, trivial⟩ ?_
          exact ih1 v1_3 y3 z6 (by omega) (by omega) (by rw [show z6.toInt.toNat = v1_3.toInt.toNat + 1 by omega, nx_y (by rw [← w1_0, ← r3]; show v1_2.toInt < _; omega), ofI (by omega), ← r3]) (by omega)
  refine te_lv [(0, .ref 164), (1, .int (-1)), (2, .int 0), (3, .int 0)] rfl rfl ⟨rfl, rfl, rfl, rfl, trivial⟩ ?_
  exact lp1 101 (-1) 0 0 (by decide) (by decide) rfl (by have cc0 := (show Int32.toInt (-1) = (-1) from rfl); have cc1 := (show Int32.toInt 0 = 0 from rfl); omega)
set_option maxRecDepth 20000 in
set_option maxHeartbeats 4000000 in
theorem c_X11_greatestDivisor {a : Int32} {b : Int32} {h : im_H} (hI : tI h)  : CaP 1 115 [.int a, .int b] h (pI h (fun y => ∃ k : Nat, y = (eu a b k).1 ∧ (∀ j, j < k → (eu a b j).2.toInt ≠ 0) ∧ ((eu a b k).2.toInt = 0 ∨ k = 64))) := by
  refine cap_of (d := 0) (M := mX11_greatestDivisor) rfl (Nat.le_of_ble_eq_true rfl) ?_
  show EvP im_K0 0 mX11_greatestDivisor (0, [(0, .int a), (1, .int b)], [], h) _
  refine te_iload_n (p2 := 1) rfl rfl rfl ?_
  refine te_istore_n (p2 := 2) (lv2 := [(2, .int a), (0, .int a), (1, .int b)]) rfl rfl (by decide) rfl ?_
  refine te_iload_n (p2 := 3) rfl rfl rfl ?_
  refine te_istore_n (p2 := 4) (lv2 := [(3, .int b), (2, .int a), (0, .int a), (1, .int b)]) rfl rfl (by decide) rfl ?_
  refine te_iconst (p2 := 5) (x := 0) rfl rfl (by decide) ?_
  refine te_istore (p2 := 7) (lv2 := [(4, .int 0), (3, .int b), (2, .int a), (0, .int a), (1, .int b)]) rfl rfl (by decide) rfl ?_
  have lp1 : ∀ (n1 : Nat) (v1_2 v1_3 v1_4 : Int32) , 0 ≤ v1_4.toInt → v1_4.toInt ≤ 64 → (v1_2, v1_3) = eu a b v1_4.toInt.toNat → (∀ j, j < v1_4.toInt.toNat → (eu a b j).2.toInt ≠ 0) → 64 - v1_4.toInt < (n1 : Int) → EvP im_K0 0 mX11_greatestDivisor (7, [(0, .int a), (1, .int b), (2, .int v1_2), (3, .int v1_3), (4, .int v1_4)], [], h) (pI h (fun y => ∃ k : Nat, y = (eu a b k).1 ∧ (∀ j, j < k → (eu a b j).2.toInt ≠ 0) ∧ ((eu a b k).2.toInt = 0 ∨ k = 64))) := by
    intro n1
    induction n1 with
    | zero => intro v1_2 v1_3 v1_4 a1_4 b1_4 w1_0 w1_1 m1; exfalso; omega
    | succ n1 ih1 =>
      intro v1_2 v1_3 v1_4 a1_4 b1_4 w1_0 w1_1 m1
      refine te_iload (p2 := 9) rfl rfl rfl ?_
      refine te_bipush (p2 := 11) (x := 64) rfl rfl (by decide) ?_
      refine tb_ge (p2 := 14) rfl rfl rfl (show Int32.toInt 64 = 64 from rfl) (fun c2 => ?_) (fun c2 => ?_)
      · refine te_iload_n (p2 := 35) rfl rfl rfl ?_
        exact te_iret rfl rfl ⟨rfl, _, rfl, v1_4.toInt.toNat, by rw [← w1_0], w1_1, (by rw [← w1_0]; show v1_3.toInt = 0 ∨ _; omega)⟩
      · refine te_iload_n (p2 := 15) rfl rfl rfl ?_
        refine tz_eq (p2 := 18) rfl rfl rfl (fun c3 => ?_) (fun c3 => ?_)
        · refine te_iload_n (p2 := 35) rfl rfl rfl ?_
          exact te_iret rfl rfl ⟨rfl, _, rfl, v1_4.toInt.toNat, by rw [← w1_0], w1_1, (by rw [← w1_0]; show v1_3.toInt = 0 ∨ _; omega)⟩
        · refine te_iload_n (p2 := 19) rfl rfl rfl ?_
          refine te_iload_n (p2 := 20) rfl rfl rfl ?_
          refine au_rem (p2 := 21) rfl rfl rfl (by omega) (fun z4 e4 => ?_)
          refine te_istore (p2 := 23) (lv2 := [(5, .int z4), (0, .int a), (1, .int b), (2, .int v1_2), (3, .int v1_3), (4, .int v1_4)]) rfl rfl (by decide) rfl ?_
          refine te_iload_n (p2 := 24) rfl rfl rfl ?_
          refine te_istore_n (p2 := 25) (lv2 := [(2, .int v1_3), (5, .int z4), (0, .int a), (1, .int b), (3, .int v1_3), (4, .int v1_4)]) rfl rfl (by decide) rfl ?_
          refine te_iload (p2 := 27) rfl rfl rfl ?_
          refine te_istore_n (p2 := 28) (lv2 := [(3, .int z4), (2, .int v1_3), (5, .int z4), (0, .int a), (1, .int b), (4, .int v1_4)]) rfl rfl (by decide) rfl ?_
          refine ar_inc (p2 := 31) (x := v1_4) rfl rfl (by decide) rfl (by decide) rfl (by omega) (by omega) (fun z5 e5 f5 => ?_)
          show EvP _ _ _ (31, [(4, .int z5), (3, .int z4), (2, .int v1_3), (5, .int z4), (0, .int a), (1, .int b)], [], h) _
          refine te_goto rfl ?_
          refine te_lv [(0, .int a), (1, .int b), (2, .int v1_3), (3, .int z4), (4, .int z5)] rfl rfl ⟨rfl, rfl, rfl, rfl, rfl, trivial⟩ ?_
          exact ih1 v1_3 z4 z5 (by omega) (by omega) (by rw [show z5.toInt.toNat = v1_4.toInt.toNat + 1 by omega]; show (_, _) = (_, _); rw [← w1_0, e4]) (fun j hj => by (by_cases hc : j = v1_4.toInt.toNat); (· rw [hc, ← w1_0]; show Int32.toInt _ ≠ 0; omega); (· exact w1_1 j (by omega))) (by omega)
  refine te_lv [(0, .int a), (1, .int b), (2, .int a), (3, .int b), (4, .int 0)] rfl rfl ⟨rfl, rfl, rfl, rfl, rfl, trivial⟩ ?_
  exact lp1 65 a b 0 (by decide) (by decide) rfl (fun j hj => absurd hj (Nat.not_lt_zero j)) (by have cc0 := (show Int32.toInt 0 = 0 from rfl); omega)
abbrev Q1_likely (x1 x2 : Int32) (y : Int64) (h h2 : im_H) : Prop := (¬ (0 ≤ x1.toInt ∧ x1.toInt ≤ 99 ∧ 0 ≤ x2.toInt ∧ x2.toInt ≤ 1) → y = -4611686018427387904) ∧ ((0 ≤ x1.toInt ∧ x1.toInt ≤ 99 ∧ 0 ≤ x2.toInt ∧ x2.toInt ≤ 1) → ∃ (k : Nat) (m : Int32), (∀ j, j < k → (eu (chX h x1.toInt.toNat) 2520 j).2.toInt ≠ 0) ∧ ((eu (chX h x1.toInt.toNat) 2520 k).2.toInt = 0 ∨ k = 64) ∧ m.toInt = max (eu (chX h x1.toInt.toNat) 2520 k).1.toInt 1 ∧ y = Int32.toInt64 ((if x2.toInt = 0 then chX h x1.toInt.toNat else 2520) / m))
set_option maxRecDepth 20000 in
set_option maxHeartbeats 4000000 in
theorem c_X11_likely {x1 : Int32} {x2 : Int32} {h : im_H} (hI : tI h)  : CaP 4 94 [.ref 16, .int x1, .int x2] h (fun v h2 => tI h2 ∧ fr F_X11_likely h h2 ∧ ∃ y : Int64, v = some (.long y) ∧ Q1_likely x1 x2 y h h2) := by
  refine cap_of (d := 3) (M := mX11_likely) rfl (Nat.le_of_ble_eq_true rfl) ?_
  show EvP im_K0 3 mX11_likely (0, [(0, .ref 16), (1, .int x1), (2, .int x2)], [], h) _
  have f0 : fr F_X11_likely h h := fr_rf
  refine te_iload_n (p2 := 1) rfl rfl rfl ?_
  refine te_bipush (p2 := 3) (x := 100) rfl rfl (by decide) ?_
  refine cS_pI (p2 := 6) rfl rfl rfl rfl (t_X11_within (n := x1) (b := 100) hI ) (by decide) (fun y1 r1 => ?_)
  rcases r1 with ⟨w1, c1⟩ | ⟨w1, c1⟩
  · subst w1
    have cc1_1 := (show Int32.toInt 100 = 100 from rfl)
    refine tz_eq (p2 := 9) rfl rfl (show Int32.toInt 1 = 1 from rfl) (fun c2 => absurd c2 (by omega)) (fun c2 => ?_)
    refine te_iload_n (p2 := 10) rfl rfl rfl ?_
    refine te_iconst (p2 := 11) (x := 2) rfl rfl (by decide) ?_
    refine cS_pI (p2 := 14) rfl rfl rfl rfl (t_X11_within (n := x2) (b := 2) hI ) (by decide) (fun y3 r3 => ?_)
    rcases r3 with ⟨w3, c3⟩ | ⟨w3, c3⟩
    · subst w3
      have cc3_1 := (show Int32.toInt 2 = 2 from rfl)
      refine tz_ne (p2 := 17) rfl rfl (show Int32.toInt 1 = 1 from rfl) (fun c4 => ?_) (fun c4 => absurd c4 (by omega))
      refine te_aload_n (p2 := 22) rfl rfl rfl ?_
      refine tg_r (p2 := 25) (i := 0) (r := 93) rfl rfl hI rfl rfl rfl ?_
      refine te_iload_n (p2 := 26) rfl rfl rfl ?_
      refine cV_pI (p2 := 29) (i := 77) rfl rfl rfl rfl hI rfl rfl rfl (c_X4_chance (c := x1) hI (by omega) (by omega)) (by decide) (fun y5 r5 => ?_)
      refine te_istore_n (p2 := 30) (lv2 := [(3, .int y5), (0, .ref 16), (1, .int x1), (2, .int x2)]) rfl rfl (by decide) rfl ?_
      refine te_iload_n (p2 := 31) rfl rfl rfl ?_
      refine te_sipush (p2 := 34) (x := 2520) rfl rfl (by decide) ?_
      refine cS_pI (p2 := 37) rfl rfl rfl rfl (c_X11_greatestDivisor (a := y5) (b := 2520) hI ) (by decide) (fun y6 r6 => ?_)
      refine te_istore (p2 := 39) (lv2 := [(4, .int y6), (3, .int y5), (0, .ref 16), (1, .int x1), (2, .int x2)]) rfl rfl (by decide) rfl ?_
      refine te_iload_n (p2 := 40) rfl rfl rfl ?_
      refine tz_ne (p2 := 43) rfl rfl rfl (fun c7 => ?_) (fun c7 => ?_)
      · refine te_sipush (p2 := 50) (x := 2520) rfl rfl (by decide) ?_
        refine te_iload (p2 := 52) rfl rfl rfl ?_
        refine te_iconst (p2 := 53) (x := 1) rfl rfl (by decide) ?_
        refine ar_max (p2 := 56) rfl rfl rfl rfl (show Int32.toInt 1 = 1 from rfl) (fun z8 e8 f8 => ?_)
        refine au_div (p2 := 57) rfl rfl rfl (by omega) (fun z9 e9 => ?_)
        refine te_i2l (p2 := 58) (z := (Int32.toInt64 z9)) rfl rfl rfl ?_
        exact te_lret rfl rfl ⟨hI, f0, _, rfl, (fun nk => absurd (by omega) nk), (fun ok => by (obtain ⟨k, ek, h1, h2⟩ := r6); (have ec := r5); rw [← ec]; exact ⟨k, z8, h1, h2, (by rw [← ek]; omega), (by rw [if_neg (by omega), e9])⟩)⟩
      · refine te_iload_n (p2 := 44) rfl rfl rfl ?_
        refine te_goto rfl ?_
        refine te_iload (p2 := 52) rfl rfl rfl ?_
        refine te_iconst (p2 := 53) (x := 1) rfl rfl (by decide) ?_
        refine ar_max (p2 := 56) rfl rfl rfl rfl (show Int32.toInt 1 = 1 from rfl) (fun z10 e10 f10 => ?_)
        refine au_div (p2 := 57) rfl rfl rfl (by omega) (fun z11 e11 => ?_)
        refine te_i2l (p2 := 58) (z := (Int32.toInt64 z11)) rfl rfl rfl ?_
        exact te_lret rfl rfl ⟨hI, f0, _, rfl, (fun nk => absurd (by omega) nk), (fun ok => by (obtain ⟨k, ek, h1, h2⟩ := r6); (have ec := r5); rw [← ec]; exact ⟨k, z10, h1, h2, (by rw [← ek]; omega), (by rw [if_pos (by omega), e11])⟩)⟩
    · subst w3
      have cc3_1 := (show Int32.toInt 2 = 2 from rfl)
      refine tz_ne (p2 := 17) rfl rfl (show Int32.toInt 0 = 0 from rfl) (fun c12 => absurd c12 (by omega)) (fun c12 => ?_)
      refine te_ldc2 (p2 := 20) (x := (-4611686018427387904)) rfl rfl rfl ?_
      exact te_lret rfl rfl ⟨hI, f0, _, rfl, (fun _ => rfl), (fun ok => absurd ok (by omega))⟩
  · subst w1
    have cc1_1 := (show Int32.toInt 100 = 100 from rfl)
    refine tz_eq (p2 := 9) rfl rfl (show Int32.toInt 0 = 0 from rfl) (fun c13 => ?_) (fun c13 => absurd c13 (by omega))
    refine te_ldc2 (p2 := 20) (x := (-4611686018427387904)) rfl rfl rfl ?_
    exact te_lret rfl rfl ⟨hI, f0, _, rfl, (fun _ => rfl), (fun ok => absurd ok (by omega))⟩
abbrev Q2_likely (x1 x2 : Int32) (y : Int64) (h h2 : im_H) : Prop := (¬ (0 ≤ x1.toInt ∧ x1.toInt ≤ 99 ∧ 0 ≤ x2.toInt ∧ x2.toInt ≤ 1) → y = -4611686018427387904) ∧ ((0 ≤ x1.toInt ∧ x1.toInt ≤ 99 ∧ 0 ≤ x2.toInt ∧ x2.toInt ≤ 1) → 0 ≤ (chM h x1.toInt.toNat).toInt ∧ ∃ k : Nat, eun (chM h x1.toInt.toNat) k ∧ y = Int32.toInt64 ((if x2.toInt = 0 then chM h x1.toInt.toNat else 2520) / (eu (chM h x1.toInt.toNat) 2520 k).1))
set_option maxRecDepth 20000 in
set_option maxHeartbeats 4000000 in
theorem c_X12_likely {x1 : Int32} {x2 : Int32} {h : im_H} (hI : tI h)  : CaP 4 180 [.ref 164, .int x1, .int x2] h (fun v h2 => tI h2 ∧ fr F_X12_likely h h2 ∧ ∃ y : Int64, v = some (.long y) ∧ Q2_likely x1 x2 y h h2) := by
  refine cap_of (d := 3) (M := mX12_likely) rfl (Nat.le_of_ble_eq_true rfl) ?_
  show EvP im_K0 3 mX12_likely (0, [(0, .ref 164), (1, .int x1), (2, .int x2)], [], h) _
  have f0 : fr F_X12_likely h h := fr_rf
  refine te_iload_n (p2 := 1) rfl rfl rfl ?_
  refine cS_pI (p2 := 4) rfl rfl rfl rfl (t_X12_isCell (n := x1) hI ) (by decide) (fun y1 r1 => ?_)
  rcases r1 with ⟨w1, c1⟩ | ⟨w1, c1⟩
  · subst w1
    refine tz_eq (p2 := 7) rfl rfl (show Int32.toInt 1 = 1 from rfl) (fun c2 => absurd c2 (by omega)) (fun c2 => ?_)
    refine te_iload_n (p2 := 8) rfl rfl rfl ?_
    refine te_iconst (p2 := 9) (x := 0) rfl rfl (by decide) ?_
    refine te_iconst (p2 := 10) (x := 1) rfl rfl (by decide) ?_
    refine cS_pI (p2 := 13) rfl rfl rfl rfl (t_X12_in (n := x2) (a := 0) (b := 1) hI ) (by decide) (fun y3 r3 => ?_)
    rcases r3 with ⟨w3, c3⟩ | ⟨w3, c3⟩
    · subst w3
      have cc3_1 := (show Int32.toInt 0 = 0 from rfl)
      have cc3_2 := (show Int32.toInt 1 = 1 from rfl)
      refine tz_ne (p2 := 16) rfl rfl (show Int32.toInt 1 = 1 from rfl) (fun c4 => ?_) (fun c4 => absurd c4 (by omega))
      refine te_aload_n (p2 := 21) rfl rfl rfl ?_
      refine te_iload_n (p2 := 22) rfl rfl rfl ?_
      refine cV_pI (p2 := 25) (i := 148) rfl rfl rfl rfl hI rfl rfl rfl (c_X12_likelyIn (c := x1) hI (by omega) (by omega)) (by decide) (fun y5 r5 => ?_)
      obtain ⟨a5, b5, r5⟩ := r5
      refine te_istore_n (p2 := 26) (lv2 := [(3, .int y5), (0, .ref 164), (1, .int x1), (2, .int x2)]) rfl rfl (by decide) rfl ?_
      refine te_iload_n (p2 := 27) rfl rfl rfl ?_
      refine te_istore (p2 := 29) (lv2 := [(4, .int y5), (3, .int y5), (0, .ref 164), (1, .int x1), (2, .int x2)]) rfl rfl (by decide) rfl ?_
      refine te_sipush (p2 := 32) (x := 2520) rfl rfl (by decide) ?_
      refine te_istore (p2 := 34) (lv2 := [(5, .int 2520), (4, .int y5), (3, .int y5), (0, .ref 164), (1, .int x1), (2, .int x2)]) rfl rfl (by decide) rfl ?_
      have lp6 : ∀ (n6 : Nat) (v6_4 v6_5 : Int32) , 0 ≤ v6_4.toInt → v6_4.toInt ≤ 200000 → 0 ≤ v6_5.toInt → v6_5.toInt ≤ 2520 → 0 < v6_4.toInt + v6_5.toInt → (∃ k : Nat, (v6_4, v6_5) = eu y5 2520 k ∧ ∀ j, j < k → (eu y5 2520 j).2.toInt ≠ 0) → v6_5.toInt < (n6 : Int) → EvP im_K0 3 mX12_likely (34, [(0, .ref 164), (1, .int x1), (2, .int x2), (3, .int y5), (4, .int v6_4), (5, .int v6_5)], [], h) (fun v h2 => tI h2 ∧ fr F_X12_likely h h2 ∧ ∃ y : Int64, v = some (.long y) ∧ Q2_likely x1 x2 y h h2) := by
        intro n6
        induction n6 with
        | zero => intro v6_4 v6_5 a6_4 b6_4 a6_5 b6_5 l6_0 w6_0 m6; exfalso; omega
        | succ n6 ih6 =>
          intro v6_4 v6_5 a6_4 b6_4 a6_5 b6_5 l6_0 w6_0 m6
          refine te_iload (p2 := 36) rfl rfl rfl ?_
          refine tz_eq (p2 := 39) rfl rfl rfl (fun c7 => ?_) (fun c7 => ?_)
          · refine te_iload_n (p2 := 58) rfl rfl rfl ?_
            refine tz_ne (p2 := 61) rfl rfl rfl (fun c8 => ?_) (fun c8 => ?_)
            · refine te_sipush (p2 := 68) (x := 2520) rfl rfl (by decide) ?_
              refine te_iload (p2 := 70) rfl rfl rfl ?_
              refine au_div (p2 := 71) rfl rfl rfl (by omega) (fun z9 e9 => ?_)
              refine te_i2l (p2 := 72) (z := (Int32.toInt64 z9)) rfl rfl rfl ?_
              exact te_lret rfl rfl ⟨hI, f0, _, rfl, (fun nk => absurd (by omega) nk), (fun ok => by (obtain ⟨k, e, hj⟩ := w6_0); (have ec := r5); rw [← ec]; exact ⟨by omega, k, ⟨(by rw [← e]; show Int32.toInt _ = 0; omega), hj⟩, (by rw [← e]; show _ = Int32.toInt64 (_ / v6_4); rw [if_neg (by omega), e9])⟩)⟩
            · refine te_iload_n (p2 := 62) rfl rfl rfl ?_
              refine te_goto rfl ?_
              refine te_iload (p2 := 70) rfl rfl rfl ?_
              refine au_div (p2 := 71) rfl rfl rfl (by omega) (fun z10 e10 => ?_)
              refine te_i2l (p2 := 72) (z := (Int32.toInt64 z10)) rfl rfl rfl ?_
              exact te_lret rfl rfl ⟨hI, f0, _, rfl, (fun nk => absurd (by omega) nk), (fun ok => by (obtain ⟨k, e, hj⟩ := w6_0); (have ec := r5); rw [← ec]; exact ⟨by omega, k, ⟨(by rw [← e]; show Int32.toInt _ = 0; omega), hj⟩, (by rw [← e]; show _ = Int32.toInt64 (_ / v6_4); rw [if_pos (by omega), e10])⟩)⟩
          · refine te_iload (p2 := 41) rfl rfl rfl ?_
            refine te_iload (p2 := 43) rfl rfl rfl ?_
            refine ab_rem (p2 := 44) rfl rfl rfl rfl (by omega) (by omega) (fun z11 e11 fa11 fb11 => ?_)
            refine te_istore (p2 := 46) (lv2 := [(6, .int z11), (0, .ref 164), (1, .int x1), (2, .int x2), (3, .int y5), (4, .int v6_4), (5, .int v6_5)]) rfl rfl (by decide) rfl ?_
            refine te_iload (p2 := 48) rfl rfl rfl ?_
            refine te_istore (p2 := 50) (lv2 := [(4, .int v6_5), (6, .int z11), (0, .ref 164), (1, .int x1), (2, .int x2), (3, .int y5), (5, .int v6_5)]) rfl rfl (by decide) rfl ?_
            refine te_iload (p2 := 52) rfl rfl rfl ?_
            refine te_istore (p2 := 54) (lv2 := [(5, .int z11), (4, .int v6_5), (6, .int z11), (0, .ref 164), (1, .int x1), (2, .int x2), (3, .int y5)]) rfl rfl (by decide) rfl ?_
            refine te_goto rfl ?_
            refine te_lv [(0, .ref 164), (1, .int x1), (2, .int x2), (3, .int y5), (4, .int v6_5), (5, .int z11)] rfl rfl ⟨rfl, rfl, rfl, rfl, rfl, rfl, trivial⟩ ?_
            exact ih6 v6_5 z11 (by omega) (by omega) (by omega) (by omega) (by omega) (by (obtain ⟨k, e, hj⟩ := w6_0); exact ⟨k + 1, (by show (_, _) = (_, _); rw [← e, e11]), fun j h9 => by (by_cases hc : j = k); (· rw [hc, ← e]; show Int32.toInt _ ≠ 0; omega); (· exact hj j (by omega))⟩) (by omega)
      refine te_lv [(0, .ref 164), (1, .int x1), (2, .int x2), (3, .int y5), (4, .int y5), (5, .int 2520)] rfl rfl ⟨rfl, rfl, rfl, rfl, rfl, rfl, trivial⟩ ?_
      exact lp6 2521 y5 2520 (by omega) (by omega) (by decide) (by decide) (by have cc0 := (show Int32.toInt 2520 = 2520 from rfl); omega) ⟨0, rfl, fun j hj => absurd hj (Nat.not_lt_zero j)⟩ (by have cc0 := (show Int32.toInt 2520 = 2520 from rfl); omega)
    · subst w3
      have cc3_1 := (show Int32.toInt 0 = 0 from rfl)
      have cc3_2 := (show Int32.toInt 1 = 1 from rfl)
      refine tz_ne (p2 := 16) rfl rfl (show Int32.toInt 0 = 0 from rfl) (fun c12 => absurd c12 (by omega)) (fun c12 => ?_)
      refine te_ldc2 (p2 := 19) (x := (-4611686018427387904)) rfl rfl rfl ?_
      exact te_lret rfl rfl ⟨hI, f0, _, rfl, (fun _ => rfl), (fun ok => absurd ok (by omega))⟩
  · subst w1
    refine tz_eq (p2 := 7) rfl rfl (show Int32.toInt 0 = 0 from rfl) (fun c13 => ?_) (fun c13 => absurd c13 (by omega))
    refine te_ldc2 (p2 := 19) (x := (-4611686018427387904)) rfl rfl rfl ?_
    exact te_lret rfl rfl ⟨hI, f0, _, rfl, (fun _ => rfl), (fun ok => absurd ok (by omega))⟩
theorem ovc_end {h2 : im_H} {r n m : Nat} {f s : Int32} (el : (rv h2 87 r).toInt = n) (er : ∀ j, j < n → rv h2 (79 + r) j = pth f s j) (hv : ∀ i, i < n → (pth f s i).toInt ≠ -1) (hx : m ≤ n ∨ (pth f s n).toInt = -1) (hn : n ≤ m) (c : Int32) : ovc h2 r c ↔ ov f s m c := by
  constructor
  · intro ⟨j, hj, e⟩
    rw [el] at hj
    exact ⟨j, by omega, by rw [← er j (by omega)]; exact e, fun i hi => hv i (by omega)⟩
  · intro ⟨j, hj, e, hw⟩
    have hl : j < n := by
      rcases hx with hx | hx
      · omega
      · exact Classical.byContradiction (fun hq => hw n (by omega) hx)
    exact ⟨j, by rw [el]; omega, by rw [er j hl]; exact e⟩
theorem cnt_end {n m : Nat} {f s : Int32} {pr : Nat → Int32} (hx : m ≤ n ∨ (pth f s n).toInt = -1) (hn : n ≤ m) : cnt f s pr m = cnt f s pr n := by
  rcases hx with hx | hx
  · rw [show m = n by omega]
  · exact cnt_stop (fun q => q n (Nat.le_refl _) hx) m hn
theorem ovc_fr {F : List (Nat × Nat × Nat)} {h H : im_H} {r : Nat} {c : Int32} (f : fr F h H) (a : inF F 87 r = false) (b : ∀ k, inF F (79 + r) k = false) : ovc H r c ↔ ovc h r c := by
  unfold ovc
  have e1 : rv H 87 r = rv h 87 r := by unfold rv; rw [f _ _ a]
  have e2 : ∀ j, rv H (79 + r) j = rv h (79 + r) j := fun j => by unfold rv; rw [f _ _ (b j)]
  constructor
  · intro ⟨j, hj, e⟩; exact ⟨j, by rw [← e1]; exact hj, by rw [← e2]; exact e⟩
  · intro ⟨j, hj, e⟩; exact ⟨j, by rw [e1]; exact hj, by rw [e2]; exact e⟩
def fdG (h H : im_H) (c sh : Int32) (n : Int) : Prop := (∀ k : Nat, (k : Int) < n → ∃ z : Int32, rd H 88 k = some (.int z) ∧ z.toInt = nsh (fun r => ovc h r c) (fun r => (rv h 88 r).toInt) sh.toInt k ∧ (ovc h k c → rd H 89 k = some (.int (rv h 89 k - 1))) ∧ (¬ ovc h k c → rd H 89 k = rd h 89 k)) ∧ (∀ k : Nat, ¬ (k : Int) < n → rd H 88 k = rd h 88 k ∧ rd H 89 k = rd h 89 k)
theorem fd_n {h H : im_H} {c sh x : Int32} {n n2 : Int} {k : Nat} (g : fdG h H c sh n) (hk : (k : Int) = n) (h2 : n2 = n + 1) (ho : ¬ ovc h k c) (e : rd h 88 k = some (.int x)) : fdG h H c sh n2 := by
  refine ⟨fun m hm => ?_, fun m hm => g.2 m (by omega)⟩
  by_cases hc : m = k
  · subst hc
    have q := g.2 m (by omega)
    exact ⟨x, q.1.trans e, by rw [nsh_n ho, rv_of e], fun h9 => absurd h9 ho, fun _ => q.2⟩
  · exact g.1 m (by omega)
theorem fd_y {h H H2 : im_H} {c sh z : Int32} {n n2 : Int} {k : Nat} (g : fdG h H c sh n) (hk : (k : Int) = n) (h2 : n2 = n + 1) (ho : ovc h k c) (e : rd H2 88 k = some (.int z)) (ez : z.toInt = nsh (fun r => ovc h r c) (fun r => (rv h 88 r).toInt) sh.toInt k) (eu : rd H2 89 k = some (.int (rv h 89 k - 1))) (kp : ∀ m, m ≠ k → rd H2 88 m = rd H 88 m ∧ rd H2 89 m = rd H 89 m) : fdG h H2 c sh n2 := by
  refine ⟨fun m hm => ?_, fun m hm => ?_⟩
  · by_cases hc : m = k
    · subst hc
      exact ⟨z, e, ez, fun _ => eu, fun h9 => absurd ho h9⟩
    · obtain ⟨y, a, b, c1, c2⟩ := g.1 m (by omega)
      exact ⟨y, (kp m hc).1.trans a, b, fun h9 => (kp m hc).2.trans (c1 h9), fun h9 => (kp m hc).2.trans (c2 h9)⟩
  · have q := g.2 m (by omega)
    have hc : m ≠ k := by omega
    exact ⟨(kp m hc).1.trans q.1, (kp m hc).2.trans q.2⟩
def shG (h H : im_H) (c : Int32) (j p : Int) : Prop := (∀ k : Nat, (k : Int) < p → ∃ z : Int32, rd H 176 k = some (.int z) ∧ z.toInt = nsh (fun r => ovh h r c) (fun r => (rv h 176 r).toInt) j k) ∧ (∀ k : Nat, ¬ (k : Int) < p → rd H 176 k = rd h 176 k)
theorem sh_s {h H H2 : im_H} {c x z : Int32} {j j2 p : Int} {r : Nat} (g : shG h H c j p) (hj : 0 ≤ j) (h2 : j2 = j + 1) (hr : (r : Int) < p) (hs : ∀ k : Nat, (k : Int) < p → 0 ≤ (rv h 176 k).toInt) (h0 : ∀ k, k < r → ovh h k c → (rv H 176 k).toInt = 0) (ho : ovh h r c) (e : rd H 176 r = some (.int x)) (hx : x.toInt ≠ 0) (u : up H H2 176 r (.int z)) (ez : z.toInt = x.toInt - 1) : shG h H2 c j2 p := by
  have at_ : ∀ k : Nat, (k : Int) < p → (rv H 176 k).toInt = nsh (fun r => ovh h r c) (fun r => (rv h 176 r).toInt) j k := fun k hk => by
    obtain ⟨w, a, b⟩ := g.1 k hk
    rw [rv_of a, b]
  have st := nsh_step (P := fun r => ovh h r c) (s := fun r => (rv h 176 r).toInt) (j := j) (r := r) hj (fun k hk => hs k (by omega)) (fun k hk hq => by rw [← at_ k (by omega)]; exact h0 k hk hq) ho (by rw [← at_ r hr, rv_of e]; exact hx)
  subst h2
  refine ⟨fun k hk => ?_, fun k hk => (u.2 _ _ (Or.inr (by omega))).trans (g.2 k hk)⟩
  by_cases hc : k = r
  · subst hc
    refine ⟨z, u.1, ?_⟩
    rw [st.1, ← at_ k hk, rv_of e, ez]
  · obtain ⟨w, a, b⟩ := g.1 k hk
    exact ⟨w, (u.2 _ _ (Or.inr hc)).trans a, by rw [st.2 k hc]; exact b⟩
set_option maxRecDepth 20000 in
set_option maxHeartbeats 4000000 in
theorem c_X4_begin {frm : Int32} {side : Int32} {most : Int32} {shells : Int32} {h : im_H} (hI : tI h) (p_frm0 : 0 ≤ frm.toInt) (p_frm1 : frm.toInt ≤ 99) (p_side0 : 0 ≤ side.toInt) (p_side1 : side.toInt ≤ 3) (p_most0 : 1 ≤ most.toInt) (p_most1 : most.toInt ≤ 10) (p_shells0 : 1 ≤ shells.toInt) (p_shells1 : shells.toInt ≤ 9) (hp0 : ∃ p : Int32, rd h 77 0 = some (.int p) ∧ 0 ≤ p.toInt ∧ p.toInt ≤ 7) : CaP 2 29 [.ref 93, .int frm, .int side, .int most, .int shells] h (fun v h2 => tI h2 ∧ fr F_X4_begin h h2 ∧ ∃ y : Int32, v = some (.int y) ∧ rd h 77 0 = some (.int y) ∧ rd h2 77 0 = some (.int (y + 1)) ∧ (rd h2 88 y.toInt.toNat = some (.int shells) ∧ (∃ u : Int32, rd h2 89 y.toInt.toNat = some (.int u) ∧ u.toInt = cnt frm side (rv h 90) most.toInt.toNat) ∧ (∀ c : Int32, ovc h2 y.toInt.toNat c ↔ ov frm side most.toInt.toNat c)) ∧ (∀ k : Nat, k ≠ y.toInt.toNat → rd h2 88 k = rd h 88 k ∧ rd h2 87 k = rd h 87 k ∧ rd h2 89 k = rd h 89 k ∧ (k < 8 → ∀ j : Nat, rd h2 (79 + k) j = rd h (79 + k) j))) := by
  refine cap_of (d := 1) (M := mX4_begin) rfl (Nat.le_of_ble_eq_true rfl) ?_
  show EvP im_K0 1 mX4_begin (0, [(0, .ref 93), (1, .int frm), (2, .int side), (3, .int most), (4, .int shells)], [], h) _
  obtain ⟨pp0, ep0, ap0, bp0⟩ := hp0
  have f0 : fr F_X4_begin h h := fr_rf
  refine te_aload_n (p2 := 1) rfl rfl rfl ?_
  refine tg_e (p2 := 4) (i := 77) (v := .int pp0) rfl rfl hI rfl rfl ep0 ?_
  refine te_istore (p2 := 6) (lv2 := [(5, .int pp0), (0, .ref 93), (1, .int frm), (2, .int side), (3, .int most), (4, .int shells)]) rfl rfl (by decide) rfl ?_
  refine te_iload_n (p2 := 7) rfl rfl rfl ?_
  refine te_istore (p2 := 9) (lv2 := [(6, .int frm), (5, .int pp0), (0, .ref 93), (1, .int frm), (2, .int side), (3, .int most), (4, .int shells)]) rfl rfl (by decide) rfl ?_
  refine te_aload_n (p2 := 10) rfl rfl rfl ?_
  refine tg_r (p2 := 13) (i := 77) (r := 103) rfl rfl hI rfl rfl rfl ?_
  refine te_iload (p2 := 15) rfl rfl rfl ?_
  refine te_iconst (p2 := 16) (x := 0) rfl rfl (by decide) ?_
  refine ts_i (p2 := 17) (i := 87) (n := 8) rfl rfl hI rfl rfl rfl rfl (by omega) (by omega) (by decide) (by decide) (by decide) rfl (fun h1 I1 u1 => ?_)
  have f1 := fr_st (F := F_X4_begin) 9 f0 u1 rfl (by omega) (by omega)
  refine te_aload_n (p2 := 18) rfl rfl rfl ?_
  refine tg_r (p2 := 21) (i := 77) (r := 105) rfl rfl I1 rfl rfl rfl ?_
  refine te_iload (p2 := 23) rfl rfl rfl ?_
  refine te_iconst (p2 := 24) (x := 0) rfl rfl (by decide) ?_
  refine ts_i (p2 := 25) (i := 89) (n := 8) rfl rfl I1 rfl rfl rfl rfl (by omega) (by omega) (i32_lo _) (i32_hi _) (i32_ho _) rfl (fun h2 I2 u2 => ?_)
  have f2 := fr_st (F := F_X4_begin) 11 f1 u2 rfl (by omega) (by omega)
  refine te_iconst (p2 := 26) (x := 0) rfl rfl (by decide) ?_
  refine te_istore (p2 := 28) (lv2 := [(7, .int 0), (6, .int frm), (5, .int pp0), (0, .ref 93), (1, .int frm), (2, .int side), (3, .int most), (4, .int shells)]) rfl rfl (by decide) rfl ?_
  have lp3 : ∀ (n3 : Nat) (v3_6 v3_7 t3_t t3_c : Int32) (h3 : im_H), tI h3 → fr F_X4_begin h h3 → (-1) ≤ v3_6.toInt → v3_6.toInt ≤ 99 → 0 ≤ v3_7.toInt → v3_7.toInt ≤ 10 → rd h3 87 pp0.toInt.toNat = some (.int t3_t) → rd h3 77 0 = some (.int t3_c) → 0 ≤ t3_t.toInt → t3_t.toInt ≤ 10 → 0 ≤ t3_c.toInt → t3_c.toInt ≤ 8 → t3_t.toInt = v3_7.toInt → v3_7.toInt ≤ most.toInt → t3_c.toInt ≤ 7 → t3_c.toInt = pp0.toInt → (v3_6 = pth frm side v3_7.toInt.toNat ∧ ∀ i, i < v3_7.toInt.toNat → (pth frm side i).toInt ≠ -1) → (∃ u : Int32, rd h3 89 pp0.toInt.toNat = some (.int u) ∧ u.toInt = cnt frm side (rv h 90) v3_7.toInt.toNat) → (∀ j : Nat, (j : Int) < v3_7.toInt → rd h3 (79 + pp0.toInt.toNat) j = some (.int (pth frm side j))) → ((∀ k : Nat, k ≠ pp0.toInt.toNat → rd h3 87 k = rd h 87 k ∧ rd h3 89 k = rd h 89 k ∧ (k < 8 → ∀ j : Nat, rd h3 (79 + k) j = rd h (79 + k) j)) ∧ ∀ k : Nat, rd h3 88 k = rd h 88 k) → 10 - v3_7.toInt < (n3 : Int) → EvP im_K0 1 mX4_begin (28, [(0, .ref 93), (1, .int frm), (2, .int side), (3, .int most), (4, .int shells), (5, .int pp0), (6, .int v3_6), (7, .int v3_7)], [], h3) (fun v h2 => tI h2 ∧ fr F_X4_begin h h2 ∧ ∃ y : Int32, v = some (.int y) ∧ rd h 77 0 = some (.int y) ∧ rd h2 77 0 = some (.int (y + 1)) ∧ (rd h2 88 y.toInt.toNat = some (.int shells) ∧ (∃ u : Int32, rd h2 89 y.toInt.toNat = some (.int u) ∧ u.toInt = cnt frm side (rv h 90) most.toInt.toNat) ∧ (∀ c : Int32, ovc h2 y.toInt.toNat c ↔ ov frm side most.toInt.toNat c)) ∧ (∀ k : Nat, k ≠ y.toInt.toNat → rd h2 88 k = rd h 88 k ∧ rd h2 87 k = rd h 87 k ∧ rd h2 89 k = rd h 89 k ∧ (k < 8 → ∀ j : Nat, rd h2 (79 + k) j = rd h (79 + k) j))) := by
    intro n3
    induction n3 with
    | zero => intro v3_6 v3_7 t3_t t3_c h3 I3 f3 a3_6 b3_6 a3_7 b3_7 v3_t v3_c va3_t vb3_t va3_c vb3_c l3_0 l3_1 l3_2 l3_3 w3_0 w3_1 w3_2 w3_3 m3; exfalso; omega
    | succ n3 ih3 =>
      intro v3_6 v3_7 t3_t t3_c h3 I3 f3 a3_6 b3_6 a3_7 b3_7 v3_t v3_c va3_t vb3_t va3_c vb3_c l3_0 l3_1 l3_2 l3_3 w3_0 w3_1 w3_2 w3_3 m3
      refine te_iload (p2 := 30) rfl rfl rfl ?_
      refine te_iload_n (p2 := 31) rfl rfl rfl ?_
      refine tb_ge (p2 := 34) rfl rfl rfl rfl (fun c4 => ?_) (fun c4 => ?_)
      · refine te_aload_n (p2 := 103) rfl rfl rfl ?_
        refine tg_r (p2 := 106) (i := 77) (r := 104) rfl rfl I3 rfl rfl rfl ?_
        refine te_iload (p2 := 108) rfl rfl rfl ?_
        refine te_iload (p2 := 110) rfl rfl rfl ?_
        refine ts_i (p2 := 111) (i := 88) (n := 8) rfl rfl I3 rfl rfl rfl rfl (by omega) (by omega) (by omega) (by omega) (by omega) rfl (fun h5 I5 u5 => ?_)
        have f5 := fr_st (F := F_X4_begin) 10 f3 u5 rfl (by omega) (by omega)
        refine te_aload_n (p2 := 112) rfl rfl rfl ?_
        refine te_dup (p2 := 113) rfl rfl rfl ?_
        refine tg_e (p2 := 116) (i := 77) (v := .int t3_c) rfl rfl I5 rfl rfl ((u5.2 _ _ (Or.inl (by decide))).trans v3_c) ?_
        refine te_iconst (p2 := 117) (x := 1) rfl rfl (by decide) ?_
        refine ar_add (p2 := 118) rfl rfl rfl (show Int32.toInt 1 = 1 from rfl) (by omega) (by omega) (fun z6 e6 f6 => ?_)
        refine tp_i (p2 := 121) (i := 77) rfl rfl I5 rfl rfl (by decide) rfl rfl rfl (by omega) (by omega) (by omega) rfl (fun h7 I7 u7 => ?_)
        have f7 := fr_st (F := F_X4_begin) 0 f5 u7 rfl (by decide) (by decide)
        refine te_iload (p2 := 123) rfl rfl rfl ?_
        exact te_iret rfl rfl ⟨I7, f7, _, rfl, ep0, u7.1.trans (congrArg (fun t => some (Value.int t)) (i32_ext (by have e1 : Int32.toInt (pp0 + 1) = Int32.toInt pp0 + 1 := i32_addE (show Int32.toInt 1 = 1 from rfl) (by omega) (by omega); omega))), ⟨((u7.2 _ _ (Or.inl (by omega))).trans u5.1), (by (obtain ⟨u, eu, hu⟩ := w3_1); exact ⟨u, ((u7.2 _ _ (Or.inl (by omega))).trans ((u5.2 _ _ (Or.inl (by omega))).trans eu)), by rw [hu]; exact (cnt_end (by rw [← w3_0.1]; omega) (by omega)).symm⟩), ovc_end (n := v3_7.toInt.toNat) (m := most.toInt.toNat) (by rw [rv_of (((u7.2 _ _ (Or.inl (by omega))).trans ((u5.2 _ _ (Or.inl (by omega))).trans v3_t)))]; omega) (fun j hj => rv_of (((u7.2 _ _ (Or.inl (by omega))).trans ((u5.2 _ _ (Or.inl (by omega))).trans (w3_2 j (by omega)))))) w3_0.2 (by rw [← w3_0.1]; omega) (by omega)⟩, (fun k hk => ⟨((u7.2 _ _ (Or.inl (by omega))).trans ((u5.2 _ _ (Or.inr hk)).trans (w3_3.2 k))), ((u7.2 _ _ (Or.inl (by omega))).trans ((u5.2 _ _ (Or.inl (by omega))).trans (w3_3.1 k hk).1)), ((u7.2 _ _ (Or.inl (by omega))).trans ((u5.2 _ _ (Or.inl (by omega))).trans (w3_3.1 k hk).2.1)), fun h8 j => ((u7.2 _ _ (Or.inl (by omega))).trans ((u5.2 _ _ (Or.inl (by omega))).trans ((w3_3.1 k hk).2.2 h8 j)))⟩)⟩
      · refine te_iload (p2 := 36) rfl rfl rfl ?_
        refine te_iconst (p2 := 37) (x := (-1)) rfl rfl (by decide) ?_
        refine tb_eq (p2 := 40) rfl rfl rfl (show Int32.toInt (-1) = (-1) from rfl) (fun c8 => ?_) (fun c8 => ?_)
        · refine te_aload_n (p2 := 103) rfl rfl rfl ?_
          refine tg_r (p2 := 106) (i := 77) (r := 104) rfl rfl I3 rfl rfl rfl ?_
          refine te_iload (p2 := 108) rfl rfl rfl ?_
          refine te_iload (p2 := 110) rfl rfl rfl ?_
          refine ts_i (p2 := 111) (i := 88) (n := 8) rfl rfl I3 rfl rfl rfl rfl (by omega) (by omega) (by omega) (by omega) (by omega) rfl (fun h9 I9 u9 => ?_)
          have f9 := fr_st (F := F_X4_begin) 10 f3 u9 rfl (by omega) (by omega)
          refine te_aload_n (p2 := 112) rfl rfl rfl ?_
          refine te_dup (p2 := 113) rfl rfl rfl ?_
          refine tg_e (p2 := 116) (i := 77) (v := .int t3_c) rfl rfl I9 rfl rfl ((u9.2 _ _ (Or.inl (by decide))).trans v3_c) ?_
          refine te_iconst (p2 := 117) (x := 1) rfl rfl (by decide) ?_
          refine ar_add (p2 := 118) rfl rfl rfl (show Int32.toInt 1 = 1 from rfl) (by omega) (by omega) (fun z10 e10 f10 => ?_)
          refine tp_i (p2 := 121) (i := 77) rfl rfl I9 rfl rfl (by decide) rfl rfl rfl (by omega) (by omega) (by omega) rfl (fun h11 I11 u11 => ?_)
          have f11 := fr_st (F := F_X4_begin) 0 f9 u11 rfl (by decide) (by decide)
          refine te_iload (p2 := 123) rfl rfl rfl ?_
          exact te_iret rfl rfl ⟨I11, f11, _, rfl, ep0, u11.1.trans (congrArg (fun t => some (Value.int t)) (i32_ext (by have e1 : Int32.toInt (pp0 + 1) = Int32.toInt pp0 + 1 := i32_addE (show Int32.toInt 1 = 1 from rfl) (by omega) (by omega); omega))), ⟨((u11.2 _ _ (Or.inl (by omega))).trans u9.1), (by (obtain ⟨u, eu, hu⟩ := w3_1); exact ⟨u, ((u11.2 _ _ (Or.inl (by omega))).trans ((u9.2 _ _ (Or.inl (by omega))).trans eu)), by rw [hu]; exact (cnt_end (by rw [← w3_0.1]; omega) (by omega)).symm⟩), ovc_end (n := v3_7.toInt.toNat) (m := most.toInt.toNat) (by rw [rv_of (((u11.2 _ _ (Or.inl (by omega))).trans ((u9.2 _ _ (Or.inl (by omega))).trans v3_t)))]; omega) (fun j hj => rv_of (((u11.2 _ _ (Or.inl (by omega))).trans ((u9.2 _ _ (Or.inl (by omega))).trans (w3_2 j (by omega)))))) w3_0.2 (by rw [← w3_0.1]; omega) (by omega)⟩, (fun k hk => ⟨((u11.2 _ _ (Or.inl (by omega))).trans ((u9.2 _ _ (Or.inr hk)).trans (w3_3.2 k))), ((u11.2 _ _ (Or.inl (by omega))).trans ((u9.2 _ _ (Or.inl (by omega))).trans (w3_3.1 k hk).1)), ((u11.2 _ _ (Or.inl (by omega))).trans ((u9.2 _ _ (Or.inl (by omega))).trans (w3_3.1 k hk).2.1)), fun h8 j => ((u11.2 _ _ (Or.inl (by omega))).trans ((u9.2 _ _ (Or.inl (by omega))).trans ((w3_3.1 k hk).2.2 h8 j)))⟩)⟩
        · refine te_aload_n (p2 := 41) rfl rfl rfl ?_
          refine tg_r (p2 := 44) (i := 77) (r := 94) rfl rfl I3 rfl rfl rfl ?_
          refine te_iload (p2 := 46) rfl rfl rfl ?_
          refine tl_f (p2 := 47) (i := 78) (n := 8) (c0 := 79) (sp := 1) rfl rfl I3 rfl rfl (by decide) rq_78 (by omega) (by omega) (fun o12 w12 => ?_)
          have q12 : o12 = 79 ∨ o12 = 80 ∨ o12 = 81 ∨ o12 = 82 ∨ o12 = 83 ∨ o12 = 84 ∨ o12 = 85 ∨ o12 = 86 := by omega
          refine te_iload (p2 := 49) rfl rfl rfl ?_
          refine te_iload (p2 := 51) rfl rfl rfl ?_
          refine ts_i (p2 := 52) (i := o12) (n := 10) rfl rfl I3 rfl (by rcases q12 with rfl | rfl | rfl | rfl | rfl | rfl | rfl | rfl <;> rfl) (by rcases q12 with rfl | rfl | rfl | rfl | rfl | rfl | rfl | rfl <;> rfl) rfl (by omega) (by omega) (by omega) (by omega) (by omega) (by rcases q12 with rfl | rfl | rfl | rfl | rfl | rfl | rfl | rfl <;> rfl) (fun h13 I13 u13 => ?_)
          have f13 := fr_up (F := F_X4_begin) (a := 0) (b := 9) f3 u13 (by rcases q12 with rfl | rfl | rfl | rfl | rfl | rfl | rfl | rfl <;> decide) (by omega) (by omega)
          refine te_aload_n (p2 := 53) rfl rfl rfl ?_
          refine tg_r (p2 := 56) (i := 77) (r := 103) rfl rfl I13 rfl rfl rfl ?_
          refine te_iload (p2 := 58) rfl rfl rfl ?_
          refine te_dup2 (p2 := 59) rfl rfl ⟨rfl, rfl⟩ ?_
          refine tl_e (p2 := 60) (i := 87) (n := 8) (t := 0) (Or.inl rfl) rfl rfl I13 rfl rfl (by omega) (by omega) ((u13.2 _ _ (Or.inl (by omega))).trans v3_t) ?_
          refine te_iconst (p2 := 61) (x := 1) rfl rfl (by decide) ?_
          refine ar_add (p2 := 62) rfl rfl rfl (show Int32.toInt 1 = 1 from rfl) (by omega) (by omega) (fun z15 e15 f15 => ?_)
          refine ts_i (p2 := 63) (i := 87) (n := 8) rfl rfl I13 rfl rfl rfl rfl (by omega) (by omega) (by omega) (by omega) (by omega) rfl (fun h16 I16 u16 => ?_)
          have f16 := fr_st (F := F_X4_begin) 9 f13 u16 rfl (by omega) (by omega)
          refine te_aload_n (p2 := 64) rfl rfl rfl ?_
          refine tg_r (p2 := 67) (i := 77) (r := 105) rfl rfl I16 rfl rfl rfl ?_
          refine te_iload (p2 := 69) rfl rfl rfl ?_
          refine te_dup2 (p2 := 70) rfl rfl ⟨rfl, rfl⟩ ?_
          refine tl_i (p2 := 71) (i := 89) (n := 8) rfl rfl I16 rfl rfl rfl rfl (by omega) (by omega) (fun y17 a17 b17 g17 e17 => ?_)
          refine te_aload_n (p2 := 72) rfl rfl rfl ?_
          refine tg_r (p2 := 75) (i := 77) (r := 106) rfl rfl I16 rfl rfl rfl ?_
          refine te_iload (p2 := 77) rfl rfl rfl ?_
          refine tl_b (p2 := 78) (i := 90) (n := 100) rfl rfl I16 rfl rfl rfl rfl (by omega) (by omega) (fun y18 a18 e18 => ?_)
          refine tz_eq (p2 := 81) rfl rfl rfl (fun c19 => ?_) (fun c19 => ?_)
          · refine te_iconst (p2 := 86) (x := 1) rfl rfl (by decide) ?_
            refine au_add (p2 := 87) rfl rfl (fun z20 e20 => ?_)
            refine ts_i (p2 := 88) (i := 89) (n := 8) rfl rfl I16 rfl rfl rfl rfl (by omega) (by omega) (i32_lo _) (i32_hi _) (i32_ho _) rfl (fun h21 I21 u21 => ?_)
            have f21 := fr_st (F := F_X4_begin) 11 f16 u21 rfl (by omega) (by omega)
            refine te_iload (p2 := 90) rfl rfl rfl ?_
            refine te_iload_n (p2 := 91) rfl rfl rfl ?_
            refine cS_pI (p2 := 94) rfl rfl rfl rfl (t_X11_cellOnSide (c := v3_6) (side := side) I21 (by omega) (by omega)) (by decide) (fun y22 r22 => ?_)
            obtain ⟨a22, b22, e22⟩ := r22
            refine te_istore (p2 := 96) (lv2 := [(6, .int y22), (0, .ref 93), (1, .int frm), (2, .int side), (3, .int most), (4, .int shells), (5, .int pp0), (7, .int v3_7)]) rfl rfl (by decide) rfl ?_
            refine ar_inc (p2 := 99) (x := v3_7) rfl rfl (by decide) rfl (by decide) rfl (by omega) (by omega) (fun z23 e23 f23 => ?_)
            show EvP _ _ _ (99, [(7, .int z23), (6, .int y22), (0, .ref 93), (1, .int frm), (2, .int side), (3, .int most), (4, .int shells), (5, .int pp0)], [], h21) _
            refine te_goto rfl ?_
            refine te_lv [(0, .ref 93), (1, .int frm), (2, .int side), (3, .int most), (4, .int shells), (5, .int pp0), (6, .int y22), (7, .int z23)] rfl rfl ⟨rfl, rfl, rfl, rfl, rfl, rfl, rfl, rfl, trivial⟩ ?_
            exact ih3 y22 z23 z15 t3_c h21 I21 f21 (by omega) (by omega) (by omega) (by omega) ((u21.2 _ _ (Or.inl (by decide))).trans u16.1) ((u21.2 _ _ (Or.inl (by decide))).trans ((u16.2 _ _ (Or.inl (by decide))).trans ((u13.2 _ _ (Or.inl (by omega))).trans v3_c))) (by omega) (by omega) (by omega) (by omega) (by omega) (by omega) (by omega) (by omega) (by rw [show z23.toInt.toNat = v3_7.toInt.toNat + 1 by omega]; exact ⟨by show y22 = nbr (pth frm side v3_7.toInt.toNat) side; rw [← w3_0.1]; exact e22, fun i hi => vld_s w3_0.2 (by rw [← w3_0.1]; omega) i (by omega)⟩) (by (obtain ⟨u, eu, hu⟩ := w3_1); (have e1 : y17 = u := int_inj e17 (((u16.2 _ _ (Or.inl (by omega))).trans (u13.2 _ _ (Or.inl (by omega)))).trans eu)); (have e2 := congrArg Int32.toInt e1); (have hb := cnt_b (f := frm) (s := side) (pr := rv h 90) v3_7.toInt.toNat); (have hz : z20.toInt = y17.toInt + 1 := by rw [← e20]; exact i32_addE rfl (by omega) (by omega)); exact ⟨z20, u21.1, by rw [show z23.toInt.toNat = v3_7.toInt.toNat + 1 by omega, cnt_y (vld_s w3_0.2 (by rw [← w3_0.1]; omega)) (by rw [(show rv h 90 (pth frm side v3_7.toInt.toNat).toInt.toNat = y18 from (by rw [← w3_0.1]; exact rv_of ((f21 90 _ rfl).symm.trans ((u21.2 _ _ (Or.inl (by decide))).trans e18))))]; omega), ← hu]; omega⟩) (fun j hj => by (by_cases hk : j = v3_7.toInt.toNat); (· rw [hk, show 79 + pp0.toInt.toNat = o12 by omega, ← w3_0.1]; exact ((u21.2 _ _ (Or.inl (by omega))).trans ((u16.2 _ _ (Or.inl (by omega))).trans u13.1))); (· have hw := w3_2 j (by omega); rw [show 79 + pp0.toInt.toNat = o12 by omega] at hw ⊢; exact ((u21.2 _ _ (Or.inl (by omega))).trans ((u16.2 _ _ (Or.inl (by omega))).trans ((u13.2 _ _ (Or.inr hk)).trans hw))))) ⟨fun k hk => ⟨((u21.2 _ _ (Or.inl (by omega))).trans ((u16.2 _ _ (Or.inr hk)).trans ((u13.2 _ _ (Or.inl (by omega))).trans (w3_3.1 k hk).1))), ((u21.2 _ _ (Or.inr hk)).trans ((u16.2 _ _ (Or.inl (by omega))).trans ((u13.2 _ _ (Or.inl (by omega))).trans (w3_3.1 k hk).2.1))), fun h8 j => ((u21.2 _ _ (Or.inl (by omega))).trans ((u16.2 _ _ (Or.inl (by omega))).trans ((u13.2 _ _ (Or.inl (by omega))).trans ((w3_3.1 k hk).2.2 h8 j))))⟩, fun k => ((u21.2 _ _ (Or.inl (by omega))).trans ((u16.2 _ _ (Or.inl (by omega))).trans ((u13.2 _ _ (Or.inl (by omega))).trans (w3_3.2 k))))⟩ (by omega)
          · refine te_iconst (p2 := 82) (x := 0) rfl rfl (by decide) ?_
            refine te_goto rfl ?_
            have n24_y17 := i32_lo y17
            have o24_y17 := i32_hi y17
            refine ar_add (p2 := 87) rfl rfl rfl (show Int32.toInt 0 = 0 from rfl) (by omega) (by omega) (fun z24 e24 f24 => ?_)
            refine ts_i (p2 := 88) (i := 89) (n := 8) rfl rfl I16 rfl rfl rfl rfl (by omega) (by omega) (i32_lo _) (i32_hi _) (i32_ho _) rfl (fun h25 I25 u25 => ?_)
            have f25 := fr_st (F := F_X4_begin) 11 f16 u25 rfl (by omega) (by omega)
            refine te_iload (p2 := 90) rfl rfl rfl ?_
            refine te_iload_n (p2 := 91) rfl rfl rfl ?_
            refine cS_pI (p2 := 94) rfl rfl rfl rfl (t_X11_cellOnSide (c := v3_6) (side := side) I25 (by omega) (by omega)) (by decide) (fun y26 r26 => ?_)
            obtain ⟨a26, b26, e26⟩ := r26
            refine te_istore (p2 := 96) (lv2 := [(6, .int y26), (0, .ref 93), (1, .int frm), (2, .int side), (3, .int most), (4, .int shells), (5, .int pp0), (7, .int v3_7)]) rfl rfl (by decide) rfl ?_
            refine ar_inc (p2 := 99) (x := v3_7) rfl rfl (by decide) rfl (by decide) rfl (by omega) (by omega) (fun z27 e27 f27 => ?_)
            show EvP _ _ _ (99, [(7, .int z27), (6, .int y26), (0, .ref 93), (1, .int frm), (2, .int side), (3, .int most), (4, .int shells), (5, .int pp0)], [], h25) _
            refine te_goto rfl ?_
            refine te_lv [(0, .ref 93), (1, .int frm), (2, .int side), (3, .int most), (4, .int shells), (5, .int pp0), (6, .int y26), (7, .int z27)] rfl rfl ⟨rfl, rfl, rfl, rfl, rfl, rfl, rfl, rfl, trivial⟩ ?_
            exact ih3 y26 z27 z15 t3_c h25 I25 f25 (by omega) (by omega) (by omega) (by omega) ((u25.2 _ _ (Or.inl (by decide))).trans u16.1) ((u25.2 _ _ (Or.inl (by decide))).trans ((u16.2 _ _ (Or.inl (by decide))).trans ((u13.2 _ _ (Or.inl (by omega))).trans v3_c))) (by omega) (by omega) (by omega) (by omega) (by omega) (by omega) (by omega) (by omega) (by rw [show z27.toInt.toNat = v3_7.toInt.toNat + 1 by omega]; exact ⟨by show y26 = nbr (pth frm side v3_7.toInt.toNat) side; rw [← w3_0.1]; exact e26, fun i hi => vld_s w3_0.2 (by rw [← w3_0.1]; omega) i (by omega)⟩) (by (obtain ⟨u, eu, hu⟩ := w3_1); (have e1 : y17 = u := int_inj e17 (((u16.2 _ _ (Or.inl (by omega))).trans (u13.2 _ _ (Or.inl (by omega)))).trans eu)); (have e2 := congrArg Int32.toInt e1); (have hb := cnt_b (f := frm) (s := side) (pr := rv h 90) v3_7.toInt.toNat); (have hz : z24.toInt = y17.toInt + 0 := by rw [← e24]; exact i32_addE rfl (by omega) (by omega)); exact ⟨z24, u25.1, by rw [show z27.toInt.toNat = v3_7.toInt.toNat + 1 by omega, cnt_n (fun q => absurd q.2 (by rw [(show rv h 90 (pth frm side v3_7.toInt.toNat).toInt.toNat = y18 from (by rw [← w3_0.1]; exact rv_of ((f25 90 _ rfl).symm.trans ((u25.2 _ _ (Or.inl (by decide))).trans e18))))]; omega)), ← hu]; omega⟩) (fun j hj => by (by_cases hk : j = v3_7.toInt.toNat); (· rw [hk, show 79 + pp0.toInt.toNat = o12 by omega, ← w3_0.1]; exact ((u25.2 _ _ (Or.inl (by omega))).trans ((u16.2 _ _ (Or.inl (by omega))).trans u13.1))); (· have hw := w3_2 j (by omega); rw [show 79 + pp0.toInt.toNat = o12 by omega] at hw ⊢; exact ((u25.2 _ _ (Or.inl (by omega))).trans ((u16.2 _ _ (Or.inl (by omega))).trans ((u13.2 _ _ (Or.inr hk)).trans hw))))) ⟨fun k hk => ⟨((u25.2 _ _ (Or.inl (by omega))).trans ((u16.2 _ _ (Or.inr hk)).trans ((u13.2 _ _ (Or.inl (by omega))).trans (w3_3.1 k hk).1))), ((u25.2 _ _ (Or.inr hk)).trans ((u16.2 _ _ (Or.inl (by omega))).trans ((u13.2 _ _ (Or.inl (by omega))).trans (w3_3.1 k hk).2.1))), fun h8 j => ((u25.2 _ _ (Or.inl (by omega))).trans ((u16.2 _ _ (Or.inl (by omega))).trans ((u13.2 _ _ (Or.inl (by omega))).trans ((w3_3.1 k hk).2.2 h8 j))))⟩, fun k => ((u25.2 _ _ (Or.inl (by omega))).trans ((u16.2 _ _ (Or.inl (by omega))).trans ((u13.2 _ _ (Or.inl (by omega))).trans (w3_3.2 k))))⟩ (by omega)
  refine te_lv [(0, .ref 93), (1, .int frm), (2, .int side), (3, .int most), (4, .int shells), (5, .int pp0), (6, .int frm), (7, .int 0)] rfl rfl ⟨rfl, rfl, rfl, rfl, rfl, rfl, rfl, rfl, trivial⟩ ?_
  exact lp3 11 frm 0 0 pp0 h2 I2 f2 (by omega) (by omega) (by decide) (by decide) ((u2.2 _ _ (Or.inl (by decide))).trans u1.1) ((u2.2 _ _ (Or.inl (by decide))).trans ((u1.2 _ _ (Or.inl (by decide))).trans ep0)) (by decide) (by decide) (by omega) (by omega) (by have cc0 := (show Int32.toInt 0 = 0 from rfl); omega) (by have cc0 := (show Int32.toInt 0 = 0 from rfl); omega) (by have cc0 := (show Int32.toInt 0 = 0 from rfl); omega) (by have cc0 := (show Int32.toInt 0 = 0 from rfl); omega) ⟨rfl, fun i hi => absurd hi (Nat.not_lt_zero i)⟩ ⟨0, u2.1, rfl⟩ (fun j hj => absurd hj (by (have := (show Int32.toInt 0 = 0 from rfl)); omega)) ⟨fun k hk => ⟨((u2.2 _ _ (Or.inl (by omega))).trans (u1.2 _ _ (Or.inr hk))), ((u2.2 _ _ (Or.inr hk)).trans (u1.2 _ _ (Or.inl (by omega)))), fun h8 j => ((u2.2 _ _ (Or.inl (by omega))).trans (u1.2 _ _ (Or.inl (by omega))))⟩, fun k => ((u2.2 _ _ (Or.inl (by omega))).trans (u1.2 _ _ (Or.inl (by omega))))⟩ (by have cc0 := (show Int32.toInt 0 = 0 from rfl); omega)
def fRd (x1 x2 x3 x4 p : Int32) : Int32 := if 0 ≤ x1.toInt ∧ x1.toInt ≤ 99 then (if 0 ≤ x2.toInt ∧ x2.toInt ≤ 3 ∧ 1 ≤ x3.toInt ∧ x3.toInt ≤ 10 ∧ 1 ≤ x4.toInt ∧ x4.toInt ≤ 9 then (if 8 ≤ p.toInt then -4 else p) else -2) else -1
def gRd (x1 x2 x3 x4 p : Int32) : Int32 := if 0 ≤ x1.toInt ∧ x1.toInt ≤ 99 then (if 0 ≤ x2.toInt ∧ x2.toInt ≤ 3 ∧ 1 ≤ x3.toInt ∧ x3.toInt ≤ 10 ∧ 1 ≤ x4.toInt ∧ x4.toInt ≤ 9 then (if 8 ≤ p.toInt then p else p + 1) else p) else p
abbrev Q1_raid (x1 x2 x3 x4 : Int32) (y : Int32) (h h2 : im_H) : Prop := ∃ p : Int32, rd h 77 0 = some (.int p) ∧ y = fRd x1 x2 x3 x4 p ∧ rd h2 77 0 = some (.int (gRd x1 x2 x3 x4 p)) ∧ (0 ≤ y.toInt → rd h2 88 p.toInt.toNat = some (.int x4) ∧ (∃ u : Int32, rd h2 89 p.toInt.toNat = some (.int u) ∧ u.toInt = cnt x1 x2 (rv h 90) x3.toInt.toNat) ∧ (∀ c : Int32, ovc h2 p.toInt.toNat c ↔ ov x1 x2 x3.toInt.toNat c)) ∧ (∀ k : Nat, (k ≠ p.toInt.toNat ∨ ¬ 0 ≤ y.toInt) → rd h2 88 k = rd h 88 k ∧ rd h2 87 k = rd h 87 k ∧ rd h2 89 k = rd h 89 k ∧ (k < 8 → ∀ j : Nat, rd h2 (79 + k) j = rd h (79 + k) j))
set_option maxRecDepth 20000 in
set_option maxHeartbeats 4000000 in
theorem c_X11_raid {x1 : Int32} {x2 : Int32} {x3 : Int32} {x4 : Int32} {h : im_H} (hI : tI h)  : CaP 3 92 [.ref 16, .int x1, .int x2, .int x3, .int x4] h (fun v h2 => tI h2 ∧ fr F_X11_raid h h2 ∧ ∃ y : Int32, v = some (.int y) ∧ Q1_raid x1 x2 x3 x4 y h h2) := by
  refine cap_of (d := 2) (M := mX11_raid) rfl (Nat.le_of_ble_eq_true rfl) ?_
  show EvP im_K0 2 mX11_raid (0, [(0, .ref 16), (1, .int x1), (2, .int x2), (3, .int x3), (4, .int x4)], [], h) _
  have f0 : fr F_X11_raid h h := fr_rf
  refine te_iload_n (p2 := 1) rfl rfl rfl ?_
  refine te_bipush (p2 := 3) (x := 100) rfl rfl (by decide) ?_
  refine cS_pI (p2 := 6) rfl rfl rfl rfl (t_X11_within (n := x1) (b := 100) hI ) (by decide) (fun y1 r1 => ?_)
  rcases r1 with ⟨w1, c1⟩ | ⟨w1, c1⟩
  · subst w1
    have cc1_1 := (show Int32.toInt 100 = 100 from rfl)
    refine tz_ne (p2 := 9) rfl rfl (show Int32.toInt 1 = 1 from rfl) (fun c2 => ?_) (fun c2 => absurd c2 (by omega))
    refine te_iload_n (p2 := 12) rfl rfl rfl ?_
    refine te_iconst (p2 := 13) (x := 4) rfl rfl (by decide) ?_
    refine cS_pI (p2 := 16) rfl rfl rfl rfl (t_X11_within (n := x2) (b := 4) hI ) (by decide) (fun y3 r3 => ?_)
    rcases r3 with ⟨w3, c3⟩ | ⟨w3, c3⟩
    · subst w3
      have cc3_1 := (show Int32.toInt 4 = 4 from rfl)
      refine tz_eq (p2 := 19) rfl rfl (show Int32.toInt 1 = 1 from rfl) (fun c4 => absurd c4 (by omega)) (fun c4 => ?_)
      refine te_iload_n (p2 := 20) rfl rfl rfl ?_
      refine te_iconst (p2 := 21) (x := 1) rfl rfl (by decide) ?_
      refine te_bipush (p2 := 23) (x := 10) rfl rfl (by decide) ?_
      refine cS_pI (p2 := 26) rfl rfl rfl rfl (t_X11_between (n := x3) (a := 1) (b := 10) hI ) (by decide) (fun y5 r5 => ?_)
      rcases r5 with ⟨w5, c5⟩ | ⟨w5, c5⟩
      · subst w5
        have cc5_1 := (show Int32.toInt 1 = 1 from rfl)
        have cc5_2 := (show Int32.toInt 10 = 10 from rfl)
        refine tz_eq (p2 := 29) rfl rfl (show Int32.toInt 1 = 1 from rfl) (fun c6 => absurd c6 (by omega)) (fun c6 => ?_)
        refine te_iload (p2 := 31) rfl rfl rfl ?_
        refine te_iconst (p2 := 32) (x := 1) rfl rfl (by decide) ?_
        refine te_bipush (p2 := 34) (x := 9) rfl rfl (by decide) ?_
        refine cS_pI (p2 := 37) rfl rfl rfl rfl (t_X11_between (n := x4) (a := 1) (b := 9) hI ) (by decide) (fun y7 r7 => ?_)
        rcases r7 with ⟨w7, c7⟩ | ⟨w7, c7⟩
        · subst w7
          have cc7_1 := (show Int32.toInt 1 = 1 from rfl)
          have cc7_2 := (show Int32.toInt 9 = 9 from rfl)
          refine tz_ne (p2 := 40) rfl rfl (show Int32.toInt 1 = 1 from rfl) (fun c8 => ?_) (fun c8 => absurd c8 (by omega))
          refine te_aload_n (p2 := 44) rfl rfl rfl ?_
          refine tg_r (p2 := 47) (i := 0) (r := 93) rfl rfl hI rfl rfl rfl ?_
          refine tg_i (p2 := 50) (i := 77) rfl rfl hI rfl rfl rfl (fun y9 a9 b9 e9 => ?_)
          refine te_bipush (p2 := 52) (x := 8) rfl rfl (by decide) ?_
          refine tb_lt (p2 := 55) rfl rfl rfl (show Int32.toInt 8 = 8 from rfl) (fun c10 => ?_) (fun c10 => ?_)
          · refine te_aload_n (p2 := 59) rfl rfl rfl ?_
            refine tg_r (p2 := 62) (i := 0) (r := 93) rfl rfl hI rfl rfl rfl ?_
            refine te_iload_n (p2 := 63) rfl rfl rfl ?_
            refine te_iload_n (p2 := 64) rfl rfl rfl ?_
            refine te_iload_n (p2 := 65) rfl rfl rfl ?_
            refine te_iload (p2 := 67) rfl rfl rfl ?_
            refine tc_V (p2 := 70) (i := 77) rfl rfl rfl rfl hI rfl rfl rfl (c_X4_begin (frm := x1) (side := x2) (most := x3) (shells := x4) hI (by omega) (by omega) (by omega) (by omega) (by omega) (by omega) (by omega) (by omega) ⟨y9, e9, by omega, by omega⟩) (by decide) (fun v11 h11 hq11 => ?_)
            obtain ⟨I11, g11, y11, w11, eo11, en11, N11, O11⟩ := hq11
            subst w11
            have wy11 : y11 = y9 := int_inj eo11 e9
            have f11 := fr_tr (F1 := F_X4_begin) (F := F_X11_raid) f0 g11 (by decide)
            rw [wy11] at en11 N11 O11 ⊢
            show EvP _ _ _ (70, [(0, .ref 16), (1, .int x1), (2, .int x2), (3, .int x3), (4, .int x4)], [.int y9], h11) _
            exact te_iret rfl rfl ⟨I11, f11, _, rfl, y9, e9, (show y9 = fRd x1 x2 x3 x4 y9 from by (unfold fRd; (repeat' split) <;> first | (exfalso; omega) | rfl | assumption | (exact i32_ext (by omega)) | (subst_vars; rfl))), en11.trans (congrArg (fun t => some (Value.int t)) (show (y9 + 1) = gRd x1 x2 x3 x4 y9 from by (unfold gRd; (repeat' split) <;> first | (exfalso; omega) | rfl | assumption | (exact i32_ext (by omega)) | (subst_vars; rfl)))), (fun _ => N11), (fun k hk => O11 k (hk.resolve_right (fun h9 => h9 (by omega))))⟩
          · refine te_bipush (p2 := 57) (x := (-4)) rfl rfl (by decide) ?_
            exact te_iret rfl rfl ⟨hI, f0, _, rfl, y9, e9, (show (-4) = fRd x1 x2 x3 x4 y9 from by (have c0_ := (show Int32.toInt (-4) = (-4) from rfl); unfold fRd; (repeat' split) <;> first | (exfalso; omega) | rfl | assumption | (exact i32_ext (by omega)) | (subst_vars; rfl))), e9.trans (congrArg (fun t => some (Value.int t)) (show y9 = gRd x1 x2 x3 x4 y9 from by (have c0_ := (show Int32.toInt (-4) = (-4) from rfl); unfold gRd; (repeat' split) <;> first | (exfalso; omega) | rfl | assumption | (exact i32_ext (by omega)) | (subst_vars; rfl)))), (fun hy => absurd hy (by rw [show Int32.toInt (-4) = (-4) from rfl]; decide)), (fun k _ => ⟨rfl, rfl, rfl, fun _ _ => rfl⟩)⟩
        · subst w7
          have cc7_1 := (show Int32.toInt 1 = 1 from rfl)
          have cc7_2 := (show Int32.toInt 9 = 9 from rfl)
          refine tz_ne (p2 := 40) rfl rfl (show Int32.toInt 0 = 0 from rfl) (fun c12 => absurd c12 (by omega)) (fun c12 => ?_)
          refine te_bipush (p2 := 42) (x := (-2)) rfl rfl (by decide) ?_
          obtain ⟨v13, e13, y13, w13, a13, b13, _⟩ := hI.2.1 77 0 (.inl (0, 8, 9999999999)) rfl
          subst w13
          exact te_iret rfl rfl ⟨hI, f0, _, rfl, y13, e13, (show (-2) = fRd x1 x2 x3 x4 y13 from by (have c0_ := (show Int32.toInt (-2) = (-2) from rfl); unfold fRd; (repeat' split) <;> first | (exfalso; omega) | rfl | assumption | (exact i32_ext (by omega)) | (subst_vars; rfl))), e13.trans (congrArg (fun t => some (Value.int t)) (show y13 = gRd x1 x2 x3 x4 y13 from by (have c0_ := (show Int32.toInt (-2) = (-2) from rfl); unfold gRd; (repeat' split) <;> first | (exfalso; omega) | rfl | assumption | (exact i32_ext (by omega)) | (subst_vars; rfl)))), (fun hy => absurd hy (by rw [show Int32.toInt (-2) = (-2) from rfl]; decide)), (fun k _ => ⟨rfl, rfl, rfl, fun _ _ => rfl⟩)⟩
      · subst w5
        have cc5_1 := (show Int32.toInt 1 = 1 from rfl)
        have cc5_2 := (show Int32.toInt 10 = 10 from rfl)
        refine tz_eq (p2 := 29) rfl rfl (show Int32.toInt 0 = 0 from rfl) (fun c14 => ?_) (fun c14 => absurd c14 (by omega))
        refine te_bipush (p2 := 42) (x := (-2)) rfl rfl (by decide) ?_
        obtain ⟨v15, e15, y15, w15, a15, b15, _⟩ := hI.2.1 77 0 (.inl (0, 8, 9999999999)) rfl
        subst w15
        exact te_iret rfl rfl ⟨hI, f0, _, rfl, y15, e15, (show (-2) = fRd x1 x2 x3 x4 y15 from by (have c0_ := (show Int32.toInt (-2) = (-2) from rfl); unfold fRd; (repeat' split) <;> first | (exfalso; omega) | rfl | assumption | (exact i32_ext (by omega)) | (subst_vars; rfl))), e15.trans (congrArg (fun t => some (Value.int t)) (show y15 = gRd x1 x2 x3 x4 y15 from by (have c0_ := (show Int32.toInt (-2) = (-2) from rfl); unfold gRd; (repeat' split) <;> first | (exfalso; omega) | rfl | assumption | (exact i32_ext (by omega)) | (subst_vars; rfl)))), (fun hy => absurd hy (by rw [show Int32.toInt (-2) = (-2) from rfl]; decide)), (fun k _ => ⟨rfl, rfl, rfl, fun _ _ => rfl⟩)⟩
    · subst w3
      have cc3_1 := (show Int32.toInt 4 = 4 from rfl)
      refine tz_eq (p2 := 19) rfl rfl (show Int32.toInt 0 = 0 from rfl) (fun c16 => ?_) (fun c16 => absurd c16 (by omega))
      refine te_bipush (p2 := 42) (x := (-2)) rfl rfl (by decide) ?_
      obtain ⟨v17, e17, y17, w17, a17, b17, _⟩ := hI.2.1 77 0 (.inl (0, 8, 9999999999)) rfl
      subst w17
      exact te_iret rfl rfl ⟨hI, f0, _, rfl, y17, e17, (show (-2) = fRd x1 x2 x3 x4 y17 from by (have c0_ := (show Int32.toInt (-2) = (-2) from rfl); unfold fRd; (repeat' split) <;> first | (exfalso; omega) | rfl | assumption | (exact i32_ext (by omega)) | (subst_vars; rfl))), e17.trans (congrArg (fun t => some (Value.int t)) (show y17 = gRd x1 x2 x3 x4 y17 from by (have c0_ := (show Int32.toInt (-2) = (-2) from rfl); unfold gRd; (repeat' split) <;> first | (exfalso; omega) | rfl | assumption | (exact i32_ext (by omega)) | (subst_vars; rfl)))), (fun hy => absurd hy (by rw [show Int32.toInt (-2) = (-2) from rfl]; decide)), (fun k _ => ⟨rfl, rfl, rfl, fun _ _ => rfl⟩)⟩
  · subst w1
    have cc1_1 := (show Int32.toInt 100 = 100 from rfl)
    refine tz_ne (p2 := 9) rfl rfl (show Int32.toInt 0 = 0 from rfl) (fun c18 => absurd c18 (by omega)) (fun c18 => ?_)
    refine te_iconst (p2 := 10) (x := (-1)) rfl rfl (by decide) ?_
    obtain ⟨v19, e19, y19, w19, a19, b19, _⟩ := hI.2.1 77 0 (.inl (0, 8, 9999999999)) rfl
    subst w19
    exact te_iret rfl rfl ⟨hI, f0, _, rfl, y19, e19, (show (-1) = fRd x1 x2 x3 x4 y19 from by (have c0_ := (show Int32.toInt (-1) = (-1) from rfl); unfold fRd; (repeat' split) <;> first | (exfalso; omega) | rfl | assumption | (exact i32_ext (by omega)) | (subst_vars; rfl))), e19.trans (congrArg (fun t => some (Value.int t)) (show y19 = gRd x1 x2 x3 x4 y19 from by (have c0_ := (show Int32.toInt (-1) = (-1) from rfl); unfold gRd; (repeat' split) <;> first | (exfalso; omega) | rfl | assumption | (exact i32_ext (by omega)) | (subst_vars; rfl)))), (fun hy => absurd hy (by rw [show Int32.toInt (-1) = (-1) from rfl]; decide)), (fun k _ => ⟨rfl, rfl, rfl, fun _ _ => rfl⟩)⟩
abbrev Q2_raid (x1 x2 x3 x4 : Int32) (y : Int32) (h h2 : im_H) : Prop := ∃ p : Int32, rd h 148 29 = some (.int p) ∧ y = fRd x1 x2 x3 x4 p ∧ rd h2 148 29 = some (.int (gRd x1 x2 x3 x4 p)) ∧ (0 ≤ y.toInt → rd h2 173 p.toInt.toNat = some (.int x1) ∧ rd h2 174 p.toInt.toNat = some (.int x2) ∧ rd h2 175 p.toInt.toNat = some (.int x3) ∧ rd h2 176 p.toInt.toNat = some (.int x4)) ∧ (∀ k : Nat, (k ≠ p.toInt.toNat ∨ ¬ 0 ≤ y.toInt) → rd h2 173 k = rd h 173 k ∧ rd h2 174 k = rd h 174 k ∧ rd h2 175 k = rd h 175 k ∧ rd h2 176 k = rd h 176 k)
set_option maxRecDepth 20000 in
set_option maxHeartbeats 4000000 in
theorem c_X12_raid {x1 : Int32} {x2 : Int32} {x3 : Int32} {x4 : Int32} {h : im_H} (hI : tI h)  : CaP 3 175 [.ref 164, .int x1, .int x2, .int x3, .int x4] h (fun v h2 => tI h2 ∧ fr F_X12_raid h h2 ∧ ∃ y : Int32, v = some (.int y) ∧ Q2_raid x1 x2 x3 x4 y h h2) := by
  refine cap_of (d := 2) (M := mX12_raid) rfl (Nat.le_of_ble_eq_true rfl) ?_
  show EvP im_K0 2 mX12_raid (0, [(0, .ref 164), (1, .int x1), (2, .int x2), (3, .int x3), (4, .int x4)], [], h) _
  have f0 : fr F_X12_raid h h := fr_rf
  refine te_iload_n (p2 := 1) rfl rfl rfl ?_
  refine cS_pI (p2 := 4) rfl rfl rfl rfl (t_X12_isCell (n := x1) hI ) (by decide) (fun y1 r1 => ?_)
  rcases r1 with ⟨w1, c1⟩ | ⟨w1, c1⟩
  · subst w1
    refine tz_ne (p2 := 7) rfl rfl (show Int32.toInt 1 = 1 from rfl) (fun c2 => ?_) (fun c2 => absurd c2 (by omega))
    refine te_iload_n (p2 := 10) rfl rfl rfl ?_
    refine te_iconst (p2 := 11) (x := 0) rfl rfl (by decide) ?_
    refine te_iconst (p2 := 12) (x := 3) rfl rfl (by decide) ?_
    refine cS_pI (p2 := 15) rfl rfl rfl rfl (t_X12_in (n := x2) (a := 0) (b := 3) hI ) (by decide) (fun y3 r3 => ?_)
    rcases r3 with ⟨w3, c3⟩ | ⟨w3, c3⟩
    · subst w3
      have cc3_1 := (show Int32.toInt 0 = 0 from rfl)
      have cc3_2 := (show Int32.toInt 3 = 3 from rfl)
      refine tz_eq (p2 := 18) rfl rfl (show Int32.toInt 1 = 1 from rfl) (fun c4 => absurd c4 (by omega)) (fun c4 => ?_)
      refine te_iload_n (p2 := 19) rfl rfl rfl ?_
      refine te_iconst (p2 := 20) (x := 1) rfl rfl (by decide) ?_
      refine te_bipush (p2 := 22) (x := 10) rfl rfl (by decide) ?_
      refine cS_pI (p2 := 25) rfl rfl rfl rfl (t_X12_in (n := x3) (a := 1) (b := 10) hI ) (by decide) (fun y5 r5 => ?_)
      rcases r5 with ⟨w5, c5⟩ | ⟨w5, c5⟩
      · subst w5
        have cc5_1 := (show Int32.toInt 1 = 1 from rfl)
        have cc5_2 := (show Int32.toInt 10 = 10 from rfl)
        refine tz_eq (p2 := 28) rfl rfl (show Int32.toInt 1 = 1 from rfl) (fun c6 => absurd c6 (by omega)) (fun c6 => ?_)
        refine te_iload (p2 := 30) rfl rfl rfl ?_
        refine te_iconst (p2 := 31) (x := 1) rfl rfl (by decide) ?_
        refine te_bipush (p2 := 33) (x := 9) rfl rfl (by decide) ?_
        refine cS_pI (p2 := 36) rfl rfl rfl rfl (t_X12_in (n := x4) (a := 1) (b := 9) hI ) (by decide) (fun y7 r7 => ?_)
        rcases r7 with ⟨w7, c7⟩ | ⟨w7, c7⟩
        · subst w7
          have cc7_1 := (show Int32.toInt 1 = 1 from rfl)
          have cc7_2 := (show Int32.toInt 9 = 9 from rfl)
          refine tz_ne (p2 := 39) rfl rfl (show Int32.toInt 1 = 1 from rfl) (fun c8 => ?_) (fun c8 => absurd c8 (by omega))
          refine te_aload_n (p2 := 43) rfl rfl rfl ?_
          refine tg_i (p2 := 46) (i := 148) rfl rfl hI rfl rfl rfl (fun y9 a9 b9 e9 => ?_)
          refine te_bipush (p2 := 48) (x := 8) rfl rfl (by decide) ?_
          refine tb_ne (p2 := 51) rfl rfl rfl (show Int32.toInt 8 = 8 from rfl) (fun c10 => ?_) (fun c10 => ?_)
          · refine te_aload_n (p2 := 55) rfl rfl rfl ?_
            refine tg_r (p2 := 58) (i := 148) (r := 189) rfl rfl hI rfl rfl rfl ?_
            refine te_aload_n (p2 := 59) rfl rfl rfl ?_
            refine tg_e (p2 := 62) (i := 148) (v := .int y9) rfl rfl hI rfl rfl e9 ?_
            refine te_iload_n (p2 := 63) rfl rfl rfl ?_
            refine ts_i (p2 := 64) (i := 173) (n := 8) rfl rfl hI rfl rfl rfl rfl (by omega) (by omega) (by omega) (by omega) (by omega) rfl (fun h11 I11 u11 => ?_)
            have f11 := fr_st (F := F_X12_raid) 1 f0 u11 rfl (by omega) (by omega)
            refine te_aload_n (p2 := 65) rfl rfl rfl ?_
            refine tg_r (p2 := 68) (i := 148) (r := 190) rfl rfl I11 rfl rfl rfl ?_
            refine te_aload_n (p2 := 69) rfl rfl rfl ?_
            refine tg_e (p2 := 72) (i := 148) (v := .int y9) rfl rfl I11 rfl rfl ((u11.2 _ _ (Or.inl (by decide))).trans e9) ?_
            refine te_iload_n (p2 := 73) rfl rfl rfl ?_
            refine ts_i (p2 := 74) (i := 174) (n := 8) rfl rfl I11 rfl rfl rfl rfl (by omega) (by omega) (by omega) (by omega) (by omega) rfl (fun h12 I12 u12 => ?_)
            have f12 := fr_st (F := F_X12_raid) 2 f11 u12 rfl (by omega) (by omega)
            refine te_aload_n (p2 := 75) rfl rfl rfl ?_
            refine tg_r (p2 := 78) (i := 148) (r := 191) rfl rfl I12 rfl rfl rfl ?_
            refine te_aload_n (p2 := 79) rfl rfl rfl ?_
            refine tg_e (p2 := 82) (i := 148) (v := .int y9) rfl rfl I12 rfl rfl ((u12.2 _ _ (Or.inl (by decide))).trans ((u11.2 _ _ (Or.inl (by decide))).trans e9)) ?_
            refine te_iload_n (p2 := 83) rfl rfl rfl ?_
            refine ts_i (p2 := 84) (i := 175) (n := 8) rfl rfl I12 rfl rfl rfl rfl (by omega) (by omega) (by omega) (by omega) (by omega) rfl (fun h13 I13 u13 => ?_)
            have f13 := fr_st (F := F_X12_raid) 3 f12 u13 rfl (by omega) (by omega)
            refine te_aload_n (p2 := 85) rfl rfl rfl ?_
            refine tg_r (p2 := 88) (i := 148) (r := 192) rfl rfl I13 rfl rfl rfl ?_
            refine te_aload_n (p2 := 89) rfl rfl rfl ?_
            refine tg_e (p2 := 92) (i := 148) (v := .int y9) rfl rfl I13 rfl rfl ((u13.2 _ _ (Or.inl (by decide))).trans ((u12.2 _ _ (Or.inl (by decide))).trans ((u11.2 _ _ (Or.inl (by decide))).trans e9))) ?_
            refine te_iload (p2 := 94) rfl rfl rfl ?_
            refine ts_i (p2 := 95) (i := 176) (n := 8) rfl rfl I13 rfl rfl rfl rfl (by omega) (by omega) (by omega) (by omega) (by omega) rfl (fun h14 I14 u14 => ?_)
            have f14 := fr_st (F := F_X12_raid) 4 f13 u14 rfl (by omega) (by omega)
            refine te_aload_n (p2 := 96) rfl rfl rfl ?_
            refine te_dup (p2 := 97) rfl rfl rfl ?_
            refine tg_e (p2 := 100) (i := 148) (v := .int y9) rfl rfl I14 rfl rfl ((u14.2 _ _ (Or.inl (by decide))).trans ((u13.2 _ _ (Or.inl (by decide))).trans ((u12.2 _ _ (Or.inl (by decide))).trans ((u11.2 _ _ (Or.inl (by decide))).trans e9)))) ?_
            refine te_iconst (p2 := 101) (x := 1) rfl rfl (by decide) ?_
            refine ar_add (p2 := 102) rfl rfl rfl (show Int32.toInt 1 = 1 from rfl) (by omega) (by omega) (fun z15 e15 f15 => ?_)
            refine tp_i (p2 := 105) (i := 148) rfl rfl I14 rfl rfl (by decide) rfl rfl rfl (by omega) (by omega) (by omega) rfl (fun h16 I16 u16 => ?_)
            have f16 := fr_st (F := F_X12_raid) 0 f14 u16 rfl (by decide) (by decide)
            refine te_aload_n (p2 := 106) rfl rfl rfl ?_
            refine tg_e (p2 := 109) (i := 148) (v := .int z15) rfl rfl I16 rfl rfl u16.1 ?_
            refine te_iconst (p2 := 110) (x := 1) rfl rfl (by decide) ?_
            refine ar_sub (p2 := 111) rfl rfl rfl (show Int32.toInt 1 = 1 from rfl) (by omega) (by omega) (fun z17 e17 f17 => ?_)
            exact te_iret rfl rfl ⟨I16, f16, _, rfl, y9, e9, (show z17 = fRd x1 x2 x3 x4 y9 from by (unfold fRd; (repeat' split) <;> first | (exfalso; omega) | rfl | assumption | (exact i32_ext (by omega)) | (subst_vars; rfl))), u16.1.trans (congrArg (fun t => some (Value.int t)) (show z15 = gRd x1 x2 x3 x4 y9 from by (unfold gRd; (repeat' split) <;> first | (exfalso; omega) | rfl | assumption | (exact i32_ext (by omega)) | (subst_vars; rfl)))), (fun _ => ⟨((u16.2 _ _ (Or.inl (by decide))).trans ((u14.2 _ _ (Or.inl (by decide))).trans ((u13.2 _ _ (Or.inl (by decide))).trans ((u12.2 _ _ (Or.inl (by decide))).trans u11.1)))), ((u16.2 _ _ (Or.inl (by decide))).trans ((u14.2 _ _ (Or.inl (by decide))).trans ((u13.2 _ _ (Or.inl (by decide))).trans u12.1))), ((u16.2 _ _ (Or.inl (by decide))).trans ((u14.2 _ _ (Or.inl (by decide))).trans u13.1)), ((u16.2 _ _ (Or.inl (by decide))).trans u14.1)⟩), (fun k hk0 => by (have hk : k ≠ y9.toInt.toNat := hk0.resolve_right (fun h9 => h9 (by omega))); exact ⟨((u16.2 _ _ (Or.inl (by omega))).trans ((u14.2 _ _ (Or.inl (by omega))).trans ((u13.2 _ _ (Or.inl (by omega))).trans ((u12.2 _ _ (Or.inl (by omega))).trans (u11.2 _ _ (Or.inr hk)))))), ((u16.2 _ _ (Or.inl (by omega))).trans ((u14.2 _ _ (Or.inl (by omega))).trans ((u13.2 _ _ (Or.inl (by omega))).trans ((u12.2 _ _ (Or.inr hk)).trans (u11.2 _ _ (Or.inl (by omega))))))), ((u16.2 _ _ (Or.inl (by omega))).trans ((u14.2 _ _ (Or.inl (by omega))).trans ((u13.2 _ _ (Or.inr hk)).trans ((u12.2 _ _ (Or.inl (by omega))).trans (u11.2 _ _ (Or.inl (by omega))))))), ((u16.2 _ _ (Or.inl (by omega))).trans ((u14.2 _ _ (Or.inr hk)).trans ((u13.2 _ _ (Or.inl (by omega))).trans ((u12.2 _ _ (Or.inl (by omega))).trans (u11.2 _ _ (Or.inl (by omega)))))))⟩)⟩
          · refine te_bipush (p2 := 53) (x := (-4)) rfl rfl (by decide) ?_
            exact te_iret rfl rfl ⟨hI, f0, _, rfl, y9, e9, (show (-4) = fRd x1 x2 x3 x4 y9 from by (have c0_ := (show Int32.toInt (-4) = (-4) from rfl); unfold fRd; (repeat' split) <;> first | (exfalso; omega) | rfl | assumption | (exact i32_ext (by omega)) | (subst_vars; rfl))), e9.trans (congrArg (fun t => some (Value.int t)) (show y9 = gRd x1 x2 x3 x4 y9 from by (have c0_ := (show Int32.toInt (-4) = (-4) from rfl); unfold gRd; (repeat' split) <;> first | (exfalso; omega) | rfl | assumption | (exact i32_ext (by omega)) | (subst_vars; rfl)))), (fun hy => absurd hy (by rw [show Int32.toInt (-4) = (-4) from rfl]; decide)), (fun k _ => ⟨rfl, rfl, rfl, rfl⟩)⟩
        · subst w7
          have cc7_1 := (show Int32.toInt 1 = 1 from rfl)
          have cc7_2 := (show Int32.toInt 9 = 9 from rfl)
          refine tz_ne (p2 := 39) rfl rfl (show Int32.toInt 0 = 0 from rfl) (fun c18 => absurd c18 (by omega)) (fun c18 => ?_)
          refine te_bipush (p2 := 41) (x := (-2)) rfl rfl (by decide) ?_
          obtain ⟨v19, e19, y19, w19, a19, b19, _⟩ := hI.2.1 148 29 (.inl (0, 8, 9999999999)) rfl
          subst w19
          exact te_iret rfl rfl ⟨hI, f0, _, rfl, y19, e19, (show (-2) = fRd x1 x2 x3 x4 y19 from by (have c0_ := (show Int32.toInt (-2) = (-2) from rfl); unfold fRd; (repeat' split) <;> first | (exfalso; omega) | rfl | assumption | (exact i32_ext (by omega)) | (subst_vars; rfl))), e19.trans (congrArg (fun t => some (Value.int t)) (show y19 = gRd x1 x2 x3 x4 y19 from by (have c0_ := (show Int32.toInt (-2) = (-2) from rfl); unfold gRd; (repeat' split) <;> first | (exfalso; omega) | rfl | assumption | (exact i32_ext (by omega)) | (subst_vars; rfl)))), (fun hy => absurd hy (by rw [show Int32.toInt (-2) = (-2) from rfl]; decide)), (fun k _ => ⟨rfl, rfl, rfl, rfl⟩)⟩
      · subst w5
        have cc5_1 := (show Int32.toInt 1 = 1 from rfl)
        have cc5_2 := (show Int32.toInt 10 = 10 from rfl)
        refine tz_eq (p2 := 28) rfl rfl (show Int32.toInt 0 = 0 from rfl) (fun c20 => ?_) (fun c20 => absurd c20 (by omega))
        refine te_bipush (p2 := 41) (x := (-2)) rfl rfl (by decide) ?_
        obtain ⟨v21, e21, y21, w21, a21, b21, _⟩ := hI.2.1 148 29 (.inl (0, 8, 9999999999)) rfl
        subst w21
        exact te_iret rfl rfl ⟨hI, f0, _, rfl, y21, e21, (show (-2) = fRd x1 x2 x3 x4 y21 from by (have c0_ := (show Int32.toInt (-2) = (-2) from rfl); unfold fRd; (repeat' split) <;> first | (exfalso; omega) | rfl | assumption | (exact i32_ext (by omega)) | (subst_vars; rfl))), e21.trans (congrArg (fun t => some (Value.int t)) (show y21 = gRd x1 x2 x3 x4 y21 from by (have c0_ := (show Int32.toInt (-2) = (-2) from rfl); unfold gRd; (repeat' split) <;> first | (exfalso; omega) | rfl | assumption | (exact i32_ext (by omega)) | (subst_vars; rfl)))), (fun hy => absurd hy (by rw [show Int32.toInt (-2) = (-2) from rfl]; decide)), (fun k _ => ⟨rfl, rfl, rfl, rfl⟩)⟩
    · subst w3
      have cc3_1 := (show Int32.toInt 0 = 0 from rfl)
      have cc3_2 := (show Int32.toInt 3 = 3 from rfl)
      refine tz_eq (p2 := 18) rfl rfl (show Int32.toInt 0 = 0 from rfl) (fun c22 => ?_) (fun c22 => absurd c22 (by omega))
      refine te_bipush (p2 := 41) (x := (-2)) rfl rfl (by decide) ?_
      obtain ⟨v23, e23, y23, w23, a23, b23, _⟩ := hI.2.1 148 29 (.inl (0, 8, 9999999999)) rfl
      subst w23
      exact te_iret rfl rfl ⟨hI, f0, _, rfl, y23, e23, (show (-2) = fRd x1 x2 x3 x4 y23 from by (have c0_ := (show Int32.toInt (-2) = (-2) from rfl); unfold fRd; (repeat' split) <;> first | (exfalso; omega) | rfl | assumption | (exact i32_ext (by omega)) | (subst_vars; rfl))), e23.trans (congrArg (fun t => some (Value.int t)) (show y23 = gRd x1 x2 x3 x4 y23 from by (have c0_ := (show Int32.toInt (-2) = (-2) from rfl); unfold gRd; (repeat' split) <;> first | (exfalso; omega) | rfl | assumption | (exact i32_ext (by omega)) | (subst_vars; rfl)))), (fun hy => absurd hy (by rw [show Int32.toInt (-2) = (-2) from rfl]; decide)), (fun k _ => ⟨rfl, rfl, rfl, rfl⟩)⟩
  · subst w1
    refine tz_ne (p2 := 7) rfl rfl (show Int32.toInt 0 = 0 from rfl) (fun c24 => absurd c24 (by omega)) (fun c24 => ?_)
    refine te_iconst (p2 := 8) (x := (-1)) rfl rfl (by decide) ?_
    obtain ⟨v25, e25, y25, w25, a25, b25, _⟩ := hI.2.1 148 29 (.inl (0, 8, 9999999999)) rfl
    subst w25
    exact te_iret rfl rfl ⟨hI, f0, _, rfl, y25, e25, (show (-1) = fRd x1 x2 x3 x4 y25 from by (have c0_ := (show Int32.toInt (-1) = (-1) from rfl); unfold fRd; (repeat' split) <;> first | (exfalso; omega) | rfl | assumption | (exact i32_ext (by omega)) | (subst_vars; rfl))), e25.trans (congrArg (fun t => some (Value.int t)) (show y25 = gRd x1 x2 x3 x4 y25 from by (have c0_ := (show Int32.toInt (-1) = (-1) from rfl); unfold gRd; (repeat' split) <;> first | (exfalso; omega) | rfl | assumption | (exact i32_ext (by omega)) | (subst_vars; rfl)))), (fun hy => absurd hy (by rw [show Int32.toInt (-1) = (-1) from rfl]; decide)), (fun k _ => ⟨rfl, rfl, rfl, rfl⟩)⟩
def prT (x1 x2 q : Int32) : Int32 := if 0 ≤ x1.toInt ∧ x1.toInt ≤ 99 then (if 0 ≤ x2.toInt ∧ x2.toInt ≤ 9 then (if q.toInt = 0 then -6 else -3) else -2) else -1
set_option maxRecDepth 20000 in
set_option maxHeartbeats 4000000 in
theorem c_X4_find {c : Int32} {shells : Int32} {h : im_H} (hI : tI h) (p_c0 : 0 ≤ c.toInt) (p_c1 : c.toInt ≤ 99) (p_shells0 : 0 ≤ shells.toInt) (p_shells1 : shells.toInt ≤ 9) : CaP 2 32 [.ref 93, .int c, .int shells] h (fun v h2 => tI h2 ∧ fr F_X4_find h h2 ∧ v = none ∧ ∃ p : Int32, rd h 77 0 = some (.int p) ∧ fdG h h2 c shells p.toInt ∧ rd h2 90 c.toInt.toNat = some (.int 1) ∧ ∀ m, m ≠ c.toInt.toNat → rd h2 90 m = rd h 90 m) := by
  refine cap_of (d := 1) (M := mX4_find) rfl (Nat.le_of_ble_eq_true rfl) ?_
  show EvP im_K0 1 mX4_find (0, [(0, .ref 93), (1, .int c), (2, .int shells)], [], h) _
  have f0 : fr F_X4_find h h := fr_rf
  refine te_iload_n (p2 := 1) rfl rfl rfl ?_
  obtain ⟨v1, e1, y1, w1, a1, b1, _⟩ := hI.2.1 77 0 (.inl (0, 8, 9999999999)) rfl
  subst w1
  have W88 : ∀ k : Nat, k < 8 → rd h 88 k = some (.int (rv h 88 k)) := fun k hk => by (obtain ⟨_, e1, k1, w1, _⟩ := hI.2.1 88 k (.inl (0, 9, 9999999999)) (tq_row rfl (by omega))); subst w1; exact e1.trans (congrArg (fun t => some (Value.int t)) (rv_of e1).symm)
  refine te_istore_n (p2 := 2) (lv2 := [(3, .int shells), (0, .ref 93), (1, .int c), (2, .int shells)]) rfl rfl (by decide) rfl ?_
  refine te_aload_n (p2 := 3) rfl rfl rfl ?_
  refine tg_r (p2 := 6) (i := 77) (r := 106) rfl rfl hI rfl rfl rfl ?_
  refine te_iload_n (p2 := 7) rfl rfl rfl ?_
  refine te_iconst (p2 := 8) (x := 1) rfl rfl (by decide) ?_
  refine ts_b (p2 := 9) (i := 90) (n := 100) rfl rfl hI rfl rfl rfl rfl (by omega) (by omega) (by decide) (by decide) rfl (fun h2 I2 u2 => ?_)
  have f2 := fr_st (F := F_X4_find) 2 f0 u2 rfl (by omega) (by omega)
  refine te_iconst (p2 := 10) (x := 0) rfl rfl (by decide) ?_
  refine te_istore (p2 := 12) (lv2 := [(4, .int 0), (3, .int shells), (0, .ref 93), (1, .int c), (2, .int shells)]) rfl rfl (by decide) rfl ?_
  have lp3 : ∀ (n3 : Nat) (v3_3 v3_4 : Int32) (h3 : im_H), tI h3 → fr F_X4_find h h3 → 0 ≤ v3_3.toInt → v3_3.toInt ≤ 9 → 0 ≤ v3_4.toInt → v3_4.toInt ≤ 8 → v3_4.toInt ≤ y1.toInt → v3_3.toInt = tf (fun r => ovc h r c) (fun r => (rv h 88 r).toInt) shells.toInt v3_4.toInt.toNat → (fdG h h3 c shells v3_4.toInt) → (rd h3 90 c.toInt.toNat = some (.int 1) ∧ ∀ m, m ≠ c.toInt.toNat → rd h3 90 m = rd h 90 m) → 8 - v3_4.toInt < (n3 : Int) → EvP im_K0 1 mX4_find (12, [(0, .ref 93), (1, .int c), (2, .int shells), (3, .int v3_3), (4, .int v3_4)], [], h3) (fun v h2 => tI h2 ∧ fr F_X4_find h h2 ∧ v = none ∧ ∃ p : Int32, rd h 77 0 = some (.int p) ∧ fdG h h2 c shells p.toInt ∧ rd h2 90 c.toInt.toNat = some (.int 1) ∧ ∀ m, m ≠ c.toInt.toNat → rd h2 90 m = rd h 90 m) := by
    intro n3
    induction n3 with
    | zero => intro v3_3 v3_4 h3 I3 f3 a3_3 b3_3 a3_4 b3_4 l3_0 w3_0 w3_1 w3_2 m3; exfalso; omega
    | succ n3 ih3 =>
      intro v3_3 v3_4 h3 I3 f3 a3_3 b3_3 a3_4 b3_4 l3_0 w3_0 w3_1 w3_2 m3
      refine te_iload (p2 := 14) rfl rfl rfl ?_
      refine te_aload_n (p2 := 15) rfl rfl rfl ?_
      refine tg_e (p2 := 18) (i := 77) (v := .int y1) rfl rfl I3 rfl rfl ((f3 _ _ rfl).trans e1) ?_
      refine tb_ge (p2 := 21) rfl rfl rfl rfl (fun c4 => ?_) (fun c4 => ?_)
      · exact te_vret rfl rfl ⟨I3, f3, rfl, y1, e1, (show fdG h h3 c shells y1.toInt from (by rw [show y1.toInt = v3_4.toInt by omega]; exact w3_1)), w3_2.1, w3_2.2⟩
      · refine te_aload_n (p2 := 22) rfl rfl rfl ?_
        refine te_iload (p2 := 24) rfl rfl rfl ?_
        refine te_iload_n (p2 := 25) rfl rfl rfl ?_
        refine cV_pI (p2 := 28) (i := 77) rfl rfl rfl rfl I3 rfl rfl rfl (c_X4_isOver (raid := v3_4) (c := c) I3 (by omega) (by omega)) (by decide) (fun y5 r5 => ?_)
        rcases r5 with ⟨w5, ov5⟩ | ⟨w5, ov5⟩
        · subst w5
          have oh5 := (ovc_fr (r := v3_4.toInt.toNat) f3 rfl (fun k => (by rcases (show v3_4.toInt.toNat = 0 ∨ v3_4.toInt.toNat = 1 ∨ v3_4.toInt.toNat = 2 ∨ v3_4.toInt.toNat = 3 ∨ v3_4.toInt.toNat = 4 ∨ v3_4.toInt.toNat = 5 ∨ v3_4.toInt.toNat = 6 ∨ v3_4.toInt.toNat = 7 by omega) with e9 | e9 | e9 | e9 | e9 | e9 | e9 | e9 <;> rw [e9] <;> rfl))).mp ov5
          refine tz_eq (p2 := 31) rfl rfl (show Int32.toInt 1 = 1 from rfl) (fun c6 => absurd c6 (by omega)) (fun c6 => ?_)
          refine te_iload_n (p2 := 32) rfl rfl rfl ?_
          refine te_aload_n (p2 := 33) rfl rfl rfl ?_
          refine tg_r (p2 := 36) (i := 77) (r := 104) rfl rfl I3 rfl rfl rfl ?_
          refine te_iload (p2 := 38) rfl rfl rfl ?_
          refine tl_i (p2 := 39) (i := 88) (n := 8) rfl rfl I3 rfl rfl rfl rfl (by omega) (by omega) (fun y7 a7 b7 g7 e7 => ?_)
          refine ar_min (p2 := 42) rfl rfl rfl rfl rfl (fun z8 e8 f8 => ?_)
          refine te_istore (p2 := 44) (lv2 := [(5, .int z8), (0, .ref 93), (1, .int c), (2, .int shells), (3, .int v3_3), (4, .int v3_4)]) rfl rfl (by decide) rfl ?_
          refine te_aload_n (p2 := 45) rfl rfl rfl ?_
          refine tg_r (p2 := 48) (i := 77) (r := 104) rfl rfl I3 rfl rfl rfl ?_
          refine te_iload (p2 := 50) rfl rfl rfl ?_
          refine te_dup2 (p2 := 51) rfl rfl ⟨rfl, rfl⟩ ?_
          refine tl_e (p2 := 52) (i := 88) (n := 8) (t := 0) (Or.inl rfl) rfl rfl I3 rfl rfl (by omega) (by omega) e7 ?_
          refine te_iload (p2 := 54) rfl rfl rfl ?_
          refine ar_sub (p2 := 55) rfl rfl rfl rfl (by omega) (by omega) (fun z10 e10 f10 => ?_)
          refine ts_i (p2 := 56) (i := 88) (n := 8) rfl rfl I3 rfl rfl rfl rfl (by omega) (by omega) (by omega) (by omega) (by omega) rfl (fun h11 I11 u11 => ?_)
          have f11 := fr_st (F := F_X4_find) 0 f3 u11 rfl (by omega) (by omega)
          refine te_iload_n (p2 := 57) rfl rfl rfl ?_
          refine te_iload (p2 := 59) rfl rfl rfl ?_
          refine ar_sub (p2 := 60) rfl rfl rfl rfl (by omega) (by omega) (fun z12 e12 f12 => ?_)
          refine te_istore_n (p2 := 61) (lv2 := [(3, .int z12), (5, .int z8), (0, .ref 93), (1, .int c), (2, .int shells), (4, .int v3_4)]) rfl rfl (by decide) rfl ?_
          refine te_aload_n (p2 := 62) rfl rfl rfl ?_
          refine tg_r (p2 := 65) (i := 77) (r := 105) rfl rfl I11 rfl rfl rfl ?_
          refine te_iload (p2 := 67) rfl rfl rfl ?_
          refine te_dup2 (p2 := 68) rfl rfl ⟨rfl, rfl⟩ ?_
          refine tl_i (p2 := 69) (i := 89) (n := 8) rfl rfl I11 rfl rfl rfl rfl (by omega) (by omega) (fun y13 a13 b13 g13 e13 => ?_)
          refine te_iconst (p2 := 70) (x := 1) rfl rfl (by decide) ?_
          refine au_sub (p2 := 71) rfl rfl (fun z14 e14 => ?_)
          refine ts_i (p2 := 72) (i := 89) (n := 8) rfl rfl I11 rfl rfl rfl rfl (by omega) (by omega) (i32_lo _) (i32_hi _) (i32_ho _) rfl (fun h15 I15 u15 => ?_)
          have f15 := fr_st (F := F_X4_find) 1 f11 u15 rfl (by omega) (by omega)
          refine ar_inc (p2 := 75) (x := v3_4) rfl rfl (by decide) rfl (by decide) rfl (by omega) (by omega) (fun z16 e16 f16 => ?_)
          show EvP _ _ _ (75, [(4, .int z16), (3, .int z12), (5, .int z8), (0, .ref 93), (1, .int c), (2, .int shells)], [], h15) _
          refine te_goto rfl ?_
          refine te_lv [(0, .ref 93), (1, .int c), (2, .int shells), (3, .int z12), (4, .int z16)] rfl rfl ⟨rfl, rfl, rfl, rfl, rfl, trivial⟩ ?_
          exact ih3 z12 z16 h15 I15 f15 (by omega) (by omega) (by omega) (by omega) (by omega) (by rw [show z16.toInt.toNat = v3_4.toInt.toNat + 1 by omega, tf_y (P := (fun r => ovc h r c)) (s := (fun r => (rv h 88 r).toInt)) oh5, ← w3_0, (show (rv h 88 v3_4.toInt.toNat).toInt = y7.toInt from congrArg Int32.toInt (rv_of ((w3_1.2 v3_4.toInt.toNat (by omega)).1.symm.trans e7)))]; omega) (fd_y (k := v3_4.toInt.toNat) w3_1 (by omega) (by omega) oh5 ((u15.2 _ _ (Or.inl (by decide))).trans u11.1) (by rw [nsh_y (P := (fun r => ovc h r c)) (s := (fun r => (rv h 88 r).toInt)) oh5, ← w3_0, (show (rv h 88 v3_4.toInt.toNat).toInt = y7.toInt from congrArg Int32.toInt (rv_of ((w3_1.2 v3_4.toInt.toNat (by omega)).1.symm.trans e7)))]; omega) (u15.1.trans (congrArg (fun t => some (Value.int t)) (show z14 = rv h 89 v3_4.toInt.toNat - 1 from (by rw [rv_of ((w3_1.2 v3_4.toInt.toNat (by omega)).2.symm.trans ((u11.2 _ _ (Or.inl (by decide))).symm.trans e13)), e14])))) (fun m hm => ⟨(u15.2 _ _ (Or.inl (by decide))).trans (u11.2 _ _ (Or.inr hm)), (u15.2 _ _ (Or.inr hm)).trans (u11.2 _ _ (Or.inl (by decide)))⟩)) ⟨((u15.2 _ _ (Or.inl (by omega))).trans ((u11.2 _ _ (Or.inl (by omega))).trans w3_2.1)), fun m hm => ((u15.2 _ _ (Or.inl (by omega))).trans ((u11.2 _ _ (Or.inl (by omega))).trans (w3_2.2 m hm)))⟩ (by omega)
        · subst w5
          have oh5 := fun q => ov5 ((ovc_fr (r := v3_4.toInt.toNat) f3 rfl (fun k => (by rcases (show v3_4.toInt.toNat = 0 ∨ v3_4.toInt.toNat = 1 ∨ v3_4.toInt.toNat = 2 ∨ v3_4.toInt.toNat = 3 ∨ v3_4.toInt.toNat = 4 ∨ v3_4.toInt.toNat = 5 ∨ v3_4.toInt.toNat = 6 ∨ v3_4.toInt.toNat = 7 by omega) with e9 | e9 | e9 | e9 | e9 | e9 | e9 | e9 <;> rw [e9] <;> rfl))).mpr q)
          refine tz_eq (p2 := 31) rfl rfl (show Int32.toInt 0 = 0 from rfl) (fun c17 => ?_) (fun c17 => absurd c17 (by omega))
          refine ar_inc (p2 := 75) (x := v3_4) rfl rfl (by decide) rfl (by decide) rfl (by omega) (by omega) (fun z18 e18 f18 => ?_)
          show EvP _ _ _ (75, [(4, .int z18), (0, .ref 93), (1, .int c), (2, .int shells), (3, .int v3_3)], [], h3) _
          refine te_goto rfl ?_
          refine te_lv [(0, .ref 93), (1, .int c), (2, .int shells), (3, .int v3_3), (4, .int z18)] rfl rfl ⟨rfl, rfl, rfl, rfl, rfl, trivial⟩ ?_
          exact ih3 v3_3 z18 h3 I3 f3 (by omega) (by omega) (by omega) (by omega) (by omega) (by rw [show z18.toInt.toNat = v3_4.toInt.toNat + 1 by omega, tf_n (P := (fun r => ovc h r c)) (s := (fun r => (rv h 88 r).toInt)) oh5, ← w3_0]) (fd_n (k := v3_4.toInt.toNat) w3_1 (by omega) (by omega) oh5 (W88 _ (by omega))) ⟨w3_2.1, fun m hm => (w3_2.2 m hm)⟩ (by omega)
  refine te_lv [(0, .ref 93), (1, .int c), (2, .int shells), (3, .int shells), (4, .int 0)] rfl rfl ⟨rfl, rfl, rfl, rfl, rfl, trivial⟩ ?_
  exact lp3 9 shells 0 h2 I2 f2 (by omega) (by omega) (by decide) (by decide) (by have cc0 := (show Int32.toInt 0 = 0 from rfl); omega) rfl ⟨fun k hk => absurd hk (by (have := (show Int32.toInt 0 = 0 from rfl)); omega), fun k _ => ⟨(u2.2 _ _ (Or.inl (by omega))), (u2.2 _ _ (Or.inl (by omega)))⟩⟩ ⟨u2.1, fun m hm => u2.2 _ _ (Or.inr hm)⟩ (by have cc0 := (show Int32.toInt 0 = 0 from rfl); omega)
abbrev Q1_probe (x1 x2 : Int32) (y : Int32) (h h2 : im_H) : Prop := ∃ p : Int32, rd h 77 0 = some (.int p) ∧ ((0 ≤ x1.toInt ∧ x1.toInt ≤ 99 ∧ 0 ≤ x2.toInt ∧ x2.toInt ≤ 9 ∧ (rv h 90 x1.toInt.toNat).toInt = 0 ∧ x2.toInt ≤ smP (fun r => ovc h r x1) (fun r => (rv h 88 r).toInt) p.toInt.toNat) → y.toInt = smP (fun r => ovc h2 r x1) (fun r => (rv h2 88 r).toInt) p.toInt.toNat ∧ fdG h h2 x1 x2 p.toInt ∧ rd h2 90 x1.toInt.toNat = some (.int 1) ∧ ∀ m, m ≠ x1.toInt.toNat → rd h2 90 m = rd h 90 m) ∧ (¬ (0 ≤ x1.toInt ∧ x1.toInt ≤ 99 ∧ 0 ≤ x2.toInt ∧ x2.toInt ≤ 9 ∧ (rv h 90 x1.toInt.toNat).toInt = 0 ∧ x2.toInt ≤ smP (fun r => ovc h r x1) (fun r => (rv h 88 r).toInt) p.toInt.toNat) → y = prT x1 x2 (rv h 90 x1.toInt.toNat) ∧ h2 = h)
set_option maxRecDepth 20000 in
set_option maxHeartbeats 4000000 in
theorem c_X11_probe {x1 : Int32} {x2 : Int32} {h : im_H} (hI : tI h)  : CaP 4 93 [.ref 16, .int x1, .int x2] h (fun v h2 => tI h2 ∧ fr F_X11_probe h h2 ∧ ∃ y : Int32, v = some (.int y) ∧ Q1_probe x1 x2 y h h2) := by
  refine cap_of (d := 3) (M := mX11_probe) rfl (Nat.le_of_ble_eq_true rfl) ?_
  show EvP im_K0 3 mX11_probe (0, [(0, .ref 16), (1, .int x1), (2, .int x2)], [], h) _
  have f0 : fr F_X11_probe h h := fr_rf
  refine te_iload_n (p2 := 1) rfl rfl rfl ?_
  refine te_bipush (p2 := 3) (x := 100) rfl rfl (by decide) ?_
  refine cS_pI (p2 := 6) rfl rfl rfl rfl (t_X11_within (n := x1) (b := 100) hI ) (by decide) (fun y1 r1 => ?_)
  rcases r1 with ⟨w1, c1⟩ | ⟨w1, c1⟩
  · subst w1
    have cc1_1 := (show Int32.toInt 100 = 100 from rfl)
    refine tz_ne (p2 := 9) rfl rfl (show Int32.toInt 1 = 1 from rfl) (fun c2 => ?_) (fun c2 => absurd c2 (by omega))
    refine te_iload_n (p2 := 12) rfl rfl rfl ?_
    refine te_iconst (p2 := 13) (x := 0) rfl rfl (by decide) ?_
    refine te_bipush (p2 := 15) (x := 9) rfl rfl (by decide) ?_
    refine cS_pI (p2 := 18) rfl rfl rfl rfl (t_X11_between (n := x2) (a := 0) (b := 9) hI ) (by decide) (fun y3 r3 => ?_)
    rcases r3 with ⟨w3, c3⟩ | ⟨w3, c3⟩
    · subst w3
      have cc3_1 := (show Int32.toInt 0 = 0 from rfl)
      have cc3_2 := (show Int32.toInt 9 = 9 from rfl)
      refine tz_ne (p2 := 21) rfl rfl (show Int32.toInt 1 = 1 from rfl) (fun c4 => ?_) (fun c4 => absurd c4 (by omega))
      refine te_aload_n (p2 := 25) rfl rfl rfl ?_
      refine tg_r (p2 := 28) (i := 0) (r := 93) rfl rfl hI rfl rfl rfl ?_
      refine tg_r (p2 := 31) (i := 77) (r := 106) rfl rfl hI rfl rfl rfl ?_
      refine te_iload_n (p2 := 32) rfl rfl rfl ?_
      refine tl_b (p2 := 33) (i := 90) (n := 100) rfl rfl hI rfl rfl rfl rfl (by omega) (by omega) (fun y5 a5 e5 => ?_)
      refine tz_eq (p2 := 36) rfl rfl rfl (fun c6 => ?_) (fun c6 => ?_)
      · refine te_iload_n (p2 := 40) rfl rfl rfl ?_
        refine te_aload_n (p2 := 41) rfl rfl rfl ?_
        refine tg_r (p2 := 44) (i := 0) (r := 93) rfl rfl hI rfl rfl rfl ?_
        refine te_iload_n (p2 := 45) rfl rfl rfl ?_
        refine cV_pI (p2 := 48) (i := 77) rfl rfl rfl rfl hI rfl rfl rfl (c_X4_leftOver (c := x1) hI ) (by decide) (fun y7 r7 => ?_)
        obtain ⟨p7, e7, a7, b7, w7⟩ := r7
        refine tb_le (p2 := 51) rfl rfl rfl rfl (fun c8 => ?_) (fun c8 => ?_)
        · refine te_aload_n (p2 := 55) rfl rfl rfl ?_
          refine tg_r (p2 := 58) (i := 0) (r := 93) rfl rfl hI rfl rfl rfl ?_
          refine te_iload_n (p2 := 59) rfl rfl rfl ?_
          refine te_iload_n (p2 := 60) rfl rfl rfl ?_
          refine tc_V (p2 := 63) (i := 77) rfl rfl rfl rfl hI rfl rfl rfl (c_X4_find (c := x1) (shells := x2) hI (by omega) (by omega) (by omega) (by omega)) (by decide) (fun v9 h9 hq9 => ?_)
          obtain ⟨I9, g9, w9, p9, e9, Q9⟩ := hq9
          subst w9
          rw [int_inj e9 e7] at Q9
          have f9 := fr_tr (F1 := F_X4_find) (F := F_X11_probe) f0 g9 (by decide)
          show EvP _ _ _ (63, [(0, .ref 16), (1, .int x1), (2, .int x2)], [], h9) _
          refine te_aload_n (p2 := 64) rfl rfl rfl ?_
          refine tg_r (p2 := 67) (i := 0) (r := 93) rfl rfl I9 rfl rfl rfl ?_
          refine te_iload_n (p2 := 68) rfl rfl rfl ?_
          refine cV_pI (p2 := 71) (i := 77) rfl rfl rfl rfl I9 rfl rfl rfl (c_X4_leftOver (c := x1) I9 ) (by decide) (fun y10 r10 => ?_)
          obtain ⟨p10, e10, a10, b10, w10⟩ := r10
          have x10 : p10 = p7 := int_inj e10 ((g9 _ _ (by decide)).trans e7)
          rw [x10] at w10
          exact te_iret rfl rfl ⟨I9, f9, _, rfl, p7, e7, (fun _ => ⟨w10, Q9⟩), (fun g => absurd (⟨by omega, by omega, by omega, by omega, by rw [rv_of e5]; omega, by rw [← w7]; omega⟩) g)⟩
        · refine te_bipush (p2 := 53) (x := (-6)) rfl rfl (by decide) ?_
          exact te_iret rfl rfl ⟨hI, f0, _, rfl, p7, e7, (fun g => absurd g.2.2.2.2.2 (by rw [← w7]; omega)), (fun _ => ⟨(by unfold prT; rw [rv_of e5]; (repeat' split) <;> first | (exfalso; omega) | rfl), rfl⟩)⟩
      · refine te_bipush (p2 := 38) (x := (-3)) rfl rfl (by decide) ?_
        obtain ⟨v11, e11, y11, w11, a11, b11, _⟩ := hI.2.1 77 0 (.inl (0, 8, 9999999999)) rfl
        subst w11
        exact te_iret rfl rfl ⟨hI, f0, _, rfl, y11, e11, (fun g => absurd g (by rw [rv_of e5]; omega)), (fun _ => ⟨(by unfold prT; rw [rv_of e5]; (repeat' split) <;> first | (exfalso; omega) | rfl), rfl⟩)⟩
    · subst w3
      have cc3_1 := (show Int32.toInt 0 = 0 from rfl)
      have cc3_2 := (show Int32.toInt 9 = 9 from rfl)
      refine tz_ne (p2 := 21) rfl rfl (show Int32.toInt 0 = 0 from rfl) (fun c12 => absurd c12 (by omega)) (fun c12 => ?_)
      refine te_bipush (p2 := 23) (x := (-2)) rfl rfl (by decide) ?_
      obtain ⟨v13, e13, y13, w13, a13, b13, _⟩ := hI.2.1 77 0 (.inl (0, 8, 9999999999)) rfl
      subst w13
      exact te_iret rfl rfl ⟨hI, f0, _, rfl, y13, e13, (fun g => absurd g (by omega)), (fun _ => ⟨(by unfold prT; (repeat' split) <;> first | (exfalso; omega) | rfl), rfl⟩)⟩
  · subst w1
    have cc1_1 := (show Int32.toInt 100 = 100 from rfl)
    refine tz_ne (p2 := 9) rfl rfl (show Int32.toInt 0 = 0 from rfl) (fun c14 => absurd c14 (by omega)) (fun c14 => ?_)
    refine te_iconst (p2 := 10) (x := (-1)) rfl rfl (by decide) ?_
    obtain ⟨v15, e15, y15, w15, a15, b15, _⟩ := hI.2.1 77 0 (.inl (0, 8, 9999999999)) rfl
    subst w15
    exact te_iret rfl rfl ⟨hI, f0, _, rfl, y15, e15, (fun g => absurd g (by omega)), (fun _ => ⟨(by unfold prT; (repeat' split) <;> first | (exfalso; omega) | rfl), rfl⟩)⟩
theorem ovh_fr {h H : im_H} {r : Nat} {c : Int32} (f : fr F_X12_probe h H) : ovh H r c ↔ ovh h r c := by
  unfold ovh
  have e1 : rv H 173 r = rv h 173 r := by unfold rv; rw [f _ _ rfl]
  have e2 : rv H 174 r = rv h 174 r := by unfold rv; rw [f _ _ rfl]
  have e3 : rv H 175 r = rv h 175 r := by unfold rv; rw [f _ _ rfl]
  rw [e1, e2, e3]
abbrev Q2_probe (x1 x2 : Int32) (y : Int32) (h h2 : im_H) : Prop := ∃ p : Int32, rd h 148 29 = some (.int p) ∧ ((0 ≤ x1.toInt ∧ x1.toInt ≤ 99 ∧ 0 ≤ x2.toInt ∧ x2.toInt ≤ 9 ∧ (rv h 177 x1.toInt.toNat).toInt = 0 ∧ x2.toInt ≤ sumL h x1 p.toInt.toNat) → y.toInt = sumL h2 x1 p.toInt.toNat ∧ shG h h2 x1 x2.toInt p.toInt ∧ rd h2 177 x1.toInt.toNat = some (.int 1) ∧ ∀ m, m ≠ x1.toInt.toNat → rd h2 177 m = rd h 177 m) ∧ (¬ (0 ≤ x1.toInt ∧ x1.toInt ≤ 99 ∧ 0 ≤ x2.toInt ∧ x2.toInt ≤ 9 ∧ (rv h 177 x1.toInt.toNat).toInt = 0 ∧ x2.toInt ≤ sumL h x1 p.toInt.toNat) → y = prT x1 x2 (rv h 177 x1.toInt.toNat) ∧ h2 = h)
set_option maxRecDepth 20000 in
set_option maxHeartbeats 4000000 in
theorem c_X12_probe {x1 : Int32} {x2 : Int32} {h : im_H} (hI : tI h)  : CaP 4 178 [.ref 164, .int x1, .int x2] h (fun v h2 => tI h2 ∧ fr F_X12_probe h h2 ∧ ∃ y : Int32, v = some (.int y) ∧ Q2_probe x1 x2 y h h2) := by
  refine cap_of (d := 3) (M := mX12_probe) rfl (Nat.le_of_ble_eq_true rfl) ?_
  show EvP im_K0 3 mX12_probe (0, [(0, .ref 164), (1, .int x1), (2, .int x2)], [], h) _
  have f0 : fr F_X12_probe h h := fr_rf
  refine te_iload_n (p2 := 1) rfl rfl rfl ?_
  obtain ⟨v1, e1, y1, w1, a1, b1, _⟩ := hI.2.1 148 29 (.inl (0, 8, 9999999999)) rfl
  subst w1
  have W176 : ∀ k : Nat, k < 8 → ∃ z : Int32, rd h 176 k = some (.int z) ∧ 0 ≤ z.toInt := fun k hk => by (obtain ⟨_, e1, k1, w1, a1, _⟩ := hI.2.1 176 k (.inl (0, 9, 9999999999)) (tq_row rfl (by omega))); subst w1; exact ⟨k1, e1, a1⟩
  have HS : ∀ k : Nat, (k : Int) < y1.toInt → 0 ≤ (rv h 176 k).toInt := fun k hk => by (obtain ⟨z, e1, h1⟩ := W176 k (by omega)); rw [rv_of e1]; exact h1
  refine cS_pI (p2 := 4) rfl rfl rfl rfl (t_X12_isCell (n := x1) hI ) (by decide) (fun y2 r2 => ?_)
  rcases r2 with ⟨w2, c2⟩ | ⟨w2, c2⟩
  · subst w2
    refine tz_ne (p2 := 7) rfl rfl (show Int32.toInt 1 = 1 from rfl) (fun c3 => ?_) (fun c3 => absurd c3 (by omega))
    refine te_iload_n (p2 := 10) rfl rfl rfl ?_
    refine te_iconst (p2 := 11) (x := 0) rfl rfl (by decide) ?_
    refine te_bipush (p2 := 13) (x := 9) rfl rfl (by decide) ?_
    refine cS_pI (p2 := 16) rfl rfl rfl rfl (t_X12_in (n := x2) (a := 0) (b := 9) hI ) (by decide) (fun y4 r4 => ?_)
    rcases r4 with ⟨w4, c4⟩ | ⟨w4, c4⟩
    · subst w4
      have cc4_1 := (show Int32.toInt 0 = 0 from rfl)
      have cc4_2 := (show Int32.toInt 9 = 9 from rfl)
      refine tz_ne (p2 := 19) rfl rfl (show Int32.toInt 1 = 1 from rfl) (fun c5 => ?_) (fun c5 => absurd c5 (by omega))
      refine te_aload_n (p2 := 23) rfl rfl rfl ?_
      refine tg_r (p2 := 26) (i := 148) (r := 193) rfl rfl hI rfl rfl rfl ?_
      refine te_iload_n (p2 := 27) rfl rfl rfl ?_
      refine tl_b (p2 := 28) (i := 177) (n := 100) rfl rfl hI rfl rfl rfl rfl (by omega) (by omega) (fun y6 a6 e6 => ?_)
      refine tz_eq (p2 := 31) rfl rfl rfl (fun c7 => ?_) (fun c7 => ?_)
      · refine te_iload_n (p2 := 35) rfl rfl rfl ?_
        refine te_aload_n (p2 := 36) rfl rfl rfl ?_
        refine te_iload_n (p2 := 37) rfl rfl rfl ?_
        refine cV_pI (p2 := 40) (i := 148) rfl rfl rfl rfl hI rfl rfl rfl (t_X12_leftOver (c := x1) hI) (by decide) (fun y8 r8 => ?_)
        obtain ⟨p8, e8, a8, b8, w8⟩ := r8
        have x8 : p8 = y1 := int_inj e8 e1
        rw [x8] at w8
        refine tb_le (p2 := 43) rfl rfl rfl rfl (fun c9 => ?_) (fun c9 => ?_)
        · refine te_aload_n (p2 := 47) rfl rfl rfl ?_
          refine tg_r (p2 := 50) (i := 148) (r := 193) rfl rfl hI rfl rfl rfl ?_
          refine te_iload_n (p2 := 51) rfl rfl rfl ?_
          refine te_iconst (p2 := 52) (x := 1) rfl rfl (by decide) ?_
          refine ts_b (p2 := 53) (i := 177) (n := 100) rfl rfl hI rfl rfl rfl rfl (by omega) (by omega) (by decide) (by decide) rfl (fun h10 I10 u10 => ?_)
          have f10 := fr_st (F := F_X12_probe) 1 f0 u10 rfl (by omega) (by omega)
          refine te_iconst (p2 := 54) (x := 0) rfl rfl (by decide) ?_
          refine te_istore_n (p2 := 55) (lv2 := [(3, .int 0), (0, .ref 164), (1, .int x1), (2, .int x2)]) rfl rfl (by decide) rfl ?_
          have lp11 : ∀ (n11 : Nat) (v11_3 t11_p : Int32) (h11 : im_H), tI h11 → fr F_X12_probe h h11 → 0 ≤ v11_3.toInt → v11_3.toInt ≤ 9 → rd h11 148 29 = some (.int t11_p) → 0 ≤ t11_p.toInt → t11_p.toInt ≤ 8 → v11_3.toInt ≤ x2.toInt → t11_p.toInt = y1.toInt → x2.toInt - v11_3.toInt ≤ sumL h11 x1 t11_p.toInt.toNat → (shG h h11 x1 v11_3.toInt y1.toInt) → (rd h11 177 x1.toInt.toNat = some (.int 1) ∧ ∀ m, m ≠ x1.toInt.toNat → rd h11 177 m = rd h 177 m) → x2.toInt - v11_3.toInt < (n11 : Int) → EvP im_K0 3 mX12_probe (55, [(0, .ref 164), (1, .int x1), (2, .int x2), (3, .int v11_3)], [], h11) (fun v h2 => tI h2 ∧ fr F_X12_probe h h2 ∧ ∃ y : Int32, v = some (.int y) ∧ Q2_probe x1 x2 y h h2) := by
            intro n11
            induction n11 with
            | zero => intro v11_3 t11_p h11 I11 f11 a11_3 b11_3 v11_p va11_p vb11_p l11_0 l11_1 w11_0 w11_1 w11_2 m11; exfalso; omega
            | succ n11 ih11 =>
              intro v11_3 t11_p h11 I11 f11 a11_3 b11_3 v11_p va11_p vb11_p l11_0 l11_1 w11_0 w11_1 w11_2 m11
              refine te_iload_n (p2 := 56) rfl rfl rfl ?_
              refine te_iload_n (p2 := 57) rfl rfl rfl ?_
              refine tb_ge (p2 := 60) rfl rfl rfl rfl (fun c12 => ?_) (fun c12 => ?_)
              · refine te_aload_n (p2 := 107) rfl rfl rfl ?_
                refine te_iload_n (p2 := 108) rfl rfl rfl ?_
                refine cV_pI (p2 := 111) (i := 148) rfl rfl rfl rfl I11 rfl rfl rfl (t_X12_leftOver (c := x1) I11) (by decide) (fun y13 r13 => ?_)
                obtain ⟨p13, e13, a13, b13, w13⟩ := r13
                have x13 : p13 = t11_p := int_inj e13 v11_p
                rw [x13] at w13
                exact te_iret rfl rfl ⟨I11, f11, _, rfl, y1, e1, (fun _ => ⟨(by rw [show y1.toInt.toNat = t11_p.toInt.toNat by omega]; exact w13), (by rw [show x2.toInt = v11_3.toInt by omega]; exact w11_1), w11_2.1, w11_2.2⟩), (fun g => absurd (⟨by omega, by omega, by omega, by omega, by rw [rv_of e6]; omega, by rw [← w8]; omega⟩) g)⟩
              · refine te_iconst (p2 := 61) (x := 0) rfl rfl (by decide) ?_
                refine te_istore (p2 := 63) (lv2 := [(4, .int 0), (0, .ref 164), (1, .int x1), (2, .int x2), (3, .int v11_3)]) rfl rfl (by decide) rfl ?_
                have lp14 : ∀ (n14 : Nat) (v14_4 : Int32) , 0 ≤ v14_4.toInt → v14_4.toInt ≤ 8 → v14_4.toInt ≤ t11_p.toInt → sumL h11 x1 v14_4.toInt.toNat = 0 → (∀ m, m < v14_4.toInt.toNat → ovh h m x1 → (rv h11 176 m).toInt = 0) → 8 - v14_4.toInt < (n14 : Int) → EvP im_K0 3 mX12_probe (63, [(0, .ref 164), (1, .int x1), (2, .int x2), (3, .int v11_3), (4, .int v14_4)], [], h11) (fun v h2 => tI h2 ∧ fr F_X12_probe h h2 ∧ ∃ y : Int32, v = some (.int y) ∧ Q2_probe x1 x2 y h h2) := by
                  intro n14
                  induction n14 with
                  | zero => intro v14_4 a14_4 b14_4 l14_0 w14_0 w14_1 m14; exfalso; omega
                  | succ n14 ih14 =>
                    intro v14_4 a14_4 b14_4 l14_0 w14_0 w14_1 m14
                    refine te_aload_n (p2 := 64) rfl rfl rfl ?_
                    have lt15 : v14_4.toInt < t11_p.toInt := Classical.byContradiction (fun hn => by (have e : t11_p.toInt.toNat = v14_4.toInt.toNat := (by omega)); rw [e] at w11_0; omega)
                    refine te_iload (p2 := 66) rfl rfl rfl ?_
                    refine te_iload_n (p2 := 67) rfl rfl rfl ?_
                    refine cV_pI (p2 := 70) (i := 148) rfl rfl rfl rfl I11 rfl rfl rfl (t_X12_isOver (r := v14_4) (c := x1) I11 (by omega) (by omega)) (by decide) (fun y16 r16 => ?_)
                    rcases r16 with ⟨w16, ov16⟩ | ⟨w16, ov16⟩
                    · subst w16
                      refine tz_eq (p2 := 73) rfl rfl (show Int32.toInt 1 = 1 from rfl) (fun c17 => absurd c17 (by omega)) (fun c17 => ?_)
                      refine te_aload_n (p2 := 74) rfl rfl rfl ?_
                      refine tg_r (p2 := 77) (i := 148) (r := 192) rfl rfl I11 rfl rfl rfl ?_
                      refine te_iload (p2 := 79) rfl rfl rfl ?_
                      refine tl_i (p2 := 80) (i := 176) (n := 8) rfl rfl I11 rfl rfl rfl rfl (by omega) (by omega) (fun y18 a18 b18 g18 e18 => ?_)
                      refine tz_ne (p2 := 83) rfl rfl rfl (fun c19 => ?_) (fun c19 => ?_)
                      · refine te_aload_n (p2 := 90) rfl rfl rfl ?_
                        refine tg_r (p2 := 93) (i := 148) (r := 192) rfl rfl I11 rfl rfl rfl ?_
                        refine te_iload (p2 := 95) rfl rfl rfl ?_
                        refine te_dup2 (p2 := 96) rfl rfl ⟨rfl, rfl⟩ ?_
                        refine tl_e (p2 := 97) (i := 176) (n := 8) (t := 0) (Or.inl rfl) rfl rfl I11 rfl rfl (by omega) (by omega) e18 ?_
                        refine te_iconst (p2 := 98) (x := 1) rfl rfl (by decide) ?_
                        refine ar_sub (p2 := 99) rfl rfl rfl (show Int32.toInt 1 = 1 from rfl) (by omega) (by omega) (fun z21 e21 f21 => ?_)
                        refine ts_i (p2 := 100) (i := 176) (n := 8) rfl rfl I11 rfl rfl rfl rfl (by omega) (by omega) (by omega) (by omega) (by omega) rfl (fun h22 I22 u22 => ?_)
                        have f22 := fr_st (F := F_X12_probe) 0 f11 u22 rfl (by omega) (by omega)
                        refine ar_inc (p2 := 103) (x := v11_3) rfl rfl (by decide) rfl (by decide) rfl (by omega) (by omega) (fun z23 e23 f23 => ?_)
                        show EvP _ _ _ (103, [(3, .int z23), (0, .ref 164), (1, .int x1), (2, .int x2), (4, .int v14_4)], [], h22) _
                        refine te_goto rfl ?_
                        refine te_lv [(0, .ref 164), (1, .int x1), (2, .int x2), (3, .int z23)] rfl rfl ⟨rfl, rfl, rfl, rfl, trivial⟩ ?_
                        exact ih11 z23 t11_p h22 I22 f22 (by omega) (by omega) ((u22.2 _ _ (Or.inl (by decide))).trans v11_p) (by omega) (by omega) (by omega) (by omega) (by rw [(sumL_dec u22 e18 f21 ov16 t11_p.toInt.toNat).2 (by omega)]; omega) (sh_s (r := v14_4.toInt.toNat) w11_1 (by omega) (by omega) (by omega) HS w14_1 ((ovh_fr f11).mp ov16) e18 (by omega) u22 f21) ⟨((u22.2 _ _ (Or.inl (by omega))).trans w11_2.1), fun m hm => ((u22.2 _ _ (Or.inl (by omega))).trans (w11_2.2 m hm))⟩ (by omega)
                      · refine ar_inc (p2 := 86) (x := v14_4) rfl rfl (by decide) rfl (by decide) rfl (by omega) (by omega) (fun z24 e24 f24 => ?_)
                        show EvP _ _ _ (86, [(4, .int z24), (0, .ref 164), (1, .int x1), (2, .int x2), (3, .int v11_3)], [], h11) _
                        refine te_goto rfl ?_
                        refine te_lv [(0, .ref 164), (1, .int x1), (2, .int x2), (3, .int v11_3), (4, .int z24)] rfl rfl ⟨rfl, rfl, rfl, rfl, rfl, trivial⟩ ?_
                        exact ih14 z24 (by omega) (by omega) (by omega) (by rw [show z24.toInt.toNat = v14_4.toInt.toNat + 1 by omega, sumL_s, trm_1 ov16 e18]; omega) (fun m hm ho => by (by_cases hc : m = v14_4.toInt.toNat); (· rw [hc, rv_of e18]; omega); (· exact w14_1 m (by omega) ho)) (by omega)
                    · subst w16
                      refine tz_eq (p2 := 73) rfl rfl (show Int32.toInt 0 = 0 from rfl) (fun c25 => ?_) (fun c25 => absurd c25 (by omega))
                      refine ar_inc (p2 := 86) (x := v14_4) rfl rfl (by decide) rfl (by decide) rfl (by omega) (by omega) (fun z26 e26 f26 => ?_)
                      show EvP _ _ _ (86, [(4, .int z26), (0, .ref 164), (1, .int x1), (2, .int x2), (3, .int v11_3)], [], h11) _
                      refine te_goto rfl ?_
                      refine te_lv [(0, .ref 164), (1, .int x1), (2, .int x2), (3, .int v11_3), (4, .int z26)] rfl rfl ⟨rfl, rfl, rfl, rfl, rfl, trivial⟩ ?_
                      exact ih14 z26 (by omega) (by omega) (by omega) (by rw [show z26.toInt.toNat = v14_4.toInt.toNat + 1 by omega, sumL_s, trm_0 ov16]; omega) (fun m hm ho => by (by_cases hc : m = v14_4.toInt.toNat); (· rw [hc] at ho; exact absurd ((ovh_fr f11).mpr ho) ov16); (· exact w14_1 m (by omega) ho)) (by omega)
                refine te_lv [(0, .ref 164), (1, .int x1), (2, .int x2), (3, .int v11_3), (4, .int 0)] rfl rfl ⟨rfl, rfl, rfl, rfl, rfl, trivial⟩ ?_
                exact lp14 9 0 (by decide) (by decide) (by have cc0 := (show Int32.toInt 0 = 0 from rfl); omega) rfl (fun m hm => absurd hm (Nat.not_lt_zero m)) (by have cc0 := (show Int32.toInt 0 = 0 from rfl); omega)
          refine te_lv [(0, .ref 164), (1, .int x1), (2, .int x2), (3, .int 0)] rfl rfl ⟨rfl, rfl, rfl, rfl, trivial⟩ ?_
          exact lp11 10 0 y1 h10 I10 f10 (by decide) (by decide) ((u10.2 _ _ (Or.inl (by decide))).trans e1) (by omega) (by omega) (by have cc0 := (show Int32.toInt 0 = 0 from rfl); omega) (by have cc0 := (show Int32.toInt 0 = 0 from rfl); omega) (by rw [sumL_up u10 (by decide) (by decide) (by decide) (by decide)]; rw [show Int32.toInt 0 = 0 from rfl]; omega) ⟨fun k hk => (by (obtain ⟨z, e1, h1⟩ := W176 k (by omega)); exact ⟨z, ((u10.2 _ _ (Or.inl (by omega))).trans e1), by rw [show Int32.toInt 0 = 0 from rfl, nsh_0 k (fun i hi => HS i (by omega)), rv_of e1]⟩), fun k _ => (u10.2 _ _ (Or.inl (by omega)))⟩ ⟨u10.1, fun m hm => u10.2 _ _ (Or.inr hm)⟩ (by have cc0 := (show Int32.toInt 0 = 0 from rfl); omega)
        · refine te_bipush (p2 := 45) (x := (-6)) rfl rfl (by decide) ?_
          exact te_iret rfl rfl ⟨hI, f0, _, rfl, y1, e1, (fun g => absurd g.2.2.2.2.2 (by rw [← w8]; omega)), (fun _ => ⟨(by unfold prT; rw [rv_of e6]; (repeat' split) <;> first | (exfalso; omega) | rfl), rfl⟩)⟩
      · refine te_bipush (p2 := 33) (x := (-3)) rfl rfl (by decide) ?_
        exact te_iret rfl rfl ⟨hI, f0, _, rfl, y1, e1, (fun g => absurd g (by rw [rv_of e6]; omega)), (fun _ => ⟨(by unfold prT; rw [rv_of e6]; (repeat' split) <;> first | (exfalso; omega) | rfl), rfl⟩)⟩
    · subst w4
      have cc4_1 := (show Int32.toInt 0 = 0 from rfl)
      have cc4_2 := (show Int32.toInt 9 = 9 from rfl)
      refine tz_ne (p2 := 19) rfl rfl (show Int32.toInt 0 = 0 from rfl) (fun c27 => absurd c27 (by omega)) (fun c27 => ?_)
      refine te_bipush (p2 := 21) (x := (-2)) rfl rfl (by decide) ?_
      exact te_iret rfl rfl ⟨hI, f0, _, rfl, y1, e1, (fun g => absurd g (by omega)), (fun _ => ⟨(by unfold prT; (repeat' split) <;> first | (exfalso; omega) | rfl), rfl⟩)⟩
  · subst w2
    refine tz_ne (p2 := 7) rfl rfl (show Int32.toInt 0 = 0 from rfl) (fun c28 => absurd c28 (by omega)) (fun c28 => ?_)
    refine te_iconst (p2 := 8) (x := (-1)) rfl rfl (by decide) ?_
    exact te_iret rfl rfl ⟨hI, f0, _, rfl, y1, e1, (fun g => absurd g (by omega)), (fun _ => ⟨(by unfold prT; (repeat' split) <;> first | (exfalso; omega) | rfl), rfl⟩)⟩
