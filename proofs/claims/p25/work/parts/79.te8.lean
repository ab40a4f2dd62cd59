theorem tt_ok {b : Int → Int32} {a : Int} {t : Nat} (h : (t : Int) < (ttR b a).1) : tsO b (ut b a t) := by
  unfold ttR at h
  by_cases c1 : tsO b a
  · rw [if_neg (fun q => q c1)] at h
    by_cases c2 : sc b (tsP b a)
    · rw [if_pos c2] at h
      have h9 : (t : Int) < 1 := h
      obtain rfl : t = 0 := by omega
      exact c1
    · rw [if_neg c2] at h
      by_cases c3 : am b (tsP b a)
      · rw [if_neg (fun q => q c3)] at h
        by_cases c4 : tsO b (tu2 b a)
        · rw [if_neg (fun q => q c4)] at h
          by_cases c5 : sc b (tsP b (tu2 b a))
          · rw [if_pos c5] at h
            have h9 : (t : Int) < 2 := h
            rcases (show t = 0 ∨ t = 1 by omega) with rfl | rfl
            · exact c1
            · exact c4
          · rw [if_neg c5] at h
            by_cases c6 : am b (tsP b (tu2 b a))
            · rw [if_neg (fun q => q c6)] at h
              by_cases c7 : tsO b (tu3 b a)
              · rw [if_neg (fun q => q c7)] at h
                have h9 : (t : Int) < 3 := by
                  by_cases c8 : sc b (tsP b (tu3 b a))
                  · rw [if_pos c8] at h; exact h
                  · rw [if_neg c8] at h; have : (t : Int) < -1 := h; omega
                rcases (show t = 0 ∨ t = 1 ∨ t = 2 by omega) with rfl | rfl | rfl
                · exact c1
                · exact c4
                · exact c7
              · rw [if_pos c7] at h; have h9 : (t : Int) < -1 := h; omega
            · rw [if_pos c6] at h; have h9 : (t : Int) < -1 := h; omega
        · rw [if_pos c4] at h; have h9 : (t : Int) < -1 := h; omega
      · rw [if_pos c3] at h; have h9 : (t : Int) < -1 := h; omega
  · rw [if_pos c1] at h; have h9 : (t : Int) < -1 := h; omega
theorem ln_ok {b : Int → Int32} {a : Int} (h : 0 ≤ (lnR b a).1) : 0 ≤ (lnN b a).1 ∧ ∀ t : Nat, (t : Int) < (lnR b a).1 → tsO b (ut b (lnE b a + 4) t) := by
  unfold lnR at h ⊢
  by_cases c1 : lnH b a
  · rw [if_neg (fun q => q c1)] at h ⊢
    by_cases c2 : (lnN b a).1 < 0
    · rw [if_pos c2] at h; have h9 : (0 : Int) ≤ -1 := h; omega
    · rw [if_neg c2] at h ⊢
      refine ⟨by omega, fun t ht => ?_⟩
      by_cases c3 : sc b (lnE b a)
      · rw [if_pos c3] at ht; have h9 : (t : Int) < 0 := ht; omega
      · rw [if_neg c3] at ht
        by_cases c4 : lnI b a
        · rw [if_neg (fun q => q c4)] at ht; exact tt_ok ht
        · rw [if_pos c4] at ht; have h9 : (t : Int) < -1 := ht; omega
  · rw [if_pos c1] at h; have h9 : (0 : Int) ≤ -1 := h; omega
theorem or_ok {b : Int → Int32} {N : Int} : ∀ (r i : Nat), 0 ≤ (orR b N r i (lnS b i)).1 → ∀ l : Nat, i ≤ l → (l : Int) < (orR b N r i (lnS b i)).1 → 0 ≤ (lnR b (lnS b l)).1
  | 0, i, h, l, _, _ => by have h9 : (0 : Int) ≤ -1 := h; omega
  | r + 1, i, h, l, h0, h1 => by
    have e : orR b N (r + 1) i (lnS b i) = if (lnR b (lnS b i)).1 < 0 then (-1, (lnR b (lnS b i)).2) else if (lnR b (lnS b i)).2 = N then ((i : Int) + 1, N) else orR b N r ((i : Int) + 1) (lnR b (lnS b i)).2 := rfl
    rw [e] at h h1
    by_cases c1 : (lnR b (lnS b i)).1 < 0
    · rw [if_pos c1] at h; have h9 : (0 : Int) ≤ -1 := h; omega
    · rw [if_neg c1] at h h1
      by_cases hl : l = i
      · subst hl; omega
      · by_cases c2 : (lnR b (lnS b i)).2 = N
        · rw [if_pos c2] at h1
          have h9 : (l : Int) < (i : Int) + 1 := h1
          omega
        · rw [if_neg c2] at h h1
          have e2 : orR b N r ((i : Int) + 1) (lnR b (lnS b i)).2 = orR b N r ((i + 1 : Nat) : Int) (lnS b (i + 1)) := rfl
          rw [e2] at h h1
          exact or_ok r (i + 1) h l (by omega) h1
def lnEq (h : im_H) (q l : Nat) : Prop := rv h (99 + 7 * q) l = rv h 186 (8 * q + l) ∧ rv h (100 + 7 * q) l = rv h 187 (8 * q + l) ∧ 0 ≤ (rv h 187 (8 * q + l)).toInt ∧ rv h (101 + 7 * q) l = rv h 188 (8 * q + l) ∧ ∀ t : Nat, (t : Int) < (rv h 188 (8 * q + l)).toInt → rv h (102 + 7 * q) (3 * l + t) = fdC (rv h 189 (24 * q + (3 * l + t))) ∧ rv h (103 + 7 * q) (3 * l + t) = sgC (rv h 190 (24 * q + (3 * l + t))) ∧ rv h (104 + 7 * q) (3 * l + t) = rv h 191 (24 * q + (3 * l + t))
def ordE (h : im_H) (q : Nat) : Prop := rv h (98 + 7 * q) 0 = rv h 185 q ∧ ∀ l : Nat, (l : Int) < (rv h 185 q).toInt → lnEq h q l
def rulE (h : im_H) : Prop := ∃ r p : Int32, rd h 0 8 = some (.int r) ∧ rd h 148 47 = some (.int r) ∧ rd h 0 7 = some (.int p) ∧ rd h 148 46 = some (.int p) ∧ -1 ≤ r.toInt ∧ r.toInt < p.toInt ∧ p.toInt ≤ 6 ∧ (r.toInt = -1 → rd h 1 12 = some .null) ∧ (r.toInt ≠ -1 → rd h 1 12 = some (.ref (114 + 7 * r.toInt.toNat))) ∧ ∀ q : Nat, (q : Int) < p.toInt → ordE h q
theorem ordE_e {h H : im_H} {q : Nat} (hq : q < 6) (o : ordE h q) (e1 : ∀ d k, d < 7 → rd H (98 + 7 * q + d) k = rd h (98 + 7 * q + d) k) (e2 : rd H 185 q = rd h 185 q) (e3 : ∀ m, 8 * q ≤ m → m < 8 * q + 8 → rd H 186 m = rd h 186 m ∧ rd H 187 m = rd h 187 m ∧ rd H 188 m = rd h 188 m) (e4 : ∀ m, 24 * q ≤ m → m < 24 * q + 24 → rd H 189 m = rd h 189 m ∧ rd H 190 m = rd h 190 m ∧ rd H 191 m = rd h 191 m) (b : (rv h 185 q).toInt ≤ 8) (b3 : ∀ l, l < 8 → (rv h 188 (8 * q + l)).toInt ≤ 3) : ordE H q := by
  have c0 : rv H (98 + 7 * q) 0 = rv h (98 + 7 * q) 0 := rv_q (e1 0 0 (by decide))
  have cx : ∀ d k, d < 7 → rv H (98 + 7 * q + d) k = rv h (98 + 7 * q + d) k := fun d k hd => rv_q (e1 d k hd)
  have c5 : rv H 185 q = rv h 185 q := rv_q e2
  refine ⟨by rw [c0, c5]; exact o.1, fun l hl => ?_⟩
  rw [c5] at hl
  obtain ⟨a1, a2, a3, a4, a5⟩ := o.2 l hl
  have f := e3 (8 * q + l) (by omega) (by omega)
  unfold lnEq
  rw [show 99 + 7 * q = 98 + 7 * q + 1 by omega, show 100 + 7 * q = 98 + 7 * q + 2 by omega, show 101 + 7 * q = 98 + 7 * q + 3 by omega, show 102 + 7 * q = 98 + 7 * q + 4 by omega, show 103 + 7 * q = 98 + 7 * q + 5 by omega, show 104 + 7 * q = 98 + 7 * q + 6 by omega] at *
  rw [cx 1 l (by decide), cx 2 l (by decide), cx 3 l (by decide), rv_q f.1, rv_q f.2.1, rv_q f.2.2]
  refine ⟨a1, a2, a3, a4, fun t ht => ?_⟩
  have hb := b3 l (by omega)
  have g := e4 (24 * q + (3 * l + t)) (by omega) (by omega)
  rw [cx 4 _ (by decide), cx 5 _ (by decide), cx 6 _ (by decide), rv_q g.1, rv_q g.2.1, rv_q g.2.2]
  exact a5 t ht
theorem rulE_e {h H : im_H} (o : rulE h) (e : ∀ i k, ((i = 0 ∧ (k = 7 ∨ k = 8)) ∨ (i = 1 ∧ k = 12) ∨ (i = 148 ∧ (k = 46 ∨ k = 47)) ∨ (98 ≤ i ∧ i < 140) ∨ (185 ≤ i ∧ i < 192)) → rd H i k = rd h i k) : rulE H := by
  obtain ⟨r, p, a1, a2, a3, a4, a5, a6, a7, a8, a9, a10⟩ := o
  refine ⟨r, p, (e _ _ (by omega)).trans a1, (e _ _ (by omega)).trans a2, (e _ _ (by omega)).trans a3, (e _ _ (by omega)).trans a4, a5, a6, a7, fun q => (e _ _ (by omega)).trans (a8 q), fun q => (e _ _ (by omega)).trans (a9 q), fun q hq => ?_⟩
  obtain ⟨o1, o2⟩ := a10 q hq
  have ev : ∀ i k, ((98 ≤ i ∧ i < 140) ∨ (185 ≤ i ∧ i < 192)) → rv H i k = rv h i k := fun i k hi => rv_q (e i k (by omega))
  refine ⟨by rw [ev _ _ (by omega), ev _ _ (by omega)]; exact o1, fun l hl => ?_⟩
  rw [ev 185 q (by omega)] at hl
  have h9 := o2 l hl
  unfold lnEq at h9 ⊢
  rw [ev 186 _ (by omega), ev 187 _ (by omega), ev 188 _ (by omega), ev (99 + 7 * q) _ (by omega), ev (100 + 7 * q) _ (by omega), ev (101 + 7 * q) _ (by omega)]
  refine ⟨h9.1, h9.2.1, h9.2.2.1, h9.2.2.2.1, fun t ht => ?_⟩
  rw [ev 189 _ (by omega), ev 190 _ (by omega), ev 191 _ (by omega), ev (102 + 7 * q) _ (by omega), ev (103 + 7 * q) _ (by omega), ev (104 + 7 * q) _ (by omega)]
  exact h9.2.2.2.2 t ht
theorem ordS_e {h : im_H} {q : Nat} (o : ordE h q) : odS (odX h (98 + 7 * q)) = odS (odM h q) := by
  funext fc key
  unfold odS
  show sayR (rv h (98 + 7 * q + 1)) (rv h (98 + 7 * q + 2)) (fun l => hld fc (rv h (98 + 7 * q + 4)) (rv h (98 + 7 * q + 5)) (rv h (98 + 7 * q + 6)) (3 * l) (rv h (98 + 7 * q + 3) l).toInt.toNat) key (rv h (98 + 7 * q) 0).toInt.toNat 0 = sayR (fun l => rv h 186 (8 * q + l)) (fun l => rv h 187 (8 * q + l)) (fun l => hld fc (fun t => fdC (rv h 189 (24 * q + t))) (fun t => sgC (rv h 190 (24 * q + t))) (fun t => rv h 191 (24 * q + t)) (3 * l) (rv h 188 (8 * q + l)).toInt.toNat) key (rv h 185 q).toInt.toNat 0
  rw [o.1]
  refine sayR_eq _ _ (fun m _ hm => ?_)
  obtain ⟨a1, a2, a3, a4, a5⟩ := o.2 m (by omega)
  rw [show 98 + 7 * q + 1 = 99 + 7 * q by omega, show 98 + 7 * q + 2 = 100 + 7 * q by omega, show 98 + 7 * q + 3 = 101 + 7 * q by omega, show 98 + 7 * q + 4 = 102 + 7 * q by omega, show 98 + 7 * q + 5 = 103 + 7 * q by omega, show 98 + 7 * q + 6 = 104 + 7 * q by omega]
  refine ⟨a1, a2, ?_⟩
  rw [a4]
  unfold hld
  constructor
  · intro w i hi
    obtain ⟨b1, b2, b3⟩ := a5 i (by omega)
    have h9 := w i hi
    rw [b1, b2, b3] at h9
    exact h9
  · intro w i hi
    obtain ⟨b1, b2, b3⟩ := a5 i (by omega)
    rw [b1, b2, b3]
    exact w i hi
theorem odS_nn {h : im_H} {q : Nat} {fc : Nat → Int32} {key : Int32} (o : ordE h q) : 0 ≤ (odS (odM h q) fc key).toInt := by
  unfold odS
  have g : ∀ (r l : Nat), l + r ≤ (rv h 185 q).toInt.toNat → 0 ≤ (sayR (odM h q).k (odM h q).u (fun l => hld fc (odM h q).f (odM h q).s (odM h q).v (3 * l) ((odM h q).c l).toInt.toNat) key r l).toInt := by
    intro r
    induction r with
    | zero => intro l _; exact (by decide : (0 : Int) ≤ Int32.toInt 0)
    | succ r ih =>
      intro l hl
      by_cases hc : (odM h q).k l = key ∧ hld fc (odM h q).f (odM h q).s (odM h q).v (3 * l) ((odM h q).c l).toInt.toNat
      · rw [sayR_y (H := fun l => hld fc (odM h q).f (odM h q).s (odM h q).v (3 * l) ((odM h q).c l).toInt.toNat) hc]
        exact (o.2 l (by omega)).2.2.1
      · rw [sayR_n (H := fun l => hld fc (odM h q).f (odM h q).s (odM h q).v (3 * l) ((odM h q).c l).toInt.toNat) hc]
        exact ih (l + 1) (by omega)
  exact g _ 0 (by show 0 + (rv h 185 q).toInt.toNat ≤ _; omega)
theorem rul_sd {h : im_H} (o : rulE h) : sdX h = sdM h ∧ ∀ fc k, 0 ≤ (sdM h fc k).toInt := by
  obtain ⟨r, p, a1, a2, a3, a4, a5, a6, a7, a8, a9, a10⟩ := o
  unfold sdX sdM
  rw [rv_of a2]
  by_cases hr : r.toInt = -1
  · rw [a8 hr, if_pos hr]
    refine ⟨rfl, fun fc k => ?_⟩
    show 0 ≤ (nos k).toInt
    unfold nos
    (repeat' split) <;> decide
  · rw [a9 hr, if_neg hr]
    have o := a10 r.toInt.toNat (by omega)
    refine ⟨?_, fun fc k => odS_nn o⟩
    show (if 114 ≤ 114 + 7 * r.toInt.toNat ∧ 114 + 7 * r.toInt.toNat ≤ 149 then odS (odX h (114 + 7 * r.toInt.toNat - 16)) else fun _ => nos) = _
    rw [if_pos (by omega), show 114 + 7 * r.toInt.toNat - 16 = 98 + 7 * r.toInt.toNat by omega]
    exact ordS_e o
theorem ordE_new {h : im_H} {q : Nat} {b : Int → Int32} {n : Int} (hn : 0 ≤ n) (hz : ∃ z : Int32, rd h (98 + 7 * q) 0 = some (.int z) ∧ z.toInt = n) (hl : ∀ l : Nat, (l : Int) < n → lnC h (98 + 7 * q) l b (lnS b l)) (hz2 : ∃ z : Int32, rd h 185 q = some (.int z) ∧ z.toInt = n) (hl2 : ∀ l : Nat, (l : Int) < n → lnM h (8 * q + l) b (lnS b l)) (ok : ∀ l : Nat, (l : Int) < n → 0 ≤ (lnR b (lnS b l)).1) : ordE h q := by
  obtain ⟨z, e1, n1⟩ := hz
  obtain ⟨z2, e2, n2⟩ := hz2
  refine ⟨by rw [rv_of e1, rv_of e2]; exact i32_ext (by omega), fun l hlt => ?_⟩
  rw [rv_of e2] at hlt
  obtain ⟨k, u, c, c1, c2, c3, c4, c5, c6, c7⟩ := hl l (by omega)
  obtain ⟨k', u', c', d1, d2, d3, d4, d5, d6, d7⟩ := hl2 l (by omega)
  have kk := ln_ok (ok l (by omega))
  unfold lnEq
  rw [show 99 + 7 * q = 98 + 7 * q + 1 by omega, show 100 + 7 * q = 98 + 7 * q + 2 by omega, show 101 + 7 * q = 98 + 7 * q + 3 by omega, show 102 + 7 * q = 98 + 7 * q + 4 by omega, show 103 + 7 * q = 98 + 7 * q + 5 by omega, show 104 + 7 * q = 98 + 7 * q + 6 by omega]
  rw [rv_of c1, rv_of c3, rv_of c5, rv_of d1, rv_of d3, rv_of d5]
  refine ⟨i32_ext (by omega), i32_ext (by omega), by rw [d4]; exact kk.1, i32_ext (by omega), fun t ht => ?_⟩
  have hts := kk.2 t (by omega)
  obtain ⟨f, s, v, f1, f2, f3, f4, f5, f6⟩ := c7 t (by omega)
  obtain ⟨f', s', v', g1, g2, g3, g4, g5, g6⟩ := d7 t (by omega)
  rw [show 3 * (8 * q + l) + t = 24 * q + (3 * l + t) by omega] at g1 g3 g5
  rw [rv_of f1, rv_of f3, rv_of f5, rv_of g1, rv_of g3, rv_of g5]
  refine ⟨?_, ?_, i32_ext (by omega)⟩
  · unfold fdC
    rw [if_neg (by have := hts.1; omega)]
    exact i32_ext (by omega)
  · have hs := hts.2.1
    have es : s.toInt = sgF s'.toInt := by rw [f4, g4]; rfl
    unfold tsS at hs
    rw [← g4, sgF_nn] at hs
    unfold sgC
    have a0 := (show Int32.toInt 0 = 0 from rfl)
    have a1 := (show Int32.toInt 1 = 1 from rfl)
    have a2 := (show Int32.toInt 2 = 2 from rfl)
    unfold sgF at es
    rcases hs with q | q | q
    · rw [if_pos q] at es ⊢; exact i32_ext (by omega)
    · rw [if_neg (by omega), if_pos q] at es ⊢; exact i32_ext (by omega)
    · rw [if_neg (by omega), if_neg (by omega), if_pos q] at es
      rw [if_neg (by omega), if_neg (by omega)]
      exact i32_ext (by omega)
def bec (s o : Nat) (h h2 : im_H) : Prop := (rd h2 s 0 = rd h o 0 ∧ rd h2 s 1 = rd h o 1 ∧ rd h2 s 2 = rd h o 2 ∧ rd h2 s 3 = rd h o 3 ∧ rd h2 s 4 = rd h o 4) ∧ ((∀ k : Nat, (k : Int) < 3 → rd h2 (s + 1) k = rd h (o + 1) k) ∧ (∀ k : Nat, (k : Int) < 100 → rd h2 (s + 2) k = rd h (o + 2) k) ∧ (∀ k : Nat, (k : Int) < 24 → rd h2 (s + 3) k = rd h (o + 3) k) ∧ (∀ k : Nat, (k : Int) < 24 → rd h2 (s + 4) k = rd h (o + 4) k) ∧ (∀ k : Nat, (k : Int) < 24 → rd h2 (s + 5) k = rd h (o + 5) k) ∧ (∀ k : Nat, (k : Int) < 24 → rd h2 (s + 6) k = rd h (o + 6) k) ∧ (∀ k : Nat, (k : Int) < 24 → rd h2 (s + 7) k = rd h (o + 7) k) ∧ (∀ k : Nat, (k : Int) < 16 → rd h2 (s + 8) k = rd h (o + 8) k) ∧ (∀ k : Nat, (k : Int) < 16 → rd h2 (s + 9) k = rd h (o + 9) k) ∧ (∀ k : Nat, (k : Int) < 12 → rd h2 (s + 10) k = rd h (o + 10) k) ∧ (∀ k : Nat, (k : Int) < 4 → rd h2 (s + 11) k = rd h (o + 11) k) ∧ (∀ k : Nat, (k : Int) < 4 → rd h2 (s + 12) k = rd h (o + 12) k) ∧ (∀ k : Nat, (k : Int) < 3 → rd h2 (s + 13) k = rd h (o + 13) k))
theorem bec_r {s o : Nat} {h h1 h2 : im_H} (B : bec s o h h1) (e : ∀ i k, s ≤ i → i ≤ s + 13 → rd h2 i k = rd h1 i k) : bec s o h h2 := by
  obtain ⟨⟨f0, f1, f2, f3, f4⟩, r0, r1, r2, r3, r4, r5, r6, r7, r8, r9, r10, r11, r12⟩ := B
  exact ⟨⟨(e _ _ (by omega) (by omega)).trans f0, (e _ _ (by omega) (by omega)).trans f1, (e _ _ (by omega) (by omega)).trans f2, (e _ _ (by omega) (by omega)).trans f3, (e _ _ (by omega) (by omega)).trans f4⟩, fun k hk => (e _ _ (by omega) (by omega)).trans (r0 k hk), fun k hk => (e _ _ (by omega) (by omega)).trans (r1 k hk), fun k hk => (e _ _ (by omega) (by omega)).trans (r2 k hk), fun k hk => (e _ _ (by omega) (by omega)).trans (r3 k hk), fun k hk => (e _ _ (by omega) (by omega)).trans (r4 k hk), fun k hk => (e _ _ (by omega) (by omega)).trans (r5 k hk), fun k hk => (e _ _ (by omega) (by omega)).trans (r6 k hk), fun k hk => (e _ _ (by omega) (by omega)).trans (r7 k hk), fun k hk => (e _ _ (by omega) (by omega)).trans (r8 k hk), fun k hk => (e _ _ (by omega) (by omega)).trans (r9 k hk), fun k hk => (e _ _ (by omega) (by omega)).trans (r10 k hk), fun k hk => (e _ _ (by omega) (by omega)).trans (r11 k hk), fun k hk => (e _ _ (by omega) (by omega)).trans (r12 k hk)⟩
set_option maxRecDepth 20000 in
set_option maxHeartbeats 4000000 in
theorem c_X9_become {s : Nat} {o : Nat} {h : im_H} (hI : tI h) (q_s : s = 23 ∨ s = 37 ∨ s = 51) (q_o : o = 23 ∨ o = 37 ∨ o = 51) : CaP 1 46 [.ref (16 + s), .ref (16 + o)] h (fun v h2 => tI h2 ∧ fr (F_X9_become s o) h h2 ∧ v = none ∧ bec s o h h2) := by
  refine cap_of (d := 0) (M := mX9_become) rfl (Nat.le_of_ble_eq_true rfl) ?_
  show EvP im_K0 0 mX9_become (0, [(0, .ref (16 + s)), (1, .ref (16 + o))], [], h) _
  have f0 : fr (F_X9_become s o) h h := fr_rf
  refine te_aload_n (p2 := 1) rfl rfl rfl ?_
  refine te_aload_n (p2 := 2) rfl rfl rfl ?_
  refine tg_i (p2 := 5) (i := o) rfl rfl hI rfl (by rcases q_o with rfl | rfl | rfl <;> rfl) (by rcases q_o with rfl | rfl | rfl <;> rfl) (fun y1 a1 b1 e1 => ?_)
  refine tp_i (p2 := 8) (i := s) rfl rfl hI rfl (by rcases q_s with rfl | rfl | rfl <;> rfl) (by decide) rfl rfl (by rcases q_s with rfl | rfl | rfl <;> rfl) (i32_lo _) (i32_hi _) (i32_ho _) (by rcases q_s with rfl | rfl | rfl <;> rfl) (fun h2 I2 u2 => ?_)
  have f2 := fr_st (F := (F_X9_become s o)) 13 f0 u2 rfl (by decide) (by decide)
  refine te_aload_n (p2 := 9) rfl rfl rfl ?_
  refine te_aload_n (p2 := 10) rfl rfl rfl ?_
  refine tg_i (p2 := 13) (i := o) rfl rfl I2 rfl (by rcases q_o with rfl | rfl | rfl <;> rfl) (by rcases q_o with rfl | rfl | rfl <;> rfl) (fun y3 a3 b3 e3 => ?_)
  refine tp_i (p2 := 16) (i := s) rfl rfl I2 rfl (by rcases q_s with rfl | rfl | rfl <;> rfl) (by decide) rfl rfl (by rcases q_s with rfl | rfl | rfl <;> rfl) (i32_lo _) (i32_hi _) (i32_ho _) (by rcases q_s with rfl | rfl | rfl <;> rfl) (fun h4 I4 u4 => ?_)
  have f4 := fr_st (F := (F_X9_become s o)) 13 f2 u4 rfl (by decide) (by decide)
  refine te_aload_n (p2 := 17) rfl rfl rfl ?_
  refine te_aload_n (p2 := 18) rfl rfl rfl ?_
  refine tg_i (p2 := 21) (i := o) rfl rfl I4 rfl (by rcases q_o with rfl | rfl | rfl <;> rfl) (by rcases q_o with rfl | rfl | rfl <;> rfl) (fun y5 a5 b5 e5 => ?_)
  refine tp_i (p2 := 24) (i := s) rfl rfl I4 rfl (by rcases q_s with rfl | rfl | rfl <;> rfl) (by decide) rfl rfl (by rcases q_s with rfl | rfl | rfl <;> rfl) (i32_lo _) (i32_hi _) (i32_ho _) (by rcases q_s with rfl | rfl | rfl <;> rfl) (fun h6 I6 u6 => ?_)
  have f6 := fr_st (F := (F_X9_become s o)) 13 f4 u6 rfl (by decide) (by decide)
  refine te_aload_n (p2 := 25) rfl rfl rfl ?_
  refine te_aload_n (p2 := 26) rfl rfl rfl ?_
  refine tg_i (p2 := 29) (i := o) rfl rfl I6 rfl (by rcases q_o with rfl | rfl | rfl <;> rfl) (by rcases q_o with rfl | rfl | rfl <;> rfl) (fun y7 a7 b7 e7 => ?_)
  refine tp_i (p2 := 32) (i := s) rfl rfl I6 rfl (by rcases q_s with rfl | rfl | rfl <;> rfl) (by decide) rfl rfl (by rcases q_s with rfl | rfl | rfl <;> rfl) (i32_lo _) (i32_hi _) (i32_ho _) (by rcases q_s with rfl | rfl | rfl <;> rfl) (fun h8 I8 u8 => ?_)
  have f8 := fr_st (F := (F_X9_become s o)) 13 f6 u8 rfl (by decide) (by decide)
  refine te_aload_n (p2 := 33) rfl rfl rfl ?_
  refine te_aload_n (p2 := 34) rfl rfl rfl ?_
  refine tg_i (p2 := 37) (i := o) rfl rfl I8 rfl (by rcases q_o with rfl | rfl | rfl <;> rfl) (by rcases q_o with rfl | rfl | rfl <;> rfl) (fun y9 a9 b9 e9 => ?_)
  refine tp_i (p2 := 40) (i := s) rfl rfl I8 rfl (by rcases q_s with rfl | rfl | rfl <;> rfl) (by decide) rfl rfl (by rcases q_s with rfl | rfl | rfl <;> rfl) (i32_lo _) (i32_hi _) (i32_ho _) (by rcases q_s with rfl | rfl | rfl <;> rfl) (fun h10 I10 u10 => ?_)
  have f10 := fr_st (F := (F_X9_become s o)) 13 f8 u10 rfl (by decide) (by decide)
  refine te_aload_n (p2 := 41) rfl rfl rfl ?_
  refine tg_r (p2 := 44) (i := o) (r := (16 + (o + 1))) rfl rfl I10 rfl (by rcases q_o with rfl | rfl | rfl <;> rfl) (by rcases q_o with rfl | rfl | rfl <;> rfl) ?_
  refine te_iconst (p2 := 45) (x := 0) rfl rfl (by decide) ?_
  refine te_aload_n (p2 := 46) rfl rfl rfl ?_
  refine tg_r (p2 := 49) (i := s) (r := (16 + (s + 1))) rfl rfl I10 rfl (by rcases q_s with rfl | rfl | rfl <;> rfl) (by rcases q_s with rfl | rfl | rfl <;> rfl) ?_
  refine te_iconst (p2 := 50) (x := 0) rfl rfl (by decide) ?_
  refine te_iconst (p2 := 51) (x := 3) rfl rfl (by decide) ?_
  refine tc_cp (p2 := 54) (i1 := (o + 1)) (i2 := (s + 1)) (n1 := 3) (n2 := 3) rfl rfl I10 rfl rfl (by rcases q_o with rfl | rfl | rfl <;> rfl) (by rcases q_s with rfl | rfl | rfl <;> rfl) (by rcases q_o with rfl | rfl | rfl <;> rfl) (by rcases q_s with rfl | rfl | rfl <;> rfl) rfl rfl (Or.inl rfl) (show Int32.toInt 0 = 0 from rfl) (show Int32.toInt 0 = 0 from rfl) (show Int32.toInt 3 = 3 from rfl) (by decide) (by decide) (by decide) (by decide) (by decide) rfl (by rcases q_s with rfl | rfl | rfl <;> rfl) (fun h11 I11 c11 u11 => ?_)
  have f11 := fr_cp (F := (F_X9_become s o)) (i := (s + 1)) (a := 0) (b := 2) f10 u11 (List.mem_of_getElem? (i := 0) rfl) (by decide) (by decide)
  refine te_aload_n (p2 := 55) rfl rfl rfl ?_
  refine tg_r (p2 := 58) (i := o) (r := (16 + (o + 2))) rfl rfl I11 rfl (by rcases q_o with rfl | rfl | rfl <;> rfl) (by rcases q_o with rfl | rfl | rfl <;> rfl) ?_
  refine te_iconst (p2 := 59) (x := 0) rfl rfl (by decide) ?_
  refine te_aload_n (p2 := 60) rfl rfl rfl ?_
  refine tg_r (p2 := 63) (i := s) (r := (16 + (s + 2))) rfl rfl I11 rfl (by rcases q_s with rfl | rfl | rfl <;> rfl) (by rcases q_s with rfl | rfl | rfl <;> rfl) ?_
  refine te_iconst (p2 := 64) (x := 0) rfl rfl (by decide) ?_
  refine te_bipush (p2 := 66) (x := 100) rfl rfl (by decide) ?_
  refine tc_cp (p2 := 69) (i1 := (o + 2)) (i2 := (s + 2)) (n1 := 100) (n2 := 100) rfl rfl I11 rfl rfl (by rcases q_o with rfl | rfl | rfl <;> rfl) (by rcases q_s with rfl | rfl | rfl <;> rfl) (by rcases q_o with rfl | rfl | rfl <;> rfl) (by rcases q_s with rfl | rfl | rfl <;> rfl) rfl rfl (Or.inl rfl) (show Int32.toInt 0 = 0 from rfl) (show Int32.toInt 0 = 0 from rfl) (show Int32.toInt 100 = 100 from rfl) (by decide) (by decide) (by decide) (by decide) (by decide) rfl (by rcases q_s with rfl | rfl | rfl <;> rfl) (fun h12 I12 c12 u12 => ?_)
  have f12 := fr_cp (F := (F_X9_become s o)) (i := (s + 2)) (a := 0) (b := 99) f11 u12 (List.mem_of_getElem? (i := 5) rfl) (by decide) (by decide)
  refine te_aload_n (p2 := 70) rfl rfl rfl ?_
  refine tg_r (p2 := 73) (i := o) (r := (16 + (o + 3))) rfl rfl I12 rfl (by rcases q_o with rfl | rfl | rfl <;> rfl) (by rcases q_o with rfl | rfl | rfl <;> rfl) ?_
  refine te_iconst (p2 := 74) (x := 0) rfl rfl (by decide) ?_
  refine te_aload_n (p2 := 75) rfl rfl rfl ?_
  refine tg_r (p2 := 78) (i := s) (r := (16 + (s + 3))) rfl rfl I12 rfl (by rcases q_s with rfl | rfl | rfl <;> rfl) (by rcases q_s with rfl | rfl | rfl <;> rfl) ?_
  refine te_iconst (p2 := 79) (x := 0) rfl rfl (by decide) ?_
  refine te_bipush (p2 := 81) (x := 24) rfl rfl (by decide) ?_
  refine tc_cp (p2 := 84) (i1 := (o + 3)) (i2 := (s + 3)) (n1 := 24) (n2 := 24) rfl rfl I12 rfl rfl (by rcases q_o with rfl | rfl | rfl <;> rfl) (by rcases q_s with rfl | rfl | rfl <;> rfl) (by rcases q_o with rfl | rfl | rfl <;> rfl) (by rcases q_s with rfl | rfl | rfl <;> rfl) rfl rfl (Or.inl rfl) (show Int32.toInt 0 = 0 from rfl) (show Int32.toInt 0 = 0 from rfl) (show Int32.toInt 24 = 24 from rfl) (by decide) (by decide) (by decide) (by decide) (by decide) rfl (by rcases q_s with rfl | rfl | rfl <;> rfl) (fun h13 I13 c13 u13 => ?_)
  have f13 := fr_cp (F := (F_X9_become s o)) (i := (s + 3)) (a := 0) (b := 23) f12 u13 (List.mem_of_getElem? (i := 6) rfl) (by decide) (by decide)
  refine te_aload_n (p2 := 85) rfl rfl rfl ?_
  refine tg_r (p2 := 88) (i := o) (r := (16 + (o + 4))) rfl rfl I13 rfl (by rcases q_o with rfl | rfl | rfl <;> rfl) (by rcases q_o with rfl | rfl | rfl <;> rfl) ?_
  refine te_iconst (p2 := 89) (x := 0) rfl rfl (by decide) ?_
  refine te_aload_n (p2 := 90) rfl rfl rfl ?_
  refine tg_r (p2 := 93) (i := s) (r := (16 + (s + 4))) rfl rfl I13 rfl (by rcases q_s with rfl | rfl | rfl <;> rfl) (by rcases q_s with rfl | rfl | rfl <;> rfl) ?_
  refine te_iconst (p2 := 94) (x := 0) rfl rfl (by decide) ?_
  refine te_bipush (p2 := 96) (x := 24) rfl rfl (by decide) ?_
  refine tc_cp (p2 := 99) (i1 := (o + 4)) (i2 := (s + 4)) (n1 := 24) (n2 := 24) rfl rfl I13 rfl rfl (by rcases q_o with rfl | rfl | rfl <;> rfl) (by rcases q_s with rfl | rfl | rfl <;> rfl) (by rcases q_o with rfl | rfl | rfl <;> rfl) (by rcases q_s with rfl | rfl | rfl <;> rfl) rfl rfl (Or.inl rfl) (show Int32.toInt 0 = 0 from rfl) (show Int32.toInt 0 = 0 from rfl) (show Int32.toInt 24 = 24 from rfl) (by decide) (by decide) (by decide) (by decide) (by decide) rfl (by rcases q_s with rfl | rfl | rfl <;> rfl) (fun h14 I14 c14 u14 => ?_)
  have f14 := fr_cp (F := (F_X9_become s o)) (i := (s + 4)) (a := 0) (b := 23) f13 u14 (List.mem_of_getElem? (i := 7) rfl) (by decide) (by decide)
  refine te_aload_n (p2 := 100) rfl rfl rfl ?_
  refine tg_r (p2 := 103) (i := o) (r := (16 + (o + 5))) rfl rfl I14 rfl (by rcases q_o with rfl | rfl | rfl <;> rfl) (by rcases q_o with rfl | rfl | rfl <;> rfl) ?_
  refine te_iconst (p2 := 104) (x := 0) rfl rfl (by decide) ?_
  refine te_aload_n (p2 := 105) rfl rfl rfl ?_
  refine tg_r (p2 := 108) (i := s) (r := (16 + (s + 5))) rfl rfl I14 rfl (by rcases q_s with rfl | rfl | rfl <;> rfl) (by rcases q_s with rfl | rfl | rfl <;> rfl) ?_
  refine te_iconst (p2 := 109) (x := 0) rfl rfl (by decide) ?_
  refine te_bipush (p2 := 111) (x := 24) rfl rfl (by decide) ?_
  refine tc_cp (p2 := 114) (i1 := (o + 5)) (i2 := (s + 5)) (n1 := 24) (n2 := 24) rfl rfl I14 rfl rfl (by rcases q_o with rfl | rfl | rfl <;> rfl) (by rcases q_s with rfl | rfl | rfl <;> rfl) (by rcases q_o with rfl | rfl | rfl <;> rfl) (by rcases q_s with rfl | rfl | rfl <;> rfl) rfl rfl (Or.inl rfl) (show Int32.toInt 0 = 0 from rfl) (show Int32.toInt 0 = 0 from rfl) (show Int32.toInt 24 = 24 from rfl) (by decide) (by decide) (by decide) (by decide) (by decide) rfl (by rcases q_s with rfl | rfl | rfl <;> rfl) (fun h15 I15 c15 u15 => ?_)
  have f15 := fr_cp (F := (F_X9_become s o)) (i := (s + 5)) (a := 0) (b := 23) f14 u15 (List.mem_of_getElem? (i := 8) rfl) (by decide) (by decide)
  refine te_aload_n (p2 := 115) rfl rfl rfl ?_
  refine tg_r (p2 := 118) (i := o) (r := (16 + (o + 6))) rfl rfl I15 rfl (by rcases q_o with rfl | rfl | rfl <;> rfl) (by rcases q_o with rfl | rfl | rfl <;> rfl) ?_
  refine te_iconst (p2 := 119) (x := 0) rfl rfl (by decide) ?_
  refine te_aload_n (p2 := 120) rfl rfl rfl ?_
  refine tg_r (p2 := 123) (i := s) (r := (16 + (s + 6))) rfl rfl I15 rfl (by rcases q_s with rfl | rfl | rfl <;> rfl) (by rcases q_s with rfl | rfl | rfl <;> rfl) ?_
  refine te_iconst (p2 := 124) (x := 0) rfl rfl (by decide) ?_
  refine te_bipush (p2 := 126) (x := 24) rfl rfl (by decide) ?_
  refine tc_cp (p2 := 129) (i1 := (o + 6)) (i2 := (s + 6)) (n1 := 24) (n2 := 24) rfl rfl I15 rfl rfl (by rcases q_o with rfl | rfl | rfl <;> rfl) (by rcases q_s with rfl | rfl | rfl <;> rfl) (by rcases q_o with rfl | rfl | rfl <;> rfl) (by rcases q_s with rfl | rfl | rfl <;> rfl) rfl rfl (Or.inl rfl) (show Int32.toInt 0 = 0 from rfl) (show Int32.toInt 0 = 0 from rfl) (show Int32.toInt 24 = 24 from rfl) (by decide) (by decide) (by decide) (by decide) (by decide) rfl (by rcases q_s with rfl | rfl | rfl <;> rfl) (fun h16 I16 c16 u16 => ?_)
  have f16 := fr_cp (F := (F_X9_become s o)) (i := (s + 6)) (a := 0) (b := 23) f15 u16 (List.mem_of_getElem? (i := 9) rfl) (by decide) (by decide)
  refine te_aload_n (p2 := 130) rfl rfl rfl ?_
  refine tg_r (p2 := 133) (i := o) (r := (16 + (o + 7))) rfl rfl I16 rfl (by rcases q_o with rfl | rfl | rfl <;> rfl) (by rcases q_o with rfl | rfl | rfl <;> rfl) ?_
  refine te_iconst (p2 := 134) (x := 0) rfl rfl (by decide) ?_
  refine te_aload_n (p2 := 135) rfl rfl rfl ?_
  refine tg_r (p2 := 138) (i := s) (r := (16 + (s + 7))) rfl rfl I16 rfl (by rcases q_s with rfl | rfl | rfl <;> rfl) (by rcases q_s with rfl | rfl | rfl <;> rfl) ?_
  refine te_iconst (p2 := 139) (x := 0) rfl rfl (by decide) ?_
  refine te_bipush (p2 := 141) (x := 24) rfl rfl (by decide) ?_
  refine tc_cp (p2 := 144) (i1 := (o + 7)) (i2 := (s + 7)) (n1 := 24) (n2 := 24) rfl rfl I16 rfl rfl (by rcases q_o with rfl | rfl | rfl <;> rfl) (by rcases q_s with rfl | rfl | rfl <;> rfl) (by rcases q_o with rfl | rfl | rfl <;> rfl) (by rcases q_s with rfl | rfl | rfl <;> rfl) rfl rfl (Or.inr ⟨rfl, rfl, rfl⟩) (show Int32.toInt 0 = 0 from rfl) (show Int32.toInt 0 = 0 from rfl) (show Int32.toInt 24 = 24 from rfl) (by decide) (by decide) (by decide) (by decide) (by decide) rfl (by rcases q_s with rfl | rfl | rfl <;> rfl) (fun h17 I17 c17 u17 => ?_)
  have f17 := fr_cp (F := (F_X9_become s o)) (i := (s + 7)) (a := 0) (b := 23) f16 u17 (List.mem_of_getElem? (i := 10) rfl) (by decide) (by decide)
  refine te_aload_n (p2 := 145) rfl rfl rfl ?_
  refine tg_r (p2 := 148) (i := o) (r := (16 + (o + 8))) rfl rfl I17 rfl (by rcases q_o with rfl | rfl | rfl <;> rfl) (by rcases q_o with rfl | rfl | rfl <;> rfl) ?_
  refine te_iconst (p2 := 149) (x := 0) rfl rfl (by decide) ?_
  refine te_aload_n (p2 := 150) rfl rfl rfl ?_
  refine tg_r (p2 := 153) (i := s) (r := (16 + (s + 8))) rfl rfl I17 rfl (by rcases q_s with rfl | rfl | rfl <;> rfl) (by rcases q_s with rfl | rfl | rfl <;> rfl) ?_
  refine te_iconst (p2 := 154) (x := 0) rfl rfl (by decide) ?_
  refine te_bipush (p2 := 156) (x := 16) rfl rfl (by decide) ?_
  refine tc_cp (p2 := 159) (i1 := (o + 8)) (i2 := (s + 8)) (n1 := 16) (n2 := 16) rfl rfl I17 rfl rfl (by rcases q_o with rfl | rfl | rfl <;> rfl) (by rcases q_s with rfl | rfl | rfl <;> rfl) (by rcases q_o with rfl | rfl | rfl <;> rfl) (by rcases q_s with rfl | rfl | rfl <;> rfl) rfl rfl (Or.inl rfl) (show Int32.toInt 0 = 0 from rfl) (show Int32.toInt 0 = 0 from rfl) (show Int32.toInt 16 = 16 from rfl) (by decide) (by decide) (by decide) (by decide) (by decide) rfl (by rcases q_s with rfl | rfl | rfl <;> rfl) (fun h18 I18 c18 u18 => ?_)
  have f18 := fr_cp (F := (F_X9_become s o)) (i := (s + 8)) (a := 0) (b := 15) f17 u18 (List.mem_of_getElem? (i := 11) rfl) (by decide) (by decide)
  refine te_aload_n (p2 := 160) rfl rfl rfl ?_
  refine tg_r (p2 := 163) (i := o) (r := (16 + (o + 9))) rfl rfl I18 rfl (by rcases q_o with rfl | rfl | rfl <;> rfl) (by rcases q_o with rfl | rfl | rfl <;> rfl) ?_
  refine te_iconst (p2 := 164) (x := 0) rfl rfl (by decide) ?_
  refine te_aload_n (p2 := 165) rfl rfl rfl ?_
  refine tg_r (p2 := 168) (i := s) (r := (16 + (s + 9))) rfl rfl I18 rfl (by rcases q_s with rfl | rfl | rfl <;> rfl) (by rcases q_s with rfl | rfl | rfl <;> rfl) ?_
  refine te_iconst (p2 := 169) (x := 0) rfl rfl (by decide) ?_
  refine te_bipush (p2 := 171) (x := 16) rfl rfl (by decide) ?_
  refine tc_cp (p2 := 174) (i1 := (o + 9)) (i2 := (s + 9)) (n1 := 16) (n2 := 16) rfl rfl I18 rfl rfl (by rcases q_o with rfl | rfl | rfl <;> rfl) (by rcases q_s with rfl | rfl | rfl <;> rfl) (by rcases q_o with rfl | rfl | rfl <;> rfl) (by rcases q_s with rfl | rfl | rfl <;> rfl) rfl rfl (Or.inr ⟨rfl, rfl, rfl⟩) (show Int32.toInt 0 = 0 from rfl) (show Int32.toInt 0 = 0 from rfl) (show Int32.toInt 16 = 16 from rfl) (by decide) (by decide) (by decide) (by decide) (by decide) rfl (by rcases q_s with rfl | rfl | rfl <;> rfl) (fun h19 I19 c19 u19 => ?_)
  have f19 := fr_cp (F := (F_X9_become s o)) (i := (s + 9)) (a := 0) (b := 15) f18 u19 (List.mem_of_getElem? (i := 12) rfl) (by decide) (by decide)
  refine te_aload_n (p2 := 175) rfl rfl rfl ?_
  refine tg_r (p2 := 178) (i := o) (r := (16 + (o + 10))) rfl rfl I19 rfl (by rcases q_o with rfl | rfl | rfl <;> rfl) (by rcases q_o with rfl | rfl | rfl <;> rfl) ?_
  refine te_iconst (p2 := 179) (x := 0) rfl rfl (by decide) ?_
  refine te_aload_n (p2 := 180) rfl rfl rfl ?_
  refine tg_r (p2 := 183) (i := s) (r := (16 + (s + 10))) rfl rfl I19 rfl (by rcases q_s with rfl | rfl | rfl <;> rfl) (by rcases q_s with rfl | rfl | rfl <;> rfl) ?_
  refine te_iconst (p2 := 184) (x := 0) rfl rfl (by decide) ?_
  refine te_bipush (p2 := 186) (x := 12) rfl rfl (by decide) ?_
  refine tc_cp (p2 := 189) (i1 := (o + 10)) (i2 := (s + 10)) (n1 := 12) (n2 := 12) rfl rfl I19 rfl rfl (by rcases q_o with rfl | rfl | rfl <;> rfl) (by rcases q_s with rfl | rfl | rfl <;> rfl) (by rcases q_o with rfl | rfl | rfl <;> rfl) (by rcases q_s with rfl | rfl | rfl <;> rfl) rfl rfl (Or.inr ⟨rfl, rfl, rfl⟩) (show Int32.toInt 0 = 0 from rfl) (show Int32.toInt 0 = 0 from rfl) (show Int32.toInt 12 = 12 from rfl) (by decide) (by decide) (by decide) (by decide) (by decide) rfl (by rcases q_s with rfl | rfl | rfl <;> rfl) (fun h20 I20 c20 u20 => ?_)
  have f20 := fr_cp (F := (F_X9_become s o)) (i := (s + 10)) (a := 0) (b := 11) f19 u20 (List.mem_of_getElem? (i := 1) rfl) (by decide) (by decide)
  refine te_aload_n (p2 := 190) rfl rfl rfl ?_
  refine tg_r (p2 := 193) (i := o) (r := (16 + (o + 11))) rfl rfl I20 rfl (by rcases q_o with rfl | rfl | rfl <;> rfl) (by rcases q_o with rfl | rfl | rfl <;> rfl) ?_
  refine te_iconst (p2 := 194) (x := 0) rfl rfl (by decide) ?_
  refine te_aload_n (p2 := 195) rfl rfl rfl ?_
  refine tg_r (p2 := 198) (i := s) (r := (16 + (s + 11))) rfl rfl I20 rfl (by rcases q_s with rfl | rfl | rfl <;> rfl) (by rcases q_s with rfl | rfl | rfl <;> rfl) ?_
  refine te_iconst (p2 := 199) (x := 0) rfl rfl (by decide) ?_
  refine te_iconst (p2 := 200) (x := 4) rfl rfl (by decide) ?_
  refine tc_cp (p2 := 203) (i1 := (o + 11)) (i2 := (s + 11)) (n1 := 4) (n2 := 4) rfl rfl I20 rfl rfl (by rcases q_o with rfl | rfl | rfl <;> rfl) (by rcases q_s with rfl | rfl | rfl <;> rfl) (by rcases q_o with rfl | rfl | rfl <;> rfl) (by rcases q_s with rfl | rfl | rfl <;> rfl) rfl rfl (Or.inl rfl) (show Int32.toInt 0 = 0 from rfl) (show Int32.toInt 0 = 0 from rfl) (show Int32.toInt 4 = 4 from rfl) (by decide) (by decide) (by decide) (by decide) (by decide) rfl (by rcases q_s with rfl | rfl | rfl <;> rfl) (fun h21 I21 c21 u21 => ?_)
  have f21 := fr_cp (F := (F_X9_become s o)) (i := (s + 11)) (a := 0) (b := 3) f20 u21 (List.mem_of_getElem? (i := 2) rfl) (by decide) (by decide)
  refine te_aload_n (p2 := 204) rfl rfl rfl ?_
  refine tg_r (p2 := 207) (i := o) (r := (16 + (o + 12))) rfl rfl I21 rfl (by rcases q_o with rfl | rfl | rfl <;> rfl) (by rcases q_o with rfl | rfl | rfl <;> rfl) ?_
  refine te_iconst (p2 := 208) (x := 0) rfl rfl (by decide) ?_
  refine te_aload_n (p2 := 209) rfl rfl rfl ?_
  refine tg_r (p2 := 212) (i := s) (r := (16 + (s + 12))) rfl rfl I21 rfl (by rcases q_s with rfl | rfl | rfl <;> rfl) (by rcases q_s with rfl | rfl | rfl <;> rfl) ?_
  refine te_iconst (p2 := 213) (x := 0) rfl rfl (by decide) ?_
  refine te_iconst (p2 := 214) (x := 4) rfl rfl (by decide) ?_
  refine tc_cp (p2 := 217) (i1 := (o + 12)) (i2 := (s + 12)) (n1 := 4) (n2 := 4) rfl rfl I21 rfl rfl (by rcases q_o with rfl | rfl | rfl <;> rfl) (by rcases q_s with rfl | rfl | rfl <;> rfl) (by rcases q_o with rfl | rfl | rfl <;> rfl) (by rcases q_s with rfl | rfl | rfl <;> rfl) rfl rfl (Or.inl rfl) (show Int32.toInt 0 = 0 from rfl) (show Int32.toInt 0 = 0 from rfl) (show Int32.toInt 4 = 4 from rfl) (by decide) (by decide) (by decide) (by decide) (by decide) rfl (by rcases q_s with rfl | rfl | rfl <;> rfl) (fun h22 I22 c22 u22 => ?_)
  have f22 := fr_cp (F := (F_X9_become s o)) (i := (s + 12)) (a := 0) (b := 3) f21 u22 (List.mem_of_getElem? (i := 3) rfl) (by decide) (by decide)
  refine te_aload_n (p2 := 218) rfl rfl rfl ?_
  refine tg_r (p2 := 221) (i := o) (r := (16 + (o + 13))) rfl rfl I22 rfl (by rcases q_o with rfl | rfl | rfl <;> rfl) (by rcases q_o with rfl | rfl | rfl <;> rfl) ?_
  refine te_iconst (p2 := 222) (x := 0) rfl rfl (by decide) ?_
  refine te_aload_n (p2 := 223) rfl rfl rfl ?_
  refine tg_r (p2 := 226) (i := s) (r := (16 + (s + 13))) rfl rfl I22 rfl (by rcases q_s with rfl | rfl | rfl <;> rfl) (by rcases q_s with rfl | rfl | rfl <;> rfl) ?_
  refine te_iconst (p2 := 227) (x := 0) rfl rfl (by decide) ?_
  refine te_iconst (p2 := 228) (x := 3) rfl rfl (by decide) ?_
  refine tc_cp (p2 := 231) (i1 := (o + 13)) (i2 := (s + 13)) (n1 := 3) (n2 := 3) rfl rfl I22 rfl rfl (by rcases q_o with rfl | rfl | rfl <;> rfl) (by rcases q_s with rfl | rfl | rfl <;> rfl) (by rcases q_o with rfl | rfl | rfl <;> rfl) (by rcases q_s with rfl | rfl | rfl <;> rfl) rfl rfl (Or.inl rfl) (show Int32.toInt 0 = 0 from rfl) (show Int32.toInt 0 = 0 from rfl) (show Int32.toInt 3 = 3 from rfl) (by decide) (by decide) (by decide) (by decide) (by decide) rfl (by rcases q_s with rfl | rfl | rfl <;> rfl) (fun h23 I23 c23 u23 => ?_)
  have f23 := fr_cp (F := (F_X9_become s o)) (i := (s + 13)) (a := 0) (b := 2) f22 u23 (List.mem_of_getElem? (i := 4) rfl) (by decide) (by decide)
  exact te_vret rfl rfl ⟨I23, f23, rfl, ⟨((u23 _ _ (Or.inl (by omega))).trans ((u22 _ _ (Or.inl (by omega))).trans ((u21 _ _ (Or.inl (by omega))).trans ((u20 _ _ (Or.inl (by omega))).trans ((u19 _ _ (Or.inl (by omega))).trans ((u18 _ _ (Or.inl (by omega))).trans ((u17 _ _ (Or.inl (by omega))).trans ((u16 _ _ (Or.inl (by omega))).trans ((u15 _ _ (Or.inl (by omega))).trans ((u14 _ _ (Or.inl (by omega))).trans ((u13 _ _ (Or.inl (by omega))).trans ((u12 _ _ (Or.inl (by omega))).trans ((u11 _ _ (Or.inl (by omega))).trans ((u10.2 _ _ (Or.inr (by decide))).trans ((u8.2 _ _ (Or.inr (by decide))).trans ((u6.2 _ _ (Or.inr (by decide))).trans ((u4.2 _ _ (Or.inr (by decide))).trans u2.1))))))))))))))))).trans e1.symm, (((u23 _ _ (Or.inl (by omega))).trans ((u22 _ _ (Or.inl (by omega))).trans ((u21 _ _ (Or.inl (by omega))).trans ((u20 _ _ (Or.inl (by omega))).trans ((u19 _ _ (Or.inl (by omega))).trans ((u18 _ _ (Or.inl (by omega))).trans ((u17 _ _ (Or.inl (by omega))).trans ((u16 _ _ (Or.inl (by omega))).trans ((u15 _ _ (Or.inl (by omega))).trans ((u14 _ _ (Or.inl (by omega))).trans ((u13 _ _ (Or.inl (by omega))).trans ((u12 _ _ (Or.inl (by omega))).trans ((u11 _ _ (Or.inl (by omega))).trans ((u10.2 _ _ (Or.inr (by decide))).trans ((u8.2 _ _ (Or.inr (by decide))).trans ((u6.2 _ _ (Or.inr (by decide))).trans u4.1)))))))))))))))).trans e3.symm).trans (u2.2 _ _ (Or.inr (by decide))), ((((u23 _ _ (Or.inl (by omega))).trans ((u22 _ _ (Or.inl (by omega))).trans ((u21 _ _ (Or.inl (by omega))).trans ((u20 _ _ (Or.inl (by omega))).trans ((u19 _ _ (Or.inl (by omega))).trans ((u18 _ _ (Or.inl (by omega))).trans ((u17 _ _ (Or.inl (by omega))).trans ((u16 _ _ (Or.inl (by omega))).trans ((u15 _ _ (Or.inl (by omega))).trans ((u14 _ _ (Or.inl (by omega))).trans ((u13 _ _ (Or.inl (by omega))).trans ((u12 _ _ (Or.inl (by omega))).trans ((u11 _ _ (Or.inl (by omega))).trans ((u10.2 _ _ (Or.inr (by decide))).trans ((u8.2 _ _ (Or.inr (by decide))).trans u6.1))))))))))))))).trans e5.symm).trans (u4.2 _ _ (Or.inr (by decide)))).trans (u2.2 _ _ (Or.inr (by decide))), (((((u23 _ _ (Or.inl (by omega))).trans ((u22 _ _ (Or.inl (by omega))).trans ((u21 _ _ (Or.inl (by omega))).trans ((u20 _ _ (Or.inl (by omega))).trans ((u19 _ _ (Or.inl (by omega))).trans ((u18 _ _ (Or.inl (by omega))).trans ((u17 _ _ (Or.inl (by omega))).trans ((u16 _ _ (Or.inl (by omega))).trans ((u15 _ _ (Or.inl (by omega))).trans ((u14 _ _ (Or.inl (by omega))).trans ((u13 _ _ (Or.inl (by omega))).trans ((u12 _ _ (Or.inl (by omega))).trans ((u11 _ _ (Or.inl (by omega))).trans ((u10.2 _ _ (Or.inr (by decide))).trans u8.1)))))))))))))).trans e7.symm).trans (u6.2 _ _ (Or.inr (by decide)))).trans (u4.2 _ _ (Or.inr (by decide)))).trans (u2.2 _ _ (Or.inr (by decide))), ((((((u23 _ _ (Or.inl (by omega))).trans ((u22 _ _ (Or.inl (by omega))).trans ((u21 _ _ (Or.inl (by omega))).trans ((u20 _ _ (Or.inl (by omega))).trans ((u19 _ _ (Or.inl (by omega))).trans ((u18 _ _ (Or.inl (by omega))).trans ((u17 _ _ (Or.inl (by omega))).trans ((u16 _ _ (Or.inl (by omega))).trans ((u15 _ _ (Or.inl (by omega))).trans ((u14 _ _ (Or.inl (by omega))).trans ((u13 _ _ (Or.inl (by omega))).trans ((u12 _ _ (Or.inl (by omega))).trans ((u11 _ _ (Or.inl (by omega))).trans u10.1))))))))))))).trans e9.symm).trans (u8.2 _ _ (Or.inr (by decide)))).trans (u6.2 _ _ (Or.inr (by decide)))).trans (u4.2 _ _ (Or.inr (by decide)))).trans (u2.2 _ _ (Or.inr (by decide)))⟩, (fun k hk => ((((((u23 _ _ (Or.inl (by omega))).trans ((u22 _ _ (Or.inl (by omega))).trans ((u21 _ _ (Or.inl (by omega))).trans ((u20 _ _ (Or.inl (by omega))).trans ((u19 _ _ (Or.inl (by omega))).trans ((u18 _ _ (Or.inl (by omega))).trans ((u17 _ _ (Or.inl (by omega))).trans ((u16 _ _ (Or.inl (by omega))).trans ((u15 _ _ (Or.inl (by omega))).trans ((u14 _ _ (Or.inl (by omega))).trans ((u13 _ _ (Or.inl (by omega))).trans ((u12 _ _ (Or.inl (by omega))).trans ((c11 k (by omega) (by omega)).trans (congrArg (fun t => rd h10 (o + 1) t) (show (0 : Int).toNat + (k - (0 : Int).toNat) = k by omega))))))))))))))).trans (u10.2 _ _ (Or.inl (by omega)))).trans (u8.2 _ _ (Or.inl (by omega)))).trans (u6.2 _ _ (Or.inl (by omega)))).trans (u4.2 _ _ (Or.inl (by omega)))).trans (u2.2 _ _ (Or.inl (by omega)))), (fun k hk => (((((((u23 _ _ (Or.inl (by omega))).trans ((u22 _ _ (Or.inl (by omega))).trans ((u21 _ _ (Or.inl (by omega))).trans ((u20 _ _ (Or.inl (by omega))).trans ((u19 _ _ (Or.inl (by omega))).trans ((u18 _ _ (Or.inl (by omega))).trans ((u17 _ _ (Or.inl (by omega))).trans ((u16 _ _ (Or.inl (by omega))).trans ((u15 _ _ (Or.inl (by omega))).trans ((u14 _ _ (Or.inl (by omega))).trans ((u13 _ _ (Or.inl (by omega))).trans ((c12 k (by omega) (by omega)).trans (congrArg (fun t => rd h11 (o + 2) t) (show (0 : Int).toNat + (k - (0 : Int).toNat) = k by omega)))))))))))))).trans (u11 _ _ (Or.inl (by omega)))).trans (u10.2 _ _ (Or.inl (by omega)))).trans (u8.2 _ _ (Or.inl (by omega)))).trans (u6.2 _ _ (Or.inl (by omega)))).trans (u4.2 _ _ (Or.inl (by omega)))).trans (u2.2 _ _ (Or.inl (by omega)))), (fun k hk => ((((((((u23 _ _ (Or.inl (by omega))).trans ((u22 _ _ (Or.inl (by omega))).trans ((u21 _ _ (Or.inl (by omega))).trans ((u20 _ _ (Or.inl (by omega))).trans ((u19 _ _ (Or.inl (by omega))).trans ((u18 _ _ (Or.inl (by omega))).trans ((u17 _ _ (Or.inl (by omega))).trans ((u16 _ _ (Or.inl (by omega))).trans ((u15 _ _ (Or.inl (by omega))).trans ((u14 _ _ (Or.inl (by omega))).trans ((c13 k (by omega) (by omega)).trans (congrArg (fun t => rd h12 (o + 3) t) (show (0 : Int).toNat + (k - (0 : Int).toNat) = k by omega))))))))))))).trans (u12 _ _ (Or.inl (by omega)))).trans (u11 _ _ (Or.inl (by omega)))).trans (u10.2 _ _ (Or.inl (by omega)))).trans (u8.2 _ _ (Or.inl (by omega)))).trans (u6.2 _ _ (Or.inl (by omega)))).trans (u4.2 _ _ (Or.inl (by omega)))).trans (u2.2 _ _ (Or.inl (by omega)))), (fun k hk => (((((((((u23 _ _ (Or.inl (by omega))).trans ((u22 _ _ (Or.inl (by omega))).trans ((u21 _ _ (Or.inl (by omega))).trans ((u20 _ _ (Or.inl (by omega))).trans ((u19 _ _ (Or.inl (by omega))).trans ((u18 _ _ (Or.inl (by omega))).trans ((u17 _ _ (Or.inl (by omega))).trans ((u16 _ _ (Or.inl (by omega))).trans ((u15 _ _ (Or.inl (by omega))).trans ((c14 k (by omega) (by omega)).trans (congrArg (fun t => rd h13 (o + 4) t) (show (0 : Int).toNat + (k - (0 : Int).toNat) = k by omega)))))))))))).trans (u13 _ _ (Or.inl (by omega)))).trans (u12 _ _ (Or.inl (by omega)))).trans (u11 _ _ (Or.inl (by omega)))).trans (u10.2 _ _ (Or.inl (by omega)))).trans (u8.2 _ _ (Or.inl (by omega)))).trans (u6.2 _ _ (Or.inl (by omega)))).trans (u4.2 _ _ (Or.inl (by omega)))).trans (u2.2 _ _ (Or.inl (by omega)))), (fun k hk => ((((((((((u23 _ _ (Or.inl (by omega))).trans ((u22 _ _ (Or.inl (by omega))).trans ((u21 _ _ (Or.inl (by omega))).trans ((u20 _ _ (Or.inl (by omega))).trans ((u19 _ _ (Or.inl (by omega))).trans ((u18 _ _ (Or.inl (by omega))).trans ((u17 _ _ (Or.inl (by omega))).trans ((u16 _ _ (Or.inl (by omega))).trans ((c15 k (by omega) (by omega)).trans (congrArg (fun t => rd h14 (o + 5) t) (show (0 : Int).toNat + (k - (0 : Int).toNat) = k by omega))))))))))).trans (u14 _ _ (Or.inl (by omega)))).trans (u13 _ _ (Or.inl (by omega)))).trans (u12 _ _ (Or.inl (by omega)))).trans (u11 _ _ (Or.inl (by omega)))).trans (u10.2 _ _ (Or.inl (by omega)))).trans (u8.2 _ _ (Or.inl (by omega)))).trans (u6.2 _ _ (Or.inl (by omega)))).trans (u4.2 _ _ (Or.inl (by omega)))).trans (u2.2 _ _ (Or.inl (by omega)))), (fun k hk => (((((((((((u23 _ _ (Or.inl (by omega))).trans ((u22 _ _ (Or.inl (by omega))).trans ((u21 _ _ (Or.inl (by omega))).trans ((u20 _ _ (Or.inl (by omega))).trans ((u19 _ _ (Or.inl (by omega))).trans ((u18 _ _ (Or.inl (by omega))).trans ((u17 _ _ (Or.inl (by omega))).trans ((c16 k (by omega) (by omega)).trans (congrArg (fun t => rd h15 (o + 6) t) (show (0 : Int).toNat + (k - (0 : Int).toNat) = k by omega)))))))))).trans (u15 _ _ (Or.inl (by omega)))).trans (u14 _ _ (Or.inl (by omega)))).trans (u13 _ _ (Or.inl (by omega)))).trans (u12 _ _ (Or.inl (by omega)))).trans (u11 _ _ (Or.inl (by omega)))).trans (u10.2 _ _ (Or.inl (by omega)))).trans (u8.2 _ _ (Or.inl (by omega)))).trans (u6.2 _ _ (Or.inl (by omega)))).trans (u4.2 _ _ (Or.inl (by omega)))).trans (u2.2 _ _ (Or.inl (by omega)))), (fun k hk => ((((((((((((u23 _ _ (Or.inl (by omega))).trans ((u22 _ _ (Or.inl (by omega))).trans ((u21 _ _ (Or.inl (by omega))).trans ((u20 _ _ (Or.inl (by omega))).trans ((u19 _ _ (Or.inl (by omega))).trans ((u18 _ _ (Or.inl (by omega))).trans ((c17 k (by omega) (by omega)).trans (congrArg (fun t => rd h16 (o + 7) t) (show (0 : Int).toNat + (k - (0 : Int).toNat) = k by omega))))))))).trans (u16 _ _ (Or.inl (by omega)))).trans (u15 _ _ (Or.inl (by omega)))).trans (u14 _ _ (Or.inl (by omega)))).trans (u13 _ _ (Or.inl (by omega)))).trans (u12 _ _ (Or.inl (by omega)))).trans (u11 _ _ (Or.inl (by omega)))).trans (u10.2 _ _ (Or.inl (by omega)))).trans (u8.2 _ _ (Or.inl (by omega)))).trans (u6.2 _ _ (Or.inl (by omega)))).trans (u4.2 _ _ (Or.inl (by omega)))).trans (u2.2 _ _ (Or.inl (by omega)))), (fun k hk => (((((((((((((u23 _ _ (Or.inl (by omega))).trans ((u22 _ _ (Or.inl (by omega))).trans ((u21 _ _ (Or.inl (by omega))).trans ((u20 _ _ (Or.inl (by omega))).trans ((u19 _ _ (Or.inl (by omega))).trans ((c18 k (by omega) (by omega)).trans (congrArg (fun t => rd h17 (o + 8) t) (show (0 : Int).toNat + (k - (0 : Int).toNat) = k by omega)))))))).trans (u17 _ _ (Or.inl (by omega)))).trans (u16 _ _ (Or.inl (by omega)))).trans (u15 _ _ (Or.inl (by omega)))).trans (u14 _ _ (Or.inl (by omega)))).trans (u13 _ _ (Or.inl (by omega)))).trans (u12 _ _ (Or.inl (by omega)))).trans (u11 _ _ (Or.inl (by omega)))).trans (u10.2 _ _ (Or.inl (by omega)))).trans (u8.2 _ _ (Or.inl (by omega)))).trans (u6.2 _ _ (Or.inl (by omega)))).trans (u4.2 _ _ (Or.inl (by omega)))).trans (u2.2 _ _ (Or.inl (by omega)))), (fun k hk => ((((((((((((((u23 _ _ (Or.inl (by omega))).trans ((u22 _ _ (Or.inl (by omega))).trans ((u21 _ _ (Or.inl (by omega))).trans ((u20 _ _ (Or.inl (by omega))).trans ((c19 k (by omega) (by omega)).trans (congrArg (fun t => rd h18 (o + 9) t) (show (0 : Int).toNat + (k - (0 : Int).toNat) = k by omega))))))).trans (u18 _ _ (Or.inl (by omega)))).trans (u17 _ _ (Or.inl (by omega)))).trans (u16 _ _ (Or.inl (by omega)))).trans (u15 _ _ (Or.inl (by omega)))).trans (u14 _ _ (Or.inl (by omega)))).trans (u13 _ _ (Or.inl (by omega)))).trans (u12 _ _ (Or.inl (by omega)))).trans (u11 _ _ (Or.inl (by omega)))).trans (u10.2 _ _ (Or.inl (by omega)))).trans (u8.2 _ _ (Or.inl (by omega)))).trans (u6.2 _ _ (Or.inl (by omega)))).trans (u4.2 _ _ (Or.inl (by omega)))).trans (u2.2 _ _ (Or.inl (by omega)))), (fun k hk => (((((((((((((((u23 _ _ (Or.inl (by omega))).trans ((u22 _ _ (Or.inl (by omega))).trans ((u21 _ _ (Or.inl (by omega))).trans ((c20 k (by omega) (by omega)).trans (congrArg (fun t => rd h19 (o + 10) t) (show (0 : Int).toNat + (k - (0 : Int).toNat) = k by omega)))))).trans (u19 _ _ (Or.inl (by omega)))).trans (u18 _ _ (Or.inl (by omega)))).trans (u17 _ _ (Or.inl (by omega)))).trans (u16 _ _ (Or.inl (by omega)))).trans (u15 _ _ (Or.inl (by omega)))).trans (u14 _ _ (Or.inl (by omega)))).trans (u13 _ _ (Or.inl (by omega)))).trans (u12 _ _ (Or.inl (by omega)))).trans (u11 _ _ (Or.inl (by omega)))).trans (u10.2 _ _ (Or.inl (by omega)))).trans (u8.2 _ _ (Or.inl (by omega)))).trans (u6.2 _ _ (Or.inl (by omega)))).trans (u4.2 _ _ (Or.inl (by omega)))).trans (u2.2 _ _ (Or.inl (by omega)))), (fun k hk => ((((((((((((((((u23 _ _ (Or.inl (by omega))).trans ((u22 _ _ (Or.inl (by omega))).trans ((c21 k (by omega) (by omega)).trans (congrArg (fun t => rd h20 (o + 11) t) (show (0 : Int).toNat + (k - (0 : Int).toNat) = k by omega))))).trans (u20 _ _ (Or.inl (by omega)))).trans (u19 _ _ (Or.inl (by omega)))).trans (u18 _ _ (Or.inl (by omega)))).trans (u17 _ _ (Or.inl (by omega)))).trans (u16 _ _ (Or.inl (by omega)))).trans (u15 _ _ (Or.inl (by omega)))).trans (u14 _ _ (Or.inl (by omega)))).trans (u13 _ _ (Or.inl (by omega)))).trans (u12 _ _ (Or.inl (by omega)))).trans (u11 _ _ (Or.inl (by omega)))).trans (u10.2 _ _ (Or.inl (by omega)))).trans (u8.2 _ _ (Or.inl (by omega)))).trans (u6.2 _ _ (Or.inl (by omega)))).trans (u4.2 _ _ (Or.inl (by omega)))).trans (u2.2 _ _ (Or.inl (by omega)))), (fun k hk => (((((((((((((((((u23 _ _ (Or.inl (by omega))).trans ((c22 k (by omega) (by omega)).trans (congrArg (fun t => rd h21 (o + 12) t) (show (0 : Int).toNat + (k - (0 : Int).toNat) = k by omega)))).trans (u21 _ _ (Or.inl (by omega)))).trans (u20 _ _ (Or.inl (by omega)))).trans (u19 _ _ (Or.inl (by omega)))).trans (u18 _ _ (Or.inl (by omega)))).trans (u17 _ _ (Or.inl (by omega)))).trans (u16 _ _ (Or.inl (by omega)))).trans (u15 _ _ (Or.inl (by omega)))).trans (u14 _ _ (Or.inl (by omega)))).trans (u13 _ _ (Or.inl (by omega)))).trans (u12 _ _ (Or.inl (by omega)))).trans (u11 _ _ (Or.inl (by omega)))).trans (u10.2 _ _ (Or.inl (by omega)))).trans (u8.2 _ _ (Or.inl (by omega)))).trans (u6.2 _ _ (Or.inl (by omega)))).trans (u4.2 _ _ (Or.inl (by omega)))).trans (u2.2 _ _ (Or.inl (by omega)))), (fun k hk => ((((((((((((((((((c23 k (by omega) (by omega)).trans (congrArg (fun t => rd h22 (o + 13) t) (show (0 : Int).toNat + (k - (0 : Int).toNat) = k by omega))).trans (u22 _ _ (Or.inl (by omega)))).trans (u21 _ _ (Or.inl (by omega)))).trans (u20 _ _ (Or.inl (by omega)))).trans (u19 _ _ (Or.inl (by omega)))).trans (u18 _ _ (Or.inl (by omega)))).trans (u17 _ _ (Or.inl (by omega)))).trans (u16 _ _ (Or.inl (by omega)))).trans (u15 _ _ (Or.inl (by omega)))).trans (u14 _ _ (Or.inl (by omega)))).trans (u13 _ _ (Or.inl (by omega)))).trans (u12 _ _ (Or.inl (by omega)))).trans (u11 _ _ (Or.inl (by omega)))).trans (u10.2 _ _ (Or.inl (by omega)))).trans (u8.2 _ _ (Or.inl (by omega)))).trans (u6.2 _ _ (Or.inl (by omega)))).trans (u4.2 _ _ (Or.inl (by omega)))).trans (u2.2 _ _ (Or.inl (by omega))))⟩
abbrev Q1_image (y : Int32) (h h2 : im_H) : Prop := rd h 23 0 = some (.int y) ∧ bec 51 23 h h2 ∧ rd h2 0 4 = some (.int 1)
set_option maxRecDepth 20000 in
set_option maxHeartbeats 4000000 in
theorem c_X11_image  {h : im_H} (hI : tI h)  : CaP 2 102 [.ref 16] h (fun v h2 => tI h2 ∧ fr F_X11_image h h2 ∧ ∃ y : Int32, v = some (.int y) ∧ Q1_image y h h2) := by
  refine cap_of (d := 1) (M := mX11_image) rfl (Nat.le_of_ble_eq_true rfl) ?_
  show EvP im_K0 1 mX11_image (0, [(0, .ref 16)], [], h) _
  have f0 : fr F_X11_image h h := fr_rf
  refine te_aload_n (p2 := 1) rfl rfl rfl ?_
  refine tg_r (p2 := 4) (i := 0) (r := 67) rfl rfl hI rfl rfl rfl ?_
  refine te_aload_n (p2 := 5) rfl rfl rfl ?_
  refine tg_r (p2 := 8) (i := 0) (r := 39) rfl rfl hI rfl rfl rfl ?_
  obtain ⟨v2, e2, y2, w2, a2, b2, _⟩ := hI.2.1 23 0 (.inl ((-2147483648), 2147483647, 9999999999)) rfl
  subst w2
  refine tc_V (p2 := 11) (i := 51) rfl rfl rfl rfl hI rfl rfl rfl (c_X9_become (s := 51) (o := 23) hI (by decide) (by decide)) (by decide) (fun v1 h1 hq1 => ?_)
  obtain ⟨I1, g1, w1, B1⟩ := hq1
  subst w1
  have f1 := fr_tr (F1 := (F_X9_become 51 23)) (F := F_X11_image) f0 g1 (by decide)
  show EvP _ _ _ (11, [(0, .ref 16)], [], h1) _
  refine te_aload_n (p2 := 12) rfl rfl rfl ?_
  refine te_iconst (p2 := 13) (x := 1) rfl rfl (by decide) ?_
  refine tp_i (p2 := 16) (i := 0) rfl rfl I1 rfl rfl (by decide) rfl rfl rfl (by decide) (by decide) (by decide) rfl (fun h3 I3 u3 => ?_)
  have f3 := fr_st (F := F_X11_image) 0 f1 u3 rfl (by decide) (by decide)
  refine te_aload_n (p2 := 17) rfl rfl rfl ?_
  refine tg_r (p2 := 20) (i := 0) (r := 39) rfl rfl I3 rfl rfl rfl ?_
  refine tg_e (p2 := 23) (i := 23) (v := .int y2) rfl rfl I3 rfl rfl ((u3.2 _ _ (Or.inl (by decide))).trans ((g1 _ _ rfl).trans e2)) ?_
  exact te_iret rfl rfl ⟨I3, f3, _, rfl, e2, (bec_r B1 (fun i k _ _ => u3.2 _ _ (Or.inl (by omega)))), u3.1⟩
abbrev Q1_back (y : Int32) (h h2 : im_H) : Prop := ∃ b : Int32, rd h 0 4 = some (.int b) ∧ ((b.toInt = 0 ∧ y = -3 ∧ h2 = h) ∨ (b.toInt ≠ 0 ∧ rd h 51 0 = some (.int y) ∧ bec 23 51 h h2))
set_option maxRecDepth 20000 in
set_option maxHeartbeats 4000000 in
theorem c_X11_back  {h : im_H} (hI : tI h)  : CaP 2 103 [.ref 16] h (fun v h2 => tI h2 ∧ fr F_X11_back h h2 ∧ ∃ y : Int32, v = some (.int y) ∧ Q1_back y h h2) := by
  refine cap_of (d := 1) (M := mX11_back) rfl (Nat.le_of_ble_eq_true rfl) ?_
  show EvP im_K0 1 mX11_back (0, [(0, .ref 16)], [], h) _
  have f0 : fr F_X11_back h h := fr_rf
  refine te_aload_n (p2 := 1) rfl rfl rfl ?_
  refine tg_i (p2 := 4) (i := 0) rfl rfl hI rfl rfl rfl (fun y1 a1 b1 e1 => ?_)
  refine tz_ne (p2 := 7) rfl rfl rfl (fun c2 => ?_) (fun c2 => ?_)
  · refine te_aload_n (p2 := 11) rfl rfl rfl ?_
    refine tg_r (p2 := 14) (i := 0) (r := 39) rfl rfl hI rfl rfl rfl ?_
    refine te_aload_n (p2 := 15) rfl rfl rfl ?_
    refine tg_r (p2 := 18) (i := 0) (r := 67) rfl rfl hI rfl rfl rfl ?_
    obtain ⟨v4, e4, y4, w4, a4, b4, _⟩ := hI.2.1 51 0 (.inl ((-2147483648), 2147483647, 9999999999)) rfl
    subst w4
    refine tc_V (p2 := 21) (i := 23) rfl rfl rfl rfl hI rfl rfl rfl (c_X9_become (s := 23) (o := 51) hI (by decide) (by decide)) (by decide) (fun v3 h3 hq3 => ?_)
    obtain ⟨I3, g3, w3, B3⟩ := hq3
    subst w3
    have f3 := fr_tr (F1 := (F_X9_become 23 51)) (F := F_X11_back) f0 g3 (by decide)
    show EvP _ _ _ (21, [(0, .ref 16)], [], h3) _
    refine te_aload_n (p2 := 22) rfl rfl rfl ?_
    refine tg_r (p2 := 25) (i := 0) (r := 39) rfl rfl I3 rfl rfl rfl ?_
    refine tg_e (p2 := 28) (i := 23) (v := .int y4) rfl rfl I3 rfl rfl (B3.1.1.trans e4) ?_
    exact te_iret rfl rfl ⟨I3, f3, _, rfl, y1, e1, Or.inr ⟨by omega, e4, B3⟩⟩
  · refine te_bipush (p2 := 9) (x := (-3)) rfl rfl (by decide) ?_
    exact te_iret rfl rfl ⟨hI, f0, _, rfl, y1, e1, Or.inl ⟨by omega, rfl, rfl⟩⟩
abbrev Q2_image (y : Int32) (h h2 : im_H) : Prop := rd h 149 105 = some (.int y) ∧ (∀ k : Nat, (k : Int) < 283 → rd h2 151 k = rd h 149 k) ∧ rd h2 148 3 = some (.int 1)
set_option maxRecDepth 20000 in
set_option maxHeartbeats 4000000 in
theorem c_X12_image  {h : im_H} (hI : tI h)  : CaP 1 189 [.ref 164] h (fun v h2 => tI h2 ∧ fr F_X12_image h h2 ∧ ∃ y : Int32, v = some (.int y) ∧ Q2_image y h h2) := by
  refine cap_of (d := 0) (M := mX12_image) rfl (Nat.le_of_ble_eq_true rfl) ?_
  show EvP im_K0 0 mX12_image (0, [(0, .ref 164)], [], h) _
  have f0 : fr F_X12_image h h := fr_rf
  refine te_iconst (p2 := 1) (x := 0) rfl rfl (by decide) ?_
  refine te_istore_n (p2 := 2) (lv2 := [(1, .int 0), (0, .ref 164)]) rfl rfl (by decide) rfl ?_
  have lp1 : ∀ (n1 : Nat) (v1_1 : Int32) (h1 : im_H), tI h1 → fr F_X12_image h h1 → 0 ≤ v1_1.toInt → v1_1.toInt ≤ 283 → (∀ k : Nat, (k : Int) < v1_1.toInt → rd h1 151 k = rd h 149 k) → 283 - v1_1.toInt < (n1 : Int) → EvP im_K0 0 mX12_image (2, [(0, .ref 164), (1, .int v1_1)], [], h1) (fun v h2 => tI h2 ∧ fr F_X12_image h h2 ∧ ∃ y : Int32, v = some (.int y) ∧ Q2_image y h h2) := by
    intro n1
    induction n1 with
    | zero => intro v1_1 h1 I1 f1 a1_1 b1_1 w1_0 m1; exfalso; omega
    | succ n1 ih1 =>
      intro v1_1 h1 I1 f1 a1_1 b1_1 w1_0 m1
      refine te_iload_n (p2 := 3) rfl rfl rfl ?_
      refine te_sipush (p2 := 6) (x := 283) rfl rfl (by decide) ?_
      refine tb_ge (p2 := 9) rfl rfl rfl (show Int32.toInt 283 = 283 from rfl) (fun c2 => ?_) (fun c2 => ?_)
      · refine te_aload_n (p2 := 28) rfl rfl rfl ?_
        refine te_iconst (p2 := 29) (x := 1) rfl rfl (by decide) ?_
        refine tp_i (p2 := 32) (i := 148) rfl rfl I1 rfl rfl (by decide) rfl rfl rfl (by decide) (by decide) (by decide) rfl (fun h3 I3 u3 => ?_)
        have f3 := fr_st (F := F_X12_image) 0 f1 u3 rfl (by decide) (by decide)
        refine te_aload_n (p2 := 33) rfl rfl rfl ?_
        refine tg_r (p2 := 36) (i := 148) (r := 165) rfl rfl I3 rfl rfl rfl ?_
        refine te_bipush (p2 := 38) (x := 105) rfl rfl (by decide) ?_
        refine tl_i (p2 := 39) (i := 149) (n := 283) rfl rfl I3 rfl rfl rfl rfl (by decide) (by decide) (fun y4 a4 b4 g4 e4 => ?_)
        exact te_iret rfl rfl ⟨I3, f3, _, rfl, ((f3 149 105 rfl).symm.trans e4), (fun k hk => (u3.2 _ _ (Or.inl (by decide))).trans (w1_0 k (by omega))), u3.1⟩
      · refine te_aload_n (p2 := 10) rfl rfl rfl ?_
        refine tg_r (p2 := 13) (i := 148) (r := 167) rfl rfl I1 rfl rfl rfl ?_
        refine te_iload_n (p2 := 14) rfl rfl rfl ?_
        refine te_aload_n (p2 := 15) rfl rfl rfl ?_
        refine tg_r (p2 := 18) (i := 148) (r := 165) rfl rfl I1 rfl rfl rfl ?_
        refine te_iload_n (p2 := 19) rfl rfl rfl ?_
        refine tl_i (p2 := 20) (i := 149) (n := 283) rfl rfl I1 rfl rfl rfl rfl (by omega) (by omega) (fun y5 a5 b5 g5 e5 => ?_)
        refine ts_i (p2 := 21) (i := 151) (n := 283) rfl rfl I1 rfl rfl rfl rfl (by omega) (by omega) (i32_lo _) (i32_hi _) (i32_ho _) rfl (fun h6 I6 u6 => ?_)
        have f6 := fr_st (F := F_X12_image) 1 f1 u6 rfl (by omega) (by omega)
        refine ar_inc (p2 := 24) (x := v1_1) rfl rfl (by decide) rfl (by decide) rfl (by omega) (by omega) (fun z7 e7 f7 => ?_)
        show EvP _ _ _ (24, [(1, .int z7), (0, .ref 164)], [], h6) _
        refine te_goto rfl ?_
        refine te_lv [(0, .ref 164), (1, .int z7)] rfl rfl ⟨rfl, rfl, trivial⟩ ?_
        exact ih1 z7 h6 I6 f6 (by omega) (by omega) (fun k hk => by (by_cases hc : k = v1_1.toInt.toNat); (· rw [hc]; exact u6.1.trans ((((u6.2 _ _ (Or.inl (by decide))).trans e5)).symm.trans (f6 149 _ rfl))); (· exact (u6.2 _ _ (Or.inr hc)).trans (w1_0 k (by omega)))) (by omega)
  refine te_lv [(0, .ref 164), (1, .int 0)] rfl rfl ⟨rfl, rfl, trivial⟩ ?_
  exact lp1 284 0 h hI f0 (by decide) (by decide) (fun k hk => by exfalso; have := (show Int32.toInt 0 = 0 from rfl); omega) (by have cc0 := (show Int32.toInt 0 = 0 from rfl); omega)
abbrev Q2_back (y : Int32) (h h2 : im_H) : Prop := ∃ b : Int32, rd h 148 3 = some (.int b) ∧ ((b.toInt = 0 ∧ y = -3 ∧ h2 = h) ∨ (b.toInt ≠ 0 ∧ rd h 151 105 = some (.int y) ∧ (∀ k : Nat, (k : Int) < 283 → rd h2 149 k = rd h 151 k)))
set_option maxRecDepth 20000 in
set_option maxHeartbeats 4000000 in
theorem c_X12_back  {h : im_H} (hI : tI h)  : CaP 1 190 [.ref 164] h (fun v h2 => tI h2 ∧ fr F_X12_back h h2 ∧ ∃ y : Int32, v = some (.int y) ∧ Q2_back y h h2) := by
  refine cap_of (d := 0) (M := mX12_back) rfl (Nat.le_of_ble_eq_true rfl) ?_
  show EvP im_K0 0 mX12_back (0, [(0, .ref 164)], [], h) _
  have f0 : fr F_X12_back h h := fr_rf
  refine te_aload_n (p2 := 1) rfl rfl rfl ?_
  refine tg_i (p2 := 4) (i := 148) rfl rfl hI rfl rfl rfl (fun y1 a1 b1 e1 => ?_)
  refine tz_ne (p2 := 7) rfl rfl rfl (fun c2 => ?_) (fun c2 => ?_)
  · refine te_iconst (p2 := 11) (x := 0) rfl rfl (by decide) ?_
    refine te_istore_n (p2 := 12) (lv2 := [(1, .int 0), (0, .ref 164)]) rfl rfl (by decide) rfl ?_
    have lp3 : ∀ (n3 : Nat) (v3_1 : Int32) (h3 : im_H), tI h3 → fr F_X12_back h h3 → 0 ≤ v3_1.toInt → v3_1.toInt ≤ 283 → (∀ k : Nat, (k : Int) < v3_1.toInt → rd h3 149 k = rd h 151 k) → 283 - v3_1.toInt < (n3 : Int) → EvP im_K0 0 mX12_back (12, [(0, .ref 164), (1, .int v3_1)], [], h3) (fun v h2 => tI h2 ∧ fr F_X12_back h h2 ∧ ∃ y : Int32, v = some (.int y) ∧ Q2_back y h h2) := by
      intro n3
      induction n3 with
      | zero => intro v3_1 h3 I3 f3 a3_1 b3_1 w3_0 m3; exfalso; omega
      | succ n3 ih3 =>
        intro v3_1 h3 I3 f3 a3_1 b3_1 w3_0 m3
        refine te_iload_n (p2 := 13) rfl rfl rfl ?_
        refine te_sipush (p2 := 16) (x := 283) rfl rfl (by decide) ?_
        refine tb_ge (p2 := 19) rfl rfl rfl (show Int32.toInt 283 = 283 from rfl) (fun c4 => ?_) (fun c4 => ?_)
        · refine te_aload_n (p2 := 38) rfl rfl rfl ?_
          refine tg_r (p2 := 41) (i := 148) (r := 165) rfl rfl I3 rfl rfl rfl ?_
          refine te_bipush (p2 := 43) (x := 105) rfl rfl (by decide) ?_
          refine tl_i (p2 := 44) (i := 149) (n := 283) rfl rfl I3 rfl rfl rfl rfl (by decide) (by decide) (fun y5 a5 b5 g5 e5 => ?_)
          exact te_iret rfl rfl ⟨I3, f3, _, rfl, y1, e1, Or.inr ⟨by omega, (w3_0 105 (by omega)).symm.trans e5, (fun k hk => w3_0 k (by omega))⟩⟩
        · refine te_aload_n (p2 := 20) rfl rfl rfl ?_
          refine tg_r (p2 := 23) (i := 148) (r := 165) rfl rfl I3 rfl rfl rfl ?_
          refine te_iload_n (p2 := 24) rfl rfl rfl ?_
          refine te_aload_n (p2 := 25) rfl rfl rfl ?_
          refine tg_r (p2 := 28) (i := 148) (r := 167) rfl rfl I3 rfl rfl rfl ?_
          refine te_iload_n (p2 := 29) rfl rfl rfl ?_
          refine tl_i (p2 := 30) (i := 151) (n := 283) rfl rfl I3 rfl rfl rfl rfl (by omega) (by omega) (fun y6 a6 b6 g6 e6 => ?_)
          refine ts_i (p2 := 31) (i := 149) (n := 283) rfl rfl I3 rfl rfl rfl rfl (by omega) (by omega) (i32_lo _) (i32_hi _) (i32_ho _) rfl (fun h7 I7 u7 => ?_)
          have f7 := fr_st (F := F_X12_back) 0 f3 u7 rfl (by omega) (by omega)
          refine ar_inc (p2 := 34) (x := v3_1) rfl rfl (by decide) rfl (by decide) rfl (by omega) (by omega) (fun z8 e8 f8 => ?_)
          show EvP _ _ _ (34, [(1, .int z8), (0, .ref 164)], [], h7) _
          refine te_goto rfl ?_
          refine te_lv [(0, .ref 164), (1, .int z8)] rfl rfl ⟨rfl, rfl, trivial⟩ ?_
          exact ih3 z8 h7 I7 f7 (by omega) (by omega) (fun k hk => by (by_cases hc : k = v3_1.toInt.toNat); (· rw [hc]; exact u7.1.trans ((((u7.2 _ _ (Or.inl (by decide))).trans e6)).symm.trans (f7 151 _ rfl))); (· exact (u7.2 _ _ (Or.inr hc)).trans (w3_0 k (by omega)))) (by omega)
    refine te_lv [(0, .ref 164), (1, .int 0)] rfl rfl ⟨rfl, rfl, trivial⟩ ?_
    exact lp3 284 0 h hI f0 (by decide) (by decide) (fun k hk => by exfalso; have := (show Int32.toInt 0 = 0 from rfl); omega) (by have cc0 := (show Int32.toInt 0 = 0 from rfl); omega)
  · refine te_bipush (p2 := 9) (x := (-3)) rfl rfl (by decide) ?_
    exact te_iret rfl rfl ⟨hI, f0, _, rfl, y1, e1, Or.inl ⟨by omega, rfl, rfl⟩⟩
set_option maxRecDepth 20000 in
set_option maxHeartbeats 4000000 in
theorem c_X12_lays {back : Int32} {h : im_H} (hI : tI h) (p_back0 : 0 ≤ back.toInt) (p_back1 : back.toInt ≤ 1) : CaP 1 186 [.ref 164, .int back] h (fun v h2 => tI h2 ∧ fr F_X12_lays h h2 ∧ v = none ∧ (back.toInt = 0 → (∀ k : Nat, (k : Int) < 283 → rd h2 150 k = rd h 149 k) ∧ ∀ k : Nat, rd h2 149 k = rd h 149 k) ∧ (back.toInt ≠ 0 → (∀ k : Nat, (k : Int) < 283 → rd h2 149 k = rd h 150 k) ∧ ∀ k : Nat, rd h2 150 k = rd h 150 k)) := by
  refine cap_of (d := 0) (M := mX12_lays) rfl (Nat.le_of_ble_eq_true rfl) ?_
  show EvP im_K0 0 mX12_lays (0, [(0, .ref 164), (1, .int back)], [], h) _
  have f0 : fr F_X12_lays h h := fr_rf
  refine te_iconst (p2 := 1) (x := 0) rfl rfl (by decide) ?_
  refine te_istore_n (p2 := 2) (lv2 := [(2, .int 0), (0, .ref 164), (1, .int back)]) rfl rfl (by decide) rfl ?_
  have lp1 : ∀ (n1 : Nat) (v1_2 : Int32) (h1 : im_H), tI h1 → fr F_X12_lays h h1 → 0 ≤ v1_2.toInt → v1_2.toInt ≤ 283 → ((back.toInt = 0 → (∀ k : Nat, (k : Int) < v1_2.toInt → rd h1 150 k = rd h 149 k) ∧ ∀ k : Nat, rd h1 149 k = rd h 149 k) ∧ (back.toInt ≠ 0 → (∀ k : Nat, (k : Int) < v1_2.toInt → rd h1 149 k = rd h 150 k) ∧ ∀ k : Nat, rd h1 150 k = rd h 150 k)) → 283 - v1_2.toInt < (n1 : Int) → EvP im_K0 0 mX12_lays (2, [(0, .ref 164), (1, .int back), (2, .int v1_2)], [], h1) (fun v h2 => tI h2 ∧ fr F_X12_lays h h2 ∧ v = none ∧ (back.toInt = 0 → (∀ k : Nat, (k : Int) < 283 → rd h2 150 k = rd h 149 k) ∧ ∀ k : Nat, rd h2 149 k = rd h 149 k) ∧ (back.toInt ≠ 0 → (∀ k : Nat, (k : Int) < 283 → rd h2 149 k = rd h 150 k) ∧ ∀ k : Nat, rd h2 150 k = rd h 150 k)) := by
    intro n1
    induction n1 with
    | zero => intro v1_2 h1 I1 f1 a1_2 b1_2 w1_0 m1; exfalso; omega
    | succ n1 ih1 =>
      intro v1_2 h1 I1 f1 a1_2 b1_2 w1_0 m1
      refine te_iload_n (p2 := 3) rfl rfl rfl ?_
      refine te_sipush (p2 := 6) (x := 283) rfl rfl (by decide) ?_
      refine tb_ge (p2 := 9) rfl rfl rfl (show Int32.toInt 283 = 283 from rfl) (fun c2 => ?_) (fun c2 => ?_)
      · exact te_vret rfl rfl ⟨I1, f1, rfl, ⟨fun hb => ⟨fun k hk => (w1_0.1 hb).1 k (by omega), (w1_0.1 hb).2⟩, fun hb => ⟨fun k hk => (w1_0.2 hb).1 k (by omega), (w1_0.2 hb).2⟩⟩⟩
      · refine te_iload_n (p2 := 10) rfl rfl rfl ?_
        refine tz_eq (p2 := 13) rfl rfl rfl (fun c3 => ?_) (fun c3 => ?_)
        · refine te_aload_n (p2 := 29) rfl rfl rfl ?_
          refine tg_r (p2 := 32) (i := 148) (r := 166) rfl rfl I1 rfl rfl rfl ?_
          refine te_iload_n (p2 := 33) rfl rfl rfl ?_
          refine te_aload_n (p2 := 34) rfl rfl rfl ?_
          refine tg_r (p2 := 37) (i := 148) (r := 165) rfl rfl I1 rfl rfl rfl ?_
          refine te_iload_n (p2 := 38) rfl rfl rfl ?_
          refine tl_i (p2 := 39) (i := 149) (n := 283) rfl rfl I1 rfl rfl rfl rfl (by omega) (by omega) (fun y4 a4 b4 g4 e4 => ?_)
          refine ts_i (p2 := 40) (i := 150) (n := 283) rfl rfl I1 rfl rfl rfl rfl (by omega) (by omega) (i32_lo _) (i32_hi _) (i32_ho _) rfl (fun h5 I5 u5 => ?_)
          have f5 := fr_st (F := F_X12_lays) 1 f1 u5 rfl (by omega) (by omega)
          refine ar_inc (p2 := 43) (x := v1_2) rfl rfl (by decide) rfl (by decide) rfl (by omega) (by omega) (fun z6 e6 f6 => ?_)
          show EvP _ _ _ (43, [(2, .int z6), (0, .ref 164), (1, .int back)], [], h5) _
          refine te_goto rfl ?_
          refine te_lv [(0, .ref 164), (1, .int back), (2, .int z6)] rfl rfl ⟨rfl, rfl, rfl, trivial⟩ ?_
          exact ih1 z6 h5 I5 f5 (by omega) (by omega) ⟨fun hb => ⟨fun k hk => by (by_cases hc : k = v1_2.toInt.toNat); (· rw [hc]; exact u5.1.trans ((((u5.2 _ _ (Or.inl (by decide))).trans e4)).symm.trans ((u5.2 _ _ (Or.inl (by decide))).trans ((w1_0.1 hb).2 _)))); (· exact (u5.2 _ _ (Or.inr hc)).trans ((w1_0.1 hb).1 k (by omega))), fun k => (u5.2 _ _ (Or.inl (by decide))).trans ((w1_0.1 hb).2 k)⟩, fun hb => absurd (by omega) hb⟩ (by omega)
        · refine te_aload_n (p2 := 14) rfl rfl rfl ?_
          refine tg_r (p2 := 17) (i := 148) (r := 165) rfl rfl I1 rfl rfl rfl ?_
          refine te_iload_n (p2 := 18) rfl rfl rfl ?_
          refine te_aload_n (p2 := 19) rfl rfl rfl ?_
          refine tg_r (p2 := 22) (i := 148) (r := 166) rfl rfl I1 rfl rfl rfl ?_
          refine te_iload_n (p2 := 23) rfl rfl rfl ?_
          refine tl_i (p2 := 24) (i := 150) (n := 283) rfl rfl I1 rfl rfl rfl rfl (by omega) (by omega) (fun y7 a7 b7 g7 e7 => ?_)
          refine ts_i (p2 := 25) (i := 149) (n := 283) rfl rfl I1 rfl rfl rfl rfl (by omega) (by omega) (i32_lo _) (i32_hi _) (i32_ho _) rfl (fun h8 I8 u8 => ?_)
          have f8 := fr_st (F := F_X12_lays) 0 f1 u8 rfl (by omega) (by omega)
          refine te_goto rfl ?_
          refine ar_inc (p2 := 43) (x := v1_2) rfl rfl (by decide) rfl (by decide) rfl (by omega) (by omega) (fun z9 e9 f9 => ?_)
          show EvP _ _ _ (43, [(2, .int z9), (0, .ref 164), (1, .int back)], [], h8) _
          refine te_goto rfl ?_
          refine te_lv [(0, .ref 164), (1, .int back), (2, .int z9)] rfl rfl ⟨rfl, rfl, rfl, trivial⟩ ?_
          exact ih1 z9 h8 I8 f8 (by omega) (by omega) ⟨fun hb => absurd hb (by omega), fun hb => ⟨fun k hk => by (by_cases hc : k = v1_2.toInt.toNat); (· rw [hc]; exact u8.1.trans ((((u8.2 _ _ (Or.inl (by decide))).trans e7)).symm.trans ((u8.2 _ _ (Or.inl (by decide))).trans ((w1_0.2 hb).2 _)))); (· exact (u8.2 _ _ (Or.inr hc)).trans ((w1_0.2 hb).1 k (by omega))), fun k => (u8.2 _ _ (Or.inl (by decide))).trans ((w1_0.2 hb).2 k)⟩⟩ (by omega)
  refine te_lv [(0, .ref 164), (1, .int back), (2, .int 0)] rfl rfl ⟨rfl, rfl, rfl, trivial⟩ ?_
  exact lp1 284 0 h hI f0 (by decide) (by decide) ⟨fun _ => ⟨(fun k hk => by exfalso; have := (show Int32.toInt 0 = 0 from rfl); omega), fun k => rfl⟩, fun _ => ⟨(fun k hk => by exfalso; have := (show Int32.toInt 0 = 0 from rfl); omega), fun k => rfl⟩⟩ (by have cc0 := (show Int32.toInt 0 = 0 from rfl); omega)
abbrev Q2_beside (x1 x2 : Int32) (y : Int64) (h h2 : im_H) : Prop := ∀ k : Nat, (k : Int) < 283 → rd h2 149 k = rd h 149 k
set_option maxRecDepth 20000 in
set_option maxHeartbeats 4000000 in
theorem c_X12_beside {x1 : Int32} {x2 : Int32} {h : im_H} (hI : tI h)  : CaP 9 187 [.ref 164, .int x1, .int x2] h (fun v h2 => tI h2 ∧ fr F_X12_beside h h2 ∧ ∃ y : Int64, v = some (.long y) ∧ Q2_beside x1 x2 y h h2) := by
  refine cap_of (d := 8) (M := mX12_beside) rfl (Nat.le_of_ble_eq_true rfl) ?_
  show EvP im_K0 8 mX12_beside (0, [(0, .ref 164), (1, .int x1), (2, .int x2)], [], h) _
  have f0 : fr F_X12_beside h h := fr_rf
  refine te_iload_n (p2 := 1) rfl rfl rfl ?_
  refine te_iconst (p2 := 2) (x := 1) rfl rfl (by decide) ?_
  refine te_bipush (p2 := 4) (x := 60) rfl rfl (by decide) ?_
  refine cS_pI (p2 := 7) rfl rfl rfl rfl (t_X12_in (n := x1) (a := 1) (b := 60) hI ) (by decide) (fun y1 r1 => ?_)
  rcases r1 with ⟨w1, c1⟩ | ⟨w1, c1⟩
  · subst w1
    have cc1_1 := (show Int32.toInt 1 = 1 from rfl)
    have cc1_2 := (show Int32.toInt 60 = 60 from rfl)
    refine tz_eq (p2 := 10) rfl rfl (show Int32.toInt 1 = 1 from rfl) (fun c2 => absurd c2 (by omega)) (fun c2 => ?_)
    refine te_iload_n (p2 := 11) rfl rfl rfl ?_
    refine te_iconst (p2 := 12) (x := 0) rfl rfl (by decide) ?_
    refine te_iconst (p2 := 13) (x := 3) rfl rfl (by decide) ?_
    refine cS_pI (p2 := 16) rfl rfl rfl rfl (t_X12_in (n := x2) (a := 0) (b := 3) hI ) (by decide) (fun y3 r3 => ?_)
    rcases r3 with ⟨w3, c3⟩ | ⟨w3, c3⟩
    · subst w3
      have cc3_1 := (show Int32.toInt 0 = 0 from rfl)
      have cc3_2 := (show Int32.toInt 3 = 3 from rfl)
      refine tz_eq (p2 := 19) rfl rfl (show Int32.toInt 1 = 1 from rfl) (fun c4 => absurd c4 (by omega)) (fun c4 => ?_)
      refine te_aload_n (p2 := 20) rfl rfl rfl ?_
      refine tg_r (p2 := 23) (i := 148) (r := 165) rfl rfl hI rfl rfl rfl ?_
      refine te_bipush (p2 := 25) (x := 105) rfl rfl (by decide) ?_
      refine tl_i (p2 := 26) (i := 149) (n := 283) rfl rfl hI rfl rfl rfl rfl (by decide) (by decide) (fun y5 a5 b5 g5 e5 => ?_)
      refine te_iload_n (p2 := 27) rfl rfl rfl ?_
      refine au_add (p2 := 28) rfl rfl (fun z6 e6 => ?_)
      refine te_sipush (p2 := 31) (x := 2000) rfl rfl (by decide) ?_
      refine tb_le (p2 := 34) rfl rfl rfl (show Int32.toInt 2000 = 2000 from rfl) (fun c7 => ?_) (fun c7 => ?_)
      · refine te_aload_n (p2 := 39) rfl rfl rfl ?_
        refine te_iconst (p2 := 40) (x := 0) rfl rfl (by decide) ?_
        refine tc_V (p2 := 43) (i := 148) rfl rfl rfl rfl hI rfl rfl rfl (c_X12_lays (back := 0) hI (by decide) (by decide)) (by decide) (fun v8 h8 hq8 => ?_)
        obtain ⟨I8, g8, w8, L8⟩ := hq8
        subst w8
        have f8 := fr_tr (F1 := F_X12_lays) (F := F_X12_beside) f0 g8 (by decide)
        show EvP _ _ _ (43, [(0, .ref 164), (1, .int x1), (2, .int x2)], [], h8) _
        refine te_iload_n (p2 := 44) rfl rfl rfl ?_
        refine te_iconst (p2 := 45) (x := 1) rfl rfl (by decide) ?_
        refine tb_ne (p2 := 48) rfl rfl rfl (show Int32.toInt 1 = 1 from rfl) (fun c9 => ?_) (fun c9 => ?_)
        · refine te_iload_n (p2 := 59) rfl rfl rfl ?_
          refine te_iconst (p2 := 60) (x := 2) rfl rfl (by decide) ?_
          refine tb_ne (p2 := 63) rfl rfl rfl (show Int32.toInt 2 = 2 from rfl) (fun c10 => ?_) (fun c10 => ?_)
          · refine te_iconst (p2 := 78) (x := 0) rfl rfl (by decide) ?_
            refine te_istore_n (p2 := 79) (lv2 := [(3, .int 0), (0, .ref 164), (1, .int x1), (2, .int x2)]) rfl rfl (by decide) rfl ?_
            refine te_iconst (p2 := 80) (x := 0) rfl rfl (by decide) ?_
            refine te_istore (p2 := 82) (lv2 := [(4, .int 0), (3, .int 0), (0, .ref 164), (1, .int x1), (2, .int x2)]) rfl rfl (by decide) rfl ?_
            have lp11 : ∀ (n11 : Nat) (v11_4 : Int32) (h11 : im_H), tI h11 → fr F_X12_beside h h11 → 0 ≤ v11_4.toInt → v11_4.toInt ≤ 60 → v11_4.toInt ≤ x1.toInt → (∀ k : Nat, (k : Int) < 283 → rd h11 150 k = rd h 149 k) → x1.toInt - v11_4.toInt < (n11 : Int) → EvP im_K0 8 mX12_beside (82, [(0, .ref 164), (1, .int x1), (2, .int x2), (3, .int 0), (4, .int v11_4)], [], h11) (fun v h2 => tI h2 ∧ fr F_X12_beside h h2 ∧ ∃ y : Int64, v = some (.long y) ∧ Q2_beside x1 x2 y h h2) := by
              intro n11
              induction n11 with
              | zero => intro v11_4 h11 I11 f11 a11_4 b11_4 l11_0 w11_0 m11; exfalso; omega
              | succ n11 ih11 =>
                intro v11_4 h11 I11 f11 a11_4 b11_4 l11_0 w11_0 m11
                refine te_iload (p2 := 84) rfl rfl rfl ?_
                refine te_iload_n (p2 := 85) rfl rfl rfl ?_
                refine tb_ge (p2 := 88) rfl rfl rfl rfl (fun c12 => ?_) (fun c12 => ?_)
                · refine te_iload_n (p2 := 99) rfl rfl rfl ?_
                  refine tz_ne (p2 := 102) rfl rfl rfl (fun c13 => ?_) (fun c13 => ?_)
                  · refine te_iload_n (p2 := 113) rfl rfl rfl ?_
                    refine te_iconst (p2 := 114) (x := 1) rfl rfl (by decide) ?_
                    refine tb_ne (p2 := 117) rfl rfl rfl (show Int32.toInt 1 = 1 from rfl) (fun c14 => ?_) (fun c14 => ?_)
                    · refine te_iload_n (p2 := 130) rfl rfl rfl ?_
                      refine te_iconst (p2 := 131) (x := 2) rfl rfl (by decide) ?_
                      refine tb_ne (p2 := 134) rfl rfl rfl (show Int32.toInt 2 = 2 from rfl) (fun c15 => ?_) (fun c15 => ?_)
                      · refine te_aload_n (p2 := 151) rfl rfl rfl ?_
                        refine te_sipush (p2 := 154) (x := 164) rfl rfl (by decide) ?_
                        refine te_aload_n (p2 := 155) rfl rfl rfl ?_
                        refine tg_i (p2 := 158) (i := 148) rfl rfl I11 rfl rfl rfl (fun y16 a16 b16 e16 => ?_)
                        refine cV_pI (p2 := 161) (i := 148) rfl rfl rfl rfl I11 rfl rfl rfl (t_X12_sum (frm := 164) (many := y16) I11 (by decide) (by decide) (by omega) (by omega) (by have cq1 := (show Int32.toInt 164 = 164 from rfl); omega)) (by decide) (fun y17 r17 => ?_)
                        refine te_istore (p2 := 163) (lv2 := [(4, .int y17), (0, .ref 164), (1, .int x1), (2, .int x2), (3, .int 0)]) rfl rfl (by decide) rfl ?_
                        refine te_aload_n (p2 := 164) rfl rfl rfl ?_
                        refine te_iconst (p2 := 165) (x := 1) rfl rfl (by decide) ?_
                        refine tc_V (p2 := 168) (i := 148) rfl rfl rfl rfl I11 rfl rfl rfl (c_X12_lays (back := 1) I11 (by decide) (by decide)) (by decide) (fun v18 h18 hq18 => ?_)
                        obtain ⟨I18, g18, w18, L18⟩ := hq18
                        subst w18
                        have f18 := fr_tr (F1 := F_X12_lays) (F := F_X12_beside) f11 g18 (by decide)
                        show EvP _ _ _ (168, [(4, .int y17), (0, .ref 164), (1, .int x1), (2, .int x2), (3, .int 0)], [], h18) _
                        refine te_iload (p2 := 170) rfl rfl rfl ?_
                        refine te_i2l (p2 := 171) (z := (Int32.toInt64 y17)) rfl rfl rfl ?_
                        exact te_lret rfl rfl ⟨I18, f18, _, rfl, (fun k hk => ((L18.2 (by decide)).1 k hk).trans (w11_0 k hk))⟩
                      · refine te_aload_n (p2 := 135) rfl rfl rfl ?_
                        refine te_sipush (p2 := 138) (x := 236) rfl rfl (by decide) ?_
                        refine te_aload_n (p2 := 139) rfl rfl rfl ?_
                        refine tg_i (p2 := 142) (i := 148) rfl rfl I11 rfl rfl rfl (fun y19 a19 b19 e19 => ?_)
                        refine cV_pI (p2 := 145) (i := 148) rfl rfl rfl rfl I11 rfl rfl rfl (t_X12_sum (frm := 236) (many := y19) I11 (by decide) (by decide) (by omega) (by omega) (by have cq1 := (show Int32.toInt 236 = 236 from rfl); omega)) (by decide) (fun y20 r20 => ?_)
                        refine te_iload_n (p2 := 146) rfl rfl rfl ?_
                        have n21_y20 := i32_lo y20
                        have o21_y20 := i32_hi y20
                        refine ar_sub (p2 := 147) rfl rfl rfl (show Int32.toInt 0 = 0 from rfl) (by omega) (by omega) (fun z21 e21 f21 => ?_)
                        refine te_goto rfl ?_
                        refine te_istore (p2 := 163) (lv2 := [(4, .int z21), (0, .ref 164), (1, .int x1), (2, .int x2), (3, .int 0)]) rfl rfl (by decide) rfl ?_
                        refine te_aload_n (p2 := 164) rfl rfl rfl ?_
                        refine te_iconst (p2 := 165) (x := 1) rfl rfl (by decide) ?_
                        refine tc_V (p2 := 168) (i := 148) rfl rfl rfl rfl I11 rfl rfl rfl (c_X12_lays (back := 1) I11 (by decide) (by decide)) (by decide) (fun v22 h22 hq22 => ?_)
                        obtain ⟨I22, g22, w22, L22⟩ := hq22
                        subst w22
                        have f22 := fr_tr (F1 := F_X12_lays) (F := F_X12_beside) f11 g22 (by decide)
                        show EvP _ _ _ (168, [(4, .int z21), (0, .ref 164), (1, .int x1), (2, .int x2), (3, .int 0)], [], h22) _
                        refine te_iload (p2 := 170) rfl rfl rfl ?_
                        refine te_i2l (p2 := 171) (z := (Int32.toInt64 z21)) rfl rfl rfl ?_
                        exact te_lret rfl rfl ⟨I22, f22, _, rfl, (fun k hk => ((L22.2 (by decide)).1 k hk).trans (w11_0 k hk))⟩
                    · refine te_aload_n (p2 := 118) rfl rfl rfl ?_
                      refine tg_r (p2 := 121) (i := 148) (r := 165) rfl rfl I11 rfl rfl rfl ?_
                      refine te_bipush (p2 := 123) (x := 100) rfl rfl (by decide) ?_
                      refine tl_i (p2 := 124) (i := 149) (n := 283) rfl rfl I11 rfl rfl rfl rfl (by decide) (by decide) (fun y23 a23 b23 g23 e23 => ?_)
                      refine te_iload_n (p2 := 125) rfl rfl rfl ?_
                      have n24_y23 := i32_lo y23
                      have o24_y23 := i32_hi y23
                      refine ar_sub (p2 := 126) rfl rfl rfl (show Int32.toInt 0 = 0 from rfl) (by omega) (by omega) (fun z24 e24 f24 => ?_)
                      refine te_goto rfl ?_
                      refine te_istore (p2 := 163) (lv2 := [(4, .int z24), (0, .ref 164), (1, .int x1), (2, .int x2), (3, .int 0)]) rfl rfl (by decide) rfl ?_
                      refine te_aload_n (p2 := 164) rfl rfl rfl ?_
                      refine te_iconst (p2 := 165) (x := 1) rfl rfl (by decide) ?_
                      refine tc_V (p2 := 168) (i := 148) rfl rfl rfl rfl I11 rfl rfl rfl (c_X12_lays (back := 1) I11 (by decide) (by decide)) (by decide) (fun v25 h25 hq25 => ?_)
                      obtain ⟨I25, g25, w25, L25⟩ := hq25
                      subst w25
                      have f25 := fr_tr (F1 := F_X12_lays) (F := F_X12_beside) f11 g25 (by decide)
                      show EvP _ _ _ (168, [(4, .int z24), (0, .ref 164), (1, .int x1), (2, .int x2), (3, .int 0)], [], h25) _
                      refine te_iload (p2 := 170) rfl rfl rfl ?_
                      refine te_i2l (p2 := 171) (z := (Int32.toInt64 z24)) rfl rfl rfl ?_
                      exact te_lret rfl rfl ⟨I25, f25, _, rfl, (fun k hk => ((L25.2 (by decide)).1 k hk).trans (w11_0 k hk))⟩
                  · refine te_aload_n (p2 := 103) rfl rfl rfl ?_
                    refine te_iconst (p2 := 104) (x := 0) rfl rfl (by decide) ?_
                    refine te_bipush (p2 := 106) (x := 100) rfl rfl (by decide) ?_
                    refine cV_pI (p2 := 109) (i := 148) rfl rfl rfl rfl I11 rfl rfl rfl (t_X12_sum (frm := 0) (many := 100) I11 (by decide) (by decide) (by decide) (by decide) (by have cq1 := (show Int32.toInt 0 = 0 from rfl); have cq2 := (show Int32.toInt 100 = 100 from rfl); omega)) (by decide) (fun y26 r26 => ?_)
                    refine te_goto rfl ?_
                    refine te_istore (p2 := 163) (lv2 := [(4, .int y26), (0, .ref 164), (1, .int x1), (2, .int x2), (3, .int 0)]) rfl rfl (by decide) rfl ?_
                    refine te_aload_n (p2 := 164) rfl rfl rfl ?_
                    refine te_iconst (p2 := 165) (x := 1) rfl rfl (by decide) ?_
                    refine tc_V (p2 := 168) (i := 148) rfl rfl rfl rfl I11 rfl rfl rfl (c_X12_lays (back := 1) I11 (by decide) (by decide)) (by decide) (fun v27 h27 hq27 => ?_)
                    obtain ⟨I27, g27, w27, L27⟩ := hq27
                    subst w27
                    have f27 := fr_tr (F1 := F_X12_lays) (F := F_X12_beside) f11 g27 (by decide)
                    show EvP _ _ _ (168, [(4, .int y26), (0, .ref 164), (1, .int x1), (2, .int x2), (3, .int 0)], [], h27) _
                    refine te_iload (p2 := 170) rfl rfl rfl ?_
                    refine te_i2l (p2 := 171) (z := (Int32.toInt64 y26)) rfl rfl rfl ?_
                    exact te_lret rfl rfl ⟨I27, f27, _, rfl, (fun k hk => ((L27.2 (by decide)).1 k hk).trans (w11_0 k hk))⟩
                · refine te_aload_n (p2 := 89) rfl rfl rfl ?_
                  refine cV_mV (p2 := 92) (i := 148) rfl rfl rfl rfl I11 rfl rfl rfl (t_X12_goes  I11 ) (by decide) (fun h28 I28 g28 => ?_)
                  have f28 := fr_tr (F1 := F_X12_goes) (F := F_X12_beside) f11 g28 (by decide)
                  refine ar_inc (p2 := 95) (x := v11_4) rfl rfl (by decide) rfl (by decide) rfl (by omega) (by omega) (fun z29 e29 f29 => ?_)
                  show EvP _ _ _ (95, [(4, .int z29), (0, .ref 164), (1, .int x1), (2, .int x2), (3, .int 0)], [], h28) _
                  refine te_goto rfl ?_
                  refine te_lv [(0, .ref 164), (1, .int x1), (2, .int x2), (3, .int 0), (4, .int z29)] rfl rfl ⟨rfl, rfl, rfl, rfl, rfl, trivial⟩ ?_
                  exact ih11 z29 h28 I28 f28 (by omega) (by omega) (by have cc0 := (show Int32.toInt 0 = 0 from rfl); omega) (fun k hk => (g28 150 _ rfl).trans (w11_0 k hk)) (by have cc0 := (show Int32.toInt 0 = 0 from rfl); omega)
            refine te_lv [(0, .ref 164), (1, .int x1), (2, .int x2), (3, .int 0), (4, .int 0)] rfl rfl ⟨rfl, rfl, rfl, rfl, rfl, trivial⟩ ?_
            exact lp11 61 0 h8 I8 f8 (by decide) (by decide) (by have cc0 := (show Int32.toInt 0 = 0 from rfl); omega) (L8.1 (by decide)).1 (by have cc0 := (show Int32.toInt 0 = 0 from rfl); omega)
          · refine te_aload_n (p2 := 64) rfl rfl rfl ?_
            refine te_sipush (p2 := 67) (x := 236) rfl rfl (by decide) ?_
            refine te_aload_n (p2 := 68) rfl rfl rfl ?_
            refine tg_i (p2 := 71) (i := 148) rfl rfl I8 rfl rfl rfl (fun y30 a30 b30 e30 => ?_)
            refine cV_pI (p2 := 74) (i := 148) rfl rfl rfl rfl I8 rfl rfl rfl (t_X12_sum (frm := 236) (many := y30) I8 (by decide) (by decide) (by omega) (by omega) (by have cq1 := (show Int32.toInt 236 = 236 from rfl); omega)) (by decide) (fun y31 r31 => ?_)
            refine te_goto rfl ?_
            refine te_istore_n (p2 := 79) (lv2 := [(3, .int y31), (0, .ref 164), (1, .int x1), (2, .int x2)]) rfl rfl (by decide) rfl ?_
            refine te_iconst (p2 := 80) (x := 0) rfl rfl (by decide) ?_
            refine te_istore (p2 := 82) (lv2 := [(4, .int 0), (3, .int y31), (0, .ref 164), (1, .int x1), (2, .int x2)]) rfl rfl (by decide) rfl ?_
            have lp32 : ∀ (n32 : Nat) (v32_4 : Int32) (h32 : im_H), tI h32 → fr F_X12_beside h h32 → 0 ≤ v32_4.toInt → v32_4.toInt ≤ 60 → v32_4.toInt ≤ x1.toInt → (∀ k : Nat, (k : Int) < 283 → rd h32 150 k = rd h 149 k) → x1.toInt - v32_4.toInt < (n32 : Int) → EvP im_K0 8 mX12_beside (82, [(0, .ref 164), (1, .int x1), (2, .int x2), (3, .int y31), (4, .int v32_4)], [], h32) (fun v h2 => tI h2 ∧ fr F_X12_beside h h2 ∧ ∃ y : Int64, v = some (.long y) ∧ Q2_beside x1 x2 y h h2) := by
              intro n32
              induction n32 with
              | zero => intro v32_4 h32 I32 f32 a32_4 b32_4 l32_0 w32_0 m32; exfalso; omega
              | succ n32 ih32 =>
                intro v32_4 h32 I32 f32 a32_4 b32_4 l32_0 w32_0 m32
                refine te_iload (p2 := 84) rfl rfl rfl ?_
                refine te_iload_n (p2 := 85) rfl rfl rfl ?_
                refine tb_ge (p2 := 88) rfl rfl rfl rfl (fun c33 => ?_) (fun c33 => ?_)
                · refine te_iload_n (p2 := 99) rfl rfl rfl ?_
                  refine tz_ne (p2 := 102) rfl rfl rfl (fun c34 => ?_) (fun c34 => absurd c34 (by omega))
                  refine te_iload_n (p2 := 113) rfl rfl rfl ?_
                  refine te_iconst (p2 := 114) (x := 1) rfl rfl (by decide) ?_
                  refine tb_ne (p2 := 117) rfl rfl rfl (show Int32.toInt 1 = 1 from rfl) (fun c35 => ?_) (fun c35 => absurd c35 (by omega))
                  refine te_iload_n (p2 := 130) rfl rfl rfl ?_
                  refine te_iconst (p2 := 131) (x := 2) rfl rfl (by decide) ?_
                  refine tb_ne (p2 := 134) rfl rfl rfl (show Int32.toInt 2 = 2 from rfl) (fun c36 => absurd c36 (by omega)) (fun c36 => ?_)
                  refine te_aload_n (p2 := 135) rfl rfl rfl ?_
                  refine te_sipush (p2 := 138) (x := 236) rfl rfl (by decide) ?_
                  refine te_aload_n (p2 := 139) rfl rfl rfl ?_
                  refine tg_i (p2 := 142) (i := 148) rfl rfl I32 rfl rfl rfl (fun y37 a37 b37 e37 => ?_)
                  refine cV_pI (p2 := 145) (i := 148) rfl rfl rfl rfl I32 rfl rfl rfl (t_X12_sum (frm := 236) (many := y37) I32 (by decide) (by decide) (by omega) (by omega) (by have cq1 := (show Int32.toInt 236 = 236 from rfl); omega)) (by decide) (fun y38 r38 => ?_)
                  refine te_iload_n (p2 := 146) rfl rfl rfl ?_
                  refine au_sub (p2 := 147) rfl rfl (fun z39 e39 => ?_)
                  refine te_goto rfl ?_
                  refine te_istore (p2 := 163) (lv2 := [(4, .int z39), (0, .ref 164), (1, .int x1), (2, .int x2), (3, .int y31)]) rfl rfl (by decide) rfl ?_
                  refine te_aload_n (p2 := 164) rfl rfl rfl ?_
                  refine te_iconst (p2 := 165) (x := 1) rfl rfl (by decide) ?_
                  refine tc_V (p2 := 168) (i := 148) rfl rfl rfl rfl I32 rfl rfl rfl (c_X12_lays (back := 1) I32 (by decide) (by decide)) (by decide) (fun v40 h40 hq40 => ?_)
                  obtain ⟨I40, g40, w40, L40⟩ := hq40
                  subst w40
                  have f40 := fr_tr (F1 := F_X12_lays) (F := F_X12_beside) f32 g40 (by decide)
                  show EvP _ _ _ (168, [(4, .int z39), (0, .ref 164), (1, .int x1), (2, .int x2), (3, .int y31)], [], h40) _
                  refine te_iload (p2 := 170) rfl rfl rfl ?_
                  refine te_i2l (p2 := 171) (z := (Int32.toInt64 z39)) rfl rfl rfl ?_
                  exact te_lret rfl rfl ⟨I40, f40, _, rfl, (fun k hk => ((L40.2 (by decide)).1 k hk).trans (w32_0 k hk))⟩
                · refine te_aload_n (p2 := 89) rfl rfl rfl ?_
                  refine cV_mV (p2 := 92) (i := 148) rfl rfl rfl rfl I32 rfl rfl rfl (t_X12_goes  I32 ) (by decide) (fun h41 I41 g41 => ?_)
                  have f41 := fr_tr (F1 := F_X12_goes) (F := F_X12_beside) f32 g41 (by decide)
                  refine ar_inc (p2 := 95) (x := v32_4) rfl rfl (by decide) rfl (by decide) rfl (by omega) (by omega) (fun z42 e42 f42 => ?_)
                  show EvP _ _ _ (95, [(4, .int z42), (0, .ref 164), (1, .int x1), (2, .int x2), (3, .int y31)], [], h41) _
                  refine te_goto rfl ?_
                  refine te_lv [(0, .ref 164), (1, .int x1), (2, .int x2), (3, .int y31), (4, .int z42)] rfl rfl ⟨rfl, rfl, rfl, rfl, rfl, trivial⟩ ?_
                  exact ih32 z42 h41 I41 f41 (by omega) (by omega) (by omega) (fun k hk => (g41 150 _ rfl).trans (w32_0 k hk)) (by omega)
            refine te_lv [(0, .ref 164), (1, .int x1), (2, .int x2), (3, .int y31), (4, .int 0)] rfl rfl ⟨rfl, rfl, rfl, rfl, rfl, trivial⟩ ?_
            exact lp32 61 0 h8 I8 f8 (by decide) (by decide) (by have cc0 := (show Int32.toInt 0 = 0 from rfl); omega) (L8.1 (by decide)).1 (by have cc0 := (show Int32.toInt 0 = 0 from rfl); omega)
        · refine te_aload_n (p2 := 49) rfl rfl rfl ?_
          refine tg_r (p2 := 52) (i := 148) (r := 165) rfl rfl I8 rfl rfl rfl ?_
          refine te_bipush (p2 := 54) (x := 100) rfl rfl (by decide) ?_
          refine tl_i (p2 := 55) (i := 149) (n := 283) rfl rfl I8 rfl rfl rfl rfl (by decide) (by decide) (fun y43 a43 b43 g43 e43 => ?_)
          refine te_goto rfl ?_
          refine te_istore_n (p2 := 79) (lv2 := [(3, .int y43), (0, .ref 164), (1, .int x1), (2, .int x2)]) rfl rfl (by decide) rfl ?_
          refine te_iconst (p2 := 80) (x := 0) rfl rfl (by decide) ?_
          refine te_istore (p2 := 82) (lv2 := [(4, .int 0), (3, .int y43), (0, .ref 164), (1, .int x1), (2, .int x2)]) rfl rfl (by decide) rfl ?_
          have lp44 : ∀ (n44 : Nat) (v44_4 : Int32) (h44 : im_H), tI h44 → fr F_X12_beside h h44 → 0 ≤ v44_4.toInt → v44_4.toInt ≤ 60 → v44_4.toInt ≤ x1.toInt → (∀ k : Nat, (k : Int) < 283 → rd h44 150 k = rd h 149 k) → x1.toInt - v44_4.toInt < (n44 : Int) → EvP im_K0 8 mX12_beside (82, [(0, .ref 164), (1, .int x1), (2, .int x2), (3, .int y43), (4, .int v44_4)], [], h44) (fun v h2 => tI h2 ∧ fr F_X12_beside h h2 ∧ ∃ y : Int64, v = some (.long y) ∧ Q2_beside x1 x2 y h h2) := by
            intro n44
            induction n44 with
            | zero => intro v44_4 h44 I44 f44 a44_4 b44_4 l44_0 w44_0 m44; exfalso; omega
            | succ n44 ih44 =>
              intro v44_4 h44 I44 f44 a44_4 b44_4 l44_0 w44_0 m44
              refine te_iload (p2 := 84) rfl rfl rfl ?_
              refine te_iload_n (p2 := 85) rfl rfl rfl ?_
              refine tb_ge (p2 := 88) rfl rfl rfl rfl (fun c45 => ?_) (fun c45 => ?_)
              · refine te_iload_n (p2 := 99) rfl rfl rfl ?_
                refine tz_ne (p2 := 102) rfl rfl rfl (fun c46 => ?_) (fun c46 => absurd c46 (by omega))
                refine te_iload_n (p2 := 113) rfl rfl rfl ?_
                refine te_iconst (p2 := 114) (x := 1) rfl rfl (by decide) ?_
                refine tb_ne (p2 := 117) rfl rfl rfl (show Int32.toInt 1 = 1 from rfl) (fun c47 => absurd c47 (by omega)) (fun c47 => ?_)
                refine te_aload_n (p2 := 118) rfl rfl rfl ?_
                refine tg_r (p2 := 121) (i := 148) (r := 165) rfl rfl I44 rfl rfl rfl ?_
                refine te_bipush (p2 := 123) (x := 100) rfl rfl (by decide) ?_
                refine tl_i (p2 := 124) (i := 149) (n := 283) rfl rfl I44 rfl rfl rfl rfl (by decide) (by decide) (fun y48 a48 b48 g48 e48 => ?_)
                refine te_iload_n (p2 := 125) rfl rfl rfl ?_
                refine au_sub (p2 := 126) rfl rfl (fun z49 e49 => ?_)
                refine te_goto rfl ?_
                refine te_istore (p2 := 163) (lv2 := [(4, .int z49), (0, .ref 164), (1, .int x1), (2, .int x2), (3, .int y43)]) rfl rfl (by decide) rfl ?_
                refine te_aload_n (p2 := 164) rfl rfl rfl ?_
                refine te_iconst (p2 := 165) (x := 1) rfl rfl (by decide) ?_
                refine tc_V (p2 := 168) (i := 148) rfl rfl rfl rfl I44 rfl rfl rfl (c_X12_lays (back := 1) I44 (by decide) (by decide)) (by decide) (fun v50 h50 hq50 => ?_)
                obtain ⟨I50, g50, w50, L50⟩ := hq50
                subst w50
                have f50 := fr_tr (F1 := F_X12_lays) (F := F_X12_beside) f44 g50 (by decide)
                show EvP _ _ _ (168, [(4, .int z49), (0, .ref 164), (1, .int x1), (2, .int x2), (3, .int y43)], [], h50) _
                refine te_iload (p2 := 170) rfl rfl rfl ?_
                refine te_i2l (p2 := 171) (z := (Int32.toInt64 z49)) rfl rfl rfl ?_
                exact te_lret rfl rfl ⟨I50, f50, _, rfl, (fun k hk => ((L50.2 (by decide)).1 k hk).trans (w44_0 k hk))⟩
              · refine te_aload_n (p2 := 89) rfl rfl rfl ?_
                refine cV_mV (p2 := 92) (i := 148) rfl rfl rfl rfl I44 rfl rfl rfl (t_X12_goes  I44 ) (by decide) (fun h51 I51 g51 => ?_)
                have f51 := fr_tr (F1 := F_X12_goes) (F := F_X12_beside) f44 g51 (by decide)
                refine ar_inc (p2 := 95) (x := v44_4) rfl rfl (by decide) rfl (by decide) rfl (by omega) (by omega) (fun z52 e52 f52 => ?_)
                show EvP _ _ _ (95, [(4, .int z52), (0, .ref 164), (1, .int x1), (2, .int x2), (3, .int y43)], [], h51) _
                refine te_goto rfl ?_
                refine te_lv [(0, .ref 164), (1, .int x1), (2, .int x2), (3, .int y43), (4, .int z52)] rfl rfl ⟨rfl, rfl, rfl, rfl, rfl, trivial⟩ ?_
                exact ih44 z52 h51 I51 f51 (by omega) (by omega) (by omega) (fun k hk => (g51 150 _ rfl).trans (w44_0 k hk)) (by omega)
          refine te_lv [(0, .ref 164), (1, .int x1), (2, .int x2), (3, .int y43), (4, .int 0)] rfl rfl ⟨rfl, rfl, rfl, rfl, rfl, trivial⟩ ?_
          exact lp44 61 0 h8 I8 f8 (by decide) (by decide) (by have cc0 := (show Int32.toInt 0 = 0 from rfl); omega) (L8.1 (by decide)).1 (by have cc0 := (show Int32.toInt 0 = 0 from rfl); omega)
      · refine te_ldc2 (p2 := 37) (x := (-4611686018427387904)) rfl rfl rfl ?_
        exact te_lret rfl rfl ⟨hI, f0, _, rfl, (fun k hk => rfl)⟩
    · subst w3
      have cc3_1 := (show Int32.toInt 0 = 0 from rfl)
      have cc3_2 := (show Int32.toInt 3 = 3 from rfl)
      refine tz_eq (p2 := 19) rfl rfl (show Int32.toInt 0 = 0 from rfl) (fun c53 => ?_) (fun c53 => absurd c53 (by omega))
      refine te_ldc2 (p2 := 37) (x := (-4611686018427387904)) rfl rfl rfl ?_
      exact te_lret rfl rfl ⟨hI, f0, _, rfl, (fun k hk => rfl)⟩
  · subst w1
    have cc1_1 := (show Int32.toInt 1 = 1 from rfl)
    have cc1_2 := (show Int32.toInt 60 = 60 from rfl)
    refine tz_eq (p2 := 10) rfl rfl (show Int32.toInt 0 = 0 from rfl) (fun c54 => ?_) (fun c54 => absurd c54 (by omega))
    refine te_ldc2 (p2 := 37) (x := (-4611686018427387904)) rfl rfl rfl ?_
    exact te_lret rfl rfl ⟨hI, f0, _, rfl, (fun k hk => rfl)⟩
abbrev Q1_beside (x1 x2 : Int32) (y : Int64) (h h2 : im_H) : Prop := True
set_option maxRecDepth 20000 in
set_option maxHeartbeats 4000000 in
theorem c_X11_beside {x1 : Int32} {x2 : Int32} {h : im_H} (hI : tI h)  : CaP 8 100 [.ref 16, .int x1, .int x2] h (fun v h2 => tI h2 ∧ fr F_X11_beside h h2 ∧ ∃ y : Int64, v = some (.long y) ∧ Q1_beside x1 x2 y h h2) := by
  refine cap_of (d := 7) (M := mX11_beside) rfl (Nat.le_of_ble_eq_true rfl) ?_
  show EvP im_K0 7 mX11_beside (0, [(0, .ref 16), (1, .int x1), (2, .int x2)], [], h) _
  have f0 : fr F_X11_beside h h := fr_rf
  refine te_iload_n (p2 := 1) rfl rfl rfl ?_
  refine te_iconst (p2 := 2) (x := 1) rfl rfl (by decide) ?_
  refine te_bipush (p2 := 4) (x := 60) rfl rfl (by decide) ?_
  refine cS_pI (p2 := 7) rfl rfl rfl rfl (t_X11_between (n := x1) (a := 1) (b := 60) hI ) (by decide) (fun y1 r1 => ?_)
  rcases r1 with ⟨w1, c1⟩ | ⟨w1, c1⟩
  · subst w1
    have cc1_1 := (show Int32.toInt 1 = 1 from rfl)
    have cc1_2 := (show Int32.toInt 60 = 60 from rfl)
    refine tz_eq (p2 := 10) rfl rfl (show Int32.toInt 1 = 1 from rfl) (fun c2 => absurd c2 (by omega)) (fun c2 => ?_)
    refine te_iload_n (p2 := 11) rfl rfl rfl ?_
    refine te_iconst (p2 := 12) (x := 4) rfl rfl (by decide) ?_
    refine cS_pI (p2 := 15) rfl rfl rfl rfl (t_X11_within (n := x2) (b := 4) hI ) (by decide) (fun y3 r3 => ?_)
    rcases r3 with ⟨w3, c3⟩ | ⟨w3, c3⟩
    · subst w3
      have cc3_1 := (show Int32.toInt 4 = 4 from rfl)
      refine tz_eq (p2 := 18) rfl rfl (show Int32.toInt 1 = 1 from rfl) (fun c4 => absurd c4 (by omega)) (fun c4 => ?_)
      refine te_aload_n (p2 := 19) rfl rfl rfl ?_
      refine tg_r (p2 := 22) (i := 0) (r := 39) rfl rfl hI rfl rfl rfl ?_
      refine tg_i (p2 := 25) (i := 23) rfl rfl hI rfl rfl rfl (fun y5 a5 b5 e5 => ?_)
      refine te_iload_n (p2 := 26) rfl rfl rfl ?_
      refine au_add (p2 := 27) rfl rfl (fun z6 e6 => ?_)
      refine te_sipush (p2 := 30) (x := 2000) rfl rfl (by decide) ?_
      refine tb_le (p2 := 33) rfl rfl rfl (show Int32.toInt 2000 = 2000 from rfl) (fun c7 => ?_) (fun c7 => ?_)
      · refine te_aload_n (p2 := 38) rfl rfl rfl ?_
        refine tg_r (p2 := 41) (i := 0) (r := 53) rfl rfl hI rfl rfl rfl ?_
        refine te_aload_n (p2 := 42) rfl rfl rfl ?_
        refine tg_r (p2 := 45) (i := 0) (r := 39) rfl rfl hI rfl rfl rfl ?_
        refine cV_mV (p2 := 48) (i := 37) rfl rfl rfl rfl hI rfl rfl rfl (t_X9_become (s := 37) (o := 23) hI (by decide) (by decide)) (by decide) (fun h8 I8 g8 => ?_)
        have f8 := fr_tr (F1 := (F_X9_become 37 23)) (F := F_X11_beside) f0 g8 (by decide)
        refine te_iconst (p2 := 49) (x := 0) rfl rfl (by decide) ?_
        refine te_istore_n (p2 := 50) (lv2 := [(3, .int 0), (0, .ref 16), (1, .int x1), (2, .int x2)]) rfl rfl (by decide) rfl ?_
        have lp9 : ∀ (n9 : Nat) (v9_3 : Int32) (h9 : im_H), tI h9 → fr F_X11_beside h h9 → 0 ≤ v9_3.toInt → v9_3.toInt ≤ 60 → v9_3.toInt ≤ x1.toInt → x1.toInt - v9_3.toInt < (n9 : Int) → EvP im_K0 7 mX11_beside (50, [(0, .ref 16), (1, .int x1), (2, .int x2), (3, .int v9_3)], [], h9) (fun v h2 => tI h2 ∧ fr F_X11_beside h h2 ∧ ∃ y : Int64, v = some (.long y) ∧ Q1_beside x1 x2 y h h2) := by
          intro n9
          induction n9 with
          | zero => intro v9_3 h9 I9 f9 a9_3 b9_3 l9_0 m9; exfalso; omega
          | succ n9 ih9 =>
            intro v9_3 h9 I9 f9 a9_3 b9_3 l9_0 m9
            refine te_iload_n (p2 := 51) rfl rfl rfl ?_
            refine te_iload_n (p2 := 52) rfl rfl rfl ?_
            refine tb_ge (p2 := 55) rfl rfl rfl rfl (fun c10 => ?_) (fun c10 => ?_)
            · refine te_iload_n (p2 := 73) rfl rfl rfl ?_
              by_cases c11 : x2.toInt = 0
              · refine te_tsIn (k := 0) (p2 := 100) rfl c11 (by decide) (by decide) rfl (by decide) ?_
                refine te_aload_n (p2 := 101) rfl rfl rfl ?_
                refine tg_r (p2 := 104) (i := 0) (r := 53) rfl rfl I9 rfl rfl rfl ?_
                refine cV_pI (p2 := 107) (i := 37) rfl rfl rfl rfl I9 rfl rfl rfl (t_X9_allLoads (s := 37) I9 (by decide)) (by decide) (fun y12 r12 => ?_)
                refine te_i2l (p2 := 108) (z := (Int32.toInt64 y12)) rfl rfl rfl ?_
                exact te_lret rfl rfl ⟨I9, f9, _, rfl, trivial⟩
              · by_cases c13 : x2.toInt = 1
                · refine te_tsIn (k := 1) (p2 := 109) rfl c13 (by decide) (by decide) rfl (by decide) ?_
                  refine te_aload_n (p2 := 110) rfl rfl rfl ?_
                  refine tg_r (p2 := 113) (i := 0) (r := 53) rfl rfl I9 rfl rfl rfl ?_
                  refine tg_r (p2 := 116) (i := 37) (r := 54) rfl rfl I9 rfl rfl rfl ?_
                  refine te_iconst (p2 := 117) (x := 0) rfl rfl (by decide) ?_
                  refine tl_i (p2 := 118) (i := 38) (n := 3) rfl rfl I9 rfl rfl rfl rfl (by decide) (by decide) (fun y14 a14 b14 g14 e14 => ?_)
                  refine te_aload_n (p2 := 119) rfl rfl rfl ?_
                  refine tg_r (p2 := 122) (i := 0) (r := 39) rfl rfl I9 rfl rfl rfl ?_
                  refine tg_r (p2 := 125) (i := 23) (r := 40) rfl rfl I9 rfl rfl rfl ?_
                  refine te_iconst (p2 := 126) (x := 0) rfl rfl (by decide) ?_
                  refine tl_i (p2 := 127) (i := 24) (n := 3) rfl rfl I9 rfl rfl rfl rfl (by decide) (by decide) (fun y15 a15 b15 g15 e15 => ?_)
                  refine au_sub (p2 := 128) rfl rfl (fun z16 e16 => ?_)
                  refine te_i2l (p2 := 129) (z := (Int32.toInt64 z16)) rfl rfl rfl ?_
                  exact te_lret rfl rfl ⟨I9, f9, _, rfl, trivial⟩
                · by_cases c17 : x2.toInt = 2
                  · refine te_tsIn (k := 2) (p2 := 130) rfl c17 (by decide) (by decide) rfl (by decide) ?_
                    refine te_aload_n (p2 := 131) rfl rfl rfl ?_
                    refine tg_r (p2 := 134) (i := 0) (r := 53) rfl rfl I9 rfl rfl rfl ?_
                    refine cV_pI (p2 := 137) (i := 37) rfl rfl rfl rfl I9 rfl rfl rfl (t_X9_allDead (s := 37) I9 (by decide)) (by decide) (fun y18 r18 => ?_)
                    refine te_aload_n (p2 := 138) rfl rfl rfl ?_
                    refine tg_r (p2 := 141) (i := 0) (r := 39) rfl rfl I9 rfl rfl rfl ?_
                    refine cV_pI (p2 := 144) (i := 23) rfl rfl rfl rfl I9 rfl rfl rfl (t_X9_allDead (s := 23) I9 (by decide)) (by decide) (fun y19 r19 => ?_)
                    refine au_sub (p2 := 145) rfl rfl (fun z20 e20 => ?_)
                    refine te_i2l (p2 := 146) (z := (Int32.toInt64 z20)) rfl rfl rfl ?_
                    exact te_lret rfl rfl ⟨I9, f9, _, rfl, trivial⟩
                  · refine te_tsOut (p2 := 147) rfl (by omega) (by decide) ?_
                    refine te_aload_n (p2 := 148) rfl rfl rfl ?_
                    refine tg_r (p2 := 151) (i := 0) (r := 53) rfl rfl I9 rfl rfl rfl ?_
                    refine cV_pI (p2 := 154) (i := 37) rfl rfl rfl rfl I9 rfl rfl rfl (t_X9_allHurt (s := 37) I9 (by decide)) (by decide) (fun y21 r21 => ?_)
                    refine te_i2l (p2 := 155) (z := (Int32.toInt64 y21)) rfl rfl rfl ?_
                    exact te_lret rfl rfl ⟨I9, f9, _, rfl, trivial⟩
            · refine te_aload_n (p2 := 56) rfl rfl rfl ?_
              refine tg_r (p2 := 59) (i := 0) (r := 17) rfl rfl I9 rfl rfl rfl ?_
              refine te_aload_n (p2 := 60) rfl rfl rfl ?_
              refine tg_r (p2 := 63) (i := 0) (r := 53) rfl rfl I9 rfl rfl rfl ?_
              refine cV_mV (p2 := 66) (i := 1) rfl rfl rfl rfl I9 rfl rfl rfl (t_X0_playDay (s := 37) I9 (by decide)) (by decide) (fun h22 I22 g22 => ?_)
              have f22 := fr_tr (F1 := (F_X0_playDay 37)) (F := F_X11_beside) f9 g22 (by decide)
              refine ar_inc (p2 := 69) (x := v9_3) rfl rfl (by decide) rfl (by decide) rfl (by omega) (by omega) (fun z23 e23 f23 => ?_)
              show EvP _ _ _ (69, [(3, .int z23), (0, .ref 16), (1, .int x1), (2, .int x2)], [], h22) _
              refine te_goto rfl ?_
              refine te_lv [(0, .ref 16), (1, .int x1), (2, .int x2), (3, .int z23)] rfl rfl ⟨rfl, rfl, rfl, rfl, trivial⟩ ?_
              exact ih9 z23 h22 I22 f22 (by omega) (by omega) (by omega) (by omega)
        refine te_lv [(0, .ref 16), (1, .int x1), (2, .int x2), (3, .int 0)] rfl rfl ⟨rfl, rfl, rfl, rfl, trivial⟩ ?_
        exact lp9 61 0 h8 I8 f8 (by decide) (by decide) (by have cc0 := (show Int32.toInt 0 = 0 from rfl); omega) (by have cc0 := (show Int32.toInt 0 = 0 from rfl); omega)
      · refine te_ldc2 (p2 := 36) (x := (-4611686018427387904)) rfl rfl rfl ?_
        exact te_lret rfl rfl ⟨hI, f0, _, rfl, trivial⟩
    · subst w3
      have cc3_1 := (show Int32.toInt 4 = 4 from rfl)
      refine tz_eq (p2 := 18) rfl rfl (show Int32.toInt 0 = 0 from rfl) (fun c24 => ?_) (fun c24 => absurd c24 (by omega))
      refine te_ldc2 (p2 := 36) (x := (-4611686018427387904)) rfl rfl rfl ?_
      exact te_lret rfl rfl ⟨hI, f0, _, rfl, trivial⟩
  · subst w1
    have cc1_1 := (show Int32.toInt 1 = 1 from rfl)
    have cc1_2 := (show Int32.toInt 60 = 60 from rfl)
    refine tz_eq (p2 := 10) rfl rfl (show Int32.toInt 0 = 0 from rfl) (fun c25 => ?_) (fun c25 => absurd c25 (by omega))
    refine te_ldc2 (p2 := 36) (x := (-4611686018427387904)) rfl rfl rfl ?_
    exact te_lret rfl rfl ⟨hI, f0, _, rfl, trivial⟩
abbrev Q2_clear (x1 x2 : Int32) (y : Int32) (h h2 : im_H) : Prop := ∀ k : Nat, (k : Int) < 283 → rd h2 149 k = rd h 149 k
set_option maxRecDepth 20000 in
set_option maxHeartbeats 4000000 in
theorem c_X12_clear {x1 : Int32} {x2 : Int32} {h : im_H} (hI : tI h)  : CaP 9 188 [.ref 164, .int x1, .int x2] h (fun v h2 => tI h2 ∧ fr F_X12_clear h h2 ∧ ∃ y : Int32, v = some (.int y) ∧ Q2_clear x1 x2 y h h2) := by
  refine cap_of (d := 8) (M := mX12_clear) rfl (Nat.le_of_ble_eq_true rfl) ?_
  show EvP im_K0 8 mX12_clear (0, [(0, .ref 164), (1, .int x1), (2, .int x2)], [], h) _
  have f0 : fr F_X12_clear h h := fr_rf
  refine te_iload_n (p2 := 1) rfl rfl rfl ?_
  refine cS_pI (p2 := 4) rfl rfl rfl rfl (t_X12_isCell (n := x1) hI ) (by decide) (fun y1 r1 => ?_)
  rcases r1 with ⟨w1, c1⟩ | ⟨w1, c1⟩
  · subst w1
    refine tz_ne (p2 := 7) rfl rfl (show Int32.toInt 1 = 1 from rfl) (fun c2 => ?_) (fun c2 => absurd c2 (by omega))
    refine te_iload_n (p2 := 10) rfl rfl rfl ?_
    refine te_iconst (p2 := 11) (x := 1) rfl rfl (by decide) ?_
    refine te_bipush (p2 := 13) (x := 60) rfl rfl (by decide) ?_
    refine cS_pI (p2 := 16) rfl rfl rfl rfl (t_X12_in (n := x2) (a := 1) (b := 60) hI ) (by decide) (fun y3 r3 => ?_)
    rcases r3 with ⟨w3, c3⟩ | ⟨w3, c3⟩
    · subst w3
      have cc3_1 := (show Int32.toInt 1 = 1 from rfl)
      have cc3_2 := (show Int32.toInt 60 = 60 from rfl)
      refine tz_ne (p2 := 19) rfl rfl (show Int32.toInt 1 = 1 from rfl) (fun c4 => ?_) (fun c4 => absurd c4 (by omega))
      refine te_aload_n (p2 := 23) rfl rfl rfl ?_
      refine te_iconst (p2 := 24) (x := 0) rfl rfl (by decide) ?_
      refine tc_V (p2 := 27) (i := 148) rfl rfl rfl rfl hI rfl rfl rfl (c_X12_lays (back := 0) hI (by decide) (by decide)) (by decide) (fun v5 h5 hq5 => ?_)
      obtain ⟨I5, g5, w5, L5⟩ := hq5
      subst w5
      have f5 := fr_tr (F1 := F_X12_lays) (F := F_X12_clear) f0 g5 (by decide)
      show EvP _ _ _ (27, [(0, .ref 164), (1, .int x1), (2, .int x2)], [], h5) _
      refine te_iconst (p2 := 28) (x := 0) rfl rfl (by decide) ?_
      refine te_istore_n (p2 := 29) (lv2 := [(3, .int 0), (0, .ref 164), (1, .int x1), (2, .int x2)]) rfl rfl (by decide) rfl ?_
      have lp6 : ∀ (n6 : Nat) (v6_3 : Int32) (h6 : im_H), tI h6 → fr F_X12_clear h h6 → 0 ≤ v6_3.toInt → v6_3.toInt ≤ 61 → (∀ k : Nat, (k : Int) < 283 → rd h6 150 k = rd h 149 k) → 61 - v6_3.toInt < (n6 : Int) → EvP im_K0 8 mX12_clear (29, [(0, .ref 164), (1, .int x1), (2, .int x2), (3, .int v6_3)], [], h6) (fun v h2 => tI h2 ∧ fr F_X12_clear h h2 ∧ ∃ y : Int32, v = some (.int y) ∧ Q2_clear x1 x2 y h h2) := by
        intro n6
        induction n6 with
        | zero => intro v6_3 h6 I6 f6 a6_3 b6_3 w6_0 m6; exfalso; omega
        | succ n6 ih6 =>
          intro v6_3 h6 I6 f6 a6_3 b6_3 w6_0 m6
          refine te_iload_n (p2 := 30) rfl rfl rfl ?_
          refine te_iload_n (p2 := 31) rfl rfl rfl ?_
          refine tb_gt (p2 := 34) rfl rfl rfl rfl (fun c7 => ?_) (fun c7 => ?_)
          · refine te_aload_n (p2 := 54) rfl rfl rfl ?_
            refine te_iconst (p2 := 55) (x := 1) rfl rfl (by decide) ?_
            refine tc_V (p2 := 58) (i := 148) rfl rfl rfl rfl I6 rfl rfl rfl (c_X12_lays (back := 1) I6 (by decide) (by decide)) (by decide) (fun v8 h8 hq8 => ?_)
            obtain ⟨I8, g8, w8, L8⟩ := hq8
            subst w8
            have f8 := fr_tr (F1 := F_X12_lays) (F := F_X12_clear) f6 g8 (by decide)
            show EvP _ _ _ (58, [(0, .ref 164), (1, .int x1), (2, .int x2), (3, .int v6_3)], [], h8) _
            refine te_iload_n (p2 := 59) rfl rfl rfl ?_
            refine te_iload_n (p2 := 60) rfl rfl rfl ?_
            refine tb_le (p2 := 63) rfl rfl rfl rfl (fun c9 => ?_) (fun c9 => ?_)
            · refine te_iload_n (p2 := 69) rfl rfl rfl ?_
              exact te_iret rfl rfl ⟨I8, f8, _, rfl, (fun k hk => ((L8.2 (by decide)).1 k hk).trans (w6_0 k hk))⟩
            · refine te_bipush (p2 := 65) (x := (-3)) rfl rfl (by decide) ?_
              refine te_goto rfl ?_
              exact te_iret rfl rfl ⟨I8, f8, _, rfl, (fun k hk => ((L8.2 (by decide)).1 k hk).trans (w6_0 k hk))⟩
          · refine te_aload_n (p2 := 35) rfl rfl rfl ?_
            refine tg_r (p2 := 38) (i := 148) (r := 165) rfl rfl I6 rfl rfl rfl ?_
            refine te_iload_n (p2 := 39) rfl rfl rfl ?_
            refine tl_i (p2 := 40) (i := 149) (n := 283) rfl rfl I6 rfl rfl rfl rfl (by omega) (by omega) (fun y10 a10 b10 g10 e10 => ?_)
            refine tz_le (p2 := 43) rfl rfl rfl (fun c11 => ?_) (fun c11 => ?_)
            · refine te_aload_n (p2 := 54) rfl rfl rfl ?_
              refine te_iconst (p2 := 55) (x := 1) rfl rfl (by decide) ?_
              refine tc_V (p2 := 58) (i := 148) rfl rfl rfl rfl I6 rfl rfl rfl (c_X12_lays (back := 1) I6 (by decide) (by decide)) (by decide) (fun v12 h12 hq12 => ?_)
              obtain ⟨I12, g12, w12, L12⟩ := hq12
              subst w12
              have f12 := fr_tr (F1 := F_X12_lays) (F := F_X12_clear) f6 g12 (by decide)
              show EvP _ _ _ (58, [(0, .ref 164), (1, .int x1), (2, .int x2), (3, .int v6_3)], [], h12) _
              refine te_iload_n (p2 := 59) rfl rfl rfl ?_
              refine te_iload_n (p2 := 60) rfl rfl rfl ?_
              refine tb_le (p2 := 63) rfl rfl rfl rfl (fun c13 => ?_) (fun c13 => ?_)
              · refine te_iload_n (p2 := 69) rfl rfl rfl ?_
                exact te_iret rfl rfl ⟨I12, f12, _, rfl, (fun k hk => ((L12.2 (by decide)).1 k hk).trans (w6_0 k hk))⟩
              · refine te_bipush (p2 := 65) (x := (-3)) rfl rfl (by decide) ?_
                refine te_goto rfl ?_
                exact te_iret rfl rfl ⟨I12, f12, _, rfl, (fun k hk => ((L12.2 (by decide)).1 k hk).trans (w6_0 k hk))⟩
            · refine te_aload_n (p2 := 44) rfl rfl rfl ?_
              refine cV_mV (p2 := 47) (i := 148) rfl rfl rfl rfl I6 rfl rfl rfl (t_X12_goes  I6 ) (by decide) (fun h14 I14 g14 => ?_)
              have f14 := fr_tr (F1 := F_X12_goes) (F := F_X12_clear) f6 g14 (by decide)
              refine ar_inc (p2 := 50) (x := v6_3) rfl rfl (by decide) rfl (by decide) rfl (by omega) (by omega) (fun z15 e15 f15 => ?_)
              show EvP _ _ _ (50, [(3, .int z15), (0, .ref 164), (1, .int x1), (2, .int x2)], [], h14) _
              refine te_goto rfl ?_
              refine te_lv [(0, .ref 164), (1, .int x1), (2, .int x2), (3, .int z15)] rfl rfl ⟨rfl, rfl, rfl, rfl, trivial⟩ ?_
              exact ih6 z15 h14 I14 f14 (by omega) (by omega) (fun k hk => (g14 150 _ rfl).trans (w6_0 k hk)) (by omega)
      refine te_lv [(0, .ref 164), (1, .int x1), (2, .int x2), (3, .int 0)] rfl rfl ⟨rfl, rfl, rfl, rfl, trivial⟩ ?_
      exact lp6 62 0 h5 I5 f5 (by decide) (by decide) (L5.1 (by decide)).1 (by have cc0 := (show Int32.toInt 0 = 0 from rfl); omega)
    · subst w3
      have cc3_1 := (show Int32.toInt 1 = 1 from rfl)
      have cc3_2 := (show Int32.toInt 60 = 60 from rfl)
      refine tz_ne (p2 := 19) rfl rfl (show Int32.toInt 0 = 0 from rfl) (fun c16 => absurd c16 (by omega)) (fun c16 => ?_)
      refine te_bipush (p2 := 21) (x := (-2)) rfl rfl (by decide) ?_
      exact te_iret rfl rfl ⟨hI, f0, _, rfl, (fun k hk => rfl)⟩
  · subst w1
    refine tz_ne (p2 := 7) rfl rfl (show Int32.toInt 0 = 0 from rfl) (fun c17 => absurd c17 (by omega)) (fun c17 => ?_)
    refine te_iconst (p2 := 8) (x := (-1)) rfl rfl (by decide) ?_
    exact te_iret rfl rfl ⟨hI, f0, _, rfl, (fun k hk => rfl)⟩
abbrev Q1_clear (x1 x2 : Int32) (y : Int32) (h h2 : im_H) : Prop := True
set_option maxRecDepth 20000 in
set_option maxHeartbeats 4000000 in
theorem c_X11_clear {x1 : Int32} {x2 : Int32} {h : im_H} (hI : tI h)  : CaP 8 101 [.ref 16, .int x1, .int x2] h (fun v h2 => tI h2 ∧ fr F_X11_clear h h2 ∧ ∃ y : Int32, v = some (.int y) ∧ Q1_clear x1 x2 y h h2) := by
  refine cap_of (d := 7) (M := mX11_clear) rfl (Nat.le_of_ble_eq_true rfl) ?_
  show EvP im_K0 7 mX11_clear (0, [(0, .ref 16), (1, .int x1), (2, .int x2)], [], h) _
  have f0 : fr F_X11_clear h h := fr_rf
  refine te_iload_n (p2 := 1) rfl rfl rfl ?_
  refine te_bipush (p2 := 3) (x := 100) rfl rfl (by decide) ?_
  refine cS_pI (p2 := 6) rfl rfl rfl rfl (t_X11_within (n := x1) (b := 100) hI ) (by decide) (fun y1 r1 => ?_)
  rcases r1 with ⟨w1, c1⟩ | ⟨w1, c1⟩
  · subst w1
    have cc1_1 := (show Int32.toInt 100 = 100 from rfl)
    refine tz_ne (p2 := 9) rfl rfl (show Int32.toInt 1 = 1 from rfl) (fun c2 => ?_) (fun c2 => absurd c2 (by omega))
    refine te_iload_n (p2 := 12) rfl rfl rfl ?_
    refine te_iconst (p2 := 13) (x := 1) rfl rfl (by decide) ?_
    refine te_bipush (p2 := 15) (x := 60) rfl rfl (by decide) ?_
    refine cS_pI (p2 := 18) rfl rfl rfl rfl (t_X11_between (n := x2) (a := 1) (b := 60) hI ) (by decide) (fun y3 r3 => ?_)
    rcases r3 with ⟨w3, c3⟩ | ⟨w3, c3⟩
    · subst w3
      have cc3_1 := (show Int32.toInt 1 = 1 from rfl)
      have cc3_2 := (show Int32.toInt 60 = 60 from rfl)
      refine tz_ne (p2 := 21) rfl rfl (show Int32.toInt 1 = 1 from rfl) (fun c4 => ?_) (fun c4 => absurd c4 (by omega))
      refine te_aload_n (p2 := 25) rfl rfl rfl ?_
      refine tg_r (p2 := 28) (i := 0) (r := 53) rfl rfl hI rfl rfl rfl ?_
      refine te_aload_n (p2 := 29) rfl rfl rfl ?_
      refine tg_r (p2 := 32) (i := 0) (r := 39) rfl rfl hI rfl rfl rfl ?_
      refine cV_mV (p2 := 35) (i := 37) rfl rfl rfl rfl hI rfl rfl rfl (t_X9_become (s := 37) (o := 23) hI (by decide) (by decide)) (by decide) (fun h5 I5 g5 => ?_)
      have f5 := fr_tr (F1 := (F_X9_become 37 23)) (F := F_X11_clear) f0 g5 (by decide)
      refine te_iconst (p2 := 36) (x := 0) rfl rfl (by decide) ?_
      refine te_istore_n (p2 := 37) (lv2 := [(3, .int 0), (0, .ref 16), (1, .int x1), (2, .int x2)]) rfl rfl (by decide) rfl ?_
      have lp6 : ∀ (n6 : Nat) (v6_3 : Int32) (h6 : im_H), tI h6 → fr F_X11_clear h h6 → 0 ≤ v6_3.toInt → v6_3.toInt ≤ 60 → v6_3.toInt ≤ x2.toInt → x2.toInt - v6_3.toInt < (n6 : Int) → EvP im_K0 7 mX11_clear (37, [(0, .ref 16), (1, .int x1), (2, .int x2), (3, .int v6_3)], [], h6) (fun v h2 => tI h2 ∧ fr F_X11_clear h h2 ∧ ∃ y : Int32, v = some (.int y) ∧ Q1_clear x1 x2 y h h2) := by
        intro n6
        induction n6 with
        | zero => intro v6_3 h6 I6 f6 a6_3 b6_3 l6_0 m6; exfalso; omega
        | succ n6 ih6 =>
          intro v6_3 h6 I6 f6 a6_3 b6_3 l6_0 m6
          refine te_iload_n (p2 := 38) rfl rfl rfl ?_
          refine te_iload_n (p2 := 39) rfl rfl rfl ?_
          refine tb_ge (p2 := 42) rfl rfl rfl rfl (fun c7 => ?_) (fun c7 => ?_)
          · refine te_aload_n (p2 := 74) rfl rfl rfl ?_
            refine tg_r (p2 := 77) (i := 0) (r := 53) rfl rfl I6 rfl rfl rfl ?_
            refine tg_r (p2 := 80) (i := 37) (r := 55) rfl rfl I6 rfl rfl rfl ?_
            refine te_iload_n (p2 := 81) rfl rfl rfl ?_
            refine tl_i (p2 := 82) (i := 39) (n := 100) rfl rfl I6 rfl rfl rfl rfl (by omega) (by omega) (fun y8 a8 b8 g8 e8 => ?_)
            refine tz_ne (p2 := 85) rfl rfl rfl (fun c9 => ?_) (fun c9 => ?_)
            · refine te_bipush (p2 := 91) (x := (-3)) rfl rfl (by decide) ?_
              exact te_iret rfl rfl ⟨I6, f6, _, rfl, trivial⟩
            · refine te_iload_n (p2 := 86) rfl rfl rfl ?_
              refine te_goto rfl ?_
              exact te_iret rfl rfl ⟨I6, f6, _, rfl, trivial⟩
          · refine te_aload_n (p2 := 43) rfl rfl rfl ?_
            refine tg_r (p2 := 46) (i := 0) (r := 53) rfl rfl I6 rfl rfl rfl ?_
            refine tg_r (p2 := 49) (i := 37) (r := 55) rfl rfl I6 rfl rfl rfl ?_
            refine te_iload_n (p2 := 50) rfl rfl rfl ?_
            refine tl_i (p2 := 51) (i := 39) (n := 100) rfl rfl I6 rfl rfl rfl rfl (by omega) (by omega) (fun y10 a10 b10 g10 e10 => ?_)
            refine tz_ne (p2 := 54) rfl rfl rfl (fun c11 => ?_) (fun c11 => ?_)
            · refine te_aload_n (p2 := 57) rfl rfl rfl ?_
              refine tg_r (p2 := 60) (i := 0) (r := 17) rfl rfl I6 rfl rfl rfl ?_
              refine te_aload_n (p2 := 61) rfl rfl rfl ?_
              refine tg_r (p2 := 64) (i := 0) (r := 53) rfl rfl I6 rfl rfl rfl ?_
              refine cV_mV (p2 := 67) (i := 1) rfl rfl rfl rfl I6 rfl rfl rfl (t_X0_playDay (s := 37) I6 (by decide)) (by decide) (fun h12 I12 g12 => ?_)
              have f12 := fr_tr (F1 := (F_X0_playDay 37)) (F := F_X11_clear) f6 g12 (by decide)
              refine ar_inc (p2 := 70) (x := v6_3) rfl rfl (by decide) rfl (by decide) rfl (by omega) (by omega) (fun z13 e13 f13 => ?_)
              show EvP _ _ _ (70, [(3, .int z13), (0, .ref 16), (1, .int x1), (2, .int x2)], [], h12) _
              refine te_goto rfl ?_
              refine te_lv [(0, .ref 16), (1, .int x1), (2, .int x2), (3, .int z13)] rfl rfl ⟨rfl, rfl, rfl, rfl, trivial⟩ ?_
              exact ih6 z13 h12 I12 f12 (by omega) (by omega) (by omega) (by omega)
            · refine te_iload_n (p2 := 55) rfl rfl rfl ?_
              exact te_iret rfl rfl ⟨I6, f6, _, rfl, trivial⟩
      refine te_lv [(0, .ref 16), (1, .int x1), (2, .int x2), (3, .int 0)] rfl rfl ⟨rfl, rfl, rfl, rfl, trivial⟩ ?_
      exact lp6 61 0 h5 I5 f5 (by decide) (by decide) (by have cc0 := (show Int32.toInt 0 = 0 from rfl); omega) (by have cc0 := (show Int32.toInt 0 = 0 from rfl); omega)
    · subst w3
      have cc3_1 := (show Int32.toInt 1 = 1 from rfl)
      have cc3_2 := (show Int32.toInt 60 = 60 from rfl)
      refine tz_ne (p2 := 21) rfl rfl (show Int32.toInt 0 = 0 from rfl) (fun c14 => absurd c14 (by omega)) (fun c14 => ?_)
      refine te_bipush (p2 := 23) (x := (-2)) rfl rfl (by decide) ?_
      exact te_iret rfl rfl ⟨hI, f0, _, rfl, trivial⟩
  · subst w1
    have cc1_1 := (show Int32.toInt 100 = 100 from rfl)
    refine tz_ne (p2 := 9) rfl rfl (show Int32.toInt 0 = 0 from rfl) (fun c15 => absurd c15 (by omega)) (fun c15 => ?_)
    refine te_iconst (p2 := 10) (x := (-1)) rfl rfl (by decide) ?_
    exact te_iret rfl rfl ⟨hI, f0, _, rfl, trivial⟩
theorem rv_c {h H : im_H} {i j k m : Nat} (e : rd H i k = rd h j m) : rv H i k = rv h j m := by
  unfold rv
  rw [e]
def rC (h : im_H) (c o : Nat) : Nat → Int32 := fun k => rv h c (o + k)
def absC (h : im_H) (c : Nat) : Dy := (Dy.mk (gd 100 (rC h c 0)) (gd 24 (rC h c 140)) (mhu (rC h c 236) (rC h c 164)) (gd 24 (rC h c 188)) (gd 24 (rC h c 236)) (gd 16 (rC h c 124)) (gd 16 (rC h c 108)) (gd 4 (rC h c 272)) (gd 4 (rC h c 276)) (gd 3 (rC h c 280)) (gd 3 (rC h c 100)) (rv h c 103) (rv h c 104) (rv h c 105) (rv h c 106) (rv h c 107))
theorem absM_C {h : im_H} : absM h = absC h 149 := rfl
abbrev absI (h : im_H) : Dy := absC h 151
theorem absC_e {h H : im_H} {c d : Nat} (e : ∀ k : Nat, (k : Int) < 283 → rd H c k = rd h d k) : absC H c = absC h d := by
  have ev : ∀ k : Nat, k < 283 → rv H c k = rv h d k := fun k hk => by unfold rv; rw [e k (by omega)]
  have eg : ∀ n o, o + n ≤ 283 → gd n (rC H c o) = gd n (rC h d o) := fun n o ho => gd_c (fun k hk => ev (o + k) (by omega))
  have em : mhu (rC H c 236) (rC H c 164) = mhu (rC h d 236) (rC h d 164) := by
    funext m
    unfold mhu rC
    by_cases hm : m < 24
    · rw [ev (236 + m) (by omega), ev (164 + m) (by omega)]
    · rw [if_neg (fun q => hm q.1), if_neg (fun q => hm q.1)]
  unfold absC
  rw [eg 100 0 (by decide), eg 24 140 (by decide), em, eg 24 188 (by decide), eg 24 236 (by decide), eg 16 124 (by decide), eg 16 108 (by decide), eg 4 272 (by decide), eg 4 276 (by decide), eg 3 280 (by decide), eg 3 100 (by decide), ev 103 (by decide), ev 104 (by decide), ev 105 (by decide), ev 106 (by decide), ev 107 (by decide)]
theorem wC_e {h H : im_H} {c d : Nat} (e : ∀ k : Nat, (k : Int) < 283 → rd H c k = rd h d k) : wM H c = wM h d := gd_c (fun k hk => by
  show rv H c (260 + k) = rv h d (260 + k)
  unfold rv
  rw [e _ (by omega)])
theorem absC_fr {F : List (Nat × Nat × Nat)} {h H : im_H} {c : Nat} (f : fr F h H) (a : ∀ q ∈ F, q.1 ≠ c) : absC H c = absC h c := absC_e (fun k _ => f _ _ (inF_no (fun q hq e => a q hq e)))
theorem wC_fr {F : List (Nat × Nat × Nat)} {h H : im_H} {c : Nat} (f : fr F h H) (a : ∀ q ∈ F, q.1 ≠ c) : wM H c = wM h c := wC_e (fun k _ => f _ _ (inF_no (fun q hq e => a q hq e)))
theorem bec_abs {s o : Nat} {h H : im_H} (B : bec s o h H) : absX H s = absX h o ∧ wX H s = wX h o := by
  obtain ⟨⟨f0, f1, f2, f3, f4⟩, r0, r1, r2, r3, r4, r5, r6, r7, r8, r9, r10, r11, r12⟩ := B
  have eg : ∀ n r : Nat, (∀ k : Nat, (k : Int) < (n : Int) → rd H (s + r) k = rd h (o + r) k) → gd n (rv H (s + r)) = gd n (rv h (o + r)) := fun n r e => gd_c (fun k hk => by unfold rv; rw [e k (by omega)])
  have em : mhu (rv H (s + 7)) (rv H (s + 4)) = mhu (rv h (o + 7)) (rv h (o + 4)) := by
    funext m
    unfold mhu
    by_cases hm : m < 24
    · rw [show rv H (s + 7) m = rv h (o + 7) m by (unfold rv; rw [r6 m (by omega)]), show rv H (s + 4) m = rv h (o + 4) m by (unfold rv; rw [r3 m (by omega)])]
    · rw [if_neg (fun q => hm q.1), if_neg (fun q => hm q.1)]
  constructor
  · unfold absX
    rw [eg 100 2 r1, eg 24 3 r2, em, eg 24 5 r4, eg 24 7 r6, eg 16 8 r7, eg 16 9 r8, eg 4 11 r10, eg 4 12 r11, eg 3 13 r12, eg 3 1 r0, rv_c f0, rv_c f1, rv_c f2, rv_c f3, rv_c f4]
  · exact eg 12 10 r9
theorem absX_ef {F : List (Nat × Nat × Nat)} {h H : im_H} {s : Nat} (f : fr F h H) (a : ∀ q ∈ F, q.1 < s ∨ s + 14 ≤ q.1) : absX H s = absX h s := absX_fr f a
theorem jTY {h h1 h2 : im_H} {y1 y2 : Int32} {f : Ct → Dy → Int32 × Ct × Dy} (T : cX h = cM h) (Y : absX h 23 = absM h) (r1 : (y1, cX h1, absX h1 23) = f (cX h) (absX h 23)) (r2 : (y2, cM h2, absM h2) = f (cM h1) (absM h1)) (a : cM h1 = cM h) (b : absM h1 = absM h) (c : cX h2 = cX h1) (d : absX h2 23 = absX h1 23) : y1 = y2 ∧ cX h2 = cM h2 ∧ absX h2 23 = absM h2 := by
  rw [a, b, ← T, ← Y, ← r1] at r2
  have q := Prod.mk.inj r2
  have q2 := Prod.mk.inj q.2
  exact ⟨q.1.symm, by rw [c, q2.1], by rw [d, q2.2]⟩
def ctB (c : Ct) : Prop := (∀ p, 0 ≤ (c.sg p).toInt ∧ (c.sg p).toInt ≤ 9) ∧ (∀ r, 0 ≤ (c.cr r).toInt ∧ (c.cr r).toInt ≤ 20)
def rmB (R : Rm) : Prop := ∀ k, (0 ≤ (R.br k).toInt ∧ (R.br k).toInt ≤ 9999) ∧ (0 ≤ (R.be k).toInt ∧ (R.be k).toInt ≤ 999)
theorem ctOK_of {h : im_H} (hI : tI h) (B : ctB (cM h)) (S : ∀ fc k, 0 ≤ (sdM h fc k).toInt) : ctOK (ctM h) := by
  refine ⟨B.1, S, B.2, fun r => ?_, fun r i => ?_⟩
  · show 0 ≤ (gd 3 (rv h 165) r).toInt ∧ (gd 3 (rv h 165) r).toInt ≤ 12
    unfold gd
    split
    · obtain ⟨_, e, y, w, a, b, _⟩ := hI.2.1 165 r (.inl (0, 12, 1)) (tq_row rfl (by omega))
      subst w
      rw [rv_of e]
      exact ⟨a, b⟩
    · decide
  · show 0 ≤ (if r < 4 ∧ i < 8 then rv h 160 (8 * r + i) else 0 : Int32).toInt
    split
    · obtain ⟨_, e, y, w, a, b, _⟩ := hI.2.1 160 (8 * r + i) (.inl (0, 23, 9999999999)) (tq_row rfl (by omega))
      subst w
      rw [rv_of e]
      exact a
    · decide
theorem ruin_B {b : Int} {x1 x2 x3 : Int32} {c : Ct} {A : Dy} (hb : 0 ≤ b) (hA : dyOK b A) (hc : ctB c) : dyOK (b + 10000) (ruin_f x1 x2 x3 c A).2.2 ∧ ctB (ruin_f x1 x2 x3 c A).2.1 := by
  have hM := dy_mono (b2 := b + 10000) hA (by omega)
  unfold ruin_f
  (repeat' split)
  · rename_i h1 h2
    exact ⟨⟨udt_B (P := fun x => 0 ≤ x.toInt ∧ x.toInt ≤ b + 10000) hM.1 (by omega), hM.2.1, hM.2.2.1, hM.2.2.2.1, hM.2.2.2.2⟩, hc⟩
  · exact ⟨hM, hc⟩
  · exact ⟨hM, hc⟩
theorem weather_B {b : Int} {x1 x2 : Int32} {c : Ct} {A : Dy} (hA : dyOK b A) (hc : ctB c) : dyOK b (weather_f x1 x2 c A).2.2 ∧ ctB (weather_f x1 x2 c A).2.1 := by
  unfold weather_f
  split
  · exact ⟨hA, hc⟩
  · exact ⟨hA, hc⟩
theorem tip_B {b : Int} {x1 : Int32} {c : Ct} {A : Dy} (hA : dyOK b A) (hc : ctB c) : dyOK b (tip_f x1 c A).2.2 ∧ ctB (tip_f x1 c A).2.1 := by
  unfold tip_f
  split
  · exact ⟨hA, hc⟩
  · exact ⟨hA, hc⟩
theorem moves_B {b : Int} {x1 x2 : Int32} {c : Ct} {A : Dy} (hA : dyOK b A) (hc : ctB c) : dyOK b (moves_f x1 x2 c A).2.2 ∧ ctB (moves_f x1 x2 c A).2.1 := by
  unfold moves_f
  (repeat' split)
  · exact ⟨hA, hc⟩
  · exact ⟨hA, hc⟩
  · exact ⟨hA, hc⟩
theorem person_B {b : Int} {x1 x2 x3 x4 : Int32} {c : Ct} {A : Dy} (hA : dyOK b A) (hc : ctB c) : dyOK b (person_f x1 x2 x3 x4 c A).2.2 ∧ ctB (person_f x1 x2 x3 x4 c A).2.1 := by
  unfold person_f
  (repeat' split)
  · exact ⟨hA, hc⟩
  · rename_i h1 h2 h3
    exact ⟨hA, udt_B (P := fun x => 0 ≤ x.toInt ∧ x.toInt ≤ 9) hc.1 (by omega), hc.2⟩
  · exact ⟨hA, hc⟩
  · exact ⟨hA, hc⟩
theorem wall_B {b : Int} {x1 x2 x3 : Int32} {c : Ct} {A : Dy} (hA : dyOK b A) (hc : ctB c) : dyOK b (wall_f x1 x2 x3 c A).2.2 ∧ ctB (wall_f x1 x2 x3 c A).2.1 := by
  unfold wall_f
  (repeat' split)
  · exact ⟨hA, hc⟩
  · exact ⟨hA, hc⟩
  · exact ⟨⟨hA.1, hA.2.1, udt_B (P := fun x => x.toInt = 0 ∨ x.toInt = 1) hA.2.2.1 (Or.inr rfl), hA.2.2.2.1, hA.2.2.2.2⟩, hc⟩
  · exact ⟨hA, hc⟩
  · exact ⟨hA, hc⟩
theorem ppF_B {F : Nat → Int32} {fr sz : Int} {b : Int} : ∀ (m k : Nat) (came : Int32) (c : Ct) (A : Dy), dyOK b A → ctB c → dyOK b (ppF F fr sz m k came c A).2.2 ∧ ctB (ppF F fr sz m k came c A).2.1
  | 0, _, _, _, _, hA, hc => ⟨hA, hc⟩
  | m + 1, k, came, c, A, hA, hc => by
    by_cases h : 0 ≤ fr ∧ fr + 4 * (k : Int) + 4 ≤ sz
    · have q := person_B (x1 := F (fr.toNat + 4 * k)) (x2 := F (fr.toNat + 4 * k + 1)) (x3 := F (fr.toNat + 4 * k + 2)) (x4 := F (fr.toNat + 4 * k + 3)) hA hc
      rw [show ppF F fr sz (m + 1) k came c A = _ from if_pos h]
      exact ppF_B m (k + 1) _ _ _ q.1 q.2
    · rw [show ppF F fr sz (m + 1) k came c A = _ from if_neg h]
      exact ⟨hA, hc⟩
theorem people_B {b : Int} {x1 x2 x3 x4 q z : Int32} {F : Nat → Int32} {c : Ct} {A : Dy} (hA : dyOK b A) (hc : ctB c) : dyOK b (people_f x1 x2 x3 x4 q z F c A).2.2 ∧ ctB (people_f x1 x2 x3 x4 q z F c A).2.1 := by
  unfold people_f
  (repeat' split)
  · exact ⟨hA, hc⟩
  · exact ⟨hA, hc⟩
  · exact ppF_B _ _ _ _ _ hA hc
  · exact ⟨hA, hc⟩
theorem room_B {x1 x2 x3 x4 : Int32} {R : Rm} (h : rmB R) : rmB (room_f x1 x2 x3 x4 R).2 := by
  unfold room_f
  (repeat' split)
  · exact h
  · rename_i h1 h2 h3
    intro k
    exact ⟨udt_B (P := fun x => 0 ≤ x.toInt ∧ x.toInt ≤ 9999) (fun k => (h k).1) (by omega) k, udt_B (P := fun x => 0 ≤ x.toInt ∧ x.toInt ≤ 999) (fun k => (h k).2) (by omega) k⟩
  · exact h
  · exact h
theorem mend_B {b : Int} {x1 : Int32} {R : Rm} {w : Nat → Int32} {A : Dy} (hA : dyOK b A) (h : rmB R) : dyOK b (mend_f x1 R w A).2.2 := by
  unfold mend_f
  (repeat' split)
  · exact hA
  · exact hA
  · rename_i h1 h2 h3
    have k0 := hA.2.2.2.2 0
    have k1 := hA.2.2.2.2 1
    have r0 := (h x1.toInt.toNat).1
    have r1 := (h x1.toInt.toNat).2
    have t0 := i32_hi (A.kp 0)
    have t1 := i32_hi (A.kp 1)
    have e0 := i32_subE (x := A.kp 0) (y := R.br x1.toInt.toNat) rfl (by omega) (by omega)
    have e1 := i32_subE (x := A.kp 1) (y := R.be x1.toInt.toNat) rfl (by omega) (by omega)
    exact ⟨hA.1, hA.2.1, hA.2.2.1, hA.2.2.2.1, udt_B (P := fun x => 0 ≤ x.toInt ∧ x.toInt ≤ b) (udt_B (P := fun x => 0 ≤ x.toInt ∧ x.toInt ≤ b) hA.2.2.2.2 (by rw [e0]; omega)) (by rw [e1]; omega)⟩
  · exact hA
theorem run_B {b : Int} {x1 : Int32} {c : Ct} {A : Dy} (hc : ctOK c) (hn : c.nw.toInt ≤ 16) (hb : b + 500000 ≤ 2147483647) (hA : dyOK b A) : dyOK (b + 480000) (run_f x1 c A).2 := by
  unfold run_f
  (repeat' split)
  · exact dy_mono hA (by omega)
  · exact dy_mono (das_B hc hn hA x1.toInt.toNat (by omega)) (by omega)
  · exact dy_mono hA (by omega)
theorem pull_B {b : Int} {x1 : Int32} {c : Ct} {A : Dy} (hb : b + 20 ≤ 2147483647) (hA : dyOK b A) : dyOK (b + 20) (pull_f x1 c A) := by
  unfold pull_f
  (repeat' split)
  · exact dy_mono hA (by omega)
  · exact fa_B hA hb
  · exact dy_mono hA (by omega)
theorem nw16 {h : im_H} (hI : tI h) : (ctM h).nw.toInt ≤ 16 := by
  obtain ⟨_, e, y, w, a, b, _⟩ := hI.2.1 148 21 (.inl (0, 16, 9999999999)) rfl
  subst w
  rw [show (ctM h).nw = y from rv_of e]
  exact b
theorem xc_fr2 {F : List (Nat × Nat × Nat)} {h H : im_H} (f : fr F h H) (a : ∀ q ∈ F, 22 < q.1 ∨ q.1 = 11 ∨ q.1 = 0 ∨ (q.1 = 1 ∧ 9 < q.2.1)) : cX H = cX h := by
  have e : ∀ i k, (i < 11 ∨ (11 < i ∧ i < 23)) → 1 < i → rd H i k = rd h i k := fun i k hi h0 => f _ _ (inF_no (fun q hq e => by have := a q hq; omega))
  have ef : ∀ i, (i < 11 ∨ (11 < i ∧ i < 23)) → 1 < i → rv H i = rv h i := fun i hi h0 => funext fun k => by unfold rv; rw [e i k hi h0]
  have ep : ∀ k, k ≤ 9 → rv H 1 k = rv h 1 k := fun k hk => by unfold rv; rw [f _ _ (inF_no3 (fun q hq e => by have := a q hq; omega))]
  exact cX_0 (fun i k hi => e i k (by omega) (by omega)) (congrArg (gd 100) (ef 2 (by decide) (by decide))) (ep 1 (by decide)) (ep 2 (by decide)) (congrArg (gd 24) (ef 3 (by decide) (by decide))) (congrArg (gd 24) (ef 4 (by decide) (by decide))) (congrArg (gd 24) (ef 5 (by decide) (by decide))) (ep 9 (by decide)) (congrArg (gd 16) (ef 9 (by decide) (by decide))) (congrArg (gd 16) (ef 10 (by decide) (by decide)))
theorem mc_fr2 {F : List (Nat × Nat × Nat)} {h H : im_H} (f : fr F h H) (a : ∀ q ∈ F, q.1 < 148 ∨ q.1 = 149 ∨ q.1 = 150 ∨ q.1 = 151 ∨ 168 < q.1 ∨ (q.1 = 148 ∧ (21 < q.2.1 ∨ q.2.2 < 9))) : cM H = cM h := by
  have e : ∀ i k, (152 ≤ i ∧ i < 169) → rd H i k = rd h i k := fun i k hi => f _ _ (inF_no (fun q hq e => by have := a q hq; omega))
  have ef : ∀ i, (152 ≤ i ∧ i < 169) → rv H i = rv h i := fun i hi => funext fun k => by unfold rv; rw [e i k hi]
  have ep : ∀ k, 9 ≤ k → k ≤ 21 → rv H 148 k = rv h 148 k := fun k h0 hk => by unfold rv; rw [f _ _ (inF_no3 (fun q hq e => by have := a q hq; omega))]
  exact cM_0 (fun i k hi => e i k (by omega)) (congrArg (gd 100) (ef 152 (by decide))) (ep 9 (by decide) (by decide)) (ep 10 (by decide) (by decide)) (congrArg (gd 24) (ef 157 (by decide))) (congrArg (gd 24) (ef 158 (by decide))) (congrArg (gd 24) (ef 159 (by decide))) (ep 21 (by decide) (by decide)) (congrArg (gd 16) (ef 167 (by decide))) (congrArg (gd 16) (ef 168 (by decide)))
