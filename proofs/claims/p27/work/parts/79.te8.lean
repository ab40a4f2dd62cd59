theorem tt_ok {b : Int → Int32} {a : Int} {t : Nat} (h : (t : Int) < (ttR b a).1) : tsO b (ut b a t) := by
  unfold ttR at h
  by_cases c1 : tsO b a
  · rw [if_neg (fun q => q c1)] at h
    by_cases c2 : sc b (tsP b a)
    · rw [if_pos c2] at h
      have h9 : (t : Int) < 1 := h
      obtain rfl : t = 0 := by omega
      exact c1
    · rw [if_neg c2] at h
      by_cases c3 : am b (tsP b a)
      · rw [if_neg (fun q => q c3)] at h
        by_cases c4 : tsO b (tu2 b a)
        · rw [if_neg (fun q => q c4)] at h
          by_cases c5 : sc b (tsP b (tu2 b a))
          · rw [if_pos c5] at h
            have h9 : (t : Int) < 2 := h
            rcases (show t = 0 ∨ t = 1 by omega) with rfl | rfl
            · exact c1
            · exact c4
          · rw [if_neg c5] at h
            by_cases c6 : am b (tsP b (tu2 b a))
            · rw [if_neg (fun q => q c6)] at h
              by_cases c7 : tsO b (tu3 b a)
              · rw [if_neg (fun q => q c7)] at h
                have h9 : (t : Int) < 3 := by
                  by_cases c8 : sc b (tsP b (tu3 b a))
                  · rw [if_pos c8] at h; exact h
                  · rw [if_neg c8] at h; have : (t : Int) < -1 := h; omega
                rcases (show t = 0 ∨ t = 1 ∨ t = 2 by omega) with rfl | rfl | rfl
                · exact c1
                · exact c4
                · exact c7
              · rw [if_pos c7] at h; have h9 : (t : Int) < -1 := h; omega
            · rw [if_pos c6] at h; have h9 : (t : Int) < -1 := h; omega
        · rw [if_pos c4] at h; have h9 : (t : Int) < -1 := h; omega
      · rw [if_pos c3] at h; have h9 : (t : Int) < -1 := h; omega
  · rw [if_pos c1] at h; have h9 : (t : Int) < -1 := h; omega
theorem ln_ok {b : Int → Int32} {a : Int} (h : 0 ≤ (lnR b a).1) : 0 ≤ (lnN b a).1 ∧ ∀ t : Nat, (t : Int) < (lnR b a).1 → tsO b (ut b (lnE b a + 4) t) := by
  unfold lnR at h ⊢
  by_cases c1 : lnH b a
  · rw [if_neg (fun q => q c1)] at h ⊢
    by_cases c2 : (lnN b a).1 < 0
    · rw [if_pos c2] at h; have h9 : (0 : Int) ≤ -1 := h; omega
    · rw [if_neg c2] at h ⊢
      refine ⟨by omega, fun t ht => ?_⟩
      by_cases c3 : sc b (lnE b a)
      · rw [if_pos c3] at ht; have h9 : (t : Int) < 0 := ht; omega
      · rw [if_neg c3] at ht
        by_cases c4 : lnI b a
        · rw [if_neg (fun q => q c4)] at ht; exact tt_ok ht
        · rw [if_pos c4] at ht; have h9 : (t : Int) < -1 := ht; omega
  · rw [if_pos c1] at h; have h9 : (0 : Int) ≤ -1 := h; omega
theorem or_ok {b : Int → Int32} {N : Int} : ∀ (r i : Nat), 0 ≤ (orR b N r i (lnS b i)).1 → ∀ l : Nat, i ≤ l → (l : Int) < (orR b N r i (lnS b i)).1 → 0 ≤ (lnR b (lnS b l)).1
  | 0, i, h, l, _, _ => by have h9 : (0 : Int) ≤ -1 := h; omega
  | r + 1, i, h, l, h0, h1 => by
    have e : orR b N (r + 1) i (lnS b i) = if (lnR b (lnS b i)).1 < 0 then (-1, (lnR b (lnS b i)).2) else if (lnR b (lnS b i)).2 = N then ((i : Int) + 1, N) else orR b N r ((i : Int) + 1) (lnR b (lnS b i)).2 := rfl
    rw [e] at h h1
    by_cases c1 : (lnR b (lnS b i)).1 < 0
    · rw [if_pos c1] at h; have h9 : (0 : Int) ≤ -1 := h; omega
    · rw [if_neg c1] at h h1
      by_cases hl : l = i
      · subst hl; omega
      · by_cases c2 : (lnR b (lnS b i)).2 = N
        · rw [if_pos c2] at h1
          have h9 : (l : Int) < (i : Int) + 1 := h1
          omega
        · rw [if_neg c2] at h h1
          have e2 : orR b N r ((i : Int) + 1) (lnR b (lnS b i)).2 = orR b N r ((i + 1 : Nat) : Int) (lnS b (i + 1)) := rfl
          rw [e2] at h h1
          exact or_ok r (i + 1) h l (by omega) h1
def lnEq (h : im_H) (q l : Nat) : Prop := rv h (99 + 7 * q) l = rv h 186 (8 * q + l) ∧ rv h (100 + 7 * q) l = rv h 187 (8 * q + l) ∧ 0 ≤ (rv h 187 (8 * q + l)).toInt ∧ rv h (101 + 7 * q) l = rv h 188 (8 * q + l) ∧ ∀ t : Nat, (t : Int) < (rv h 188 (8 * q + l)).toInt → rv h (102 + 7 * q) (3 * l + t) = fdC (rv h 189 (24 * q + (3 * l + t))) ∧ rv h (103 + 7 * q) (3 * l + t) = sgC (rv h 190 (24 * q + (3 * l + t))) ∧ rv h (104 + 7 * q) (3 * l + t) = rv h 191 (24 * q + (3 * l + t))
def ordE (h : im_H) (q : Nat) : Prop := rv h (98 + 7 * q) 0 = rv h 185 q ∧ ∀ l : Nat, (l : Int) < (rv h 185 q).toInt → lnEq h q l
def rulE (h : im_H) : Prop := ∃ r p : Int32, rd h 0 8 = some (.int r) ∧ rd h 148 47 = some (.int r) ∧ rd h 0 7 = some (.int p) ∧ rd h 148 46 = some (.int p) ∧ -1 ≤ r.toInt ∧ r.toInt < p.toInt ∧ p.toInt ≤ 6 ∧ (r.toInt = -1 → rd h 1 12 = some .null) ∧ (r.toInt ≠ -1 → rd h 1 12 = some (.ref (114 + 7 * r.toInt.toNat))) ∧ ∀ q : Nat, (q : Int) < p.toInt → ordE h q
theorem ordE_e {h H : im_H} {q : Nat} (hq : q < 6) (o : ordE h q) (e1 : ∀ d k, d < 7 → rd H (98 + 7 * q + d) k = rd h (98 + 7 * q + d) k) (e2 : rd H 185 q = rd h 185 q) (e3 : ∀ m, 8 * q ≤ m → m < 8 * q + 8 → rd H 186 m = rd h 186 m ∧ rd H 187 m = rd h 187 m ∧ rd H 188 m = rd h 188 m) (e4 : ∀ m, 24 * q ≤ m → m < 24 * q + 24 → rd H 189 m = rd h 189 m ∧ rd H 190 m = rd h 190 m ∧ rd H 191 m = rd h 191 m) (b : (rv h 185 q).toInt ≤ 8) (b3 : ∀ l, l < 8 → (rv h 188 (8 * q + l)).toInt ≤ 3) : ordE H q := by
  have c0 : rv H (98 + 7 * q) 0 = rv h (98 + 7 * q) 0 := rv_q (e1 0 0 (by decide))
  have cx : ∀ d k, d < 7 → rv H (98 + 7 * q + d) k = rv h (98 + 7 * q + d) k := fun d k hd => rv_q (e1 d k hd)
  have c5 : rv H 185 q = rv h 185 q := rv_q e2
  refine ⟨by rw [c0, c5]; exact o.1, fun l hl => ?_⟩
  rw [c5] at hl
  obtain ⟨a1, a2, a3, a4, a5⟩ := o.2 l hl
  have f := e3 (8 * q + l) (by omega) (by omega)
  unfold lnEq
  rw [show 99 + 7 * q = 98 + 7 * q + 1 by omega, show 100 + 7 * q = 98 + 7 * q + 2 by omega, show 101 + 7 * q = 98 + 7 * q + 3 by omega, show 102 + 7 * q = 98 + 7 * q + 4 by omega, show 103 + 7 * q = 98 + 7 * q + 5 by omega, show 104 + 7 * q = 98 + 7 * q + 6 by omega] at *
  rw [cx 1 l (by decide), cx 2 l (by decide), cx 3 l (by decide), rv_q f.1, rv_q f.2.1, rv_q f.2.2]
  refine ⟨a1, a2, a3, a4, fun t ht => ?_⟩
  have hb := b3 l (by omega)
  have g := e4 (24 * q + (3 * l + t)) (by omega) (by omega)
  rw [cx 4 _ (by decide), cx 5 _ (by decide), cx 6 _ (by decide), rv_q g.1, rv_q g.2.1, rv_q g.2.2]
  exact a5 t ht
theorem rulE_e {h H : im_H} (o : rulE h) (e : ∀ i k, ((i = 0 ∧ (k = 7 ∨ k = 8)) ∨ (i = 1 ∧ k = 12) ∨ (i = 148 ∧ (k = 46 ∨ k = 47)) ∨ (98 ≤ i ∧ i < 140) ∨ (185 ≤ i ∧ i < 192)) → rd H i k = rd h i k) : rulE H := by
  obtain ⟨r, p, a1, a2, a3, a4, a5, a6, a7, a8, a9, a10⟩ := o
  refine ⟨r, p, (e _ _ (by omega)).trans a1, (e _ _ (by omega)).trans a2, (e _ _ (by omega)).trans a3, (e _ _ (by omega)).trans a4, a5, a6, a7, fun q => (e _ _ (by omega)).trans (a8 q), fun q => (e _ _ (by omega)).trans (a9 q), fun q hq => ?_⟩
  obtain ⟨o1, o2⟩ := a10 q hq
  have ev : ∀ i k, ((98 ≤ i ∧ i < 140) ∨ (185 ≤ i ∧ i < 192)) → rv H i k = rv h i k := fun i k hi => rv_q (e i k (by omega))
  refine ⟨by rw [ev _ _ (by omega), ev _ _ (by omega)]; exact o1, fun l hl => ?_⟩
  rw [ev 185 q (by omega)] at hl
  have h9 := o2 l hl
  unfold lnEq at h9 ⊢
  rw [ev 186 _ (by omega), ev 187 _ (by omega), ev 188 _ (by omega), ev (99 + 7 * q) _ (by omega), ev (100 + 7 * q) _ (by omega), ev (101 + 7 * q) _ (by omega)]
  refine ⟨h9.1, h9.2.1, h9.2.2.1, h9.2.2.2.1, fun t ht => ?_⟩
  rw [ev 189 _ (by omega), ev 190 _ (by omega), ev 191 _ (by omega), ev (102 + 7 * q) _ (by omega), ev (103 + 7 * q) _ (by omega), ev (104 + 7 * q) _ (by omega)]
  exact h9.2.2.2.2 t ht
theorem ordS_e {h : im_H} {q : Nat} (o : ordE h q) : odS (odX h (98 + 7 * q)) = odS (odM h q) := by
  funext fc key
  unfold odS
  show sayR (rv h (98 + 7 * q + 1)) (rv h (98 + 7 * q + 2)) (fun l => hld fc (rv h (98 + 7 * q + 4)) (rv h (98 + 7 * q + 5)) (rv h (98 + 7 * q + 6)) (3 * l) (rv h (98 + 7 * q + 3) l).toInt.toNat) key (rv h (98 + 7 * q) 0).toInt.toNat 0 = sayR (fun l => rv h 186 (8 * q + l)) (fun l => rv h 187 (8 * q + l)) (fun l => hld fc (fun t => fdC (rv h 189 (24 * q + t))) (fun t => sgC (rv h 190 (24 * q + t))) (fun t => rv h 191 (24 * q + t)) (3 * l) (rv h 188 (8 * q + l)).toInt.toNat) key (rv h 185 q).toInt.toNat 0
  rw [o.1]
  refine sayR_eq _ _ (fun m _ hm => ?_)
  obtain ⟨a1, a2, a3, a4, a5⟩ := o.2 m (by omega)
  rw [show 98 + 7 * q + 1 = 99 + 7 * q by omega, show 98 + 7 * q + 2 = 100 + 7 * q by omega, show 98 + 7 * q + 3 = 101 + 7 * q by omega, show 98 + 7 * q + 4 = 102 + 7 * q by omega, show 98 + 7 * q + 5 = 103 + 7 * q by omega, show 98 + 7 * q + 6 = 104 + 7 * q by omega]
  refine ⟨a1, a2, ?_⟩
  rw [a4]
  unfold hld
  constructor
  · intro w i hi
    obtain ⟨b1, b2, b3⟩ := a5 i (by omega)
    have h9 := w i hi
    rw [b1, b2, b3] at h9
    exact h9
  · intro w i hi
    obtain ⟨b1, b2, b3⟩ := a5 i (by omega)
    rw [b1, b2, b3]
    exact w i hi
theorem odS_nn {h : im_H} {q : Nat} {fc : Nat → Int32} {key : Int32} (o : ordE h q) : 0 ≤ (odS (odM h q) fc key).toInt := by
  unfold odS
  have g : ∀ (r l : Nat), l + r ≤ (rv h 185 q).toInt.toNat → 0 ≤ (sayR (odM h q).k (odM h q).u (fun l => hld fc (odM h q).f (odM h q).s (odM h q).v (3 * l) ((odM h q).c l).toInt.toNat) key r l).toInt := by
    intro r
    induction r with
    | zero => intro l _; exact (by decide : (0 : Int) ≤ Int32.toInt 0)
    | succ r ih =>
      intro l hl
      by_cases hc : (odM h q).k l = key ∧ hld fc (odM h q).f (odM h q).s (odM h q).v (3 * l) ((odM h q).c l).toInt.toNat
      · rw [sayR_y (H := fun l => hld fc (odM h q).f (odM h q).s (odM h q).v (3 * l) ((odM h q).c l).toInt.toNat) hc]
        exact (o.2 l (by omega)).2.2.1
      · rw [sayR_n (H := fun l => hld fc (odM h q).f (odM h q).s (odM h q).v (3 * l) ((odM h q).c l).toInt.toNat) hc]
        exact ih (l + 1) (by omega)
  exact g _ 0 (by show 0 + (rv h 185 q).toInt.toNat ≤ _; omega)
theorem rul_sd {h : im_H} (o : rulE h) : sdX h = sdM h ∧ ∀ fc k, 0 ≤ (sdM h fc k).toInt := by
  obtain ⟨r, p, a1, a2, a3, a4, a5, a6, a7, a8, a9, a10⟩ := o
  unfold sdX sdM
  rw [rv_of a2]
  by_cases hr : r.toInt = -1
  · rw [a8 hr, if_pos hr]
    refine ⟨rfl, fun fc k => ?_⟩
    show 0 ≤ (nos k).toInt
    unfold nos
    (repeat' split) <;> decide
  · rw [a9 hr, if_neg hr]
    have o := a10 r.toInt.toNat (by omega)
    refine ⟨?_, fun fc k => odS_nn o⟩
    show (if 114 ≤ 114 + 7 * r.toInt.toNat ∧ 114 + 7 * r.toInt.toNat ≤ 149 then odS (odX h (114 + 7 * r.toInt.toNat - 16)) else fun _ => nos) = _
    rw [if_pos (by omega), show 114 + 7 * r.toInt.toNat - 16 = 98 + 7 * r.toInt.toNat by omega]
    exact ordS_e o
theorem ordE_new {h : im_H} {q : Nat} {b : Int → Int32} {n : Int} (hn : 0 ≤ n) (hz : ∃ z : Int32, rd h (98 + 7 * q) 0 = some (.int z) ∧ z.toInt = n) (hl : ∀ l : Nat, (l : Int) < n → lnC h (98 + 7 * q) l b (lnS b l)) (hz2 : ∃ z : Int32, rd h 185 q = some (.int z) ∧ z.toInt = n) (hl2 : ∀ l : Nat, (l : Int) < n → lnM h (8 * q + l) b (lnS b l)) (ok : ∀ l : Nat, (l : Int) < n → 0 ≤ (lnR b (lnS b l)).1) : ordE h q := by
  obtain ⟨z, e1, n1⟩ := hz
  obtain ⟨z2, e2, n2⟩ := hz2
  refine ⟨by rw [rv_of e1, rv_of e2]; exact i32_ext (by omega), fun l hlt => ?_⟩
  rw [rv_of e2] at hlt
  obtain ⟨k, u, c, c1, c2, c3, c4, c5, c6, c7⟩ := hl l (by omega)
  obtain ⟨k', u', c', d1, d2, d3, d4, d5, d6, d7⟩ := hl2 l (by omega)
  have kk := ln_ok (ok l (by omega))
  unfold lnEq
  rw [show 99 + 7 * q = 98 + 7 * q + 1 by omega, show 100 + 7 * q = 98 + 7 * q + 2 by omega, show 101 + 7 * q = 98 + 7 * q + 3 by omega, show 102 + 7 * q = 98 + 7 * q + 4 by omega, show 103 + 7 * q = 98 + 7 * q + 5 by omega, show 104 + 7 * q = 98 + 7 * q + 6 by omega]
  rw [rv_of c1, rv_of c3, rv_of c5, rv_of d1, rv_of d3, rv_of d5]
  refine ⟨i32_ext (by omega), i32_ext (by omega), by rw [d4]; exact kk.1, i32_ext (by omega), fun t ht => ?_⟩
  have hts := kk.2 t (by omega)
  obtain ⟨f, s, v, f1, f2, f3, f4, f5, f6⟩ := c7 t (by omega)
  obtain ⟨f', s', v', g1, g2, g3, g4, g5, g6⟩ := d7 t (by omega)
  rw [show 3 * (8 * q + l) + t = 24 * q + (3 * l + t) by omega] at g1 g3 g5
  rw [rv_of f1, rv_of f3, rv_of f5, rv_of g1, rv_of g3, rv_of g5]
  refine ⟨?_, ?_, i32_ext (by omega)⟩
  · unfold fdC
    rw [if_neg (by have := hts.1; omega)]
    exact i32_ext (by omega)
  · have hs := hts.2.1
    have es : s.toInt = sgF s'.toInt := by rw [f4, g4]; rfl
    unfold tsS at hs
    rw [← g4, sgF_nn] at hs
    unfold sgC
    have a0 := (show Int32.toInt 0 = 0 from rfl)
    have a1 := (show Int32.toInt 1 = 1 from rfl)
    have a2 := (show Int32.toInt 2 = 2 from rfl)
    unfold sgF at es
    rcases hs with q | q | q
    · rw [if_pos q] at es ⊢; exact i32_ext (by omega)
    · rw [if_neg (by omega), if_pos q] at es ⊢; exact i32_ext (by omega)
    · rw [if_neg (by omega), if_neg (by omega), if_pos q] at es
      rw [if_neg (by omega), if_neg (by omega)]
      exact i32_ext (by omega)
def bec (s o : Nat) (h h2 : im_H) : Prop := (rd h2 s 0 = rd h o 0 ∧ rd h2 s 1 = rd h o 1 ∧ rd h2 s 2 = rd h o 2 ∧ rd h2 s 3 = rd h o 3 ∧ rd h2 s 4 = rd h o 4) ∧ ((∀ k : Nat, (k : Int) < 3 → rd h2 (s + 1) k = rd h (o + 1) k) ∧ (∀ k : Nat, (k : Int) < 100 → rd h2 (s + 2) k = rd h (o + 2) k) ∧ (∀ k : Nat, (k : Int) < 24 → rd h2 (s + 3) k = rd h (o + 3) k) ∧ (∀ k : Nat, (k : Int) < 24 → rd h2 (s + 4) k = rd h (o + 4) k) ∧ (∀ k : Nat, (k : Int) < 24 → rd h2 (s + 5) k = rd h (o + 5) k) ∧ (∀ k : Nat, (k : Int) < 24 → rd h2 (s + 6) k = rd h (o + 6) k) ∧ (∀ k : Nat, (k : Int) < 24 → rd h2 (s + 7) k = rd h (o + 7) k) ∧ (∀ k : Nat, (k : Int) < 16 → rd h2 (s + 8) k = rd h (o + 8) k) ∧ (∀ k : Nat, (k : Int) < 16 → rd h2 (s + 9) k = rd h (o + 9) k) ∧ (∀ k : Nat, (k : Int) < 12 → rd h2 (s + 10) k = rd h (o + 10) k) ∧ (∀ k : Nat, (k : Int) < 4 → rd h2 (s + 11) k = rd h (o + 11) k) ∧ (∀ k : Nat, (k : Int) < 4 → rd h2 (s + 12) k = rd h (o + 12) k) ∧ (∀ k : Nat, (k : Int) < 3 → rd h2 (s + 13) k = rd h (o + 13) k))
theorem bec_r {s o : Nat} {h h1 h2 : im_H} (B : bec s o h h1) (e : ∀ i k, s ≤ i → i ≤ s + 13 → rd h2 i k = rd h1 i k) : bec s o h h2 := by
  obtain ⟨⟨f0, f1, f2, f3, f4⟩, r0, r1, r2, r3, r4, r5, r6, r7, r8, r9, r10, r11, r12⟩ := B
  exact ⟨⟨(e _ _ (by omega) (by omega)).trans f0, (e _ _ (by omega) (by omega)).trans f1, (e _ _ (by omega) (by omega)).trans f2, (e _ _ (by omega) (by omega)).trans f3, (e _ _ (by omega) (by omega)).trans f4⟩, fun k hk => (e _ _ (by omega) (by omega)).trans (r0 k hk), fun k hk => (e _ _ (by omega) (by omega)).trans (r1 k hk), fun k hk => (e _ _ (by omega) (by omega)).trans (r2 k hk), fun k hk => (e _ _ (by omega) (by omega)).trans (r3 k hk), fun k hk => (e _ _ (by omega) (by omega)).trans (r4 k hk), fun k hk => (e _ _ (by omega) (by omega)).trans (r5 k hk), fun k hk => (e _ _ (by omega) (by omega)).trans (r6 k hk), fun k hk => (e _ _ (by omega) (by omega)).trans (r7 k hk), fun k hk => (e _ _ (by omega) (by omega)).trans (r8 k hk), fun k hk => (e _ _ (by omega) (by omega)).trans (r9 k hk), fun k hk => (e _ _ (by omega) (by omega)).trans (r10 k hk), fun k hk => (e _ _ (by omega) (by omega)).trans (r11 k hk), fun k hk => (e _ _ (by omega) (by omega)).trans (r12 k hk)⟩
set_option maxRecDepth 20000 in
set_option maxHeartbeats 4000000 in
theorem c_X9_become {s : Nat} {o : Nat} {h : im_H} (hI : tI h) (q_s : s = 23 ∨ s = 37 ∨ s = 51) (q_o : o = 23 ∨ o = 37 ∨ o = 51) : CaP 1 46 [.ref (16 + s), .ref (16 + o)] h (fun v h2 => tI h2 ∧ fr (F_X9_become s o) h h2 ∧ v = none ∧ bec s o h h2) := by
  refine cap_of (d := 0) (M := mX9_become) rfl (Nat.le_of_ble_eq_true rfl) ?_
  show EvP im_K0 0 mX9_become (0, [(0, .ref (16 + s)), (1, .ref (16 + o))], [], h) _
  have f0 : fr (F_X9_become s o) h h := fr_rf
  refine te_aload_n (p2 := 1) rfl rfl rfl ?_
  refine te_aload_n (p2 := 2) rfl rfl rfl ?_
  refine tg_i (p2 := 5) (i := o) rfl rfl hI rfl (by rcases q_o with rfl | rfl | rfl <;> rfl) (by rcases q_o with rfl | rfl | rfl <;> rfl) (fun y1 a1 b1 e1 => ?_)
  refine tp_i (p2 := 8) (i := s) rfl rfl hI rfl (by rcases q_s with rfl | rfl | rfl <;> rfl) (by decide) rfl rfl (by rcases q_s with rfl | rfl | rfl <;> rfl) (i32_lo _) (i32_hi _) (i32_ho _) (by rcases q_s with rfl | rfl | rfl <;> rfl) (fun h2 I2 u2 => ?_)
  have f2 := fr_st (F := (F_X9_become s o)) 13 f0 u2 rfl (by decide) (by decide)
  refine te_aload_n (p2 := 9) rfl rfl rfl ?_
  refine te_aload_n (p2 := 10) rfl rfl rfl ?_
  refine tg_i (p2 := 13) (i := o) rfl rfl I2 rfl (by rcases q_o with rfl | rfl | rfl <;> rfl) (by rcases q_o with rfl | rfl | rfl <;> rfl) (fun y3 a3 b3 e3 => ?_)
  refine tp_i (p2 := 16) (i := s) rfl rfl I2 rfl (by rcases q_s with rfl | rfl | rfl <;> rfl) (by decide) rfl rfl (by rcases q_s with rfl | rfl | rfl <;> rfl) (i32_lo _) (i32_hi _) (i32_ho _) (by rcases q_s with rfl | rfl | rfl <;> rfl) (fun h4 I4 u4 => ?_)
  have f4 := fr_st (F := (F_X9_become s o)) 13 f2 u4 rfl (by decide) (by decide)
  refine te_aload_n (p2 := 17) rfl rfl rfl ?_
  refine te_aload_n (p2 := 18) rfl rfl rfl ?_
  refine tg_i (p2 := 21) (i := o) rfl rfl I4 rfl (by rcases q_o with rfl | rfl | rfl <;> rfl) (by rcases q_o with rfl | rfl | rfl <;> rfl) (fun y5 a5 b5 e5 => ?_)
  refine tp_i (p2 := 24) (i := s) rfl rfl I4 rfl (by rcases q_s with rfl | rfl | rfl <;> rfl) (by decide) rfl rfl (by rcases q_s with rfl | rfl | rfl <;> rfl) (i32_lo _) (i32_hi _) (i32_ho _) (by rcases q_s with rfl | rfl | rfl <;> rfl) (fun h6 I6 u6 => ?_)
  have f6 := fr_st (F := (F_X9_become s o)) 13 f4 u6 rfl (by decide) (by decide)
  refine te_aload_n (p2 := 25) rfl rfl rfl ?_
  refine te_aload_n (p2 := 26) rfl rfl rfl ?_
  refine tg_i (p2 := 29) (i := o) rfl rfl I6 rfl (by rcases q_o with rfl | rfl | rfl <;> rfl) (by rcases q_o with rfl | rfl | rfl <;> rfl) (fun y7 a7 b7 e7 => ?_)
  refine tp_i (p2 := 32) (i := s) rfl rfl I6 rfl (by rcases q_s with rfl | rfl | rfl <;> rfl) (by decide) rfl rfl (by rcases q_s with rfl | rfl | rfl <;> rfl) (i32_lo _) (i32_hi _) (i32_ho _) (by rcases q_s with rfl | rfl | rfl <;> rfl) (fun h8 I8 u8 => ?_)
  have f8 := fr_st (F := (F_X9_become s o)) 13 f6 u8 rfl (by decide) (by decide)
  refine te_aload_n (p2 := 33) rfl rfl rfl ?_
  refine te_aload_n (p2 := 34) rfl rfl rfl ?_
  refine tg_i (p2 := 37) (i := o) rfl rfl I8 rfl (by rcases q_o with rfl | rfl | rfl <;> rfl) (by rcases q_o with rfl | rfl | rfl <;> rfl) (fun y9 a9 b9 e9 => ?_)
  refine tp_i (p2 := 40) (i := s) rfl rfl I8 rfl (by rcases q_s with rfl | rfl | rfl <;> rfl) (by decide) rfl rfl (by rcases q_s with rfl | rfl | rfl <;> rfl) (i32_lo _) (i32_hi _) (i32_ho _) (by rcases q_s with rfl | rfl | rfl <;> rfl) (fun h10 I10 u10 => ?_)
  have f10 := fr_st (F := (F_X9_become s o)) 13 f8 u10 rfl (by decide) (by decide)
  refine te_aload_n (p2 := 41) rfl rfl rfl ?_
  refine tg_r (p2 := 44) (i := o) (r := (16 + (o + 1))) rfl rfl I10 rfl (by rcases q_o with rfl | rfl | rfl <;> rfl) (by rcases q_o with rfl | rfl | rfl <;> rfl) ?_
  refine te_iconst (p2 := 45) (x := 0) rfl rfl (by decide) ?_
  refine te_aload_n (p2 := 46) rfl rfl rfl ?_
  refine tg_r (p2 := 49) (i := s) (r := (16 + (s + 1))) rfl rfl I10 rfl (by rcases q_s with rfl | rfl | rfl <;> rfl) (by rcases q_s with rfl | rfl | rfl <;> rfl) ?_
  refine te_iconst (p2 := 50) (x := 0) rfl rfl (by decide) ?_
  refine te_iconst (p2 := 51) (x := 3) rfl rfl (by decide) ?_
  refine tc_cp (p2 := 54) (i1 := (o + 1)) (i2 := (s + 1)) (n1 := 3) (n2 := 3) rfl rfl I10 rfl rfl (by rcases q_o with rfl | rfl | rfl <;> rfl) (by rcases q_s with rfl | rfl | rfl <;> rfl) (by rcases q_o with rfl | rfl | rfl <;> rfl) (by rcases q_s with rfl | rfl | rfl <;> rfl) rfl rfl (Or.inl rfl) (show Int32.toInt 0 = 0 from rfl) (show Int32.toInt 0 = 0 from rfl) (show Int32.toInt 3 = 3 from rfl) (by decide) (by decide) (by decide) (by decide) (by decide) rfl (by rcases q_s with rfl | rfl | rfl <;> rfl) (fun h11 I11 c11 u11 => ?_)
  have f11 := fr_cp (F := (F_X9_become s o)) (i := (s + 1)) (a := 0) (b := 2) f10 u11 (List.mem_of_getElem? (i := 0) rfl) (by decide) (by decide)
  refine te_aload_n (p2 := 55) rfl rfl rfl ?_
  refine tg_r (p2 := 58) (i := o) (r := (16 + (o + 2))) rfl rfl I11 rfl (by rcases q_o with rfl | rfl | rfl <;> rfl) (by rcases q_o with rfl | rfl | rfl <;> rfl) ?_
  refine te_iconst (p2 := 59) (x := 0) rfl rfl (by decide) ?_
  refine te_aload_n (p2 := 60) rfl rfl rfl ?_
  refine tg_r (p2 := 63) (i := s) (r := (16 + (s + 2))) rfl rfl I11 rfl (by rcases q_s with rfl | rfl | rfl <;> rfl) (by rcases q_s with rfl | rfl | rfl <;> rfl) ?_
  refine te_iconst (p2 := 64) (x := 0) rfl rfl (by decide) ?_
  refine te_bipush (p2 := 66) (x := 100) rfl rfl (by decide) ?_
  refine tc_cp (p2 := 69) (i1 := (o + 2)) (i2 := (s + 2)) (n1 := 100) (n2 := 100) rfl rfl I11 rfl rfl (by rcases q_o with rfl | rfl | rfl <;> rfl) (by rcases q_s with rfl | rfl | rfl <;> rfl) (by rcases q_o with rfl | rfl | rfl <;> rfl) (by rcases q_s with rfl | rfl | rfl <;> rfl) rfl rfl (Or.inl rfl) (show Int32.toInt 0 = 0 from rfl) (show Int32.toInt 0 = 0 from rfl) (show Int32.toInt 100 = 100 from rfl) (by decide) (by decide) (by decide) (by decide) (by decide) rfl (by rcases q_s with rfl | rfl | rfl <;> rfl) (fun h12 I12 c12 u12 => ?_)
  have f12 := fr_cp (F := (F_X9_become s o)) (i := (s + 2)) (a := 0) (b := 99) f11 u12 (List.mem_of_getElem? (i := 5) rfl) (by decide) (by decide)
  refine te_aload_n (p2 := 70) rfl rfl rfl ?_
  refine tg_r (p2 := 73) (i := o) (r := (16 + (o + 3))) rfl rfl I12 rfl (by rcases q_o with rfl | rfl | rfl <;> rfl) (by rcases q_o with rfl | rfl | rfl <;> rfl) ?_
  refine te_iconst (p2 := 74) (x := 0) rfl rfl (by decide) ?_
  refine te_aload_n (p2 := 75) rfl rfl rfl ?_
  refine tg_r (p2 := 78) (i := s) (r := (16 + (s + 3))) rfl rfl I12 rfl (by rcases q_s with rfl | rfl | rfl <;> rfl) (by rcases q_s with rfl | rfl | rfl <;> rfl) ?_
  refine te_iconst (p2 := 79) (x := 0) rfl rfl (by decide) ?_
  refine te_bipush (p2 := 81) (x := 24) rfl rfl (by decide) ?_
  refine tc_cp (p2 := 84) (i1 := (o + 3)) (i2 := (s + 3)) (n1 := 24) (n2 := 24) rfl rfl I12 rfl rfl (by rcases q_o with rfl | rfl | rfl <;> rfl) (by rcases q_s with rfl | rfl | rfl <;> rfl) (by rcases q_o with rfl | rfl | rfl <;> rfl) (by rcases q_s with rfl | rfl | rfl <;> rfl) rfl rfl (Or.inl rfl) (show Int32.toInt 0 = 0 from rfl) (show Int32.toInt 0 = 0 from rfl) (show Int32.toInt 24 = 24 from rfl) (by decide) (by decide) (by decide) (by decide) (by decide) rfl (by rcases q_s with rfl | rfl | rfl <;> rfl) (fun h13 I13 c13 u13 => ?_)
  have f13 := fr_cp (F := (F_X9_become s o)) (i := (s + 3)) (a := 0) (b := 23) f12 u13 (List.mem_of_getElem? (i := 6) rfl) (by decide) (by decide)
  refine te_aload_n (p2 := 85) rfl rfl rfl ?_
  refine tg_r (p2 := 88) (i := o) (r := (16 + (o + 4))) rfl rfl I13 rfl (by rcases q_o with rfl | rfl | rfl <;> rfl) (by rcases q_o with rfl | rfl | rfl <;> rfl) ?_
  refine te_iconst (p2 := 89) (x := 0) rfl rfl (by decide) ?_
  refine te_aload_n (p2 := 90) rfl rfl rfl ?_
  refine tg_r (p2 := 93) (i := s) (r := (16 + (s + 4))) rfl rfl I13 rfl (by rcases q_s with rfl | rfl | rfl <;> rfl) (by rcases q_s with rfl | rfl | rfl <;> rfl) ?_
  refine te_iconst (p2 := 94) (x := 0) rfl rfl (by decide) ?_
  refine te_bipush (p2 := 96) (x := 24) rfl rfl (by decide) ?_
  refine tc_cp (p2 := 99) (i1 := (o + 4)) (i2 := (s + 4)) (n1 := 24) (n2 := 24) rfl rfl I13 rfl rfl (by rcases q_o with rfl | rfl | rfl <;> rfl) (by rcases q_s with rfl | rfl | rfl <;> rfl) (by rcases q_o with rfl | rfl | rfl <;> rfl) (by rcases q_s with rfl | rfl | rfl <;> rfl) rfl rfl (Or.inl rfl) (show Int32.toInt 0 = 0 from rfl) (show Int32.toInt 0 = 0 from rfl) (show Int32.toInt 24 = 24 from rfl) (by decide) (by decide) (by decide) (by decide) (by decide) rfl (by rcases q_s with rfl | rfl | rfl <;> rfl) (fun h14 I14 c14 u14 => ?_)
  have f14 := fr_cp (F := (F_X9_become s o)) (i := (s + 4)) (a := 0) (b := 23) f13 u14 (List.mem_of_getElem? (i := 7) rfl) (by decide) (by decide)
  refine te_aload_n (p2 := 100) rfl rfl rfl ?_
  refine tg_r (p2 := 103) (i := o) (r := (16 + (o + 5))) rfl rfl I14 rfl (by rcases q_o with rfl | rfl | rfl <;> rfl) (by rcases q_o with rfl | rfl | rfl <;> rfl) ?_
  refine te_iconst (p2 := 104) (x := 0) rfl rfl (by decide) ?_
  refine te_aload_n (p2 := 105) rfl rfl rfl ?_
  refine tg_r (p2 := 108) (i := s) (r := (16 + (s + 5))) rfl rfl I14 rfl (by rcases q_s with rfl | rfl | rfl <;> rfl) (by rcases q_s with rfl | rfl | rfl <;> rfl) ?_
  refine te_iconst (p2 := 109) (x := 0) rfl rfl (by decide) ?_
  refine te_bipush (p2 := 111) (x := 24) rfl rfl (by decide) ?_
  refine tc_cp (p2 := 114) (i1 := (o + 5)) (i2 := (s + 5)) (n1 := 24) (n2 := 24) rfl rfl I14 rfl rfl (by rcases q_o with rfl | rfl | rfl <;> rfl) (by rcases q_s with rfl | rfl | rfl <;> rfl) (by rcases q_o with rfl | rfl | rfl <;> rfl) (by rcases q_s with rfl | rfl | rfl <;> rfl) rfl rfl (Or.inl rfl) (show Int32.toInt 0 = 0 from rfl) (show Int32.toInt 0 = 0 from rfl) (show Int32.toInt 24 = 24 from rfl) (by decide) (by decide) (by decide) (by decide) (by decide) rfl (by rcases q_s with rfl | rfl | rfl <;> rfl) (fun h15 I15 c15 u15 => ?_)
  have f15 := fr_cp (F := (F_X9_become s o)) (i := (s + 5)) (a := 0) (b := 23) f14 u15 (List.mem_of_getElem? (i := 8) rfl) (by decide) (by decide)
  refine te_aload_n (p2 := 115) rfl rfl rfl ?_
  refine tg_r (p2 := 118) (i := o) (r := (16 + (o + 6))) rfl rfl I15 rfl (by rcases q_o with rfl | rfl | rfl <;> rfl) (by rcases q_o with rfl | rfl | rfl <;> rfl) ?_
  refine te_iconst (p2 := 119) (x := 0) rfl rfl (by decide) ?_
  refine te_aload_n (p2 := 120) rfl rfl rfl ?_
  refine tg_r (p2 := 123) (i := s) (r := (16 + (s + 6))) rfl rfl I15 rfl (by rcases q_s with rfl | rfl | rfl <;> rfl) (by rcases q_s with rfl | rfl | rfl <;> rfl) ?_
  refine te_iconst (p2 := 124) (x := 0) rfl rfl (by decide) ?_
  refine te_bipush (p2 := 126) (x := 24) rfl rfl (by decide) ?_
  refine tc_cp (p2 := 129) (i1 := (o + 6)) (i2 := (s + 6)) (n1 := 24) (n2 := 24) rfl rfl I15 rfl rfl (by rcases q_o with rfl | rfl | rfl <;> rfl) (by rcases q_s with rfl | rfl | rfl <;> rfl) (by rcases q_o with rfl | rfl | rfl <;> rfl) (by rcases q_s with rfl | rfl | rfl <;> rfl) rfl rfl (Or.inl rfl) (show Int32.toInt 0 = 0 from rfl) (show Int32.toInt 0 = 0 from rfl) (show Int32.toInt 24 = 24 from rfl) (by decide) (by decide) (by decide) (by decide) (by decide) rfl (by rcases q_s with rfl | rfl | rfl <;> rfl) (fun h16 I16 c16 u16 => ?_)
  have f16 := fr_cp (F := (F_X9_become s o)) (i := (s + 6)) (a := 0) (b := 23) f15 u16 (List.mem_of_getElem? (i := 9) rfl) (by decide) (by decide)
  refine te_aload_n (p2 := 130) rfl rfl rfl ?_
  refine tg_r (p2 := 133) (i := o) (r := (16 + (o + 7))) rfl rfl I16 rfl (by rcases q_o with rfl | rfl | rfl <;> rfl) (by rcases q_o with rfl | rfl | rfl <;> rfl) ?_
  refine te_iconst (p2 := 134) (x := 0) rfl rfl (by decide) ?_
  refine te_aload_n (p2 := 135) rfl rfl rfl ?_
  refine tg_r (p2 := 138) (i := s) (r := (16 + (s + 7))) rfl rfl I16 rfl (by rcases q_s with rfl | rfl | rfl <;> rfl) (by rcases q_s with rfl | rfl | rfl <;> rfl) ?_
  refine te_iconst (p2 := 139) (x := 0) rfl rfl (by decide) ?_
  refine te_bipush (p2 := 141) (x := 24) rfl rfl (by decide) ?_
  refine tc_cp (p2 := 144) (i1 := (o + 7)) (i2 := (s + 7)) (n1 := 24) (n2 := 24) rfl rfl I16 rfl rfl (by rcases q_o with rfl | rfl | rfl <;> rfl) (by rcases q_s with rfl | rfl | rfl <;> rfl) (by rcases q_o with rfl | rfl | rfl <;> rfl) (by rcases q_s with rfl | rfl | rfl <;> rfl) rfl rfl (Or.inr ⟨rfl, rfl, rfl⟩) (show Int32.toInt 0 = 0 from rfl) (show Int32.toInt 0 = 0 from rfl) (show Int32.toInt 24 = 24 from rfl) (by decide) (by decide) (by decide) (by decide) (by decide) rfl (by rcases q_s with rfl | rfl | rfl <;> rfl) (fun h17 I17 c17 u17 => ?_)
  have f17 := fr_cp (F := (F_X9_become s o)) (i := (s + 7)) (a := 0) (b := 23) f16 u17 (List.mem_of_getElem? (i := 10) rfl) (by decide) (by decide)
  refine te_aload_n (p2 := 145) rfl rfl rfl ?_
  refine tg_r (p2 := 148) (i := o) (r := (16 + (o + 8))) rfl rfl I17 rfl (by rcases q_o with rfl | rfl | rfl <;> rfl) (by rcases q_o with rfl | rfl | rfl <;> rfl) ?_
  refine te_iconst (p2 := 149) (x := 0) rfl rfl (by decide) ?_
  refine te_aload_n (p2 := 150) rfl rfl rfl ?_
  refine tg_r (p2 := 153) (i := s) (r := (16 + (s + 8))) rfl rfl I17 rfl (by rcases q_s with rfl | rfl | rfl <;> rfl) (by rcases q_s with rfl | rfl | rfl <;> rfl) ?_
  refine te_iconst (p2 := 154) (x := 0) rfl rfl (by decide) ?_
  refine te_bipush (p2 := 156) (x := 16) rfl rfl (by decide) ?_
  refine tc_cp (p2 := 159) (i1 := (o + 8)) (i2 := (s + 8)) (n1 := 16) (n2 := 16) rfl rfl I17 rfl rfl (by rcases q_o with rfl | rfl | rfl <;> rfl) (by rcases q_s with rfl | rfl | rfl <;> rfl) (by rcases q_o with rfl | rfl | rfl <;> rfl) (by rcases q_s with rfl | rfl | rfl <;> rfl) rfl rfl (Or.inl rfl) (show Int32.toInt 0 = 0 from rfl) (show Int32.toInt 0 = 0 from rfl) (show Int32.toInt 16 = 16 from rfl) (by decide) (by decide) (by decide) (by decide) (by decide) rfl (by rcases q_s with rfl | rfl | rfl <;> rfl) (fun h18 I18 c18 u18 => ?_)
  have f18 := fr_cp (F := (F_X9_become s o)) (i := (s + 8)) (a := 0) (b := 15) f17 u18 (List.mem_of_getElem? (i := 11) rfl) (by decide) (by decide)
  refine te_aload_n (p2 := 160) rfl rfl rfl ?_
  refine tg_r (p2 := 163) (i := o) (r := (16 + (o + 9))) rfl rfl I18 rfl (by rcases q_o with rfl | rfl | rfl <;> rfl) (by rcases q_o with rfl | rfl | rfl <;> rfl) ?_
  refine te_iconst (p2 := 164) (x := 0) rfl rfl (by decide) ?_
  refine te_aload_n (p2 := 165) rfl rfl rfl ?_
  refine tg_r (p2 := 168) (i := s) (r := (16 + (s + 9))) rfl rfl I18 rfl (by rcases q_s with rfl | rfl | rfl <;> rfl) (by rcases q_s with rfl | rfl | rfl <;> rfl) ?_
  refine te_iconst (p2 := 169) (x := 0) rfl rfl (by decide) ?_
  refine te_bipush (p2 := 171) (x := 16) rfl rfl (by decide) ?_
  refine tc_cp (p2 := 174) (i1 := (o + 9)) (i2 := (s + 9)) (n1 := 16) (n2 := 16) rfl rfl I18 rfl rfl (by rcases q_o with rfl | rfl | rfl <;> rfl) (by rcases q_s with rfl | rfl | rfl <;> rfl) (by rcases q_o with rfl | rfl | rfl <;> rfl) (by rcases q_s with rfl | rfl | rfl <;> rfl) rfl rfl (Or.inr ⟨rfl, rfl, rfl⟩) (show Int32.toInt 0 = 0 from rfl) (show Int32.toInt 0 = 0 from rfl) (show Int32.toInt 16 = 16 from rfl) (by decide) (by decide) (by decide) (by decide) (by decide) rfl (by rcases q_s with rfl | rfl | rfl <;> rfl) (fun h19 I19 c19 u19 => ?_)
  have f19 := fr_cp (F := (F_X9_become s o)) (i := (s + 9)) (a := 0) (b := 15) f18 u19 (List.mem_of_getElem? (i := 12) rfl) (by decide) (by decide)
  refine te_aload_n (p2 := 175) rfl rfl rfl ?_
  refine tg_r (p2 := 178) (i := o) (r := (16 + (o + 10))) rfl rfl I19 rfl (by rcases q_o with rfl | rfl | rfl <;> rfl) (by rcases q_o with rfl | rfl | rfl <;> rfl) ?_
  refine te_iconst (p2 := 179) (x := 0) rfl rfl (by decide) ?_
  refine te_aload_n (p2 := 180) rfl rfl rfl ?_
  refine tg_r (p2 := 183) (i := s) (r := (16 + (s + 10))) rfl rfl I19 rfl (by rcases q_s with rfl | rfl | rfl <;> rfl) (by rcases q_s with rfl | rfl | rfl <;> rfl) ?_
  refine te_iconst (p2 := 184) (x := 0) rfl rfl (by decide) ?_
  refine te_bipush (p2 := 186) (x := 12) rfl rfl (by decide) ?_
  refine tc_cp (p2 := 189) (i1 := (o + 10)) (i2 := (s + 10)) (n1 := 12) (n2 := 12) rfl rfl I19 rfl rfl (by rcases q_o with rfl | rfl | rfl <;> rfl) (by rcases q_s with rfl | rfl | rfl <;> rfl) (by rcases q_o with rfl | rfl | rfl <;> rfl) (by rcases q_s with rfl | rfl | rfl <;> rfl) rfl rfl (Or.inr ⟨rfl, rfl, rfl⟩) (show Int32.toInt 0 = 0 from rfl) (show Int32.toInt 0 = 0 from rfl) (show Int32.toInt 12 = 12 from rfl) (by decide) (by decide) (by decide) (by decide) (by decide) rfl (by rcases q_s with rfl | rfl | rfl <;> rfl) (fun h20 I20 c20 u20 => ?_)
  have f20 := fr_cp (F := (F_X9_become s o)) (i := (s + 10)) (a := 0) (b := 11) f19 u20 (List.mem_of_getElem? (i := 1) rfl) (by decide) (by decide)
  refine te_aload_n (p2 := 190) rfl rfl rfl ?_
  refine tg_r (p2 := 193) (i := o) (r := (16 + (o + 11))) rfl rfl I20 rfl (by rcases q_o with rfl | rfl | rfl <;> rfl) (by rcases q_o with rfl | rfl | rfl <;> rfl) ?_
  refine te_iconst (p2 := 194) (x := 0) rfl rfl (by decide) ?_
  refine te_aload_n (p2 := 195) rfl rfl rfl ?_
  refine tg_r (p2 := 198) (i := s) (r := (16 + (s + 11))) rfl rfl I20 rfl (by rcases q_s with rfl | rfl | rfl <;> rfl) (by rcases q_s with rfl | rfl | rfl <;> rfl) ?_
  refine te_iconst (p2 := 199) (x := 0) rfl rfl (by decide) ?_
  refine te_iconst (p2 := 200) (x := 4) rfl rfl (by decide) ?_
  refine tc_cp (p2 := 203) (i1 := (o + 11)) (i2 := (s + 11)) (n1 := 4) (n2 := 4) rfl rfl I20 rfl rfl (by rcases q_o with rfl | rfl | rfl <;> rfl) (by rcases q_s with rfl | rfl | rfl <;> rfl) (by rcases q_o with rfl | rfl | rfl <;> rfl) (by rcases q_s with rfl | rfl | rfl <;> rfl) rfl rfl (Or.inl rfl) (show Int32.toInt 0 = 0 from rfl) (show Int32.toInt 0 = 0 from rfl) (show Int32.toInt 4 = 4 from rfl) (by decide) (by decide) (by decide) (by decide) (by decide) rfl (by rcases q_s with rfl | rfl | rfl <;> rfl) (fun h21 I21 c21 u21 => ?_)
  have f21 := fr_cp (F := (F_X9_become s o)) (i := (s + 11)) (a := 0) (b := 3) f20 u21 (List.mem_of_getElem? (i := 2) rfl) (by decide) (by decide)
  refine te_aload_n (p2 := 204) rfl rfl rfl ?_
  refine tg_r (p2 := 207) (i := o) (r := (16 + (o + 12))) rfl rfl I21 rfl (by rcases q_o with rfl | rfl | rfl <;> rfl) (by rcases q_o with rfl | rfl | rfl <;> rfl) ?_
  refine te_iconst (p2 := 208) (x := 0) rfl rfl (by decide) ?_
  refine te_aload_n (p2 := 209) rfl rfl rfl ?_
  refine tg_r (p2 := 212) (i := s) (r := (16 + (s + 12))) rfl rfl I21 rfl (by rcases q_s with rfl | rfl | rfl <;> rfl) (by rcases q_s with rfl | rfl | rfl <;> rfl) ?_
  refine te_iconst (p2 := 213) (x := 0) rfl rfl (by decide) ?_
  refine te_iconst (p2 := 214) (x := 4) rfl rfl (by decide) ?_
  refine tc_cp (p2 := 217) (i1 := (o + 12)) (i2 := (s + 12)) (n1 := 4) (n2 := 4) rfl rfl I21 rfl rfl (by rcases q_o with rfl | rfl | rfl <;> rfl) (by rcases q_s with rfl | rfl | rfl <;> rfl) (by rcases q_o with rfl | rfl | rfl <;> rfl) (by rcases q_s with rfl | rfl | rfl <;> rfl) rfl rfl (Or.inl rfl) (show Int32.toInt 0 = 0 from rfl) (show Int32.toInt 0 = 0 from rfl) (show Int32.toInt 4 = 4 from rfl) (by decide) (by decide) (by decide) (by decide) (by decide) rfl (by rcases q_s with rfl | rfl | rfl <;> rfl) (fun h22 I22 c22 u22 => ?_)
  have f22 := fr_cp (F := (F_X9_become s o)) (i := (s + 12)) (a := 0) (b := 3) f21 u22 (List.mem_of_getElem? (i := 3) rfl) (by decide) (by decide)
  refine te_aload_n (p2 := 218) rfl rfl rfl ?_
  refine tg_r (p2 := 221) (i := o) (r := (16 + (o + 13))) rfl rfl I22 rfl (by rcases q_o with rfl | rfl | rfl <;> rfl) (by rcases q_o with rfl | rfl | rfl <;> rfl) ?_
  refine te_iconst (p2 := 222) (x := 0) rfl rfl (by decide) ?_
  refine te_aload_n (p2 := 223) rfl rfl rfl ?_
  refine tg_r (p2 := 226) (i := s) (r := (16 + (s + 13))) rfl rfl I22 rfl (by rcases q_s with rfl | rfl | rfl <;> rfl) (by rcases q_s with rfl | rfl | rfl <;> rfl) ?_
  refine te_iconst (p2 := 227) (x := 0) rfl rfl (by decide) ?_
  refine te_iconst (p2 := 228) (x := 3) rfl rfl (by decide) ?_
  refine tc_cp (p2 := 231) (i1 := (o + 13)) (i2 := (s + 13)) (n1 := 3) (n2 := 3) rfl rfl I22 rfl rfl (by rcases q_o with rfl | rfl | rfl <;> rfl) (by rcases q_s with rfl | rfl | rfl <;> rfl) (by rcases q_o with rfl | rfl | rfl <;> rfl) (by rcases q_s with rfl | rfl | rfl <;> rfl) rfl rfl (Or.inl rfl) (show Int32.toInt 0 = 0 from rfl) (show Int32.toInt 0 = 0 from rfl) (show Int32.toInt 3 = 3 from rfl) (by decide) (by decide) (by decide) (by decide) (by decide) rfl (by rcases q_s with rfl | rfl | rfl <;> rfl) (fun h23 I23 c23 u23 => ?_)
  have f23 := fr_cp (F := (F_X9_become s o)) (i := (s + 13)) (a := 0) (b := 2) f22 u23 (List.mem_of_getElem? (i := 4) rfl) (by decide) (by decide)
  exact te_vret rfl rfl ⟨I23, f23, rfl, ⟨((u23 _ _ (Or.inl (by omega))).trans ((u22 _ _ (Or.inl (by omega))).trans ((u21 _ _ (Or.inl (by omega))).trans ((u20 _ _ (Or.inl (by omega))).trans ((u19 _ _ (Or.inl (by omega))).trans ((u18 _ _ (Or.inl (by omega))).trans ((u17 _ _ (Or.inl (by omega))).trans ((u16 _ _ (Or.inl (by omega))).trans ((u15 _ _ (Or.inl (by omega))).trans ((u14 _ _ (Or.inl (by omega))).trans ((u13 _ _ (Or.inl (by omega))).trans ((u12 _ _ (Or.inl (by omega))).trans ((u11 _ _ (Or.inl (by omega))).trans ((u10.2 _ _ (Or.inr (by decide))).trans ((u8.2 _ _ (Or.inr (by decide))).trans ((u6.2 _ _ (Or.inr (by decide))).trans ((u4.2 _ _ (Or.inr (by decide))).trans u2.1))))))))))))))))).trans e1.symm, (((u23 _ _ (Or.inl (by omega))).trans ((u22 _ _ (Or.inl (by omega))).trans ((u21 _ _ (Or.inl (by omega))).trans ((u20 _ _ (Or.inl (by omega))).trans ((u19 _ _ (Or.inl (by omega))).trans ((u18 _ _ (Or.inl (by omega))).trans ((u17 _ _ (Or.inl (by omega))).trans ((u16 _ _ (Or.inl (by omega))).trans ((u15 _ _ (Or.inl (by omega))).trans ((u14 _ _ (Or.inl (by omega))).trans ((u13 _ _ (Or.inl (by omega))).trans ((u12 _ _ (Or.inl (by omega))).trans ((u11 _ _ (Or.inl (by omega))).trans ((u10.2 _ _ (Or.inr (by decide))).trans ((u8.2 _ _ (Or.inr (by decide))).trans ((u6.2 _ _ (Or.inr (by decide))).trans u4.1)))))))))))))))).trans e3.symm).trans (u2.2 _ _ (Or.inr (by decide))), ((((u23 _ _ (Or.inl (by omega))).trans ((u22 _ _ (Or.inl (by omega))).trans ((u21 _ _ (Or.inl (by omega))).trans ((u20 _ _ (Or.inl (by omega))).trans ((u19 _ _ (Or.inl (by omega))).trans ((u18 _ _ (Or.inl (by omega))).trans ((u17 _ _ (Or.inl (by omega))).trans ((u16 _ _ (Or.inl (by omega))).trans ((u15 _ _ (Or.inl (by omega))).trans ((u14 _ _ (Or.inl (by omega))).trans ((u13 _ _ (Or.inl (by omega))).trans ((u12 _ _ (Or.inl (by omega))).trans ((u11 _ _ (Or.inl (by omega))).trans ((u10.2 _ _ (Or.inr (by decide))).trans ((u8.2 _ _ (Or.inr (by decide))).trans u6.1))))))))))))))).trans e5.symm).trans (u4.2 _ _ (Or.inr (by decide)))).trans (u2.2 _ _ (Or.inr (by decide))), (((((u23 _ _ (Or.inl (by omega))).trans ((u22 _ _ (Or.inl (by omega))).trans ((u21 _ _ (Or.inl (by omega))).trans ((u20 _ _ (Or.inl (by omega))).trans ((u19 _ _ (Or.inl (by omega))).trans ((u18 _ _ (Or.inl (by omega))).trans ((u17 _ _ (Or.inl (by omega))).trans ((u16 _ _ (Or.inl (by omega))).trans ((u15 _ _ (Or.inl (by omega))).trans ((u14 _ _ (Or.inl (by omega))).trans ((u13 _ _ (Or.inl (by omega))).trans ((u12 _ _ (Or.inl (by omega))).trans ((u11 _ _ (Or.inl (by omega))).trans ((u10.2 _ _ (Or.inr (by decide))).trans u8.1)))))))))))))).trans e7.symm).trans (u6.2 _ _ (Or.inr (by decide)))).trans (u4.2 _ _ (Or.inr (by decide)))).trans (u2.2 _ _ (Or.inr (by decide))), ((((((u23 _ _ (Or.inl (by omega))).trans ((u22 _ _ (Or.inl (by omega))).trans ((u21 _ _ (Or.inl (by omega))).trans ((u20 _ _ (Or.inl (by omega))).trans ((u19 _ _ (Or.inl (by omega))).trans ((u18 _ _ (Or.inl (by omega))).trans ((u17 _ _ (Or.inl (by omega))).trans ((u16 _ _ (Or.inl (by omega))).trans ((u15 _ _ (Or.inl (by omega))).trans ((u14 _ _ (Or.inl (by omega))).trans ((u13 _ _ (Or.inl (by omega))).trans ((u12 _ _ (Or.inl (by omega))).trans ((u11 _ _ (Or.inl (by omega))).trans u10.1))))))))))))).trans e9.symm).trans (u8.2 _ _ (Or.inr (by decide)))).trans (u6.2 _ _ (Or.inr (by decide)))).trans (u4.2 _ _ (Or.inr (by decide)))).trans (u2.2 _ _ (Or.inr (by decide)))⟩, (fun k hk => ((((((u23 _ _ (Or.inl (by omega))).trans ((u22 _ _ (Or.inl (by omega))).trans ((u21 _ _ (Or.inl (by omega))).trans ((u20 _ _ (Or.inl (by omega))).trans ((u19 _ _ (Or.inl (by omega))).trans ((u18 _ _ (Or.inl (by omega))).trans ((u17 _ _ (Or.inl (by omega))).trans ((u16 _ _ (Or.inl (by omega))).trans ((u15 _ _ (Or.inl (by omega))).trans ((u14 _ _ (Or.inl (by omega))).trans ((u13 _ _ (Or.inl (by omega))).trans ((u12 _ _ (Or.inl (by omega))).trans ((c11 k (by omega) (by omega)).trans (congrArg (fun t => rd h10 (o + 1) t) (show (0 : Int).toNat + (k - (0 : Int).toNat) = k by omega))))))))))))))).trans (u10.2 _ _ (Or.inl (by omega)))).trans (u8.2 _ _ (Or.inl (by omega)))).trans (u6.2 _ _ (Or.inl (by omega)))).trans (u4.2 _ _ (Or.inl (by omega)))).trans (u2.2 _ _ (Or.inl (by omega)))), (fun k hk => (((((((u23 _ _ (Or.inl (by omega))).trans ((u22 _ _ (Or.inl (by omega))).trans ((u21 _ _ (Or.inl (by omega))).trans ((u20 _ _ (Or.inl (by omega))).trans ((u19 _ _ (Or.inl (by omega))).trans ((u18 _ _ (Or.inl (by omega))).trans ((u17 _ _ (Or.inl (by omega))).trans ((u16 _ _ (Or.inl (by omega))).trans ((u15 _ _ (Or.inl (by omega))).trans ((u14 _ _ (Or.inl (by omega))).trans ((u13 _ _ (Or.inl (by omega))).trans ((c12 k (by omega) (by omega)).trans (congrArg (fun t => rd h11 (o + 2) t) (show (0 : Int).toNat + (k - (0 : Int).toNat) = k by omega)))))))))))))).trans (u11 _ _ (Or.inl (by omega)))).trans (u10.2 _ _ (Or.inl (by omega)))).trans (u8.2 _ _ (Or.inl (by omega)))).trans (u6.2 _ _ (Or.inl (by omega)))).trans (u4.2 _ _ (Or.inl (by omega)))).trans (u2.2 _ _ (Or.inl (by omega)))), (fun k hk => ((((((((u23 _ _ (Or.inl (by omega))).trans ((u22 _ _ (Or.inl (by omega))).trans ((u21 _ _ (Or.inl (by omega))).trans ((u20 _ _ (Or.inl (by omega))).trans ((u19 _ _ (Or.inl (by omega))).trans ((u18 _ _ (Or.inl (by omega))).trans ((u17 _ _ (Or.inl (by omega))).trans ((u16 _ _ (Or.inl (by omega))).trans ((u15 _ _ (Or.inl (by omega))).trans ((u14 _ _ (Or.inl (by omega))).trans ((c13 k (by omega) (by omega)).trans (congrArg (fun t => rd h12 (o + 3) t) (show (0 : Int).toNat + (k - (0 : Int).toNat) = k by omega))))))))))))).trans (u12 _ _ (Or.inl (by omega)))).trans (u11 _ _ (Or.inl (by omega)))).trans (u10.2 _ _ (Or.inl (by omega)))).trans (u8.2 _ _ (Or.inl (by omega)))).trans (u6.2 _ _ (Or.inl (by omega)))).trans (u4.2 _ _ (Or.inl (by omega)))).trans (u2.2 _ _ (Or.inl (by omega)))), (fun k hk => (((((((((u23 _ _ (Or.inl (by omega))).trans ((u22 _ _ (Or.inl (by omega))).trans ((u21 _ _ (Or.inl (by omega))).trans ((u20 _ _ (Or.inl (by omega))).trans ((u19 _ _ (Or.inl (by omega))).trans ((u18 _ _ (Or.inl (by omega))).trans ((u17 _ _ (Or.inl (by omega))).trans ((u16 _ _ (Or.inl (by omega))).trans ((u15 _ _ (Or.inl (by omega))).trans ((c14 k (by omega) (by omega)).trans (congrArg (fun t => rd h13 (o + 4) t) (show (0 : Int).toNat + (k - (0 : Int).toNat) = k by omega)))))))))))).trans (u13 _ _ (Or.inl (by omega)))).trans (u12 _ _ (Or.inl (by omega)))).trans (u11 _ _ (Or.inl (by omega)))).trans (u10.2 _ _ (Or.inl (by omega)))).trans (u8.2 _ _ (Or.inl (by omega)))).trans (u6.2 _ _ (Or.inl (by omega)))).trans (u4.2 _ _ (Or.inl (by omega)))).trans (u2.2 _ _ (Or.inl (by omega)))), (fun k hk => ((((((((((u23 _ _ (Or.inl (by omega))).trans ((u22 _ _ (Or.inl (by omega))).trans ((u21 _ _ (Or.inl (by omega))).trans ((u20 _ _ (Or.inl (by omega))).trans ((u19 _ _ (Or.inl (by omega))).trans ((u18 _ _ (Or.inl (by omega))).trans ((u17 _ _ (Or.inl (by omega))).trans ((u16 _ _ (Or.inl (by omega))).trans ((c15 k (by omega) (by omega)).trans (congrArg (fun t => rd h14 (o + 5) t) (show (0 : Int).toNat + (k - (0 : Int).toNat) = k by omega))))))))))).trans (u14 _ _ (Or.inl (by omega)))).trans (u13 _ _ (Or.inl (by omega)))).trans (u12 _ _ (Or.inl (by omega)))).trans (u11 _ _ (Or.inl (by omega)))).trans (u10.2 _ _ (Or.inl (by omega)))).trans (u8.2 _ _ (Or.inl (by omega)))).trans (u6.2 _ _ (Or.inl (by omega)))).trans (u4.2 _ _ (Or.inl (by omega)))).trans (u2.2 _ _ (Or.inl (by omega)))), (fun k hk => (((((((((((u23 _ _ (Or.inl (by omega))).trans ((u22 _ _ (Or.inl (by omega))).trans ((u21 _ _ (Or.inl (by omega))).trans ((u20 _ _ (Or.inl (by omega))).trans ((u19 _ _ (Or.inl (by omega))).trans ((u18 _ _ (Or.inl (by omega))).trans ((u17 _ _ (Or.inl (by omega))).trans ((c16 k (by omega) (by omega)).trans (congrArg (fun t => rd h15 (o + 6) t) (show (0 : Int).toNat + (k - (0 : Int).toNat) = k by omega)))))))))).trans (u15 _ _ (Or.inl (by omega)))).trans (u14 _ _ (Or.inl (by omega)))).trans (u13 _ _ (Or.inl (by omega)))).trans (u12 _ _ (Or.inl (by omega)))).trans (u11 _ _ (Or.inl (by omega)))).trans (u10.2 _ _ (Or.inl (by omega)))).trans (u8.2 _ _ (Or.inl (by omega)))).trans (u6.2 _ _ (Or.inl (by omega)))).trans (u4.2 _ _ (Or.inl (by omega)))).trans (u2.2 _ _ (Or.inl (by omega)))), (fun k hk => ((((((((((((u23 _ _ (Or.inl (by omega))).trans ((u22 _ _ (Or.inl (by omega))).trans ((u21 _ _ (Or.inl (by omega))).trans ((u20 _ _ (Or.inl (by omega))).trans ((u19 _ _ (Or.inl (by omega))).trans ((u18 _ _ (Or.inl (by omega))).trans ((c17 k (by omega) (by omega)).trans (congrArg (fun t => rd h16 (o + 7) t) (show (0 : Int).toNat + (k - (0 : Int).toNat) = k by omega))))))))).trans (u16 _ _ (Or.inl (by omega)))).trans (u15 _ _ (Or.inl (by omega)))).trans (u14 _ _ (Or.inl (by omega)))).trans (u13 _ _ (Or.inl (by omega)))).trans (u12 _ _ (Or.inl (by omega)))).trans (u11 _ _ (Or.inl (by omega)))).trans (u10.2 _ _ (Or.inl (by omega)))).trans (u8.2 _ _ (Or.inl (by omega)))).trans (u6.2 _ _ (Or.inl (by omega)))).trans (u4.2 _ _ (Or.inl (by omega)))).trans (u2.2 _ _ (Or.inl (by omega)))), (fun k hk => (((((((((((((u23 _ _ (Or.inl (by omega))).trans ((u22 _ _ (Or.inl (by omega))).trans ((u21 _ _ (Or.inl (by omega))).trans ((u20 _ _ (Or.inl (by omega))).trans ((u19 _ _ (Or.inl (by omega))).trans ((c18 k (by omega) (by omega)).trans (congrArg (fun t => rd h17 (o + 8) t) (show (0 : Int).toNat + (k - (0 : Int).toNat) = k by omega)))))))).trans (u17 _ _ (Or.inl (by omega)))).trans (u16 _ _ (Or.inl (by omega)))).trans (u15 _ _ (Or.inl (by omega)))).trans (u14 _ _ (Or.inl (by omega)))).trans (u13 _ _ (Or.inl (by omega)))).trans (u12 _ _ (Or.inl (by omega)))).trans (u11 _ _ (Or.inl (by omega)))).trans (u10.2 _ _ (Or.inl (by omega)))).trans (u8.2 _ _ (Or.inl (by omega)))).trans (u6.2 _ _ (Or.inl (by omega)))).trans (u4.2 _ _ (Or.inl (by omega)))).trans (u2.2 _ _ (Or.inl (by omega)))), (fun k hk => ((((((((((((((u23 _ _ (Or.inl (by omega))).trans ((u22 _ _ (Or.inl (by omega))).trans ((u21 _ _ (Or.inl (by omega))).trans ((u20 _ _ (Or.inl (by omega))).trans ((c19 k (by omega) (by omega)).trans (congrArg (fun t => rd h18 (o + 9) t) (show (0 : Int).toNat + (k - (0 : Int).toNat) = k by omega))))))).trans (u18 _ _ (Or.inl (by omega)))).trans (u17 _ _ (Or.inl (by omega)))).trans (u16 _ _ (Or.inl (by omega)))).trans (u15 _ _ (Or.inl (by omega)))).trans (u14 _ _ (Or.inl (by omega)))).trans (u13 _ _ (Or.inl (by omega)))).trans (u12 _ _ (Or.inl (by omega)))).trans (u11 _ _ (Or.inl (by omega)))).trans (u10.2 _ _ (Or.inl (by omega)))).trans (u8.2 _ _ (Or.inl (by omega)))).trans (u6.2 _ _ (Or.inl (by omega)))).trans (u4.2 _ _ (Or.inl (by omega)))).trans (u2.2 _ _ (Or.inl (by omega)))), (fun k hk => (((((((((((((((u23 _ _ (Or.inl (by omega))).trans ((u22 _ _ (Or.inl (by omega))).trans ((u21 _ _ (Or.inl (by omega))).trans ((c20 k (by omega) (by omega)).trans (congrArg (fun t => rd h19 (o + 10) t) (show (0 : Int).toNat + (k - (0 : Int).toNat) = k by omega)))))).trans (u19 _ _ (Or.inl (by omega)))).trans (u18 _ _ (Or.inl (by omega)))).trans (u17 _ _ (Or.inl (by omega)))).trans (u16 _ _ (Or.inl (by omega)))).trans (u15 _ _ (Or.inl (by omega)))).trans (u14 _ _ (Or.inl (by omega)))).trans (u13 _ _ (Or.inl (by omega)))).trans (u12 _ _ (Or.inl (by omega)))).trans (u11 _ _ (Or.inl (by omega)))).trans (u10.2 _ _ (Or.inl (by omega)))).trans (u8.2 _ _ (Or.inl (by omega)))).trans (u6.2 _ _ (Or.inl (by omega)))).trans (u4.2 _ _ (Or.inl (by omega)))).trans (u2.2 _ _ (Or.inl (by omega)))), (fun k hk => ((((((((((((((((u23 _ _ (Or.inl (by omega))).trans ((u22 _ _ (Or.inl (by omega))).trans ((c21 k (by omega) (by omega)).trans (congrArg (fun t => rd h20 (o + 11) t) (show (0 : Int).toNat + (k - (0 : Int).toNat) = k by omega))))).trans (u20 _ _ (Or.inl (by omega)))).trans (u19 _ _ (Or.inl (by omega)))).trans (u18 _ _ (Or.inl (by omega)))).trans (u17 _ _ (Or.inl (by omega)))).trans (u16 _ _ (Or.inl (by omega)))).trans (u15 _ _ (Or.inl (by omega)))).trans (u14 _ _ (Or.inl (by omega)))).trans (u13 _ _ (Or.inl (by omega)))).trans (u12 _ _ (Or.inl (by omega)))).trans (u11 _ _ (Or.inl (by omega)))).trans (u10.2 _ _ (Or.inl (by omega)))).trans (u8.2 _ _ (Or.inl (by omega)))).trans (u6.2 _ _ (Or.inl (by omega)))).trans (u4.2 _ _ (Or.inl (by omega)))).trans (u2.2 _ _ (Or.inl (by omega)))), (fun k hk => (((((((((((((((((u23 _ _ (Or.inl (by omega))).trans ((c22 k (by omega) (by omega)).trans (congrArg (fun t => rd h21 (o + 12) t) (show (0 : Int).toNat + (k - (0 : Int).toNat) = k by omega)))).trans (u21 _ _ (Or.inl (by omega)))).trans (u20 _ _ (Or.inl (by omega)))).trans (u19 _ _ (Or.inl (by omega)))).trans (u18 _ _ (Or.inl (by omega)))).trans (u17 _ _ (Or.inl (by omega)))).trans (u16 _ _ (Or.inl (by omega)))).trans (u15 _ _ (Or.inl (by omega)))).trans (u14 _ _ (Or.inl (by omega)))).trans (u13 _ _ (Or.inl (by omega)))).trans (u12 _ _ (Or.inl (by omega)))).trans (u11 _ _ (Or.inl (by omega)))).trans (u10.2 _ _ (Or.inl (by omega)))).trans (u8.2 _ _ (Or.inl (by omega)))).trans (u6.2 _ _ (Or.inl (by omega)))).trans (u4.2 _ _ (Or.inl (by omega)))).trans (u2.2 _ _ (Or.inl (by omega)))), (fun k hk => ((((((((((((((((((c23 k (by omega) (by omega)).trans (congrArg (fun t => rd h22 (o + 13) t) (show (0 : Int).toNat + (k - (0 : Int).toNat) = k by omega))).trans (u22 _ _ (Or.inl (by omega)))).trans (u21 _ _ (Or.inl (by omega)))).trans (u20 _ _ (Or.inl (by omega)))).trans (u19 _ _ (Or.inl (by omega)))).trans (u18 _ _ (Or.inl (by omega)))).trans (u17 _ _ (Or.inl (by omega)))).trans (u16 _ _ (Or.inl (by omega)))).trans (u15 _ _ (Or.inl (by omega)))).trans (u14 _ _ (Or.inl (by omega)))).trans (u13 _ _ (Or.inl (by omega)))).trans (u12 _ _ (Or.inl (by omega)))).trans (u11 _ _ (Or.inl (by omega)))).trans (u10.2 _ _ (Or.inl (by omega)))).trans (u8.2 _ _ (Or.inl (by omega)))).trans (u6.2 _ _ (Or.inl (by omega)))).trans (u4.2 _ _ (Or.inl (by omega)))).trans (u2.2 _ _ (Or.inl (by omega))))⟩
abbrev Q1_image (y : Int32) (h h2 : im_H) : Prop := rd h 23 0 = some (.int y) ∧ bec 51 23 h h2 ∧ rd h2 0 4 = some (.int 1)
set_option maxRecDepth 20000 in
set_option maxHeartbeats 4000000 in
theorem c_X11_image  {h : im_H} (hI : tI h)  : CaP 2 102 [.ref 16] h (fun v h2 => tI h2 ∧ fr F_X11_image h h2 ∧ ∃ y : Int32, v = some (.int y) ∧ Q1_image y h h2) := by
  refine cap_of (d := 1) (M := mX11_image) rfl (Nat.le_of_ble_eq_true rfl) ?_
  show EvP im_K0 1 mX11_image (0, [(0, .ref 16)], [], h) _
  have f0 : fr F_X11_image h h := fr_rf
  refine te_aload_n (p2 := 1) rfl rfl rfl ?_
  refine tg_r (p2 := 4) (i := 0) (r := 67) rfl rfl hI rfl rfl rfl ?_
  refine te_aload_n (p2 := 5) rfl rfl rfl ?_
  refine tg_r (p2 := 8) (i := 0) (r := 39) rfl rfl hI rfl rfl rfl ?_
  obtain ⟨v2, e2, y2, w2, a2, b2, _⟩ := hI.2.1 23 0 (.inl ((-2147483648), 2147483647, 9999999999)) rfl
  subst w2
  refine tc_V (p2 := 11) (i := 51) rfl rfl rfl rfl hI rfl rfl rfl (c_X9_become (s := 51) (o := 23) hI (by decide) (by decide)) (by decide) (fun v1 h1 hq1 => ?_)
  obtain ⟨I1, g1, w1, B1⟩ := hq1
  subst w1
  have f1 := fr_tr (F1 := (F_X9_become 51 23)) (F := F_X11_image) f0 g1 (by decide)
  show EvP _ _ _ (11, [(0, .ref 16)], [], h1) _
  refine te_aload_n (p2 := 12) rfl rfl rfl ?_
  refine te_iconst (p2 := 13) (x := 1) rfl rfl (by decide) ?_
  refine tp_i (p2 := 16) (i := 0) rfl rfl I1 rfl rfl (by decide) rfl rfl rfl (by decide) (by decide) (by decide) rfl (fun h3 I3 u3 => ?_)
  have f3 := fr_st (F := F_X11_image) 0 f1 u3 rfl (by decide) (by decide)
  refine te_aload_n (p2 := 17) rfl rfl rfl ?_
  refine tg_r (p2 := 20) (i := 0) (r := 39) rfl rfl I3 rfl rfl rfl ?_
  refine tg_e (p2 := 23) (i := 23) (v := .int y2) rfl rfl I3 rfl rfl ((u3.2 _ _ (Or.inl (by decide))).trans ((g1 _ _ rfl).trans e2)) ?_
  exact te_iret rfl rfl ⟨I3, f3, _, rfl, e2, (bec_r B1 (fun i k _ _ => u3.2 _ _ (Or.inl (by omega)))), u3.1⟩
abbrev Q1_back (y : Int32) (h h2 : im_H) : Prop := ∃ b : Int32, rd h 0 4 = some (.int b) ∧ ((b.toInt = 0 ∧ y = -3 ∧ h2 = h) ∨ (b.toInt ≠ 0 ∧ rd h 51 0 = some (.int y) ∧ bec 23 51 h h2))
set_option maxRecDepth 20000 in
set_option maxHeartbeats 4000000 in
theorem c_X11_back  {h : im_H} (hI : tI h)  : CaP 2 103 [.ref 16] h (fun v h2 => tI h2 ∧ fr F_X11_back h h2 ∧ ∃ y : Int32, v = some (.int y) ∧ Q1_back y h h2) := by
  refine cap_of (d := 1) (M := mX11_back) rfl (Nat.le_of_ble_eq_true rfl) ?_
  show EvP im_K0 1 mX11_back (0, [(0, .ref 16)], [], h) _
  have f0 : fr F_X11_back h h := fr_rf
  refine te_aload_n (p2 := 1) rfl rfl rfl ?_
  refine tg_i (p2 := 4) (i := 0) rfl rfl hI rfl rfl rfl (fun y1 a1 b1 e1 => ?_)
  refine tz_ne (p2 := 7) rfl rfl rfl (fun c2 => ?_) (fun c2 => ?_)
  · refine te_aload_n (p2 := 11) rfl rfl rfl ?_
    refine tg_r (p2 := 14) (i := 0) (r := 39) rfl rfl hI rfl rfl rfl ?_
    refine te_aload_n (p2 := 15) rfl rfl rfl ?_
    refine tg_r (p2 := 18) (i := 0) (r := 67) rfl rfl hI rfl rfl rfl ?_
    obtain ⟨v4, e4, y4, w4, a4, b4, _⟩ := hI.2.1 51 0 (.inl ((-2147483648), 2147483647, 9999999999)) rfl
    subst w4
    refine tc_V (p2 := 21) (i := 23) rfl rfl rfl rfl hI rfl rfl rfl (c_X9_become (s := 23) (o := 51) hI (by decide) (by decide)) (by decide) (fun v3 h3 hq3 => ?_)
    obtain ⟨I3, g3, w3, B3⟩ := hq3
    subst w3
    have f3 := fr_tr (F1 := (F_X9_become 23 51)) (F := F_X11_back) f0 g3 (by decide)
    show EvP _ _ _ (21, [(0, .ref 16)], [], h3) _
    refine te_aload_n (p2 := 22) rfl rfl rfl ?_
    refine tg_r (p2 := 25) (i := 0) (r := 39) rfl rfl I3 rfl rfl rfl ?_
    refine tg_e (p2 := 28) (i := 23) (v := .int y4) rfl rfl I3 rfl rfl (B3.1.1.trans e4) ?_
    exact te_iret rfl rfl ⟨I3, f3, _, rfl, y1, e1, Or.inr ⟨by omega, e4, B3⟩⟩
  · refine te_bipush (p2 := 9) (x := (-3)) rfl rfl (by decide) ?_
    exact te_iret rfl rfl ⟨hI, f0, _, rfl, y1, e1, Or.inl ⟨by omega, rfl, rfl⟩⟩
abbrev Q2_image (y : Int32) (h h2 : im_H) : Prop := rd h 149 105 = some (.int y) ∧ (∀ k : Nat, (k : Int) < 283 → rd h2 151 k = rd h 149 k) ∧ rd h2 148 3 = some (.int 1)
set_option maxRecDepth 20000 in
set_option maxHeartbeats 4000000 in
theorem c_X12_image  {h : im_H} (hI : tI h)  : CaP 1 189 [.ref 164] h (fun v h2 => tI h2 ∧ fr F_X12_image h h2 ∧ ∃ y : Int32, v = some (.int y) ∧ Q2_image y h h2) := by
  refine cap_of (d := 0) (M := mX12_image) rfl (Nat.le_of_ble_eq_true rfl) ?_
  show EvP im_K0 0 mX12_image (0, [(0, .ref 164)], [], h) _
  have f0 : fr F_X12_image h h := fr_rf
  refine te_iconst (p2 := 1) (x := 0) rfl rfl (by decide) ?_
  refine te_istore_n (p2 := 2) (lv2 := [(1, .int 0), (0, .ref 164)]) rfl rfl (by decide) rfl ?_
  have lp1 : ∀ (n1 : Nat) (v1_1 : Int32) (h1 : im_H), tI h1 → fr F_X12_image h h1 → 0 ≤ v1_1.toInt → v1_1.toInt ≤ 283 → (∀ k : Nat, (k : Int) < v1_1.toInt → rd h1 151 k = rd h 149 k) → 283 - v1_1.toInt < (n1 : Int) → EvP im_K0 0 mX12_image (2, [(0, .ref 164), (1, .int v1_1)], [], h1) (fun v h2 => tI h2 ∧ fr F_X12_image h h2 ∧ ∃ y : Int32, v = some (.int y) ∧ Q2_image y h h2) := by
    intro n1
    induction n1 with
    | zero => intro v1_1 h1 I1 f1 a1_1 b1_1 w1_0 m1; exfalso; omega
    | succ n1 ih1 =>
      intro v1_1 h1 I1 f1 a1_1 b1_1 w1_0 m1
      refine te_iload_n (p2 := 3) rfl rfl rfl ?_
      refine te_sipush (p2 := 6) (x := 283) rfl rfl (by decide) ?_
      refine tb_ge (p2 := 9) rfl rfl rfl (show Int32.toInt 283 = 283 from rfl) (fun c2 => ?_) (fun c2 => ?_)
      · refine te_aload_n (p2 := 28) rfl rfl rfl ?_
        refine te_iconst (p2 := 29) (x := 1) rfl rfl (by decide) ?_
        refine tp_i (p2 := 32) (i := 148) rfl rfl I1 rfl rfl (by decide) rfl rfl rfl (by decide) (by decide) (by decide) rfl (fun h3 I3 u3 => ?_)
        have f3 := fr_st (F := F_X12_image) 0 f1 u3 rfl (by decide) (by decide)
        refine te_aload_n (p2 := 33) rfl rfl rfl ?_
        refine tg_r (p2 := 36) (i := 148) (r := 165) rfl rfl I3 rfl rfl rfl ?_
        refine te_bipush (p2 := 38) (x := 105) rfl rfl (by decide) ?_
        refine tl_i (p2 := 39) (i := 149) (n := 283) rfl rfl I3 rfl rfl rfl rfl (by decide) (by decide) (fun y4 a4 b4 g4 e4 => ?_)
        exact te_iret rfl rfl ⟨I3, f3, _, rfl, ((f3 149 105 rfl).symm.trans e4), (fun k hk => (u3.2 _ _ (Or.inl (by decide))).trans (w1_0 k (by omega))), u3.1⟩
      · refine te_aload_n (p2 := 10) rfl rfl rfl ?_
        refine tg_r (p2 := 13) (i := 148) (r := 167) rfl rfl I1 rfl rfl rfl ?_
        refine te_iload_n (p2 := 14) rfl rfl rfl ?_
        refine te_aload_n (p2 := 15) rfl rfl rfl ?_
        refine tg_r (p2 := 18) (i := 148) (r := 165) rfl rfl I1 rfl rfl rfl ?_
        refine te_iload_n (p2 := 19) rfl rfl rfl ?_
        refine tl_i (p2 := 20) (i := 149) (n := 283) rfl rfl I1 rfl rfl rfl rfl (by omega) (by omega) (fun y5 a5 b5 g5 e5 => ?_)
        refine ts_i (p2 := 21) (i := 151) (n := 283) rfl rfl I1 rfl rfl rfl rfl (by omega) (by omega) (i32_lo _) (i32_hi _) (i32_ho _) rfl (fun h6 I6 u6 => ?_)
        have f6 := fr_st (F := F_X12_image) 1 f1 u6 rfl (by omega) (by omega)
        refine ar_inc (p2 := 24) (x := v1_1) rfl rfl (by decide) rfl (by decide) rfl (by omega) (by omega) (fun z7 e7 f7 => ?_)
        show EvP _ _ _ (24, [(1, .int z7), (0, .ref 164)], [], h6) _
        refine te_goto rfl ?_
        refine te_lv [(0, .ref 164), (1, .int z7)] rfl rfl ⟨rfl, rfl, trivial⟩ ?_
        exact ih1 z7 h6 I6 f6 (by omega) (by omega) (fun k hk => by (by_cases hc : k = v1_1.toInt.toNat); (· rw [hc]; exact u6.1.trans ((((u6.2 _ _ (Or.inl (by decide))).trans e5)).symm.trans (f6 149 _ rfl))); (· exact (u6.2 _ _ (Or.inr hc)).trans (w1_0 k (by omega)))) (by omega)
  refine te_lv [(0, .ref 164), (1, .int 0)] rfl rfl ⟨rfl, rfl, trivial⟩ ?_
  exact lp1 284 0 h hI f0 (by decide) (by decide) (fun k hk => by exfalso; have := (show Int32.toInt 0 = 0 from rfl); omega) (by have cc0 := (show Int32.toInt 0 = 0 from rfl); omega)
abbrev Q2_back (y : Int32) (h h2 : im_H) : Prop := ∃ b : Int32, rd h 148 3 = some (.int b) ∧ ((b.toInt = 0 ∧ y = -3 ∧ h2 = h) ∨ (b.toInt ≠ 0 ∧ rd h 151 105 = some (.int y) ∧ (∀ k : Nat, (k : Int) < 283 → rd h2 149 k = rd h 151 k)))
set_option maxRecDepth 20000 in
set_option maxHeartbeats 4000000 in
theorem c_X12_back  {h : im_H} (hI : tI h)  : CaP 1 190 [.ref 164] h (fun v h2 => tI h2 ∧ fr F_X12_back h h2 ∧ ∃ y : Int32, v = some (.int y) ∧ Q2_back y h h2) := by
  refine cap_of (d := 0) (M := mX12_back) rfl (Nat.le_of_ble_eq_true rfl) ?_
  show EvP im_K0 0 mX12_back (0, [(0, .ref 164)], [], h) _
  have f0 : fr F_X12_back h h := fr_rf
  refine te_aload_n (p2 := 1) rfl rfl rfl ?_
  refine tg_i (p2 := 4) (i := 148) rfl rfl hI rfl rfl rfl (fun y1 a1 b1 e1 => ?_)
  refine tz_ne (p2 := 7) rfl rfl rfl (fun c2 => ?_) (fun c2 => ?_)
  · refine te_iconst (p2 := 11) (x := 0) rfl rfl (by decide) ?_
    refine te_istore_n (p2 := 12) (lv2 := [(1, .int 0), (0, .ref 164)]) rfl rfl (by decide) rfl ?_
    have lp3 : ∀ (n3 : Nat) (v3_1 : Int32) (h3 : im_H), tI h3 → fr F_X12_back h h3 → 0 ≤ v3_1.toInt → v3_1.toInt ≤ 283 → (∀ k : Nat, (k : Int) < v3_1.toInt → rd h3 149 k = rd h 151 k) → 283 - v3_1.toInt < (n3 : Int) → EvP im_K0 0 mX12_back (12, [(0, .ref 164), (1, .int v3_1)], [], h3) (fun v h2 => tI h2 ∧ fr F_X12_back h h2 ∧ ∃ y : Int32, v = some (.int y) ∧ Q2_back y h h2) := by
      intro n3
      induction n3 with
      | zero => intro v3_1 h3 I3 f3 a3_1 b3_1 w3_0 m3; exfalso; omega
      | succ n3 ih3 =>
        intro v3_1 h3 I3 f3 a3_1 b3_1 w3_0 m3
        refine te_iload_n (p2 := 13) rfl rfl rfl ?_
        refine te_sipush (p2 := 16) (x := 283) rfl rfl (by decide) ?_
        refine tb_ge (p2 := 19) rfl rfl rfl (show Int32.toInt 283 = 283 from rfl) (fun c4 => ?_) (fun c4 => ?_)
        · refine te_aload_n (p2 := 38) rfl rfl rfl ?_
          refine tg_r (p2 := 41) (i := 148) (r := 165) rfl rfl I3 rfl rfl rfl ?_
          refine te_bipush (p2 := 43) (x := 105) rfl rfl (by decide) ?_
          refine tl_i (p2 := 44) (i := 149) (n := 283) rfl rfl I3 rfl rfl rfl rfl (by decide) (by decide) (fun y5 a5 b5 g5 e5 => ?_)
          exact te_iret rfl rfl ⟨I3, f3, _, rfl, y1, e1, Or.inr ⟨by omega, (w3_0 105 (by omega)).symm.trans e5, (fun k hk => w3_0 k (by omega))⟩⟩
        · refine te_aload_n (p2 := 20) rfl rfl rfl ?_
          refine tg_r (p2 := 23) (i := 148) (r := 165) rfl rfl I3 rfl rfl rfl ?_
          refine te_iload_n (p2 := 24) rfl rfl rfl ?_
          refine te_aload_n (p2 := 25) rfl rfl rfl ?_
          refine tg_r (p2 := 28) (i := 148) (r := 167) rfl rfl I3 rfl rfl rfl ?_
          refine te_iload_n (p2 := 29) rfl rfl rfl ?_
          refine tl_i (p2 := 30) (i := 151) (n := 283) rfl rfl I3 rfl rfl rfl rfl (by omega) (by omega) (fun y6 a6 b6 g6 e6 => ?_)
          refine ts_i (p2 := 31) (i := 149) (n := 283) rfl rfl I3 rfl rfl rfl rfl (by omega) (by omega) (i32_lo _) (i32_hi _) (i32_ho _) rfl (fun h7 I7 u7 => ?_)
          have f7 := fr_st (F := F_X12_back) 0 f3 u7 rfl (by omega) (by omega)
          refine ar_inc (p2 := 34) (x := v3_1) rfl rfl (by decide) rfl (by decide) rfl (by omega) (by omega) (fun z8 e8 f8 => ?_)
          show EvP _ _ _ (34, [(1, .int z8), (0, .ref 164)], [], h7) _
          refine te_goto rfl ?_
          refine te_lv [(0, .ref 164), (1, .int z8)] rfl rfl ⟨rfl, rfl, trivial⟩ ?_
          exact ih3 z8 h7 I7 f7 (by omega) (by omega) (fun k hk => by (by_cases hc : k = v3_1.toInt.toNat); (· rw [hc]; exact u7.1.trans ((((u7.2 _ _ (Or.inl (by decide))).trans e6)).symm.trans (f7 151 _ rfl))); (· exact (u7.2 _ _ (Or.inr hc)).trans (w3_0 k (by omega)))) (by omega)
    refine te_lv [(0, .ref 164), (1, .int 0)] rfl rfl ⟨rfl, rfl, trivial⟩ ?_
    exact lp3 284 0 h hI f0 (by decide) (by decide) (fun k hk => by exfalso; have := (show Int32.toInt 0 = 0 from rfl); omega) (by have cc0 := (show Int32.toInt 0 = 0 from rfl); omega)
  · refine te_bipush (p2 := 9) (x := (-3)) rfl rfl (by decide) ?_
    exact te_iret rfl rfl ⟨hI, f0, _, rfl, y1, e1, Or.inl ⟨by omega, rfl, rfl⟩⟩
set_option maxRecDepth 20000 in
set_option maxHeartbeats 4000000 in
theorem c_X12_lays {back : Int32} {h : im_H} (hI : tI h) (p_back0 : 0 ≤ back.toInt) (p_back1 : back.toInt ≤ 1) : CaP 1 186 [.ref 164, .int back] h (fun v h2 => tI h2 ∧ fr F_X12_lays h h2 ∧ v = none ∧ (back.toInt = 0 → (∀ k : Nat, (k : Int) < 283 → rd h2 150 k = rd h 149 k) ∧ ∀ k : Nat, rd h2 149 k = rd h 149 k) ∧ (back.toInt ≠ 0 → (∀ k : Nat, (k : Int) < 283 → rd h2 149 k = rd h 150 k) ∧ ∀ k : Nat, rd h2 150 k = rd h 150 k)) := by
  refine cap_of (d := 0) (M := mX12_lays) rfl (Nat.le_of_ble_eq_true rfl) ?_
  show EvP im_K0 0 mX12_lays (0, [(0, .ref 164), (1, .int back)], [], h) _
  have f0 : fr F_X12_lays h h := fr_rf
  refine te_iconst (p2 := 1) (x := 0) rfl rfl (by decide) ?_
  refine te_istore_n (p2 := 2) (lv2 := [(2, .int 0), (0, .ref 164), (1, .int back)]) rfl rfl (by decide) rfl ?_
  have lp1 : ∀ (n1 : Nat) (v1_2 : Int32) (h1 : im_H), tI h1 → fr F_X12_lays h h1 → 0 ≤ v1_2.toInt → v1_2.toInt ≤ 283 → ((back.toInt = 0 → (∀ k : Nat, (k : Int) < v1_2.toInt → rd h1 150 k = rd h 149 k) ∧ ∀ k : Nat, rd h1 149 k = rd h 149 k) ∧ (back.toInt ≠ 0 → (∀ k : Nat, (k : Int) < v1_2.toInt → rd h1 149 k = rd h 150 k) ∧ ∀ k : Nat, rd h1 150 k = rd h 150 k)) → 283 - v1_2.toInt < (n1 : Int) → EvP im_K0 0 mX12_lays (2, [(0, .ref 164), (1, .int back), (2, .int v1_2)], [], h1) (fun v h2 => tI h2 ∧ fr F_X12_lays h h2 ∧ v = none ∧ (back.toInt = 0 → (∀ k : Nat, (k : Int) < 283 → rd h2 150 k = rd h 149 k) ∧ ∀ k : Nat, rd h2 149 k = rd h 149 k) ∧ (back.toInt ≠ 0 → (∀ k : Nat, (k : Int) < 283 → rd h2 149 k = rd h 150 k) ∧ ∀ k : Nat, rd h2 150 k = rd h 150 k)) := by
    intro n1
    induction n1 with
    | zero => intro v1_2 h1 I1 f1 a1_2 b1_2 w1_0 m1; exfalso; omega
    | succ n1 ih1 =>
      intro v1_2 h1 I1 f1 a1_2 b1_2 w1_0 m1
      refine te_iload_n (p2 := 3) rfl rfl rfl ?_
      refine te_sipush (p2 := 6) (x := 283) rfl rfl (by decide) ?_
      refine tb_ge (p2 := 9) rfl rfl rfl (show Int32.toInt 283 = 283 from rfl) (fun c2 => ?_) (fun c2 => ?_)
      · exact te_vret rfl rfl ⟨I1, f1, rfl, ⟨fun hb => ⟨fun k hk => (w1_0.1 hb).1 k (by omega), (w1_0.1 hb).2⟩, fun hb => ⟨fun k hk => (w1_0.2 hb).1 k (by omega), (w1_0.2 hb).2⟩⟩⟩
      · refine te_iload_n (p2 := 10) rfl rfl rfl ?_
        refine tz_eq (p2 := 13) rfl rfl rfl (fun c3 => ?_) (fun c3 => ?_)
        · refine te_aload_n (p2 := 29) rfl rfl rfl ?_
          refine tg_r (p2 := 32) (i := 148) (r := 166) rfl rfl I1 rfl rfl rfl ?_
          refine te_iload_n (p2 := 33) rfl rfl rfl ?_
          refine te_aload_n (p2 := 34) rfl rfl rfl ?_
          refine tg_r (p2 := 37) (i := 148) (r := 165) rfl rfl I1 rfl rfl rfl ?_
          refine te_iload_n (p2 := 38) rfl rfl rfl ?_
          refine tl_i (p2 := 39) (i := 149) (n := 283) rfl rfl I1 rfl rfl rfl rfl (by omega) (by omega) (fun y4 a4 b4 g4 e4 => ?_)
          refine ts_i (p2 := 40) (i := 150) (n := 283) rfl rfl I1 rfl rfl rfl rfl (by omega) (by omega) (i32_lo _) (i32_hi _) (i32_ho _) rfl (fun h5 I5 u5 => ?_)
          have f5 := fr_st (F := F_X12_lays) 1 f1 u5 rfl (by omega) (by omega)
          refine ar_inc (p2 := 43) (x := v1_2) rfl rfl (by decide) rfl (by decide) rfl (by omega) (by omega) (fun z6 e6 f6 => ?_)
          show EvP _ _ _ (43, [(2, .int z6), (0, .ref 164), (1, .int back)], [], h5) _
          refine te_goto rfl ?_
          refine te_lv [(0, .ref 164), (1, .int back), (2, .int z6)] rfl rfl ⟨rfl, rfl, rfl, trivial⟩ ?_
          exact ih1 z6 h5 I5 f5 (by omega) (by omega) ⟨fun hb => ⟨fun k hk => by (by_cases hc : k = v1_2.toInt.toNat); (· rw [hc]; exact u5.1.trans ((((u5.2 _ _ (Or.inl (by decide))).trans e4)).symm.trans ((u5.2 _ _ (Or.inl (by decide))).trans ((w1_0.1 hb).2 _)))); (· exact (u5.2 _ _ (Or.inr hc)).trans ((w1_0.1 hb).1 k (by omega))), fun k => (u5.2 _ _ (Or.inl (by decide))).trans ((w1_0.1 hb).2 k)⟩, fun hb => absurd (by omega) hb⟩ (by omega)
        · refine te_aload_n (p2 := 14) rfl rfl rfl ?_
          refine tg_r (p2 := 17) (i := 148) (r := 165) rfl rfl I1 rfl rfl rfl ?_
          refine te_iload_n (p2 := 18) rfl rfl rfl ?_
          refine te_aload_n (p2 := 19) rfl rfl rfl ?_
          refine tg_r (p2 := 22) (i := 148) (r := 166) rfl rfl I1 rfl rfl rfl ?_
          refine te_iload_n (p2 := 23) rfl rfl rfl ?_
          refine tl_i (p2 := 24) (i := 150) (n := 283) rfl rfl I1 rfl rfl rfl rfl (by omega) (by omega) (fun y7 a7 b7 g7 e7 => ?_)
          refine ts_i (p2 := 25) (i := 149) (n := 283) rfl rfl I1 rfl rfl rfl rfl (by omega) (by omega) (i32_lo _) (i32_hi _) (i32_ho _) rfl (fun h8 I8 u8 => ?_)
          have f8 := fr_st (F := F_X12_lays) 0 f1 u8 rfl (by omega) (by omega)
          refine te_goto rfl ?_
          refine ar_inc (p2 := 43) (x := v1_2) rfl rfl (by decide) rfl (by decide) rfl (by omega) (by omega) (fun z9 e9 f9 => ?_)
          show EvP _ _ _ (43, [(2, .int z9), (0, .ref 164), (1, .int back)], [], h8) _
          refine te_goto rfl ?_
          refine te_lv [(0, .ref 164), (1, .int back), (2, .int z9)] rfl rfl ⟨rfl, rfl, rfl, trivial⟩ ?_
          exact ih1 z9 h8 I8 f8 (by omega) (by omega) ⟨fun hb => absurd hb (by omega), fun hb => ⟨fun k hk => by (by_cases hc : k = v1_2.toInt.toNat); (· rw [hc]; exact u8.1.trans ((((u8.2 _ _ (Or.inl (by decide))).trans e7)).symm.trans ((u8.2 _ _ (Or.inl (by decide))).trans ((w1_0.2 hb).2 _)))); (· exact (u8.2 _ _ (Or.inr hc)).trans ((w1_0.2 hb).1 k (by omega))), fun k => (u8.2 _ _ (Or.inl (by decide))).trans ((w1_0.2 hb).2 k)⟩⟩ (by omega)
  refine te_lv [(0, .ref 164), (1, .int back), (2, .int 0)] rfl rfl ⟨rfl, rfl, rfl, trivial⟩ ?_
  exact lp1 284 0 h hI f0 (by decide) (by decide) ⟨fun _ => ⟨(fun k hk => by exfalso; have := (show Int32.toInt 0 = 0 from rfl); omega), fun k => rfl⟩, fun _ => ⟨(fun k hk => by exfalso; have := (show Int32.toInt 0 = 0 from rfl); omega), fun k => rfl⟩⟩ (by have cc0 := (show Int32.toInt 0 = 0 from rfl); omega)
abbrev Q2_beside (x1 x2 : Int32) (y : Int64) (h h2 : im_H) : Prop := ∀ k : Nat, (k : Int) < 283 → rd h2 149 k = rd h 149 k
set_option maxRecDepth 20000 in
set_option maxHeartbeats 4000000 in
theorem c_X12_beside {x1 : Int32} {x2 : Int32} {h : im_H} (hI : tI h)  : CaP 9 187 [.ref 164, .int x1, .int x2] h (fun v h2 => tI h2 ∧ fr F_X12_beside h h2 ∧ ∃ y : Int64, v = some (.long y) ∧ Q2_beside x1 x2 y h h2) := by
  refine cap_of (d := 8) (M := mX12_beside) rfl (Nat.le_of_ble_eq_true rfl) ?_
  show EvP im_K0 8 mX12_beside (0, [(0, .ref 164), (1, .int x1), (2, .int x2)], [], h) _
  have f0 : fr F_X12_beside h h := fr_rf
  refine te_iload_n (p2 := 1) rfl rfl rfl ?_
  refine te_iconst (p2 := 2) (x := 1) rfl rfl (by decide) ?_
  refine te_bipush (p2 := 4) (x := 60) rfl rfl (by decide) ?_
  refine cS_pI (p2 := 7) rfl rfl rfl rfl (t_X12_in (n := x1) (a := 1) (b := 60) hI ) (by decide) (fun y1 r1 => ?_)
  rcases r1 with ⟨w1, c1⟩ | ⟨w1, c1⟩
  · subst w1
    have cc1_1 := (show Int32.toInt 1 = 1 from rfl)
    have cc1_2 := (show Int32.toInt 60 = 60 from rfl)
    refine tz_eq (p2 := 10) rfl rfl (show Int32.toInt 1 = 1 from rfl) (fun c2 => absurd c2 (by omega)) (fun c2 => ?_)
    refine te_iload_n (p2 := 11) rfl rfl rfl ?_
    refine te_iconst (p2 := 12) (x := 0) rfl rfl (by decide) ?_
    refine te_iconst (p2 := 13) (x := 3) rfl rfl (by decide) ?_
    refine cS_pI (p2 := 16) rfl rfl rfl rfl (t_X12_in (n := x2) (a := 0) (b := 3) hI ) (by decide) (fun y3 r3 => ?_)
    rcases r3 with ⟨w3, c3⟩ | ⟨w3, c3⟩
    · subst w3
      have cc3_1 := (show Int32.toInt 0 = 0 from rfl)
      have cc3_2 := (show Int32.toInt 3 = 3 from rfl)
      refine tz_eq (p2 := 19) rfl rfl (show Int32.toInt 1 = 1 from rfl) (fun c4 => absurd c4 (by omega)) (fun c4 => ?_)
      refine te_aload_n (p2 := 20) rfl rfl rfl ?_
      refine tg_r (p2 := 23) (i := 148) (r := 165) rfl rfl hI rfl rfl rfl ?_
      refine te_bipush (p2 := 25) (x := 105) rfl rfl (by decide) ?_
      refine tl_i (p2 := 26) (i := 149) (n := 283) rfl rfl hI rfl rfl rfl rfl (by decide) (by decide) (fun y5 a5 b5 g5 e5 => ?_)
      refine te_iload_n (p2 := 27) rfl rfl rfl ?_
      refine au_add (p2 := 28) rfl rfl (fun z6 e6 => ?_)
      refine te_sipush (p2 := 31) (x := 2000) rfl rfl (by decide) ?_
      refine tb_le (p2 := 34) rfl rfl rfl (show Int32.toInt 2000 = 2000 from rfl) (fun c7 => ?_) (fun c7 => ?_)
      · refine te_aload_n (p2 := 39) rfl rfl rfl ?_
        refine te_iconst (p2 := 40) (x := 0) rfl rfl (by decide) ?_
        refine tc_V (p2 := 43) (i := 148) rfl rfl rfl rfl hI rfl rfl rfl (c_X12_lays (back := 0) hI (by decide) (by decide)) (by decide) (fun v8 h8 hq8 => ?_)
        obtain ⟨I8, g8, w8, L8⟩ := hq8
        subst w8
        have f8 := fr_tr (F1 := F_X12_lays) (F := F_X12_beside) f0 g8 (by decide)
        show EvP _ _ _ (43, [(0, .ref 164), (1, .int x1), (2, .int x2)], [], h8) _
        refine te_iload_n (p2 := 44) rfl rfl rfl ?_
        refine te_iconst (p2 := 45) (x := 1) rfl rfl (by decide) ?_
        refine tb_ne (p2 := 48) rfl rfl rfl (show Int32.toInt 1 = 1 from rfl) (fun c9 => ?_) (fun c9 => ?_)
        · refine te_iload_n (p2 := 59) rfl rfl rfl ?_
          refine te_iconst (p2 := 60) (x := 2) rfl rfl (by decide) ?_
          refine tb_ne (p2 := 63) rfl rfl rfl (show Int32.toInt 2 = 2 from rfl) (fun c10 => ?_) (fun c10 => ?_)
          · refine te_iconst (p2 := 78) (x := 0) rfl rfl (by decide) ?_
            refine te_istore_n (p2 := 79) (lv2 := [(3, .int 0), (0, .ref 164), (1, .int x1), (2, .int x2)]) rfl rfl (by decide) rfl ?_
            refine te_iconst (p2 := 80) (x := 0) rfl rfl (by decide) ?_
            refine te_istore (p2 := 82) (lv2 := [(4, .int 0), (3, .int 0), (0, .ref 164), (1, .int x1), (2, .int x2)]) rfl rfl (by decide) rfl ?_
            have lp11 : ∀ (n11 : Nat) (v11_4 : Int32) (h11 : im_H), tI h11 → fr F_X12_beside h h11 → 0 ≤ v11_4.toInt → v11_4.toInt ≤ 60 → v11_4.toInt ≤ x1.toInt → (∀ k : Nat, (k : Int) < 283 → rd h11 150 k = rd h 149 k) → x1.toInt - v11_4.toInt < (n11 : Int) → EvP im_K0 8 mX12_beside (82, [(0, .ref 164), (1, .int x1), (2, .int x2), (3, .int 0), (4, .int v11_4)], [], h11) (fun v h2 => tI h2 ∧ fr F_X12_beside h h2 ∧ ∃ y : Int64, v = some (.long y) ∧ Q2_beside x1 x2 y h h2) := by
              intro n11
              induction n11 with
              | zero => intro v11_4 h11 I11 f11 a11_4 b11_4 l11_0 w11_0 m11; exfalso; omega
              | succ n11 ih11 =>
                intro v11_4 h11 I11 f11 a11_4 b11_4 l11_0 w11_0 m11
                refine te_iload (p2 := 84) rfl rfl rfl ?_
                refine te_iload_n (p2 := 85) rfl rfl rfl ?_
                refine tb_ge (p2 := 88) rfl rfl rfl rfl (fun c12 => ?_) (fun c12 => ?_)
                · refine te_iload_n (p2 := 99) rfl rfl rfl ?_
                  refine tz_ne (p2 := 102) rfl rfl rfl (fun c13 => ?_) (fun c13 => ?_)
                  · refine te_iload_n (p2 := 113) rfl rfl rfl ?_
                    refine te_iconst (p2 := 114) (x := 1) rfl rfl (by decide) ?_
                    refine tb_ne (p2 := 117) rfl rfl rfl (show Int32.toInt 1 = 1 from rfl) (fun c14 => ?_) (fun c14 => ?_)
                    · refine te_iload_n (p2 := 130) rfl rfl rfl ?_
                      refine te_iconst (p2 := 131) (x := 2) rfl rfl (by decide) ?_
                      refine tb_ne (p2 := 134) rfl rfl rfl (show Int32.toInt 2 = 2 from rfl) (fun c15 => ?_) (fun c15 => ?_)
                      · refine te_aload_n (p2 := 151) rfl rfl rfl ?_
                        refine te_sipush (p2 := 154) (x := 164) rfl rfl (by decide) ?_
                        refine te_aload_n (p2 := 155) rfl rfl rfl ?_
                        refine tg_i (p2 := 158) (i := 148) rfl rfl I11 rfl rfl rfl (fun y16 a16 b16 e16 => ?_)
                        refine cV_pI (p2 := 161) (i := 148) rfl rfl rfl rfl I11 rfl rfl rfl (t_X12_sum (frm := 164) (many := y16) I11 (by decide) (by decide) (by omega) (by omega) (by have cq1 := (show Int32.toInt 164 = 164 from rfl); omega)) (by decide) (fun y17 r17 => ?_)
                        refine te_istore (p2 := 163) (lv2 := [(4, .int y17), (0, .ref 164), (1, .int x1), (2, .int x2), (3, .int 0)]) rfl rfl (by decide) rfl ?_
                        refine te_aload_n (p2 := 164) rfl rfl rfl ?_
                        refine te_iconst (p2 := 165) (x := 1) rfl rfl (by decide) ?_
                        refine tc_V (p2 := 168) (i := 148) rfl rfl rfl rfl I11 rfl rfl rfl (c_X12_lays (back := 1) I11 (by decide) (by decide)) (by decide) (fun v18 h18 hq18 => ?_)
                        obtain ⟨I18, g18, w18, L18⟩ := hq18
                        subst w18
                        have f18 := fr_tr (F1 := F_X12_lays) (F := F_X12_beside) f11 g18 (by decide)
                        show EvP _ _ _ (168, [(4, .int y17), (0, .ref 164), (1, .int x1), (2, .int x2), (3, .int 0)], [], h18) _
                        refine te_iload (p2 := 170) rfl rfl rfl ?_
                        refine te_i2l (p2 := 171) (z := (Int32.toInt64 y17)) rfl rfl rfl ?_
                        exact te_lret rfl rfl ⟨I18, f18, _, rfl, (fun k hk => ((L18.2 (by decide)).1 k hk).trans (w11_0 k hk))⟩
                      · refine te_aload_n (p2 := 135) rfl rfl rfl ?_
                        refine te_sipush (p2 := 138) (x := 236) rfl rfl (by decide) ?_
                        refine te_aload_n (p2 := 139) rfl rfl rfl ?_
                        refine tg_i (p2 := 142) (i := 148) rfl rfl I11 rfl rfl rfl (fun y19 a19 b19 e19 => ?_)
                        refine cV_pI (p2 := 145) (i := 148) rfl rfl rfl rfl I11 rfl rfl rfl (t_X12_sum (frm := 236) (many := y19) I11 (by decide) (by decide) (by omega) (by omega) (by have cq1 := (show Int32.toInt 236 = 236 from rfl); omega)) (by decide) (fun y20 r20 => ?_)
                        refine te_iload_n (p2 := 146) rfl rfl rfl ?_
                        have n21_y20 := i32_lo y20
                        have o21_y20 := i32_hi y20
                        refine ar_sub (p2 := 147) rfl rfl rfl (show Int32.toInt 0 = 0 from rfl) (by omega) (by omega) (fun z21 e21 f21 => ?_)
                        refine te_goto rfl ?_
                        refine te_istore (p2 := 163) (lv2 := [(4, .int z21), (0, .ref 164), (1, .int x1), (2, .int x2), (3, .int 0)]) rfl rfl (by decide) rfl ?_
                        refine te_aload_n (p2 := 164) rfl rfl rfl ?_
                        refine te_iconst (p2 := 165) (x := 1) rfl rfl (by decide) ?_
                        refine tc_V (p2 := 168) (i := 148) rfl rfl rfl rfl I11 rfl rfl rfl (c_X12_lays (back := 1) I11 (by decide) (by decide)) (by decide) (fun v22 h22 hq22 => ?_)
                        obtain ⟨I22, g22, w22, L22⟩ := hq22
                        subst w22
                        have f22 := fr_tr (F1 := F_X12_lays) (F := F_X12_beside) f11 g22 (by decide)
                        show EvP _ _ _ (168, [(4, .int z21), (0, .ref 164), (1, .int x1), (2, .int x2), (3, .int 0)], [], h22) _
                        refine te_iload (p2 := 170) rfl rfl rfl ?_
                        refine te_i2l (p2 := 171) (z := (Int32.toInt64 z21)) rfl rfl rfl ?_
                        exact te_lret rfl rfl ⟨I22, f22, _, rfl, (fun k hk => ((L22.2 (by decide)).1 k hk).trans (w11_0 k hk))⟩
                    · refine te_aload_n (p2 := 118) rfl rfl rfl ?_
                      refine tg_r (p2 := 121) (i := 148) (r := 165) rfl rfl I11 rfl rfl rfl ?_
                      refine te_bipush (p2 := 123) (x := 100) rfl rfl (by decide) ?_
                      refine tl_i (p2 := 124) (i := 149) (n := 283) rfl rfl I11 rfl rfl rfl rfl (by decide) (by decide) (fun y23 a23 b23 g23 e23 => ?_)
                      refine te_iload_n (p2 := 125) rfl rfl rfl ?_
                      have n24_y23 := i32_lo y23
                      have o24_y23 := i32_hi y23
                      refine ar_sub (p2 := 126) rfl rfl rfl (show Int32.toInt 0 = 0 from rfl) (by omega) (by omega) (fun z24 e24 f24 => ?_)
                      refine te_goto rfl ?_
                      refine te_istore (p2 := 163) (lv2 := [(4, .int z24), (0, .ref 164), (1, .int x1), (2, .int x2), (3, .int 0)]) rfl rfl (by decide) rfl ?_
                      refine te_aload_n (p2 := 164) rfl rfl rfl ?_
                      refine te_iconst (p2 := 165) (x := 1) rfl rfl (by decide) ?_
                      refine tc_V (p2 := 168) (i := 148) rfl rfl rfl rfl I11 rfl rfl rfl (c_X12_lays (back := 1) I11 (by decide) (by decide)) (by decide) (fun v25 h25 hq25 => ?_)
                      obtain ⟨I25, g25, w25, L25⟩ := hq25
                      subst w25
                      have f25 := fr_tr (F1 := F_X12_lays) (F := F_X12_beside) f11 g25 (by decide)
                      show EvP _ _ _ (168, [(4, .int z24), (0, .ref 164), (1, .int x1), (2, .int x2), (3, .int 0)], [], h25) _
                      refine te_iload (p2 := 170) rfl rfl rfl ?_
                      refine te_i2l (p2 := 171) (z := (Int32.toInt64 z24)) rfl rfl rfl ?_
                      exact te_lret rfl rfl ⟨I25, f25, _, rfl, (fun k hk => ((L25.2 (by decide)).1 k hk).trans (w11_0 k hk))⟩
                  · refine te_aload_n (p2 := 103) rfl rfl rfl ?_
                    refine te_iconst (p2 := 104) (x := 0) rfl rfl (by decide) ?_
                    refine te_bipush (p2 := 106) (x := 100) rfl rfl (by decide) ?_
                    refine cV_pI (p2 := 109) (i := 148) rfl rfl rfl rfl I11 rfl rfl rfl (t_X12_sum (frm := 0) (many := 100) I11 (by decide) (by decide) (by decide) (by decide) (by have cq1 := (show Int32.toInt 0 = 0 from rfl); have cq2 := (show Int32.toInt 100 = 100 from rfl); omega)) (by decide) (fun y26 r26 => ?_)
                    refine te_goto rfl ?_
                    refine te_istore (p2 := 163) (lv2 := [(4, .int y26), (0, .ref 164), (1, .int x1), (2, .int x2), (3, .int 0)]) rfl rfl (by decide) rfl ?_
                    refine te_aload_n (p2 := 164) rfl rfl rfl ?_
                    refine te_iconst (p2 := 165) (x := 1) rfl rfl (by decide) ?_
                    refine tc_V (p2 := 168) (i := 148) rfl rfl rfl rfl I11 rfl rfl rfl (c_X12_lays (back := 1) I11 (by decide) (by decide)) (by decide) (fun v27 h27 hq27 => ?_)
                    obtain ⟨I27, g27, w27, L27⟩ := hq27
                    subst w27
                    have f27 := fr_tr (F1 := F_X12_lays) (F := F_X12_beside) f11 g27 (by decide)
                    show EvP _ _ _ (168, [(4, .int y26), (0, .ref 164), (1, .int x1), (2, .int x2), (3, .int 0)], [], h27) _
                    refine te_iload (p2 := 170) rfl rfl rfl ?_
                    refine te_i2l (p2 := 171) (z := (Int32.toInt64 y26)) rfl rfl rfl ?_
                    exact te_lret rfl rfl ⟨I27, f27, _, rfl, (fun k hk => ((L27.2 (by decide)).1 k hk).trans (w11_0 k hk))⟩
                · refine te_aload_n (p2 := 89) rfl rfl rfl ?_
                  refine cV_mV (p2 := 92) (i := 148) rfl rfl rfl rfl I11 rfl rfl rfl (t_X12_goes  I11 ) (by decide) (fun h28 I28 g28 => ?_)
                  have f28 := fr_tr (F1 := F_X12_goes) (F := F_X12_beside) f11 g28 (by decide)
                  refine ar_inc (p2 := 95) (x := v11_4) rfl rfl (by decide) rfl (by decide) rfl (by omega) (by omega) (fun z29 e29 f29 => ?_)
                  show EvP _ _ _ (95, [(4, .int z29), (0, .ref 164), (1, .int x1), (2, .int x2), (3, .int 0)], [], h28) _
                  refine te_goto rfl ?_
                  refine te_lv [(0, .ref 164), (1, .int x1), (2, .int x2), (3, .int 0), (4, .int z29)] rfl rfl ⟨rfl, rfl, rfl, rfl, rfl, trivial⟩ ?_
                  exact ih11 z29 h28 I28 f28 (by omega) (by omega) (by have cc0 := (show Int32.toInt 0 = 0 from rfl); omega) (fun k hk => (g28 150 _ rfl).trans (w11_0 k hk)) (by have cc0 := (show Int32.toInt 0 = 0 from rfl); omega)
            refine te_lv [(0, .ref 164), (1, .int x1), (2, .int x2), (3, .int 0), (4, .int 0)] rfl rfl ⟨rfl, rfl, rfl, rfl, rfl, trivial⟩ ?_
            exact lp11 61 0 h8 I8 f8 (by decide) (by decide) (by have cc0 := (show Int32.toInt 0 = 0 from rfl); omega) (L8.1 (by decide)).1 (by have cc0 := (show Int32.toInt 0 = 0 from rfl); omega)
          · refine te_aload_n (p2 := 64) rfl rfl rfl ?_
            refine te_sipush (p2 := 67) (x := 236) rfl rfl (by decide) ?_
            refine te_aload_n (p2 := 68) rfl rfl rfl ?_
            refine tg_i (p2 := 71) (i := 148) rfl rfl I8 rfl rfl rfl (fun y30 a30 b30 e30 => ?_)
            refine cV_pI (p2 := 74) (i := 148) rfl rfl rfl rfl I8 rfl rfl rfl (t_X12_sum (frm := 236) (many := y30) I8 (by decide) (by decide) (by omega) (by omega) (by have cq1 := (show Int32.toInt 236 = 236 from rfl); omega)) (by decide) (fun y31 r31 => ?_)
            refine te_goto rfl ?_
            refine te_istore_n (p2 := 79) (lv2 := [(3, .int y31), (0, .ref 164), (1, .int x1), (2, .int x2)]) rfl rfl (by decide) rfl ?_
            refine te_iconst (p2 := 80) (x := 0) rfl rfl (by decide) ?_
            refine te_istore (p2 := 82) (lv2 := [(4, .int 0), (3, .int y31), (0, .ref 164), (1, .int x1), (2, .int x2)]) rfl rfl (by decide) rfl ?_
            have lp32 : ∀ (n32 : Nat) (v32_4 : Int32) (h32 : im_H), tI h32 → fr F_X12_beside h h32 → 0 ≤ v32_4.toInt → v32_4.toInt ≤ 60 → v32_4.toInt ≤ x1.toInt → (∀ k : Nat, (k : Int) < 283 → rd h32 150 k = rd h 149 k) → x1.toInt - v32_4.toInt < (n32 : Int) → EvP im_K0 8 mX12_beside (82, [(0, .ref 164), (1, .int x1), (2, .int x2), (3, .int y31), (4, .int v32_4)], [], h32) (fun v h2 => tI h2 ∧ fr F_X12_beside h h2 ∧ ∃ y : Int64, v = some (.long y) ∧ Q2_beside x1 x2 y h h2) := by
              intro n32
              induction n32 with
              | zero => intro v32_4 h32 I32 f32 a32_4 b32_4 l32_0 w32_0 m32; exfalso; omega
              | succ n32 ih32 =>
                intro v32_4 h32 I32 f32 a32_4 b32_4 l32_0 w32_0 m32
                refine te_iload (p2 := 84) rfl rfl rfl ?_
                refine te_iload_n (p2 := 85) rfl rfl rfl ?_
                refine tb_ge (p2 := 88) rfl rfl rfl rfl (fun c33 => ?_) (fun c33 => ?_)
                · refine te_iload_n (p2 := 99) rfl rfl rfl ?_
                  refine tz_ne (p2 := 102) rfl rfl rfl (fun c34 => ?_) (fun c34 => absurd c34 (by omega))
                  refine te_iload_n (p2 := 113) rfl rfl rfl ?_
                  refine te_iconst (p2 := 114) (x := 1) rfl rfl (by decide) ?_
                  refine tb_ne (p2 := 117) rfl rfl rfl (show Int32.toInt 1 = 1 from rfl) (fun c35 => ?_) (fun c35 => absurd c35 (by omega))
                  refine te_iload_n (p2 := 130) rfl rfl rfl ?_
                  refine te_iconst (p2 := 131) (x := 2) rfl rfl (by decide) ?_
                  refine tb_ne (p2 := 134) rfl rfl rfl (show Int32.toInt 2 = 2 from rfl) (fun c36 => absurd c36 (by omega)) (fun c36 => ?_)
                  refine te_aload_n (p2 := 135) rfl rfl rfl ?_
                  refine te_sipush (p2 := 138) (x := 236) rfl rfl (by decide) ?_
                  refine te_aload_n (p2 := 139) rfl rfl rfl ?_
                  refine tg_i (p2 := 142) (i := 148) rfl rfl I32 rfl rfl rfl (fun y37 a37 b37 e37 => ?_)
                  refine cV_pI (p2 := 145) (i := 148) rfl rfl rfl rfl I32 rfl rfl rfl (t_X12_sum (frm := 236) (many := y37) I32 (by decide) (by decide) (by omega) (by omega) (by have cq1 := (show Int32.toInt 236 = 236 from rfl); omega)) (by decide) (fun y38 r38 => ?_)
                  refine te_iload_n (p2 := 146) rfl rfl rfl ?_
                  refine au_sub (p2 := 147) rfl rfl (fun z39 e39 => ?_)
                  refine te_goto rfl ?_
                  refine te_istore (p2 := 163) (lv2 := [(4, .int z39), (0, .ref 164), (1, .int x1), (2, .int x2), (3, .int y31)]) rfl rfl (by decide) rfl ?_
                  refine te_aload_n (p2 := 164) rfl rfl rfl ?_
                  refine te_iconst (p2 := 165) (x := 1) rfl rfl (by decide) ?_
                  refine tc_V (p2 := 168) (i := 148) rfl rfl rfl rfl I32 rfl rfl rfl (c_X12_lays (back := 1) I32 (by decide) (by decide)) (by decide) (fun v40 h40 hq40 => ?_)
                  obtain ⟨I40, g40, w40, L40⟩ := hq40
                  subst w40
                  have f40 := fr_tr (F1 := F_X12_lays) (F := F_X12_beside) f32 g40 (by decide)
                  show EvP _ _ _ (168, [(4, .int z39), (0, .ref 164), (1, .int x1), (2, .int x2), (3, .int y31)], [], h40) _
                  refine te_iload (p2 := 170) rfl rfl rfl ?_
                  refine te_i2l (p2 := 171) (z := (Int32.toInt64 z39)) rfl rfl rfl ?_
                  exact te_lret rfl rfl ⟨I40, f40, _, rfl, (fun k hk => ((L40.2 (by decide)).1 k hk).trans (w32_0 k hk))⟩
                · refine te_aload_n (p2 := 89) rfl rfl rfl ?_
                  refine cV_mV (p2 := 92) (i := 148) rfl rfl rfl rfl I32 rfl rfl rfl (t_X12_goes  I32 ) (by decide) (fun h41 I41 g41 => ?_)
                  have f41 := fr_tr (F1 := F_X12_goes) (F := F_X12_beside) f32 g41 (by decide)
                  refine ar_inc (p2 := 95) (x := v32_4) rfl rfl (by decide) rfl (by decide) rfl (by omega) (by omega) (fun z42 e42 f42 => ?_)
                  show EvP _ _ _ (95, [(4, .int z42), (0, .ref 164), (1, .int x1), (2, .int x2), (3, .int y31)], [], h41) _
                  refine te_goto rfl ?_
                  refine te_lv [(0, .ref 164), (1, .int x1), (2, .int x2), (3, .int y31), (4, .int z42)] rfl rfl ⟨rfl, rfl, rfl, rfl, rfl, trivial⟩ ?_
                  exact ih32 z42 h41 I41 f41 (by omega) (by omega) (by omega) (fun k hk => (g41 150 _ rfl).trans (w32_0 k hk)) (by omega)
            refine te_lv [(0, .ref 164), (1, .int x1), (2, .int x2), (3, .int y31), (4, .int 0)] rfl rfl ⟨rfl, rfl, rfl, rfl, rfl, trivial⟩ ?_
            exact lp32 61 0 h8 I8 f8 (by decide) (by decide) (by have cc0 := (show Int32.toInt 0 = 0 from rfl); omega) (L8.1 (by decide)).1 (by have cc0 := (show Int32.toInt 0 = 0 from rfl); omega)
        · refine te_aload_n (p2 := 49) rfl rfl rfl ?_
          refine tg_r (p2 := 52) (i := 148) (r := 165) rfl rfl I8 rfl rfl rfl ?_
          refine te_bipush (p2 := 54) (x := 100) rfl rfl (by decide) ?_
          refine tl_i (p2 := 55) (i := 149) (n := 283) rfl rfl I8 rfl rfl rfl rfl (by decide) (by decide) (fun y43 a43 b43 g43 e43 => ?_)
          refine te_goto rfl ?_
          refine te_istore_n (p2 := 79) (lv2 := [(3, .int y43), (0, .ref 164), (1, .int x1), (2, .int x2)]) rfl rfl (by decide) rfl ?_
          refine te_iconst (p2 := 80) (x := 0) rfl rfl (by decide) ?_
          refine te_istore (p2 := 82) (lv2 := [(4, .int 0), (3, .int y43), (0, .ref 164), (1, .int x1), (2, .int x2)]) rfl rfl (by decide) rfl ?_
          have lp44 : ∀ (n44 : Nat) (v44_4 : Int32) (h44 : im_H), tI h44 → fr F_X12_beside h h44 → 0 ≤ v44_4.toInt → v44_4.toInt ≤ 60 → v44_4.toInt ≤ x1.toInt → (∀ k : Nat, (k : Int) < 283 → rd h44 150 k = rd h 149 k) → x1.toInt - v44_4.toInt < (n44 : Int) → EvP im_K0 8 mX12_beside (82, [(0, .ref 164), (1, .int x1), (2, .int x2), (3, .int y43), (4, .int v44_4)], [], h44) (fun v h2 => tI h2 ∧ fr F_X12_beside h h2 ∧ ∃ y : Int64, v = some (.long y) ∧ Q2_beside x1 x2 y h h2) := by
            intro n44
            induction n44 with
            | zero => intro v44_4 h44 I44 f44 a44_4 b44_4 l44_0 w44_0 m44; exfalso; omega
            | succ n44 ih44 =>
              intro v44_4 h44 I44 f44 a44_4 b44_4 l44_0 w44_0 m44
              refine te_iload (p2 := 84) rfl rfl rfl ?_
              refine te_iload_n (p2 := 85) rfl rfl rfl ?_
              refine tb_ge (p2 := 88) rfl rfl rfl rfl (fun c45 => ?_) (fun c45 => ?_)
              · refine te_iload_n (p2 := 99) rfl rfl rfl ?_
                refine tz_ne (p2 := 102) rfl rfl rfl (fun c46 => ?_) (fun c46 => absurd c46 (by omega))
                refine te_iload_n (p2 := 113) rfl rfl rfl ?_
                refine te_iconst (p2 := 114) (x := 1) rfl rfl (by decide) ?_
                refine tb_ne (p2 := 117) rfl rfl rfl (show Int32.toInt 1 = 1 from rfl) (fun c47 => absurd c47 (by omega)) (fun c47 => ?_)
                refine te_aload_n (p2 := 118) rfl rfl rfl ?_
                refine tg_r (p2 := 121) (i := 148) (r := 165) rfl rfl I44 rfl rfl rfl ?_
                refine te_bipush (p2 := 123) (x := 100) rfl rfl (by decide) ?_
                refine tl_i (p2 := 124) (i := 149) (n := 283) rfl rfl I44 rfl rfl rfl rfl (by decide) (by decide) (fun y48 a48 b48 g48 e48 => ?_)
                refine te_iload_n (p2 := 125) rfl rfl rfl ?_
                refine au_sub (p2 := 126) rfl rfl (fun z49 e49 => ?_)
                refine te_goto rfl ?_
                refine te_istore (p2 := 163) (lv2 := [(4, .int z49), (0, .ref 164), (1, .int x1), (2, .int x2), (3, .int y43)]) rfl rfl (by decide) rfl ?_
                refine te_aload_n (p2 := 164) rfl rfl rfl ?_
                refine te_iconst (p2 := 165) (x := 1) rfl rfl (by decide) ?_
                refine tc_V (p2 := 168) (i := 148) rfl rfl rfl rfl I44 rfl rfl rfl (c_X12_lays (back := 1) I44 (by decide) (by decide)) (by decide) (fun v50 h50 hq50 => ?_)
                obtain ⟨I50, g50, w50, L50⟩ := hq50
                subst w50
                have f50 := fr_tr (F1 := F_X12_lays) (F := F_X12_beside) f44 g50 (by decide)
                show EvP _ _ _ (168, [(4, .int z49), (0, .ref 164), (1, .int x1), (2, .int x2), (3, .int y43)], [], h50) _
                refine te_iload (p2 := 170) rfl rfl rfl ?_
                refine te_i2l (p2 := 171) (z := (Int32.toInt64 z49)) rfl rfl rfl ?_
                exact te_lret rfl rfl ⟨I50, f50, _, rfl, (fun k hk => ((L50.2 (by decide)).1 k hk).trans (w44_0 k hk))⟩
              · refine te_aload_n (p2 := 89) rfl rfl rfl ?_
                refine cV_mV (p2 := 92) (i := 148) rfl rfl rfl rfl I44 rfl rfl rfl (t_X12_goes  I44 ) (by decide) (fun h51 I51 g51 => ?_)
                have f51 := fr_tr (F1 := F_X12_goes) (F := F_X12_beside) f44 g51 (by decide)
                refine ar_inc (p2 := 95) (x := v44_4) rfl rfl (by decide) rfl (by decide) rfl (by omega) (by omega) (fun z52 e52 f52 => ?_)
                show EvP _ _ _ (95, [(4, .int z52), (0, .ref 164), (1, .int x1), (2, .int x2), (3, .int y43)], [], h51) _
                refine te_goto rfl ?_
                refine te_lv [(0, .ref 164), (1, .int x1), (2, .int x2), (3, .int y43), (4, .int z52)] rfl rfl ⟨rfl, rfl, rfl, rfl, rfl, trivial⟩ ?_
                exact ih44 z52 h51 I51 f51 (by omega) (by omega) (by omega) (fun k hk => (g51 150 _ rfl).trans (w44_0 k hk)) (by omega)
          refine te_lv [(0, .ref 164), (1, .int x1), (2, .int x2), (3, .int y43), (4, .int 0)] rfl rfl ⟨rfl, rfl, rfl, rfl, rfl, trivial⟩ ?_
          exact lp44 61 0 h8 I8 f8 (by decide) (by decide) (by have cc0 := (show Int32.toInt 0 = 0 from rfl); omega) (L8.1 (by decide)).1 (by have cc0 := (show Int32.toInt 0 = 0 from rfl); omega)
      · refine te_ldc2 (p2 := 37) (x := (-4611686018427387904)) rfl rfl rfl ?_
        exact te_lret rfl rfl ⟨hI, f0, _, rfl, (fun k hk => rfl)⟩
    · subst w3
      have cc3_1 := (show Int32.toInt 0 = 0 from rfl)
      have cc3_2 := (show Int32.toInt 3 = 3 from rfl)
      refine tz_eq (p2 := 19) rfl rfl (show Int32.toInt 0 = 0 from rfl) (fun c53 => ?_) (fun c53 => absurd c53 (by omega))
      refine te_ldc2 (p2 := 37) (x := (-4611686018427387904)) rfl rfl rfl ?_
      exact te_lret rfl rfl ⟨hI, f0, _, rfl, (fun k hk => rfl)⟩
  · subst w1
    have cc1_1 := (show Int32.toInt 1 = 1 from rfl)
    have cc1_2 := (show Int32.toInt 60 = 60 from rfl)
    refine tz_eq (p2 := 10) rfl rfl (show Int32.toInt 0 = 0 from rfl) (fun c54 => ?_) (fun c54 => absurd c54 (by omega))
    refine te_ldc2 (p2 := 37) (x := (-4611686018427387904)) rfl rfl rfl ?_
    exact te_lret rfl rfl ⟨hI, f0, _, rfl, (fun k hk => rfl)⟩
abbrev Q1_beside (x1 x2 : Int32) (y : Int64) (h h2 : im_H) : Prop := True
set_option maxRecDepth 20000 in
set_option maxHeartbeats 4000000 in
theorem c_X11_beside {x1 : Int32} {x2 : Int32} {h : im_H} (hI : tI h)  : CaP 8 100 [.ref 16, .int x1, .int x2] h (fun v h2 => tI h2 ∧ fr F_X11_beside h h2 ∧ ∃ y : Int64, v = some (.long y) ∧ Q1_beside x1 x2 y h h2) := by
  refine cap_of (d := 7) (M := mX11_beside) rfl (Nat.le_of_ble_eq_true rfl) ?_
  show EvP im_K0 7 mX11_beside (0, [(0, .ref 16), (1, .int x1), (2, .int x2)], [], h) _
  have f0 : fr F_X11_beside h h := fr_rf
  refine te_iload_n (p2 := 1) rfl rfl rfl ?_
  refine te_iconst (p2 := 2) (x := 1) rfl rfl (by decide) ?_
  refine te_bipush (p2 := 4) (x := 60) rfl rfl (by decide) ?_
  refine cS_pI (p2 := 7) rfl rfl rfl rfl (t_X11_between (n := x1) (a := 1) (b := 60) hI ) (by decide) (fun y1 r1 => ?_)
  rcases r1 with ⟨w1, c1⟩ | ⟨w1, c1⟩
  · subst w1
    have cc1_1 := (show Int32.toInt 1 = 1 from rfl)
    have cc1_2 := (show Int32.toInt 60 = 60 from rfl)
    refine tz_eq (p2 := 10) rfl rfl (show Int32.toInt 1 = 1 from rfl) (fun c2 => absurd c2 (by omega)) (fun c2 => ?_)
    refine te_iload_n (p2 := 11) rfl rfl rfl ?_
    refine te_iconst (p2 := 12) (x := 4) rfl rfl (by decide) ?_
    refine cS_pI (p2 := 15) rfl rfl rfl rfl (t_X11_within (n := x2) (b := 4) hI ) (by decide) (fun y3 r3 => ?_)
    rcases r3 with ⟨w3, c3⟩ | ⟨w3, c3⟩
    · subst w3
      have cc3_1 := (show Int32.toInt 4 = 4 from rfl)
      refine tz_eq (p2 := 18) rfl rfl (show Int32.toInt 1 = 1 from rfl) (fun c4 => absurd c4 (by omega)) (fun c4 => ?_)
      refine te_aload_n (p2 := 19) rfl rfl rfl ?_
      refine tg_r (p2 := 22) (i := 0) (r := 39) rfl rfl hI rfl rfl rfl ?_
      refine tg_i (p2 := 25) (i := 23) rfl rfl hI rfl rfl rfl (fun y5 a5 b5 e5 => ?_)
      refine te_iload_n (p2 := 26) rfl rfl rfl ?_
      refine au_add (p2 := 27) rfl rfl (fun z6 e6 => ?_)
      refine te_sipush (p2 := 30) (x := 2000) rfl rfl (by decide) ?_
      refine tb_le (p2 := 33) rfl rfl rfl (show Int32.toInt 2000 = 2000 from rfl) (fun c7 => ?_) (fun c7 => ?_)
      · refine te_aload_n (p2 := 38) rfl rfl rfl ?_
        refine tg_r (p2 := 41) (i := 0) (r := 53) rfl rfl hI rfl rfl rfl ?_
        refine te_aload_n (p2 := 42) rfl rfl rfl ?_
        refine tg_r (p2 := 45) (i := 0) (r := 39) rfl rfl hI rfl rfl rfl ?_
        refine cV_mV (p2 := 48) (i := 37) rfl rfl rfl rfl hI rfl rfl rfl (t_X9_become (s := 37) (o := 23) hI (by decide) (by decide)) (by decide) (fun h8 I8 g8 => ?_)
        have f8 := fr_tr (F1 := (F_X9_become 37 23)) (F := F_X11_beside) f0 g8 (by decide)
        refine te_iconst (p2 := 49) (x := 0) rfl rfl (by decide) ?_
        refine te_istore_n (p2 := 50) (lv2 := [(3, .int 0), (0, .ref 16), (1, .int x1), (2, .int x2)]) rfl rfl (by decide) rfl ?_
        have lp9 : ∀ (n9 : Nat) (v9_3 : Int32) (h9 : im_H), tI h9 → fr F_X11_beside h h9 → 0 ≤ v9_3.toInt → v9_3.toInt ≤ 60 → v9_3.toInt ≤ x1.toInt → x1.toInt - v9_3.toInt < (n9 : Int) → EvP im_K0 7 mX11_beside (50, [(0, .ref 16), (1, .int x1), (2, .int x2), (3, .int v9_3)], [], h9) (fun v h2 => tI h2 ∧ fr F_X11_beside h h2 ∧ ∃ y : Int64, v = some (.long y) ∧ Q1_beside x1 x2 y h h2) := by
          intro n9
          induction n9 with
          | zero => intro v9_3 h9 I9 f9 a9_3 b9_3 l9_0 m9; exfalso; omega
          | succ n9 ih9 =>
            intro v9_3 h9 I9 f9 a9_3 b9_3 l9_0 m9
            refine te_iload_n (p2 := 51) rfl rfl rfl ?_
            refine te_iload_n (p2 := 52) rfl rfl rfl ?_
            refine tb_ge (p2 := 55) rfl rfl rfl rfl (fun c10 => ?_) (fun c10 => ?_)
            · refine te_iload_n (p2 := 73) rfl rfl rfl ?_
              by_cases c11 : x2.toInt = 0
              · refine te_tsIn (k := 0) (p2 := 100) rfl c11 (by decide) (by decide) rfl (by decide) ?_
                refine te_aload_n (p2 := 101) rfl rfl rfl ?_
                refine tg_r (p2 := 104) (i := 0) (r := 53) rfl rfl I9 rfl rfl rfl ?_
                refine cV_pI (p2 := 107) (i := 37) rfl rfl rfl rfl I9 rfl rfl rfl (t_X9_allLoads (s := 37) I9 (by decide)) (by decide) (fun y12 r12 => ?_)
                refine te_i2l (p2 := 108) (z := (Int32.toInt64 y12)) rfl rfl rfl ?_
                exact te_lret rfl rfl ⟨I9, f9, _, rfl, trivial⟩
              · by_cases c13 : x2.toInt = 1
                · refine te_tsIn (k := 1) (p2 := 109) rfl c13 (by decide) (by decide) rfl (by decide) ?_
                  refine te_aload_n (p2 := 110) rfl rfl rfl ?_
                  refine tg_r (p2 := 113) (i := 0) (r := 53) rfl rfl I9 rfl rfl rfl ?_
                  refine tg_r (p2 := 116) (i := 37) (r := 54) rfl rfl I9 rfl rfl rfl ?_
                  refine te_iconst (p2 := 117) (x := 0) rfl rfl (by decide) ?_
                  refine tl_i (p2 := 118) (i := 38) (n := 3) rfl rfl I9 rfl rfl rfl rfl (by decide) (by decide) (fun y14 a14 b14 g14 e14 => ?_)
                  refine te_aload_n (p2 := 119) rfl rfl rfl ?_
                  refine tg_r (p2 := 122) (i := 0) (r := 39) rfl rfl I9 rfl rfl rfl ?_
                  refine tg_r (p2 := 125) (i := 23) (r := 40) rfl rfl I9 rfl rfl rfl ?_
                  refine te_iconst (p2 := 126) (x := 0) rfl rfl (by decide) ?_
                  refine tl_i (p2 := 127) (i := 24) (n := 3) rfl rfl I9 rfl rfl rfl rfl (by decide) (by decide) (fun y15 a15 b15 g15 e15 => ?_)
                  refine au_sub (p2 := 128) rfl rfl (fun z16 e16 => ?_)
                  refine te_i2l (p2 := 129) (z := (Int32.toInt64 z16)) rfl rfl rfl ?_
                  exact te_lret rfl rfl ⟨I9, f9, _, rfl, trivial⟩
                · by_cases c17 : x2.toInt = 2
                  · refine te_tsIn (k := 2) (p2 := 130) rfl c17 (by decide) (by decide) rfl (by decide) ?_
                    refine te_aload_n (p2 := 131) rfl rfl rfl ?_
                    refine tg_r (p2 := 134) (i := 0) (r := 53) rfl rfl I9 rfl rfl rfl ?_
                    refine cV_pI (p2 := 137) (i := 37) rfl rfl rfl rfl I9 rfl rfl rfl (t_X9_allDead (s := 37) I9 (by decide)) (by decide) (fun y18 r18 => ?_)
                    refine te_aload_n (p2 := 138) rfl rfl rfl ?_
                    refine tg_r (p2 := 141) (i := 0) (r := 39) rfl rfl I9 rfl rfl rfl ?_
                    refine cV_pI (p2 := 144) (i := 23) rfl rfl rfl rfl I9 rfl rfl rfl (t_X9_allDead (s := 23) I9 (by decide)) (by decide) (fun y19 r19 => ?_)
                    refine au_sub (p2 := 145) rfl rfl (fun z20 e20 => ?_)
                    refine te_i2l (p2 := 146) (z := (Int32.toInt64 z20)) rfl rfl rfl ?_
                    exact te_lret rfl rfl ⟨I9, f9, _, rfl, trivial⟩
                  · refine te_tsOut (p2 := 147) rfl (by omega) (by decide) ?_
                    refine te_aload_n (p2 := 148) rfl rfl rfl ?_
                    refine tg_r (p2 := 151) (i := 0) (r := 53) rfl rfl I9 rfl rfl rfl ?_
                    refine cV_pI (p2 := 154) (i := 37) rfl rfl rfl rfl I9 rfl rfl rfl (t_X9_allHurt (s := 37) I9 (by decide)) (by decide) (fun y21 r21 => ?_)
                    refine te_i2l (p2 := 155) (z := (Int32.toInt64 y21)) rfl rfl rfl ?_
                    exact te_lret rfl rfl ⟨I9, f9, _, rfl, trivial⟩
            · refine te_aload_n (p2 := 56) rfl rfl rfl ?_
              refine tg_r (p2 := 59) (i := 0) (r := 17) rfl rfl I9 rfl rfl rfl ?_
              refine te_aload_n (p2 := 60) rfl rfl rfl ?_
              refine tg_r (p2 := 63) (i := 0) (r := 53) rfl rfl I9 rfl rfl rfl ?_
              refine cV_mV (p2 := 66) (i := 1) rfl rfl rfl rfl I9 rfl rfl rfl (t_X0_playDay (s := 37) I9 (by decide)) (by decide) (fun h22 I22 g22 => ?_)
              have f22 := fr_tr (F1 := (F_X0_playDay 37)) (F := F_X11_beside) f9 g22 (by decide)
              refine ar_inc (p2 := 69) (x := v9_3) rfl rfl (by decide) rfl (by decide) rfl (by omega) (by omega) (fun z23 e23 f23 => ?_)
              show EvP _ _ _ (69, [(3, .int z23), (0, .ref 16), (1, .int x1), (2, .int x2)], [], h22) _
              refine te_goto rfl ?_
              refine te_lv [(0, .ref 16), (1, .int x1), (2, .int x2), (3, .int z23)] rfl rfl ⟨rfl, rfl, rfl, rfl, trivial⟩ ?_
              exact ih9 z23 h22 I22 f22 (by omega) (by omega) (by omega) (by omega)
        refine te_lv [(0, .ref 16), (1, .int x1), (2, .int x2), (3, .int 0)] rfl rfl ⟨rfl, rfl, rfl, rfl, trivial⟩ ?_
        exact lp9 61 0 h8 I8 f8 (by decide) (by decide) (by have cc0 := (show Int32.toInt 0 = 0 from rfl); omega) (by have cc0 := (show Int32.toInt 0 = 0 from rfl); omega)
      · refine te_ldc2 (p2 := 36) (x := (-4611686018427387904)) rfl rfl rfl ?_
        exact te_lret rfl rfl ⟨hI, f0, _, rfl, trivial⟩
    · subst w3
      have cc3_1 := (show Int32.toInt 4 = 4 from rfl)
      refine tz_eq (p2 := 18) rfl rfl (show Int32.toInt 0 = 0 from rfl) (fun c24 => ?_) (fun c24 => absurd c24 (by omega))
      refine te_ldc2 (p2 := 36) (x := (-4611686018427387904)) rfl rfl rfl ?_
      exact te_lret rfl rfl ⟨hI, f0, _, rfl, trivial⟩
  · subst w1
    have cc1_1 := (show Int32.toInt 1 = 1 from rfl)
    have cc1_2 := (show Int32.toInt 60 = 60 from rfl)
    refine tz_eq (p2 := 10) rfl rfl (show Int32.toInt 0 = 0 from rfl) (fun c25 => ?_) (fun c25 => absurd c25 (by omega))
    refine te_ldc2 (p2 := 36) (x := (-4611686018427387904)) rfl rfl rfl ?_
    exact te_lret rfl rfl ⟨hI, f0, _, rfl, trivial⟩
abbrev Q2_clear (x1 x2 : Int32) (y : Int32) (h h2 : im_H) : Prop := ∀ k : Nat, (k : Int) < 283 → rd h2 149 k = rd h 149 k
set_option maxRecDepth 20000 in
set_option maxHeartbeats 4000000 in
theorem c_X12_clear {x1 : Int32} {x2 : Int32} {h : im_H} (hI : tI h)  : CaP 9 188 [.ref 164, .int x1, .int x2] h (fun v h2 => tI h2 ∧ fr F_X12_clear h h2 ∧ ∃ y : Int32, v = some (.int y) ∧ Q2_clear x1 x2 y h h2) := by
  refine cap_of (d := 8) (M := mX12_clear) rfl (Nat.le_of_ble_eq_true rfl) ?_
  show EvP im_K0 8 mX12_clear (0, [(0, .ref 164), (1, .int x1), (2, .int x2)], [], h) _
  have f0 : fr F_X12_clear h h := fr_rf
  refine te_iload_n (p2 := 1) rfl rfl rfl ?_
  refine cS_pI (p2 := 4) rfl rfl rfl rfl (t_X12_isCell (n := x1) hI ) (by decide) (fun y1 r1 => ?_)
  rcases r1 with ⟨w1, c1⟩ | ⟨w1, c1⟩
  · subst w1
    refine tz_ne (p2 := 7) rfl rfl (show Int32.toInt 1 = 1 from rfl) (fun c2 => ?_) (fun c2 => absurd c2 (by omega))
    refine te_iload_n (p2 := 10) rfl rfl rfl ?_
    refine te_iconst (p2 := 11) (x := 1) rfl rfl (by decide) ?_
    refine te_bipush (p2 := 13) (x := 60) rfl rfl (by decide) ?_
    refine cS_pI (p2 := 16) rfl rfl rfl rfl (t_X12_in (n := x2) (a := 1) (b := 60) hI ) (by decide) (fun y3 r3 => ?_)
    rcases r3 with ⟨w3, c3⟩ | ⟨w3, c3⟩
    · subst w3
      have cc3_1 := (show Int32.toInt 1 = 1 from rfl)
      have cc3_2 := (show Int32.toInt 60 = 60 from rfl)
      refine tz_ne (p2 := 19) rfl rfl (show Int32.toInt 1 = 1 from rfl) (fun c4 => ?_) (fun c4 => absurd c4 (by omega))
      refine te_aload_n (p2 := 23) rfl rfl rfl ?_
      refine te_iconst (p2 := 24) (x := 0) rfl rfl (by decide) ?_
      refine tc_V (p2 := 27) (i := 148) rfl rfl rfl rfl hI rfl rfl rfl (c_X12_lays (back := 0) hI (by decide) (by decide)) (by decide) (fun v5 h5 hq5 => ?_)
      obtain ⟨I5, g5, w5, L5⟩ := hq5
      subst w5
      have f5 := fr_tr (F1 := F_X12_lays) (F := F_X12_clear) f0 g5 (by decide)
      show EvP _ _ _ (27, [(0, .ref 164), (1, .int x1), (2, .int x2)], [], h5) _
      refine te_iconst (p2 := 28) (x := 0) rfl rfl (by decide) ?_
      refine te_istore_n (p2 := 29) (lv2 := [(3, .int 0), (0, .ref 164), (1, .int x1), (2, .int x2)]) rfl rfl (by decide) rfl ?_
      have lp6 : ∀ (n6 : Nat) (v6_3 : Int32) (h6 : im_H), tI h6 → fr F_X12_clear h h6 → 0 ≤ v6_3.toInt → v6_3.toInt ≤ 61 → (∀ k : Nat, (k : Int) < 283 → rd h6 150 k = rd h 149 k) → 61 - v6_3.toInt < (n6 : Int) → EvP im_K0 8 mX12_clear (29, [(0, .ref 164), (1, .int x1), (2, .int x2), (3, .int v6_3)], [], h6) (fun v h2 => tI h2 ∧ fr F_X12_clear h h2 ∧ ∃ y : Int32, v = some (.int y) ∧ Q2_clear x1 x2 y h h2) := by
        intro n6
        induction n6 with
        | zero => intro v6_3 h6 I6 f6 a6_3 b6_3 w6_0 m6; exfalso; omega
        | succ n6 ih6 =>
          intro v6_3 h6 I6 f6 a6_3 b6_3 w6_0 m6
          refine te_iload_n (p2 := 30) rfl rfl rfl ?_
          refine te_iload_n (p2 := 31) rfl rfl rfl ?_
          refine tb_gt (p2 := 34) rfl rfl rfl rfl (fun c7 => ?_) (fun c7 => ?_)
          · refine te_aload_n (p2 := 54) rfl rfl rfl ?_
            refine te_iconst (p2 := 55) (x := 1) rfl rfl (by decide) ?_
            refine tc_V (p2 := 58) (i := 148) rfl rfl rfl rfl I6 rfl rfl rfl (c_X12_lays (back := 1) I6 (by decide) (by decide)) (by decide) (fun v8 h8 hq8 => ?_)
            obtain ⟨I8, g8, w8, L8⟩ := hq8
            subst w8
            have f8 := fr_tr (F1 := F_X12_lays) (F := F_X12_clear) f6 g8 (by decide)
            show EvP _ _ _ (58, [(0, .ref 164), (1, .int x1), (2, .int x2), (3, .int v6_3)], [], h8) _
            refine te_iload_n (p2 := 59) rfl rfl rfl ?_
            refine te_iload_n (p2 := 60) rfl rfl rfl ?_
            refine tb_le (p2 := 63) rfl rfl rfl rfl (fun c9 => ?_) (fun c9 => ?_)
            · refine te_iload_n (p2 := 69) rfl rfl rfl ?_
              exact te_iret rfl rfl ⟨I8, f8, _, rfl, (fun k hk => ((L8.2 (by decide)).1 k hk).trans (w6_0 k hk))⟩
            · refine te_bipush (p2 := 65) (x := (-3)) rfl rfl (by decide) ?_
              refine te_goto rfl ?_
              exact te_iret rfl rfl ⟨I8, f8, _, rfl, (fun k hk => ((L8.2 (by decide)).1 k hk).trans (w6_0 k hk))⟩
          · refine te_aload_n (p2 := 35) rfl rfl rfl ?_
            refine tg_r (p2 := 38) (i := 148) (r := 165) rfl rfl I6 rfl rfl rfl ?_
            refine te_iload_n (p2 := 39) rfl rfl rfl ?_
            refine tl_i (p2 := 40) (i := 149) (n := 283) rfl rfl I6 rfl rfl rfl rfl (by omega) (by omega) (fun y10 a10 b10 g10 e10 => ?_)
            refine tz_le (p2 := 43) rfl rfl rfl (fun c11 => ?_) (fun c11 => ?_)
            · refine te_aload_n (p2 := 54) rfl rfl rfl ?_
              refine te_iconst (p2 := 55) (x := 1) rfl rfl (by decide) ?_
              refine tc_V (p2 := 58) (i := 148) rfl rfl rfl rfl I6 rfl rfl rfl (c_X12_lays (back := 1) I6 (by decide) (by decide)) (by decide) (fun v12 h12 hq12 => ?_)
              obtain ⟨I12, g12, w12, L12⟩ := hq12
              subst w12
              have f12 := fr_tr (F1 := F_X12_lays) (F := F_X12_clear) f6 g12 (by decide)
              show EvP _ _ _ (58, [(0, .ref 164), (1, .int x1), (2, .int x2), (3, .int v6_3)], [], h12) _
              refine te_iload_n (p2 := 59) rfl rfl rfl ?_
              refine te_iload_n (p2 := 60) rfl rfl rfl ?_
              refine tb_le (p2 := 63) rfl rfl rfl rfl (fun c13 => ?_) (fun c13 => ?_)
              · refine te_iload_n (p2 := 69) rfl rfl rfl ?_
                exact te_iret rfl rfl ⟨I12, f12, _, rfl, (fun k hk => ((L12.2 (by decide)).1 k hk).trans (w6_0 k hk))⟩
              · refine te_bipush (p2 := 65) (x := (-3)) rfl rfl (by decide) ?_
                refine te_goto rfl ?_
                exact te_iret rfl rfl ⟨I12, f12, _, rfl, (fun k hk => ((L12.2 (by decide)).1 k hk).trans (w6_0 k hk))⟩
            · refine te_aload_n (p2 := 44) rfl rfl rfl ?_
              refine cV_mV (p2 := 47) (i := 148) rfl rfl rfl rfl I6 rfl rfl rfl (t_X12_goes  I6 ) (by decide) (fun h14 I14 g14 => ?_)
              have f14 := fr_tr (F1 := F_X12_goes) (F := F_X12_clear) f6 g14 (by decide)
              refine ar_inc (p2 := 50) (x := v6_3) rfl rfl (by decide) rfl (by decide) rfl (by omega) (by omega) (fun z15 e15 f15 => ?_)
              show EvP _ _ _ (50, [(3, .int z15), (0, .ref 164), (1, .int x1), (2, .int x2)], [], h14) _
              refine te_goto rfl ?_
              refine te_lv [(0, .ref 164), (1, .int x1), (2, .int x2), (3, .int z15)] rfl rfl ⟨rfl, rfl, rfl, rfl, trivial⟩ ?_
              exact ih6 z15 h14 I14 f14 (by omega) (by omega) (fun k hk => (g14 150 _ rfl).trans (w6_0 k hk)) (by omega)
      refine te_lv [(0, .ref 164), (1, .int x1), (2, .int x2), (3, .int 0)] rfl rfl ⟨rfl, rfl, rfl, rfl, trivial⟩ ?_
      exact lp6 62 0 h5 I5 f5 (by decide) (by decide) (L5.1 (by decide)).1 (by have cc0 := (show Int32.toInt 0 = 0 from rfl); omega)
    · subst w3
      have cc3_1 := (show Int32.toInt 1 = 1 from rfl)
      have cc3_2 := (show Int32.toInt 60 = 60 from rfl)
      refine tz_ne (p2 := 19) rfl rfl (show Int32.toInt 0 = 0 from rfl) (fun c16 => absurd c16 (by omega)) (fun c16 => ?_)
      refine te_bipush (p2 := 21) (x := (-2)) rfl rfl (by decide) ?_
      exact te_iret rfl rfl ⟨hI, f0, _, rfl, (fun k hk => rfl)⟩
  · subst w1
    refine tz_ne (p2 := 7) rfl rfl (show Int32.toInt 0 = 0 from rfl) (fun c17 => absurd c17 (by omega)) (fun c17 => ?_)
    refine te_iconst (p2 := 8) (x := (-1)) rfl rfl (by decide) ?_
    exact te_iret rfl rfl ⟨hI, f0, _, rfl, (fun k hk => rfl)⟩
abbrev Q1_clear (x1 x2 : Int32) (y : Int32) (h h2 : im_H) : Prop := True
set_option maxRecDepth 20000 in
set_option maxHeartbeats 4000000 in
theorem c_X11_clear {x1 : Int32} {x2 : Int32} {h : im_H} (hI : tI h)  : CaP 8 101 [.ref 16, .int x1, .int x2] h (fun v h2 => tI h2 ∧ fr F_X11_clear h h2 ∧ ∃ y : Int32, v = some (.int y) ∧ Q1_clear x1 x2 y h h2) := by
  refine cap_of (d := 7) (M := mX11_clear) rfl (Nat.le_of_ble_eq_true rfl) ?_
  show EvP im_K0 7 mX11_clear (0, [(0, .ref 16), (1, .int x1), (2, .int x2)], [], h) _
  have f0 : fr F_X11_clear h h := fr_rf
  refine te_iload_n (p2 := 1) rfl rfl rfl ?_
  refine te_bipush (p2 := 3) (x := 100) rfl rfl (by decide) ?_
  refine cS_pI (p2 := 6) rfl rfl rfl rfl (t_X11_within (n := x1) (b := 100) hI ) (by decide) (fun y1 r1 => ?_)
  rcases r1 with ⟨w1, c1⟩ | ⟨w1, c1⟩
  · subst w1
    have cc1_1 := (show Int32.toInt 100 = 100 from rfl)
    refine tz_ne (p2 := 9) rfl rfl (show Int32.toInt 1 = 1 from rfl) (fun c2 => ?_) (fun c2 => absurd c2 (by omega))
    refine te_iload_n (p2 := 12) rfl rfl rfl ?_
    refine te_iconst (p2 := 13) (x := 1) rfl rfl (by decide) ?_
    refine te_bipush (p2 := 15) (x := 60) rfl rfl (by decide) ?_
    refine cS_pI (p2 := 18) rfl rfl rfl rfl (t_X11_between (n := x2) (a := 1) (b := 60) hI ) (by decide) (fun y3 r3 => ?_)
    rcases r3 with ⟨w3, c3⟩ | ⟨w3, c3⟩
    · subst w3
      have cc3_1 := (show Int32.toInt 1 = 1 from rfl)
      have cc3_2 := (show Int32.toInt 60 = 60 from rfl)
      refine tz_ne (p2 := 21) rfl rfl (show Int32.toInt 1 = 1 from rfl) (fun c4 => ?_) (fun c4 => absurd c4 (by omega))
      refine te_aload_n (p2 := 25) rfl rfl rfl ?_
      refine tg_r (p2 := 28) (i := 0) (r := 53) rfl rfl hI rfl rfl rfl ?_
      refine te_aload_n (p2 := 29) rfl rfl rfl ?_
      refine tg_r (p2 := 32) (i := 0) (r := 39) rfl rfl hI rfl rfl rfl ?_
      refine cV_mV (p2 := 35) (i := 37) rfl rfl rfl rfl hI rfl rfl rfl (t_X9_become (s := 37) (o := 23) hI (by decide) (by decide)) (by decide) (fun h5 I5 g5 => ?_)
      have f5 := fr_tr (F1 := (F_X9_become 37 23)) (F := F_X11_clear) f0 g5 (by decide)
      refine te_iconst (p2 := 36) (x := 0) rfl rfl (by decide) ?_
      refine te_istore_n (p2 := 37) (lv2 := [(3, .int 0), (0, .ref 16), (1, .int x1), (2, .int x2)]) rfl rfl (by decide) rfl ?_
      have lp6 : ∀ (n6 : Nat) (v6_3 : Int32) (h6 : im_H), tI h6 → fr F_X11_clear h h6 → 0 ≤ v6_3.toInt → v6_3.toInt ≤ 60 → v6_3.toInt ≤ x2.toInt → x2.toInt - v6_3.toInt < (n6 : Int) → EvP im_K0 7 mX11_clear (37, [(0, .ref 16), (1, .int x1), (2, .int x2), (3, .int v6_3)], [], h6) (fun v h2 => tI h2 ∧ fr F_X11_clear h h2 ∧ ∃ y : Int32, v = some (.int y) ∧ Q1_clear x1 x2 y h h2) := by
        intro n6
        induction n6 with
        | zero => intro v6_3 h6 I6 f6 a6_3 b6_3 l6_0 m6; exfalso; omega
        | succ n6 ih6 =>
          intro v6_3 h6 I6 f6 a6_3 b6_3 l6_0 m6
          refine te_iload_n (p2 := 38) rfl rfl rfl ?_
          refine te_iload_n (p2 := 39) rfl rfl rfl ?_
          refine tb_ge (p2 := 42) rfl rfl rfl rfl (fun c7 => ?_) (fun c7 => ?_)
          · refine te_aload_n (p2 := 74) rfl rfl rfl ?_
            refine tg_r (p2 := 77) (i := 0) (r := 53) rfl rfl I6 rfl rfl rfl ?_
            refine tg_r (p2 := 80) (i := 37) (r := 55) rfl rfl I6 rfl rfl rfl ?_
            refine te_iload_n (p2 := 81) rfl rfl rfl ?_
            refine tl_i (p2 := 82) (i := 39) (n := 100) rfl rfl I6 rfl rfl rfl rfl (by omega) (by omega) (fun y8 a8 b8 g8 e8 => ?_)
            refine tz_ne (p2 := 85) rfl rfl rfl (fun c9 => ?_) (fun c9 => ?_)
            · refine te_bipush (p2 := 91) (x := (-3)) rfl rfl (by decide) ?_
              exact te_iret rfl rfl ⟨I6, f6, _, rfl, trivial⟩
            · refine te_iload_n (p2 := 86) rfl rfl rfl ?_
              refine te_goto rfl ?_
              exact te_iret rfl rfl ⟨I6, f6, _, rfl, trivial⟩
          · refine te_aload_n (p2 := 43) rfl rfl rfl ?_
            refine tg_r (p2 := 46) (i := 0) (r := 53) rfl rfl I6 rfl rfl rfl ?_
            refine tg_r (p2 := 49) (i := 37) (r := 55) rfl rfl I6 rfl rfl rfl ?_
            refine te_iload_n (p2 := 50) rfl rfl rfl ?_
            refine tl_i (p2 := 51) (i := 39) (n := 100) rfl rfl I6 rfl rfl rfl rfl (by omega) (by omega) (fun y10 a10 b10 g10 e10 => ?_)
            refine tz_ne (p2 := 54) rfl rfl rfl (fun c11 => ?_) (fun c11 => ?_)
            · refine te_aload_n (p2 := 57) rfl rfl rfl ?_
              refine tg_r (p2 := 60) (i := 0) (r := 17) rfl rfl I6 rfl rfl rfl ?_
              refine te_aload_n (p2 := 61) rfl rfl rfl ?_
              refine tg_r (p2 := 64) (i := 0) (r := 53) rfl rfl I6 rfl rfl rfl ?_
              refine cV_mV (p2 := 67) (i := 1) rfl rfl rfl rfl I6 rfl rfl rfl (t_X0_playDay (s := 37) I6 (by decide)) (by decide) (fun h12 I12 g12 => ?_)
              have f12 := fr_tr (F1 := (F_X0_playDay 37)) (F := F_X11_clear) f6 g12 (by decide)
              refine ar_inc (p2 := 70) (x := v6_3) rfl rfl (by decide) rfl (by decide) rfl (by omega) (by omega) (fun z13 e13 f13 => ?_)
              show EvP _ _ _ (70, [(3, .int z13), (0, .ref 16), (1, .int x1), (2, .int x2)], [], h12) _
              refine te_goto rfl ?_
              refine te_lv [(0, .ref 16), (1, .int x1), (2, .int x2), (3, .int z13)] rfl rfl ⟨rfl, rfl, rfl, rfl, trivial⟩ ?_
              exact ih6 z13 h12 I12 f12 (by omega) (by omega) (by omega) (by omega)
            · refine te_iload_n (p2 := 55) rfl rfl rfl ?_
              exact te_iret rfl rfl ⟨I6, f6, _, rfl, trivial⟩
      refine te_lv [(0, .ref 16), (1, .int x1), (2, .int x2), (3, .int 0)] rfl rfl ⟨rfl, rfl, rfl, rfl, trivial⟩ ?_
      exact lp6 61 0 h5 I5 f5 (by decide) (by decide) (by have cc0 := (show Int32.toInt 0 = 0 from rfl); omega) (by have cc0 := (show Int32.toInt 0 = 0 from rfl); omega)
    · subst w3
      have cc3_1 := (show Int32.toInt 1 = 1 from rfl)
      have cc3_2 := (show Int32.toInt 60 = 60 from rfl)
      refine tz_ne (p2 := 21) rfl rfl (show Int32.toInt 0 = 0 from rfl) (fun c14 => absurd c14 (by omega)) (fun c14 => ?_)
      refine te_bipush (p2 := 23) (x := (-2)) rfl rfl (by decide) ?_
      exact te_iret rfl rfl ⟨hI, f0, _, rfl, trivial⟩
  · subst w1
    have cc1_1 := (show Int32.toInt 100 = 100 from rfl)
    refine tz_ne (p2 := 9) rfl rfl (show Int32.toInt 0 = 0 from rfl) (fun c15 => absurd c15 (by omega)) (fun c15 => ?_)
    refine te_iconst (p2 := 10) (x := (-1)) rfl rfl (by decide) ?_
    exact te_iret rfl rfl ⟨hI, f0, _, rfl, trivial⟩
theorem rv_c {h H : im_H} {i j k m : Nat} (e : rd H i k = rd h j m) : rv H i k = rv h j m := by
  unfold rv
  rw [e]
def rC (h : im_H) (c o : Nat) : Nat → Int32 := fun k => rv h c (o + k)
def absC (h : im_H) (c : Nat) : Dy := (Dy.mk (gd 100 (rC h c 0)) (gd 24 (rC h c 140)) (mhu (rC h c 236) (rC h c 164)) (gd 24 (rC h c 188)) (gd 24 (rC h c 236)) (gd 16 (rC h c 124)) (gd 16 (rC h c 108)) (gd 4 (rC h c 272)) (gd 4 (rC h c 276)) (gd 3 (rC h c 280)) (gd 3 (rC h c 100)) (rv h c 103) (rv h c 104) (rv h c 105) (rv h c 106) (rv h c 107))
theorem absM_C {h : im_H} : absM h = absC h 149 := rfl
abbrev absI (h : im_H) : Dy := absC h 151
theorem absC_e {h H : im_H} {c d : Nat} (e : ∀ k : Nat, (k : Int) < 283 → rd H c k = rd h d k) : absC H c = absC h d := by
  have ev : ∀ k : Nat, k < 283 → rv H c k = rv h d k := fun k hk => by unfold rv; rw [e k (by omega)]
  have eg : ∀ n o, o + n ≤ 283 → gd n (rC H c o) = gd n (rC h d o) := fun n o ho => gd_c (fun k hk => ev (o + k) (by omega))
  have em : mhu (rC H c 236) (rC H c 164) = mhu (rC h d 236) (rC h d 164) := by
    funext m
    unfold mhu rC
    by_cases hm : m < 24
    · rw [ev (236 + m) (by omega), ev (164 + m) (by omega)]
    · rw [if_neg (fun q => hm q.1), if_neg (fun q => hm q.1)]
  unfold absC
  rw [eg 100 0 (by decide), eg 24 140 (by decide), em, eg 24 188 (by decide), eg 24 236 (by decide), eg 16 124 (by decide), eg 16 108 (by decide), eg 4 272 (by decide), eg 4 276 (by decide), eg 3 280 (by decide), eg 3 100 (by decide), ev 103 (by decide), ev 104 (by decide), ev 105 (by decide), ev 106 (by decide), ev 107 (by decide)]
theorem wC_e {h H : im_H} {c d : Nat} (e : ∀ k : Nat, (k : Int) < 283 → rd H c k = rd h d k) : wM H c = wM h d := gd_c (fun k hk => by
  show rv H c (260 + k) = rv h d (260 + k)
  unfold rv
  rw [e _ (by omega)])
theorem absC_fr {F : List (Nat × Nat × Nat)} {h H : im_H} {c : Nat} (f : fr F h H) (a : ∀ q ∈ F, q.1 ≠ c) : absC H c = absC h c := absC_e (fun k _ => f _ _ (inF_no (fun q hq e => a q hq e)))
theorem wC_fr {F : List (Nat × Nat × Nat)} {h H : im_H} {c : Nat} (f : fr F h H) (a : ∀ q ∈ F, q.1 ≠ c) : wM H c = wM h c := wC_e (fun k _ => f _ _ (inF_no (fun q hq e => a q hq e)))
theorem bec_abs {s o : Nat} {h H : im_H} (B : bec s o h H) : absX H s = absX h o ∧ wX H s = wX h o := by
  obtain ⟨⟨f0, f1, f2, f3, f4⟩, r0, r1, r2, r3, r4, r5, r6, r7, r8, r9, r10, r11, r12⟩ := B
  have eg : ∀ n r : Nat, (∀ k : Nat, (k : Int) < (n : Int) → rd H (s + r) k = rd h (o + r) k) → gd n (rv H (s + r)) = gd n (rv h (o + r)) := fun n r e => gd_c (fun k hk => by unfold rv; rw [e k (by omega)])
  have em : mhu (rv H (s + 7)) (rv H (s + 4)) = mhu (rv h (o + 7)) (rv h (o + 4)) := by
    funext m
    unfold mhu
    by_cases hm : m < 24
    · rw [show rv H (s + 7) m = rv h (o + 7) m by (unfold rv; rw [r6 m (by omega)]), show rv H (s + 4) m = rv h (o + 4) m by (unfold rv; rw [r3 m (by omega)])]
    · rw [if_neg (fun q => hm q.1), if_neg (fun q => hm q.1)]
  constructor
  · unfold absX
    rw [eg 100 2 r1, eg 24 3 r2, em, eg 24 5 r4, eg 24 7 r6, eg 16 8 r7, eg 16 9 r8, eg 4 11 r10, eg 4 12 r11, eg 3 13 r12, eg 3 1 r0, rv_c f0, rv_c f1, rv_c f2, rv_c f3, rv_c f4]
  · exact eg 12 10 r9
theorem absX_ef {F : List (Nat × Nat × Nat)} {h H : im_H} {s : Nat} (f : fr F h H) (a : ∀ q ∈ F, q.1 < s ∨ s + 14 ≤ q.1) : absX H s = absX h s := absX_fr f a
theorem jTY {h h1 h2 : im_H} {y1 y2 : Int32} {f : Ct → Dy → Int32 × Ct × Dy} (T : cX h = cM h) (Y : absX h 23 = absM h) (r1 : (y1, cX h1, absX h1 23) = f (cX h) (absX h 23)) (r2 : (y2, cM h2, absM h2) = f (cM h1) (absM h1)) (a : cM h1 = cM h) (b : absM h1 = absM h) (c : cX h2 = cX h1) (d : absX h2 23 = absX h1 23) : y1 = y2 ∧ cX h2 = cM h2 ∧ absX h2 23 = absM h2 := by
  rw [a, b, ← T, ← Y, ← r1] at r2
  have q := Prod.mk.inj r2
  have q2 := Prod.mk.inj q.2
  exact ⟨q.1.symm, by rw [c, q2.1], by rw [d, q2.2]⟩
def ctB (c : Ct) : Prop := (∀ p, 0 ≤ (c.sg p).toInt ∧ (c.sg p).toInt ≤ 9) ∧ (∀ r, 0 ≤ (c.cr r).toInt ∧ (c.cr r).toInt ≤ 20)
def rmB (R : Rm) : Prop := ∀ k, (0 ≤ (R.br k).toInt ∧ (R.br k).toInt ≤ 9999) ∧ (0 ≤ (R.be k).toInt ∧ (R.be k).toInt ≤ 999)
theorem ctOK_of {h : im_H} (hI : tI h) (B : ctB (cM h)) (S : ∀ fc k, 0 ≤ (sdM h fc k).toInt) : ctOK (ctM h) := by
  refine ⟨B.1, S, B.2, fun r => ?_, fun r i => ?_⟩
  · show 0 ≤ (gd 3 (rv h 165) r).toInt ∧ (gd 3 (rv h 165) r).toInt ≤ 12
    unfold gd
    split
    · obtain ⟨_, e, y, w, a, b, _⟩ := hI.2.1 165 r (.inl (0, 12, 1)) (tq_row rfl (by omega))
      subst w
      rw [rv_of e]
      exact ⟨a, b⟩
    · decide
  · show 0 ≤ (if r < 4 ∧ i < 8 then rv h 160 (8 * r + i) else 0 : Int32).toInt
    split
    · obtain ⟨_, e, y, w, a, b, _⟩ := hI.2.1 160 (8 * r + i) (.inl (0, 23, 9999999999)) (tq_row rfl (by omega))
      subst w
      rw [rv_of e]
      exact a
    · decide
theorem ruin_B {b : Int} {x1 x2 x3 : Int32} {c : Ct} {A : Dy} (hb : 0 ≤ b) (hA : dyOK b A) (hc : ctB c) : dyOK (b + 10000) (ruin_f x1 x2 x3 c A).2.2 ∧ ctB (ruin_f x1 x2 x3 c A).2.1 := by
  have hM := dy_mono (b2 := b + 10000) hA (by omega)
  unfold ruin_f
  (repeat' split)
  · rename_i h1 h2
    exact ⟨⟨udt_B (P := fun x => 0 ≤ x.toInt ∧ x.toInt ≤ b + 10000) hM.1 (by omega), hM.2.1, hM.2.2.1, hM.2.2.2.1, hM.2.2.2.2⟩, hc⟩
  · exact ⟨hM, hc⟩
  · exact ⟨hM, hc⟩
theorem weather_B {b : Int} {x1 x2 : Int32} {c : Ct} {A : Dy} (hA : dyOK b A) (hc : ctB c) : dyOK b (weather_f x1 x2 c A).2.2 ∧ ctB (weather_f x1 x2 c A).2.1 := by
  unfold weather_f
  split
  · exact ⟨hA, hc⟩
  · exact ⟨hA, hc⟩
theorem tip_B {b : Int} {x1 : Int32} {c : Ct} {A : Dy} (hA : dyOK b A) (hc : ctB c) : dyOK b (tip_f x1 c A).2.2 ∧ ctB (tip_f x1 c A).2.1 := by
  unfold tip_f
  split
  · exact ⟨hA, hc⟩
  · exact ⟨hA, hc⟩
theorem moves_B {b : Int} {x1 x2 : Int32} {c : Ct} {A : Dy} (hA : dyOK b A) (hc : ctB c) : dyOK b (moves_f x1 x2 c A).2.2 ∧ ctB (moves_f x1 x2 c A).2.1 := by
  unfold moves_f
  (repeat' split)
  · exact ⟨hA, hc⟩
  · exact ⟨hA, hc⟩
  · exact ⟨hA, hc⟩
theorem person_B {b : Int} {x1 x2 x3 x4 : Int32} {c : Ct} {A : Dy} (hA : dyOK b A) (hc : ctB c) : dyOK b (person_f x1 x2 x3 x4 c A).2.2 ∧ ctB (person_f x1 x2 x3 x4 c A).2.1 := by
  unfold person_f
  (repeat' split)
  · exact ⟨hA, hc⟩
  · rename_i h1 h2 h3
    exact ⟨hA, udt_B (P := fun x => 0 ≤ x.toInt ∧ x.toInt ≤ 9) hc.1 (by omega), hc.2⟩
  · exact ⟨hA, hc⟩
  · exact ⟨hA, hc⟩
theorem wall_B {b : Int} {x1 x2 x3 : Int32} {c : Ct} {A : Dy} (hA : dyOK b A) (hc : ctB c) : dyOK b (wall_f x1 x2 x3 c A).2.2 ∧ ctB (wall_f x1 x2 x3 c A).2.1 := by
  unfold wall_f
  (repeat' split)
  · exact ⟨hA, hc⟩
  · exact ⟨hA, hc⟩
  · exact ⟨⟨hA.1, hA.2.1, udt_B (P := fun x => x.toInt = 0 ∨ x.toInt = 1) hA.2.2.1 (Or.inr rfl), hA.2.2.2.1, hA.2.2.2.2⟩, hc⟩
  · exact ⟨hA, hc⟩
  · exact ⟨hA, hc⟩
theorem ppF_B {F : Nat → Int32} {fr sz : Int} {b : Int} : ∀ (m k : Nat) (came : Int32) (c : Ct) (A : Dy), dyOK b A → ctB c → dyOK b (ppF F fr sz m k came c A).2.2 ∧ ctB (ppF F fr sz m k came c A).2.1
  | 0, _, _, _, _, hA, hc => ⟨hA, hc⟩
  | m + 1, k, came, c, A, hA, hc => by
    by_cases h : 0 ≤ fr ∧ fr + 4 * (k : Int) + 4 ≤ sz
    · have q := person_B (x1 := F (fr.toNat + 4 * k)) (x2 := F (fr.toNat + 4 * k + 1)) (x3 := F (fr.toNat + 4 * k + 2)) (x4 := F (fr.toNat + 4 * k + 3)) hA hc
      rw [show ppF F fr sz (m + 1) k came c A = _ from if_pos h]
      exact ppF_B m (k + 1) _ _ _ q.1 q.2
    · rw [show ppF F fr sz (m + 1) k came c A = _ from if_neg h]
      exact ⟨hA, hc⟩
theorem people_B {b : Int} {x1 x2 x3 x4 q z : Int32} {F : Nat → Int32} {c : Ct} {A : Dy} (hA : dyOK b A) (hc : ctB c) : dyOK b (people_f x1 x2 x3 x4 q z F c A).2.2 ∧ ctB (people_f x1 x2 x3 x4 q z F c A).2.1 := by
  unfold people_f
  (repeat' split)
  · exact ⟨hA, hc⟩
  · exact ⟨hA, hc⟩
  · exact ppF_B _ _ _ _ _ hA hc
  · exact ⟨hA, hc⟩
theorem room_B {x1 x2 x3 x4 : Int32} {R : Rm} (h : rmB R) : rmB (room_f x1 x2 x3 x4 R).2 := by
  unfold room_f
  (repeat' split)
  · exact h
  · rename_i h1 h2 h3
    intro k
    exact ⟨udt_B (P := fun x => 0 ≤ x.toInt ∧ x.toInt ≤ 9999) (fun k => (h k).1) (by omega) k, udt_B (P := fun x => 0 ≤ x.toInt ∧ x.toInt ≤ 999) (fun k => (h k).2) (by omega) k⟩
  · exact h
  · exact h
theorem mend_B {b : Int} {x1 : Int32} {R : Rm} {w : Nat → Int32} {A : Dy} (hA : dyOK b A) (h : rmB R) : dyOK b (mend_f x1 R w A).2.2 := by
  unfold mend_f
  (repeat' split)
  · exact hA
  · exact hA
  · rename_i h1 h2 h3
    have k0 := hA.2.2.2.2 0
    have k1 := hA.2.2.2.2 1
    have r0 := (h x1.toInt.toNat).1
    have r1 := (h x1.toInt.toNat).2
    have t0 := i32_hi (A.kp 0)
    have t1 := i32_hi (A.kp 1)
    have e0 := i32_subE (x := A.kp 0) (y := R.br x1.toInt.toNat) rfl (by omega) (by omega)
    have e1 := i32_subE (x := A.kp 1) (y := R.be x1.toInt.toNat) rfl (by omega) (by omega)
    exact ⟨hA.1, hA.2.1, hA.2.2.1, hA.2.2.2.1, udt_B (P := fun x => 0 ≤ x.toInt ∧ x.toInt ≤ b) (udt_B (P := fun x => 0 ≤ x.toInt ∧ x.toInt ≤ b) hA.2.2.2.2 (by rw [e0]; omega)) (by rw [e1]; omega)⟩
  · exact hA
theorem run_B {b : Int} {x1 : Int32} {c : Ct} {A : Dy} (hc : ctOK c) (hn : c.nw.toInt ≤ 16) (hb : b + 500000 ≤ 2147483647) (hA : dyOK b A) : dyOK (b + 480000) (run_f x1 c A).2 := by
  unfold run_f
  (repeat' split)
  · exact dy_mono hA (by omega)
  · exact dy_mono (das_B hc hn hA x1.toInt.toNat (by omega)) (by omega)
  · exact dy_mono hA (by omega)
theorem pull_B {b : Int} {x1 : Int32} {c : Ct} {A : Dy} (hb : b + 20 ≤ 2147483647) (hA : dyOK b A) : dyOK (b + 20) (pull_f x1 c A) := by
  unfold pull_f
  (repeat' split)
  · exact dy_mono hA (by omega)
  · exact fa_B hA hb
  · exact dy_mono hA (by omega)
theorem nw16 {h : im_H} (hI : tI h) : (ctM h).nw.toInt ≤ 16 := by
  obtain ⟨_, e, y, w, a, b, _⟩ := hI.2.1 148 21 (.inl (0, 16, 9999999999)) rfl
  subst w
  rw [show (ctM h).nw = y from rv_of e]
  exact b
theorem xc_fr2 {F : List (Nat × Nat × Nat)} {h H : im_H} (f : fr F h H) (a : ∀ q ∈ F, 22 < q.1 ∨ q.1 = 11 ∨ q.1 = 0 ∨ (q.1 = 1 ∧ 9 < q.2.1)) : cX H = cX h := by
  have e : ∀ i k, (i < 11 ∨ (11 < i ∧ i < 23)) → 1 < i → rd H i k = rd h i k := fun i k hi h0 => f _ _ (inF_no (fun q hq e => by have := a q hq; omega))
  have ef : ∀ i, (i < 11 ∨ (11 < i ∧ i < 23)) → 1 < i → rv H i = rv h i := fun i hi h0 => funext fun k => by unfold rv; rw [e i k hi h0]
  have ep : ∀ k, k ≤ 9 → rv H 1 k = rv h 1 k := fun k hk => by unfold rv; rw [f _ _ (inF_no3 (fun q hq e => by have := a q hq; omega))]
  exact cX_0 (fun i k hi => e i k (by omega) (by omega)) (congrArg (gd 100) (ef 2 (by decide) (by decide))) (ep 1 (by decide)) (ep 2 (by decide)) (congrArg (gd 24) (ef 3 (by decide) (by decide))) (congrArg (gd 24) (ef 4 (by decide) (by decide))) (congrArg (gd 24) (ef 5 (by decide) (by decide))) (ep 9 (by decide)) (congrArg (gd 16) (ef 9 (by decide) (by decide))) (congrArg (gd 16) (ef 10 (by decide) (by decide)))
theorem mc_fr2 {F : List (Nat × Nat × Nat)} {h H : im_H} (f : fr F h H) (a : ∀ q ∈ F, q.1 < 148 ∨ q.1 = 149 ∨ q.1 = 150 ∨ q.1 = 151 ∨ 168 < q.1 ∨ (q.1 = 148 ∧ (21 < q.2.1 ∨ q.2.2 < 9))) : cM H = cM h := by
  have e : ∀ i k, (152 ≤ i ∧ i < 169) → rd H i k = rd h i k := fun i k hi => f _ _ (inF_no (fun q hq e => by have := a q hq; omega))
  have ef : ∀ i, (152 ≤ i ∧ i < 169) → rv H i = rv h i := fun i hi => funext fun k => by unfold rv; rw [e i k hi]
  have ep : ∀ k, 9 ≤ k → k ≤ 21 → rv H 148 k = rv h 148 k := fun k h0 hk => by unfold rv; rw [f _ _ (inF_no3 (fun q hq e => by have := a q hq; omega))]
  exact cM_0 (fun i k hi => e i k (by omega)) (congrArg (gd 100) (ef 152 (by decide))) (ep 9 (by decide) (by decide)) (ep 10 (by decide) (by decide)) (congrArg (gd 24) (ef 157 (by decide))) (congrArg (gd 24) (ef 158 (by decide))) (congrArg (gd 24) (ef 159 (by decide))) (ep 21 (by decide) (by decide)) (congrArg (gd 16) (ef 167 (by decide))) (congrArg (gd 16) (ef 168 (by decide)))
set_option maxRecDepth 20000 in
set_option maxHeartbeats 4000000 in
theorem c_X12_late {s : Int32} {n : Int32} {h : im_H} (hI : tI h) (p_s0 : 0 ≤ s.toInt) (p_s1 : s.toInt ≤ 3) (p_n0 : 1 ≤ n.toInt) (p_n1 : n.toInt ≤ 6) (pr0 : allB h 194 (40 * s.toInt.toNat) n.toInt 15) (pr1 : allB h 199 0 n.toInt (n.toInt - 1)) (pr2 : ∀ w : Int32, rd h 148 21 = some (.int w) → allB h 194 (40 * s.toInt.toNat) n.toInt (w.toInt - 1)) : CaP 4 166 [.ref 164, .int s, .int n] h (fun v h2 => tI h2 ∧ fr F_X12_late h h2 ∧ ∃ y : Int32, v = some (.int y) ∧ ∀ j : Nat, rd h2 149 j = rd h 149 j) := by
  refine cap_of (d := 3) (M := mX12_late) rfl (Nat.le_of_ble_eq_true rfl) ?_
  show EvP im_K0 3 mX12_late (0, [(0, .ref 164), (1, .int s), (2, .int n)], [], h) _
  have f0 : fr F_X12_late h h := fr_rf
  refine te_iconst (p2 := 1) (x := 0) rfl rfl (by decide) ?_
  obtain ⟨v1, e1, y1, w1, a1, b1, _⟩ := hI.2.1 148 21 (.inl (0, 16, 9999999999)) rfl
  subst w1
  refine te_istore_n (p2 := 2) (lv2 := [(3, .int 0), (0, .ref 164), (1, .int s), (2, .int n)]) rfl rfl (by decide) rfl ?_
  refine te_iconst (p2 := 3) (x := 0) rfl rfl (by decide) ?_
  refine te_istore (p2 := 5) (lv2 := [(4, .int 0), (3, .int 0), (0, .ref 164), (1, .int s), (2, .int n)]) rfl rfl (by decide) rfl ?_
  have lp2 : ∀ (n2 : Nat) (v2_4 : Int32) (h2 : im_H), tI h2 → fr F_X12_late h h2 → 0 ≤ v2_4.toInt → v2_4.toInt ≤ 16 → v2_4.toInt ≤ y1.toInt → (∀ m : Nat, (m : Int) < v2_4.toInt → rd h2 197 m = rd h 149 (108 + m) ∧ rd h2 198 m = rd h 149 (124 + m)) → (∀ j : Nat, rd h2 149 j = rd h 149 j) → 16 - v2_4.toInt < (n2 : Int) → EvP im_K0 3 mX12_late (5, [(0, .ref 164), (1, .int s), (2, .int n), (3, .int 0), (4, .int v2_4)], [], h2) (fun v h2 => tI h2 ∧ fr F_X12_late h h2 ∧ ∃ y : Int32, v = some (.int y) ∧ ∀ j : Nat, rd h2 149 j = rd h 149 j) := by
    intro n2
    induction n2 with
    | zero => intro v2_4 h2 I2 f2 a2_4 b2_4 l2_0 w2_0 w2_1 m2; exfalso; omega
    | succ n2 ih2 =>
      intro v2_4 h2 I2 f2 a2_4 b2_4 l2_0 w2_0 w2_1 m2
      refine te_iload (p2 := 7) rfl rfl rfl ?_
      refine te_aload_n (p2 := 8) rfl rfl rfl ?_
      refine tg_e (p2 := 11) (i := 148) (v := .int y1) rfl rfl I2 rfl rfl ((f2 _ _ rfl).trans e1) ?_
      refine tb_ge (p2 := 14) rfl rfl rfl rfl (fun c3 => ?_) (fun c3 => ?_)
      · refine te_iconst (p2 := 55) (x := 0) rfl rfl (by decide) ?_
        refine te_istore (p2 := 57) (lv2 := [(4, .int 0), (0, .ref 164), (1, .int s), (2, .int n), (3, .int 0)]) rfl rfl (by decide) rfl ?_
        have lp4 : ∀ (n4 : Nat) (v4_3 v4_4 : Int32) (h4 : im_H), tI h4 → fr F_X12_late h h4 → 0 ≤ v4_4.toInt → v4_4.toInt ≤ 6 → (∀ m : Nat, (m : Int) < y1.toInt → rd h4 197 m = rd h 149 (108 + m) ∧ rd h4 198 m = rd h 149 (124 + m)) → (∀ j : Nat, ¬ (108 ≤ j ∧ (j : Int) < 108 + y1.toInt) → ¬ (124 ≤ j ∧ (j : Int) < 124 + y1.toInt) → rd h4 149 j = rd h 149 j) → 6 - v4_4.toInt < (n4 : Int) → EvP im_K0 3 mX12_late (57, [(0, .ref 164), (1, .int s), (2, .int n), (3, .int v4_3), (4, .int v4_4)], [], h4) (fun v h2 => tI h2 ∧ fr F_X12_late h h2 ∧ ∃ y : Int32, v = some (.int y) ∧ ∀ j : Nat, rd h2 149 j = rd h 149 j) := by
          intro n4
          induction n4 with
          | zero => intro v4_3 v4_4 h4 I4 f4 a4_4 b4_4 w4_0 w4_1 m4; exfalso; omega
          | succ n4 ih4 =>
            intro v4_3 v4_4 h4 I4 f4 a4_4 b4_4 w4_0 w4_1 m4
            refine te_iload (p2 := 59) rfl rfl rfl ?_
            refine te_iload_n (p2 := 60) rfl rfl rfl ?_
            refine tb_ge (p2 := 63) rfl rfl rfl rfl (fun c5 => ?_) (fun c5 => ?_)
            · refine te_iconst (p2 := 177) (x := 0) rfl rfl (by decide) ?_
              refine te_istore (p2 := 179) (lv2 := [(4, .int 0), (0, .ref 164), (1, .int s), (2, .int n), (3, .int v4_3)]) rfl rfl (by decide) rfl ?_
              have lp6 : ∀ (n6 : Nat) (v6_4 : Int32) (h6 : im_H), tI h6 → fr F_X12_late h h6 → 0 ≤ v6_4.toInt → v6_4.toInt ≤ 16 → v6_4.toInt ≤ y1.toInt → (∀ m : Nat, (m : Int) < y1.toInt → rd h6 197 m = rd h 149 (108 + m) ∧ rd h6 198 m = rd h 149 (124 + m)) → (∀ m : Nat, (m : Int) < v6_4.toInt → rd h6 149 (108 + m) = rd h 149 (108 + m) ∧ rd h6 149 (124 + m) = rd h 149 (124 + m)) → (∀ j : Nat, ¬ (108 ≤ j ∧ (j : Int) < 108 + y1.toInt) → ¬ (124 ≤ j ∧ (j : Int) < 124 + y1.toInt) → rd h6 149 j = rd h 149 j) → 16 - v6_4.toInt < (n6 : Int) → EvP im_K0 3 mX12_late (179, [(0, .ref 164), (1, .int s), (2, .int n), (3, .int v4_3), (4, .int v6_4)], [], h6) (fun v h2 => tI h2 ∧ fr F_X12_late h h2 ∧ ∃ y : Int32, v = some (.int y) ∧ ∀ j : Nat, rd h2 149 j = rd h 149 j) := by
                intro n6
                induction n6 with
                | zero => intro v6_4 h6 I6 f6 a6_4 b6_4 l6_0 w6_0 w6_1 w6_2 m6; exfalso; omega
                | succ n6 ih6 =>
                  intro v6_4 h6 I6 f6 a6_4 b6_4 l6_0 w6_0 w6_1 w6_2 m6
                  refine te_iload (p2 := 181) rfl rfl rfl ?_
                  refine te_aload_n (p2 := 182) rfl rfl rfl ?_
                  refine tg_e (p2 := 185) (i := 148) (v := .int y1) rfl rfl I6 rfl rfl ((f6 _ _ rfl).trans e1) ?_
                  refine tb_ge (p2 := 188) rfl rfl rfl rfl (fun c7 => ?_) (fun c7 => ?_)
                  · refine te_iload_n (p2 := 229) rfl rfl rfl ?_
                    exact te_iret rfl rfl ⟨I6, f6, _, rfl, (fun j => by (by_cases ha : 108 ≤ j ∧ (j : Int) < 108 + y1.toInt); (· have e := (w6_1 (j - 108) (by omega)).1; rw [show 108 + (j - 108) = j by omega] at e; exact e); (· by_cases hb : 124 ≤ j ∧ (j : Int) < 124 + y1.toInt; (· have e := (w6_1 (j - 124) (by omega)).2; rw [show 124 + (j - 124) = j by omega] at e; exact e); (· exact w6_2 j ha hb)))⟩
                  · refine te_aload_n (p2 := 189) rfl rfl rfl ?_
                    refine tg_r (p2 := 192) (i := 148) (r := 165) rfl rfl I6 rfl rfl rfl ?_
                    refine te_bipush (p2 := 194) (x := 108) rfl rfl (by decide) ?_
                    refine te_iload (p2 := 196) rfl rfl rfl ?_
                    refine ar_add (p2 := 197) rfl rfl (show Int32.toInt 108 = 108 from rfl) rfl (by omega) (by omega) (fun z8 e8 f8 => ?_)
                    refine te_aload_n (p2 := 198) rfl rfl rfl ?_
                    refine tg_r (p2 := 201) (i := 148) (r := 213) rfl rfl I6 rfl rfl rfl ?_
                    refine te_iload (p2 := 203) rfl rfl rfl ?_
                    refine tl_i (p2 := 204) (i := 197) (n := 16) rfl rfl I6 rfl rfl rfl rfl (by omega) (by omega) (fun y9 a9 b9 g9 e9 => ?_)
                    refine ts_i (p2 := 205) (i := 149) (n := 283) rfl rfl I6 rfl rfl rfl rfl (by omega) (by omega) (i32_lo _) (i32_hi _) (i32_ho _) rfl (fun h10 I10 u10 => ?_)
                    have f10 := fr_st (F := F_X12_late) 0 f6 u10 rfl (by omega) (by omega)
                    refine te_aload_n (p2 := 206) rfl rfl rfl ?_
                    refine tg_r (p2 := 209) (i := 148) (r := 165) rfl rfl I10 rfl rfl rfl ?_
                    refine te_bipush (p2 := 211) (x := 124) rfl rfl (by decide) ?_
                    refine te_iload (p2 := 213) rfl rfl rfl ?_
                    refine ar_add (p2 := 214) rfl rfl (show Int32.toInt 124 = 124 from rfl) rfl (by omega) (by omega) (fun z11 e11 f11 => ?_)
                    refine te_aload_n (p2 := 215) rfl rfl rfl ?_
                    refine tg_r (p2 := 218) (i := 148) (r := 214) rfl rfl I10 rfl rfl rfl ?_
                    refine te_iload (p2 := 220) rfl rfl rfl ?_
                    refine tl_i (p2 := 221) (i := 198) (n := 16) rfl rfl I10 rfl rfl rfl rfl (by omega) (by omega) (fun y12 a12 b12 g12 e12 => ?_)
                    refine ts_i (p2 := 222) (i := 149) (n := 283) rfl rfl I10 rfl rfl rfl rfl (by omega) (by omega) (i32_lo _) (i32_hi _) (i32_ho _) rfl (fun h13 I13 u13 => ?_)
                    have f13 := fr_st (F := F_X12_late) 0 f10 u13 rfl (by omega) (by omega)
                    refine ar_inc (p2 := 225) (x := v6_4) rfl rfl (by decide) rfl (by decide) rfl (by omega) (by omega) (fun z14 e14 f14 => ?_)
                    show EvP _ _ _ (225, [(4, .int z14), (0, .ref 164), (1, .int s), (2, .int n), (3, .int v4_3)], [], h13) _
                    refine te_goto rfl ?_
                    refine te_lv [(0, .ref 164), (1, .int s), (2, .int n), (3, .int v4_3), (4, .int z14)] rfl rfl ⟨rfl, rfl, rfl, rfl, rfl, trivial⟩ ?_
                    exact ih6 z14 h13 I13 f13 (by omega) (by omega) (by omega) (fun m hm => ⟨((u13.2 _ _ (Or.inl (by decide))).trans ((u10.2 _ _ (Or.inl (by decide))).trans (w6_0 m hm).1)), ((u13.2 _ _ (Or.inl (by decide))).trans ((u10.2 _ _ (Or.inl (by decide))).trans (w6_0 m hm).2))⟩) (fun m hm => by (by_cases hc : m = v6_4.toInt.toNat); (· rw [hc]; exact ⟨(show rd h13 149 (108 + v6_4.toInt.toNat) = some (.int y9) from (by rw [show 108 + v6_4.toInt.toNat = z8.toInt.toNat by omega]; exact ((u13.2 _ _ (Or.inr (by omega))).trans u10.1))).trans ((w6_0 _ (by omega)).1.symm.trans e9).symm, (show rd h13 149 (124 + v6_4.toInt.toNat) = some (.int y12) from (by rw [show 124 + v6_4.toInt.toNat = z11.toInt.toNat by omega]; exact u13.1)).trans ((w6_0 _ (by omega)).2.symm.trans ((u10.2 _ _ (Or.inl (by decide))).symm.trans e12)).symm⟩); (· have hw := w6_1 m (by omega); exact ⟨((u13.2 _ _ (Or.inr (by omega))).trans (u10.2 _ _ (Or.inr (by omega)))).trans hw.1, ((u13.2 _ _ (Or.inr (by omega))).trans (u10.2 _ _ (Or.inr (by omega)))).trans hw.2⟩)) (fun j ja jb => ((u13.2 _ _ (Or.inr (by omega))).trans ((u10.2 _ _ (Or.inr (by omega))).trans (w6_2 j ja jb)))) (by omega)
              refine te_lv [(0, .ref 164), (1, .int s), (2, .int n), (3, .int v4_3), (4, .int 0)] rfl rfl ⟨rfl, rfl, rfl, rfl, rfl, trivial⟩ ?_
              exact lp6 17 0 h4 I4 f4 (by decide) (by decide) (by have cc0 := (show Int32.toInt 0 = 0 from rfl); omega) w4_0 (fun m hm => by exfalso; have := (show Int32.toInt 0 = 0 from rfl); omega) w4_1 (by have cc0 := (show Int32.toInt 0 = 0 from rfl); omega)
            · refine te_aload_n (p2 := 64) rfl rfl rfl ?_
              refine tg_r (p2 := 67) (i := 148) (r := 210) rfl rfl I4 rfl rfl rfl ?_
              refine te_bipush (p2 := 69) (x := 40) rfl rfl (by decide) ?_
              refine te_iload_n (p2 := 70) rfl rfl rfl ?_
              refine ar_mul (p2 := 71) rfl rfl (show Int32.toInt 40 = 40 from rfl) rfl (by omega) (by omega) (fun z15 e15 f15 => ?_)
              refine te_aload_n (p2 := 72) rfl rfl rfl ?_
              refine tg_r (p2 := 75) (i := 148) (r := 215) rfl rfl I4 rfl rfl rfl ?_
              refine te_iload (p2 := 77) rfl rfl rfl ?_
              refine tl_i (p2 := 78) (i := 199) (n := 6) rfl rfl I4 rfl rfl rfl rfl (by omega) (by omega) (fun y16 a16 b16 g16 e16 => ?_)
              obtain ⟨a17, b17⟩ := allB_at (allB_fr pr1 (fun q => f4 _ _ rfl)) v4_4.toInt.toNat (by omega) (by rw [Nat.zero_add]) e16
              refine ar_add (p2 := 79) rfl rfl rfl rfl (by omega) (by omega) (fun z18 e18 f18 => ?_)
              refine tl_i (p2 := 80) (i := 194) (n := 160) rfl rfl I4 rfl rfl rfl rfl (by omega) (by omega) (fun y19 a19 b19 g19 e19 => ?_)
              obtain ⟨a20, b20⟩ := allB_at (allB_fr pr0 (fun q => f4 _ _ rfl)) y16.toInt.toNat (by omega) (by omega) e19
              obtain ⟨a21, b21⟩ := allB_at (allB_fr (pr2 _ e1) (fun q => f4 _ _ rfl)) y16.toInt.toNat (by omega) (by omega) e19
              refine te_istore (p2 := 82) (lv2 := [(5, .int y19), (0, .ref 164), (1, .int s), (2, .int n), (3, .int v4_3), (4, .int v4_4)]) rfl rfl (by decide) rfl ?_
              refine te_iload_n (p2 := 83) rfl rfl rfl ?_
              refine te_aload_n (p2 := 84) rfl rfl rfl ?_
              refine tg_r (p2 := 87) (i := 148) (r := 165) rfl rfl I4 rfl rfl rfl ?_
              refine te_bipush (p2 := 89) (x := 108) rfl rfl (by decide) ?_
              refine te_iload (p2 := 91) rfl rfl rfl ?_
              refine ar_add (p2 := 92) rfl rfl (show Int32.toInt 108 = 108 from rfl) rfl (by omega) (by omega) (fun z22 e22 f22 => ?_)
              refine tl_i (p2 := 93) (i := 149) (n := 283) rfl rfl I4 rfl rfl rfl rfl (by omega) (by omega) (fun y23 a23 b23 g23 e23 => ?_)
              refine tz_ne (p2 := 96) rfl rfl rfl (fun c24 => ?_) (fun c24 => ?_)
              · refine te_iconst (p2 := 101) (x := 0) rfl rfl (by decide) ?_
                have n25_v4_3 := i32_lo v4_3
                have o25_v4_3 := i32_hi v4_3
                refine ar_add (p2 := 102) rfl rfl rfl (show Int32.toInt 0 = 0 from rfl) (by omega) (by omega) (fun z25 e25 f25 => ?_)
                refine te_istore_n (p2 := 103) (lv2 := [(3, .int z25), (5, .int y19), (0, .ref 164), (1, .int s), (2, .int n), (4, .int v4_4)]) rfl rfl (by decide) rfl ?_
                refine te_aload_n (p2 := 104) rfl rfl rfl ?_
                refine tg_r (p2 := 107) (i := 148) (r := 165) rfl rfl I4 rfl rfl rfl ?_
                refine te_bipush (p2 := 109) (x := 108) rfl rfl (by decide) ?_
                refine te_iload (p2 := 111) rfl rfl rfl ?_
                refine ar_add (p2 := 112) rfl rfl (show Int32.toInt 108 = 108 from rfl) rfl (by omega) (by omega) (fun z26 e26 f26 => ?_)
                refine te_iconst (p2 := 113) (x := 0) rfl rfl (by decide) ?_
                refine ts_i (p2 := 114) (i := 149) (n := 283) rfl rfl I4 rfl rfl rfl rfl (by omega) (by omega) (i32_lo _) (i32_hi _) (i32_ho _) rfl (fun h27 I27 u27 => ?_)
                have f27 := fr_st (F := F_X12_late) 0 f4 u27 rfl (by omega) (by omega)
                refine te_iconst (p2 := 115) (x := 0) rfl rfl (by decide) ?_
                refine te_istore (p2 := 117) (lv2 := [(6, .int 0), (3, .int z25), (5, .int y19), (0, .ref 164), (1, .int s), (2, .int n), (4, .int v4_4)]) rfl rfl (by decide) rfl ?_
                have lp28 : ∀ (n28 : Nat) (v28_6 : Int32) (h28 : im_H), tI h28 → fr F_X12_late h h28 → 0 ≤ v28_6.toInt → v28_6.toInt ≤ 16 → v28_6.toInt ≤ y1.toInt → (∀ m : Nat, (m : Int) < y1.toInt → rd h28 197 m = rd h 149 (108 + m) ∧ rd h28 198 m = rd h 149 (124 + m)) → (∀ j : Nat, ¬ (108 ≤ j ∧ (j : Int) < 108 + y1.toInt) → ¬ (124 ≤ j ∧ (j : Int) < 124 + y1.toInt) → rd h28 149 j = rd h 149 j) → 16 - v28_6.toInt < (n28 : Int) → EvP im_K0 3 mX12_late (117, [(0, .ref 164), (1, .int s), (2, .int n), (3, .int z25), (4, .int v4_4), (5, .int y19), (6, .int v28_6)], [], h28) (fun v h2 => tI h2 ∧ fr F_X12_late h h2 ∧ ∃ y : Int32, v = some (.int y) ∧ ∀ j : Nat, rd h2 149 j = rd h 149 j) := by
                  intro n28
                  induction n28 with
                  | zero => intro v28_6 h28 I28 f28 a28_6 b28_6 l28_0 w28_0 w28_1 m28; exfalso; omega
                  | succ n28 ih28 =>
                    intro v28_6 h28 I28 f28 a28_6 b28_6 l28_0 w28_0 w28_1 m28
                    refine te_iload (p2 := 119) rfl rfl rfl ?_
                    refine te_aload_n (p2 := 120) rfl rfl rfl ?_
                    refine tg_e (p2 := 123) (i := 148) (v := .int y1) rfl rfl I28 rfl rfl ((f28 _ _ rfl).trans e1) ?_
                    refine tb_ge (p2 := 126) rfl rfl rfl rfl (fun c29 => ?_) (fun c29 => ?_)
                    · refine ar_inc (p2 := 173) (x := v4_4) rfl rfl (by decide) rfl (by decide) rfl (by omega) (by omega) (fun z30 e30 f30 => ?_)
                      show EvP _ _ _ (173, [(4, .int z30), (0, .ref 164), (1, .int s), (2, .int n), (3, .int z25), (5, .int y19), (6, .int v28_6)], [], h28) _
                      refine te_goto rfl ?_
                      refine te_lv [(0, .ref 164), (1, .int s), (2, .int n), (3, .int z25), (4, .int z30)] rfl rfl ⟨rfl, rfl, rfl, rfl, rfl, trivial⟩ ?_
                      exact ih4 z25 z30 h28 I28 f28 (by omega) (by omega) w28_0 w28_1 (by omega)
                    · refine te_aload_n (p2 := 127) rfl rfl rfl ?_
                      refine tg_r (p2 := 130) (i := 148) (r := 165) rfl rfl I28 rfl rfl rfl ?_
                      refine te_bipush (p2 := 132) (x := 108) rfl rfl (by decide) ?_
                      refine te_iload (p2 := 134) rfl rfl rfl ?_
                      refine ar_add (p2 := 135) rfl rfl (show Int32.toInt 108 = 108 from rfl) rfl (by omega) (by omega) (fun z31 e31 f31 => ?_)
                      refine te_aload_n (p2 := 136) rfl rfl rfl ?_
                      refine tg_r (p2 := 139) (i := 148) (r := 165) rfl rfl I28 rfl rfl rfl ?_
                      refine te_bipush (p2 := 141) (x := 108) rfl rfl (by decide) ?_
                      refine te_iload (p2 := 143) rfl rfl rfl ?_
                      refine ar_add (p2 := 144) rfl rfl (show Int32.toInt 108 = 108 from rfl) rfl (by omega) (by omega) (fun z32 e32 f32 => ?_)
                      refine tl_i (p2 := 145) (i := 149) (n := 283) rfl rfl I28 rfl rfl rfl rfl (by omega) (by omega) (fun y33 a33 b33 g33 e33 => ?_)
                      refine te_iconst (p2 := 146) (x := 1) rfl rfl (by decide) ?_
                      refine tb_ne (p2 := 149) rfl rfl rfl (show Int32.toInt 1 = 1 from rfl) (fun c34 => ?_) (fun c34 => ?_)
                      · refine te_iconst (p2 := 163) (x := 0) rfl rfl (by decide) ?_
                        refine ts_i (p2 := 164) (i := 149) (n := 283) rfl rfl I28 rfl rfl rfl rfl (by omega) (by omega) (i32_lo _) (i32_hi _) (i32_ho _) rfl (fun h35 I35 u35 => ?_)
                        have f35 := fr_st (F := F_X12_late) 0 f28 u35 rfl (by omega) (by omega)
                        refine ar_inc (p2 := 167) (x := v28_6) rfl rfl (by decide) rfl (by decide) rfl (by omega) (by omega) (fun z36 e36 f36 => ?_)
                        show EvP _ _ _ (167, [(6, .int z36), (0, .ref 164), (1, .int s), (2, .int n), (3, .int z25), (4, .int v4_4), (5, .int y19)], [], h35) _
                        refine te_goto rfl ?_
                        refine te_lv [(0, .ref 164), (1, .int s), (2, .int n), (3, .int z25), (4, .int v4_4), (5, .int y19), (6, .int z36)] rfl rfl ⟨rfl, rfl, rfl, rfl, rfl, rfl, rfl, trivial⟩ ?_
                        exact ih28 z36 h35 I35 f35 (by omega) (by omega) (by omega) (fun m hm => ⟨((u35.2 _ _ (Or.inl (by decide))).trans (w28_0 m hm).1), ((u35.2 _ _ (Or.inl (by decide))).trans (w28_0 m hm).2)⟩) (fun j ja jb => ((u35.2 _ _ (Or.inr (by omega))).trans (w28_1 j ja jb))) (by omega)
                      · refine te_aload_n (p2 := 150) rfl rfl rfl ?_
                        refine te_iload (p2 := 152) rfl rfl rfl ?_
                        refine tc_V (p2 := 155) (i := 148) rfl rfl rfl rfl I28 rfl rfl rfl (c_X12_wears (w := v28_6) I28 (by omega) (by omega)) (by decide) (fun v37 h37 hq37 => ?_)
                        obtain ⟨I37, g37, y37, w37, t37, Q37⟩ := hq37
                        subst w37
                        have f37 := fr_tr (F1 := F_X12_wears) (F := F_X12_late) f28 g37 (by decide)
                        rcases Q37.2.2.2 with ⟨x37, c37⟩ | ⟨x37, c37⟩
                        · subst x37
                          show EvP _ _ _ (155, [(0, .ref 164), (1, .int s), (2, .int n), (3, .int z25), (4, .int v4_4), (5, .int y19), (6, .int v28_6)], [.int 1, .int z31, .ref 165], h37) _
                          refine tz_ne (p2 := 158) rfl rfl (show Int32.toInt 1 = 1 from rfl) (fun c38 => ?_) (fun c38 => absurd c38 (by omega))
                          refine te_iconst (p2 := 163) (x := 0) rfl rfl (by decide) ?_
                          refine ts_i (p2 := 164) (i := 149) (n := 283) rfl rfl I37 rfl rfl rfl rfl (by omega) (by omega) (i32_lo _) (i32_hi _) (i32_ho _) rfl (fun h39 I39 u39 => ?_)
                          have f39 := fr_st (F := F_X12_late) 0 f37 u39 rfl (by omega) (by omega)
                          refine ar_inc (p2 := 167) (x := v28_6) rfl rfl (by decide) rfl (by decide) rfl (by omega) (by omega) (fun z40 e40 f40 => ?_)
                          show EvP _ _ _ (167, [(6, .int z40), (0, .ref 164), (1, .int s), (2, .int n), (3, .int z25), (4, .int v4_4), (5, .int y19)], [], h39) _
                          refine te_goto rfl ?_
                          refine te_lv [(0, .ref 164), (1, .int s), (2, .int n), (3, .int z25), (4, .int v4_4), (5, .int y19), (6, .int z40)] rfl rfl ⟨rfl, rfl, rfl, rfl, rfl, rfl, rfl, trivial⟩ ?_
                          exact ih28 z40 h39 I39 f39 (by omega) (by omega) (by omega) (fun m hm => ⟨((u39.2 _ _ (Or.inl (by decide))).trans ((Q37.2.2.1 _ _ (Or.inl (by decide))).trans (w28_0 m hm).1)), ((u39.2 _ _ (Or.inl (by decide))).trans ((Q37.2.2.1 _ _ (Or.inl (by decide))).trans (w28_0 m hm).2))⟩) (fun j ja jb => ((u39.2 _ _ (Or.inr (by omega))).trans ((Q37.2.2.1 _ _ (Or.inr (by omega))).trans (w28_1 j ja jb)))) (by omega)
                        · subst x37
                          show EvP _ _ _ (155, [(0, .ref 164), (1, .int s), (2, .int n), (3, .int z25), (4, .int v4_4), (5, .int y19), (6, .int v28_6)], [.int 0, .int z31, .ref 165], h37) _
                          refine tz_ne (p2 := 158) rfl rfl (show Int32.toInt 0 = 0 from rfl) (fun c41 => absurd c41 (by omega)) (fun c41 => ?_)
                          refine te_iconst (p2 := 159) (x := 1) rfl rfl (by decide) ?_
                          refine te_goto rfl ?_
                          refine ts_i (p2 := 164) (i := 149) (n := 283) rfl rfl I37 rfl rfl rfl rfl (by omega) (by omega) (i32_lo _) (i32_hi _) (i32_ho _) rfl (fun h42 I42 u42 => ?_)
                          have f42 := fr_st (F := F_X12_late) 0 f37 u42 rfl (by omega) (by omega)
                          refine ar_inc (p2 := 167) (x := v28_6) rfl rfl (by decide) rfl (by decide) rfl (by omega) (by omega) (fun z43 e43 f43 => ?_)
                          show EvP _ _ _ (167, [(6, .int z43), (0, .ref 164), (1, .int s), (2, .int n), (3, .int z25), (4, .int v4_4), (5, .int y19)], [], h42) _
                          refine te_goto rfl ?_
                          refine te_lv [(0, .ref 164), (1, .int s), (2, .int n), (3, .int z25), (4, .int v4_4), (5, .int y19), (6, .int z43)] rfl rfl ⟨rfl, rfl, rfl, rfl, rfl, rfl, rfl, trivial⟩ ?_
                          exact ih28 z43 h42 I42 f42 (by omega) (by omega) (by omega) (fun m hm => ⟨((u42.2 _ _ (Or.inl (by decide))).trans ((Q37.2.2.1 _ _ (Or.inl (by decide))).trans (w28_0 m hm).1)), ((u42.2 _ _ (Or.inl (by decide))).trans ((Q37.2.2.1 _ _ (Or.inl (by decide))).trans (w28_0 m hm).2))⟩) (fun j ja jb => ((u42.2 _ _ (Or.inr (by omega))).trans ((Q37.2.2.1 _ _ (Or.inr (by omega))).trans (w28_1 j ja jb)))) (by omega)
                refine te_lv [(0, .ref 164), (1, .int s), (2, .int n), (3, .int z25), (4, .int v4_4), (5, .int y19), (6, .int 0)] rfl rfl ⟨rfl, rfl, rfl, rfl, rfl, rfl, rfl, trivial⟩ ?_
                exact lp28 17 0 h27 I27 f27 (by decide) (by decide) (by have cc0 := (show Int32.toInt 0 = 0 from rfl); omega) (fun m hm => ⟨((u27.2 _ _ (Or.inl (by decide))).trans (w4_0 m hm).1), ((u27.2 _ _ (Or.inl (by decide))).trans (w4_0 m hm).2)⟩) (fun j ja jb => ((u27.2 _ _ (Or.inr (by omega))).trans (w4_1 j ja jb))) (by have cc0 := (show Int32.toInt 0 = 0 from rfl); omega)
              · refine te_iconst (p2 := 97) (x := 1) rfl rfl (by decide) ?_
                refine te_goto rfl ?_
                refine au_add (p2 := 102) rfl rfl (fun z44 e44 => ?_)
                refine te_istore_n (p2 := 103) (lv2 := [(3, .int z44), (5, .int y19), (0, .ref 164), (1, .int s), (2, .int n), (4, .int v4_4)]) rfl rfl (by decide) rfl ?_
                refine te_aload_n (p2 := 104) rfl rfl rfl ?_
                refine tg_r (p2 := 107) (i := 148) (r := 165) rfl rfl I4 rfl rfl rfl ?_
                refine te_bipush (p2 := 109) (x := 108) rfl rfl (by decide) ?_
                refine te_iload (p2 := 111) rfl rfl rfl ?_
                refine ar_add (p2 := 112) rfl rfl (show Int32.toInt 108 = 108 from rfl) rfl (by omega) (by omega) (fun z45 e45 f45 => ?_)
                refine te_iconst (p2 := 113) (x := 0) rfl rfl (by decide) ?_
                refine ts_i (p2 := 114) (i := 149) (n := 283) rfl rfl I4 rfl rfl rfl rfl (by omega) (by omega) (i32_lo _) (i32_hi _) (i32_ho _) rfl (fun h46 I46 u46 => ?_)
                have f46 := fr_st (F := F_X12_late) 0 f4 u46 rfl (by omega) (by omega)
                refine te_iconst (p2 := 115) (x := 0) rfl rfl (by decide) ?_
                refine te_istore (p2 := 117) (lv2 := [(6, .int 0), (3, .int z44), (5, .int y19), (0, .ref 164), (1, .int s), (2, .int n), (4, .int v4_4)]) rfl rfl (by decide) rfl ?_
                have lp47 : ∀ (n47 : Nat) (v47_6 : Int32) (h47 : im_H), tI h47 → fr F_X12_late h h47 → 0 ≤ v47_6.toInt → v47_6.toInt ≤ 16 → v47_6.toInt ≤ y1.toInt → (∀ m : Nat, (m : Int) < y1.toInt → rd h47 197 m = rd h 149 (108 + m) ∧ rd h47 198 m = rd h 149 (124 + m)) → (∀ j : Nat, ¬ (108 ≤ j ∧ (j : Int) < 108 + y1.toInt) → ¬ (124 ≤ j ∧ (j : Int) < 124 + y1.toInt) → rd h47 149 j = rd h 149 j) → 16 - v47_6.toInt < (n47 : Int) → EvP im_K0 3 mX12_late (117, [(0, .ref 164), (1, .int s), (2, .int n), (3, .int z44), (4, .int v4_4), (5, .int y19), (6, .int v47_6)], [], h47) (fun v h2 => tI h2 ∧ fr F_X12_late h h2 ∧ ∃ y : Int32, v = some (.int y) ∧ ∀ j : Nat, rd h2 149 j = rd h 149 j) := by
                  intro n47
                  induction n47 with
                  | zero => intro v47_6 h47 I47 f47 a47_6 b47_6 l47_0 w47_0 w47_1 m47; exfalso; omega
                  | succ n47 ih47 =>
                    intro v47_6 h47 I47 f47 a47_6 b47_6 l47_0 w47_0 w47_1 m47
                    refine te_iload (p2 := 119) rfl rfl rfl ?_
                    refine te_aload_n (p2 := 120) rfl rfl rfl ?_
                    refine tg_e (p2 := 123) (i := 148) (v := .int y1) rfl rfl I47 rfl rfl ((f47 _ _ rfl).trans e1) ?_
                    refine tb_ge (p2 := 126) rfl rfl rfl rfl (fun c48 => ?_) (fun c48 => ?_)
                    · refine ar_inc (p2 := 173) (x := v4_4) rfl rfl (by decide) rfl (by decide) rfl (by omega) (by omega) (fun z49 e49 f49 => ?_)
                      show EvP _ _ _ (173, [(4, .int z49), (0, .ref 164), (1, .int s), (2, .int n), (3, .int z44), (5, .int y19), (6, .int v47_6)], [], h47) _
                      refine te_goto rfl ?_
                      refine te_lv [(0, .ref 164), (1, .int s), (2, .int n), (3, .int z44), (4, .int z49)] rfl rfl ⟨rfl, rfl, rfl, rfl, rfl, trivial⟩ ?_
                      exact ih4 z44 z49 h47 I47 f47 (by omega) (by omega) w47_0 w47_1 (by omega)
                    · refine te_aload_n (p2 := 127) rfl rfl rfl ?_
                      refine tg_r (p2 := 130) (i := 148) (r := 165) rfl rfl I47 rfl rfl rfl ?_
                      refine te_bipush (p2 := 132) (x := 108) rfl rfl (by decide) ?_
                      refine te_iload (p2 := 134) rfl rfl rfl ?_
                      refine ar_add (p2 := 135) rfl rfl (show Int32.toInt 108 = 108 from rfl) rfl (by omega) (by omega) (fun z50 e50 f50 => ?_)
                      refine te_aload_n (p2 := 136) rfl rfl rfl ?_
                      refine tg_r (p2 := 139) (i := 148) (r := 165) rfl rfl I47 rfl rfl rfl ?_
                      refine te_bipush (p2 := 141) (x := 108) rfl rfl (by decide) ?_
                      refine te_iload (p2 := 143) rfl rfl rfl ?_
                      refine ar_add (p2 := 144) rfl rfl (show Int32.toInt 108 = 108 from rfl) rfl (by omega) (by omega) (fun z51 e51 f51 => ?_)
                      refine tl_i (p2 := 145) (i := 149) (n := 283) rfl rfl I47 rfl rfl rfl rfl (by omega) (by omega) (fun y52 a52 b52 g52 e52 => ?_)
                      refine te_iconst (p2 := 146) (x := 1) rfl rfl (by decide) ?_
                      refine tb_ne (p2 := 149) rfl rfl rfl (show Int32.toInt 1 = 1 from rfl) (fun c53 => ?_) (fun c53 => ?_)
                      · refine te_iconst (p2 := 163) (x := 0) rfl rfl (by decide) ?_
                        refine ts_i (p2 := 164) (i := 149) (n := 283) rfl rfl I47 rfl rfl rfl rfl (by omega) (by omega) (i32_lo _) (i32_hi _) (i32_ho _) rfl (fun h54 I54 u54 => ?_)
                        have f54 := fr_st (F := F_X12_late) 0 f47 u54 rfl (by omega) (by omega)
                        refine ar_inc (p2 := 167) (x := v47_6) rfl rfl (by decide) rfl (by decide) rfl (by omega) (by omega) (fun z55 e55 f55 => ?_)
                        show EvP _ _ _ (167, [(6, .int z55), (0, .ref 164), (1, .int s), (2, .int n), (3, .int z44), (4, .int v4_4), (5, .int y19)], [], h54) _
                        refine te_goto rfl ?_
                        refine te_lv [(0, .ref 164), (1, .int s), (2, .int n), (3, .int z44), (4, .int v4_4), (5, .int y19), (6, .int z55)] rfl rfl ⟨rfl, rfl, rfl, rfl, rfl, rfl, rfl, trivial⟩ ?_
                        exact ih47 z55 h54 I54 f54 (by omega) (by omega) (by omega) (fun m hm => ⟨((u54.2 _ _ (Or.inl (by decide))).trans (w47_0 m hm).1), ((u54.2 _ _ (Or.inl (by decide))).trans (w47_0 m hm).2)⟩) (fun j ja jb => ((u54.2 _ _ (Or.inr (by omega))).trans (w47_1 j ja jb))) (by omega)
                      · refine te_aload_n (p2 := 150) rfl rfl rfl ?_
                        refine te_iload (p2 := 152) rfl rfl rfl ?_
                        refine tc_V (p2 := 155) (i := 148) rfl rfl rfl rfl I47 rfl rfl rfl (c_X12_wears (w := v47_6) I47 (by omega) (by omega)) (by decide) (fun v56 h56 hq56 => ?_)
                        obtain ⟨I56, g56, y56, w56, t56, Q56⟩ := hq56
                        subst w56
                        have f56 := fr_tr (F1 := F_X12_wears) (F := F_X12_late) f47 g56 (by decide)
                        rcases Q56.2.2.2 with ⟨x56, c56⟩ | ⟨x56, c56⟩
                        · subst x56
                          show EvP _ _ _ (155, [(0, .ref 164), (1, .int s), (2, .int n), (3, .int z44), (4, .int v4_4), (5, .int y19), (6, .int v47_6)], [.int 1, .int z50, .ref 165], h56) _
                          refine tz_ne (p2 := 158) rfl rfl (show Int32.toInt 1 = 1 from rfl) (fun c57 => ?_) (fun c57 => absurd c57 (by omega))
                          refine te_iconst (p2 := 163) (x := 0) rfl rfl (by decide) ?_
                          refine ts_i (p2 := 164) (i := 149) (n := 283) rfl rfl I56 rfl rfl rfl rfl (by omega) (by omega) (i32_lo _) (i32_hi _) (i32_ho _) rfl (fun h58 I58 u58 => ?_)
                          have f58 := fr_st (F := F_X12_late) 0 f56 u58 rfl (by omega) (by omega)
                          refine ar_inc (p2 := 167) (x := v47_6) rfl rfl (by decide) rfl (by decide) rfl (by omega) (by omega) (fun z59 e59 f59 => ?_)
                          show EvP _ _ _ (167, [(6, .int z59), (0, .ref 164), (1, .int s), (2, .int n), (3, .int z44), (4, .int v4_4), (5, .int y19)], [], h58) _
                          refine te_goto rfl ?_
                          refine te_lv [(0, .ref 164), (1, .int s), (2, .int n), (3, .int z44), (4, .int v4_4), (5, .int y19), (6, .int z59)] rfl rfl ⟨rfl, rfl, rfl, rfl, rfl, rfl, rfl, trivial⟩ ?_
                          exact ih47 z59 h58 I58 f58 (by omega) (by omega) (by omega) (fun m hm => ⟨((u58.2 _ _ (Or.inl (by decide))).trans ((Q56.2.2.1 _ _ (Or.inl (by decide))).trans (w47_0 m hm).1)), ((u58.2 _ _ (Or.inl (by decide))).trans ((Q56.2.2.1 _ _ (Or.inl (by decide))).trans (w47_0 m hm).2))⟩) (fun j ja jb => ((u58.2 _ _ (Or.inr (by omega))).trans ((Q56.2.2.1 _ _ (Or.inr (by omega))).trans (w47_1 j ja jb)))) (by omega)
                        · subst x56
                          show EvP _ _ _ (155, [(0, .ref 164), (1, .int s), (2, .int n), (3, .int z44), (4, .int v4_4), (5, .int y19), (6, .int v47_6)], [.int 0, .int z50, .ref 165], h56) _
                          refine tz_ne (p2 := 158) rfl rfl (show Int32.toInt 0 = 0 from rfl) (fun c60 => absurd c60 (by omega)) (fun c60 => ?_)
                          refine te_iconst (p2 := 159) (x := 1) rfl rfl (by decide) ?_
                          refine te_goto rfl ?_
                          refine ts_i (p2 := 164) (i := 149) (n := 283) rfl rfl I56 rfl rfl rfl rfl (by omega) (by omega) (i32_lo _) (i32_hi _) (i32_ho _) rfl (fun h61 I61 u61 => ?_)
                          have f61 := fr_st (F := F_X12_late) 0 f56 u61 rfl (by omega) (by omega)
                          refine ar_inc (p2 := 167) (x := v47_6) rfl rfl (by decide) rfl (by decide) rfl (by omega) (by omega) (fun z62 e62 f62 => ?_)
                          show EvP _ _ _ (167, [(6, .int z62), (0, .ref 164), (1, .int s), (2, .int n), (3, .int z44), (4, .int v4_4), (5, .int y19)], [], h61) _
                          refine te_goto rfl ?_
                          refine te_lv [(0, .ref 164), (1, .int s), (2, .int n), (3, .int z44), (4, .int v4_4), (5, .int y19), (6, .int z62)] rfl rfl ⟨rfl, rfl, rfl, rfl, rfl, rfl, rfl, trivial⟩ ?_
                          exact ih47 z62 h61 I61 f61 (by omega) (by omega) (by omega) (fun m hm => ⟨((u61.2 _ _ (Or.inl (by decide))).trans ((Q56.2.2.1 _ _ (Or.inl (by decide))).trans (w47_0 m hm).1)), ((u61.2 _ _ (Or.inl (by decide))).trans ((Q56.2.2.1 _ _ (Or.inl (by decide))).trans (w47_0 m hm).2))⟩) (fun j ja jb => ((u61.2 _ _ (Or.inr (by omega))).trans ((Q56.2.2.1 _ _ (Or.inr (by omega))).trans (w47_1 j ja jb)))) (by omega)
                refine te_lv [(0, .ref 164), (1, .int s), (2, .int n), (3, .int z44), (4, .int v4_4), (5, .int y19), (6, .int 0)] rfl rfl ⟨rfl, rfl, rfl, rfl, rfl, rfl, rfl, trivial⟩ ?_
                exact lp47 17 0 h46 I46 f46 (by decide) (by decide) (by have cc0 := (show Int32.toInt 0 = 0 from rfl); omega) (fun m hm => ⟨((u46.2 _ _ (Or.inl (by decide))).trans (w4_0 m hm).1), ((u46.2 _ _ (Or.inl (by decide))).trans (w4_0 m hm).2)⟩) (fun j ja jb => ((u46.2 _ _ (Or.inr (by omega))).trans (w4_1 j ja jb))) (by have cc0 := (show Int32.toInt 0 = 0 from rfl); omega)
        refine te_lv [(0, .ref 164), (1, .int s), (2, .int n), (3, .int 0), (4, .int 0)] rfl rfl ⟨rfl, rfl, rfl, rfl, rfl, trivial⟩ ?_
        exact lp4 7 0 0 h2 I2 f2 (by decide) (by decide) (fun m hm => w2_0 m (by omega)) (fun j _ _ => w2_1 j) (by have cc0 := (show Int32.toInt 0 = 0 from rfl); omega)
      · refine te_aload_n (p2 := 15) rfl rfl rfl ?_
        refine tg_r (p2 := 18) (i := 148) (r := 213) rfl rfl I2 rfl rfl rfl ?_
        refine te_iload (p2 := 20) rfl rfl rfl ?_
        refine te_aload_n (p2 := 21) rfl rfl rfl ?_
        refine tg_r (p2 := 24) (i := 148) (r := 165) rfl rfl I2 rfl rfl rfl ?_
        refine te_bipush (p2 := 26) (x := 108) rfl rfl (by decide) ?_
        refine te_iload (p2 := 28) rfl rfl rfl ?_
        refine ar_add (p2 := 29) rfl rfl (show Int32.toInt 108 = 108 from rfl) rfl (by omega) (by omega) (fun z63 e63 f63 => ?_)
        refine tl_i (p2 := 30) (i := 149) (n := 283) rfl rfl I2 rfl rfl rfl rfl (by omega) (by omega) (fun y64 a64 b64 g64 e64 => ?_)
        refine ts_i (p2 := 31) (i := 197) (n := 16) rfl rfl I2 rfl rfl rfl rfl (by omega) (by omega) (i32_lo _) (i32_hi _) (i32_ho _) rfl (fun h65 I65 u65 => ?_)
        have f65 := fr_st (F := F_X12_late) 1 f2 u65 rfl (by omega) (by omega)
        refine te_aload_n (p2 := 32) rfl rfl rfl ?_
        refine tg_r (p2 := 35) (i := 148) (r := 214) rfl rfl I65 rfl rfl rfl ?_
        refine te_iload (p2 := 37) rfl rfl rfl ?_
        refine te_aload_n (p2 := 38) rfl rfl rfl ?_
        refine tg_r (p2 := 41) (i := 148) (r := 165) rfl rfl I65 rfl rfl rfl ?_
        refine te_bipush (p2 := 43) (x := 124) rfl rfl (by decide) ?_
        refine te_iload (p2 := 45) rfl rfl rfl ?_
        refine ar_add (p2 := 46) rfl rfl (show Int32.toInt 124 = 124 from rfl) rfl (by omega) (by omega) (fun z66 e66 f66 => ?_)
        refine tl_i (p2 := 47) (i := 149) (n := 283) rfl rfl I65 rfl rfl rfl rfl (by omega) (by omega) (fun y67 a67 b67 g67 e67 => ?_)
        refine ts_i (p2 := 48) (i := 198) (n := 16) rfl rfl I65 rfl rfl rfl rfl (by omega) (by omega) (i32_lo _) (i32_hi _) (i32_ho _) rfl (fun h68 I68 u68 => ?_)
        have f68 := fr_st (F := F_X12_late) 2 f65 u68 rfl (by omega) (by omega)
        refine ar_inc (p2 := 51) (x := v2_4) rfl rfl (by decide) rfl (by decide) rfl (by omega) (by omega) (fun z69 e69 f69 => ?_)
        show EvP _ _ _ (51, [(4, .int z69), (0, .ref 164), (1, .int s), (2, .int n), (3, .int 0)], [], h68) _
        refine te_goto rfl ?_
        refine te_lv [(0, .ref 164), (1, .int s), (2, .int n), (3, .int 0), (4, .int z69)] rfl rfl ⟨rfl, rfl, rfl, rfl, rfl, trivial⟩ ?_
        exact ih2 z69 h68 I68 f68 (by omega) (by omega) (by have cc0 := (show Int32.toInt 0 = 0 from rfl); omega) (fun m hm => by (by_cases hc : m = v2_4.toInt.toNat); (· rw [hc, show 108 + v2_4.toInt.toNat = z63.toInt.toNat by omega, show 124 + v2_4.toInt.toNat = z66.toInt.toNat by omega]; exact ⟨(((u68.2 _ _ (Or.inl (by decide))).trans u65.1).trans ((w2_1 _).symm.trans e64).symm), (u68.1.trans ((w2_1 _).symm.trans ((u65.2 _ _ (Or.inl (by decide))).symm.trans e67)).symm)⟩); (· have hw := w2_0 m (by omega); exact ⟨((u68.2 _ _ (Or.inl (by decide))).trans (u65.2 _ _ (Or.inr hc))).trans hw.1, ((u68.2 _ _ (Or.inr hc)).trans (u65.2 _ _ (Or.inl (by decide)))).trans hw.2⟩)) (fun j => ((u68.2 _ _ (Or.inl (by decide))).trans (u65.2 _ _ (Or.inl (by decide)))).trans (w2_1 j)) (by have cc0 := (show Int32.toInt 0 = 0 from rfl); omega)
  refine te_lv [(0, .ref 164), (1, .int s), (2, .int n), (3, .int 0), (4, .int 0)] rfl rfl ⟨rfl, rfl, rfl, rfl, rfl, trivial⟩ ?_
  exact lp2 17 0 h hI f0 (by decide) (by decide) (by have cc0 := (show Int32.toInt 0 = 0 from rfl); omega) (fun m hm => by exfalso; have := (show Int32.toInt 0 = 0 from rfl); omega) (fun j => rfl) (by have cc0 := (show Int32.toInt 0 = 0 from rfl); omega)
abbrev Q2_pulls (x1 : Int32) (y : Int32) (h h2 : im_H) : Prop := ∀ j : Nat, rd h2 149 j = rd h 149 j
set_option maxRecDepth 20000 in
set_option maxHeartbeats 4000000 in
theorem c_X12_pulls {x1 : Int32} {h : im_H} (hI : tI h)  : CaP 5 168 [.ref 164, .int x1] h (fun v h2 => tI h2 ∧ fr F_X12_pulls h h2 ∧ ∃ y : Int32, v = some (.int y) ∧ Q2_pulls x1 y h h2) := by
  refine cap_of (d := 4) (M := mX12_pulls) rfl (Nat.le_of_ble_eq_true rfl) ?_
  show EvP im_K0 4 mX12_pulls (0, [(0, .ref 164), (1, .int x1)], [], h) _
  have f0 : fr F_X12_pulls h h := fr_rf
  refine te_iload_n (p2 := 1) rfl rfl rfl ?_
  obtain ⟨v1, e1, y1, w1, a1, b1, _⟩ := hI.2.1 148 21 (.inl (0, 16, 9999999999)) rfl
  subst w1
  refine te_iconst (p2 := 2) (x := 0) rfl rfl (by decide) ?_
  refine te_iconst (p2 := 3) (x := 3) rfl rfl (by decide) ?_
  refine cS_pI (p2 := 6) rfl rfl rfl rfl (t_X12_in (n := x1) (a := 0) (b := 3) hI ) (by decide) (fun y2 r2 => ?_)
  rcases r2 with ⟨w2, c2⟩ | ⟨w2, c2⟩
  · subst w2
    have cc2_1 := (show Int32.toInt 0 = 0 from rfl)
    have cc2_2 := (show Int32.toInt 3 = 3 from rfl)
    refine tz_ne (p2 := 9) rfl rfl (show Int32.toInt 1 = 1 from rfl) (fun c3 => ?_) (fun c3 => absurd c3 (by omega))
    refine te_aload_n (p2 := 12) rfl rfl rfl ?_
    refine tg_r (p2 := 15) (i := 148) (r := 208) rfl rfl hI rfl rfl rfl ?_
    refine te_iload_n (p2 := 16) rfl rfl rfl ?_
    refine tl_i (p2 := 17) (i := 192) (n := 4) rfl rfl hI rfl rfl rfl rfl (by omega) (by omega) (fun y4 a4 b4 g4 e4 => ?_)
    refine te_iconst (p2 := 18) (x := (-1)) rfl rfl (by decide) ?_
    refine tb_ne (p2 := 21) rfl rfl rfl (show Int32.toInt (-1) = (-1) from rfl) (fun c5 => ?_) (fun c5 => ?_)
    · refine te_aload_n (p2 := 25) rfl rfl rfl ?_
      refine tg_r (p2 := 28) (i := 148) (r := 209) rfl rfl hI rfl rfl rfl ?_
      refine te_iload_n (p2 := 29) rfl rfl rfl ?_
      refine tl_i (p2 := 30) (i := 193) (n := 4) rfl rfl hI rfl rfl rfl rfl (by omega) (by omega) (fun y6 a6 b6 g6 e6 => ?_)
      refine te_istore_n (p2 := 31) (lv2 := [(2, .int y6), (0, .ref 164), (1, .int x1)]) rfl rfl (by decide) rfl ?_
      refine te_iconst (p2 := 32) (x := 0) rfl rfl (by decide) ?_
      refine te_istore_n (p2 := 33) (lv2 := [(3, .int 0), (2, .int y6), (0, .ref 164), (1, .int x1)]) rfl rfl (by decide) rfl ?_
      refine te_iload_n (p2 := 34) rfl rfl rfl ?_
      refine te_iconst (p2 := 35) (x := 1) rfl rfl (by decide) ?_
      refine te_bipush (p2 := 37) (x := 6) rfl rfl (by decide) ?_
      refine cS_pI (p2 := 40) rfl rfl rfl rfl (t_X12_in (n := y6) (a := 1) (b := 6) hI ) (by decide) (fun y7 r7 => ?_)
      rcases r7 with ⟨w7, c7⟩ | ⟨w7, c7⟩
      · subst w7
        have cc7_1 := (show Int32.toInt 1 = 1 from rfl)
        have cc7_2 := (show Int32.toInt 6 = 6 from rfl)
        refine te_istore (p2 := 42) (lv2 := [(4, .int 1), (3, .int 0), (2, .int y6), (0, .ref 164), (1, .int x1)]) rfl rfl (by decide) rfl ?_
        refine te_iconst (p2 := 43) (x := 0) rfl rfl (by decide) ?_
        refine te_istore (p2 := 45) (lv2 := [(5, .int 0), (4, .int 1), (3, .int 0), (2, .int y6), (0, .ref 164), (1, .int x1)]) rfl rfl (by decide) rfl ?_
        have lp8 : ∀ (n8 : Nat) (v8_3 v8_4 v8_5 : Int32) , 0 ≤ v8_4.toInt → v8_4.toInt ≤ 1 → 0 ≤ v8_5.toInt → v8_5.toInt ≤ 40 → (v8_4.toInt = 1 → allB h 194 (40 * x1.toInt.toNat) v8_5.toInt 15) → (v8_4.toInt = 1 → allB h 194 (40 * x1.toInt.toNat) v8_5.toInt (y1.toInt - 1)) → 40 - v8_5.toInt < (n8 : Int) → EvP im_K0 4 mX12_pulls (45, [(0, .ref 164), (1, .int x1), (2, .int y6), (3, .int v8_3), (4, .int v8_4), (5, .int v8_5)], [], h) (fun v h2 => tI h2 ∧ fr F_X12_pulls h h2 ∧ ∃ y : Int32, v = some (.int y) ∧ Q2_pulls x1 y h h2) := by
          intro n8
          induction n8 with
          | zero => intro v8_3 v8_4 v8_5 a8_4 b8_4 a8_5 b8_5 w8_0 w8_1 m8; exfalso; omega
          | succ n8 ih8 =>
            intro v8_3 v8_4 v8_5 a8_4 b8_4 a8_5 b8_5 w8_0 w8_1 m8
            refine te_iload (p2 := 47) rfl rfl rfl ?_
            refine te_iload_n (p2 := 48) rfl rfl rfl ?_
            refine tb_ge (p2 := 51) rfl rfl rfl rfl (fun c9 => ?_) (fun c9 => ?_)
            · refine te_iload (p2 := 146) rfl rfl rfl ?_
              refine tz_ne (p2 := 149) rfl rfl rfl (fun c10 => ?_) (fun c10 => ?_)
              · refine te_iconst (p2 := 153) (x := 0) rfl rfl (by decide) ?_
                refine te_istore (p2 := 155) (lv2 := [(5, .int 0), (0, .ref 164), (1, .int x1), (2, .int y6), (3, .int v8_3), (4, .int v8_4)]) rfl rfl (by decide) rfl ?_
                have lp11 : ∀ (n11 : Nat) (v11_5 : Int32) (h11 : im_H), tI h11 → fr F_X12_pulls h h11 → 0 ≤ v11_5.toInt → v11_5.toInt ≤ 6 → v11_5.toInt ≤ y6.toInt → (∀ q : Nat, (q : Int) < v11_5.toInt → ∃ p : Int32, rd h11 199 q = some (.int p) ∧ p.toInt = q) → (∀ j : Nat, rd h11 149 j = rd h 149 j) → 6 - v11_5.toInt < (n11 : Int) → EvP im_K0 4 mX12_pulls (155, [(0, .ref 164), (1, .int x1), (2, .int y6), (3, .int v8_3), (4, .int v8_4), (5, .int v11_5)], [], h11) (fun v h2 => tI h2 ∧ fr F_X12_pulls h h2 ∧ ∃ y : Int32, v = some (.int y) ∧ Q2_pulls x1 y h h2) := by
                  intro n11
                  induction n11 with
                  | zero => intro v11_5 h11 I11 f11 a11_5 b11_5 l11_0 w11_0 w11_1 m11; exfalso; omega
                  | succ n11 ih11 =>
                    intro v11_5 h11 I11 f11 a11_5 b11_5 l11_0 w11_0 w11_1 m11
                    refine te_iload (p2 := 157) rfl rfl rfl ?_
                    refine te_iload_n (p2 := 158) rfl rfl rfl ?_
                    refine tb_ge (p2 := 161) rfl rfl rfl rfl (fun c12 => ?_) (fun c12 => ?_)
                    · refine te_iconst (p2 := 177) (x := (-1)) rfl rfl (by decide) ?_
                      refine te_istore (p2 := 179) (lv2 := [(5, .int (-1)), (0, .ref 164), (1, .int x1), (2, .int y6), (3, .int v8_3), (4, .int v8_4)]) rfl rfl (by decide) rfl ?_
                      refine te_iconst (p2 := 180) (x := 1) rfl rfl (by decide) ?_
                      refine te_istore (p2 := 182) (lv2 := [(6, .int 1), (5, .int (-1)), (0, .ref 164), (1, .int x1), (2, .int y6), (3, .int v8_3), (4, .int v8_4)]) rfl rfl (by decide) rfl ?_
                      obtain ⟨v14, e14, y14, w14, a14, b14, _⟩ := I11.2.1 199 (Int32.toInt 0).toNat (.inl (0, 5, 9999999999)) (tq_row rfl (by decide))
                      subst w14
                      obtain ⟨v15, e15, y15, w15, a15, b15, _⟩ := I11.2.1 199 (Int32.toInt 1).toNat (.inl (0, 5, 9999999999)) (tq_row rfl (by decide))
                      subst w15
                      obtain ⟨v16, e16, y16, w16, a16, b16, _⟩ := I11.2.1 199 (Int32.toInt 2).toNat (.inl (0, 5, 9999999999)) (tq_row rfl (by decide))
                      subst w16
                      obtain ⟨v17, e17, y17, w17, a17, b17, _⟩ := I11.2.1 199 (Int32.toInt 3).toNat (.inl (0, 5, 9999999999)) (tq_row rfl (by decide))
                      subst w17
                      obtain ⟨v18, e18, y18, w18, a18, b18, _⟩ := I11.2.1 199 (Int32.toInt 4).toNat (.inl (0, 5, 9999999999)) (tq_row rfl (by decide))
                      subst w18
                      obtain ⟨v19, e19, y19, w19, a19, b19, _⟩ := I11.2.1 199 (Int32.toInt 5).toNat (.inl (0, 5, 9999999999)) (tq_row rfl (by decide))
                      subst w19
                      have lp13 : ∀ (n13 : Nat) (v13_5 v13_6 t13_t0 t13_t1 t13_t2 t13_t3 t13_t4 t13_t5 : Int32) (h13 : im_H), tI h13 → fr F_X12_pulls h h13 → 0 ≤ v13_6.toInt → v13_6.toInt ≤ 1 → rd h13 199 (Int32.toInt 0).toNat = some (.int t13_t0) → rd h13 199 (Int32.toInt 1).toNat = some (.int t13_t1) → rd h13 199 (Int32.toInt 2).toNat = some (.int t13_t2) → rd h13 199 (Int32.toInt 3).toNat = some (.int t13_t3) → rd h13 199 (Int32.toInt 4).toNat = some (.int t13_t4) → rd h13 199 (Int32.toInt 5).toNat = some (.int t13_t5) → 0 ≤ t13_t0.toInt → t13_t0.toInt ≤ 5 → 0 ≤ t13_t1.toInt → t13_t1.toInt ≤ 5 → 0 ≤ t13_t2.toInt → t13_t2.toInt ≤ 5 → 0 ≤ t13_t3.toInt → t13_t3.toInt ≤ 5 → 0 ≤ t13_t4.toInt → t13_t4.toInt ≤ 5 → 0 ≤ t13_t5.toInt → t13_t5.toInt ≤ 5 → prm y6.toInt t13_t0.toInt t13_t1.toInt t13_t2.toInt t13_t3.toInt t13_t4.toInt t13_t5.toInt → (∀ j : Nat, rd h13 149 j = rd h 149 j) → 46656 - (7776 * t13_t0.toInt + 1296 * t13_t1.toInt + 216 * t13_t2.toInt + 36 * t13_t3.toInt + 6 * t13_t4.toInt + t13_t5.toInt) < (n13 : Int) → EvP im_K0 4 mX12_pulls (182, [(0, .ref 164), (1, .int x1), (2, .int y6), (3, .int v8_3), (4, .int v8_4), (5, .int v13_5), (6, .int v13_6)], [], h13) (fun v h2 => tI h2 ∧ fr F_X12_pulls h h2 ∧ ∃ y : Int32, v = some (.int y) ∧ Q2_pulls x1 y h h2) := by
                        intro n13
                        induction n13 with
                        | zero => intro v13_5 v13_6 t13_t0 t13_t1 t13_t2 t13_t3 t13_t4 t13_t5 h13 I13 f13 a13_6 b13_6 v13_t0 v13_t1 v13_t2 v13_t3 v13_t4 v13_t5 va13_t0 vb13_t0 va13_t1 vb13_t1 va13_t2 vb13_t2 va13_t3 vb13_t3 va13_t4 vb13_t4 va13_t5 vb13_t5 w13_0 w13_1 m13; exfalso; omega
                        | succ n13 ih13 =>
                          intro v13_5 v13_6 t13_t0 t13_t1 t13_t2 t13_t3 t13_t4 t13_t5 h13 I13 f13 a13_6 b13_6 v13_t0 v13_t1 v13_t2 v13_t3 v13_t4 v13_t5 va13_t0 vb13_t0 va13_t1 vb13_t1 va13_t2 vb13_t2 va13_t3 vb13_t3 va13_t4 vb13_t4 va13_t5 vb13_t5 w13_0 w13_1 m13
                          refine te_iload (p2 := 184) rfl rfl rfl ?_
                          refine tz_eq (p2 := 187) rfl rfl rfl (fun c20 => ?_) (fun c20 => ?_)
                          · refine te_aload_n (p2 := 262) rfl rfl rfl ?_
                            refine te_iload_n (p2 := 263) rfl rfl rfl ?_
                            refine tp_i (p2 := 266) (i := 148) rfl rfl I13 rfl rfl (by decide) rfl rfl rfl (by omega) (by omega) (by omega) rfl (fun h21 I21 u21 => ?_)
                            have f21 := fr_st (F := F_X12_pulls) 0 f13 u21 rfl (by decide) (by decide)
                            refine te_iload (p2 := 268) rfl rfl rfl ?_
                            exact te_iret rfl rfl ⟨I21, f21, _, rfl, (fun j => ((u21.2 _ _ (Or.inl (by decide))).trans (w13_1 j)))⟩
                          · refine te_aload_n (p2 := 188) rfl rfl rfl ?_
                            refine te_iload_n (p2 := 189) rfl rfl rfl ?_
                            refine te_iload_n (p2 := 190) rfl rfl rfl ?_
                            refine tc_V (p2 := 193) (i := 148) rfl rfl rfl rfl I13 rfl rfl rfl (c_X12_late (s := x1) (n := y6) I13 (by omega) (by omega) (by omega) (by omega) (allB_fr (allB_le (w8_0 (by omega)) (by omega)) (fun q => f13 _ _ rfl)) (allB_prm v13_t0 v13_t1 v13_t2 v13_t3 v13_t4 v13_t5 w13_0 (by omega)) (fun w_ e_ => by rw [(int_inj e_ ((f13 _ _ rfl).trans e1) : w_ = y1)]; exact (allB_fr (allB_le (w8_1 (by omega)) (by omega)) (fun q => f13 _ _ rfl)))) (by decide) (fun v22 h22 hq22 => ?_)
                            obtain ⟨I22, g22, y22, w22, Q22⟩ := hq22
                            subst w22
                            have f22 := fr_tr (F1 := F_X12_late) (F := F_X12_pulls) f13 g22 (by decide)
                            show EvP _ _ _ (193, [(0, .ref 164), (1, .int x1), (2, .int y6), (3, .int v8_3), (4, .int v8_4), (5, .int v13_5), (6, .int v13_6)], [.int y22], h22) _
                            refine te_istore (p2 := 195) (lv2 := [(7, .int y22), (0, .ref 164), (1, .int x1), (2, .int y6), (3, .int v8_3), (4, .int v8_4), (5, .int v13_5), (6, .int v13_6)]) rfl rfl (by decide) rfl ?_
                            refine te_iload (p2 := 197) rfl rfl rfl ?_
                            refine te_iconst (p2 := 198) (x := (-1)) rfl rfl (by decide) ?_
                            refine tb_eq (p2 := 201) rfl rfl rfl (show Int32.toInt (-1) = (-1) from rfl) (fun c23 => ?_) (fun c23 => ?_)
                            · refine te_iload (p2 := 210) rfl rfl rfl ?_
                              refine te_istore (p2 := 212) (lv2 := [(5, .int y22), (7, .int y22), (0, .ref 164), (1, .int x1), (2, .int y6), (3, .int v8_3), (4, .int v8_4), (6, .int v13_6)]) rfl rfl (by decide) rfl ?_
                              refine te_iconst (p2 := 213) (x := 0) rfl rfl (by decide) ?_
                              refine te_istore (p2 := 215) (lv2 := [(8, .int 0), (5, .int y22), (7, .int y22), (0, .ref 164), (1, .int x1), (2, .int y6), (3, .int v8_3), (4, .int v8_4), (6, .int v13_6)]) rfl rfl (by decide) rfl ?_
                              have lp24 : ∀ (n24 : Nat) (v24_8 t24_t0 t24_t1 t24_t2 t24_t3 t24_t4 t24_t5 : Int32) (h24 : im_H), tI h24 → fr F_X12_pulls h h24 → 0 ≤ v24_8.toInt → v24_8.toInt ≤ 6 → rd h24 199 (Int32.toInt 0).toNat = some (.int t24_t0) → rd h24 199 (Int32.toInt 1).toNat = some (.int t24_t1) → rd h24 199 (Int32.toInt 2).toNat = some (.int t24_t2) → rd h24 199 (Int32.toInt 3).toNat = some (.int t24_t3) → rd h24 199 (Int32.toInt 4).toNat = some (.int t24_t4) → rd h24 199 (Int32.toInt 5).toNat = some (.int t24_t5) → 0 ≤ t24_t0.toInt → t24_t0.toInt ≤ 5 → 0 ≤ t24_t1.toInt → t24_t1.toInt ≤ 5 → 0 ≤ t24_t2.toInt → t24_t2.toInt ≤ 5 → 0 ≤ t24_t3.toInt → t24_t3.toInt ≤ 5 → 0 ≤ t24_t4.toInt → t24_t4.toInt ≤ 5 → 0 ≤ t24_t5.toInt → t24_t5.toInt ≤ 5 → t24_t0.toInt = t13_t0.toInt → t24_t1.toInt = t13_t1.toInt → t24_t2.toInt = t13_t2.toInt → t24_t3.toInt = t13_t3.toInt → t24_t4.toInt = t13_t4.toInt → t24_t5.toInt = t13_t5.toInt → (∀ j : Nat, rd h24 149 j = rd h 149 j) → 6 - v24_8.toInt < (n24 : Int) → EvP im_K0 4 mX12_pulls (215, [(0, .ref 164), (1, .int x1), (2, .int y6), (3, .int v8_3), (4, .int v8_4), (5, .int y22), (6, .int v13_6), (7, .int y22), (8, .int v24_8)], [], h24) (fun v h2 => tI h2 ∧ fr F_X12_pulls h h2 ∧ ∃ y : Int32, v = some (.int y) ∧ Q2_pulls x1 y h h2) := by
                                intro n24
                                induction n24 with
                                | zero => intro v24_8 t24_t0 t24_t1 t24_t2 t24_t3 t24_t4 t24_t5 h24 I24 f24 a24_8 b24_8 v24_t0 v24_t1 v24_t2 v24_t3 v24_t4 v24_t5 va24_t0 vb24_t0 va24_t1 vb24_t1 va24_t2 vb24_t2 va24_t3 vb24_t3 va24_t4 vb24_t4 va24_t5 vb24_t5 l24_0 l24_1 l24_2 l24_3 l24_4 l24_5 w24_0 m24; exfalso; omega
                                | succ n24 ih24 =>
                                  intro v24_8 t24_t0 t24_t1 t24_t2 t24_t3 t24_t4 t24_t5 h24 I24 f24 a24_8 b24_8 v24_t0 v24_t1 v24_t2 v24_t3 v24_t4 v24_t5 va24_t0 vb24_t0 va24_t1 vb24_t1 va24_t2 vb24_t2 va24_t3 vb24_t3 va24_t4 vb24_t4 va24_t5 vb24_t5 l24_0 l24_1 l24_2 l24_3 l24_4 l24_5 w24_0 m24
                                  refine te_iload (p2 := 217) rfl rfl rfl ?_
                                  refine te_iload_n (p2 := 218) rfl rfl rfl ?_
                                  refine tb_ge (p2 := 221) rfl rfl rfl rfl (fun c25 => ?_) (fun c25 => ?_)
                                  · refine te_aload_n (p2 := 252) rfl rfl rfl ?_
                                    refine te_iload_n (p2 := 253) rfl rfl rfl ?_
                                    refine tc_V (p2 := 256) (i := 148) rfl rfl rfl rfl I24 rfl rfl rfl (t_X12_nextOrder (n := y6) (g0 := t24_t0) (g1 := t24_t1) (g2 := t24_t2) (g3 := t24_t3) (g4 := t24_t4) (g5 := t24_t5) I24 (by omega) (by omega) v24_t0 (by omega) (by omega) v24_t1 (by omega) (by omega) v24_t2 (by omega) (by omega) v24_t3 (by omega) (by omega) v24_t4 (by omega) (by omega) v24_t5 (by omega) (by omega) (by rw [l24_0, l24_1, l24_2, l24_3, l24_4, l24_5]; exact w13_0)) (by decide) (fun v26 h26 hq26 => ?_)
                                    obtain ⟨I26, g26, y26, w26, r26⟩ := hq26
                                    subst w26
                                    have f26 := fr_tr (F1 := [(199, 0, 5)]) (F := F_X12_pulls) f24 g26 (by decide)
                                    rcases r26 with r26 | ⟨r26, s26_0, s26_1, s26_2, s26_3, s26_4, s26_5, es26_0, es26_1, es26_2, es26_3, es26_4, es26_5, pm26, lx26⟩
                                    · subst r26
                                      show EvP _ _ _ (256, [(0, .ref 164), (1, .int x1), (2, .int y6), (3, .int v8_3), (4, .int v8_4), (5, .int y22), (6, .int v13_6), (7, .int y22), (8, .int v24_8)], [.int 0], h26) _
                                      refine te_istore (p2 := 258) (lv2 := [(6, .int 0), (0, .ref 164), (1, .int x1), (2, .int y6), (3, .int v8_3), (4, .int v8_4), (5, .int y22), (7, .int y22), (8, .int v24_8)]) rfl rfl (by decide) rfl ?_
                                      refine te_goto rfl ?_
                                      refine te_iload (p2 := 184) rfl rfl rfl ?_
                                      refine tz_eq (p2 := 187) rfl rfl (show Int32.toInt 0 = 0 from rfl) (fun c27 => ?_) (fun c27 => absurd c27 (by omega))
                                      refine te_aload_n (p2 := 262) rfl rfl rfl ?_
                                      refine te_iload_n (p2 := 263) rfl rfl rfl ?_
                                      refine tp_i (p2 := 266) (i := 148) rfl rfl I26 rfl rfl (by decide) rfl rfl rfl (by omega) (by omega) (by omega) rfl (fun h28 I28 u28 => ?_)
                                      have f28 := fr_st (F := F_X12_pulls) 0 f26 u28 rfl (by decide) (by decide)
                                      refine te_iload (p2 := 268) rfl rfl rfl ?_
                                      exact te_iret rfl rfl ⟨I28, f28, _, rfl, (fun j => ((u28.2 _ _ (Or.inl (by decide))).trans ((g26 _ _ rfl).trans (w24_0 j))))⟩
                                    · subst r26
                                      obtain ⟨v29, ex29, y29, w29, a29, b29, _⟩ := I26.2.1 199 (Int32.toInt 0).toNat (.inl (0, 5, 9999999999)) (tq_row rfl (by decide))
                                      subst w29
                                      rw [← int_inj es26_0 ex29] at a29 b29
                                      obtain ⟨v30, ex30, y30, w30, a30, b30, _⟩ := I26.2.1 199 (Int32.toInt 1).toNat (.inl (0, 5, 9999999999)) (tq_row rfl (by decide))
                                      subst w30
                                      rw [← int_inj es26_1 ex30] at a30 b30
                                      obtain ⟨v31, ex31, y31, w31, a31, b31, _⟩ := I26.2.1 199 (Int32.toInt 2).toNat (.inl (0, 5, 9999999999)) (tq_row rfl (by decide))
                                      subst w31
                                      rw [← int_inj es26_2 ex31] at a31 b31
                                      obtain ⟨v32, ex32, y32, w32, a32, b32, _⟩ := I26.2.1 199 (Int32.toInt 3).toNat (.inl (0, 5, 9999999999)) (tq_row rfl (by decide))
                                      subst w32
                                      rw [← int_inj es26_3 ex32] at a32 b32
                                      obtain ⟨v33, ex33, y33, w33, a33, b33, _⟩ := I26.2.1 199 (Int32.toInt 4).toNat (.inl (0, 5, 9999999999)) (tq_row rfl (by decide))
                                      subst w33
                                      rw [← int_inj es26_4 ex33] at a33 b33
                                      obtain ⟨v34, ex34, y34, w34, a34, b34, _⟩ := I26.2.1 199 (Int32.toInt 5).toNat (.inl (0, 5, 9999999999)) (tq_row rfl (by decide))
                                      subst w34
                                      rw [← int_inj es26_5 ex34] at a34 b34
                                      unfold lexV at lx26
                                      show EvP _ _ _ (256, [(0, .ref 164), (1, .int x1), (2, .int y6), (3, .int v8_3), (4, .int v8_4), (5, .int y22), (6, .int v13_6), (7, .int y22), (8, .int v24_8)], [.int 1], h26) _
                                      refine te_istore (p2 := 258) (lv2 := [(6, .int 1), (0, .ref 164), (1, .int x1), (2, .int y6), (3, .int v8_3), (4, .int v8_4), (5, .int y22), (7, .int y22), (8, .int v24_8)]) rfl rfl (by decide) rfl ?_
                                      refine te_goto rfl ?_
                                      refine te_lv [(0, .ref 164), (1, .int x1), (2, .int y6), (3, .int v8_3), (4, .int v8_4), (5, .int y22), (6, .int 1)] rfl rfl ⟨rfl, rfl, rfl, rfl, rfl, rfl, rfl, trivial⟩ ?_
                                      exact ih13 y22 1 s26_0 s26_1 s26_2 s26_3 s26_4 s26_5 h26 I26 f26 (by decide) (by decide) es26_0 es26_1 es26_2 es26_3 es26_4 es26_5 (by omega) (by omega) (by omega) (by omega) (by omega) (by omega) (by omega) (by omega) (by omega) (by omega) (by omega) (by omega) pm26 (fun j => ((g26 _ _ rfl).trans (w24_0 j))) (by have cc0 := (show Int32.toInt 1 = 1 from rfl); omega)
                                  · refine te_aload_n (p2 := 222) rfl rfl rfl ?_
                                    refine tg_r (p2 := 225) (i := 148) (r := 199) rfl rfl I24 rfl rfl rfl ?_
                                    refine te_iload (p2 := 227) rfl rfl rfl ?_
                                    refine te_aload_n (p2 := 228) rfl rfl rfl ?_
                                    refine tg_r (p2 := 231) (i := 148) (r := 210) rfl rfl I24 rfl rfl rfl ?_
                                    refine te_bipush (p2 := 233) (x := 40) rfl rfl (by decide) ?_
                                    refine te_iload_n (p2 := 234) rfl rfl rfl ?_
                                    refine ar_mul (p2 := 235) rfl rfl (show Int32.toInt 40 = 40 from rfl) rfl (by omega) (by omega) (fun z35 e35 f35 => ?_)
                                    refine te_aload_n (p2 := 236) rfl rfl rfl ?_
                                    refine tg_r (p2 := 239) (i := 148) (r := 215) rfl rfl I24 rfl rfl rfl ?_
                                    refine te_iload (p2 := 241) rfl rfl rfl ?_
                                    refine tl_i (p2 := 242) (i := 199) (n := 6) rfl rfl I24 rfl rfl rfl rfl (by omega) (by omega) (fun y36 a36 b36 g36 e36 => ?_)
                                    refine ar_add (p2 := 243) rfl rfl rfl rfl (by omega) (by omega) (fun z37 e37 f37 => ?_)
                                    refine tl_i (p2 := 244) (i := 194) (n := 160) rfl rfl I24 rfl rfl rfl rfl (by omega) (by omega) (fun y38 a38 b38 g38 e38 => ?_)
                                    refine ts_i (p2 := 245) (i := 183) (n := 6) rfl rfl I24 rfl rfl rfl rfl (by omega) (by omega) (i32_lo _) (i32_hi _) (i32_ho _) rfl (fun h39 I39 u39 => ?_)
                                    have f39 := fr_st (F := F_X12_pulls) 2 f24 u39 rfl (by omega) (by omega)
                                    refine ar_inc (p2 := 248) (x := v24_8) rfl rfl (by decide) rfl (by decide) rfl (by omega) (by omega) (fun z40 e40 f40 => ?_)
                                    show EvP _ _ _ (248, [(8, .int z40), (0, .ref 164), (1, .int x1), (2, .int y6), (3, .int v8_3), (4, .int v8_4), (5, .int y22), (6, .int v13_6), (7, .int y22)], [], h39) _
                                    refine te_goto rfl ?_
                                    refine te_lv [(0, .ref 164), (1, .int x1), (2, .int y6), (3, .int v8_3), (4, .int v8_4), (5, .int y22), (6, .int v13_6), (7, .int y22), (8, .int z40)] rfl rfl ⟨rfl, rfl, rfl, rfl, rfl, rfl, rfl, rfl, rfl, trivial⟩ ?_
                                    exact ih24 z40 t24_t0 t24_t1 t24_t2 t24_t3 t24_t4 t24_t5 h39 I39 f39 (by omega) (by omega) ((u39.2 _ _ (Or.inl (by decide))).trans v24_t0) ((u39.2 _ _ (Or.inl (by decide))).trans v24_t1) ((u39.2 _ _ (Or.inl (by decide))).trans v24_t2) ((u39.2 _ _ (Or.inl (by decide))).trans v24_t3) ((u39.2 _ _ (Or.inl (by decide))).trans v24_t4) ((u39.2 _ _ (Or.inl (by decide))).trans v24_t5) (by omega) (by omega) (by omega) (by omega) (by omega) (by omega) (by omega) (by omega) (by omega) (by omega) (by omega) (by omega) (by omega) (by omega) (by omega) (by omega) (by omega) (by omega) (fun j => ((u39.2 _ _ (Or.inl (by decide))).trans (w24_0 j))) (by omega)
                              refine te_lv [(0, .ref 164), (1, .int x1), (2, .int y6), (3, .int v8_3), (4, .int v8_4), (5, .int y22), (6, .int v13_6), (7, .int y22), (8, .int 0)] rfl rfl ⟨rfl, rfl, rfl, rfl, rfl, rfl, rfl, rfl, rfl, trivial⟩ ?_
                              exact lp24 7 0 t13_t0 t13_t1 t13_t2 t13_t3 t13_t4 t13_t5 h22 I22 f22 (by decide) (by decide) ((g22 _ _ rfl).trans v13_t0) ((g22 _ _ rfl).trans v13_t1) ((g22 _ _ rfl).trans v13_t2) ((g22 _ _ rfl).trans v13_t3) ((g22 _ _ rfl).trans v13_t4) ((g22 _ _ rfl).trans v13_t5) (by omega) (by omega) (by omega) (by omega) (by omega) (by omega) (by omega) (by omega) (by omega) (by omega) (by omega) (by omega) (by have cc0 := (show Int32.toInt 0 = 0 from rfl); omega) (by have cc0 := (show Int32.toInt 0 = 0 from rfl); omega) (by have cc0 := (show Int32.toInt 0 = 0 from rfl); omega) (by have cc0 := (show Int32.toInt 0 = 0 from rfl); omega) (by have cc0 := (show Int32.toInt 0 = 0 from rfl); omega) (by have cc0 := (show Int32.toInt 0 = 0 from rfl); omega) (fun j => ((Q22 j).trans (w13_1 j))) (by have cc0 := (show Int32.toInt 0 = 0 from rfl); omega)
                            · refine te_iload (p2 := 203) rfl rfl rfl ?_
                              refine te_iload (p2 := 205) rfl rfl rfl ?_
                              refine tb_ge (p2 := 208) rfl rfl rfl rfl (fun c41 => ?_) (fun c41 => ?_)
                              · refine te_aload_n (p2 := 252) rfl rfl rfl ?_
                                refine te_iload_n (p2 := 253) rfl rfl rfl ?_
                                refine tc_V (p2 := 256) (i := 148) rfl rfl rfl rfl I22 rfl rfl rfl (t_X12_nextOrder (n := y6) (g0 := t13_t0) (g1 := t13_t1) (g2 := t13_t2) (g3 := t13_t3) (g4 := t13_t4) (g5 := t13_t5) I22 (by omega) (by omega) ((g22 _ _ rfl).trans v13_t0) (by omega) (by omega) ((g22 _ _ rfl).trans v13_t1) (by omega) (by omega) ((g22 _ _ rfl).trans v13_t2) (by omega) (by omega) ((g22 _ _ rfl).trans v13_t3) (by omega) (by omega) ((g22 _ _ rfl).trans v13_t4) (by omega) (by omega) ((g22 _ _ rfl).trans v13_t5) (by omega) (by omega) w13_0) (by decide) (fun v42 h42 hq42 => ?_)
                                obtain ⟨I42, g42, y42, w42, r42⟩ := hq42
                                subst w42
                                have f42 := fr_tr (F1 := [(199, 0, 5)]) (F := F_X12_pulls) f22 g42 (by decide)
                                rcases r42 with r42 | ⟨r42, s42_0, s42_1, s42_2, s42_3, s42_4, s42_5, es42_0, es42_1, es42_2, es42_3, es42_4, es42_5, pm42, lx42⟩
                                · subst r42
                                  show EvP _ _ _ (256, [(7, .int y22), (0, .ref 164), (1, .int x1), (2, .int y6), (3, .int v8_3), (4, .int v8_4), (5, .int v13_5), (6, .int v13_6)], [.int 0], h42) _
                                  refine te_istore (p2 := 258) (lv2 := [(6, .int 0), (7, .int y22), (0, .ref 164), (1, .int x1), (2, .int y6), (3, .int v8_3), (4, .int v8_4), (5, .int v13_5)]) rfl rfl (by decide) rfl ?_
                                  refine te_goto rfl ?_
                                  refine te_iload (p2 := 184) rfl rfl rfl ?_
                                  refine tz_eq (p2 := 187) rfl rfl (show Int32.toInt 0 = 0 from rfl) (fun c43 => ?_) (fun c43 => absurd c43 (by omega))
                                  refine te_aload_n (p2 := 262) rfl rfl rfl ?_
                                  refine te_iload_n (p2 := 263) rfl rfl rfl ?_
                                  refine tp_i (p2 := 266) (i := 148) rfl rfl I42 rfl rfl (by decide) rfl rfl rfl (by omega) (by omega) (by omega) rfl (fun h44 I44 u44 => ?_)
                                  have f44 := fr_st (F := F_X12_pulls) 0 f42 u44 rfl (by decide) (by decide)
                                  refine te_iload (p2 := 268) rfl rfl rfl ?_
                                  exact te_iret rfl rfl ⟨I44, f44, _, rfl, (fun j => ((u44.2 _ _ (Or.inl (by decide))).trans ((g42 _ _ rfl).trans ((Q22 j).trans (w13_1 j)))))⟩
                                · subst r42
                                  obtain ⟨v45, ex45, y45, w45, a45, b45, _⟩ := I42.2.1 199 (Int32.toInt 0).toNat (.inl (0, 5, 9999999999)) (tq_row rfl (by decide))
                                  subst w45
                                  rw [← int_inj es42_0 ex45] at a45 b45
                                  obtain ⟨v46, ex46, y46, w46, a46, b46, _⟩ := I42.2.1 199 (Int32.toInt 1).toNat (.inl (0, 5, 9999999999)) (tq_row rfl (by decide))
                                  subst w46
                                  rw [← int_inj es42_1 ex46] at a46 b46
                                  obtain ⟨v47, ex47, y47, w47, a47, b47, _⟩ := I42.2.1 199 (Int32.toInt 2).toNat (.inl (0, 5, 9999999999)) (tq_row rfl (by decide))
                                  subst w47
                                  rw [← int_inj es42_2 ex47] at a47 b47
                                  obtain ⟨v48, ex48, y48, w48, a48, b48, _⟩ := I42.2.1 199 (Int32.toInt 3).toNat (.inl (0, 5, 9999999999)) (tq_row rfl (by decide))
                                  subst w48
                                  rw [← int_inj es42_3 ex48] at a48 b48
                                  obtain ⟨v49, ex49, y49, w49, a49, b49, _⟩ := I42.2.1 199 (Int32.toInt 4).toNat (.inl (0, 5, 9999999999)) (tq_row rfl (by decide))
                                  subst w49
                                  rw [← int_inj es42_4 ex49] at a49 b49
                                  obtain ⟨v50, ex50, y50, w50, a50, b50, _⟩ := I42.2.1 199 (Int32.toInt 5).toNat (.inl (0, 5, 9999999999)) (tq_row rfl (by decide))
                                  subst w50
                                  rw [← int_inj es42_5 ex50] at a50 b50
                                  unfold lexV at lx42
                                  show EvP _ _ _ (256, [(7, .int y22), (0, .ref 164), (1, .int x1), (2, .int y6), (3, .int v8_3), (4, .int v8_4), (5, .int v13_5), (6, .int v13_6)], [.int 1], h42) _
                                  refine te_istore (p2 := 258) (lv2 := [(6, .int 1), (7, .int y22), (0, .ref 164), (1, .int x1), (2, .int y6), (3, .int v8_3), (4, .int v8_4), (5, .int v13_5)]) rfl rfl (by decide) rfl ?_
                                  refine te_goto rfl ?_
                                  refine te_lv [(0, .ref 164), (1, .int x1), (2, .int y6), (3, .int v8_3), (4, .int v8_4), (5, .int v13_5), (6, .int 1)] rfl rfl ⟨rfl, rfl, rfl, rfl, rfl, rfl, rfl, trivial⟩ ?_
                                  exact ih13 v13_5 1 s42_0 s42_1 s42_2 s42_3 s42_4 s42_5 h42 I42 f42 (by decide) (by decide) es42_0 es42_1 es42_2 es42_3 es42_4 es42_5 (by omega) (by omega) (by omega) (by omega) (by omega) (by omega) (by omega) (by omega) (by omega) (by omega) (by omega) (by omega) pm42 (fun j => ((g42 _ _ rfl).trans ((Q22 j).trans (w13_1 j)))) (by have cc0 := (show Int32.toInt 1 = 1 from rfl); omega)
                              · refine te_iload (p2 := 210) rfl rfl rfl ?_
                                refine te_istore (p2 := 212) (lv2 := [(5, .int y22), (7, .int y22), (0, .ref 164), (1, .int x1), (2, .int y6), (3, .int v8_3), (4, .int v8_4), (6, .int v13_6)]) rfl rfl (by decide) rfl ?_
                                refine te_iconst (p2 := 213) (x := 0) rfl rfl (by decide) ?_
                                refine te_istore (p2 := 215) (lv2 := [(8, .int 0), (5, .int y22), (7, .int y22), (0, .ref 164), (1, .int x1), (2, .int y6), (3, .int v8_3), (4, .int v8_4), (6, .int v13_6)]) rfl rfl (by decide) rfl ?_
                                have lp51 : ∀ (n51 : Nat) (v51_8 t51_t0 t51_t1 t51_t2 t51_t3 t51_t4 t51_t5 : Int32) (h51 : im_H), tI h51 → fr F_X12_pulls h h51 → 0 ≤ v51_8.toInt → v51_8.toInt ≤ 6 → rd h51 199 (Int32.toInt 0).toNat = some (.int t51_t0) → rd h51 199 (Int32.toInt 1).toNat = some (.int t51_t1) → rd h51 199 (Int32.toInt 2).toNat = some (.int t51_t2) → rd h51 199 (Int32.toInt 3).toNat = some (.int t51_t3) → rd h51 199 (Int32.toInt 4).toNat = some (.int t51_t4) → rd h51 199 (Int32.toInt 5).toNat = some (.int t51_t5) → 0 ≤ t51_t0.toInt → t51_t0.toInt ≤ 5 → 0 ≤ t51_t1.toInt → t51_t1.toInt ≤ 5 → 0 ≤ t51_t2.toInt → t51_t2.toInt ≤ 5 → 0 ≤ t51_t3.toInt → t51_t3.toInt ≤ 5 → 0 ≤ t51_t4.toInt → t51_t4.toInt ≤ 5 → 0 ≤ t51_t5.toInt → t51_t5.toInt ≤ 5 → t51_t0.toInt = t13_t0.toInt → t51_t1.toInt = t13_t1.toInt → t51_t2.toInt = t13_t2.toInt → t51_t3.toInt = t13_t3.toInt → t51_t4.toInt = t13_t4.toInt → t51_t5.toInt = t13_t5.toInt → (∀ j : Nat, rd h51 149 j = rd h 149 j) → 6 - v51_8.toInt < (n51 : Int) → EvP im_K0 4 mX12_pulls (215, [(0, .ref 164), (1, .int x1), (2, .int y6), (3, .int v8_3), (4, .int v8_4), (5, .int y22), (6, .int v13_6), (7, .int y22), (8, .int v51_8)], [], h51) (fun v h2 => tI h2 ∧ fr F_X12_pulls h h2 ∧ ∃ y : Int32, v = some (.int y) ∧ Q2_pulls x1 y h h2) := by
                                  intro n51
                                  induction n51 with
                                  | zero => intro v51_8 t51_t0 t51_t1 t51_t2 t51_t3 t51_t4 t51_t5 h51 I51 f51 a51_8 b51_8 v51_t0 v51_t1 v51_t2 v51_t3 v51_t4 v51_t5 va51_t0 vb51_t0 va51_t1 vb51_t1 va51_t2 vb51_t2 va51_t3 vb51_t3 va51_t4 vb51_t4 va51_t5 vb51_t5 l51_0 l51_1 l51_2 l51_3 l51_4 l51_5 w51_0 m51; exfalso; omega
                                  | succ n51 ih51 =>
                                    intro v51_8 t51_t0 t51_t1 t51_t2 t51_t3 t51_t4 t51_t5 h51 I51 f51 a51_8 b51_8 v51_t0 v51_t1 v51_t2 v51_t3 v51_t4 v51_t5 va51_t0 vb51_t0 va51_t1 vb51_t1 va51_t2 vb51_t2 va51_t3 vb51_t3 va51_t4 vb51_t4 va51_t5 vb51_t5 l51_0 l51_1 l51_2 l51_3 l51_4 l51_5 w51_0 m51
                                    refine te_iload (p2 := 217) rfl rfl rfl ?_
                                    refine te_iload_n (p2 := 218) rfl rfl rfl ?_
                                    refine tb_ge (p2 := 221) rfl rfl rfl rfl (fun c52 => ?_) (fun c52 => ?_)
                                    · refine te_aload_n (p2 := 252) rfl rfl rfl ?_
                                      refine te_iload_n (p2 := 253) rfl rfl rfl ?_
                                      refine tc_V (p2 := 256) (i := 148) rfl rfl rfl rfl I51 rfl rfl rfl (t_X12_nextOrder (n := y6) (g0 := t51_t0) (g1 := t51_t1) (g2 := t51_t2) (g3 := t51_t3) (g4 := t51_t4) (g5 := t51_t5) I51 (by omega) (by omega) v51_t0 (by omega) (by omega) v51_t1 (by omega) (by omega) v51_t2 (by omega) (by omega) v51_t3 (by omega) (by omega) v51_t4 (by omega) (by omega) v51_t5 (by omega) (by omega) (by rw [l51_0, l51_1, l51_2, l51_3, l51_4, l51_5]; exact w13_0)) (by decide) (fun v53 h53 hq53 => ?_)
                                      obtain ⟨I53, g53, y53, w53, r53⟩ := hq53
                                      subst w53
                                      have f53 := fr_tr (F1 := [(199, 0, 5)]) (F := F_X12_pulls) f51 g53 (by decide)
                                      rcases r53 with r53 | ⟨r53, s53_0, s53_1, s53_2, s53_3, s53_4, s53_5, es53_0, es53_1, es53_2, es53_3, es53_4, es53_5, pm53, lx53⟩
                                      · subst r53
                                        show EvP _ _ _ (256, [(0, .ref 164), (1, .int x1), (2, .int y6), (3, .int v8_3), (4, .int v8_4), (5, .int y22), (6, .int v13_6), (7, .int y22), (8, .int v51_8)], [.int 0], h53) _
                                        refine te_istore (p2 := 258) (lv2 := [(6, .int 0), (0, .ref 164), (1, .int x1), (2, .int y6), (3, .int v8_3), (4, .int v8_4), (5, .int y22), (7, .int y22), (8, .int v51_8)]) rfl rfl (by decide) rfl ?_
                                        refine te_goto rfl ?_
                                        refine te_iload (p2 := 184) rfl rfl rfl ?_
                                        refine tz_eq (p2 := 187) rfl rfl (show Int32.toInt 0 = 0 from rfl) (fun c54 => ?_) (fun c54 => absurd c54 (by omega))
                                        refine te_aload_n (p2 := 262) rfl rfl rfl ?_
                                        refine te_iload_n (p2 := 263) rfl rfl rfl ?_
                                        refine tp_i (p2 := 266) (i := 148) rfl rfl I53 rfl rfl (by decide) rfl rfl rfl (by omega) (by omega) (by omega) rfl (fun h55 I55 u55 => ?_)
                                        have f55 := fr_st (F := F_X12_pulls) 0 f53 u55 rfl (by decide) (by decide)
                                        refine te_iload (p2 := 268) rfl rfl rfl ?_
                                        exact te_iret rfl rfl ⟨I55, f55, _, rfl, (fun j => ((u55.2 _ _ (Or.inl (by decide))).trans ((g53 _ _ rfl).trans (w51_0 j))))⟩
                                      · subst r53
                                        obtain ⟨v56, ex56, y56, w56, a56, b56, _⟩ := I53.2.1 199 (Int32.toInt 0).toNat (.inl (0, 5, 9999999999)) (tq_row rfl (by decide))
                                        subst w56
                                        rw [← int_inj es53_0 ex56] at a56 b56
                                        obtain ⟨v57, ex57, y57, w57, a57, b57, _⟩ := I53.2.1 199 (Int32.toInt 1).toNat (.inl (0, 5, 9999999999)) (tq_row rfl (by decide))
                                        subst w57
                                        rw [← int_inj es53_1 ex57] at a57 b57
                                        obtain ⟨v58, ex58, y58, w58, a58, b58, _⟩ := I53.2.1 199 (Int32.toInt 2).toNat (.inl (0, 5, 9999999999)) (tq_row rfl (by decide))
                                        subst w58
                                        rw [← int_inj es53_2 ex58] at a58 b58
                                        obtain ⟨v59, ex59, y59, w59, a59, b59, _⟩ := I53.2.1 199 (Int32.toInt 3).toNat (.inl (0, 5, 9999999999)) (tq_row rfl (by decide))
                                        subst w59
                                        rw [← int_inj es53_3 ex59] at a59 b59
                                        obtain ⟨v60, ex60, y60, w60, a60, b60, _⟩ := I53.2.1 199 (Int32.toInt 4).toNat (.inl (0, 5, 9999999999)) (tq_row rfl (by decide))
                                        subst w60
                                        rw [← int_inj es53_4 ex60] at a60 b60
                                        obtain ⟨v61, ex61, y61, w61, a61, b61, _⟩ := I53.2.1 199 (Int32.toInt 5).toNat (.inl (0, 5, 9999999999)) (tq_row rfl (by decide))
                                        subst w61
                                        rw [← int_inj es53_5 ex61] at a61 b61
                                        unfold lexV at lx53
                                        show EvP _ _ _ (256, [(0, .ref 164), (1, .int x1), (2, .int y6), (3, .int v8_3), (4, .int v8_4), (5, .int y22), (6, .int v13_6), (7, .int y22), (8, .int v51_8)], [.int 1], h53) _
                                        refine te_istore (p2 := 258) (lv2 := [(6, .int 1), (0, .ref 164), (1, .int x1), (2, .int y6), (3, .int v8_3), (4, .int v8_4), (5, .int y22), (7, .int y22), (8, .int v51_8)]) rfl rfl (by decide) rfl ?_
                                        refine te_goto rfl ?_
                                        refine te_lv [(0, .ref 164), (1, .int x1), (2, .int y6), (3, .int v8_3), (4, .int v8_4), (5, .int y22), (6, .int 1)] rfl rfl ⟨rfl, rfl, rfl, rfl, rfl, rfl, rfl, trivial⟩ ?_
                                        exact ih13 y22 1 s53_0 s53_1 s53_2 s53_3 s53_4 s53_5 h53 I53 f53 (by decide) (by decide) es53_0 es53_1 es53_2 es53_3 es53_4 es53_5 (by omega) (by omega) (by omega) (by omega) (by omega) (by omega) (by omega) (by omega) (by omega) (by omega) (by omega) (by omega) pm53 (fun j => ((g53 _ _ rfl).trans (w51_0 j))) (by have cc0 := (show Int32.toInt 1 = 1 from rfl); omega)
                                    · refine te_aload_n (p2 := 222) rfl rfl rfl ?_
                                      refine tg_r (p2 := 225) (i := 148) (r := 199) rfl rfl I51 rfl rfl rfl ?_
                                      refine te_iload (p2 := 227) rfl rfl rfl ?_
                                      refine te_aload_n (p2 := 228) rfl rfl rfl ?_
                                      refine tg_r (p2 := 231) (i := 148) (r := 210) rfl rfl I51 rfl rfl rfl ?_
                                      refine te_bipush (p2 := 233) (x := 40) rfl rfl (by decide) ?_
                                      refine te_iload_n (p2 := 234) rfl rfl rfl ?_
                                      refine ar_mul (p2 := 235) rfl rfl (show Int32.toInt 40 = 40 from rfl) rfl (by omega) (by omega) (fun z62 e62 f62 => ?_)
                                      refine te_aload_n (p2 := 236) rfl rfl rfl ?_
                                      refine tg_r (p2 := 239) (i := 148) (r := 215) rfl rfl I51 rfl rfl rfl ?_
                                      refine te_iload (p2 := 241) rfl rfl rfl ?_
                                      refine tl_i (p2 := 242) (i := 199) (n := 6) rfl rfl I51 rfl rfl rfl rfl (by omega) (by omega) (fun y63 a63 b63 g63 e63 => ?_)
                                      refine ar_add (p2 := 243) rfl rfl rfl rfl (by omega) (by omega) (fun z64 e64 f64 => ?_)
                                      refine tl_i (p2 := 244) (i := 194) (n := 160) rfl rfl I51 rfl rfl rfl rfl (by omega) (by omega) (fun y65 a65 b65 g65 e65 => ?_)
                                      refine ts_i (p2 := 245) (i := 183) (n := 6) rfl rfl I51 rfl rfl rfl rfl (by omega) (by omega) (i32_lo _) (i32_hi _) (i32_ho _) rfl (fun h66 I66 u66 => ?_)
                                      have f66 := fr_st (F := F_X12_pulls) 2 f51 u66 rfl (by omega) (by omega)
                                      refine ar_inc (p2 := 248) (x := v51_8) rfl rfl (by decide) rfl (by decide) rfl (by omega) (by omega) (fun z67 e67 f67 => ?_)
                                      show EvP _ _ _ (248, [(8, .int z67), (0, .ref 164), (1, .int x1), (2, .int y6), (3, .int v8_3), (4, .int v8_4), (5, .int y22), (6, .int v13_6), (7, .int y22)], [], h66) _
                                      refine te_goto rfl ?_
                                      refine te_lv [(0, .ref 164), (1, .int x1), (2, .int y6), (3, .int v8_3), (4, .int v8_4), (5, .int y22), (6, .int v13_6), (7, .int y22), (8, .int z67)] rfl rfl ⟨rfl, rfl, rfl, rfl, rfl, rfl, rfl, rfl, rfl, trivial⟩ ?_
                                      exact ih51 z67 t51_t0 t51_t1 t51_t2 t51_t3 t51_t4 t51_t5 h66 I66 f66 (by omega) (by omega) ((u66.2 _ _ (Or.inl (by decide))).trans v51_t0) ((u66.2 _ _ (Or.inl (by decide))).trans v51_t1) ((u66.2 _ _ (Or.inl (by decide))).trans v51_t2) ((u66.2 _ _ (Or.inl (by decide))).trans v51_t3) ((u66.2 _ _ (Or.inl (by decide))).trans v51_t4) ((u66.2 _ _ (Or.inl (by decide))).trans v51_t5) (by omega) (by omega) (by omega) (by omega) (by omega) (by omega) (by omega) (by omega) (by omega) (by omega) (by omega) (by omega) (by omega) (by omega) (by omega) (by omega) (by omega) (by omega) (fun j => ((u66.2 _ _ (Or.inl (by decide))).trans (w51_0 j))) (by omega)
                                refine te_lv [(0, .ref 164), (1, .int x1), (2, .int y6), (3, .int v8_3), (4, .int v8_4), (5, .int y22), (6, .int v13_6), (7, .int y22), (8, .int 0)] rfl rfl ⟨rfl, rfl, rfl, rfl, rfl, rfl, rfl, rfl, rfl, trivial⟩ ?_
                                exact lp51 7 0 t13_t0 t13_t1 t13_t2 t13_t3 t13_t4 t13_t5 h22 I22 f22 (by decide) (by decide) ((g22 _ _ rfl).trans v13_t0) ((g22 _ _ rfl).trans v13_t1) ((g22 _ _ rfl).trans v13_t2) ((g22 _ _ rfl).trans v13_t3) ((g22 _ _ rfl).trans v13_t4) ((g22 _ _ rfl).trans v13_t5) (by omega) (by omega) (by omega) (by omega) (by omega) (by omega) (by omega) (by omega) (by omega) (by omega) (by omega) (by omega) (by have cc0 := (show Int32.toInt 0 = 0 from rfl); omega) (by have cc0 := (show Int32.toInt 0 = 0 from rfl); omega) (by have cc0 := (show Int32.toInt 0 = 0 from rfl); omega) (by have cc0 := (show Int32.toInt 0 = 0 from rfl); omega) (by have cc0 := (show Int32.toInt 0 = 0 from rfl); omega) (by have cc0 := (show Int32.toInt 0 = 0 from rfl); omega) (fun j => ((Q22 j).trans (w13_1 j))) (by have cc0 := (show Int32.toInt 0 = 0 from rfl); omega)
                      refine te_lv [(0, .ref 164), (1, .int x1), (2, .int y6), (3, .int v8_3), (4, .int v8_4), (5, .int (-1)), (6, .int 1)] rfl rfl ⟨rfl, rfl, rfl, rfl, rfl, rfl, rfl, trivial⟩ ?_
                      exact lp13 46657 (-1) 1 y14 y15 y16 y17 y18 y19 h11 I11 f11 (by decide) (by decide) e14 e15 e16 e17 e18 e19 (by omega) (by omega) (by omega) (by omega) (by omega) (by omega) (by omega) (by omega) (by omega) (by omega) (by omega) (by omega) (by (have hk0 : (0 : Int) < y6.toInt → y14.toInt = 0 := fun hl => (by (obtain ⟨p, ep, fp⟩ := w11_0 0 (by omega)); rw [int_inj e14 (show rd _ 199 (Int32.toInt 0).toNat = some (.int p) from ep)]; exact fp); have hk1 : (1 : Int) < y6.toInt → y15.toInt = 1 := fun hl => (by (obtain ⟨p, ep, fp⟩ := w11_0 1 (by omega)); rw [int_inj e15 (show rd _ 199 (Int32.toInt 1).toNat = some (.int p) from ep)]; exact fp); have hk2 : (2 : Int) < y6.toInt → y16.toInt = 2 := fun hl => (by (obtain ⟨p, ep, fp⟩ := w11_0 2 (by omega)); rw [int_inj e16 (show rd _ 199 (Int32.toInt 2).toNat = some (.int p) from ep)]; exact fp); have hk3 : (3 : Int) < y6.toInt → y17.toInt = 3 := fun hl => (by (obtain ⟨p, ep, fp⟩ := w11_0 3 (by omega)); rw [int_inj e17 (show rd _ 199 (Int32.toInt 3).toNat = some (.int p) from ep)]; exact fp); have hk4 : (4 : Int) < y6.toInt → y18.toInt = 4 := fun hl => (by (obtain ⟨p, ep, fp⟩ := w11_0 4 (by omega)); rw [int_inj e18 (show rd _ 199 (Int32.toInt 4).toNat = some (.int p) from ep)]; exact fp); have hk5 : (5 : Int) < y6.toInt → y19.toInt = 5 := fun hl => (by (obtain ⟨p, ep, fp⟩ := w11_0 5 (by omega)); rw [int_inj e19 (show rd _ 199 (Int32.toInt 5).toNat = some (.int p) from ep)]; exact fp); unfold prm; omega)) (fun j => (w11_1 j)) (by have cc0 := (show Int32.toInt (-1) = (-1) from rfl); have cc1 := (show Int32.toInt 1 = 1 from rfl); omega)
                    · refine te_aload_n (p2 := 162) rfl rfl rfl ?_
                      refine tg_r (p2 := 165) (i := 148) (r := 215) rfl rfl I11 rfl rfl rfl ?_
                      refine te_iload (p2 := 167) rfl rfl rfl ?_
                      refine te_iload (p2 := 169) rfl rfl rfl ?_
                      refine ts_i (p2 := 170) (i := 199) (n := 6) rfl rfl I11 rfl rfl rfl rfl (by omega) (by omega) (by omega) (by omega) (by omega) rfl (fun h68 I68 u68 => ?_)
                      have f68 := fr_st (F := F_X12_pulls) 5 f11 u68 rfl (by omega) (by omega)
                      refine ar_inc (p2 := 173) (x := v11_5) rfl rfl (by decide) rfl (by decide) rfl (by omega) (by omega) (fun z69 e69 f69 => ?_)
                      show EvP _ _ _ (173, [(5, .int z69), (0, .ref 164), (1, .int x1), (2, .int y6), (3, .int v8_3), (4, .int v8_4)], [], h68) _
                      refine te_goto rfl ?_
                      refine te_lv [(0, .ref 164), (1, .int x1), (2, .int y6), (3, .int v8_3), (4, .int v8_4), (5, .int z69)] rfl rfl ⟨rfl, rfl, rfl, rfl, rfl, rfl, trivial⟩ ?_
                      exact ih11 z69 h68 I68 f68 (by omega) (by omega) (by omega) (fun q hq => by (by_cases hqk : q = v11_5.toInt.toNat; exact ⟨v11_5, by rw [hqk]; exact u68.1, by omega⟩; obtain ⟨p, ep, fp⟩ := w11_0 q (by omega); exact ⟨p, (u68.2 _ _ (Or.inr (by omega))).trans ep, fp⟩)) (fun j => ((u68.2 _ _ (Or.inl (by decide))).trans (w11_1 j))) (by omega)
                refine te_lv [(0, .ref 164), (1, .int x1), (2, .int y6), (3, .int v8_3), (4, .int v8_4), (5, .int 0)] rfl rfl ⟨rfl, rfl, rfl, rfl, rfl, rfl, trivial⟩ ?_
                exact lp11 7 0 h hI f0 (by decide) (by decide) (by have cc0 := (show Int32.toInt 0 = 0 from rfl); omega) (fun q hq => absurd hq (by rw [show Int32.toInt 0 = 0 from rfl]; omega)) (fun j => rfl) (by have cc0 := (show Int32.toInt 0 = 0 from rfl); omega)
              · refine te_bipush (p2 := 151) (x := (-2)) rfl rfl (by decide) ?_
                exact te_iret rfl rfl ⟨hI, f0, _, rfl, (fun j => rfl)⟩
            · refine te_iload (p2 := 53) rfl rfl rfl ?_
              refine tz_eq (p2 := 56) rfl rfl rfl (fun c70 => ?_) (fun c70 => ?_)
              · refine te_iload (p2 := 146) rfl rfl rfl ?_
                refine tz_ne (p2 := 149) rfl rfl rfl (fun c71 => absurd c71 (by omega)) (fun c71 => ?_)
                refine te_bipush (p2 := 151) (x := (-2)) rfl rfl (by decide) ?_
                exact te_iret rfl rfl ⟨hI, f0, _, rfl, (fun j => rfl)⟩
              · refine te_aload_n (p2 := 57) rfl rfl rfl ?_
                refine tg_r (p2 := 60) (i := 148) (r := 210) rfl rfl hI rfl rfl rfl ?_
                refine te_bipush (p2 := 62) (x := 40) rfl rfl (by decide) ?_
                refine te_iload_n (p2 := 63) rfl rfl rfl ?_
                refine ar_mul (p2 := 64) rfl rfl (show Int32.toInt 40 = 40 from rfl) rfl (by omega) (by omega) (fun z72 e72 f72 => ?_)
                refine te_iload (p2 := 66) rfl rfl rfl ?_
                refine ar_add (p2 := 67) rfl rfl rfl rfl (by omega) (by omega) (fun z73 e73 f73 => ?_)
                refine tl_i (p2 := 68) (i := 194) (n := 160) rfl rfl hI rfl rfl rfl rfl (by omega) (by omega) (fun y74 a74 b74 g74 e74 => ?_)
                refine te_istore (p2 := 70) (lv2 := [(6, .int y74), (0, .ref 164), (1, .int x1), (2, .int y6), (3, .int v8_3), (4, .int v8_4), (5, .int v8_5)]) rfl rfl (by decide) rfl ?_
                refine te_aload_n (p2 := 71) rfl rfl rfl ?_
                refine te_iload (p2 := 73) rfl rfl rfl ?_
                refine cV_pI (p2 := 76) (i := 148) rfl rfl rfl rfl hI rfl rfl rfl (t_X12_isWall (k := y74) hI) (by decide) (fun y75 r75 => ?_)
                obtain ⟨p75, e75, a75, b75, r75⟩ := r75
                have w75 : p75 = y1 := Value.int.inj (Option.some.inj (e75.symm.trans e1))
                rw [w75] at r75
                rcases r75 with ⟨w75, c75⟩ | ⟨w75, c75⟩
                · subst w75
                  refine tz_eq (p2 := 79) rfl rfl (show Int32.toInt 1 = 1 from rfl) (fun c76 => absurd c76 (by omega)) (fun c76 => ?_)
                  refine te_aload_n (p2 := 80) rfl rfl rfl ?_
                  refine tg_r (p2 := 83) (i := 148) (r := 165) rfl rfl hI rfl rfl rfl ?_
                  refine te_bipush (p2 := 85) (x := 108) rfl rfl (by decide) ?_
                  refine te_aload_n (p2 := 86) rfl rfl rfl ?_
                  refine te_iload (p2 := 88) rfl rfl rfl ?_
                  refine cV_pI (p2 := 91) (i := 148) rfl rfl rfl rfl hI rfl rfl rfl (t_X12_isWall (k := y74) hI) (by decide) (fun y77 r77 => ?_)
                  obtain ⟨p77, e77, a77, b77, r77⟩ := r77
                  have w77 : p77 = y1 := Value.int.inj (Option.some.inj (e77.symm.trans e1))
                  rw [w77] at r77
                  rcases r77 with ⟨w77, c77⟩ | ⟨w77, c77⟩
                  · subst w77
                    refine tz_eq (p2 := 94) rfl rfl (show Int32.toInt 1 = 1 from rfl) (fun c78 => absurd c78 (by omega)) (fun c78 => ?_)
                    refine te_iload (p2 := 96) rfl rfl rfl ?_
                    refine te_goto rfl ?_
                    refine ar_add (p2 := 101) rfl rfl (show Int32.toInt 108 = 108 from rfl) rfl (by omega) (by omega) (fun z79 e79 f79 => ?_)
                    refine tl_i (p2 := 102) (i := 149) (n := 283) rfl rfl hI rfl rfl rfl rfl (by omega) (by omega) (fun y80 a80 b80 g80 e80 => ?_)
                    refine te_iconst (p2 := 103) (x := 1) rfl rfl (by decide) ?_
                    refine tb_ne (p2 := 106) rfl rfl rfl (show Int32.toInt 1 = 1 from rfl) (fun c81 => ?_) (fun c81 => ?_)
                    · refine te_iconst (p2 := 120) (x := 0) rfl rfl (by decide) ?_
                      refine te_istore (p2 := 122) (lv2 := [(4, .int 0), (6, .int y74), (0, .ref 164), (1, .int x1), (2, .int y6), (3, .int v8_3), (5, .int v8_5)]) rfl rfl (by decide) rfl ?_
                      refine te_iload_n (p2 := 123) rfl rfl rfl ?_
                      refine te_iload (p2 := 125) rfl rfl rfl ?_
                      refine tz_eq (p2 := 128) rfl rfl (show Int32.toInt 0 = 0 from rfl) (fun c82 => ?_) (fun c82 => absurd c82 (by omega))
                      refine te_iconst (p2 := 136) (x := 0) rfl rfl (by decide) ?_
                      refine te_ior (p2 := 137) (z := v8_3) rfl rfl (Int32.or_zero) ?_
                      refine te_istore_n (p2 := 138) (lv2 := [(3, .int v8_3), (4, .int 0), (6, .int y74), (0, .ref 164), (1, .int x1), (2, .int y6), (5, .int v8_5)]) rfl rfl (by decide) rfl ?_
                      refine ar_inc (p2 := 141) (x := v8_5) rfl rfl (by decide) rfl (by decide) rfl (by omega) (by omega) (fun z84 e84 f84 => ?_)
                      show EvP _ _ _ (141, [(5, .int z84), (3, .int v8_3), (4, .int 0), (6, .int y74), (0, .ref 164), (1, .int x1), (2, .int y6)], [], h) _
                      refine te_goto rfl ?_
                      refine te_lv [(0, .ref 164), (1, .int x1), (2, .int y6), (3, .int v8_3), (4, .int 0), (5, .int z84)] rfl rfl ⟨rfl, rfl, rfl, rfl, rfl, rfl, trivial⟩ ?_
                      exact ih8 v8_3 0 z84 (by decide) (by decide) (by omega) (by omega) (fun e => absurd e (by decide)) (fun e => absurd e (by decide)) (by have cc0 := (show Int32.toInt 0 = 0 from rfl); omega)
                    · refine te_iload_n (p2 := 107) rfl rfl rfl ?_
                      refine te_iload (p2 := 109) rfl rfl rfl ?_
                      refine au_shr (p2 := 110) rfl rfl (fun z85 e85 => ?_)
                      refine te_iconst (p2 := 111) (x := 1) rfl rfl (by decide) ?_
                      refine au_and (p2 := 112) rfl rfl (fun z86 e86 => ?_)
                      refine tz_ne (p2 := 115) rfl rfl rfl (fun c87 => ?_) (fun c87 => ?_)
                      · refine te_iconst (p2 := 120) (x := 0) rfl rfl (by decide) ?_
                        refine te_istore (p2 := 122) (lv2 := [(4, .int 0), (6, .int y74), (0, .ref 164), (1, .int x1), (2, .int y6), (3, .int v8_3), (5, .int v8_5)]) rfl rfl (by decide) rfl ?_
                        refine te_iload_n (p2 := 123) rfl rfl rfl ?_
                        refine te_iload (p2 := 125) rfl rfl rfl ?_
                        refine tz_eq (p2 := 128) rfl rfl (show Int32.toInt 0 = 0 from rfl) (fun c88 => ?_) (fun c88 => absurd c88 (by omega))
                        refine te_iconst (p2 := 136) (x := 0) rfl rfl (by decide) ?_
                        refine te_ior (p2 := 137) (z := v8_3) rfl rfl (Int32.or_zero) ?_
                        refine te_istore_n (p2 := 138) (lv2 := [(3, .int v8_3), (4, .int 0), (6, .int y74), (0, .ref 164), (1, .int x1), (2, .int y6), (5, .int v8_5)]) rfl rfl (by decide) rfl ?_
                        refine ar_inc (p2 := 141) (x := v8_5) rfl rfl (by decide) rfl (by decide) rfl (by omega) (by omega) (fun z90 e90 f90 => ?_)
                        show EvP _ _ _ (141, [(5, .int z90), (3, .int v8_3), (4, .int 0), (6, .int y74), (0, .ref 164), (1, .int x1), (2, .int y6)], [], h) _
                        refine te_goto rfl ?_
                        refine te_lv [(0, .ref 164), (1, .int x1), (2, .int y6), (3, .int v8_3), (4, .int 0), (5, .int z90)] rfl rfl ⟨rfl, rfl, rfl, rfl, rfl, rfl, trivial⟩ ?_
                        exact ih8 v8_3 0 z90 (by decide) (by decide) (by omega) (by omega) (fun e => absurd e (by decide)) (fun e => absurd e (by decide)) (by have cc0 := (show Int32.toInt 0 = 0 from rfl); omega)
                      · refine te_iconst (p2 := 116) (x := 1) rfl rfl (by decide) ?_
                        refine te_goto rfl ?_
                        refine te_istore (p2 := 122) (lv2 := [(4, .int 1), (6, .int y74), (0, .ref 164), (1, .int x1), (2, .int y6), (3, .int v8_3), (5, .int v8_5)]) rfl rfl (by decide) rfl ?_
                        refine te_iload_n (p2 := 123) rfl rfl rfl ?_
                        refine te_iload (p2 := 125) rfl rfl rfl ?_
                        refine tz_eq (p2 := 128) rfl rfl (show Int32.toInt 1 = 1 from rfl) (fun c91 => absurd c91 (by omega)) (fun c91 => ?_)
                        refine te_iconst (p2 := 129) (x := 1) rfl rfl (by decide) ?_
                        refine te_iload (p2 := 131) rfl rfl rfl ?_
                        refine au_shl (p2 := 132) rfl rfl (fun z92 e92 => ?_)
                        refine te_goto rfl ?_
                        refine au_or (p2 := 137) rfl rfl (fun z93 e93 => ?_)
                        refine te_istore_n (p2 := 138) (lv2 := [(3, .int z93), (4, .int 1), (6, .int y74), (0, .ref 164), (1, .int x1), (2, .int y6), (5, .int v8_5)]) rfl rfl (by decide) rfl ?_
                        refine ar_inc (p2 := 141) (x := v8_5) rfl rfl (by decide) rfl (by decide) rfl (by omega) (by omega) (fun z94 e94 f94 => ?_)
                        show EvP _ _ _ (141, [(5, .int z94), (3, .int z93), (4, .int 1), (6, .int y74), (0, .ref 164), (1, .int x1), (2, .int y6)], [], h) _
                        refine te_goto rfl ?_
                        refine te_lv [(0, .ref 164), (1, .int x1), (2, .int y6), (3, .int z93), (4, .int 1), (5, .int z94)] rfl rfl ⟨rfl, rfl, rfl, rfl, rfl, rfl, trivial⟩ ?_
                        exact ih8 z93 1 z94 (by decide) (by decide) (by omega) (by omega) (fun _ => allB_s (k := v8_5.toInt.toNat) (w8_0 (by omega)) (by omega) f94 (by rw [show 40 * x1.toInt.toNat + v8_5.toInt.toNat = z73.toInt.toNat by omega]; exact e74) (by omega) (by omega)) (fun _ => allB_s (k := v8_5.toInt.toNat) (w8_1 (by omega)) (by omega) f94 (by rw [show 40 * x1.toInt.toNat + v8_5.toInt.toNat = z73.toInt.toNat by omega]; exact e74) (by omega) (by omega)) (by have cc0 := (show Int32.toInt 1 = 1 from rfl); omega)
                  · subst w77
                    refine tz_eq (p2 := 94) rfl rfl (show Int32.toInt 0 = 0 from rfl) (fun c95 => ?_) (fun c95 => absurd c95 (by omega))
                    refine te_iconst (p2 := 100) (x := 0) rfl rfl (by decide) ?_
                    refine te_iadd (p2 := 101) (z := 108) rfl rfl (by decide) ?_
                    refine tl_i (p2 := 102) (i := 149) (n := 283) rfl rfl hI rfl rfl rfl rfl (by decide) (by decide) (fun y97 a97 b97 g97 e97 => ?_)
                    refine te_iconst (p2 := 103) (x := 1) rfl rfl (by decide) ?_
                    refine tb_ne (p2 := 106) rfl rfl rfl (show Int32.toInt 1 = 1 from rfl) (fun c98 => ?_) (fun c98 => ?_)
                    · refine te_iconst (p2 := 120) (x := 0) rfl rfl (by decide) ?_
                      refine te_istore (p2 := 122) (lv2 := [(4, .int 0), (6, .int y74), (0, .ref 164), (1, .int x1), (2, .int y6), (3, .int v8_3), (5, .int v8_5)]) rfl rfl (by decide) rfl ?_
                      refine te_iload_n (p2 := 123) rfl rfl rfl ?_
                      refine te_iload (p2 := 125) rfl rfl rfl ?_
                      refine tz_eq (p2 := 128) rfl rfl (show Int32.toInt 0 = 0 from rfl) (fun c99 => ?_) (fun c99 => absurd c99 (by omega))
                      refine te_iconst (p2 := 136) (x := 0) rfl rfl (by decide) ?_
                      refine te_ior (p2 := 137) (z := v8_3) rfl rfl (Int32.or_zero) ?_
                      refine te_istore_n (p2 := 138) (lv2 := [(3, .int v8_3), (4, .int 0), (6, .int y74), (0, .ref 164), (1, .int x1), (2, .int y6), (5, .int v8_5)]) rfl rfl (by decide) rfl ?_
                      refine ar_inc (p2 := 141) (x := v8_5) rfl rfl (by decide) rfl (by decide) rfl (by omega) (by omega) (fun z101 e101 f101 => ?_)
                      show EvP _ _ _ (141, [(5, .int z101), (3, .int v8_3), (4, .int 0), (6, .int y74), (0, .ref 164), (1, .int x1), (2, .int y6)], [], h) _
                      refine te_goto rfl ?_
                      refine te_lv [(0, .ref 164), (1, .int x1), (2, .int y6), (3, .int v8_3), (4, .int 0), (5, .int z101)] rfl rfl ⟨rfl, rfl, rfl, rfl, rfl, rfl, trivial⟩ ?_
                      exact ih8 v8_3 0 z101 (by decide) (by decide) (by omega) (by omega) (fun e => absurd e (by decide)) (fun e => absurd e (by decide)) (by have cc0 := (show Int32.toInt 0 = 0 from rfl); omega)
                    · refine te_iload_n (p2 := 107) rfl rfl rfl ?_
                      refine te_iload (p2 := 109) rfl rfl rfl ?_
                      refine au_shr (p2 := 110) rfl rfl (fun z102 e102 => ?_)
                      refine te_iconst (p2 := 111) (x := 1) rfl rfl (by decide) ?_
                      refine au_and (p2 := 112) rfl rfl (fun z103 e103 => ?_)
                      refine tz_ne (p2 := 115) rfl rfl rfl (fun c104 => ?_) (fun c104 => ?_)
                      · refine te_iconst (p2 := 120) (x := 0) rfl rfl (by decide) ?_
                        refine te_istore (p2 := 122) (lv2 := [(4, .int 0), (6, .int y74), (0, .ref 164), (1, .int x1), (2, .int y6), (3, .int v8_3), (5, .int v8_5)]) rfl rfl (by decide) rfl ?_
                        refine te_iload_n (p2 := 123) rfl rfl rfl ?_
                        refine te_iload (p2 := 125) rfl rfl rfl ?_
                        refine tz_eq (p2 := 128) rfl rfl (show Int32.toInt 0 = 0 from rfl) (fun c105 => ?_) (fun c105 => absurd c105 (by omega))
                        refine te_iconst (p2 := 136) (x := 0) rfl rfl (by decide) ?_
                        refine te_ior (p2 := 137) (z := v8_3) rfl rfl (Int32.or_zero) ?_
                        refine te_istore_n (p2 := 138) (lv2 := [(3, .int v8_3), (4, .int 0), (6, .int y74), (0, .ref 164), (1, .int x1), (2, .int y6), (5, .int v8_5)]) rfl rfl (by decide) rfl ?_
                        refine ar_inc (p2 := 141) (x := v8_5) rfl rfl (by decide) rfl (by decide) rfl (by omega) (by omega) (fun z107 e107 f107 => ?_)
                        show EvP _ _ _ (141, [(5, .int z107), (3, .int v8_3), (4, .int 0), (6, .int y74), (0, .ref 164), (1, .int x1), (2, .int y6)], [], h) _
                        refine te_goto rfl ?_
                        refine te_lv [(0, .ref 164), (1, .int x1), (2, .int y6), (3, .int v8_3), (4, .int 0), (5, .int z107)] rfl rfl ⟨rfl, rfl, rfl, rfl, rfl, rfl, trivial⟩ ?_
                        exact ih8 v8_3 0 z107 (by decide) (by decide) (by omega) (by omega) (fun e => absurd e (by decide)) (fun e => absurd e (by decide)) (by have cc0 := (show Int32.toInt 0 = 0 from rfl); omega)
                      · refine te_iconst (p2 := 116) (x := 1) rfl rfl (by decide) ?_
                        refine te_goto rfl ?_
                        refine te_istore (p2 := 122) (lv2 := [(4, .int 1), (6, .int y74), (0, .ref 164), (1, .int x1), (2, .int y6), (3, .int v8_3), (5, .int v8_5)]) rfl rfl (by decide) rfl ?_
                        refine te_iload_n (p2 := 123) rfl rfl rfl ?_
                        refine te_iload (p2 := 125) rfl rfl rfl ?_
                        refine tz_eq (p2 := 128) rfl rfl (show Int32.toInt 1 = 1 from rfl) (fun c108 => absurd c108 (by omega)) (fun c108 => ?_)
                        refine te_iconst (p2 := 129) (x := 1) rfl rfl (by decide) ?_
                        refine te_iload (p2 := 131) rfl rfl rfl ?_
                        refine au_shl (p2 := 132) rfl rfl (fun z109 e109 => ?_)
                        refine te_goto rfl ?_
                        refine au_or (p2 := 137) rfl rfl (fun z110 e110 => ?_)
                        refine te_istore_n (p2 := 138) (lv2 := [(3, .int z110), (4, .int 1), (6, .int y74), (0, .ref 164), (1, .int x1), (2, .int y6), (5, .int v8_5)]) rfl rfl (by decide) rfl ?_
                        refine ar_inc (p2 := 141) (x := v8_5) rfl rfl (by decide) rfl (by decide) rfl (by omega) (by omega) (fun z111 e111 f111 => ?_)
                        show EvP _ _ _ (141, [(5, .int z111), (3, .int z110), (4, .int 1), (6, .int y74), (0, .ref 164), (1, .int x1), (2, .int y6)], [], h) _
                        refine te_goto rfl ?_
                        refine te_lv [(0, .ref 164), (1, .int x1), (2, .int y6), (3, .int z110), (4, .int 1), (5, .int z111)] rfl rfl ⟨rfl, rfl, rfl, rfl, rfl, rfl, trivial⟩ ?_
                        exact ih8 z110 1 z111 (by decide) (by decide) (by omega) (by omega) (fun _ => allB_s (k := v8_5.toInt.toNat) (w8_0 (by omega)) (by omega) f111 (by rw [show 40 * x1.toInt.toNat + v8_5.toInt.toNat = z73.toInt.toNat by omega]; exact e74) (by omega) (by omega)) (fun _ => allB_s (k := v8_5.toInt.toNat) (w8_1 (by omega)) (by omega) f111 (by rw [show 40 * x1.toInt.toNat + v8_5.toInt.toNat = z73.toInt.toNat by omega]; exact e74) (by omega) (by omega)) (by have cc0 := (show Int32.toInt 1 = 1 from rfl); omega)
                · subst w75
                  refine tz_eq (p2 := 79) rfl rfl (show Int32.toInt 0 = 0 from rfl) (fun c112 => ?_) (fun c112 => absurd c112 (by omega))
                  refine te_iconst (p2 := 120) (x := 0) rfl rfl (by decide) ?_
                  refine te_istore (p2 := 122) (lv2 := [(4, .int 0), (6, .int y74), (0, .ref 164), (1, .int x1), (2, .int y6), (3, .int v8_3), (5, .int v8_5)]) rfl rfl (by decide) rfl ?_
                  refine te_iload_n (p2 := 123) rfl rfl rfl ?_
                  refine te_iload (p2 := 125) rfl rfl rfl ?_
                  refine tz_eq (p2 := 128) rfl rfl (show Int32.toInt 0 = 0 from rfl) (fun c113 => ?_) (fun c113 => absurd c113 (by omega))
                  refine te_iconst (p2 := 136) (x := 0) rfl rfl (by decide) ?_
                  refine te_ior (p2 := 137) (z := v8_3) rfl rfl (Int32.or_zero) ?_
                  refine te_istore_n (p2 := 138) (lv2 := [(3, .int v8_3), (4, .int 0), (6, .int y74), (0, .ref 164), (1, .int x1), (2, .int y6), (5, .int v8_5)]) rfl rfl (by decide) rfl ?_
                  refine ar_inc (p2 := 141) (x := v8_5) rfl rfl (by decide) rfl (by decide) rfl (by omega) (by omega) (fun z115 e115 f115 => ?_)
                  show EvP _ _ _ (141, [(5, .int z115), (3, .int v8_3), (4, .int 0), (6, .int y74), (0, .ref 164), (1, .int x1), (2, .int y6)], [], h) _
                  refine te_goto rfl ?_
                  refine te_lv [(0, .ref 164), (1, .int x1), (2, .int y6), (3, .int v8_3), (4, .int 0), (5, .int z115)] rfl rfl ⟨rfl, rfl, rfl, rfl, rfl, rfl, trivial⟩ ?_
                  exact ih8 v8_3 0 z115 (by decide) (by decide) (by omega) (by omega) (fun e => absurd e (by decide)) (fun e => absurd e (by decide)) (by have cc0 := (show Int32.toInt 0 = 0 from rfl); omega)
        refine te_lv [(0, .ref 164), (1, .int x1), (2, .int y6), (3, .int 0), (4, .int 1), (5, .int 0)] rfl rfl ⟨rfl, rfl, rfl, rfl, rfl, rfl, trivial⟩ ?_
        exact lp8 41 0 1 0 (by decide) (by decide) (by decide) (by decide) (fun _ => allB_0 (by decide)) (fun _ => allB_0 (by decide)) (by have cc0 := (show Int32.toInt 0 = 0 from rfl); have cc1 := (show Int32.toInt 1 = 1 from rfl); omega)
      · subst w7
        have cc7_1 := (show Int32.toInt 1 = 1 from rfl)
        have cc7_2 := (show Int32.toInt 6 = 6 from rfl)
        refine te_istore (p2 := 42) (lv2 := [(4, .int 0), (3, .int 0), (2, .int y6), (0, .ref 164), (1, .int x1)]) rfl rfl (by decide) rfl ?_
        refine te_iconst (p2 := 43) (x := 0) rfl rfl (by decide) ?_
        refine te_istore (p2 := 45) (lv2 := [(5, .int 0), (4, .int 0), (3, .int 0), (2, .int y6), (0, .ref 164), (1, .int x1)]) rfl rfl (by decide) rfl ?_
        have lp116 : ∀ (n116 : Nat) (v116_3 v116_4 v116_5 : Int32) , 0 ≤ v116_4.toInt → v116_4.toInt ≤ 0 → 0 ≤ v116_5.toInt → v116_5.toInt ≤ 40 → 40 - v116_5.toInt < (n116 : Int) → EvP im_K0 4 mX12_pulls (45, [(0, .ref 164), (1, .int x1), (2, .int y6), (3, .int v116_3), (4, .int v116_4), (5, .int v116_5)], [], h) (fun v h2 => tI h2 ∧ fr F_X12_pulls h h2 ∧ ∃ y : Int32, v = some (.int y) ∧ Q2_pulls x1 y h h2) := by
          intro n116
          induction n116 with
          | zero => intro v116_3 v116_4 v116_5 a116_4 b116_4 a116_5 b116_5 m116; exfalso; omega
          | succ n116 ih116 =>
            intro v116_3 v116_4 v116_5 a116_4 b116_4 a116_5 b116_5 m116
            refine te_iload (p2 := 47) rfl rfl rfl ?_
            refine te_iload_n (p2 := 48) rfl rfl rfl ?_
            refine tb_ge (p2 := 51) rfl rfl rfl rfl (fun c117 => ?_) (fun c117 => ?_)
            · refine te_iload (p2 := 146) rfl rfl rfl ?_
              refine tz_ne (p2 := 149) rfl rfl rfl (fun c118 => absurd c118 (by omega)) (fun c118 => ?_)
              refine te_bipush (p2 := 151) (x := (-2)) rfl rfl (by decide) ?_
              exact te_iret rfl rfl ⟨hI, f0, _, rfl, (fun j => rfl)⟩
            · refine te_iload (p2 := 53) rfl rfl rfl ?_
              refine tz_eq (p2 := 56) rfl rfl rfl (fun c119 => ?_) (fun c119 => absurd c119 (by omega))
              refine te_iload (p2 := 146) rfl rfl rfl ?_
              refine tz_ne (p2 := 149) rfl rfl rfl (fun c120 => absurd c120 (by omega)) (fun c120 => ?_)
              refine te_bipush (p2 := 151) (x := (-2)) rfl rfl (by decide) ?_
              exact te_iret rfl rfl ⟨hI, f0, _, rfl, (fun j => rfl)⟩
        refine te_lv [(0, .ref 164), (1, .int x1), (2, .int y6), (3, .int 0), (4, .int 0), (5, .int 0)] rfl rfl ⟨rfl, rfl, rfl, rfl, rfl, rfl, trivial⟩ ?_
        exact lp116 41 0 0 0 (by decide) (by decide) (by decide) (by decide) (by have cc0 := (show Int32.toInt 0 = 0 from rfl); omega)
    · refine te_bipush (p2 := 23) (x := (-11)) rfl rfl (by decide) ?_
      exact te_iret rfl rfl ⟨hI, f0, _, rfl, (fun j => rfl)⟩
  · subst w2
    have cc2_1 := (show Int32.toInt 0 = 0 from rfl)
    have cc2_2 := (show Int32.toInt 3 = 3 from rfl)
    refine tz_ne (p2 := 9) rfl rfl (show Int32.toInt 0 = 0 from rfl) (fun c121 => absurd c121 (by omega)) (fun c121 => ?_)
    refine te_iconst (p2 := 10) (x := (-1)) rfl rfl (by decide) ?_
    exact te_iret rfl rfl ⟨hI, f0, _, rfl, (fun j => rfl)⟩
abbrev Q1_pulls (x1 : Int32) (y : Int32) (h h2 : im_H) : Prop := True
set_option maxRecDepth 20000 in
set_option maxHeartbeats 4000000 in
theorem c_X11_pulls {x1 : Int32} {h : im_H} (hI : tI h)  : CaP 4 85 [.ref 16, .int x1] h (fun v h2 => tI h2 ∧ fr F_X11_pulls h h2 ∧ ∃ y : Int32, v = some (.int y) ∧ Q1_pulls x1 y h h2) := by
  refine cap_of (d := 3) (M := mX11_pulls) rfl (Nat.le_of_ble_eq_true rfl) ?_
  show EvP im_K0 3 mX11_pulls (0, [(0, .ref 16), (1, .int x1)], [], h) _
  have f0 : fr F_X11_pulls h h := fr_rf
  refine te_iload_n (p2 := 1) rfl rfl rfl ?_
  refine te_iconst (p2 := 2) (x := 4) rfl rfl (by decide) ?_
  refine cS_pI (p2 := 5) rfl rfl rfl rfl (t_X11_within (n := x1) (b := 4) hI ) (by decide) (fun y1 r1 => ?_)
  rcases r1 with ⟨w1, c1⟩ | ⟨w1, c1⟩
  · subst w1
    have cc1_1 := (show Int32.toInt 4 = 4 from rfl)
    refine tz_ne (p2 := 8) rfl rfl (show Int32.toInt 1 = 1 from rfl) (fun c2 => ?_) (fun c2 => absurd c2 (by omega))
    refine te_aload_n (p2 := 11) rfl rfl rfl ?_
    refine tg_r (p2 := 14) (i := 0) (r := 113) rfl rfl hI rfl rfl rfl ?_
    refine te_iload_n (p2 := 15) rfl rfl rfl ?_
    refine tl_f (p2 := 16) (i := 97) (n := 4) (c0 := 140) (sp := 2) rfl rfl hI rfl rfl (by decide) rq_97 (by omega) (by omega) (fun o3 w3 => ?_)
    have q3 : o3 = 140 ∨ o3 = 142 ∨ o3 = 144 ∨ o3 = 146 := by omega
    refine te_astore_n (p2 := 17) (lv2 := [(2, .ref (16 + o3)), (0, .ref 16), (1, .int x1)]) rfl rfl (by decide) rfl ?_
    refine te_aload_n (p2 := 18) rfl rfl rfl ?_
    refine cV_pI (p2 := 21) (i := o3) rfl rfl rfl rfl hI rfl (by rcases q3 with rfl | rfl | rfl | rfl <;> rfl) rfl (c_X8_isMissing (s := o3) hI q3) (by decide) (fun y4 r4 => ?_)
    obtain ⟨p4, e4, r4⟩ := r4
    rcases r4 with ⟨w4_, c4⟩ | ⟨w4_, c4⟩
    · subst w4_
      refine tz_eq (p2 := 24) rfl rfl (show Int32.toInt 1 = 1 from rfl) (fun c5 => absurd c5 (by omega)) (fun c5 => ?_)
      refine te_bipush (p2 := 26) (x := (-11)) rfl rfl (by decide) ?_
      exact te_iret rfl rfl ⟨hI, f0, _, rfl, trivial⟩
    · subst w4_
      refine tz_eq (p2 := 24) rfl rfl (show Int32.toInt 0 = 0 from rfl) (fun c6 => ?_) (fun c6 => absurd c6 (by omega))
      refine te_aload_n (p2 := 28) rfl rfl rfl ?_
      refine tg_i (p2 := 31) (i := o3) rfl rfl hI rfl (by rcases q3 with rfl | rfl | rfl | rfl <;> rfl) (by rcases q3 with rfl | rfl | rfl | rfl <;> rfl) (fun y7 a7 b7 e7 => ?_)
      refine te_iconst (p2 := 32) (x := 1) rfl rfl (by decide) ?_
      refine te_bipush (p2 := 34) (x := 6) rfl rfl (by decide) ?_
      refine cS_pI (p2 := 37) rfl rfl rfl rfl (t_X11_between (n := y7) (a := 1) (b := 6) hI ) (by decide) (fun y8 r8 => ?_)
      rcases r8 with ⟨w8, c8⟩ | ⟨w8, c8⟩
      · subst w8
        have cc8_1 := (show Int32.toInt 1 = 1 from rfl)
        have cc8_2 := (show Int32.toInt 6 = 6 from rfl)
        refine tz_eq (p2 := 40) rfl rfl (show Int32.toInt 1 = 1 from rfl) (fun c9 => absurd c9 (by omega)) (fun c9 => ?_)
        refine te_aload_n (p2 := 41) rfl rfl rfl ?_
        refine te_aload_n (p2 := 42) rfl rfl rfl ?_
        refine cV_pI (p2 := 45) (i := 0) rfl rfl rfl rfl hI rfl rfl rfl (t_X11_areWallsToPull (s := o3)  hI  q3) (by decide) (fun y10 r10 => ?_)
        rcases r10 with r10 | ⟨r10, p10, e10, a10, b10, w10⟩
        · refine tz_ne (p2 := 48) rfl rfl rfl (fun c11 => absurd c11 (by omega)) (fun c11 => ?_)
          refine te_bipush (p2 := 50) (x := (-2)) rfl rfl (by decide) ?_
          exact te_iret rfl rfl ⟨hI, f0, _, rfl, trivial⟩
        · have x10 : p10 = y7 := int_inj e10 e7
          rw [x10] at w10
          refine tz_ne (p2 := 48) rfl rfl rfl (fun c12 => ?_) (fun c12 => absurd c12 (by omega))
          refine te_iconst (p2 := 52) (x := 0) rfl rfl (by decide) ?_
          refine te_istore_n (p2 := 53) (lv2 := [(3, .int 0), (2, .ref (16 + o3)), (0, .ref 16), (1, .int x1)]) rfl rfl (by decide) rfl ?_
          have lp13 : ∀ (n13 : Nat) (v13_3 : Int32) (h13 : im_H), tI h13 → fr F_X11_pulls h h13 → 0 ≤ v13_3.toInt → v13_3.toInt ≤ 6 → 6 - v13_3.toInt < (n13 : Int) → EvP im_K0 3 mX11_pulls (53, [(0, .ref 16), (1, .int x1), (2, .ref (16 + o3)), (3, .int v13_3)], [], h13) (fun v h2 => tI h2 ∧ fr F_X11_pulls h h2 ∧ ∃ y : Int32, v = some (.int y) ∧ Q1_pulls x1 y h h2) := by
            intro n13
            induction n13 with
            | zero => intro v13_3 h13 I13 f13 a13_3 b13_3 m13; exfalso; omega
            | succ n13 ih13 =>
              intro v13_3 h13 I13 f13 a13_3 b13_3 m13
              refine te_iload_n (p2 := 54) rfl rfl rfl ?_
              refine te_aload_n (p2 := 55) rfl rfl rfl ?_
              refine tg_e (p2 := 58) (i := o3) (v := .int y7) rfl rfl I13 rfl (by rcases q3 with rfl | rfl | rfl | rfl <;> rfl) ((f13 _ _ (by rcases q3 with rfl | rfl | rfl | rfl <;> rfl)).trans e7) ?_
              refine tb_ge (p2 := 61) rfl rfl rfl rfl (fun c14 => ?_) (fun c14 => ?_)
              · refine te_aload_n (p2 := 94) rfl rfl rfl ?_
                refine tg_r (p2 := 97) (i := 0) (r := 84) rfl rfl I13 rfl rfl rfl ?_
                refine te_aload_n (p2 := 98) rfl rfl rfl ?_
                refine cV_mI (p2 := 101) (i := 68) rfl rfl rfl rfl I13 rfl rfl rfl (t_X3_find (s := o3) I13 q3 ⟨y7, ((f13 _ _ (by rcases q3 with rfl | rfl | rfl | rfl <;> rfl)).trans e7), by omega, by omega⟩) (by decide) (fun y15 h15 I15 g15 r15 => ?_)
                have f15 := fr_tr (F1 := F_X3_find) (F := F_X11_pulls) f13 g15 (by decide)
                exact te_iret rfl rfl ⟨I15, f15, _, rfl, trivial⟩
              · refine te_aload_n (p2 := 62) rfl rfl rfl ?_
                refine tg_r (p2 := 65) (i := 0) (r := 84) rfl rfl I13 rfl rfl rfl ?_
                refine tg_r (p2 := 68) (i := 68) (r := 87) rfl rfl I13 rfl rfl rfl ?_
                refine te_iload_n (p2 := 69) rfl rfl rfl ?_
                refine te_aload_n (p2 := 70) rfl rfl rfl ?_
                refine tg_r (p2 := 73) (i := 0) (r := 17) rfl rfl I13 rfl rfl rfl ?_
                refine te_aload_n (p2 := 74) rfl rfl rfl ?_
                refine tg_r (p2 := 77) (i := 0) (r := 39) rfl rfl I13 rfl rfl rfl ?_
                refine te_aload_n (p2 := 78) rfl rfl rfl ?_
                refine tg_r (p2 := 81) (i := o3) (r := (16 + (o3 + 1))) rfl rfl I13 rfl (by rcases q3 with rfl | rfl | rfl | rfl <;> rfl) (by rcases q3 with rfl | rfl | rfl | rfl <;> rfl) ?_
                refine te_iload_n (p2 := 82) rfl rfl rfl ?_
                refine tl_i (p2 := 83) (i := (o3 + 1)) (n := 40) rfl rfl I13 rfl (by rcases q3 with rfl | rfl | rfl | rfl <;> rfl) (by rcases q3 with rfl | rfl | rfl | rfl <;> rfl) rfl (by omega) (by omega) (fun y16 a16 b16 g16 e16 => ?_)
                obtain ⟨a17, b17⟩ := allB_at (allB_fr w10 (fun q => f13 _ _ (by rcases q3 with rfl | rfl | rfl | rfl <;> rfl))) v13_3.toInt.toNat (by omega) (by rw [Nat.zero_add]) e16
                refine cV_pI (p2 := 86) (i := 1) rfl rfl rfl rfl I13 rfl rfl rfl (t_X0_daysUntilFall (s := 23) (k := y16) I13 (by decide) (by omega) (by omega)) (by decide) (fun y18 r18 => ?_)
                obtain ⟨a18, b18⟩ := r18
                refine ts_i (p2 := 87) (i := 71) (n := 6) rfl rfl I13 rfl rfl rfl rfl (by omega) (by omega) (i32_lo _) (i32_hi _) (i32_ho _) rfl (fun h19 I19 u19 => ?_)
                have f19 := fr_st (F := F_X11_pulls) 3 f13 u19 rfl (by omega) (by omega)
                refine ar_inc (p2 := 90) (x := v13_3) rfl rfl (by decide) rfl (by decide) rfl (by omega) (by omega) (fun z20 e20 f20 => ?_)
                show EvP _ _ _ (90, [(3, .int z20), (0, .ref 16), (1, .int x1), (2, .ref (16 + o3))], [], h19) _
                refine te_goto rfl ?_
                refine te_lv [(0, .ref 16), (1, .int x1), (2, .ref (16 + o3)), (3, .int z20)] rfl rfl ⟨rfl, rfl, rfl, rfl, trivial⟩ ?_
                exact ih13 z20 h19 I19 f19 (by omega) (by omega) (by omega)
          refine te_lv [(0, .ref 16), (1, .int x1), (2, .ref (16 + o3)), (3, .int 0)] rfl rfl ⟨rfl, rfl, rfl, rfl, trivial⟩ ?_
          exact lp13 7 0 h hI f0 (by decide) (by decide) (by have cc0 := (show Int32.toInt 0 = 0 from rfl); omega)
      · subst w8
        have cc8_1 := (show Int32.toInt 1 = 1 from rfl)
        have cc8_2 := (show Int32.toInt 6 = 6 from rfl)
        refine tz_eq (p2 := 40) rfl rfl (show Int32.toInt 0 = 0 from rfl) (fun c21 => ?_) (fun c21 => absurd c21 (by omega))
        refine te_bipush (p2 := 50) (x := (-2)) rfl rfl (by decide) ?_
        exact te_iret rfl rfl ⟨hI, f0, _, rfl, trivial⟩
  · subst w1
    have cc1_1 := (show Int32.toInt 4 = 4 from rfl)
    refine tz_ne (p2 := 8) rfl rfl (show Int32.toInt 0 = 0 from rfl) (fun c22 => absurd c22 (by omega)) (fun c22 => ?_)
    refine te_iconst (p2 := 9) (x := (-1)) rfl rfl (by decide) ?_
    exact te_iret rfl rfl ⟨hI, f0, _, rfl, trivial⟩
