def R_S (h : im_H) : Prop := ∀ s : Nat, s < 4 → rd h (140 + 2 * s) 0 = rd h 192 s ∧ (∀ q : Int32, rd h 192 s = some (.int q) → q.toInt ≠ -1 → rd h (140 + 2 * s) 1 = rd h 193 s ∧ ∀ i : Nat, i < 40 → rd h (141 + 2 * s) i = rd h 194 (40 * s + i))
theorem c4 {P : Nat → Prop} (h0 : P 0) (h1 : P 1) (h2 : P 2) (h3 : P 3) : ∀ s, s < 4 → P s := by
  intro s hs
  rcases (show s = 0 ∨ s = 1 ∨ s = 2 ∨ s = 3 by omega) with rfl | rfl | rfl | rfl
  · exact h0
  · exact h1
  · exact h2
  · exact h3
theorem R_S_fr {F : List (Nat × Nat × Nat)} {h h2 : im_H} (hr : R_S h) (g : fr F h h2) (f1 : ∀ s b, s < 4 → inF F (140 + 2 * s) b = false) (f4 : ∀ s b, s < 4 → inF F (141 + 2 * s) b = false) (f2 : ∀ b, inF F 192 b = false) (f3 : ∀ b, inF F 193 b = false) (f5 : ∀ b, inF F 194 b = false) : R_S h2 := by
  intro s hs
  obtain ⟨a, b⟩ := hr s hs
  refine ⟨(g _ _ (f1 s 0 hs)).trans (a.trans (g _ _ (f2 s)).symm), fun q hq hn => ?_⟩
  obtain ⟨b1, b2⟩ := b q ((g _ _ (f2 s)).symm.trans hq) hn
  exact ⟨(g _ _ (f1 s 1 hs)).trans (b1.trans (g _ _ (f3 s)).symm), fun i hi => (g _ _ (f4 s i hs)).trans ((b2 i hi).trans (g _ _ (f5 _)).symm)⟩
def rel (h : im_H) : Prop := R_S h
theorem vl_eq {h h1 : im_H} {x1 : Int32} {q : Int32} (N : R_S h) (hc : 0 ≤ x1.toInt ∧ x1.toInt ≤ 3) (g1 : ∀ k, rd h1 194 k = rd h 194 k) (hq : rd h 192 x1.toInt.toNat = some (.int q)) (hn : q.toInt ≠ -1) : vl h (141 + 2 * x1.toInt.toNat) 0 = vl h1 194 (40 * x1.toInt.toNat) := by
  funext i
  unfold vl
  by_cases hi : i < 40
  · rw [if_pos hi, if_pos hi, Nat.zero_add, ((N _ (by omega)).2 q hq hn).2 i hi, g1]
  · rw [if_neg hi, if_neg hi]
theorem rail_join {h h1 h2 : im_H} {x1 x2 x3 y1 y2 : Int32} (N : R_S h) (g1 : fr F_X11_rail h h1) (r1 : Q1_rail x1 x2 x3 y1 h h1) (r2 : Q2_rail x1 x2 x3 y2 h1 h2) : y1 = y2 := by
  rcases r1 with ⟨a, q, z, s1, z1, f1⟩ | ⟨a, f1⟩
  · rcases r2 with ⟨_, q2, z2, t1, t2, f2⟩ | ⟨a2, _⟩
    · obtain ⟨h3, h4⟩ := N x2.toInt.toNat (by omega)
      have k1 : rd h 192 x2.toInt.toNat = some (.int q2) := (g1 _ _ rfl).symm.trans t1
      have k2 : rd h 193 x2.toInt.toNat = some (.int z2) := (g1 _ _ rfl).symm.trans t2
      have j1 : q = q2 := int_inj (h3.symm.trans s1) k1
      rw [← j1] at f2 k1
      by_cases hq : q.toInt = -1
      · rcases f1 with ⟨_, f1⟩ | ⟨n, _⟩ | ⟨n, _⟩
        · rcases f2 with ⟨_, f2⟩ | ⟨n, _⟩ | ⟨n, _⟩
          · rw [f1, f2]
          · exact absurd hq n
          · exact absurd hq n
        · exact absurd hq n
        · exact absurd hq n
      · have j2 : z = z2 := int_inj ((h4 q k1 hq).1.symm.trans z1) k2
        have jf := vl_eq (x1 := x2) N ⟨a.2.2.1, a.2.2.2⟩ (fun k => g1 194 k rfl) k1 hq
        rw [← j2, ← jf] at f2
        rcases f1 with ⟨n, _⟩ | ⟨_, o1, f1⟩ | ⟨_, o1, f1⟩
        · exact absurd n hq
        · rcases f2 with ⟨n, _⟩ | ⟨_, o2, f2⟩ | ⟨_, o2, f2⟩
          · exact absurd n hq
          · rw [f1, f2]
          · exact absurd o1 o2
        · rcases f2 with ⟨n, _⟩ | ⟨_, o2, f2⟩ | ⟨_, o2, f2⟩
          · exact absurd n hq
          · exact absurd o2 o1
          · rw [f1, f2]
    · exact absurd a a2
  · rcases r2 with ⟨b, _⟩ | ⟨_, f2⟩
    · exact absurd b a
    · rw [f1, f2]
set_option maxRecDepth 10000 in
set_option maxHeartbeats 2000000 in
theorem relc_rail {h h1 h2 : im_H} {x1 x2 x3 : Int32} {y1 y2 : Int32} (hr : rel h) (g1 : fr F_X11_rail h h1) (g2 : fr F_X12_rail h1 h2) (r1 : Q1_rail x1 x2 x3 y1 h h1) (r2 : Q2_rail x1 x2 x3 y2 h1 h2) : y1 = y2 ∧ rel h2 :=
  ⟨rail_join hr g1 r1 r2, (R_S_fr (R_S_fr hr g1 (fun s b hs => c4 (P := fun s => inF F_X11_rail (140 + 2 * s) b = false) rfl rfl rfl rfl s hs) (fun s b hs => c4 (P := fun s => inF F_X11_rail (141 + 2 * s) b = false) rfl rfl rfl rfl s hs) (fun _ => rfl) (fun _ => rfl) (fun _ => rfl)) g2 (fun s b hs => c4 (P := fun s => inF F_X12_rail (140 + 2 * s) b = false) rfl rfl rfl rfl s hs) (fun s b hs => c4 (P := fun s => inF F_X12_rail (141 + 2 * s) b = false) rfl rfl rfl rfl s hs) (fun _ => rfl) (fun _ => rfl) (fun _ => rfl))⟩
theorem sheet_join {h h1 h2 : im_H} {x1 x2 x3 y1 y2 : Int32} (N : R_S h) (g1 : fr F_X11_sheet h h1) (g2 : fr F_X12_sheet h1 h2) (r1 : Q1_sheet x1 x2 x3 y1 h h1) (r2 : Q2_sheet x1 x2 x3 y2 h1 h2) : R_S h2 := by
  have fx : ∀ s b, s < 4 → rd h2 (140 + 2 * s) b = rd h1 (140 + 2 * s) b := fun s b hs => g2 _ _ (c4 (P := fun s => inF F_X12_sheet (140 + 2 * s) b = false) rfl rfl rfl rfl s hs)
  have fn : ∀ s b, s < 4 → rd h2 (141 + 2 * s) b = rd h1 (141 + 2 * s) b := fun s b hs => g2 _ _ (c4 (P := fun s => inF F_X12_sheet (141 + 2 * s) b = false) rfl rfl rfl rfl s hs)
  have fm : ∀ k, rd h1 192 k = rd h 192 k ∧ rd h1 193 k = rd h 193 k ∧ rd h1 194 k = rd h 194 k := fun k => ⟨g1 _ _ rfl, g1 _ _ rfl, g1 _ _ rfl⟩
  obtain ⟨a1, a2, a3, a4, a5⟩ := r1
  obtain ⟨b1, b2, b3, b4, b5⟩ := r2
  intro s hs
  by_cases hk : s = x1.toInt.toNat ∧ okS x1 x2 x3
  · obtain ⟨rfl, ho⟩ := hk
    refine ⟨(fx _ 0 hs).trans ((a1 ho).trans (b1 ho).symm), fun q hq hn => ?_⟩
    have e := int_inj hq (b1 ho)
    rw [e] at hn
    exact ⟨(fx _ 1 hs).trans ((a2 ho hn).trans (b2 ho hn).symm), fun i hi => (fn _ i hs).trans ((a4 ho hn i hi).trans (b4 ho i hi).symm)⟩
  · have hn : s ≠ x1.toInt.toNat ∨ ¬ okS x1 x2 x3 := by
      by_cases h5 : s = x1.toInt.toNat
      · exact Or.inr (fun h6 => hk ⟨h5, h6⟩)
      · exact Or.inl h5
    obtain ⟨a, b⟩ := N s hs
    obtain ⟨m1, m2⟩ := b3 s hs hn
    refine ⟨(fx s 0 hs).trans ((a3 s 0 hs hn).trans (a.trans ((fm s).1.symm.trans m1.symm))), fun q hq hq2 => ?_⟩
    obtain ⟨c1, c2⟩ := b q ((fm s).1.symm.trans (m1.symm.trans hq)) hq2
    exact ⟨(fx s 1 hs).trans ((a3 s 1 hs hn).trans (c1.trans ((fm s).2.1.symm.trans m2.symm))), fun i hi => (fn s i hs).trans ((a5 s i hs hn).trans ((c2 i hi).trans ((fm _).2.2.symm.trans (b5 s i hs hi hn).symm)))⟩
set_option maxRecDepth 10000 in
set_option maxHeartbeats 2000000 in
theorem relc_sheet {h h1 h2 : im_H} {x1 x2 x3 : Int32} {y1 y2 : Int32} (hr : rel h) (g1 : fr F_X11_sheet h h1) (g2 : fr F_X12_sheet h1 h2) (r1 : Q1_sheet x1 x2 x3 y1 h h1) (r2 : Q2_sheet x1 x2 x3 y2 h1 h2) : rel h2 :=
  sheet_join hr g1 g2 r1 r2
theorem cell_join {h h1 h2 : im_H} {x1 x2 x3 y1 y2 : Int32} (N : R_S h) (g1 : fr F_X11_cell h h1) (g2 : fr F_X12_cell h1 h2) (r1 : Q1_cell x1 x2 x3 y1 h h1) (r2 : Q2_cell x1 x2 x3 y2 h1 h2) : y1 = y2 ∧ R_S h2 := by
  have fx : ∀ s b, s < 4 → rd h2 (140 + 2 * s) b = rd h1 (140 + 2 * s) b := fun s b hs => g2 _ _ (c4 (P := fun s => inF F_X12_cell (140 + 2 * s) b = false) rfl rfl rfl rfl s hs)
  have fn : ∀ s b, s < 4 → rd h2 (141 + 2 * s) b = rd h1 (141 + 2 * s) b := fun s b hs => g2 _ _ (c4 (P := fun s => inF F_X12_cell (141 + 2 * s) b = false) rfl rfl rfl rfl s hs)
  have fm : ∀ k, rd h1 192 k = rd h 192 k ∧ rd h1 193 k = rd h 193 k ∧ rd h1 194 k = rd h 194 k := fun k => ⟨g1 _ _ rfl, g1 _ _ rfl, g1 _ _ rfl⟩
  obtain ⟨r1, a1, a2⟩ := r1
  obtain ⟨r2, b1, b2⟩ := r2
  have ye : y1 = y2 := by
    rcases r1 with ⟨a, b, q, z, e1, e2, rfl⟩ | ⟨a, rfl⟩
    · rcases r2 with ⟨_, _, q2, z2, f1, f2, rfl⟩ | ⟨a2, rfl⟩
      · obtain ⟨h3, h4⟩ := N x1.toInt.toNat (by omega)
        have f3 : rd h 192 x1.toInt.toNat = some (.int q2) := (g1 _ _ rfl).symm.trans f1
        have f4 : rd h 193 x1.toInt.toNat = some (.int z2) := (g1 _ _ rfl).symm.trans f2
        have e3 := int_inj (h3.symm.trans e1) f3
        subst e3
        by_cases hq : q.toInt = -1
        · unfold clT; rw [if_pos hq, if_pos hq]
        · have e4 := int_inj ((h4 q f3 hq).1.symm.trans e2) f4
          rw [e4]
      · exact absurd ⟨a, b⟩ a2
    · rcases r2 with ⟨b, c, _⟩ | ⟨_, rfl⟩
      · exact absurd ⟨b, c⟩ a
      · rfl
  refine ⟨ye, ?_⟩
  intro s hs
  obtain ⟨a, b⟩ := N s hs
  have m1 : rd h2 192 s = rd h 192 s := (g2 _ _ rfl).trans (fm s).1
  have m2 : rd h2 193 s = rd h 193 s := (g2 _ _ rfl).trans (fm s).2.1
  have l1 : ∀ b, rd h2 (140 + 2 * s) b = rd h (140 + 2 * s) b := fun b => (fx s b hs).trans (g1 _ _ (c4 (P := fun s => inF F_X11_cell (140 + 2 * s) b = false) rfl rfl rfl rfl s hs))
  refine ⟨(l1 0).trans (a.trans m1.symm), fun q hq hn => ?_⟩
  have hq3 : rd h 192 s = some (.int q) := m1.symm.trans hq
  obtain ⟨c1, c2⟩ := b q hq3 hn
  refine ⟨(l1 1).trans (c1.trans m2.symm), fun i hi => ?_⟩
  by_cases hk : s = x1.toInt.toNat ∧ i = x2.toInt.toNat ∧ y1.toInt = 1
  · obtain ⟨rfl, rfl, hy⟩ := hk
    rw [fn _ _ hs, (a1 hy).2.2 q (a.trans hq3), (b1 (ye ▸ hy)).2.2 q ((fm _).1.trans hq3)]
  · rw [fn _ _ hs, a2 s i hs (by omega), b2 s i hs hi (by rw [← ye]; omega), c2 i hi, (fm _).2.2]
set_option maxRecDepth 10000 in
set_option maxHeartbeats 2000000 in
theorem relc_cell {h h1 h2 : im_H} {x1 x2 x3 : Int32} {y1 y2 : Int32} (hr : rel h) (g1 : fr F_X11_cell h h1) (g2 : fr F_X12_cell h1 h2) (r1 : Q1_cell x1 x2 x3 y1 h h1) (r2 : Q2_cell x1 x2 x3 y2 h1 h2) : rel h2 :=
  (cell_join hr g1 g2 r1 r2).2
theorem copy_join {h h1 h2 : im_H} {x1 x2 x3 x4 x5 y1 y2 : Int32} (N : R_S h) (g1 : fr F_X11_copy h h1) (g2 : fr F_X12_copy h1 h2) (r1 : Q1_copy x1 x2 x3 x4 x5 y1 h h1) (r2 : Q2_copy x1 x2 x3 x4 x5 y2 h1 h2) : y1 = y2 ∧ R_S h2 := by
  have fx : ∀ s b, s < 4 → rd h2 (140 + 2 * s) b = rd h1 (140 + 2 * s) b := fun s b hs => g2 _ _ (c4 (P := fun s => inF F_X12_copy (140 + 2 * s) b = false) rfl rfl rfl rfl s hs)
  have fn : ∀ s b, s < 4 → rd h2 (141 + 2 * s) b = rd h1 (141 + 2 * s) b := fun s b hs => g2 _ _ (c4 (P := fun s => inF F_X12_copy (141 + 2 * s) b = false) rfl rfl rfl rfl s hs)
  have fm : ∀ k, rd h1 192 k = rd h 192 k ∧ rd h1 193 k = rd h 193 k ∧ rd h1 194 k = rd h 194 k := fun k => ⟨g1 _ _ rfl, g1 _ _ rfl, g1 _ _ rfl⟩
  obtain ⟨r1, a1, a2⟩ := r1
  obtain ⟨r2, b1, b2⟩ := r2
  have yq : y1 = y2 ∧ (0 ≤ y1.toInt → (0 ≤ x1.toInt ∧ x1.toInt ≤ 3 ∧ 0 ≤ x3.toInt ∧ x3.toInt ≤ 3) ∧ (∃ q : Int32, rd h 192 x1.toInt.toNat = some (.int q) ∧ q.toInt ≠ -1)) := by
    rcases r1 with ⟨a, q1, z1, q2, z2, e1, e2, e3, e4, rfl⟩ | ⟨a, rfl⟩
    · rcases r2 with ⟨_, p1, w1, p2, w2, f1, f2, f3, f4, rfl⟩ | ⟨a2, rfl⟩
      · obtain ⟨h3, h4⟩ := N x1.toInt.toNat (by omega)
        obtain ⟨h5, h6⟩ := N x3.toInt.toNat (by omega)
        have k1 : rd h 192 x1.toInt.toNat = some (.int p1) := (g1 _ _ rfl).symm.trans f1
        have k2 : rd h 193 x1.toInt.toNat = some (.int w1) := (g1 _ _ rfl).symm.trans f2
        have k3 : rd h 192 x3.toInt.toNat = some (.int p2) := (g1 _ _ rfl).symm.trans f3
        have k4 : rd h 193 x3.toInt.toNat = some (.int w2) := (g1 _ _ rfl).symm.trans f4
        have j1 : q1 = p1 := int_inj (h3.symm.trans e1) k1
        have j3 : q2 = p2 := int_inj (h5.symm.trans e3) k3
        rw [j1, j3]
        by_cases hq : p1.toInt = -1 ∨ p2.toInt = -1
        · unfold cpT; rw [if_pos hq, if_pos hq]; exact ⟨rfl, fun h9 => absurd h9 (by decide)⟩
        · have j2 : z1 = w1 := int_inj ((h4 p1 k1 (fun hh_ => hq (Or.inl hh_))).1.symm.trans e2) k2
          have j4 : z2 = w2 := int_inj ((h6 p2 k3 (fun hh_ => hq (Or.inr hh_))).1.symm.trans e4) k4
          rw [j2, j4]
          exact ⟨rfl, fun _ => ⟨a, p1, k1, fun hh_ => hq (Or.inl hh_)⟩⟩
      · exact absurd a a2
    · rcases r2 with ⟨b, _⟩ | ⟨_, rfl⟩
      · exact absurd b a
      · exact ⟨rfl, fun h9 => absurd h9 (by decide)⟩
  obtain ⟨ye, hp⟩ := yq
  refine ⟨ye, ?_⟩
  intro s hs
  obtain ⟨a, b⟩ := N s hs
  have m1 : rd h2 192 s = rd h 192 s := (g2 _ _ rfl).trans (fm s).1
  have m2 : rd h2 193 s = rd h 193 s := (g2 _ _ rfl).trans (fm s).2.1
  have l1 : ∀ b, rd h2 (140 + 2 * s) b = rd h (140 + 2 * s) b := fun b => (fx s b hs).trans (g1 _ _ (c4 (P := fun s => inF F_X11_copy (140 + 2 * s) b = false) rfl rfl rfl rfl s hs))
  refine ⟨(l1 0).trans (a.trans m1.symm), fun q hq hn => ?_⟩
  have hq3 : rd h 192 s = some (.int q) := m1.symm.trans hq
  obtain ⟨c1, c2⟩ := b q hq3 hn
  refine ⟨(l1 1).trans (c1.trans m2.symm), fun i hi => ?_⟩
  by_cases hk : s = x3.toInt.toNat ∧ (x4.toInt ≤ i ∧ (i : Int) < x4.toInt + x5.toInt) ∧ 0 ≤ y1.toInt
  · obtain ⟨rfl, hr_, hy⟩ := hk
    obtain ⟨v1, v2, v3, v4, v5⟩ := a1 hy
    obtain ⟨_, _, _, _, t5⟩ := b1 (ye ▸ hy)
    obtain ⟨rg, q0, hq0, hq1⟩ := hp hy
    obtain ⟨_, d2⟩ := N x1.toInt.toNat (by omega)
    rw [fn _ _ hs, v5 i hi hr_, t5 i hi hr_, (d2 q0 hq0 hq1).2 _ (by omega), (fm _).2.2]
  · rw [fn _ _ hs, a2 s i hs (by omega), b2 s i hs hi (by rw [← ye]; omega), c2 i hi, (fm _).2.2]
set_option maxRecDepth 10000 in
set_option maxHeartbeats 2000000 in
theorem relc_copy {h h1 h2 : im_H} {x1 x2 x3 x4 x5 : Int32} {y1 y2 : Int32} (hr : rel h) (g1 : fr F_X11_copy h h1) (g2 : fr F_X12_copy h1 h2) (r1 : Q1_copy x1 x2 x3 x4 x5 y1 h h1) (r2 : Q2_copy x1 x2 x3 x4 x5 y2 h1 h2) : rel h2 :=
  (copy_join hr g1 g2 r1 r2).2
/-! the law's rows, told by what the end meets -/
theorem cV_mL {K : im_K} {d : Nat} {M : im_M} {pc p2 : Nat} {lv : im_L} {st : List Value} {h : im_H} {Q : Option Value → im_H → Prop} {F : List (Nat × Nat × Nat)} {i n Rf idx j w z x d1 : Nat} {q : List Value × List Value} {rest : List Value} (ha : im_at M pc = some (.invokevirtual idx, [j, 0, w, z, x])) (hp : pc + 3 = p2) (ht : im_take w st = some q) (hq : q.2 = .ref Rf :: rest) (hI : tI h) (hR : Rf = 16 + i) (hs : tS[i]? = some (3, z, n)) (hc : im_cat rest = true) (hC : CaP d1 j (.ref Rf :: q.1) h (mL h F)) (hd : d1 ≤ d) (k : ∀ y h2, tI h2 → fr F h h2 → EvP K d M (p2, lv, .long y :: rest, h2) Q) : EvP K d M (pc, lv, st, h) Q :=
  tc_V ha hp ht hq hI hR hs hc hC hd (fun v h2 hq => by obtain ⟨e, f, y, rfl⟩ := hq; exact k y h2 e f)
theorem te_pop2 {K : im_K} {d : Nat} {M : im_M} {pc p2 : Nat} {lv : im_L} {st : List Value} {h : im_H} {Q : Option Value → im_H → Prop} {v : Value} (ha : im_at M pc = some (.pop2, [])) (hp : pc + 1 = p2) (hv : v.category = 2) (k : EvP K d M (p2, lv, st, h) Q) : EvP K d M (pc, lv, v :: st, h) Q := by
  subst hp
  refine evp (fun r => ev_step (st_at ha ?_)) k
  show (if v.category = 2 then im_nx (pc + 1) lv st h else none) = _
  rw [if_pos hv]
  rfl
theorem tw_rd {l : List Int32} {d pc p2 : Nat} {kk : Int} {i : Int32} {n : Nat} {st : List Value} {h : im_H} {Q : Option Value → im_H → Prop} (k : Nat) (a0 : im_at mL_law pc = some (.aload_n 0, [])) (a1 : im_at mL_law (pc + 1) = some (.iload_n 3, [])) (a2 : im_at mL_law (pc + 2) = some (.iconst kk, [])) (a3 : im_at mL_law (pc + 3) = some (.iadd, [])) (a4 : im_at mL_law (pc + 4) = some (.iaload, [])) (hp : pc + 5 = p2) (hk : (Int32.ofInt kk).toInt = k) (hi : i.toInt = n) (hl : n + k < l.length) (hb : l.length < 2147483648) (kx : EvP (im_K1 l) d mL_law (p2, lwL i, .int (l.getD (n + k) 0) :: st, h) Q) : EvP (im_K1 l) d mL_law (pc, lwL i, st, h) Q := evp (fun r => lw_rd k a0 a1 a2 a3 a4 hp hk hi hl hb) kx
set_option maxRecDepth 10000 in
set_option maxHeartbeats 2000000 in
theorem lq_ruin {l : List Int32} {n : Nat} {i : Int32} {h : im_H} {Q : Option Value → im_H → Prop} (hi : i.toInt = n) (hl : n + 6 ≤ l.length) (hb : l.length < 2147483648) (hI : tI h) (kx : ∀ h1 h2, tI h2 → fr F_X11_ruin h h1 → fr F_X12_ruin h1 h2 → EvP (im_K1 l) 20 mL_law (1753, lwL i, [], h2) Q) : EvP (im_K1 l) 20 mL_law (228, lwL i, [], h) Q := by
  refine te_aload_n (p2 := 229) rfl rfl rfl ?_
  refine tw_rd (p2 := 234) 1 rfl rfl rfl rfl rfl rfl (by decide) hi (by omega) hb ?_
  refine tw_rd (p2 := 239) 2 rfl rfl rfl rfl rfl rfl (by decide) hi (by omega) hb ?_
  refine tw_rd (p2 := 244) 3 rfl rfl rfl rfl rfl rfl (by decide) hi (by omega) hb ?_
  refine cV_mI (p2 := 247) (i := 0) rfl rfl rfl rfl hI rfl rfl rfl (t_X11_ruin (x1 := (l.getD (n + 1) 0)) (x2 := (l.getD (n + 2) 0)) (x3 := (l.getD (n + 3) 0)) hI) (by decide) (fun y1 h1 I1 g1 r1 => ?_)
  refine te_pop (p2 := 248) rfl rfl rfl ?_
  refine te_aload_n (p2 := 249) rfl rfl rfl ?_
  refine tw_rd (p2 := 254) 1 rfl rfl rfl rfl rfl rfl (by decide) hi (by omega) hb ?_
  refine tw_rd (p2 := 259) 2 rfl rfl rfl rfl rfl rfl (by decide) hi (by omega) hb ?_
  refine tw_rd (p2 := 264) 3 rfl rfl rfl rfl rfl rfl (by decide) hi (by omega) hb ?_
  refine cV_mI (p2 := 267) (i := 148) rfl rfl rfl rfl I1 rfl rfl rfl (t_X12_ruin (x1 := (l.getD (n + 1) 0)) (x2 := (l.getD (n + 2) 0)) (x3 := (l.getD (n + 3) 0)) I1) (by decide) (fun y2 h2 I2 g2 r2 => ?_)
  refine te_pop (p2 := 268) rfl rfl rfl ?_
  refine te_goto rfl ?_
  exact kx h1 h2 I2 g1 g2
set_option maxRecDepth 10000 in
set_option maxHeartbeats 2000000 in
theorem lq_person {l : List Int32} {n : Nat} {i : Int32} {h : im_H} {Q : Option Value → im_H → Prop} (hi : i.toInt = n) (hl : n + 6 ≤ l.length) (hb : l.length < 2147483648) (hI : tI h) (kx : ∀ h1 h2, tI h2 → fr F_X11_person h h1 → fr F_X12_person h1 h2 → EvP (im_K1 l) 20 mL_law (1753, lwL i, [], h2) Q) : EvP (im_K1 l) 20 mL_law (271, lwL i, [], h) Q := by
  refine te_aload_n (p2 := 272) rfl rfl rfl ?_
  refine tw_rd (p2 := 277) 1 rfl rfl rfl rfl rfl rfl (by decide) hi (by omega) hb ?_
  refine tw_rd (p2 := 282) 2 rfl rfl rfl rfl rfl rfl (by decide) hi (by omega) hb ?_
  refine tw_rd (p2 := 287) 3 rfl rfl rfl rfl rfl rfl (by decide) hi (by omega) hb ?_
  refine tw_rd (p2 := 292) 4 rfl rfl rfl rfl rfl rfl (by decide) hi (by omega) hb ?_
  refine cV_mI (p2 := 295) (i := 0) rfl rfl rfl rfl hI rfl rfl rfl (t_X11_person (x1 := (l.getD (n + 1) 0)) (x2 := (l.getD (n + 2) 0)) (x3 := (l.getD (n + 3) 0)) (x4 := (l.getD (n + 4) 0)) hI) (by decide) (fun y1 h1 I1 g1 r1 => ?_)
  refine te_pop (p2 := 296) rfl rfl rfl ?_
  refine te_aload_n (p2 := 297) rfl rfl rfl ?_
  refine tw_rd (p2 := 302) 1 rfl rfl rfl rfl rfl rfl (by decide) hi (by omega) hb ?_
  refine tw_rd (p2 := 307) 2 rfl rfl rfl rfl rfl rfl (by decide) hi (by omega) hb ?_
  refine tw_rd (p2 := 312) 3 rfl rfl rfl rfl rfl rfl (by decide) hi (by omega) hb ?_
  refine tw_rd (p2 := 317) 4 rfl rfl rfl rfl rfl rfl (by decide) hi (by omega) hb ?_
  refine cV_mI (p2 := 320) (i := 148) rfl rfl rfl rfl I1 rfl rfl rfl (t_X12_person (x1 := (l.getD (n + 1) 0)) (x2 := (l.getD (n + 2) 0)) (x3 := (l.getD (n + 3) 0)) (x4 := (l.getD (n + 4) 0)) I1) (by decide) (fun y2 h2 I2 g2 r2 => ?_)
  refine te_pop (p2 := 321) rfl rfl rfl ?_
  refine te_goto rfl ?_
  exact kx h1 h2 I2 g1 g2
set_option maxRecDepth 10000 in
set_option maxHeartbeats 2000000 in
theorem lq_moves {l : List Int32} {n : Nat} {i : Int32} {h : im_H} {Q : Option Value → im_H → Prop} (hi : i.toInt = n) (hl : n + 6 ≤ l.length) (hb : l.length < 2147483648) (hI : tI h) (kx : ∀ h1 h2, tI h2 → fr F_X11_moves h h1 → fr F_X12_moves h1 h2 → EvP (im_K1 l) 20 mL_law (1753, lwL i, [], h2) Q) : EvP (im_K1 l) 20 mL_law (324, lwL i, [], h) Q := by
  refine te_aload_n (p2 := 325) rfl rfl rfl ?_
  refine tw_rd (p2 := 330) 1 rfl rfl rfl rfl rfl rfl (by decide) hi (by omega) hb ?_
  refine tw_rd (p2 := 335) 2 rfl rfl rfl rfl rfl rfl (by decide) hi (by omega) hb ?_
  refine cV_mI (p2 := 338) (i := 0) rfl rfl rfl rfl hI rfl rfl rfl (t_X11_moves (x1 := (l.getD (n + 1) 0)) (x2 := (l.getD (n + 2) 0)) hI) (by decide) (fun y1 h1 I1 g1 r1 => ?_)
  refine te_pop (p2 := 339) rfl rfl rfl ?_
  refine te_aload_n (p2 := 340) rfl rfl rfl ?_
  refine tw_rd (p2 := 345) 1 rfl rfl rfl rfl rfl rfl (by decide) hi (by omega) hb ?_
  refine tw_rd (p2 := 350) 2 rfl rfl rfl rfl rfl rfl (by decide) hi (by omega) hb ?_
  refine cV_mI (p2 := 353) (i := 148) rfl rfl rfl rfl I1 rfl rfl rfl (t_X12_moves (x1 := (l.getD (n + 1) 0)) (x2 := (l.getD (n + 2) 0)) I1) (by decide) (fun y2 h2 I2 g2 r2 => ?_)
  refine te_pop (p2 := 354) rfl rfl rfl ?_
  refine te_goto rfl ?_
  exact kx h1 h2 I2 g1 g2
set_option maxRecDepth 10000 in
set_option maxHeartbeats 2000000 in
theorem lq_wall {l : List Int32} {n : Nat} {i : Int32} {h : im_H} {Q : Option Value → im_H → Prop} (hi : i.toInt = n) (hl : n + 6 ≤ l.length) (hb : l.length < 2147483648) (hI : tI h) (kx : ∀ h1 h2, tI h2 → fr F_X11_wall h h1 → fr F_X12_wall h1 h2 → EvP (im_K1 l) 20 mL_law (1753, lwL i, [], h2) Q) : EvP (im_K1 l) 20 mL_law (357, lwL i, [], h) Q := by
  refine te_aload_n (p2 := 358) rfl rfl rfl ?_
  refine tw_rd (p2 := 363) 1 rfl rfl rfl rfl rfl rfl (by decide) hi (by omega) hb ?_
  refine tw_rd (p2 := 368) 2 rfl rfl rfl rfl rfl rfl (by decide) hi (by omega) hb ?_
  refine tw_rd (p2 := 373) 3 rfl rfl rfl rfl rfl rfl (by decide) hi (by omega) hb ?_
  refine cV_mI (p2 := 376) (i := 0) rfl rfl rfl rfl hI rfl rfl rfl (t_X11_wall (x1 := (l.getD (n + 1) 0)) (x2 := (l.getD (n + 2) 0)) (x3 := (l.getD (n + 3) 0)) hI) (by decide) (fun y1 h1 I1 g1 r1 => ?_)
  refine te_pop (p2 := 377) rfl rfl rfl ?_
  refine te_aload_n (p2 := 378) rfl rfl rfl ?_
  refine tw_rd (p2 := 383) 1 rfl rfl rfl rfl rfl rfl (by decide) hi (by omega) hb ?_
  refine tw_rd (p2 := 388) 2 rfl rfl rfl rfl rfl rfl (by decide) hi (by omega) hb ?_
  refine tw_rd (p2 := 393) 3 rfl rfl rfl rfl rfl rfl (by decide) hi (by omega) hb ?_
  refine cV_mI (p2 := 396) (i := 148) rfl rfl rfl rfl I1 rfl rfl rfl (t_X12_wall (x1 := (l.getD (n + 1) 0)) (x2 := (l.getD (n + 2) 0)) (x3 := (l.getD (n + 3) 0)) I1) (by decide) (fun y2 h2 I2 g2 r2 => ?_)
  refine te_pop (p2 := 397) rfl rfl rfl ?_
  refine te_goto rfl ?_
  exact kx h1 h2 I2 g1 g2
set_option maxRecDepth 10000 in
set_option maxHeartbeats 2000000 in
theorem lq_weather {l : List Int32} {n : Nat} {i : Int32} {h : im_H} {Q : Option Value → im_H → Prop} (hi : i.toInt = n) (hl : n + 6 ≤ l.length) (hb : l.length < 2147483648) (hI : tI h) (kx : ∀ h1 h2, tI h2 → fr F_X11_weather h h1 → fr F_X12_weather h1 h2 → EvP (im_K1 l) 20 mL_law (1753, lwL i, [], h2) Q) : EvP (im_K1 l) 20 mL_law (400, lwL i, [], h) Q := by
  refine te_aload_n (p2 := 401) rfl rfl rfl ?_
  refine tw_rd (p2 := 406) 1 rfl rfl rfl rfl rfl rfl (by decide) hi (by omega) hb ?_
  refine tw_rd (p2 := 411) 2 rfl rfl rfl rfl rfl rfl (by decide) hi (by omega) hb ?_
  refine cV_mI (p2 := 414) (i := 0) rfl rfl rfl rfl hI rfl rfl rfl (t_X11_weather (x1 := (l.getD (n + 1) 0)) (x2 := (l.getD (n + 2) 0)) hI) (by decide) (fun y1 h1 I1 g1 r1 => ?_)
  refine te_pop (p2 := 415) rfl rfl rfl ?_
  refine te_aload_n (p2 := 416) rfl rfl rfl ?_
  refine tw_rd (p2 := 421) 1 rfl rfl rfl rfl rfl rfl (by decide) hi (by omega) hb ?_
  refine tw_rd (p2 := 426) 2 rfl rfl rfl rfl rfl rfl (by decide) hi (by omega) hb ?_
  refine cV_mI (p2 := 429) (i := 148) rfl rfl rfl rfl I1 rfl rfl rfl (t_X12_weather (x1 := (l.getD (n + 1) 0)) (x2 := (l.getD (n + 2) 0)) I1) (by decide) (fun y2 h2 I2 g2 r2 => ?_)
  refine te_pop (p2 := 430) rfl rfl rfl ?_
  refine te_goto rfl ?_
  exact kx h1 h2 I2 g1 g2
set_option maxRecDepth 10000 in
set_option maxHeartbeats 2000000 in
theorem lq_tip {l : List Int32} {n : Nat} {i : Int32} {h : im_H} {Q : Option Value → im_H → Prop} (hi : i.toInt = n) (hl : n + 6 ≤ l.length) (hb : l.length < 2147483648) (hI : tI h) (kx : ∀ h1 h2, tI h2 → fr F_X11_tip h h1 → fr F_X12_tip h1 h2 → EvP (im_K1 l) 20 mL_law (1753, lwL i, [], h2) Q) : EvP (im_K1 l) 20 mL_law (433, lwL i, [], h) Q := by
  refine te_aload_n (p2 := 434) rfl rfl rfl ?_
  refine tw_rd (p2 := 439) 1 rfl rfl rfl rfl rfl rfl (by decide) hi (by omega) hb ?_
  refine cV_mI (p2 := 442) (i := 0) rfl rfl rfl rfl hI rfl rfl rfl (t_X11_tip (x1 := (l.getD (n + 1) 0)) hI) (by decide) (fun y1 h1 I1 g1 r1 => ?_)
  refine te_pop (p2 := 443) rfl rfl rfl ?_
  refine te_aload_n (p2 := 444) rfl rfl rfl ?_
  refine tw_rd (p2 := 449) 1 rfl rfl rfl rfl rfl rfl (by decide) hi (by omega) hb ?_
  refine cV_mI (p2 := 452) (i := 148) rfl rfl rfl rfl I1 rfl rfl rfl (t_X12_tip (x1 := (l.getD (n + 1) 0)) I1) (by decide) (fun y2 h2 I2 g2 r2 => ?_)
  refine te_pop (p2 := 453) rfl rfl rfl ?_
  refine te_goto rfl ?_
  exact kx h1 h2 I2 g1 g2
set_option maxRecDepth 10000 in
set_option maxHeartbeats 2000000 in
theorem lq_row {l : List Int32} {n : Nat} {i : Int32} {h : im_H} {Q : Option Value → im_H → Prop} (hi : i.toInt = n) (hl : n + 6 ≤ l.length) (hb : l.length < 2147483648) (hI : tI h) (kx : ∀ h1 h2, tI h2 → fr F_X11_row h h1 → fr F_X12_row h1 h2 → EvP (im_K1 l) 20 mL_law (1753, lwL i, [], h2) Q) : EvP (im_K1 l) 20 mL_law (456, lwL i, [], h) Q := by
  refine te_aload_n (p2 := 457) rfl rfl rfl ?_
  refine tw_rd (p2 := 462) 1 rfl rfl rfl rfl rfl rfl (by decide) hi (by omega) hb ?_
  refine tw_rd (p2 := 467) 2 rfl rfl rfl rfl rfl rfl (by decide) hi (by omega) hb ?_
  refine tw_rd (p2 := 472) 3 rfl rfl rfl rfl rfl rfl (by decide) hi (by omega) hb ?_
  refine tw_rd (p2 := 477) 4 rfl rfl rfl rfl rfl rfl (by decide) hi (by omega) hb ?_
  refine cV_mI (p2 := 480) (i := 0) rfl rfl rfl rfl hI rfl rfl rfl (t_X11_row (x1 := (l.getD (n + 1) 0)) (x2 := (l.getD (n + 2) 0)) (x3 := (l.getD (n + 3) 0)) (x4 := (l.getD (n + 4) 0)) hI) (by decide) (fun y1 h1 I1 g1 r1 => ?_)
  refine te_pop (p2 := 481) rfl rfl rfl ?_
  refine te_aload_n (p2 := 482) rfl rfl rfl ?_
  refine tw_rd (p2 := 487) 1 rfl rfl rfl rfl rfl rfl (by decide) hi (by omega) hb ?_
  refine tw_rd (p2 := 492) 2 rfl rfl rfl rfl rfl rfl (by decide) hi (by omega) hb ?_
  refine tw_rd (p2 := 497) 3 rfl rfl rfl rfl rfl rfl (by decide) hi (by omega) hb ?_
  refine tw_rd (p2 := 502) 4 rfl rfl rfl rfl rfl rfl (by decide) hi (by omega) hb ?_
  refine cV_mI (p2 := 505) (i := 148) rfl rfl rfl rfl I1 rfl rfl rfl (t_X12_row (x1 := (l.getD (n + 1) 0)) (x2 := (l.getD (n + 2) 0)) (x3 := (l.getD (n + 3) 0)) (x4 := (l.getD (n + 4) 0)) I1) (by decide) (fun y2 h2 I2 g2 r2 => ?_)
  refine te_pop (p2 := 506) rfl rfl rfl ?_
  refine te_goto rfl ?_
  exact kx h1 h2 I2 g1 g2
set_option maxRecDepth 10000 in
set_option maxHeartbeats 2000000 in
theorem lq_rail {l : List Int32} {n : Nat} {i : Int32} {h : im_H} {Q : Option Value → im_H → Prop} (hi : i.toInt = n) (hl : n + 6 ≤ l.length) (hb : l.length < 2147483648) (hI : tI h) (hr : rel h) (kx : ∀ h2, tI h2 → rel h2 → EvP (im_K1 l) 20 mL_law (1753, lwL i, [], h2) Q) : EvP (im_K1 l) 20 mL_law (509, lwL i, [], h) Q := by
  refine te_aload_n (p2 := 510) rfl rfl rfl ?_
  refine tw_rd (p2 := 515) 1 rfl rfl rfl rfl rfl rfl (by decide) hi (by omega) hb ?_
  refine tw_rd (p2 := 520) 2 rfl rfl rfl rfl rfl rfl (by decide) hi (by omega) hb ?_
  refine tw_rd (p2 := 525) 3 rfl rfl rfl rfl rfl rfl (by decide) hi (by omega) hb ?_
  refine tc_V (p2 := 528) (i := 0) rfl rfl rfl rfl hI rfl rfl rfl (c_X11_rail (x1 := (l.getD (n + 1) 0)) (x2 := (l.getD (n + 2) 0)) (x3 := (l.getD (n + 3) 0)) hI) (by decide) (fun v1 h1 q1 => ?_)
  obtain ⟨I1, g1, y1, w1, r1⟩ := q1
  subst w1
  show EvP _ _ _ (528, lwL i, [.int y1], h1) _
  refine te_aload_n (p2 := 529) rfl rfl rfl ?_
  refine tw_rd (p2 := 534) 1 rfl rfl rfl rfl rfl rfl (by decide) hi (by omega) hb ?_
  refine tw_rd (p2 := 539) 2 rfl rfl rfl rfl rfl rfl (by decide) hi (by omega) hb ?_
  refine tw_rd (p2 := 544) 3 rfl rfl rfl rfl rfl rfl (by decide) hi (by omega) hb ?_
  refine tc_V (p2 := 547) (i := 148) rfl rfl rfl rfl I1 rfl rfl rfl (c_X12_rail (x1 := (l.getD (n + 1) 0)) (x2 := (l.getD (n + 2) 0)) (x3 := (l.getD (n + 3) 0)) I1) (by decide) (fun v2 h2 q2 => ?_)
  obtain ⟨I2, g2, y2, w2, r2⟩ := q2
  subst w2
  show EvP _ _ _ (547, lwL i, [.int y2, .int y1], h2) _
  obtain ⟨ye, hr2⟩ := relc_rail (x1 := (l.getD (n + 1) 0)) (x2 := (l.getD (n + 2) 0)) (x3 := (l.getD (n + 3) 0)) (y1 := y1) (y2 := y2) hr g1 g2 r1 r2
  refine tb_eq (p2 := 550) rfl rfl rfl rfl (fun _ => kx h2 I2 hr2) (fun hc => absurd (congrArg Int32.toInt ye) hc)
set_option maxRecDepth 10000 in
set_option maxHeartbeats 2000000 in
theorem lq_room {l : List Int32} {n : Nat} {i : Int32} {h : im_H} {Q : Option Value → im_H → Prop} (hi : i.toInt = n) (hl : n + 6 ≤ l.length) (hb : l.length < 2147483648) (hI : tI h) (kx : ∀ h1 h2, tI h2 → fr F_X11_room h h1 → fr F_X12_room h1 h2 → EvP (im_K1 l) 20 mL_law (1753, lwL i, [], h2) Q) : EvP (im_K1 l) 20 mL_law (552, lwL i, [], h) Q := by
  refine te_aload_n (p2 := 553) rfl rfl rfl ?_
  refine tw_rd (p2 := 558) 1 rfl rfl rfl rfl rfl rfl (by decide) hi (by omega) hb ?_
  refine tw_rd (p2 := 563) 2 rfl rfl rfl rfl rfl rfl (by decide) hi (by omega) hb ?_
  refine tw_rd (p2 := 568) 3 rfl rfl rfl rfl rfl rfl (by decide) hi (by omega) hb ?_
  refine tw_rd (p2 := 573) 4 rfl rfl rfl rfl rfl rfl (by decide) hi (by omega) hb ?_
  refine cV_mI (p2 := 576) (i := 0) rfl rfl rfl rfl hI rfl rfl rfl (t_X11_room (x1 := (l.getD (n + 1) 0)) (x2 := (l.getD (n + 2) 0)) (x3 := (l.getD (n + 3) 0)) (x4 := (l.getD (n + 4) 0)) hI) (by decide) (fun y1 h1 I1 g1 r1 => ?_)
  refine te_pop (p2 := 577) rfl rfl rfl ?_
  refine te_aload_n (p2 := 578) rfl rfl rfl ?_
  refine tw_rd (p2 := 583) 1 rfl rfl rfl rfl rfl rfl (by decide) hi (by omega) hb ?_
  refine tw_rd (p2 := 588) 2 rfl rfl rfl rfl rfl rfl (by decide) hi (by omega) hb ?_
  refine tw_rd (p2 := 593) 3 rfl rfl rfl rfl rfl rfl (by decide) hi (by omega) hb ?_
  refine tw_rd (p2 := 598) 4 rfl rfl rfl rfl rfl rfl (by decide) hi (by omega) hb ?_
  refine cV_mI (p2 := 601) (i := 148) rfl rfl rfl rfl I1 rfl rfl rfl (t_X12_room (x1 := (l.getD (n + 1) 0)) (x2 := (l.getD (n + 2) 0)) (x3 := (l.getD (n + 3) 0)) (x4 := (l.getD (n + 4) 0)) I1) (by decide) (fun y2 h2 I2 g2 r2 => ?_)
  refine te_pop (p2 := 602) rfl rfl rfl ?_
  refine te_goto rfl ?_
  exact kx h1 h2 I2 g1 g2
set_option maxRecDepth 10000 in
set_option maxHeartbeats 2000000 in
theorem lq_feed {l : List Int32} {n : Nat} {i : Int32} {h : im_H} {Q : Option Value → im_H → Prop} (hi : i.toInt = n) (hl : n + 6 ≤ l.length) (hb : l.length < 2147483648) (hI : tI h) (kx : ∀ h1 h2, tI h2 → fr F_X11_feed h h1 → fr F_X12_feed h1 h2 → EvP (im_K1 l) 20 mL_law (1753, lwL i, [], h2) Q) : EvP (im_K1 l) 20 mL_law (605, lwL i, [], h) Q := by
  refine te_aload_n (p2 := 606) rfl rfl rfl ?_
  refine tw_rd (p2 := 611) 1 rfl rfl rfl rfl rfl rfl (by decide) hi (by omega) hb ?_
  refine te_i2l (p2 := 612) (z := (Int32.toInt64 (l.getD (n + 1) 0))) rfl rfl rfl ?_
  refine te_bipush (p2 := 614) (x := 32) rfl rfl (by decide) ?_
  refine te_lshl (p2 := 615) (z := ((Int32.toInt64 (l.getD (n + 1) 0)) <<< (Int32.toInt64 32 &&& 63))) rfl rfl rfl ?_
  refine tw_rd (p2 := 620) 2 rfl rfl rfl rfl rfl rfl (by decide) hi (by omega) hb ?_
  refine te_i2l (p2 := 621) (z := (Int32.toInt64 (l.getD (n + 2) 0))) rfl rfl rfl ?_
  refine te_ldc2 (p2 := 624) (x := 4294967295) rfl rfl rfl ?_
  refine te_land (p2 := 625) (z := ((Int32.toInt64 (l.getD (n + 2) 0)) &&& 4294967295)) rfl rfl rfl ?_
  refine te_lor (p2 := 626) (z := (((Int32.toInt64 (l.getD (n + 1) 0)) <<< (Int32.toInt64 32 &&& 63)) ||| ((Int32.toInt64 (l.getD (n + 2) 0)) &&& 4294967295))) rfl rfl rfl ?_
  refine tw_rd (p2 := 631) 3 rfl rfl rfl rfl rfl rfl (by decide) hi (by omega) hb ?_
  refine cV_mI (p2 := 634) (i := 0) rfl rfl rfl rfl hI rfl rfl rfl (t_X11_feed (w := (((Int32.toInt64 (l.getD (n + 1) 0)) <<< (Int32.toInt64 32 &&& 63)) ||| ((Int32.toInt64 (l.getD (n + 2) 0)) &&& 4294967295))) (n := (l.getD (n + 3) 0)) hI) (by decide) (fun y1 h1 I1 g1 r1 => ?_)
  refine te_pop (p2 := 635) rfl rfl rfl ?_
  refine te_aload_n (p2 := 636) rfl rfl rfl ?_
  refine tw_rd (p2 := 641) 1 rfl rfl rfl rfl rfl rfl (by decide) hi (by omega) hb ?_
  refine te_i2l (p2 := 642) (z := (Int32.toInt64 (l.getD (n + 1) 0))) rfl rfl rfl ?_
  refine te_bipush (p2 := 644) (x := 32) rfl rfl (by decide) ?_
  refine te_lshl (p2 := 645) (z := ((Int32.toInt64 (l.getD (n + 1) 0)) <<< (Int32.toInt64 32 &&& 63))) rfl rfl rfl ?_
  refine tw_rd (p2 := 650) 2 rfl rfl rfl rfl rfl rfl (by decide) hi (by omega) hb ?_
  refine te_i2l (p2 := 651) (z := (Int32.toInt64 (l.getD (n + 2) 0))) rfl rfl rfl ?_
  refine te_ldc2 (p2 := 654) (x := 4294967295) rfl rfl rfl ?_
  refine te_land (p2 := 655) (z := ((Int32.toInt64 (l.getD (n + 2) 0)) &&& 4294967295)) rfl rfl rfl ?_
  refine te_lor (p2 := 656) (z := (((Int32.toInt64 (l.getD (n + 1) 0)) <<< (Int32.toInt64 32 &&& 63)) ||| ((Int32.toInt64 (l.getD (n + 2) 0)) &&& 4294967295))) rfl rfl rfl ?_
  refine tw_rd (p2 := 661) 3 rfl rfl rfl rfl rfl rfl (by decide) hi (by omega) hb ?_
  refine cV_mI (p2 := 664) (i := 148) rfl rfl rfl rfl I1 rfl rfl rfl (t_X12_feed (w := (((Int32.toInt64 (l.getD (n + 1) 0)) <<< (Int32.toInt64 32 &&& 63)) ||| ((Int32.toInt64 (l.getD (n + 2) 0)) &&& 4294967295))) (n := (l.getD (n + 3) 0)) I1) (by decide) (fun y2 h2 I2 g2 r2 => ?_)
  refine te_pop (p2 := 665) rfl rfl rfl ?_
  refine te_goto rfl ?_
  exact kx h1 h2 I2 g1 g2
set_option maxRecDepth 10000 in
set_option maxHeartbeats 2000000 in
theorem lq_order {l : List Int32} {n : Nat} {i : Int32} {h : im_H} {Q : Option Value → im_H → Prop} (hi : i.toInt = n) (hl : n + 6 ≤ l.length) (hb : l.length < 2147483648) (hI : tI h) (kx : ∀ h1 h2, tI h2 → fr F_X11_order h h1 → fr F_X12_order h1 h2 → EvP (im_K1 l) 20 mL_law (1753, lwL i, [], h2) Q) : EvP (im_K1 l) 20 mL_law (668, lwL i, [], h) Q := by
  refine te_aload_n (p2 := 669) rfl rfl rfl ?_
  refine cV_mI (p2 := 672) (i := 0) rfl rfl rfl rfl hI rfl rfl rfl (t_X11_order  hI) (by decide) (fun y1 h1 I1 g1 r1 => ?_)
  refine te_pop (p2 := 673) rfl rfl rfl ?_
  refine te_aload_n (p2 := 674) rfl rfl rfl ?_
  refine cV_mI (p2 := 677) (i := 148) rfl rfl rfl rfl I1 rfl rfl rfl (t_X12_order  I1) (by decide) (fun y2 h2 I2 g2 r2 => ?_)
  refine te_pop (p2 := 678) rfl rfl rfl ?_
  refine te_goto rfl ?_
  exact kx h1 h2 I2 g1 g2
set_option maxRecDepth 10000 in
set_option maxHeartbeats 2000000 in
theorem lq_force {l : List Int32} {n : Nat} {i : Int32} {h : im_H} {Q : Option Value → im_H → Prop} (hi : i.toInt = n) (hl : n + 6 ≤ l.length) (hb : l.length < 2147483648) (hI : tI h) (kx : ∀ h1 h2, tI h2 → fr F_X11_force h h1 → fr F_X12_force h1 h2 → EvP (im_K1 l) 20 mL_law (1753, lwL i, [], h2) Q) : EvP (im_K1 l) 20 mL_law (681, lwL i, [], h) Q := by
  refine te_aload_n (p2 := 682) rfl rfl rfl ?_
  refine tw_rd (p2 := 687) 1 rfl rfl rfl rfl rfl rfl (by decide) hi (by omega) hb ?_
  refine cV_mI (p2 := 690) (i := 0) rfl rfl rfl rfl hI rfl rfl rfl (t_X11_force (x1 := (l.getD (n + 1) 0)) hI) (by decide) (fun y1 h1 I1 g1 r1 => ?_)
  refine te_pop (p2 := 691) rfl rfl rfl ?_
  refine te_aload_n (p2 := 692) rfl rfl rfl ?_
  refine tw_rd (p2 := 697) 1 rfl rfl rfl rfl rfl rfl (by decide) hi (by omega) hb ?_
  refine cV_mI (p2 := 700) (i := 148) rfl rfl rfl rfl I1 rfl rfl rfl (t_X12_force (x1 := (l.getD (n + 1) 0)) I1) (by decide) (fun y2 h2 I2 g2 r2 => ?_)
  refine te_pop (p2 := 701) rfl rfl rfl ?_
  refine te_goto rfl ?_
  exact kx h1 h2 I2 g1 g2
set_option maxRecDepth 10000 in
set_option maxHeartbeats 2000000 in
theorem lq_says {l : List Int32} {n : Nat} {i : Int32} {h : im_H} {Q : Option Value → im_H → Prop} (hi : i.toInt = n) (hl : n + 6 ≤ l.length) (hb : l.length < 2147483648) (hI : tI h) (kx : ∀ h1 h2, tI h2 → fr F_X11_says h h1 → fr F_X12_says h1 h2 → EvP (im_K1 l) 20 mL_law (1753, lwL i, [], h2) Q) : EvP (im_K1 l) 20 mL_law (704, lwL i, [], h) Q := by
  refine te_aload_n (p2 := 705) rfl rfl rfl ?_
  refine tw_rd (p2 := 710) 1 rfl rfl rfl rfl rfl rfl (by decide) hi (by omega) hb ?_
  refine tw_rd (p2 := 715) 2 rfl rfl rfl rfl rfl rfl (by decide) hi (by omega) hb ?_
  refine cV_mI (p2 := 718) (i := 0) rfl rfl rfl rfl hI rfl rfl rfl (t_X11_says (x1 := (l.getD (n + 1) 0)) (x2 := (l.getD (n + 2) 0)) hI) (by decide) (fun y1 h1 I1 g1 r1 => ?_)
  refine te_pop (p2 := 719) rfl rfl rfl ?_
  refine te_aload_n (p2 := 720) rfl rfl rfl ?_
  refine tw_rd (p2 := 725) 1 rfl rfl rfl rfl rfl rfl (by decide) hi (by omega) hb ?_
  refine tw_rd (p2 := 730) 2 rfl rfl rfl rfl rfl rfl (by decide) hi (by omega) hb ?_
  refine cV_mI (p2 := 733) (i := 148) rfl rfl rfl rfl I1 rfl rfl rfl (t_X12_says (x1 := (l.getD (n + 1) 0)) (x2 := (l.getD (n + 2) 0)) I1) (by decide) (fun y2 h2 I2 g2 r2 => ?_)
  refine te_pop (p2 := 734) rfl rfl rfl ?_
  refine te_goto rfl ?_
  exact kx h1 h2 I2 g1 g2
set_option maxRecDepth 10000 in
set_option maxHeartbeats 2000000 in
theorem lq_run {l : List Int32} {n : Nat} {i : Int32} {h : im_H} {Q : Option Value → im_H → Prop} (hi : i.toInt = n) (hl : n + 6 ≤ l.length) (hb : l.length < 2147483648) (hI : tI h) (kx : ∀ h1 h2, tI h2 → fr F_X11_run h h1 → fr F_X12_run h1 h2 → EvP (im_K1 l) 20 mL_law (1753, lwL i, [], h2) Q) : EvP (im_K1 l) 20 mL_law (737, lwL i, [], h) Q := by
  refine te_aload_n (p2 := 738) rfl rfl rfl ?_
  refine tw_rd (p2 := 743) 1 rfl rfl rfl rfl rfl rfl (by decide) hi (by omega) hb ?_
  refine cV_mI (p2 := 746) (i := 0) rfl rfl rfl rfl hI rfl rfl rfl (t_X11_run (x1 := (l.getD (n + 1) 0)) hI) (by decide) (fun y1 h1 I1 g1 r1 => ?_)
  refine te_pop (p2 := 747) rfl rfl rfl ?_
  refine te_aload_n (p2 := 748) rfl rfl rfl ?_
  refine tw_rd (p2 := 753) 1 rfl rfl rfl rfl rfl rfl (by decide) hi (by omega) hb ?_
  refine cV_mI (p2 := 756) (i := 148) rfl rfl rfl rfl I1 rfl rfl rfl (t_X12_run (x1 := (l.getD (n + 1) 0)) I1) (by decide) (fun y2 h2 I2 g2 r2 => ?_)
  refine te_pop (p2 := 757) rfl rfl rfl ?_
  refine te_goto rfl ?_
  exact kx h1 h2 I2 g1 g2
set_option maxRecDepth 10000 in
set_option maxHeartbeats 2000000 in
theorem lq_cellTold {l : List Int32} {n : Nat} {i : Int32} {h : im_H} {Q : Option Value → im_H → Prop} (hi : i.toInt = n) (hl : n + 6 ≤ l.length) (hb : l.length < 2147483648) (hI : tI h) (kx : ∀ h1 h2, tI h2 → fr F_X11_cellTold h h1 → fr F_X12_cellTold h1 h2 → EvP (im_K1 l) 20 mL_law (1753, lwL i, [], h2) Q) : EvP (im_K1 l) 20 mL_law (760, lwL i, [], h) Q := by
  refine te_aload_n (p2 := 761) rfl rfl rfl ?_
  refine tw_rd (p2 := 766) 1 rfl rfl rfl rfl rfl rfl (by decide) hi (by omega) hb ?_
  refine tw_rd (p2 := 771) 2 rfl rfl rfl rfl rfl rfl (by decide) hi (by omega) hb ?_
  refine cV_mI (p2 := 774) (i := 0) rfl rfl rfl rfl hI rfl rfl rfl (t_X11_cellTold (x1 := (l.getD (n + 1) 0)) (x2 := (l.getD (n + 2) 0)) hI) (by decide) (fun y1 h1 I1 g1 r1 => ?_)
  refine te_pop (p2 := 775) rfl rfl rfl ?_
  refine te_aload_n (p2 := 776) rfl rfl rfl ?_
  refine tw_rd (p2 := 781) 1 rfl rfl rfl rfl rfl rfl (by decide) hi (by omega) hb ?_
  refine tw_rd (p2 := 786) 2 rfl rfl rfl rfl rfl rfl (by decide) hi (by omega) hb ?_
  refine cV_mI (p2 := 789) (i := 148) rfl rfl rfl rfl I1 rfl rfl rfl (t_X12_cellTold (x1 := (l.getD (n + 1) 0)) (x2 := (l.getD (n + 2) 0)) I1) (by decide) (fun y2 h2 I2 g2 r2 => ?_)
  refine te_pop (p2 := 790) rfl rfl rfl ?_
  refine te_goto rfl ?_
  exact kx h1 h2 I2 g1 g2
set_option maxRecDepth 10000 in
set_option maxHeartbeats 2000000 in
theorem lq_kindTold {l : List Int32} {n : Nat} {i : Int32} {h : im_H} {Q : Option Value → im_H → Prop} (hi : i.toInt = n) (hl : n + 6 ≤ l.length) (hb : l.length < 2147483648) (hI : tI h) (kx : ∀ h1 h2, tI h2 → fr F_X11_kindTold h h1 → fr F_X12_kindTold h1 h2 → EvP (im_K1 l) 20 mL_law (1753, lwL i, [], h2) Q) : EvP (im_K1 l) 20 mL_law (793, lwL i, [], h) Q := by
  refine te_aload_n (p2 := 794) rfl rfl rfl ?_
  refine tw_rd (p2 := 799) 1 rfl rfl rfl rfl rfl rfl (by decide) hi (by omega) hb ?_
  refine tw_rd (p2 := 804) 2 rfl rfl rfl rfl rfl rfl (by decide) hi (by omega) hb ?_
  refine cV_mI (p2 := 807) (i := 0) rfl rfl rfl rfl hI rfl rfl rfl (t_X11_kindTold (x1 := (l.getD (n + 1) 0)) (x2 := (l.getD (n + 2) 0)) hI) (by decide) (fun y1 h1 I1 g1 r1 => ?_)
  refine te_pop (p2 := 808) rfl rfl rfl ?_
  refine te_aload_n (p2 := 809) rfl rfl rfl ?_
  refine tw_rd (p2 := 814) 1 rfl rfl rfl rfl rfl rfl (by decide) hi (by omega) hb ?_
  refine tw_rd (p2 := 819) 2 rfl rfl rfl rfl rfl rfl (by decide) hi (by omega) hb ?_
  refine cV_mI (p2 := 822) (i := 148) rfl rfl rfl rfl I1 rfl rfl rfl (t_X12_kindTold (x1 := (l.getD (n + 1) 0)) (x2 := (l.getD (n + 2) 0)) I1) (by decide) (fun y2 h2 I2 g2 r2 => ?_)
  refine te_pop (p2 := 823) rfl rfl rfl ?_
  refine te_goto rfl ?_
  exact kx h1 h2 I2 g1 g2
set_option maxRecDepth 10000 in
set_option maxHeartbeats 2000000 in
theorem lq_personTold {l : List Int32} {n : Nat} {i : Int32} {h : im_H} {Q : Option Value → im_H → Prop} (hi : i.toInt = n) (hl : n + 6 ≤ l.length) (hb : l.length < 2147483648) (hI : tI h) (kx : ∀ h1 h2, tI h2 → fr F_X11_personTold h h1 → fr F_X12_personTold h1 h2 → EvP (im_K1 l) 20 mL_law (1753, lwL i, [], h2) Q) : EvP (im_K1 l) 20 mL_law (826, lwL i, [], h) Q := by
  refine te_aload_n (p2 := 827) rfl rfl rfl ?_
  refine tw_rd (p2 := 832) 1 rfl rfl rfl rfl rfl rfl (by decide) hi (by omega) hb ?_
  refine tw_rd (p2 := 837) 2 rfl rfl rfl rfl rfl rfl (by decide) hi (by omega) hb ?_
  refine cV_mI (p2 := 840) (i := 0) rfl rfl rfl rfl hI rfl rfl rfl (t_X11_personTold (x1 := (l.getD (n + 1) 0)) (x2 := (l.getD (n + 2) 0)) hI) (by decide) (fun y1 h1 I1 g1 r1 => ?_)
  refine te_pop (p2 := 841) rfl rfl rfl ?_
  refine te_aload_n (p2 := 842) rfl rfl rfl ?_
  refine tw_rd (p2 := 847) 1 rfl rfl rfl rfl rfl rfl (by decide) hi (by omega) hb ?_
  refine tw_rd (p2 := 852) 2 rfl rfl rfl rfl rfl rfl (by decide) hi (by omega) hb ?_
  refine cV_mI (p2 := 855) (i := 148) rfl rfl rfl rfl I1 rfl rfl rfl (t_X12_personTold (x1 := (l.getD (n + 1) 0)) (x2 := (l.getD (n + 2) 0)) I1) (by decide) (fun y2 h2 I2 g2 r2 => ?_)
  refine te_pop (p2 := 856) rfl rfl rfl ?_
  refine te_goto rfl ?_
  exact kx h1 h2 I2 g1 g2
set_option maxRecDepth 10000 in
set_option maxHeartbeats 2000000 in
theorem lq_rowTold {l : List Int32} {n : Nat} {i : Int32} {h : im_H} {Q : Option Value → im_H → Prop} (hi : i.toInt = n) (hl : n + 6 ≤ l.length) (hb : l.length < 2147483648) (hI : tI h) (kx : ∀ h1 h2, tI h2 → fr F_X11_rowTold h h1 → fr F_X12_rowTold h1 h2 → EvP (im_K1 l) 20 mL_law (1753, lwL i, [], h2) Q) : EvP (im_K1 l) 20 mL_law (859, lwL i, [], h) Q := by
  refine te_aload_n (p2 := 860) rfl rfl rfl ?_
  refine tw_rd (p2 := 865) 1 rfl rfl rfl rfl rfl rfl (by decide) hi (by omega) hb ?_
  refine tw_rd (p2 := 870) 2 rfl rfl rfl rfl rfl rfl (by decide) hi (by omega) hb ?_
  refine cV_mI (p2 := 873) (i := 0) rfl rfl rfl rfl hI rfl rfl rfl (t_X11_rowTold (x1 := (l.getD (n + 1) 0)) (x2 := (l.getD (n + 2) 0)) hI) (by decide) (fun y1 h1 I1 g1 r1 => ?_)
  refine te_pop (p2 := 874) rfl rfl rfl ?_
  refine te_aload_n (p2 := 875) rfl rfl rfl ?_
  refine tw_rd (p2 := 880) 1 rfl rfl rfl rfl rfl rfl (by decide) hi (by omega) hb ?_
  refine tw_rd (p2 := 885) 2 rfl rfl rfl rfl rfl rfl (by decide) hi (by omega) hb ?_
  refine cV_mI (p2 := 888) (i := 148) rfl rfl rfl rfl I1 rfl rfl rfl (t_X12_rowTold (x1 := (l.getD (n + 1) 0)) (x2 := (l.getD (n + 2) 0)) I1) (by decide) (fun y2 h2 I2 g2 r2 => ?_)
  refine te_pop (p2 := 889) rfl rfl rfl ?_
  refine te_goto rfl ?_
  exact kx h1 h2 I2 g1 g2
set_option maxRecDepth 10000 in
set_option maxHeartbeats 2000000 in
theorem lq_railTold {l : List Int32} {n : Nat} {i : Int32} {h : im_H} {Q : Option Value → im_H → Prop} (hi : i.toInt = n) (hl : n + 6 ≤ l.length) (hb : l.length < 2147483648) (hI : tI h) (kx : ∀ h1 h2, tI h2 → fr F_X11_railTold h h1 → fr F_X12_railTold h1 h2 → EvP (im_K1 l) 20 mL_law (1753, lwL i, [], h2) Q) : EvP (im_K1 l) 20 mL_law (892, lwL i, [], h) Q := by
  refine te_aload_n (p2 := 893) rfl rfl rfl ?_
  refine tw_rd (p2 := 898) 1 rfl rfl rfl rfl rfl rfl (by decide) hi (by omega) hb ?_
  refine tw_rd (p2 := 903) 2 rfl rfl rfl rfl rfl rfl (by decide) hi (by omega) hb ?_
  refine cV_mI (p2 := 906) (i := 0) rfl rfl rfl rfl hI rfl rfl rfl (t_X11_railTold (x1 := (l.getD (n + 1) 0)) (x2 := (l.getD (n + 2) 0)) hI) (by decide) (fun y1 h1 I1 g1 r1 => ?_)
  refine te_pop (p2 := 907) rfl rfl rfl ?_
  refine te_aload_n (p2 := 908) rfl rfl rfl ?_
  refine tw_rd (p2 := 913) 1 rfl rfl rfl rfl rfl rfl (by decide) hi (by omega) hb ?_
  refine tw_rd (p2 := 918) 2 rfl rfl rfl rfl rfl rfl (by decide) hi (by omega) hb ?_
  refine cV_mI (p2 := 921) (i := 148) rfl rfl rfl rfl I1 rfl rfl rfl (t_X12_railTold (x1 := (l.getD (n + 1) 0)) (x2 := (l.getD (n + 2) 0)) I1) (by decide) (fun y2 h2 I2 g2 r2 => ?_)
  refine te_pop (p2 := 922) rfl rfl rfl ?_
  refine te_goto rfl ?_
  exact kx h1 h2 I2 g1 g2
set_option maxRecDepth 10000 in
set_option maxHeartbeats 2000000 in
theorem lq_wallTold {l : List Int32} {n : Nat} {i : Int32} {h : im_H} {Q : Option Value → im_H → Prop} (hi : i.toInt = n) (hl : n + 6 ≤ l.length) (hb : l.length < 2147483648) (hI : tI h) (kx : ∀ h1 h2, tI h2 → fr F_X11_wallTold h h1 → fr F_X12_wallTold h1 h2 → EvP (im_K1 l) 20 mL_law (1753, lwL i, [], h2) Q) : EvP (im_K1 l) 20 mL_law (925, lwL i, [], h) Q := by
  refine te_aload_n (p2 := 926) rfl rfl rfl ?_
  refine tw_rd (p2 := 931) 1 rfl rfl rfl rfl rfl rfl (by decide) hi (by omega) hb ?_
  refine tw_rd (p2 := 936) 2 rfl rfl rfl rfl rfl rfl (by decide) hi (by omega) hb ?_
  refine cV_mI (p2 := 939) (i := 0) rfl rfl rfl rfl hI rfl rfl rfl (t_X11_wallTold (x1 := (l.getD (n + 1) 0)) (x2 := (l.getD (n + 2) 0)) hI) (by decide) (fun y1 h1 I1 g1 r1 => ?_)
  refine te_pop (p2 := 940) rfl rfl rfl ?_
  refine te_aload_n (p2 := 941) rfl rfl rfl ?_
  refine tw_rd (p2 := 946) 1 rfl rfl rfl rfl rfl rfl (by decide) hi (by omega) hb ?_
  refine tw_rd (p2 := 951) 2 rfl rfl rfl rfl rfl rfl (by decide) hi (by omega) hb ?_
  refine cV_mI (p2 := 954) (i := 148) rfl rfl rfl rfl I1 rfl rfl rfl (t_X12_wallTold (x1 := (l.getD (n + 1) 0)) (x2 := (l.getD (n + 2) 0)) I1) (by decide) (fun y2 h2 I2 g2 r2 => ?_)
  refine te_pop (p2 := 955) rfl rfl rfl ?_
  refine te_goto rfl ?_
  exact kx h1 h2 I2 g1 g2
set_option maxRecDepth 10000 in
set_option maxHeartbeats 2000000 in
theorem lq_count {l : List Int32} {n : Nat} {i : Int32} {h : im_H} {Q : Option Value → im_H → Prop} (hi : i.toInt = n) (hl : n + 6 ≤ l.length) (hb : l.length < 2147483648) (hI : tI h) (kx : ∀ h1 h2, tI h2 → fr F_X11_count h h1 → fr F_X12_count h1 h2 → EvP (im_K1 l) 20 mL_law (1753, lwL i, [], h2) Q) : EvP (im_K1 l) 20 mL_law (958, lwL i, [], h) Q := by
  refine te_aload_n (p2 := 959) rfl rfl rfl ?_
  refine tw_rd (p2 := 964) 1 rfl rfl rfl rfl rfl rfl (by decide) hi (by omega) hb ?_
  refine cV_mI (p2 := 967) (i := 0) rfl rfl rfl rfl hI rfl rfl rfl (t_X11_count (x1 := (l.getD (n + 1) 0)) hI) (by decide) (fun y1 h1 I1 g1 r1 => ?_)
  refine te_pop (p2 := 968) rfl rfl rfl ?_
  refine te_aload_n (p2 := 969) rfl rfl rfl ?_
  refine tw_rd (p2 := 974) 1 rfl rfl rfl rfl rfl rfl (by decide) hi (by omega) hb ?_
  refine cV_mI (p2 := 977) (i := 148) rfl rfl rfl rfl I1 rfl rfl rfl (t_X12_count (x1 := (l.getD (n + 1) 0)) I1) (by decide) (fun y2 h2 I2 g2 r2 => ?_)
  refine te_pop (p2 := 978) rfl rfl rfl ?_
  refine te_goto rfl ?_
  exact kx h1 h2 I2 g1 g2
set_option maxRecDepth 10000 in
set_option maxHeartbeats 2000000 in
theorem lq_pull {l : List Int32} {n : Nat} {i : Int32} {h : im_H} {Q : Option Value → im_H → Prop} (hi : i.toInt = n) (hl : n + 6 ≤ l.length) (hb : l.length < 2147483648) (hI : tI h) (kx : ∀ h1 h2, tI h2 → fr F_X11_pull h h1 → fr F_X12_pull h1 h2 → EvP (im_K1 l) 20 mL_law (1753, lwL i, [], h2) Q) : EvP (im_K1 l) 20 mL_law (981, lwL i, [], h) Q := by
  refine te_aload_n (p2 := 982) rfl rfl rfl ?_
  refine tw_rd (p2 := 987) 1 rfl rfl rfl rfl rfl rfl (by decide) hi (by omega) hb ?_
  refine cV_mI (p2 := 990) (i := 0) rfl rfl rfl rfl hI rfl rfl rfl (t_X11_pull (x1 := (l.getD (n + 1) 0)) hI) (by decide) (fun y1 h1 I1 g1 r1 => ?_)
  refine te_pop (p2 := 991) rfl rfl rfl ?_
  refine te_aload_n (p2 := 992) rfl rfl rfl ?_
  refine tw_rd (p2 := 997) 1 rfl rfl rfl rfl rfl rfl (by decide) hi (by omega) hb ?_
  refine cV_mI (p2 := 1000) (i := 148) rfl rfl rfl rfl I1 rfl rfl rfl (t_X12_pull (x1 := (l.getD (n + 1) 0)) I1) (by decide) (fun y2 h2 I2 g2 r2 => ?_)
  refine te_pop (p2 := 1001) rfl rfl rfl ?_
  refine te_goto rfl ?_
  exact kx h1 h2 I2 g1 g2
set_option maxRecDepth 10000 in
set_option maxHeartbeats 2000000 in
theorem lq_pulls {l : List Int32} {n : Nat} {i : Int32} {h : im_H} {Q : Option Value → im_H → Prop} (hi : i.toInt = n) (hl : n + 6 ≤ l.length) (hb : l.length < 2147483648) (hI : tI h) (kx : ∀ h1 h2, tI h2 → fr F_X11_pulls h h1 → fr F_X12_pulls h1 h2 → EvP (im_K1 l) 20 mL_law (1753, lwL i, [], h2) Q) : EvP (im_K1 l) 20 mL_law (1004, lwL i, [], h) Q := by
  refine te_aload_n (p2 := 1005) rfl rfl rfl ?_
  refine tw_rd (p2 := 1010) 1 rfl rfl rfl rfl rfl rfl (by decide) hi (by omega) hb ?_
  refine cV_mI (p2 := 1013) (i := 0) rfl rfl rfl rfl hI rfl rfl rfl (t_X11_pulls (x1 := (l.getD (n + 1) 0)) hI) (by decide) (fun y1 h1 I1 g1 r1 => ?_)
  refine te_pop (p2 := 1014) rfl rfl rfl ?_
  refine te_aload_n (p2 := 1015) rfl rfl rfl ?_
  refine tw_rd (p2 := 1020) 1 rfl rfl rfl rfl rfl rfl (by decide) hi (by omega) hb ?_
  refine cV_mI (p2 := 1023) (i := 148) rfl rfl rfl rfl I1 rfl rfl rfl (t_X12_pulls (x1 := (l.getD (n + 1) 0)) I1) (by decide) (fun y2 h2 I2 g2 r2 => ?_)
  refine te_pop (p2 := 1024) rfl rfl rfl ?_
  refine te_goto rfl ?_
  exact kx h1 h2 I2 g1 g2
set_option maxRecDepth 10000 in
set_option maxHeartbeats 2000000 in
theorem lq_pullTold {l : List Int32} {n : Nat} {i : Int32} {h : im_H} {Q : Option Value → im_H → Prop} (hi : i.toInt = n) (hl : n + 6 ≤ l.length) (hb : l.length < 2147483648) (hI : tI h) (kx : ∀ h1 h2, tI h2 → fr F_X11_pullTold h h1 → fr F_X12_pullTold h1 h2 → EvP (im_K1 l) 20 mL_law (1753, lwL i, [], h2) Q) : EvP (im_K1 l) 20 mL_law (1027, lwL i, [], h) Q := by
  refine te_aload_n (p2 := 1028) rfl rfl rfl ?_
  refine tw_rd (p2 := 1033) 1 rfl rfl rfl rfl rfl rfl (by decide) hi (by omega) hb ?_
  refine cV_mI (p2 := 1036) (i := 0) rfl rfl rfl rfl hI rfl rfl rfl (t_X11_pullTold (x1 := (l.getD (n + 1) 0)) hI) (by decide) (fun y1 h1 I1 g1 r1 => ?_)
  refine te_pop (p2 := 1037) rfl rfl rfl ?_
  refine te_aload_n (p2 := 1038) rfl rfl rfl ?_
  refine tw_rd (p2 := 1043) 1 rfl rfl rfl rfl rfl rfl (by decide) hi (by omega) hb ?_
  refine cV_mI (p2 := 1046) (i := 148) rfl rfl rfl rfl I1 rfl rfl rfl (t_X12_pullTold (x1 := (l.getD (n + 1) 0)) I1) (by decide) (fun y2 h2 I2 g2 r2 => ?_)
  refine te_pop (p2 := 1047) rfl rfl rfl ?_
  refine te_goto rfl ?_
  exact kx h1 h2 I2 g1 g2
set_option maxRecDepth 10000 in
set_option maxHeartbeats 2000000 in
theorem lq_mends {l : List Int32} {n : Nat} {i : Int32} {h : im_H} {Q : Option Value → im_H → Prop} (hi : i.toInt = n) (hl : n + 6 ≤ l.length) (hb : l.length < 2147483648) (hI : tI h) (kx : ∀ h1 h2, tI h2 → fr F_X11_mends h h1 → fr F_X12_mends h1 h2 → EvP (im_K1 l) 20 mL_law (1753, lwL i, [], h2) Q) : EvP (im_K1 l) 20 mL_law (1050, lwL i, [], h) Q := by
  refine te_aload_n (p2 := 1051) rfl rfl rfl ?_
  refine tw_rd (p2 := 1056) 1 rfl rfl rfl rfl rfl rfl (by decide) hi (by omega) hb ?_
  refine cV_mI (p2 := 1059) (i := 0) rfl rfl rfl rfl hI rfl rfl rfl (t_X11_mends (x1 := (l.getD (n + 1) 0)) hI) (by decide) (fun y1 h1 I1 g1 r1 => ?_)
  refine te_pop (p2 := 1060) rfl rfl rfl ?_
  refine te_aload_n (p2 := 1061) rfl rfl rfl ?_
  refine tw_rd (p2 := 1066) 1 rfl rfl rfl rfl rfl rfl (by decide) hi (by omega) hb ?_
  refine cV_mI (p2 := 1069) (i := 148) rfl rfl rfl rfl I1 rfl rfl rfl (t_X12_mends (x1 := (l.getD (n + 1) 0)) I1) (by decide) (fun y2 h2 I2 g2 r2 => ?_)
  refine te_pop (p2 := 1070) rfl rfl rfl ?_
  refine te_goto rfl ?_
  exact kx h1 h2 I2 g1 g2
set_option maxRecDepth 10000 in
set_option maxHeartbeats 2000000 in
theorem lq_mendTold {l : List Int32} {n : Nat} {i : Int32} {h : im_H} {Q : Option Value → im_H → Prop} (hi : i.toInt = n) (hl : n + 6 ≤ l.length) (hb : l.length < 2147483648) (hI : tI h) (kx : ∀ h1 h2, tI h2 → fr F_X11_mendTold h h1 → fr F_X12_mendTold h1 h2 → EvP (im_K1 l) 20 mL_law (1753, lwL i, [], h2) Q) : EvP (im_K1 l) 20 mL_law (1073, lwL i, [], h) Q := by
  refine te_aload_n (p2 := 1074) rfl rfl rfl ?_
  refine cV_mI (p2 := 1077) (i := 0) rfl rfl rfl rfl hI rfl rfl rfl (t_X11_mendTold  hI) (by decide) (fun y1 h1 I1 g1 r1 => ?_)
  refine te_pop (p2 := 1078) rfl rfl rfl ?_
  refine te_aload_n (p2 := 1079) rfl rfl rfl ?_
  refine cV_mI (p2 := 1082) (i := 148) rfl rfl rfl rfl I1 rfl rfl rfl (t_X12_mendTold  I1) (by decide) (fun y2 h2 I2 g2 r2 => ?_)
  refine te_pop (p2 := 1083) rfl rfl rfl ?_
  refine te_goto rfl ?_
  exact kx h1 h2 I2 g1 g2
set_option maxRecDepth 10000 in
set_option maxHeartbeats 2000000 in
theorem lq_mend {l : List Int32} {n : Nat} {i : Int32} {h : im_H} {Q : Option Value → im_H → Prop} (hi : i.toInt = n) (hl : n + 6 ≤ l.length) (hb : l.length < 2147483648) (hI : tI h) (kx : ∀ h1 h2, tI h2 → fr F_X11_mend h h1 → fr F_X12_mend h1 h2 → EvP (im_K1 l) 20 mL_law (1753, lwL i, [], h2) Q) : EvP (im_K1 l) 20 mL_law (1086, lwL i, [], h) Q := by
  refine te_aload_n (p2 := 1087) rfl rfl rfl ?_
  refine tw_rd (p2 := 1092) 1 rfl rfl rfl rfl rfl rfl (by decide) hi (by omega) hb ?_
  refine cV_mI (p2 := 1095) (i := 0) rfl rfl rfl rfl hI rfl rfl rfl (t_X11_mend (x1 := (l.getD (n + 1) 0)) hI) (by decide) (fun y1 h1 I1 g1 r1 => ?_)
  refine te_pop (p2 := 1096) rfl rfl rfl ?_
  refine te_aload_n (p2 := 1097) rfl rfl rfl ?_
  refine tw_rd (p2 := 1102) 1 rfl rfl rfl rfl rfl rfl (by decide) hi (by omega) hb ?_
  refine cV_mI (p2 := 1105) (i := 148) rfl rfl rfl rfl I1 rfl rfl rfl (t_X12_mend (x1 := (l.getD (n + 1) 0)) I1) (by decide) (fun y2 h2 I2 g2 r2 => ?_)
  refine te_pop (p2 := 1106) rfl rfl rfl ?_
  refine te_goto rfl ?_
  exact kx h1 h2 I2 g1 g2
set_option maxRecDepth 10000 in
set_option maxHeartbeats 2000000 in
theorem lq_roomTold {l : List Int32} {n : Nat} {i : Int32} {h : im_H} {Q : Option Value → im_H → Prop} (hi : i.toInt = n) (hl : n + 6 ≤ l.length) (hb : l.length < 2147483648) (hI : tI h) (kx : ∀ h1 h2, tI h2 → fr F_X11_roomTold h h1 → fr F_X12_roomTold h1 h2 → EvP (im_K1 l) 20 mL_law (1753, lwL i, [], h2) Q) : EvP (im_K1 l) 20 mL_law (1109, lwL i, [], h) Q := by
  refine te_aload_n (p2 := 1110) rfl rfl rfl ?_
  refine tw_rd (p2 := 1115) 1 rfl rfl rfl rfl rfl rfl (by decide) hi (by omega) hb ?_
  refine tw_rd (p2 := 1120) 2 rfl rfl rfl rfl rfl rfl (by decide) hi (by omega) hb ?_
  refine cV_mI (p2 := 1123) (i := 0) rfl rfl rfl rfl hI rfl rfl rfl (t_X11_roomTold (x1 := (l.getD (n + 1) 0)) (x2 := (l.getD (n + 2) 0)) hI) (by decide) (fun y1 h1 I1 g1 r1 => ?_)
  refine te_pop (p2 := 1124) rfl rfl rfl ?_
  refine te_aload_n (p2 := 1125) rfl rfl rfl ?_
  refine tw_rd (p2 := 1130) 1 rfl rfl rfl rfl rfl rfl (by decide) hi (by omega) hb ?_
  refine tw_rd (p2 := 1135) 2 rfl rfl rfl rfl rfl rfl (by decide) hi (by omega) hb ?_
  refine cV_mI (p2 := 1138) (i := 148) rfl rfl rfl rfl I1 rfl rfl rfl (t_X12_roomTold (x1 := (l.getD (n + 1) 0)) (x2 := (l.getD (n + 2) 0)) I1) (by decide) (fun y2 h2 I2 g2 r2 => ?_)
  refine te_pop (p2 := 1139) rfl rfl rfl ?_
  refine te_goto rfl ?_
  exact kx h1 h2 I2 g1 g2
set_option maxRecDepth 10000 in
set_option maxHeartbeats 2000000 in
theorem lq_raid {l : List Int32} {n : Nat} {i : Int32} {h : im_H} {Q : Option Value → im_H → Prop} (hi : i.toInt = n) (hl : n + 6 ≤ l.length) (hb : l.length < 2147483648) (hI : tI h) (kx : ∀ h1 h2, tI h2 → fr F_X11_raid h h1 → fr F_X12_raid h1 h2 → EvP (im_K1 l) 20 mL_law (1753, lwL i, [], h2) Q) : EvP (im_K1 l) 20 mL_law (1142, lwL i, [], h) Q := by
  refine te_aload_n (p2 := 1143) rfl rfl rfl ?_
  refine tw_rd (p2 := 1148) 1 rfl rfl rfl rfl rfl rfl (by decide) hi (by omega) hb ?_
  refine tw_rd (p2 := 1153) 2 rfl rfl rfl rfl rfl rfl (by decide) hi (by omega) hb ?_
  refine tw_rd (p2 := 1158) 3 rfl rfl rfl rfl rfl rfl (by decide) hi (by omega) hb ?_
  refine tw_rd (p2 := 1163) 4 rfl rfl rfl rfl rfl rfl (by decide) hi (by omega) hb ?_
  refine cV_mI (p2 := 1166) (i := 0) rfl rfl rfl rfl hI rfl rfl rfl (t_X11_raid (x1 := (l.getD (n + 1) 0)) (x2 := (l.getD (n + 2) 0)) (x3 := (l.getD (n + 3) 0)) (x4 := (l.getD (n + 4) 0)) hI) (by decide) (fun y1 h1 I1 g1 r1 => ?_)
  refine te_pop (p2 := 1167) rfl rfl rfl ?_
  refine te_aload_n (p2 := 1168) rfl rfl rfl ?_
  refine tw_rd (p2 := 1173) 1 rfl rfl rfl rfl rfl rfl (by decide) hi (by omega) hb ?_
  refine tw_rd (p2 := 1178) 2 rfl rfl rfl rfl rfl rfl (by decide) hi (by omega) hb ?_
  refine tw_rd (p2 := 1183) 3 rfl rfl rfl rfl rfl rfl (by decide) hi (by omega) hb ?_
  refine tw_rd (p2 := 1188) 4 rfl rfl rfl rfl rfl rfl (by decide) hi (by omega) hb ?_
  refine cV_mI (p2 := 1191) (i := 148) rfl rfl rfl rfl I1 rfl rfl rfl (t_X12_raid (x1 := (l.getD (n + 1) 0)) (x2 := (l.getD (n + 2) 0)) (x3 := (l.getD (n + 3) 0)) (x4 := (l.getD (n + 4) 0)) I1) (by decide) (fun y2 h2 I2 g2 r2 => ?_)
  refine te_pop (p2 := 1192) rfl rfl rfl ?_
  refine te_goto rfl ?_
  exact kx h1 h2 I2 g1 g2
set_option maxRecDepth 10000 in
set_option maxHeartbeats 2000000 in
theorem lq_probe {l : List Int32} {n : Nat} {i : Int32} {h : im_H} {Q : Option Value → im_H → Prop} (hi : i.toInt = n) (hl : n + 6 ≤ l.length) (hb : l.length < 2147483648) (hI : tI h) (kx : ∀ h1 h2, tI h2 → fr F_X11_probe h h1 → fr F_X12_probe h1 h2 → EvP (im_K1 l) 20 mL_law (1753, lwL i, [], h2) Q) : EvP (im_K1 l) 20 mL_law (1195, lwL i, [], h) Q := by
  refine te_aload_n (p2 := 1196) rfl rfl rfl ?_
  refine tw_rd (p2 := 1201) 1 rfl rfl rfl rfl rfl rfl (by decide) hi (by omega) hb ?_
  refine tw_rd (p2 := 1206) 2 rfl rfl rfl rfl rfl rfl (by decide) hi (by omega) hb ?_
  refine cV_mI (p2 := 1209) (i := 0) rfl rfl rfl rfl hI rfl rfl rfl (t_X11_probe (x1 := (l.getD (n + 1) 0)) (x2 := (l.getD (n + 2) 0)) hI) (by decide) (fun y1 h1 I1 g1 r1 => ?_)
  refine te_pop (p2 := 1210) rfl rfl rfl ?_
  refine te_aload_n (p2 := 1211) rfl rfl rfl ?_
  refine tw_rd (p2 := 1216) 1 rfl rfl rfl rfl rfl rfl (by decide) hi (by omega) hb ?_
  refine tw_rd (p2 := 1221) 2 rfl rfl rfl rfl rfl rfl (by decide) hi (by omega) hb ?_
  refine cV_mI (p2 := 1224) (i := 148) rfl rfl rfl rfl I1 rfl rfl rfl (t_X12_probe (x1 := (l.getD (n + 1) 0)) (x2 := (l.getD (n + 2) 0)) I1) (by decide) (fun y2 h2 I2 g2 r2 => ?_)
  refine te_pop (p2 := 1225) rfl rfl rfl ?_
  refine te_goto rfl ?_
  exact kx h1 h2 I2 g1 g2
set_option maxRecDepth 10000 in
set_option maxHeartbeats 2000000 in
theorem lq_likely {l : List Int32} {n : Nat} {i : Int32} {h : im_H} {Q : Option Value → im_H → Prop} (hi : i.toInt = n) (hl : n + 6 ≤ l.length) (hb : l.length < 2147483648) (hI : tI h) (kx : ∀ h1 h2, tI h2 → fr F_X11_likely h h1 → fr F_X12_likely h1 h2 → EvP (im_K1 l) 20 mL_law (1753, lwL i, [], h2) Q) : EvP (im_K1 l) 20 mL_law (1228, lwL i, [], h) Q := by
  refine te_aload_n (p2 := 1229) rfl rfl rfl ?_
  refine tw_rd (p2 := 1234) 1 rfl rfl rfl rfl rfl rfl (by decide) hi (by omega) hb ?_
  refine tw_rd (p2 := 1239) 2 rfl rfl rfl rfl rfl rfl (by decide) hi (by omega) hb ?_
  refine cV_mL (p2 := 1242) (i := 0) rfl rfl rfl rfl hI rfl rfl rfl (t_X11_likely (x1 := (l.getD (n + 1) 0)) (x2 := (l.getD (n + 2) 0)) hI) (by decide) (fun y1 h1 I1 g1 => ?_)
  refine te_pop2 (p2 := 1243) rfl rfl rfl ?_
  refine te_aload_n (p2 := 1244) rfl rfl rfl ?_
  refine tw_rd (p2 := 1249) 1 rfl rfl rfl rfl rfl rfl (by decide) hi (by omega) hb ?_
  refine tw_rd (p2 := 1254) 2 rfl rfl rfl rfl rfl rfl (by decide) hi (by omega) hb ?_
  refine cV_mL (p2 := 1257) (i := 148) rfl rfl rfl rfl I1 rfl rfl rfl (t_X12_likely (x1 := (l.getD (n + 1) 0)) (x2 := (l.getD (n + 2) 0)) I1) (by decide) (fun y2 h2 I2 g2 => ?_)
  refine te_pop2 (p2 := 1258) rfl rfl rfl ?_
  refine te_goto rfl ?_
  exact kx h1 h2 I2 g1 g2
set_option maxRecDepth 10000 in
set_option maxHeartbeats 2000000 in
theorem lq_next {l : List Int32} {n : Nat} {i : Int32} {h : im_H} {Q : Option Value → im_H → Prop} (hi : i.toInt = n) (hl : n + 6 ≤ l.length) (hb : l.length < 2147483648) (hI : tI h) (kx : ∀ h1 h2, tI h2 → fr F_X11_next h h1 → fr F_X12_next h1 h2 → EvP (im_K1 l) 20 mL_law (1753, lwL i, [], h2) Q) : EvP (im_K1 l) 20 mL_law (1261, lwL i, [], h) Q := by
  refine te_aload_n (p2 := 1262) rfl rfl rfl ?_
  refine cV_mI (p2 := 1265) (i := 0) rfl rfl rfl rfl hI rfl rfl rfl (t_X11_next  hI) (by decide) (fun y1 h1 I1 g1 r1 => ?_)
  refine te_pop (p2 := 1266) rfl rfl rfl ?_
  refine te_aload_n (p2 := 1267) rfl rfl rfl ?_
  refine cV_mI (p2 := 1270) (i := 148) rfl rfl rfl rfl I1 rfl rfl rfl (t_X12_next  I1) (by decide) (fun y2 h2 I2 g2 r2 => ?_)
  refine te_pop (p2 := 1271) rfl rfl rfl ?_
  refine te_goto rfl ?_
  exact kx h1 h2 I2 g1 g2
set_option maxRecDepth 10000 in
set_option maxHeartbeats 2000000 in
theorem lq_paper {l : List Int32} {n : Nat} {i : Int32} {h : im_H} {Q : Option Value → im_H → Prop} (hi : i.toInt = n) (hl : n + 6 ≤ l.length) (hb : l.length < 2147483648) (hI : tI h) (kx : ∀ h1 h2, tI h2 → fr F_X11_paper h h1 → fr F_X12_paper h1 h2 → EvP (im_K1 l) 20 mL_law (1753, lwL i, [], h2) Q) : EvP (im_K1 l) 20 mL_law (1274, lwL i, [], h) Q := by
  refine te_aload_n (p2 := 1275) rfl rfl rfl ?_
  refine tw_rd (p2 := 1280) 1 rfl rfl rfl rfl rfl rfl (by decide) hi (by omega) hb ?_
  refine tw_rd (p2 := 1285) 2 rfl rfl rfl rfl rfl rfl (by decide) hi (by omega) hb ?_
  refine tw_rd (p2 := 1290) 3 rfl rfl rfl rfl rfl rfl (by decide) hi (by omega) hb ?_
  refine cV_mI (p2 := 1293) (i := 0) rfl rfl rfl rfl hI rfl rfl rfl (t_X11_paper (x1 := (l.getD (n + 1) 0)) (x2 := (l.getD (n + 2) 0)) (x3 := (l.getD (n + 3) 0)) hI) (by decide) (fun y1 h1 I1 g1 r1 => ?_)
  refine te_pop (p2 := 1294) rfl rfl rfl ?_
  refine te_aload_n (p2 := 1295) rfl rfl rfl ?_
  refine tw_rd (p2 := 1300) 1 rfl rfl rfl rfl rfl rfl (by decide) hi (by omega) hb ?_
  refine tw_rd (p2 := 1305) 2 rfl rfl rfl rfl rfl rfl (by decide) hi (by omega) hb ?_
  refine tw_rd (p2 := 1310) 3 rfl rfl rfl rfl rfl rfl (by decide) hi (by omega) hb ?_
  refine cV_mI (p2 := 1313) (i := 148) rfl rfl rfl rfl I1 rfl rfl rfl (t_X12_paper (x1 := (l.getD (n + 1) 0)) (x2 := (l.getD (n + 2) 0)) (x3 := (l.getD (n + 3) 0)) I1) (by decide) (fun y2 h2 I2 g2 r2 => ?_)
  refine te_pop (p2 := 1314) rfl rfl rfl ?_
  refine te_goto rfl ?_
  exact kx h1 h2 I2 g1 g2
set_option maxRecDepth 10000 in
set_option maxHeartbeats 2000000 in
theorem lq_burn {l : List Int32} {n : Nat} {i : Int32} {h : im_H} {Q : Option Value → im_H → Prop} (hi : i.toInt = n) (hl : n + 6 ≤ l.length) (hb : l.length < 2147483648) (hI : tI h) (kx : ∀ h1 h2, tI h2 → fr F_X11_burn h h1 → fr F_X12_burn h1 h2 → EvP (im_K1 l) 20 mL_law (1753, lwL i, [], h2) Q) : EvP (im_K1 l) 20 mL_law (1317, lwL i, [], h) Q := by
  refine te_aload_n (p2 := 1318) rfl rfl rfl ?_
  refine tw_rd (p2 := 1323) 1 rfl rfl rfl rfl rfl rfl (by decide) hi (by omega) hb ?_
  refine cV_mI (p2 := 1326) (i := 0) rfl rfl rfl rfl hI rfl rfl rfl (t_X11_burn (x1 := (l.getD (n + 1) 0)) hI) (by decide) (fun y1 h1 I1 g1 r1 => ?_)
  refine te_pop (p2 := 1327) rfl rfl rfl ?_
  refine te_aload_n (p2 := 1328) rfl rfl rfl ?_
  refine tw_rd (p2 := 1333) 1 rfl rfl rfl rfl rfl rfl (by decide) hi (by omega) hb ?_
  refine cV_mI (p2 := 1336) (i := 148) rfl rfl rfl rfl I1 rfl rfl rfl (t_X12_burn (x1 := (l.getD (n + 1) 0)) I1) (by decide) (fun y2 h2 I2 g2 r2 => ?_)
  refine te_pop (p2 := 1337) rfl rfl rfl ?_
  refine te_goto rfl ?_
  exact kx h1 h2 I2 g1 g2
set_option maxRecDepth 10000 in
set_option maxHeartbeats 2000000 in
theorem lq_owner {l : List Int32} {n : Nat} {i : Int32} {h : im_H} {Q : Option Value → im_H → Prop} (hi : i.toInt = n) (hl : n + 6 ≤ l.length) (hb : l.length < 2147483648) (hI : tI h) (kx : ∀ h1 h2, tI h2 → fr F_X11_owner h h1 → fr F_X12_owner h1 h2 → EvP (im_K1 l) 20 mL_law (1753, lwL i, [], h2) Q) : EvP (im_K1 l) 20 mL_law (1340, lwL i, [], h) Q := by
  refine te_aload_n (p2 := 1341) rfl rfl rfl ?_
  refine tw_rd (p2 := 1346) 1 rfl rfl rfl rfl rfl rfl (by decide) hi (by omega) hb ?_
  refine tw_rd (p2 := 1351) 2 rfl rfl rfl rfl rfl rfl (by decide) hi (by omega) hb ?_
  refine tw_rd (p2 := 1356) 3 rfl rfl rfl rfl rfl rfl (by decide) hi (by omega) hb ?_
  refine cV_mI (p2 := 1359) (i := 0) rfl rfl rfl rfl hI rfl rfl rfl (t_X11_owner (x1 := (l.getD (n + 1) 0)) (x2 := (l.getD (n + 2) 0)) (x3 := (l.getD (n + 3) 0)) hI) (by decide) (fun y1 h1 I1 g1 r1 => ?_)
  refine te_pop (p2 := 1360) rfl rfl rfl ?_
  refine te_aload_n (p2 := 1361) rfl rfl rfl ?_
  refine tw_rd (p2 := 1366) 1 rfl rfl rfl rfl rfl rfl (by decide) hi (by omega) hb ?_
  refine tw_rd (p2 := 1371) 2 rfl rfl rfl rfl rfl rfl (by decide) hi (by omega) hb ?_
  refine tw_rd (p2 := 1376) 3 rfl rfl rfl rfl rfl rfl (by decide) hi (by omega) hb ?_
  refine cV_mI (p2 := 1379) (i := 148) rfl rfl rfl rfl I1 rfl rfl rfl (t_X12_owner (x1 := (l.getD (n + 1) 0)) (x2 := (l.getD (n + 2) 0)) (x3 := (l.getD (n + 3) 0)) I1) (by decide) (fun y2 h2 I2 g2 r2 => ?_)
  refine te_pop (p2 := 1380) rfl rfl rfl ?_
  refine te_goto rfl ?_
  exact kx h1 h2 I2 g1 g2
set_option maxRecDepth 10000 in
set_option maxHeartbeats 2000000 in
theorem lq_heirs {l : List Int32} {n : Nat} {i : Int32} {h : im_H} {Q : Option Value → im_H → Prop} (hi : i.toInt = n) (hl : n + 6 ≤ l.length) (hb : l.length < 2147483648) (hI : tI h) (kx : ∀ h1 h2, tI h2 → fr F_X11_heirs h h1 → fr F_X12_heirs h1 h2 → EvP (im_K1 l) 20 mL_law (1753, lwL i, [], h2) Q) : EvP (im_K1 l) 20 mL_law (1383, lwL i, [], h) Q := by
  refine te_aload_n (p2 := 1384) rfl rfl rfl ?_
  refine tw_rd (p2 := 1389) 1 rfl rfl rfl rfl rfl rfl (by decide) hi (by omega) hb ?_
  refine tw_rd (p2 := 1394) 2 rfl rfl rfl rfl rfl rfl (by decide) hi (by omega) hb ?_
  refine tw_rd (p2 := 1399) 3 rfl rfl rfl rfl rfl rfl (by decide) hi (by omega) hb ?_
  refine cV_mI (p2 := 1402) (i := 0) rfl rfl rfl rfl hI rfl rfl rfl (t_X11_heirs (x1 := (l.getD (n + 1) 0)) (x2 := (l.getD (n + 2) 0)) (x3 := (l.getD (n + 3) 0)) hI) (by decide) (fun y1 h1 I1 g1 r1 => ?_)
  refine te_pop (p2 := 1403) rfl rfl rfl ?_
  refine te_aload_n (p2 := 1404) rfl rfl rfl ?_
  refine tw_rd (p2 := 1409) 1 rfl rfl rfl rfl rfl rfl (by decide) hi (by omega) hb ?_
  refine tw_rd (p2 := 1414) 2 rfl rfl rfl rfl rfl rfl (by decide) hi (by omega) hb ?_
  refine tw_rd (p2 := 1419) 3 rfl rfl rfl rfl rfl rfl (by decide) hi (by omega) hb ?_
  refine cV_mI (p2 := 1422) (i := 148) rfl rfl rfl rfl I1 rfl rfl rfl (t_X12_heirs (x1 := (l.getD (n + 1) 0)) (x2 := (l.getD (n + 2) 0)) (x3 := (l.getD (n + 3) 0)) I1) (by decide) (fun y2 h2 I2 g2 r2 => ?_)
  refine te_pop (p2 := 1423) rfl rfl rfl ?_
  refine te_goto rfl ?_
  exact kx h1 h2 I2 g1 g2
set_option maxRecDepth 10000 in
set_option maxHeartbeats 2000000 in
theorem lq_beside {l : List Int32} {n : Nat} {i : Int32} {h : im_H} {Q : Option Value → im_H → Prop} (hi : i.toInt = n) (hl : n + 6 ≤ l.length) (hb : l.length < 2147483648) (hI : tI h) (kx : ∀ h1 h2, tI h2 → fr F_X11_beside h h1 → fr F_X12_beside h1 h2 → EvP (im_K1 l) 20 mL_law (1753, lwL i, [], h2) Q) : EvP (im_K1 l) 20 mL_law (1426, lwL i, [], h) Q := by
  refine te_aload_n (p2 := 1427) rfl rfl rfl ?_
  refine tw_rd (p2 := 1432) 1 rfl rfl rfl rfl rfl rfl (by decide) hi (by omega) hb ?_
  refine tw_rd (p2 := 1437) 2 rfl rfl rfl rfl rfl rfl (by decide) hi (by omega) hb ?_
  refine cV_mL (p2 := 1440) (i := 0) rfl rfl rfl rfl hI rfl rfl rfl (t_X11_beside (x1 := (l.getD (n + 1) 0)) (x2 := (l.getD (n + 2) 0)) hI) (by decide) (fun y1 h1 I1 g1 => ?_)
  refine te_pop2 (p2 := 1441) rfl rfl rfl ?_
  refine te_aload_n (p2 := 1442) rfl rfl rfl ?_
  refine tw_rd (p2 := 1447) 1 rfl rfl rfl rfl rfl rfl (by decide) hi (by omega) hb ?_
  refine tw_rd (p2 := 1452) 2 rfl rfl rfl rfl rfl rfl (by decide) hi (by omega) hb ?_
  refine cV_mL (p2 := 1455) (i := 148) rfl rfl rfl rfl I1 rfl rfl rfl (t_X12_beside (x1 := (l.getD (n + 1) 0)) (x2 := (l.getD (n + 2) 0)) I1) (by decide) (fun y2 h2 I2 g2 => ?_)
  refine te_pop2 (p2 := 1456) rfl rfl rfl ?_
  refine te_goto rfl ?_
  exact kx h1 h2 I2 g1 g2
set_option maxRecDepth 10000 in
set_option maxHeartbeats 2000000 in
theorem lq_clear {l : List Int32} {n : Nat} {i : Int32} {h : im_H} {Q : Option Value → im_H → Prop} (hi : i.toInt = n) (hl : n + 6 ≤ l.length) (hb : l.length < 2147483648) (hI : tI h) (kx : ∀ h1 h2, tI h2 → fr F_X11_clear h h1 → fr F_X12_clear h1 h2 → EvP (im_K1 l) 20 mL_law (1753, lwL i, [], h2) Q) : EvP (im_K1 l) 20 mL_law (1459, lwL i, [], h) Q := by
  refine te_aload_n (p2 := 1460) rfl rfl rfl ?_
  refine tw_rd (p2 := 1465) 1 rfl rfl rfl rfl rfl rfl (by decide) hi (by omega) hb ?_
  refine tw_rd (p2 := 1470) 2 rfl rfl rfl rfl rfl rfl (by decide) hi (by omega) hb ?_
  refine cV_mI (p2 := 1473) (i := 0) rfl rfl rfl rfl hI rfl rfl rfl (t_X11_clear (x1 := (l.getD (n + 1) 0)) (x2 := (l.getD (n + 2) 0)) hI) (by decide) (fun y1 h1 I1 g1 r1 => ?_)
  refine te_pop (p2 := 1474) rfl rfl rfl ?_
  refine te_aload_n (p2 := 1475) rfl rfl rfl ?_
  refine tw_rd (p2 := 1480) 1 rfl rfl rfl rfl rfl rfl (by decide) hi (by omega) hb ?_
  refine tw_rd (p2 := 1485) 2 rfl rfl rfl rfl rfl rfl (by decide) hi (by omega) hb ?_
  refine cV_mI (p2 := 1488) (i := 148) rfl rfl rfl rfl I1 rfl rfl rfl (t_X12_clear (x1 := (l.getD (n + 1) 0)) (x2 := (l.getD (n + 2) 0)) I1) (by decide) (fun y2 h2 I2 g2 r2 => ?_)
  refine te_pop (p2 := 1489) rfl rfl rfl ?_
  refine te_goto rfl ?_
  exact kx h1 h2 I2 g1 g2
set_option maxRecDepth 10000 in
set_option maxHeartbeats 2000000 in
theorem lq_image {l : List Int32} {n : Nat} {i : Int32} {h : im_H} {Q : Option Value → im_H → Prop} (hi : i.toInt = n) (hl : n + 6 ≤ l.length) (hb : l.length < 2147483648) (hI : tI h) (kx : ∀ h1 h2, tI h2 → fr F_X11_image h h1 → fr F_X12_image h1 h2 → EvP (im_K1 l) 20 mL_law (1753, lwL i, [], h2) Q) : EvP (im_K1 l) 20 mL_law (1492, lwL i, [], h) Q := by
  refine te_aload_n (p2 := 1493) rfl rfl rfl ?_
  refine cV_mI (p2 := 1496) (i := 0) rfl rfl rfl rfl hI rfl rfl rfl (t_X11_image  hI) (by decide) (fun y1 h1 I1 g1 r1 => ?_)
  refine te_pop (p2 := 1497) rfl rfl rfl ?_
  refine te_aload_n (p2 := 1498) rfl rfl rfl ?_
  refine cV_mI (p2 := 1501) (i := 148) rfl rfl rfl rfl I1 rfl rfl rfl (t_X12_image  I1) (by decide) (fun y2 h2 I2 g2 r2 => ?_)
  refine te_pop (p2 := 1502) rfl rfl rfl ?_
  refine te_goto rfl ?_
  exact kx h1 h2 I2 g1 g2
set_option maxRecDepth 10000 in
set_option maxHeartbeats 2000000 in
theorem lq_back {l : List Int32} {n : Nat} {i : Int32} {h : im_H} {Q : Option Value → im_H → Prop} (hi : i.toInt = n) (hl : n + 6 ≤ l.length) (hb : l.length < 2147483648) (hI : tI h) (kx : ∀ h1 h2, tI h2 → fr F_X11_back h h1 → fr F_X12_back h1 h2 → EvP (im_K1 l) 20 mL_law (1753, lwL i, [], h2) Q) : EvP (im_K1 l) 20 mL_law (1505, lwL i, [], h) Q := by
  refine te_aload_n (p2 := 1506) rfl rfl rfl ?_
  refine cV_mI (p2 := 1509) (i := 0) rfl rfl rfl rfl hI rfl rfl rfl (t_X11_back  hI) (by decide) (fun y1 h1 I1 g1 r1 => ?_)
  refine te_pop (p2 := 1510) rfl rfl rfl ?_
  refine te_aload_n (p2 := 1511) rfl rfl rfl ?_
  refine cV_mI (p2 := 1514) (i := 148) rfl rfl rfl rfl I1 rfl rfl rfl (t_X12_back  I1) (by decide) (fun y2 h2 I2 g2 r2 => ?_)
  refine te_pop (p2 := 1515) rfl rfl rfl ?_
  refine te_goto rfl ?_
  exact kx h1 h2 I2 g1 g2
set_option maxRecDepth 10000 in
set_option maxHeartbeats 2000000 in
theorem lq_sheet {l : List Int32} {n : Nat} {i : Int32} {h : im_H} {Q : Option Value → im_H → Prop} (hi : i.toInt = n) (hl : n + 6 ≤ l.length) (hb : l.length < 2147483648) (hI : tI h) (hr : rel h) (kx : ∀ h2, tI h2 → rel h2 → EvP (im_K1 l) 20 mL_law (1753, lwL i, [], h2) Q) : EvP (im_K1 l) 20 mL_law (1518, lwL i, [], h) Q := by
  refine te_aload_n (p2 := 1519) rfl rfl rfl ?_
  refine tw_rd (p2 := 1524) 1 rfl rfl rfl rfl rfl rfl (by decide) hi (by omega) hb ?_
  refine tw_rd (p2 := 1529) 2 rfl rfl rfl rfl rfl rfl (by decide) hi (by omega) hb ?_
  refine tw_rd (p2 := 1534) 3 rfl rfl rfl rfl rfl rfl (by decide) hi (by omega) hb ?_
  refine tc_V (p2 := 1537) (i := 0) rfl rfl rfl rfl hI rfl rfl rfl (c_X11_sheet (x1 := (l.getD (n + 1) 0)) (x2 := (l.getD (n + 2) 0)) (x3 := (l.getD (n + 3) 0)) hI) (by decide) (fun v1 h1 q1 => ?_)
  obtain ⟨I1, g1, y1, w1, r1⟩ := q1
  subst w1
  show EvP _ _ _ (1537, lwL i, [.int y1], h1) _
  refine te_pop (p2 := 1538) rfl rfl rfl ?_
  refine te_aload_n (p2 := 1539) rfl rfl rfl ?_
  refine tw_rd (p2 := 1544) 1 rfl rfl rfl rfl rfl rfl (by decide) hi (by omega) hb ?_
  refine tw_rd (p2 := 1549) 2 rfl rfl rfl rfl rfl rfl (by decide) hi (by omega) hb ?_
  refine tw_rd (p2 := 1554) 3 rfl rfl rfl rfl rfl rfl (by decide) hi (by omega) hb ?_
  refine tc_V (p2 := 1557) (i := 148) rfl rfl rfl rfl I1 rfl rfl rfl (c_X12_sheet (x1 := (l.getD (n + 1) 0)) (x2 := (l.getD (n + 2) 0)) (x3 := (l.getD (n + 3) 0)) I1) (by decide) (fun v2 h2 q2 => ?_)
  obtain ⟨I2, g2, y2, w2, r2⟩ := q2
  subst w2
  show EvP _ _ _ (1557, lwL i, [.int y2], h2) _
  refine te_pop (p2 := 1558) rfl rfl rfl ?_
  refine te_goto rfl ?_
  exact kx h2 I2 (relc_sheet (x1 := (l.getD (n + 1) 0)) (x2 := (l.getD (n + 2) 0)) (x3 := (l.getD (n + 3) 0)) (y1 := y1) (y2 := y2) hr g1 g2 r1 r2)
set_option maxRecDepth 10000 in
set_option maxHeartbeats 2000000 in
theorem lq_cell {l : List Int32} {n : Nat} {i : Int32} {h : im_H} {Q : Option Value → im_H → Prop} (hi : i.toInt = n) (hl : n + 6 ≤ l.length) (hb : l.length < 2147483648) (hI : tI h) (hr : rel h) (kx : ∀ h2, tI h2 → rel h2 → EvP (im_K1 l) 20 mL_law (1753, lwL i, [], h2) Q) : EvP (im_K1 l) 20 mL_law (1561, lwL i, [], h) Q := by
  refine te_aload_n (p2 := 1562) rfl rfl rfl ?_
  refine tw_rd (p2 := 1567) 1 rfl rfl rfl rfl rfl rfl (by decide) hi (by omega) hb ?_
  refine tw_rd (p2 := 1572) 2 rfl rfl rfl rfl rfl rfl (by decide) hi (by omega) hb ?_
  refine tw_rd (p2 := 1577) 3 rfl rfl rfl rfl rfl rfl (by decide) hi (by omega) hb ?_
  refine tc_V (p2 := 1580) (i := 0) rfl rfl rfl rfl hI rfl rfl rfl (c_X11_cell (x1 := (l.getD (n + 1) 0)) (x2 := (l.getD (n + 2) 0)) (x3 := (l.getD (n + 3) 0)) hI) (by decide) (fun v1 h1 q1 => ?_)
  obtain ⟨I1, g1, y1, w1, r1⟩ := q1
  subst w1
  show EvP _ _ _ (1580, lwL i, [.int y1], h1) _
  refine te_pop (p2 := 1581) rfl rfl rfl ?_
  refine te_aload_n (p2 := 1582) rfl rfl rfl ?_
  refine tw_rd (p2 := 1587) 1 rfl rfl rfl rfl rfl rfl (by decide) hi (by omega) hb ?_
  refine tw_rd (p2 := 1592) 2 rfl rfl rfl rfl rfl rfl (by decide) hi (by omega) hb ?_
  refine tw_rd (p2 := 1597) 3 rfl rfl rfl rfl rfl rfl (by decide) hi (by omega) hb ?_
  refine tc_V (p2 := 1600) (i := 148) rfl rfl rfl rfl I1 rfl rfl rfl (c_X12_cell (x1 := (l.getD (n + 1) 0)) (x2 := (l.getD (n + 2) 0)) (x3 := (l.getD (n + 3) 0)) I1) (by decide) (fun v2 h2 q2 => ?_)
  obtain ⟨I2, g2, y2, w2, r2⟩ := q2
  subst w2
  show EvP _ _ _ (1600, lwL i, [.int y2], h2) _
  refine te_pop (p2 := 1601) rfl rfl rfl ?_
  refine te_goto rfl ?_
  exact kx h2 I2 (relc_cell (x1 := (l.getD (n + 1) 0)) (x2 := (l.getD (n + 2) 0)) (x3 := (l.getD (n + 3) 0)) (y1 := y1) (y2 := y2) hr g1 g2 r1 r2)
set_option maxRecDepth 10000 in
set_option maxHeartbeats 2000000 in
theorem lq_copy {l : List Int32} {n : Nat} {i : Int32} {h : im_H} {Q : Option Value → im_H → Prop} (hi : i.toInt = n) (hl : n + 6 ≤ l.length) (hb : l.length < 2147483648) (hI : tI h) (hr : rel h) (kx : ∀ h2, tI h2 → rel h2 → EvP (im_K1 l) 20 mL_law (1753, lwL i, [], h2) Q) : EvP (im_K1 l) 20 mL_law (1604, lwL i, [], h) Q := by
  refine te_aload_n (p2 := 1605) rfl rfl rfl ?_
  refine tw_rd (p2 := 1610) 1 rfl rfl rfl rfl rfl rfl (by decide) hi (by omega) hb ?_
  refine tw_rd (p2 := 1615) 2 rfl rfl rfl rfl rfl rfl (by decide) hi (by omega) hb ?_
  refine tw_rd (p2 := 1620) 3 rfl rfl rfl rfl rfl rfl (by decide) hi (by omega) hb ?_
  refine tw_rd (p2 := 1625) 4 rfl rfl rfl rfl rfl rfl (by decide) hi (by omega) hb ?_
  refine tw_rd (p2 := 1630) 5 rfl rfl rfl rfl rfl rfl (by decide) hi (by omega) hb ?_
  refine tc_V (p2 := 1633) (i := 0) rfl rfl rfl rfl hI rfl rfl rfl (c_X11_copy (x1 := (l.getD (n + 1) 0)) (x2 := (l.getD (n + 2) 0)) (x3 := (l.getD (n + 3) 0)) (x4 := (l.getD (n + 4) 0)) (x5 := (l.getD (n + 5) 0)) hI) (by decide) (fun v1 h1 q1 => ?_)
  obtain ⟨I1, g1, y1, w1, r1⟩ := q1
  subst w1
  show EvP _ _ _ (1633, lwL i, [.int y1], h1) _
  refine te_pop (p2 := 1634) rfl rfl rfl ?_
  refine te_aload_n (p2 := 1635) rfl rfl rfl ?_
  refine tw_rd (p2 := 1640) 1 rfl rfl rfl rfl rfl rfl (by decide) hi (by omega) hb ?_
  refine tw_rd (p2 := 1645) 2 rfl rfl rfl rfl rfl rfl (by decide) hi (by omega) hb ?_
  refine tw_rd (p2 := 1650) 3 rfl rfl rfl rfl rfl rfl (by decide) hi (by omega) hb ?_
  refine tw_rd (p2 := 1655) 4 rfl rfl rfl rfl rfl rfl (by decide) hi (by omega) hb ?_
  refine tw_rd (p2 := 1660) 5 rfl rfl rfl rfl rfl rfl (by decide) hi (by omega) hb ?_
  refine tc_V (p2 := 1663) (i := 148) rfl rfl rfl rfl I1 rfl rfl rfl (c_X12_copy (x1 := (l.getD (n + 1) 0)) (x2 := (l.getD (n + 2) 0)) (x3 := (l.getD (n + 3) 0)) (x4 := (l.getD (n + 4) 0)) (x5 := (l.getD (n + 5) 0)) I1) (by decide) (fun v2 h2 q2 => ?_)
  obtain ⟨I2, g2, y2, w2, r2⟩ := q2
  subst w2
  show EvP _ _ _ (1663, lwL i, [.int y2], h2) _
  refine te_pop (p2 := 1664) rfl rfl rfl ?_
  refine te_goto rfl ?_
  exact kx h2 I2 (relc_copy (x1 := (l.getD (n + 1) 0)) (x2 := (l.getD (n + 2) 0)) (x3 := (l.getD (n + 3) 0)) (x4 := (l.getD (n + 4) 0)) (x5 := (l.getD (n + 5) 0)) (y1 := y1) (y2 := y2) hr g1 g2 r1 r2)
set_option maxRecDepth 10000 in
set_option maxHeartbeats 2000000 in
theorem lq_people {l : List Int32} {n : Nat} {i : Int32} {h : im_H} {Q : Option Value → im_H → Prop} (hi : i.toInt = n) (hl : n + 6 ≤ l.length) (hb : l.length < 2147483648) (hI : tI h) (kx : ∀ h1 h2, tI h2 → fr F_X11_people h h1 → fr F_X12_people h1 h2 → EvP (im_K1 l) 20 mL_law (1753, lwL i, [], h2) Q) : EvP (im_K1 l) 20 mL_law (1667, lwL i, [], h) Q := by
  refine te_aload_n (p2 := 1668) rfl rfl rfl ?_
  refine tw_rd (p2 := 1673) 1 rfl rfl rfl rfl rfl rfl (by decide) hi (by omega) hb ?_
  refine tw_rd (p2 := 1678) 2 rfl rfl rfl rfl rfl rfl (by decide) hi (by omega) hb ?_
  refine tw_rd (p2 := 1683) 3 rfl rfl rfl rfl rfl rfl (by decide) hi (by omega) hb ?_
  refine tw_rd (p2 := 1688) 4 rfl rfl rfl rfl rfl rfl (by decide) hi (by omega) hb ?_
  refine cV_mI (p2 := 1691) (i := 0) rfl rfl rfl rfl hI rfl rfl rfl (t_X11_people (x1 := (l.getD (n + 1) 0)) (x2 := (l.getD (n + 2) 0)) (x3 := (l.getD (n + 3) 0)) (x4 := (l.getD (n + 4) 0)) hI) (by decide) (fun y1 h1 I1 g1 r1 => ?_)
  refine te_pop (p2 := 1692) rfl rfl rfl ?_
  refine te_aload_n (p2 := 1693) rfl rfl rfl ?_
  refine tw_rd (p2 := 1698) 1 rfl rfl rfl rfl rfl rfl (by decide) hi (by omega) hb ?_
  refine tw_rd (p2 := 1703) 2 rfl rfl rfl rfl rfl rfl (by decide) hi (by omega) hb ?_
  refine tw_rd (p2 := 1708) 3 rfl rfl rfl rfl rfl rfl (by decide) hi (by omega) hb ?_
  refine tw_rd (p2 := 1713) 4 rfl rfl rfl rfl rfl rfl (by decide) hi (by omega) hb ?_
  refine cV_mI (p2 := 1716) (i := 148) rfl rfl rfl rfl I1 rfl rfl rfl (t_X12_people (x1 := (l.getD (n + 1) 0)) (x2 := (l.getD (n + 2) 0)) (x3 := (l.getD (n + 3) 0)) (x4 := (l.getD (n + 4) 0)) I1) (by decide) (fun y2 h2 I2 g2 r2 => ?_)
  refine te_pop (p2 := 1717) rfl rfl rfl ?_
  refine te_goto rfl ?_
  exact kx h1 h2 I2 g1 g2
set_option maxRecDepth 10000 in
set_option maxHeartbeats 2000000 in
theorem lq_taken {l : List Int32} {n : Nat} {i : Int32} {h : im_H} {Q : Option Value → im_H → Prop} (hi : i.toInt = n) (hl : n + 6 ≤ l.length) (hb : l.length < 2147483648) (hI : tI h) (kx : ∀ h1 h2, tI h2 → fr F_X11_taken h h1 → fr F_X12_taken h1 h2 → EvP (im_K1 l) 20 mL_law (1753, lwL i, [], h2) Q) : EvP (im_K1 l) 20 mL_law (1720, lwL i, [], h) Q := by
  refine te_aload_n (p2 := 1721) rfl rfl rfl ?_
  refine tw_rd (p2 := 1726) 1 rfl rfl rfl rfl rfl rfl (by decide) hi (by omega) hb ?_
  refine tw_rd (p2 := 1731) 2 rfl rfl rfl rfl rfl rfl (by decide) hi (by omega) hb ?_
  refine cV_mI (p2 := 1734) (i := 0) rfl rfl rfl rfl hI rfl rfl rfl (t_X11_taken (x1 := (l.getD (n + 1) 0)) (x2 := (l.getD (n + 2) 0)) hI) (by decide) (fun y1 h1 I1 g1 r1 => ?_)
  refine te_pop (p2 := 1735) rfl rfl rfl ?_
  refine te_aload_n (p2 := 1736) rfl rfl rfl ?_
  refine tw_rd (p2 := 1741) 1 rfl rfl rfl rfl rfl rfl (by decide) hi (by omega) hb ?_
  refine tw_rd (p2 := 1746) 2 rfl rfl rfl rfl rfl rfl (by decide) hi (by omega) hb ?_
  refine cV_mI (p2 := 1749) (i := 148) rfl rfl rfl rfl I1 rfl rfl rfl (t_X12_taken (x1 := (l.getD (n + 1) 0)) (x2 := (l.getD (n + 2) 0)) I1) (by decide) (fun y2 h2 I2 g2 r2 => ?_)
  refine te_pop (p2 := 1750) rfl rfl rfl ?_
  refine te_goto rfl ?_
  exact kx h1 h2 I2 g1 g2
