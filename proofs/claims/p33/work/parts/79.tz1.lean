abbrev R_C (h : im_H) : Prop := rd h 77 0 = rd h 148 29
theorem R_C_fr {F : List (Nat × Nat × Nat)} {h h2 : im_H} (hr : R_C h) (g : fr F h h2) (a0 : inF F 77 0 = false) (b0 : inF F 148 29 = false) : R_C h2 := (g _ _ a0).trans (hr.trans (g _ _ b0).symm)
abbrev R_S (h : im_H) : Prop := (∀ k : Nat, k < 8 → rd h 88 k = rd h 176 k)
theorem R_S_fr {F : List (Nat × Nat × Nat)} {h h2 : im_H} (hr : R_S h) (g : fr F h h2) (a0 : ∀ k, k < 8 → inF F 88 k = false) (b0 : ∀ k, k < 8 → inF F 176 k = false) : R_S h2 := fun k hk => (g _ _ (a0 k hk)).trans ((hr k hk).trans (g _ _ (b0 k hk)).symm)
def R_P (h : im_H) : Prop := ∀ k : Nat, rd h 90 k = rd h 177 k
theorem R_P_fr {F : List (Nat × Nat × Nat)} {h h2 : im_H} (hr : R_P h) (g : fr F h h2) (a : ∀ k, inF F 90 k = false) (b : ∀ k, inF F 177 k = false) : R_P h2 := fun k => (g _ _ (a k)).trans ((hr k).trans (g _ _ (b k)).symm)
def R_M (h : im_H) : Prop := ∀ p : Int32, rd h 77 0 = some (.int p) → 0 ≤ p.toInt ∧ p.toInt ≤ 8
theorem R_M_fr {F : List (Nat × Nat × Nat)} {h h2 : im_H} (hr : R_M h) (g : fr F h h2) (a : inF F 77 0 = false) : R_M h2 := fun p e => hr p ((g _ _ a).symm.trans e)
def R_O (h : im_H) : Prop := ∀ r : Nat, ∀ p : Int32, rd h 77 0 = some (.int p) → (r : Int) < p.toInt → (∀ c : Int32, ovc h r c ↔ ovh h r c) ∧ (rv h 89 r).toInt = opn h r ∧ 0 ≤ (rv h 173 r).toInt ∧ (rv h 173 r).toInt ≤ 99
theorem rv_e {h h2 : im_H} {i k : Nat} (e : rd h2 i k = rd h i k) : rv h2 i k = rv h i k := by unfold rv; rw [e]
theorem ovc_e {h H : im_H} {r : Nat} {c : Int32} (e1 : rv H 87 r = rv h 87 r) (e2 : ∀ j, rv H (79 + r) j = rv h (79 + r) j) : ovc H r c ↔ ovc h r c := by
  unfold ovc
  rw [e1]
  constructor
  · intro ⟨j, hj, e⟩; exact ⟨j, hj, by rw [← e2]; exact e⟩
  · intro ⟨j, hj, e⟩; exact ⟨j, hj, by rw [e2]; exact e⟩
theorem ovh_e {h H : im_H} {r : Nat} {c : Int32} (e1 : rv H 173 r = rv h 173 r) (e2 : rv H 174 r = rv h 174 r) (e3 : rv H 175 r = rv h 175 r) : ovh H r c ↔ ovh h r c := by unfold ovh; rw [e1, e2, e3]
theorem R_O_e {h h2 : im_H} (hr : R_O h) (hm : R_M h) (c0 : rd h2 77 0 = rd h 77 0) (e79 : ∀ r, r < 8 → ∀ k, rd h2 (79 + r) k = rd h (79 + r) k) (e : ∀ k, rd h2 87 k = rd h 87 k ∧ rd h2 89 k = rd h 89 k ∧ rd h2 173 k = rd h 173 k ∧ rd h2 174 k = rd h 174 k ∧ rd h2 175 k = rd h 175 k ∧ rd h2 177 k = rd h 177 k) : R_O h2 := by
  intro r p ep hp
  have ep0 := c0.symm.trans ep
  have hb := hm p ep0
  obtain ⟨a, b, c, d⟩ := hr r p ep0 hp
  obtain ⟨e1, e2, e3, e4, e5, _⟩ := e r
  have e6 : rv h2 177 = rv h 177 := funext fun k => rv_e (e k).2.2.2.2.2
  refine ⟨fun c => (ovc_e (rv_e e1) (fun j => rv_e (e79 r (by omega) j))).trans ((a c).trans (ovh_e (rv_e e3) (rv_e e4) (rv_e e5)).symm), ?_, by rw [rv_e e3]; exact c, by rw [rv_e e3]; exact d⟩
  unfold opn
  rw [rv_e e2, rv_e e3, rv_e e4, rv_e e5, e6]
  exact b
theorem R_O_fr {F : List (Nat × Nat × Nat)} {h h2 : im_H} (hr : R_O h) (hm : R_M h) (g : fr F h h2) (c0 : inF F 77 0 = false) (a0 : ∀ k, inF F 79 k = false) (a1 : ∀ k, inF F 80 k = false) (a2 : ∀ k, inF F 81 k = false) (a3 : ∀ k, inF F 82 k = false) (a4 : ∀ k, inF F 83 k = false) (a5 : ∀ k, inF F 84 k = false) (a6 : ∀ k, inF F 85 k = false) (a7 : ∀ k, inF F 86 k = false) (b1 : ∀ k, inF F 87 k = false) (b2 : ∀ k, inF F 89 k = false) (b3 : ∀ k, inF F 173 k = false) (b4 : ∀ k, inF F 174 k = false) (b5 : ∀ k, inF F 175 k = false) (b6 : ∀ k, inF F 177 k = false) : R_O h2 :=
  R_O_e hr hm (g _ _ c0) (fun r hr k => by
    rcases (show r = 0 ∨ r = 1 ∨ r = 2 ∨ r = 3 ∨ r = 4 ∨ r = 5 ∨ r = 6 ∨ r = 7 by omega) with e | e | e | e | e | e | e | e <;> subst e
    · exact g _ _ (a0 k)
    · exact g _ _ (a1 k)
    · exact g _ _ (a2 k)
    · exact g _ _ (a3 k)
    · exact g _ _ (a4 k)
    · exact g _ _ (a5 k)
    · exact g _ _ (a6 k)
    · exact g _ _ (a7 k)) (fun k => ⟨g _ _ (b1 k), g _ _ (b2 k), g _ _ (b3 k), g _ _ (b4 k), g _ _ (b5 k), g _ _ (b6 k)⟩)
def R_Z (h : im_H) : Prop := ∃ p : Int32, rd h 77 0 = some (.int p)
theorem R_Z_fr {F : List (Nat × Nat × Nat)} {h h2 : im_H} (hr : R_Z h) (g : fr F h h2) (a : inF F 77 0 = false) : R_Z h2 := by
  obtain ⟨p, e⟩ := hr
  exact ⟨p, (g _ _ a).trans e⟩
def rel (h : im_H) : Prop := R_C h ∧ R_S h ∧ R_P h ∧ R_M h ∧ R_O h ∧ R_Z h
set_option maxRecDepth 20000 in
theorem p_hh : R_P hh := fun k => (rd_ia (t := 1) rfl).trans (rd_ia (t := 1) rfl).symm
theorem m_hh : R_M hh := fun p e => by
  have e_ : (0 : Int32) = p := int_inj (by rfl) e
  rw [← e_]; decide
theorem o_hh : R_O hh := fun r p e hp => by
  have e_ : (0 : Int32) = p := int_inj (by rfl) e
  rw [← e_] at hp
  exact absurd hp (by rw [show Int32.toInt 0 = 0 from rfl]; omega)
theorem fgR {x1 x2 x3 x4 p : Int32} (p0 : 0 ≤ p.toInt) : (0 ≤ (fRd x1 x2 x3 x4 p).toInt → (gRd x1 x2 x3 x4 p).toInt = p.toInt + 1 ∧ p.toInt < 8 ∧ 0 ≤ x1.toInt ∧ x1.toInt ≤ 99) ∧ (¬ 0 ≤ (fRd x1 x2 x3 x4 p).toInt → gRd x1 x2 x3 x4 p = p) := by
  unfold fRd gRd
  by_cases h1 : 0 ≤ x1.toInt ∧ x1.toInt ≤ 99
  · rw [if_pos h1, if_pos h1]
    by_cases h2 : 0 ≤ x2.toInt ∧ x2.toInt ≤ 3 ∧ 1 ≤ x3.toInt ∧ x3.toInt ≤ 10 ∧ 1 ≤ x4.toInt ∧ x4.toInt ≤ 9
    · rw [if_pos h2, if_pos h2]
      by_cases h3 : 8 ≤ p.toInt
      · rw [if_pos h3, if_pos h3]; exact ⟨fun h9 => absurd h9 (by decide), fun _ => rfl⟩
      · rw [if_neg h3, if_neg h3]; exact ⟨fun _ => ⟨i32_addE rfl (by omega) (by omega), by omega, h1⟩, fun h9 => absurd p0 h9⟩
    · rw [if_neg h2, if_neg h2]; exact ⟨fun h9 => absurd h9 (by decide), fun _ => rfl⟩
  · rw [if_neg h1, if_neg h1]; exact ⟨fun h9 => absurd h9 (by decide), fun _ => rfl⟩
theorem raid_join {h h1 h2 : im_H} {x1 x2 x3 x4 : Int32} {y1 y2 : Int32} (C : R_C h) (S : R_S h) (P : R_P h) (M : R_M h) (O : R_O h) (g1 : fr F_X11_raid h h1) (g2 : fr F_X12_raid h1 h2) (r1 : Q1_raid x1 x2 x3 x4 y1 h h1) (r2 : Q2_raid x1 x2 x3 x4 y2 h1 h2) : R_C h2 ∧ R_S h2 ∧ R_M h2 ∧ R_O h2 := by
  obtain ⟨p, e1, f1, n1, s1, k1⟩ := r1
  obtain ⟨q, e2, f2, n2, s2, k2⟩ := r2
  have j1 : p = q := int_inj e1 (C.trans ((g1 148 29 rfl).symm.trans e2))
  subst j1
  have ye : y1 = y2 := f1.trans f2.symm
  rw [← ye] at s2 k2
  have hm := M p e1
  have fg := fgR (x1 := x1) (x2 := x2) (x3 := x3) (x4 := x4) hm.1
  rw [← f1] at fg
  have nb : ∀ p2 : Int32, rd h2 77 0 = some (.int p2) → (0 ≤ y1.toInt → p2.toInt = p.toInt + 1) ∧ (¬ 0 ≤ y1.toInt → p2 = p) := fun p2 ep => by
    have e : p2 = gRd x1 x2 x3 x4 p := int_inj ep ((g2 77 0 rfl).trans n1)
    rw [e]
    exact ⟨fun h9 => (fg.1 h9).1, fg.2⟩
  refine ⟨((g2 77 0 rfl).trans n1).trans n2.symm, fun k hk => ?_, fun p2 ep => ?_, fun r p2 ep hp => ?_⟩
  · by_cases hn : k ≠ p.toInt.toNat ∨ ¬ 0 ≤ y1.toInt
    · exact ((g2 88 k rfl).trans (k1 k hn).1).trans ((S k hk).trans ((k2 k hn).2.2.2.trans (g1 176 k rfl)).symm)
    · have hy : 0 ≤ y1.toInt := Classical.byContradiction (fun h9 => hn (Or.inr h9))
      have e : k = p.toInt.toNat := Classical.byContradiction (fun h9 => hn (Or.inl h9))
      rw [e]; exact ((g2 88 _ rfl).trans (s1 hy).1).trans (s2 hy).2.2.2.symm
  · have b := nb p2 ep
    by_cases hy : 0 ≤ y1.toInt
    · have := b.1 hy; have := fg.1 hy; omega
    · rw [b.2 hy]; exact hm
  · have b := nb p2 ep
    have e90 : rv h2 177 = rv h 90 := funext fun k => by unfold rv; rw [g2 177 k rfl, g1 177 k rfl, P k]
    have e77 : rv h2 177 = rv h 177 := funext fun k => by unfold rv; rw [g2 177 k rfl, g1 177 k rfl]
    by_cases hn : r ≠ p.toInt.toNat ∨ ¬ 0 ≤ y1.toInt
    · have hr : (r : Int) < p.toInt := by
        by_cases hy : 0 ≤ y1.toInt
        · have := b.1 hy; have := hn.resolve_right (fun h9 => h9 hy); omega
        · rw [← b.2 hy]; exact hp
      obtain ⟨a, bb, c, d⟩ := O r p e1 hr
      obtain ⟨_, m1, m2, m3⟩ := k1 r hn
      obtain ⟨q1, q2, q3, _⟩ := k2 r hn
      have w1 := rv_e (q1.trans (g1 173 r rfl))
      have w2 := rv_e (q2.trans (g1 174 r rfl))
      have w3 := rv_e (q3.trans (g1 175 r rfl))
      refine ⟨fun c => (ovc_e (rv_e ((g2 87 r rfl).trans m1)) (fun j => rv_e ((g2 _ _ (by rcases (show r = 0 ∨ r = 1 ∨ r = 2 ∨ r = 3 ∨ r = 4 ∨ r = 5 ∨ r = 6 ∨ r = 7 by omega) with e9 | e9 | e9 | e9 | e9 | e9 | e9 | e9 <;> rw [e9] <;> rfl)).trans (m3 (by omega) j)))).trans ((a c).trans (ovh_e w1 w2 w3).symm), ?_, by rw [w1]; exact c, by rw [w1]; exact d⟩
      unfold opn
      rw [rv_e ((g2 89 r rfl).trans m2), w1, w2, w3, e77]
      exact bb
    · have hy : 0 ≤ y1.toInt := Classical.byContradiction (fun h9 => hn (Or.inr h9))
      have e : r = p.toInt.toNat := Classical.byContradiction (fun h9 => hn (Or.inl h9))
      have f := fg.1 hy
      subst e
      obtain ⟨_, ⟨u, eu, hu⟩, ho⟩ := s1 hy
      obtain ⟨t1, t2, t3, _⟩ := s2 hy
      have b1 : ∀ c, ovc h2 p.toInt.toNat c ↔ ovc h1 p.toInt.toNat c := fun c => ovc_e (rv_e (g2 87 _ rfl)) (fun j => rv_e (g2 _ _ (by rcases (show p.toInt.toNat = 0 ∨ p.toInt.toNat = 1 ∨ p.toInt.toNat = 2 ∨ p.toInt.toNat = 3 ∨ p.toInt.toNat = 4 ∨ p.toInt.toNat = 5 ∨ p.toInt.toNat = 6 ∨ p.toInt.toNat = 7 by omega) with e9 | e9 | e9 | e9 | e9 | e9 | e9 | e9 <;> rw [e9] <;> rfl)))
      refine ⟨fun c => (b1 c).trans ((ho c).trans (ovh_of t1 t2 t3).symm), ?_, by rw [rv_of t1]; exact f.2.2.1, by rw [rv_of t1]; exact f.2.2.2⟩
      unfold opn
      rw [rv_of t1, rv_of t2, rv_of t3, rv_of ((g2 89 _ rfl).trans eu), e90, hu]
theorem raid_z {h h1 h2 : im_H} {x1 x2 x3 x4 y1 : Int32} (g2 : fr F_X12_raid h1 h2) (r1 : Q1_raid x1 x2 x3 x4 y1 h h1) : R_Z h2 := by
  obtain ⟨p, e1, f1, n1, _⟩ := r1
  exact ⟨_, (g2 77 0 rfl).trans n1⟩
set_option maxRecDepth 10000 in
set_option maxHeartbeats 2000000 in
theorem relc_raid {h h1 h2 : im_H} {x1 x2 x3 x4 : Int32} {y1 y2 : Int32} (hr : rel h) (g1 : fr F_X11_raid h h1) (g2 : fr F_X12_raid h1 h2) (r1 : Q1_raid x1 x2 x3 x4 y1 h h1) (r2 : Q2_raid x1 x2 x3 x4 y2 h1 h2) : rel h2 :=
  ⟨(raid_join hr.1 hr.2.1 hr.2.2.1 hr.2.2.2.1 hr.2.2.2.2.1 g1 g2 r1 r2).1, (raid_join hr.1 hr.2.1 hr.2.2.1 hr.2.2.2.1 hr.2.2.2.2.1 g1 g2 r1 r2).2.1, (R_P_fr (R_P_fr hr.2.2.1 g1 (fun _ => rfl) (fun _ => rfl)) g2 (fun _ => rfl) (fun _ => rfl)), (raid_join hr.1 hr.2.1 hr.2.2.1 hr.2.2.2.1 hr.2.2.2.2.1 g1 g2 r1 r2).2.2.1, (raid_join hr.1 hr.2.1 hr.2.2.1 hr.2.2.2.1 hr.2.2.2.2.1 g1 g2 r1 r2).2.2.2, raid_z g2 r1⟩
theorem sm_eq {h h1 : im_H} {x1 p : Int32} (S : R_S h) (M : R_M h) (O : R_O h) (ep : rd h 77 0 = some (.int p)) (g : ∀ k, rd h1 173 k = rd h 173 k ∧ rd h1 174 k = rd h 174 k ∧ rd h1 175 k = rd h 175 k ∧ rd h1 176 k = rd h 176 k) : smP (fun r => ovc h r x1) (fun r => (rv h 88 r).toInt) p.toInt.toNat = sumL h1 x1 p.toInt.toNat := by
  have hb := M p ep
  rw [sumL_P]
  refine smP_eq (fun k hk => ?_) (fun k hk => ?_)
  · obtain ⟨a, b, c, _⟩ := g k
    exact ((O k p ep (by omega)).1 x1).trans (ovh_e (rv_e a) (rv_e b) (rv_e c)).symm
  · show (rv h 88 k).toInt = (rv h1 176 k).toInt
    unfold rv
    rw [S k (by omega), (g k).2.2.2]
theorem probe_join {h h1 h2 : im_H} {x1 x2 : Int32} {y1 y2 : Int32} (C : R_C h) (S : R_S h) (P : R_P h) (M : R_M h) (O : R_O h) (g1 : fr F_X11_probe h h1) (g2 : fr F_X12_probe h1 h2) (r1 : Q1_probe x1 x2 y1 h h1) (r2 : Q2_probe x1 x2 y2 h1 h2) : y1 = y2 ∧ R_S h2 ∧ R_P h2 ∧ R_O h2 := by
  obtain ⟨p, e1, r1, n1⟩ := r1
  obtain ⟨q, e2, r2, n2⟩ := r2
  have j1 : p = q := int_inj e1 (C.trans ((g1 148 29 rfl).symm.trans e2))
  subst j1
  have hb := M p e1
  have e90 : rv h1 177 = rv h 90 := funext fun k => by unfold rv; rw [g1 177 k rfl, P k]
  have sm := sm_eq (h1 := h1) (x1 := x1) S M O e1 (fun k => ⟨g1 _ _ rfl, g1 _ _ rfl, g1 _ _ rfl, g1 _ _ rfl⟩)
  rw [← sm, e90] at r2 n2
  by_cases hg : (0 ≤ x1.toInt ∧ x1.toInt ≤ 99 ∧ 0 ≤ x2.toInt ∧ x2.toInt ≤ 9 ∧ (rv h 90 x1.toInt.toNat).toInt = 0 ∧ x2.toInt ≤ smP (fun r => ovc h r x1) (fun r => (rv h 88 r).toInt) p.toInt.toNat)
  · obtain ⟨a1, fd, p1, p2⟩ := r1 hg
    obtain ⟨b1, sh, q1, q2⟩ := r2 hg
    have oc : ∀ r c, r < 8 → (ovc h2 r c ↔ ovc h r c) := fun r c hr => (ovc_e (rv_e (g2 87 _ rfl)) (fun j => rv_e (g2 _ _ (by rcases (show r = 0 ∨ r = 1 ∨ r = 2 ∨ r = 3 ∨ r = 4 ∨ r = 5 ∨ r = 6 ∨ r = 7 by omega) with e9 | e9 | e9 | e9 | e9 | e9 | e9 | e9 <;> rw [e9] <;> rfl)))).trans (ovc_e (rv_e (g1 87 _ rfl)) (fun j => rv_e (g1 _ _ (by rcases (show r = 0 ∨ r = 1 ∨ r = 2 ∨ r = 3 ∨ r = 4 ∨ r = 5 ∨ r = 6 ∨ r = 7 by omega) with e9 | e9 | e9 | e9 | e9 | e9 | e9 | e9 <;> rw [e9] <;> rfl))))
    have oh : ∀ r c, ovh h2 r c ↔ ovh h r c := fun r c => (ovh_e (rv_e (g2 173 _ rfl)) (rv_e (g2 174 _ rfl)) (rv_e (g2 175 _ rfl))).trans (ovh_e (rv_e (g1 173 _ rfl)) (rv_e (g1 174 _ rfl)) (rv_e (g1 175 _ rfl)))
    have hS : R_S h2 := by
      intro k hk
      by_cases hp : (k : Int) < p.toInt
      · obtain ⟨z, ez, hz, _⟩ := fd.1 k hp
        obtain ⟨w, ew, hw⟩ := sh.1 k hp
        have en := nsh_eq (P := fun r => ovc h r x1) (P2 := fun r => ovh h1 r x1) (s := fun r => (rv h 88 r).toInt) (s2 := fun r => (rv h1 176 r).toInt) (j := x2.toInt) (p := p.toInt.toNat) (fun m hm => ((O m p e1 (by omega)).1 x1).trans (ovh_e (rv_e (g1 173 _ rfl)) (rv_e (g1 174 _ rfl)) (rv_e (g1 175 _ rfl))).symm) (fun m hm => by
          show (rv h 88 m).toInt = (rv h1 176 m).toInt
          unfold rv
          rw [S m (by omega), g1 176 m rfl]) (k := k) (by omega)
        have ezw : z = w := i32_ext (by rw [hz, hw]; exact en)
        rw [ezw] at ez
        exact ((g2 88 k rfl).trans ez).trans ew.symm
      · exact ((g2 88 k rfl).trans (fd.2 k hp).1).trans ((S k hk).trans ((sh.2 k hp).trans (g1 176 k rfl)).symm)
    have hP : R_P h2 := by
      intro k
      by_cases hc : k = x1.toInt.toNat
      · rw [hc]; exact ((g2 90 _ rfl).trans p1).trans q1.symm
      · exact ((g2 90 _ rfl).trans (p2 k hc)).trans ((P k).trans ((q2 k hc).trans (g1 177 _ rfl)).symm)
    have hO : R_O h2 := by
      intro r p3 ep hp
      have e3 : p3 = p := int_inj ((g2 77 0 rfl).symm.trans ep) ((g1 77 0 rfl).trans e1)
      rw [e3] at hp
      obtain ⟨a, bb, c, d⟩ := O r p e1 hp
      have w1 : rv h2 173 r = rv h 173 r := rv_e ((g2 173 _ rfl).trans (g1 173 _ rfl))
      have w2 : rv h2 174 r = rv h 174 r := rv_e ((g2 174 _ rfl).trans (g1 174 _ rfl))
      have w3 : rv h2 175 r = rv h 175 r := rv_e ((g2 175 _ rfl).trans (g1 175 _ rfl))
      refine ⟨fun c => (oc r c (by omega)).trans ((a c).trans (oh r c).symm), ?_, by rw [w1]; exact c, by rw [w1]; exact d⟩
      have cu := cnt_upd (f := rv h 173 r) (s := rv h 174 r) (c := x1) (pr := rv h 177) (pr2 := rv h2 177) c d hg.1 (by rw [show rv h 177 x1.toInt.toNat = rv h 90 x1.toInt.toNat from by unfold rv; rw [P]]; exact hg.2.2.2.2.1) (by rw [rv_of q1]; decide) (fun k hk => rv_e ((q2 k hk).trans (g1 177 _ rfl))) (rv h 175 r).toInt.toNat
      obtain ⟨z, _, _, uy, un⟩ := fd.1 r hp
      have cb := cnt_b (f := rv h 173 r) (s := rv h 174 r) (pr := rv h 177) (rv h 175 r).toInt.toNat
      unfold opn at bb ⊢
      rw [w1, w2, w3]
      by_cases ho : ovc h r x1
      · rw [cu.1 ((a x1).mp ho), rv_of ((g2 89 _ rfl).trans (uy ho)), ← bb, i32_subE (b := 1) rfl (by omega) (by have := i32_hi (rv h 89 r); omega)]
      · rw [cu.2 (fun h9 => ho ((a x1).mpr h9)), rv_e ((g2 89 _ rfl).trans (un ho)), bb]
    refine ⟨i32_ext ?_, hS, hP, hO⟩
    have hM : R_M h2 := fun p3 ep => M p3 ((g1 77 0 rfl).symm.trans ((g2 77 0 rfl).symm.trans ep))
    rw [a1, b1, ← sm_eq (h1 := h2) (x1 := x1) hS hM hO ((g2 77 0 rfl).trans ((g1 77 0 rfl).trans e1)) (fun k => ⟨rfl, rfl, rfl, rfl⟩)]
    refine smP_eq (fun k hk => ?_) (fun k hk => ?_)
    · exact (ovc_e (rv_e (g2 87 _ rfl)) (fun j => rv_e (g2 _ _ (by rcases (show k = 0 ∨ k = 1 ∨ k = 2 ∨ k = 3 ∨ k = 4 ∨ k = 5 ∨ k = 6 ∨ k = 7 by omega) with e9 | e9 | e9 | e9 | e9 | e9 | e9 | e9 <;> rw [e9] <;> rfl)))).symm
    · show (rv h1 88 k).toInt = (rv h2 88 k).toInt
      rw [rv_e (g2 88 k rfl)]
  · obtain ⟨a1, a2⟩ := n1 hg
    obtain ⟨b1, b2⟩ := n2 hg
    rw [b2, a2]
    exact ⟨a1.trans b1.symm, S, P, O⟩
set_option maxRecDepth 10000 in
set_option maxHeartbeats 2000000 in
theorem relc_probe {h h1 h2 : im_H} {x1 x2 : Int32} {y1 y2 : Int32} (hr : rel h) (g1 : fr F_X11_probe h h1) (g2 : fr F_X12_probe h1 h2) (r1 : Q1_probe x1 x2 y1 h h1) (r2 : Q2_probe x1 x2 y2 h1 h2) : rel h2 :=
  ⟨(R_C_fr (R_C_fr hr.1 g1 rfl rfl) g2 rfl rfl), (probe_join hr.1 hr.2.1 hr.2.2.1 hr.2.2.2.1 hr.2.2.2.2.1 g1 g2 r1 r2).2.1, (probe_join hr.1 hr.2.1 hr.2.2.1 hr.2.2.2.1 hr.2.2.2.2.1 g1 g2 r1 r2).2.2.1, (R_M_fr (R_M_fr hr.2.2.2.1 g1 rfl) g2 rfl), (probe_join hr.1 hr.2.1 hr.2.2.1 hr.2.2.2.1 hr.2.2.2.2.1 g1 g2 r1 r2).2.2.2, (R_Z_fr (R_Z_fr hr.2.2.2.2.2 g1 rfl) g2 rfl)⟩
theorem ch_eq {h h1 : im_H} {c : Nat} (C : R_C h) (S : R_S h) (P : R_P h) (M : R_M h) (O : R_O h) (hp : ∃ p : Int32, rd h 77 0 = some (.int p)) (hc : c < 100) (g : ∀ i k, rd h1 i k = rd h i k) : chX h c = chM h1 c := by
  have e : rv h1 = rv h := funext fun i => funext fun k => rv_e (g i k)
  have eo : ∀ r c, ovh h1 r c ↔ ovh h r c := fun r c => by unfold ovh; rw [e]
  unfold chX chM
  rw [e]
  have eP : rv h 90 = rv h 177 := funext fun k => by unfold rv; rw [P k]
  obtain ⟨p, ep⟩ := hp
  have hb := M p ep
  rw [eP, rv_of ep, rv_of (C.symm.trans ep)]
  by_cases hq : (rv h 177 c).toInt = 0
  · rw [if_pos hq, if_pos hq]
    have ec : (Int32.ofInt (c : Int)).toInt.toNat = c := by
      rw [Int32.toInt_ofInt_of_le (by omega) (by omega)]; omega
    refine chn_eq (fun k hk => ?_) (fun k hk _ => ?_) (fun k hk => ?_)
    · obtain ⟨a, b, _⟩ := O k p ep (by omega)
      constructor
      · intro q; exact (eo _ _).mpr ((a _).mp q.2)
      · intro q
        have q := (eo _ _).mp q
        refine ⟨?_, (a _).mpr q⟩
        rw [b]
        have := cnt_ov (f := rv h 173 k) (s := rv h 174 k) (c := Int32.ofInt (c : Int)) (pr := rv h 177) (by rw [ec]; exact hq) (rv h 175 k).toInt.toNat q
        unfold opn
        omega
    · rw [(O k p ep (by omega)).2.1]
      unfold opn
      rw [e]
    · unfold rv
      rw [S k (by omega)]
  · rw [if_neg hq, if_neg hq]
theorem next_join {h h1 h2 : im_H} {y1 y2 : Int32} (C : R_C h) (S : R_S h) (P : R_P h) (M : R_M h) (O : R_O h) (hp : ∃ p : Int32, rd h 77 0 = some (.int p)) (g1 : fr F_X11_next h h1) (g2 : fr F_X12_next h1 h2) (r1 : Q1_next y1 h h1) (r2 : Q2_next y2 h1 h2) : y1 = y2 := by
  rw [r1, r2, nx_eq (fun k hk => ch_eq C S P M O hp hk (fun i j => g1 i j rfl))]
set_option maxRecDepth 10000 in
set_option maxHeartbeats 2000000 in
theorem relc_next {h h1 h2 : im_H} {y1 y2 : Int32} (hr : rel h) (g1 : fr F_X11_next h h1) (g2 : fr F_X12_next h1 h2) (r1 : Q1_next y1 h h1) (r2 : Q2_next y2 h1 h2) : y1 = y2 ∧ rel h2 :=
  ⟨next_join hr.1 hr.2.1 hr.2.2.1 hr.2.2.2.1 hr.2.2.2.2.1 hr.2.2.2.2.2 g1 g2 r1 r2, ⟨(R_C_fr (R_C_fr hr.1 g1 rfl rfl) g2 rfl rfl), (R_S_fr (R_S_fr hr.2.1 g1 (by decide +kernel) (by decide +kernel)) g2 (by decide +kernel) (by decide +kernel)), (R_P_fr (R_P_fr hr.2.2.1 g1 (fun _ => rfl) (fun _ => rfl)) g2 (fun _ => rfl) (fun _ => rfl)), (R_M_fr (R_M_fr hr.2.2.2.1 g1 rfl) g2 rfl), (R_O_fr (R_O_fr hr.2.2.2.2.1 hr.2.2.2.1 g1 rfl (fun _ => rfl) (fun _ => rfl) (fun _ => rfl) (fun _ => rfl) (fun _ => rfl) (fun _ => rfl) (fun _ => rfl) (fun _ => rfl) (fun _ => rfl) (fun _ => rfl) (fun _ => rfl) (fun _ => rfl) (fun _ => rfl) (fun _ => rfl)) (R_M_fr hr.2.2.2.1 g1 rfl) g2 rfl (fun _ => rfl) (fun _ => rfl) (fun _ => rfl) (fun _ => rfl) (fun _ => rfl) (fun _ => rfl) (fun _ => rfl) (fun _ => rfl) (fun _ => rfl) (fun _ => rfl) (fun _ => rfl) (fun _ => rfl) (fun _ => rfl) (fun _ => rfl)), (R_Z_fr (R_Z_fr hr.2.2.2.2.2 g1 rfl) g2 rfl)⟩⟩
/-! the law's rows, told by what the end meets -/
theorem cV_mL {K : im_K} {d : Nat} {M : im_M} {pc p2 : Nat} {lv : im_L} {st : List Value} {h : im_H} {Q : Option Value → im_H → Prop} {F : List (Nat × Nat × Nat)} {i n Rf idx j w z x d1 : Nat} {q : List Value × List Value} {rest : List Value} (ha : im_at M pc = some (.invokevirtual idx, [j, 0, w, z, x])) (hp : pc + 3 = p2) (ht : im_take w st = some q) (hq : q.2 = .ref Rf :: rest) (hI : tI h) (hR : Rf = 16 + i) (hs : tS[i]? = some (3, z, n)) (hc : im_cat rest = true) (hC : CaP d1 j (.ref Rf :: q.1) h (mL h F)) (hd : d1 ≤ d) (k : ∀ y h2, tI h2 → fr F h h2 → EvP K d M (p2, lv, .long y :: rest, h2) Q) : EvP K d M (pc, lv, st, h) Q :=
  tc_V ha hp ht hq hI hR hs hc hC hd (fun v h2 hq => by obtain ⟨e, f, y, rfl⟩ := hq; exact k y h2 e f)
theorem te_pop2 {K : im_K} {d : Nat} {M : im_M} {pc p2 : Nat} {lv : im_L} {st : List Value} {h : im_H} {Q : Option Value → im_H → Prop} {v : Value} (ha : im_at M pc = some (.pop2, [])) (hp : pc + 1 = p2) (hv : v.category = 2) (k : EvP K d M (p2, lv, st, h) Q) : EvP K d M (pc, lv, v :: st, h) Q := by
  subst hp
  refine evp (fun r => ev_step (st_at ha ?_)) k
  show (if v.category = 2 then im_nx (pc + 1) lv st h else none) = _
  rw [if_pos hv]
  rfl
theorem tw_rd {l : List Int32} {d pc p2 : Nat} {kk : Int} {i : Int32} {n : Nat} {st : List Value} {h : im_H} {Q : Option Value → im_H → Prop} (k : Nat) (a0 : im_at mL_law pc = some (.aload_n 0, [])) (a1 : im_at mL_law (pc + 1) = some (.iload_n 3, [])) (a2 : im_at mL_law (pc + 2) = some (.iconst kk, [])) (a3 : im_at mL_law (pc + 3) = some (.iadd, [])) (a4 : im_at mL_law (pc + 4) = some (.iaload, [])) (hp : pc + 5 = p2) (hk : (Int32.ofInt kk).toInt = k) (hi : i.toInt = n) (hl : n + k < l.length) (hb : l.length < 2147483648) (kx : EvP (im_K1 l) d mL_law (p2, lwL i, .int (l.getD (n + k) 0) :: st, h) Q) : EvP (im_K1 l) d mL_law (pc, lwL i, st, h) Q := evp (fun r => lw_rd k a0 a1 a2 a3 a4 hp hk hi hl hb) kx
set_option maxRecDepth 10000 in
set_option maxHeartbeats 2000000 in
theorem lq_ruin {l : List Int32} {n : Nat} {i : Int32} {h : im_H} {Q : Option Value → im_H → Prop} (hi : i.toInt = n) (hl : n + 6 ≤ l.length) (hb : l.length < 2147483648) (hI : tI h) (kx : ∀ h1 h2, tI h2 → fr F_X11_ruin h h1 → fr F_X12_ruin h1 h2 → EvP (im_K1 l) 20 mL_law (1753, lwL i, [], h2) Q) : EvP (im_K1 l) 20 mL_law (228, lwL i, [], h) Q := by
  refine te_aload_n (p2 := 229) rfl rfl rfl ?_
  refine tw_rd (p2 := 234) 1 rfl rfl rfl rfl rfl rfl (by decide) hi (by omega) hb ?_
  refine tw_rd (p2 := 239) 2 rfl rfl rfl rfl rfl rfl (by decide) hi (by omega) hb ?_
  refine tw_rd (p2 := 244) 3 rfl rfl rfl rfl rfl rfl (by decide) hi (by omega) hb ?_
  refine cV_mI (p2 := 247) (i := 0) rfl rfl rfl rfl hI rfl rfl rfl (t_X11_ruin (x1 := (l.getD (n + 1) 0)) (x2 := (l.getD (n + 2) 0)) (x3 := (l.getD (n + 3) 0)) hI) (by decide) (fun y1 h1 I1 g1 r1 => ?_)
  refine te_pop (p2 := 248) rfl rfl rfl ?_
  refine te_aload_n (p2 := 249) rfl rfl rfl ?_
  refine tw_rd (p2 := 254) 1 rfl rfl rfl rfl rfl rfl (by decide) hi (by omega) hb ?_
  refine tw_rd (p2 := 259) 2 rfl rfl rfl rfl rfl rfl (by decide) hi (by omega) hb ?_
  refine tw_rd (p2 := 264) 3 rfl rfl rfl rfl rfl rfl (by decide) hi (by omega) hb ?_
  refine cV_mI (p2 := 267) (i := 148) rfl rfl rfl rfl I1 rfl rfl rfl (t_X12_ruin (x1 := (l.getD (n + 1) 0)) (x2 := (l.getD (n + 2) 0)) (x3 := (l.getD (n + 3) 0)) I1) (by decide) (fun y2 h2 I2 g2 r2 => ?_)
  refine te_pop (p2 := 268) rfl rfl rfl ?_
  refine te_goto rfl ?_
  exact kx h1 h2 I2 g1 g2
set_option maxRecDepth 10000 in
set_option maxHeartbeats 2000000 in
theorem lq_person {l : List Int32} {n : Nat} {i : Int32} {h : im_H} {Q : Option Value → im_H → Prop} (hi : i.toInt = n) (hl : n + 6 ≤ l.length) (hb : l.length < 2147483648) (hI : tI h) (kx : ∀ h1 h2, tI h2 → fr F_X11_person h h1 → fr F_X12_person h1 h2 → EvP (im_K1 l) 20 mL_law (1753, lwL i, [], h2) Q) : EvP (im_K1 l) 20 mL_law (271, lwL i, [], h) Q := by
  refine te_aload_n (p2 := 272) rfl rfl rfl ?_
  refine tw_rd (p2 := 277) 1 rfl rfl rfl rfl rfl rfl (by decide) hi (by omega) hb ?_
  refine tw_rd (p2 := 282) 2 rfl rfl rfl rfl rfl rfl (by decide) hi (by omega) hb ?_
  refine tw_rd (p2 := 287) 3 rfl rfl rfl rfl rfl rfl (by decide) hi (by omega) hb ?_
  refine tw_rd (p2 := 292) 4 rfl rfl rfl rfl rfl rfl (by decide) hi (by omega) hb ?_
  refine cV_mI (p2 := 295) (i := 0) rfl rfl rfl rfl hI rfl rfl rfl (t_X11_person (x1 := (l.getD (n + 1) 0)) (x2 := (l.getD (n + 2) 0)) (x3 := (l.getD (n + 3) 0)) (x4 := (l.getD (n + 4) 0)) hI) (by decide) (fun y1 h1 I1 g1 r1 => ?_)
  refine te_pop (p2 := 296) rfl rfl rfl ?_
  refine te_aload_n (p2 := 297) rfl rfl rfl ?_
  refine tw_rd (p2 := 302) 1 rfl rfl rfl rfl rfl rfl (by decide) hi (by omega) hb ?_
  refine tw_rd (p2 := 307) 2 rfl rfl rfl rfl rfl rfl (by decide) hi (by omega) hb ?_
  refine tw_rd (p2 := 312) 3 rfl rfl rfl rfl rfl rfl (by decide) hi (by omega) hb ?_
  refine tw_rd (p2 := 317) 4 rfl rfl rfl rfl rfl rfl (by decide) hi (by omega) hb ?_
  refine cV_mI (p2 := 320) (i := 148) rfl rfl rfl rfl I1 rfl rfl rfl (t_X12_person (x1 := (l.getD (n + 1) 0)) (x2 := (l.getD (n + 2) 0)) (x3 := (l.getD (n + 3) 0)) (x4 := (l.getD (n + 4) 0)) I1) (by decide) (fun y2 h2 I2 g2 r2 => ?_)
  refine te_pop (p2 := 321) rfl rfl rfl ?_
  refine te_goto rfl ?_
  exact kx h1 h2 I2 g1 g2
set_option maxRecDepth 10000 in
set_option maxHeartbeats 2000000 in
theorem lq_moves {l : List Int32} {n : Nat} {i : Int32} {h : im_H} {Q : Option Value → im_H → Prop} (hi : i.toInt = n) (hl : n + 6 ≤ l.length) (hb : l.length < 2147483648) (hI : tI h) (kx : ∀ h1 h2, tI h2 → fr F_X11_moves h h1 → fr F_X12_moves h1 h2 → EvP (im_K1 l) 20 mL_law (1753, lwL i, [], h2) Q) : EvP (im_K1 l) 20 mL_law (324, lwL i, [], h) Q := by
  refine te_aload_n (p2 := 325) rfl rfl rfl ?_
  refine tw_rd (p2 := 330) 1 rfl rfl rfl rfl rfl rfl (by decide) hi (by omega) hb ?_
  refine tw_rd (p2 := 335) 2 rfl rfl rfl rfl rfl rfl (by decide) hi (by omega) hb ?_
  refine cV_mI (p2 := 338) (i := 0) rfl rfl rfl rfl hI rfl rfl rfl (t_X11_moves (x1 := (l.getD (n + 1) 0)) (x2 := (l.getD (n + 2) 0)) hI) (by decide) (fun y1 h1 I1 g1 r1 => ?_)
  refine te_pop (p2 := 339) rfl rfl rfl ?_
  refine te_aload_n (p2 := 340) rfl rfl rfl ?_
  refine tw_rd (p2 := 345) 1 rfl rfl rfl rfl rfl rfl (by decide) hi (by omega) hb ?_
  refine tw_rd (p2 := 350) 2 rfl rfl rfl rfl rfl rfl (by decide) hi (by omega) hb ?_
  refine cV_mI (p2 := 353) (i := 148) rfl rfl rfl rfl I1 rfl rfl rfl (t_X12_moves (x1 := (l.getD (n + 1) 0)) (x2 := (l.getD (n + 2) 0)) I1) (by decide) (fun y2 h2 I2 g2 r2 => ?_)
  refine te_pop (p2 := 354) rfl rfl rfl ?_
  refine te_goto rfl ?_
  exact kx h1 h2 I2 g1 g2
set_option maxRecDepth 10000 in
set_option maxHeartbeats 2000000 in
theorem lq_wall {l : List Int32} {n : Nat} {i : Int32} {h : im_H} {Q : Option Value → im_H → Prop} (hi : i.toInt = n) (hl : n + 6 ≤ l.length) (hb : l.length < 2147483648) (hI : tI h) (kx : ∀ h1 h2, tI h2 → fr F_X11_wall h h1 → fr F_X12_wall h1 h2 → EvP (im_K1 l) 20 mL_law (1753, lwL i, [], h2) Q) : EvP (im_K1 l) 20 mL_law (357, lwL i, [], h) Q := by
  refine te_aload_n (p2 := 358) rfl rfl rfl ?_
  refine tw_rd (p2 := 363) 1 rfl rfl rfl rfl rfl rfl (by decide) hi (by omega) hb ?_
  refine tw_rd (p2 := 368) 2 rfl rfl rfl rfl rfl rfl (by decide) hi (by omega) hb ?_
  refine tw_rd (p2 := 373) 3 rfl rfl rfl rfl rfl rfl (by decide) hi (by omega) hb ?_
  refine cV_mI (p2 := 376) (i := 0) rfl rfl rfl rfl hI rfl rfl rfl (t_X11_wall (x1 := (l.getD (n + 1) 0)) (x2 := (l.getD (n + 2) 0)) (x3 := (l.getD (n + 3) 0)) hI) (by decide) (fun y1 h1 I1 g1 r1 => ?_)
  refine te_pop (p2 := 377) rfl rfl rfl ?_
  refine te_aload_n (p2 := 378) rfl rfl rfl ?_
  refine tw_rd (p2 := 383) 1 rfl rfl rfl rfl rfl rfl (by decide) hi (by omega) hb ?_
  refine tw_rd (p2 := 388) 2 rfl rfl rfl rfl rfl rfl (by decide) hi (by omega) hb ?_
  refine tw_rd (p2 := 393) 3 rfl rfl rfl rfl rfl rfl (by decide) hi (by omega) hb ?_
  refine cV_mI (p2 := 396) (i := 148) rfl rfl rfl rfl I1 rfl rfl rfl (t_X12_wall (x1 := (l.getD (n + 1) 0)) (x2 := (l.getD (n + 2) 0)) (x3 := (l.getD (n + 3) 0)) I1) (by decide) (fun y2 h2 I2 g2 r2 => ?_)
  refine te_pop (p2 := 397) rfl rfl rfl ?_
  refine te_goto rfl ?_
  exact kx h1 h2 I2 g1 g2
set_option maxRecDepth 10000 in
set_option maxHeartbeats 2000000 in
theorem lq_weather {l : List Int32} {n : Nat} {i : Int32} {h : im_H} {Q : Option Value → im_H → Prop} (hi : i.toInt = n) (hl : n + 6 ≤ l.length) (hb : l.length < 2147483648) (hI : tI h) (kx : ∀ h1 h2, tI h2 → fr F_X11_weather h h1 → fr F_X12_weather h1 h2 → EvP (im_K1 l) 20 mL_law (1753, lwL i, [], h2) Q) : EvP (im_K1 l) 20 mL_law (400, lwL i, [], h) Q := by
  refine te_aload_n (p2 := 401) rfl rfl rfl ?_
  refine tw_rd (p2 := 406) 1 rfl rfl rfl rfl rfl rfl (by decide) hi (by omega) hb ?_
  refine tw_rd (p2 := 411) 2 rfl rfl rfl rfl rfl rfl (by decide) hi (by omega) hb ?_
  refine cV_mI (p2 := 414) (i := 0) rfl rfl rfl rfl hI rfl rfl rfl (t_X11_weather (x1 := (l.getD (n + 1) 0)) (x2 := (l.getD (n + 2) 0)) hI) (by decide) (fun y1 h1 I1 g1 r1 => ?_)
  refine te_pop (p2 := 415) rfl rfl rfl ?_
  refine te_aload_n (p2 := 416) rfl rfl rfl ?_
  refine tw_rd (p2 := 421) 1 rfl rfl rfl rfl rfl rfl (by decide) hi (by omega) hb ?_
  refine tw_rd (p2 := 426) 2 rfl rfl rfl rfl rfl rfl (by decide) hi (by omega) hb ?_
  refine cV_mI (p2 := 429) (i := 148) rfl rfl rfl rfl I1 rfl rfl rfl (t_X12_weather (x1 := (l.getD (n + 1) 0)) (x2 := (l.getD (n + 2) 0)) I1) (by decide) (fun y2 h2 I2 g2 r2 => ?_)
  refine te_pop (p2 := 430) rfl rfl rfl ?_
  refine te_goto rfl ?_
  exact kx h1 h2 I2 g1 g2
set_option maxRecDepth 10000 in
set_option maxHeartbeats 2000000 in
theorem lq_tip {l : List Int32} {n : Nat} {i : Int32} {h : im_H} {Q : Option Value → im_H → Prop} (hi : i.toInt = n) (hl : n + 6 ≤ l.length) (hb : l.length < 2147483648) (hI : tI h) (kx : ∀ h1 h2, tI h2 → fr F_X11_tip h h1 → fr F_X12_tip h1 h2 → EvP (im_K1 l) 20 mL_law (1753, lwL i, [], h2) Q) : EvP (im_K1 l) 20 mL_law (433, lwL i, [], h) Q := by
  refine te_aload_n (p2 := 434) rfl rfl rfl ?_
  refine tw_rd (p2 := 439) 1 rfl rfl rfl rfl rfl rfl (by decide) hi (by omega) hb ?_
  refine cV_mI (p2 := 442) (i := 0) rfl rfl rfl rfl hI rfl rfl rfl (t_X11_tip (x1 := (l.getD (n + 1) 0)) hI) (by decide) (fun y1 h1 I1 g1 r1 => ?_)
  refine te_pop (p2 := 443) rfl rfl rfl ?_
  refine te_aload_n (p2 := 444) rfl rfl rfl ?_
  refine tw_rd (p2 := 449) 1 rfl rfl rfl rfl rfl rfl (by decide) hi (by omega) hb ?_
  refine cV_mI (p2 := 452) (i := 148) rfl rfl rfl rfl I1 rfl rfl rfl (t_X12_tip (x1 := (l.getD (n + 1) 0)) I1) (by decide) (fun y2 h2 I2 g2 r2 => ?_)
  refine te_pop (p2 := 453) rfl rfl rfl ?_
  refine te_goto rfl ?_
  exact kx h1 h2 I2 g1 g2
set_option maxRecDepth 10000 in
set_option maxHeartbeats 2000000 in
theorem lq_row {l : List Int32} {n : Nat} {i : Int32} {h : im_H} {Q : Option Value → im_H → Prop} (hi : i.toInt = n) (hl : n + 6 ≤ l.length) (hb : l.length < 2147483648) (hI : tI h) (kx : ∀ h1 h2, tI h2 → fr F_X11_row h h1 → fr F_X12_row h1 h2 → EvP (im_K1 l) 20 mL_law (1753, lwL i, [], h2) Q) : EvP (im_K1 l) 20 mL_law (456, lwL i, [], h) Q := by
  refine te_aload_n (p2 := 457) rfl rfl rfl ?_
  refine tw_rd (p2 := 462) 1 rfl rfl rfl rfl rfl rfl (by decide) hi (by omega) hb ?_
  refine tw_rd (p2 := 467) 2 rfl rfl rfl rfl rfl rfl (by decide) hi (by omega) hb ?_
  refine tw_rd (p2 := 472) 3 rfl rfl rfl rfl rfl rfl (by decide) hi (by omega) hb ?_
  refine tw_rd (p2 := 477) 4 rfl rfl rfl rfl rfl rfl (by decide) hi (by omega) hb ?_
  refine cV_mI (p2 := 480) (i := 0) rfl rfl rfl rfl hI rfl rfl rfl (t_X11_row (x1 := (l.getD (n + 1) 0)) (x2 := (l.getD (n + 2) 0)) (x3 := (l.getD (n + 3) 0)) (x4 := (l.getD (n + 4) 0)) hI) (by decide) (fun y1 h1 I1 g1 r1 => ?_)
  refine te_pop (p2 := 481) rfl rfl rfl ?_
  refine te_aload_n (p2 := 482) rfl rfl rfl ?_
  refine tw_rd (p2 := 487) 1 rfl rfl rfl rfl rfl rfl (by decide) hi (by omega) hb ?_
  refine tw_rd (p2 := 492) 2 rfl rfl rfl rfl rfl rfl (by decide) hi (by omega) hb ?_
  refine tw_rd (p2 := 497) 3 rfl rfl rfl rfl rfl rfl (by decide) hi (by omega) hb ?_
  refine tw_rd (p2 := 502) 4 rfl rfl rfl rfl rfl rfl (by decide) hi (by omega) hb ?_
  refine cV_mI (p2 := 505) (i := 148) rfl rfl rfl rfl I1 rfl rfl rfl (t_X12_row (x1 := (l.getD (n + 1) 0)) (x2 := (l.getD (n + 2) 0)) (x3 := (l.getD (n + 3) 0)) (x4 := (l.getD (n + 4) 0)) I1) (by decide) (fun y2 h2 I2 g2 r2 => ?_)
  refine te_pop (p2 := 506) rfl rfl rfl ?_
  refine te_goto rfl ?_
  exact kx h1 h2 I2 g1 g2
set_option maxRecDepth 10000 in
set_option maxHeartbeats 2000000 in
theorem lq_rail {l : List Int32} {n : Nat} {i : Int32} {h : im_H} {Q : Option Value → im_H → Prop} (hi : i.toInt = n) (hl : n + 6 ≤ l.length) (hb : l.length < 2147483648) (hI : tI h) (kx : ∀ h1 h2, tI h2 → fr F_X11_rail h h1 → fr F_X12_rail h1 h2 → EvP (im_K1 l) 20 mL_law (1753, lwL i, [], h2) Q) : EvP (im_K1 l) 20 mL_law (509, lwL i, [], h) Q := by
  refine te_aload_n (p2 := 510) rfl rfl rfl ?_
  refine tw_rd (p2 := 515) 1 rfl rfl rfl rfl rfl rfl (by decide) hi (by omega) hb ?_
  refine tw_rd (p2 := 520) 2 rfl rfl rfl rfl rfl rfl (by decide) hi (by omega) hb ?_
  refine tw_rd (p2 := 525) 3 rfl rfl rfl rfl rfl rfl (by decide) hi (by omega) hb ?_
  refine cV_mI (p2 := 528) (i := 0) rfl rfl rfl rfl hI rfl rfl rfl (t_X11_rail (x1 := (l.getD (n + 1) 0)) (x2 := (l.getD (n + 2) 0)) (x3 := (l.getD (n + 3) 0)) hI) (by decide) (fun y1 h1 I1 g1 r1 => ?_)
  refine te_pop (p2 := 529) rfl rfl rfl ?_
  refine te_aload_n (p2 := 530) rfl rfl rfl ?_
  refine tw_rd (p2 := 535) 1 rfl rfl rfl rfl rfl rfl (by decide) hi (by omega) hb ?_
  refine tw_rd (p2 := 540) 2 rfl rfl rfl rfl rfl rfl (by decide) hi (by omega) hb ?_
  refine tw_rd (p2 := 545) 3 rfl rfl rfl rfl rfl rfl (by decide) hi (by omega) hb ?_
  refine cV_mI (p2 := 548) (i := 148) rfl rfl rfl rfl I1 rfl rfl rfl (t_X12_rail (x1 := (l.getD (n + 1) 0)) (x2 := (l.getD (n + 2) 0)) (x3 := (l.getD (n + 3) 0)) I1) (by decide) (fun y2 h2 I2 g2 r2 => ?_)
  refine te_pop (p2 := 549) rfl rfl rfl ?_
  refine te_goto rfl ?_
  exact kx h1 h2 I2 g1 g2
set_option maxRecDepth 10000 in
set_option maxHeartbeats 2000000 in
theorem lq_room {l : List Int32} {n : Nat} {i : Int32} {h : im_H} {Q : Option Value → im_H → Prop} (hi : i.toInt = n) (hl : n + 6 ≤ l.length) (hb : l.length < 2147483648) (hI : tI h) (kx : ∀ h1 h2, tI h2 → fr F_X11_room h h1 → fr F_X12_room h1 h2 → EvP (im_K1 l) 20 mL_law (1753, lwL i, [], h2) Q) : EvP (im_K1 l) 20 mL_law (552, lwL i, [], h) Q := by
  refine te_aload_n (p2 := 553) rfl rfl rfl ?_
  refine tw_rd (p2 := 558) 1 rfl rfl rfl rfl rfl rfl (by decide) hi (by omega) hb ?_
  refine tw_rd (p2 := 563) 2 rfl rfl rfl rfl rfl rfl (by decide) hi (by omega) hb ?_
  refine tw_rd (p2 := 568) 3 rfl rfl rfl rfl rfl rfl (by decide) hi (by omega) hb ?_
  refine tw_rd (p2 := 573) 4 rfl rfl rfl rfl rfl rfl (by decide) hi (by omega) hb ?_
  refine cV_mI (p2 := 576) (i := 0) rfl rfl rfl rfl hI rfl rfl rfl (t_X11_room (x1 := (l.getD (n + 1) 0)) (x2 := (l.getD (n + 2) 0)) (x3 := (l.getD (n + 3) 0)) (x4 := (l.getD (n + 4) 0)) hI) (by decide) (fun y1 h1 I1 g1 r1 => ?_)
  refine te_pop (p2 := 577) rfl rfl rfl ?_
  refine te_aload_n (p2 := 578) rfl rfl rfl ?_
  refine tw_rd (p2 := 583) 1 rfl rfl rfl rfl rfl rfl (by decide) hi (by omega) hb ?_
  refine tw_rd (p2 := 588) 2 rfl rfl rfl rfl rfl rfl (by decide) hi (by omega) hb ?_
  refine tw_rd (p2 := 593) 3 rfl rfl rfl rfl rfl rfl (by decide) hi (by omega) hb ?_
  refine tw_rd (p2 := 598) 4 rfl rfl rfl rfl rfl rfl (by decide) hi (by omega) hb ?_
  refine cV_mI (p2 := 601) (i := 148) rfl rfl rfl rfl I1 rfl rfl rfl (t_X12_room (x1 := (l.getD (n + 1) 0)) (x2 := (l.getD (n + 2) 0)) (x3 := (l.getD (n + 3) 0)) (x4 := (l.getD (n + 4) 0)) I1) (by decide) (fun y2 h2 I2 g2 r2 => ?_)
  refine te_pop (p2 := 602) rfl rfl rfl ?_
  refine te_goto rfl ?_
  exact kx h1 h2 I2 g1 g2
set_option maxRecDepth 10000 in
set_option maxHeartbeats 2000000 in
theorem lq_feed {l : List Int32} {n : Nat} {i : Int32} {h : im_H} {Q : Option Value → im_H → Prop} (hi : i.toInt = n) (hl : n + 6 ≤ l.length) (hb : l.length < 2147483648) (hI : tI h) (kx : ∀ h1 h2, tI h2 → fr F_X11_feed h h1 → fr F_X12_feed h1 h2 → EvP (im_K1 l) 20 mL_law (1753, lwL i, [], h2) Q) : EvP (im_K1 l) 20 mL_law (605, lwL i, [], h) Q := by
  refine te_aload_n (p2 := 606) rfl rfl rfl ?_
  refine tw_rd (p2 := 611) 1 rfl rfl rfl rfl rfl rfl (by decide) hi (by omega) hb ?_
  refine te_i2l (p2 := 612) (z := (Int32.toInt64 (l.getD (n + 1) 0))) rfl rfl rfl ?_
  refine te_bipush (p2 := 614) (x := 32) rfl rfl (by decide) ?_
  refine te_lshl (p2 := 615) (z := ((Int32.toInt64 (l.getD (n + 1) 0)) <<< (Int32.toInt64 32 &&& 63))) rfl rfl rfl ?_
  refine tw_rd (p2 := 620) 2 rfl rfl rfl rfl rfl rfl (by decide) hi (by omega) hb ?_
  refine te_i2l (p2 := 621) (z := (Int32.toInt64 (l.getD (n + 2) 0))) rfl rfl rfl ?_
  refine te_ldc2 (p2 := 624) (x := 4294967295) rfl rfl rfl ?_
  refine te_land (p2 := 625) (z := ((Int32.toInt64 (l.getD (n + 2) 0)) &&& 4294967295)) rfl rfl rfl ?_
  refine te_lor (p2 := 626) (z := (((Int32.toInt64 (l.getD (n + 1) 0)) <<< (Int32.toInt64 32 &&& 63)) ||| ((Int32.toInt64 (l.getD (n + 2) 0)) &&& 4294967295))) rfl rfl rfl ?_
  refine tw_rd (p2 := 631) 3 rfl rfl rfl rfl rfl rfl (by decide) hi (by omega) hb ?_
  refine cV_mI (p2 := 634) (i := 0) rfl rfl rfl rfl hI rfl rfl rfl (t_X11_feed (w := (((Int32.toInt64 (l.getD (n + 1) 0)) <<< (Int32.toInt64 32 &&& 63)) ||| ((Int32.toInt64 (l.getD (n + 2) 0)) &&& 4294967295))) (n := (l.getD (n + 3) 0)) hI) (by decide) (fun y1 h1 I1 g1 r1 => ?_)
  refine te_pop (p2 := 635) rfl rfl rfl ?_
  refine te_aload_n (p2 := 636) rfl rfl rfl ?_
  refine tw_rd (p2 := 641) 1 rfl rfl rfl rfl rfl rfl (by decide) hi (by omega) hb ?_
  refine te_i2l (p2 := 642) (z := (Int32.toInt64 (l.getD (n + 1) 0))) rfl rfl rfl ?_
  refine te_bipush (p2 := 644) (x := 32) rfl rfl (by decide) ?_
  refine te_lshl (p2 := 645) (z := ((Int32.toInt64 (l.getD (n + 1) 0)) <<< (Int32.toInt64 32 &&& 63))) rfl rfl rfl ?_
  refine tw_rd (p2 := 650) 2 rfl rfl rfl rfl rfl rfl (by decide) hi (by omega) hb ?_
  refine te_i2l (p2 := 651) (z := (Int32.toInt64 (l.getD (n + 2) 0))) rfl rfl rfl ?_
  refine te_ldc2 (p2 := 654) (x := 4294967295) rfl rfl rfl ?_
  refine te_land (p2 := 655) (z := ((Int32.toInt64 (l.getD (n + 2) 0)) &&& 4294967295)) rfl rfl rfl ?_
  refine te_lor (p2 := 656) (z := (((Int32.toInt64 (l.getD (n + 1) 0)) <<< (Int32.toInt64 32 &&& 63)) ||| ((Int32.toInt64 (l.getD (n + 2) 0)) &&& 4294967295))) rfl rfl rfl ?_
  refine tw_rd (p2 := 661) 3 rfl rfl rfl rfl rfl rfl (by decide) hi (by omega) hb ?_
  refine cV_mI (p2 := 664) (i := 148) rfl rfl rfl rfl I1 rfl rfl rfl (t_X12_feed (w := (((Int32.toInt64 (l.getD (n + 1) 0)) <<< (Int32.toInt64 32 &&& 63)) ||| ((Int32.toInt64 (l.getD (n + 2) 0)) &&& 4294967295))) (n := (l.getD (n + 3) 0)) I1) (by decide) (fun y2 h2 I2 g2 r2 => ?_)
  refine te_pop (p2 := 665) rfl rfl rfl ?_
  refine te_goto rfl ?_
  exact kx h1 h2 I2 g1 g2
set_option maxRecDepth 10000 in
set_option maxHeartbeats 2000000 in
theorem lq_order {l : List Int32} {n : Nat} {i : Int32} {h : im_H} {Q : Option Value → im_H → Prop} (hi : i.toInt = n) (hl : n + 6 ≤ l.length) (hb : l.length < 2147483648) (hI : tI h) (kx : ∀ h1 h2, tI h2 → fr F_X11_order h h1 → fr F_X12_order h1 h2 → EvP (im_K1 l) 20 mL_law (1753, lwL i, [], h2) Q) : EvP (im_K1 l) 20 mL_law (668, lwL i, [], h) Q := by
  refine te_aload_n (p2 := 669) rfl rfl rfl ?_
  refine cV_mI (p2 := 672) (i := 0) rfl rfl rfl rfl hI rfl rfl rfl (t_X11_order  hI) (by decide) (fun y1 h1 I1 g1 r1 => ?_)
  refine te_pop (p2 := 673) rfl rfl rfl ?_
  refine te_aload_n (p2 := 674) rfl rfl rfl ?_
  refine cV_mI (p2 := 677) (i := 148) rfl rfl rfl rfl I1 rfl rfl rfl (t_X12_order  I1) (by decide) (fun y2 h2 I2 g2 r2 => ?_)
  refine te_pop (p2 := 678) rfl rfl rfl ?_
  refine te_goto rfl ?_
  exact kx h1 h2 I2 g1 g2
set_option maxRecDepth 10000 in
set_option maxHeartbeats 2000000 in
theorem lq_force {l : List Int32} {n : Nat} {i : Int32} {h : im_H} {Q : Option Value → im_H → Prop} (hi : i.toInt = n) (hl : n + 6 ≤ l.length) (hb : l.length < 2147483648) (hI : tI h) (kx : ∀ h1 h2, tI h2 → fr F_X11_force h h1 → fr F_X12_force h1 h2 → EvP (im_K1 l) 20 mL_law (1753, lwL i, [], h2) Q) : EvP (im_K1 l) 20 mL_law (681, lwL i, [], h) Q := by
  refine te_aload_n (p2 := 682) rfl rfl rfl ?_
  refine tw_rd (p2 := 687) 1 rfl rfl rfl rfl rfl rfl (by decide) hi (by omega) hb ?_
  refine cV_mI (p2 := 690) (i := 0) rfl rfl rfl rfl hI rfl rfl rfl (t_X11_force (x1 := (l.getD (n + 1) 0)) hI) (by decide) (fun y1 h1 I1 g1 r1 => ?_)
  refine te_pop (p2 := 691) rfl rfl rfl ?_
  refine te_aload_n (p2 := 692) rfl rfl rfl ?_
  refine tw_rd (p2 := 697) 1 rfl rfl rfl rfl rfl rfl (by decide) hi (by omega) hb ?_
  refine cV_mI (p2 := 700) (i := 148) rfl rfl rfl rfl I1 rfl rfl rfl (t_X12_force (x1 := (l.getD (n + 1) 0)) I1) (by decide) (fun y2 h2 I2 g2 r2 => ?_)
  refine te_pop (p2 := 701) rfl rfl rfl ?_
  refine te_goto rfl ?_
  exact kx h1 h2 I2 g1 g2
set_option maxRecDepth 10000 in
set_option maxHeartbeats 2000000 in
theorem lq_says {l : List Int32} {n : Nat} {i : Int32} {h : im_H} {Q : Option Value → im_H → Prop} (hi : i.toInt = n) (hl : n + 6 ≤ l.length) (hb : l.length < 2147483648) (hI : tI h) (kx : ∀ h1 h2, tI h2 → fr F_X11_says h h1 → fr F_X12_says h1 h2 → EvP (im_K1 l) 20 mL_law (1753, lwL i, [], h2) Q) : EvP (im_K1 l) 20 mL_law (704, lwL i, [], h) Q := by
  refine te_aload_n (p2 := 705) rfl rfl rfl ?_
  refine tw_rd (p2 := 710) 1 rfl rfl rfl rfl rfl rfl (by decide) hi (by omega) hb ?_
  refine tw_rd (p2 := 715) 2 rfl rfl rfl rfl rfl rfl (by decide) hi (by omega) hb ?_
  refine cV_mI (p2 := 718) (i := 0) rfl rfl rfl rfl hI rfl rfl rfl (t_X11_says (x1 := (l.getD (n + 1) 0)) (x2 := (l.getD (n + 2) 0)) hI) (by decide) (fun y1 h1 I1 g1 r1 => ?_)
  refine te_pop (p2 := 719) rfl rfl rfl ?_
  refine te_aload_n (p2 := 720) rfl rfl rfl ?_
  refine tw_rd (p2 := 725) 1 rfl rfl rfl rfl rfl rfl (by decide) hi (by omega) hb ?_
  refine tw_rd (p2 := 730) 2 rfl rfl rfl rfl rfl rfl (by decide) hi (by omega) hb ?_
  refine cV_mI (p2 := 733) (i := 148) rfl rfl rfl rfl I1 rfl rfl rfl (t_X12_says (x1 := (l.getD (n + 1) 0)) (x2 := (l.getD (n + 2) 0)) I1) (by decide) (fun y2 h2 I2 g2 r2 => ?_)
  refine te_pop (p2 := 734) rfl rfl rfl ?_
  refine te_goto rfl ?_
  exact kx h1 h2 I2 g1 g2
set_option maxRecDepth 10000 in
set_option maxHeartbeats 2000000 in
theorem lq_run {l : List Int32} {n : Nat} {i : Int32} {h : im_H} {Q : Option Value → im_H → Prop} (hi : i.toInt = n) (hl : n + 6 ≤ l.length) (hb : l.length < 2147483648) (hI : tI h) (kx : ∀ h1 h2, tI h2 → fr F_X11_run h h1 → fr F_X12_run h1 h2 → EvP (im_K1 l) 20 mL_law (1753, lwL i, [], h2) Q) : EvP (im_K1 l) 20 mL_law (737, lwL i, [], h) Q := by
  refine te_aload_n (p2 := 738) rfl rfl rfl ?_
  refine tw_rd (p2 := 743) 1 rfl rfl rfl rfl rfl rfl (by decide) hi (by omega) hb ?_
  refine cV_mI (p2 := 746) (i := 0) rfl rfl rfl rfl hI rfl rfl rfl (t_X11_run (x1 := (l.getD (n + 1) 0)) hI) (by decide) (fun y1 h1 I1 g1 r1 => ?_)
  refine te_pop (p2 := 747) rfl rfl rfl ?_
  refine te_aload_n (p2 := 748) rfl rfl rfl ?_
  refine tw_rd (p2 := 753) 1 rfl rfl rfl rfl rfl rfl (by decide) hi (by omega) hb ?_
  refine cV_mI (p2 := 756) (i := 148) rfl rfl rfl rfl I1 rfl rfl rfl (t_X12_run (x1 := (l.getD (n + 1) 0)) I1) (by decide) (fun y2 h2 I2 g2 r2 => ?_)
  refine te_pop (p2 := 757) rfl rfl rfl ?_
  refine te_goto rfl ?_
  exact kx h1 h2 I2 g1 g2
set_option maxRecDepth 10000 in
set_option maxHeartbeats 2000000 in
theorem lq_cellTold {l : List Int32} {n : Nat} {i : Int32} {h : im_H} {Q : Option Value → im_H → Prop} (hi : i.toInt = n) (hl : n + 6 ≤ l.length) (hb : l.length < 2147483648) (hI : tI h) (kx : ∀ h1 h2, tI h2 → fr F_X11_cellTold h h1 → fr F_X12_cellTold h1 h2 → EvP (im_K1 l) 20 mL_law (1753, lwL i, [], h2) Q) : EvP (im_K1 l) 20 mL_law (760, lwL i, [], h) Q := by
  refine te_aload_n (p2 := 761) rfl rfl rfl ?_
  refine tw_rd (p2 := 766) 1 rfl rfl rfl rfl rfl rfl (by decide) hi (by omega) hb ?_
  refine tw_rd (p2 := 771) 2 rfl rfl rfl rfl rfl rfl (by decide) hi (by omega) hb ?_
  refine cV_mI (p2 := 774) (i := 0) rfl rfl rfl rfl hI rfl rfl rfl (t_X11_cellTold (x1 := (l.getD (n + 1) 0)) (x2 := (l.getD (n + 2) 0)) hI) (by decide) (fun y1 h1 I1 g1 r1 => ?_)
  refine te_pop (p2 := 775) rfl rfl rfl ?_
  refine te_aload_n (p2 := 776) rfl rfl rfl ?_
  refine tw_rd (p2 := 781) 1 rfl rfl rfl rfl rfl rfl (by decide) hi (by omega) hb ?_
  refine tw_rd (p2 := 786) 2 rfl rfl rfl rfl rfl rfl (by decide) hi (by omega) hb ?_
  refine cV_mI (p2 := 789) (i := 148) rfl rfl rfl rfl I1 rfl rfl rfl (t_X12_cellTold (x1 := (l.getD (n + 1) 0)) (x2 := (l.getD (n + 2) 0)) I1) (by decide) (fun y2 h2 I2 g2 r2 => ?_)
  refine te_pop (p2 := 790) rfl rfl rfl ?_
  refine te_goto rfl ?_
  exact kx h1 h2 I2 g1 g2
set_option maxRecDepth 10000 in
set_option maxHeartbeats 2000000 in
theorem lq_kindTold {l : List Int32} {n : Nat} {i : Int32} {h : im_H} {Q : Option Value → im_H → Prop} (hi : i.toInt = n) (hl : n + 6 ≤ l.length) (hb : l.length < 2147483648) (hI : tI h) (kx : ∀ h1 h2, tI h2 → fr F_X11_kindTold h h1 → fr F_X12_kindTold h1 h2 → EvP (im_K1 l) 20 mL_law (1753, lwL i, [], h2) Q) : EvP (im_K1 l) 20 mL_law (793, lwL i, [], h) Q := by
  refine te_aload_n (p2 := 794) rfl rfl rfl ?_
  refine tw_rd (p2 := 799) 1 rfl rfl rfl rfl rfl rfl (by decide) hi (by omega) hb ?_
  refine tw_rd (p2 := 804) 2 rfl rfl rfl rfl rfl rfl (by decide) hi (by omega) hb ?_
  refine cV_mI (p2 := 807) (i := 0) rfl rfl rfl rfl hI rfl rfl rfl (t_X11_kindTold (x1 := (l.getD (n + 1) 0)) (x2 := (l.getD (n + 2) 0)) hI) (by decide) (fun y1 h1 I1 g1 r1 => ?_)
  refine te_pop (p2 := 808) rfl rfl rfl ?_
  refine te_aload_n (p2 := 809) rfl rfl rfl ?_
  refine tw_rd (p2 := 814) 1 rfl rfl rfl rfl rfl rfl (by decide) hi (by omega) hb ?_
  refine tw_rd (p2 := 819) 2 rfl rfl rfl rfl rfl rfl (by decide) hi (by omega) hb ?_
  refine cV_mI (p2 := 822) (i := 148) rfl rfl rfl rfl I1 rfl rfl rfl (t_X12_kindTold (x1 := (l.getD (n + 1) 0)) (x2 := (l.getD (n + 2) 0)) I1) (by decide) (fun y2 h2 I2 g2 r2 => ?_)
  refine te_pop (p2 := 823) rfl rfl rfl ?_
  refine te_goto rfl ?_
  exact kx h1 h2 I2 g1 g2
set_option maxRecDepth 10000 in
set_option maxHeartbeats 2000000 in
theorem lq_personTold {l : List Int32} {n : Nat} {i : Int32} {h : im_H} {Q : Option Value → im_H → Prop} (hi : i.toInt = n) (hl : n + 6 ≤ l.length) (hb : l.length < 2147483648) (hI : tI h) (kx : ∀ h1 h2, tI h2 → fr F_X11_personTold h h1 → fr F_X12_personTold h1 h2 → EvP (im_K1 l) 20 mL_law (1753, lwL i, [], h2) Q) : EvP (im_K1 l) 20 mL_law (826, lwL i, [], h) Q := by
  refine te_aload_n (p2 := 827) rfl rfl rfl ?_
  refine tw_rd (p2 := 832) 1 rfl rfl rfl rfl rfl rfl (by decide) hi (by omega) hb ?_
  refine tw_rd (p2 := 837) 2 rfl rfl rfl rfl rfl rfl (by decide) hi (by omega) hb ?_
  refine cV_mI (p2 := 840) (i := 0) rfl rfl rfl rfl hI rfl rfl rfl (t_X11_personTold (x1 := (l.getD (n + 1) 0)) (x2 := (l.getD (n + 2) 0)) hI) (by decide) (fun y1 h1 I1 g1 r1 => ?_)
  refine te_pop (p2 := 841) rfl rfl rfl ?_
  refine te_aload_n (p2 := 842) rfl rfl rfl ?_
  refine tw_rd (p2 := 847) 1 rfl rfl rfl rfl rfl rfl (by decide) hi (by omega) hb ?_
  refine tw_rd (p2 := 852) 2 rfl rfl rfl rfl rfl rfl (by decide) hi (by omega) hb ?_
  refine cV_mI (p2 := 855) (i := 148) rfl rfl rfl rfl I1 rfl rfl rfl (t_X12_personTold (x1 := (l.getD (n + 1) 0)) (x2 := (l.getD (n + 2) 0)) I1) (by decide) (fun y2 h2 I2 g2 r2 => ?_)
  refine te_pop (p2 := 856) rfl rfl rfl ?_
  refine te_goto rfl ?_
  exact kx h1 h2 I2 g1 g2
set_option maxRecDepth 10000 in
set_option maxHeartbeats 2000000 in
theorem lq_rowTold {l : List Int32} {n : Nat} {i : Int32} {h : im_H} {Q : Option Value → im_H → Prop} (hi : i.toInt = n) (hl : n + 6 ≤ l.length) (hb : l.length < 2147483648) (hI : tI h) (kx : ∀ h1 h2, tI h2 → fr F_X11_rowTold h h1 → fr F_X12_rowTold h1 h2 → EvP (im_K1 l) 20 mL_law (1753, lwL i, [], h2) Q) : EvP (im_K1 l) 20 mL_law (859, lwL i, [], h) Q := by
  refine te_aload_n (p2 := 860) rfl rfl rfl ?_
  refine tw_rd (p2 := 865) 1 rfl rfl rfl rfl rfl rfl (by decide) hi (by omega) hb ?_
  refine tw_rd (p2 := 870) 2 rfl rfl rfl rfl rfl rfl (by decide) hi (by omega) hb ?_
  refine cV_mI (p2 := 873) (i := 0) rfl rfl rfl rfl hI rfl rfl rfl (t_X11_rowTold (x1 := (l.getD (n + 1) 0)) (x2 := (l.getD (n + 2) 0)) hI) (by decide) (fun y1 h1 I1 g1 r1 => ?_)
  refine te_pop (p2 := 874) rfl rfl rfl ?_
  refine te_aload_n (p2 := 875) rfl rfl rfl ?_
  refine tw_rd (p2 := 880) 1 rfl rfl rfl rfl rfl rfl (by decide) hi (by omega) hb ?_
  refine tw_rd (p2 := 885) 2 rfl rfl rfl rfl rfl rfl (by decide) hi (by omega) hb ?_
  refine cV_mI (p2 := 888) (i := 148) rfl rfl rfl rfl I1 rfl rfl rfl (t_X12_rowTold (x1 := (l.getD (n + 1) 0)) (x2 := (l.getD (n + 2) 0)) I1) (by decide) (fun y2 h2 I2 g2 r2 => ?_)
  refine te_pop (p2 := 889) rfl rfl rfl ?_
  refine te_goto rfl ?_
  exact kx h1 h2 I2 g1 g2
set_option maxRecDepth 10000 in
set_option maxHeartbeats 2000000 in
theorem lq_railTold {l : List Int32} {n : Nat} {i : Int32} {h : im_H} {Q : Option Value → im_H → Prop} (hi : i.toInt = n) (hl : n + 6 ≤ l.length) (hb : l.length < 2147483648) (hI : tI h) (kx : ∀ h1 h2, tI h2 → fr F_X11_railTold h h1 → fr F_X12_railTold h1 h2 → EvP (im_K1 l) 20 mL_law (1753, lwL i, [], h2) Q) : EvP (im_K1 l) 20 mL_law (892, lwL i, [], h) Q := by
  refine te_aload_n (p2 := 893) rfl rfl rfl ?_
  refine tw_rd (p2 := 898) 1 rfl rfl rfl rfl rfl rfl (by decide) hi (by omega) hb ?_
  refine tw_rd (p2 := 903) 2 rfl rfl rfl rfl rfl rfl (by decide) hi (by omega) hb ?_
  refine cV_mI (p2 := 906) (i := 0) rfl rfl rfl rfl hI rfl rfl rfl (t_X11_railTold (x1 := (l.getD (n + 1) 0)) (x2 := (l.getD (n + 2) 0)) hI) (by decide) (fun y1 h1 I1 g1 r1 => ?_)
  refine te_pop (p2 := 907) rfl rfl rfl ?_
  refine te_aload_n (p2 := 908) rfl rfl rfl ?_
  refine tw_rd (p2 := 913) 1 rfl rfl rfl rfl rfl rfl (by decide) hi (by omega) hb ?_
  refine tw_rd (p2 := 918) 2 rfl rfl rfl rfl rfl rfl (by decide) hi (by omega) hb ?_
  refine cV_mI (p2 := 921) (i := 148) rfl rfl rfl rfl I1 rfl rfl rfl (t_X12_railTold (x1 := (l.getD (n + 1) 0)) (x2 := (l.getD (n + 2) 0)) I1) (by decide) (fun y2 h2 I2 g2 r2 => ?_)
  refine te_pop (p2 := 922) rfl rfl rfl ?_
  refine te_goto rfl ?_
  exact kx h1 h2 I2 g1 g2
set_option maxRecDepth 10000 in
set_option maxHeartbeats 2000000 in
theorem lq_wallTold {l : List Int32} {n : Nat} {i : Int32} {h : im_H} {Q : Option Value → im_H → Prop} (hi : i.toInt = n) (hl : n + 6 ≤ l.length) (hb : l.length < 2147483648) (hI : tI h) (kx : ∀ h1 h2, tI h2 → fr F_X11_wallTold h h1 → fr F_X12_wallTold h1 h2 → EvP (im_K1 l) 20 mL_law (1753, lwL i, [], h2) Q) : EvP (im_K1 l) 20 mL_law (925, lwL i, [], h) Q := by
  refine te_aload_n (p2 := 926) rfl rfl rfl ?_
  refine tw_rd (p2 := 931) 1 rfl rfl rfl rfl rfl rfl (by decide) hi (by omega) hb ?_
  refine tw_rd (p2 := 936) 2 rfl rfl rfl rfl rfl rfl (by decide) hi (by omega) hb ?_
  refine cV_mI (p2 := 939) (i := 0) rfl rfl rfl rfl hI rfl rfl rfl (t_X11_wallTold (x1 := (l.getD (n + 1) 0)) (x2 := (l.getD (n + 2) 0)) hI) (by decide) (fun y1 h1 I1 g1 r1 => ?_)
  refine te_pop (p2 := 940) rfl rfl rfl ?_
  refine te_aload_n (p2 := 941) rfl rfl rfl ?_
  refine tw_rd (p2 := 946) 1 rfl rfl rfl rfl rfl rfl (by decide) hi (by omega) hb ?_
  refine tw_rd (p2 := 951) 2 rfl rfl rfl rfl rfl rfl (by decide) hi (by omega) hb ?_
  refine cV_mI (p2 := 954) (i := 148) rfl rfl rfl rfl I1 rfl rfl rfl (t_X12_wallTold (x1 := (l.getD (n + 1) 0)) (x2 := (l.getD (n + 2) 0)) I1) (by decide) (fun y2 h2 I2 g2 r2 => ?_)
  refine te_pop (p2 := 955) rfl rfl rfl ?_
  refine te_goto rfl ?_
  exact kx h1 h2 I2 g1 g2
set_option maxRecDepth 10000 in
set_option maxHeartbeats 2000000 in
theorem lq_count {l : List Int32} {n : Nat} {i : Int32} {h : im_H} {Q : Option Value → im_H → Prop} (hi : i.toInt = n) (hl : n + 6 ≤ l.length) (hb : l.length < 2147483648) (hI : tI h) (kx : ∀ h1 h2, tI h2 → fr F_X11_count h h1 → fr F_X12_count h1 h2 → EvP (im_K1 l) 20 mL_law (1753, lwL i, [], h2) Q) : EvP (im_K1 l) 20 mL_law (958, lwL i, [], h) Q := by
  refine te_aload_n (p2 := 959) rfl rfl rfl ?_
  refine tw_rd (p2 := 964) 1 rfl rfl rfl rfl rfl rfl (by decide) hi (by omega) hb ?_
  refine cV_mI (p2 := 967) (i := 0) rfl rfl rfl rfl hI rfl rfl rfl (t_X11_count (x1 := (l.getD (n + 1) 0)) hI) (by decide) (fun y1 h1 I1 g1 r1 => ?_)
  refine te_pop (p2 := 968) rfl rfl rfl ?_
  refine te_aload_n (p2 := 969) rfl rfl rfl ?_
  refine tw_rd (p2 := 974) 1 rfl rfl rfl rfl rfl rfl (by decide) hi (by omega) hb ?_
  refine cV_mI (p2 := 977) (i := 148) rfl rfl rfl rfl I1 rfl rfl rfl (t_X12_count (x1 := (l.getD (n + 1) 0)) I1) (by decide) (fun y2 h2 I2 g2 r2 => ?_)
  refine te_pop (p2 := 978) rfl rfl rfl ?_
  refine te_goto rfl ?_
  exact kx h1 h2 I2 g1 g2
set_option maxRecDepth 10000 in
set_option maxHeartbeats 2000000 in
theorem lq_pull {l : List Int32} {n : Nat} {i : Int32} {h : im_H} {Q : Option Value → im_H → Prop} (hi : i.toInt = n) (hl : n + 6 ≤ l.length) (hb : l.length < 2147483648) (hI : tI h) (kx : ∀ h1 h2, tI h2 → fr F_X11_pull h h1 → fr F_X12_pull h1 h2 → EvP (im_K1 l) 20 mL_law (1753, lwL i, [], h2) Q) : EvP (im_K1 l) 20 mL_law (981, lwL i, [], h) Q := by
  refine te_aload_n (p2 := 982) rfl rfl rfl ?_
  refine tw_rd (p2 := 987) 1 rfl rfl rfl rfl rfl rfl (by decide) hi (by omega) hb ?_
  refine cV_mI (p2 := 990) (i := 0) rfl rfl rfl rfl hI rfl rfl rfl (t_X11_pull (x1 := (l.getD (n + 1) 0)) hI) (by decide) (fun y1 h1 I1 g1 r1 => ?_)
  refine te_pop (p2 := 991) rfl rfl rfl ?_
  refine te_aload_n (p2 := 992) rfl rfl rfl ?_
  refine tw_rd (p2 := 997) 1 rfl rfl rfl rfl rfl rfl (by decide) hi (by omega) hb ?_
  refine cV_mI (p2 := 1000) (i := 148) rfl rfl rfl rfl I1 rfl rfl rfl (t_X12_pull (x1 := (l.getD (n + 1) 0)) I1) (by decide) (fun y2 h2 I2 g2 r2 => ?_)
  refine te_pop (p2 := 1001) rfl rfl rfl ?_
  refine te_goto rfl ?_
  exact kx h1 h2 I2 g1 g2
set_option maxRecDepth 10000 in
set_option maxHeartbeats 2000000 in
theorem lq_pulls {l : List Int32} {n : Nat} {i : Int32} {h : im_H} {Q : Option Value → im_H → Prop} (hi : i.toInt = n) (hl : n + 6 ≤ l.length) (hb : l.length < 2147483648) (hI : tI h) (kx : ∀ h1 h2, tI h2 → fr F_X11_pulls h h1 → fr F_X12_pulls h1 h2 → EvP (im_K1 l) 20 mL_law (1753, lwL i, [], h2) Q) : EvP (im_K1 l) 20 mL_law (1004, lwL i, [], h) Q := by
  refine te_aload_n (p2 := 1005) rfl rfl rfl ?_
  refine tw_rd (p2 := 1010) 1 rfl rfl rfl rfl rfl rfl (by decide) hi (by omega) hb ?_
  refine cV_mI (p2 := 1013) (i := 0) rfl rfl rfl rfl hI rfl rfl rfl (t_X11_pulls (x1 := (l.getD (n + 1) 0)) hI) (by decide) (fun y1 h1 I1 g1 r1 => ?_)
  refine te_pop (p2 := 1014) rfl rfl rfl ?_
  refine te_aload_n (p2 := 1015) rfl rfl rfl ?_
  refine tw_rd (p2 := 1020) 1 rfl rfl rfl rfl rfl rfl (by decide) hi (by omega) hb ?_
  refine cV_mI (p2 := 1023) (i := 148) rfl rfl rfl rfl I1 rfl rfl rfl (t_X12_pulls (x1 := (l.getD (n + 1) 0)) I1) (by decide) (fun y2 h2 I2 g2 r2 => ?_)
  refine te_pop (p2 := 1024) rfl rfl rfl ?_
  refine te_goto rfl ?_
  exact kx h1 h2 I2 g1 g2
set_option maxRecDepth 10000 in
set_option maxHeartbeats 2000000 in
theorem lq_pullTold {l : List Int32} {n : Nat} {i : Int32} {h : im_H} {Q : Option Value → im_H → Prop} (hi : i.toInt = n) (hl : n + 6 ≤ l.length) (hb : l.length < 2147483648) (hI : tI h) (kx : ∀ h1 h2, tI h2 → fr F_X11_pullTold h h1 → fr F_X12_pullTold h1 h2 → EvP (im_K1 l) 20 mL_law (1753, lwL i, [], h2) Q) : EvP (im_K1 l) 20 mL_law (1027, lwL i, [], h) Q := by
  refine te_aload_n (p2 := 1028) rfl rfl rfl ?_
  refine tw_rd (p2 := 1033) 1 rfl rfl rfl rfl rfl rfl (by decide) hi (by omega) hb ?_
  refine cV_mI (p2 := 1036) (i := 0) rfl rfl rfl rfl hI rfl rfl rfl (t_X11_pullTold (x1 := (l.getD (n + 1) 0)) hI) (by decide) (fun y1 h1 I1 g1 r1 => ?_)
  refine te_pop (p2 := 1037) rfl rfl rfl ?_
  refine te_aload_n (p2 := 1038) rfl rfl rfl ?_
  refine tw_rd (p2 := 1043) 1 rfl rfl rfl rfl rfl rfl (by decide) hi (by omega) hb ?_
  refine cV_mI (p2 := 1046) (i := 148) rfl rfl rfl rfl I1 rfl rfl rfl (t_X12_pullTold (x1 := (l.getD (n + 1) 0)) I1) (by decide) (fun y2 h2 I2 g2 r2 => ?_)
  refine te_pop (p2 := 1047) rfl rfl rfl ?_
  refine te_goto rfl ?_
  exact kx h1 h2 I2 g1 g2
set_option maxRecDepth 10000 in
set_option maxHeartbeats 2000000 in
theorem lq_mends {l : List Int32} {n : Nat} {i : Int32} {h : im_H} {Q : Option Value → im_H → Prop} (hi : i.toInt = n) (hl : n + 6 ≤ l.length) (hb : l.length < 2147483648) (hI : tI h) (kx : ∀ h1 h2, tI h2 → fr F_X11_mends h h1 → fr F_X12_mends h1 h2 → EvP (im_K1 l) 20 mL_law (1753, lwL i, [], h2) Q) : EvP (im_K1 l) 20 mL_law (1050, lwL i, [], h) Q := by
  refine te_aload_n (p2 := 1051) rfl rfl rfl ?_
  refine tw_rd (p2 := 1056) 1 rfl rfl rfl rfl rfl rfl (by decide) hi (by omega) hb ?_
  refine cV_mI (p2 := 1059) (i := 0) rfl rfl rfl rfl hI rfl rfl rfl (t_X11_mends (x1 := (l.getD (n + 1) 0)) hI) (by decide) (fun y1 h1 I1 g1 r1 => ?_)
  refine te_pop (p2 := 1060) rfl rfl rfl ?_
  refine te_aload_n (p2 := 1061) rfl rfl rfl ?_
  refine tw_rd (p2 := 1066) 1 rfl rfl rfl rfl rfl rfl (by decide) hi (by omega) hb ?_
  refine cV_mI (p2 := 1069) (i := 148) rfl rfl rfl rfl I1 rfl rfl rfl (t_X12_mends (x1 := (l.getD (n + 1) 0)) I1) (by decide) (fun y2 h2 I2 g2 r2 => ?_)
  refine te_pop (p2 := 1070) rfl rfl rfl ?_
  refine te_goto rfl ?_
  exact kx h1 h2 I2 g1 g2
set_option maxRecDepth 10000 in
set_option maxHeartbeats 2000000 in
theorem lq_mendTold {l : List Int32} {n : Nat} {i : Int32} {h : im_H} {Q : Option Value → im_H → Prop} (hi : i.toInt = n) (hl : n + 6 ≤ l.length) (hb : l.length < 2147483648) (hI : tI h) (kx : ∀ h1 h2, tI h2 → fr F_X11_mendTold h h1 → fr F_X12_mendTold h1 h2 → EvP (im_K1 l) 20 mL_law (1753, lwL i, [], h2) Q) : EvP (im_K1 l) 20 mL_law (1073, lwL i, [], h) Q := by
  refine te_aload_n (p2 := 1074) rfl rfl rfl ?_
  refine cV_mI (p2 := 1077) (i := 0) rfl rfl rfl rfl hI rfl rfl rfl (t_X11_mendTold  hI) (by decide) (fun y1 h1 I1 g1 r1 => ?_)
  refine te_pop (p2 := 1078) rfl rfl rfl ?_
  refine te_aload_n (p2 := 1079) rfl rfl rfl ?_
  refine cV_mI (p2 := 1082) (i := 148) rfl rfl rfl rfl I1 rfl rfl rfl (t_X12_mendTold  I1) (by decide) (fun y2 h2 I2 g2 r2 => ?_)
  refine te_pop (p2 := 1083) rfl rfl rfl ?_
  refine te_goto rfl ?_
  exact kx h1 h2 I2 g1 g2
set_option maxRecDepth 10000 in
set_option maxHeartbeats 2000000 in
theorem lq_mend {l : List Int32} {n : Nat} {i : Int32} {h : im_H} {Q : Option Value → im_H → Prop} (hi : i.toInt = n) (hl : n + 6 ≤ l.length) (hb : l.length < 2147483648) (hI : tI h) (kx : ∀ h1 h2, tI h2 → fr F_X11_mend h h1 → fr F_X12_mend h1 h2 → EvP (im_K1 l) 20 mL_law (1753, lwL i, [], h2) Q) : EvP (im_K1 l) 20 mL_law (1086, lwL i, [], h) Q := by
  refine te_aload_n (p2 := 1087) rfl rfl rfl ?_
  refine tw_rd (p2 := 1092) 1 rfl rfl rfl rfl rfl rfl (by decide) hi (by omega) hb ?_
  refine cV_mI (p2 := 1095) (i := 0) rfl rfl rfl rfl hI rfl rfl rfl (t_X11_mend (x1 := (l.getD (n + 1) 0)) hI) (by decide) (fun y1 h1 I1 g1 r1 => ?_)
  refine te_pop (p2 := 1096) rfl rfl rfl ?_
  refine te_aload_n (p2 := 1097) rfl rfl rfl ?_
  refine tw_rd (p2 := 1102) 1 rfl rfl rfl rfl rfl rfl (by decide) hi (by omega) hb ?_
  refine cV_mI (p2 := 1105) (i := 148) rfl rfl rfl rfl I1 rfl rfl rfl (t_X12_mend (x1 := (l.getD (n + 1) 0)) I1) (by decide) (fun y2 h2 I2 g2 r2 => ?_)
  refine te_pop (p2 := 1106) rfl rfl rfl ?_
  refine te_goto rfl ?_
  exact kx h1 h2 I2 g1 g2
set_option maxRecDepth 10000 in
set_option maxHeartbeats 2000000 in
theorem lq_roomTold {l : List Int32} {n : Nat} {i : Int32} {h : im_H} {Q : Option Value → im_H → Prop} (hi : i.toInt = n) (hl : n + 6 ≤ l.length) (hb : l.length < 2147483648) (hI : tI h) (kx : ∀ h1 h2, tI h2 → fr F_X11_roomTold h h1 → fr F_X12_roomTold h1 h2 → EvP (im_K1 l) 20 mL_law (1753, lwL i, [], h2) Q) : EvP (im_K1 l) 20 mL_law (1109, lwL i, [], h) Q := by
  refine te_aload_n (p2 := 1110) rfl rfl rfl ?_
  refine tw_rd (p2 := 1115) 1 rfl rfl rfl rfl rfl rfl (by decide) hi (by omega) hb ?_
  refine tw_rd (p2 := 1120) 2 rfl rfl rfl rfl rfl rfl (by decide) hi (by omega) hb ?_
  refine cV_mI (p2 := 1123) (i := 0) rfl rfl rfl rfl hI rfl rfl rfl (t_X11_roomTold (x1 := (l.getD (n + 1) 0)) (x2 := (l.getD (n + 2) 0)) hI) (by decide) (fun y1 h1 I1 g1 r1 => ?_)
  refine te_pop (p2 := 1124) rfl rfl rfl ?_
  refine te_aload_n (p2 := 1125) rfl rfl rfl ?_
  refine tw_rd (p2 := 1130) 1 rfl rfl rfl rfl rfl rfl (by decide) hi (by omega) hb ?_
  refine tw_rd (p2 := 1135) 2 rfl rfl rfl rfl rfl rfl (by decide) hi (by omega) hb ?_
  refine cV_mI (p2 := 1138) (i := 148) rfl rfl rfl rfl I1 rfl rfl rfl (t_X12_roomTold (x1 := (l.getD (n + 1) 0)) (x2 := (l.getD (n + 2) 0)) I1) (by decide) (fun y2 h2 I2 g2 r2 => ?_)
  refine te_pop (p2 := 1139) rfl rfl rfl ?_
  refine te_goto rfl ?_
  exact kx h1 h2 I2 g1 g2
set_option maxRecDepth 10000 in
set_option maxHeartbeats 2000000 in
theorem lq_raid {l : List Int32} {n : Nat} {i : Int32} {h : im_H} {Q : Option Value → im_H → Prop} (hi : i.toInt = n) (hl : n + 6 ≤ l.length) (hb : l.length < 2147483648) (hI : tI h) (hr : rel h) (kx : ∀ h2, tI h2 → rel h2 → EvP (im_K1 l) 20 mL_law (1753, lwL i, [], h2) Q) : EvP (im_K1 l) 20 mL_law (1142, lwL i, [], h) Q := by
  refine te_aload_n (p2 := 1143) rfl rfl rfl ?_
  refine tw_rd (p2 := 1148) 1 rfl rfl rfl rfl rfl rfl (by decide) hi (by omega) hb ?_
  refine tw_rd (p2 := 1153) 2 rfl rfl rfl rfl rfl rfl (by decide) hi (by omega) hb ?_
  refine tw_rd (p2 := 1158) 3 rfl rfl rfl rfl rfl rfl (by decide) hi (by omega) hb ?_
  refine tw_rd (p2 := 1163) 4 rfl rfl rfl rfl rfl rfl (by decide) hi (by omega) hb ?_
  refine tc_V (p2 := 1166) (i := 0) rfl rfl rfl rfl hI rfl rfl rfl (c_X11_raid (x1 := (l.getD (n + 1) 0)) (x2 := (l.getD (n + 2) 0)) (x3 := (l.getD (n + 3) 0)) (x4 := (l.getD (n + 4) 0)) hI) (by decide) (fun v1 h1 q1 => ?_)
  obtain ⟨I1, g1, y1, w1, r1⟩ := q1
  subst w1
  show EvP _ _ _ (1166, lwL i, [.int y1], h1) _
  refine te_pop (p2 := 1167) rfl rfl rfl ?_
  refine te_aload_n (p2 := 1168) rfl rfl rfl ?_
  refine tw_rd (p2 := 1173) 1 rfl rfl rfl rfl rfl rfl (by decide) hi (by omega) hb ?_
  refine tw_rd (p2 := 1178) 2 rfl rfl rfl rfl rfl rfl (by decide) hi (by omega) hb ?_
  refine tw_rd (p2 := 1183) 3 rfl rfl rfl rfl rfl rfl (by decide) hi (by omega) hb ?_
  refine tw_rd (p2 := 1188) 4 rfl rfl rfl rfl rfl rfl (by decide) hi (by omega) hb ?_
  refine tc_V (p2 := 1191) (i := 148) rfl rfl rfl rfl I1 rfl rfl rfl (c_X12_raid (x1 := (l.getD (n + 1) 0)) (x2 := (l.getD (n + 2) 0)) (x3 := (l.getD (n + 3) 0)) (x4 := (l.getD (n + 4) 0)) I1) (by decide) (fun v2 h2 q2 => ?_)
  obtain ⟨I2, g2, y2, w2, r2⟩ := q2
  subst w2
  show EvP _ _ _ (1191, lwL i, [.int y2], h2) _
  refine te_pop (p2 := 1192) rfl rfl rfl ?_
  refine te_goto rfl ?_
  exact kx h2 I2 (relc_raid (x1 := (l.getD (n + 1) 0)) (x2 := (l.getD (n + 2) 0)) (x3 := (l.getD (n + 3) 0)) (x4 := (l.getD (n + 4) 0)) (y1 := y1) (y2 := y2) hr g1 g2 r1 r2)
set_option maxRecDepth 10000 in
set_option maxHeartbeats 2000000 in
theorem lq_probe {l : List Int32} {n : Nat} {i : Int32} {h : im_H} {Q : Option Value → im_H → Prop} (hi : i.toInt = n) (hl : n + 6 ≤ l.length) (hb : l.length < 2147483648) (hI : tI h) (hr : rel h) (kx : ∀ h2, tI h2 → rel h2 → EvP (im_K1 l) 20 mL_law (1753, lwL i, [], h2) Q) : EvP (im_K1 l) 20 mL_law (1195, lwL i, [], h) Q := by
  refine te_aload_n (p2 := 1196) rfl rfl rfl ?_
  refine tw_rd (p2 := 1201) 1 rfl rfl rfl rfl rfl rfl (by decide) hi (by omega) hb ?_
  refine tw_rd (p2 := 1206) 2 rfl rfl rfl rfl rfl rfl (by decide) hi (by omega) hb ?_
  refine tc_V (p2 := 1209) (i := 0) rfl rfl rfl rfl hI rfl rfl rfl (c_X11_probe (x1 := (l.getD (n + 1) 0)) (x2 := (l.getD (n + 2) 0)) hI) (by decide) (fun v1 h1 q1 => ?_)
  obtain ⟨I1, g1, y1, w1, r1⟩ := q1
  subst w1
  show EvP _ _ _ (1209, lwL i, [.int y1], h1) _
  refine te_pop (p2 := 1210) rfl rfl rfl ?_
  refine te_aload_n (p2 := 1211) rfl rfl rfl ?_
  refine tw_rd (p2 := 1216) 1 rfl rfl rfl rfl rfl rfl (by decide) hi (by omega) hb ?_
  refine tw_rd (p2 := 1221) 2 rfl rfl rfl rfl rfl rfl (by decide) hi (by omega) hb ?_
  refine tc_V (p2 := 1224) (i := 148) rfl rfl rfl rfl I1 rfl rfl rfl (c_X12_probe (x1 := (l.getD (n + 1) 0)) (x2 := (l.getD (n + 2) 0)) I1) (by decide) (fun v2 h2 q2 => ?_)
  obtain ⟨I2, g2, y2, w2, r2⟩ := q2
  subst w2
  show EvP _ _ _ (1224, lwL i, [.int y2], h2) _
  refine te_pop (p2 := 1225) rfl rfl rfl ?_
  refine te_goto rfl ?_
  exact kx h2 I2 (relc_probe (x1 := (l.getD (n + 1) 0)) (x2 := (l.getD (n + 2) 0)) (y1 := y1) (y2 := y2) hr g1 g2 r1 r2)
set_option maxRecDepth 10000 in
set_option maxHeartbeats 2000000 in
theorem lq_likely {l : List Int32} {n : Nat} {i : Int32} {h : im_H} {Q : Option Value → im_H → Prop} (hi : i.toInt = n) (hl : n + 6 ≤ l.length) (hb : l.length < 2147483648) (hI : tI h) (kx : ∀ h1 h2, tI h2 → fr F_X11_likely h h1 → fr F_X12_likely h1 h2 → EvP (im_K1 l) 20 mL_law (1753, lwL i, [], h2) Q) : EvP (im_K1 l) 20 mL_law (1228, lwL i, [], h) Q := by
  refine te_aload_n (p2 := 1229) rfl rfl rfl ?_
  refine tw_rd (p2 := 1234) 1 rfl rfl rfl rfl rfl rfl (by decide) hi (by omega) hb ?_
  refine tw_rd (p2 := 1239) 2 rfl rfl rfl rfl rfl rfl (by decide) hi (by omega) hb ?_
  refine cV_mL (p2 := 1242) (i := 0) rfl rfl rfl rfl hI rfl rfl rfl (t_X11_likely (x1 := (l.getD (n + 1) 0)) (x2 := (l.getD (n + 2) 0)) hI) (by decide) (fun y1 h1 I1 g1 => ?_)
  refine te_pop2 (p2 := 1243) rfl rfl rfl ?_
  refine te_aload_n (p2 := 1244) rfl rfl rfl ?_
  refine tw_rd (p2 := 1249) 1 rfl rfl rfl rfl rfl rfl (by decide) hi (by omega) hb ?_
  refine tw_rd (p2 := 1254) 2 rfl rfl rfl rfl rfl rfl (by decide) hi (by omega) hb ?_
  refine cV_mL (p2 := 1257) (i := 148) rfl rfl rfl rfl I1 rfl rfl rfl (t_X12_likely (x1 := (l.getD (n + 1) 0)) (x2 := (l.getD (n + 2) 0)) I1) (by decide) (fun y2 h2 I2 g2 => ?_)
  refine te_pop2 (p2 := 1258) rfl rfl rfl ?_
  refine te_goto rfl ?_
  exact kx h1 h2 I2 g1 g2
set_option maxRecDepth 10000 in
set_option maxHeartbeats 2000000 in
theorem lq_next {l : List Int32} {n : Nat} {i : Int32} {h : im_H} {Q : Option Value → im_H → Prop} (hi : i.toInt = n) (hl : n + 6 ≤ l.length) (hb : l.length < 2147483648) (hI : tI h) (hr : rel h) (kx : ∀ h2, tI h2 → rel h2 → EvP (im_K1 l) 20 mL_law (1753, lwL i, [], h2) Q) : EvP (im_K1 l) 20 mL_law (1261, lwL i, [], h) Q := by
  refine te_aload_n (p2 := 1262) rfl rfl rfl ?_
  refine tc_V (p2 := 1265) (i := 0) rfl rfl rfl rfl hI rfl rfl rfl (c_X11_next  hI) (by decide) (fun v1 h1 q1 => ?_)
  obtain ⟨I1, g1, y1, w1, r1⟩ := q1
  subst w1
  show EvP _ _ _ (1265, lwL i, [.int y1], h1) _
  refine te_aload_n (p2 := 1266) rfl rfl rfl ?_
  refine tc_V (p2 := 1269) (i := 148) rfl rfl rfl rfl I1 rfl rfl rfl (c_X12_next  I1) (by decide) (fun v2 h2 q2 => ?_)
  obtain ⟨I2, g2, y2, w2, r2⟩ := q2
  subst w2
  show EvP _ _ _ (1269, lwL i, [.int y2, .int y1], h2) _
  obtain ⟨ye, hr2⟩ := relc_next  (y1 := y1) (y2 := y2) hr g1 g2 r1 r2
  refine tb_eq (p2 := 1272) rfl rfl rfl rfl (fun _ => kx h2 I2 hr2) (fun hc => absurd (congrArg Int32.toInt ye) hc)
set_option maxRecDepth 10000 in
set_option maxHeartbeats 2000000 in
theorem lq_paper {l : List Int32} {n : Nat} {i : Int32} {h : im_H} {Q : Option Value → im_H → Prop} (hi : i.toInt = n) (hl : n + 6 ≤ l.length) (hb : l.length < 2147483648) (hI : tI h) (kx : ∀ h1 h2, tI h2 → fr F_X11_paper h h1 → fr F_X12_paper h1 h2 → EvP (im_K1 l) 20 mL_law (1753, lwL i, [], h2) Q) : EvP (im_K1 l) 20 mL_law (1274, lwL i, [], h) Q := by
  refine te_aload_n (p2 := 1275) rfl rfl rfl ?_
  refine tw_rd (p2 := 1280) 1 rfl rfl rfl rfl rfl rfl (by decide) hi (by omega) hb ?_
  refine tw_rd (p2 := 1285) 2 rfl rfl rfl rfl rfl rfl (by decide) hi (by omega) hb ?_
  refine tw_rd (p2 := 1290) 3 rfl rfl rfl rfl rfl rfl (by decide) hi (by omega) hb ?_
  refine cV_mI (p2 := 1293) (i := 0) rfl rfl rfl rfl hI rfl rfl rfl (t_X11_paper (x1 := (l.getD (n + 1) 0)) (x2 := (l.getD (n + 2) 0)) (x3 := (l.getD (n + 3) 0)) hI) (by decide) (fun y1 h1 I1 g1 r1 => ?_)
  refine te_pop (p2 := 1294) rfl rfl rfl ?_
  refine te_aload_n (p2 := 1295) rfl rfl rfl ?_
  refine tw_rd (p2 := 1300) 1 rfl rfl rfl rfl rfl rfl (by decide) hi (by omega) hb ?_
  refine tw_rd (p2 := 1305) 2 rfl rfl rfl rfl rfl rfl (by decide) hi (by omega) hb ?_
  refine tw_rd (p2 := 1310) 3 rfl rfl rfl rfl rfl rfl (by decide) hi (by omega) hb ?_
  refine cV_mI (p2 := 1313) (i := 148) rfl rfl rfl rfl I1 rfl rfl rfl (t_X12_paper (x1 := (l.getD (n + 1) 0)) (x2 := (l.getD (n + 2) 0)) (x3 := (l.getD (n + 3) 0)) I1) (by decide) (fun y2 h2 I2 g2 r2 => ?_)
  refine te_pop (p2 := 1314) rfl rfl rfl ?_
  refine te_goto rfl ?_
  exact kx h1 h2 I2 g1 g2
set_option maxRecDepth 10000 in
set_option maxHeartbeats 2000000 in
theorem lq_burn {l : List Int32} {n : Nat} {i : Int32} {h : im_H} {Q : Option Value → im_H → Prop} (hi : i.toInt = n) (hl : n + 6 ≤ l.length) (hb : l.length < 2147483648) (hI : tI h) (kx : ∀ h1 h2, tI h2 → fr F_X11_burn h h1 → fr F_X12_burn h1 h2 → EvP (im_K1 l) 20 mL_law (1753, lwL i, [], h2) Q) : EvP (im_K1 l) 20 mL_law (1317, lwL i, [], h) Q := by
  refine te_aload_n (p2 := 1318) rfl rfl rfl ?_
  refine tw_rd (p2 := 1323) 1 rfl rfl rfl rfl rfl rfl (by decide) hi (by omega) hb ?_
  refine cV_mI (p2 := 1326) (i := 0) rfl rfl rfl rfl hI rfl rfl rfl (t_X11_burn (x1 := (l.getD (n + 1) 0)) hI) (by decide) (fun y1 h1 I1 g1 r1 => ?_)
  refine te_pop (p2 := 1327) rfl rfl rfl ?_
  refine te_aload_n (p2 := 1328) rfl rfl rfl ?_
  refine tw_rd (p2 := 1333) 1 rfl rfl rfl rfl rfl rfl (by decide) hi (by omega) hb ?_
  refine cV_mI (p2 := 1336) (i := 148) rfl rfl rfl rfl I1 rfl rfl rfl (t_X12_burn (x1 := (l.getD (n + 1) 0)) I1) (by decide) (fun y2 h2 I2 g2 r2 => ?_)
  refine te_pop (p2 := 1337) rfl rfl rfl ?_
  refine te_goto rfl ?_
  exact kx h1 h2 I2 g1 g2
set_option maxRecDepth 10000 in
set_option maxHeartbeats 2000000 in
theorem lq_owner {l : List Int32} {n : Nat} {i : Int32} {h : im_H} {Q : Option Value → im_H → Prop} (hi : i.toInt = n) (hl : n + 6 ≤ l.length) (hb : l.length < 2147483648) (hI : tI h) (kx : ∀ h1 h2, tI h2 → fr F_X11_owner h h1 → fr F_X12_owner h1 h2 → EvP (im_K1 l) 20 mL_law (1753, lwL i, [], h2) Q) : EvP (im_K1 l) 20 mL_law (1340, lwL i, [], h) Q := by
  refine te_aload_n (p2 := 1341) rfl rfl rfl ?_
  refine tw_rd (p2 := 1346) 1 rfl rfl rfl rfl rfl rfl (by decide) hi (by omega) hb ?_
  refine tw_rd (p2 := 1351) 2 rfl rfl rfl rfl rfl rfl (by decide) hi (by omega) hb ?_
  refine tw_rd (p2 := 1356) 3 rfl rfl rfl rfl rfl rfl (by decide) hi (by omega) hb ?_
  refine cV_mI (p2 := 1359) (i := 0) rfl rfl rfl rfl hI rfl rfl rfl (t_X11_owner (x1 := (l.getD (n + 1) 0)) (x2 := (l.getD (n + 2) 0)) (x3 := (l.getD (n + 3) 0)) hI) (by decide) (fun y1 h1 I1 g1 r1 => ?_)
  refine te_pop (p2 := 1360) rfl rfl rfl ?_
  refine te_aload_n (p2 := 1361) rfl rfl rfl ?_
  refine tw_rd (p2 := 1366) 1 rfl rfl rfl rfl rfl rfl (by decide) hi (by omega) hb ?_
  refine tw_rd (p2 := 1371) 2 rfl rfl rfl rfl rfl rfl (by decide) hi (by omega) hb ?_
  refine tw_rd (p2 := 1376) 3 rfl rfl rfl rfl rfl rfl (by decide) hi (by omega) hb ?_
  refine cV_mI (p2 := 1379) (i := 148) rfl rfl rfl rfl I1 rfl rfl rfl (t_X12_owner (x1 := (l.getD (n + 1) 0)) (x2 := (l.getD (n + 2) 0)) (x3 := (l.getD (n + 3) 0)) I1) (by decide) (fun y2 h2 I2 g2 r2 => ?_)
  refine te_pop (p2 := 1380) rfl rfl rfl ?_
  refine te_goto rfl ?_
  exact kx h1 h2 I2 g1 g2
set_option maxRecDepth 10000 in
set_option maxHeartbeats 2000000 in
theorem lq_heirs {l : List Int32} {n : Nat} {i : Int32} {h : im_H} {Q : Option Value → im_H → Prop} (hi : i.toInt = n) (hl : n + 6 ≤ l.length) (hb : l.length < 2147483648) (hI : tI h) (kx : ∀ h1 h2, tI h2 → fr F_X11_heirs h h1 → fr F_X12_heirs h1 h2 → EvP (im_K1 l) 20 mL_law (1753, lwL i, [], h2) Q) : EvP (im_K1 l) 20 mL_law (1383, lwL i, [], h) Q := by
  refine te_aload_n (p2 := 1384) rfl rfl rfl ?_
  refine tw_rd (p2 := 1389) 1 rfl rfl rfl rfl rfl rfl (by decide) hi (by omega) hb ?_
  refine tw_rd (p2 := 1394) 2 rfl rfl rfl rfl rfl rfl (by decide) hi (by omega) hb ?_
  refine tw_rd (p2 := 1399) 3 rfl rfl rfl rfl rfl rfl (by decide) hi (by omega) hb ?_
  refine cV_mI (p2 := 1402) (i := 0) rfl rfl rfl rfl hI rfl rfl rfl (t_X11_heirs (x1 := (l.getD (n + 1) 0)) (x2 := (l.getD (n + 2) 0)) (x3 := (l.getD (n + 3) 0)) hI) (by decide) (fun y1 h1 I1 g1 r1 => ?_)
  refine te_pop (p2 := 1403) rfl rfl rfl ?_
  refine te_aload_n (p2 := 1404) rfl rfl rfl ?_
  refine tw_rd (p2 := 1409) 1 rfl rfl rfl rfl rfl rfl (by decide) hi (by omega) hb ?_
  refine tw_rd (p2 := 1414) 2 rfl rfl rfl rfl rfl rfl (by decide) hi (by omega) hb ?_
  refine tw_rd (p2 := 1419) 3 rfl rfl rfl rfl rfl rfl (by decide) hi (by omega) hb ?_
  refine cV_mI (p2 := 1422) (i := 148) rfl rfl rfl rfl I1 rfl rfl rfl (t_X12_heirs (x1 := (l.getD (n + 1) 0)) (x2 := (l.getD (n + 2) 0)) (x3 := (l.getD (n + 3) 0)) I1) (by decide) (fun y2 h2 I2 g2 r2 => ?_)
  refine te_pop (p2 := 1423) rfl rfl rfl ?_
  refine te_goto rfl ?_
  exact kx h1 h2 I2 g1 g2
set_option maxRecDepth 10000 in
set_option maxHeartbeats 2000000 in
theorem lq_beside {l : List Int32} {n : Nat} {i : Int32} {h : im_H} {Q : Option Value → im_H → Prop} (hi : i.toInt = n) (hl : n + 6 ≤ l.length) (hb : l.length < 2147483648) (hI : tI h) (kx : ∀ h1 h2, tI h2 → fr F_X11_beside h h1 → fr F_X12_beside h1 h2 → EvP (im_K1 l) 20 mL_law (1753, lwL i, [], h2) Q) : EvP (im_K1 l) 20 mL_law (1426, lwL i, [], h) Q := by
  refine te_aload_n (p2 := 1427) rfl rfl rfl ?_
  refine tw_rd (p2 := 1432) 1 rfl rfl rfl rfl rfl rfl (by decide) hi (by omega) hb ?_
  refine tw_rd (p2 := 1437) 2 rfl rfl rfl rfl rfl rfl (by decide) hi (by omega) hb ?_
  refine cV_mL (p2 := 1440) (i := 0) rfl rfl rfl rfl hI rfl rfl rfl (t_X11_beside (x1 := (l.getD (n + 1) 0)) (x2 := (l.getD (n + 2) 0)) hI) (by decide) (fun y1 h1 I1 g1 => ?_)
  refine te_pop2 (p2 := 1441) rfl rfl rfl ?_
  refine te_aload_n (p2 := 1442) rfl rfl rfl ?_
  refine tw_rd (p2 := 1447) 1 rfl rfl rfl rfl rfl rfl (by decide) hi (by omega) hb ?_
  refine tw_rd (p2 := 1452) 2 rfl rfl rfl rfl rfl rfl (by decide) hi (by omega) hb ?_
  refine cV_mL (p2 := 1455) (i := 148) rfl rfl rfl rfl I1 rfl rfl rfl (t_X12_beside (x1 := (l.getD (n + 1) 0)) (x2 := (l.getD (n + 2) 0)) I1) (by decide) (fun y2 h2 I2 g2 => ?_)
  refine te_pop2 (p2 := 1456) rfl rfl rfl ?_
  refine te_goto rfl ?_
  exact kx h1 h2 I2 g1 g2
set_option maxRecDepth 10000 in
set_option maxHeartbeats 2000000 in
theorem lq_clear {l : List Int32} {n : Nat} {i : Int32} {h : im_H} {Q : Option Value → im_H → Prop} (hi : i.toInt = n) (hl : n + 6 ≤ l.length) (hb : l.length < 2147483648) (hI : tI h) (kx : ∀ h1 h2, tI h2 → fr F_X11_clear h h1 → fr F_X12_clear h1 h2 → EvP (im_K1 l) 20 mL_law (1753, lwL i, [], h2) Q) : EvP (im_K1 l) 20 mL_law (1459, lwL i, [], h) Q := by
  refine te_aload_n (p2 := 1460) rfl rfl rfl ?_
  refine tw_rd (p2 := 1465) 1 rfl rfl rfl rfl rfl rfl (by decide) hi (by omega) hb ?_
  refine tw_rd (p2 := 1470) 2 rfl rfl rfl rfl rfl rfl (by decide) hi (by omega) hb ?_
  refine cV_mI (p2 := 1473) (i := 0) rfl rfl rfl rfl hI rfl rfl rfl (t_X11_clear (x1 := (l.getD (n + 1) 0)) (x2 := (l.getD (n + 2) 0)) hI) (by decide) (fun y1 h1 I1 g1 r1 => ?_)
  refine te_pop (p2 := 1474) rfl rfl rfl ?_
  refine te_aload_n (p2 := 1475) rfl rfl rfl ?_
  refine tw_rd (p2 := 1480) 1 rfl rfl rfl rfl rfl rfl (by decide) hi (by omega) hb ?_
  refine tw_rd (p2 := 1485) 2 rfl rfl rfl rfl rfl rfl (by decide) hi (by omega) hb ?_
  refine cV_mI (p2 := 1488) (i := 148) rfl rfl rfl rfl I1 rfl rfl rfl (t_X12_clear (x1 := (l.getD (n + 1) 0)) (x2 := (l.getD (n + 2) 0)) I1) (by decide) (fun y2 h2 I2 g2 r2 => ?_)
  refine te_pop (p2 := 1489) rfl rfl rfl ?_
  refine te_goto rfl ?_
  exact kx h1 h2 I2 g1 g2
set_option maxRecDepth 10000 in
set_option maxHeartbeats 2000000 in
theorem lq_image {l : List Int32} {n : Nat} {i : Int32} {h : im_H} {Q : Option Value → im_H → Prop} (hi : i.toInt = n) (hl : n + 6 ≤ l.length) (hb : l.length < 2147483648) (hI : tI h) (kx : ∀ h1 h2, tI h2 → fr F_X11_image h h1 → fr F_X12_image h1 h2 → EvP (im_K1 l) 20 mL_law (1753, lwL i, [], h2) Q) : EvP (im_K1 l) 20 mL_law (1492, lwL i, [], h) Q := by
  refine te_aload_n (p2 := 1493) rfl rfl rfl ?_
  refine cV_mI (p2 := 1496) (i := 0) rfl rfl rfl rfl hI rfl rfl rfl (t_X11_image  hI) (by decide) (fun y1 h1 I1 g1 r1 => ?_)
  refine te_pop (p2 := 1497) rfl rfl rfl ?_
  refine te_aload_n (p2 := 1498) rfl rfl rfl ?_
  refine cV_mI (p2 := 1501) (i := 148) rfl rfl rfl rfl I1 rfl rfl rfl (t_X12_image  I1) (by decide) (fun y2 h2 I2 g2 r2 => ?_)
  refine te_pop (p2 := 1502) rfl rfl rfl ?_
  refine te_goto rfl ?_
  exact kx h1 h2 I2 g1 g2
set_option maxRecDepth 10000 in
set_option maxHeartbeats 2000000 in
theorem lq_back {l : List Int32} {n : Nat} {i : Int32} {h : im_H} {Q : Option Value → im_H → Prop} (hi : i.toInt = n) (hl : n + 6 ≤ l.length) (hb : l.length < 2147483648) (hI : tI h) (kx : ∀ h1 h2, tI h2 → fr F_X11_back h h1 → fr F_X12_back h1 h2 → EvP (im_K1 l) 20 mL_law (1753, lwL i, [], h2) Q) : EvP (im_K1 l) 20 mL_law (1505, lwL i, [], h) Q := by
  refine te_aload_n (p2 := 1506) rfl rfl rfl ?_
  refine cV_mI (p2 := 1509) (i := 0) rfl rfl rfl rfl hI rfl rfl rfl (t_X11_back  hI) (by decide) (fun y1 h1 I1 g1 r1 => ?_)
  refine te_pop (p2 := 1510) rfl rfl rfl ?_
  refine te_aload_n (p2 := 1511) rfl rfl rfl ?_
  refine cV_mI (p2 := 1514) (i := 148) rfl rfl rfl rfl I1 rfl rfl rfl (t_X12_back  I1) (by decide) (fun y2 h2 I2 g2 r2 => ?_)
  refine te_pop (p2 := 1515) rfl rfl rfl ?_
  refine te_goto rfl ?_
  exact kx h1 h2 I2 g1 g2
set_option maxRecDepth 10000 in
set_option maxHeartbeats 2000000 in
theorem lq_sheet {l : List Int32} {n : Nat} {i : Int32} {h : im_H} {Q : Option Value → im_H → Prop} (hi : i.toInt = n) (hl : n + 6 ≤ l.length) (hb : l.length < 2147483648) (hI : tI h) (kx : ∀ h1 h2, tI h2 → fr F_X11_sheet h h1 → fr F_X12_sheet h1 h2 → EvP (im_K1 l) 20 mL_law (1753, lwL i, [], h2) Q) : EvP (im_K1 l) 20 mL_law (1518, lwL i, [], h) Q := by
  refine te_aload_n (p2 := 1519) rfl rfl rfl ?_
  refine tw_rd (p2 := 1524) 1 rfl rfl rfl rfl rfl rfl (by decide) hi (by omega) hb ?_
  refine tw_rd (p2 := 1529) 2 rfl rfl rfl rfl rfl rfl (by decide) hi (by omega) hb ?_
  refine tw_rd (p2 := 1534) 3 rfl rfl rfl rfl rfl rfl (by decide) hi (by omega) hb ?_
  refine cV_mI (p2 := 1537) (i := 0) rfl rfl rfl rfl hI rfl rfl rfl (t_X11_sheet (x1 := (l.getD (n + 1) 0)) (x2 := (l.getD (n + 2) 0)) (x3 := (l.getD (n + 3) 0)) hI) (by decide) (fun y1 h1 I1 g1 r1 => ?_)
  refine te_pop (p2 := 1538) rfl rfl rfl ?_
  refine te_aload_n (p2 := 1539) rfl rfl rfl ?_
  refine tw_rd (p2 := 1544) 1 rfl rfl rfl rfl rfl rfl (by decide) hi (by omega) hb ?_
  refine tw_rd (p2 := 1549) 2 rfl rfl rfl rfl rfl rfl (by decide) hi (by omega) hb ?_
  refine tw_rd (p2 := 1554) 3 rfl rfl rfl rfl rfl rfl (by decide) hi (by omega) hb ?_
  refine cV_mI (p2 := 1557) (i := 148) rfl rfl rfl rfl I1 rfl rfl rfl (t_X12_sheet (x1 := (l.getD (n + 1) 0)) (x2 := (l.getD (n + 2) 0)) (x3 := (l.getD (n + 3) 0)) I1) (by decide) (fun y2 h2 I2 g2 r2 => ?_)
  refine te_pop (p2 := 1558) rfl rfl rfl ?_
  refine te_goto rfl ?_
  exact kx h1 h2 I2 g1 g2
set_option maxRecDepth 10000 in
set_option maxHeartbeats 2000000 in
theorem lq_cell {l : List Int32} {n : Nat} {i : Int32} {h : im_H} {Q : Option Value → im_H → Prop} (hi : i.toInt = n) (hl : n + 6 ≤ l.length) (hb : l.length < 2147483648) (hI : tI h) (kx : ∀ h1 h2, tI h2 → fr F_X11_cell h h1 → fr F_X12_cell h1 h2 → EvP (im_K1 l) 20 mL_law (1753, lwL i, [], h2) Q) : EvP (im_K1 l) 20 mL_law (1561, lwL i, [], h) Q := by
  refine te_aload_n (p2 := 1562) rfl rfl rfl ?_
  refine tw_rd (p2 := 1567) 1 rfl rfl rfl rfl rfl rfl (by decide) hi (by omega) hb ?_
  refine tw_rd (p2 := 1572) 2 rfl rfl rfl rfl rfl rfl (by decide) hi (by omega) hb ?_
  refine tw_rd (p2 := 1577) 3 rfl rfl rfl rfl rfl rfl (by decide) hi (by omega) hb ?_
  refine cV_mI (p2 := 1580) (i := 0) rfl rfl rfl rfl hI rfl rfl rfl (t_X11_cell (x1 := (l.getD (n + 1) 0)) (x2 := (l.getD (n + 2) 0)) (x3 := (l.getD (n + 3) 0)) hI) (by decide) (fun y1 h1 I1 g1 r1 => ?_)
  refine te_pop (p2 := 1581) rfl rfl rfl ?_
  refine te_aload_n (p2 := 1582) rfl rfl rfl ?_
  refine tw_rd (p2 := 1587) 1 rfl rfl rfl rfl rfl rfl (by decide) hi (by omega) hb ?_
  refine tw_rd (p2 := 1592) 2 rfl rfl rfl rfl rfl rfl (by decide) hi (by omega) hb ?_
  refine tw_rd (p2 := 1597) 3 rfl rfl rfl rfl rfl rfl (by decide) hi (by omega) hb ?_
  refine cV_mI (p2 := 1600) (i := 148) rfl rfl rfl rfl I1 rfl rfl rfl (t_X12_cell (x1 := (l.getD (n + 1) 0)) (x2 := (l.getD (n + 2) 0)) (x3 := (l.getD (n + 3) 0)) I1) (by decide) (fun y2 h2 I2 g2 r2 => ?_)
  refine te_pop (p2 := 1601) rfl rfl rfl ?_
  refine te_goto rfl ?_
  exact kx h1 h2 I2 g1 g2
set_option maxRecDepth 10000 in
set_option maxHeartbeats 2000000 in
theorem lq_copy {l : List Int32} {n : Nat} {i : Int32} {h : im_H} {Q : Option Value → im_H → Prop} (hi : i.toInt = n) (hl : n + 6 ≤ l.length) (hb : l.length < 2147483648) (hI : tI h) (kx : ∀ h1 h2, tI h2 → fr F_X11_copy h h1 → fr F_X12_copy h1 h2 → EvP (im_K1 l) 20 mL_law (1753, lwL i, [], h2) Q) : EvP (im_K1 l) 20 mL_law (1604, lwL i, [], h) Q := by
  refine te_aload_n (p2 := 1605) rfl rfl rfl ?_
  refine tw_rd (p2 := 1610) 1 rfl rfl rfl rfl rfl rfl (by decide) hi (by omega) hb ?_
  refine tw_rd (p2 := 1615) 2 rfl rfl rfl rfl rfl rfl (by decide) hi (by omega) hb ?_
  refine tw_rd (p2 := 1620) 3 rfl rfl rfl rfl rfl rfl (by decide) hi (by omega) hb ?_
  refine tw_rd (p2 := 1625) 4 rfl rfl rfl rfl rfl rfl (by decide) hi (by omega) hb ?_
  refine tw_rd (p2 := 1630) 5 rfl rfl rfl rfl rfl rfl (by decide) hi (by omega) hb ?_
  refine cV_mI (p2 := 1633) (i := 0) rfl rfl rfl rfl hI rfl rfl rfl (t_X11_copy (x1 := (l.getD (n + 1) 0)) (x2 := (l.getD (n + 2) 0)) (x3 := (l.getD (n + 3) 0)) (x4 := (l.getD (n + 4) 0)) (x5 := (l.getD (n + 5) 0)) hI) (by decide) (fun y1 h1 I1 g1 r1 => ?_)
  refine te_pop (p2 := 1634) rfl rfl rfl ?_
  refine te_aload_n (p2 := 1635) rfl rfl rfl ?_
  refine tw_rd (p2 := 1640) 1 rfl rfl rfl rfl rfl rfl (by decide) hi (by omega) hb ?_
  refine tw_rd (p2 := 1645) 2 rfl rfl rfl rfl rfl rfl (by decide) hi (by omega) hb ?_
  refine tw_rd (p2 := 1650) 3 rfl rfl rfl rfl rfl rfl (by decide) hi (by omega) hb ?_
  refine tw_rd (p2 := 1655) 4 rfl rfl rfl rfl rfl rfl (by decide) hi (by omega) hb ?_
  refine tw_rd (p2 := 1660) 5 rfl rfl rfl rfl rfl rfl (by decide) hi (by omega) hb ?_
  refine cV_mI (p2 := 1663) (i := 148) rfl rfl rfl rfl I1 rfl rfl rfl (t_X12_copy (x1 := (l.getD (n + 1) 0)) (x2 := (l.getD (n + 2) 0)) (x3 := (l.getD (n + 3) 0)) (x4 := (l.getD (n + 4) 0)) (x5 := (l.getD (n + 5) 0)) I1) (by decide) (fun y2 h2 I2 g2 r2 => ?_)
  refine te_pop (p2 := 1664) rfl rfl rfl ?_
  refine te_goto rfl ?_
  exact kx h1 h2 I2 g1 g2
set_option maxRecDepth 10000 in
set_option maxHeartbeats 2000000 in
theorem lq_people {l : List Int32} {n : Nat} {i : Int32} {h : im_H} {Q : Option Value → im_H → Prop} (hi : i.toInt = n) (hl : n + 6 ≤ l.length) (hb : l.length < 2147483648) (hI : tI h) (kx : ∀ h1 h2, tI h2 → fr F_X11_people h h1 → fr F_X12_people h1 h2 → EvP (im_K1 l) 20 mL_law (1753, lwL i, [], h2) Q) : EvP (im_K1 l) 20 mL_law (1667, lwL i, [], h) Q := by
  refine te_aload_n (p2 := 1668) rfl rfl rfl ?_
  refine tw_rd (p2 := 1673) 1 rfl rfl rfl rfl rfl rfl (by decide) hi (by omega) hb ?_
  refine tw_rd (p2 := 1678) 2 rfl rfl rfl rfl rfl rfl (by decide) hi (by omega) hb ?_
  refine tw_rd (p2 := 1683) 3 rfl rfl rfl rfl rfl rfl (by decide) hi (by omega) hb ?_
  refine tw_rd (p2 := 1688) 4 rfl rfl rfl rfl rfl rfl (by decide) hi (by omega) hb ?_
  refine cV_mI (p2 := 1691) (i := 0) rfl rfl rfl rfl hI rfl rfl rfl (t_X11_people (x1 := (l.getD (n + 1) 0)) (x2 := (l.getD (n + 2) 0)) (x3 := (l.getD (n + 3) 0)) (x4 := (l.getD (n + 4) 0)) hI) (by decide) (fun y1 h1 I1 g1 r1 => ?_)
  refine te_pop (p2 := 1692) rfl rfl rfl ?_
  refine te_aload_n (p2 := 1693) rfl rfl rfl ?_
  refine tw_rd (p2 := 1698) 1 rfl rfl rfl rfl rfl rfl (by decide) hi (by omega) hb ?_
  refine tw_rd (p2 := 1703) 2 rfl rfl rfl rfl rfl rfl (by decide) hi (by omega) hb ?_
  refine tw_rd (p2 := 1708) 3 rfl rfl rfl rfl rfl rfl (by decide) hi (by omega) hb ?_
  refine tw_rd (p2 := 1713) 4 rfl rfl rfl rfl rfl rfl (by decide) hi (by omega) hb ?_
  refine cV_mI (p2 := 1716) (i := 148) rfl rfl rfl rfl I1 rfl rfl rfl (t_X12_people (x1 := (l.getD (n + 1) 0)) (x2 := (l.getD (n + 2) 0)) (x3 := (l.getD (n + 3) 0)) (x4 := (l.getD (n + 4) 0)) I1) (by decide) (fun y2 h2 I2 g2 r2 => ?_)
  refine te_pop (p2 := 1717) rfl rfl rfl ?_
  refine te_goto rfl ?_
  exact kx h1 h2 I2 g1 g2
set_option maxRecDepth 10000 in
set_option maxHeartbeats 2000000 in
theorem lq_taken {l : List Int32} {n : Nat} {i : Int32} {h : im_H} {Q : Option Value → im_H → Prop} (hi : i.toInt = n) (hl : n + 6 ≤ l.length) (hb : l.length < 2147483648) (hI : tI h) (kx : ∀ h1 h2, tI h2 → fr F_X11_taken h h1 → fr F_X12_taken h1 h2 → EvP (im_K1 l) 20 mL_law (1753, lwL i, [], h2) Q) : EvP (im_K1 l) 20 mL_law (1720, lwL i, [], h) Q := by
  refine te_aload_n (p2 := 1721) rfl rfl rfl ?_
  refine tw_rd (p2 := 1726) 1 rfl rfl rfl rfl rfl rfl (by decide) hi (by omega) hb ?_
  refine tw_rd (p2 := 1731) 2 rfl rfl rfl rfl rfl rfl (by decide) hi (by omega) hb ?_
  refine cV_mI (p2 := 1734) (i := 0) rfl rfl rfl rfl hI rfl rfl rfl (t_X11_taken (x1 := (l.getD (n + 1) 0)) (x2 := (l.getD (n + 2) 0)) hI) (by decide) (fun y1 h1 I1 g1 r1 => ?_)
  refine te_pop (p2 := 1735) rfl rfl rfl ?_
  refine te_aload_n (p2 := 1736) rfl rfl rfl ?_
  refine tw_rd (p2 := 1741) 1 rfl rfl rfl rfl rfl rfl (by decide) hi (by omega) hb ?_
  refine tw_rd (p2 := 1746) 2 rfl rfl rfl rfl rfl rfl (by decide) hi (by omega) hb ?_
  refine cV_mI (p2 := 1749) (i := 148) rfl rfl rfl rfl I1 rfl rfl rfl (t_X12_taken (x1 := (l.getD (n + 1) 0)) (x2 := (l.getD (n + 2) 0)) I1) (by decide) (fun y2 h2 I2 g2 r2 => ?_)
  refine te_pop (p2 := 1750) rfl rfl rfl ?_
  refine te_goto rfl ?_
  exact kx h1 h2 I2 g1 g2
