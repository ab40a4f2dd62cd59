def pq_eM (h : im_H) (v m : Nat) : Prop := pq_e (rv h 149 (124 + v)) (wrM h v) (3 * rv h 149 107) m
def pq_W (h : im_H) (s m : Nat) : Nat := (rv h 194 (40 * s + pq_n h 199 m)).toInt.toNat
def pq_flW (h : im_H) (s j m : Nat) : Prop := pq_eM h (rv h 194 (40 * s + j)).toInt.toNat m
/-- a wall that isn't pulled yet, when i days have gone by -/
def pq_v (h H : im_H) (i v : Nat) : Prop := (¬ pq_eM h v i ∧ rd H 149 (108 + v) = some (.int 1) ∧ rd H 149 (124 + v) = some (.int (pq_st (rv h 149 (124 + v)) (wrM h v) i))) ∨ (pq_eM h v i ∧ rd H 149 (108 + v) = some (.int 0))
theorem pq_v0 {h H : im_H} {i v : Nat} (hI : tI h) (hv : v < 16) (hi : i = 0) (e : ∀ j, rd H 149 j = rd h 149 j) (hu : rd h 149 (108 + v) = some (.int 1)) : pq_v h H i v := by
  subst hi
  obtain ⟨_, e1, x, w, _⟩ := hI.2.1 149 (124 + v) (.inl (-2147483648, 2147483647, 9999999999)) (tq_row rfl (by omega))
  subst w
  refine Or.inl ⟨pq_e0 rfl, (e _).trans hu, (e _).trans ?_⟩
  show rd h 149 (124 + v) = some (.int (rv h 149 (124 + v)))
  rw [rv_of e1]
  exact e1
theorem pq_vk {h H H2 : im_H} {i v : Nat} (w : pq_v h H i v) (a : rd H2 149 (108 + v) = rd H 149 (108 + v)) (b : rd H2 149 (124 + v) = rd H 149 (124 + v)) : pq_v h H2 i v := by
  unfold pq_v
  rw [a, b]
  exact w
theorem pq_vu {h H : im_H} {i v : Nat} {u : Int32} (w : pq_v h H i v) (e : rd H 149 (108 + v) = some (.int u)) : u.toInt = 0 ↔ pq_eM h v i := by
  rcases w with ⟨a, b, _⟩ | ⟨a, b⟩
  · obtain rfl := int_inj e b
    exact ⟨fun q => absurd q (by decide), fun q => absurd q a⟩
  · obtain rfl := int_inj e b
    exact ⟨fun _ => a, fun _ => rfl⟩
theorem pq_vA {h H H2 : im_H} {i v : Nat} {u : Int32} (w : pq_v h H i v) (e : rd H 149 (108 + v) = some (.int u)) (hu : u.toInt ≠ 1) (n : rd H2 149 (108 + v) = some (.int 0)) : pq_v h H2 (i + 1) v := by
  rcases w with ⟨a, b, _⟩ | ⟨a, b⟩
  · obtain rfl := int_inj e b
    exact absurd rfl hu
  · exact Or.inr ⟨pq_em a (by omega), n⟩
theorem pq_vB {h H H2 : im_H} {i v : Nat} {u t : Int32} (w : pq_v h H i v) (e : rd H 149 (108 + v) = some (.int u)) (hu : u.toInt = 1) (et : rd H 149 (124 + v) = some (.int t)) (ew : wrM H v = wrM h v) (eg : rv H 149 107 = rv h 149 107) (ns : rd H2 149 (124 + v) = some (.int (t - wrM H v))) (c : ((t - wrM H v).toInt ≤ (3 * rv H 149 107).toInt ∧ rd H2 149 (108 + v) = some (.int 0)) ∨ (¬ (t - wrM H v).toInt ≤ (3 * rv H 149 107).toInt ∧ rd H2 149 (108 + v) = some (.int 1))) : pq_v h H2 (i + 1) v := by
  rw [ew] at ns c
  rw [eg] at c
  rcases w with ⟨a, b, d⟩ | ⟨a, b⟩
  · obtain rfl := int_inj et d
    rcases c with ⟨c, n⟩ | ⟨c, n⟩
    · exact Or.inr ⟨pq_es.2 (Or.inr c), n⟩
    · exact Or.inl ⟨fun q => (pq_es.1 q).elim a c, n, ns⟩
  · obtain rfl := int_inj e b
    exact absurd hu (by decide)
theorem pq_fW {h H : im_H} {s : Nat} (e : ∀ i k, (i = 149 ∨ i = 152 ∨ i = 156 ∨ i = 167 ∨ i = 194) → rd H i k = rd h i k) : pq_flW H s = pq_flW h s := by
  have ef : ∀ i, (i = 149 ∨ i = 152 ∨ i = 156 ∨ i = 167 ∨ i = 194) → rv H i = rv h i := fun i hi => funext fun k => pq_rq (e i k hi)
  funext j m
  unfold pq_flW pq_eM wrM wkM
  rw [ef 194 (by decide), ef 149 (by decide), ef 167 (by decide), ef 152 (by decide), ef 156 (by decide)]
theorem pq_wMe {h H : im_H} {v : Nat} (e : ∀ i k, (i = 152 ∨ i = 156 ∨ i = 167) → rd H i k = rd h i k) (e2 : rd H 149 106 = rd h 149 106) : wrM H v = wrM h v := by
  have ef : ∀ i, (i = 152 ∨ i = 156 ∨ i = 167) → rv H i = rv h i := fun i hi => funext fun k => pq_rq (e i k hi)
  unfold wrM wkM
  rw [pq_rq e2, ef 167 (by decide), ef 152 (by decide), ef 156 (by decide)]
theorem pq_flM {h : im_H} {F : Nat → Int32} {j m : Nat} {w : Int32} (hI : tI h) (T : tabM h) (hf : F j = w) (h0 : 0 ≤ w.toInt) (h1 : w.toInt ≤ 15) : pq_eM h w.toInt.toNat m ↔ pq_fl (cM h) (absM h) F j m := by
  have e1 : rv h 149 (124 + w.toInt.toNat) = (absM h).st w.toInt.toNat := (aM_st (by omega)).symm
  have e2 := pq_wM hI T (show w.toInt.toNat < 16 by omega)
  have e4 : rv h 149 107 = (absM h).wi := rfl
  unfold pq_eM pq_fl
  rw [hf, ← e1, ← e2, ← e4]
theorem pq_up1 {h : im_H} {k : Nat} (hI : tI h) (hk : k < 16) (e : ((absM h).up k).toInt = 1) : rd h 149 (108 + k) = some (.int 1) := by
  obtain ⟨_, e1, x, w, _⟩ := hI.2.1 149 (108 + k) (.inl (-2147483648, 2147483647, 9999999999)) (tq_row rfl (by omega))
  subst w
  rw [aM_up hk, rv_of e1] at e
  rw [e1, show x = 1 from i32_ext e]
theorem pq_vr {h : im_H} {s i : Nat} (hI : tI h) (hi : i < 40) (hs : s ≤ 3) : vl h 194 (40 * s) i = rv h 194 (40 * s + i) := by
  obtain ⟨_, e1, x, w, _⟩ := hI.2.1 194 (40 * s + i) (.inl (-2147483648, 2147483647, 9999999999)) (tq_row rfl (by omega))
  subst w
  exact (vl_of hi e1).trans (rv_of e1).symm
theorem pq_lp {h H : im_H} {s N : Nat} (hI : tI h) (hs : s ≤ 3) (hN : N ≤ 6) (G : pq_g (cM h) (absM h) (vl h 194 (40 * s)) N) (hw : (cM h).nw.toInt ≤ 16) (e : ∀ k, rd H 149 k = rd h 149 k) (e2 : ∀ k, rd H 194 k = rd h 194 k) (p : ∀ m : Nat, m < N → pq_n H 199 m < N ∧ ∀ k, k < m → pq_n H 199 k ≠ pq_n H 199 m) : (∀ m, m < N → rd H 149 (108 + pq_W H s m) = some (.int 1)) ∧ (∀ m k, k < m → m < N → pq_W H s k ≠ pq_W H s m) := by
  have W : ∀ m, m < N → pq_W H s m = (vl h 194 (40 * s) (pq_n H 199 m)).toInt.toNat := fun m hm => by
    have hp := (p m hm).1
    unfold pq_W
    rw [pq_vr hI (by omega) hs, pq_rq (e2 _)]
  constructor
  · intro m hm
    obtain ⟨a, b, _⟩ := G _ (p m hm).1
    rw [W m hm, e]
    exact pq_up1 hI (by omega) b
  · intro m k hk hm
    rw [W m hm, W k (by omega)]
    have a := G _ (p m hm).1
    have b := G _ (p k (by omega)).1
    have d := (p m hm).2 k hk
    have a1 := a.1
    have b1 := b.1
    intro q
    have q2 : vl h 194 (40 * s) (pq_n H 199 k) = vl h 194 (40 * s) (pq_n H 199 m) := i32_ext (by omega)
    by_cases hc : pq_n H 199 k < pq_n H 199 m
    · exact a.2.2 _ hc q2
    · exact b.2.2 _ (by omega) q2.symm
def pq_b (v : Int32) : Int := if v.toInt = -1 then 7 else v.toInt
theorem pq_b7 {v : Int32} (h : v.toInt = -1) : pq_b v = 7 := if_pos h
theorem pq_bv {v : Int32} (h : v.toInt ≠ -1) : pq_b v = v.toInt := if_neg h
