abbrev O6 : Type := Nat × Nat × Nat × Nat × Nat × Nat
def cut6 (n : Nat) (f : Nat → Nat) (i : Nat) : Nat := if i < n then f i else 0
def on6 (n : Nat) (f : Nat → Nat) : O6 := (cut6 n f 0, cut6 n f 1, cut6 n f 2, cut6 n f 3, cut6 n f 4, cut6 n f 5)
def o6at (o : O6) (i : Nat) : Nat := if i = 0 then o.1 else if i = 1 then o.2.1 else if i = 2 then o.2.2.1 else if i = 3 then o.2.2.2.1 else if i = 4 then o.2.2.2.2.1 else o.2.2.2.2.2
theorem on6_at {n i : Nat} {f : Nat → Nat} (hn : n ≤ 6) (hi : i < n) : o6at (on6 n f) i = f i := by
  rcases (show i = 0 ∨ i = 1 ∨ i = 2 ∨ i = 3 ∨ i = 4 ∨ i = 5 by omega) with rfl | rfl | rfl | rfl | rfl | rfl
  · show cut6 n f 0 = f 0
    exact if_pos hi
  · show cut6 n f 1 = f 1
    exact if_pos hi
  · show cut6 n f 2 = f 2
    exact if_pos hi
  · show cut6 n f 3 = f 3
    exact if_pos hi
  · show cut6 n f 4 = f 4
    exact if_pos hi
  · show cut6 n f 5 = f 5
    exact if_pos hi
theorem on6_c {n : Nat} {f g : Nat → Nat} (h : ∀ i, i < n → f i = g i) : on6 n f = on6 n g := by
  have k : ∀ i, cut6 n f i = cut6 n g i := fun i => by
    unfold cut6
    by_cases hc : i < n
    · rw [if_pos hc, if_pos hc, h i hc]
    · rw [if_neg hc, if_neg hc]
  unfold on6
  rw [k 0, k 1, k 2, k 3, k 4, k 5]
def pq_x2 (g0 g1 : Nat) : Option O6 := if g1 < g0 then (none) else (if g1 < g0 then (some (g0, g1, 0, 0, 0, 0)) else some (g1, g0, 0, 0, 0, 0))
def pq_x3 (g0 g1 g2 : Nat) : Option O6 := if g2 < g1 then (if g1 < g0 then (none) else (if g2 < g0 then (if g1 < g0 then (some (g0, g2, g1, 0, 0, 0)) else some (g1, g2, g0, 0, 0, 0)) else some (g2, g0, g1, 0, 0, 0))) else (if g2 < g1 then (some (g0, g1, g2, 0, 0, 0)) else some (g0, g2, g1, 0, 0, 0))
def pq_x4 (g0 g1 g2 g3 : Nat) : Option O6 := if g3 < g2 then (if g2 < g1 then (if g1 < g0 then (none) else (if g3 < g0 then (if g2 < g0 then (if g1 < g0 then (some (g0, g3, g2, g1, 0, 0)) else some (g1, g3, g2, g0, 0, 0)) else some (g2, g3, g0, g1, 0, 0)) else some (g3, g0, g2, g1, 0, 0))) else (if g3 < g1 then (if g2 < g1 then (some (g0, g1, g3, g2, 0, 0)) else some (g0, g2, g3, g1, 0, 0)) else some (g0, g3, g1, g2, 0, 0))) else (if g3 < g2 then (some (g0, g1, g2, g3, 0, 0)) else some (g0, g1, g3, g2, 0, 0))
def pq_x5 (g0 g1 g2 g3 g4 : Nat) : Option O6 := if g4 < g3 then (if g3 < g2 then (if g2 < g1 then (if g1 < g0 then (none) else (if g4 < g0 then (if g3 < g0 then (if g2 < g0 then (if g1 < g0 then (some (g0, g4, g3, g2, g1, 0)) else some (g1, g4, g3, g2, g0, 0)) else some (g2, g4, g3, g0, g1, 0)) else some (g3, g4, g0, g2, g1, 0)) else some (g4, g0, g3, g2, g1, 0))) else (if g4 < g1 then (if g3 < g1 then (if g2 < g1 then (some (g0, g1, g4, g3, g2, 0)) else some (g0, g2, g4, g3, g1, 0)) else some (g0, g3, g4, g1, g2, 0)) else some (g0, g4, g1, g3, g2, 0))) else (if g4 < g2 then (if g3 < g2 then (some (g0, g1, g2, g4, g3, 0)) else some (g0, g1, g3, g4, g2, 0)) else some (g0, g1, g4, g2, g3, 0))) else (if g4 < g3 then (some (g0, g1, g2, g3, g4, 0)) else some (g0, g1, g2, g4, g3, 0))
def pq_x6 (g0 g1 g2 g3 g4 g5 : Nat) : Option O6 := if g5 < g4 then (if g4 < g3 then (if g3 < g2 then (if g2 < g1 then (if g1 < g0 then (none) else (if g5 < g0 then (if g4 < g0 then (if g3 < g0 then (if g2 < g0 then (if g1 < g0 then (some (g0, g5, g4, g3, g2, g1)) else some (g1, g5, g4, g3, g2, g0)) else some (g2, g5, g4, g3, g0, g1)) else some (g3, g5, g4, g0, g2, g1)) else some (g4, g5, g0, g3, g2, g1)) else some (g5, g0, g4, g3, g2, g1))) else (if g5 < g1 then (if g4 < g1 then (if g3 < g1 then (if g2 < g1 then (some (g0, g1, g5, g4, g3, g2)) else some (g0, g2, g5, g4, g3, g1)) else some (g0, g3, g5, g4, g1, g2)) else some (g0, g4, g5, g1, g3, g2)) else some (g0, g5, g1, g4, g3, g2))) else (if g5 < g2 then (if g4 < g2 then (if g3 < g2 then (some (g0, g1, g2, g5, g4, g3)) else some (g0, g1, g3, g5, g4, g2)) else some (g0, g1, g4, g5, g2, g3)) else some (g0, g1, g5, g2, g4, g3))) else (if g5 < g3 then (if g4 < g3 then (some (g0, g1, g2, g3, g5, g4)) else some (g0, g1, g2, g4, g5, g3)) else some (g0, g1, g2, g5, g3, g4))) else (if g5 < g4 then (some (g0, g1, g2, g3, g4, g5)) else some (g0, g1, g2, g3, g5, g4))
def pq_x (n : Nat) (o : O6) : Option O6 := if n = 2 then pq_x2 o.1 o.2.1 else if n = 3 then pq_x3 o.1 o.2.1 o.2.2.1 else if n = 4 then pq_x4 o.1 o.2.1 o.2.2.1 o.2.2.2.1 else if n = 5 then pq_x5 o.1 o.2.1 o.2.2.1 o.2.2.2.1 o.2.2.2.2.1 else if n = 6 then pq_x6 o.1 o.2.1 o.2.2.1 o.2.2.2.1 o.2.2.2.2.1 o.2.2.2.2.2 else none
abbrev PN6 (n : Nat) (o : O6) : Prop := o.1 < n ∧ o.2.1 < n ∧ o.2.2.1 < n ∧ o.2.2.2.1 < n ∧ o.2.2.2.2.1 < n ∧ o.2.2.2.2.2 < n
theorem pn_at {n m : Nat} {o : O6} (p : PN6 n o) : o6at o m < n := by
  obtain ⟨a, b, c, d, e, f⟩ := p
  unfold o6at
  (repeat' split) <;> assumption
def pq_id (n : Nat) : O6 := on6 n (fun i => i)
theorem pn_id {n : Nat} (h0 : 1 ≤ n) (h6 : n ≤ 6) : PN6 n (pq_id n) := by
  rcases (show n = 1 ∨ n = 2 ∨ n = 3 ∨ n = 4 ∨ n = 5 ∨ n = 6 by omega) with rfl | rfl | rfl | rfl | rfl | rfl <;> decide
theorem pq_x2P {g0 g1 : Nat} {p : O6} (h : pq_x2 g0 g1 = some p) (h0 : g0 < 2) (h1 : g1 < 2) : PN6 2 p := by
  unfold pq_x2 at h
  (repeat' split at h) <;> first | (cases h; done) | (cases h; exact ⟨(by first | assumption | exact (by decide : (0 : Nat) < 2)), (by first | assumption | exact (by decide : (0 : Nat) < 2)), (by first | assumption | exact (by decide : (0 : Nat) < 2)), (by first | assumption | exact (by decide : (0 : Nat) < 2)), (by first | assumption | exact (by decide : (0 : Nat) < 2)), (by first | assumption | exact (by decide : (0 : Nat) < 2))⟩)
theorem pq_x3P {g0 g1 g2 : Nat} {p : O6} (h : pq_x3 g0 g1 g2 = some p) (h0 : g0 < 3) (h1 : g1 < 3) (h2 : g2 < 3) : PN6 3 p := by
  unfold pq_x3 at h
  (repeat' split at h) <;> first | (cases h; done) | (cases h; exact ⟨(by first | assumption | exact (by decide : (0 : Nat) < 3)), (by first | assumption | exact (by decide : (0 : Nat) < 3)), (by first | assumption | exact (by decide : (0 : Nat) < 3)), (by first | assumption | exact (by decide : (0 : Nat) < 3)), (by first | assumption | exact (by decide : (0 : Nat) < 3)), (by first | assumption | exact (by decide : (0 : Nat) < 3))⟩)
theorem pq_x4P {g0 g1 g2 g3 : Nat} {p : O6} (h : pq_x4 g0 g1 g2 g3 = some p) (h0 : g0 < 4) (h1 : g1 < 4) (h2 : g2 < 4) (h3 : g3 < 4) : PN6 4 p := by
  unfold pq_x4 at h
  (repeat' split at h) <;> first | (cases h; done) | (cases h; exact ⟨(by first | assumption | exact (by decide : (0 : Nat) < 4)), (by first | assumption | exact (by decide : (0 : Nat) < 4)), (by first | assumption | exact (by decide : (0 : Nat) < 4)), (by first | assumption | exact (by decide : (0 : Nat) < 4)), (by first | assumption | exact (by decide : (0 : Nat) < 4)), (by first | assumption | exact (by decide : (0 : Nat) < 4))⟩)
theorem pq_x5P {g0 g1 g2 g3 g4 : Nat} {p : O6} (h : pq_x5 g0 g1 g2 g3 g4 = some p) (h0 : g0 < 5) (h1 : g1 < 5) (h2 : g2 < 5) (h3 : g3 < 5) (h4 : g4 < 5) : PN6 5 p := by
  unfold pq_x5 at h
  (repeat' split at h) <;> first | (cases h; done) | (cases h; exact ⟨(by first | assumption | exact (by decide : (0 : Nat) < 5)), (by first | assumption | exact (by decide : (0 : Nat) < 5)), (by first | assumption | exact (by decide : (0 : Nat) < 5)), (by first | assumption | exact (by decide : (0 : Nat) < 5)), (by first | assumption | exact (by decide : (0 : Nat) < 5)), (by first | assumption | exact (by decide : (0 : Nat) < 5))⟩)
theorem pq_x6P {g0 g1 g2 g3 g4 g5 : Nat} {p : O6} (h : pq_x6 g0 g1 g2 g3 g4 g5 = some p) (h0 : g0 < 6) (h1 : g1 < 6) (h2 : g2 < 6) (h3 : g3 < 6) (h4 : g4 < 6) (h5 : g5 < 6) : PN6 6 p := by
  unfold pq_x6 at h
  (repeat' split at h) <;> first | (cases h; done) | (cases h; exact ⟨(by first | assumption | exact (by decide : (0 : Nat) < 6)), (by first | assumption | exact (by decide : (0 : Nat) < 6)), (by first | assumption | exact (by decide : (0 : Nat) < 6)), (by first | assumption | exact (by decide : (0 : Nat) < 6)), (by first | assumption | exact (by decide : (0 : Nat) < 6)), (by first | assumption | exact (by decide : (0 : Nat) < 6))⟩)
theorem pq_xP {n : Nat} {o p : O6} (h0 : 1 ≤ n) (h6 : n ≤ 6) (h : pq_x n o = some p) (P : PN6 n o) : PN6 n p := by
  obtain ⟨p0, p1, p2, p3, p4, p5⟩ := P
  rcases (show n = 1 ∨ n = 2 ∨ n = 3 ∨ n = 4 ∨ n = 5 ∨ n = 6 by omega) with rfl | rfl | rfl | rfl | rfl | rfl
  · have e : (none : Option O6) = some p := h
    cases e
  · have e : pq_x2 o.1 o.2.1 = some p := h
    exact pq_x2P e p0 p1
  · have e : pq_x3 o.1 o.2.1 o.2.2.1 = some p := h
    exact pq_x3P e p0 p1 p2
  · have e : pq_x4 o.1 o.2.1 o.2.2.1 o.2.2.2.1 = some p := h
    exact pq_x4P e p0 p1 p2 p3
  · have e : pq_x5 o.1 o.2.1 o.2.2.1 o.2.2.2.1 o.2.2.2.2.1 = some p := h
    exact pq_x5P e p0 p1 p2 p3 p4
  · have e : pq_x6 o.1 o.2.1 o.2.2.1 o.2.2.2.1 o.2.2.2.2.1 o.2.2.2.2.2 = some p := h
    exact pq_x6P e p0 p1 p2 p3 p4 p5
theorem on6_1 {f : Nat → Nat} : on6 1 f = (f 0, 0, 0, 0, 0, 0) := rfl
theorem pq_xe1 {f : Nat → Nat} : pq_x 1 (on6 1 f) = none := rfl
theorem on6_2 {f : Nat → Nat} : on6 2 f = (f 0, f 1, 0, 0, 0, 0) := rfl
theorem pq_xe2 {f : Nat → Nat} : pq_x 2 (on6 2 f) = pq_x2 (f 0) (f 1) := rfl
theorem on6_3 {f : Nat → Nat} : on6 3 f = (f 0, f 1, f 2, 0, 0, 0) := rfl
theorem pq_xe3 {f : Nat → Nat} : pq_x 3 (on6 3 f) = pq_x3 (f 0) (f 1) (f 2) := rfl
theorem on6_4 {f : Nat → Nat} : on6 4 f = (f 0, f 1, f 2, f 3, 0, 0) := rfl
theorem pq_xe4 {f : Nat → Nat} : pq_x 4 (on6 4 f) = pq_x4 (f 0) (f 1) (f 2) (f 3) := rfl
theorem on6_5 {f : Nat → Nat} : on6 5 f = (f 0, f 1, f 2, f 3, f 4, 0) := rfl
theorem pq_xe5 {f : Nat → Nat} : pq_x 5 (on6 5 f) = pq_x5 (f 0) (f 1) (f 2) (f 3) (f 4) := rfl
theorem on6_6 {f : Nat → Nat} : on6 6 f = (f 0, f 1, f 2, f 3, f 4, f 5) := rfl
theorem pq_xe6 {f : Nat → Nat} : pq_x 6 (on6 6 f) = pq_x6 (f 0) (f 1) (f 2) (f 3) (f 4) (f 5) := rfl
def pq_s (lt : O6 → Int) (o : O6) (b : Int × O6) : Int × O6 := if lt o < b.1 then (lt o, o) else b
def pq_w (n : Nat) (lt : O6 → Int) : Nat → O6 → Int × O6 → Int × O6
  | 0, _, b => b
  | f + 1, o, b => (pq_x n o).elim (pq_s lt o b) (fun p => pq_w n lt f p (pq_s lt o b))
theorem pq_wn {n f : Nat} {lt : O6 → Int} {o : O6} {b : Int × O6} (e : pq_x n o = none) : pq_w n lt (f + 1) o b = pq_s lt o b := by
  have q := congrArg (fun t => Option.elim t (pq_s lt o b) (fun p => pq_w n lt f p (pq_s lt o b))) e
  exact q
theorem pq_ws {n f : Nat} {lt : O6 → Int} {o p : O6} {b : Int × O6} (e : pq_x n o = some p) : pq_w n lt (f + 1) o b = pq_w n lt f p (pq_s lt o b) := by
  have q := congrArg (fun t => Option.elim t (pq_s lt o b) (fun p => pq_w n lt f p (pq_s lt o b))) e
  exact q
theorem pq_wc {n : Nat} {lt lt2 : O6 → Int} (h0 : 1 ≤ n) (h6 : n ≤ 6) (hl : ∀ o, PN6 n o → lt o = lt2 o) : ∀ (f : Nat) (o : O6) (b : Int × O6), PN6 n o → pq_w n lt f o b = pq_w n lt2 f o b
  | 0, _, _, _ => rfl
  | f + 1, o, b, P => by
    have es : pq_s lt o b = pq_s lt2 o b := by
      unfold pq_s
      rw [hl o P]
    cases e : pq_x n o with
    | none => rw [pq_wn e, pq_wn e, es]
    | some p =>
      rw [pq_ws e, pq_ws e, es]
      exact pq_wc h0 h6 hl f p _ (pq_xP h0 h6 e P)
def pq_f (n : Nat) : Nat → O6 → Bool
  | 0, _ => false
  | f + 1, o => (pq_x n o).elim true (fun p => pq_f n f p)
theorem pq_fs {n f : Nat} {o p : O6} (h : pq_f n f o = true) (e : pq_x n o = some p) : ∃ f2, f = f2 + 1 ∧ pq_f n f2 p = true := by
  cases f with
  | zero => exact absurd (show false = true from h) (by decide)
  | succ f2 =>
    have h2 : (pq_x n o).elim true (fun p => pq_f n f2 p) = true := h
    rw [e] at h2
    exact ⟨f2, rfl, h2⟩
theorem pq_f1 {n f : Nat} {o : O6} (h : pq_f n f o = true) : ∃ f2, f = f2 + 1 := by
  cases f with
  | zero => exact absurd (show false = true from h) (by decide)
  | succ f2 => exact ⟨f2, rfl⟩
theorem pq_f0 {n : Nat} (h0 : 1 ≤ n) (h6 : n ≤ 6) : pq_f n 720 (pq_id n) = true := by
  rcases (show n = 1 ∨ n = 2 ∨ n = 3 ∨ n = 4 ∨ n = 5 ∨ n = 6 by omega) with rfl | rfl | rfl | rfl | rfl | rfl <;> decide +kernel
noncomputable def pq_c (P : Nat → Prop) : Nat → Int
  | 0 => 0
  | k + 1 => pq_c P k + @ite _ (P k) (Classical.propDecidable _) 1 0
theorem pq_cs {P : Nat → Prop} {v v2 : Int} {k k2 : Nat} (w : v = pq_c P k) (hk : k2 = k + 1) (h : (P k ∧ v2 = v + 1) ∨ (¬ P k ∧ v2 = v)) : v2 = pq_c P k2 := by
  subst hk
  rw [show pq_c P (k + 1) = pq_c P k + @ite _ (P k) (Classical.propDecidable _) 1 0 from rfl, ← w]
  rcases h with ⟨a, e⟩ | ⟨a, e⟩
  · rw [if_pos a, e]
  · rw [if_neg a, e]; omega
theorem pq_cc {P Q : Nat → Prop} : ∀ (k : Nat), (∀ i, i < k → (P i ↔ Q i)) → pq_c P k = pq_c Q k
  | 0, _ => rfl
  | k + 1, h => by
    have ih := pq_cc k (fun i hi => h i (by omega))
    by_cases hp : P k
    · exact pq_cs (w := ih) rfl (Or.inl ⟨(h k (by omega)).1 hp, by rw [show pq_c P (k + 1) = pq_c P k + @ite _ (P k) (Classical.propDecidable _) 1 0 from rfl, if_pos hp]⟩)
    · exact pq_cs (w := ih) rfl (Or.inr ⟨fun q => hp ((h k (by omega)).2 q), by rw [show pq_c P (k + 1) = pq_c P k + @ite _ (P k) (Classical.propDecidable _) 1 0 from rfl, if_neg hp]; omega⟩)
theorem pq_cb {P : Nat → Prop} : ∀ (k : Nat), 0 ≤ pq_c P k ∧ pq_c P k ≤ (k : Int)
  | 0 => ⟨Int.le_refl _, Int.le_refl _⟩
  | k + 1 => by
    have ih := pq_cb (P := P) k
    rw [show pq_c P (k + 1) = pq_c P k + @ite _ (P k) (Classical.propDecidable _) 1 0 from rfl]
    by_cases hp : P k
    · rw [if_pos hp]; omega
    · rw [if_neg hp]; omega
noncomputable def pq_l (P : Nat → Nat → Prop) (n : Nat) (o : O6) : Int := pq_c (fun m => P (o6at o m) m) n
noncomputable def pq_t (P : Nat → Nat → Prop) (n : Nat) : Int × O6 := pq_w n (pq_l P n) 720 (pq_id n) (7, pq_id n)
theorem pq_tc {P Q : Nat → Nat → Prop} {n : Nat} (h0 : 1 ≤ n) (h6 : n ≤ 6) (h : ∀ j m, j < n → m < n → (P j m ↔ Q j m)) : pq_t P n = pq_t Q n :=
  pq_wc (lt := pq_l P n) (lt2 := pq_l Q n) h0 h6 (fun o po => (pq_cc n (fun i hi => h _ i (pn_at po) hi) : pq_c (fun m => P (o6at o m) m) n = pq_c (fun m => Q (o6at o m) m) n)) 720 (pq_id n) (7, pq_id n) (pn_id h0 h6)
/-- the walk from o with b the fewest late so far, and fd what was kept for them -/
def pq_I (n : Nat) (lt : O6 → Int) (T : Int × O6) (fu : Nat) (o : O6) (b : Int) (fd F : Nat → Int32) : Prop := pq_f n fu o = true ∧ ∃ ob : O6, pq_w n lt fu o (b, ob) = T ∧ (b ≤ 6 → ∀ k, k < n → fd k = F (o6at ob k))
theorem pq_I0 {n fu : Nat} {P : Nat → Nat → Prop} {o : O6} {b : Int} {fd F : Nat → Int32} (h0 : 1 ≤ n) (h6 : n ≤ 6) (hf : fu = 720) (ho : o = pq_id n) (hb : b = 7) : pq_I n (pq_l P n) (pq_t P n) fu o b fd F := by
  subst hf ho hb
  exact ⟨pq_f0 h0 h6, pq_id n, rfl, fun q => absurd q (by decide)⟩
theorem pq_Ino {n fu : Nat} {lt : O6 → Int} {T : Int × O6} {o : O6} {b : Int} {fd F : Nat → Int32} (h : pq_I n lt T fu o b fd F) (hf : fu = 0) : False := by
  obtain ⟨f2, e⟩ := pq_f1 h.1
  omega
theorem pq_Ita {n fu : Nat} {lt : O6 → Int} {T : Int × O6} {o p : O6} {b : Int} {fd fd2 F : Nat → Int32} {l : Int} (h : pq_I n lt T fu o b fd F) (hl : l = lt o) (hb : l < b) (e : pq_x n o = some p) (hd : ∀ k, k < n → fd2 k = F (o6at o k)) : ∃ f2, fu = f2 + 1 ∧ pq_I n lt T f2 p l fd2 F := by
  obtain ⟨h1, ob, h2, h3⟩ := h
  obtain ⟨f2, ef, h4⟩ := pq_fs h1 e
  subst ef hl
  rw [pq_ws e, show pq_s lt o (b, ob) = (lt o, o) from if_pos hb] at h2
  exact ⟨f2, rfl, h4, o, h2, fun _ => hd⟩
theorem pq_Isk {n fu : Nat} {lt : O6 → Int} {T : Int × O6} {o p : O6} {b : Int} {fd F : Nat → Int32} {l : Int} (h : pq_I n lt T fu o b fd F) (hl : l = lt o) (hb : ¬ l < b) (e : pq_x n o = some p) : ∃ f2, fu = f2 + 1 ∧ pq_I n lt T f2 p b fd F := by
  obtain ⟨h1, ob, h2, h3⟩ := h
  obtain ⟨f2, ef, h4⟩ := pq_fs h1 e
  subst ef hl
  rw [pq_ws e, show pq_s lt o (b, ob) = (b, ob) from if_neg hb] at h2
  exact ⟨f2, rfl, h4, ob, h2, h3⟩
theorem pq_Eta {n fu : Nat} {lt : O6 → Int} {T : Int × O6} {o : O6} {b : Int} {fd fd2 F : Nat → Int32} {l : Int} (h : pq_I n lt T fu o b fd F) (hl : l = lt o) (hb : l < b) (e : pq_x n o = none) (hd : ∀ k, k < n → fd2 k = F (o6at o k)) : l = T.1 ∧ ∀ k, k < n → fd2 k = F (o6at T.2 k) := by
  obtain ⟨h1, ob, h2, h3⟩ := h
  obtain ⟨f2, ef⟩ := pq_f1 h1
  subst ef hl
  rw [pq_wn e, show pq_s lt o (b, ob) = (lt o, o) from if_pos hb] at h2
  subst h2
  exact ⟨rfl, hd⟩
theorem pq_Esk {n fu : Nat} {lt : O6 → Int} {T : Int × O6} {o : O6} {b : Int} {fd F : Nat → Int32} {l : Int} (h : pq_I n lt T fu o b fd F) (hl : l = lt o) (hb : ¬ l < b) (h6 : l ≤ 6) (e : pq_x n o = none) : b = T.1 ∧ ∀ k, k < n → fd k = F (o6at T.2 k) := by
  obtain ⟨h1, ob, h2, h3⟩ := h
  obtain ⟨f2, ef⟩ := pq_f1 h1
  subst ef hl
  rw [pq_wn e, show pq_s lt o (b, ob) = (b, ob) from if_neg hb] at h2
  subst h2
  exact ⟨rfl, h3 (by omega)⟩
theorem pq_io {m : Int32} (h0 : 0 ≤ m.toInt) : Int32.ofNat m.toInt.toNat = m := i32_ext (by rw [Int32.toInt_ofNat_of_lt (by have := i32_hi m; omega)]; omega)
def pq_st (st w : Int32) : Nat → Int32
  | 0 => st
  | d + 1 => pq_st st w d - w
theorem pq_ste {st w : Int32} : ∀ (d : Nat), pq_st st w d = st - Int32.ofNat d * w
  | 0 => by
    show st = st - 0 * w
    rw [Int32.zero_mul, Int32.sub_zero]
  | d + 1 => by
    show pq_st st w d - w = _
    rw [pq_ste d, Int32.ofNat_add, Int32.add_mul, show Int32.ofNat 1 = 1 from rfl, Int32.one_mul, Int32.sub_sub]
def pq_e (st w g : Int32) (i : Nat) : Prop := ∃ d, d < i ∧ (pq_st st w (d + 1)).toInt ≤ g.toInt
theorem pq_e0 {st w g : Int32} {i : Nat} (hi : i = 0) : ¬ pq_e st w g i := fun ⟨d, hd, _⟩ => by omega
theorem pq_es {st w g : Int32} {i : Nat} : pq_e st w g (i + 1) ↔ (pq_e st w g i ∨ (pq_st st w (i + 1)).toInt ≤ g.toInt) := by
  constructor
  · rintro ⟨d, hd, e⟩
    by_cases hc : d = i
    · subst hc; exact Or.inr e
    · exact Or.inl ⟨d, by omega, e⟩
  · rintro (⟨d, hd, e⟩ | e)
    · exact ⟨d, by omega, e⟩
    · exact ⟨i, by omega, e⟩
theorem pq_em {st w g : Int32} {i j : Nat} (h : pq_e st w g i) (hj : i ≤ j) : pq_e st w g j := by
  obtain ⟨d, hd, e⟩ := h
  exact ⟨d, by omega, e⟩
theorem pq_r {st w g : Int32} {y : Int} {k : Nat} (hk : y = k) (no : ¬ pq_e st w g (k - 1)) (yes : pq_e st w g k ∨ k = 7) : ∀ m : Nat, m ≤ 6 → (y ≤ (m : Int) ↔ pq_e st w g m) := by
  intro m hm
  constructor
  · intro h
    rcases yes with q | q
    · exact pq_em q (by omega)
    · omega
  · intro h
    apply Classical.byContradiction
    intro hc
    exact no (pq_em h (by omega))
theorem pq_ey {S W G st w g v z1 z2 : Int32} (es : S = st) (ew : W = w) (eg : G = g) (hv : 1 ≤ v.toInt) (e1 : v * w = z1) (e2 : st - z1 = z2) (c : z2.toInt ≤ g.toInt) : pq_e S W G v.toInt.toNat := by
  subst es ew eg
  refine ⟨v.toInt.toNat - 1, by omega, ?_⟩
  rw [show v.toInt.toNat - 1 + 1 = v.toInt.toNat by omega, pq_ste, pq_io (by omega), e1, e2]
  exact c
theorem pq_en {S W G st w g v z1 z2 : Int32} (es : S = st) (ew : W = w) (eg : G = g) (hv : 1 ≤ v.toInt) (no : ¬ pq_e S W G (v.toInt.toNat - 1)) (e1 : v * w = z1) (e2 : st - z1 = z2) (c : ¬ z2.toInt ≤ g.toInt) : ¬ pq_e S W G v.toInt.toNat := by
  subst es ew eg
  rintro ⟨d, hd, e⟩
  by_cases hc : d = v.toInt.toNat - 1
  · subst hc
    rw [show v.toInt.toNat - 1 + 1 = v.toInt.toNat by omega, pq_ste, pq_io (by omega), e1, e2] at e
    exact c e
  · exact no ⟨d, by omega, e⟩
def pq_bt (x : Int32) (i : Nat) : Bool := x.toBitVec.getLsbD i
theorem b_ext {x y : Int32} (h : ∀ i, i < 32 → pq_bt x i = pq_bt y i) : x = y := Int32.toBitVec_inj.mp (BitVec.eq_of_getLsbD_eq (fun i hi => h i hi))
theorem b_or (x y : Int32) (i : Nat) : pq_bt (x ||| y) i = (pq_bt x i || pq_bt y i) := by unfold pq_bt; rw [Int32.toBitVec_or, BitVec.getLsbD_or]
theorem b_and (x y : Int32) (i : Nat) : pq_bt (x &&& y) i = (pq_bt x i && pq_bt y i) := by unfold pq_bt; rw [Int32.toBitVec_and, BitVec.getLsbD_and]
theorem b_big {x : Int32} {i : Nat} (h : 32 ≤ i) : pq_bt x i = false := BitVec.getLsbD_of_ge _ _ h
theorem b_0 (i : Nat) : pq_bt 0 i = false := BitVec.getLsbD_zero
theorem s_l : ∀ n, n < 32 → ((nI n &&& 31).toBitVec.smod 32).toNat = n := by decide +kernel
theorem b_shl (n : Nat) (hn : n < 32) (x : Int32) {i : Nat} (hi : i < 32) : pq_bt (x <<< (nI n &&& 31)) i = (decide (n ≤ i) && pq_bt x (i - n)) := by
  unfold pq_bt
  rw [Int32.toBitVec_shiftLeft]
  show (x.toBitVec <<< ((nI n &&& 31).toBitVec.smod 32).toNat).getLsbD i = _
  rw [s_l n hn, BitVec.getLsbD_shiftLeft]
  rcases Nat.lt_or_ge i n with h | h
  · simp [h, Nat.not_le.mpr h]
  · simp [hi, h, Nat.not_lt.mpr h]
theorem b_sshr (n : Nat) (hn : n < 32) (x : Int32) {i : Nat} (hi : i < 32) : pq_bt (x >>> (nI n &&& 31)) i = if n + i < 32 then pq_bt x (n + i) else pq_bt x 31 := by
  unfold pq_bt
  rw [Int32.toBitVec_shiftRight]
  show (x.toBitVec.sshiftRight ((nI n &&& 31).toBitVec.smod 32).toNat).getLsbD i = _
  rw [s_l n hn, BitVec.getLsbD_sshiftRight, BitVec.msb_eq_getLsbD_last]
  simp [hi]
theorem b_1 : ∀ i, i < 32 → i ≠ 0 → pq_bt 1 i = false := by decide +kernel
theorem pq_bz {x : Int32} : (x &&& 1).toInt = 0 ↔ pq_bt x 0 = false := by
  by_cases hb : pq_bt x 0 = true
  · have e : x &&& 1 = 1 := b_ext (fun i hi => by
      rw [b_and]
      by_cases h0 : i = 0
      · subst h0; rw [hb, Bool.true_and]
      · rw [b_1 i hi h0, Bool.and_false])
    rw [e, hb]
    exact ⟨fun q => absurd q (by decide), fun q => absurd q (by decide)⟩
  · have hb2 : pq_bt x 0 = false := Bool.eq_false_iff.mpr hb
    have e : x &&& 1 = 0 := b_ext (fun i hi => by
      rw [b_and, b_0]
      by_cases h0 : i = 0
      · subst h0; rw [hb2, Bool.false_and]
      · rw [b_1 i hi h0, Bool.and_false])
    rw [e, hb2]
    exact ⟨fun _ => rfl, fun _ => rfl⟩
theorem pq_bs {s w : Int32} (h0 : 0 ≤ w.toInt) (h1 : w.toInt ≤ 15) : ((s >>> (w &&& 31)) &&& 1).toInt = 0 ↔ pq_bt s w.toInt.toNat = false := by
  have e := b_sshr w.toInt.toNat (by omega) s (i := 0) (by decide)
  rw [show nI w.toInt.toNat = w from pq_io h0, if_pos (by omega), Nat.add_zero] at e
  rw [pq_bz, e]
theorem pq_bo {s w : Int32} {v : Nat} (h0 : 0 ≤ w.toInt) (h1 : w.toInt ≤ 15) (hv : v < 16) : pq_bt (s ||| (1 <<< (w &&& 31))) v = true ↔ (pq_bt s v = true ∨ v = w.toInt.toNat) := by
  have e := b_shl w.toInt.toNat (by omega) 1 (i := v) (by omega)
  rw [show nI w.toInt.toNat = w from pq_io h0] at e
  rw [b_or, e, Bool.or_eq_true]
  by_cases hc : v = w.toInt.toNat
  · rw [hc, Nat.sub_self, decide_eq_true (Nat.le_refl _), Bool.true_and, show pq_bt 1 0 = true by decide]
    exact ⟨fun _ => Or.inr rfl, fun _ => Or.inr rfl⟩
  · have hn : (decide (w.toInt.toNat ≤ v) && pq_bt 1 (v - w.toInt.toNat)) = false := by
      by_cases hl : w.toInt.toNat ≤ v
      · rw [b_1 _ (by omega) (by omega), Bool.and_false]
      · rw [decide_eq_false hl, Bool.false_and]
    rw [hn]
    exact ⟨fun q => q.elim Or.inl (fun q => absurd q (by decide)), fun q => q.elim Or.inl (fun q => absurd q hc)⟩
/-- the walls seen so far, by their bits -/
def pq_m (F : Nat → Int32) (s : Int32) (k : Nat) : Prop := ∀ v : Nat, v < 16 → (pq_bt s v = true ↔ ∃ j, j < k ∧ (F j).toInt = v)
theorem pq_m0 {F : Nat → Int32} {k : Nat} (hk : k = 0) : pq_m F 0 k := by
  intro v hv
  rw [b_0]
  exact ⟨fun q => absurd q (by decide), fun ⟨j, hj, _⟩ => by omega⟩
theorem pq_ms {F : Nat → Int32} {s x z1 z2 : Int32} {k k2 : Nat} (w : pq_m F s k) (hk : k2 = k + 1) (hF : F k = x) (h0 : 0 ≤ x.toInt) (h1 : x.toInt ≤ 15) (e1 : 1 <<< (x &&& 31) = z1) (e2 : s ||| z1 = z2) : pq_m F z2 k2 := by
  subst hk e1 e2
  intro v hv
  rw [pq_bo h0 h1 hv, w v hv]
  constructor
  · rintro (⟨j, hj, e⟩ | e)
    · exact ⟨j, by omega, e⟩
    · exact ⟨k, by omega, by rw [hF]; omega⟩
  · rintro ⟨j, hj, e⟩
    by_cases hc : j = k
    · subst hc
      rw [hF] at e
      exact Or.inr (by omega)
    · exact Or.inl ⟨j, by omega, e⟩
theorem pq_md {F : Nat → Int32} {s x z1 z2 : Int32} {k : Nat} (w : pq_m F s k) (hF : F k = x) (h0 : 0 ≤ x.toInt) (h1 : x.toInt ≤ 15) (e1 : s >>> (x &&& 31) = z1) (e2 : z1 &&& 1 = z2) : z2.toInt = 0 ↔ ∀ j, j < k → F j ≠ F k := by
  subst e1 e2
  rw [pq_bs h0 h1]
  have q := w x.toInt.toNat (by omega)
  constructor
  · intro hb j hj e
    have ht := q.2 ⟨j, hj, by rw [e, hF]; omega⟩
    rw [hb] at ht
    exact absurd ht (by decide)
  · intro hd
    cases hb : pq_bt s x.toInt.toNat with
    | false => rfl
    | true =>
      obtain ⟨j, hj, e⟩ := q.1 hb
      exact absurd (i32_ext (by rw [hF]; omega)) (hd j hj)
