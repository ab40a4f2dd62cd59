def byt (t : Nat → Int32) (n a : Int) : Int32 := if a < n then t a.toNat else -1
def BX (h : im_H) : Int → Int32 := byt (rv h 66) (rv h 65 1).toInt
def BM (h : im_H) : Int → Int32 := byt (rv h 184) (rv h 148 45).toInt
def cs (b : Int → Int32) (a : Int) (k : Nat) : Int := (b (a + (k : Int))).toInt
theorem cs_0 {b : Int → Int32} {a : Int} : cs b a 0 = (b a).toInt := by
  show (b (a + ((0 : Nat) : Int))).toInt = _
  rw [show a + ((0 : Nat) : Int) = a by omega]
theorem cs_a {b : Int → Int32} {a : Int} (j k : Nat) : cs b (a + (j : Int)) k = cs b a (j + k) := by
  unfold cs
  rw [show a + (j : Int) + (k : Int) = a + ((j + k : Nat) : Int) by omega]
def lcp : List Int32 → (Nat → Int) → Nat → Nat
  | [], _, _ => 0
  | c :: w, b, k => if b k = c.toInt then lcp w b (k + 1) + 1 else 0
def wdF : List (List Int32) → (Nat → Int) → Nat → Int → Int × Nat
  | [], _, f, _ => (-1, f)
  | w :: ws, b, f, i => if lcp w b 0 = w.length then (i, w.length) else wdF ws b (max f (lcp w b 0)) (i + 1)
def rdR (b : Nat → Int) : List Int32 → Nat → Int → Nat → Bool → Int × Nat
  | [], f, _, _, _ => (-1, f)
  | c :: l, f, i, m, al => if c.toInt = 32 then (if al = true then (i, m) else rdR b l f (i + 1) 0 true) else if al = true ∧ b m = c.toInt then rdR b l (max f (m + 1)) i (m + 1) true else rdR b l f i m false
theorem rdR_f {b : Nat → Int} {w rest : List Int32} (hw : ∀ c ∈ w, c.toInt ≠ 32) {f m : Nat} {i : Int} : rdR b (w ++ 32 :: rest) f i m false = rdR b rest f (i + 1) 0 true := by
  induction w with
  | nil =>
    show ite _ _ _ = _
    rw [if_pos (show Int32.toInt 32 = 32 from rfl), if_neg (by decide)]
  | cons c w ih =>
    show ite _ _ _ = _
    rw [if_neg (hw c (List.mem_cons_self ..)), if_neg (fun h => absurd h.1 (by decide))]
    exact ih (fun d hd => hw d (List.mem_cons_of_mem _ hd))
theorem rdR_t {b : Nat → Int} {rest : List Int32} : ∀ (w : List Int32), (∀ c ∈ w, c.toInt ≠ 32) → ∀ (f m : Nat) (i : Int), m ≤ f → rdR b (w ++ 32 :: rest) f i m true = if lcp w b m = w.length then (i, m + w.length) else rdR b rest (max f (m + lcp w b m)) (i + 1) 0 true := by
  intro w
  induction w with
  | nil =>
    intro _ f m i _
    show ite _ _ _ = _
    rw [if_pos (show Int32.toInt 32 = 32 from rfl), if_pos rfl, if_pos (show lcp [] b m = List.length [] from rfl)]
    rfl
  | cons c w ih =>
    intro hw f m i hm
    rw [show (c :: w) ++ 32 :: rest = c :: (w ++ 32 :: rest) from rfl]
    show ite _ _ _ = _
    rw [if_neg (hw c (List.mem_cons_self ..))]
    by_cases hc : b m = c.toInt
    · have el : lcp (c :: w) b m = lcp w b (m + 1) + 1 := if_pos hc
      rw [if_pos ⟨rfl, hc⟩, ih (fun d hd => hw d (List.mem_cons_of_mem _ hd)) _ _ _ (by omega), el, List.length_cons]
      by_cases h1 : lcp w b (m + 1) = w.length
      · rw [if_pos h1, if_pos (by omega), show m + 1 + w.length = m + (w.length + 1) by omega]
      · rw [if_neg h1, if_neg (by omega), show max (max f (m + 1)) (m + 1 + lcp w b (m + 1)) = max f (m + (lcp w b (m + 1) + 1)) by omega]
    · have el : lcp (c :: w) b m = 0 := if_neg hc
      rw [if_neg (fun h => hc h.2), el, if_neg (by rw [List.length_cons]; omega), rdR_f (fun d hd => hw d (List.mem_cons_of_mem _ hd)), show max f (m + 0) = f by omega]
def tx : List (List Int32) → List Int32
  | [] => []
  | w :: ws => w ++ 32 :: tx ws
theorem rdR_wd {b : Nat → Int} : ∀ (ws : List (List Int32)), (∀ w ∈ ws, ∀ c ∈ w, c.toInt ≠ 32) → ∀ (f : Nat) (i : Int), rdR b (tx ws) f i 0 true = wdF ws b f i := by
  intro ws
  induction ws with
  | nil => intro _ f i; rfl
  | cons w ws ih =>
    intro hw f i
    show rdR b (w ++ 32 :: tx ws) f i 0 true = _
    rw [rdR_t w (hw w (List.mem_cons_self ..)) f 0 i (Nat.zero_le _)]
    show _ = ite _ _ _
    by_cases h1 : lcp w b 0 = w.length
    · rw [if_pos h1, if_pos h1, show 0 + w.length = w.length by omega]
    · rw [if_neg h1, if_neg h1, ih (fun v hv => hw v (List.mem_cons_of_mem _ hv)), show 0 + lcp w b 0 = lcp w b 0 by omega]
def KW : List (List Int32) := [[119, 111, 114, 107], [99, 97, 114, 100], [115, 116, 97, 121]]
def FW : List (List Int32) := [[115, 116, 114, 111, 110, 103], [97, 103, 101], [107, 105, 110], [104, 117, 114, 116], [119, 101, 116], [119, 105, 110, 100], [100, 97, 121], [119, 111, 114, 107, 101, 100]]
def SW : List (List Int32) := [[60], [62], [61]]
def IW : List Int32 := [32, 105, 102, 32]
theorem tx_K : im_txt.getD 0 [] = tx KW := by decide
theorem tx_F : im_txt.getD 2 [] = tx FW := by decide
theorem tx_S : im_txt.getD 3 [] = tx SW := by decide
theorem nb_K : ∀ w ∈ KW, ∀ c ∈ w, c.toInt ≠ 32 := by decide
theorem nb_F : ∀ w ∈ FW, ∀ c ∈ w, c.toInt ≠ 32 := by decide
theorem nb_S : ∀ w ∈ SW, ∀ c ∈ w, c.toInt ≠ 32 := by decide
abbrev dg (x : Int) : Prop := 48 ≤ x ∧ x ≤ 57
def nuF (b : Nat → Int) : Int × Nat := if dg (b 0) then (if dg (b 1) then (if dg (b 2) then (((b 0 - 48) * 10 + (b 1 - 48)) * 10 + (b 2 - 48), 3) else ((b 0 - 48) * 10 + (b 1 - 48), 2)) else (b 0 - 48, 1)) else (-1, 0)
theorem nu0 {b : Nat → Int} {v : Int} (h0 : ¬ dg (b 0)) (hv : v = -1) : nuF b = (v, 0) := by
  unfold nuF
  rw [if_neg h0, hv]
theorem nu1 {b : Nat → Int} {v : Int} (h0 : dg (b 0)) (h1 : ¬ dg (b 1)) (hv : v = b 0 - 48) : nuF b = (v, 1) := by
  unfold nuF
  rw [if_pos h0, if_neg h1, hv]
theorem nu2 {b : Nat → Int} {v : Int} (h0 : dg (b 0)) (h1 : dg (b 1)) (h2 : ¬ dg (b 2)) (hv : v = (b 0 - 48) * 10 + (b 1 - 48)) : nuF b = (v, 2) := by
  unfold nuF
  rw [if_pos h0, if_pos h1, if_neg h2, hv]
theorem nu3 {b : Nat → Int} {v : Int} (h0 : dg (b 0)) (h1 : dg (b 1)) (h2 : dg (b 2)) (hv : v = ((b 0 - 48) * 10 + (b 1 - 48)) * 10 + (b 2 - 48)) : nuF b = (v, 3) := by
  unfold nuF
  rw [if_pos h0, if_pos h1, if_pos h2, hv]
def sgF (x : Int) : Int := if x = 60 then 0 else if x = 62 then 1 else if x = 61 then 2 else -1
/- a test: field, sign, number, and where it ends; the last is whether it is one -/
def tsK (b : Int → Int32) (a : Int) : Int := a + ((wdF FW (cs b a) 0 0).2 : Int)
def tsS (b : Int → Int32) (a : Int) : Int := sgF (b (tsK b a)).toInt
def tsN (b : Int → Int32) (a : Int) : Int × Nat := nuF (cs b (tsK b a + 1))
abbrev tsO (b : Int → Int32) (a : Int) : Prop := 0 ≤ (wdF FW (cs b a) 0 0).1 ∧ 0 ≤ tsS b a ∧ 0 ≤ (tsN b a).1
def tsP (b : Int → Int32) (a : Int) : Int := if 0 ≤ (wdF FW (cs b a) 0 0).1 ∧ 0 ≤ tsS b a then tsK b a + 1 + ((tsN b a).2 : Int) else tsK b a
/- the line: its key, its number, where its tests begin, how many, where it ends, whether it is one -/
def lnK (b : Int → Int32) (a : Int) : Int := a + ((wdF KW (cs b a) 0 0).2 : Int)
def lnN (b : Int → Int32) (a : Int) : Int × Nat := nuF (cs b (lnK b a + 1))
def lnE (b : Int → Int32) (a : Int) : Int := lnK b a + 1 + ((lnN b a).2 : Int)
def tu2 (b : Int → Int32) (a : Int) : Int := tsP b a + 1
def tu3 (b : Int → Int32) (a : Int) : Int := tsP b (tu2 b a) + 1
abbrev lnH (b : Int → Int32) (a : Int) : Prop := 0 ≤ (wdF KW (cs b a) 0 0).1 ∧ (b (lnK b a)).toInt = 32
abbrev lnI (b : Int → Int32) (a : Int) : Prop := lcp IW (cs b (lnE b a)) 0 = 4
abbrev sc (b : Int → Int32) (a : Int) : Prop := (b a).toInt = 59
abbrev am (b : Int → Int32) (a : Int) : Prop := (b a).toInt = 38
/- the tests of a line: how many (-1: it is none), and where they end or the fault is -/
def ttR (b : Int → Int32) (a : Int) : Int × Int :=
  if ¬ tsO b a then (-1, tsP b a) else if sc b (tsP b a) then (1, tsP b a + 1) else if ¬ am b (tsP b a) then (-1, tsP b a) else
  if ¬ tsO b (tu2 b a) then (-1, tsP b (tu2 b a)) else if sc b (tsP b (tu2 b a)) then (2, tsP b (tu2 b a) + 1) else if ¬ am b (tsP b (tu2 b a)) then (-1, tsP b (tu2 b a)) else
  if ¬ tsO b (tu3 b a) then (-1, tsP b (tu3 b a)) else if sc b (tsP b (tu3 b a)) then (3, tsP b (tu3 b a) + 1) else (-1, tsP b (tu3 b a))
def lnR (b : Int → Int32) (a : Int) : Int × Int :=
  if ¬ lnH b a then (-1, lnK b a) else if (lnN b a).1 < 0 then (-1, lnE b a) else if sc b (lnE b a) then (0, lnE b a + 1) else if ¬ lnI b a then (-1, lnE b a + (lcp IW (cs b (lnE b a)) 0 : Int)) else ttR b (lnE b a + 4)
/- an order of at most r lines from a on: how many lines (-1: none), and where it ends -/
def orR (b : Int → Int32) (n : Int) : Nat → Int → Int → Int × Int
  | 0, _, a => (-1, a)
  | r + 1, i, a => if (lnR b a).1 < 0 then (-1, (lnR b a).2) else if (lnR b a).2 = n then (i + 1, n) else orR b n r (i + 1) (lnR b a).2
def lnS (b : Int → Int32) : Nat → Int
  | 0 => 0
  | k + 1 => (lnR b (lnS b k)).2
def plX (h : im_H) : Int := (rv h 65 2).toInt
def plM (h : im_H) : Int := (rv h 148 60).toInt
theorem plX_of {h : im_H} {x : Int32} (e : rd h 65 2 = some (.int x)) : plX h = x.toInt := congrArg Int32.toInt (rv_of e)
theorem plM_of {h : im_H} {x : Int32} (e : rd h 148 60 = some (.int x)) : plM h = x.toInt := congrArg Int32.toInt (rv_of e)
theorem BX_fr {F : List (Nat × Nat × Nat)} {h H : im_H} (f : fr F h H) (a : inF F 65 1 = false) (b : ∀ k, inF F 66 k = false) : BX H = BX h := by
  unfold BX
  rw [show rv H 66 = rv h 66 from funext fun k => by unfold rv; rw [f _ _ (b k)], show rv H 65 1 = rv h 65 1 by unfold rv; rw [f _ _ a]]
theorem BM_fr {F : List (Nat × Nat × Nat)} {h H : im_H} (f : fr F h H) (a : inF F 148 45 = false) (b : ∀ k, inF F 184 k = false) : BM H = BM h := by
  unfold BM
  rw [show rv H 184 = rv h 184 from funext fun k => by unfold rv; rw [f _ _ (b k)], show rv H 148 45 = rv h 148 45 by unfold rv; rw [f _ _ a]]
theorem BX_y {h : im_H} {i : Nat} {a : Int} {t y : Int32} (e : rd h 65 1 = some (.int t)) (ha : a.toNat = i) (hl : a < t.toInt) (ey : rd h 66 i = some (.int y)) : y = BX h a := by
  unfold BX byt
  rw [rv_of e, if_pos hl, ha, rv_of ey]
theorem BX_n {h : im_H} {a : Int} {t : Int32} (e : rd h 65 1 = some (.int t)) (hl : ¬ a < t.toInt) : -1 = BX h a := by
  unfold BX byt
  rw [rv_of e, if_neg hl]
theorem BM_y {h : im_H} {i : Nat} {a : Int} {t y : Int32} (e : rd h 148 45 = some (.int t)) (ha : a.toNat = i) (hl : a < t.toInt) (ey : rd h 184 i = some (.int y)) : y = BM h a := by
  unfold BM byt
  rw [rv_of e, if_pos hl, ha, rv_of ey]
theorem BM_n {h : im_H} {a : Int} {t : Int32} (e : rd h 148 45 = some (.int t)) (hl : ¬ a < t.toInt) : -1 = BM h a := by
  unfold BM byt
  rw [rv_of e, if_neg hl]
theorem cs_at {b : Int → Int32} {a z : Int} {k : Nat} {y : Int32} (hz : a + (k : Int) = z) (e : y = b z) : cs b a k = y.toInt := by
  unfold cs
  rw [hz, e]
theorem drop_c {l : List Int32} {i : Nat} {y : Int32} (hi : i < l.length) (e : l.getD i 0 = y) : l.drop i = y :: l.drop (i + 1) := by
  rw [List.drop_eq_getElem_cons hi, ← e, List.getD_eq_getElem?_getD, List.getElem?_eq_getElem hi]
  rfl
theorem rdR_s0 {b : Nat → Int} {c : Int32} {l : List Int32} {f m : Nat} {i : Int} (h : c.toInt = 32) : rdR b (c :: l) f i m true = (i, m) := by
  show ite _ _ _ = _
  rw [if_pos h, if_pos rfl]
theorem rdR_s1 {b : Nat → Int} {c : Int32} {l : List Int32} {f m : Nat} {i : Int} (h : c.toInt = 32) : rdR b (c :: l) f i m false = rdR b l f (i + 1) 0 true := by
  show ite _ _ _ = _
  rw [if_pos h, if_neg (by decide)]
theorem rdR_s2 {b : Nat → Int} {c : Int32} {l : List Int32} {f m : Nat} {i : Int} (h : c.toInt ≠ 32) (e : b m = c.toInt) : rdR b (c :: l) f i m true = rdR b l (max f (m + 1)) i (m + 1) true := by
  show ite _ _ _ = _
  rw [if_neg h, if_pos ⟨rfl, e⟩]
theorem rdR_s3 {b : Nat → Int} {c : Int32} {l : List Int32} {f m : Nat} {i : Int} {al : Bool} (h : c.toInt ≠ 32) (e : ¬ (al = true ∧ b m = c.toInt)) : rdR b (c :: l) f i m al = rdR b l f i m false := by
  show ite _ _ _ = _
  rw [if_neg h, if_neg e]
theorem rdR_e {b : Nat → Int} {f m : Nat} {i : Int} {al : Bool} {l : List Int32} (h : l = []) : rdR b l f i m al = (-1, f) := by
  subst h
  rfl
theorem orR_f {b : Int → Int32} {n : Int} {r : Nat} {i a : Int} (h : (lnR b a).1 < 0) : orR b n (r + 1) i a = (-1, (lnR b a).2) := by
  show ite _ _ _ = _
  rw [if_pos h]
theorem orR_e {b : Int → Int32} {n : Int} {r : Nat} {i a : Int} (h : ¬ (lnR b a).1 < 0) (e : (lnR b a).2 = n) : orR b n (r + 1) i a = (i + 1, n) := by
  show ite _ _ _ = _
  rw [if_neg h, if_pos e]
theorem orR_s {b : Int → Int32} {n : Int} {r : Nat} {i a : Int} (h : ¬ (lnR b a).1 < 0) (e : ¬ (lnR b a).2 = n) : orR b n (r + 1) i a = orR b n r (i + 1) (lnR b a).2 := by
  show ite _ _ _ = _
  rw [if_neg h, if_neg e]
theorem lcp_y {b : Nat → Int} {c : Int32} {w : List Int32} {k : Nat} (h : b k = c.toInt) : lcp (c :: w) b k = lcp w b (k + 1) + 1 := if_pos h
theorem lcp_n {b : Nat → Int} {c : Int32} {w : List Int32} {k : Nat} (h : b k ≠ c.toInt) : lcp (c :: w) b k = 0 := if_neg h
theorem lcp_0 {b : Nat → Int} {k : Nat} : lcp [] b k = 0 := rfl
theorem sw_sg {b : Nat → Int} : (wdF SW b 0 0).1 = sgF (b 0) ∧ ((wdF SW b 0 0).2 : Int) = if 0 ≤ sgF (b 0) then 1 else 0 := by
  have e1 : ∀ c : Int32, lcp [c] b 0 = if b 0 = c.toInt then 1 else 0 := fun c => by
    by_cases h : b 0 = c.toInt
    · rw [lcp_y h, if_pos h]; rfl
    · rw [lcp_n h, if_neg h]
  have e2 : wdF SW b 0 0 = if b 0 = 60 then (0, 1) else if b 0 = 62 then (1, 1) else if b 0 = 61 then (2, 1) else (-1, 0) := by
    show (if lcp [60] b 0 = 1 then ((0 : Int), 1) else if lcp [62] b 0 = 1 then (0 + 1, 1) else if lcp [61] b 0 = 1 then (0 + 1 + 1, 1) else (-1, max (max (max 0 (lcp [60] b 0)) (lcp [62] b 0)) (lcp [61] b 0))) = _
    rw [e1, e1, e1, show Int32.toInt 60 = 60 from rfl, show Int32.toInt 62 = 62 from rfl, show Int32.toInt 61 = 61 from rfl]
    by_cases h1 : b 0 = 60
    · rw [if_pos h1, if_pos h1, if_pos rfl]
    · rw [if_neg h1, if_neg h1, if_neg (by decide)]
      by_cases h2 : b 0 = 62
      · rw [if_pos h2, if_pos h2, if_pos rfl]; rfl
      · rw [if_neg h2, if_neg h2, if_neg (by decide)]
        by_cases h3 : b 0 = 61
        · rw [if_pos h3, if_pos h3, if_pos rfl]; rfl
        · rw [if_neg h3, if_neg h3, if_neg (by decide)]; rfl
  rw [e2]
  unfold sgF
  by_cases h1 : b 0 = 60
  · rw [if_pos h1, if_pos h1]; exact ⟨rfl, rfl⟩
  · rw [if_neg h1, if_neg h1]
    by_cases h2 : b 0 = 62
    · rw [if_pos h2, if_pos h2]; exact ⟨rfl, rfl⟩
    · rw [if_neg h2, if_neg h2]
      by_cases h3 : b 0 = 61
      · rw [if_pos h3, if_pos h3]; exact ⟨rfl, rfl⟩
      · rw [if_neg h3, if_neg h3]; exact ⟨rfl, rfl⟩
def ut (b : Int → Int32) (a : Int) : Nat → Int
  | 0 => a
  | 1 => tu2 b a
  | _ => tu3 b a
def tsC (H : im_H) (o k : Nat) (b : Int → Int32) (a : Int) : Prop := ∃ f s v : Int32, rd H (o + 4) k = some (.int f) ∧ f.toInt = (wdF FW (cs b a) 0 0).1 ∧ rd H (o + 5) k = some (.int s) ∧ s.toInt = tsS b a ∧ rd H (o + 6) k = some (.int v) ∧ v.toInt = (tsN b a).1
theorem tsC_e {H H2 : im_H} {o k : Nat} {b : Int → Int32} {a : Int} (c : tsC H o k b a) (e4 : rd H2 (o + 4) k = rd H (o + 4) k) (e5 : rd H2 (o + 5) k = rd H (o + 5) k) (e6 : rd H2 (o + 6) k = rd H (o + 6) k) : tsC H2 o k b a := by
  obtain ⟨f, s, v, c1, c2, c3, c4, c5, c6⟩ := c
  exact ⟨f, s, v, e4.trans c1, c2, e5.trans c3, c4, e6.trans c5, c6⟩
def lnC (H : im_H) (o l : Nat) (b : Int → Int32) (a : Int) : Prop := ∃ k n c : Int32, rd H (o + 1) l = some (.int k) ∧ k.toInt = (wdF KW (cs b a) 0 0).1 ∧ rd H (o + 2) l = some (.int n) ∧ n.toInt = (lnN b a).1 ∧ rd H (o + 3) l = some (.int c) ∧ c.toInt = (lnR b a).1 ∧ ∀ t : Nat, (t : Int) < (lnR b a).1 → tsC H o (3 * l + t) b (ut b (lnE b a + 4) t)
theorem lnC_e {H H2 : im_H} {o l : Nat} {b : Int → Int32} {a : Int} (c : lnC H o l b a) (e : rd H2 (o + 1) l = rd H (o + 1) l ∧ rd H2 (o + 2) l = rd H (o + 2) l ∧ rd H2 (o + 3) l = rd H (o + 3) l) (et : ∀ m, 3 * l ≤ m → m < 3 * l + 3 → rd H2 (o + 4) m = rd H (o + 4) m ∧ rd H2 (o + 5) m = rd H (o + 5) m ∧ rd H2 (o + 6) m = rd H (o + 6) m) (h3 : (lnR b a).1 ≤ 3) : lnC H2 o l b a := by
  obtain ⟨k, n, c0, c1, c2, c3, c4, c5, c6, c7⟩ := c
  refine ⟨k, n, c0, e.1.trans c1, c2, e.2.1.trans c3, c4, e.2.2.trans c5, c6, fun t ht => ?_⟩
  have q := et (3 * l + t) (by omega) (by omega)
  exact tsC_e (c7 t ht) q.1 q.2.1 q.2.2
theorem ttR_3 {b : Int → Int32} {a : Int} : (ttR b a).1 ≤ 3 := by
  unfold ttR
  (repeat' split) <;> simp
theorem lnR_3 {b : Int → Int32} {a : Int} : (lnR b a).1 ≤ 3 := by
  unfold lnR
  (repeat' split) <;> first | exact ttR_3 | simp
theorem shr_bv {x : Int32} : ∀ n : Nat, n < 24 → (x >>> (Int32.ofNat n &&& 31)).toBitVec = x.toBitVec.sshiftRight n := by
  intro n hn
  rw [Int32.toBitVec_shiftRight]
  have e : ∀ m, m < 24 → ((Int32.ofNat m &&& 31).toBitVec.smod 32).toNat = m := by decide
  show x.toBitVec.sshiftRight ((Int32.ofNat n &&& 31).toBitVec.smod 32).toNat = _
  rw [e n hn]
theorem shl_bv {x : Int32} : ∀ n : Nat, n < 24 → (x <<< (Int32.ofNat n &&& 31)).toBitVec = x.toBitVec <<< n := by
  intro n hn
  rw [Int32.toBitVec_shiftLeft]
  have e : ∀ m, m < 24 → ((Int32.ofNat m &&& 31).toBitVec.smod 32).toNat = m := by decide
  show x.toBitVec <<< ((Int32.ofNat n &&& 31).toBitVec.smod 32).toNat = _
  rw [e n hn]
theorem ofN {v : Int32} (h : 0 ≤ v.toInt) : Int32.ofNat v.toInt.toNat = v := by
  rw [← Int32.ofInt_eq_ofNat, show (v.toInt.toNat : Int) = v.toInt by omega]
  exact Int32.ofInt_toInt v
abbrev bt (x : Int32) (u : Nat) : Prop := x.toBitVec.getLsbD u = true
theorem bt_iff {x v : Int32} (h0 : 0 ≤ v.toInt) (h1 : v.toInt < 24) : (x >>> (v &&& 31)) &&& 1 = 1 ↔ bt x v.toInt.toNat := by
  have e : ((x >>> (v &&& 31)) &&& 1).toBitVec = (x.toBitVec.sshiftRight v.toInt.toNat) &&& 1#32 := by
    rw [Int32.toBitVec_and, ← shr_bv (x := x) v.toInt.toNat (by omega), ofN h0]
    rfl
  constructor
  · intro h
    have h2 : ((x.toBitVec.sshiftRight v.toInt.toNat) &&& 1#32).getLsbD 0 = true := by rw [← e, h]; rfl
    rw [BitVec.getLsbD_and, BitVec.getLsbD_sshiftRight, if_pos (by omega)] at h2
    simp at h2
    exact h2
  · intro h
    apply Int32.toBitVec_inj.mp
    rw [e]
    apply BitVec.eq_of_getLsbD_eq
    intro i hi
    rw [BitVec.getLsbD_and]
    show _ = (1#32).getLsbD i
    by_cases h3 : i = 0
    · subst h3
      rw [BitVec.getLsbD_sshiftRight, if_pos (by omega)]
      simp
      exact h
    · rw [BitVec.getLsbD_one]
      simp [h3]
theorem bt_or {x v : Int32} {u : Nat} (h0 : 0 ≤ v.toInt) (h1 : v.toInt < 24) (hu : u < 24) : bt (x ||| (1 <<< (v &&& 31))) u ↔ bt x u ∨ u = v.toInt.toNat := by
  unfold bt
  rw [Int32.toBitVec_or, BitVec.getLsbD_or]
  have e : ((1 : Int32) <<< (v &&& 31)).toBitVec.getLsbD u = decide (u = v.toInt.toNat) := by
    have := shl_bv (x := 1) v.toInt.toNat (by omega)
    rw [ofN h0] at this
    rw [this]
    show (1#32 <<< v.toInt.toNat).getLsbD u = _
    rw [BitVec.getLsbD_shiftLeft, BitVec.getLsbD_one]
    have hn : v.toInt.toNat < 24 := by omega
    generalize v.toInt.toNat = n at hn
    by_cases h : u = n
    · subst h; simp; omega
    · rw [decide_eq_false h]
      by_cases h2 : u < n
      · rw [decide_eq_true h2]; simp
      · rw [decide_eq_false (show ¬ u - n = 0 by omega)]; simp
  rw [e]
  simp
theorem bt_0 {u : Nat} : ¬ bt 0 u := by
  unfold bt
  show ¬ (0#32).getLsbD u = true
  simp
theorem lcp_le {b : Nat → Int} : ∀ (w : List Int32) (k : Nat), lcp w b k ≤ w.length
  | [], _ => Nat.le_refl _
  | c :: w, k => by
    by_cases h : b k = c.toInt
    · rw [lcp_y h, List.length_cons]; have := lcp_le (b := b) w (k + 1); omega
    · rw [lcp_n h]; omega
theorem lcp_at {b : Nat → Int} : ∀ (w : List Int32) (k n : Nat), n ≤ lcp w b k → n < w.length → (n + 1 ≤ lcp w b k ↔ b (k + n) = (w.getD n 0).toInt)
  | [], _, n, _, h => absurd h (Nat.not_lt_zero n)
  | c :: w, k, n, h, hl => by
    by_cases hc : b k = c.toInt
    · rw [lcp_y hc] at h ⊢
      cases n with
      | zero => exact ⟨fun _ => hc, fun _ => by omega⟩
      | succ n =>
        have ih := lcp_at (b := b) w (k + 1) n (by omega) (by rw [List.length_cons] at hl; omega)
        rw [show k + (n + 1) = k + 1 + n by omega, List.getD_cons_succ]
        constructor
        · intro q; exact ih.mp (by omega)
        · intro q; have := ih.mpr q; omega
    · rw [lcp_n hc] at h ⊢
      have e : n = 0 := by omega
      subst e
      exact ⟨fun q => absurd q (by omega), fun q => absurd q hc⟩
def AW : List (List Int32) := KW ++ FW ++ [IW]
def wl (u : Nat) : List Int32 := AW.getD u []
def WL : List Int64 := [2003792491, 1667330660, 1937006969, 126943973305959, 6383461, 7039342, 1752527476, 7824756, 2003398244, 6578553, 131320544716132, 543778336]
def tbl (h : im_H) : Prop := (∀ k, rd h 195 k = (WL[k]?).map Value.long) ∧ (∀ k, rd h 196 k = (([4, 4, 4, 6, 3, 3, 4, 3, 4, 3, 6, 4] : List Int32)[k]?).map Value.int)
set_option maxRecDepth 20000 in
theorem tbl_c0 : ∀ u, u < 12 → ∀ n, n < 6 → n < (wl u).length → ((WL.getD u 0 >>> (Int32.toInt64 (Int32.ofNat (8 * ((wl u).length - 1 - n))) &&& 63)) &&& 255).toInt = ((wl u).getD n 0).toInt := by decide +kernel
theorem tbl_c {u n : Nat} {z : Int32} (hu : u < 12) (h6 : n < (wl u).length) (hz : z.toInt = 8 * (((wl u).length : Int) - 1 - n)) : ((WL.getD u 0 >>> (Int32.toInt64 z &&& 63)) &&& 255).toInt = ((wl u).getD n 0).toInt := by
  have hl : ∀ u, u < 12 → (wl u).length ≤ 6 := by decide
  have h1 := hl u hu
  have e := tbl_c0 u hu n (by omega) h6
  have ez : Int32.ofNat (8 * ((wl u).length - 1 - n)) = z := by
    rw [← ofN (v := z) (by omega)]
    congr 1
    omega
  rw [ez] at e
  exact e
theorem tbl_l {h : im_H} {u : Nat} (t : tbl h) (hu : u < 12) : rd h 195 u = some (.long (WL.getD u 0)) := by
  rw [t.1]
  have e : ∀ u, u < 12 → WL[u]? = some (WL.getD u 0) := by decide
  rw [e u hu]
  rfl
theorem tbl_s {h : im_H} {u : Nat} {y : Int32} (t : tbl h) (hu : u < 12) (e : rd h 196 u = some (.int y)) : y.toInt = (wl u).length := by
  rw [t.2] at e
  have q : ∀ u, u < 12 → (([4, 4, 4, 6, 3, 3, 4, 3, 4, 3, 6, 4] : List Int32)[u]?).map Value.int = some (.int (Int32.ofNat (wl u).length)) ∧ (Int32.ofNat (wl u).length).toInt = (wl u).length := by decide
  rw [(q u hu).1] at e
  rw [← int_inj rfl e]
  exact (q u hu).2
theorem tl_le {K : im_K} {d : Nat} {M : im_M} {pc p2 : Nat} {lv : im_L} {st : List Value} {h : im_H} {Q : Option Value → im_H → Prop} {R i n : Nat} {j : Int32} {y : Int64} (ha : im_at M pc = some (.laload, [])) (hp : pc + 1 = p2) (hI : tI h) (hR : R = 16 + i) (hs : tS[i]? = some (1, 2, n)) (h0 : 0 ≤ j.toInt) (h1 : j.toInt < n) (e : rd h i j.toInt.toNat = some (.long y)) (k : EvP K d M (p2, lv, .long y :: st, h) Q) : EvP K d M (pc, lv, .int j :: .ref R :: st, h) Q := by
  subst hp; subst hR
  have hsh : (im_shs h)[i]? = some (1, 2, n) := by rw [hI.1]; exact hs
  unfold im_shs at hsh
  rw [List.getElem?_map] at hsh
  cases hx : h[i]? with
  | none => rw [hx] at hsh; cases hsh
  | some x =>
    rw [hx] at hsh
    rcases x with ⟨t2, l | l | l⟩ | ⟨c2, fs⟩
    · simp [im_sh] at hsh
    · simp [im_sh] at hsh
      obtain ⟨rfl, hn⟩ := hsh
      have hla : im_la h (16 + i) = some l := by
        unfold im_la
        rw [if_pos (by omega), show 16 + i - 16 = i by omega, hx]
        simp
      have ey : l.getD j.toNatClampNeg 0 = y := by
        have e2 : rd h i j.toInt.toNat = (l[j.toInt.toNat]?).map Value.long := by
          unfold rd
          rw [hx]
          rfl
        rw [e2] at e
        show l.getD j.toInt.toNat 0 = y
        rw [List.getD_eq_getElem?_getD]
        cases hq : l[j.toInt.toNat]? with
        | none => rw [hq] at e; cases e
        | some v => rw [hq] at e; cases e; rfl
      subst ey
      refine evp (fun r => ev_step (st_at ha ?_)) k
      show ((im_la h (16 + i)).bind fun l => if im_in j l.length then im_nx (pc + 1) lv (.long (l.getD j.toNatClampNeg 0) :: st) h else none) = _
      rw [hla]
      simp only [Option.bind_some]
      rw [if_pos (in_at hn h0 (by omega))]
      rfl
    · simp [im_sh] at hsh
    · simp [im_sh] at hsh
theorem cmp_y {x : Int64} {y z : Int32} {c : Int} (hx : x.toInt = c) (e : lg_cmp x (Int32.toInt64 y) = z) : z.toInt = 0 ↔ y.toInt = c := by
  constructor
  · intro h
    have q := lg_cmp_eq0 (e.trans (i32_ext h : z = 0))
    rw [← hx, q]
    exact (Int32.toInt_toInt64 y).symm
  · intro h
    have q : x = Int32.toInt64 y := Int64.toInt_inj.mp (by rw [hx, Int32.toInt_toInt64, h])
    rw [← e, q, lg_cmp_self]
    rfl
theorem wl6 : ∀ u, (wl u).length ≤ 6 := by
  intro u
  by_cases h : u < 12
  · exact (show ∀ u, u < 12 → (wl u).length ≤ 6 by decide) u h
  · unfold wl
    rw [List.getD_eq_getElem?_getD, List.getElem?_eq_none (by rw [show AW.length = 12 from rfl]; omega)]
    decide
def inJ (c : Nat → Int) (f b n w : Nat) (left : Int32) : Prop := (∀ u, f ≤ u → u < b → (u < w → (bt left u ↔ n + 1 ≤ lcp (wl u) c 0)) ∧ (w ≤ u → ¬ bt left u)) ∧ (∀ u, f ≤ u → u < w → lcp (wl u) c 0 = (wl u).length → n + 1 ≤ (wl u).length) ∧ (left.toInt ≠ 0 → ∃ u, f ≤ u ∧ u < b ∧ n + 1 ≤ lcp (wl u) c 0)
def inO (c : Nat → Int) (f b n : Nat) (may : Int32) : Prop := (∀ u, f ≤ u → u < b → (bt may u ↔ n ≤ lcp (wl u) c 0)) ∧ (∀ u, f ≤ u → u < b → lcp (wl u) c 0 = (wl u).length → n ≤ (wl u).length) ∧ (∃ u, f ≤ u ∧ u < b ∧ n ≤ lcp (wl u) c 0)
theorem inJ_0 {c : Nat → Int} {f b n : Nat} : inJ c f b n f 0 := ⟨fun u h0 _ => ⟨fun h => absurd h (by omega), fun _ => bt_0⟩, fun u h0 h1 => absurd h1 (by omega), fun h => absurd rfl h⟩
theorem inJ_n {c : Nat → Int} {f b n w w2 : Nat} {may left : Int32} (O : inO c f b n may) (J : inJ c f b n w left) (h2 : w2 = w + 1) (hf : f ≤ w) (hb : w < b) (hn : ¬ bt may w) : inJ c f b n w2 left := by
  subst h2
  have hl : ¬ n ≤ lcp (wl w) c 0 := fun q => hn ((O.1 w hf hb).mpr q)
  refine ⟨fun u h0 h1 => ⟨fun h => ?_, fun h => (J.1 u h0 h1).2 (by omega)⟩, fun u h0 h1 e => ?_, J.2.2⟩
  · by_cases hc : u = w
    · subst hc
      exact ⟨fun q => absurd q ((J.1 u h0 h1).2 (Nat.le_refl _)), fun q => absurd q (by omega)⟩
    · exact (J.1 u h0 h1).1 (by omega)
  · by_cases hc : u = w
    · subst hc
      exact absurd (by rw [e]; exact O.2.1 u h0 hb e) hl
    · exact J.2.1 u h0 (by omega) e
theorem inJ_ne {c : Nat → Int} {f b n w w2 : Nat} {may left : Int32} (O : inO c f b n may) (J : inJ c f b n w left) (h2 : w2 = w + 1) (hf : f ≤ w) (hb : w < b) (hy : bt may w) (hs : n ≠ (wl w).length) (hc : c n ≠ ((wl w).getD n 0).toInt) : inJ c f b n w2 left := by
  subst h2
  have hl := (O.1 w hf hb).mp hy
  have le := lcp_le (b := c) (wl w) 0
  have at_ := lcp_at (b := c) (wl w) 0 n hl (by omega)
  rw [Nat.zero_add] at at_
  have hl2 : ¬ n + 1 ≤ lcp (wl w) c 0 := fun q => hc (at_.mp q)
  refine ⟨fun u h0 h1 => ⟨fun h => ?_, fun h => (J.1 u h0 h1).2 (by omega)⟩, fun u h0 h1 e => ?_, J.2.2⟩
  · by_cases hq : u = w
    · subst hq
      exact ⟨fun q => absurd q ((J.1 u h0 h1).2 (Nat.le_refl _)), fun q => absurd q hl2⟩
    · exact (J.1 u h0 h1).1 (by omega)
  · by_cases hq : u = w
    · subst hq; omega
    · exact J.2.1 u h0 (by omega) e
theorem inJ_eq {c : Nat → Int} {f b n w2 : Nat} {may left v : Int32} (O : inO c f b n may) (J : inJ c f b n v.toInt.toNat left) (h2 : w2 = v.toInt.toNat + 1) (v0 : 0 ≤ v.toInt) (v1 : v.toInt < 12) (hb12 : b ≤ 12) (hf : f ≤ v.toInt.toNat) (hb : v.toInt.toNat < b) (hy : bt may v.toInt.toNat) (hs : n ≠ (wl v.toInt.toNat).length) (hc : c n = ((wl v.toInt.toNat).getD n 0).toInt) : inJ c f b n w2 (left ||| (1 <<< (v &&& 31))) := by
  have hl := (O.1 _ hf hb).mp hy
  have le := lcp_le (b := c) (wl v.toInt.toNat) 0
  have at_ := lcp_at (b := c) (wl v.toInt.toNat) 0 n hl (by omega)
  rw [Nat.zero_add] at at_
  have hl2 := at_.mpr hc
  have bo := fun u (hu : u < 24) => bt_or (x := left) (v := v) (u := u) v0 (by omega) hu
  generalize v.toInt.toNat = w at *
  subst h2
  refine ⟨fun u h0 h1 => ⟨fun h => ?_, fun h => ?_⟩, fun u h0 h1 e => ?_, fun _ => ⟨w, hf, hb, hl2⟩⟩
  · rw [bo u (by omega)]
    by_cases hq : u = w
    · subst hq
      exact ⟨fun _ => hl2, fun _ => Or.inr rfl⟩
    · have i := (J.1 u h0 h1).1 (by omega)
      exact ⟨fun q => i.mp (q.resolve_right hq), fun q => Or.inl (i.mpr q)⟩
  · rw [bo u (by omega)]
    intro q
    rcases q with q | q
    · exact (J.1 u h0 h1).2 (by omega) q
    · omega
  · by_cases hq : u = w
    · subst hq; omega
    · exact J.2.1 u h0 (by omega) e
theorem inO_s {c : Nat → Int} {f b n n2 : Nat} {left : Int32} (J : inJ c f b n b left) (h2 : n2 = n + 1) (hl : left.toInt ≠ 0) : inO c f b n2 left := by
  subst h2
  exact ⟨fun u h0 h1 => (J.1 u h0 h1).1 h1, fun u h0 h1 e => J.2.1 u h0 h1 e, J.2.2 hl⟩
theorem inO_0 {c : Nat → Int} {f b : Nat} {may : Int32} (h : ∀ u, f ≤ u → u < b → bt may u) (hf : f < b) : inO c f b 0 may := ⟨fun u h0 h1 => ⟨fun _ => Nat.zero_le _, fun _ => h u h0 h1⟩, fun _ _ _ _ => Nat.zero_le _, ⟨f, Nat.le_refl _, hf, Nat.zero_le _⟩⟩
def WDy (c : Nat → Int) (f u k : Nat) : Prop := lcp (wl u) c 0 = (wl u).length ∧ k = (wl u).length
def WDn (c : Nat → Int) (f b k : Nat) : Prop := (∀ u, f ≤ u → u < b → lcp (wl u) c 0 ≠ (wl u).length ∧ lcp (wl u) c 0 ≤ k) ∧ ∃ u, f ≤ u ∧ u < b ∧ lcp (wl u) c 0 = k
theorem wd_y {c : Nat → Int} {f b n w : Nat} {may : Int32} (O : inO c f b n may) (hf : f ≤ w) (hb : w < b) (hy : bt may w) (hs : n = (wl w).length) : WDy c f w n := by
  have hl := (O.1 w hf hb).mp hy
  have le := lcp_le (b := c) (wl w) 0
  exact ⟨by omega, hs⟩
theorem wd_n {c : Nat → Int} {f b n : Nat} {may : Int32} (O : inO c f b n may) (J : inJ c f b n b 0) : WDn c f b n := by
  have q : ∀ u, f ≤ u → u < b → ¬ n + 1 ≤ lcp (wl u) c 0 := fun u h0 h1 h => bt_0 (((J.1 u h0 h1).1 h1).mpr h)
  refine ⟨fun u h0 h1 => ⟨fun e => ?_, by have := q u h0 h1; omega⟩, ?_⟩
  · have := J.2.1 u h0 h1 e
    exact q u h0 h1 (by omega)
  · obtain ⟨u, h0, h1, h2⟩ := O.2.2
    exact ⟨u, h0, h1, by have := q u h0 h1; omega⟩
theorem lcp_full {c : Nat → Int} : ∀ (w : List Int32) (k : Nat), lcp w c k = w.length → ∀ p, p < w.length → c (k + p) = (w.getD p 0).toInt
  | [], _, _, p, h => absurd h (Nat.not_lt_zero p)
  | d :: w, k, e, p, h => by
    by_cases hc : c k = d.toInt
    · rw [lcp_y hc, List.length_cons] at e
      cases p with
      | zero => exact hc
      | succ p =>
        have := lcp_full (c := c) w (k + 1) (by omega) p (by rw [List.length_cons] at h; omega)
        rw [show k + (p + 1) = k + 1 + p by omega, List.getD_cons_succ]
        exact this
    · rw [lcp_n hc, List.length_cons] at e; omega
theorem wdF_p {c : Nat → Int} : ∀ (ws : List (List Int32)) (i f : Nat) (i0 : Int), i < ws.length → (∀ j, j < i → lcp (ws.getD j []) c 0 ≠ (ws.getD j []).length) → lcp (ws.getD i []) c 0 = (ws.getD i []).length → wdF ws c f i0 = (i0 + i, (ws.getD i []).length)
  | [], i, _, _, h, _, _ => absurd h (Nat.not_lt_zero i)
  | w :: ws, i, f, i0, h, hn, hy => by
    cases i with
    | zero =>
      show ite _ _ _ = _
      rw [if_pos (show lcp w c 0 = w.length from hy)]
      rw [show i0 + ((0 : Nat) : Int) = i0 by omega]; rfl
    | succ i =>
      show ite _ _ _ = _
      rw [if_neg (show ¬ lcp w c 0 = w.length from hn 0 (by omega)), wdF_p ws i _ _ (by rw [List.length_cons] at h; omega) (fun j hj => hn (j + 1) (by omega)) hy]
      rw [show i0 + 1 + (i : Int) = i0 + ((i + 1 : Nat) : Int) by omega]; rfl
theorem wdF_n {c : Nat → Int} : ∀ (ws : List (List Int32)) (f k : Nat) (i0 : Int), (∀ j, j < ws.length → lcp (ws.getD j []) c 0 ≠ (ws.getD j []).length ∧ lcp (ws.getD j []) c 0 ≤ k) → f ≤ k → (f = k ∨ ∃ j, j < ws.length ∧ lcp (ws.getD j []) c 0 = k) → wdF ws c f i0 = (-1, k)
  | [], f, k, _, _, _, he => by
    rcases he with he | ⟨j, hj, _⟩
    · rw [← he]; rfl
    · exact absurd hj (Nat.not_lt_zero j)
  | w :: ws, f, k, i0, h, hf, he => by
    have h0 := h 0 (by rw [List.length_cons]; omega)
    show ite _ _ _ = _
    rw [if_neg (show ¬ lcp w c 0 = w.length from h0.1)]
    have h1 : lcp w c 0 ≤ k := h0.2
    refine wdF_n ws _ k _ (fun j hj => h (j + 1) (by rw [List.length_cons]; omega)) (by omega) ?_
    rcases he with he | ⟨j, hj, e⟩
    · left; omega
    · cases j with
      | zero => left; have e : lcp w c 0 = k := e; omega
      | succ j => right; exact ⟨j, by rw [List.length_cons] at hj; omega, e⟩
theorem wd_of {c : Nat → Int} {ws : List (List Int32)} {f b u k : Nat} (hb : b = f + ws.length) (hw : ∀ j, j < ws.length → wl (f + j) = ws.getD j []) (hd : ∀ i, i < ws.length → ∀ j, j < ws.length → i ≠ j → ∃ p, p < 6 ∧ p < (ws.getD i []).length ∧ p < (ws.getD j []).length ∧ ((ws.getD i []).getD p 0).toInt ≠ ((ws.getD j []).getD p 0).toInt) (h0 : f ≤ u) (h1 : u < b) (W : WDy c f u k) : wdF ws c 0 0 = ((u : Int) - f, k) := by
  have e := hw (u - f) (by omega)
  rw [show f + (u - f) = u by omega] at e
  unfold WDy at W
  rw [e] at W
  rw [wdF_p ws (u - f) 0 0 (by omega) (fun j hj q => ?_) W.1, ← W.2]
  · rw [show (0 : Int) + ((u - f : Nat) : Int) = (u : Int) - f by omega]
  · obtain ⟨p, _, p1, p2, p3⟩ := hd (u - f) (by omega) j (by omega) (by omega)
    have a := lcp_full _ 0 W.1 p p1
    have d := lcp_full _ 0 q p p2
    exact p3 (a.symm.trans d)
theorem wd_on {c : Nat → Int} {ws : List (List Int32)} {f b k : Nat} (hb : b = f + ws.length) (hw : ∀ j, j < ws.length → wl (f + j) = ws.getD j []) (W : WDn c f b k) : wdF ws c 0 0 = (-1, k) := by
  refine wdF_n ws 0 k 0 (fun j hj => ?_) (Nat.zero_le _) ?_
  · rw [← hw j hj]; exact W.1 (f + j) (by omega) (by omega)
  · obtain ⟨u, h0, h1, e⟩ := W.2
    right
    refine ⟨u - f, by omega, ?_⟩
    rw [← hw _ (by omega), show f + (u - f) = u by omega]
    exact e
theorem wK : ∀ j, j < KW.length → wl (0 + j) = KW.getD j [] := by decide
theorem wF : ∀ j, j < FW.length → wl (3 + j) = FW.getD j [] := by decide
theorem dK : ∀ i, i < KW.length → ∀ j, j < KW.length → i ≠ j → ∃ p, p < 6 ∧ p < (KW.getD i []).length ∧ p < (KW.getD j []).length ∧ ((KW.getD i []).getD p 0).toInt ≠ ((KW.getD j []).getD p 0).toInt := by decide
theorem dF : ∀ i, i < FW.length → ∀ j, j < FW.length → i ≠ j → ∃ p, p < 6 ∧ p < (FW.getD i []).length ∧ p < (FW.getD j []).length ∧ ((FW.getD i []).getD p 0).toInt ≠ ((FW.getD j []).getD p 0).toInt := by decide
theorem tbl_fr {F : List (Nat × Nat × Nat)} {h H : im_H} (t : tbl h) (f : fr F h H) (a : ∀ k, inF F 195 k = false) (b : ∀ k, inF F 196 k = false) : tbl H := ⟨fun k => (f _ _ (a k)).trans (t.1 k), fun k => (f _ _ (b k)).trans (t.2 k)⟩
theorem wdU_K {c : Nat → Int} {y : Int32} {p a : Int} (Q : (∃ u k : Nat, 0 ≤ u ∧ u < 3 ∧ y.toInt = (u : Int) - (0 : Nat) ∧ WDy c 0 u k ∧ p = a + (k : Int)) ∨ (y = -1 ∧ ∃ k : Nat, WDn c 0 3 k ∧ p = a + (k : Int))) : y.toInt = (wdF KW c 0 0).1 ∧ p = a + ((wdF KW c 0 0).2 : Int) := by
  rcases Q with ⟨u, k, h0, h1, hy, W, hp⟩ | ⟨hy, k, W, hp⟩
  · rw [wd_of (ws := KW) rfl wK dK h0 h1 W]; exact ⟨hy, hp⟩
  · rw [wd_on (ws := KW) rfl wK W, hy]; exact ⟨rfl, hp⟩
theorem wdU_F {c : Nat → Int} {y : Int32} {p a : Int} (Q : (∃ u k : Nat, 3 ≤ u ∧ u < 11 ∧ y.toInt = (u : Int) - (3 : Nat) ∧ WDy c 3 u k ∧ p = a + (k : Int)) ∨ (y = -1 ∧ ∃ k : Nat, WDn c 3 11 k ∧ p = a + (k : Int))) : y.toInt = (wdF FW c 0 0).1 ∧ p = a + ((wdF FW c 0 0).2 : Int) := by
  rcases Q with ⟨u, k, h0, h1, hy, W, hp⟩ | ⟨hy, k, W, hp⟩
  · rw [wd_of (ws := FW) rfl wF dF h0 h1 W]; exact ⟨hy, hp⟩
  · rw [wd_on (ws := FW) rfl wF W, hy]; exact ⟨rfl, hp⟩
theorem wdU_I {c : Nat → Int} {y : Int32} {p a : Int} (Q : (∃ u k : Nat, 11 ≤ u ∧ u < 12 ∧ y.toInt = (u : Int) - (11 : Nat) ∧ WDy c 11 u k ∧ p = a + (k : Int)) ∨ (y = -1 ∧ ∃ k : Nat, WDn c 11 12 k ∧ p = a + (k : Int))) : ((y.toInt = 0 ∧ lcp IW c 0 = 4) ∨ (y.toInt = -1 ∧ lcp IW c 0 ≠ 4)) ∧ p = a + (lcp IW c 0 : Int) := by
  have e : wl 11 = IW := by decide
  rcases Q with ⟨u, k, h0, h1, hy, W, hp⟩ | ⟨hy, k, W, hp⟩
  · have eu : u = 11 := by omega
    subst eu
    unfold WDy at W
    rw [e] at W
    have w1 : lcp IW c 0 = 4 := W.1
    refine ⟨Or.inl ⟨by omega, w1⟩, ?_⟩
    have w2 : k = 4 := W.2
    rw [hp, w1, w2]
  · obtain ⟨u, u0, u1, ue⟩ := W.2
    have eu : u = 11 := by omega
    subst eu
    have w := (W.1 11 u0 u1).1
    rw [e] at w ue
    refine ⟨Or.inr ⟨by rw [hy]; rfl, w⟩, ?_⟩
    rw [hp, ue]
theorem sgF_nn {x : Int} : 0 ≤ sgF x ↔ x = 60 ∨ x = 62 ∨ x = 61 := by
  unfold sgF
  (repeat' split) <;> omega
def tsM (H : im_H) (k : Nat) (b : Int → Int32) (a : Int) : Prop := ∃ f s v : Int32, rd H 189 k = some (.int f) ∧ f.toInt = (wdF FW (cs b a) 0 0).1 ∧ rd H 190 k = some (.int s) ∧ s.toInt = (b (tsK b a)).toInt ∧ rd H 191 k = some (.int v) ∧ v.toInt = (tsN b a).1
theorem tsM_e {H H2 : im_H} {k : Nat} {b : Int → Int32} {a : Int} (c : tsM H k b a) (e4 : rd H2 189 k = rd H 189 k) (e5 : rd H2 190 k = rd H 190 k) (e6 : rd H2 191 k = rd H 191 k) : tsM H2 k b a := by
  obtain ⟨f, s, v, c1, c2, c3, c4, c5, c6⟩ := c
  exact ⟨f, s, v, e4.trans c1, c2, e5.trans c3, c4, e6.trans c5, c6⟩
def lnM (H : im_H) (l : Nat) (b : Int → Int32) (a : Int) : Prop := ∃ k n c : Int32, rd H 186 l = some (.int k) ∧ k.toInt = (wdF KW (cs b a) 0 0).1 ∧ rd H 187 l = some (.int n) ∧ n.toInt = (lnN b a).1 ∧ rd H 188 l = some (.int c) ∧ c.toInt = (lnR b a).1 ∧ ∀ t : Nat, (t : Int) < (lnR b a).1 → tsM H (3 * l + t) b (ut b (lnE b a + 4) t)
theorem lnM_e {H H2 : im_H} {l : Nat} {b : Int → Int32} {a : Int} (c : lnM H l b a) (e : rd H2 186 l = rd H 186 l ∧ rd H2 187 l = rd H 187 l ∧ rd H2 188 l = rd H 188 l) (et : ∀ m, 3 * l ≤ m → m < 3 * l + 3 → rd H2 189 m = rd H 189 m ∧ rd H2 190 m = rd H 190 m ∧ rd H2 191 m = rd H 191 m) : lnM H2 l b a := by
  obtain ⟨k, n, c0, c1, c2, c3, c4, c5, c6, c7⟩ := c
  have h3 := lnR_3 (b := b) (a := a)
  refine ⟨k, n, c0, e.1.trans c1, c2, e.2.1.trans c3, c4, e.2.2.trans c5, c6, fun t ht => ?_⟩
  have q := et (3 * l + t) (by omega) (by omega)
  exact tsM_e (c7 t ht) q.1 q.2.1 q.2.2
def inW (b : Int → Int32) (N n pl : Int) (good : Int32) : Prop := (good.toInt = 0 ∧ orR b N 8 0 0 = (-1, pl)) ∨ (good.toInt = 1 ∧ pl = lnS b n.toNat ∧ pl ≤ N ∧ ((1 ≤ n ∧ pl = N ∧ orR b N 8 0 0 = (n, N)) ∨ (¬ (1 ≤ n ∧ pl = N) ∧ orR b N 8 0 0 = orR b N (8 - n.toNat) n pl)))
theorem inW_s {b : Int → Int32} {N n n2 pl pl2 : Int} {g g2 : Int32} (w : inW b N n pl g) (hg : g.toInt ≠ 0) (h0 : 0 ≤ n) (h8 : n < 8) (hc : n = 0 ∨ pl < N) (h2 : n2 = n + 1) (hq : (g2 = 1 ∧ 0 ≤ (lnR b pl).1) ∨ (g2 = 0 ∧ (lnR b pl).1 < 0)) (hp : pl2 = (lnR b pl).2) (hl : g2 = 1 → pl2 ≤ N) : inW b N n2 pl2 g2 := by
  unfold inW at w ⊢
  generalize orR b N 8 0 0 = X at w ⊢
  rcases w with ⟨a, _⟩ | ⟨_, e1, e2, e3⟩
  · exact absurd a hg
  · have e : X = orR b N (8 - n.toNat) n pl := by
      rcases e3 with ⟨a1, a2, _⟩ | ⟨_, a2⟩
      · omega
      · exact a2
    rw [show 8 - n.toNat = (7 - n.toNat) + 1 by omega] at e
    rcases hq with ⟨q1, q2⟩ | ⟨q1, q2⟩
    · right
      refine ⟨by rw [q1]; rfl, ?_, hl q1, ?_⟩
      · rw [h2, show (n + 1).toNat = n.toNat + 1 by omega, hp, e1]; rfl
      · by_cases hN : pl2 = N
        · left
          rw [orR_e (by omega) (by omega)] at e
          exact ⟨by omega, hN, by rw [e, h2]⟩
        · right
          rw [orR_s (by omega) (by omega)] at e
          exact ⟨fun q => hN q.2, by rw [e, h2, hp, show 8 - (n + 1).toNat = 7 - n.toNat by omega]⟩
    · left
      rw [orR_f q2] at e
      exact ⟨by rw [q1]; rfl, by rw [e, hp]⟩
theorem inW_e {b : Int → Int32} {N n pl : Int} {g : Int32} (w : inW b N n pl g) (h0 : 0 ≤ n) (h8 : n ≤ 8) (hx : g.toInt = 0 ∨ 8 ≤ n ∨ (n ≠ 0 ∧ N ≤ pl)) : (g.toInt = 1 ∧ pl = N → 1 ≤ n ∧ orR b N 8 0 0 = (n, N)) ∧ (¬ (g.toInt = 1 ∧ pl = N) → orR b N 8 0 0 = (-1, pl)) := by
  rcases w with ⟨a, e⟩ | ⟨a, e1, e2, e3⟩
  · exact ⟨fun q => absurd q.1 (by omega), fun _ => e⟩
  · rcases e3 with ⟨a1, a2, a3⟩ | ⟨a1, a2⟩
    · exact ⟨fun _ => ⟨a1, a3⟩, fun q => absurd ⟨a, a2⟩ q⟩
    · refine ⟨fun q => absurd (show 1 ≤ n ∧ pl = N from ⟨by omega, q.2⟩) a1, fun _ => ?_⟩
      rw [a2, show 8 - n.toNat = 0 by omega]
      rfl
theorem BM_e {h H : im_H} (a : rd H 148 45 = rd h 148 45) (b : ∀ k, rd H 184 k = rd h 184 k) : BM H = BM h := by
  unfold BM
  rw [show rv H 184 = rv h 184 from funext fun k => by unfold rv; rw [b k], show rv H 148 45 = rv h 148 45 by unfold rv; rw [a]]
theorem plM_e {H H2 : im_H} (e : rd H2 148 60 = rd H 148 60) : plM H2 = plM H := by
  unfold plM rv
  rw [e]
set_option maxRecDepth 20000 in
set_option maxHeartbeats 4000000 in
theorem c_X10_byteAt {i : Int32} {h : im_H} (hI : tI h) (p_i0 : 0 ≤ i.toInt) : CaP 1 59 [.ref 81, .int i] h (pI h (fun y => y = BX h i.toInt ∧ ∃ t : Int32, rd h 65 1 = some (.int t) ∧ 0 ≤ t.toInt ∧ t.toInt ≤ 160 ∧ (i.toInt < t.toInt ∨ y = -1))) := by
  refine cap_of (d := 0) (M := mX10_byteAt) rfl (Nat.le_of_ble_eq_true rfl) ?_
  show EvP im_K0 0 mX10_byteAt (0, [(0, .ref 81), (1, .int i)], [], h) _
  refine te_iload_n (p2 := 1) rfl rfl rfl ?_
  refine te_aload_n (p2 := 2) rfl rfl rfl ?_
  refine tg_i (p2 := 5) (i := 65) rfl rfl hI rfl rfl rfl (fun y1 a1 b1 e1 => ?_)
  refine tb_ge (p2 := 8) rfl rfl rfl rfl (fun c2 => ?_) (fun c2 => ?_)
  · refine te_iconst (p2 := 18) (x := (-1)) rfl rfl (by decide) ?_
    exact te_iret rfl rfl ⟨rfl, _, rfl, BX_n e1 (by omega), y1, e1, by omega, by omega, Or.inr rfl⟩
  · refine te_aload_n (p2 := 9) rfl rfl rfl ?_
    refine tg_r (p2 := 12) (i := 65) (r := 82) rfl rfl hI rfl rfl rfl ?_
    refine te_iload_n (p2 := 13) rfl rfl rfl ?_
    refine tl_i (p2 := 14) (i := 66) (n := 160) rfl rfl hI rfl rfl rfl rfl (by omega) (by omega) (fun y3 a3 b3 g3 e3 => ?_)
    refine te_goto rfl ?_
    exact te_iret rfl rfl ⟨rfl, _, rfl, BX_y e1 rfl (by omega) e3, y1, e1, by omega, by omega, Or.inl (by omega)⟩
set_option maxRecDepth 20000 in
set_option maxHeartbeats 4000000 in
theorem c_X10_readSign {sign : Int32} {h : im_H} (hI : tI h) (p_sign0 : 0 ≤ sign.toInt) (p_sign1 : sign.toInt ≤ 127) : CaP 2 56 [.ref 81, .int sign] h (fun v h2 => tI h2 ∧ fr F_X10_readSign h h2 ∧ ∃ y : Int32, v = some (.int y) ∧ ((y = 1 ∧ (BX h (plX h)).toInt = sign.toInt ∧ plX h2 = plX h + 1) ∨ (y = 0 ∧ (BX h (plX h)).toInt ≠ sign.toInt ∧ plX h2 = plX h))) := by
  refine cap_of (d := 1) (M := mX10_readSign) rfl (Nat.le_of_ble_eq_true rfl) ?_
  show EvP im_K0 1 mX10_readSign (0, [(0, .ref 81), (1, .int sign)], [], h) _
  have f0 : fr F_X10_readSign h h := fr_rf
  refine te_aload_n (p2 := 1) rfl rfl rfl ?_
  refine te_aload_n (p2 := 2) rfl rfl rfl ?_
  refine tg_i (p2 := 5) (i := 65) rfl rfl hI rfl rfl rfl (fun y1 a1 b1 e1 => ?_)
  refine cV_pI (p2 := 8) (i := 65) rfl rfl rfl rfl hI rfl rfl rfl (c_X10_byteAt (i := y1) hI (by omega)) (by decide) (fun y2 r2 => ?_)
  obtain ⟨rb2, tp2, et2, ta2, tb2, r2⟩ := r2
  rcases r2 with r2 | r2
  · refine te_iload_n (p2 := 9) rfl rfl rfl ?_
    refine tb_eq (p2 := 12) rfl rfl rfl rfl (fun c3 => ?_) (fun c3 => ?_)
    · refine te_aload_n (p2 := 15) rfl rfl rfl ?_
      refine te_dup (p2 := 16) rfl rfl rfl ?_
      refine tg_e (p2 := 19) (i := 65) (v := .int y1) rfl rfl hI rfl rfl e1 ?_
      refine te_iconst (p2 := 20) (x := 1) rfl rfl (by decide) ?_
      refine ar_add (p2 := 21) rfl rfl rfl (show Int32.toInt 1 = 1 from rfl) (by omega) (by omega) (fun z4 e4 f4 => ?_)
      refine tp_i (p2 := 24) (i := 65) rfl rfl hI rfl rfl (by decide) rfl rfl rfl (by omega) (by omega) (by omega) rfl (fun h5 I5 u5 => ?_)
      have f5 := fr_st (F := F_X10_readSign) 0 f0 u5 rfl (by decide) (by decide)
      refine te_iconst (p2 := 25) (x := 1) rfl rfl (by decide) ?_
      exact te_zret rfl rfl (by decide) ⟨I5, f5, _, rfl, Or.inl ⟨rfl, (by rw [(show (BX h (plX h)).toInt = Int32.toInt y2 from (by rw [(plX_of e1), ← rb2]))]; (have := (show Int32.toInt (-1) = -1 from rfl)); omega), (by rw [plX_of u5.1, (plX_of e1)]; omega)⟩⟩
    · refine te_iconst (p2 := 13) (x := 0) rfl rfl (by decide) ?_
      exact te_zret rfl rfl (by decide) ⟨hI, f0, _, rfl, Or.inr ⟨rfl, (by rw [(show (BX h (plX h)).toInt = Int32.toInt y2 from (by rw [(plX_of e1), ← rb2]))]; (have := (show Int32.toInt (-1) = -1 from rfl)); omega), rfl⟩⟩
  · subst r2
    refine te_iload_n (p2 := 9) rfl rfl rfl ?_
    refine tb_eq (p2 := 12) rfl rfl (show Int32.toInt (-1) = (-1) from rfl) rfl (fun c6 => absurd c6 (by omega)) (fun c6 => ?_)
    refine te_iconst (p2 := 13) (x := 0) rfl rfl (by decide) ?_
    exact te_zret rfl rfl (by decide) ⟨hI, f0, _, rfl, Or.inr ⟨rfl, (by rw [(show (BX h (plX h)).toInt = Int32.toInt (-1 : Int32) from (by rw [(plX_of e1), ← rb2]))]; (have := (show Int32.toInt (-1) = -1 from rfl)); omega), rfl⟩⟩
set_option maxRecDepth 20000 in
set_option maxHeartbeats 4000000 in
theorem c_X10_readNumber  {h : im_H} (hI : tI h)  : CaP 2 57 [.ref 81] h (fun v h2 => tI h2 ∧ fr F_X10_readNumber h h2 ∧ ∃ y : Int32, v = some (.int y) ∧ y.toInt = (nuF (cs (BX h) (plX h))).1 ∧ plX h2 = plX h + ((nuF (cs (BX h) (plX h))).2 : Int)) := by
  refine cap_of (d := 1) (M := mX10_readNumber) rfl (Nat.le_of_ble_eq_true rfl) ?_
  show EvP im_K0 1 mX10_readNumber (0, [(0, .ref 81)], [], h) _
  have f0 : fr F_X10_readNumber h h := fr_rf
  refine te_iconst (p2 := 1) (x := (-1)) rfl rfl (by decide) ?_
  refine te_istore_n (p2 := 2) (lv2 := [(1, .int (-1)), (0, .ref 81)]) rfl rfl (by decide) rfl ?_
  refine te_iconst (p2 := 3) (x := 0) rfl rfl (by decide) ?_
  refine te_istore_n (p2 := 4) (lv2 := [(2, .int 0), (1, .int (-1)), (0, .ref 81)]) rfl rfl (by decide) rfl ?_
  refine te_iload_n (p2 := 5) rfl rfl rfl ?_
  refine te_iconst (p2 := 6) (x := 3) rfl rfl (by decide) ?_
  refine tb_ge (p2 := 9) rfl rfl (show Int32.toInt 0 = 0 from rfl) (show Int32.toInt 3 = 3 from rfl) (fun c1 => absurd c1 (by omega)) (fun c1 => ?_)
  refine te_aload_n (p2 := 10) rfl rfl rfl ?_
  refine te_aload_n (p2 := 11) rfl rfl rfl ?_
  refine tg_i (p2 := 14) (i := 65) rfl rfl hI rfl rfl rfl (fun y2 a2 b2 e2 => ?_)
  refine cV_pI (p2 := 17) (i := 65) rfl rfl rfl rfl hI rfl rfl rfl (c_X10_byteAt (i := y2) hI (by omega)) (by decide) (fun y3 r3 => ?_)
  obtain ⟨rb3, tp3, et3, ta3, tb3, r3⟩ := r3
  rcases r3 with r3 | r3
  · refine te_istore_n (p2 := 18) (lv2 := [(3, .int y3), (2, .int 0), (1, .int (-1)), (0, .ref 81)]) rfl rfl (by decide) rfl ?_
    refine te_iload_n (p2 := 19) rfl rfl rfl ?_
    refine te_bipush (p2 := 21) (x := 48) rfl rfl (by decide) ?_
    refine tb_lt (p2 := 24) rfl rfl rfl (show Int32.toInt 48 = 48 from rfl) (fun c4 => ?_) (fun c4 => ?_)
    · refine te_iload_n (p2 := 31) rfl rfl rfl ?_
      exact te_iret rfl rfl ⟨hI, f0, _, rfl, (by rw [(show nuF (cs (BX h) (plX h)) = (Int32.toInt (-1), 0) from (by (have k0 : cs (BX h) (plX h) 0 = Int32.toInt y3 := cs_at (z := y2.toInt) (by rw [(plX_of e2)]; omega) rb3); (have m1 := (show Int32.toInt (-1) = -1 from rfl)); exact nu0 (fun q => by (have q1 := q.1; have q2 := q.2; omega)) (by omega)))]), (by rw [(show nuF (cs (BX h) (plX h)) = (Int32.toInt (-1), 0) from (by (have k0 : cs (BX h) (plX h) 0 = Int32.toInt y3 := cs_at (z := y2.toInt) (by rw [(plX_of e2)]; omega) rb3); (have m1 := (show Int32.toInt (-1) = -1 from rfl)); exact nu0 (fun q => by (have q1 := q.1; have q2 := q.2; omega)) (by omega)))]; show plX h = plX h + ((0 : Nat) : Int); omega)⟩
    · refine te_iload_n (p2 := 25) rfl rfl rfl ?_
      refine te_bipush (p2 := 27) (x := 57) rfl rfl (by decide) ?_
      refine tb_le (p2 := 30) rfl rfl rfl (show Int32.toInt 57 = 57 from rfl) (fun c5 => ?_) (fun c5 => ?_)
      · refine te_iload_n (p2 := 33) rfl rfl rfl ?_
        refine te_iconst (p2 := 34) (x := 0) rfl rfl (by decide) ?_
        refine ar_max (p2 := 37) rfl rfl rfl (show Int32.toInt (-1) = (-1) from rfl) (show Int32.toInt 0 = 0 from rfl) (fun z6 e6 f6 => ?_)
        refine te_bipush (p2 := 39) (x := 10) rfl rfl (by decide) ?_
        refine ar_mul (p2 := 40) rfl rfl rfl (show Int32.toInt 10 = 10 from rfl) (by omega) (by omega) (fun z7 e7 f7 => ?_)
        refine te_iload_n (p2 := 41) rfl rfl rfl ?_
        refine ar_add (p2 := 42) rfl rfl rfl rfl (by omega) (by omega) (fun z8 e8 f8 => ?_)
        refine te_bipush (p2 := 44) (x := 48) rfl rfl (by decide) ?_
        refine ar_sub (p2 := 45) rfl rfl rfl (show Int32.toInt 48 = 48 from rfl) (by omega) (by omega) (fun z9 e9 f9 => ?_)
        refine te_istore_n (p2 := 46) (lv2 := [(1, .int z9), (3, .int y3), (2, .int 0), (0, .ref 81)]) rfl rfl (by decide) rfl ?_
        refine te_aload_n (p2 := 47) rfl rfl rfl ?_
        refine te_dup (p2 := 48) rfl rfl rfl ?_
        refine tg_e (p2 := 51) (i := 65) (v := .int y2) rfl rfl hI rfl rfl e2 ?_
        refine te_iconst (p2 := 52) (x := 1) rfl rfl (by decide) ?_
        refine ar_add (p2 := 53) rfl rfl rfl (show Int32.toInt 1 = 1 from rfl) (by omega) (by omega) (fun z10 e10 f10 => ?_)
        refine tp_i (p2 := 56) (i := 65) rfl rfl hI rfl rfl (by decide) rfl rfl rfl (by omega) (by omega) (by omega) rfl (fun h11 I11 u11 => ?_)
        have f11 := fr_st (F := F_X10_readNumber) 0 f0 u11 rfl (by decide) (by decide)
        refine te_iinc (p2 := 59) (x := 0) (y := 1) (lv2 := [(2, .int 1), (1, .int z9), (3, .int y3), (0, .ref 81)]) rfl rfl (by decide) rfl (by decide) rfl ?_
        refine te_goto rfl ?_
        refine te_iload_n (p2 := 5) rfl rfl rfl ?_
        refine te_iconst (p2 := 6) (x := 3) rfl rfl (by decide) ?_
        refine tb_ge (p2 := 9) rfl rfl (show Int32.toInt 1 = 1 from rfl) (show Int32.toInt 3 = 3 from rfl) (fun c13 => absurd c13 (by omega)) (fun c13 => ?_)
        refine te_aload_n (p2 := 10) rfl rfl rfl ?_
        refine te_aload_n (p2 := 11) rfl rfl rfl ?_
        refine tg_e (p2 := 14) (i := 65) (v := .int z10) rfl rfl I11 rfl rfl u11.1 ?_
        refine cV_pI (p2 := 17) (i := 65) rfl rfl rfl rfl I11 rfl rfl rfl (c_X10_byteAt (i := z10) I11 (by omega)) (by decide) (fun y14 r14 => ?_)
        obtain ⟨rb14, tp14, et14, ta14, tb14, r14⟩ := r14
        rw [(BX_fr f11 rfl (fun _ => rfl))] at rb14
        have xt14 : tp14 = tp3 := int_inj et14 ((u11.2 _ _ (Or.inr (by decide))).trans et3)
        rw [xt14] at r14
        rcases r14 with r14 | r14
        · refine te_istore_n (p2 := 18) (lv2 := [(3, .int y14), (2, .int 1), (1, .int z9), (0, .ref 81)]) rfl rfl (by decide) rfl ?_
          refine te_iload_n (p2 := 19) rfl rfl rfl ?_
          refine te_bipush (p2 := 21) (x := 48) rfl rfl (by decide) ?_
          refine tb_lt (p2 := 24) rfl rfl rfl (show Int32.toInt 48 = 48 from rfl) (fun c15 => ?_) (fun c15 => ?_)
          · refine te_iload_n (p2 := 31) rfl rfl rfl ?_
            exact te_iret rfl rfl ⟨I11, f11, _, rfl, (by rw [(show nuF (cs (BX h) (plX h)) = (Int32.toInt z9, 1) from (by (have k0 : cs (BX h) (plX h) 0 = Int32.toInt y3 := cs_at (z := y2.toInt) (by rw [(plX_of e2)]; omega) rb3); (have k1 : cs (BX h) (plX h) 1 = Int32.toInt y14 := cs_at (z := z10.toInt) (by rw [(plX_of e2)]; omega) rb14); (have m1 := (show Int32.toInt (-1) = -1 from rfl)); exact nu1 ⟨by omega, by omega⟩ (fun q => by (have q1 := q.1; have q2 := q.2; omega)) (by omega)))]), (by rw [(show nuF (cs (BX h) (plX h)) = (Int32.toInt z9, 1) from (by (have k0 : cs (BX h) (plX h) 0 = Int32.toInt y3 := cs_at (z := y2.toInt) (by rw [(plX_of e2)]; omega) rb3); (have k1 : cs (BX h) (plX h) 1 = Int32.toInt y14 := cs_at (z := z10.toInt) (by rw [(plX_of e2)]; omega) rb14); (have m1 := (show Int32.toInt (-1) = -1 from rfl)); exact nu1 ⟨by omega, by omega⟩ (fun q => by (have q1 := q.1; have q2 := q.2; omega)) (by omega))), plX_of u11.1, (plX_of e2)]; show _ = _ + ((1 : Nat) : Int); omega)⟩
          · refine te_iload_n (p2 := 25) rfl rfl rfl ?_
            refine te_bipush (p2 := 27) (x := 57) rfl rfl (by decide) ?_
            refine tb_le (p2 := 30) rfl rfl rfl (show Int32.toInt 57 = 57 from rfl) (fun c16 => ?_) (fun c16 => ?_)
            · refine te_iload_n (p2 := 33) rfl rfl rfl ?_
              refine te_iconst (p2 := 34) (x := 0) rfl rfl (by decide) ?_
              refine ar_max (p2 := 37) rfl rfl rfl rfl (show Int32.toInt 0 = 0 from rfl) (fun z17 e17 f17 => ?_)
              refine te_bipush (p2 := 39) (x := 10) rfl rfl (by decide) ?_
              refine ar_mul (p2 := 40) rfl rfl rfl (show Int32.toInt 10 = 10 from rfl) (by omega) (by omega) (fun z18 e18 f18 => ?_)
              refine te_iload_n (p2 := 41) rfl rfl rfl ?_
              refine ar_add (p2 := 42) rfl rfl rfl rfl (by omega) (by omega) (fun z19 e19 f19 => ?_)
              refine te_bipush (p2 := 44) (x := 48) rfl rfl (by decide) ?_
              refine ar_sub (p2 := 45) rfl rfl rfl (show Int32.toInt 48 = 48 from rfl) (by omega) (by omega) (fun z20 e20 f20 => ?_)
              refine te_istore_n (p2 := 46) (lv2 := [(1, .int z20), (3, .int y14), (2, .int 1), (0, .ref 81)]) rfl rfl (by decide) rfl ?_
              refine te_aload_n (p2 := 47) rfl rfl rfl ?_
              refine te_dup (p2 := 48) rfl rfl rfl ?_
              refine tg_e (p2 := 51) (i := 65) (v := .int z10) rfl rfl I11 rfl rfl u11.1 ?_
              refine te_iconst (p2 := 52) (x := 1) rfl rfl (by decide) ?_
              refine ar_add (p2 := 53) rfl rfl rfl (show Int32.toInt 1 = 1 from rfl) (by omega) (by omega) (fun z21 e21 f21 => ?_)
              refine tp_i (p2 := 56) (i := 65) rfl rfl I11 rfl rfl (by decide) rfl rfl rfl (by omega) (by omega) (by omega) rfl (fun h22 I22 u22 => ?_)
              have f22 := fr_st (F := F_X10_readNumber) 0 f11 u22 rfl (by decide) (by decide)
              refine te_iinc (p2 := 59) (x := 1) (y := 2) (lv2 := [(2, .int 2), (1, .int z20), (3, .int y14), (0, .ref 81)]) rfl rfl (by decide) rfl (by decide) rfl ?_
              refine te_goto rfl ?_
              refine te_iload_n (p2 := 5) rfl rfl rfl ?_
              refine te_iconst (p2 := 6) (x := 3) rfl rfl (by decide) ?_
              refine tb_ge (p2 := 9) rfl rfl (show Int32.toInt 2 = 2 from rfl) (show Int32.toInt 3 = 3 from rfl) (fun c24 => absurd c24 (by omega)) (fun c24 => ?_)
              refine te_aload_n (p2 := 10) rfl rfl rfl ?_
              refine te_aload_n (p2 := 11) rfl rfl rfl ?_
              refine tg_e (p2 := 14) (i := 65) (v := .int z21) rfl rfl I22 rfl rfl u22.1 ?_
              refine cV_pI (p2 := 17) (i := 65) rfl rfl rfl rfl I22 rfl rfl rfl (c_X10_byteAt (i := z21) I22 (by omega)) (by decide) (fun y25 r25 => ?_)
              obtain ⟨rb25, tp25, et25, ta25, tb25, r25⟩ := r25
              rw [(BX_fr f22 rfl (fun _ => rfl))] at rb25
              have xt25 : tp25 = tp3 := int_inj et25 ((u22.2 _ _ (Or.inr (by decide))).trans ((u11.2 _ _ (Or.inr (by decide))).trans et3))
              rw [xt25] at r25
              rcases r25 with r25 | r25
              · refine te_istore_n (p2 := 18) (lv2 := [(3, .int y25), (2, .int 2), (1, .int z20), (0, .ref 81)]) rfl rfl (by decide) rfl ?_
                refine te_iload_n (p2 := 19) rfl rfl rfl ?_
                refine te_bipush (p2 := 21) (x := 48) rfl rfl (by decide) ?_
                refine tb_lt (p2 := 24) rfl rfl rfl (show Int32.toInt 48 = 48 from rfl) (fun c26 => ?_) (fun c26 => ?_)
                · refine te_iload_n (p2 := 31) rfl rfl rfl ?_
                  exact te_iret rfl rfl ⟨I22, f22, _, rfl, (by rw [(show nuF (cs (BX h) (plX h)) = (Int32.toInt z20, 2) from (by (have k0 : cs (BX h) (plX h) 0 = Int32.toInt y3 := cs_at (z := y2.toInt) (by rw [(plX_of e2)]; omega) rb3); (have k1 : cs (BX h) (plX h) 1 = Int32.toInt y14 := cs_at (z := z10.toInt) (by rw [(plX_of e2)]; omega) rb14); (have k2 : cs (BX h) (plX h) 2 = Int32.toInt y25 := cs_at (z := z21.toInt) (by rw [(plX_of e2)]; omega) rb25); (have m1 := (show Int32.toInt (-1) = -1 from rfl)); exact nu2 ⟨by omega, by omega⟩ ⟨by omega, by omega⟩ (fun q => by (have q1 := q.1; have q2 := q.2; omega)) (by omega)))]), (by rw [(show nuF (cs (BX h) (plX h)) = (Int32.toInt z20, 2) from (by (have k0 : cs (BX h) (plX h) 0 = Int32.toInt y3 := cs_at (z := y2.toInt) (by rw [(plX_of e2)]; omega) rb3); (have k1 : cs (BX h) (plX h) 1 = Int32.toInt y14 := cs_at (z := z10.toInt) (by rw [(plX_of e2)]; omega) rb14); (have k2 : cs (BX h) (plX h) 2 = Int32.toInt y25 := cs_at (z := z21.toInt) (by rw [(plX_of e2)]; omega) rb25); (have m1 := (show Int32.toInt (-1) = -1 from rfl)); exact nu2 ⟨by omega, by omega⟩ ⟨by omega, by omega⟩ (fun q => by (have q1 := q.1; have q2 := q.2; omega)) (by omega))), plX_of u22.1, (plX_of e2)]; show _ = _ + ((2 : Nat) : Int); omega)⟩
                · refine te_iload_n (p2 := 25) rfl rfl rfl ?_
                  refine te_bipush (p2 := 27) (x := 57) rfl rfl (by decide) ?_
                  refine tb_le (p2 := 30) rfl rfl rfl (show Int32.toInt 57 = 57 from rfl) (fun c27 => ?_) (fun c27 => ?_)
                  · refine te_iload_n (p2 := 33) rfl rfl rfl ?_
                    refine te_iconst (p2 := 34) (x := 0) rfl rfl (by decide) ?_
                    refine ar_max (p2 := 37) rfl rfl rfl rfl (show Int32.toInt 0 = 0 from rfl) (fun z28 e28 f28 => ?_)
                    refine te_bipush (p2 := 39) (x := 10) rfl rfl (by decide) ?_
                    refine ar_mul (p2 := 40) rfl rfl rfl (show Int32.toInt 10 = 10 from rfl) (by omega) (by omega) (fun z29 e29 f29 => ?_)
                    refine te_iload_n (p2 := 41) rfl rfl rfl ?_
                    refine ar_add (p2 := 42) rfl rfl rfl rfl (by omega) (by omega) (fun z30 e30 f30 => ?_)
                    refine te_bipush (p2 := 44) (x := 48) rfl rfl (by decide) ?_
                    refine ar_sub (p2 := 45) rfl rfl rfl (show Int32.toInt 48 = 48 from rfl) (by omega) (by omega) (fun z31 e31 f31 => ?_)
                    refine te_istore_n (p2 := 46) (lv2 := [(1, .int z31), (3, .int y25), (2, .int 2), (0, .ref 81)]) rfl rfl (by decide) rfl ?_
                    refine te_aload_n (p2 := 47) rfl rfl rfl ?_
                    refine te_dup (p2 := 48) rfl rfl rfl ?_
                    refine tg_e (p2 := 51) (i := 65) (v := .int z21) rfl rfl I22 rfl rfl u22.1 ?_
                    refine te_iconst (p2 := 52) (x := 1) rfl rfl (by decide) ?_
                    refine ar_add (p2 := 53) rfl rfl rfl (show Int32.toInt 1 = 1 from rfl) (by omega) (by omega) (fun z32 e32 f32 => ?_)
                    refine tp_i (p2 := 56) (i := 65) rfl rfl I22 rfl rfl (by decide) rfl rfl rfl (by omega) (by omega) (by omega) rfl (fun h33 I33 u33 => ?_)
                    have f33 := fr_st (F := F_X10_readNumber) 0 f22 u33 rfl (by decide) (by decide)
                    refine te_iinc (p2 := 59) (x := 2) (y := 3) (lv2 := [(2, .int 3), (1, .int z31), (3, .int y25), (0, .ref 81)]) rfl rfl (by decide) rfl (by decide) rfl ?_
                    refine te_goto rfl ?_
                    refine te_iload_n (p2 := 5) rfl rfl rfl ?_
                    refine te_iconst (p2 := 6) (x := 3) rfl rfl (by decide) ?_
                    refine tb_ge (p2 := 9) rfl rfl (show Int32.toInt 3 = 3 from rfl) (show Int32.toInt 3 = 3 from rfl) (fun c35 => ?_) (fun c35 => absurd c35 (by omega))
                    refine te_iload_n (p2 := 63) rfl rfl rfl ?_
                    exact te_iret rfl rfl ⟨I33, f33, _, rfl, (by rw [(show nuF (cs (BX h) (plX h)) = (Int32.toInt z31, 3) from (by (have k0 : cs (BX h) (plX h) 0 = Int32.toInt y3 := cs_at (z := y2.toInt) (by rw [(plX_of e2)]; omega) rb3); (have k1 : cs (BX h) (plX h) 1 = Int32.toInt y14 := cs_at (z := z10.toInt) (by rw [(plX_of e2)]; omega) rb14); (have k2 : cs (BX h) (plX h) 2 = Int32.toInt y25 := cs_at (z := z21.toInt) (by rw [(plX_of e2)]; omega) rb25); (have m1 := (show Int32.toInt (-1) = -1 from rfl)); exact nu3 ⟨by omega, by omega⟩ ⟨by omega, by omega⟩ ⟨by omega, by omega⟩ (by omega)))]), (by rw [(show nuF (cs (BX h) (plX h)) = (Int32.toInt z31, 3) from (by (have k0 : cs (BX h) (plX h) 0 = Int32.toInt y3 := cs_at (z := y2.toInt) (by rw [(plX_of e2)]; omega) rb3); (have k1 : cs (BX h) (plX h) 1 = Int32.toInt y14 := cs_at (z := z10.toInt) (by rw [(plX_of e2)]; omega) rb14); (have k2 : cs (BX h) (plX h) 2 = Int32.toInt y25 := cs_at (z := z21.toInt) (by rw [(plX_of e2)]; omega) rb25); (have m1 := (show Int32.toInt (-1) = -1 from rfl)); exact nu3 ⟨by omega, by omega⟩ ⟨by omega, by omega⟩ ⟨by omega, by omega⟩ (by omega))), plX_of u33.1, (plX_of e2)]; show _ = _ + ((3 : Nat) : Int); omega)⟩
                  · refine te_iload_n (p2 := 31) rfl rfl rfl ?_
                    exact te_iret rfl rfl ⟨I22, f22, _, rfl, (by rw [(show nuF (cs (BX h) (plX h)) = (Int32.toInt z20, 2) from (by (have k0 : cs (BX h) (plX h) 0 = Int32.toInt y3 := cs_at (z := y2.toInt) (by rw [(plX_of e2)]; omega) rb3); (have k1 : cs (BX h) (plX h) 1 = Int32.toInt y14 := cs_at (z := z10.toInt) (by rw [(plX_of e2)]; omega) rb14); (have k2 : cs (BX h) (plX h) 2 = Int32.toInt y25 := cs_at (z := z21.toInt) (by rw [(plX_of e2)]; omega) rb25); (have m1 := (show Int32.toInt (-1) = -1 from rfl)); exact nu2 ⟨by omega, by omega⟩ ⟨by omega, by omega⟩ (fun q => by (have q1 := q.1; have q2 := q.2; omega)) (by omega)))]), (by rw [(show nuF (cs (BX h) (plX h)) = (Int32.toInt z20, 2) from (by (have k0 : cs (BX h) (plX h) 0 = Int32.toInt y3 := cs_at (z := y2.toInt) (by rw [(plX_of e2)]; omega) rb3); (have k1 : cs (BX h) (plX h) 1 = Int32.toInt y14 := cs_at (z := z10.toInt) (by rw [(plX_of e2)]; omega) rb14); (have k2 : cs (BX h) (plX h) 2 = Int32.toInt y25 := cs_at (z := z21.toInt) (by rw [(plX_of e2)]; omega) rb25); (have m1 := (show Int32.toInt (-1) = -1 from rfl)); exact nu2 ⟨by omega, by omega⟩ ⟨by omega, by omega⟩ (fun q => by (have q1 := q.1; have q2 := q.2; omega)) (by omega))), plX_of u22.1, (plX_of e2)]; show _ = _ + ((2 : Nat) : Int); omega)⟩
              · subst r25
                refine te_istore_n (p2 := 18) (lv2 := [(3, .int (-1)), (2, .int 2), (1, .int z20), (0, .ref 81)]) rfl rfl (by decide) rfl ?_
                refine te_iload_n (p2 := 19) rfl rfl rfl ?_
                refine te_bipush (p2 := 21) (x := 48) rfl rfl (by decide) ?_
                refine tb_lt (p2 := 24) rfl rfl (show Int32.toInt (-1) = (-1) from rfl) (show Int32.toInt 48 = 48 from rfl) (fun c36 => ?_) (fun c36 => absurd c36 (by omega))
                refine te_iload_n (p2 := 31) rfl rfl rfl ?_
                exact te_iret rfl rfl ⟨I22, f22, _, rfl, (by rw [(show nuF (cs (BX h) (plX h)) = (Int32.toInt z20, 2) from (by (have k0 : cs (BX h) (plX h) 0 = Int32.toInt y3 := cs_at (z := y2.toInt) (by rw [(plX_of e2)]; omega) rb3); (have k1 : cs (BX h) (plX h) 1 = Int32.toInt y14 := cs_at (z := z10.toInt) (by rw [(plX_of e2)]; omega) rb14); (have k2 : cs (BX h) (plX h) 2 = Int32.toInt (-1 : Int32) := cs_at (z := z21.toInt) (by rw [(plX_of e2)]; omega) rb25); (have m1 := (show Int32.toInt (-1) = -1 from rfl)); exact nu2 ⟨by omega, by omega⟩ ⟨by omega, by omega⟩ (fun q => by (have q1 := q.1; have q2 := q.2; omega)) (by omega)))]), (by rw [(show nuF (cs (BX h) (plX h)) = (Int32.toInt z20, 2) from (by (have k0 : cs (BX h) (plX h) 0 = Int32.toInt y3 := cs_at (z := y2.toInt) (by rw [(plX_of e2)]; omega) rb3); (have k1 : cs (BX h) (plX h) 1 = Int32.toInt y14 := cs_at (z := z10.toInt) (by rw [(plX_of e2)]; omega) rb14); (have k2 : cs (BX h) (plX h) 2 = Int32.toInt (-1 : Int32) := cs_at (z := z21.toInt) (by rw [(plX_of e2)]; omega) rb25); (have m1 := (show Int32.toInt (-1) = -1 from rfl)); exact nu2 ⟨by omega, by omega⟩ ⟨by omega, by omega⟩ (fun q => by (have q1 := q.1; have q2 := q.2; omega)) (by omega))), plX_of u22.1, (plX_of e2)]; show _ = _ + ((2 : Nat) : Int); omega)⟩
            · refine te_iload_n (p2 := 31) rfl rfl rfl ?_
              exact te_iret rfl rfl ⟨I11, f11, _, rfl, (by rw [(show nuF (cs (BX h) (plX h)) = (Int32.toInt z9, 1) from (by (have k0 : cs (BX h) (plX h) 0 = Int32.toInt y3 := cs_at (z := y2.toInt) (by rw [(plX_of e2)]; omega) rb3); (have k1 : cs (BX h) (plX h) 1 = Int32.toInt y14 := cs_at (z := z10.toInt) (by rw [(plX_of e2)]; omega) rb14); (have m1 := (show Int32.toInt (-1) = -1 from rfl)); exact nu1 ⟨by omega, by omega⟩ (fun q => by (have q1 := q.1; have q2 := q.2; omega)) (by omega)))]), (by rw [(show nuF (cs (BX h) (plX h)) = (Int32.toInt z9, 1) from (by (have k0 : cs (BX h) (plX h) 0 = Int32.toInt y3 := cs_at (z := y2.toInt) (by rw [(plX_of e2)]; omega) rb3); (have k1 : cs (BX h) (plX h) 1 = Int32.toInt y14 := cs_at (z := z10.toInt) (by rw [(plX_of e2)]; omega) rb14); (have m1 := (show Int32.toInt (-1) = -1 from rfl)); exact nu1 ⟨by omega, by omega⟩ (fun q => by (have q1 := q.1; have q2 := q.2; omega)) (by omega))), plX_of u11.1, (plX_of e2)]; show _ = _ + ((1 : Nat) : Int); omega)⟩
        · subst r14
          refine te_istore_n (p2 := 18) (lv2 := [(3, .int (-1)), (2, .int 1), (1, .int z9), (0, .ref 81)]) rfl rfl (by decide) rfl ?_
          refine te_iload_n (p2 := 19) rfl rfl rfl ?_
          refine te_bipush (p2 := 21) (x := 48) rfl rfl (by decide) ?_
          refine tb_lt (p2 := 24) rfl rfl (show Int32.toInt (-1) = (-1) from rfl) (show Int32.toInt 48 = 48 from rfl) (fun c37 => ?_) (fun c37 => absurd c37 (by omega))
          refine te_iload_n (p2 := 31) rfl rfl rfl ?_
          exact te_iret rfl rfl ⟨I11, f11, _, rfl, (by rw [(show nuF (cs (BX h) (plX h)) = (Int32.toInt z9, 1) from (by (have k0 : cs (BX h) (plX h) 0 = Int32.toInt y3 := cs_at (z := y2.toInt) (by rw [(plX_of e2)]; omega) rb3); (have k1 : cs (BX h) (plX h) 1 = Int32.toInt (-1 : Int32) := cs_at (z := z10.toInt) (by rw [(plX_of e2)]; omega) rb14); (have m1 := (show Int32.toInt (-1) = -1 from rfl)); exact nu1 ⟨by omega, by omega⟩ (fun q => by (have q1 := q.1; have q2 := q.2; omega)) (by omega)))]), (by rw [(show nuF (cs (BX h) (plX h)) = (Int32.toInt z9, 1) from (by (have k0 : cs (BX h) (plX h) 0 = Int32.toInt y3 := cs_at (z := y2.toInt) (by rw [(plX_of e2)]; omega) rb3); (have k1 : cs (BX h) (plX h) 1 = Int32.toInt (-1 : Int32) := cs_at (z := z10.toInt) (by rw [(plX_of e2)]; omega) rb14); (have m1 := (show Int32.toInt (-1) = -1 from rfl)); exact nu1 ⟨by omega, by omega⟩ (fun q => by (have q1 := q.1; have q2 := q.2; omega)) (by omega))), plX_of u11.1, (plX_of e2)]; show _ = _ + ((1 : Nat) : Int); omega)⟩
      · refine te_iload_n (p2 := 31) rfl rfl rfl ?_
        exact te_iret rfl rfl ⟨hI, f0, _, rfl, (by rw [(show nuF (cs (BX h) (plX h)) = (Int32.toInt (-1), 0) from (by (have k0 : cs (BX h) (plX h) 0 = Int32.toInt y3 := cs_at (z := y2.toInt) (by rw [(plX_of e2)]; omega) rb3); (have m1 := (show Int32.toInt (-1) = -1 from rfl)); exact nu0 (fun q => by (have q1 := q.1; have q2 := q.2; omega)) (by omega)))]), (by rw [(show nuF (cs (BX h) (plX h)) = (Int32.toInt (-1), 0) from (by (have k0 : cs (BX h) (plX h) 0 = Int32.toInt y3 := cs_at (z := y2.toInt) (by rw [(plX_of e2)]; omega) rb3); (have m1 := (show Int32.toInt (-1) = -1 from rfl)); exact nu0 (fun q => by (have q1 := q.1; have q2 := q.2; omega)) (by omega)))]; show plX h = plX h + ((0 : Nat) : Int); omega)⟩
  · subst r3
    refine te_istore_n (p2 := 18) (lv2 := [(3, .int (-1)), (2, .int 0), (1, .int (-1)), (0, .ref 81)]) rfl rfl (by decide) rfl ?_
    refine te_iload_n (p2 := 19) rfl rfl rfl ?_
    refine te_bipush (p2 := 21) (x := 48) rfl rfl (by decide) ?_
    refine tb_lt (p2 := 24) rfl rfl (show Int32.toInt (-1) = (-1) from rfl) (show Int32.toInt 48 = 48 from rfl) (fun c38 => ?_) (fun c38 => absurd c38 (by omega))
    refine te_iload_n (p2 := 31) rfl rfl rfl ?_
    exact te_iret rfl rfl ⟨hI, f0, _, rfl, (by rw [(show nuF (cs (BX h) (plX h)) = (Int32.toInt (-1), 0) from (by (have k0 : cs (BX h) (plX h) 0 = Int32.toInt (-1 : Int32) := cs_at (z := y2.toInt) (by rw [(plX_of e2)]; omega) rb3); (have m1 := (show Int32.toInt (-1) = -1 from rfl)); exact nu0 (fun q => by (have q1 := q.1; have q2 := q.2; omega)) (by omega)))]), (by rw [(show nuF (cs (BX h) (plX h)) = (Int32.toInt (-1), 0) from (by (have k0 : cs (BX h) (plX h) 0 = Int32.toInt (-1 : Int32) := cs_at (z := y2.toInt) (by rw [(plX_of e2)]; omega) rb3); (have m1 := (show Int32.toInt (-1) = -1 from rfl)); exact nu0 (fun q => by (have q1 := q.1; have q2 := q.2; omega)) (by omega)))]; show plX h = plX h + ((0 : Nat) : Int); omega)⟩
set_option maxRecDepth 20000 in
set_option maxHeartbeats 4000000 in
theorem c_X10_readWord_0  {h : im_H} (hI : tI h)  : CaP 2 58 [.ref 81, .ref 6] h (fun v h2 => tI h2 ∧ fr F_X10_readWord_0 h h2 ∧ ∃ y : Int32, v = some (.int y) ∧ y.toInt = (wdF KW (cs (BX h) (plX h)) 0 0).1 ∧ plX h2 = plX h + ((wdF KW (cs (BX h) (plX h)) 0 0).2 : Int)) := by
  refine cap_of (d := 1) (M := mX10_readWord) rfl (Nat.le_of_ble_eq_true rfl) ?_
  show EvP im_K0 1 mX10_readWord (0, [(0, .ref 81), (1, .ref 6)], [], h) _
  have f0 : fr F_X10_readWord_0 h h := fr_rf
  refine te_iconst (p2 := 1) (x := 0) rfl rfl (by decide) ?_
  obtain ⟨v1, e1, y1, w1, a1, b1, _⟩ := hI.2.1 65 2 (.inl (0, 160, 9999999999)) rfl
  subst w1
  refine te_istore_n (p2 := 2) (lv2 := [(2, .int 0), (0, .ref 81), (1, .ref 6)]) rfl rfl (by decide) rfl ?_
  refine te_iconst (p2 := 3) (x := 0) rfl rfl (by decide) ?_
  refine te_istore_n (p2 := 4) (lv2 := [(3, .int 0), (2, .int 0), (0, .ref 81), (1, .ref 6)]) rfl rfl (by decide) rfl ?_
  refine te_iconst (p2 := 5) (x := 0) rfl rfl (by decide) ?_
  refine te_istore (p2 := 7) (lv2 := [(4, .int 0), (3, .int 0), (2, .int 0), (0, .ref 81), (1, .ref 6)]) rfl rfl (by decide) rfl ?_
  refine te_iconst (p2 := 8) (x := 1) rfl rfl (by decide) ?_
  refine te_istore (p2 := 10) (lv2 := [(5, .int 1), (4, .int 0), (3, .int 0), (2, .int 0), (0, .ref 81), (1, .ref 6)]) rfl rfl (by decide) rfl ?_
  refine te_iconst (p2 := 11) (x := 0) rfl rfl (by decide) ?_
  refine te_istore (p2 := 13) (lv2 := [(6, .int 0), (5, .int 1), (4, .int 0), (3, .int 0), (2, .int 0), (0, .ref 81), (1, .ref 6)]) rfl rfl (by decide) rfl ?_
  have lp2 : ∀ (n2 : Nat) (v2_2 v2_3 v2_4 v2_5 v2_6 t2_pl : Int32) (h2 : im_H), tI h2 → fr F_X10_readWord_0 h h2 → 0 ≤ v2_2.toInt → v2_2.toInt ≤ 160 → 0 ≤ v2_3.toInt → v2_3.toInt ≤ 60 → 0 ≤ v2_4.toInt → v2_4.toInt ≤ 160 → 0 ≤ v2_5.toInt → v2_5.toInt ≤ 1 → 0 ≤ v2_6.toInt → v2_6.toInt ≤ 15 → rd h2 65 2 = some (.int t2_pl) → 0 ≤ t2_pl.toInt → t2_pl.toInt ≤ 160 → t2_pl.toInt + v2_4.toInt ≤ 160 → t2_pl.toInt + v2_2.toInt ≤ 160 → v2_3.toInt ≤ v2_6.toInt → t2_pl.toInt = y1.toInt → rdR (cs (BX h) y1.toInt) (tx KW) 0 0 0 true = rdR (cs (BX h) y1.toInt) ((tx KW).drop v2_6.toInt.toNat) v2_2.toInt.toNat v2_3.toInt v2_4.toInt.toNat (decide (v2_5.toInt = 1)) → 15 - v2_6.toInt < (n2 : Int) → EvP im_K0 1 mX10_readWord (13, [(0, .ref 81), (1, .ref 6), (2, .int v2_2), (3, .int v2_3), (4, .int v2_4), (5, .int v2_5), (6, .int v2_6)], [], h2) (fun v h2 => tI h2 ∧ fr F_X10_readWord_0 h h2 ∧ ∃ y : Int32, v = some (.int y) ∧ y.toInt = (wdF KW (cs (BX h) (plX h)) 0 0).1 ∧ plX h2 = plX h + ((wdF KW (cs (BX h) (plX h)) 0 0).2 : Int)) := by
    intro n2
    induction n2 with
    | zero => intro v2_2 v2_3 v2_4 v2_5 v2_6 t2_pl h2 I2 f2 a2_2 b2_2 a2_3 b2_3 a2_4 b2_4 a2_5 b2_5 a2_6 b2_6 v2_pl va2_pl vb2_pl l2_0 l2_1 l2_2 l2_3 w2_0 m2; exfalso; omega
    | succ n2 ih2 =>
      intro v2_2 v2_3 v2_4 v2_5 v2_6 t2_pl h2 I2 f2 a2_2 b2_2 a2_3 b2_3 a2_4 b2_4 a2_5 b2_5 a2_6 b2_6 v2_pl va2_pl vb2_pl l2_0 l2_1 l2_2 l2_3 w2_0 m2
      refine te_iload (p2 := 15) rfl rfl rfl ?_
      refine te_aload_n (p2 := 16) rfl rfl rfl ?_
      refine te_txl (p2 := 19) (l := im_txt.getD 0 []) (x := 15) rfl rfl (by decide) rfl rfl rfl ?_
      refine tb_ge (p2 := 22) rfl rfl rfl (show Int32.toInt 15 = 15 from rfl) (fun c3 => ?_) (fun c3 => ?_)
      · refine te_aload_n (p2 := 118) rfl rfl rfl ?_
        refine te_dup (p2 := 119) rfl rfl rfl ?_
        refine tg_e (p2 := 122) (i := 65) (v := .int t2_pl) rfl rfl I2 rfl rfl v2_pl ?_
        refine te_iload_n (p2 := 123) rfl rfl rfl ?_
        refine ar_add (p2 := 124) rfl rfl rfl rfl (by omega) (by omega) (fun z4 e4 f4 => ?_)
        refine tp_i (p2 := 127) (i := 65) rfl rfl I2 rfl rfl (by decide) rfl rfl rfl (by omega) (by omega) (by omega) rfl (fun h5 I5 u5 => ?_)
        have f5 := fr_st (F := F_X10_readWord_0) 0 f2 u5 rfl (by decide) (by decide)
        refine te_iconst (p2 := 128) (x := (-1)) rfl rfl (by decide) ?_
        exact te_iret rfl rfl ⟨I5, f5, _, rfl, (by rw [(show wdF KW (cs (BX h) (plX h)) 0 0 = (-1, v2_2.toInt.toNat) from (by rw [(plX_of e1), ← rdR_wd KW nb_K 0 0, w2_0, rdR_e (List.drop_eq_nil_of_le (by rw [show (tx KW).length = 15 from rfl]; omega))]))]; try rfl), (by rw [(show wdF KW (cs (BX h) (plX h)) 0 0 = (-1, v2_2.toInt.toNat) from (by rw [(plX_of e1), ← rdR_wd KW nb_K 0 0, w2_0, rdR_e (List.drop_eq_nil_of_le (by rw [show (tx KW).length = 15 from rfl]; omega))])), plX_of u5.1, (plX_of e1)]; show _ = _ + ((v2_2.toInt.toNat : Nat) : Int); omega)⟩
      · refine te_aload_n (p2 := 23) rfl rfl rfl ?_
        refine te_iload (p2 := 25) rfl rfl rfl ?_
        refine te_txc (p2 := 28) (l := im_txt.getD 0 []) (n := 15) (lo := 32) (hi := 121) rfl rfl (by decide) rfl rfl (by decide) rfl (by omega) (by omega) (fun y6 a6 b6 e6 => ?_)
        refine te_istore (p2 := 30) (lv2 := [(7, .int y6), (0, .ref 81), (1, .ref 6), (2, .int v2_2), (3, .int v2_3), (4, .int v2_4), (5, .int v2_5), (6, .int v2_6)]) rfl rfl (by decide) rfl ?_
        refine te_iload (p2 := 32) rfl rfl rfl ?_
        refine te_bipush (p2 := 34) (x := 32) rfl rfl (by decide) ?_
        refine tb_ne (p2 := 37) rfl rfl rfl (show Int32.toInt 32 = 32 from rfl) (fun c7 => ?_) (fun c7 => ?_)
        · refine te_iload (p2 := 57) rfl rfl rfl ?_
          refine te_bipush (p2 := 59) (x := 32) rfl rfl (by decide) ?_
          refine tb_ne (p2 := 62) rfl rfl rfl (show Int32.toInt 32 = 32 from rfl) (fun c8 => ?_) (fun c8 => absurd c8 (by omega))
          refine te_iload (p2 := 76) rfl rfl rfl ?_
          refine tz_eq (p2 := 79) rfl rfl rfl (fun c9 => ?_) (fun c9 => ?_)
          · refine te_iconst (p2 := 109) (x := 0) rfl rfl (by decide) ?_
            refine te_istore (p2 := 111) (lv2 := [(5, .int 0), (7, .int y6), (0, .ref 81), (1, .ref 6), (2, .int v2_2), (3, .int v2_3), (4, .int v2_4), (6, .int v2_6)]) rfl rfl (by decide) rfl ?_
            refine ar_inc (p2 := 114) (x := v2_6) rfl rfl (by decide) rfl (by decide) rfl (by omega) (by omega) (fun z10 e10 f10 => ?_)
            show EvP _ _ _ (114, [(6, .int z10), (5, .int 0), (7, .int y6), (0, .ref 81), (1, .ref 6), (2, .int v2_2), (3, .int v2_3), (4, .int v2_4)], [], h2) _
            refine te_goto rfl ?_
            refine te_lv [(0, .ref 81), (1, .ref 6), (2, .int v2_2), (3, .int v2_3), (4, .int v2_4), (5, .int 0), (6, .int z10)] rfl rfl ⟨rfl, rfl, rfl, rfl, rfl, rfl, rfl, trivial⟩ ?_
            exact ih2 v2_2 v2_3 v2_4 0 z10 t2_pl h2 I2 f2 (by omega) (by omega) (by omega) (by omega) (by omega) (by omega) (by decide) (by decide) (by omega) (by omega) v2_pl (by omega) (by omega) (by have cc0 := (show Int32.toInt 0 = 0 from rfl); omega) (by have cc0 := (show Int32.toInt 0 = 0 from rfl); omega) (by have cc0 := (show Int32.toInt 0 = 0 from rfl); omega) (by have cc0 := (show Int32.toInt 0 = 0 from rfl); omega) (by (have m1 := (show Int32.toInt (-1) = -1 from rfl)); rw [w2_0, (drop_c (l := tx KW) (i := v2_6.toInt.toNat) (y := y6) (by rw [show (tx KW).length = 15 from rfl]; omega) (by rw [← tx_K]; exact e6)), show z10.toInt.toNat = v2_6.toInt.toNat + 1 by omega, rdR_s3 (by omega) (fun q => absurd (of_decide_eq_true q.1) (by omega))]; try rfl) (by have cc0 := (show Int32.toInt 0 = 0 from rfl); omega)
          · refine te_aload_n (p2 := 80) rfl rfl rfl ?_
            refine te_aload_n (p2 := 81) rfl rfl rfl ?_
            refine tg_e (p2 := 84) (i := 65) (v := .int t2_pl) rfl rfl I2 rfl rfl v2_pl ?_
            refine te_iload (p2 := 86) rfl rfl rfl ?_
            refine ar_add (p2 := 87) rfl rfl rfl rfl (by omega) (by omega) (fun z11 e11 f11 => ?_)
            refine cV_pI (p2 := 90) (i := 65) rfl rfl rfl rfl I2 rfl rfl rfl (c_X10_byteAt (i := z11) I2 (by omega)) (by decide) (fun y12 r12 => ?_)
            obtain ⟨rb12, tp12, et12, ta12, tb12, r12⟩ := r12
            rw [(BX_fr f2 rfl (fun _ => rfl))] at rb12
            rcases r12 with r12 | r12
            · refine te_iload (p2 := 92) rfl rfl rfl ?_
              refine tb_ne (p2 := 95) rfl rfl rfl rfl (fun c13 => ?_) (fun c13 => ?_)
              · refine te_iconst (p2 := 109) (x := 0) rfl rfl (by decide) ?_
                refine te_istore (p2 := 111) (lv2 := [(5, .int 0), (7, .int y6), (0, .ref 81), (1, .ref 6), (2, .int v2_2), (3, .int v2_3), (4, .int v2_4), (6, .int v2_6)]) rfl rfl (by decide) rfl ?_
                refine ar_inc (p2 := 114) (x := v2_6) rfl rfl (by decide) rfl (by decide) rfl (by omega) (by omega) (fun z14 e14 f14 => ?_)
                show EvP _ _ _ (114, [(6, .int z14), (5, .int 0), (7, .int y6), (0, .ref 81), (1, .ref 6), (2, .int v2_2), (3, .int v2_3), (4, .int v2_4)], [], h2) _
                refine te_goto rfl ?_
                refine te_lv [(0, .ref 81), (1, .ref 6), (2, .int v2_2), (3, .int v2_3), (4, .int v2_4), (5, .int 0), (6, .int z14)] rfl rfl ⟨rfl, rfl, rfl, rfl, rfl, rfl, rfl, trivial⟩ ?_
                exact ih2 v2_2 v2_3 v2_4 0 z14 t2_pl h2 I2 f2 (by omega) (by omega) (by omega) (by omega) (by omega) (by omega) (by decide) (by decide) (by omega) (by omega) v2_pl (by omega) (by omega) (by have cc0 := (show Int32.toInt 0 = 0 from rfl); omega) (by have cc0 := (show Int32.toInt 0 = 0 from rfl); omega) (by have cc0 := (show Int32.toInt 0 = 0 from rfl); omega) (by have cc0 := (show Int32.toInt 0 = 0 from rfl); omega) (by (have m1 := (show Int32.toInt (-1) = -1 from rfl)); rw [w2_0, (drop_c (l := tx KW) (i := v2_6.toInt.toNat) (y := y6) (by rw [show (tx KW).length = 15 from rfl]; omega) (by rw [← tx_K]; exact e6)), show z14.toInt.toNat = v2_6.toInt.toNat + 1 by omega, rdR_s3 (by omega) (fun q => absurd q.2 (by rw [(show cs (BX h) y1.toInt v2_4.toInt.toNat = Int32.toInt y12 from cs_at (z := z11.toInt) (by omega) rb12)]; omega))]; try rfl) (by have cc0 := (show Int32.toInt 0 = 0 from rfl); omega)
              · refine ar_inc (p2 := 98) (x := v2_4) rfl rfl (by decide) rfl (by decide) rfl (by omega) (by omega) (fun z15 e15 f15 => ?_)
                show EvP _ _ _ (98, [(4, .int z15), (7, .int y6), (0, .ref 81), (1, .ref 6), (2, .int v2_2), (3, .int v2_3), (5, .int v2_5), (6, .int v2_6)], [], h2) _
                refine te_iload_n (p2 := 99) rfl rfl rfl ?_
                refine te_iload (p2 := 101) rfl rfl rfl ?_
                refine ar_max (p2 := 104) rfl rfl rfl rfl rfl (fun z16 e16 f16 => ?_)
                refine te_istore_n (p2 := 105) (lv2 := [(2, .int z16), (4, .int z15), (7, .int y6), (0, .ref 81), (1, .ref 6), (3, .int v2_3), (5, .int v2_5), (6, .int v2_6)]) rfl rfl (by decide) rfl ?_
                refine te_goto rfl ?_
                refine ar_inc (p2 := 114) (x := v2_6) rfl rfl (by decide) rfl (by decide) rfl (by omega) (by omega) (fun z17 e17 f17 => ?_)
                show EvP _ _ _ (114, [(6, .int z17), (2, .int z16), (4, .int z15), (7, .int y6), (0, .ref 81), (1, .ref 6), (3, .int v2_3), (5, .int v2_5)], [], h2) _
                refine te_goto rfl ?_
                refine te_lv [(0, .ref 81), (1, .ref 6), (2, .int z16), (3, .int v2_3), (4, .int z15), (5, .int v2_5), (6, .int z17)] rfl rfl ⟨rfl, rfl, rfl, rfl, rfl, rfl, rfl, trivial⟩ ?_
                exact ih2 z16 v2_3 z15 v2_5 z17 t2_pl h2 I2 f2 (by omega) (by omega) (by omega) (by omega) (by omega) (by omega) (by omega) (by omega) (by omega) (by omega) v2_pl (by omega) (by omega) (by omega) (by omega) (by omega) (by omega) (by (have m1 := (show Int32.toInt (-1) = -1 from rfl)); rw [w2_0, (drop_c (l := tx KW) (i := v2_6.toInt.toNat) (y := y6) (by rw [show (tx KW).length = 15 from rfl]; omega) (by rw [← tx_K]; exact e6)), show z17.toInt.toNat = v2_6.toInt.toNat + 1 by omega, show decide (v2_5.toInt = 1) = true from decide_eq_true (by omega), rdR_s2 (by omega) (by rw [(show cs (BX h) y1.toInt v2_4.toInt.toNat = Int32.toInt y12 from cs_at (z := z11.toInt) (by omega) rb12)]; omega), show z15.toInt.toNat = v2_4.toInt.toNat + 1 by omega, show z16.toInt.toNat = max v2_2.toInt.toNat (v2_4.toInt.toNat + 1) by omega]; try rfl) (by omega)
            · subst r12
              refine te_iload (p2 := 92) rfl rfl rfl ?_
              refine tb_ne (p2 := 95) rfl rfl (show Int32.toInt (-1) = (-1) from rfl) rfl (fun c18 => ?_) (fun c18 => absurd c18 (by omega))
              refine te_iconst (p2 := 109) (x := 0) rfl rfl (by decide) ?_
              refine te_istore (p2 := 111) (lv2 := [(5, .int 0), (7, .int y6), (0, .ref 81), (1, .ref 6), (2, .int v2_2), (3, .int v2_3), (4, .int v2_4), (6, .int v2_6)]) rfl rfl (by decide) rfl ?_
              refine ar_inc (p2 := 114) (x := v2_6) rfl rfl (by decide) rfl (by decide) rfl (by omega) (by omega) (fun z19 e19 f19 => ?_)
              show EvP _ _ _ (114, [(6, .int z19), (5, .int 0), (7, .int y6), (0, .ref 81), (1, .ref 6), (2, .int v2_2), (3, .int v2_3), (4, .int v2_4)], [], h2) _
              refine te_goto rfl ?_
              refine te_lv [(0, .ref 81), (1, .ref 6), (2, .int v2_2), (3, .int v2_3), (4, .int v2_4), (5, .int 0), (6, .int z19)] rfl rfl ⟨rfl, rfl, rfl, rfl, rfl, rfl, rfl, trivial⟩ ?_
              exact ih2 v2_2 v2_3 v2_4 0 z19 t2_pl h2 I2 f2 (by omega) (by omega) (by omega) (by omega) (by omega) (by omega) (by decide) (by decide) (by omega) (by omega) v2_pl (by omega) (by omega) (by have cc0 := (show Int32.toInt 0 = 0 from rfl); omega) (by have cc0 := (show Int32.toInt 0 = 0 from rfl); omega) (by have cc0 := (show Int32.toInt 0 = 0 from rfl); omega) (by have cc0 := (show Int32.toInt 0 = 0 from rfl); omega) (by (have m1 := (show Int32.toInt (-1) = -1 from rfl)); rw [w2_0, (drop_c (l := tx KW) (i := v2_6.toInt.toNat) (y := y6) (by rw [show (tx KW).length = 15 from rfl]; omega) (by rw [← tx_K]; exact e6)), show z19.toInt.toNat = v2_6.toInt.toNat + 1 by omega, rdR_s3 (by omega) (fun q => absurd q.2 (by rw [(show cs (BX h) y1.toInt v2_4.toInt.toNat = Int32.toInt (-1 : Int32) from cs_at (z := z11.toInt) (by omega) rb12)]; omega))]; try rfl) (by have cc0 := (show Int32.toInt 0 = 0 from rfl); omega)
        · refine te_iload (p2 := 39) rfl rfl rfl ?_
          refine tz_eq (p2 := 42) rfl rfl rfl (fun c20 => ?_) (fun c20 => ?_)
          · refine te_iload (p2 := 57) rfl rfl rfl ?_
            refine te_bipush (p2 := 59) (x := 32) rfl rfl (by decide) ?_
            refine tb_ne (p2 := 62) rfl rfl rfl (show Int32.toInt 32 = 32 from rfl) (fun c21 => absurd c21 (by omega)) (fun c21 => ?_)
            refine ar_inc (p2 := 65) (x := v2_3) rfl rfl (by decide) rfl (by decide) rfl (by omega) (by omega) (fun z22 e22 f22 => ?_)
            show EvP _ _ _ (65, [(3, .int z22), (7, .int y6), (0, .ref 81), (1, .ref 6), (2, .int v2_2), (4, .int v2_4), (5, .int v2_5), (6, .int v2_6)], [], h2) _
            refine te_iconst (p2 := 66) (x := 0) rfl rfl (by decide) ?_
            refine te_istore (p2 := 68) (lv2 := [(4, .int 0), (3, .int z22), (7, .int y6), (0, .ref 81), (1, .ref 6), (2, .int v2_2), (5, .int v2_5), (6, .int v2_6)]) rfl rfl (by decide) rfl ?_
            refine te_iconst (p2 := 69) (x := 1) rfl rfl (by decide) ?_
            refine te_istore (p2 := 71) (lv2 := [(5, .int 1), (4, .int 0), (3, .int z22), (7, .int y6), (0, .ref 81), (1, .ref 6), (2, .int v2_2), (6, .int v2_6)]) rfl rfl (by decide) rfl ?_
            refine te_goto rfl ?_
            refine ar_inc (p2 := 114) (x := v2_6) rfl rfl (by decide) rfl (by decide) rfl (by omega) (by omega) (fun z23 e23 f23 => ?_)
            show EvP _ _ _ (114, [(6, .int z23), (5, .int 1), (4, .int 0), (3, .int z22), (7, .int y6), (0, .ref 81), (1, .ref 6), (2, .int v2_2)], [], h2) _
            refine te_goto rfl ?_
            refine te_lv [(0, .ref 81), (1, .ref 6), (2, .int v2_2), (3, .int z22), (4, .int 0), (5, .int 1), (6, .int z23)] rfl rfl ⟨rfl, rfl, rfl, rfl, rfl, rfl, rfl, trivial⟩ ?_
            exact ih2 v2_2 z22 0 1 z23 t2_pl h2 I2 f2 (by omega) (by omega) (by omega) (by omega) (by decide) (by decide) (by decide) (by decide) (by omega) (by omega) v2_pl (by omega) (by omega) (by have cc0 := (show Int32.toInt 0 = 0 from rfl); have cc1 := (show Int32.toInt 1 = 1 from rfl); omega) (by have cc0 := (show Int32.toInt 0 = 0 from rfl); have cc1 := (show Int32.toInt 1 = 1 from rfl); omega) (by have cc0 := (show Int32.toInt 0 = 0 from rfl); have cc1 := (show Int32.toInt 1 = 1 from rfl); omega) (by have cc0 := (show Int32.toInt 0 = 0 from rfl); have cc1 := (show Int32.toInt 1 = 1 from rfl); omega) (by (have m1 := (show Int32.toInt (-1) = -1 from rfl)); rw [w2_0, (drop_c (l := tx KW) (i := v2_6.toInt.toNat) (y := y6) (by rw [show (tx KW).length = 15 from rfl]; omega) (by rw [← tx_K]; exact e6)), show z23.toInt.toNat = v2_6.toInt.toNat + 1 by omega, show decide (v2_5.toInt = 1) = false from decide_eq_false (by omega), rdR_s1 (by omega), show z22.toInt = v2_3.toInt + 1 by omega]; try rfl) (by have cc0 := (show Int32.toInt 0 = 0 from rfl); have cc1 := (show Int32.toInt 1 = 1 from rfl); omega)
          · refine te_aload_n (p2 := 43) rfl rfl rfl ?_
            refine te_dup (p2 := 44) rfl rfl rfl ?_
            refine tg_e (p2 := 47) (i := 65) (v := .int t2_pl) rfl rfl I2 rfl rfl v2_pl ?_
            refine te_iload (p2 := 49) rfl rfl rfl ?_
            refine ar_add (p2 := 50) rfl rfl rfl rfl (by omega) (by omega) (fun z24 e24 f24 => ?_)
            refine tp_i (p2 := 53) (i := 65) rfl rfl I2 rfl rfl (by decide) rfl rfl rfl (by omega) (by omega) (by omega) rfl (fun h25 I25 u25 => ?_)
            have f25 := fr_st (F := F_X10_readWord_0) 0 f2 u25 rfl (by decide) (by decide)
            refine te_iload_n (p2 := 54) rfl rfl rfl ?_
            exact te_iret rfl rfl ⟨I25, f25, _, rfl, (by rw [(show wdF KW (cs (BX h) (plX h)) 0 0 = (v2_3.toInt, v2_4.toInt.toNat) from (by rw [(plX_of e1), ← rdR_wd KW nb_K 0 0, w2_0, (drop_c (l := tx KW) (i := v2_6.toInt.toNat) (y := y6) (by rw [show (tx KW).length = 15 from rfl]; omega) (by rw [← tx_K]; exact e6)), show decide (v2_5.toInt = 1) = true from decide_eq_true (by omega), rdR_s0 (by omega)]))]; try rfl), (by rw [(show wdF KW (cs (BX h) (plX h)) 0 0 = (v2_3.toInt, v2_4.toInt.toNat) from (by rw [(plX_of e1), ← rdR_wd KW nb_K 0 0, w2_0, (drop_c (l := tx KW) (i := v2_6.toInt.toNat) (y := y6) (by rw [show (tx KW).length = 15 from rfl]; omega) (by rw [← tx_K]; exact e6)), show decide (v2_5.toInt = 1) = true from decide_eq_true (by omega), rdR_s0 (by omega)])), plX_of u25.1, (plX_of e1)]; show _ = _ + ((v2_4.toInt.toNat : Nat) : Int); omega)⟩
  refine te_lv [(0, .ref 81), (1, .ref 6), (2, .int 0), (3, .int 0), (4, .int 0), (5, .int 1), (6, .int 0)] rfl rfl ⟨rfl, rfl, rfl, rfl, rfl, rfl, rfl, trivial⟩ ?_
  exact lp2 16 0 0 0 1 0 y1 h hI f0 (by decide) (by decide) (by decide) (by decide) (by decide) (by decide) (by decide) (by decide) (by decide) (by decide) e1 (by omega) (by omega) (by have cc0 := (show Int32.toInt 0 = 0 from rfl); have cc1 := (show Int32.toInt 1 = 1 from rfl); omega) (by have cc0 := (show Int32.toInt 0 = 0 from rfl); have cc1 := (show Int32.toInt 1 = 1 from rfl); omega) (by have cc0 := (show Int32.toInt 0 = 0 from rfl); have cc1 := (show Int32.toInt 1 = 1 from rfl); omega) (by have cc0 := (show Int32.toInt 0 = 0 from rfl); have cc1 := (show Int32.toInt 1 = 1 from rfl); omega) rfl (by have cc0 := (show Int32.toInt 0 = 0 from rfl); have cc1 := (show Int32.toInt 1 = 1 from rfl); omega)
set_option maxRecDepth 20000 in
set_option maxHeartbeats 4000000 in
theorem c_X10_readWord_2  {h : im_H} (hI : tI h)  : CaP 2 58 [.ref 81, .ref 8] h (fun v h2 => tI h2 ∧ fr F_X10_readWord_2 h h2 ∧ ∃ y : Int32, v = some (.int y) ∧ y.toInt = (wdF FW (cs (BX h) (plX h)) 0 0).1 ∧ plX h2 = plX h + ((wdF FW (cs (BX h) (plX h)) 0 0).2 : Int)) := by
  refine cap_of (d := 1) (M := mX10_readWord) rfl (Nat.le_of_ble_eq_true rfl) ?_
  show EvP im_K0 1 mX10_readWord (0, [(0, .ref 81), (1, .ref 8)], [], h) _
  have f0 : fr F_X10_readWord_2 h h := fr_rf
  refine te_iconst (p2 := 1) (x := 0) rfl rfl (by decide) ?_
  obtain ⟨v1, e1, y1, w1, a1, b1, _⟩ := hI.2.1 65 2 (.inl (0, 160, 9999999999)) rfl
  subst w1
  refine te_istore_n (p2 := 2) (lv2 := [(2, .int 0), (0, .ref 81), (1, .ref 8)]) rfl rfl (by decide) rfl ?_
  refine te_iconst (p2 := 3) (x := 0) rfl rfl (by decide) ?_
  refine te_istore_n (p2 := 4) (lv2 := [(3, .int 0), (2, .int 0), (0, .ref 81), (1, .ref 8)]) rfl rfl (by decide) rfl ?_
  refine te_iconst (p2 := 5) (x := 0) rfl rfl (by decide) ?_
  refine te_istore (p2 := 7) (lv2 := [(4, .int 0), (3, .int 0), (2, .int 0), (0, .ref 81), (1, .ref 8)]) rfl rfl (by decide) rfl ?_
  refine te_iconst (p2 := 8) (x := 1) rfl rfl (by decide) ?_
  refine te_istore (p2 := 10) (lv2 := [(5, .int 1), (4, .int 0), (3, .int 0), (2, .int 0), (0, .ref 81), (1, .ref 8)]) rfl rfl (by decide) rfl ?_
  refine te_iconst (p2 := 11) (x := 0) rfl rfl (by decide) ?_
  refine te_istore (p2 := 13) (lv2 := [(6, .int 0), (5, .int 1), (4, .int 0), (3, .int 0), (2, .int 0), (0, .ref 81), (1, .ref 8)]) rfl rfl (by decide) rfl ?_
  have lp2 : ∀ (n2 : Nat) (v2_2 v2_3 v2_4 v2_5 v2_6 t2_pl : Int32) (h2 : im_H), tI h2 → fr F_X10_readWord_2 h h2 → 0 ≤ v2_2.toInt → v2_2.toInt ≤ 160 → 0 ≤ v2_3.toInt → v2_3.toInt ≤ 60 → 0 ≤ v2_4.toInt → v2_4.toInt ≤ 160 → 0 ≤ v2_5.toInt → v2_5.toInt ≤ 1 → 0 ≤ v2_6.toInt → v2_6.toInt ≤ 40 → rd h2 65 2 = some (.int t2_pl) → 0 ≤ t2_pl.toInt → t2_pl.toInt ≤ 160 → t2_pl.toInt + v2_4.toInt ≤ 160 → t2_pl.toInt + v2_2.toInt ≤ 160 → v2_3.toInt ≤ v2_6.toInt → t2_pl.toInt = y1.toInt → v2_3.toInt ≤ cntB v2_6.toInt.toNat → rdR (cs (BX h) y1.toInt) (tx FW) 0 0 0 true = rdR (cs (BX h) y1.toInt) ((tx FW).drop v2_6.toInt.toNat) v2_2.toInt.toNat v2_3.toInt v2_4.toInt.toNat (decide (v2_5.toInt = 1)) → 40 - v2_6.toInt < (n2 : Int) → EvP im_K0 1 mX10_readWord (13, [(0, .ref 81), (1, .ref 8), (2, .int v2_2), (3, .int v2_3), (4, .int v2_4), (5, .int v2_5), (6, .int v2_6)], [], h2) (fun v h2 => tI h2 ∧ fr F_X10_readWord_2 h h2 ∧ ∃ y : Int32, v = some (.int y) ∧ y.toInt = (wdF FW (cs (BX h) (plX h)) 0 0).1 ∧ plX h2 = plX h + ((wdF FW (cs (BX h) (plX h)) 0 0).2 : Int)) := by
    intro n2
    induction n2 with
    | zero => intro v2_2 v2_3 v2_4 v2_5 v2_6 t2_pl h2 I2 f2 a2_2 b2_2 a2_3 b2_3 a2_4 b2_4 a2_5 b2_5 a2_6 b2_6 v2_pl va2_pl vb2_pl l2_0 l2_1 l2_2 l2_3 w2_0 w2_1 m2; exfalso; omega
    | succ n2 ih2 =>
      intro v2_2 v2_3 v2_4 v2_5 v2_6 t2_pl h2 I2 f2 a2_2 b2_2 a2_3 b2_3 a2_4 b2_4 a2_5 b2_5 a2_6 b2_6 v2_pl va2_pl vb2_pl l2_0 l2_1 l2_2 l2_3 w2_0 w2_1 m2
      refine te_iload (p2 := 15) rfl rfl rfl ?_
      refine te_aload_n (p2 := 16) rfl rfl rfl ?_
      refine te_txl (p2 := 19) (l := im_txt.getD 2 []) (x := 40) rfl rfl (by decide) rfl rfl rfl ?_
      refine tb_ge (p2 := 22) rfl rfl rfl (show Int32.toInt 40 = 40 from rfl) (fun c3 => ?_) (fun c3 => ?_)
      · refine te_aload_n (p2 := 118) rfl rfl rfl ?_
        refine te_dup (p2 := 119) rfl rfl rfl ?_
        refine tg_e (p2 := 122) (i := 65) (v := .int t2_pl) rfl rfl I2 rfl rfl v2_pl ?_
        refine te_iload_n (p2 := 123) rfl rfl rfl ?_
        refine ar_add (p2 := 124) rfl rfl rfl rfl (by omega) (by omega) (fun z4 e4 f4 => ?_)
        refine tp_i (p2 := 127) (i := 65) rfl rfl I2 rfl rfl (by decide) rfl rfl rfl (by omega) (by omega) (by omega) rfl (fun h5 I5 u5 => ?_)
        have f5 := fr_st (F := F_X10_readWord_2) 0 f2 u5 rfl (by decide) (by decide)
        refine te_iconst (p2 := 128) (x := (-1)) rfl rfl (by decide) ?_
        exact te_iret rfl rfl ⟨I5, f5, _, rfl, (by rw [(show wdF FW (cs (BX h) (plX h)) 0 0 = (-1, v2_2.toInt.toNat) from (by rw [(plX_of e1), ← rdR_wd FW nb_F 0 0, w2_1, rdR_e (List.drop_eq_nil_of_le (by rw [show (tx FW).length = 40 from rfl]; omega))]))]; try rfl), (by rw [(show wdF FW (cs (BX h) (plX h)) 0 0 = (-1, v2_2.toInt.toNat) from (by rw [(plX_of e1), ← rdR_wd FW nb_F 0 0, w2_1, rdR_e (List.drop_eq_nil_of_le (by rw [show (tx FW).length = 40 from rfl]; omega))])), plX_of u5.1, (plX_of e1)]; show _ = _ + ((v2_2.toInt.toNat : Nat) : Int); omega)⟩
      · refine te_aload_n (p2 := 23) rfl rfl rfl ?_
        refine te_iload (p2 := 25) rfl rfl rfl ?_
        refine te_txc (p2 := 28) (l := im_txt.getD 2 []) (n := 40) (lo := 32) (hi := 121) rfl rfl (by decide) rfl rfl (by decide) rfl (by omega) (by omega) (fun y6 a6 b6 e6 => ?_)
        obtain ⟨kb7, kc7⟩ := cntB_ok v2_6.toInt.toNat (by omega)
        have kd7 : y6.toInt = 32 → cntB v2_6.toInt.toNat ≤ 7 ∧ cntB (v2_6.toInt.toNat + 1) = cntB v2_6.toInt.toNat + 1 := fun e => kc7 (e6.trans (i32_ext e))
        clear kc7
        refine te_istore (p2 := 30) (lv2 := [(7, .int y6), (0, .ref 81), (1, .ref 8), (2, .int v2_2), (3, .int v2_3), (4, .int v2_4), (5, .int v2_5), (6, .int v2_6)]) rfl rfl (by decide) rfl ?_
        refine te_iload (p2 := 32) rfl rfl rfl ?_
        refine te_bipush (p2 := 34) (x := 32) rfl rfl (by decide) ?_
        refine tb_ne (p2 := 37) rfl rfl rfl (show Int32.toInt 32 = 32 from rfl) (fun c8 => ?_) (fun c8 => ?_)
        · refine te_iload (p2 := 57) rfl rfl rfl ?_
          refine te_bipush (p2 := 59) (x := 32) rfl rfl (by decide) ?_
          refine tb_ne (p2 := 62) rfl rfl rfl (show Int32.toInt 32 = 32 from rfl) (fun c9 => ?_) (fun c9 => absurd c9 (by omega))
          refine te_iload (p2 := 76) rfl rfl rfl ?_
          refine tz_eq (p2 := 79) rfl rfl rfl (fun c10 => ?_) (fun c10 => ?_)
          · refine te_iconst (p2 := 109) (x := 0) rfl rfl (by decide) ?_
            refine te_istore (p2 := 111) (lv2 := [(5, .int 0), (7, .int y6), (0, .ref 81), (1, .ref 8), (2, .int v2_2), (3, .int v2_3), (4, .int v2_4), (6, .int v2_6)]) rfl rfl (by decide) rfl ?_
            refine ar_inc (p2 := 114) (x := v2_6) rfl rfl (by decide) rfl (by decide) rfl (by omega) (by omega) (fun z11 e11 f11 => ?_)
            show EvP _ _ _ (114, [(6, .int z11), (5, .int 0), (7, .int y6), (0, .ref 81), (1, .ref 8), (2, .int v2_2), (3, .int v2_3), (4, .int v2_4)], [], h2) _
            refine te_goto rfl ?_
            refine te_lv [(0, .ref 81), (1, .ref 8), (2, .int v2_2), (3, .int v2_3), (4, .int v2_4), (5, .int 0), (6, .int z11)] rfl rfl ⟨rfl, rfl, rfl, rfl, rfl, rfl, rfl, trivial⟩ ?_
            exact ih2 v2_2 v2_3 v2_4 0 z11 t2_pl h2 I2 f2 (by omega) (by omega) (by omega) (by omega) (by omega) (by omega) (by decide) (by decide) (by omega) (by omega) v2_pl (by omega) (by omega) (by have cc0 := (show Int32.toInt 0 = 0 from rfl); omega) (by have cc0 := (show Int32.toInt 0 = 0 from rfl); omega) (by have cc0 := (show Int32.toInt 0 = 0 from rfl); omega) (by have cc0 := (show Int32.toInt 0 = 0 from rfl); omega) (by have hz : z11.toInt.toNat = v2_6.toInt.toNat + 1 := (by omega); rw [hz]; omega) (by (have m1 := (show Int32.toInt (-1) = -1 from rfl)); rw [w2_1, (drop_c (l := tx FW) (i := v2_6.toInt.toNat) (y := y6) (by rw [show (tx FW).length = 40 from rfl]; omega) (by rw [← tx_F]; exact e6)), show z11.toInt.toNat = v2_6.toInt.toNat + 1 by omega, rdR_s3 (by omega) (fun q => absurd (of_decide_eq_true q.1) (by omega))]; try rfl) (by have cc0 := (show Int32.toInt 0 = 0 from rfl); omega)
          · refine te_aload_n (p2 := 80) rfl rfl rfl ?_
            refine te_aload_n (p2 := 81) rfl rfl rfl ?_
            refine tg_e (p2 := 84) (i := 65) (v := .int t2_pl) rfl rfl I2 rfl rfl v2_pl ?_
            refine te_iload (p2 := 86) rfl rfl rfl ?_
            refine ar_add (p2 := 87) rfl rfl rfl rfl (by omega) (by omega) (fun z12 e12 f12 => ?_)
            refine cV_pI (p2 := 90) (i := 65) rfl rfl rfl rfl I2 rfl rfl rfl (c_X10_byteAt (i := z12) I2 (by omega)) (by decide) (fun y13 r13 => ?_)
            obtain ⟨rb13, tp13, et13, ta13, tb13, r13⟩ := r13
            rw [(BX_fr f2 rfl (fun _ => rfl))] at rb13
            rcases r13 with r13 | r13
            · refine te_iload (p2 := 92) rfl rfl rfl ?_
              refine tb_ne (p2 := 95) rfl rfl rfl rfl (fun c14 => ?_) (fun c14 => ?_)
              · refine te_iconst (p2 := 109) (x := 0) rfl rfl (by decide) ?_
                refine te_istore (p2 := 111) (lv2 := [(5, .int 0), (7, .int y6), (0, .ref 81), (1, .ref 8), (2, .int v2_2), (3, .int v2_3), (4, .int v2_4), (6, .int v2_6)]) rfl rfl (by decide) rfl ?_
                refine ar_inc (p2 := 114) (x := v2_6) rfl rfl (by decide) rfl (by decide) rfl (by omega) (by omega) (fun z15 e15 f15 => ?_)
                show EvP _ _ _ (114, [(6, .int z15), (5, .int 0), (7, .int y6), (0, .ref 81), (1, .ref 8), (2, .int v2_2), (3, .int v2_3), (4, .int v2_4)], [], h2) _
                refine te_goto rfl ?_
                refine te_lv [(0, .ref 81), (1, .ref 8), (2, .int v2_2), (3, .int v2_3), (4, .int v2_4), (5, .int 0), (6, .int z15)] rfl rfl ⟨rfl, rfl, rfl, rfl, rfl, rfl, rfl, trivial⟩ ?_
                exact ih2 v2_2 v2_3 v2_4 0 z15 t2_pl h2 I2 f2 (by omega) (by omega) (by omega) (by omega) (by omega) (by omega) (by decide) (by decide) (by omega) (by omega) v2_pl (by omega) (by omega) (by have cc0 := (show Int32.toInt 0 = 0 from rfl); omega) (by have cc0 := (show Int32.toInt 0 = 0 from rfl); omega) (by have cc0 := (show Int32.toInt 0 = 0 from rfl); omega) (by have cc0 := (show Int32.toInt 0 = 0 from rfl); omega) (by have hz : z15.toInt.toNat = v2_6.toInt.toNat + 1 := (by omega); rw [hz]; omega) (by (have m1 := (show Int32.toInt (-1) = -1 from rfl)); rw [w2_1, (drop_c (l := tx FW) (i := v2_6.toInt.toNat) (y := y6) (by rw [show (tx FW).length = 40 from rfl]; omega) (by rw [← tx_F]; exact e6)), show z15.toInt.toNat = v2_6.toInt.toNat + 1 by omega, rdR_s3 (by omega) (fun q => absurd q.2 (by rw [(show cs (BX h) y1.toInt v2_4.toInt.toNat = Int32.toInt y13 from cs_at (z := z12.toInt) (by omega) rb13)]; omega))]; try rfl) (by have cc0 := (show Int32.toInt 0 = 0 from rfl); omega)
              · refine ar_inc (p2 := 98) (x := v2_4) rfl rfl (by decide) rfl (by decide) rfl (by omega) (by omega) (fun z16 e16 f16 => ?_)
                show EvP _ _ _ (98, [(4, .int z16), (7, .int y6), (0, .ref 81), (1, .ref 8), (2, .int v2_2), (3, .int v2_3), (5, .int v2_5), (6, .int v2_6)], [], h2) _
                refine te_iload_n (p2 := 99) rfl rfl rfl ?_
                refine te_iload (p2 := 101) rfl rfl rfl ?_
                refine ar_max (p2 := 104) rfl rfl rfl rfl rfl (fun z17 e17 f17 => ?_)
                refine te_istore_n (p2 := 105) (lv2 := [(2, .int z17), (4, .int z16), (7, .int y6), (0, .ref 81), (1, .ref 8), (3, .int v2_3), (5, .int v2_5), (6, .int v2_6)]) rfl rfl (by decide) rfl ?_
                refine te_goto rfl ?_
                refine ar_inc (p2 := 114) (x := v2_6) rfl rfl (by decide) rfl (by decide) rfl (by omega) (by omega) (fun z18 e18 f18 => ?_)
                show EvP _ _ _ (114, [(6, .int z18), (2, .int z17), (4, .int z16), (7, .int y6), (0, .ref 81), (1, .ref 8), (3, .int v2_3), (5, .int v2_5)], [], h2) _
                refine te_goto rfl ?_
                refine te_lv [(0, .ref 81), (1, .ref 8), (2, .int z17), (3, .int v2_3), (4, .int z16), (5, .int v2_5), (6, .int z18)] rfl rfl ⟨rfl, rfl, rfl, rfl, rfl, rfl, rfl, trivial⟩ ?_
                exact ih2 z17 v2_3 z16 v2_5 z18 t2_pl h2 I2 f2 (by omega) (by omega) (by omega) (by omega) (by omega) (by omega) (by omega) (by omega) (by omega) (by omega) v2_pl (by omega) (by omega) (by omega) (by omega) (by omega) (by omega) (by have hz : z18.toInt.toNat = v2_6.toInt.toNat + 1 := (by omega); rw [hz]; omega) (by (have m1 := (show Int32.toInt (-1) = -1 from rfl)); rw [w2_1, (drop_c (l := tx FW) (i := v2_6.toInt.toNat) (y := y6) (by rw [show (tx FW).length = 40 from rfl]; omega) (by rw [← tx_F]; exact e6)), show z18.toInt.toNat = v2_6.toInt.toNat + 1 by omega, show decide (v2_5.toInt = 1) = true from decide_eq_true (by omega), rdR_s2 (by omega) (by rw [(show cs (BX h) y1.toInt v2_4.toInt.toNat = Int32.toInt y13 from cs_at (z := z12.toInt) (by omega) rb13)]; omega), show z16.toInt.toNat = v2_4.toInt.toNat + 1 by omega, show z17.toInt.toNat = max v2_2.toInt.toNat (v2_4.toInt.toNat + 1) by omega]; try rfl) (by omega)
            · subst r13
              refine te_iload (p2 := 92) rfl rfl rfl ?_
              refine tb_ne (p2 := 95) rfl rfl (show Int32.toInt (-1) = (-1) from rfl) rfl (fun c19 => ?_) (fun c19 => absurd c19 (by omega))
              refine te_iconst (p2 := 109) (x := 0) rfl rfl (by decide) ?_
              refine te_istore (p2 := 111) (lv2 := [(5, .int 0), (7, .int y6), (0, .ref 81), (1, .ref 8), (2, .int v2_2), (3, .int v2_3), (4, .int v2_4), (6, .int v2_6)]) rfl rfl (by decide) rfl ?_
              refine ar_inc (p2 := 114) (x := v2_6) rfl rfl (by decide) rfl (by decide) rfl (by omega) (by omega) (fun z20 e20 f20 => ?_)
              show EvP _ _ _ (114, [(6, .int z20), (5, .int 0), (7, .int y6), (0, .ref 81), (1, .ref 8), (2, .int v2_2), (3, .int v2_3), (4, .int v2_4)], [], h2) _
              refine te_goto rfl ?_
              refine te_lv [(0, .ref 81), (1, .ref 8), (2, .int v2_2), (3, .int v2_3), (4, .int v2_4), (5, .int 0), (6, .int z20)] rfl rfl ⟨rfl, rfl, rfl, rfl, rfl, rfl, rfl, trivial⟩ ?_
              exact ih2 v2_2 v2_3 v2_4 0 z20 t2_pl h2 I2 f2 (by omega) (by omega) (by omega) (by omega) (by omega) (by omega) (by decide) (by decide) (by omega) (by omega) v2_pl (by omega) (by omega) (by have cc0 := (show Int32.toInt 0 = 0 from rfl); omega) (by have cc0 := (show Int32.toInt 0 = 0 from rfl); omega) (by have cc0 := (show Int32.toInt 0 = 0 from rfl); omega) (by have cc0 := (show Int32.toInt 0 = 0 from rfl); omega) (by have hz : z20.toInt.toNat = v2_6.toInt.toNat + 1 := (by omega); rw [hz]; omega) (by (have m1 := (show Int32.toInt (-1) = -1 from rfl)); rw [w2_1, (drop_c (l := tx FW) (i := v2_6.toInt.toNat) (y := y6) (by rw [show (tx FW).length = 40 from rfl]; omega) (by rw [← tx_F]; exact e6)), show z20.toInt.toNat = v2_6.toInt.toNat + 1 by omega, rdR_s3 (by omega) (fun q => absurd q.2 (by rw [(show cs (BX h) y1.toInt v2_4.toInt.toNat = Int32.toInt (-1 : Int32) from cs_at (z := z12.toInt) (by omega) rb13)]; omega))]; try rfl) (by have cc0 := (show Int32.toInt 0 = 0 from rfl); omega)
        · refine te_iload (p2 := 39) rfl rfl rfl ?_
          refine tz_eq (p2 := 42) rfl rfl rfl (fun c21 => ?_) (fun c21 => ?_)
          · refine te_iload (p2 := 57) rfl rfl rfl ?_
            refine te_bipush (p2 := 59) (x := 32) rfl rfl (by decide) ?_
            refine tb_ne (p2 := 62) rfl rfl rfl (show Int32.toInt 32 = 32 from rfl) (fun c22 => absurd c22 (by omega)) (fun c22 => ?_)
            refine ar_inc (p2 := 65) (x := v2_3) rfl rfl (by decide) rfl (by decide) rfl (by omega) (by omega) (fun z23 e23 f23 => ?_)
            show EvP _ _ _ (65, [(3, .int z23), (7, .int y6), (0, .ref 81), (1, .ref 8), (2, .int v2_2), (4, .int v2_4), (5, .int v2_5), (6, .int v2_6)], [], h2) _
            refine te_iconst (p2 := 66) (x := 0) rfl rfl (by decide) ?_
            refine te_istore (p2 := 68) (lv2 := [(4, .int 0), (3, .int z23), (7, .int y6), (0, .ref 81), (1, .ref 8), (2, .int v2_2), (5, .int v2_5), (6, .int v2_6)]) rfl rfl (by decide) rfl ?_
            refine te_iconst (p2 := 69) (x := 1) rfl rfl (by decide) ?_
            refine te_istore (p2 := 71) (lv2 := [(5, .int 1), (4, .int 0), (3, .int z23), (7, .int y6), (0, .ref 81), (1, .ref 8), (2, .int v2_2), (6, .int v2_6)]) rfl rfl (by decide) rfl ?_
            refine te_goto rfl ?_
            refine ar_inc (p2 := 114) (x := v2_6) rfl rfl (by decide) rfl (by decide) rfl (by omega) (by omega) (fun z24 e24 f24 => ?_)
            show EvP _ _ _ (114, [(6, .int z24), (5, .int 1), (4, .int 0), (3, .int z23), (7, .int y6), (0, .ref 81), (1, .ref 8), (2, .int v2_2)], [], h2) _
            refine te_goto rfl ?_
            refine te_lv [(0, .ref 81), (1, .ref 8), (2, .int v2_2), (3, .int z23), (4, .int 0), (5, .int 1), (6, .int z24)] rfl rfl ⟨rfl, rfl, rfl, rfl, rfl, rfl, rfl, trivial⟩ ?_
            exact ih2 v2_2 z23 0 1 z24 t2_pl h2 I2 f2 (by omega) (by omega) (by omega) (by omega) (by decide) (by decide) (by decide) (by decide) (by omega) (by omega) v2_pl (by omega) (by omega) (by have cc0 := (show Int32.toInt 0 = 0 from rfl); have cc1 := (show Int32.toInt 1 = 1 from rfl); omega) (by have cc0 := (show Int32.toInt 0 = 0 from rfl); have cc1 := (show Int32.toInt 1 = 1 from rfl); omega) (by have cc0 := (show Int32.toInt 0 = 0 from rfl); have cc1 := (show Int32.toInt 1 = 1 from rfl); omega) (by have cc0 := (show Int32.toInt 0 = 0 from rfl); have cc1 := (show Int32.toInt 1 = 1 from rfl); omega) (by have hz : z24.toInt.toNat = v2_6.toInt.toNat + 1 := (by omega); rw [hz]; omega) (by (have m1 := (show Int32.toInt (-1) = -1 from rfl)); rw [w2_1, (drop_c (l := tx FW) (i := v2_6.toInt.toNat) (y := y6) (by rw [show (tx FW).length = 40 from rfl]; omega) (by rw [← tx_F]; exact e6)), show z24.toInt.toNat = v2_6.toInt.toNat + 1 by omega, show decide (v2_5.toInt = 1) = false from decide_eq_false (by omega), rdR_s1 (by omega), show z23.toInt = v2_3.toInt + 1 by omega]; try rfl) (by have cc0 := (show Int32.toInt 0 = 0 from rfl); have cc1 := (show Int32.toInt 1 = 1 from rfl); omega)
          · refine te_aload_n (p2 := 43) rfl rfl rfl ?_
            refine te_dup (p2 := 44) rfl rfl rfl ?_
            refine tg_e (p2 := 47) (i := 65) (v := .int t2_pl) rfl rfl I2 rfl rfl v2_pl ?_
            refine te_iload (p2 := 49) rfl rfl rfl ?_
            refine ar_add (p2 := 50) rfl rfl rfl rfl (by omega) (by omega) (fun z25 e25 f25 => ?_)
            refine tp_i (p2 := 53) (i := 65) rfl rfl I2 rfl rfl (by decide) rfl rfl rfl (by omega) (by omega) (by omega) rfl (fun h26 I26 u26 => ?_)
            have f26 := fr_st (F := F_X10_readWord_2) 0 f2 u26 rfl (by decide) (by decide)
            refine te_iload_n (p2 := 54) rfl rfl rfl ?_
            exact te_iret rfl rfl ⟨I26, f26, _, rfl, (by rw [(show wdF FW (cs (BX h) (plX h)) 0 0 = (v2_3.toInt, v2_4.toInt.toNat) from (by rw [(plX_of e1), ← rdR_wd FW nb_F 0 0, w2_1, (drop_c (l := tx FW) (i := v2_6.toInt.toNat) (y := y6) (by rw [show (tx FW).length = 40 from rfl]; omega) (by rw [← tx_F]; exact e6)), show decide (v2_5.toInt = 1) = true from decide_eq_true (by omega), rdR_s0 (by omega)]))]; try rfl), (by rw [(show wdF FW (cs (BX h) (plX h)) 0 0 = (v2_3.toInt, v2_4.toInt.toNat) from (by rw [(plX_of e1), ← rdR_wd FW nb_F 0 0, w2_1, (drop_c (l := tx FW) (i := v2_6.toInt.toNat) (y := y6) (by rw [show (tx FW).length = 40 from rfl]; omega) (by rw [← tx_F]; exact e6)), show decide (v2_5.toInt = 1) = true from decide_eq_true (by omega), rdR_s0 (by omega)])), plX_of u26.1, (plX_of e1)]; show _ = _ + ((v2_4.toInt.toNat : Nat) : Int); omega)⟩
  refine te_lv [(0, .ref 81), (1, .ref 8), (2, .int 0), (3, .int 0), (4, .int 0), (5, .int 1), (6, .int 0)] rfl rfl ⟨rfl, rfl, rfl, rfl, rfl, rfl, rfl, trivial⟩ ?_
  exact lp2 41 0 0 0 1 0 y1 h hI f0 (by decide) (by decide) (by decide) (by decide) (by decide) (by decide) (by decide) (by decide) (by decide) (by decide) e1 (by omega) (by omega) (by have cc0 := (show Int32.toInt 0 = 0 from rfl); have cc1 := (show Int32.toInt 1 = 1 from rfl); omega) (by have cc0 := (show Int32.toInt 0 = 0 from rfl); have cc1 := (show Int32.toInt 1 = 1 from rfl); omega) (by have cc0 := (show Int32.toInt 0 = 0 from rfl); have cc1 := (show Int32.toInt 1 = 1 from rfl); omega) (by have cc0 := (show Int32.toInt 0 = 0 from rfl); have cc1 := (show Int32.toInt 1 = 1 from rfl); omega) (by rw [show (Int32.toInt 0).toNat = 0 from rfl, cntB_0]; decide) rfl (by have cc0 := (show Int32.toInt 0 = 0 from rfl); have cc1 := (show Int32.toInt 1 = 1 from rfl); omega)
set_option maxRecDepth 20000 in
set_option maxHeartbeats 4000000 in
theorem c_X10_readWord_3  {h : im_H} (hI : tI h)  : CaP 2 58 [.ref 81, .ref 9] h (fun v h2 => tI h2 ∧ fr F_X10_readWord_3 h h2 ∧ ∃ y : Int32, v = some (.int y) ∧ y.toInt = (wdF SW (cs (BX h) (plX h)) 0 0).1 ∧ plX h2 = plX h + ((wdF SW (cs (BX h) (plX h)) 0 0).2 : Int)) := by
  refine cap_of (d := 1) (M := mX10_readWord) rfl (Nat.le_of_ble_eq_true rfl) ?_
  show EvP im_K0 1 mX10_readWord (0, [(0, .ref 81), (1, .ref 9)], [], h) _
  have f0 : fr F_X10_readWord_3 h h := fr_rf
  refine te_iconst (p2 := 1) (x := 0) rfl rfl (by decide) ?_
  obtain ⟨v1, e1, y1, w1, a1, b1, _⟩ := hI.2.1 65 2 (.inl (0, 160, 9999999999)) rfl
  subst w1
  refine te_istore_n (p2 := 2) (lv2 := [(2, .int 0), (0, .ref 81), (1, .ref 9)]) rfl rfl (by decide) rfl ?_
  refine te_iconst (p2 := 3) (x := 0) rfl rfl (by decide) ?_
  refine te_istore_n (p2 := 4) (lv2 := [(3, .int 0), (2, .int 0), (0, .ref 81), (1, .ref 9)]) rfl rfl (by decide) rfl ?_
  refine te_iconst (p2 := 5) (x := 0) rfl rfl (by decide) ?_
  refine te_istore (p2 := 7) (lv2 := [(4, .int 0), (3, .int 0), (2, .int 0), (0, .ref 81), (1, .ref 9)]) rfl rfl (by decide) rfl ?_
  refine te_iconst (p2 := 8) (x := 1) rfl rfl (by decide) ?_
  refine te_istore (p2 := 10) (lv2 := [(5, .int 1), (4, .int 0), (3, .int 0), (2, .int 0), (0, .ref 81), (1, .ref 9)]) rfl rfl (by decide) rfl ?_
  refine te_iconst (p2 := 11) (x := 0) rfl rfl (by decide) ?_
  refine te_istore (p2 := 13) (lv2 := [(6, .int 0), (5, .int 1), (4, .int 0), (3, .int 0), (2, .int 0), (0, .ref 81), (1, .ref 9)]) rfl rfl (by decide) rfl ?_
  have lp2 : ∀ (n2 : Nat) (v2_2 v2_3 v2_4 v2_5 v2_6 t2_pl : Int32) (h2 : im_H), tI h2 → fr F_X10_readWord_3 h h2 → 0 ≤ v2_2.toInt → v2_2.toInt ≤ 160 → 0 ≤ v2_3.toInt → v2_3.toInt ≤ 60 → 0 ≤ v2_4.toInt → v2_4.toInt ≤ 160 → 0 ≤ v2_5.toInt → v2_5.toInt ≤ 1 → 0 ≤ v2_6.toInt → v2_6.toInt ≤ 6 → rd h2 65 2 = some (.int t2_pl) → 0 ≤ t2_pl.toInt → t2_pl.toInt ≤ 160 → t2_pl.toInt + v2_4.toInt ≤ 160 → t2_pl.toInt + v2_2.toInt ≤ 160 → v2_3.toInt ≤ v2_6.toInt → t2_pl.toInt = y1.toInt → rdR (cs (BX h) y1.toInt) (tx SW) 0 0 0 true = rdR (cs (BX h) y1.toInt) ((tx SW).drop v2_6.toInt.toNat) v2_2.toInt.toNat v2_3.toInt v2_4.toInt.toNat (decide (v2_5.toInt = 1)) → 6 - v2_6.toInt < (n2 : Int) → EvP im_K0 1 mX10_readWord (13, [(0, .ref 81), (1, .ref 9), (2, .int v2_2), (3, .int v2_3), (4, .int v2_4), (5, .int v2_5), (6, .int v2_6)], [], h2) (fun v h2 => tI h2 ∧ fr F_X10_readWord_3 h h2 ∧ ∃ y : Int32, v = some (.int y) ∧ y.toInt = (wdF SW (cs (BX h) (plX h)) 0 0).1 ∧ plX h2 = plX h + ((wdF SW (cs (BX h) (plX h)) 0 0).2 : Int)) := by
    intro n2
    induction n2 with
    | zero => intro v2_2 v2_3 v2_4 v2_5 v2_6 t2_pl h2 I2 f2 a2_2 b2_2 a2_3 b2_3 a2_4 b2_4 a2_5 b2_5 a2_6 b2_6 v2_pl va2_pl vb2_pl l2_0 l2_1 l2_2 l2_3 w2_0 m2; exfalso; omega
    | succ n2 ih2 =>
      intro v2_2 v2_3 v2_4 v2_5 v2_6 t2_pl h2 I2 f2 a2_2 b2_2 a2_3 b2_3 a2_4 b2_4 a2_5 b2_5 a2_6 b2_6 v2_pl va2_pl vb2_pl l2_0 l2_1 l2_2 l2_3 w2_0 m2
      refine te_iload (p2 := 15) rfl rfl rfl ?_
      refine te_aload_n (p2 := 16) rfl rfl rfl ?_
      refine te_txl (p2 := 19) (l := im_txt.getD 3 []) (x := 6) rfl rfl (by decide) rfl rfl rfl ?_
      refine tb_ge (p2 := 22) rfl rfl rfl (show Int32.toInt 6 = 6 from rfl) (fun c3 => ?_) (fun c3 => ?_)
      · refine te_aload_n (p2 := 118) rfl rfl rfl ?_
        refine te_dup (p2 := 119) rfl rfl rfl ?_
        refine tg_e (p2 := 122) (i := 65) (v := .int t2_pl) rfl rfl I2 rfl rfl v2_pl ?_
        refine te_iload_n (p2 := 123) rfl rfl rfl ?_
        refine ar_add (p2 := 124) rfl rfl rfl rfl (by omega) (by omega) (fun z4 e4 f4 => ?_)
        refine tp_i (p2 := 127) (i := 65) rfl rfl I2 rfl rfl (by decide) rfl rfl rfl (by omega) (by omega) (by omega) rfl (fun h5 I5 u5 => ?_)
        have f5 := fr_st (F := F_X10_readWord_3) 0 f2 u5 rfl (by decide) (by decide)
        refine te_iconst (p2 := 128) (x := (-1)) rfl rfl (by decide) ?_
        exact te_iret rfl rfl ⟨I5, f5, _, rfl, (by rw [(show wdF SW (cs (BX h) (plX h)) 0 0 = (-1, v2_2.toInt.toNat) from (by rw [(plX_of e1), ← rdR_wd SW nb_S 0 0, w2_0, rdR_e (List.drop_eq_nil_of_le (by rw [show (tx SW).length = 6 from rfl]; omega))]))]; try rfl), (by rw [(show wdF SW (cs (BX h) (plX h)) 0 0 = (-1, v2_2.toInt.toNat) from (by rw [(plX_of e1), ← rdR_wd SW nb_S 0 0, w2_0, rdR_e (List.drop_eq_nil_of_le (by rw [show (tx SW).length = 6 from rfl]; omega))])), plX_of u5.1, (plX_of e1)]; show _ = _ + ((v2_2.toInt.toNat : Nat) : Int); omega)⟩
      · refine te_aload_n (p2 := 23) rfl rfl rfl ?_
        refine te_iload (p2 := 25) rfl rfl rfl ?_
        refine te_txc (p2 := 28) (l := im_txt.getD 3 []) (n := 6) (lo := 32) (hi := 62) rfl rfl (by decide) rfl rfl (by decide) rfl (by omega) (by omega) (fun y6 a6 b6 e6 => ?_)
        refine te_istore (p2 := 30) (lv2 := [(7, .int y6), (0, .ref 81), (1, .ref 9), (2, .int v2_2), (3, .int v2_3), (4, .int v2_4), (5, .int v2_5), (6, .int v2_6)]) rfl rfl (by decide) rfl ?_
        refine te_iload (p2 := 32) rfl rfl rfl ?_
        refine te_bipush (p2 := 34) (x := 32) rfl rfl (by decide) ?_
        refine tb_ne (p2 := 37) rfl rfl rfl (show Int32.toInt 32 = 32 from rfl) (fun c7 => ?_) (fun c7 => ?_)
        · refine te_iload (p2 := 57) rfl rfl rfl ?_
          refine te_bipush (p2 := 59) (x := 32) rfl rfl (by decide) ?_
          refine tb_ne (p2 := 62) rfl rfl rfl (show Int32.toInt 32 = 32 from rfl) (fun c8 => ?_) (fun c8 => absurd c8 (by omega))
          refine te_iload (p2 := 76) rfl rfl rfl ?_
          refine tz_eq (p2 := 79) rfl rfl rfl (fun c9 => ?_) (fun c9 => ?_)
          · refine te_iconst (p2 := 109) (x := 0) rfl rfl (by decide) ?_
            refine te_istore (p2 := 111) (lv2 := [(5, .int 0), (7, .int y6), (0, .ref 81), (1, .ref 9), (2, .int v2_2), (3, .int v2_3), (4, .int v2_4), (6, .int v2_6)]) rfl rfl (by decide) rfl ?_
            refine ar_inc (p2 := 114) (x := v2_6) rfl rfl (by decide) rfl (by decide) rfl (by omega) (by omega) (fun z10 e10 f10 => ?_)
            show EvP _ _ _ (114, [(6, .int z10), (5, .int 0), (7, .int y6), (0, .ref 81), (1, .ref 9), (2, .int v2_2), (3, .int v2_3), (4, .int v2_4)], [], h2) _
            refine te_goto rfl ?_
            refine te_lv [(0, .ref 81), (1, .ref 9), (2, .int v2_2), (3, .int v2_3), (4, .int v2_4), (5, .int 0), (6, .int z10)] rfl rfl ⟨rfl, rfl, rfl, rfl, rfl, rfl, rfl, trivial⟩ ?_
            exact ih2 v2_2 v2_3 v2_4 0 z10 t2_pl h2 I2 f2 (by omega) (by omega) (by omega) (by omega) (by omega) (by omega) (by decide) (by decide) (by omega) (by omega) v2_pl (by omega) (by omega) (by have cc0 := (show Int32.toInt 0 = 0 from rfl); omega) (by have cc0 := (show Int32.toInt 0 = 0 from rfl); omega) (by have cc0 := (show Int32.toInt 0 = 0 from rfl); omega) (by have cc0 := (show Int32.toInt 0 = 0 from rfl); omega) (by (have m1 := (show Int32.toInt (-1) = -1 from rfl)); rw [w2_0, (drop_c (l := tx SW) (i := v2_6.toInt.toNat) (y := y6) (by rw [show (tx SW).length = 6 from rfl]; omega) (by rw [← tx_S]; exact e6)), show z10.toInt.toNat = v2_6.toInt.toNat + 1 by omega, rdR_s3 (by omega) (fun q => absurd (of_decide_eq_true q.1) (by omega))]; try rfl) (by have cc0 := (show Int32.toInt 0 = 0 from rfl); omega)
          · refine te_aload_n (p2 := 80) rfl rfl rfl ?_
            refine te_aload_n (p2 := 81) rfl rfl rfl ?_
            refine tg_e (p2 := 84) (i := 65) (v := .int t2_pl) rfl rfl I2 rfl rfl v2_pl ?_
            refine te_iload (p2 := 86) rfl rfl rfl ?_
            refine ar_add (p2 := 87) rfl rfl rfl rfl (by omega) (by omega) (fun z11 e11 f11 => ?_)
            refine cV_pI (p2 := 90) (i := 65) rfl rfl rfl rfl I2 rfl rfl rfl (c_X10_byteAt (i := z11) I2 (by omega)) (by decide) (fun y12 r12 => ?_)
            obtain ⟨rb12, tp12, et12, ta12, tb12, r12⟩ := r12
            rw [(BX_fr f2 rfl (fun _ => rfl))] at rb12
            rcases r12 with r12 | r12
            · refine te_iload (p2 := 92) rfl rfl rfl ?_
              refine tb_ne (p2 := 95) rfl rfl rfl rfl (fun c13 => ?_) (fun c13 => ?_)
              · refine te_iconst (p2 := 109) (x := 0) rfl rfl (by decide) ?_
                refine te_istore (p2 := 111) (lv2 := [(5, .int 0), (7, .int y6), (0, .ref 81), (1, .ref 9), (2, .int v2_2), (3, .int v2_3), (4, .int v2_4), (6, .int v2_6)]) rfl rfl (by decide) rfl ?_
                refine ar_inc (p2 := 114) (x := v2_6) rfl rfl (by decide) rfl (by decide) rfl (by omega) (by omega) (fun z14 e14 f14 => ?_)
                show EvP _ _ _ (114, [(6, .int z14), (5, .int 0), (7, .int y6), (0, .ref 81), (1, .ref 9), (2, .int v2_2), (3, .int v2_3), (4, .int v2_4)], [], h2) _
                refine te_goto rfl ?_
                refine te_lv [(0, .ref 81), (1, .ref 9), (2, .int v2_2), (3, .int v2_3), (4, .int v2_4), (5, .int 0), (6, .int z14)] rfl rfl ⟨rfl, rfl, rfl, rfl, rfl, rfl, rfl, trivial⟩ ?_
                exact ih2 v2_2 v2_3 v2_4 0 z14 t2_pl h2 I2 f2 (by omega) (by omega) (by omega) (by omega) (by omega) (by omega) (by decide) (by decide) (by omega) (by omega) v2_pl (by omega) (by omega) (by have cc0 := (show Int32.toInt 0 = 0 from rfl); omega) (by have cc0 := (show Int32.toInt 0 = 0 from rfl); omega) (by have cc0 := (show Int32.toInt 0 = 0 from rfl); omega) (by have cc0 := (show Int32.toInt 0 = 0 from rfl); omega) (by (have m1 := (show Int32.toInt (-1) = -1 from rfl)); rw [w2_0, (drop_c (l := tx SW) (i := v2_6.toInt.toNat) (y := y6) (by rw [show (tx SW).length = 6 from rfl]; omega) (by rw [← tx_S]; exact e6)), show z14.toInt.toNat = v2_6.toInt.toNat + 1 by omega, rdR_s3 (by omega) (fun q => absurd q.2 (by rw [(show cs (BX h) y1.toInt v2_4.toInt.toNat = Int32.toInt y12 from cs_at (z := z11.toInt) (by omega) rb12)]; omega))]; try rfl) (by have cc0 := (show Int32.toInt 0 = 0 from rfl); omega)
              · refine ar_inc (p2 := 98) (x := v2_4) rfl rfl (by decide) rfl (by decide) rfl (by omega) (by omega) (fun z15 e15 f15 => ?_)
                show EvP _ _ _ (98, [(4, .int z15), (7, .int y6), (0, .ref 81), (1, .ref 9), (2, .int v2_2), (3, .int v2_3), (5, .int v2_5), (6, .int v2_6)], [], h2) _
                refine te_iload_n (p2 := 99) rfl rfl rfl ?_
                refine te_iload (p2 := 101) rfl rfl rfl ?_
                refine ar_max (p2 := 104) rfl rfl rfl rfl rfl (fun z16 e16 f16 => ?_)
                refine te_istore_n (p2 := 105) (lv2 := [(2, .int z16), (4, .int z15), (7, .int y6), (0, .ref 81), (1, .ref 9), (3, .int v2_3), (5, .int v2_5), (6, .int v2_6)]) rfl rfl (by decide) rfl ?_
                refine te_goto rfl ?_
                refine ar_inc (p2 := 114) (x := v2_6) rfl rfl (by decide) rfl (by decide) rfl (by omega) (by omega) (fun z17 e17 f17 => ?_)
                show EvP _ _ _ (114, [(6, .int z17), (2, .int z16), (4, .int z15), (7, .int y6), (0, .ref 81), (1, .ref 9), (3, .int v2_3), (5, .int v2_5)], [], h2) _
                refine te_goto rfl ?_
                refine te_lv [(0, .ref 81), (1, .ref 9), (2, .int z16), (3, .int v2_3), (4, .int z15), (5, .int v2_5), (6, .int z17)] rfl rfl ⟨rfl, rfl, rfl, rfl, rfl, rfl, rfl, trivial⟩ ?_
                exact ih2 z16 v2_3 z15 v2_5 z17 t2_pl h2 I2 f2 (by omega) (by omega) (by omega) (by omega) (by omega) (by omega) (by omega) (by omega) (by omega) (by omega) v2_pl (by omega) (by omega) (by omega) (by omega) (by omega) (by omega) (by (have m1 := (show Int32.toInt (-1) = -1 from rfl)); rw [w2_0, (drop_c (l := tx SW) (i := v2_6.toInt.toNat) (y := y6) (by rw [show (tx SW).length = 6 from rfl]; omega) (by rw [← tx_S]; exact e6)), show z17.toInt.toNat = v2_6.toInt.toNat + 1 by omega, show decide (v2_5.toInt = 1) = true from decide_eq_true (by omega), rdR_s2 (by omega) (by rw [(show cs (BX h) y1.toInt v2_4.toInt.toNat = Int32.toInt y12 from cs_at (z := z11.toInt) (by omega) rb12)]; omega), show z15.toInt.toNat = v2_4.toInt.toNat + 1 by omega, show z16.toInt.toNat = max v2_2.toInt.toNat (v2_4.toInt.toNat + 1) by omega]; try rfl) (by omega)
            · subst r12
              refine te_iload (p2 := 92) rfl rfl rfl ?_
              refine tb_ne (p2 := 95) rfl rfl (show Int32.toInt (-1) = (-1) from rfl) rfl (fun c18 => ?_) (fun c18 => absurd c18 (by omega))
              refine te_iconst (p2 := 109) (x := 0) rfl rfl (by decide) ?_
              refine te_istore (p2 := 111) (lv2 := [(5, .int 0), (7, .int y6), (0, .ref 81), (1, .ref 9), (2, .int v2_2), (3, .int v2_3), (4, .int v2_4), (6, .int v2_6)]) rfl rfl (by decide) rfl ?_
              refine ar_inc (p2 := 114) (x := v2_6) rfl rfl (by decide) rfl (by decide) rfl (by omega) (by omega) (fun z19 e19 f19 => ?_)
              show EvP _ _ _ (114, [(6, .int z19), (5, .int 0), (7, .int y6), (0, .ref 81), (1, .ref 9), (2, .int v2_2), (3, .int v2_3), (4, .int v2_4)], [], h2) _
              refine te_goto rfl ?_
              refine te_lv [(0, .ref 81), (1, .ref 9), (2, .int v2_2), (3, .int v2_3), (4, .int v2_4), (5, .int 0), (6, .int z19)] rfl rfl ⟨rfl, rfl, rfl, rfl, rfl, rfl, rfl, trivial⟩ ?_
              exact ih2 v2_2 v2_3 v2_4 0 z19 t2_pl h2 I2 f2 (by omega) (by omega) (by omega) (by omega) (by omega) (by omega) (by decide) (by decide) (by omega) (by omega) v2_pl (by omega) (by omega) (by have cc0 := (show Int32.toInt 0 = 0 from rfl); omega) (by have cc0 := (show Int32.toInt 0 = 0 from rfl); omega) (by have cc0 := (show Int32.toInt 0 = 0 from rfl); omega) (by have cc0 := (show Int32.toInt 0 = 0 from rfl); omega) (by (have m1 := (show Int32.toInt (-1) = -1 from rfl)); rw [w2_0, (drop_c (l := tx SW) (i := v2_6.toInt.toNat) (y := y6) (by rw [show (tx SW).length = 6 from rfl]; omega) (by rw [← tx_S]; exact e6)), show z19.toInt.toNat = v2_6.toInt.toNat + 1 by omega, rdR_s3 (by omega) (fun q => absurd q.2 (by rw [(show cs (BX h) y1.toInt v2_4.toInt.toNat = Int32.toInt (-1 : Int32) from cs_at (z := z11.toInt) (by omega) rb12)]; omega))]; try rfl) (by have cc0 := (show Int32.toInt 0 = 0 from rfl); omega)
        · refine te_iload (p2 := 39) rfl rfl rfl ?_
          refine tz_eq (p2 := 42) rfl rfl rfl (fun c20 => ?_) (fun c20 => ?_)
          · refine te_iload (p2 := 57) rfl rfl rfl ?_
            refine te_bipush (p2 := 59) (x := 32) rfl rfl (by decide) ?_
            refine tb_ne (p2 := 62) rfl rfl rfl (show Int32.toInt 32 = 32 from rfl) (fun c21 => absurd c21 (by omega)) (fun c21 => ?_)
            refine ar_inc (p2 := 65) (x := v2_3) rfl rfl (by decide) rfl (by decide) rfl (by omega) (by omega) (fun z22 e22 f22 => ?_)
            show EvP _ _ _ (65, [(3, .int z22), (7, .int y6), (0, .ref 81), (1, .ref 9), (2, .int v2_2), (4, .int v2_4), (5, .int v2_5), (6, .int v2_6)], [], h2) _
            refine te_iconst (p2 := 66) (x := 0) rfl rfl (by decide) ?_
            refine te_istore (p2 := 68) (lv2 := [(4, .int 0), (3, .int z22), (7, .int y6), (0, .ref 81), (1, .ref 9), (2, .int v2_2), (5, .int v2_5), (6, .int v2_6)]) rfl rfl (by decide) rfl ?_
            refine te_iconst (p2 := 69) (x := 1) rfl rfl (by decide) ?_
            refine te_istore (p2 := 71) (lv2 := [(5, .int 1), (4, .int 0), (3, .int z22), (7, .int y6), (0, .ref 81), (1, .ref 9), (2, .int v2_2), (6, .int v2_6)]) rfl rfl (by decide) rfl ?_
            refine te_goto rfl ?_
            refine ar_inc (p2 := 114) (x := v2_6) rfl rfl (by decide) rfl (by decide) rfl (by omega) (by omega) (fun z23 e23 f23 => ?_)
            show EvP _ _ _ (114, [(6, .int z23), (5, .int 1), (4, .int 0), (3, .int z22), (7, .int y6), (0, .ref 81), (1, .ref 9), (2, .int v2_2)], [], h2) _
            refine te_goto rfl ?_
            refine te_lv [(0, .ref 81), (1, .ref 9), (2, .int v2_2), (3, .int z22), (4, .int 0), (5, .int 1), (6, .int z23)] rfl rfl ⟨rfl, rfl, rfl, rfl, rfl, rfl, rfl, trivial⟩ ?_
            exact ih2 v2_2 z22 0 1 z23 t2_pl h2 I2 f2 (by omega) (by omega) (by omega) (by omega) (by decide) (by decide) (by decide) (by decide) (by omega) (by omega) v2_pl (by omega) (by omega) (by have cc0 := (show Int32.toInt 0 = 0 from rfl); have cc1 := (show Int32.toInt 1 = 1 from rfl); omega) (by have cc0 := (show Int32.toInt 0 = 0 from rfl); have cc1 := (show Int32.toInt 1 = 1 from rfl); omega) (by have cc0 := (show Int32.toInt 0 = 0 from rfl); have cc1 := (show Int32.toInt 1 = 1 from rfl); omega) (by have cc0 := (show Int32.toInt 0 = 0 from rfl); have cc1 := (show Int32.toInt 1 = 1 from rfl); omega) (by (have m1 := (show Int32.toInt (-1) = -1 from rfl)); rw [w2_0, (drop_c (l := tx SW) (i := v2_6.toInt.toNat) (y := y6) (by rw [show (tx SW).length = 6 from rfl]; omega) (by rw [← tx_S]; exact e6)), show z23.toInt.toNat = v2_6.toInt.toNat + 1 by omega, show decide (v2_5.toInt = 1) = false from decide_eq_false (by omega), rdR_s1 (by omega), show z22.toInt = v2_3.toInt + 1 by omega]; try rfl) (by have cc0 := (show Int32.toInt 0 = 0 from rfl); have cc1 := (show Int32.toInt 1 = 1 from rfl); omega)
          · refine te_aload_n (p2 := 43) rfl rfl rfl ?_
            refine te_dup (p2 := 44) rfl rfl rfl ?_
            refine tg_e (p2 := 47) (i := 65) (v := .int t2_pl) rfl rfl I2 rfl rfl v2_pl ?_
            refine te_iload (p2 := 49) rfl rfl rfl ?_
            refine ar_add (p2 := 50) rfl rfl rfl rfl (by omega) (by omega) (fun z24 e24 f24 => ?_)
            refine tp_i (p2 := 53) (i := 65) rfl rfl I2 rfl rfl (by decide) rfl rfl rfl (by omega) (by omega) (by omega) rfl (fun h25 I25 u25 => ?_)
            have f25 := fr_st (F := F_X10_readWord_3) 0 f2 u25 rfl (by decide) (by decide)
            refine te_iload_n (p2 := 54) rfl rfl rfl ?_
            exact te_iret rfl rfl ⟨I25, f25, _, rfl, (by rw [(show wdF SW (cs (BX h) (plX h)) 0 0 = (v2_3.toInt, v2_4.toInt.toNat) from (by rw [(plX_of e1), ← rdR_wd SW nb_S 0 0, w2_0, (drop_c (l := tx SW) (i := v2_6.toInt.toNat) (y := y6) (by rw [show (tx SW).length = 6 from rfl]; omega) (by rw [← tx_S]; exact e6)), show decide (v2_5.toInt = 1) = true from decide_eq_true (by omega), rdR_s0 (by omega)]))]; try rfl), (by rw [(show wdF SW (cs (BX h) (plX h)) 0 0 = (v2_3.toInt, v2_4.toInt.toNat) from (by rw [(plX_of e1), ← rdR_wd SW nb_S 0 0, w2_0, (drop_c (l := tx SW) (i := v2_6.toInt.toNat) (y := y6) (by rw [show (tx SW).length = 6 from rfl]; omega) (by rw [← tx_S]; exact e6)), show decide (v2_5.toInt = 1) = true from decide_eq_true (by omega), rdR_s0 (by omega)])), plX_of u25.1, (plX_of e1)]; show _ = _ + ((v2_4.toInt.toNat : Nat) : Int); omega)⟩
  refine te_lv [(0, .ref 81), (1, .ref 9), (2, .int 0), (3, .int 0), (4, .int 0), (5, .int 1), (6, .int 0)] rfl rfl ⟨rfl, rfl, rfl, rfl, rfl, rfl, rfl, trivial⟩ ?_
  exact lp2 7 0 0 0 1 0 y1 h hI f0 (by decide) (by decide) (by decide) (by decide) (by decide) (by decide) (by decide) (by decide) (by decide) (by decide) e1 (by omega) (by omega) (by have cc0 := (show Int32.toInt 0 = 0 from rfl); have cc1 := (show Int32.toInt 1 = 1 from rfl); omega) (by have cc0 := (show Int32.toInt 0 = 0 from rfl); have cc1 := (show Int32.toInt 1 = 1 from rfl); omega) (by have cc0 := (show Int32.toInt 0 = 0 from rfl); have cc1 := (show Int32.toInt 1 = 1 from rfl); omega) (by have cc0 := (show Int32.toInt 0 = 0 from rfl); have cc1 := (show Int32.toInt 1 = 1 from rfl); omega) rfl (by have cc0 := (show Int32.toInt 0 = 0 from rfl); have cc1 := (show Int32.toInt 1 = 1 from rfl); omega)
theorem wdF_b (b : Nat → Int) : -1 ≤ (wdF FW b 0 0).1 ∧ (wdF FW b 0 0).1 ≤ 7 := by
  unfold FW
  repeat (unfold wdF; split; exact ⟨by decide, by decide⟩)
  show (-1 : Int) ≤ -1 ∧ (-1 : Int) ≤ 7
  decide
theorem plX_e {H H2 : im_H} (e : rd H2 65 2 = rd H 65 2) : plX H2 = plX H := by
  unfold plX rv
  rw [e]
set_option maxRecDepth 20000 in
set_option maxHeartbeats 4000000 in
theorem c_X10_readIf  {h : im_H} (hI : tI h)  : CaP 3 53 [.ref 81] h (fun v h2 => tI h2 ∧ fr F_X10_readIf h h2 ∧ ∃ y : Int32, v = some (.int y) ∧ ((y = 1 ∧ lcp IW (cs (BX h) (plX h)) 0 = 4) ∨ (y = 0 ∧ lcp IW (cs (BX h) (plX h)) 0 ≠ 4)) ∧ plX h2 = plX h + (lcp IW (cs (BX h) (plX h)) 0 : Int)) := by
  refine cap_of (d := 2) (M := mX10_readIf) rfl (Nat.le_of_ble_eq_true rfl) ?_
  show EvP im_K0 2 mX10_readIf (0, [(0, .ref 81)], [], h) _
  have f0 : fr F_X10_readIf h h := fr_rf
  refine te_iconst (p2 := 1) (x := 0) rfl rfl (by decide) ?_
  refine te_istore_n (p2 := 2) (lv2 := [(1, .int 0), (0, .ref 81)]) rfl rfl (by decide) rfl ?_
  refine te_iload_n (p2 := 3) rfl rfl rfl ?_
  refine te_ldc (p2 := 5) rfl rfl (by decide) ?_
  refine te_txl (p2 := 8) (l := im_txt.getD 1 []) (x := 4) rfl rfl (by decide) rfl rfl rfl ?_
  refine tb_ge (p2 := 11) rfl rfl (show Int32.toInt 0 = 0 from rfl) (show Int32.toInt 4 = 4 from rfl) (fun c1 => absurd c1 (by omega)) (fun c1 => ?_)
  refine te_aload_n (p2 := 12) rfl rfl rfl ?_
  refine te_ldc (p2 := 14) rfl rfl (by decide) ?_
  refine te_iload_n (p2 := 15) rfl rfl rfl ?_
  refine te_txc (p2 := 18) (l := im_txt.getD 1 []) (n := 4) (lo := 32) (hi := 105) rfl rfl (by decide) rfl rfl (by decide) rfl (by decide) (by decide) (fun y2 a2 b2 e2 => ?_)
  obtain rfl : y2 = 32 := e2.symm.trans (by decide)
  show EvP _ _ _ (18, [(1, .int 0), (0, .ref 81)], [.int 32, .ref 81], h) _
  refine tc_V (p2 := 21) (i := 65) rfl rfl rfl rfl hI rfl rfl rfl (c_X10_readSign (sign := 32) hI (by decide) (by decide)) (by decide) (fun v3 h3 hq3 => ?_)
  obtain ⟨I3, g3, y3, w3, Q3⟩ := hq3
  subst w3
  have f3 := fr_tr (F1 := F_X10_readSign) (F := F_X10_readIf) f0 g3 (by decide)
  rcases Q3 with ⟨x3, cs3, p3⟩ | ⟨x3, cs3, p3⟩
  · subst x3
    have c3 : (BX h (plX h)).toInt = 32 := cs3
    clear cs3
    show EvP _ _ _ (21, [(1, .int 0), (0, .ref 81)], [.int 1], h3) _
    refine tz_ne (p2 := 24) rfl rfl (show Int32.toInt 1 = 1 from rfl) (fun c4 => ?_) (fun c4 => absurd c4 (by omega))
    refine te_iinc (p2 := 29) (x := 0) (y := 1) (lv2 := [(1, .int 1), (0, .ref 81)]) rfl rfl (by decide) rfl (by decide) rfl ?_
    refine te_goto rfl ?_
    refine te_iload_n (p2 := 3) rfl rfl rfl ?_
    refine te_ldc (p2 := 5) rfl rfl (by decide) ?_
    refine te_txl (p2 := 8) (l := im_txt.getD 1 []) (x := 4) rfl rfl (by decide) rfl rfl rfl ?_
    refine tb_ge (p2 := 11) rfl rfl (show Int32.toInt 1 = 1 from rfl) (show Int32.toInt 4 = 4 from rfl) (fun c6 => absurd c6 (by omega)) (fun c6 => ?_)
    refine te_aload_n (p2 := 12) rfl rfl rfl ?_
    refine te_ldc (p2 := 14) rfl rfl (by decide) ?_
    refine te_iload_n (p2 := 15) rfl rfl rfl ?_
    refine te_txc (p2 := 18) (l := im_txt.getD 1 []) (n := 4) (lo := 32) (hi := 105) rfl rfl (by decide) rfl rfl (by decide) rfl (by decide) (by decide) (fun y7 a7 b7 e7 => ?_)
    obtain rfl : y7 = 105 := e7.symm.trans (by decide)
    show EvP _ _ _ (18, [(1, .int 1), (0, .ref 81)], [.int 105, .ref 81], h3) _
    refine tc_V (p2 := 21) (i := 65) rfl rfl rfl rfl I3 rfl rfl rfl (c_X10_readSign (sign := 105) I3 (by decide) (by decide)) (by decide) (fun v8 h8 hq8 => ?_)
    obtain ⟨I8, g8, y8, w8, Q8⟩ := hq8
    subst w8
    rw [(BX_fr f3 rfl (fun _ => rfl)), p3] at Q8
    have f8 := fr_tr (F1 := F_X10_readSign) (F := F_X10_readIf) f3 g8 (by decide)
    rcases Q8 with ⟨x8, cs8, p8⟩ | ⟨x8, cs8, p8⟩
    · subst x8
      have c8 : (BX h (plX h + 1)).toInt = 105 := cs8
      clear cs8
      show EvP _ _ _ (21, [(1, .int 1), (0, .ref 81)], [.int 1], h8) _
      refine tz_ne (p2 := 24) rfl rfl (show Int32.toInt 1 = 1 from rfl) (fun c9 => ?_) (fun c9 => absurd c9 (by omega))
      refine te_iinc (p2 := 29) (x := 1) (y := 2) (lv2 := [(1, .int 2), (0, .ref 81)]) rfl rfl (by decide) rfl (by decide) rfl ?_
      refine te_goto rfl ?_
      refine te_iload_n (p2 := 3) rfl rfl rfl ?_
      refine te_ldc (p2 := 5) rfl rfl (by decide) ?_
      refine te_txl (p2 := 8) (l := im_txt.getD 1 []) (x := 4) rfl rfl (by decide) rfl rfl rfl ?_
      refine tb_ge (p2 := 11) rfl rfl (show Int32.toInt 2 = 2 from rfl) (show Int32.toInt 4 = 4 from rfl) (fun c11 => absurd c11 (by omega)) (fun c11 => ?_)
      refine te_aload_n (p2 := 12) rfl rfl rfl ?_
      refine te_ldc (p2 := 14) rfl rfl (by decide) ?_
      refine te_iload_n (p2 := 15) rfl rfl rfl ?_
      refine te_txc (p2 := 18) (l := im_txt.getD 1 []) (n := 4) (lo := 32) (hi := 105) rfl rfl (by decide) rfl rfl (by decide) rfl (by decide) (by decide) (fun y12 a12 b12 e12 => ?_)
      obtain rfl : y12 = 102 := e12.symm.trans (by decide)
      show EvP _ _ _ (18, [(1, .int 2), (0, .ref 81)], [.int 102, .ref 81], h8) _
      refine tc_V (p2 := 21) (i := 65) rfl rfl rfl rfl I8 rfl rfl rfl (c_X10_readSign (sign := 102) I8 (by decide) (by decide)) (by decide) (fun v13 h13 hq13 => ?_)
      obtain ⟨I13, g13, y13, w13, Q13⟩ := hq13
      subst w13
      rw [(BX_fr f8 rfl (fun _ => rfl)), p8] at Q13
      have f13 := fr_tr (F1 := F_X10_readSign) (F := F_X10_readIf) f8 g13 (by decide)
      rcases Q13 with ⟨x13, cs13, p13⟩ | ⟨x13, cs13, p13⟩
      · subst x13
        have c13 : (BX h (plX h + 1 + 1)).toInt = 102 := cs13
        clear cs13
        show EvP _ _ _ (21, [(1, .int 2), (0, .ref 81)], [.int 1], h13) _
        refine tz_ne (p2 := 24) rfl rfl (show Int32.toInt 1 = 1 from rfl) (fun c14 => ?_) (fun c14 => absurd c14 (by omega))
        refine te_iinc (p2 := 29) (x := 2) (y := 3) (lv2 := [(1, .int 3), (0, .ref 81)]) rfl rfl (by decide) rfl (by decide) rfl ?_
        refine te_goto rfl ?_
        refine te_iload_n (p2 := 3) rfl rfl rfl ?_
        refine te_ldc (p2 := 5) rfl rfl (by decide) ?_
        refine te_txl (p2 := 8) (l := im_txt.getD 1 []) (x := 4) rfl rfl (by decide) rfl rfl rfl ?_
        refine tb_ge (p2 := 11) rfl rfl (show Int32.toInt 3 = 3 from rfl) (show Int32.toInt 4 = 4 from rfl) (fun c16 => absurd c16 (by omega)) (fun c16 => ?_)
        refine te_aload_n (p2 := 12) rfl rfl rfl ?_
        refine te_ldc (p2 := 14) rfl rfl (by decide) ?_
        refine te_iload_n (p2 := 15) rfl rfl rfl ?_
        refine te_txc (p2 := 18) (l := im_txt.getD 1 []) (n := 4) (lo := 32) (hi := 105) rfl rfl (by decide) rfl rfl (by decide) rfl (by decide) (by decide) (fun y17 a17 b17 e17 => ?_)
        obtain rfl : y17 = 32 := e17.symm.trans (by decide)
        show EvP _ _ _ (18, [(1, .int 3), (0, .ref 81)], [.int 32, .ref 81], h13) _
        refine tc_V (p2 := 21) (i := 65) rfl rfl rfl rfl I13 rfl rfl rfl (c_X10_readSign (sign := 32) I13 (by decide) (by decide)) (by decide) (fun v18 h18 hq18 => ?_)
        obtain ⟨I18, g18, y18, w18, Q18⟩ := hq18
        subst w18
        rw [(BX_fr f13 rfl (fun _ => rfl)), p13] at Q18
        have f18 := fr_tr (F1 := F_X10_readSign) (F := F_X10_readIf) f13 g18 (by decide)
        rcases Q18 with ⟨x18, cs18, p18⟩ | ⟨x18, cs18, p18⟩
        · subst x18
          have c18 : (BX h (plX h + 1 + 1 + 1)).toInt = 32 := cs18
          clear cs18
          show EvP _ _ _ (21, [(1, .int 3), (0, .ref 81)], [.int 1], h18) _
          refine tz_ne (p2 := 24) rfl rfl (show Int32.toInt 1 = 1 from rfl) (fun c19 => ?_) (fun c19 => absurd c19 (by omega))
          refine te_iinc (p2 := 29) (x := 3) (y := 4) (lv2 := [(1, .int 4), (0, .ref 81)]) rfl rfl (by decide) rfl (by decide) rfl ?_
          refine te_goto rfl ?_
          refine te_iload_n (p2 := 3) rfl rfl rfl ?_
          refine te_ldc (p2 := 5) rfl rfl (by decide) ?_
          refine te_txl (p2 := 8) (l := im_txt.getD 1 []) (x := 4) rfl rfl (by decide) rfl rfl rfl ?_
          refine tb_ge (p2 := 11) rfl rfl (show Int32.toInt 4 = 4 from rfl) (show Int32.toInt 4 = 4 from rfl) (fun c21 => ?_) (fun c21 => absurd c21 (by omega))
          refine te_iconst (p2 := 33) (x := 1) rfl rfl (by decide) ?_
          exact te_zret rfl rfl (by decide) ⟨I18, f18, _, rfl, Or.inl ⟨rfl, (show lcp IW (cs (BX h) (plX h)) 0 = 4 from (by (have k0 : cs (BX h) (plX h) 0 = Int32.toInt 32 := (by unfold cs; rw [show plX h + ((0 : Nat) : Int) = plX h by omega]; exact c3)); (have k1 : cs (BX h) (plX h) 1 = Int32.toInt 105 := (by unfold cs; rw [show plX h + ((1 : Nat) : Int) = plX h + 1 by omega]; exact c8)); (have k2 : cs (BX h) (plX h) 2 = Int32.toInt 102 := (by unfold cs; rw [show plX h + ((2 : Nat) : Int) = plX h + 1 + 1 by omega]; exact c13)); (have k3 : cs (BX h) (plX h) 3 = Int32.toInt 32 := (by unfold cs; rw [show plX h + ((3 : Nat) : Int) = plX h + 1 + 1 + 1 by omega]; exact c18)); unfold IW; rw [lcp_y k0, lcp_y k1, lcp_y k2, lcp_y k3, lcp_0]))⟩, (by rw [(show lcp IW (cs (BX h) (plX h)) 0 = 4 from (by (have k0 : cs (BX h) (plX h) 0 = Int32.toInt 32 := (by unfold cs; rw [show plX h + ((0 : Nat) : Int) = plX h by omega]; exact c3)); (have k1 : cs (BX h) (plX h) 1 = Int32.toInt 105 := (by unfold cs; rw [show plX h + ((1 : Nat) : Int) = plX h + 1 by omega]; exact c8)); (have k2 : cs (BX h) (plX h) 2 = Int32.toInt 102 := (by unfold cs; rw [show plX h + ((2 : Nat) : Int) = plX h + 1 + 1 by omega]; exact c13)); (have k3 : cs (BX h) (plX h) 3 = Int32.toInt 32 := (by unfold cs; rw [show plX h + ((3 : Nat) : Int) = plX h + 1 + 1 + 1 by omega]; exact c18)); unfold IW; rw [lcp_y k0, lcp_y k1, lcp_y k2, lcp_y k3, lcp_0])), p18]; omega)⟩
        · subst x18
          have c18 : (BX h (plX h + 1 + 1 + 1)).toInt ≠ 32 := cs18
          clear cs18
          show EvP _ _ _ (21, [(1, .int 3), (0, .ref 81)], [.int 0], h18) _
          refine tz_ne (p2 := 24) rfl rfl (show Int32.toInt 0 = 0 from rfl) (fun c22 => absurd c22 (by omega)) (fun c22 => ?_)
          refine te_iconst (p2 := 25) (x := 0) rfl rfl (by decide) ?_
          exact te_zret rfl rfl (by decide) ⟨I18, f18, _, rfl, Or.inr ⟨rfl, (by rw [(show lcp IW (cs (BX h) (plX h)) 0 = 3 from (by (have k0 : cs (BX h) (plX h) 0 = Int32.toInt 32 := (by unfold cs; rw [show plX h + ((0 : Nat) : Int) = plX h by omega]; exact c3)); (have k1 : cs (BX h) (plX h) 1 = Int32.toInt 105 := (by unfold cs; rw [show plX h + ((1 : Nat) : Int) = plX h + 1 by omega]; exact c8)); (have k2 : cs (BX h) (plX h) 2 = Int32.toInt 102 := (by unfold cs; rw [show plX h + ((2 : Nat) : Int) = plX h + 1 + 1 by omega]; exact c13)); (have k3 : cs (BX h) (plX h) 3 ≠ Int32.toInt 32 := (by unfold cs; rw [show plX h + ((3 : Nat) : Int) = plX h + 1 + 1 + 1 by omega]; exact c18)); unfold IW; rw [lcp_y k0, lcp_y k1, lcp_y k2, lcp_n k3]))]; decide)⟩, (by rw [(show lcp IW (cs (BX h) (plX h)) 0 = 3 from (by (have k0 : cs (BX h) (plX h) 0 = Int32.toInt 32 := (by unfold cs; rw [show plX h + ((0 : Nat) : Int) = plX h by omega]; exact c3)); (have k1 : cs (BX h) (plX h) 1 = Int32.toInt 105 := (by unfold cs; rw [show plX h + ((1 : Nat) : Int) = plX h + 1 by omega]; exact c8)); (have k2 : cs (BX h) (plX h) 2 = Int32.toInt 102 := (by unfold cs; rw [show plX h + ((2 : Nat) : Int) = plX h + 1 + 1 by omega]; exact c13)); (have k3 : cs (BX h) (plX h) 3 ≠ Int32.toInt 32 := (by unfold cs; rw [show plX h + ((3 : Nat) : Int) = plX h + 1 + 1 + 1 by omega]; exact c18)); unfold IW; rw [lcp_y k0, lcp_y k1, lcp_y k2, lcp_n k3])), p18]; omega)⟩
      · subst x13
        have c13 : (BX h (plX h + 1 + 1)).toInt ≠ 102 := cs13
        clear cs13
        show EvP _ _ _ (21, [(1, .int 2), (0, .ref 81)], [.int 0], h13) _
        refine tz_ne (p2 := 24) rfl rfl (show Int32.toInt 0 = 0 from rfl) (fun c23 => absurd c23 (by omega)) (fun c23 => ?_)
        refine te_iconst (p2 := 25) (x := 0) rfl rfl (by decide) ?_
        exact te_zret rfl rfl (by decide) ⟨I13, f13, _, rfl, Or.inr ⟨rfl, (by rw [(show lcp IW (cs (BX h) (plX h)) 0 = 2 from (by (have k0 : cs (BX h) (plX h) 0 = Int32.toInt 32 := (by unfold cs; rw [show plX h + ((0 : Nat) : Int) = plX h by omega]; exact c3)); (have k1 : cs (BX h) (plX h) 1 = Int32.toInt 105 := (by unfold cs; rw [show plX h + ((1 : Nat) : Int) = plX h + 1 by omega]; exact c8)); (have k2 : cs (BX h) (plX h) 2 ≠ Int32.toInt 102 := (by unfold cs; rw [show plX h + ((2 : Nat) : Int) = plX h + 1 + 1 by omega]; exact c13)); unfold IW; rw [lcp_y k0, lcp_y k1, lcp_n k2]))]; decide)⟩, (by rw [(show lcp IW (cs (BX h) (plX h)) 0 = 2 from (by (have k0 : cs (BX h) (plX h) 0 = Int32.toInt 32 := (by unfold cs; rw [show plX h + ((0 : Nat) : Int) = plX h by omega]; exact c3)); (have k1 : cs (BX h) (plX h) 1 = Int32.toInt 105 := (by unfold cs; rw [show plX h + ((1 : Nat) : Int) = plX h + 1 by omega]; exact c8)); (have k2 : cs (BX h) (plX h) 2 ≠ Int32.toInt 102 := (by unfold cs; rw [show plX h + ((2 : Nat) : Int) = plX h + 1 + 1 by omega]; exact c13)); unfold IW; rw [lcp_y k0, lcp_y k1, lcp_n k2])), p13]; omega)⟩
    · subst x8
      have c8 : (BX h (plX h + 1)).toInt ≠ 105 := cs8
      clear cs8
      show EvP _ _ _ (21, [(1, .int 1), (0, .ref 81)], [.int 0], h8) _
      refine tz_ne (p2 := 24) rfl rfl (show Int32.toInt 0 = 0 from rfl) (fun c24 => absurd c24 (by omega)) (fun c24 => ?_)
      refine te_iconst (p2 := 25) (x := 0) rfl rfl (by decide) ?_
      exact te_zret rfl rfl (by decide) ⟨I8, f8, _, rfl, Or.inr ⟨rfl, (by rw [(show lcp IW (cs (BX h) (plX h)) 0 = 1 from (by (have k0 : cs (BX h) (plX h) 0 = Int32.toInt 32 := (by unfold cs; rw [show plX h + ((0 : Nat) : Int) = plX h by omega]; exact c3)); (have k1 : cs (BX h) (plX h) 1 ≠ Int32.toInt 105 := (by unfold cs; rw [show plX h + ((1 : Nat) : Int) = plX h + 1 by omega]; exact c8)); unfold IW; rw [lcp_y k0, lcp_n k1]))]; decide)⟩, (by rw [(show lcp IW (cs (BX h) (plX h)) 0 = 1 from (by (have k0 : cs (BX h) (plX h) 0 = Int32.toInt 32 := (by unfold cs; rw [show plX h + ((0 : Nat) : Int) = plX h by omega]; exact c3)); (have k1 : cs (BX h) (plX h) 1 ≠ Int32.toInt 105 := (by unfold cs; rw [show plX h + ((1 : Nat) : Int) = plX h + 1 by omega]; exact c8)); unfold IW; rw [lcp_y k0, lcp_n k1])), p8]; omega)⟩
  · subst x3
    have c3 : (BX h (plX h)).toInt ≠ 32 := cs3
    clear cs3
    show EvP _ _ _ (21, [(1, .int 0), (0, .ref 81)], [.int 0], h3) _
    refine tz_ne (p2 := 24) rfl rfl (show Int32.toInt 0 = 0 from rfl) (fun c25 => absurd c25 (by omega)) (fun c25 => ?_)
    refine te_iconst (p2 := 25) (x := 0) rfl rfl (by decide) ?_
    exact te_zret rfl rfl (by decide) ⟨I3, f3, _, rfl, Or.inr ⟨rfl, (by rw [(show lcp IW (cs (BX h) (plX h)) 0 = 0 from (by (have k0 : cs (BX h) (plX h) 0 ≠ Int32.toInt 32 := (by unfold cs; rw [show plX h + ((0 : Nat) : Int) = plX h by omega]; exact c3)); unfold IW; rw [lcp_n k0]))]; decide)⟩, (by rw [(show lcp IW (cs (BX h) (plX h)) 0 = 0 from (by (have k0 : cs (BX h) (plX h) 0 ≠ Int32.toInt 32 := (by unfold cs; rw [show plX h + ((0 : Nat) : Int) = plX h by omega]; exact c3)); unfold IW; rw [lcp_n k0])), p3]; omega)⟩
set_option maxRecDepth 20000 in
set_option maxHeartbeats 4000000 in
theorem c_X10_readTest {o : Nat} {test : Int32} {ln : Int32} {gc : Int32} {h : im_H} (hI : tI h) (q_o : o = 98 ∨ o = 105 ∨ o = 112 ∨ o = 119 ∨ o = 126 ∨ o = 133) (p_test0 : 0 ≤ test.toInt) (p_test1 : test.toInt ≤ 23) (hg0 : rd h (o + 3) ln.toInt.toNat = some (.int gc)) (ga0 : 0 ≤ gc.toInt) (gb0 : gc.toInt ≤ 2) (pr0 : 0 ≤ ln.toInt) (pr1 : ln.toInt ≤ 7) (pr2 : test.toInt = 3 * ln.toInt + gc.toInt) : CaP 3 55 [.ref 81, .ref (16 + o), .int test] h (fun v h2 => tI h2 ∧ fr (F_X10_readTest o) h h2 ∧ ∃ y : Int32, v = some (.int y) ∧ ((y = 1 ∧ tsO (BX h) (plX h)) ∨ (y = 0 ∧ ¬ tsO (BX h) (plX h))) ∧ plX h2 = tsP (BX h) (plX h) ∧ (y = 1 → tsC h2 o test.toInt.toNat (BX h) (plX h)) ∧ (∀ m : Nat, m ≠ test.toInt.toNat → rd h2 (o + 4) m = rd h (o + 4) m ∧ rd h2 (o + 5) m = rd h (o + 5) m ∧ rd h2 (o + 6) m = rd h (o + 6) m)) := by
  refine cap_of (d := 2) (M := mX10_readTest) rfl (Nat.le_of_ble_eq_true rfl) ?_
  show EvP im_K0 2 mX10_readTest (0, [(0, .ref 81), (1, .ref (16 + o)), (2, .int test)], [], h) _
  have f0 : fr (F_X10_readTest o) h h := fr_rf
  refine te_aload_n (p2 := 1) rfl rfl rfl ?_
  refine tg_r (p2 := 4) (i := o) (r := (16 + (o + 4))) rfl rfl hI rfl (by rcases q_o with rfl | rfl | rfl | rfl | rfl | rfl <;> rfl) (by rcases q_o with rfl | rfl | rfl | rfl | rfl | rfl <;> rfl) ?_
  refine te_iload_n (p2 := 5) rfl rfl rfl ?_
  refine te_aload_n (p2 := 6) rfl rfl rfl ?_
  refine te_ldc (p2 := 8) rfl rfl (by decide) ?_
  refine tc_V (p2 := 11) (i := 65) rfl rfl rfl rfl hI rfl rfl rfl (c_X10_readWord_2  hI ) (by decide) (fun v1 h1 hq1 => ?_)
  obtain ⟨I1, g1, y1, w1, Qa1, Qb1⟩ := hq1
  subst w1
  have f1 := fr_tr (F1 := F_X10_readWord_2) (F := (F_X10_readTest o)) f0 g1 (by rcases q_o with rfl | rfl | rfl | rfl | rfl | rfl <;> decide)
  have yb1 := wdF_b (cs (BX h) (plX h))
  rw [← Qa1] at yb1
  show EvP _ _ _ (11, [(0, .ref 81), (1, .ref (16 + o)), (2, .int test)], [.int y1, .int test, .ref (16 + (o + 4))], h1) _
  refine ts_iO (p2 := 12) (i := (o + 4)) (n := 24) rfl rfl I1 rfl (by rcases q_o with rfl | rfl | rfl | rfl | rfl | rfl <;> rfl) (by rcases q_o with rfl | rfl | rfl | rfl | rfl | rfl <;> rfl) rfl (by omega) (by omega) (by omega) (by omega) (by omega) (fun h2 hu => tO_field (c := gc) (l := ln.toInt.toNat) I1.2.2 (by rcases q_o with rfl | rfl | rfl | rfl | rfl | rfl <;> decide) ((g1 _ _ (by rcases q_o with rfl | rfl | rfl | rfl | rfl | rfl <;> rfl)).trans hg0) (by omega) (by omega) (by omega) hu) (fun h2 I2 u2 => ?_)
  have f2 := fr_st (F := (F_X10_readTest o)) 0 f1 u2 rfl (by omega) (by omega)
  refine te_aload_n (p2 := 13) rfl rfl rfl ?_
  refine tg_r (p2 := 16) (i := o) (r := (16 + (o + 4))) rfl rfl I2 rfl (by rcases q_o with rfl | rfl | rfl | rfl | rfl | rfl <;> rfl) (by rcases q_o with rfl | rfl | rfl | rfl | rfl | rfl <;> rfl) ?_
  refine te_iload_n (p2 := 17) rfl rfl rfl ?_
  refine tl_e (p2 := 18) (i := (o + 4)) (n := 24) (t := 0) (Or.inl rfl) rfl rfl I2 rfl (by rcases q_o with rfl | rfl | rfl | rfl | rfl | rfl <;> rfl) (by omega) (by omega) u2.1 ?_
  refine tz_ge (p2 := 21) rfl rfl rfl (fun c4 => ?_) (fun c4 => ?_)
  · refine te_aload_n (p2 := 24) rfl rfl rfl ?_
    refine tg_r (p2 := 27) (i := o) (r := (16 + (o + 5))) rfl rfl I2 rfl (by rcases q_o with rfl | rfl | rfl | rfl | rfl | rfl <;> rfl) (by rcases q_o with rfl | rfl | rfl | rfl | rfl | rfl <;> rfl) ?_
    refine te_iload_n (p2 := 28) rfl rfl rfl ?_
    refine te_aload_n (p2 := 29) rfl rfl rfl ?_
    refine te_ldc (p2 := 31) rfl rfl (by decide) ?_
    refine tc_V (p2 := 34) (i := 65) rfl rfl rfl rfl I2 rfl rfl rfl (c_X10_readWord_3  I2 ) (by decide) (fun v5 h5 hq5 => ?_)
    obtain ⟨I5, g5, y5, w5, Qa5, Qb5⟩ := hq5
    subst w5
    rw [(BX_fr f2 (by rcases q_o with rfl | rfl | rfl | rfl | rfl | rfl <;> rfl) (fun _ => (by rcases q_o with rfl | rfl | rfl | rfl | rfl | rfl <;> rfl))), ((plX_e (u2.2 _ _ (Or.inl (by omega)))).trans Qb1)] at Qa5 Qb5
    have f5 := fr_tr (F1 := F_X10_readWord_3) (F := (F_X10_readTest o)) f2 g5 (by rcases q_o with rfl | rfl | rfl | rfl | rfl | rfl <;> decide)
    show EvP _ _ _ (34, [(0, .ref 81), (1, .ref (16 + o)), (2, .int test)], [.int y5, .int test, .ref (16 + (o + 5))], h5) _
    refine ts_i (p2 := 35) (i := (o + 5)) (n := 24) rfl rfl I5 rfl (by rcases q_o with rfl | rfl | rfl | rfl | rfl | rfl <;> rfl) (by rcases q_o with rfl | rfl | rfl | rfl | rfl | rfl <;> rfl) rfl (by omega) (by omega) (i32_lo _) (i32_hi _) (i32_ho _) (by rcases q_o with rfl | rfl | rfl | rfl | rfl | rfl <;> rfl) (fun h6 I6 u6 => ?_)
    have f6 := fr_st (F := (F_X10_readTest o)) 1 f5 u6 rfl (by omega) (by omega)
    refine te_aload_n (p2 := 36) rfl rfl rfl ?_
    refine tg_r (p2 := 39) (i := o) (r := (16 + (o + 5))) rfl rfl I6 rfl (by rcases q_o with rfl | rfl | rfl | rfl | rfl | rfl <;> rfl) (by rcases q_o with rfl | rfl | rfl | rfl | rfl | rfl <;> rfl) ?_
    refine te_iload_n (p2 := 40) rfl rfl rfl ?_
    refine tl_e (p2 := 41) (i := (o + 5)) (n := 24) (t := 0) (Or.inl rfl) rfl rfl I6 rfl (by rcases q_o with rfl | rfl | rfl | rfl | rfl | rfl <;> rfl) (by omega) (by omega) u6.1 ?_
    refine tz_ge (p2 := 44) rfl rfl rfl (fun c8 => ?_) (fun c8 => ?_)
    · refine te_aload_n (p2 := 47) rfl rfl rfl ?_
      refine tg_r (p2 := 50) (i := o) (r := (16 + (o + 6))) rfl rfl I6 rfl (by rcases q_o with rfl | rfl | rfl | rfl | rfl | rfl <;> rfl) (by rcases q_o with rfl | rfl | rfl | rfl | rfl | rfl <;> rfl) ?_
      refine te_iload_n (p2 := 51) rfl rfl rfl ?_
      refine te_aload_n (p2 := 52) rfl rfl rfl ?_
      refine tc_V (p2 := 55) (i := 65) rfl rfl rfl rfl I6 rfl rfl rfl (c_X10_readNumber  I6 ) (by decide) (fun v9 h9 hq9 => ?_)
      obtain ⟨I9, g9, y9, w9, Qa9, Qb9⟩ := hq9
      subst w9
      rw [(BX_fr f6 (by rcases q_o with rfl | rfl | rfl | rfl | rfl | rfl <;> rfl) (fun _ => (by rcases q_o with rfl | rfl | rfl | rfl | rfl | rfl <;> rfl))), ((plX_e (u6.2 _ _ (Or.inl (by omega)))).trans Qb5)] at Qa9 Qb9
      have f9 := fr_tr (F1 := F_X10_readNumber) (F := (F_X10_readTest o)) f6 g9 (by rcases q_o with rfl | rfl | rfl | rfl | rfl | rfl <;> decide)
      show EvP _ _ _ (55, [(0, .ref 81), (1, .ref (16 + o)), (2, .int test)], [.int y9, .int test, .ref (16 + (o + 6))], h9) _
      refine ts_i (p2 := 56) (i := (o + 6)) (n := 24) rfl rfl I9 rfl (by rcases q_o with rfl | rfl | rfl | rfl | rfl | rfl <;> rfl) (by rcases q_o with rfl | rfl | rfl | rfl | rfl | rfl <;> rfl) rfl (by omega) (by omega) (i32_lo _) (i32_hi _) (i32_ho _) (by rcases q_o with rfl | rfl | rfl | rfl | rfl | rfl <;> rfl) (fun h10 I10 u10 => ?_)
      have f10 := fr_st (F := (F_X10_readTest o)) 2 f9 u10 rfl (by omega) (by omega)
      refine te_aload_n (p2 := 57) rfl rfl rfl ?_
      refine tg_r (p2 := 60) (i := o) (r := (16 + (o + 6))) rfl rfl I10 rfl (by rcases q_o with rfl | rfl | rfl | rfl | rfl | rfl <;> rfl) (by rcases q_o with rfl | rfl | rfl | rfl | rfl | rfl <;> rfl) ?_
      refine te_iload_n (p2 := 61) rfl rfl rfl ?_
      refine tl_e (p2 := 62) (i := (o + 6)) (n := 24) (t := 0) (Or.inl rfl) rfl rfl I10 rfl (by rcases q_o with rfl | rfl | rfl | rfl | rfl | rfl <;> rfl) (by omega) (by omega) u10.1 ?_
      refine tz_lt (p2 := 65) rfl rfl rfl (fun c12 => ?_) (fun c12 => ?_)
      · refine te_iconst (p2 := 70) (x := 0) rfl rfl (by decide) ?_
        exact te_zret rfl rfl (by decide) ⟨I10, f10, _, rfl, Or.inr ⟨rfl, (fun q => by (have q0 := Qa1); (have sq := (sw_sg (b := cs (BX h) (plX h + ((wdF FW (cs (BX h) (plX h)) 0 0).2 : Int))))); rw [cs_0] at sq; (have q1 := Qa5); rw [sq.1] at q1; (have q1 : _ = tsS (BX h) (plX h) := q1); (have sq2 : _ = (if 0 ≤ tsS (BX h) (plX h) then (1 : Int) else 0) := sq.2); rw [if_pos (by omega)] at sq2; (have q2 := Qa9); rw [sq2] at q2; (have q2 : _ = (tsN (BX h) (plX h)).1 := q2); (have h9 := q.2.2); omega)⟩, (by (have q0 := Qa1); (have sq := (sw_sg (b := cs (BX h) (plX h + ((wdF FW (cs (BX h) (plX h)) 0 0).2 : Int))))); rw [cs_0] at sq; (have q1 := Qa5); rw [sq.1] at q1; (have q1 : _ = tsS (BX h) (plX h) := q1); (have sq2 : _ = (if 0 ≤ tsS (BX h) (plX h) then (1 : Int) else 0) := sq.2); rw [if_pos (by omega)] at sq2; (have q2 := Qa9); rw [sq2] at q2; (have q2 : _ = (tsN (BX h) (plX h)).1 := q2); unfold tsP; rw [if_pos ⟨by omega, by omega⟩, ((plX_e (u10.2 _ _ (Or.inl (by omega)))).trans Qb9), sq2]; rfl), (fun h9 => absurd h9 (by decide)), (fun m hm => ⟨((u10.2 _ _ (Or.inl (by omega))).trans ((g9 _ _ (by rcases q_o with rfl | rfl | rfl | rfl | rfl | rfl <;> rfl)).trans ((u6.2 _ _ (Or.inl (by omega))).trans ((g5 _ _ (by rcases q_o with rfl | rfl | rfl | rfl | rfl | rfl <;> rfl)).trans ((u2.2 _ _ (Or.inr hm)).trans (g1 _ _ (by rcases q_o with rfl | rfl | rfl | rfl | rfl | rfl <;> rfl))))))), ((u10.2 _ _ (Or.inl (by omega))).trans ((g9 _ _ (by rcases q_o with rfl | rfl | rfl | rfl | rfl | rfl <;> rfl)).trans ((u6.2 _ _ (Or.inr hm)).trans ((g5 _ _ (by rcases q_o with rfl | rfl | rfl | rfl | rfl | rfl <;> rfl)).trans ((u2.2 _ _ (Or.inl (by omega))).trans (g1 _ _ (by rcases q_o with rfl | rfl | rfl | rfl | rfl | rfl <;> rfl))))))), ((u10.2 _ _ (Or.inr hm)).trans ((g9 _ _ (by rcases q_o with rfl | rfl | rfl | rfl | rfl | rfl <;> rfl)).trans ((u6.2 _ _ (Or.inl (by omega))).trans ((g5 _ _ (by rcases q_o with rfl | rfl | rfl | rfl | rfl | rfl <;> rfl)).trans ((u2.2 _ _ (Or.inl (by omega))).trans (g1 _ _ (by rcases q_o with rfl | rfl | rfl | rfl | rfl | rfl <;> rfl)))))))⟩)⟩
      · refine te_iconst (p2 := 66) (x := 1) rfl rfl (by decide) ?_
        refine te_goto rfl ?_
        exact te_zret rfl rfl (by decide) ⟨I10, f10, _, rfl, Or.inl ⟨rfl, (show tsO (BX h) (plX h) from (by (have q0 := Qa1); (have sq := (sw_sg (b := cs (BX h) (plX h + ((wdF FW (cs (BX h) (plX h)) 0 0).2 : Int))))); rw [cs_0] at sq; (have q1 := Qa5); rw [sq.1] at q1; (have q1 : _ = tsS (BX h) (plX h) := q1); (have sq2 : _ = (if 0 ≤ tsS (BX h) (plX h) then (1 : Int) else 0) := sq.2); rw [if_pos (by omega)] at sq2; (have q2 := Qa9); rw [sq2] at q2; (have q2 : _ = (tsN (BX h) (plX h)).1 := q2); exact ⟨by omega, by omega, by omega⟩))⟩, (by (have q0 := Qa1); (have sq := (sw_sg (b := cs (BX h) (plX h + ((wdF FW (cs (BX h) (plX h)) 0 0).2 : Int))))); rw [cs_0] at sq; (have q1 := Qa5); rw [sq.1] at q1; (have q1 : _ = tsS (BX h) (plX h) := q1); (have sq2 : _ = (if 0 ≤ tsS (BX h) (plX h) then (1 : Int) else 0) := sq.2); rw [if_pos (by omega)] at sq2; (have q2 := Qa9); rw [sq2] at q2; (have q2 : _ = (tsN (BX h) (plX h)).1 := q2); unfold tsP; rw [if_pos ⟨by omega, by omega⟩, ((plX_e (u10.2 _ _ (Or.inl (by omega)))).trans Qb9), sq2]; rfl), (fun _ => by (have q0 := Qa1); (have sq := (sw_sg (b := cs (BX h) (plX h + ((wdF FW (cs (BX h) (plX h)) 0 0).2 : Int))))); rw [cs_0] at sq; (have q1 := Qa5); rw [sq.1] at q1; (have q1 : _ = tsS (BX h) (plX h) := q1); (have sq2 : _ = (if 0 ≤ tsS (BX h) (plX h) then (1 : Int) else 0) := sq.2); rw [if_pos (by omega)] at sq2; (have q2 := Qa9); rw [sq2] at q2; (have q2 : _ = (tsN (BX h) (plX h)).1 := q2); exact ⟨y1, y5, y9, ((u10.2 _ _ (Or.inl (by omega))).trans ((g9 _ _ (by rcases q_o with rfl | rfl | rfl | rfl | rfl | rfl <;> rfl)).trans ((u6.2 _ _ (Or.inl (by omega))).trans ((g5 _ _ (by rcases q_o with rfl | rfl | rfl | rfl | rfl | rfl <;> rfl)).trans u2.1)))), q0, ((u10.2 _ _ (Or.inl (by omega))).trans ((g9 _ _ (by rcases q_o with rfl | rfl | rfl | rfl | rfl | rfl <;> rfl)).trans u6.1)), q1, u10.1, q2⟩), (fun m hm => ⟨((u10.2 _ _ (Or.inl (by omega))).trans ((g9 _ _ (by rcases q_o with rfl | rfl | rfl | rfl | rfl | rfl <;> rfl)).trans ((u6.2 _ _ (Or.inl (by omega))).trans ((g5 _ _ (by rcases q_o with rfl | rfl | rfl | rfl | rfl | rfl <;> rfl)).trans ((u2.2 _ _ (Or.inr hm)).trans (g1 _ _ (by rcases q_o with rfl | rfl | rfl | rfl | rfl | rfl <;> rfl))))))), ((u10.2 _ _ (Or.inl (by omega))).trans ((g9 _ _ (by rcases q_o with rfl | rfl | rfl | rfl | rfl | rfl <;> rfl)).trans ((u6.2 _ _ (Or.inr hm)).trans ((g5 _ _ (by rcases q_o with rfl | rfl | rfl | rfl | rfl | rfl <;> rfl)).trans ((u2.2 _ _ (Or.inl (by omega))).trans (g1 _ _ (by rcases q_o with rfl | rfl | rfl | rfl | rfl | rfl <;> rfl))))))), ((u10.2 _ _ (Or.inr hm)).trans ((g9 _ _ (by rcases q_o with rfl | rfl | rfl | rfl | rfl | rfl <;> rfl)).trans ((u6.2 _ _ (Or.inl (by omega))).trans ((g5 _ _ (by rcases q_o with rfl | rfl | rfl | rfl | rfl | rfl <;> rfl)).trans ((u2.2 _ _ (Or.inl (by omega))).trans (g1 _ _ (by rcases q_o with rfl | rfl | rfl | rfl | rfl | rfl <;> rfl)))))))⟩)⟩
    · refine te_iconst (p2 := 45) (x := 0) rfl rfl (by decide) ?_
      exact te_zret rfl rfl (by decide) ⟨I6, f6, _, rfl, Or.inr ⟨rfl, (fun q => by (have q0 := Qa1); (have sq := (sw_sg (b := cs (BX h) (plX h + ((wdF FW (cs (BX h) (plX h)) 0 0).2 : Int))))); rw [cs_0] at sq; (have q1 := Qa5); rw [sq.1] at q1; (have q1 : _ = tsS (BX h) (plX h) := q1); (have sq2 : _ = (if 0 ≤ tsS (BX h) (plX h) then (1 : Int) else 0) := sq.2); (have h9 := q.2.1); omega)⟩, (by (have q0 := Qa1); (have sq := (sw_sg (b := cs (BX h) (plX h + ((wdF FW (cs (BX h) (plX h)) 0 0).2 : Int))))); rw [cs_0] at sq; (have q1 := Qa5); rw [sq.1] at q1; (have q1 : _ = tsS (BX h) (plX h) := q1); (have sq2 : _ = (if 0 ≤ tsS (BX h) (plX h) then (1 : Int) else 0) := sq.2); rw [if_neg (by omega)] at sq2; unfold tsP; rw [if_neg (fun q => by (have h9 := q.2); omega), ((plX_e (u6.2 _ _ (Or.inl (by omega)))).trans Qb5), sq2]; show _ = plX h + _; omega), (fun h9 => absurd h9 (by decide)), (fun m hm => ⟨((u6.2 _ _ (Or.inl (by omega))).trans ((g5 _ _ (by rcases q_o with rfl | rfl | rfl | rfl | rfl | rfl <;> rfl)).trans ((u2.2 _ _ (Or.inr hm)).trans (g1 _ _ (by rcases q_o with rfl | rfl | rfl | rfl | rfl | rfl <;> rfl))))), ((u6.2 _ _ (Or.inr hm)).trans ((g5 _ _ (by rcases q_o with rfl | rfl | rfl | rfl | rfl | rfl <;> rfl)).trans ((u2.2 _ _ (Or.inl (by omega))).trans (g1 _ _ (by rcases q_o with rfl | rfl | rfl | rfl | rfl | rfl <;> rfl))))), ((u6.2 _ _ (Or.inl (by omega))).trans ((g5 _ _ (by rcases q_o with rfl | rfl | rfl | rfl | rfl | rfl <;> rfl)).trans ((u2.2 _ _ (Or.inl (by omega))).trans (g1 _ _ (by rcases q_o with rfl | rfl | rfl | rfl | rfl | rfl <;> rfl)))))⟩)⟩
  · refine te_iconst (p2 := 22) (x := 0) rfl rfl (by decide) ?_
    exact te_zret rfl rfl (by decide) ⟨I2, f2, _, rfl, Or.inr ⟨rfl, (fun q => by (have q0 := Qa1); (have h9 := q.1); omega)⟩, (by (have q0 := Qa1); unfold tsP; rw [if_neg (fun q => by (have h9 := q.1); omega), ((plX_e (u2.2 _ _ (Or.inl (by omega)))).trans Qb1)]; rfl), (fun h9 => absurd h9 (by decide)), (fun m hm => ⟨((u2.2 _ _ (Or.inr hm)).trans (g1 _ _ (by rcases q_o with rfl | rfl | rfl | rfl | rfl | rfl <;> rfl))), ((u2.2 _ _ (Or.inl (by omega))).trans (g1 _ _ (by rcases q_o with rfl | rfl | rfl | rfl | rfl | rfl <;> rfl))), ((u2.2 _ _ (Or.inl (by omega))).trans (g1 _ _ (by rcases q_o with rfl | rfl | rfl | rfl | rfl | rfl <;> rfl)))⟩)⟩
set_option maxRecDepth 20000 in
set_option maxHeartbeats 4000000 in
theorem c_X10_readTests {o : Nat} {line : Int32} {gc : Int32} {h : im_H} (hI : tI h) (q_o : o = 98 ∨ o = 105 ∨ o = 112 ∨ o = 119 ∨ o = 126 ∨ o = 133) (p_line0 : 0 ≤ line.toInt) (p_line1 : line.toInt ≤ 7) (hg0 : rd h (o + 3) line.toInt.toNat = some (.int gc)) (ga0 : 0 ≤ gc.toInt) (gb0 : gc.toInt ≤ 0) : CaP 4 54 [.ref 81, .ref (16 + o), .int line] h (fun v h2 => tI h2 ∧ fr (F_X10_readTests o) h h2 ∧ ∃ y : Int32, v = some (.int y) ∧ ((y = 1 ∧ 0 ≤ (ttR (BX h) (plX h)).1) ∨ (y = 0 ∧ (ttR (BX h) (plX h)).1 < 0)) ∧ plX h2 = (ttR (BX h) (plX h)).2 ∧ (y = 1 → ∃ c : Int32, rd h2 (o + 3) line.toInt.toNat = some (.int c) ∧ c.toInt = (ttR (BX h) (plX h)).1 ∧ ∀ t : Nat, (t : Int) < (ttR (BX h) (plX h)).1 → tsC h2 o (3 * line.toInt.toNat + t) (BX h) (ut (BX h) (plX h) t)) ∧ (∀ m : Nat, ¬ (3 * line.toInt.toNat ≤ m ∧ m < 3 * line.toInt.toNat + 3) → rd h2 (o + 4) m = rd h (o + 4) m ∧ rd h2 (o + 5) m = rd h (o + 5) m ∧ rd h2 (o + 6) m = rd h (o + 6) m) ∧ (∀ m : Nat, m ≠ line.toInt.toNat → rd h2 (o + 3) m = rd h (o + 3) m)) := by
  refine cap_of (d := 3) (M := mX10_readTests) rfl (Nat.le_of_ble_eq_true rfl) ?_
  show EvP im_K0 3 mX10_readTests (0, [(0, .ref 81), (1, .ref (16 + o)), (2, .int line)], [], h) _
  have f0 : fr (F_X10_readTests o) h h := fr_rf
  refine te_iconst (p2 := 1) (x := 0) rfl rfl (by decide) ?_
  refine te_istore_n (p2 := 2) (lv2 := [(3, .int 0), (0, .ref 81), (1, .ref (16 + o)), (2, .int line)]) rfl rfl (by decide) rfl ?_
  refine te_iload_n (p2 := 3) rfl rfl rfl ?_
  refine te_iconst (p2 := 4) (x := 3) rfl rfl (by decide) ?_
  refine tb_ge (p2 := 7) rfl rfl (show Int32.toInt 0 = 0 from rfl) (show Int32.toInt 3 = 3 from rfl) (fun c1 => absurd c1 (by omega)) (fun c1 => ?_)
  refine te_aload_n (p2 := 8) rfl rfl rfl ?_
  refine te_aload_n (p2 := 9) rfl rfl rfl ?_
  refine te_iconst (p2 := 10) (x := 3) rfl rfl (by decide) ?_
  refine te_iload_n (p2 := 11) rfl rfl rfl ?_
  refine ar_mul (p2 := 12) rfl rfl (show Int32.toInt 3 = 3 from rfl) rfl (by omega) (by omega) (fun z2 e2 f2 => ?_)
  refine te_iload_n (p2 := 13) rfl rfl rfl ?_
  refine ar_add (p2 := 14) rfl rfl rfl (show Int32.toInt 0 = 0 from rfl) (by omega) (by omega) (fun z3 e3 f3 => ?_)
  refine tc_V (p2 := 17) (i := 65) rfl rfl rfl rfl hI rfl rfl rfl (c_X10_readTest (o := o) (test := z3) (ln := line) (gc := gc) hI q_o (by omega) (by omega) hg0 (by omega) (by omega) (by omega) (by omega) (by omega)) (by decide) (fun v4 h4 hq4 => ?_)
  obtain ⟨I4, g4, y4, w4, Qa4, Qb4, Qc4, K4⟩ := hq4
  subst w4
  have f4 := fr_tr (F1 := (F_X10_readTest o)) (F := (F_X10_readTests o)) f0 g4 (by rcases q_o with rfl | rfl | rfl | rfl | rfl | rfl <;> decide)
  rcases Qa4 with ⟨r4, O4⟩ | ⟨r4, O4⟩
  · subst r4
    have C4 := Qc4 rfl
    obtain ⟨c4, _, _, ec4, fc4, _⟩ := Qc4 rfl
    have fc4 : 0 ≤ c4.toInt := by (have h9 := O4.1); omega
    show EvP _ _ _ (17, [(3, .int 0), (0, .ref 81), (1, .ref (16 + o)), (2, .int line)], [.int 1], h4) _
    refine tz_ne (p2 := 20) rfl rfl (show Int32.toInt 1 = 1 from rfl) (fun c5 => ?_) (fun c5 => absurd c5 (by omega))
    refine te_aload_n (p2 := 23) rfl rfl rfl ?_
    refine tg_r (p2 := 26) (i := o) (r := (16 + (o + 3))) rfl rfl I4 rfl (by rcases q_o with rfl | rfl | rfl | rfl | rfl | rfl <;> rfl) (by rcases q_o with rfl | rfl | rfl | rfl | rfl | rfl <;> rfl) ?_
    refine te_iload_n (p2 := 27) rfl rfl rfl ?_
    refine te_dup2 (p2 := 28) rfl rfl ⟨rfl, rfl⟩ ?_
    refine tl_e (p2 := 29) (i := (o + 3)) (n := 8) (t := 0) (Or.inl rfl) rfl rfl I4 rfl (by rcases q_o with rfl | rfl | rfl | rfl | rfl | rfl <;> rfl) (by omega) (by omega) ((g4 _ _ (by rcases q_o with rfl | rfl | rfl | rfl | rfl | rfl <;> rfl)).trans hg0) ?_
    refine te_iconst (p2 := 30) (x := 1) rfl rfl (by decide) ?_
    refine ar_add (p2 := 31) rfl rfl rfl (show Int32.toInt 1 = 1 from rfl) (by omega) (by omega) (fun z7 e7 f7 => ?_)
    refine ts_iO (p2 := 32) (i := (o + 3)) (n := 8) rfl rfl I4 rfl (by rcases q_o with rfl | rfl | rfl | rfl | rfl | rfl <;> rfl) (by rcases q_o with rfl | rfl | rfl | rfl | rfl | rfl <;> rfl) rfl (by omega) (by omega) (by omega) (by omega) (by omega) (fun h2 hu => tO_inc (c := gc) (z := z7) (l := line.toInt.toNat) (k := z3.toInt.toNat) (f0 := c4) I4.2.2 (by rcases q_o with rfl | rfl | rfl | rfl | rfl | rfl <;> decide) ((g4 _ _ (by rcases q_o with rfl | rfl | rfl | rfl | rfl | rfl <;> rfl)).trans hg0) (by omega) (by omega) ec4 (by omega) hu) (fun h8 I8 u8 => ?_)
    have f8 := fr_st (F := (F_X10_readTests o)) 0 f4 u8 rfl (by omega) (by omega)
    refine te_aload_n (p2 := 33) rfl rfl rfl ?_
    refine te_bipush (p2 := 35) (x := 59) rfl rfl (by decide) ?_
    refine tc_V (p2 := 38) (i := 65) rfl rfl rfl rfl I8 rfl rfl rfl (c_X10_readSign (sign := 59) I8 (by decide) (by decide)) (by decide) (fun v9 h9 hq9 => ?_)
    obtain ⟨I9, g9, y9, w9, Q9⟩ := hq9
    subst w9
    rw [(BX_fr f8 (by rcases q_o with rfl | rfl | rfl | rfl | rfl | rfl <;> rfl) (fun _ => (by rcases q_o with rfl | rfl | rfl | rfl | rfl | rfl <;> rfl))), ((plX_e (u8.2 _ _ (Or.inl (by omega)))).trans Qb4)] at Q9
    have f9 := fr_tr (F1 := F_X10_readSign) (F := (F_X10_readTests o)) f8 g9 (by rcases q_o with rfl | rfl | rfl | rfl | rfl | rfl <;> decide)
    rcases Q9 with ⟨x9, cs9, p9⟩ | ⟨x9, cs9, p9⟩
    · subst x9
      have c9 : (BX h (tsP (BX h) (plX h))).toInt = 59 := cs9
      clear cs9
      show EvP _ _ _ (38, [(3, .int 0), (0, .ref 81), (1, .ref (16 + o)), (2, .int line)], [.int 1], h9) _
      refine tz_eq (p2 := 41) rfl rfl (show Int32.toInt 1 = 1 from rfl) (fun c10 => absurd c10 (by omega)) (fun c10 => ?_)
      refine te_iconst (p2 := 42) (x := 1) rfl rfl (by decide) ?_
      exact te_zret rfl rfl (by decide) ⟨I9, f9, _, rfl, Or.inl ⟨rfl, (by rw [(show ttR (BX h) (plX h) = (1, tsP (BX h) (plX h) + 1) from (by unfold ttR tu3 tu2; rw [if_neg (fun q => q O4), if_pos (show sc (BX h) (tsP (BX h) (plX h)) from c9)]))]; show (0 : Int) ≤ 1; decide)⟩, (by rw [(show ttR (BX h) (plX h) = (1, tsP (BX h) (plX h) + 1) from (by unfold ttR tu3 tu2; rw [if_neg (fun q => q O4), if_pos (show sc (BX h) (tsP (BX h) (plX h)) from c9)])), p9]), (fun _ => ⟨z7, ((g9 _ _ (by rcases q_o with rfl | rfl | rfl | rfl | rfl | rfl <;> rfl)).trans u8.1), (by rw [(show ttR (BX h) (plX h) = (1, tsP (BX h) (plX h) + 1) from (by unfold ttR tu3 tu2; rw [if_neg (fun q => q O4), if_pos (show sc (BX h) (tsP (BX h) (plX h)) from c9)]))]; show z7.toInt = 1; omega), (fun t ht => by (rw [(show ttR (BX h) (plX h) = (1, tsP (BX h) (plX h) + 1) from (by unfold ttR tu3 tu2; rw [if_neg (fun q => q O4), if_pos (show sc (BX h) (tsP (BX h) (plX h)) from c9)]))] at ht); (rcases (show t = 0 by (have ht : (t : Int) < 1 := ht); omega) with rfl); (· (have h9 := (tsC_e C4 ((g9 _ _ (by rcases q_o with rfl | rfl | rfl | rfl | rfl | rfl <;> rfl)).trans (u8.2 _ _ (Or.inl (by omega)))) ((g9 _ _ (by rcases q_o with rfl | rfl | rfl | rfl | rfl | rfl <;> rfl)).trans (u8.2 _ _ (Or.inl (by omega)))) ((g9 _ _ (by rcases q_o with rfl | rfl | rfl | rfl | rfl | rfl <;> rfl)).trans (u8.2 _ _ (Or.inl (by omega)))))); rw [show z3.toInt.toNat = 3 * line.toInt.toNat + 0 by omega] at h9; exact h9))⟩), (fun m hm => ⟨((g9 _ _ (by rcases q_o with rfl | rfl | rfl | rfl | rfl | rfl <;> rfl)).trans ((u8.2 _ _ (Or.inl (by omega))).trans (K4 _ (by omega)).1)), ((g9 _ _ (by rcases q_o with rfl | rfl | rfl | rfl | rfl | rfl <;> rfl)).trans ((u8.2 _ _ (Or.inl (by omega))).trans (K4 _ (by omega)).2.1)), ((g9 _ _ (by rcases q_o with rfl | rfl | rfl | rfl | rfl | rfl <;> rfl)).trans ((u8.2 _ _ (Or.inl (by omega))).trans (K4 _ (by omega)).2.2))⟩), (fun m hm => ((g9 _ _ (by rcases q_o with rfl | rfl | rfl | rfl | rfl | rfl <;> rfl)).trans ((u8.2 _ _ (Or.inr hm)).trans (g4 _ _ (by rcases q_o with rfl | rfl | rfl | rfl | rfl | rfl <;> rfl)))))⟩
    · subst x9
      have c9 : (BX h (tsP (BX h) (plX h))).toInt ≠ 59 := cs9
      clear cs9
      show EvP _ _ _ (38, [(3, .int 0), (0, .ref 81), (1, .ref (16 + o)), (2, .int line)], [.int 0], h9) _
      refine tz_eq (p2 := 41) rfl rfl (show Int32.toInt 0 = 0 from rfl) (fun c11 => ?_) (fun c11 => absurd c11 (by omega))
      refine te_iload_n (p2 := 44) rfl rfl rfl ?_
      refine te_iconst (p2 := 45) (x := 2) rfl rfl (by decide) ?_
      refine tb_eq (p2 := 48) rfl rfl (show Int32.toInt 0 = 0 from rfl) (show Int32.toInt 2 = 2 from rfl) (fun c12 => absurd c12 (by omega)) (fun c12 => ?_)
      refine te_aload_n (p2 := 49) rfl rfl rfl ?_
      refine te_bipush (p2 := 51) (x := 38) rfl rfl (by decide) ?_
      refine tc_V (p2 := 54) (i := 65) rfl rfl rfl rfl I9 rfl rfl rfl (c_X10_readSign (sign := 38) I9 (by decide) (by decide)) (by decide) (fun v13 h13 hq13 => ?_)
      obtain ⟨I13, g13, y13, w13, Q13⟩ := hq13
      subst w13
      rw [(BX_fr f9 (by rcases q_o with rfl | rfl | rfl | rfl | rfl | rfl <;> rfl) (fun _ => (by rcases q_o with rfl | rfl | rfl | rfl | rfl | rfl <;> rfl))), p9] at Q13
      have f13 := fr_tr (F1 := F_X10_readSign) (F := (F_X10_readTests o)) f9 g13 (by rcases q_o with rfl | rfl | rfl | rfl | rfl | rfl <;> decide)
      rcases Q13 with ⟨x13, cs13, p13⟩ | ⟨x13, cs13, p13⟩
      · subst x13
        have c13 : (BX h (tsP (BX h) (plX h))).toInt = 38 := cs13
        clear cs13
        show EvP _ _ _ (54, [(3, .int 0), (0, .ref 81), (1, .ref (16 + o)), (2, .int line)], [.int 1], h13) _
        refine tz_ne (p2 := 57) rfl rfl (show Int32.toInt 1 = 1 from rfl) (fun c14 => ?_) (fun c14 => absurd c14 (by omega))
        refine te_iinc (p2 := 62) (x := 0) (y := 1) (lv2 := [(3, .int 1), (0, .ref 81), (1, .ref (16 + o)), (2, .int line)]) rfl rfl (by decide) rfl (by decide) rfl ?_
        refine te_goto rfl ?_
        refine te_iload_n (p2 := 3) rfl rfl rfl ?_
        refine te_iconst (p2 := 4) (x := 3) rfl rfl (by decide) ?_
        refine tb_ge (p2 := 7) rfl rfl (show Int32.toInt 1 = 1 from rfl) (show Int32.toInt 3 = 3 from rfl) (fun c16 => absurd c16 (by omega)) (fun c16 => ?_)
        refine te_aload_n (p2 := 8) rfl rfl rfl ?_
        refine te_aload_n (p2 := 9) rfl rfl rfl ?_
        refine te_iconst (p2 := 10) (x := 3) rfl rfl (by decide) ?_
        refine te_iload_n (p2 := 11) rfl rfl rfl ?_
        refine ar_mul (p2 := 12) rfl rfl (show Int32.toInt 3 = 3 from rfl) rfl (by omega) (by omega) (fun z17 e17 f17 => ?_)
        refine te_iload_n (p2 := 13) rfl rfl rfl ?_
        refine ar_add (p2 := 14) rfl rfl rfl (show Int32.toInt 1 = 1 from rfl) (by omega) (by omega) (fun z18 e18 f18 => ?_)
        refine tc_V (p2 := 17) (i := 65) rfl rfl rfl rfl I13 rfl rfl rfl (c_X10_readTest (o := o) (test := z18) (ln := line) (gc := z7) I13 q_o (by omega) (by omega) ((g13 _ _ (by rcases q_o with rfl | rfl | rfl | rfl | rfl | rfl <;> rfl)).trans ((g9 _ _ (by rcases q_o with rfl | rfl | rfl | rfl | rfl | rfl <;> rfl)).trans u8.1)) (by omega) (by omega) (by omega) (by omega) (by omega)) (by decide) (fun v19 h19 hq19 => ?_)
        obtain ⟨I19, g19, y19, w19, Qa19, Qb19, Qc19, K19⟩ := hq19
        subst w19
        rw [(BX_fr f13 (by rcases q_o with rfl | rfl | rfl | rfl | rfl | rfl <;> rfl) (fun _ => (by rcases q_o with rfl | rfl | rfl | rfl | rfl | rfl <;> rfl))), p13] at Qa19 Qb19 Qc19
        have f19 := fr_tr (F1 := (F_X10_readTest o)) (F := (F_X10_readTests o)) f13 g19 (by rcases q_o with rfl | rfl | rfl | rfl | rfl | rfl <;> decide)
        rcases Qa19 with ⟨r19, O19⟩ | ⟨r19, O19⟩
        · subst r19
          have C19 := Qc19 rfl
          obtain ⟨c19, _, _, ec19, fc19, _⟩ := Qc19 rfl
          have fc19 : 0 ≤ c19.toInt := by (have h9 := O19.1); omega
          show EvP _ _ _ (17, [(3, .int 1), (0, .ref 81), (1, .ref (16 + o)), (2, .int line)], [.int 1], h19) _
          refine tz_ne (p2 := 20) rfl rfl (show Int32.toInt 1 = 1 from rfl) (fun c20 => ?_) (fun c20 => absurd c20 (by omega))
          refine te_aload_n (p2 := 23) rfl rfl rfl ?_
          refine tg_r (p2 := 26) (i := o) (r := (16 + (o + 3))) rfl rfl I19 rfl (by rcases q_o with rfl | rfl | rfl | rfl | rfl | rfl <;> rfl) (by rcases q_o with rfl | rfl | rfl | rfl | rfl | rfl <;> rfl) ?_
          refine te_iload_n (p2 := 27) rfl rfl rfl ?_
          refine te_dup2 (p2 := 28) rfl rfl ⟨rfl, rfl⟩ ?_
          refine tl_e (p2 := 29) (i := (o + 3)) (n := 8) (t := 0) (Or.inl rfl) rfl rfl I19 rfl (by rcases q_o with rfl | rfl | rfl | rfl | rfl | rfl <;> rfl) (by omega) (by omega) ((g19 _ _ (by rcases q_o with rfl | rfl | rfl | rfl | rfl | rfl <;> rfl)).trans ((g13 _ _ (by rcases q_o with rfl | rfl | rfl | rfl | rfl | rfl <;> rfl)).trans ((g9 _ _ (by rcases q_o with rfl | rfl | rfl | rfl | rfl | rfl <;> rfl)).trans u8.1))) ?_
          refine te_iconst (p2 := 30) (x := 1) rfl rfl (by decide) ?_
          refine ar_add (p2 := 31) rfl rfl rfl (show Int32.toInt 1 = 1 from rfl) (by omega) (by omega) (fun z22 e22 f22 => ?_)
          refine ts_iO (p2 := 32) (i := (o + 3)) (n := 8) rfl rfl I19 rfl (by rcases q_o with rfl | rfl | rfl | rfl | rfl | rfl <;> rfl) (by rcases q_o with rfl | rfl | rfl | rfl | rfl | rfl <;> rfl) rfl (by omega) (by omega) (by omega) (by omega) (by omega) (fun h2 hu => tO_inc (c := z7) (z := z22) (l := line.toInt.toNat) (k := z18.toInt.toNat) (f0 := c19) I19.2.2 (by rcases q_o with rfl | rfl | rfl | rfl | rfl | rfl <;> decide) ((g19 _ _ (by rcases q_o with rfl | rfl | rfl | rfl | rfl | rfl <;> rfl)).trans ((g13 _ _ (by rcases q_o with rfl | rfl | rfl | rfl | rfl | rfl <;> rfl)).trans ((g9 _ _ (by rcases q_o with rfl | rfl | rfl | rfl | rfl | rfl <;> rfl)).trans u8.1))) (by omega) (by omega) ec19 (by omega) hu) (fun h23 I23 u23 => ?_)
          have f23 := fr_st (F := (F_X10_readTests o)) 0 f19 u23 rfl (by omega) (by omega)
          refine te_aload_n (p2 := 33) rfl rfl rfl ?_
          refine te_bipush (p2 := 35) (x := 59) rfl rfl (by decide) ?_
          refine tc_V (p2 := 38) (i := 65) rfl rfl rfl rfl I23 rfl rfl rfl (c_X10_readSign (sign := 59) I23 (by decide) (by decide)) (by decide) (fun v24 h24 hq24 => ?_)
          obtain ⟨I24, g24, y24, w24, Q24⟩ := hq24
          subst w24
          rw [(BX_fr f23 (by rcases q_o with rfl | rfl | rfl | rfl | rfl | rfl <;> rfl) (fun _ => (by rcases q_o with rfl | rfl | rfl | rfl | rfl | rfl <;> rfl))), ((plX_e (u23.2 _ _ (Or.inl (by omega)))).trans Qb19)] at Q24
          have f24 := fr_tr (F1 := F_X10_readSign) (F := (F_X10_readTests o)) f23 g24 (by rcases q_o with rfl | rfl | rfl | rfl | rfl | rfl <;> decide)
          rcases Q24 with ⟨x24, cs24, p24⟩ | ⟨x24, cs24, p24⟩
          · subst x24
            have c24 : (BX h (tsP (BX h) (tsP (BX h) (plX h) + 1))).toInt = 59 := cs24
            clear cs24
            show EvP _ _ _ (38, [(3, .int 1), (0, .ref 81), (1, .ref (16 + o)), (2, .int line)], [.int 1], h24) _
            refine tz_eq (p2 := 41) rfl rfl (show Int32.toInt 1 = 1 from rfl) (fun c25 => absurd c25 (by omega)) (fun c25 => ?_)
            refine te_iconst (p2 := 42) (x := 1) rfl rfl (by decide) ?_
            exact te_zret rfl rfl (by decide) ⟨I24, f24, _, rfl, Or.inl ⟨rfl, (by rw [(show ttR (BX h) (plX h) = (2, tsP (BX h) (tsP (BX h) (plX h) + 1) + 1) from (by unfold ttR tu3 tu2; rw [if_neg (fun q => q O4), if_neg (show ¬ sc (BX h) (tsP (BX h) (plX h)) from c9), if_neg (fun q => q (show am (BX h) (tsP (BX h) (plX h)) from c13)), if_neg (fun q => q O19), if_pos (show sc (BX h) (tsP (BX h) (tsP (BX h) (plX h) + 1)) from c24)]))]; show (0 : Int) ≤ 2; decide)⟩, (by rw [(show ttR (BX h) (plX h) = (2, tsP (BX h) (tsP (BX h) (plX h) + 1) + 1) from (by unfold ttR tu3 tu2; rw [if_neg (fun q => q O4), if_neg (show ¬ sc (BX h) (tsP (BX h) (plX h)) from c9), if_neg (fun q => q (show am (BX h) (tsP (BX h) (plX h)) from c13)), if_neg (fun q => q O19), if_pos (show sc (BX h) (tsP (BX h) (tsP (BX h) (plX h) + 1)) from c24)])), p24]), (fun _ => ⟨z22, ((g24 _ _ (by rcases q_o with rfl | rfl | rfl | rfl | rfl | rfl <;> rfl)).trans u23.1), (by rw [(show ttR (BX h) (plX h) = (2, tsP (BX h) (tsP (BX h) (plX h) + 1) + 1) from (by unfold ttR tu3 tu2; rw [if_neg (fun q => q O4), if_neg (show ¬ sc (BX h) (tsP (BX h) (plX h)) from c9), if_neg (fun q => q (show am (BX h) (tsP (BX h) (plX h)) from c13)), if_neg (fun q => q O19), if_pos (show sc (BX h) (tsP (BX h) (tsP (BX h) (plX h) + 1)) from c24)]))]; show z22.toInt = 2; omega), (fun t ht => by (rw [(show ttR (BX h) (plX h) = (2, tsP (BX h) (tsP (BX h) (plX h) + 1) + 1) from (by unfold ttR tu3 tu2; rw [if_neg (fun q => q O4), if_neg (show ¬ sc (BX h) (tsP (BX h) (plX h)) from c9), if_neg (fun q => q (show am (BX h) (tsP (BX h) (plX h)) from c13)), if_neg (fun q => q O19), if_pos (show sc (BX h) (tsP (BX h) (tsP (BX h) (plX h) + 1)) from c24)]))] at ht); (rcases (show t = 0 ∨ t = 1 by (have ht : (t : Int) < 2 := ht); omega) with rfl | rfl); (· (have h9 := (tsC_e C4 ((g24 _ _ (by rcases q_o with rfl | rfl | rfl | rfl | rfl | rfl <;> rfl)).trans ((u23.2 _ _ (Or.inl (by omega))).trans ((K19 _ (by omega)).1.trans ((g13 _ _ (by rcases q_o with rfl | rfl | rfl | rfl | rfl | rfl <;> rfl)).trans ((g9 _ _ (by rcases q_o with rfl | rfl | rfl | rfl | rfl | rfl <;> rfl)).trans (u8.2 _ _ (Or.inl (by omega)))))))) ((g24 _ _ (by rcases q_o with rfl | rfl | rfl | rfl | rfl | rfl <;> rfl)).trans ((u23.2 _ _ (Or.inl (by omega))).trans ((K19 _ (by omega)).2.1.trans ((g13 _ _ (by rcases q_o with rfl | rfl | rfl | rfl | rfl | rfl <;> rfl)).trans ((g9 _ _ (by rcases q_o with rfl | rfl | rfl | rfl | rfl | rfl <;> rfl)).trans (u8.2 _ _ (Or.inl (by omega)))))))) ((g24 _ _ (by rcases q_o with rfl | rfl | rfl | rfl | rfl | rfl <;> rfl)).trans ((u23.2 _ _ (Or.inl (by omega))).trans ((K19 _ (by omega)).2.2.trans ((g13 _ _ (by rcases q_o with rfl | rfl | rfl | rfl | rfl | rfl <;> rfl)).trans ((g9 _ _ (by rcases q_o with rfl | rfl | rfl | rfl | rfl | rfl <;> rfl)).trans (u8.2 _ _ (Or.inl (by omega)))))))))); rw [show z3.toInt.toNat = 3 * line.toInt.toNat + 0 by omega] at h9; exact h9); (· (have h9 := (tsC_e C19 ((g24 _ _ (by rcases q_o with rfl | rfl | rfl | rfl | rfl | rfl <;> rfl)).trans (u23.2 _ _ (Or.inl (by omega)))) ((g24 _ _ (by rcases q_o with rfl | rfl | rfl | rfl | rfl | rfl <;> rfl)).trans (u23.2 _ _ (Or.inl (by omega)))) ((g24 _ _ (by rcases q_o with rfl | rfl | rfl | rfl | rfl | rfl <;> rfl)).trans (u23.2 _ _ (Or.inl (by omega)))))); rw [show z18.toInt.toNat = 3 * line.toInt.toNat + 1 by omega] at h9; exact h9))⟩), (fun m hm => ⟨((g24 _ _ (by rcases q_o with rfl | rfl | rfl | rfl | rfl | rfl <;> rfl)).trans ((u23.2 _ _ (Or.inl (by omega))).trans ((K19 _ (by omega)).1.trans ((g13 _ _ (by rcases q_o with rfl | rfl | rfl | rfl | rfl | rfl <;> rfl)).trans ((g9 _ _ (by rcases q_o with rfl | rfl | rfl | rfl | rfl | rfl <;> rfl)).trans ((u8.2 _ _ (Or.inl (by omega))).trans (K4 _ (by omega)).1)))))), ((g24 _ _ (by rcases q_o with rfl | rfl | rfl | rfl | rfl | rfl <;> rfl)).trans ((u23.2 _ _ (Or.inl (by omega))).trans ((K19 _ (by omega)).2.1.trans ((g13 _ _ (by rcases q_o with rfl | rfl | rfl | rfl | rfl | rfl <;> rfl)).trans ((g9 _ _ (by rcases q_o with rfl | rfl | rfl | rfl | rfl | rfl <;> rfl)).trans ((u8.2 _ _ (Or.inl (by omega))).trans (K4 _ (by omega)).2.1)))))), ((g24 _ _ (by rcases q_o with rfl | rfl | rfl | rfl | rfl | rfl <;> rfl)).trans ((u23.2 _ _ (Or.inl (by omega))).trans ((K19 _ (by omega)).2.2.trans ((g13 _ _ (by rcases q_o with rfl | rfl | rfl | rfl | rfl | rfl <;> rfl)).trans ((g9 _ _ (by rcases q_o with rfl | rfl | rfl | rfl | rfl | rfl <;> rfl)).trans ((u8.2 _ _ (Or.inl (by omega))).trans (K4 _ (by omega)).2.2))))))⟩), (fun m hm => ((g24 _ _ (by rcases q_o with rfl | rfl | rfl | rfl | rfl | rfl <;> rfl)).trans ((u23.2 _ _ (Or.inr hm)).trans ((g19 _ _ (by rcases q_o with rfl | rfl | rfl | rfl | rfl | rfl <;> rfl)).trans ((g13 _ _ (by rcases q_o with rfl | rfl | rfl | rfl | rfl | rfl <;> rfl)).trans ((g9 _ _ (by rcases q_o with rfl | rfl | rfl | rfl | rfl | rfl <;> rfl)).trans ((u8.2 _ _ (Or.inr hm)).trans (g4 _ _ (by rcases q_o with rfl | rfl | rfl | rfl | rfl | rfl <;> rfl)))))))))⟩
          · subst x24
            have c24 : (BX h (tsP (BX h) (tsP (BX h) (plX h) + 1))).toInt ≠ 59 := cs24
            clear cs24
            show EvP _ _ _ (38, [(3, .int 1), (0, .ref 81), (1, .ref (16 + o)), (2, .int line)], [.int 0], h24) _
            refine tz_eq (p2 := 41) rfl rfl (show Int32.toInt 0 = 0 from rfl) (fun c26 => ?_) (fun c26 => absurd c26 (by omega))
            refine te_iload_n (p2 := 44) rfl rfl rfl ?_
            refine te_iconst (p2 := 45) (x := 2) rfl rfl (by decide) ?_
            refine tb_eq (p2 := 48) rfl rfl (show Int32.toInt 1 = 1 from rfl) (show Int32.toInt 2 = 2 from rfl) (fun c27 => absurd c27 (by omega)) (fun c27 => ?_)
            refine te_aload_n (p2 := 49) rfl rfl rfl ?_
            refine te_bipush (p2 := 51) (x := 38) rfl rfl (by decide) ?_
            refine tc_V (p2 := 54) (i := 65) rfl rfl rfl rfl I24 rfl rfl rfl (c_X10_readSign (sign := 38) I24 (by decide) (by decide)) (by decide) (fun v28 h28 hq28 => ?_)
            obtain ⟨I28, g28, y28, w28, Q28⟩ := hq28
            subst w28
            rw [(BX_fr f24 (by rcases q_o with rfl | rfl | rfl | rfl | rfl | rfl <;> rfl) (fun _ => (by rcases q_o with rfl | rfl | rfl | rfl | rfl | rfl <;> rfl))), p24] at Q28
            have f28 := fr_tr (F1 := F_X10_readSign) (F := (F_X10_readTests o)) f24 g28 (by rcases q_o with rfl | rfl | rfl | rfl | rfl | rfl <;> decide)
            rcases Q28 with ⟨x28, cs28, p28⟩ | ⟨x28, cs28, p28⟩
            · subst x28
              have c28 : (BX h (tsP (BX h) (tsP (BX h) (plX h) + 1))).toInt = 38 := cs28
              clear cs28
              show EvP _ _ _ (54, [(3, .int 1), (0, .ref 81), (1, .ref (16 + o)), (2, .int line)], [.int 1], h28) _
              refine tz_ne (p2 := 57) rfl rfl (show Int32.toInt 1 = 1 from rfl) (fun c29 => ?_) (fun c29 => absurd c29 (by omega))
              refine te_iinc (p2 := 62) (x := 1) (y := 2) (lv2 := [(3, .int 2), (0, .ref 81), (1, .ref (16 + o)), (2, .int line)]) rfl rfl (by decide) rfl (by decide) rfl ?_
              refine te_goto rfl ?_
              refine te_iload_n (p2 := 3) rfl rfl rfl ?_
              refine te_iconst (p2 := 4) (x := 3) rfl rfl (by decide) ?_
              refine tb_ge (p2 := 7) rfl rfl (show Int32.toInt 2 = 2 from rfl) (show Int32.toInt 3 = 3 from rfl) (fun c31 => absurd c31 (by omega)) (fun c31 => ?_)
              refine te_aload_n (p2 := 8) rfl rfl rfl ?_
              refine te_aload_n (p2 := 9) rfl rfl rfl ?_
              refine te_iconst (p2 := 10) (x := 3) rfl rfl (by decide) ?_
              refine te_iload_n (p2 := 11) rfl rfl rfl ?_
              refine ar_mul (p2 := 12) rfl rfl (show Int32.toInt 3 = 3 from rfl) rfl (by omega) (by omega) (fun z32 e32 f32 => ?_)
              refine te_iload_n (p2 := 13) rfl rfl rfl ?_
              refine ar_add (p2 := 14) rfl rfl rfl (show Int32.toInt 2 = 2 from rfl) (by omega) (by omega) (fun z33 e33 f33 => ?_)
              refine tc_V (p2 := 17) (i := 65) rfl rfl rfl rfl I28 rfl rfl rfl (c_X10_readTest (o := o) (test := z33) (ln := line) (gc := z22) I28 q_o (by omega) (by omega) ((g28 _ _ (by rcases q_o with rfl | rfl | rfl | rfl | rfl | rfl <;> rfl)).trans ((g24 _ _ (by rcases q_o with rfl | rfl | rfl | rfl | rfl | rfl <;> rfl)).trans u23.1)) (by omega) (by omega) (by omega) (by omega) (by omega)) (by decide) (fun v34 h34 hq34 => ?_)
              obtain ⟨I34, g34, y34, w34, Qa34, Qb34, Qc34, K34⟩ := hq34
              subst w34
              rw [(BX_fr f28 (by rcases q_o with rfl | rfl | rfl | rfl | rfl | rfl <;> rfl) (fun _ => (by rcases q_o with rfl | rfl | rfl | rfl | rfl | rfl <;> rfl))), p28] at Qa34 Qb34 Qc34
              have f34 := fr_tr (F1 := (F_X10_readTest o)) (F := (F_X10_readTests o)) f28 g34 (by rcases q_o with rfl | rfl | rfl | rfl | rfl | rfl <;> decide)
              rcases Qa34 with ⟨r34, O34⟩ | ⟨r34, O34⟩
              · subst r34
                have C34 := Qc34 rfl
                obtain ⟨c34, _, _, ec34, fc34, _⟩ := Qc34 rfl
                have fc34 : 0 ≤ c34.toInt := by (have h9 := O34.1); omega
                show EvP _ _ _ (17, [(3, .int 2), (0, .ref 81), (1, .ref (16 + o)), (2, .int line)], [.int 1], h34) _
                refine tz_ne (p2 := 20) rfl rfl (show Int32.toInt 1 = 1 from rfl) (fun c35 => ?_) (fun c35 => absurd c35 (by omega))
                refine te_aload_n (p2 := 23) rfl rfl rfl ?_
                refine tg_r (p2 := 26) (i := o) (r := (16 + (o + 3))) rfl rfl I34 rfl (by rcases q_o with rfl | rfl | rfl | rfl | rfl | rfl <;> rfl) (by rcases q_o with rfl | rfl | rfl | rfl | rfl | rfl <;> rfl) ?_
                refine te_iload_n (p2 := 27) rfl rfl rfl ?_
                refine te_dup2 (p2 := 28) rfl rfl ⟨rfl, rfl⟩ ?_
                refine tl_e (p2 := 29) (i := (o + 3)) (n := 8) (t := 0) (Or.inl rfl) rfl rfl I34 rfl (by rcases q_o with rfl | rfl | rfl | rfl | rfl | rfl <;> rfl) (by omega) (by omega) ((g34 _ _ (by rcases q_o with rfl | rfl | rfl | rfl | rfl | rfl <;> rfl)).trans ((g28 _ _ (by rcases q_o with rfl | rfl | rfl | rfl | rfl | rfl <;> rfl)).trans ((g24 _ _ (by rcases q_o with rfl | rfl | rfl | rfl | rfl | rfl <;> rfl)).trans u23.1))) ?_
                refine te_iconst (p2 := 30) (x := 1) rfl rfl (by decide) ?_
                refine ar_add (p2 := 31) rfl rfl rfl (show Int32.toInt 1 = 1 from rfl) (by omega) (by omega) (fun z37 e37 f37 => ?_)
                refine ts_iO (p2 := 32) (i := (o + 3)) (n := 8) rfl rfl I34 rfl (by rcases q_o with rfl | rfl | rfl | rfl | rfl | rfl <;> rfl) (by rcases q_o with rfl | rfl | rfl | rfl | rfl | rfl <;> rfl) rfl (by omega) (by omega) (by omega) (by omega) (by omega) (fun h2 hu => tO_inc (c := z22) (z := z37) (l := line.toInt.toNat) (k := z33.toInt.toNat) (f0 := c34) I34.2.2 (by rcases q_o with rfl | rfl | rfl | rfl | rfl | rfl <;> decide) ((g34 _ _ (by rcases q_o with rfl | rfl | rfl | rfl | rfl | rfl <;> rfl)).trans ((g28 _ _ (by rcases q_o with rfl | rfl | rfl | rfl | rfl | rfl <;> rfl)).trans ((g24 _ _ (by rcases q_o with rfl | rfl | rfl | rfl | rfl | rfl <;> rfl)).trans u23.1))) (by omega) (by omega) ec34 (by omega) hu) (fun h38 I38 u38 => ?_)
                have f38 := fr_st (F := (F_X10_readTests o)) 0 f34 u38 rfl (by omega) (by omega)
                refine te_aload_n (p2 := 33) rfl rfl rfl ?_
                refine te_bipush (p2 := 35) (x := 59) rfl rfl (by decide) ?_
                refine tc_V (p2 := 38) (i := 65) rfl rfl rfl rfl I38 rfl rfl rfl (c_X10_readSign (sign := 59) I38 (by decide) (by decide)) (by decide) (fun v39 h39 hq39 => ?_)
                obtain ⟨I39, g39, y39, w39, Q39⟩ := hq39
                subst w39
                rw [(BX_fr f38 (by rcases q_o with rfl | rfl | rfl | rfl | rfl | rfl <;> rfl) (fun _ => (by rcases q_o with rfl | rfl | rfl | rfl | rfl | rfl <;> rfl))), ((plX_e (u38.2 _ _ (Or.inl (by omega)))).trans Qb34)] at Q39
                have f39 := fr_tr (F1 := F_X10_readSign) (F := (F_X10_readTests o)) f38 g39 (by rcases q_o with rfl | rfl | rfl | rfl | rfl | rfl <;> decide)
                rcases Q39 with ⟨x39, cs39, p39⟩ | ⟨x39, cs39, p39⟩
                · subst x39
                  have c39 : (BX h (tsP (BX h) (tsP (BX h) (tsP (BX h) (plX h) + 1) + 1))).toInt = 59 := cs39
                  clear cs39
                  show EvP _ _ _ (38, [(3, .int 2), (0, .ref 81), (1, .ref (16 + o)), (2, .int line)], [.int 1], h39) _
                  refine tz_eq (p2 := 41) rfl rfl (show Int32.toInt 1 = 1 from rfl) (fun c40 => absurd c40 (by omega)) (fun c40 => ?_)
                  refine te_iconst (p2 := 42) (x := 1) rfl rfl (by decide) ?_
                  exact te_zret rfl rfl (by decide) ⟨I39, f39, _, rfl, Or.inl ⟨rfl, (by rw [(show ttR (BX h) (plX h) = (3, tsP (BX h) (tsP (BX h) (tsP (BX h) (plX h) + 1) + 1) + 1) from (by unfold ttR tu3 tu2; rw [if_neg (fun q => q O4), if_neg (show ¬ sc (BX h) (tsP (BX h) (plX h)) from c9), if_neg (fun q => q (show am (BX h) (tsP (BX h) (plX h)) from c13)), if_neg (fun q => q O19), if_neg (show ¬ sc (BX h) (tsP (BX h) (tsP (BX h) (plX h) + 1)) from c24), if_neg (fun q => q (show am (BX h) (tsP (BX h) (tsP (BX h) (plX h) + 1)) from c28)), if_neg (fun q => q O34), if_pos (show sc (BX h) (tsP (BX h) (tsP (BX h) (tsP (BX h) (plX h) + 1) + 1)) from c39)]))]; show (0 : Int) ≤ 3; decide)⟩, (by rw [(show ttR (BX h) (plX h) = (3, tsP (BX h) (tsP (BX h) (tsP (BX h) (plX h) + 1) + 1) + 1) from (by unfold ttR tu3 tu2; rw [if_neg (fun q => q O4), if_neg (show ¬ sc (BX h) (tsP (BX h) (plX h)) from c9), if_neg (fun q => q (show am (BX h) (tsP (BX h) (plX h)) from c13)), if_neg (fun q => q O19), if_neg (show ¬ sc (BX h) (tsP (BX h) (tsP (BX h) (plX h) + 1)) from c24), if_neg (fun q => q (show am (BX h) (tsP (BX h) (tsP (BX h) (plX h) + 1)) from c28)), if_neg (fun q => q O34), if_pos (show sc (BX h) (tsP (BX h) (tsP (BX h) (tsP (BX h) (plX h) + 1) + 1)) from c39)])), p39]), (fun _ => ⟨z37, ((g39 _ _ (by rcases q_o with rfl | rfl | rfl | rfl | rfl | rfl <;> rfl)).trans u38.1), (by rw [(show ttR (BX h) (plX h) = (3, tsP (BX h) (tsP (BX h) (tsP (BX h) (plX h) + 1) + 1) + 1) from (by unfold ttR tu3 tu2; rw [if_neg (fun q => q O4), if_neg (show ¬ sc (BX h) (tsP (BX h) (plX h)) from c9), if_neg (fun q => q (show am (BX h) (tsP (BX h) (plX h)) from c13)), if_neg (fun q => q O19), if_neg (show ¬ sc (BX h) (tsP (BX h) (tsP (BX h) (plX h) + 1)) from c24), if_neg (fun q => q (show am (BX h) (tsP (BX h) (tsP (BX h) (plX h) + 1)) from c28)), if_neg (fun q => q O34), if_pos (show sc (BX h) (tsP (BX h) (tsP (BX h) (tsP (BX h) (plX h) + 1) + 1)) from c39)]))]; show z37.toInt = 3; omega), (fun t ht => by (rw [(show ttR (BX h) (plX h) = (3, tsP (BX h) (tsP (BX h) (tsP (BX h) (plX h) + 1) + 1) + 1) from (by unfold ttR tu3 tu2; rw [if_neg (fun q => q O4), if_neg (show ¬ sc (BX h) (tsP (BX h) (plX h)) from c9), if_neg (fun q => q (show am (BX h) (tsP (BX h) (plX h)) from c13)), if_neg (fun q => q O19), if_neg (show ¬ sc (BX h) (tsP (BX h) (tsP (BX h) (plX h) + 1)) from c24), if_neg (fun q => q (show am (BX h) (tsP (BX h) (tsP (BX h) (plX h) + 1)) from c28)), if_neg (fun q => q O34), if_pos (show sc (BX h) (tsP (BX h) (tsP (BX h) (tsP (BX h) (plX h) + 1) + 1)) from c39)]))] at ht); (rcases (show t = 0 ∨ t = 1 ∨ t = 2 by (have ht : (t : Int) < 3 := ht); omega) with rfl | rfl | rfl); (· (have h9 := (tsC_e C4 ((g39 _ _ (by rcases q_o with rfl | rfl | rfl | rfl | rfl | rfl <;> rfl)).trans ((u38.2 _ _ (Or.inl (by omega))).trans ((K34 _ (by omega)).1.trans ((g28 _ _ (by rcases q_o with rfl | rfl | rfl | rfl | rfl | rfl <;> rfl)).trans ((g24 _ _ (by rcases q_o with rfl | rfl | rfl | rfl | rfl | rfl <;> rfl)).trans ((u23.2 _ _ (Or.inl (by omega))).trans ((K19 _ (by omega)).1.trans ((g13 _ _ (by rcases q_o with rfl | rfl | rfl | rfl | rfl | rfl <;> rfl)).trans ((g9 _ _ (by rcases q_o with rfl | rfl | rfl | rfl | rfl | rfl <;> rfl)).trans (u8.2 _ _ (Or.inl (by omega)))))))))))) ((g39 _ _ (by rcases q_o with rfl | rfl | rfl | rfl | rfl | rfl <;> rfl)).trans ((u38.2 _ _ (Or.inl (by omega))).trans ((K34 _ (by omega)).2.1.trans ((g28 _ _ (by rcases q_o with rfl | rfl | rfl | rfl | rfl | rfl <;> rfl)).trans ((g24 _ _ (by rcases q_o with rfl | rfl | rfl | rfl | rfl | rfl <;> rfl)).trans ((u23.2 _ _ (Or.inl (by omega))).trans ((K19 _ (by omega)).2.1.trans ((g13 _ _ (by rcases q_o with rfl | rfl | rfl | rfl | rfl | rfl <;> rfl)).trans ((g9 _ _ (by rcases q_o with rfl | rfl | rfl | rfl | rfl | rfl <;> rfl)).trans (u8.2 _ _ (Or.inl (by omega)))))))))))) ((g39 _ _ (by rcases q_o with rfl | rfl | rfl | rfl | rfl | rfl <;> rfl)).trans ((u38.2 _ _ (Or.inl (by omega))).trans ((K34 _ (by omega)).2.2.trans ((g28 _ _ (by rcases q_o with rfl | rfl | rfl | rfl | rfl | rfl <;> rfl)).trans ((g24 _ _ (by rcases q_o with rfl | rfl | rfl | rfl | rfl | rfl <;> rfl)).trans ((u23.2 _ _ (Or.inl (by omega))).trans ((K19 _ (by omega)).2.2.trans ((g13 _ _ (by rcases q_o with rfl | rfl | rfl | rfl | rfl | rfl <;> rfl)).trans ((g9 _ _ (by rcases q_o with rfl | rfl | rfl | rfl | rfl | rfl <;> rfl)).trans (u8.2 _ _ (Or.inl (by omega)))))))))))))); rw [show z3.toInt.toNat = 3 * line.toInt.toNat + 0 by omega] at h9; exact h9); (· (have h9 := (tsC_e C19 ((g39 _ _ (by rcases q_o with rfl | rfl | rfl | rfl | rfl | rfl <;> rfl)).trans ((u38.2 _ _ (Or.inl (by omega))).trans ((K34 _ (by omega)).1.trans ((g28 _ _ (by rcases q_o with rfl | rfl | rfl | rfl | rfl | rfl <;> rfl)).trans ((g24 _ _ (by rcases q_o with rfl | rfl | rfl | rfl | rfl | rfl <;> rfl)).trans (u23.2 _ _ (Or.inl (by omega)))))))) ((g39 _ _ (by rcases q_o with rfl | rfl | rfl | rfl | rfl | rfl <;> rfl)).trans ((u38.2 _ _ (Or.inl (by omega))).trans ((K34 _ (by omega)).2.1.trans ((g28 _ _ (by rcases q_o with rfl | rfl | rfl | rfl | rfl | rfl <;> rfl)).trans ((g24 _ _ (by rcases q_o with rfl | rfl | rfl | rfl | rfl | rfl <;> rfl)).trans (u23.2 _ _ (Or.inl (by omega)))))))) ((g39 _ _ (by rcases q_o with rfl | rfl | rfl | rfl | rfl | rfl <;> rfl)).trans ((u38.2 _ _ (Or.inl (by omega))).trans ((K34 _ (by omega)).2.2.trans ((g28 _ _ (by rcases q_o with rfl | rfl | rfl | rfl | rfl | rfl <;> rfl)).trans ((g24 _ _ (by rcases q_o with rfl | rfl | rfl | rfl | rfl | rfl <;> rfl)).trans (u23.2 _ _ (Or.inl (by omega)))))))))); rw [show z18.toInt.toNat = 3 * line.toInt.toNat + 1 by omega] at h9; exact h9); (· (have h9 := (tsC_e C34 ((g39 _ _ (by rcases q_o with rfl | rfl | rfl | rfl | rfl | rfl <;> rfl)).trans (u38.2 _ _ (Or.inl (by omega)))) ((g39 _ _ (by rcases q_o with rfl | rfl | rfl | rfl | rfl | rfl <;> rfl)).trans (u38.2 _ _ (Or.inl (by omega)))) ((g39 _ _ (by rcases q_o with rfl | rfl | rfl | rfl | rfl | rfl <;> rfl)).trans (u38.2 _ _ (Or.inl (by omega)))))); rw [show z33.toInt.toNat = 3 * line.toInt.toNat + 2 by omega] at h9; exact h9))⟩), (fun m hm => ⟨((g39 _ _ (by rcases q_o with rfl | rfl | rfl | rfl | rfl | rfl <;> rfl)).trans ((u38.2 _ _ (Or.inl (by omega))).trans ((K34 _ (by omega)).1.trans ((g28 _ _ (by rcases q_o with rfl | rfl | rfl | rfl | rfl | rfl <;> rfl)).trans ((g24 _ _ (by rcases q_o with rfl | rfl | rfl | rfl | rfl | rfl <;> rfl)).trans ((u23.2 _ _ (Or.inl (by omega))).trans ((K19 _ (by omega)).1.trans ((g13 _ _ (by rcases q_o with rfl | rfl | rfl | rfl | rfl | rfl <;> rfl)).trans ((g9 _ _ (by rcases q_o with rfl | rfl | rfl | rfl | rfl | rfl <;> rfl)).trans ((u8.2 _ _ (Or.inl (by omega))).trans (K4 _ (by omega)).1)))))))))), ((g39 _ _ (by rcases q_o with rfl | rfl | rfl | rfl | rfl | rfl <;> rfl)).trans ((u38.2 _ _ (Or.inl (by omega))).trans ((K34 _ (by omega)).2.1.trans ((g28 _ _ (by rcases q_o with rfl | rfl | rfl | rfl | rfl | rfl <;> rfl)).trans ((g24 _ _ (by rcases q_o with rfl | rfl | rfl | rfl | rfl | rfl <;> rfl)).trans ((u23.2 _ _ (Or.inl (by omega))).trans ((K19 _ (by omega)).2.1.trans ((g13 _ _ (by rcases q_o with rfl | rfl | rfl | rfl | rfl | rfl <;> rfl)).trans ((g9 _ _ (by rcases q_o with rfl | rfl | rfl | rfl | rfl | rfl <;> rfl)).trans ((u8.2 _ _ (Or.inl (by omega))).trans (K4 _ (by omega)).2.1)))))))))), ((g39 _ _ (by rcases q_o with rfl | rfl | rfl | rfl | rfl | rfl <;> rfl)).trans ((u38.2 _ _ (Or.inl (by omega))).trans ((K34 _ (by omega)).2.2.trans ((g28 _ _ (by rcases q_o with rfl | rfl | rfl | rfl | rfl | rfl <;> rfl)).trans ((g24 _ _ (by rcases q_o with rfl | rfl | rfl | rfl | rfl | rfl <;> rfl)).trans ((u23.2 _ _ (Or.inl (by omega))).trans ((K19 _ (by omega)).2.2.trans ((g13 _ _ (by rcases q_o with rfl | rfl | rfl | rfl | rfl | rfl <;> rfl)).trans ((g9 _ _ (by rcases q_o with rfl | rfl | rfl | rfl | rfl | rfl <;> rfl)).trans ((u8.2 _ _ (Or.inl (by omega))).trans (K4 _ (by omega)).2.2))))))))))⟩), (fun m hm => ((g39 _ _ (by rcases q_o with rfl | rfl | rfl | rfl | rfl | rfl <;> rfl)).trans ((u38.2 _ _ (Or.inr hm)).trans ((g34 _ _ (by rcases q_o with rfl | rfl | rfl | rfl | rfl | rfl <;> rfl)).trans ((g28 _ _ (by rcases q_o with rfl | rfl | rfl | rfl | rfl | rfl <;> rfl)).trans ((g24 _ _ (by rcases q_o with rfl | rfl | rfl | rfl | rfl | rfl <;> rfl)).trans ((u23.2 _ _ (Or.inr hm)).trans ((g19 _ _ (by rcases q_o with rfl | rfl | rfl | rfl | rfl | rfl <;> rfl)).trans ((g13 _ _ (by rcases q_o with rfl | rfl | rfl | rfl | rfl | rfl <;> rfl)).trans ((g9 _ _ (by rcases q_o with rfl | rfl | rfl | rfl | rfl | rfl <;> rfl)).trans ((u8.2 _ _ (Or.inr hm)).trans (g4 _ _ (by rcases q_o with rfl | rfl | rfl | rfl | rfl | rfl <;> rfl)))))))))))))⟩
                · subst x39
                  have c39 : (BX h (tsP (BX h) (tsP (BX h) (tsP (BX h) (plX h) + 1) + 1))).toInt ≠ 59 := cs39
                  clear cs39
                  show EvP _ _ _ (38, [(3, .int 2), (0, .ref 81), (1, .ref (16 + o)), (2, .int line)], [.int 0], h39) _
                  refine tz_eq (p2 := 41) rfl rfl (show Int32.toInt 0 = 0 from rfl) (fun c41 => ?_) (fun c41 => absurd c41 (by omega))
                  refine te_iload_n (p2 := 44) rfl rfl rfl ?_
                  refine te_iconst (p2 := 45) (x := 2) rfl rfl (by decide) ?_
                  refine tb_eq (p2 := 48) rfl rfl (show Int32.toInt 2 = 2 from rfl) (show Int32.toInt 2 = 2 from rfl) (fun c42 => ?_) (fun c42 => absurd c42 (by omega))
                  refine te_iconst (p2 := 58) (x := 0) rfl rfl (by decide) ?_
                  exact te_zret rfl rfl (by decide) ⟨I39, f39, _, rfl, Or.inr ⟨rfl, (by rw [(show ttR (BX h) (plX h) = (-1, tsP (BX h) (tsP (BX h) (tsP (BX h) (plX h) + 1) + 1)) from (by unfold ttR tu3 tu2; rw [if_neg (fun q => q O4), if_neg (show ¬ sc (BX h) (tsP (BX h) (plX h)) from c9), if_neg (fun q => q (show am (BX h) (tsP (BX h) (plX h)) from c13)), if_neg (fun q => q O19), if_neg (show ¬ sc (BX h) (tsP (BX h) (tsP (BX h) (plX h) + 1)) from c24), if_neg (fun q => q (show am (BX h) (tsP (BX h) (tsP (BX h) (plX h) + 1)) from c28)), if_neg (fun q => q O34), if_neg (show ¬ sc (BX h) (tsP (BX h) (tsP (BX h) (tsP (BX h) (plX h) + 1) + 1)) from c39)]))]; show (-1 : Int) < 0; decide)⟩, (by rw [(show ttR (BX h) (plX h) = (-1, tsP (BX h) (tsP (BX h) (tsP (BX h) (plX h) + 1) + 1)) from (by unfold ttR tu3 tu2; rw [if_neg (fun q => q O4), if_neg (show ¬ sc (BX h) (tsP (BX h) (plX h)) from c9), if_neg (fun q => q (show am (BX h) (tsP (BX h) (plX h)) from c13)), if_neg (fun q => q O19), if_neg (show ¬ sc (BX h) (tsP (BX h) (tsP (BX h) (plX h) + 1)) from c24), if_neg (fun q => q (show am (BX h) (tsP (BX h) (tsP (BX h) (plX h) + 1)) from c28)), if_neg (fun q => q O34), if_neg (show ¬ sc (BX h) (tsP (BX h) (tsP (BX h) (tsP (BX h) (plX h) + 1) + 1)) from c39)])), p39]), (fun h9 => absurd h9 (by decide)), (fun m hm => ⟨((g39 _ _ (by rcases q_o with rfl | rfl | rfl | rfl | rfl | rfl <;> rfl)).trans ((u38.2 _ _ (Or.inl (by omega))).trans ((K34 _ (by omega)).1.trans ((g28 _ _ (by rcases q_o with rfl | rfl | rfl | rfl | rfl | rfl <;> rfl)).trans ((g24 _ _ (by rcases q_o with rfl | rfl | rfl | rfl | rfl | rfl <;> rfl)).trans ((u23.2 _ _ (Or.inl (by omega))).trans ((K19 _ (by omega)).1.trans ((g13 _ _ (by rcases q_o with rfl | rfl | rfl | rfl | rfl | rfl <;> rfl)).trans ((g9 _ _ (by rcases q_o with rfl | rfl | rfl | rfl | rfl | rfl <;> rfl)).trans ((u8.2 _ _ (Or.inl (by omega))).trans (K4 _ (by omega)).1)))))))))), ((g39 _ _ (by rcases q_o with rfl | rfl | rfl | rfl | rfl | rfl <;> rfl)).trans ((u38.2 _ _ (Or.inl (by omega))).trans ((K34 _ (by omega)).2.1.trans ((g28 _ _ (by rcases q_o with rfl | rfl | rfl | rfl | rfl | rfl <;> rfl)).trans ((g24 _ _ (by rcases q_o with rfl | rfl | rfl | rfl | rfl | rfl <;> rfl)).trans ((u23.2 _ _ (Or.inl (by omega))).trans ((K19 _ (by omega)).2.1.trans ((g13 _ _ (by rcases q_o with rfl | rfl | rfl | rfl | rfl | rfl <;> rfl)).trans ((g9 _ _ (by rcases q_o with rfl | rfl | rfl | rfl | rfl | rfl <;> rfl)).trans ((u8.2 _ _ (Or.inl (by omega))).trans (K4 _ (by omega)).2.1)))))))))), ((g39 _ _ (by rcases q_o with rfl | rfl | rfl | rfl | rfl | rfl <;> rfl)).trans ((u38.2 _ _ (Or.inl (by omega))).trans ((K34 _ (by omega)).2.2.trans ((g28 _ _ (by rcases q_o with rfl | rfl | rfl | rfl | rfl | rfl <;> rfl)).trans ((g24 _ _ (by rcases q_o with rfl | rfl | rfl | rfl | rfl | rfl <;> rfl)).trans ((u23.2 _ _ (Or.inl (by omega))).trans ((K19 _ (by omega)).2.2.trans ((g13 _ _ (by rcases q_o with rfl | rfl | rfl | rfl | rfl | rfl <;> rfl)).trans ((g9 _ _ (by rcases q_o with rfl | rfl | rfl | rfl | rfl | rfl <;> rfl)).trans ((u8.2 _ _ (Or.inl (by omega))).trans (K4 _ (by omega)).2.2))))))))))⟩), (fun m hm => ((g39 _ _ (by rcases q_o with rfl | rfl | rfl | rfl | rfl | rfl <;> rfl)).trans ((u38.2 _ _ (Or.inr hm)).trans ((g34 _ _ (by rcases q_o with rfl | rfl | rfl | rfl | rfl | rfl <;> rfl)).trans ((g28 _ _ (by rcases q_o with rfl | rfl | rfl | rfl | rfl | rfl <;> rfl)).trans ((g24 _ _ (by rcases q_o with rfl | rfl | rfl | rfl | rfl | rfl <;> rfl)).trans ((u23.2 _ _ (Or.inr hm)).trans ((g19 _ _ (by rcases q_o with rfl | rfl | rfl | rfl | rfl | rfl <;> rfl)).trans ((g13 _ _ (by rcases q_o with rfl | rfl | rfl | rfl | rfl | rfl <;> rfl)).trans ((g9 _ _ (by rcases q_o with rfl | rfl | rfl | rfl | rfl | rfl <;> rfl)).trans ((u8.2 _ _ (Or.inr hm)).trans (g4 _ _ (by rcases q_o with rfl | rfl | rfl | rfl | rfl | rfl <;> rfl)))))))))))))⟩
              · subst r34
                show EvP _ _ _ (17, [(3, .int 2), (0, .ref 81), (1, .ref (16 + o)), (2, .int line)], [.int 0], h34) _
                refine tz_ne (p2 := 20) rfl rfl (show Int32.toInt 0 = 0 from rfl) (fun c43 => absurd c43 (by omega)) (fun c43 => ?_)
                refine te_iconst (p2 := 21) (x := 0) rfl rfl (by decide) ?_
                exact te_zret rfl rfl (by decide) ⟨I34, f34, _, rfl, Or.inr ⟨rfl, (by rw [(show ttR (BX h) (plX h) = (-1, tsP (BX h) (tsP (BX h) (tsP (BX h) (plX h) + 1) + 1)) from (by unfold ttR tu3 tu2; rw [if_neg (fun q => q O4), if_neg (show ¬ sc (BX h) (tsP (BX h) (plX h)) from c9), if_neg (fun q => q (show am (BX h) (tsP (BX h) (plX h)) from c13)), if_neg (fun q => q O19), if_neg (show ¬ sc (BX h) (tsP (BX h) (tsP (BX h) (plX h) + 1)) from c24), if_neg (fun q => q (show am (BX h) (tsP (BX h) (tsP (BX h) (plX h) + 1)) from c28)), if_pos O34]))]; show (-1 : Int) < 0; decide)⟩, (by rw [(show ttR (BX h) (plX h) = (-1, tsP (BX h) (tsP (BX h) (tsP (BX h) (plX h) + 1) + 1)) from (by unfold ttR tu3 tu2; rw [if_neg (fun q => q O4), if_neg (show ¬ sc (BX h) (tsP (BX h) (plX h)) from c9), if_neg (fun q => q (show am (BX h) (tsP (BX h) (plX h)) from c13)), if_neg (fun q => q O19), if_neg (show ¬ sc (BX h) (tsP (BX h) (tsP (BX h) (plX h) + 1)) from c24), if_neg (fun q => q (show am (BX h) (tsP (BX h) (tsP (BX h) (plX h) + 1)) from c28)), if_pos O34])), Qb34]), (fun h9 => absurd h9 (by decide)), (fun m hm => ⟨((K34 _ (by omega)).1.trans ((g28 _ _ (by rcases q_o with rfl | rfl | rfl | rfl | rfl | rfl <;> rfl)).trans ((g24 _ _ (by rcases q_o with rfl | rfl | rfl | rfl | rfl | rfl <;> rfl)).trans ((u23.2 _ _ (Or.inl (by omega))).trans ((K19 _ (by omega)).1.trans ((g13 _ _ (by rcases q_o with rfl | rfl | rfl | rfl | rfl | rfl <;> rfl)).trans ((g9 _ _ (by rcases q_o with rfl | rfl | rfl | rfl | rfl | rfl <;> rfl)).trans ((u8.2 _ _ (Or.inl (by omega))).trans (K4 _ (by omega)).1)))))))), ((K34 _ (by omega)).2.1.trans ((g28 _ _ (by rcases q_o with rfl | rfl | rfl | rfl | rfl | rfl <;> rfl)).trans ((g24 _ _ (by rcases q_o with rfl | rfl | rfl | rfl | rfl | rfl <;> rfl)).trans ((u23.2 _ _ (Or.inl (by omega))).trans ((K19 _ (by omega)).2.1.trans ((g13 _ _ (by rcases q_o with rfl | rfl | rfl | rfl | rfl | rfl <;> rfl)).trans ((g9 _ _ (by rcases q_o with rfl | rfl | rfl | rfl | rfl | rfl <;> rfl)).trans ((u8.2 _ _ (Or.inl (by omega))).trans (K4 _ (by omega)).2.1)))))))), ((K34 _ (by omega)).2.2.trans ((g28 _ _ (by rcases q_o with rfl | rfl | rfl | rfl | rfl | rfl <;> rfl)).trans ((g24 _ _ (by rcases q_o with rfl | rfl | rfl | rfl | rfl | rfl <;> rfl)).trans ((u23.2 _ _ (Or.inl (by omega))).trans ((K19 _ (by omega)).2.2.trans ((g13 _ _ (by rcases q_o with rfl | rfl | rfl | rfl | rfl | rfl <;> rfl)).trans ((g9 _ _ (by rcases q_o with rfl | rfl | rfl | rfl | rfl | rfl <;> rfl)).trans ((u8.2 _ _ (Or.inl (by omega))).trans (K4 _ (by omega)).2.2))))))))⟩), (fun m hm => ((g34 _ _ (by rcases q_o with rfl | rfl | rfl | rfl | rfl | rfl <;> rfl)).trans ((g28 _ _ (by rcases q_o with rfl | rfl | rfl | rfl | rfl | rfl <;> rfl)).trans ((g24 _ _ (by rcases q_o with rfl | rfl | rfl | rfl | rfl | rfl <;> rfl)).trans ((u23.2 _ _ (Or.inr hm)).trans ((g19 _ _ (by rcases q_o with rfl | rfl | rfl | rfl | rfl | rfl <;> rfl)).trans ((g13 _ _ (by rcases q_o with rfl | rfl | rfl | rfl | rfl | rfl <;> rfl)).trans ((g9 _ _ (by rcases q_o with rfl | rfl | rfl | rfl | rfl | rfl <;> rfl)).trans ((u8.2 _ _ (Or.inr hm)).trans (g4 _ _ (by rcases q_o with rfl | rfl | rfl | rfl | rfl | rfl <;> rfl)))))))))))⟩
            · subst x28
              have c28 : (BX h (tsP (BX h) (tsP (BX h) (plX h) + 1))).toInt ≠ 38 := cs28
              clear cs28
              show EvP _ _ _ (54, [(3, .int 1), (0, .ref 81), (1, .ref (16 + o)), (2, .int line)], [.int 0], h28) _
              refine tz_ne (p2 := 57) rfl rfl (show Int32.toInt 0 = 0 from rfl) (fun c44 => absurd c44 (by omega)) (fun c44 => ?_)
              refine te_iconst (p2 := 58) (x := 0) rfl rfl (by decide) ?_
              exact te_zret rfl rfl (by decide) ⟨I28, f28, _, rfl, Or.inr ⟨rfl, (by rw [(show ttR (BX h) (plX h) = (-1, tsP (BX h) (tsP (BX h) (plX h) + 1)) from (by unfold ttR tu3 tu2; rw [if_neg (fun q => q O4), if_neg (show ¬ sc (BX h) (tsP (BX h) (plX h)) from c9), if_neg (fun q => q (show am (BX h) (tsP (BX h) (plX h)) from c13)), if_neg (fun q => q O19), if_neg (show ¬ sc (BX h) (tsP (BX h) (tsP (BX h) (plX h) + 1)) from c24), if_pos (show ¬ am (BX h) (tsP (BX h) (tsP (BX h) (plX h) + 1)) from c28)]))]; show (-1 : Int) < 0; decide)⟩, (by rw [(show ttR (BX h) (plX h) = (-1, tsP (BX h) (tsP (BX h) (plX h) + 1)) from (by unfold ttR tu3 tu2; rw [if_neg (fun q => q O4), if_neg (show ¬ sc (BX h) (tsP (BX h) (plX h)) from c9), if_neg (fun q => q (show am (BX h) (tsP (BX h) (plX h)) from c13)), if_neg (fun q => q O19), if_neg (show ¬ sc (BX h) (tsP (BX h) (tsP (BX h) (plX h) + 1)) from c24), if_pos (show ¬ am (BX h) (tsP (BX h) (tsP (BX h) (plX h) + 1)) from c28)])), p28]), (fun h9 => absurd h9 (by decide)), (fun m hm => ⟨((g28 _ _ (by rcases q_o with rfl | rfl | rfl | rfl | rfl | rfl <;> rfl)).trans ((g24 _ _ (by rcases q_o with rfl | rfl | rfl | rfl | rfl | rfl <;> rfl)).trans ((u23.2 _ _ (Or.inl (by omega))).trans ((K19 _ (by omega)).1.trans ((g13 _ _ (by rcases q_o with rfl | rfl | rfl | rfl | rfl | rfl <;> rfl)).trans ((g9 _ _ (by rcases q_o with rfl | rfl | rfl | rfl | rfl | rfl <;> rfl)).trans ((u8.2 _ _ (Or.inl (by omega))).trans (K4 _ (by omega)).1))))))), ((g28 _ _ (by rcases q_o with rfl | rfl | rfl | rfl | rfl | rfl <;> rfl)).trans ((g24 _ _ (by rcases q_o with rfl | rfl | rfl | rfl | rfl | rfl <;> rfl)).trans ((u23.2 _ _ (Or.inl (by omega))).trans ((K19 _ (by omega)).2.1.trans ((g13 _ _ (by rcases q_o with rfl | rfl | rfl | rfl | rfl | rfl <;> rfl)).trans ((g9 _ _ (by rcases q_o with rfl | rfl | rfl | rfl | rfl | rfl <;> rfl)).trans ((u8.2 _ _ (Or.inl (by omega))).trans (K4 _ (by omega)).2.1))))))), ((g28 _ _ (by rcases q_o with rfl | rfl | rfl | rfl | rfl | rfl <;> rfl)).trans ((g24 _ _ (by rcases q_o with rfl | rfl | rfl | rfl | rfl | rfl <;> rfl)).trans ((u23.2 _ _ (Or.inl (by omega))).trans ((K19 _ (by omega)).2.2.trans ((g13 _ _ (by rcases q_o with rfl | rfl | rfl | rfl | rfl | rfl <;> rfl)).trans ((g9 _ _ (by rcases q_o with rfl | rfl | rfl | rfl | rfl | rfl <;> rfl)).trans ((u8.2 _ _ (Or.inl (by omega))).trans (K4 _ (by omega)).2.2)))))))⟩), (fun m hm => ((g28 _ _ (by rcases q_o with rfl | rfl | rfl | rfl | rfl | rfl <;> rfl)).trans ((g24 _ _ (by rcases q_o with rfl | rfl | rfl | rfl | rfl | rfl <;> rfl)).trans ((u23.2 _ _ (Or.inr hm)).trans ((g19 _ _ (by rcases q_o with rfl | rfl | rfl | rfl | rfl | rfl <;> rfl)).trans ((g13 _ _ (by rcases q_o with rfl | rfl | rfl | rfl | rfl | rfl <;> rfl)).trans ((g9 _ _ (by rcases q_o with rfl | rfl | rfl | rfl | rfl | rfl <;> rfl)).trans ((u8.2 _ _ (Or.inr hm)).trans (g4 _ _ (by rcases q_o with rfl | rfl | rfl | rfl | rfl | rfl <;> rfl))))))))))⟩
        · subst r19
          show EvP _ _ _ (17, [(3, .int 1), (0, .ref 81), (1, .ref (16 + o)), (2, .int line)], [.int 0], h19) _
          refine tz_ne (p2 := 20) rfl rfl (show Int32.toInt 0 = 0 from rfl) (fun c45 => absurd c45 (by omega)) (fun c45 => ?_)
          refine te_iconst (p2 := 21) (x := 0) rfl rfl (by decide) ?_
          exact te_zret rfl rfl (by decide) ⟨I19, f19, _, rfl, Or.inr ⟨rfl, (by rw [(show ttR (BX h) (plX h) = (-1, tsP (BX h) (tsP (BX h) (plX h) + 1)) from (by unfold ttR tu3 tu2; rw [if_neg (fun q => q O4), if_neg (show ¬ sc (BX h) (tsP (BX h) (plX h)) from c9), if_neg (fun q => q (show am (BX h) (tsP (BX h) (plX h)) from c13)), if_pos O19]))]; show (-1 : Int) < 0; decide)⟩, (by rw [(show ttR (BX h) (plX h) = (-1, tsP (BX h) (tsP (BX h) (plX h) + 1)) from (by unfold ttR tu3 tu2; rw [if_neg (fun q => q O4), if_neg (show ¬ sc (BX h) (tsP (BX h) (plX h)) from c9), if_neg (fun q => q (show am (BX h) (tsP (BX h) (plX h)) from c13)), if_pos O19])), Qb19]), (fun h9 => absurd h9 (by decide)), (fun m hm => ⟨((K19 _ (by omega)).1.trans ((g13 _ _ (by rcases q_o with rfl | rfl | rfl | rfl | rfl | rfl <;> rfl)).trans ((g9 _ _ (by rcases q_o with rfl | rfl | rfl | rfl | rfl | rfl <;> rfl)).trans ((u8.2 _ _ (Or.inl (by omega))).trans (K4 _ (by omega)).1)))), ((K19 _ (by omega)).2.1.trans ((g13 _ _ (by rcases q_o with rfl | rfl | rfl | rfl | rfl | rfl <;> rfl)).trans ((g9 _ _ (by rcases q_o with rfl | rfl | rfl | rfl | rfl | rfl <;> rfl)).trans ((u8.2 _ _ (Or.inl (by omega))).trans (K4 _ (by omega)).2.1)))), ((K19 _ (by omega)).2.2.trans ((g13 _ _ (by rcases q_o with rfl | rfl | rfl | rfl | rfl | rfl <;> rfl)).trans ((g9 _ _ (by rcases q_o with rfl | rfl | rfl | rfl | rfl | rfl <;> rfl)).trans ((u8.2 _ _ (Or.inl (by omega))).trans (K4 _ (by omega)).2.2))))⟩), (fun m hm => ((g19 _ _ (by rcases q_o with rfl | rfl | rfl | rfl | rfl | rfl <;> rfl)).trans ((g13 _ _ (by rcases q_o with rfl | rfl | rfl | rfl | rfl | rfl <;> rfl)).trans ((g9 _ _ (by rcases q_o with rfl | rfl | rfl | rfl | rfl | rfl <;> rfl)).trans ((u8.2 _ _ (Or.inr hm)).trans (g4 _ _ (by rcases q_o with rfl | rfl | rfl | rfl | rfl | rfl <;> rfl)))))))⟩
      · subst x13
        have c13 : (BX h (tsP (BX h) (plX h))).toInt ≠ 38 := cs13
        clear cs13
        show EvP _ _ _ (54, [(3, .int 0), (0, .ref 81), (1, .ref (16 + o)), (2, .int line)], [.int 0], h13) _
        refine tz_ne (p2 := 57) rfl rfl (show Int32.toInt 0 = 0 from rfl) (fun c46 => absurd c46 (by omega)) (fun c46 => ?_)
        refine te_iconst (p2 := 58) (x := 0) rfl rfl (by decide) ?_
        exact te_zret rfl rfl (by decide) ⟨I13, f13, _, rfl, Or.inr ⟨rfl, (by rw [(show ttR (BX h) (plX h) = (-1, tsP (BX h) (plX h)) from (by unfold ttR tu3 tu2; rw [if_neg (fun q => q O4), if_neg (show ¬ sc (BX h) (tsP (BX h) (plX h)) from c9), if_pos (show ¬ am (BX h) (tsP (BX h) (plX h)) from c13)]))]; show (-1 : Int) < 0; decide)⟩, (by rw [(show ttR (BX h) (plX h) = (-1, tsP (BX h) (plX h)) from (by unfold ttR tu3 tu2; rw [if_neg (fun q => q O4), if_neg (show ¬ sc (BX h) (tsP (BX h) (plX h)) from c9), if_pos (show ¬ am (BX h) (tsP (BX h) (plX h)) from c13)])), p13]), (fun h9 => absurd h9 (by decide)), (fun m hm => ⟨((g13 _ _ (by rcases q_o with rfl | rfl | rfl | rfl | rfl | rfl <;> rfl)).trans ((g9 _ _ (by rcases q_o with rfl | rfl | rfl | rfl | rfl | rfl <;> rfl)).trans ((u8.2 _ _ (Or.inl (by omega))).trans (K4 _ (by omega)).1))), ((g13 _ _ (by rcases q_o with rfl | rfl | rfl | rfl | rfl | rfl <;> rfl)).trans ((g9 _ _ (by rcases q_o with rfl | rfl | rfl | rfl | rfl | rfl <;> rfl)).trans ((u8.2 _ _ (Or.inl (by omega))).trans (K4 _ (by omega)).2.1))), ((g13 _ _ (by rcases q_o with rfl | rfl | rfl | rfl | rfl | rfl <;> rfl)).trans ((g9 _ _ (by rcases q_o with rfl | rfl | rfl | rfl | rfl | rfl <;> rfl)).trans ((u8.2 _ _ (Or.inl (by omega))).trans (K4 _ (by omega)).2.2)))⟩), (fun m hm => ((g13 _ _ (by rcases q_o with rfl | rfl | rfl | rfl | rfl | rfl <;> rfl)).trans ((g9 _ _ (by rcases q_o with rfl | rfl | rfl | rfl | rfl | rfl <;> rfl)).trans ((u8.2 _ _ (Or.inr hm)).trans (g4 _ _ (by rcases q_o with rfl | rfl | rfl | rfl | rfl | rfl <;> rfl))))))⟩
  · subst r4
    show EvP _ _ _ (17, [(3, .int 0), (0, .ref 81), (1, .ref (16 + o)), (2, .int line)], [.int 0], h4) _
    refine tz_ne (p2 := 20) rfl rfl (show Int32.toInt 0 = 0 from rfl) (fun c47 => absurd c47 (by omega)) (fun c47 => ?_)
    refine te_iconst (p2 := 21) (x := 0) rfl rfl (by decide) ?_
    exact te_zret rfl rfl (by decide) ⟨I4, f4, _, rfl, Or.inr ⟨rfl, (by rw [(show ttR (BX h) (plX h) = (-1, tsP (BX h) (plX h)) from (by unfold ttR tu3 tu2; rw [if_pos O4]))]; show (-1 : Int) < 0; decide)⟩, (by rw [(show ttR (BX h) (plX h) = (-1, tsP (BX h) (plX h)) from (by unfold ttR tu3 tu2; rw [if_pos O4])), Qb4]), (fun h9 => absurd h9 (by decide)), (fun m hm => ⟨(K4 _ (by omega)).1, (K4 _ (by omega)).2.1, (K4 _ (by omega)).2.2⟩), (fun m hm => (g4 _ _ (by rcases q_o with rfl | rfl | rfl | rfl | rfl | rfl <;> rfl)))⟩
set_option maxRecDepth 20000 in
set_option maxHeartbeats 4000000 in
theorem c_X10_readLine {o : Nat} {line : Int32} {h : im_H} (hI : tI h) (q_o : o = 98 ∨ o = 105 ∨ o = 112 ∨ o = 119 ∨ o = 126 ∨ o = 133) (p_line0 : 0 ≤ line.toInt) (p_line1 : line.toInt ≤ 7) : CaP 5 52 [.ref 81, .ref (16 + o), .int line] h (fun v h2 => tI h2 ∧ fr (F_X10_readLine o) h h2 ∧ ∃ y : Int32, v = some (.int y) ∧ ((y = 1 ∧ 0 ≤ (lnR (BX h) (plX h)).1) ∨ (y = 0 ∧ (lnR (BX h) (plX h)).1 < 0)) ∧ plX h2 = (lnR (BX h) (plX h)).2 ∧ (y = 1 → lnC h2 o line.toInt.toNat (BX h) (plX h)) ∧ (∀ m : Nat, m ≠ line.toInt.toNat → rd h2 (o + 1) m = rd h (o + 1) m ∧ rd h2 (o + 2) m = rd h (o + 2) m ∧ rd h2 (o + 3) m = rd h (o + 3) m) ∧ (∀ m : Nat, ¬ (3 * line.toInt.toNat ≤ m ∧ m < 3 * line.toInt.toNat + 3) → rd h2 (o + 4) m = rd h (o + 4) m ∧ rd h2 (o + 5) m = rd h (o + 5) m ∧ rd h2 (o + 6) m = rd h (o + 6) m)) := by
  refine cap_of (d := 4) (M := mX10_readLine) rfl (Nat.le_of_ble_eq_true rfl) ?_
  show EvP im_K0 4 mX10_readLine (0, [(0, .ref 81), (1, .ref (16 + o)), (2, .int line)], [], h) _
  have f0 : fr (F_X10_readLine o) h h := fr_rf
  refine te_aload_n (p2 := 1) rfl rfl rfl ?_
  refine tg_r (p2 := 4) (i := o) (r := (16 + (o + 1))) rfl rfl hI rfl (by rcases q_o with rfl | rfl | rfl | rfl | rfl | rfl <;> rfl) (by rcases q_o with rfl | rfl | rfl | rfl | rfl | rfl <;> rfl) ?_
  refine te_iload_n (p2 := 5) rfl rfl rfl ?_
  refine te_aload_n (p2 := 6) rfl rfl rfl ?_
  refine te_ldc (p2 := 8) rfl rfl (by decide) ?_
  refine tc_V (p2 := 11) (i := 65) rfl rfl rfl rfl hI rfl rfl rfl (c_X10_readWord_0  hI ) (by decide) (fun v1 h1 hq1 => ?_)
  obtain ⟨I1, g1, y1, w1, Qa1, Qb1⟩ := hq1
  subst w1
  have f1 := fr_tr (F1 := F_X10_readWord_0) (F := (F_X10_readLine o)) f0 g1 (by rcases q_o with rfl | rfl | rfl | rfl | rfl | rfl <;> decide)
  show EvP _ _ _ (11, [(0, .ref 81), (1, .ref (16 + o)), (2, .int line)], [.int y1, .int line, .ref (16 + (o + 1))], h1) _
  refine ts_i (p2 := 12) (i := (o + 1)) (n := 8) rfl rfl I1 rfl (by rcases q_o with rfl | rfl | rfl | rfl | rfl | rfl <;> rfl) (by rcases q_o with rfl | rfl | rfl | rfl | rfl | rfl <;> rfl) rfl (by omega) (by omega) (i32_lo _) (i32_hi _) (i32_ho _) (by rcases q_o with rfl | rfl | rfl | rfl | rfl | rfl <;> rfl) (fun h2 I2 u2 => ?_)
  have f2 := fr_st (F := (F_X10_readLine o)) 0 f1 u2 rfl (by omega) (by omega)
  refine te_aload_n (p2 := 13) rfl rfl rfl ?_
  refine tg_r (p2 := 16) (i := o) (r := (16 + (o + 1))) rfl rfl I2 rfl (by rcases q_o with rfl | rfl | rfl | rfl | rfl | rfl <;> rfl) (by rcases q_o with rfl | rfl | rfl | rfl | rfl | rfl <;> rfl) ?_
  refine te_iload_n (p2 := 17) rfl rfl rfl ?_
  refine tl_e (p2 := 18) (i := (o + 1)) (n := 8) (t := 0) (Or.inl rfl) rfl rfl I2 rfl (by rcases q_o with rfl | rfl | rfl | rfl | rfl | rfl <;> rfl) (by omega) (by omega) u2.1 ?_
  refine tz_lt (p2 := 21) rfl rfl rfl (fun c4 => ?_) (fun c4 => ?_)
  · refine te_iconst (p2 := 31) (x := 0) rfl rfl (by decide) ?_
    exact te_zret rfl rfl (by decide) ⟨I2, f2, _, rfl, Or.inr ⟨rfl, (by rw [(show lnR (BX h) (plX h) = (-1, plX h + ((wdF KW (cs (BX h) (plX h)) 0 0).2 : Int)) from (by (have q0 := Qa1); unfold lnR; rw [if_pos (fun q => by (have h9 := q.1); omega)]; try rfl))]; show (-1 : Int) < 0; decide)⟩, (by rw [(show lnR (BX h) (plX h) = (-1, plX h + ((wdF KW (cs (BX h) (plX h)) 0 0).2 : Int)) from (by (have q0 := Qa1); unfold lnR; rw [if_pos (fun q => by (have h9 := q.1); omega)]; try rfl)), ((plX_e (u2.2 _ _ (Or.inl (by omega)))).trans Qb1)]), (fun h9 => absurd h9 (by decide)), (fun m hm => ⟨((u2.2 _ _ (Or.inr hm)).trans (g1 _ _ (by rcases q_o with rfl | rfl | rfl | rfl | rfl | rfl <;> rfl))), ((u2.2 _ _ (Or.inl (by omega))).trans (g1 _ _ (by rcases q_o with rfl | rfl | rfl | rfl | rfl | rfl <;> rfl))), ((u2.2 _ _ (Or.inl (by omega))).trans (g1 _ _ (by rcases q_o with rfl | rfl | rfl | rfl | rfl | rfl <;> rfl)))⟩), (fun m hm => ⟨((u2.2 _ _ (Or.inl (by omega))).trans (g1 _ _ (by rcases q_o with rfl | rfl | rfl | rfl | rfl | rfl <;> rfl))), ((u2.2 _ _ (Or.inl (by omega))).trans (g1 _ _ (by rcases q_o with rfl | rfl | rfl | rfl | rfl | rfl <;> rfl))), ((u2.2 _ _ (Or.inl (by omega))).trans (g1 _ _ (by rcases q_o with rfl | rfl | rfl | rfl | rfl | rfl <;> rfl)))⟩)⟩
  · refine te_aload_n (p2 := 22) rfl rfl rfl ?_
    refine te_bipush (p2 := 24) (x := 32) rfl rfl (by decide) ?_
    refine tc_V (p2 := 27) (i := 65) rfl rfl rfl rfl I2 rfl rfl rfl (c_X10_readSign (sign := 32) I2 (by decide) (by decide)) (by decide) (fun v5 h5 hq5 => ?_)
    obtain ⟨I5, g5, y5, w5, Q5⟩ := hq5
    subst w5
    rw [(BX_fr f2 (by rcases q_o with rfl | rfl | rfl | rfl | rfl | rfl <;> rfl) (fun _ => (by rcases q_o with rfl | rfl | rfl | rfl | rfl | rfl <;> rfl))), ((plX_e (u2.2 _ _ (Or.inl (by omega)))).trans Qb1)] at Q5
    have f5 := fr_tr (F1 := F_X10_readSign) (F := (F_X10_readLine o)) f2 g5 (by rcases q_o with rfl | rfl | rfl | rfl | rfl | rfl <;> decide)
    rcases Q5 with ⟨x5, cs5, p5⟩ | ⟨x5, cs5, p5⟩
    · subst x5
      have c5 : (BX h (plX h + ((wdF KW (cs (BX h) (plX h)) 0 0).2 : Int))).toInt = 32 := cs5
      clear cs5
      show EvP _ _ _ (27, [(0, .ref 81), (1, .ref (16 + o)), (2, .int line)], [.int 1], h5) _
      refine tz_ne (p2 := 30) rfl rfl (show Int32.toInt 1 = 1 from rfl) (fun c6 => ?_) (fun c6 => absurd c6 (by omega))
      refine te_aload_n (p2 := 33) rfl rfl rfl ?_
      refine tg_r (p2 := 36) (i := o) (r := (16 + (o + 2))) rfl rfl I5 rfl (by rcases q_o with rfl | rfl | rfl | rfl | rfl | rfl <;> rfl) (by rcases q_o with rfl | rfl | rfl | rfl | rfl | rfl <;> rfl) ?_
      refine te_iload_n (p2 := 37) rfl rfl rfl ?_
      refine te_aload_n (p2 := 38) rfl rfl rfl ?_
      refine tc_V (p2 := 41) (i := 65) rfl rfl rfl rfl I5 rfl rfl rfl (c_X10_readNumber  I5 ) (by decide) (fun v7 h7 hq7 => ?_)
      obtain ⟨I7, g7, y7, w7, Qa7, Qb7⟩ := hq7
      subst w7
      rw [(BX_fr f5 (by rcases q_o with rfl | rfl | rfl | rfl | rfl | rfl <;> rfl) (fun _ => (by rcases q_o with rfl | rfl | rfl | rfl | rfl | rfl <;> rfl))), p5] at Qa7 Qb7
      have f7 := fr_tr (F1 := F_X10_readNumber) (F := (F_X10_readLine o)) f5 g7 (by rcases q_o with rfl | rfl | rfl | rfl | rfl | rfl <;> decide)
      show EvP _ _ _ (41, [(0, .ref 81), (1, .ref (16 + o)), (2, .int line)], [.int y7, .int line, .ref (16 + (o + 2))], h7) _
      refine ts_i (p2 := 42) (i := (o + 2)) (n := 8) rfl rfl I7 rfl (by rcases q_o with rfl | rfl | rfl | rfl | rfl | rfl <;> rfl) (by rcases q_o with rfl | rfl | rfl | rfl | rfl | rfl <;> rfl) rfl (by omega) (by omega) (i32_lo _) (i32_hi _) (i32_ho _) (by rcases q_o with rfl | rfl | rfl | rfl | rfl | rfl <;> rfl) (fun h8 I8 u8 => ?_)
      have f8 := fr_st (F := (F_X10_readLine o)) 1 f7 u8 rfl (by omega) (by omega)
      refine te_aload_n (p2 := 43) rfl rfl rfl ?_
      refine tg_r (p2 := 46) (i := o) (r := (16 + (o + 3))) rfl rfl I8 rfl (by rcases q_o with rfl | rfl | rfl | rfl | rfl | rfl <;> rfl) (by rcases q_o with rfl | rfl | rfl | rfl | rfl | rfl <;> rfl) ?_
      refine te_iload_n (p2 := 47) rfl rfl rfl ?_
      refine te_iconst (p2 := 48) (x := 0) rfl rfl (by decide) ?_
      refine ts_iO (p2 := 49) (i := (o + 3)) (n := 8) rfl rfl I8 rfl (by rcases q_o with rfl | rfl | rfl | rfl | rfl | rfl <;> rfl) (by rcases q_o with rfl | rfl | rfl | rfl | rfl | rfl <;> rfl) rfl (by omega) (by omega) (by decide) (by decide) (by decide) (fun h2 hu => tO_cnt0 I8.2.2 (by rcases q_o with rfl | rfl | rfl | rfl | rfl | rfl <;> decide) hu) (fun h9 I9 u9 => ?_)
      have f9 := fr_st (F := (F_X10_readLine o)) 2 f8 u9 rfl (by omega) (by omega)
      refine te_aload_n (p2 := 50) rfl rfl rfl ?_
      refine tg_r (p2 := 53) (i := o) (r := (16 + (o + 2))) rfl rfl I9 rfl (by rcases q_o with rfl | rfl | rfl | rfl | rfl | rfl <;> rfl) (by rcases q_o with rfl | rfl | rfl | rfl | rfl | rfl <;> rfl) ?_
      refine te_iload_n (p2 := 54) rfl rfl rfl ?_
      refine tl_e (p2 := 55) (i := (o + 2)) (n := 8) (t := 0) (Or.inl rfl) rfl rfl I9 rfl (by rcases q_o with rfl | rfl | rfl | rfl | rfl | rfl <;> rfl) (by omega) (by omega) ((u9.2 _ _ (Or.inl (by omega))).trans u8.1) ?_
      refine tz_ge (p2 := 58) rfl rfl rfl (fun c11 => ?_) (fun c11 => ?_)
      · refine te_aload_n (p2 := 61) rfl rfl rfl ?_
        refine te_bipush (p2 := 63) (x := 59) rfl rfl (by decide) ?_
        refine tc_V (p2 := 66) (i := 65) rfl rfl rfl rfl I9 rfl rfl rfl (c_X10_readSign (sign := 59) I9 (by decide) (by decide)) (by decide) (fun v12 h12 hq12 => ?_)
        obtain ⟨I12, g12, y12, w12, Q12⟩ := hq12
        subst w12
        rw [(BX_fr f9 (by rcases q_o with rfl | rfl | rfl | rfl | rfl | rfl <;> rfl) (fun _ => (by rcases q_o with rfl | rfl | rfl | rfl | rfl | rfl <;> rfl))), ((plX_e ((u9.2 _ _ (Or.inl (by omega))).trans (u8.2 _ _ (Or.inl (by omega))))).trans Qb7)] at Q12
        have f12 := fr_tr (F1 := F_X10_readSign) (F := (F_X10_readLine o)) f9 g12 (by rcases q_o with rfl | rfl | rfl | rfl | rfl | rfl <;> decide)
        rcases Q12 with ⟨x12, cs12, p12⟩ | ⟨x12, cs12, p12⟩
        · subst x12
          have c12 : (BX h (plX h + ((wdF KW (cs (BX h) (plX h)) 0 0).2 : Int) + 1 + ((nuF (cs (BX h) (plX h + ((wdF KW (cs (BX h) (plX h)) 0 0).2 : Int) + 1))).2 : Int))).toInt = 59 := cs12
          clear cs12
          show EvP _ _ _ (66, [(0, .ref 81), (1, .ref (16 + o)), (2, .int line)], [.int 1], h12) _
          refine tz_eq (p2 := 69) rfl rfl (show Int32.toInt 1 = 1 from rfl) (fun c13 => absurd c13 (by omega)) (fun c13 => ?_)
          refine te_iconst (p2 := 70) (x := 1) rfl rfl (by decide) ?_
          exact te_zret rfl rfl (by decide) ⟨I12, f12, _, rfl, Or.inl ⟨rfl, (by rw [(show lnR (BX h) (plX h) = (0, plX h + ((wdF KW (cs (BX h) (plX h)) 0 0).2 : Int) + 1 + ((nuF (cs (BX h) (plX h + ((wdF KW (cs (BX h) (plX h)) 0 0).2 : Int) + 1))).2 : Int) + 1) from (by (have q0 := Qa1); (have q1 : _ = (lnN (BX h) (plX h)).1 := Qa7); unfold lnR; rw [if_neg (fun q => q (show lnH (BX h) (plX h) from ⟨by omega, c5⟩)), if_neg (show ¬ (lnN (BX h) (plX h)).1 < 0 by omega), if_pos (show sc (BX h) (lnE (BX h) (plX h)) from c12)]; try rfl))]; show (0 : Int) ≤ 0; decide)⟩, (by rw [(show lnR (BX h) (plX h) = (0, plX h + ((wdF KW (cs (BX h) (plX h)) 0 0).2 : Int) + 1 + ((nuF (cs (BX h) (plX h + ((wdF KW (cs (BX h) (plX h)) 0 0).2 : Int) + 1))).2 : Int) + 1) from (by (have q0 := Qa1); (have q1 : _ = (lnN (BX h) (plX h)).1 := Qa7); unfold lnR; rw [if_neg (fun q => q (show lnH (BX h) (plX h) from ⟨by omega, c5⟩)), if_neg (show ¬ (lnN (BX h) (plX h)).1 < 0 by omega), if_pos (show sc (BX h) (lnE (BX h) (plX h)) from c12)]; try rfl)), p12]), (fun _ => by (have q0 := Qa1); (have q1 : _ = (lnN (BX h) (plX h)).1 := Qa7); exact ⟨_, _, 0, ((g12 _ _ (by rcases q_o with rfl | rfl | rfl | rfl | rfl | rfl <;> rfl)).trans ((u9.2 _ _ (Or.inl (by omega))).trans ((u8.2 _ _ (Or.inl (by omega))).trans ((g7 _ _ (by rcases q_o with rfl | rfl | rfl | rfl | rfl | rfl <;> rfl)).trans ((g5 _ _ (by rcases q_o with rfl | rfl | rfl | rfl | rfl | rfl <;> rfl)).trans u2.1))))), q0, ((g12 _ _ (by rcases q_o with rfl | rfl | rfl | rfl | rfl | rfl <;> rfl)).trans ((u9.2 _ _ (Or.inl (by omega))).trans u8.1)), q1, ((g12 _ _ (by rcases q_o with rfl | rfl | rfl | rfl | rfl | rfl <;> rfl)).trans u9.1), (by rw [(show lnR (BX h) (plX h) = (0, plX h + ((wdF KW (cs (BX h) (plX h)) 0 0).2 : Int) + 1 + ((nuF (cs (BX h) (plX h + ((wdF KW (cs (BX h) (plX h)) 0 0).2 : Int) + 1))).2 : Int) + 1) from (by (have q0 := Qa1); (have q1 : _ = (lnN (BX h) (plX h)).1 := Qa7); unfold lnR; rw [if_neg (fun q => q (show lnH (BX h) (plX h) from ⟨by omega, c5⟩)), if_neg (show ¬ (lnN (BX h) (plX h)).1 < 0 by omega), if_pos (show sc (BX h) (lnE (BX h) (plX h)) from c12)]; try rfl))]; rfl), (fun t h9 => by (rw [(show lnR (BX h) (plX h) = (0, plX h + ((wdF KW (cs (BX h) (plX h)) 0 0).2 : Int) + 1 + ((nuF (cs (BX h) (plX h + ((wdF KW (cs (BX h) (plX h)) 0 0).2 : Int) + 1))).2 : Int) + 1) from (by (have q0 := Qa1); (have q1 : _ = (lnN (BX h) (plX h)).1 := Qa7); unfold lnR; rw [if_neg (fun q => q (show lnH (BX h) (plX h) from ⟨by omega, c5⟩)), if_neg (show ¬ (lnN (BX h) (plX h)).1 < 0 by omega), if_pos (show sc (BX h) (lnE (BX h) (plX h)) from c12)]; try rfl))] at h9; exact absurd (show (t : Int) < 0 from h9) (by omega)))⟩), (fun m hm => ⟨((g12 _ _ (by rcases q_o with rfl | rfl | rfl | rfl | rfl | rfl <;> rfl)).trans ((u9.2 _ _ (Or.inl (by omega))).trans ((u8.2 _ _ (Or.inl (by omega))).trans ((g7 _ _ (by rcases q_o with rfl | rfl | rfl | rfl | rfl | rfl <;> rfl)).trans ((g5 _ _ (by rcases q_o with rfl | rfl | rfl | rfl | rfl | rfl <;> rfl)).trans ((u2.2 _ _ (Or.inr hm)).trans (g1 _ _ (by rcases q_o with rfl | rfl | rfl | rfl | rfl | rfl <;> rfl)))))))), ((g12 _ _ (by rcases q_o with rfl | rfl | rfl | rfl | rfl | rfl <;> rfl)).trans ((u9.2 _ _ (Or.inl (by omega))).trans ((u8.2 _ _ (Or.inr hm)).trans ((g7 _ _ (by rcases q_o with rfl | rfl | rfl | rfl | rfl | rfl <;> rfl)).trans ((g5 _ _ (by rcases q_o with rfl | rfl | rfl | rfl | rfl | rfl <;> rfl)).trans ((u2.2 _ _ (Or.inl (by omega))).trans (g1 _ _ (by rcases q_o with rfl | rfl | rfl | rfl | rfl | rfl <;> rfl)))))))), ((g12 _ _ (by rcases q_o with rfl | rfl | rfl | rfl | rfl | rfl <;> rfl)).trans ((u9.2 _ _ (Or.inr hm)).trans ((u8.2 _ _ (Or.inl (by omega))).trans ((g7 _ _ (by rcases q_o with rfl | rfl | rfl | rfl | rfl | rfl <;> rfl)).trans ((g5 _ _ (by rcases q_o with rfl | rfl | rfl | rfl | rfl | rfl <;> rfl)).trans ((u2.2 _ _ (Or.inl (by omega))).trans (g1 _ _ (by rcases q_o with rfl | rfl | rfl | rfl | rfl | rfl <;> rfl))))))))⟩), (fun m hm => ⟨((g12 _ _ (by rcases q_o with rfl | rfl | rfl | rfl | rfl | rfl <;> rfl)).trans ((u9.2 _ _ (Or.inl (by omega))).trans ((u8.2 _ _ (Or.inl (by omega))).trans ((g7 _ _ (by rcases q_o with rfl | rfl | rfl | rfl | rfl | rfl <;> rfl)).trans ((g5 _ _ (by rcases q_o with rfl | rfl | rfl | rfl | rfl | rfl <;> rfl)).trans ((u2.2 _ _ (Or.inl (by omega))).trans (g1 _ _ (by rcases q_o with rfl | rfl | rfl | rfl | rfl | rfl <;> rfl)))))))), ((g12 _ _ (by rcases q_o with rfl | rfl | rfl | rfl | rfl | rfl <;> rfl)).trans ((u9.2 _ _ (Or.inl (by omega))).trans ((u8.2 _ _ (Or.inl (by omega))).trans ((g7 _ _ (by rcases q_o with rfl | rfl | rfl | rfl | rfl | rfl <;> rfl)).trans ((g5 _ _ (by rcases q_o with rfl | rfl | rfl | rfl | rfl | rfl <;> rfl)).trans ((u2.2 _ _ (Or.inl (by omega))).trans (g1 _ _ (by rcases q_o with rfl | rfl | rfl | rfl | rfl | rfl <;> rfl)))))))), ((g12 _ _ (by rcases q_o with rfl | rfl | rfl | rfl | rfl | rfl <;> rfl)).trans ((u9.2 _ _ (Or.inl (by omega))).trans ((u8.2 _ _ (Or.inl (by omega))).trans ((g7 _ _ (by rcases q_o with rfl | rfl | rfl | rfl | rfl | rfl <;> rfl)).trans ((g5 _ _ (by rcases q_o with rfl | rfl | rfl | rfl | rfl | rfl <;> rfl)).trans ((u2.2 _ _ (Or.inl (by omega))).trans (g1 _ _ (by rcases q_o with rfl | rfl | rfl | rfl | rfl | rfl <;> rfl))))))))⟩)⟩
        · subst x12
          have c12 : (BX h (plX h + ((wdF KW (cs (BX h) (plX h)) 0 0).2 : Int) + 1 + ((nuF (cs (BX h) (plX h + ((wdF KW (cs (BX h) (plX h)) 0 0).2 : Int) + 1))).2 : Int))).toInt ≠ 59 := cs12
          clear cs12
          show EvP _ _ _ (66, [(0, .ref 81), (1, .ref (16 + o)), (2, .int line)], [.int 0], h12) _
          refine tz_eq (p2 := 69) rfl rfl (show Int32.toInt 0 = 0 from rfl) (fun c14 => ?_) (fun c14 => absurd c14 (by omega))
          refine te_aload_n (p2 := 72) rfl rfl rfl ?_
          refine tc_V (p2 := 75) (i := 65) rfl rfl rfl rfl I12 rfl rfl rfl (c_X10_readIf  I12 ) (by decide) (fun v15 h15 hq15 => ?_)
          obtain ⟨I15, g15, y15, w15, Q15, p15⟩ := hq15
          subst w15
          rw [(BX_fr f12 (by rcases q_o with rfl | rfl | rfl | rfl | rfl | rfl <;> rfl) (fun _ => (by rcases q_o with rfl | rfl | rfl | rfl | rfl | rfl <;> rfl))), p12] at Q15 p15
          have f15 := fr_tr (F1 := F_X10_readIf) (F := (F_X10_readLine o)) f12 g15 (by rcases q_o with rfl | rfl | rfl | rfl | rfl | rfl <;> decide)
          rcases Q15 with ⟨x15, c15⟩ | ⟨x15, c15⟩
          · subst x15
            rw [c15] at p15
            have p15 : plX h15 = plX h + ((wdF KW (cs (BX h) (plX h)) 0 0).2 : Int) + 1 + ((nuF (cs (BX h) (plX h + ((wdF KW (cs (BX h) (plX h)) 0 0).2 : Int) + 1))).2 : Int) + 4 := p15
            show EvP _ _ _ (75, [(0, .ref 81), (1, .ref (16 + o)), (2, .int line)], [.int 1], h15) _
            refine tz_eq (p2 := 78) rfl rfl (show Int32.toInt 1 = 1 from rfl) (fun c16 => absurd c16 (by omega)) (fun c16 => ?_)
            refine te_aload_n (p2 := 79) rfl rfl rfl ?_
            refine te_aload_n (p2 := 80) rfl rfl rfl ?_
            refine te_iload_n (p2 := 81) rfl rfl rfl ?_
            refine tc_V (p2 := 84) (i := 65) rfl rfl rfl rfl I15 rfl rfl rfl (c_X10_readTests (o := o) (line := line) (gc := 0) I15 q_o (by omega) (by omega) ((g15 _ _ (by rcases q_o with rfl | rfl | rfl | rfl | rfl | rfl <;> rfl)).trans ((g12 _ _ (by rcases q_o with rfl | rfl | rfl | rfl | rfl | rfl <;> rfl)).trans u9.1)) (by decide) (by decide)) (by decide) (fun v17 h17 hq17 => ?_)
            obtain ⟨I17, g17, y17, w17, Q17, p17, Qc17, K17, L17⟩ := hq17
            subst w17
            rw [(BX_fr f15 (by rcases q_o with rfl | rfl | rfl | rfl | rfl | rfl <;> rfl) (fun _ => (by rcases q_o with rfl | rfl | rfl | rfl | rfl | rfl <;> rfl))), p15] at Q17 p17 Qc17
            have f17 := fr_tr (F1 := (F_X10_readTests o)) (F := (F_X10_readLine o)) f15 g17 (by rcases q_o with rfl | rfl | rfl | rfl | rfl | rfl <;> decide)
            rcases Q17 with ⟨x17, c17⟩ | ⟨x17, c17⟩
            · subst x17
              show EvP _ _ _ (84, [(0, .ref 81), (1, .ref (16 + o)), (2, .int line)], [.int 1], h17) _
              refine tz_eq (p2 := 87) rfl rfl (show Int32.toInt 1 = 1 from rfl) (fun c18 => absurd c18 (by omega)) (fun c18 => ?_)
              refine te_iconst (p2 := 88) (x := 1) rfl rfl (by decide) ?_
              refine te_goto rfl ?_
              exact te_zret rfl rfl (by decide) ⟨I17, f17, _, rfl, Or.inl ⟨rfl, (by rw [(show lnR (BX h) (plX h) = ttR (BX h) (plX h + ((wdF KW (cs (BX h) (plX h)) 0 0).2 : Int) + 1 + ((nuF (cs (BX h) (plX h + ((wdF KW (cs (BX h) (plX h)) 0 0).2 : Int) + 1))).2 : Int) + 4) from (by (have q0 := Qa1); (have q1 : _ = (lnN (BX h) (plX h)).1 := Qa7); unfold lnR; rw [if_neg (fun q => q (show lnH (BX h) (plX h) from ⟨by omega, c5⟩)), if_neg (show ¬ (lnN (BX h) (plX h)).1 < 0 by omega), if_neg (show ¬ sc (BX h) (lnE (BX h) (plX h)) from c12), if_neg (fun q => q (show lnI (BX h) (plX h) from c15))]; try rfl))]; exact c17)⟩, (by rw [(show lnR (BX h) (plX h) = ttR (BX h) (plX h + ((wdF KW (cs (BX h) (plX h)) 0 0).2 : Int) + 1 + ((nuF (cs (BX h) (plX h + ((wdF KW (cs (BX h) (plX h)) 0 0).2 : Int) + 1))).2 : Int) + 4) from (by (have q0 := Qa1); (have q1 : _ = (lnN (BX h) (plX h)).1 := Qa7); unfold lnR; rw [if_neg (fun q => q (show lnH (BX h) (plX h) from ⟨by omega, c5⟩)), if_neg (show ¬ (lnN (BX h) (plX h)).1 < 0 by omega), if_neg (show ¬ sc (BX h) (lnE (BX h) (plX h)) from c12), if_neg (fun q => q (show lnI (BX h) (plX h) from c15))]; try rfl)), p17]), (fun _ => by (have q0 := Qa1); (have q1 : _ = (lnN (BX h) (plX h)).1 := Qa7); (obtain ⟨c, ec, hc, ht⟩ := Qc17 rfl); exact ⟨_, _, c, ((g17 _ _ (by rcases q_o with rfl | rfl | rfl | rfl | rfl | rfl <;> rfl)).trans ((g15 _ _ (by rcases q_o with rfl | rfl | rfl | rfl | rfl | rfl <;> rfl)).trans ((g12 _ _ (by rcases q_o with rfl | rfl | rfl | rfl | rfl | rfl <;> rfl)).trans ((u9.2 _ _ (Or.inl (by omega))).trans ((u8.2 _ _ (Or.inl (by omega))).trans ((g7 _ _ (by rcases q_o with rfl | rfl | rfl | rfl | rfl | rfl <;> rfl)).trans ((g5 _ _ (by rcases q_o with rfl | rfl | rfl | rfl | rfl | rfl <;> rfl)).trans u2.1))))))), q0, ((g17 _ _ (by rcases q_o with rfl | rfl | rfl | rfl | rfl | rfl <;> rfl)).trans ((g15 _ _ (by rcases q_o with rfl | rfl | rfl | rfl | rfl | rfl <;> rfl)).trans ((g12 _ _ (by rcases q_o with rfl | rfl | rfl | rfl | rfl | rfl <;> rfl)).trans ((u9.2 _ _ (Or.inl (by omega))).trans u8.1)))), q1, ec, (by rw [(show lnR (BX h) (plX h) = ttR (BX h) (plX h + ((wdF KW (cs (BX h) (plX h)) 0 0).2 : Int) + 1 + ((nuF (cs (BX h) (plX h + ((wdF KW (cs (BX h) (plX h)) 0 0).2 : Int) + 1))).2 : Int) + 4) from (by (have q0 := Qa1); (have q1 : _ = (lnN (BX h) (plX h)).1 := Qa7); unfold lnR; rw [if_neg (fun q => q (show lnH (BX h) (plX h) from ⟨by omega, c5⟩)), if_neg (show ¬ (lnN (BX h) (plX h)).1 < 0 by omega), if_neg (show ¬ sc (BX h) (lnE (BX h) (plX h)) from c12), if_neg (fun q => q (show lnI (BX h) (plX h) from c15))]; try rfl))]; exact hc), (fun t h9 => ht t (by rw [← (show lnR (BX h) (plX h) = ttR (BX h) (plX h + ((wdF KW (cs (BX h) (plX h)) 0 0).2 : Int) + 1 + ((nuF (cs (BX h) (plX h + ((wdF KW (cs (BX h) (plX h)) 0 0).2 : Int) + 1))).2 : Int) + 4) from (by (have q0 := Qa1); (have q1 : _ = (lnN (BX h) (plX h)).1 := Qa7); unfold lnR; rw [if_neg (fun q => q (show lnH (BX h) (plX h) from ⟨by omega, c5⟩)), if_neg (show ¬ (lnN (BX h) (plX h)).1 < 0 by omega), if_neg (show ¬ sc (BX h) (lnE (BX h) (plX h)) from c12), if_neg (fun q => q (show lnI (BX h) (plX h) from c15))]; try rfl))]; exact h9))⟩), (fun m hm => ⟨((g17 _ _ (by rcases q_o with rfl | rfl | rfl | rfl | rfl | rfl <;> rfl)).trans ((g15 _ _ (by rcases q_o with rfl | rfl | rfl | rfl | rfl | rfl <;> rfl)).trans ((g12 _ _ (by rcases q_o with rfl | rfl | rfl | rfl | rfl | rfl <;> rfl)).trans ((u9.2 _ _ (Or.inl (by omega))).trans ((u8.2 _ _ (Or.inl (by omega))).trans ((g7 _ _ (by rcases q_o with rfl | rfl | rfl | rfl | rfl | rfl <;> rfl)).trans ((g5 _ _ (by rcases q_o with rfl | rfl | rfl | rfl | rfl | rfl <;> rfl)).trans ((u2.2 _ _ (Or.inr hm)).trans (g1 _ _ (by rcases q_o with rfl | rfl | rfl | rfl | rfl | rfl <;> rfl)))))))))), ((g17 _ _ (by rcases q_o with rfl | rfl | rfl | rfl | rfl | rfl <;> rfl)).trans ((g15 _ _ (by rcases q_o with rfl | rfl | rfl | rfl | rfl | rfl <;> rfl)).trans ((g12 _ _ (by rcases q_o with rfl | rfl | rfl | rfl | rfl | rfl <;> rfl)).trans ((u9.2 _ _ (Or.inl (by omega))).trans ((u8.2 _ _ (Or.inr hm)).trans ((g7 _ _ (by rcases q_o with rfl | rfl | rfl | rfl | rfl | rfl <;> rfl)).trans ((g5 _ _ (by rcases q_o with rfl | rfl | rfl | rfl | rfl | rfl <;> rfl)).trans ((u2.2 _ _ (Or.inl (by omega))).trans (g1 _ _ (by rcases q_o with rfl | rfl | rfl | rfl | rfl | rfl <;> rfl)))))))))), ((L17 _ hm).trans ((g15 _ _ (by rcases q_o with rfl | rfl | rfl | rfl | rfl | rfl <;> rfl)).trans ((g12 _ _ (by rcases q_o with rfl | rfl | rfl | rfl | rfl | rfl <;> rfl)).trans ((u9.2 _ _ (Or.inr hm)).trans ((u8.2 _ _ (Or.inl (by omega))).trans ((g7 _ _ (by rcases q_o with rfl | rfl | rfl | rfl | rfl | rfl <;> rfl)).trans ((g5 _ _ (by rcases q_o with rfl | rfl | rfl | rfl | rfl | rfl <;> rfl)).trans ((u2.2 _ _ (Or.inl (by omega))).trans (g1 _ _ (by rcases q_o with rfl | rfl | rfl | rfl | rfl | rfl <;> rfl))))))))))⟩), (fun m hm => ⟨((K17 _ hm).1.trans ((g15 _ _ (by rcases q_o with rfl | rfl | rfl | rfl | rfl | rfl <;> rfl)).trans ((g12 _ _ (by rcases q_o with rfl | rfl | rfl | rfl | rfl | rfl <;> rfl)).trans ((u9.2 _ _ (Or.inl (by omega))).trans ((u8.2 _ _ (Or.inl (by omega))).trans ((g7 _ _ (by rcases q_o with rfl | rfl | rfl | rfl | rfl | rfl <;> rfl)).trans ((g5 _ _ (by rcases q_o with rfl | rfl | rfl | rfl | rfl | rfl <;> rfl)).trans ((u2.2 _ _ (Or.inl (by omega))).trans (g1 _ _ (by rcases q_o with rfl | rfl | rfl | rfl | rfl | rfl <;> rfl)))))))))), ((K17 _ hm).2.1.trans ((g15 _ _ (by rcases q_o with rfl | rfl | rfl | rfl | rfl | rfl <;> rfl)).trans ((g12 _ _ (by rcases q_o with rfl | rfl | rfl | rfl | rfl | rfl <;> rfl)).trans ((u9.2 _ _ (Or.inl (by omega))).trans ((u8.2 _ _ (Or.inl (by omega))).trans ((g7 _ _ (by rcases q_o with rfl | rfl | rfl | rfl | rfl | rfl <;> rfl)).trans ((g5 _ _ (by rcases q_o with rfl | rfl | rfl | rfl | rfl | rfl <;> rfl)).trans ((u2.2 _ _ (Or.inl (by omega))).trans (g1 _ _ (by rcases q_o with rfl | rfl | rfl | rfl | rfl | rfl <;> rfl)))))))))), ((K17 _ hm).2.2.trans ((g15 _ _ (by rcases q_o with rfl | rfl | rfl | rfl | rfl | rfl <;> rfl)).trans ((g12 _ _ (by rcases q_o with rfl | rfl | rfl | rfl | rfl | rfl <;> rfl)).trans ((u9.2 _ _ (Or.inl (by omega))).trans ((u8.2 _ _ (Or.inl (by omega))).trans ((g7 _ _ (by rcases q_o with rfl | rfl | rfl | rfl | rfl | rfl <;> rfl)).trans ((g5 _ _ (by rcases q_o with rfl | rfl | rfl | rfl | rfl | rfl <;> rfl)).trans ((u2.2 _ _ (Or.inl (by omega))).trans (g1 _ _ (by rcases q_o with rfl | rfl | rfl | rfl | rfl | rfl <;> rfl))))))))))⟩)⟩
            · subst x17
              show EvP _ _ _ (84, [(0, .ref 81), (1, .ref (16 + o)), (2, .int line)], [.int 0], h17) _
              refine tz_eq (p2 := 87) rfl rfl (show Int32.toInt 0 = 0 from rfl) (fun c19 => ?_) (fun c19 => absurd c19 (by omega))
              refine te_iconst (p2 := 92) (x := 0) rfl rfl (by decide) ?_
              exact te_zret rfl rfl (by decide) ⟨I17, f17, _, rfl, Or.inr ⟨rfl, (by rw [(show lnR (BX h) (plX h) = ttR (BX h) (plX h + ((wdF KW (cs (BX h) (plX h)) 0 0).2 : Int) + 1 + ((nuF (cs (BX h) (plX h + ((wdF KW (cs (BX h) (plX h)) 0 0).2 : Int) + 1))).2 : Int) + 4) from (by (have q0 := Qa1); (have q1 : _ = (lnN (BX h) (plX h)).1 := Qa7); unfold lnR; rw [if_neg (fun q => q (show lnH (BX h) (plX h) from ⟨by omega, c5⟩)), if_neg (show ¬ (lnN (BX h) (plX h)).1 < 0 by omega), if_neg (show ¬ sc (BX h) (lnE (BX h) (plX h)) from c12), if_neg (fun q => q (show lnI (BX h) (plX h) from c15))]; try rfl))]; exact c17)⟩, (by rw [(show lnR (BX h) (plX h) = ttR (BX h) (plX h + ((wdF KW (cs (BX h) (plX h)) 0 0).2 : Int) + 1 + ((nuF (cs (BX h) (plX h + ((wdF KW (cs (BX h) (plX h)) 0 0).2 : Int) + 1))).2 : Int) + 4) from (by (have q0 := Qa1); (have q1 : _ = (lnN (BX h) (plX h)).1 := Qa7); unfold lnR; rw [if_neg (fun q => q (show lnH (BX h) (plX h) from ⟨by omega, c5⟩)), if_neg (show ¬ (lnN (BX h) (plX h)).1 < 0 by omega), if_neg (show ¬ sc (BX h) (lnE (BX h) (plX h)) from c12), if_neg (fun q => q (show lnI (BX h) (plX h) from c15))]; try rfl)), p17]), (fun h9 => absurd h9 (by decide)), (fun m hm => ⟨((g17 _ _ (by rcases q_o with rfl | rfl | rfl | rfl | rfl | rfl <;> rfl)).trans ((g15 _ _ (by rcases q_o with rfl | rfl | rfl | rfl | rfl | rfl <;> rfl)).trans ((g12 _ _ (by rcases q_o with rfl | rfl | rfl | rfl | rfl | rfl <;> rfl)).trans ((u9.2 _ _ (Or.inl (by omega))).trans ((u8.2 _ _ (Or.inl (by omega))).trans ((g7 _ _ (by rcases q_o with rfl | rfl | rfl | rfl | rfl | rfl <;> rfl)).trans ((g5 _ _ (by rcases q_o with rfl | rfl | rfl | rfl | rfl | rfl <;> rfl)).trans ((u2.2 _ _ (Or.inr hm)).trans (g1 _ _ (by rcases q_o with rfl | rfl | rfl | rfl | rfl | rfl <;> rfl)))))))))), ((g17 _ _ (by rcases q_o with rfl | rfl | rfl | rfl | rfl | rfl <;> rfl)).trans ((g15 _ _ (by rcases q_o with rfl | rfl | rfl | rfl | rfl | rfl <;> rfl)).trans ((g12 _ _ (by rcases q_o with rfl | rfl | rfl | rfl | rfl | rfl <;> rfl)).trans ((u9.2 _ _ (Or.inl (by omega))).trans ((u8.2 _ _ (Or.inr hm)).trans ((g7 _ _ (by rcases q_o with rfl | rfl | rfl | rfl | rfl | rfl <;> rfl)).trans ((g5 _ _ (by rcases q_o with rfl | rfl | rfl | rfl | rfl | rfl <;> rfl)).trans ((u2.2 _ _ (Or.inl (by omega))).trans (g1 _ _ (by rcases q_o with rfl | rfl | rfl | rfl | rfl | rfl <;> rfl)))))))))), ((L17 _ hm).trans ((g15 _ _ (by rcases q_o with rfl | rfl | rfl | rfl | rfl | rfl <;> rfl)).trans ((g12 _ _ (by rcases q_o with rfl | rfl | rfl | rfl | rfl | rfl <;> rfl)).trans ((u9.2 _ _ (Or.inr hm)).trans ((u8.2 _ _ (Or.inl (by omega))).trans ((g7 _ _ (by rcases q_o with rfl | rfl | rfl | rfl | rfl | rfl <;> rfl)).trans ((g5 _ _ (by rcases q_o with rfl | rfl | rfl | rfl | rfl | rfl <;> rfl)).trans ((u2.2 _ _ (Or.inl (by omega))).trans (g1 _ _ (by rcases q_o with rfl | rfl | rfl | rfl | rfl | rfl <;> rfl))))))))))⟩), (fun m hm => ⟨((K17 _ hm).1.trans ((g15 _ _ (by rcases q_o with rfl | rfl | rfl | rfl | rfl | rfl <;> rfl)).trans ((g12 _ _ (by rcases q_o with rfl | rfl | rfl | rfl | rfl | rfl <;> rfl)).trans ((u9.2 _ _ (Or.inl (by omega))).trans ((u8.2 _ _ (Or.inl (by omega))).trans ((g7 _ _ (by rcases q_o with rfl | rfl | rfl | rfl | rfl | rfl <;> rfl)).trans ((g5 _ _ (by rcases q_o with rfl | rfl | rfl | rfl | rfl | rfl <;> rfl)).trans ((u2.2 _ _ (Or.inl (by omega))).trans (g1 _ _ (by rcases q_o with rfl | rfl | rfl | rfl | rfl | rfl <;> rfl)))))))))), ((K17 _ hm).2.1.trans ((g15 _ _ (by rcases q_o with rfl | rfl | rfl | rfl | rfl | rfl <;> rfl)).trans ((g12 _ _ (by rcases q_o with rfl | rfl | rfl | rfl | rfl | rfl <;> rfl)).trans ((u9.2 _ _ (Or.inl (by omega))).trans ((u8.2 _ _ (Or.inl (by omega))).trans ((g7 _ _ (by rcases q_o with rfl | rfl | rfl | rfl | rfl | rfl <;> rfl)).trans ((g5 _ _ (by rcases q_o with rfl | rfl | rfl | rfl | rfl | rfl <;> rfl)).trans ((u2.2 _ _ (Or.inl (by omega))).trans (g1 _ _ (by rcases q_o with rfl | rfl | rfl | rfl | rfl | rfl <;> rfl)))))))))), ((K17 _ hm).2.2.trans ((g15 _ _ (by rcases q_o with rfl | rfl | rfl | rfl | rfl | rfl <;> rfl)).trans ((g12 _ _ (by rcases q_o with rfl | rfl | rfl | rfl | rfl | rfl <;> rfl)).trans ((u9.2 _ _ (Or.inl (by omega))).trans ((u8.2 _ _ (Or.inl (by omega))).trans ((g7 _ _ (by rcases q_o with rfl | rfl | rfl | rfl | rfl | rfl <;> rfl)).trans ((g5 _ _ (by rcases q_o with rfl | rfl | rfl | rfl | rfl | rfl <;> rfl)).trans ((u2.2 _ _ (Or.inl (by omega))).trans (g1 _ _ (by rcases q_o with rfl | rfl | rfl | rfl | rfl | rfl <;> rfl))))))))))⟩)⟩
          · subst x15
            show EvP _ _ _ (75, [(0, .ref 81), (1, .ref (16 + o)), (2, .int line)], [.int 0], h15) _
            refine tz_eq (p2 := 78) rfl rfl (show Int32.toInt 0 = 0 from rfl) (fun c20 => ?_) (fun c20 => absurd c20 (by omega))
            refine te_iconst (p2 := 92) (x := 0) rfl rfl (by decide) ?_
            exact te_zret rfl rfl (by decide) ⟨I15, f15, _, rfl, Or.inr ⟨rfl, (by rw [(show lnR (BX h) (plX h) = (-1, plX h + ((wdF KW (cs (BX h) (plX h)) 0 0).2 : Int) + 1 + ((nuF (cs (BX h) (plX h + ((wdF KW (cs (BX h) (plX h)) 0 0).2 : Int) + 1))).2 : Int) + (lcp IW (cs (BX h) (plX h + ((wdF KW (cs (BX h) (plX h)) 0 0).2 : Int) + 1 + ((nuF (cs (BX h) (plX h + ((wdF KW (cs (BX h) (plX h)) 0 0).2 : Int) + 1))).2 : Int))) 0 : Int)) from (by (have q0 := Qa1); (have q1 : _ = (lnN (BX h) (plX h)).1 := Qa7); unfold lnR; rw [if_neg (fun q => q (show lnH (BX h) (plX h) from ⟨by omega, c5⟩)), if_neg (show ¬ (lnN (BX h) (plX h)).1 < 0 by omega), if_neg (show ¬ sc (BX h) (lnE (BX h) (plX h)) from c12), if_pos (show ¬ lnI (BX h) (plX h) from c15)]; try rfl))]; show (-1 : Int) < 0; decide)⟩, (by rw [(show lnR (BX h) (plX h) = (-1, plX h + ((wdF KW (cs (BX h) (plX h)) 0 0).2 : Int) + 1 + ((nuF (cs (BX h) (plX h + ((wdF KW (cs (BX h) (plX h)) 0 0).2 : Int) + 1))).2 : Int) + (lcp IW (cs (BX h) (plX h + ((wdF KW (cs (BX h) (plX h)) 0 0).2 : Int) + 1 + ((nuF (cs (BX h) (plX h + ((wdF KW (cs (BX h) (plX h)) 0 0).2 : Int) + 1))).2 : Int))) 0 : Int)) from (by (have q0 := Qa1); (have q1 : _ = (lnN (BX h) (plX h)).1 := Qa7); unfold lnR; rw [if_neg (fun q => q (show lnH (BX h) (plX h) from ⟨by omega, c5⟩)), if_neg (show ¬ (lnN (BX h) (plX h)).1 < 0 by omega), if_neg (show ¬ sc (BX h) (lnE (BX h) (plX h)) from c12), if_pos (show ¬ lnI (BX h) (plX h) from c15)]; try rfl)), p15]), (fun h9 => absurd h9 (by decide)), (fun m hm => ⟨((g15 _ _ (by rcases q_o with rfl | rfl | rfl | rfl | rfl | rfl <;> rfl)).trans ((g12 _ _ (by rcases q_o with rfl | rfl | rfl | rfl | rfl | rfl <;> rfl)).trans ((u9.2 _ _ (Or.inl (by omega))).trans ((u8.2 _ _ (Or.inl (by omega))).trans ((g7 _ _ (by rcases q_o with rfl | rfl | rfl | rfl | rfl | rfl <;> rfl)).trans ((g5 _ _ (by rcases q_o with rfl | rfl | rfl | rfl | rfl | rfl <;> rfl)).trans ((u2.2 _ _ (Or.inr hm)).trans (g1 _ _ (by rcases q_o with rfl | rfl | rfl | rfl | rfl | rfl <;> rfl))))))))), ((g15 _ _ (by rcases q_o with rfl | rfl | rfl | rfl | rfl | rfl <;> rfl)).trans ((g12 _ _ (by rcases q_o with rfl | rfl | rfl | rfl | rfl | rfl <;> rfl)).trans ((u9.2 _ _ (Or.inl (by omega))).trans ((u8.2 _ _ (Or.inr hm)).trans ((g7 _ _ (by rcases q_o with rfl | rfl | rfl | rfl | rfl | rfl <;> rfl)).trans ((g5 _ _ (by rcases q_o with rfl | rfl | rfl | rfl | rfl | rfl <;> rfl)).trans ((u2.2 _ _ (Or.inl (by omega))).trans (g1 _ _ (by rcases q_o with rfl | rfl | rfl | rfl | rfl | rfl <;> rfl))))))))), ((g15 _ _ (by rcases q_o with rfl | rfl | rfl | rfl | rfl | rfl <;> rfl)).trans ((g12 _ _ (by rcases q_o with rfl | rfl | rfl | rfl | rfl | rfl <;> rfl)).trans ((u9.2 _ _ (Or.inr hm)).trans ((u8.2 _ _ (Or.inl (by omega))).trans ((g7 _ _ (by rcases q_o with rfl | rfl | rfl | rfl | rfl | rfl <;> rfl)).trans ((g5 _ _ (by rcases q_o with rfl | rfl | rfl | rfl | rfl | rfl <;> rfl)).trans ((u2.2 _ _ (Or.inl (by omega))).trans (g1 _ _ (by rcases q_o with rfl | rfl | rfl | rfl | rfl | rfl <;> rfl)))))))))⟩), (fun m hm => ⟨((g15 _ _ (by rcases q_o with rfl | rfl | rfl | rfl | rfl | rfl <;> rfl)).trans ((g12 _ _ (by rcases q_o with rfl | rfl | rfl | rfl | rfl | rfl <;> rfl)).trans ((u9.2 _ _ (Or.inl (by omega))).trans ((u8.2 _ _ (Or.inl (by omega))).trans ((g7 _ _ (by rcases q_o with rfl | rfl | rfl | rfl | rfl | rfl <;> rfl)).trans ((g5 _ _ (by rcases q_o with rfl | rfl | rfl | rfl | rfl | rfl <;> rfl)).trans ((u2.2 _ _ (Or.inl (by omega))).trans (g1 _ _ (by rcases q_o with rfl | rfl | rfl | rfl | rfl | rfl <;> rfl))))))))), ((g15 _ _ (by rcases q_o with rfl | rfl | rfl | rfl | rfl | rfl <;> rfl)).trans ((g12 _ _ (by rcases q_o with rfl | rfl | rfl | rfl | rfl | rfl <;> rfl)).trans ((u9.2 _ _ (Or.inl (by omega))).trans ((u8.2 _ _ (Or.inl (by omega))).trans ((g7 _ _ (by rcases q_o with rfl | rfl | rfl | rfl | rfl | rfl <;> rfl)).trans ((g5 _ _ (by rcases q_o with rfl | rfl | rfl | rfl | rfl | rfl <;> rfl)).trans ((u2.2 _ _ (Or.inl (by omega))).trans (g1 _ _ (by rcases q_o with rfl | rfl | rfl | rfl | rfl | rfl <;> rfl))))))))), ((g15 _ _ (by rcases q_o with rfl | rfl | rfl | rfl | rfl | rfl <;> rfl)).trans ((g12 _ _ (by rcases q_o with rfl | rfl | rfl | rfl | rfl | rfl <;> rfl)).trans ((u9.2 _ _ (Or.inl (by omega))).trans ((u8.2 _ _ (Or.inl (by omega))).trans ((g7 _ _ (by rcases q_o with rfl | rfl | rfl | rfl | rfl | rfl <;> rfl)).trans ((g5 _ _ (by rcases q_o with rfl | rfl | rfl | rfl | rfl | rfl <;> rfl)).trans ((u2.2 _ _ (Or.inl (by omega))).trans (g1 _ _ (by rcases q_o with rfl | rfl | rfl | rfl | rfl | rfl <;> rfl)))))))))⟩)⟩
      · refine te_iconst (p2 := 59) (x := 0) rfl rfl (by decide) ?_
        exact te_zret rfl rfl (by decide) ⟨I9, f9, _, rfl, Or.inr ⟨rfl, (by rw [(show lnR (BX h) (plX h) = (-1, plX h + ((wdF KW (cs (BX h) (plX h)) 0 0).2 : Int) + 1 + ((nuF (cs (BX h) (plX h + ((wdF KW (cs (BX h) (plX h)) 0 0).2 : Int) + 1))).2 : Int)) from (by (have q0 := Qa1); (have q1 : _ = (lnN (BX h) (plX h)).1 := Qa7); unfold lnR; rw [if_neg (fun q => q (show lnH (BX h) (plX h) from ⟨by omega, c5⟩)), if_pos (show (lnN (BX h) (plX h)).1 < 0 by omega)]; try rfl))]; show (-1 : Int) < 0; decide)⟩, (by rw [(show lnR (BX h) (plX h) = (-1, plX h + ((wdF KW (cs (BX h) (plX h)) 0 0).2 : Int) + 1 + ((nuF (cs (BX h) (plX h + ((wdF KW (cs (BX h) (plX h)) 0 0).2 : Int) + 1))).2 : Int)) from (by (have q0 := Qa1); (have q1 : _ = (lnN (BX h) (plX h)).1 := Qa7); unfold lnR; rw [if_neg (fun q => q (show lnH (BX h) (plX h) from ⟨by omega, c5⟩)), if_pos (show (lnN (BX h) (plX h)).1 < 0 by omega)]; try rfl)), ((plX_e ((u9.2 _ _ (Or.inl (by omega))).trans (u8.2 _ _ (Or.inl (by omega))))).trans Qb7)]), (fun h9 => absurd h9 (by decide)), (fun m hm => ⟨((u9.2 _ _ (Or.inl (by omega))).trans ((u8.2 _ _ (Or.inl (by omega))).trans ((g7 _ _ (by rcases q_o with rfl | rfl | rfl | rfl | rfl | rfl <;> rfl)).trans ((g5 _ _ (by rcases q_o with rfl | rfl | rfl | rfl | rfl | rfl <;> rfl)).trans ((u2.2 _ _ (Or.inr hm)).trans (g1 _ _ (by rcases q_o with rfl | rfl | rfl | rfl | rfl | rfl <;> rfl))))))), ((u9.2 _ _ (Or.inl (by omega))).trans ((u8.2 _ _ (Or.inr hm)).trans ((g7 _ _ (by rcases q_o with rfl | rfl | rfl | rfl | rfl | rfl <;> rfl)).trans ((g5 _ _ (by rcases q_o with rfl | rfl | rfl | rfl | rfl | rfl <;> rfl)).trans ((u2.2 _ _ (Or.inl (by omega))).trans (g1 _ _ (by rcases q_o with rfl | rfl | rfl | rfl | rfl | rfl <;> rfl))))))), ((u9.2 _ _ (Or.inr hm)).trans ((u8.2 _ _ (Or.inl (by omega))).trans ((g7 _ _ (by rcases q_o with rfl | rfl | rfl | rfl | rfl | rfl <;> rfl)).trans ((g5 _ _ (by rcases q_o with rfl | rfl | rfl | rfl | rfl | rfl <;> rfl)).trans ((u2.2 _ _ (Or.inl (by omega))).trans (g1 _ _ (by rcases q_o with rfl | rfl | rfl | rfl | rfl | rfl <;> rfl)))))))⟩), (fun m hm => ⟨((u9.2 _ _ (Or.inl (by omega))).trans ((u8.2 _ _ (Or.inl (by omega))).trans ((g7 _ _ (by rcases q_o with rfl | rfl | rfl | rfl | rfl | rfl <;> rfl)).trans ((g5 _ _ (by rcases q_o with rfl | rfl | rfl | rfl | rfl | rfl <;> rfl)).trans ((u2.2 _ _ (Or.inl (by omega))).trans (g1 _ _ (by rcases q_o with rfl | rfl | rfl | rfl | rfl | rfl <;> rfl))))))), ((u9.2 _ _ (Or.inl (by omega))).trans ((u8.2 _ _ (Or.inl (by omega))).trans ((g7 _ _ (by rcases q_o with rfl | rfl | rfl | rfl | rfl | rfl <;> rfl)).trans ((g5 _ _ (by rcases q_o with rfl | rfl | rfl | rfl | rfl | rfl <;> rfl)).trans ((u2.2 _ _ (Or.inl (by omega))).trans (g1 _ _ (by rcases q_o with rfl | rfl | rfl | rfl | rfl | rfl <;> rfl))))))), ((u9.2 _ _ (Or.inl (by omega))).trans ((u8.2 _ _ (Or.inl (by omega))).trans ((g7 _ _ (by rcases q_o with rfl | rfl | rfl | rfl | rfl | rfl <;> rfl)).trans ((g5 _ _ (by rcases q_o with rfl | rfl | rfl | rfl | rfl | rfl <;> rfl)).trans ((u2.2 _ _ (Or.inl (by omega))).trans (g1 _ _ (by rcases q_o with rfl | rfl | rfl | rfl | rfl | rfl <;> rfl)))))))⟩)⟩
    · subst x5
      have c5 : (BX h (plX h + ((wdF KW (cs (BX h) (plX h)) 0 0).2 : Int))).toInt ≠ 32 := cs5
      clear cs5
      show EvP _ _ _ (27, [(0, .ref 81), (1, .ref (16 + o)), (2, .int line)], [.int 0], h5) _
      refine tz_ne (p2 := 30) rfl rfl (show Int32.toInt 0 = 0 from rfl) (fun c21 => absurd c21 (by omega)) (fun c21 => ?_)
      refine te_iconst (p2 := 31) (x := 0) rfl rfl (by decide) ?_
      exact te_zret rfl rfl (by decide) ⟨I5, f5, _, rfl, Or.inr ⟨rfl, (by rw [(show lnR (BX h) (plX h) = (-1, plX h + ((wdF KW (cs (BX h) (plX h)) 0 0).2 : Int)) from (by (have q0 := Qa1); unfold lnR; rw [if_pos (fun q => c5 q.2)]; try rfl))]; show (-1 : Int) < 0; decide)⟩, (by rw [(show lnR (BX h) (plX h) = (-1, plX h + ((wdF KW (cs (BX h) (plX h)) 0 0).2 : Int)) from (by (have q0 := Qa1); unfold lnR; rw [if_pos (fun q => c5 q.2)]; try rfl)), p5]), (fun h9 => absurd h9 (by decide)), (fun m hm => ⟨((g5 _ _ (by rcases q_o with rfl | rfl | rfl | rfl | rfl | rfl <;> rfl)).trans ((u2.2 _ _ (Or.inr hm)).trans (g1 _ _ (by rcases q_o with rfl | rfl | rfl | rfl | rfl | rfl <;> rfl)))), ((g5 _ _ (by rcases q_o with rfl | rfl | rfl | rfl | rfl | rfl <;> rfl)).trans ((u2.2 _ _ (Or.inl (by omega))).trans (g1 _ _ (by rcases q_o with rfl | rfl | rfl | rfl | rfl | rfl <;> rfl)))), ((g5 _ _ (by rcases q_o with rfl | rfl | rfl | rfl | rfl | rfl <;> rfl)).trans ((u2.2 _ _ (Or.inl (by omega))).trans (g1 _ _ (by rcases q_o with rfl | rfl | rfl | rfl | rfl | rfl <;> rfl))))⟩), (fun m hm => ⟨((g5 _ _ (by rcases q_o with rfl | rfl | rfl | rfl | rfl | rfl <;> rfl)).trans ((u2.2 _ _ (Or.inl (by omega))).trans (g1 _ _ (by rcases q_o with rfl | rfl | rfl | rfl | rfl | rfl <;> rfl)))), ((g5 _ _ (by rcases q_o with rfl | rfl | rfl | rfl | rfl | rfl <;> rfl)).trans ((u2.2 _ _ (Or.inl (by omega))).trans (g1 _ _ (by rcases q_o with rfl | rfl | rfl | rfl | rfl | rfl <;> rfl)))), ((g5 _ _ (by rcases q_o with rfl | rfl | rfl | rfl | rfl | rfl <;> rfl)).trans ((u2.2 _ _ (Or.inl (by omega))).trans (g1 _ _ (by rcases q_o with rfl | rfl | rfl | rfl | rfl | rfl <;> rfl))))⟩)⟩
set_option maxRecDepth 20000 in
set_option maxHeartbeats 4000000 in
theorem c_X10_readInto {o : Nat} {h : im_H} (hI : tI h) (q_o : o = 98 ∨ o = 105 ∨ o = 112 ∨ o = 119 ∨ o = 126 ∨ o = 133) : CaP 6 51 [.ref 81, .ref (16 + o)] h (fun v h2 => tI h2 ∧ fr (F_X10_readInto o) h h2 ∧ ∃ y : Int32, v = some (.int y) ∧ ((y = 1 ∧ 0 ≤ (orR (BX h) (rv h 65 1).toInt 8 0 0).1) ∨ (y = 0 ∧ (orR (BX h) (rv h 65 1).toInt 8 0 0).1 < 0)) ∧ plX h2 = (orR (BX h) (rv h 65 1).toInt 8 0 0).2 ∧ (y = 1 → ∃ z : Int32, rd h2 o 0 = some (.int z) ∧ z.toInt = (orR (BX h) (rv h 65 1).toInt 8 0 0).1 ∧ ∀ l : Nat, (l : Int) < (orR (BX h) (rv h 65 1).toInt 8 0 0).1 → lnC h2 o l (BX h) (lnS (BX h) l))) := by
  refine cap_of (d := 5) (M := mX10_readInto) rfl (Nat.le_of_ble_eq_true rfl) ?_
  show EvP im_K0 5 mX10_readInto (0, [(0, .ref 81), (1, .ref (16 + o))], [], h) _
  have f0 : fr (F_X10_readInto o) h h := fr_rf
  refine te_aload_n (p2 := 1) rfl rfl rfl ?_
  obtain ⟨v1, e1, y1, w1, a1, b1, _⟩ := hI.2.1 65 1 (.inl (0, 160, 9999999999)) rfl
  subst w1
  refine te_iconst (p2 := 2) (x := 0) rfl rfl (by decide) ?_
  refine tp_i (p2 := 5) (i := 65) rfl rfl hI rfl rfl (by decide) rfl rfl rfl (by decide) (by decide) (by decide) rfl (fun h2 I2 u2 => ?_)
  have f2 := fr_st (F := (F_X10_readInto o)) 6 f0 u2 rfl (by decide) (by decide)
  refine te_aload_n (p2 := 6) rfl rfl rfl ?_
  refine te_iconst (p2 := 7) (x := 0) rfl rfl (by decide) ?_
  refine tp_i (p2 := 10) (i := o) rfl rfl I2 rfl (by rcases q_o with rfl | rfl | rfl | rfl | rfl | rfl <;> rfl) (by decide) rfl rfl (by rcases q_o with rfl | rfl | rfl | rfl | rfl | rfl <;> rfl) (by decide) (by decide) (by decide) (by rcases q_o with rfl | rfl | rfl | rfl | rfl | rfl <;> rfl) (fun h3 I3 u3 => ?_)
  have f3 := fr_st (F := (F_X10_readInto o)) 7 f2 u3 rfl (by decide) (by decide)
  refine te_iconst (p2 := 11) (x := 0) rfl rfl (by decide) ?_
  refine te_istore_n (p2 := 12) (lv2 := [(2, .int 0), (0, .ref 81), (1, .ref (16 + o))]) rfl rfl (by decide) rfl ?_
  have lp4 : ∀ (n4 : Nat) (v4_2 t4_z : Int32) (h4 : im_H), tI h4 → fr (F_X10_readInto o) h h4 → 0 ≤ v4_2.toInt → v4_2.toInt ≤ 8 → rd h4 o 0 = some (.int t4_z) → 0 ≤ t4_z.toInt → t4_z.toInt ≤ 8 → t4_z.toInt = v4_2.toInt → plX h4 = lnS (BX h) v4_2.toInt.toNat → orR (BX h) (rv h 65 1).toInt 8 0 0 = orR (BX h) (rv h 65 1).toInt (8 - v4_2.toInt.toNat) v4_2.toInt (lnS (BX h) v4_2.toInt.toNat) → (∀ l : Nat, (l : Int) < v4_2.toInt → lnC h4 o l (BX h) (lnS (BX h) l)) → 8 - v4_2.toInt < (n4 : Int) → EvP im_K0 5 mX10_readInto (12, [(0, .ref 81), (1, .ref (16 + o)), (2, .int v4_2)], [], h4) (fun v h2 => tI h2 ∧ fr (F_X10_readInto o) h h2 ∧ ∃ y : Int32, v = some (.int y) ∧ ((y = 1 ∧ 0 ≤ (orR (BX h) (rv h 65 1).toInt 8 0 0).1) ∨ (y = 0 ∧ (orR (BX h) (rv h 65 1).toInt 8 0 0).1 < 0)) ∧ plX h2 = (orR (BX h) (rv h 65 1).toInt 8 0 0).2 ∧ (y = 1 → ∃ z : Int32, rd h2 o 0 = some (.int z) ∧ z.toInt = (orR (BX h) (rv h 65 1).toInt 8 0 0).1 ∧ ∀ l : Nat, (l : Int) < (orR (BX h) (rv h 65 1).toInt 8 0 0).1 → lnC h2 o l (BX h) (lnS (BX h) l))) := by
    intro n4
    induction n4 with
    | zero => intro v4_2 t4_z h4 I4 f4 a4_2 b4_2 v4_z va4_z vb4_z l4_0 w4_0 w4_1 w4_2 m4; exfalso; omega
    | succ n4 ih4 =>
      intro v4_2 t4_z h4 I4 f4 a4_2 b4_2 v4_z va4_z vb4_z l4_0 w4_0 w4_1 w4_2 m4
      refine te_iload_n (p2 := 13) rfl rfl rfl ?_
      refine te_bipush (p2 := 15) (x := 8) rfl rfl (by decide) ?_
      refine tb_ge (p2 := 18) rfl rfl rfl (show Int32.toInt 8 = 8 from rfl) (fun c5 => ?_) (fun c5 => ?_)
      · refine te_iconst (p2 := 59) (x := 0) rfl rfl (by decide) ?_
        exact te_zret rfl rfl (by decide) ⟨I4, f4, _, rfl, Or.inr ⟨rfl, (by rw [(show orR (BX h) (rv h 65 1).toInt 8 0 0 = (-1, lnS (BX h) v4_2.toInt.toNat) from (by rw [w4_1, show 8 - v4_2.toInt.toNat = 0 by omega]; rfl))]; show (-1 : Int) < 0; decide)⟩, (by rw [(show orR (BX h) (rv h 65 1).toInt 8 0 0 = (-1, lnS (BX h) v4_2.toInt.toNat) from (by rw [w4_1, show 8 - v4_2.toInt.toNat = 0 by omega]; rfl)), w4_0]), (fun h9 => absurd h9 (by decide))⟩
      · refine te_aload_n (p2 := 19) rfl rfl rfl ?_
        refine te_aload_n (p2 := 20) rfl rfl rfl ?_
        refine te_iload_n (p2 := 21) rfl rfl rfl ?_
        refine tc_V (p2 := 24) (i := 65) rfl rfl rfl rfl I4 rfl rfl rfl (c_X10_readLine (o := o) (line := v4_2) I4 q_o (by omega) (by omega)) (by decide) (fun v6 h6 hq6 => ?_)
        obtain ⟨I6, g6, y6, w6, Q6, p6, Qc6, L6, K6⟩ := hq6
        subst w6
        rw [(BX_fr f4 (by rcases q_o with rfl | rfl | rfl | rfl | rfl | rfl <;> rfl) (fun _ => (by rcases q_o with rfl | rfl | rfl | rfl | rfl | rfl <;> rfl))), w4_0] at Q6 p6 Qc6
        have f6 := fr_tr (F1 := (F_X10_readLine o)) (F := (F_X10_readInto o)) f4 g6 (by rcases q_o with rfl | rfl | rfl | rfl | rfl | rfl <;> decide)
        rcases Q6 with ⟨x6, c6⟩ | ⟨x6, c6⟩
        · subst x6
          show EvP _ _ _ (24, [(0, .ref 81), (1, .ref (16 + o)), (2, .int v4_2)], [.int 1], h6) _
          refine tz_ne (p2 := 27) rfl rfl (show Int32.toInt 1 = 1 from rfl) (fun c7 => ?_) (fun c7 => absurd c7 (by omega))
          refine te_aload_n (p2 := 30) rfl rfl rfl ?_
          refine te_dup (p2 := 31) rfl rfl rfl ?_
          refine tg_e (p2 := 34) (i := o) (v := .int t4_z) rfl rfl I6 rfl (by rcases q_o with rfl | rfl | rfl | rfl | rfl | rfl <;> rfl) ((g6 _ _ (by rcases q_o with rfl | rfl | rfl | rfl | rfl | rfl <;> rfl)).trans v4_z) ?_
          refine te_iconst (p2 := 35) (x := 1) rfl rfl (by decide) ?_
          refine ar_add (p2 := 36) rfl rfl rfl (show Int32.toInt 1 = 1 from rfl) (by omega) (by omega) (fun z8 e8 f8 => ?_)
          refine tp_i (p2 := 39) (i := o) rfl rfl I6 rfl (by rcases q_o with rfl | rfl | rfl | rfl | rfl | rfl <;> rfl) (by decide) rfl rfl (by rcases q_o with rfl | rfl | rfl | rfl | rfl | rfl <;> rfl) (by omega) (by omega) (by omega) (by rcases q_o with rfl | rfl | rfl | rfl | rfl | rfl <;> rfl) (fun h9 I9 u9 => ?_)
          have f9 := fr_st (F := (F_X10_readInto o)) 7 f6 u9 rfl (by decide) (by decide)
          refine te_aload_n (p2 := 40) rfl rfl rfl ?_
          refine tg_i (p2 := 43) (i := 65) rfl rfl I9 rfl rfl rfl (fun y10 a10 b10 e10 => ?_)
          refine te_aload_n (p2 := 44) rfl rfl rfl ?_
          refine tg_e (p2 := 47) (i := 65) (v := .int y1) rfl rfl I9 rfl rfl ((f9 _ _ (by rcases q_o with rfl | rfl | rfl | rfl | rfl | rfl <;> rfl)).trans e1) ?_
          refine tb_ne (p2 := 50) rfl rfl rfl rfl (fun c11 => ?_) (fun c11 => ?_)
          · refine ar_inc (p2 := 55) (x := v4_2) rfl rfl (by decide) rfl (by decide) rfl (by omega) (by omega) (fun z12 e12 f12 => ?_)
            show EvP _ _ _ (55, [(2, .int z12), (0, .ref 81), (1, .ref (16 + o))], [], h9) _
            refine te_goto rfl ?_
            refine te_lv [(0, .ref 81), (1, .ref (16 + o)), (2, .int z12)] rfl rfl ⟨rfl, rfl, rfl, trivial⟩ ?_
            exact ih4 z12 z8 h9 I9 f9 (by omega) (by omega) u9.1 (by omega) (by omega) (by omega) (by rw [show z12.toInt.toNat = v4_2.toInt.toNat + 1 by omega, ((plX_e (u9.2 _ _ (Or.inl (by omega)))).trans p6)]; rfl) (by (have hc := (show y10.toInt = ((lnR (BX h) (lnS (BX h) v4_2.toInt.toNat)).2) from ((plX_of e10).symm.trans ((plX_e (u9.2 _ _ (Or.inl (by omega)))).trans p6)))); rw [w4_1, show 8 - v4_2.toInt.toNat = (8 - z12.toInt.toNat) + 1 by omega, orR_s (by omega) (by rw [rv_of e1]; omega), show z12.toInt.toNat = v4_2.toInt.toNat + 1 by omega, show z12.toInt = v4_2.toInt + 1 by omega]; rfl) (fun l hl => by (by_cases hc : l = v4_2.toInt.toNat); (· rw [hc]; exact (lnC_e (Qc6 rfl) ⟨(u9.2 _ _ (Or.inl (by omega))), (u9.2 _ _ (Or.inl (by omega))), (u9.2 _ _ (Or.inl (by omega)))⟩ (fun m _ _ => ⟨(u9.2 _ _ (Or.inl (by omega))), (u9.2 _ _ (Or.inl (by omega))), (u9.2 _ _ (Or.inl (by omega)))⟩) lnR_3)); (· exact (lnC_e (w4_2 l (by omega)) ⟨((u9.2 _ _ (Or.inl (by omega))).trans (L6 l hc).1), ((u9.2 _ _ (Or.inl (by omega))).trans (L6 l hc).2.1), ((u9.2 _ _ (Or.inl (by omega))).trans (L6 l hc).2.2)⟩ (fun m m0 m1 => ⟨((u9.2 _ _ (Or.inl (by omega))).trans (K6 m (by omega)).1), ((u9.2 _ _ (Or.inl (by omega))).trans (K6 m (by omega)).2.1), ((u9.2 _ _ (Or.inl (by omega))).trans (K6 m (by omega)).2.2)⟩) lnR_3))) (by omega)
          · refine te_iconst (p2 := 51) (x := 1) rfl rfl (by decide) ?_
            exact te_zret rfl rfl (by decide) ⟨I9, f9, _, rfl, Or.inl ⟨rfl, (by rw [(show orR (BX h) (rv h 65 1).toInt 8 0 0 = (v4_2.toInt + 1, (rv h 65 1).toInt) from (by (have hc := (show y10.toInt = ((lnR (BX h) (lnS (BX h) v4_2.toInt.toNat)).2) from ((plX_of e10).symm.trans ((plX_e (u9.2 _ _ (Or.inl (by omega)))).trans p6)))); rw [w4_1, show 8 - v4_2.toInt.toNat = (7 - v4_2.toInt.toNat) + 1 by omega, orR_e (by omega) (by rw [rv_of e1]; omega)]))]; show 0 ≤ v4_2.toInt + 1; omega)⟩, (by (have hc := (show y10.toInt = ((lnR (BX h) (lnS (BX h) v4_2.toInt.toNat)).2) from ((plX_of e10).symm.trans ((plX_e (u9.2 _ _ (Or.inl (by omega)))).trans p6)))); rw [(show orR (BX h) (rv h 65 1).toInt 8 0 0 = (v4_2.toInt + 1, (rv h 65 1).toInt) from (by (have hc := (show y10.toInt = ((lnR (BX h) (lnS (BX h) v4_2.toInt.toNat)).2) from ((plX_of e10).symm.trans ((plX_e (u9.2 _ _ (Or.inl (by omega)))).trans p6)))); rw [w4_1, show 8 - v4_2.toInt.toNat = (7 - v4_2.toInt.toNat) + 1 by omega, orR_e (by omega) (by rw [rv_of e1]; omega)])), ((plX_e (u9.2 _ _ (Or.inl (by omega)))).trans p6), rv_of e1]; show _ = y1.toInt; omega), (fun _ => ⟨z8, u9.1, (by rw [(show orR (BX h) (rv h 65 1).toInt 8 0 0 = (v4_2.toInt + 1, (rv h 65 1).toInt) from (by (have hc := (show y10.toInt = ((lnR (BX h) (lnS (BX h) v4_2.toInt.toNat)).2) from ((plX_of e10).symm.trans ((plX_e (u9.2 _ _ (Or.inl (by omega)))).trans p6)))); rw [w4_1, show 8 - v4_2.toInt.toNat = (7 - v4_2.toInt.toNat) + 1 by omega, orR_e (by omega) (by rw [rv_of e1]; omega)]))]; show z8.toInt = v4_2.toInt + 1; omega), (fun l hl => by (rw [(show orR (BX h) (rv h 65 1).toInt 8 0 0 = (v4_2.toInt + 1, (rv h 65 1).toInt) from (by (have hc := (show y10.toInt = ((lnR (BX h) (lnS (BX h) v4_2.toInt.toNat)).2) from ((plX_of e10).symm.trans ((plX_e (u9.2 _ _ (Or.inl (by omega)))).trans p6)))); rw [w4_1, show 8 - v4_2.toInt.toNat = (7 - v4_2.toInt.toNat) + 1 by omega, orR_e (by omega) (by rw [rv_of e1]; omega)]))] at hl); (have hl : (l : Int) < v4_2.toInt + 1 := hl); (by_cases hc : l = v4_2.toInt.toNat); (· rw [hc]; exact (lnC_e (Qc6 rfl) ⟨(u9.2 _ _ (Or.inl (by omega))), (u9.2 _ _ (Or.inl (by omega))), (u9.2 _ _ (Or.inl (by omega)))⟩ (fun m _ _ => ⟨(u9.2 _ _ (Or.inl (by omega))), (u9.2 _ _ (Or.inl (by omega))), (u9.2 _ _ (Or.inl (by omega)))⟩) lnR_3)); (· exact (lnC_e (w4_2 l (by omega)) ⟨((u9.2 _ _ (Or.inl (by omega))).trans (L6 l hc).1), ((u9.2 _ _ (Or.inl (by omega))).trans (L6 l hc).2.1), ((u9.2 _ _ (Or.inl (by omega))).trans (L6 l hc).2.2)⟩ (fun m m0 m1 => ⟨((u9.2 _ _ (Or.inl (by omega))).trans (K6 m (by omega)).1), ((u9.2 _ _ (Or.inl (by omega))).trans (K6 m (by omega)).2.1), ((u9.2 _ _ (Or.inl (by omega))).trans (K6 m (by omega)).2.2)⟩) lnR_3)))⟩)⟩
        · subst x6
          show EvP _ _ _ (24, [(0, .ref 81), (1, .ref (16 + o)), (2, .int v4_2)], [.int 0], h6) _
          refine tz_ne (p2 := 27) rfl rfl (show Int32.toInt 0 = 0 from rfl) (fun c13 => absurd c13 (by omega)) (fun c13 => ?_)
          refine te_iconst (p2 := 28) (x := 0) rfl rfl (by decide) ?_
          exact te_zret rfl rfl (by decide) ⟨I6, f6, _, rfl, Or.inr ⟨rfl, (by rw [(show orR (BX h) (rv h 65 1).toInt 8 0 0 = (-1, (lnR (BX h) (lnS (BX h) v4_2.toInt.toNat)).2) from (by rw [w4_1, show 8 - v4_2.toInt.toNat = (7 - v4_2.toInt.toNat) + 1 by omega, orR_f (by omega)]))]; show (-1 : Int) < 0; decide)⟩, (by rw [(show orR (BX h) (rv h 65 1).toInt 8 0 0 = (-1, (lnR (BX h) (lnS (BX h) v4_2.toInt.toNat)).2) from (by rw [w4_1, show 8 - v4_2.toInt.toNat = (7 - v4_2.toInt.toNat) + 1 by omega, orR_f (by omega)])), p6]), (fun h9 => absurd h9 (by decide))⟩
  refine te_lv [(0, .ref 81), (1, .ref (16 + o)), (2, .int 0)] rfl rfl ⟨rfl, rfl, rfl, trivial⟩ ?_
  exact lp4 9 0 0 h3 I3 f3 (by decide) (by decide) u3.1 (by decide) (by decide) (by have cc0 := (show Int32.toInt 0 = 0 from rfl); omega) (plX_of ((u3.2 _ _ (Or.inl (by omega))).trans u2.1)) rfl (fun l hl => absurd hl (by (have := (show Int32.toInt 0 = 0 from rfl)); omega)) (by have cc0 := (show Int32.toInt 0 = 0 from rfl); omega)
set_option maxRecDepth 20000 in
set_option maxHeartbeats 4000000 in
theorem c_X12_byteHere  {h : im_H} (hI : tI h)  : CaP 1 135 [.ref 164] h (pI h (fun y => y = BM h (plM h) ∧ ∃ a t : Int32, rd h 148 60 = some (.int a) ∧ rd h 148 45 = some (.int t) ∧ 0 ≤ a.toInt ∧ a.toInt ≤ 160 ∧ 0 ≤ t.toInt ∧ t.toInt ≤ 160 ∧ (a.toInt < t.toInt ∨ y = -1))) := by
  refine cap_of (d := 0) (M := mX12_byteHere) rfl (Nat.le_of_ble_eq_true rfl) ?_
  show EvP im_K0 0 mX12_byteHere (0, [(0, .ref 164)], [], h) _
  refine te_aload_n (p2 := 1) rfl rfl rfl ?_
  refine tg_i (p2 := 4) (i := 148) rfl rfl hI rfl rfl rfl (fun y1 a1 b1 e1 => ?_)
  refine te_aload_n (p2 := 5) rfl rfl rfl ?_
  refine tg_i (p2 := 8) (i := 148) rfl rfl hI rfl rfl rfl (fun y2 a2 b2 e2 => ?_)
  refine tb_ge (p2 := 11) rfl rfl rfl rfl (fun c3 => ?_) (fun c3 => ?_)
  · refine te_iconst (p2 := 24) (x := (-1)) rfl rfl (by decide) ?_
    exact te_iret rfl rfl ⟨rfl, _, rfl, (by rw [(plM_of e1)]; exact BM_n e2 (by omega)), y1, y2, e1, e2, by omega, by omega, by omega, by omega, Or.inr rfl⟩
  · refine te_aload_n (p2 := 12) rfl rfl rfl ?_
    refine tg_r (p2 := 15) (i := 148) (r := 200) rfl rfl hI rfl rfl rfl ?_
    refine te_aload_n (p2 := 16) rfl rfl rfl ?_
    refine tg_e (p2 := 19) (i := 148) (v := .int y1) rfl rfl hI rfl rfl e1 ?_
    refine tl_i (p2 := 20) (i := 184) (n := 160) rfl rfl hI rfl rfl rfl rfl (by omega) (by omega) (fun y4 a4 b4 g4 e4 => ?_)
    refine te_goto rfl ?_
    exact te_iret rfl rfl ⟨rfl, _, rfl, (by rw [(plM_of e1)]; exact BM_y e2 rfl (by omega) e4), y1, y2, e1, e2, by omega, by omega, by omega, by omega, Or.inl (by omega)⟩
set_option maxRecDepth 20000 in
set_option maxHeartbeats 4000000 in
theorem c_X12_number  {h : im_H} (hI : tI h)  : CaP 2 137 [.ref 164] h (fun v h2 => tI h2 ∧ fr F_X12_number h h2 ∧ ∃ y : Int32, v = some (.int y) ∧ y.toInt = (nuF (cs (BM h) (plM h))).1 ∧ plM h2 = plM h + ((nuF (cs (BM h) (plM h))).2 : Int)) := by
  refine cap_of (d := 1) (M := mX12_number) rfl (Nat.le_of_ble_eq_true rfl) ?_
  show EvP im_K0 1 mX12_number (0, [(0, .ref 164)], [], h) _
  have f0 : fr F_X12_number h h := fr_rf
  refine te_iconst (p2 := 1) (x := 0) rfl rfl (by decide) ?_
  refine te_istore_n (p2 := 2) (lv2 := [(1, .int 0), (0, .ref 164)]) rfl rfl (by decide) rfl ?_
  refine te_iconst (p2 := 3) (x := 0) rfl rfl (by decide) ?_
  refine te_istore_n (p2 := 4) (lv2 := [(2, .int 0), (1, .int 0), (0, .ref 164)]) rfl rfl (by decide) rfl ?_
  refine te_iload_n (p2 := 5) rfl rfl rfl ?_
  refine te_iconst (p2 := 6) (x := 3) rfl rfl (by decide) ?_
  refine tb_ge (p2 := 9) rfl rfl (show Int32.toInt 0 = 0 from rfl) (show Int32.toInt 3 = 3 from rfl) (fun c1 => absurd c1 (by omega)) (fun c1 => ?_)
  refine te_aload_n (p2 := 10) rfl rfl rfl ?_
  refine cV_pI (p2 := 13) (i := 148) rfl rfl rfl rfl hI rfl rfl rfl (c_X12_byteHere hI) (by decide) (fun y2 r2 => ?_)
  obtain ⟨rb2, at2, tp2, ea2, et2, aa2, ab2, ta2, tb2, r2⟩ := r2
  rcases r2 with r2 | r2
  · refine te_bipush (p2 := 15) (x := 48) rfl rfl (by decide) ?_
    refine te_bipush (p2 := 17) (x := 57) rfl rfl (by decide) ?_
    refine cS_pI (p2 := 20) rfl rfl rfl rfl (t_X12_in (n := y2) (a := 48) (b := 57) hI ) (by decide) (fun y3 r3 => ?_)
    rcases r3 with ⟨w3, c3⟩ | ⟨w3, c3⟩
    · subst w3
      have cc3_1 := (show Int32.toInt 48 = 48 from rfl)
      have cc3_2 := (show Int32.toInt 57 = 57 from rfl)
      refine tz_eq (p2 := 23) rfl rfl (show Int32.toInt 1 = 1 from rfl) (fun c4 => absurd c4 (by omega)) (fun c4 => ?_)
      refine te_bipush (p2 := 25) (x := 10) rfl rfl (by decide) ?_
      refine te_iload_n (p2 := 26) rfl rfl rfl ?_
      refine te_imul (p2 := 27) (z := 0) rfl rfl (by decide) ?_
      refine te_aload_n (p2 := 28) rfl rfl rfl ?_
      refine cV_pI (p2 := 31) (i := 148) rfl rfl rfl rfl hI rfl rfl rfl (c_X12_byteHere hI) (by decide) (fun y6 r6 => ?_)
      obtain ⟨rb6, at6, tp6, ea6, et6, aa6, ab6, ta6, tb6, r6⟩ := r6
      have xat6 : at6 = at2 := int_inj ea6 ea2
      rw [xat6] at r6
      have xtp6 : tp6 = tp2 := int_inj et6 et2
      rw [xtp6] at r6
      have ye6 : y6 = y2 := rb6.trans rb2.symm
      rw [ye6]
      show EvP _ _ _ (31, [(2, .int 0), (1, .int 0), (0, .ref 164)], [.int y2, .int 0], h) _
      refine ar_add (p2 := 32) rfl rfl (show Int32.toInt 0 = 0 from rfl) rfl (by omega) (by omega) (fun z7 e7 f7 => ?_)
      refine te_bipush (p2 := 34) (x := 48) rfl rfl (by decide) ?_
      refine ar_sub (p2 := 35) rfl rfl rfl (show Int32.toInt 48 = 48 from rfl) (by omega) (by omega) (fun z8 e8 f8 => ?_)
      refine te_istore_n (p2 := 36) (lv2 := [(1, .int z8), (2, .int 0), (0, .ref 164)]) rfl rfl (by decide) rfl ?_
      refine te_iinc (p2 := 39) (x := 0) (y := 1) (lv2 := [(2, .int 1), (1, .int z8), (0, .ref 164)]) rfl rfl (by decide) rfl (by decide) rfl ?_
      refine te_aload_n (p2 := 40) rfl rfl rfl ?_
      refine te_dup (p2 := 41) rfl rfl rfl ?_
      refine tg_e (p2 := 44) (i := 148) (v := .int at2) rfl rfl hI rfl rfl ea2 ?_
      refine te_iconst (p2 := 45) (x := 1) rfl rfl (by decide) ?_
      refine ar_add (p2 := 46) rfl rfl rfl (show Int32.toInt 1 = 1 from rfl) (by omega) (by omega) (fun z10 e10 f10 => ?_)
      refine tp_i (p2 := 49) (i := 148) rfl rfl hI rfl rfl (by decide) rfl rfl rfl (by omega) (by omega) (by omega) rfl (fun h11 I11 u11 => ?_)
      have f11 := fr_st (F := F_X12_number) 0 f0 u11 rfl (by decide) (by decide)
      have pa12 : plM h11 = plM h + 1 := (plM_of u11.1).trans (show z10.toInt = plM h + 1 from (by (have h9 := (plM_of ea2).symm.trans (show plM _ = plM h from rfl)); omega))
      refine te_goto rfl ?_
      refine te_iload_n (p2 := 5) rfl rfl rfl ?_
      refine te_iconst (p2 := 6) (x := 3) rfl rfl (by decide) ?_
      refine tb_ge (p2 := 9) rfl rfl (show Int32.toInt 1 = 1 from rfl) (show Int32.toInt 3 = 3 from rfl) (fun c13 => absurd c13 (by omega)) (fun c13 => ?_)
      refine te_aload_n (p2 := 10) rfl rfl rfl ?_
      refine cV_pI (p2 := 13) (i := 148) rfl rfl rfl rfl I11 rfl rfl rfl (c_X12_byteHere I11) (by decide) (fun y14 r14 => ?_)
      obtain ⟨rb14, at14, tp14, ea14, et14, aa14, ab14, ta14, tb14, r14⟩ := r14
      rw [(BM_fr f11 rfl (fun _ => rfl)), pa12] at rb14
      have xat14 : at14 = z10 := int_inj ea14 u11.1
      rw [xat14] at r14
      have xtp14 : tp14 = tp2 := int_inj et14 ((u11.2 _ _ (Or.inr (by decide))).trans et2)
      rw [xtp14] at r14
      rcases r14 with r14 | r14
      · refine te_bipush (p2 := 15) (x := 48) rfl rfl (by decide) ?_
        refine te_bipush (p2 := 17) (x := 57) rfl rfl (by decide) ?_
        refine cS_pI (p2 := 20) rfl rfl rfl rfl (t_X12_in (n := y14) (a := 48) (b := 57) I11 ) (by decide) (fun y15 r15 => ?_)
        rcases r15 with ⟨w15, c15⟩ | ⟨w15, c15⟩
        · subst w15
          have cc15_1 := (show Int32.toInt 48 = 48 from rfl)
          have cc15_2 := (show Int32.toInt 57 = 57 from rfl)
          refine tz_eq (p2 := 23) rfl rfl (show Int32.toInt 1 = 1 from rfl) (fun c16 => absurd c16 (by omega)) (fun c16 => ?_)
          refine te_bipush (p2 := 25) (x := 10) rfl rfl (by decide) ?_
          refine te_iload_n (p2 := 26) rfl rfl rfl ?_
          refine ar_mul (p2 := 27) rfl rfl (show Int32.toInt 10 = 10 from rfl) rfl (by omega) (by omega) (fun z17 e17 f17 => ?_)
          refine te_aload_n (p2 := 28) rfl rfl rfl ?_
          refine cV_pI (p2 := 31) (i := 148) rfl rfl rfl rfl I11 rfl rfl rfl (c_X12_byteHere I11) (by decide) (fun y18 r18 => ?_)
          obtain ⟨rb18, at18, tp18, ea18, et18, aa18, ab18, ta18, tb18, r18⟩ := r18
          rw [(BM_fr f11 rfl (fun _ => rfl)), pa12] at rb18
          have xat18 : at18 = z10 := int_inj ea18 u11.1
          rw [xat18] at r18
          have xtp18 : tp18 = tp2 := int_inj et18 ((u11.2 _ _ (Or.inr (by decide))).trans et2)
          rw [xtp18] at r18
          have ye18 : y18 = y14 := rb18.trans rb14.symm
          rw [ye18]
          show EvP _ _ _ (31, [(2, .int 1), (1, .int z8), (0, .ref 164)], [.int y14, .int z17], h11) _
          refine ar_add (p2 := 32) rfl rfl rfl rfl (by omega) (by omega) (fun z19 e19 f19 => ?_)
          refine te_bipush (p2 := 34) (x := 48) rfl rfl (by decide) ?_
          refine ar_sub (p2 := 35) rfl rfl rfl (show Int32.toInt 48 = 48 from rfl) (by omega) (by omega) (fun z20 e20 f20 => ?_)
          refine te_istore_n (p2 := 36) (lv2 := [(1, .int z20), (2, .int 1), (0, .ref 164)]) rfl rfl (by decide) rfl ?_
          refine te_iinc (p2 := 39) (x := 1) (y := 2) (lv2 := [(2, .int 2), (1, .int z20), (0, .ref 164)]) rfl rfl (by decide) rfl (by decide) rfl ?_
          refine te_aload_n (p2 := 40) rfl rfl rfl ?_
          refine te_dup (p2 := 41) rfl rfl rfl ?_
          refine tg_e (p2 := 44) (i := 148) (v := .int z10) rfl rfl I11 rfl rfl u11.1 ?_
          refine te_iconst (p2 := 45) (x := 1) rfl rfl (by decide) ?_
          refine ar_add (p2 := 46) rfl rfl rfl (show Int32.toInt 1 = 1 from rfl) (by omega) (by omega) (fun z22 e22 f22 => ?_)
          refine tp_i (p2 := 49) (i := 148) rfl rfl I11 rfl rfl (by decide) rfl rfl rfl (by omega) (by omega) (by omega) rfl (fun h23 I23 u23 => ?_)
          have f23 := fr_st (F := F_X12_number) 0 f11 u23 rfl (by decide) (by decide)
          have pa24 : plM h23 = plM h + 1 + 1 := (plM_of u23.1).trans (show z22.toInt = plM h + 1 + 1 from (by (have h9 := (plM_of u11.1).symm.trans (show plM _ = plM h + 1 from pa12)); omega))
          refine te_goto rfl ?_
          refine te_iload_n (p2 := 5) rfl rfl rfl ?_
          refine te_iconst (p2 := 6) (x := 3) rfl rfl (by decide) ?_
          refine tb_ge (p2 := 9) rfl rfl (show Int32.toInt 2 = 2 from rfl) (show Int32.toInt 3 = 3 from rfl) (fun c25 => absurd c25 (by omega)) (fun c25 => ?_)
          refine te_aload_n (p2 := 10) rfl rfl rfl ?_
          refine cV_pI (p2 := 13) (i := 148) rfl rfl rfl rfl I23 rfl rfl rfl (c_X12_byteHere I23) (by decide) (fun y26 r26 => ?_)
          obtain ⟨rb26, at26, tp26, ea26, et26, aa26, ab26, ta26, tb26, r26⟩ := r26
          rw [(BM_fr f23 rfl (fun _ => rfl)), pa24] at rb26
          have xat26 : at26 = z22 := int_inj ea26 u23.1
          rw [xat26] at r26
          have xtp26 : tp26 = tp2 := int_inj et26 ((u23.2 _ _ (Or.inr (by decide))).trans ((u11.2 _ _ (Or.inr (by decide))).trans et2))
          rw [xtp26] at r26
          rcases r26 with r26 | r26
          · refine te_bipush (p2 := 15) (x := 48) rfl rfl (by decide) ?_
            refine te_bipush (p2 := 17) (x := 57) rfl rfl (by decide) ?_
            refine cS_pI (p2 := 20) rfl rfl rfl rfl (t_X12_in (n := y26) (a := 48) (b := 57) I23 ) (by decide) (fun y27 r27 => ?_)
            rcases r27 with ⟨w27, c27⟩ | ⟨w27, c27⟩
            · subst w27
              have cc27_1 := (show Int32.toInt 48 = 48 from rfl)
              have cc27_2 := (show Int32.toInt 57 = 57 from rfl)
              refine tz_eq (p2 := 23) rfl rfl (show Int32.toInt 1 = 1 from rfl) (fun c28 => absurd c28 (by omega)) (fun c28 => ?_)
              refine te_bipush (p2 := 25) (x := 10) rfl rfl (by decide) ?_
              refine te_iload_n (p2 := 26) rfl rfl rfl ?_
              refine ar_mul (p2 := 27) rfl rfl (show Int32.toInt 10 = 10 from rfl) rfl (by omega) (by omega) (fun z29 e29 f29 => ?_)
              refine te_aload_n (p2 := 28) rfl rfl rfl ?_
              refine cV_pI (p2 := 31) (i := 148) rfl rfl rfl rfl I23 rfl rfl rfl (c_X12_byteHere I23) (by decide) (fun y30 r30 => ?_)
              obtain ⟨rb30, at30, tp30, ea30, et30, aa30, ab30, ta30, tb30, r30⟩ := r30
              rw [(BM_fr f23 rfl (fun _ => rfl)), pa24] at rb30
              have xat30 : at30 = z22 := int_inj ea30 u23.1
              rw [xat30] at r30
              have xtp30 : tp30 = tp2 := int_inj et30 ((u23.2 _ _ (Or.inr (by decide))).trans ((u11.2 _ _ (Or.inr (by decide))).trans et2))
              rw [xtp30] at r30
              have ye30 : y30 = y26 := rb30.trans rb26.symm
              rw [ye30]
              show EvP _ _ _ (31, [(2, .int 2), (1, .int z20), (0, .ref 164)], [.int y26, .int z29], h23) _
              refine ar_add (p2 := 32) rfl rfl rfl rfl (by omega) (by omega) (fun z31 e31 f31 => ?_)
              refine te_bipush (p2 := 34) (x := 48) rfl rfl (by decide) ?_
              refine ar_sub (p2 := 35) rfl rfl rfl (show Int32.toInt 48 = 48 from rfl) (by omega) (by omega) (fun z32 e32 f32 => ?_)
              refine te_istore_n (p2 := 36) (lv2 := [(1, .int z32), (2, .int 2), (0, .ref 164)]) rfl rfl (by decide) rfl ?_
              refine te_iinc (p2 := 39) (x := 2) (y := 3) (lv2 := [(2, .int 3), (1, .int z32), (0, .ref 164)]) rfl rfl (by decide) rfl (by decide) rfl ?_
              refine te_aload_n (p2 := 40) rfl rfl rfl ?_
              refine te_dup (p2 := 41) rfl rfl rfl ?_
              refine tg_e (p2 := 44) (i := 148) (v := .int z22) rfl rfl I23 rfl rfl u23.1 ?_
              refine te_iconst (p2 := 45) (x := 1) rfl rfl (by decide) ?_
              refine ar_add (p2 := 46) rfl rfl rfl (show Int32.toInt 1 = 1 from rfl) (by omega) (by omega) (fun z34 e34 f34 => ?_)
              refine tp_i (p2 := 49) (i := 148) rfl rfl I23 rfl rfl (by decide) rfl rfl rfl (by omega) (by omega) (by omega) rfl (fun h35 I35 u35 => ?_)
              have f35 := fr_st (F := F_X12_number) 0 f23 u35 rfl (by decide) (by decide)
              have pa36 : plM h35 = plM h + 1 + 1 + 1 := (plM_of u35.1).trans (show z34.toInt = plM h + 1 + 1 + 1 from (by (have h9 := (plM_of u23.1).symm.trans (show plM _ = plM h + 1 + 1 from pa24)); omega))
              refine te_goto rfl ?_
              refine te_iload_n (p2 := 5) rfl rfl rfl ?_
              refine te_iconst (p2 := 6) (x := 3) rfl rfl (by decide) ?_
              refine tb_ge (p2 := 9) rfl rfl (show Int32.toInt 3 = 3 from rfl) (show Int32.toInt 3 = 3 from rfl) (fun c37 => ?_) (fun c37 => absurd c37 (by omega))
              refine te_iload_n (p2 := 53) rfl rfl rfl ?_
              refine tz_ne (p2 := 56) rfl rfl (show Int32.toInt 3 = 3 from rfl) (fun c38 => ?_) (fun c38 => absurd c38 (by omega))
              refine te_iload_n (p2 := 61) rfl rfl rfl ?_
              exact te_iret rfl rfl ⟨I35, f35, _, rfl, (by rw [(show nuF (cs (BM h) (plM h)) = (Int32.toInt z32, 3) from (by (have k0 : cs (BM h) (plM h) 0 = Int32.toInt y2 := cs_at (z := plM h) (by omega) rb2); (have k1 : cs (BM h) (plM h) 1 = Int32.toInt y14 := cs_at (z := plM h + 1) (by omega) rb14); (have k2 : cs (BM h) (plM h) 2 = Int32.toInt y26 := cs_at (z := plM h + 1 + 1) (by omega) rb26); (have m1 := (show Int32.toInt (-1) = -1 from rfl)); exact nu3 ⟨by omega, by omega⟩ ⟨by omega, by omega⟩ ⟨by omega, by omega⟩ (by omega)))]), (by rw [(show nuF (cs (BM h) (plM h)) = (Int32.toInt z32, 3) from (by (have k0 : cs (BM h) (plM h) 0 = Int32.toInt y2 := cs_at (z := plM h) (by omega) rb2); (have k1 : cs (BM h) (plM h) 1 = Int32.toInt y14 := cs_at (z := plM h + 1) (by omega) rb14); (have k2 : cs (BM h) (plM h) 2 = Int32.toInt y26 := cs_at (z := plM h + 1 + 1) (by omega) rb26); (have m1 := (show Int32.toInt (-1) = -1 from rfl)); exact nu3 ⟨by omega, by omega⟩ ⟨by omega, by omega⟩ ⟨by omega, by omega⟩ (by omega))), show plM h35 = _ from pa36]; show _ = _ + ((3 : Nat) : Int); omega)⟩
            · subst w27
              have cc27_1 := (show Int32.toInt 48 = 48 from rfl)
              have cc27_2 := (show Int32.toInt 57 = 57 from rfl)
              refine tz_eq (p2 := 23) rfl rfl (show Int32.toInt 0 = 0 from rfl) (fun c39 => ?_) (fun c39 => absurd c39 (by omega))
              refine te_iload_n (p2 := 53) rfl rfl rfl ?_
              refine tz_ne (p2 := 56) rfl rfl (show Int32.toInt 2 = 2 from rfl) (fun c40 => ?_) (fun c40 => absurd c40 (by omega))
              refine te_iload_n (p2 := 61) rfl rfl rfl ?_
              exact te_iret rfl rfl ⟨I23, f23, _, rfl, (by rw [(show nuF (cs (BM h) (plM h)) = (Int32.toInt z20, 2) from (by (have k0 : cs (BM h) (plM h) 0 = Int32.toInt y2 := cs_at (z := plM h) (by omega) rb2); (have k1 : cs (BM h) (plM h) 1 = Int32.toInt y14 := cs_at (z := plM h + 1) (by omega) rb14); (have k2 : cs (BM h) (plM h) 2 = Int32.toInt y26 := cs_at (z := plM h + 1 + 1) (by omega) rb26); (have m1 := (show Int32.toInt (-1) = -1 from rfl)); exact nu2 ⟨by omega, by omega⟩ ⟨by omega, by omega⟩ (fun q => by (have q1 := q.1; have q2 := q.2; omega)) (by omega)))]), (by rw [(show nuF (cs (BM h) (plM h)) = (Int32.toInt z20, 2) from (by (have k0 : cs (BM h) (plM h) 0 = Int32.toInt y2 := cs_at (z := plM h) (by omega) rb2); (have k1 : cs (BM h) (plM h) 1 = Int32.toInt y14 := cs_at (z := plM h + 1) (by omega) rb14); (have k2 : cs (BM h) (plM h) 2 = Int32.toInt y26 := cs_at (z := plM h + 1 + 1) (by omega) rb26); (have m1 := (show Int32.toInt (-1) = -1 from rfl)); exact nu2 ⟨by omega, by omega⟩ ⟨by omega, by omega⟩ (fun q => by (have q1 := q.1; have q2 := q.2; omega)) (by omega))), show plM h23 = _ from pa24]; show _ = _ + ((2 : Nat) : Int); omega)⟩
          · subst r26
            refine te_bipush (p2 := 15) (x := 48) rfl rfl (by decide) ?_
            refine te_bipush (p2 := 17) (x := 57) rfl rfl (by decide) ?_
            refine cS_pI (p2 := 20) rfl rfl rfl rfl (t_X12_in (n := (-1)) (a := 48) (b := 57) I23 ) (by decide) (fun y41 r41 => ?_)
            rcases r41 with ⟨w41, c41⟩ | ⟨w41, c41⟩
            · subst w41
              exfalso; have cq0 := (show Int32.toInt (-1) = (-1) from rfl); have cq1 := (show Int32.toInt 48 = 48 from rfl); have cq2 := (show Int32.toInt 57 = 57 from rfl); omega
            · subst w41
              have cc41_0 := (show Int32.toInt (-1) = (-1) from rfl)
              have cc41_1 := (show Int32.toInt 48 = 48 from rfl)
              have cc41_2 := (show Int32.toInt 57 = 57 from rfl)
              refine tz_eq (p2 := 23) rfl rfl (show Int32.toInt 0 = 0 from rfl) (fun c42 => ?_) (fun c42 => absurd c42 (by omega))
              refine te_iload_n (p2 := 53) rfl rfl rfl ?_
              refine tz_ne (p2 := 56) rfl rfl (show Int32.toInt 2 = 2 from rfl) (fun c43 => ?_) (fun c43 => absurd c43 (by omega))
              refine te_iload_n (p2 := 61) rfl rfl rfl ?_
              exact te_iret rfl rfl ⟨I23, f23, _, rfl, (by rw [(show nuF (cs (BM h) (plM h)) = (Int32.toInt z20, 2) from (by (have k0 : cs (BM h) (plM h) 0 = Int32.toInt y2 := cs_at (z := plM h) (by omega) rb2); (have k1 : cs (BM h) (plM h) 1 = Int32.toInt y14 := cs_at (z := plM h + 1) (by omega) rb14); (have k2 : cs (BM h) (plM h) 2 = Int32.toInt (-1) := cs_at (z := plM h + 1 + 1) (by omega) rb26); (have m1 := (show Int32.toInt (-1) = -1 from rfl)); exact nu2 ⟨by omega, by omega⟩ ⟨by omega, by omega⟩ (fun q => by (have q1 := q.1; have q2 := q.2; omega)) (by omega)))]), (by rw [(show nuF (cs (BM h) (plM h)) = (Int32.toInt z20, 2) from (by (have k0 : cs (BM h) (plM h) 0 = Int32.toInt y2 := cs_at (z := plM h) (by omega) rb2); (have k1 : cs (BM h) (plM h) 1 = Int32.toInt y14 := cs_at (z := plM h + 1) (by omega) rb14); (have k2 : cs (BM h) (plM h) 2 = Int32.toInt (-1) := cs_at (z := plM h + 1 + 1) (by omega) rb26); (have m1 := (show Int32.toInt (-1) = -1 from rfl)); exact nu2 ⟨by omega, by omega⟩ ⟨by omega, by omega⟩ (fun q => by (have q1 := q.1; have q2 := q.2; omega)) (by omega))), show plM h23 = _ from pa24]; show _ = _ + ((2 : Nat) : Int); omega)⟩
        · subst w15
          have cc15_1 := (show Int32.toInt 48 = 48 from rfl)
          have cc15_2 := (show Int32.toInt 57 = 57 from rfl)
          refine tz_eq (p2 := 23) rfl rfl (show Int32.toInt 0 = 0 from rfl) (fun c44 => ?_) (fun c44 => absurd c44 (by omega))
          refine te_iload_n (p2 := 53) rfl rfl rfl ?_
          refine tz_ne (p2 := 56) rfl rfl (show Int32.toInt 1 = 1 from rfl) (fun c45 => ?_) (fun c45 => absurd c45 (by omega))
          refine te_iload_n (p2 := 61) rfl rfl rfl ?_
          exact te_iret rfl rfl ⟨I11, f11, _, rfl, (by rw [(show nuF (cs (BM h) (plM h)) = (Int32.toInt z8, 1) from (by (have k0 : cs (BM h) (plM h) 0 = Int32.toInt y2 := cs_at (z := plM h) (by omega) rb2); (have k1 : cs (BM h) (plM h) 1 = Int32.toInt y14 := cs_at (z := plM h + 1) (by omega) rb14); (have m1 := (show Int32.toInt (-1) = -1 from rfl)); exact nu1 ⟨by omega, by omega⟩ (fun q => by (have q1 := q.1; have q2 := q.2; omega)) (by omega)))]), (by rw [(show nuF (cs (BM h) (plM h)) = (Int32.toInt z8, 1) from (by (have k0 : cs (BM h) (plM h) 0 = Int32.toInt y2 := cs_at (z := plM h) (by omega) rb2); (have k1 : cs (BM h) (plM h) 1 = Int32.toInt y14 := cs_at (z := plM h + 1) (by omega) rb14); (have m1 := (show Int32.toInt (-1) = -1 from rfl)); exact nu1 ⟨by omega, by omega⟩ (fun q => by (have q1 := q.1; have q2 := q.2; omega)) (by omega))), show plM h11 = _ from pa12]; show _ = _ + ((1 : Nat) : Int); omega)⟩
      · subst r14
        refine te_bipush (p2 := 15) (x := 48) rfl rfl (by decide) ?_
        refine te_bipush (p2 := 17) (x := 57) rfl rfl (by decide) ?_
        refine cS_pI (p2 := 20) rfl rfl rfl rfl (t_X12_in (n := (-1)) (a := 48) (b := 57) I11 ) (by decide) (fun y46 r46 => ?_)
        rcases r46 with ⟨w46, c46⟩ | ⟨w46, c46⟩
        · subst w46
          exfalso; have cq0 := (show Int32.toInt (-1) = (-1) from rfl); have cq1 := (show Int32.toInt 48 = 48 from rfl); have cq2 := (show Int32.toInt 57 = 57 from rfl); omega
        · subst w46
          have cc46_0 := (show Int32.toInt (-1) = (-1) from rfl)
          have cc46_1 := (show Int32.toInt 48 = 48 from rfl)
          have cc46_2 := (show Int32.toInt 57 = 57 from rfl)
          refine tz_eq (p2 := 23) rfl rfl (show Int32.toInt 0 = 0 from rfl) (fun c47 => ?_) (fun c47 => absurd c47 (by omega))
          refine te_iload_n (p2 := 53) rfl rfl rfl ?_
          refine tz_ne (p2 := 56) rfl rfl (show Int32.toInt 1 = 1 from rfl) (fun c48 => ?_) (fun c48 => absurd c48 (by omega))
          refine te_iload_n (p2 := 61) rfl rfl rfl ?_
          exact te_iret rfl rfl ⟨I11, f11, _, rfl, (by rw [(show nuF (cs (BM h) (plM h)) = (Int32.toInt z8, 1) from (by (have k0 : cs (BM h) (plM h) 0 = Int32.toInt y2 := cs_at (z := plM h) (by omega) rb2); (have k1 : cs (BM h) (plM h) 1 = Int32.toInt (-1) := cs_at (z := plM h + 1) (by omega) rb14); (have m1 := (show Int32.toInt (-1) = -1 from rfl)); exact nu1 ⟨by omega, by omega⟩ (fun q => by (have q1 := q.1; have q2 := q.2; omega)) (by omega)))]), (by rw [(show nuF (cs (BM h) (plM h)) = (Int32.toInt z8, 1) from (by (have k0 : cs (BM h) (plM h) 0 = Int32.toInt y2 := cs_at (z := plM h) (by omega) rb2); (have k1 : cs (BM h) (plM h) 1 = Int32.toInt (-1) := cs_at (z := plM h + 1) (by omega) rb14); (have m1 := (show Int32.toInt (-1) = -1 from rfl)); exact nu1 ⟨by omega, by omega⟩ (fun q => by (have q1 := q.1; have q2 := q.2; omega)) (by omega))), show plM h11 = _ from pa12]; show _ = _ + ((1 : Nat) : Int); omega)⟩
    · subst w3
      have cc3_1 := (show Int32.toInt 48 = 48 from rfl)
      have cc3_2 := (show Int32.toInt 57 = 57 from rfl)
      refine tz_eq (p2 := 23) rfl rfl (show Int32.toInt 0 = 0 from rfl) (fun c49 => ?_) (fun c49 => absurd c49 (by omega))
      refine te_iload_n (p2 := 53) rfl rfl rfl ?_
      refine tz_ne (p2 := 56) rfl rfl (show Int32.toInt 0 = 0 from rfl) (fun c50 => absurd c50 (by omega)) (fun c50 => ?_)
      refine te_iconst (p2 := 57) (x := (-1)) rfl rfl (by decide) ?_
      refine te_goto rfl ?_
      exact te_iret rfl rfl ⟨hI, f0, _, rfl, (by rw [(show nuF (cs (BM h) (plM h)) = (Int32.toInt (-1), 0) from (by (have k0 : cs (BM h) (plM h) 0 = Int32.toInt y2 := cs_at (z := plM h) (by omega) rb2); (have m1 := (show Int32.toInt (-1) = -1 from rfl)); exact nu0 (fun q => by (have q1 := q.1; have q2 := q.2; omega)) (by omega)))]), (by rw [(show nuF (cs (BM h) (plM h)) = (Int32.toInt (-1), 0) from (by (have k0 : cs (BM h) (plM h) 0 = Int32.toInt y2 := cs_at (z := plM h) (by omega) rb2); (have m1 := (show Int32.toInt (-1) = -1 from rfl)); exact nu0 (fun q => by (have q1 := q.1; have q2 := q.2; omega)) (by omega))), show plM h = _ from rfl]; show _ = _ + ((0 : Nat) : Int); omega)⟩
  · subst r2
    refine te_bipush (p2 := 15) (x := 48) rfl rfl (by decide) ?_
    refine te_bipush (p2 := 17) (x := 57) rfl rfl (by decide) ?_
    refine cS_pI (p2 := 20) rfl rfl rfl rfl (t_X12_in (n := (-1)) (a := 48) (b := 57) hI ) (by decide) (fun y51 r51 => ?_)
    rcases r51 with ⟨w51, c51⟩ | ⟨w51, c51⟩
    · subst w51
      exfalso; have cq0 := (show Int32.toInt (-1) = (-1) from rfl); have cq1 := (show Int32.toInt 48 = 48 from rfl); have cq2 := (show Int32.toInt 57 = 57 from rfl); omega
    · subst w51
      have cc51_0 := (show Int32.toInt (-1) = (-1) from rfl)
      have cc51_1 := (show Int32.toInt 48 = 48 from rfl)
      have cc51_2 := (show Int32.toInt 57 = 57 from rfl)
      refine tz_eq (p2 := 23) rfl rfl (show Int32.toInt 0 = 0 from rfl) (fun c52 => ?_) (fun c52 => absurd c52 (by omega))
      refine te_iload_n (p2 := 53) rfl rfl rfl ?_
      refine tz_ne (p2 := 56) rfl rfl (show Int32.toInt 0 = 0 from rfl) (fun c53 => absurd c53 (by omega)) (fun c53 => ?_)
      refine te_iconst (p2 := 57) (x := (-1)) rfl rfl (by decide) ?_
      refine te_goto rfl ?_
      exact te_iret rfl rfl ⟨hI, f0, _, rfl, (by rw [(show nuF (cs (BM h) (plM h)) = (Int32.toInt (-1), 0) from (by (have k0 : cs (BM h) (plM h) 0 = Int32.toInt (-1) := cs_at (z := plM h) (by omega) rb2); (have m1 := (show Int32.toInt (-1) = -1 from rfl)); exact nu0 (fun q => by (have q1 := q.1; have q2 := q.2; omega)) (by omega)))]), (by rw [(show nuF (cs (BM h) (plM h)) = (Int32.toInt (-1), 0) from (by (have k0 : cs (BM h) (plM h) 0 = Int32.toInt (-1) := cs_at (z := plM h) (by omega) rb2); (have m1 := (show Int32.toInt (-1) = -1 from rfl)); exact nu0 (fun q => by (have q1 := q.1; have q2 := q.2; omega)) (by omega))), show plM h = _ from rfl]; show _ = _ + ((0 : Nat) : Int); omega)⟩
theorem wlp (u n : Nat) : 0 ≤ ((wl u).getD n 0).toInt := by
  by_cases h : u < 12
  · by_cases h2 : n < 6
    · exact (show ∀ u, u < 12 → ∀ n, n < 6 → 0 ≤ ((wl u).getD n 0).toInt by decide +kernel) u h n h2
    · rw [List.getD_eq_getElem?_getD, List.getElem?_eq_none (by have := wl6 u; omega)]; decide
  · unfold wl
    rw [List.getD_eq_getElem?_getD (l := AW), List.getElem?_eq_none (by rw [show AW.length = 12 from rfl]; omega)]
    simp
set_option maxRecDepth 20000 in
set_option maxHeartbeats 4000000 in
theorem c_X12_wordOf {first : Int32} {behind : Int32} {h : im_H} (hI : tI h) (p_first0 : 0 ≤ first.toInt) (p_first1 : first.toInt ≤ 11) (p_behind0 : 1 ≤ behind.toInt) (p_behind1 : behind.toInt ≤ 12) (pr0 : first.toInt < behind.toInt) (pr1 : tbl h) : CaP 2 136 [.ref 164, .int first, .int behind] h (fun v h2 => tI h2 ∧ fr F_X12_wordOf h h2 ∧ ∃ y : Int32, v = some (.int y) ∧ ((∃ u k : Nat, first.toInt.toNat ≤ u ∧ u < behind.toInt.toNat ∧ y.toInt = (u : Int) - first.toInt.toNat ∧ WDy (cs (BM h) (plM h)) first.toInt.toNat u k ∧ plM h2 = plM h + (k : Int)) ∨ (y = -1 ∧ ∃ k : Nat, WDn (cs (BM h) (plM h)) first.toInt.toNat behind.toInt.toNat k ∧ plM h2 = plM h + (k : Int)))) := by
  refine cap_of (d := 1) (M := mX12_wordOf) rfl (Nat.le_of_ble_eq_true rfl) ?_
  show EvP im_K0 1 mX12_wordOf (0, [(0, .ref 164), (1, .int first), (2, .int behind)], [], h) _
  have f0 : fr F_X12_wordOf h h := fr_rf
  refine te_iconst (p2 := 1) (x := 0) rfl rfl (by decide) ?_
  refine te_istore_n (p2 := 2) (lv2 := [(3, .int 0), (0, .ref 164), (1, .int first), (2, .int behind)]) rfl rfl (by decide) rfl ?_
  refine te_iload_n (p2 := 3) rfl rfl rfl ?_
  refine te_istore (p2 := 5) (lv2 := [(4, .int first), (3, .int 0), (0, .ref 164), (1, .int first), (2, .int behind)]) rfl rfl (by decide) rfl ?_
  have lp1 : ∀ (n1 : Nat) (v1_3 v1_4 : Int32) , 0 ≤ v1_4.toInt → v1_4.toInt ≤ 12 → first.toInt ≤ v1_4.toInt → v1_4.toInt ≤ behind.toInt → (∀ u, first.toInt.toNat ≤ u → u < v1_4.toInt.toNat → bt v1_3 u) → behind.toInt - v1_4.toInt < (n1 : Int) → EvP im_K0 1 mX12_wordOf (5, [(0, .ref 164), (1, .int first), (2, .int behind), (3, .int v1_3), (4, .int v1_4)], [], h) (fun v h2 => tI h2 ∧ fr F_X12_wordOf h h2 ∧ ∃ y : Int32, v = some (.int y) ∧ ((∃ u k : Nat, first.toInt.toNat ≤ u ∧ u < behind.toInt.toNat ∧ y.toInt = (u : Int) - first.toInt.toNat ∧ WDy (cs (BM h) (plM h)) first.toInt.toNat u k ∧ plM h2 = plM h + (k : Int)) ∨ (y = -1 ∧ ∃ k : Nat, WDn (cs (BM h) (plM h)) first.toInt.toNat behind.toInt.toNat k ∧ plM h2 = plM h + (k : Int)))) := by
    intro n1
    induction n1 with
    | zero => intro v1_3 v1_4 a1_4 b1_4 l1_0 l1_1 w1_0 m1; exfalso; omega
    | succ n1 ih1 =>
      intro v1_3 v1_4 a1_4 b1_4 l1_0 l1_1 w1_0 m1
      refine te_iload (p2 := 7) rfl rfl rfl ?_
      refine te_iload_n (p2 := 8) rfl rfl rfl ?_
      refine tb_ge (p2 := 11) rfl rfl rfl rfl (fun c2 => ?_) (fun c2 => ?_)
      · refine te_iconst (p2 := 25) (x := 0) rfl rfl (by decide) ?_
        refine te_istore (p2 := 27) (lv2 := [(4, .int 0), (0, .ref 164), (1, .int first), (2, .int behind), (3, .int v1_3)]) rfl rfl (by decide) rfl ?_
        obtain ⟨v4, e4, y4, w4, a4, b4, _⟩ := hI.2.1 148 60 (.inl (0, 160, 9999999999)) rfl
        subst w4
        obtain ⟨v5, e5, y5, w5, a5, b5, _⟩ := hI.2.1 148 45 (.inl (0, 160, 9999999999)) rfl
        subst w5
        have lp3 : ∀ (n3 : Nat) (v3_3 v3_4 t3_at t3_tp : Int32) (h3 : im_H), tI h3 → fr F_X12_wordOf h h3 → 0 ≤ v3_4.toInt → v3_4.toInt ≤ 6 → rd h3 148 60 = some (.int t3_at) → rd h3 148 45 = some (.int t3_tp) → 0 ≤ t3_at.toInt → t3_at.toInt ≤ 160 → 0 ≤ t3_tp.toInt → t3_tp.toInt ≤ 160 → (inO (cs (BM h) (plM h)) first.toInt.toNat behind.toInt.toNat v3_4.toInt.toNat v3_3) → plM h3 = plM h + (v3_4.toInt.toNat : Int) → 161 - t3_at.toInt < (n3 : Int) → EvP im_K0 1 mX12_wordOf (27, [(0, .ref 164), (1, .int first), (2, .int behind), (3, .int v3_3), (4, .int v3_4)], [], h3) (fun v h2 => tI h2 ∧ fr F_X12_wordOf h h2 ∧ ∃ y : Int32, v = some (.int y) ∧ ((∃ u k : Nat, first.toInt.toNat ≤ u ∧ u < behind.toInt.toNat ∧ y.toInt = (u : Int) - first.toInt.toNat ∧ WDy (cs (BM h) (plM h)) first.toInt.toNat u k ∧ plM h2 = plM h + (k : Int)) ∨ (y = -1 ∧ ∃ k : Nat, WDn (cs (BM h) (plM h)) first.toInt.toNat behind.toInt.toNat k ∧ plM h2 = plM h + (k : Int)))) := by
          intro n3
          induction n3 with
          | zero => intro v3_3 v3_4 t3_at t3_tp h3 I3 f3 a3_4 b3_4 v3_at v3_tp va3_at vb3_at va3_tp vb3_tp w3_0 w3_1 m3; exfalso; omega
          | succ n3 ih3 =>
            intro v3_3 v3_4 t3_at t3_tp h3 I3 f3 a3_4 b3_4 v3_at v3_tp va3_at vb3_at va3_tp vb3_tp w3_0 w3_1 m3
            refine te_iload_n (p2 := 28) rfl rfl rfl ?_
            refine tz_eq (p2 := 31) rfl rfl rfl (fun c6 => ?_) (fun c6 => ?_)
            · refine te_iconst (p2 := 149) (x := (-1)) rfl rfl (by decide) ?_
              exact te_iret rfl rfl ⟨I3, f3, _, rfl, (by exfalso; (obtain ⟨u, u0, u1, ul⟩ := w3_0.2.2); (have hb := (w3_0.1 u u0 u1).mpr ul); rw [(i32_ext (show v3_3.toInt = Int32.toInt 0 by (have h9 := (show Int32.toInt 0 = 0 from rfl)); omega) : v3_3 = 0)] at hb; exact bt_0 hb)⟩
            · refine te_iconst (p2 := 32) (x := 0) rfl rfl (by decide) ?_
              refine te_istore (p2 := 34) (lv2 := [(5, .int 0), (0, .ref 164), (1, .int first), (2, .int behind), (3, .int v3_3), (4, .int v3_4)]) rfl rfl (by decide) rfl ?_
              refine te_iload_n (p2 := 35) rfl rfl rfl ?_
              refine te_istore (p2 := 37) (lv2 := [(6, .int first), (5, .int 0), (0, .ref 164), (1, .int first), (2, .int behind), (3, .int v3_3), (4, .int v3_4)]) rfl rfl (by decide) rfl ?_
              have lp7 : ∀ (n7 : Nat) (v7_5 v7_6 : Int32) , 0 ≤ v7_6.toInt → v7_6.toInt ≤ 12 → first.toInt ≤ v7_6.toInt → v7_6.toInt ≤ behind.toInt → v7_5.toInt = 0 ∨ t3_at.toInt < t3_tp.toInt → (inJ (cs (BM h) (plM h)) first.toInt.toNat behind.toInt.toNat v3_4.toInt.toNat v7_6.toInt.toNat v7_5) → behind.toInt - v7_6.toInt < (n7 : Int) → EvP im_K0 1 mX12_wordOf (37, [(0, .ref 164), (1, .int first), (2, .int behind), (3, .int v3_3), (4, .int v3_4), (5, .int v7_5), (6, .int v7_6)], [], h3) (fun v h2 => tI h2 ∧ fr F_X12_wordOf h h2 ∧ ∃ y : Int32, v = some (.int y) ∧ ((∃ u k : Nat, first.toInt.toNat ≤ u ∧ u < behind.toInt.toNat ∧ y.toInt = (u : Int) - first.toInt.toNat ∧ WDy (cs (BM h) (plM h)) first.toInt.toNat u k ∧ plM h2 = plM h + (k : Int)) ∨ (y = -1 ∧ ∃ k : Nat, WDn (cs (BM h) (plM h)) first.toInt.toNat behind.toInt.toNat k ∧ plM h2 = plM h + (k : Int)))) := by
                intro n7
                induction n7 with
                | zero => intro v7_5 v7_6 a7_6 b7_6 l7_0 l7_1 l7_2 w7_0 m7; exfalso; omega
                | succ n7 ih7 =>
                  intro v7_5 v7_6 a7_6 b7_6 l7_0 l7_1 l7_2 w7_0 m7
                  refine te_iload (p2 := 39) rfl rfl rfl ?_
                  refine te_iload_n (p2 := 40) rfl rfl rfl ?_
                  refine tb_ge (p2 := 43) rfl rfl rfl rfl (fun c8 => ?_) (fun c8 => ?_)
                  · refine te_iload (p2 := 127) rfl rfl rfl ?_
                    refine te_istore_n (p2 := 128) (lv2 := [(3, .int v7_5), (0, .ref 164), (1, .int first), (2, .int behind), (4, .int v3_4), (5, .int v7_5), (6, .int v7_6)]) rfl rfl (by decide) rfl ?_
                    refine te_iload_n (p2 := 129) rfl rfl rfl ?_
                    refine tz_eq (p2 := 132) rfl rfl rfl (fun c9 => ?_) (fun c9 => ?_)
                    · refine te_goto rfl ?_
                      refine te_iload_n (p2 := 28) rfl rfl rfl ?_
                      refine tz_eq (p2 := 31) rfl rfl rfl (fun c10 => ?_) (fun c10 => absurd c10 (by omega))
                      refine te_iconst (p2 := 149) (x := (-1)) rfl rfl (by decide) ?_
                      exact te_iret rfl rfl ⟨I3, f3, _, rfl, Or.inr ⟨rfl, v3_4.toInt.toNat, wd_n (may := v3_3) w3_0 (by (have hj := w7_0); rw [show v7_6.toInt.toNat = behind.toInt.toNat by omega, (i32_ext (show v7_5.toInt = Int32.toInt 0 by (have h9 := (show Int32.toInt 0 = 0 from rfl)); omega) : v7_5 = 0)] at hj; exact hj), w3_1⟩⟩
                    · refine te_aload_n (p2 := 133) rfl rfl rfl ?_
                      refine te_dup (p2 := 134) rfl rfl rfl ?_
                      refine tg_e (p2 := 137) (i := 148) (v := .int t3_at) rfl rfl I3 rfl rfl v3_at ?_
                      refine te_iconst (p2 := 138) (x := 1) rfl rfl (by decide) ?_
                      refine ar_add (p2 := 139) rfl rfl rfl (show Int32.toInt 1 = 1 from rfl) (by omega) (by omega) (fun z11 e11 f11 => ?_)
                      refine tp_i (p2 := 142) (i := 148) rfl rfl I3 rfl rfl (by decide) rfl rfl rfl (by omega) (by omega) (by omega) rfl (fun h12 I12 u12 => ?_)
                      have f12 := fr_st (F := F_X12_wordOf) 0 f3 u12 rfl (by decide) (by decide)
                      have pa13 : plM h12 = plM h + (v3_4.toInt.toNat : Int) + 1 := (plM_of u12.1).trans (show z11.toInt = plM h + (v3_4.toInt.toNat : Int) + 1 from (by (have h9 := (plM_of v3_at).symm.trans (show plM _ = plM h + (v3_4.toInt.toNat : Int) from w3_1)); omega))
                      obtain ⟨u14q, _, _, ul14⟩ := w7_0.2.2 (by omega)
                      have uk14 := lcp_le (b := (cs (BM h) (plM h))) (wl u14q) 0
                      have um14 := wl6 u14q
                      refine ar_inc (p2 := 145) (x := v3_4) rfl rfl (by decide) rfl (by decide) rfl (by omega) (by omega) (fun z15 e15 f15 => ?_)
                      show EvP _ _ _ (145, [(4, .int z15), (3, .int v7_5), (0, .ref 164), (1, .int first), (2, .int behind), (5, .int v7_5), (6, .int v7_6)], [], h12) _
                      refine te_goto rfl ?_
                      refine te_lv [(0, .ref 164), (1, .int first), (2, .int behind), (3, .int v7_5), (4, .int z15)] rfl rfl ⟨rfl, rfl, rfl, rfl, rfl, trivial⟩ ?_
                      exact ih3 v7_5 z15 z11 t3_tp h12 I12 f12 (by omega) (by omega) u12.1 ((u12.2 _ _ (Or.inr (by decide))).trans v3_tp) (by omega) (by omega) (by omega) (by omega) (inO_s (n := v3_4.toInt.toNat) (show inJ (cs (BM h) (plM h)) first.toInt.toNat behind.toInt.toNat v3_4.toInt.toNat behind.toInt.toNat v7_5 from (by (have hj := w7_0); rw [show v7_6.toInt.toNat = behind.toInt.toNat by omega] at hj; exact hj)) (by omega) (by omega)) (by rw [show plM h12 = _ from pa13]; show _ + 1 = _; omega) (by omega)
                  · refine te_iload_n (p2 := 44) rfl rfl rfl ?_
                    refine te_iload (p2 := 46) rfl rfl rfl ?_
                    refine au_shr (p2 := 47) rfl rfl (fun z16 e16 => ?_)
                    refine te_iconst (p2 := 48) (x := 1) rfl rfl (by decide) ?_
                    refine au_and (p2 := 49) rfl rfl (fun z17 e17 => ?_)
                    have bi18 : z17.toInt = 1 ↔ bt v3_3 v7_6.toInt.toNat := by (rw [← bt_iff (by omega) (by omega), e16, e17]; exact ⟨fun q => i32_ext q, fun q => congrArg Int32.toInt q⟩)
                    refine te_iconst (p2 := 50) (x := 1) rfl rfl (by decide) ?_
                    refine tb_ne (p2 := 53) rfl rfl rfl (show Int32.toInt 1 = 1 from rfl) (fun c19 => ?_) (fun c19 => ?_)
                    · refine ar_inc (p2 := 122) (x := v7_6) rfl rfl (by decide) rfl (by decide) rfl (by omega) (by omega) (fun z20 e20 f20 => ?_)
                      show EvP _ _ _ (122, [(6, .int z20), (0, .ref 164), (1, .int first), (2, .int behind), (3, .int v3_3), (4, .int v3_4), (5, .int v7_5)], [], h3) _
                      refine te_goto rfl ?_
                      refine te_lv [(0, .ref 164), (1, .int first), (2, .int behind), (3, .int v3_3), (4, .int v3_4), (5, .int v7_5), (6, .int z20)] rfl rfl ⟨rfl, rfl, rfl, rfl, rfl, rfl, rfl, trivial⟩ ?_
                      exact ih7 v7_5 z20 (by omega) (by omega) (by omega) (by omega) (by omega) (inJ_n w3_0 w7_0 (show z20.toInt.toNat = v7_6.toInt.toNat + 1 by omega) (by omega) (by omega) (fun q => absurd (bi18.mpr q) (by omega))) (by omega)
                    · refine te_iload (p2 := 55) rfl rfl rfl ?_
                      refine te_aload_n (p2 := 56) rfl rfl rfl ?_
                      refine tg_r (p2 := 59) (i := 148) (r := 212) rfl rfl I3 rfl rfl rfl ?_
                      refine te_iload (p2 := 61) rfl rfl rfl ?_
                      refine tl_i (p2 := 62) (i := 196) (n := 12) rfl rfl I3 rfl rfl rfl rfl (by omega) (by omega) (fun y21 a21 b21 g21 e21 => ?_)
                      have sz22 := tbl_s (tbl_fr pr1 f3 (fun _ => rfl) (fun _ => rfl)) (show v7_6.toInt.toNat < 12 by omega) e21
                      refine tb_ne (p2 := 65) rfl rfl rfl rfl (fun c23 => ?_) (fun c23 => ?_)
                      · refine te_iload (p2 := 72) rfl rfl rfl ?_
                        refine te_aload_n (p2 := 73) rfl rfl rfl ?_
                        refine tg_r (p2 := 76) (i := 148) (r := 211) rfl rfl I3 rfl rfl rfl ?_
                        refine te_iload (p2 := 78) rfl rfl rfl ?_
                        refine tl_le (p2 := 79) (i := 195) (n := 12) rfl rfl I3 rfl rfl (by omega) (by omega) (tbl_l (tbl_fr pr1 f3 (fun _ => rfl) (fun _ => rfl)) (by omega)) ?_
                        refine te_bipush (p2 := 81) (x := 8) rfl rfl (by decide) ?_
                        refine te_aload_n (p2 := 82) rfl rfl rfl ?_
                        refine tg_r (p2 := 85) (i := 148) (r := 212) rfl rfl I3 rfl rfl rfl ?_
                        refine te_iload (p2 := 87) rfl rfl rfl ?_
                        refine tl_e (p2 := 88) (i := 196) (n := 12) (t := 0) (Or.inl rfl) rfl rfl I3 rfl rfl (by omega) (by omega) e21 ?_
                        refine te_iconst (p2 := 89) (x := 1) rfl rfl (by decide) ?_
                        refine ar_sub (p2 := 90) rfl rfl rfl (show Int32.toInt 1 = 1 from rfl) (by omega) (by omega) (fun z26 e26 f26 => ?_)
                        refine te_iload (p2 := 92) rfl rfl rfl ?_
                        refine ar_sub (p2 := 93) rfl rfl rfl rfl (by omega) (by omega) (fun z27 e27 f27 => ?_)
                        refine ar_mul (p2 := 94) rfl rfl (show Int32.toInt 8 = 8 from rfl) rfl (by omega) (by omega) (fun z28 e28 f28 => ?_)
                        refine te_lshr (p2 := 95) (z := ((WL.getD v7_6.toInt.toNat 0) >>> (Int32.toInt64 z28 &&& 63))) rfl rfl rfl ?_
                        refine te_ldc2 (p2 := 98) (x := 255) rfl rfl rfl ?_
                        refine te_land (p2 := 99) (z := (((WL.getD v7_6.toInt.toNat 0) >>> (Int32.toInt64 z28 &&& 63)) &&& 255)) rfl rfl rfl ?_
                        refine te_aload_n (p2 := 100) rfl rfl rfl ?_
                        refine cV_pI (p2 := 103) (i := 148) rfl rfl rfl rfl I3 rfl rfl rfl (c_X12_byteHere I3) (by decide) (fun y29 r29 => ?_)
                        obtain ⟨rb29, at29, tp29, ea29, et29, aa29, ab29, ta29, tb29, r29⟩ := r29
                        rw [(BM_fr f3 rfl (fun _ => rfl)), w3_1] at rb29
                        have xat29 : at29 = t3_at := int_inj ea29 v3_at
                        rw [xat29] at r29
                        have xtp29 : tp29 = t3_tp := int_inj et29 v3_tp
                        rw [xtp29] at r29
                        rcases r29 with r29 | r29
                        · refine te_i2l (p2 := 104) (z := (Int32.toInt64 y29)) rfl rfl rfl ?_
                          obtain ⟨z30, e30⟩ : ∃ z, lg_cmp (((WL.getD v7_6.toInt.toNat 0) >>> (Int32.toInt64 z28 &&& 63)) &&& 255) (Int32.toInt64 y29) = z := ⟨_, rfl⟩
                          refine te_lcmp (p2 := 105) rfl rfl e30 ?_
                          have le31 := lcp_le (b := (cs (BM h) (plM h))) (wl v7_6.toInt.toNat) 0
                          have lm31 := (w3_0.1 v7_6.toInt.toNat (by omega) (by omega)).mp (bi18.mp (by omega))
                          have cy31 := cmp_y (tbl_c (u := v7_6.toInt.toNat) (n := v3_4.toInt.toNat) (z := z28) (by omega) (by omega) (by omega)) e30
                          have ck31 : cs (BM h) (plM h) v3_4.toInt.toNat = Int32.toInt y29 := cs_at (z := plM h + (v3_4.toInt.toNat : Int)) rfl rb29
                          rw [← ck31] at cy31
                          refine tz_ne (p2 := 108) rfl rfl rfl (fun c32 => ?_) (fun c32 => ?_)
                          · refine te_iconst (p2 := 116) (x := 0) rfl rfl (by decide) ?_
                            refine te_ior (p2 := 117) (z := v7_5) rfl rfl (Int32.or_zero) ?_
                            refine te_istore (p2 := 119) (lv2 := [(5, .int v7_5), (0, .ref 164), (1, .int first), (2, .int behind), (3, .int v3_3), (4, .int v3_4), (6, .int v7_6)]) rfl rfl (by decide) rfl ?_
                            refine ar_inc (p2 := 122) (x := v7_6) rfl rfl (by decide) rfl (by decide) rfl (by omega) (by omega) (fun z34 e34 f34 => ?_)
                            show EvP _ _ _ (122, [(6, .int z34), (5, .int v7_5), (0, .ref 164), (1, .int first), (2, .int behind), (3, .int v3_3), (4, .int v3_4)], [], h3) _
                            refine te_goto rfl ?_
                            refine te_lv [(0, .ref 164), (1, .int first), (2, .int behind), (3, .int v3_3), (4, .int v3_4), (5, .int v7_5), (6, .int z34)] rfl rfl ⟨rfl, rfl, rfl, rfl, rfl, rfl, rfl, trivial⟩ ?_
                            exact ih7 v7_5 z34 (by omega) (by omega) (by omega) (by omega) (by omega) (inJ_ne w3_0 w7_0 (show z34.toInt.toNat = v7_6.toInt.toNat + 1 by omega) (by omega) (by omega) (bi18.mp (by omega)) (by (have h9 := sz22); omega) (fun q => absurd (cy31.mpr q) (by omega))) (by omega)
                          · refine te_iconst (p2 := 109) (x := 1) rfl rfl (by decide) ?_
                            refine te_iload (p2 := 111) rfl rfl rfl ?_
                            refine au_shl (p2 := 112) rfl rfl (fun z35 e35 => ?_)
                            refine te_goto rfl ?_
                            refine au_or (p2 := 117) rfl rfl (fun z36 e36 => ?_)
                            refine te_istore (p2 := 119) (lv2 := [(5, .int z36), (0, .ref 164), (1, .int first), (2, .int behind), (3, .int v3_3), (4, .int v3_4), (6, .int v7_6)]) rfl rfl (by decide) rfl ?_
                            refine ar_inc (p2 := 122) (x := v7_6) rfl rfl (by decide) rfl (by decide) rfl (by omega) (by omega) (fun z37 e37 f37 => ?_)
                            show EvP _ _ _ (122, [(6, .int z37), (5, .int z36), (0, .ref 164), (1, .int first), (2, .int behind), (3, .int v3_3), (4, .int v3_4)], [], h3) _
                            refine te_goto rfl ?_
                            refine te_lv [(0, .ref 164), (1, .int first), (2, .int behind), (3, .int v3_3), (4, .int v3_4), (5, .int z36), (6, .int z37)] rfl rfl ⟨rfl, rfl, rfl, rfl, rfl, rfl, rfl, trivial⟩ ?_
                            exact ih7 z36 z37 (by omega) (by omega) (by omega) (by omega) (by omega) (by rw [← e36, ← e35]; exact inJ_eq (v := v7_6) w3_0 w7_0 (show z37.toInt.toNat = v7_6.toInt.toNat + 1 by omega) (by omega) (by omega) (by omega) (by omega) (by omega) (bi18.mp (by omega)) (by (have h9 := sz22); omega) (cy31.mp (by omega))) (by omega)
                        · subst r29
                          refine te_i2l (p2 := 104) (z := (Int32.toInt64 (-1))) rfl rfl rfl ?_
                          obtain ⟨z38, e38⟩ : ∃ z, lg_cmp (((WL.getD v7_6.toInt.toNat 0) >>> (Int32.toInt64 z28 &&& 63)) &&& 255) (Int32.toInt64 (-1)) = z := ⟨_, rfl⟩
                          refine te_lcmp (p2 := 105) rfl rfl e38 ?_
                          have le39 := lcp_le (b := (cs (BM h) (plM h))) (wl v7_6.toInt.toNat) 0
                          have lm39 := (w3_0.1 v7_6.toInt.toNat (by omega) (by omega)).mp (bi18.mp (by omega))
                          have cy39 := cmp_y (tbl_c (u := v7_6.toInt.toNat) (n := v3_4.toInt.toNat) (z := z28) (by omega) (by omega) (by omega)) e38
                          have ck39 : cs (BM h) (plM h) v3_4.toInt.toNat = Int32.toInt (-1) := cs_at (z := plM h + (v3_4.toInt.toNat : Int)) rfl rb29
                          rw [← ck39] at cy39
                          have nz39 : z38.toInt ≠ 0 := fun hz => by (have h9 := cy39.mp hz); rw [ck39] at h9; (have h8 := wlp v7_6.toInt.toNat v3_4.toInt.toNat); (have h7 := (show Int32.toInt (-1) = -1 from rfl)); omega
                          refine tz_ne (p2 := 108) rfl rfl rfl (fun c40 => ?_) (fun c40 => absurd c40 (by omega))
                          refine te_iconst (p2 := 116) (x := 0) rfl rfl (by decide) ?_
                          refine te_ior (p2 := 117) (z := v7_5) rfl rfl (Int32.or_zero) ?_
                          refine te_istore (p2 := 119) (lv2 := [(5, .int v7_5), (0, .ref 164), (1, .int first), (2, .int behind), (3, .int v3_3), (4, .int v3_4), (6, .int v7_6)]) rfl rfl (by decide) rfl ?_
                          refine ar_inc (p2 := 122) (x := v7_6) rfl rfl (by decide) rfl (by decide) rfl (by omega) (by omega) (fun z42 e42 f42 => ?_)
                          show EvP _ _ _ (122, [(6, .int z42), (5, .int v7_5), (0, .ref 164), (1, .int first), (2, .int behind), (3, .int v3_3), (4, .int v3_4)], [], h3) _
                          refine te_goto rfl ?_
                          refine te_lv [(0, .ref 164), (1, .int first), (2, .int behind), (3, .int v3_3), (4, .int v3_4), (5, .int v7_5), (6, .int z42)] rfl rfl ⟨rfl, rfl, rfl, rfl, rfl, rfl, rfl, trivial⟩ ?_
                          exact ih7 v7_5 z42 (by omega) (by omega) (by omega) (by omega) (by omega) (inJ_ne w3_0 w7_0 (show z42.toInt.toNat = v7_6.toInt.toNat + 1 by omega) (by omega) (by omega) (bi18.mp (by omega)) (by (have h9 := sz22); omega) (fun q => absurd (cy39.mpr q) (by omega))) (by omega)
                      · refine te_iload (p2 := 67) rfl rfl rfl ?_
                        refine te_iload_n (p2 := 68) rfl rfl rfl ?_
                        refine ar_sub (p2 := 69) rfl rfl rfl rfl (by omega) (by omega) (fun z43 e43 f43 => ?_)
                        exact te_iret rfl rfl ⟨I3, f3, _, rfl, Or.inl ⟨v7_6.toInt.toNat, v3_4.toInt.toNat, (by omega), (by omega), (by omega), wd_y w3_0 (by omega) (by omega) (bi18.mp (by omega)) (by (have h9 := sz22); omega), w3_1⟩⟩
              refine te_lv [(0, .ref 164), (1, .int first), (2, .int behind), (3, .int v3_3), (4, .int v3_4), (5, .int 0), (6, .int first)] rfl rfl ⟨rfl, rfl, rfl, rfl, rfl, rfl, rfl, trivial⟩ ?_
              exact lp7 13 0 first (by omega) (by omega) (by have cc0 := (show Int32.toInt 0 = 0 from rfl); omega) (by have cc0 := (show Int32.toInt 0 = 0 from rfl); omega) (by have cc0 := (show Int32.toInt 0 = 0 from rfl); omega) inJ_0 (by have cc0 := (show Int32.toInt 0 = 0 from rfl); omega)
        refine te_lv [(0, .ref 164), (1, .int first), (2, .int behind), (3, .int v1_3), (4, .int 0)] rfl rfl ⟨rfl, rfl, rfl, rfl, rfl, trivial⟩ ?_
        exact lp3 162 v1_3 0 y4 y5 h hI f0 (by decide) (by decide) e4 e5 (by omega) (by omega) (by omega) (by omega) (inO_0 (fun u u0 u1 => w1_0 u u0 (by omega)) (by omega)) (by show plM h = plM h + ((0 : Nat) : Int); omega) (by have cc0 := (show Int32.toInt 0 = 0 from rfl); omega)
      · refine te_iload_n (p2 := 12) rfl rfl rfl ?_
        refine te_iconst (p2 := 13) (x := 1) rfl rfl (by decide) ?_
        refine te_iload (p2 := 15) rfl rfl rfl ?_
        refine au_shl (p2 := 16) rfl rfl (fun z44 e44 => ?_)
        refine au_or (p2 := 17) rfl rfl (fun z45 e45 => ?_)
        refine te_istore_n (p2 := 18) (lv2 := [(3, .int z45), (0, .ref 164), (1, .int first), (2, .int behind), (4, .int v1_4)]) rfl rfl (by decide) rfl ?_
        refine ar_inc (p2 := 21) (x := v1_4) rfl rfl (by decide) rfl (by decide) rfl (by omega) (by omega) (fun z46 e46 f46 => ?_)
        show EvP _ _ _ (21, [(4, .int z46), (3, .int z45), (0, .ref 164), (1, .int first), (2, .int behind)], [], h) _
        refine te_goto rfl ?_
        refine te_lv [(0, .ref 164), (1, .int first), (2, .int behind), (3, .int z45), (4, .int z46)] rfl rfl ⟨rfl, rfl, rfl, rfl, rfl, trivial⟩ ?_
        exact ih1 z45 z46 (by omega) (by omega) (by omega) (by omega) (fun u u0 u1 => by (rw [← e45, ← e44, bt_or (by omega) (by omega) (by omega)]); (by_cases hc : u = v1_4.toInt.toNat); (· exact Or.inr hc); (· exact Or.inl (w1_0 u u0 (by omega)))) (by omega)
  refine te_lv [(0, .ref 164), (1, .int first), (2, .int behind), (3, .int 0), (4, .int first)] rfl rfl ⟨rfl, rfl, rfl, rfl, rfl, trivial⟩ ?_
  exact lp1 13 0 first (by omega) (by omega) (by have cc0 := (show Int32.toInt 0 = 0 from rfl); omega) (by have cc0 := (show Int32.toInt 0 = 0 from rfl); omega) (fun u u0 u1 => absurd u0 (by omega)) (by have cc0 := (show Int32.toInt 0 = 0 from rfl); omega)
theorem wdK_b (b : Nat → Int) : -1 ≤ (wdF KW b 0 0).1 ∧ (wdF KW b 0 0).1 ≤ 2 := by
  unfold KW
  repeat (unfold wdF; split; exact ⟨by decide, by decide⟩)
  show (-1 : Int) ≤ -1 ∧ (-1 : Int) ≤ 2
  decide
theorem nuF_b (b : Nat → Int) : -1 ≤ (nuF b).1 ∧ (nuF b).1 ≤ 999 := by
  unfold nuF
  (repeat' split) <;> simp only [] <;> omega
set_option maxRecDepth 20000 in
set_option maxHeartbeats 4000000 in
theorem c_X12_test {line : Int32} {gc : Int32} {h : im_H} (hI : tI h) (p_line0 : 0 ≤ line.toInt) (p_line1 : line.toInt ≤ 47) (hg0 : rd h 188 line.toInt.toNat = some (.int gc)) (ga0 : 0 ≤ gc.toInt) (gb0 : gc.toInt ≤ 2) (pr0 : tbl h) : CaP 3 138 [.ref 164, .int line] h (fun v h2 => tI h2 ∧ fr F_X12_test h h2 ∧ ∃ y : Int32, v = some (.int y) ∧ ((y = 1 ∧ tsO (BM h) (plM h)) ∨ (y = 0 ∧ ¬ tsO (BM h) (plM h))) ∧ plM h2 = tsP (BM h) (plM h) ∧ (y = 1 → tsM h2 (3 * line.toInt.toNat + gc.toInt.toNat) (BM h) (plM h) ∧ ∃ c : Int32, rd h2 188 line.toInt.toNat = some (.int c) ∧ c.toInt = gc.toInt + 1) ∧ (∀ m : Nat, m ≠ (3 * line.toInt.toNat + gc.toInt.toNat) → rd h2 189 m = rd h 189 m ∧ rd h2 190 m = rd h 190 m ∧ rd h2 191 m = rd h 191 m) ∧ (∀ m : Nat, m ≠ line.toInt.toNat → rd h2 188 m = rd h 188 m)) := by
  refine cap_of (d := 2) (M := mX12_test) rfl (Nat.le_of_ble_eq_true rfl) ?_
  show EvP im_K0 2 mX12_test (0, [(0, .ref 164), (1, .int line)], [], h) _
  have f0 : fr F_X12_test h h := fr_rf
  refine te_iconst (p2 := 1) (x := 3) rfl rfl (by decide) ?_
  refine te_iload_n (p2 := 2) rfl rfl rfl ?_
  refine ar_mul (p2 := 3) rfl rfl (show Int32.toInt 3 = 3 from rfl) rfl (by omega) (by omega) (fun z1 e1 f1 => ?_)
  refine te_aload_n (p2 := 4) rfl rfl rfl ?_
  refine tg_r (p2 := 7) (i := 148) (r := 204) rfl rfl hI rfl rfl rfl ?_
  refine te_iload_n (p2 := 8) rfl rfl rfl ?_
  refine tl_e (p2 := 9) (i := 188) (n := 48) (t := 0) (Or.inl rfl) rfl rfl hI rfl rfl (by omega) (by omega) hg0 ?_
  refine ar_add (p2 := 10) rfl rfl rfl rfl (by omega) (by omega) (fun z3 e3 f3 => ?_)
  refine te_istore_n (p2 := 11) (lv2 := [(2, .int z3), (0, .ref 164), (1, .int line)]) rfl rfl (by decide) rfl ?_
  refine te_aload_n (p2 := 12) rfl rfl rfl ?_
  refine tg_r (p2 := 15) (i := 148) (r := 205) rfl rfl hI rfl rfl rfl ?_
  refine te_iload_n (p2 := 16) rfl rfl rfl ?_
  refine te_aload_n (p2 := 17) rfl rfl rfl ?_
  refine te_iconst (p2 := 18) (x := 3) rfl rfl (by decide) ?_
  refine te_bipush (p2 := 20) (x := 11) rfl rfl (by decide) ?_
  refine tc_V (p2 := 23) (i := 148) rfl rfl rfl rfl hI rfl rfl rfl (c_X12_wordOf (first := 3) (behind := 11) hI (by decide) (by decide) (by decide) (by decide) (by decide) (tbl_fr pr0 f0 (fun _ => rfl) (fun _ => rfl))) (by decide) (fun v4 h4 hq4 => ?_)
  obtain ⟨I4, g4, y4, w4, Q4⟩ := hq4
  subst w4
  obtain ⟨Qa4, Qb4⟩ := wdU_F Q4
  clear Q4
  have f4 := fr_tr (F1 := F_X12_wordOf) (F := F_X12_test) f0 g4 (by decide)
  have yb4 := wdF_b (cs (BM h) (plM h))
  rw [← Qa4] at yb4
  show EvP _ _ _ (23, [(2, .int z3), (0, .ref 164), (1, .int line)], [.int y4, .int z3, .ref 205], h4) _
  refine ts_i (p2 := 24) (i := 189) (n := 144) rfl rfl I4 rfl rfl rfl rfl (by omega) (by omega) (by omega) (by omega) (by omega) rfl (fun h5 I5 u5 => ?_)
  have f5 := fr_st (F := F_X12_test) 2 f4 u5 rfl (by omega) (by omega)
  refine te_aload_n (p2 := 25) rfl rfl rfl ?_
  refine tg_r (p2 := 28) (i := 148) (r := 205) rfl rfl I5 rfl rfl rfl ?_
  refine te_iload_n (p2 := 29) rfl rfl rfl ?_
  refine tl_e (p2 := 30) (i := 189) (n := 144) (t := 0) (Or.inl rfl) rfl rfl I5 rfl rfl (by omega) (by omega) u5.1 ?_
  refine te_iconst (p2 := 31) (x := (-1)) rfl rfl (by decide) ?_
  refine tb_ne (p2 := 34) rfl rfl rfl (show Int32.toInt (-1) = (-1) from rfl) (fun c7 => ?_) (fun c7 => ?_)
  · refine te_aload_n (p2 := 37) rfl rfl rfl ?_
    refine tg_r (p2 := 40) (i := 148) (r := 206) rfl rfl I5 rfl rfl rfl ?_
    refine te_iload_n (p2 := 41) rfl rfl rfl ?_
    refine te_aload_n (p2 := 42) rfl rfl rfl ?_
    refine cV_pI (p2 := 45) (i := 148) rfl rfl rfl rfl I5 rfl rfl rfl (c_X12_byteHere I5) (by decide) (fun y8 r8 => ?_)
    obtain ⟨rb8, at8, tp8, ea8, et8, aa8, ab8, ta8, tb8, r8⟩ := r8
    rw [(BM_fr f5 rfl (fun _ => rfl)), ((plM_e (u5.2 _ _ (Or.inl (by decide)))).trans Qb4)] at rb8
    rcases r8 with r8 | r8
    · refine ts_i (p2 := 46) (i := 190) (n := 144) rfl rfl I5 rfl rfl rfl rfl (by omega) (by omega) (i32_lo _) (i32_hi _) (i32_ho _) rfl (fun h9 I9 u9 => ?_)
      have f9 := fr_st (F := F_X12_test) 3 f5 u9 rfl (by omega) (by omega)
      refine te_aload_n (p2 := 47) rfl rfl rfl ?_
      refine tg_r (p2 := 50) (i := 148) (r := 206) rfl rfl I9 rfl rfl rfl ?_
      refine te_iload_n (p2 := 51) rfl rfl rfl ?_
      refine tl_e (p2 := 52) (i := 190) (n := 144) (t := 0) (Or.inl rfl) rfl rfl I9 rfl rfl (by omega) (by omega) u9.1 ?_
      refine te_bipush (p2 := 54) (x := 60) rfl rfl (by decide) ?_
      refine tb_eq (p2 := 57) rfl rfl rfl (show Int32.toInt 60 = 60 from rfl) (fun c11 => ?_) (fun c11 => ?_)
      · refine te_aload_n (p2 := 82) rfl rfl rfl ?_
        refine te_dup (p2 := 83) rfl rfl rfl ?_
        refine tg_e (p2 := 86) (i := 148) (v := .int at8) rfl rfl I9 rfl rfl ((u9.2 _ _ (Or.inl (by decide))).trans ea8) ?_
        refine te_iconst (p2 := 87) (x := 1) rfl rfl (by decide) ?_
        refine ar_add (p2 := 88) rfl rfl rfl (show Int32.toInt 1 = 1 from rfl) (by omega) (by omega) (fun z12 e12 f12 => ?_)
        refine tp_i (p2 := 91) (i := 148) rfl rfl I9 rfl rfl (by decide) rfl rfl rfl (by omega) (by omega) (by omega) rfl (fun h13 I13 u13 => ?_)
        have f13 := fr_st (F := F_X12_test) 0 f9 u13 rfl (by decide) (by decide)
        have pa14 : plM h13 = plM h + ((wdF FW (cs (BM h) (plM h)) 0 0).2 : Int) + 1 := (plM_of u13.1).trans (show z12.toInt = plM h + ((wdF FW (cs (BM h) (plM h)) 0 0).2 : Int) + 1 from (by (have h9 := (plM_of ((u9.2 _ _ (Or.inl (by decide))).trans ea8)).symm.trans (show plM _ = plM h + ((wdF FW (cs (BM h) (plM h)) 0 0).2 : Int) from ((plM_e ((u9.2 _ _ (Or.inl (by decide))).trans (u5.2 _ _ (Or.inl (by decide))))).trans Qb4))); omega))
        refine te_aload_n (p2 := 92) rfl rfl rfl ?_
        refine tg_r (p2 := 95) (i := 148) (r := 207) rfl rfl I13 rfl rfl rfl ?_
        refine te_iload_n (p2 := 96) rfl rfl rfl ?_
        refine te_aload_n (p2 := 97) rfl rfl rfl ?_
        refine tc_V (p2 := 100) (i := 148) rfl rfl rfl rfl I13 rfl rfl rfl (c_X12_number  I13 ) (by decide) (fun v15 h15 hq15 => ?_)
        obtain ⟨I15, g15, y15, w15, Qa15, Qb15⟩ := hq15
        subst w15
        rw [(BM_fr f13 rfl (fun _ => rfl)), pa14] at Qa15 Qb15
        have f15 := fr_tr (F1 := F_X12_number) (F := F_X12_test) f13 g15 (by decide)
        have nb15 := nuF_b (cs (BM h) (plM h + ((wdF FW (cs (BM h) (plM h)) 0 0).2 : Int) + 1))
        rw [← Qa15] at nb15
        show EvP _ _ _ (100, [(2, .int z3), (0, .ref 164), (1, .int line)], [.int y15, .int z3, .ref 207], h15) _
        refine ts_i (p2 := 101) (i := 191) (n := 144) rfl rfl I15 rfl rfl rfl rfl (by omega) (by omega) (i32_lo _) (i32_hi _) (i32_ho _) rfl (fun h16 I16 u16 => ?_)
        have f16 := fr_st (F := F_X12_test) 4 f15 u16 rfl (by omega) (by omega)
        refine te_aload_n (p2 := 102) rfl rfl rfl ?_
        refine tg_r (p2 := 105) (i := 148) (r := 204) rfl rfl I16 rfl rfl rfl ?_
        refine te_iload_n (p2 := 106) rfl rfl rfl ?_
        refine te_dup2 (p2 := 107) rfl rfl ⟨rfl, rfl⟩ ?_
        refine tl_e (p2 := 108) (i := 188) (n := 48) (t := 0) (Or.inl rfl) rfl rfl I16 rfl rfl (by omega) (by omega) ((u16.2 _ _ (Or.inl (by decide))).trans ((g15 _ _ rfl).trans ((u13.2 _ _ (Or.inl (by decide))).trans ((u9.2 _ _ (Or.inl (by decide))).trans ((u5.2 _ _ (Or.inl (by decide))).trans ((g4 _ _ rfl).trans hg0)))))) ?_
        refine te_iconst (p2 := 109) (x := 1) rfl rfl (by decide) ?_
        refine ar_add (p2 := 110) rfl rfl rfl (show Int32.toInt 1 = 1 from rfl) (by omega) (by omega) (fun z18 e18 f18 => ?_)
        refine ts_i (p2 := 111) (i := 188) (n := 48) rfl rfl I16 rfl rfl rfl rfl (by omega) (by omega) (by omega) (by omega) (by omega) rfl (fun h19 I19 u19 => ?_)
        have f19 := fr_st (F := F_X12_test) 1 f16 u19 rfl (by omega) (by omega)
        refine te_aload_n (p2 := 112) rfl rfl rfl ?_
        refine tg_r (p2 := 115) (i := 148) (r := 207) rfl rfl I19 rfl rfl rfl ?_
        refine te_iload_n (p2 := 116) rfl rfl rfl ?_
        refine tl_e (p2 := 117) (i := 191) (n := 144) (t := 0) (Or.inl rfl) rfl rfl I19 rfl rfl (by omega) (by omega) ((u19.2 _ _ (Or.inl (by decide))).trans u16.1) ?_
        refine te_iconst (p2 := 118) (x := (-1)) rfl rfl (by decide) ?_
        refine tb_eq (p2 := 121) rfl rfl rfl (show Int32.toInt (-1) = (-1) from rfl) (fun c21 => ?_) (fun c21 => ?_)
        · refine te_iconst (p2 := 126) (x := 0) rfl rfl (by decide) ?_
          exact te_zret rfl rfl (by decide) ⟨I19, f19, _, rfl, Or.inr ⟨rfl, (fun q => by (have q0 := Qa4); (have m1 := (show Int32.toInt (-1) = -1 from rfl)); (have qb : ((BM h) (tsK (BM h) (plM h))).toInt = Int32.toInt y8 := congrArg Int32.toInt (show BM h (plM h + ((wdF FW (cs (BM h) (plM h)) 0 0).2 : Int)) = y8 from rb8.symm)); (have sn := sgF_nn (x := ((BM h) (tsK (BM h) (plM h))).toInt)); (have sn : 0 ≤ tsS (BM h) (plM h) ↔ _ := sn); rw [qb] at sn; (have q1 : _ = (tsN (BM h) (plM h)).1 := Qa15); (have h9 := q.2.2); omega)⟩, (by (have q0 := Qa4); (have m1 := (show Int32.toInt (-1) = -1 from rfl)); (have qb : ((BM h) (tsK (BM h) (plM h))).toInt = Int32.toInt y8 := congrArg Int32.toInt (show BM h (plM h + ((wdF FW (cs (BM h) (plM h)) 0 0).2 : Int)) = y8 from rb8.symm)); (have sn := sgF_nn (x := ((BM h) (tsK (BM h) (plM h))).toInt)); (have sn : 0 ≤ tsS (BM h) (plM h) ↔ _ := sn); rw [qb] at sn; (have q1 : _ = (tsN (BM h) (plM h)).1 := Qa15); unfold tsP; rw [if_pos ⟨by omega, sn.mpr (by omega)⟩, show plM h19 = _ from ((plM_e ((u19.2 _ _ (Or.inl (by decide))).trans (u16.2 _ _ (Or.inl (by decide))))).trans Qb15)]; rfl), (fun h9 => absurd h9 (by decide)), (fun m hm => ⟨((u19.2 _ _ (Or.inl (by decide))).trans ((u16.2 _ _ (Or.inl (by decide))).trans ((g15 _ _ rfl).trans ((u13.2 _ _ (Or.inl (by decide))).trans ((u9.2 _ _ (Or.inl (by decide))).trans ((u5.2 _ _ (Or.inr (by omega))).trans (g4 _ _ rfl))))))), ((u19.2 _ _ (Or.inl (by decide))).trans ((u16.2 _ _ (Or.inl (by decide))).trans ((g15 _ _ rfl).trans ((u13.2 _ _ (Or.inl (by decide))).trans ((u9.2 _ _ (Or.inr (by omega))).trans ((u5.2 _ _ (Or.inl (by decide))).trans (g4 _ _ rfl))))))), ((u19.2 _ _ (Or.inl (by decide))).trans ((u16.2 _ _ (Or.inr (by omega))).trans ((g15 _ _ rfl).trans ((u13.2 _ _ (Or.inl (by decide))).trans ((u9.2 _ _ (Or.inl (by decide))).trans ((u5.2 _ _ (Or.inl (by decide))).trans (g4 _ _ rfl)))))))⟩), (fun m hm => ((u19.2 _ _ (Or.inr (by omega))).trans ((u16.2 _ _ (Or.inl (by decide))).trans ((g15 _ _ rfl).trans ((u13.2 _ _ (Or.inl (by decide))).trans ((u9.2 _ _ (Or.inl (by decide))).trans ((u5.2 _ _ (Or.inl (by decide))).trans (g4 _ _ rfl))))))))⟩
        · refine te_iconst (p2 := 122) (x := 1) rfl rfl (by decide) ?_
          refine te_goto rfl ?_
          exact te_zret rfl rfl (by decide) ⟨I19, f19, _, rfl, Or.inl ⟨rfl, (show tsO (BM h) (plM h) from (by (have q0 := Qa4); (have m1 := (show Int32.toInt (-1) = -1 from rfl)); (have qb : ((BM h) (tsK (BM h) (plM h))).toInt = Int32.toInt y8 := congrArg Int32.toInt (show BM h (plM h + ((wdF FW (cs (BM h) (plM h)) 0 0).2 : Int)) = y8 from rb8.symm)); (have sn := sgF_nn (x := ((BM h) (tsK (BM h) (plM h))).toInt)); (have sn : 0 ≤ tsS (BM h) (plM h) ↔ _ := sn); rw [qb] at sn; (have q1 : _ = (tsN (BM h) (plM h)).1 := Qa15); exact ⟨by omega, sn.mpr (by omega), by omega⟩))⟩, (by (have q0 := Qa4); (have m1 := (show Int32.toInt (-1) = -1 from rfl)); (have qb : ((BM h) (tsK (BM h) (plM h))).toInt = Int32.toInt y8 := congrArg Int32.toInt (show BM h (plM h + ((wdF FW (cs (BM h) (plM h)) 0 0).2 : Int)) = y8 from rb8.symm)); (have sn := sgF_nn (x := ((BM h) (tsK (BM h) (plM h))).toInt)); (have sn : 0 ≤ tsS (BM h) (plM h) ↔ _ := sn); rw [qb] at sn; (have q1 : _ = (tsN (BM h) (plM h)).1 := Qa15); unfold tsP; rw [if_pos ⟨by omega, sn.mpr (by omega)⟩, show plM h19 = _ from ((plM_e ((u19.2 _ _ (Or.inl (by decide))).trans (u16.2 _ _ (Or.inl (by decide))))).trans Qb15)]; rfl), (fun _ => ⟨(by (have q0 := Qa4); (have m1 := (show Int32.toInt (-1) = -1 from rfl)); (have qb : ((BM h) (tsK (BM h) (plM h))).toInt = Int32.toInt y8 := congrArg Int32.toInt (show BM h (plM h + ((wdF FW (cs (BM h) (plM h)) 0 0).2 : Int)) = y8 from rb8.symm)); (have sn := sgF_nn (x := ((BM h) (tsK (BM h) (plM h))).toInt)); (have sn : 0 ≤ tsS (BM h) (plM h) ↔ _ := sn); rw [qb] at sn; (have q1 : _ = (tsN (BM h) (plM h)).1 := Qa15); rw [show (3 * line.toInt.toNat + gc.toInt.toNat) = z3.toInt.toNat by omega]; exact ⟨y4, y8, y15, ((u19.2 _ _ (Or.inl (by decide))).trans ((u16.2 _ _ (Or.inl (by decide))).trans ((g15 _ _ rfl).trans ((u13.2 _ _ (Or.inl (by decide))).trans ((u9.2 _ _ (Or.inl (by decide))).trans u5.1))))), q0, ((u19.2 _ _ (Or.inl (by decide))).trans ((u16.2 _ _ (Or.inl (by decide))).trans ((g15 _ _ rfl).trans ((u13.2 _ _ (Or.inl (by decide))).trans u9.1)))), (by rw [qb]), ((u19.2 _ _ (Or.inl (by decide))).trans u16.1), q1⟩), z18, u19.1, by omega⟩), (fun m hm => ⟨((u19.2 _ _ (Or.inl (by decide))).trans ((u16.2 _ _ (Or.inl (by decide))).trans ((g15 _ _ rfl).trans ((u13.2 _ _ (Or.inl (by decide))).trans ((u9.2 _ _ (Or.inl (by decide))).trans ((u5.2 _ _ (Or.inr (by omega))).trans (g4 _ _ rfl))))))), ((u19.2 _ _ (Or.inl (by decide))).trans ((u16.2 _ _ (Or.inl (by decide))).trans ((g15 _ _ rfl).trans ((u13.2 _ _ (Or.inl (by decide))).trans ((u9.2 _ _ (Or.inr (by omega))).trans ((u5.2 _ _ (Or.inl (by decide))).trans (g4 _ _ rfl))))))), ((u19.2 _ _ (Or.inl (by decide))).trans ((u16.2 _ _ (Or.inr (by omega))).trans ((g15 _ _ rfl).trans ((u13.2 _ _ (Or.inl (by decide))).trans ((u9.2 _ _ (Or.inl (by decide))).trans ((u5.2 _ _ (Or.inl (by decide))).trans (g4 _ _ rfl)))))))⟩), (fun m hm => ((u19.2 _ _ (Or.inr (by omega))).trans ((u16.2 _ _ (Or.inl (by decide))).trans ((g15 _ _ rfl).trans ((u13.2 _ _ (Or.inl (by decide))).trans ((u9.2 _ _ (Or.inl (by decide))).trans ((u5.2 _ _ (Or.inl (by decide))).trans (g4 _ _ rfl))))))))⟩
      · refine te_aload_n (p2 := 58) rfl rfl rfl ?_
        refine tg_r (p2 := 61) (i := 148) (r := 206) rfl rfl I9 rfl rfl rfl ?_
        refine te_iload_n (p2 := 62) rfl rfl rfl ?_
        refine tl_e (p2 := 63) (i := 190) (n := 144) (t := 0) (Or.inl rfl) rfl rfl I9 rfl rfl (by omega) (by omega) u9.1 ?_
        refine te_bipush (p2 := 65) (x := 62) rfl rfl (by decide) ?_
        refine tb_eq (p2 := 68) rfl rfl rfl (show Int32.toInt 62 = 62 from rfl) (fun c23 => ?_) (fun c23 => ?_)
        · refine te_aload_n (p2 := 82) rfl rfl rfl ?_
          refine te_dup (p2 := 83) rfl rfl rfl ?_
          refine tg_e (p2 := 86) (i := 148) (v := .int at8) rfl rfl I9 rfl rfl ((u9.2 _ _ (Or.inl (by decide))).trans ea8) ?_
          refine te_iconst (p2 := 87) (x := 1) rfl rfl (by decide) ?_
          refine ar_add (p2 := 88) rfl rfl rfl (show Int32.toInt 1 = 1 from rfl) (by omega) (by omega) (fun z24 e24 f24 => ?_)
          refine tp_i (p2 := 91) (i := 148) rfl rfl I9 rfl rfl (by decide) rfl rfl rfl (by omega) (by omega) (by omega) rfl (fun h25 I25 u25 => ?_)
          have f25 := fr_st (F := F_X12_test) 0 f9 u25 rfl (by decide) (by decide)
          have pa26 : plM h25 = plM h + ((wdF FW (cs (BM h) (plM h)) 0 0).2 : Int) + 1 := (plM_of u25.1).trans (show z24.toInt = plM h + ((wdF FW (cs (BM h) (plM h)) 0 0).2 : Int) + 1 from (by (have h9 := (plM_of ((u9.2 _ _ (Or.inl (by decide))).trans ea8)).symm.trans (show plM _ = plM h + ((wdF FW (cs (BM h) (plM h)) 0 0).2 : Int) from ((plM_e ((u9.2 _ _ (Or.inl (by decide))).trans (u5.2 _ _ (Or.inl (by decide))))).trans Qb4))); omega))
          refine te_aload_n (p2 := 92) rfl rfl rfl ?_
          refine tg_r (p2 := 95) (i := 148) (r := 207) rfl rfl I25 rfl rfl rfl ?_
          refine te_iload_n (p2 := 96) rfl rfl rfl ?_
          refine te_aload_n (p2 := 97) rfl rfl rfl ?_
          refine tc_V (p2 := 100) (i := 148) rfl rfl rfl rfl I25 rfl rfl rfl (c_X12_number  I25 ) (by decide) (fun v27 h27 hq27 => ?_)
          obtain ⟨I27, g27, y27, w27, Qa27, Qb27⟩ := hq27
          subst w27
          rw [(BM_fr f25 rfl (fun _ => rfl)), pa26] at Qa27 Qb27
          have f27 := fr_tr (F1 := F_X12_number) (F := F_X12_test) f25 g27 (by decide)
          have nb27 := nuF_b (cs (BM h) (plM h + ((wdF FW (cs (BM h) (plM h)) 0 0).2 : Int) + 1))
          rw [← Qa27] at nb27
          show EvP _ _ _ (100, [(2, .int z3), (0, .ref 164), (1, .int line)], [.int y27, .int z3, .ref 207], h27) _
          refine ts_i (p2 := 101) (i := 191) (n := 144) rfl rfl I27 rfl rfl rfl rfl (by omega) (by omega) (i32_lo _) (i32_hi _) (i32_ho _) rfl (fun h28 I28 u28 => ?_)
          have f28 := fr_st (F := F_X12_test) 4 f27 u28 rfl (by omega) (by omega)
          refine te_aload_n (p2 := 102) rfl rfl rfl ?_
          refine tg_r (p2 := 105) (i := 148) (r := 204) rfl rfl I28 rfl rfl rfl ?_
          refine te_iload_n (p2 := 106) rfl rfl rfl ?_
          refine te_dup2 (p2 := 107) rfl rfl ⟨rfl, rfl⟩ ?_
          refine tl_e (p2 := 108) (i := 188) (n := 48) (t := 0) (Or.inl rfl) rfl rfl I28 rfl rfl (by omega) (by omega) ((u28.2 _ _ (Or.inl (by decide))).trans ((g27 _ _ rfl).trans ((u25.2 _ _ (Or.inl (by decide))).trans ((u9.2 _ _ (Or.inl (by decide))).trans ((u5.2 _ _ (Or.inl (by decide))).trans ((g4 _ _ rfl).trans hg0)))))) ?_
          refine te_iconst (p2 := 109) (x := 1) rfl rfl (by decide) ?_
          refine ar_add (p2 := 110) rfl rfl rfl (show Int32.toInt 1 = 1 from rfl) (by omega) (by omega) (fun z30 e30 f30 => ?_)
          refine ts_i (p2 := 111) (i := 188) (n := 48) rfl rfl I28 rfl rfl rfl rfl (by omega) (by omega) (by omega) (by omega) (by omega) rfl (fun h31 I31 u31 => ?_)
          have f31 := fr_st (F := F_X12_test) 1 f28 u31 rfl (by omega) (by omega)
          refine te_aload_n (p2 := 112) rfl rfl rfl ?_
          refine tg_r (p2 := 115) (i := 148) (r := 207) rfl rfl I31 rfl rfl rfl ?_
          refine te_iload_n (p2 := 116) rfl rfl rfl ?_
          refine tl_e (p2 := 117) (i := 191) (n := 144) (t := 0) (Or.inl rfl) rfl rfl I31 rfl rfl (by omega) (by omega) ((u31.2 _ _ (Or.inl (by decide))).trans u28.1) ?_
          refine te_iconst (p2 := 118) (x := (-1)) rfl rfl (by decide) ?_
          refine tb_eq (p2 := 121) rfl rfl rfl (show Int32.toInt (-1) = (-1) from rfl) (fun c33 => ?_) (fun c33 => ?_)
          · refine te_iconst (p2 := 126) (x := 0) rfl rfl (by decide) ?_
            exact te_zret rfl rfl (by decide) ⟨I31, f31, _, rfl, Or.inr ⟨rfl, (fun q => by (have q0 := Qa4); (have m1 := (show Int32.toInt (-1) = -1 from rfl)); (have qb : ((BM h) (tsK (BM h) (plM h))).toInt = Int32.toInt y8 := congrArg Int32.toInt (show BM h (plM h + ((wdF FW (cs (BM h) (plM h)) 0 0).2 : Int)) = y8 from rb8.symm)); (have sn := sgF_nn (x := ((BM h) (tsK (BM h) (plM h))).toInt)); (have sn : 0 ≤ tsS (BM h) (plM h) ↔ _ := sn); rw [qb] at sn; (have q1 : _ = (tsN (BM h) (plM h)).1 := Qa27); (have h9 := q.2.2); omega)⟩, (by (have q0 := Qa4); (have m1 := (show Int32.toInt (-1) = -1 from rfl)); (have qb : ((BM h) (tsK (BM h) (plM h))).toInt = Int32.toInt y8 := congrArg Int32.toInt (show BM h (plM h + ((wdF FW (cs (BM h) (plM h)) 0 0).2 : Int)) = y8 from rb8.symm)); (have sn := sgF_nn (x := ((BM h) (tsK (BM h) (plM h))).toInt)); (have sn : 0 ≤ tsS (BM h) (plM h) ↔ _ := sn); rw [qb] at sn; (have q1 : _ = (tsN (BM h) (plM h)).1 := Qa27); unfold tsP; rw [if_pos ⟨by omega, sn.mpr (by omega)⟩, show plM h31 = _ from ((plM_e ((u31.2 _ _ (Or.inl (by decide))).trans (u28.2 _ _ (Or.inl (by decide))))).trans Qb27)]; rfl), (fun h9 => absurd h9 (by decide)), (fun m hm => ⟨((u31.2 _ _ (Or.inl (by decide))).trans ((u28.2 _ _ (Or.inl (by decide))).trans ((g27 _ _ rfl).trans ((u25.2 _ _ (Or.inl (by decide))).trans ((u9.2 _ _ (Or.inl (by decide))).trans ((u5.2 _ _ (Or.inr (by omega))).trans (g4 _ _ rfl))))))), ((u31.2 _ _ (Or.inl (by decide))).trans ((u28.2 _ _ (Or.inl (by decide))).trans ((g27 _ _ rfl).trans ((u25.2 _ _ (Or.inl (by decide))).trans ((u9.2 _ _ (Or.inr (by omega))).trans ((u5.2 _ _ (Or.inl (by decide))).trans (g4 _ _ rfl))))))), ((u31.2 _ _ (Or.inl (by decide))).trans ((u28.2 _ _ (Or.inr (by omega))).trans ((g27 _ _ rfl).trans ((u25.2 _ _ (Or.inl (by decide))).trans ((u9.2 _ _ (Or.inl (by decide))).trans ((u5.2 _ _ (Or.inl (by decide))).trans (g4 _ _ rfl)))))))⟩), (fun m hm => ((u31.2 _ _ (Or.inr (by omega))).trans ((u28.2 _ _ (Or.inl (by decide))).trans ((g27 _ _ rfl).trans ((u25.2 _ _ (Or.inl (by decide))).trans ((u9.2 _ _ (Or.inl (by decide))).trans ((u5.2 _ _ (Or.inl (by decide))).trans (g4 _ _ rfl))))))))⟩
          · refine te_iconst (p2 := 122) (x := 1) rfl rfl (by decide) ?_
            refine te_goto rfl ?_
            exact te_zret rfl rfl (by decide) ⟨I31, f31, _, rfl, Or.inl ⟨rfl, (show tsO (BM h) (plM h) from (by (have q0 := Qa4); (have m1 := (show Int32.toInt (-1) = -1 from rfl)); (have qb : ((BM h) (tsK (BM h) (plM h))).toInt = Int32.toInt y8 := congrArg Int32.toInt (show BM h (plM h + ((wdF FW (cs (BM h) (plM h)) 0 0).2 : Int)) = y8 from rb8.symm)); (have sn := sgF_nn (x := ((BM h) (tsK (BM h) (plM h))).toInt)); (have sn : 0 ≤ tsS (BM h) (plM h) ↔ _ := sn); rw [qb] at sn; (have q1 : _ = (tsN (BM h) (plM h)).1 := Qa27); exact ⟨by omega, sn.mpr (by omega), by omega⟩))⟩, (by (have q0 := Qa4); (have m1 := (show Int32.toInt (-1) = -1 from rfl)); (have qb : ((BM h) (tsK (BM h) (plM h))).toInt = Int32.toInt y8 := congrArg Int32.toInt (show BM h (plM h + ((wdF FW (cs (BM h) (plM h)) 0 0).2 : Int)) = y8 from rb8.symm)); (have sn := sgF_nn (x := ((BM h) (tsK (BM h) (plM h))).toInt)); (have sn : 0 ≤ tsS (BM h) (plM h) ↔ _ := sn); rw [qb] at sn; (have q1 : _ = (tsN (BM h) (plM h)).1 := Qa27); unfold tsP; rw [if_pos ⟨by omega, sn.mpr (by omega)⟩, show plM h31 = _ from ((plM_e ((u31.2 _ _ (Or.inl (by decide))).trans (u28.2 _ _ (Or.inl (by decide))))).trans Qb27)]; rfl), (fun _ => ⟨(by (have q0 := Qa4); (have m1 := (show Int32.toInt (-1) = -1 from rfl)); (have qb : ((BM h) (tsK (BM h) (plM h))).toInt = Int32.toInt y8 := congrArg Int32.toInt (show BM h (plM h + ((wdF FW (cs (BM h) (plM h)) 0 0).2 : Int)) = y8 from rb8.symm)); (have sn := sgF_nn (x := ((BM h) (tsK (BM h) (plM h))).toInt)); (have sn : 0 ≤ tsS (BM h) (plM h) ↔ _ := sn); rw [qb] at sn; (have q1 : _ = (tsN (BM h) (plM h)).1 := Qa27); rw [show (3 * line.toInt.toNat + gc.toInt.toNat) = z3.toInt.toNat by omega]; exact ⟨y4, y8, y27, ((u31.2 _ _ (Or.inl (by decide))).trans ((u28.2 _ _ (Or.inl (by decide))).trans ((g27 _ _ rfl).trans ((u25.2 _ _ (Or.inl (by decide))).trans ((u9.2 _ _ (Or.inl (by decide))).trans u5.1))))), q0, ((u31.2 _ _ (Or.inl (by decide))).trans ((u28.2 _ _ (Or.inl (by decide))).trans ((g27 _ _ rfl).trans ((u25.2 _ _ (Or.inl (by decide))).trans u9.1)))), (by rw [qb]), ((u31.2 _ _ (Or.inl (by decide))).trans u28.1), q1⟩), z30, u31.1, by omega⟩), (fun m hm => ⟨((u31.2 _ _ (Or.inl (by decide))).trans ((u28.2 _ _ (Or.inl (by decide))).trans ((g27 _ _ rfl).trans ((u25.2 _ _ (Or.inl (by decide))).trans ((u9.2 _ _ (Or.inl (by decide))).trans ((u5.2 _ _ (Or.inr (by omega))).trans (g4 _ _ rfl))))))), ((u31.2 _ _ (Or.inl (by decide))).trans ((u28.2 _ _ (Or.inl (by decide))).trans ((g27 _ _ rfl).trans ((u25.2 _ _ (Or.inl (by decide))).trans ((u9.2 _ _ (Or.inr (by omega))).trans ((u5.2 _ _ (Or.inl (by decide))).trans (g4 _ _ rfl))))))), ((u31.2 _ _ (Or.inl (by decide))).trans ((u28.2 _ _ (Or.inr (by omega))).trans ((g27 _ _ rfl).trans ((u25.2 _ _ (Or.inl (by decide))).trans ((u9.2 _ _ (Or.inl (by decide))).trans ((u5.2 _ _ (Or.inl (by decide))).trans (g4 _ _ rfl)))))))⟩), (fun m hm => ((u31.2 _ _ (Or.inr (by omega))).trans ((u28.2 _ _ (Or.inl (by decide))).trans ((g27 _ _ rfl).trans ((u25.2 _ _ (Or.inl (by decide))).trans ((u9.2 _ _ (Or.inl (by decide))).trans ((u5.2 _ _ (Or.inl (by decide))).trans (g4 _ _ rfl))))))))⟩
        · refine te_aload_n (p2 := 69) rfl rfl rfl ?_
          refine tg_r (p2 := 72) (i := 148) (r := 206) rfl rfl I9 rfl rfl rfl ?_
          refine te_iload_n (p2 := 73) rfl rfl rfl ?_
          refine tl_e (p2 := 74) (i := 190) (n := 144) (t := 0) (Or.inl rfl) rfl rfl I9 rfl rfl (by omega) (by omega) u9.1 ?_
          refine te_bipush (p2 := 76) (x := 61) rfl rfl (by decide) ?_
          refine tb_eq (p2 := 79) rfl rfl rfl (show Int32.toInt 61 = 61 from rfl) (fun c35 => ?_) (fun c35 => ?_)
          · refine te_aload_n (p2 := 82) rfl rfl rfl ?_
            refine te_dup (p2 := 83) rfl rfl rfl ?_
            refine tg_e (p2 := 86) (i := 148) (v := .int at8) rfl rfl I9 rfl rfl ((u9.2 _ _ (Or.inl (by decide))).trans ea8) ?_
            refine te_iconst (p2 := 87) (x := 1) rfl rfl (by decide) ?_
            refine ar_add (p2 := 88) rfl rfl rfl (show Int32.toInt 1 = 1 from rfl) (by omega) (by omega) (fun z36 e36 f36 => ?_)
            refine tp_i (p2 := 91) (i := 148) rfl rfl I9 rfl rfl (by decide) rfl rfl rfl (by omega) (by omega) (by omega) rfl (fun h37 I37 u37 => ?_)
            have f37 := fr_st (F := F_X12_test) 0 f9 u37 rfl (by decide) (by decide)
            have pa38 : plM h37 = plM h + ((wdF FW (cs (BM h) (plM h)) 0 0).2 : Int) + 1 := (plM_of u37.1).trans (show z36.toInt = plM h + ((wdF FW (cs (BM h) (plM h)) 0 0).2 : Int) + 1 from (by (have h9 := (plM_of ((u9.2 _ _ (Or.inl (by decide))).trans ea8)).symm.trans (show plM _ = plM h + ((wdF FW (cs (BM h) (plM h)) 0 0).2 : Int) from ((plM_e ((u9.2 _ _ (Or.inl (by decide))).trans (u5.2 _ _ (Or.inl (by decide))))).trans Qb4))); omega))
            refine te_aload_n (p2 := 92) rfl rfl rfl ?_
            refine tg_r (p2 := 95) (i := 148) (r := 207) rfl rfl I37 rfl rfl rfl ?_
            refine te_iload_n (p2 := 96) rfl rfl rfl ?_
            refine te_aload_n (p2 := 97) rfl rfl rfl ?_
            refine tc_V (p2 := 100) (i := 148) rfl rfl rfl rfl I37 rfl rfl rfl (c_X12_number  I37 ) (by decide) (fun v39 h39 hq39 => ?_)
            obtain ⟨I39, g39, y39, w39, Qa39, Qb39⟩ := hq39
            subst w39
            rw [(BM_fr f37 rfl (fun _ => rfl)), pa38] at Qa39 Qb39
            have f39 := fr_tr (F1 := F_X12_number) (F := F_X12_test) f37 g39 (by decide)
            have nb39 := nuF_b (cs (BM h) (plM h + ((wdF FW (cs (BM h) (plM h)) 0 0).2 : Int) + 1))
            rw [← Qa39] at nb39
            show EvP _ _ _ (100, [(2, .int z3), (0, .ref 164), (1, .int line)], [.int y39, .int z3, .ref 207], h39) _
            refine ts_i (p2 := 101) (i := 191) (n := 144) rfl rfl I39 rfl rfl rfl rfl (by omega) (by omega) (i32_lo _) (i32_hi _) (i32_ho _) rfl (fun h40 I40 u40 => ?_)
            have f40 := fr_st (F := F_X12_test) 4 f39 u40 rfl (by omega) (by omega)
            refine te_aload_n (p2 := 102) rfl rfl rfl ?_
            refine tg_r (p2 := 105) (i := 148) (r := 204) rfl rfl I40 rfl rfl rfl ?_
            refine te_iload_n (p2 := 106) rfl rfl rfl ?_
            refine te_dup2 (p2 := 107) rfl rfl ⟨rfl, rfl⟩ ?_
            refine tl_e (p2 := 108) (i := 188) (n := 48) (t := 0) (Or.inl rfl) rfl rfl I40 rfl rfl (by omega) (by omega) ((u40.2 _ _ (Or.inl (by decide))).trans ((g39 _ _ rfl).trans ((u37.2 _ _ (Or.inl (by decide))).trans ((u9.2 _ _ (Or.inl (by decide))).trans ((u5.2 _ _ (Or.inl (by decide))).trans ((g4 _ _ rfl).trans hg0)))))) ?_
            refine te_iconst (p2 := 109) (x := 1) rfl rfl (by decide) ?_
            refine ar_add (p2 := 110) rfl rfl rfl (show Int32.toInt 1 = 1 from rfl) (by omega) (by omega) (fun z42 e42 f42 => ?_)
            refine ts_i (p2 := 111) (i := 188) (n := 48) rfl rfl I40 rfl rfl rfl rfl (by omega) (by omega) (by omega) (by omega) (by omega) rfl (fun h43 I43 u43 => ?_)
            have f43 := fr_st (F := F_X12_test) 1 f40 u43 rfl (by omega) (by omega)
            refine te_aload_n (p2 := 112) rfl rfl rfl ?_
            refine tg_r (p2 := 115) (i := 148) (r := 207) rfl rfl I43 rfl rfl rfl ?_
            refine te_iload_n (p2 := 116) rfl rfl rfl ?_
            refine tl_e (p2 := 117) (i := 191) (n := 144) (t := 0) (Or.inl rfl) rfl rfl I43 rfl rfl (by omega) (by omega) ((u43.2 _ _ (Or.inl (by decide))).trans u40.1) ?_
            refine te_iconst (p2 := 118) (x := (-1)) rfl rfl (by decide) ?_
            refine tb_eq (p2 := 121) rfl rfl rfl (show Int32.toInt (-1) = (-1) from rfl) (fun c45 => ?_) (fun c45 => ?_)
            · refine te_iconst (p2 := 126) (x := 0) rfl rfl (by decide) ?_
              exact te_zret rfl rfl (by decide) ⟨I43, f43, _, rfl, Or.inr ⟨rfl, (fun q => by (have q0 := Qa4); (have m1 := (show Int32.toInt (-1) = -1 from rfl)); (have qb : ((BM h) (tsK (BM h) (plM h))).toInt = Int32.toInt y8 := congrArg Int32.toInt (show BM h (plM h + ((wdF FW (cs (BM h) (plM h)) 0 0).2 : Int)) = y8 from rb8.symm)); (have sn := sgF_nn (x := ((BM h) (tsK (BM h) (plM h))).toInt)); (have sn : 0 ≤ tsS (BM h) (plM h) ↔ _ := sn); rw [qb] at sn; (have q1 : _ = (tsN (BM h) (plM h)).1 := Qa39); (have h9 := q.2.2); omega)⟩, (by (have q0 := Qa4); (have m1 := (show Int32.toInt (-1) = -1 from rfl)); (have qb : ((BM h) (tsK (BM h) (plM h))).toInt = Int32.toInt y8 := congrArg Int32.toInt (show BM h (plM h + ((wdF FW (cs (BM h) (plM h)) 0 0).2 : Int)) = y8 from rb8.symm)); (have sn := sgF_nn (x := ((BM h) (tsK (BM h) (plM h))).toInt)); (have sn : 0 ≤ tsS (BM h) (plM h) ↔ _ := sn); rw [qb] at sn; (have q1 : _ = (tsN (BM h) (plM h)).1 := Qa39); unfold tsP; rw [if_pos ⟨by omega, sn.mpr (by omega)⟩, show plM h43 = _ from ((plM_e ((u43.2 _ _ (Or.inl (by decide))).trans (u40.2 _ _ (Or.inl (by decide))))).trans Qb39)]; rfl), (fun h9 => absurd h9 (by decide)), (fun m hm => ⟨((u43.2 _ _ (Or.inl (by decide))).trans ((u40.2 _ _ (Or.inl (by decide))).trans ((g39 _ _ rfl).trans ((u37.2 _ _ (Or.inl (by decide))).trans ((u9.2 _ _ (Or.inl (by decide))).trans ((u5.2 _ _ (Or.inr (by omega))).trans (g4 _ _ rfl))))))), ((u43.2 _ _ (Or.inl (by decide))).trans ((u40.2 _ _ (Or.inl (by decide))).trans ((g39 _ _ rfl).trans ((u37.2 _ _ (Or.inl (by decide))).trans ((u9.2 _ _ (Or.inr (by omega))).trans ((u5.2 _ _ (Or.inl (by decide))).trans (g4 _ _ rfl))))))), ((u43.2 _ _ (Or.inl (by decide))).trans ((u40.2 _ _ (Or.inr (by omega))).trans ((g39 _ _ rfl).trans ((u37.2 _ _ (Or.inl (by decide))).trans ((u9.2 _ _ (Or.inl (by decide))).trans ((u5.2 _ _ (Or.inl (by decide))).trans (g4 _ _ rfl)))))))⟩), (fun m hm => ((u43.2 _ _ (Or.inr (by omega))).trans ((u40.2 _ _ (Or.inl (by decide))).trans ((g39 _ _ rfl).trans ((u37.2 _ _ (Or.inl (by decide))).trans ((u9.2 _ _ (Or.inl (by decide))).trans ((u5.2 _ _ (Or.inl (by decide))).trans (g4 _ _ rfl))))))))⟩
            · refine te_iconst (p2 := 122) (x := 1) rfl rfl (by decide) ?_
              refine te_goto rfl ?_
              exact te_zret rfl rfl (by decide) ⟨I43, f43, _, rfl, Or.inl ⟨rfl, (show tsO (BM h) (plM h) from (by (have q0 := Qa4); (have m1 := (show Int32.toInt (-1) = -1 from rfl)); (have qb : ((BM h) (tsK (BM h) (plM h))).toInt = Int32.toInt y8 := congrArg Int32.toInt (show BM h (plM h + ((wdF FW (cs (BM h) (plM h)) 0 0).2 : Int)) = y8 from rb8.symm)); (have sn := sgF_nn (x := ((BM h) (tsK (BM h) (plM h))).toInt)); (have sn : 0 ≤ tsS (BM h) (plM h) ↔ _ := sn); rw [qb] at sn; (have q1 : _ = (tsN (BM h) (plM h)).1 := Qa39); exact ⟨by omega, sn.mpr (by omega), by omega⟩))⟩, (by (have q0 := Qa4); (have m1 := (show Int32.toInt (-1) = -1 from rfl)); (have qb : ((BM h) (tsK (BM h) (plM h))).toInt = Int32.toInt y8 := congrArg Int32.toInt (show BM h (plM h + ((wdF FW (cs (BM h) (plM h)) 0 0).2 : Int)) = y8 from rb8.symm)); (have sn := sgF_nn (x := ((BM h) (tsK (BM h) (plM h))).toInt)); (have sn : 0 ≤ tsS (BM h) (plM h) ↔ _ := sn); rw [qb] at sn; (have q1 : _ = (tsN (BM h) (plM h)).1 := Qa39); unfold tsP; rw [if_pos ⟨by omega, sn.mpr (by omega)⟩, show plM h43 = _ from ((plM_e ((u43.2 _ _ (Or.inl (by decide))).trans (u40.2 _ _ (Or.inl (by decide))))).trans Qb39)]; rfl), (fun _ => ⟨(by (have q0 := Qa4); (have m1 := (show Int32.toInt (-1) = -1 from rfl)); (have qb : ((BM h) (tsK (BM h) (plM h))).toInt = Int32.toInt y8 := congrArg Int32.toInt (show BM h (plM h + ((wdF FW (cs (BM h) (plM h)) 0 0).2 : Int)) = y8 from rb8.symm)); (have sn := sgF_nn (x := ((BM h) (tsK (BM h) (plM h))).toInt)); (have sn : 0 ≤ tsS (BM h) (plM h) ↔ _ := sn); rw [qb] at sn; (have q1 : _ = (tsN (BM h) (plM h)).1 := Qa39); rw [show (3 * line.toInt.toNat + gc.toInt.toNat) = z3.toInt.toNat by omega]; exact ⟨y4, y8, y39, ((u43.2 _ _ (Or.inl (by decide))).trans ((u40.2 _ _ (Or.inl (by decide))).trans ((g39 _ _ rfl).trans ((u37.2 _ _ (Or.inl (by decide))).trans ((u9.2 _ _ (Or.inl (by decide))).trans u5.1))))), q0, ((u43.2 _ _ (Or.inl (by decide))).trans ((u40.2 _ _ (Or.inl (by decide))).trans ((g39 _ _ rfl).trans ((u37.2 _ _ (Or.inl (by decide))).trans u9.1)))), (by rw [qb]), ((u43.2 _ _ (Or.inl (by decide))).trans u40.1), q1⟩), z42, u43.1, by omega⟩), (fun m hm => ⟨((u43.2 _ _ (Or.inl (by decide))).trans ((u40.2 _ _ (Or.inl (by decide))).trans ((g39 _ _ rfl).trans ((u37.2 _ _ (Or.inl (by decide))).trans ((u9.2 _ _ (Or.inl (by decide))).trans ((u5.2 _ _ (Or.inr (by omega))).trans (g4 _ _ rfl))))))), ((u43.2 _ _ (Or.inl (by decide))).trans ((u40.2 _ _ (Or.inl (by decide))).trans ((g39 _ _ rfl).trans ((u37.2 _ _ (Or.inl (by decide))).trans ((u9.2 _ _ (Or.inr (by omega))).trans ((u5.2 _ _ (Or.inl (by decide))).trans (g4 _ _ rfl))))))), ((u43.2 _ _ (Or.inl (by decide))).trans ((u40.2 _ _ (Or.inr (by omega))).trans ((g39 _ _ rfl).trans ((u37.2 _ _ (Or.inl (by decide))).trans ((u9.2 _ _ (Or.inl (by decide))).trans ((u5.2 _ _ (Or.inl (by decide))).trans (g4 _ _ rfl)))))))⟩), (fun m hm => ((u43.2 _ _ (Or.inr (by omega))).trans ((u40.2 _ _ (Or.inl (by decide))).trans ((g39 _ _ rfl).trans ((u37.2 _ _ (Or.inl (by decide))).trans ((u9.2 _ _ (Or.inl (by decide))).trans ((u5.2 _ _ (Or.inl (by decide))).trans (g4 _ _ rfl))))))))⟩
          · refine te_iconst (p2 := 80) (x := 0) rfl rfl (by decide) ?_
            exact te_zret rfl rfl (by decide) ⟨I9, f9, _, rfl, Or.inr ⟨rfl, (fun q => by (have q0 := Qa4); (have m1 := (show Int32.toInt (-1) = -1 from rfl)); (have qb : ((BM h) (tsK (BM h) (plM h))).toInt = Int32.toInt y8 := congrArg Int32.toInt (show BM h (plM h + ((wdF FW (cs (BM h) (plM h)) 0 0).2 : Int)) = y8 from rb8.symm)); (have sn := sgF_nn (x := ((BM h) (tsK (BM h) (plM h))).toInt)); (have sn : 0 ≤ tsS (BM h) (plM h) ↔ _ := sn); rw [qb] at sn; (have h9 := sn.mp q.2.1); omega)⟩, (by (have q0 := Qa4); (have m1 := (show Int32.toInt (-1) = -1 from rfl)); (have qb : ((BM h) (tsK (BM h) (plM h))).toInt = Int32.toInt y8 := congrArg Int32.toInt (show BM h (plM h + ((wdF FW (cs (BM h) (plM h)) 0 0).2 : Int)) = y8 from rb8.symm)); (have sn := sgF_nn (x := ((BM h) (tsK (BM h) (plM h))).toInt)); (have sn : 0 ≤ tsS (BM h) (plM h) ↔ _ := sn); rw [qb] at sn; unfold tsP; rw [if_neg (fun q => by (have h9 := sn.mp q.2); omega), show plM h9 = _ from ((plM_e ((u9.2 _ _ (Or.inl (by decide))).trans (u5.2 _ _ (Or.inl (by decide))))).trans Qb4)]; rfl), (fun h9 => absurd h9 (by decide)), (fun m hm => ⟨((u9.2 _ _ (Or.inl (by decide))).trans ((u5.2 _ _ (Or.inr (by omega))).trans (g4 _ _ rfl))), ((u9.2 _ _ (Or.inr (by omega))).trans ((u5.2 _ _ (Or.inl (by decide))).trans (g4 _ _ rfl))), ((u9.2 _ _ (Or.inl (by decide))).trans ((u5.2 _ _ (Or.inl (by decide))).trans (g4 _ _ rfl)))⟩), (fun m hm => ((u9.2 _ _ (Or.inl (by decide))).trans ((u5.2 _ _ (Or.inl (by decide))).trans (g4 _ _ rfl))))⟩
    · subst r8
      refine ts_i (p2 := 46) (i := 190) (n := 144) rfl rfl I5 rfl rfl rfl rfl (by omega) (by omega) (i32_lo _) (i32_hi _) (i32_ho _) rfl (fun h46 I46 u46 => ?_)
      have f46 := fr_st (F := F_X12_test) 3 f5 u46 rfl (by omega) (by omega)
      refine te_aload_n (p2 := 47) rfl rfl rfl ?_
      refine tg_r (p2 := 50) (i := 148) (r := 206) rfl rfl I46 rfl rfl rfl ?_
      refine te_iload_n (p2 := 51) rfl rfl rfl ?_
      refine tl_e (p2 := 52) (i := 190) (n := 144) (t := 0) (Or.inl rfl) rfl rfl I46 rfl rfl (by omega) (by omega) u46.1 ?_
      refine te_bipush (p2 := 54) (x := 60) rfl rfl (by decide) ?_
      refine tb_eq (p2 := 57) rfl rfl (show Int32.toInt (-1) = (-1) from rfl) (show Int32.toInt 60 = 60 from rfl) (fun c48 => absurd c48 (by omega)) (fun c48 => ?_)
      refine te_aload_n (p2 := 58) rfl rfl rfl ?_
      refine tg_r (p2 := 61) (i := 148) (r := 206) rfl rfl I46 rfl rfl rfl ?_
      refine te_iload_n (p2 := 62) rfl rfl rfl ?_
      refine tl_e (p2 := 63) (i := 190) (n := 144) (t := 0) (Or.inl rfl) rfl rfl I46 rfl rfl (by omega) (by omega) u46.1 ?_
      refine te_bipush (p2 := 65) (x := 62) rfl rfl (by decide) ?_
      refine tb_eq (p2 := 68) rfl rfl (show Int32.toInt (-1) = (-1) from rfl) (show Int32.toInt 62 = 62 from rfl) (fun c50 => absurd c50 (by omega)) (fun c50 => ?_)
      refine te_aload_n (p2 := 69) rfl rfl rfl ?_
      refine tg_r (p2 := 72) (i := 148) (r := 206) rfl rfl I46 rfl rfl rfl ?_
      refine te_iload_n (p2 := 73) rfl rfl rfl ?_
      refine tl_e (p2 := 74) (i := 190) (n := 144) (t := 0) (Or.inl rfl) rfl rfl I46 rfl rfl (by omega) (by omega) u46.1 ?_
      refine te_bipush (p2 := 76) (x := 61) rfl rfl (by decide) ?_
      refine tb_eq (p2 := 79) rfl rfl (show Int32.toInt (-1) = (-1) from rfl) (show Int32.toInt 61 = 61 from rfl) (fun c52 => absurd c52 (by omega)) (fun c52 => ?_)
      refine te_iconst (p2 := 80) (x := 0) rfl rfl (by decide) ?_
      exact te_zret rfl rfl (by decide) ⟨I46, f46, _, rfl, Or.inr ⟨rfl, (fun q => by (have q0 := Qa4); (have m1 := (show Int32.toInt (-1) = -1 from rfl)); (have qb : ((BM h) (tsK (BM h) (plM h))).toInt = Int32.toInt (-1) := congrArg Int32.toInt (show BM h (plM h + ((wdF FW (cs (BM h) (plM h)) 0 0).2 : Int)) = (-1) from rb8.symm)); (have sn := sgF_nn (x := ((BM h) (tsK (BM h) (plM h))).toInt)); (have sn : 0 ≤ tsS (BM h) (plM h) ↔ _ := sn); rw [qb] at sn; (have h9 := sn.mp q.2.1); omega)⟩, (by (have q0 := Qa4); (have m1 := (show Int32.toInt (-1) = -1 from rfl)); (have qb : ((BM h) (tsK (BM h) (plM h))).toInt = Int32.toInt (-1) := congrArg Int32.toInt (show BM h (plM h + ((wdF FW (cs (BM h) (plM h)) 0 0).2 : Int)) = (-1) from rb8.symm)); (have sn := sgF_nn (x := ((BM h) (tsK (BM h) (plM h))).toInt)); (have sn : 0 ≤ tsS (BM h) (plM h) ↔ _ := sn); rw [qb] at sn; unfold tsP; rw [if_neg (fun q => by (have h9 := sn.mp q.2); omega), show plM h46 = _ from ((plM_e ((u46.2 _ _ (Or.inl (by decide))).trans (u5.2 _ _ (Or.inl (by decide))))).trans Qb4)]; rfl), (fun h9 => absurd h9 (by decide)), (fun m hm => ⟨((u46.2 _ _ (Or.inl (by decide))).trans ((u5.2 _ _ (Or.inr (by omega))).trans (g4 _ _ rfl))), ((u46.2 _ _ (Or.inr (by omega))).trans ((u5.2 _ _ (Or.inl (by decide))).trans (g4 _ _ rfl))), ((u46.2 _ _ (Or.inl (by decide))).trans ((u5.2 _ _ (Or.inl (by decide))).trans (g4 _ _ rfl)))⟩), (fun m hm => ((u46.2 _ _ (Or.inl (by decide))).trans ((u5.2 _ _ (Or.inl (by decide))).trans (g4 _ _ rfl))))⟩
  · refine te_iconst (p2 := 35) (x := 0) rfl rfl (by decide) ?_
    exact te_zret rfl rfl (by decide) ⟨I5, f5, _, rfl, Or.inr ⟨rfl, (fun q => by (have q0 := Qa4); (have m1 := (show Int32.toInt (-1) = -1 from rfl)); (have h9 := q.1); omega)⟩, (by (have q0 := Qa4); (have m1 := (show Int32.toInt (-1) = -1 from rfl)); unfold tsP; rw [if_neg (fun q => by (have h9 := q.1); omega), show plM h5 = _ from ((plM_e (u5.2 _ _ (Or.inl (by decide)))).trans Qb4)]; rfl), (fun h9 => absurd h9 (by decide)), (fun m hm => ⟨((u5.2 _ _ (Or.inr (by omega))).trans (g4 _ _ rfl)), ((u5.2 _ _ (Or.inl (by decide))).trans (g4 _ _ rfl)), ((u5.2 _ _ (Or.inl (by decide))).trans (g4 _ _ rfl))⟩), (fun m hm => ((u5.2 _ _ (Or.inl (by decide))).trans (g4 _ _ rfl)))⟩
theorem lcpI0 {c : Nat → Int} (h : c 0 ≠ 32) : lcp IW c 0 = 0 := lcp_n h
set_option maxRecDepth 20000 in
set_option maxHeartbeats 4000000 in
theorem c_X12_line {line : Int32} {h : im_H} (hI : tI h) (p_line0 : 0 ≤ line.toInt) (p_line1 : line.toInt ≤ 47) (pr0 : tbl h) : CaP 4 139 [.ref 164, .int line] h (fun v h2 => tI h2 ∧ fr F_X12_line h h2 ∧ ∃ y : Int32, v = some (.int y) ∧ ((y = 1 ∧ 0 ≤ (lnR (BM h) (plM h)).1) ∨ (y = 0 ∧ (lnR (BM h) (plM h)).1 < 0)) ∧ plM h2 = (lnR (BM h) (plM h)).2 ∧ (y = 1 → lnM h2 line.toInt.toNat (BM h) (plM h) ∧ plM h2 ≤ (rv h 148 45).toInt) ∧ (∀ m : Nat, m ≠ line.toInt.toNat → rd h2 186 m = rd h 186 m ∧ rd h2 187 m = rd h 187 m ∧ rd h2 188 m = rd h 188 m) ∧ (∀ m : Nat, ¬ (3 * line.toInt.toNat ≤ m ∧ m < 3 * line.toInt.toNat + 3) → rd h2 189 m = rd h 189 m ∧ rd h2 190 m = rd h 190 m ∧ rd h2 191 m = rd h 191 m)) := by
  refine cap_of (d := 3) (M := mX12_line) rfl (Nat.le_of_ble_eq_true rfl) ?_
  show EvP im_K0 3 mX12_line (0, [(0, .ref 164), (1, .int line)], [], h) _
  have f0 : fr F_X12_line h h := fr_rf
  refine te_aload_n (p2 := 1) rfl rfl rfl ?_
  refine tg_r (p2 := 4) (i := 148) (r := 204) rfl rfl hI rfl rfl rfl ?_
  refine te_iload_n (p2 := 5) rfl rfl rfl ?_
  refine te_iconst (p2 := 6) (x := 0) rfl rfl (by decide) ?_
  refine ts_i (p2 := 7) (i := 188) (n := 48) rfl rfl hI rfl rfl rfl rfl (by omega) (by omega) (by decide) (by decide) (by decide) rfl (fun h1 I1 u1 => ?_)
  have f1 := fr_st (F := F_X12_line) 3 f0 u1 rfl (by omega) (by omega)
  refine te_aload_n (p2 := 8) rfl rfl rfl ?_
  refine tg_r (p2 := 11) (i := 148) (r := 202) rfl rfl I1 rfl rfl rfl ?_
  refine te_iload_n (p2 := 12) rfl rfl rfl ?_
  refine te_aload_n (p2 := 13) rfl rfl rfl ?_
  refine te_iconst (p2 := 14) (x := 0) rfl rfl (by decide) ?_
  refine te_iconst (p2 := 15) (x := 3) rfl rfl (by decide) ?_
  refine tc_V (p2 := 18) (i := 148) rfl rfl rfl rfl I1 rfl rfl rfl (c_X12_wordOf (first := 0) (behind := 3) I1 (by decide) (by decide) (by decide) (by decide) (by decide) (tbl_fr pr0 f1 (fun _ => rfl) (fun _ => rfl))) (by decide) (fun v2 h2 hq2 => ?_)
  obtain ⟨I2, g2, y2, w2, Q2⟩ := hq2
  subst w2
  rw [(BM_fr f1 rfl (fun _ => rfl)), (plM_e (u1.2 _ _ (Or.inl (by decide))))] at Q2
  obtain ⟨Qa2, Qb2⟩ := wdU_K Q2
  clear Q2
  have f2 := fr_tr (F1 := F_X12_wordOf) (F := F_X12_line) f1 g2 (by decide)
  have yb2 := wdK_b (cs (BM h) (plM h))
  rw [← Qa2] at yb2
  show EvP _ _ _ (18, [(0, .ref 164), (1, .int line)], [.int y2, .int line, .ref 202], h2) _
  refine ts_i (p2 := 19) (i := 186) (n := 48) rfl rfl I2 rfl rfl rfl rfl (by omega) (by omega) (i32_lo _) (i32_hi _) (i32_ho _) rfl (fun h3 I3 u3 => ?_)
  have f3 := fr_st (F := F_X12_line) 1 f2 u3 rfl (by omega) (by omega)
  refine te_aload_n (p2 := 20) rfl rfl rfl ?_
  refine tg_r (p2 := 23) (i := 148) (r := 202) rfl rfl I3 rfl rfl rfl ?_
  refine te_iload_n (p2 := 24) rfl rfl rfl ?_
  refine tl_e (p2 := 25) (i := 186) (n := 48) (t := 0) (Or.inl rfl) rfl rfl I3 rfl rfl (by omega) (by omega) u3.1 ?_
  refine te_iconst (p2 := 26) (x := (-1)) rfl rfl (by decide) ?_
  refine tb_eq (p2 := 29) rfl rfl rfl (show Int32.toInt (-1) = (-1) from rfl) (fun c5 => ?_) (fun c5 => ?_)
  · refine te_iconst (p2 := 39) (x := 0) rfl rfl (by decide) ?_
    exact te_zret rfl rfl (by decide) ⟨I3, f3, _, rfl, Or.inr ⟨rfl, (by rw [(show lnR (BM h) (plM h) = (-1, plM h + ((wdF KW (cs (BM h) (plM h)) 0 0).2 : Int)) from (by (have m1 := (show Int32.toInt (-1) = -1 from rfl)); (have q0 := Qa2); unfold lnR; rw [if_pos (fun q => by (have h9 := q.1); omega)]; try rfl))]; show (-1 : Int) < 0; decide)⟩, (by rw [(show lnR (BM h) (plM h) = (-1, plM h + ((wdF KW (cs (BM h) (plM h)) 0 0).2 : Int)) from (by (have m1 := (show Int32.toInt (-1) = -1 from rfl)); (have q0 := Qa2); unfold lnR; rw [if_pos (fun q => by (have h9 := q.1); omega)]; try rfl)), show plM h3 = _ from ((plM_e (u3.2 _ _ (Or.inl (by decide)))).trans Qb2)]), (fun h9 => absurd h9 (by decide)), (fun m hm => ⟨((u3.2 _ _ (Or.inr (by omega))).trans ((g2 _ _ rfl).trans (u1.2 _ _ (Or.inl (by decide))))), ((u3.2 _ _ (Or.inl (by decide))).trans ((g2 _ _ rfl).trans (u1.2 _ _ (Or.inl (by decide))))), ((u3.2 _ _ (Or.inl (by decide))).trans ((g2 _ _ rfl).trans (u1.2 _ _ (Or.inr (by omega)))))⟩), (fun m hm => ⟨((u3.2 _ _ (Or.inl (by decide))).trans ((g2 _ _ rfl).trans (u1.2 _ _ (Or.inl (by decide))))), ((u3.2 _ _ (Or.inl (by decide))).trans ((g2 _ _ rfl).trans (u1.2 _ _ (Or.inl (by decide))))), ((u3.2 _ _ (Or.inl (by decide))).trans ((g2 _ _ rfl).trans (u1.2 _ _ (Or.inl (by decide)))))⟩)⟩
  · refine te_aload_n (p2 := 30) rfl rfl rfl ?_
    refine cV_pI (p2 := 33) (i := 148) rfl rfl rfl rfl I3 rfl rfl rfl (c_X12_byteHere I3) (by decide) (fun y6 r6 => ?_)
    obtain ⟨rb6, at6, tp6, ea6, et6, aa6, ab6, ta6, tb6, r6⟩ := r6
    rw [(BM_fr f3 rfl (fun _ => rfl)), ((plM_e (u3.2 _ _ (Or.inl (by decide)))).trans Qb2)] at rb6
    rcases r6 with r6 | r6
    · refine te_bipush (p2 := 35) (x := 32) rfl rfl (by decide) ?_
      refine tb_eq (p2 := 38) rfl rfl rfl (show Int32.toInt 32 = 32 from rfl) (fun c7 => ?_) (fun c7 => ?_)
      · refine te_aload_n (p2 := 41) rfl rfl rfl ?_
        refine te_dup (p2 := 42) rfl rfl rfl ?_
        refine tg_e (p2 := 45) (i := 148) (v := .int at6) rfl rfl I3 rfl rfl ea6 ?_
        refine te_iconst (p2 := 46) (x := 1) rfl rfl (by decide) ?_
        refine ar_add (p2 := 47) rfl rfl rfl (show Int32.toInt 1 = 1 from rfl) (by omega) (by omega) (fun z8 e8 f8 => ?_)
        refine tp_i (p2 := 50) (i := 148) rfl rfl I3 rfl rfl (by decide) rfl rfl rfl (by omega) (by omega) (by omega) rfl (fun h9 I9 u9 => ?_)
        have f9 := fr_st (F := F_X12_line) 0 f3 u9 rfl (by decide) (by decide)
        have pa10 : plM h9 = plM h + ((wdF KW (cs (BM h) (plM h)) 0 0).2 : Int) + 1 := (plM_of u9.1).trans (show z8.toInt = plM h + ((wdF KW (cs (BM h) (plM h)) 0 0).2 : Int) + 1 from (by (have h9 := (plM_of ea6).symm.trans (show plM _ = plM h + ((wdF KW (cs (BM h) (plM h)) 0 0).2 : Int) from ((plM_e (u3.2 _ _ (Or.inl (by decide)))).trans Qb2))); omega))
        refine te_aload_n (p2 := 51) rfl rfl rfl ?_
        refine tg_r (p2 := 54) (i := 148) (r := 203) rfl rfl I9 rfl rfl rfl ?_
        refine te_iload_n (p2 := 55) rfl rfl rfl ?_
        refine te_aload_n (p2 := 56) rfl rfl rfl ?_
        refine tc_V (p2 := 59) (i := 148) rfl rfl rfl rfl I9 rfl rfl rfl (c_X12_number  I9 ) (by decide) (fun v11 h11 hq11 => ?_)
        obtain ⟨I11, g11, y11, w11, Qa11, Qb11⟩ := hq11
        subst w11
        rw [(BM_fr f9 rfl (fun _ => rfl)), pa10] at Qa11 Qb11
        have f11 := fr_tr (F1 := F_X12_number) (F := F_X12_line) f9 g11 (by decide)
        have nb11 := nuF_b (cs (BM h) (plM h + ((wdF KW (cs (BM h) (plM h)) 0 0).2 : Int) + 1))
        rw [← Qa11] at nb11
        show EvP _ _ _ (59, [(0, .ref 164), (1, .int line)], [.int y11, .int line, .ref 203], h11) _
        refine ts_i (p2 := 60) (i := 187) (n := 48) rfl rfl I11 rfl rfl rfl rfl (by omega) (by omega) (i32_lo _) (i32_hi _) (i32_ho _) rfl (fun h12 I12 u12 => ?_)
        have f12 := fr_st (F := F_X12_line) 2 f11 u12 rfl (by omega) (by omega)
        refine te_aload_n (p2 := 61) rfl rfl rfl ?_
        refine tg_r (p2 := 64) (i := 148) (r := 203) rfl rfl I12 rfl rfl rfl ?_
        refine te_iload_n (p2 := 65) rfl rfl rfl ?_
        refine tl_e (p2 := 66) (i := 187) (n := 48) (t := 0) (Or.inl rfl) rfl rfl I12 rfl rfl (by omega) (by omega) u12.1 ?_
        refine te_iconst (p2 := 67) (x := (-1)) rfl rfl (by decide) ?_
        refine tb_ne (p2 := 70) rfl rfl rfl (show Int32.toInt (-1) = (-1) from rfl) (fun c14 => ?_) (fun c14 => ?_)
        · refine te_aload_n (p2 := 73) rfl rfl rfl ?_
          refine cV_pI (p2 := 76) (i := 148) rfl rfl rfl rfl I12 rfl rfl rfl (c_X12_byteHere I12) (by decide) (fun y15 r15 => ?_)
          obtain ⟨rb15, at15, tp15, ea15, et15, aa15, ab15, ta15, tb15, r15⟩ := r15
          rw [(BM_fr f12 rfl (fun _ => rfl)), ((plM_e (u12.2 _ _ (Or.inl (by decide)))).trans Qb11)] at rb15
          have xtp15 : tp15 = tp6 := int_inj et15 ((u12.2 _ _ (Or.inl (by decide))).trans ((g11 _ _ (by decide)).trans ((u9.2 _ _ (Or.inr (by decide))).trans et6)))
          rw [xtp15] at r15
          rcases r15 with r15 | r15
          · refine te_bipush (p2 := 78) (x := 32) rfl rfl (by decide) ?_
            refine tb_ne (p2 := 81) rfl rfl rfl (show Int32.toInt 32 = 32 from rfl) (fun c16 => ?_) (fun c16 => ?_)
            · refine te_aload_n (p2 := 143) rfl rfl rfl ?_
              refine cV_pI (p2 := 146) (i := 148) rfl rfl rfl rfl I12 rfl rfl rfl (c_X12_byteHere I12) (by decide) (fun y17 r17 => ?_)
              obtain ⟨rb17, at17, tp17, ea17, et17, aa17, ab17, ta17, tb17, r17⟩ := r17
              rw [(BM_fr f12 rfl (fun _ => rfl)), ((plM_e (u12.2 _ _ (Or.inl (by decide)))).trans Qb11)] at rb17
              have xat17 : at17 = at15 := int_inj ea17 ea15
              rw [xat17] at r17
              have xtp17 : tp17 = tp6 := int_inj et17 ((u12.2 _ _ (Or.inl (by decide))).trans ((g11 _ _ (by decide)).trans ((u9.2 _ _ (Or.inr (by decide))).trans et6)))
              rw [xtp17] at r17
              have ye17 : y17 = y15 := rb17.trans rb15.symm
              rw [ye17]
              show EvP _ _ _ (146, [(0, .ref 164), (1, .int line)], [.int y15], h12) _
              refine te_bipush (p2 := 148) (x := 59) rfl rfl (by decide) ?_
              refine tb_eq (p2 := 151) rfl rfl rfl (show Int32.toInt 59 = 59 from rfl) (fun c18 => ?_) (fun c18 => ?_)
              · refine te_aload_n (p2 := 154) rfl rfl rfl ?_
                refine te_dup (p2 := 155) rfl rfl rfl ?_
                refine tg_e (p2 := 158) (i := 148) (v := .int at15) rfl rfl I12 rfl rfl ea15 ?_
                refine te_iconst (p2 := 159) (x := 1) rfl rfl (by decide) ?_
                refine ar_add (p2 := 160) rfl rfl rfl (show Int32.toInt 1 = 1 from rfl) (by omega) (by omega) (fun z19 e19 f19 => ?_)
                refine tp_i (p2 := 163) (i := 148) rfl rfl I12 rfl rfl (by decide) rfl rfl rfl (by omega) (by omega) (by omega) rfl (fun h20 I20 u20 => ?_)
                have f20 := fr_st (F := F_X12_line) 0 f12 u20 rfl (by decide) (by decide)
                have pa21 : plM h20 = plM h + ((wdF KW (cs (BM h) (plM h)) 0 0).2 : Int) + 1 + ((nuF (cs (BM h) (plM h + ((wdF KW (cs (BM h) (plM h)) 0 0).2 : Int) + 1))).2 : Int) + 1 := (plM_of u20.1).trans (show z19.toInt = plM h + ((wdF KW (cs (BM h) (plM h)) 0 0).2 : Int) + 1 + ((nuF (cs (BM h) (plM h + ((wdF KW (cs (BM h) (plM h)) 0 0).2 : Int) + 1))).2 : Int) + 1 from (by (have h9 := (plM_of ea15).symm.trans (show plM _ = plM h + ((wdF KW (cs (BM h) (plM h)) 0 0).2 : Int) + 1 + ((nuF (cs (BM h) (plM h + ((wdF KW (cs (BM h) (plM h)) 0 0).2 : Int) + 1))).2 : Int) from ((plM_e (u12.2 _ _ (Or.inl (by decide)))).trans Qb11))); omega))
                refine te_iconst (p2 := 164) (x := 1) rfl rfl (by decide) ?_
                exact te_zret rfl rfl (by decide) ⟨I20, f20, _, rfl, Or.inl ⟨rfl, (by rw [(show lnR (BM h) (plM h) = (0, plM h + ((wdF KW (cs (BM h) (plM h)) 0 0).2 : Int) + 1 + ((nuF (cs (BM h) (plM h + ((wdF KW (cs (BM h) (plM h)) 0 0).2 : Int) + 1))).2 : Int) + 1) from (by (have m1 := (show Int32.toInt (-1) = -1 from rfl)); (have q0 := Qa2); (have b0 : (BM h (plM h + ((wdF KW (cs (BM h) (plM h)) 0 0).2 : Int))).toInt = Int32.toInt y6 := congrArg Int32.toInt rb6.symm); (have b1 : (BM h (plM h + ((wdF KW (cs (BM h) (plM h)) 0 0).2 : Int) + 1 + ((nuF (cs (BM h) (plM h + ((wdF KW (cs (BM h) (plM h)) 0 0).2 : Int) + 1))).2 : Int))).toInt = Int32.toInt y15 := congrArg Int32.toInt rb15.symm); (have q1 : _ = (lnN (BM h) (plM h)).1 := Qa11); unfold lnR; rw [if_neg (fun q => q (show lnH (BM h) (plM h) from ⟨by omega, (show (BM h (plM h + ((wdF KW (cs (BM h) (plM h)) 0 0).2 : Int))).toInt = 32 by omega)⟩)), if_neg (show ¬ (lnN (BM h) (plM h)).1 < 0 by omega), if_pos (show sc (BM h) (lnE (BM h) (plM h)) from (show (BM h (plM h + ((wdF KW (cs (BM h) (plM h)) 0 0).2 : Int) + 1 + ((nuF (cs (BM h) (plM h + ((wdF KW (cs (BM h) (plM h)) 0 0).2 : Int) + 1))).2 : Int))).toInt = 59 by omega))]; try rfl))]; show (0 : Int) ≤ 0; decide)⟩, (by rw [(show lnR (BM h) (plM h) = (0, plM h + ((wdF KW (cs (BM h) (plM h)) 0 0).2 : Int) + 1 + ((nuF (cs (BM h) (plM h + ((wdF KW (cs (BM h) (plM h)) 0 0).2 : Int) + 1))).2 : Int) + 1) from (by (have m1 := (show Int32.toInt (-1) = -1 from rfl)); (have q0 := Qa2); (have b0 : (BM h (plM h + ((wdF KW (cs (BM h) (plM h)) 0 0).2 : Int))).toInt = Int32.toInt y6 := congrArg Int32.toInt rb6.symm); (have b1 : (BM h (plM h + ((wdF KW (cs (BM h) (plM h)) 0 0).2 : Int) + 1 + ((nuF (cs (BM h) (plM h + ((wdF KW (cs (BM h) (plM h)) 0 0).2 : Int) + 1))).2 : Int))).toInt = Int32.toInt y15 := congrArg Int32.toInt rb15.symm); (have q1 : _ = (lnN (BM h) (plM h)).1 := Qa11); unfold lnR; rw [if_neg (fun q => q (show lnH (BM h) (plM h) from ⟨by omega, (show (BM h (plM h + ((wdF KW (cs (BM h) (plM h)) 0 0).2 : Int))).toInt = 32 by omega)⟩)), if_neg (show ¬ (lnN (BM h) (plM h)).1 < 0 by omega), if_pos (show sc (BM h) (lnE (BM h) (plM h)) from (show (BM h (plM h + ((wdF KW (cs (BM h) (plM h)) 0 0).2 : Int) + 1 + ((nuF (cs (BM h) (plM h + ((wdF KW (cs (BM h) (plM h)) 0 0).2 : Int) + 1))).2 : Int))).toInt = 59 by omega))]; try rfl)), show plM h20 = _ from pa21]), (fun _ => ⟨(by (have m1 := (show Int32.toInt (-1) = -1 from rfl)); (have q0 := Qa2); (have b0 : (BM h (plM h + ((wdF KW (cs (BM h) (plM h)) 0 0).2 : Int))).toInt = Int32.toInt y6 := congrArg Int32.toInt rb6.symm); (have b1 : (BM h (plM h + ((wdF KW (cs (BM h) (plM h)) 0 0).2 : Int) + 1 + ((nuF (cs (BM h) (plM h + ((wdF KW (cs (BM h) (plM h)) 0 0).2 : Int) + 1))).2 : Int))).toInt = Int32.toInt y15 := congrArg Int32.toInt rb15.symm); (have q1 : _ = (lnN (BM h) (plM h)).1 := Qa11); exact ⟨_, _, 0, ((u20.2 _ _ (Or.inl (by decide))).trans ((u12.2 _ _ (Or.inl (by decide))).trans ((g11 _ _ rfl).trans ((u9.2 _ _ (Or.inl (by decide))).trans u3.1)))), q0, ((u20.2 _ _ (Or.inl (by decide))).trans u12.1), q1, ((u20.2 _ _ (Or.inl (by decide))).trans ((u12.2 _ _ (Or.inl (by decide))).trans ((g11 _ _ rfl).trans ((u9.2 _ _ (Or.inl (by decide))).trans ((u3.2 _ _ (Or.inl (by decide))).trans ((g2 _ _ rfl).trans u1.1)))))), (by rw [(show lnR (BM h) (plM h) = (0, plM h + ((wdF KW (cs (BM h) (plM h)) 0 0).2 : Int) + 1 + ((nuF (cs (BM h) (plM h + ((wdF KW (cs (BM h) (plM h)) 0 0).2 : Int) + 1))).2 : Int) + 1) from (by (have m1 := (show Int32.toInt (-1) = -1 from rfl)); (have q0 := Qa2); (have b0 : (BM h (plM h + ((wdF KW (cs (BM h) (plM h)) 0 0).2 : Int))).toInt = Int32.toInt y6 := congrArg Int32.toInt rb6.symm); (have b1 : (BM h (plM h + ((wdF KW (cs (BM h) (plM h)) 0 0).2 : Int) + 1 + ((nuF (cs (BM h) (plM h + ((wdF KW (cs (BM h) (plM h)) 0 0).2 : Int) + 1))).2 : Int))).toInt = Int32.toInt y15 := congrArg Int32.toInt rb15.symm); (have q1 : _ = (lnN (BM h) (plM h)).1 := Qa11); unfold lnR; rw [if_neg (fun q => q (show lnH (BM h) (plM h) from ⟨by omega, (show (BM h (plM h + ((wdF KW (cs (BM h) (plM h)) 0 0).2 : Int))).toInt = 32 by omega)⟩)), if_neg (show ¬ (lnN (BM h) (plM h)).1 < 0 by omega), if_pos (show sc (BM h) (lnE (BM h) (plM h)) from (show (BM h (plM h + ((wdF KW (cs (BM h) (plM h)) 0 0).2 : Int) + 1 + ((nuF (cs (BM h) (plM h + ((wdF KW (cs (BM h) (plM h)) 0 0).2 : Int) + 1))).2 : Int))).toInt = 59 by omega))]; try rfl))]; show Int32.toInt 0 = 0; rfl), (fun t h9 => by (rw [(show lnR (BM h) (plM h) = (0, plM h + ((wdF KW (cs (BM h) (plM h)) 0 0).2 : Int) + 1 + ((nuF (cs (BM h) (plM h + ((wdF KW (cs (BM h) (plM h)) 0 0).2 : Int) + 1))).2 : Int) + 1) from (by (have m1 := (show Int32.toInt (-1) = -1 from rfl)); (have q0 := Qa2); (have b0 : (BM h (plM h + ((wdF KW (cs (BM h) (plM h)) 0 0).2 : Int))).toInt = Int32.toInt y6 := congrArg Int32.toInt rb6.symm); (have b1 : (BM h (plM h + ((wdF KW (cs (BM h) (plM h)) 0 0).2 : Int) + 1 + ((nuF (cs (BM h) (plM h + ((wdF KW (cs (BM h) (plM h)) 0 0).2 : Int) + 1))).2 : Int))).toInt = Int32.toInt y15 := congrArg Int32.toInt rb15.symm); (have q1 : _ = (lnN (BM h) (plM h)).1 := Qa11); unfold lnR; rw [if_neg (fun q => q (show lnH (BM h) (plM h) from ⟨by omega, (show (BM h (plM h + ((wdF KW (cs (BM h) (plM h)) 0 0).2 : Int))).toInt = 32 by omega)⟩)), if_neg (show ¬ (lnN (BM h) (plM h)).1 < 0 by omega), if_pos (show sc (BM h) (lnE (BM h) (plM h)) from (show (BM h (plM h + ((wdF KW (cs (BM h) (plM h)) 0 0).2 : Int) + 1 + ((nuF (cs (BM h) (plM h + ((wdF KW (cs (BM h) (plM h)) 0 0).2 : Int) + 1))).2 : Int))).toInt = 59 by omega))]; try rfl))] at h9; exact absurd (show (t : Int) < 0 from h9) (by omega)))⟩), (by rw [show plM h20 = _ from pa21]; (have h9 := (plM_of u20.1).symm.trans pa21); rw [rv_of ((f20 148 45 rfl).symm.trans ((u20.2 _ _ (Or.inr (by decide))).trans ((u12.2 _ _ (Or.inl (by decide))).trans ((g11 _ _ (by decide)).trans ((u9.2 _ _ (Or.inr (by decide))).trans et6)))))]; omega)⟩), (fun m hm => ⟨((u20.2 _ _ (Or.inl (by decide))).trans ((u12.2 _ _ (Or.inl (by decide))).trans ((g11 _ _ rfl).trans ((u9.2 _ _ (Or.inl (by decide))).trans ((u3.2 _ _ (Or.inr (by omega))).trans ((g2 _ _ rfl).trans (u1.2 _ _ (Or.inl (by decide))))))))), ((u20.2 _ _ (Or.inl (by decide))).trans ((u12.2 _ _ (Or.inr (by omega))).trans ((g11 _ _ rfl).trans ((u9.2 _ _ (Or.inl (by decide))).trans ((u3.2 _ _ (Or.inl (by decide))).trans ((g2 _ _ rfl).trans (u1.2 _ _ (Or.inl (by decide))))))))), ((u20.2 _ _ (Or.inl (by decide))).trans ((u12.2 _ _ (Or.inl (by decide))).trans ((g11 _ _ rfl).trans ((u9.2 _ _ (Or.inl (by decide))).trans ((u3.2 _ _ (Or.inl (by decide))).trans ((g2 _ _ rfl).trans (u1.2 _ _ (Or.inr (by omega)))))))))⟩), (fun m hm => ⟨((u20.2 _ _ (Or.inl (by decide))).trans ((u12.2 _ _ (Or.inl (by decide))).trans ((g11 _ _ rfl).trans ((u9.2 _ _ (Or.inl (by decide))).trans ((u3.2 _ _ (Or.inl (by decide))).trans ((g2 _ _ rfl).trans (u1.2 _ _ (Or.inl (by decide))))))))), ((u20.2 _ _ (Or.inl (by decide))).trans ((u12.2 _ _ (Or.inl (by decide))).trans ((g11 _ _ rfl).trans ((u9.2 _ _ (Or.inl (by decide))).trans ((u3.2 _ _ (Or.inl (by decide))).trans ((g2 _ _ rfl).trans (u1.2 _ _ (Or.inl (by decide))))))))), ((u20.2 _ _ (Or.inl (by decide))).trans ((u12.2 _ _ (Or.inl (by decide))).trans ((g11 _ _ rfl).trans ((u9.2 _ _ (Or.inl (by decide))).trans ((u3.2 _ _ (Or.inl (by decide))).trans ((g2 _ _ rfl).trans (u1.2 _ _ (Or.inl (by decide)))))))))⟩)⟩
              · refine te_iconst (p2 := 152) (x := 0) rfl rfl (by decide) ?_
                exact te_zret rfl rfl (by decide) ⟨I12, f12, _, rfl, Or.inr ⟨rfl, (by rw [(show lnR (BM h) (plM h) = (-1, plM h + ((wdF KW (cs (BM h) (plM h)) 0 0).2 : Int) + 1 + ((nuF (cs (BM h) (plM h + ((wdF KW (cs (BM h) (plM h)) 0 0).2 : Int) + 1))).2 : Int)) from (by (have m1 := (show Int32.toInt (-1) = -1 from rfl)); (have q0 := Qa2); (have b0 : (BM h (plM h + ((wdF KW (cs (BM h) (plM h)) 0 0).2 : Int))).toInt = Int32.toInt y6 := congrArg Int32.toInt rb6.symm); (have b1 : (BM h (plM h + ((wdF KW (cs (BM h) (plM h)) 0 0).2 : Int) + 1 + ((nuF (cs (BM h) (plM h + ((wdF KW (cs (BM h) (plM h)) 0 0).2 : Int) + 1))).2 : Int))).toInt = Int32.toInt y15 := congrArg Int32.toInt rb15.symm); (have q1 : _ = (lnN (BM h) (plM h)).1 := Qa11); unfold lnR; rw [if_neg (fun q => q (show lnH (BM h) (plM h) from ⟨by omega, (show (BM h (plM h + ((wdF KW (cs (BM h) (plM h)) 0 0).2 : Int))).toInt = 32 by omega)⟩)), if_neg (show ¬ (lnN (BM h) (plM h)).1 < 0 by omega), if_neg (show ¬ sc (BM h) (lnE (BM h) (plM h)) from (show ¬ (BM h (plM h + ((wdF KW (cs (BM h) (plM h)) 0 0).2 : Int) + 1 + ((nuF (cs (BM h) (plM h + ((wdF KW (cs (BM h) (plM h)) 0 0).2 : Int) + 1))).2 : Int))).toInt = 59 by omega)), if_pos (show ¬ lnI (BM h) (plM h) from (by (have h9 := (show lcp IW (cs (BM h) (lnE (BM h) (plM h))) 0 = 0 from lcpI0 (by rw [cs_0]; show ¬ (BM h (plM h + ((wdF KW (cs (BM h) (plM h)) 0 0).2 : Int) + 1 + ((nuF (cs (BM h) (plM h + ((wdF KW (cs (BM h) (plM h)) 0 0).2 : Int) + 1))).2 : Int))).toInt = 32; omega))); show ¬ _ = 4; omega)), (show lcp IW (cs (BM h) (lnE (BM h) (plM h))) 0 = 0 from lcpI0 (by rw [cs_0]; show ¬ (BM h (plM h + ((wdF KW (cs (BM h) (plM h)) 0 0).2 : Int) + 1 + ((nuF (cs (BM h) (plM h + ((wdF KW (cs (BM h) (plM h)) 0 0).2 : Int) + 1))).2 : Int))).toInt = 32; omega))]; exact Prod.ext rfl (by show lnE (BM h) (plM h) + ((0 : Nat) : Int) = _; show _ = lnE (BM h) (plM h); omega)))]; show (-1 : Int) < 0; decide)⟩, (by rw [(show lnR (BM h) (plM h) = (-1, plM h + ((wdF KW (cs (BM h) (plM h)) 0 0).2 : Int) + 1 + ((nuF (cs (BM h) (plM h + ((wdF KW (cs (BM h) (plM h)) 0 0).2 : Int) + 1))).2 : Int)) from (by (have m1 := (show Int32.toInt (-1) = -1 from rfl)); (have q0 := Qa2); (have b0 : (BM h (plM h + ((wdF KW (cs (BM h) (plM h)) 0 0).2 : Int))).toInt = Int32.toInt y6 := congrArg Int32.toInt rb6.symm); (have b1 : (BM h (plM h + ((wdF KW (cs (BM h) (plM h)) 0 0).2 : Int) + 1 + ((nuF (cs (BM h) (plM h + ((wdF KW (cs (BM h) (plM h)) 0 0).2 : Int) + 1))).2 : Int))).toInt = Int32.toInt y15 := congrArg Int32.toInt rb15.symm); (have q1 : _ = (lnN (BM h) (plM h)).1 := Qa11); unfold lnR; rw [if_neg (fun q => q (show lnH (BM h) (plM h) from ⟨by omega, (show (BM h (plM h + ((wdF KW (cs (BM h) (plM h)) 0 0).2 : Int))).toInt = 32 by omega)⟩)), if_neg (show ¬ (lnN (BM h) (plM h)).1 < 0 by omega), if_neg (show ¬ sc (BM h) (lnE (BM h) (plM h)) from (show ¬ (BM h (plM h + ((wdF KW (cs (BM h) (plM h)) 0 0).2 : Int) + 1 + ((nuF (cs (BM h) (plM h + ((wdF KW (cs (BM h) (plM h)) 0 0).2 : Int) + 1))).2 : Int))).toInt = 59 by omega)), if_pos (show ¬ lnI (BM h) (plM h) from (by (have h9 := (show lcp IW (cs (BM h) (lnE (BM h) (plM h))) 0 = 0 from lcpI0 (by rw [cs_0]; show ¬ (BM h (plM h + ((wdF KW (cs (BM h) (plM h)) 0 0).2 : Int) + 1 + ((nuF (cs (BM h) (plM h + ((wdF KW (cs (BM h) (plM h)) 0 0).2 : Int) + 1))).2 : Int))).toInt = 32; omega))); show ¬ _ = 4; omega)), (show lcp IW (cs (BM h) (lnE (BM h) (plM h))) 0 = 0 from lcpI0 (by rw [cs_0]; show ¬ (BM h (plM h + ((wdF KW (cs (BM h) (plM h)) 0 0).2 : Int) + 1 + ((nuF (cs (BM h) (plM h + ((wdF KW (cs (BM h) (plM h)) 0 0).2 : Int) + 1))).2 : Int))).toInt = 32; omega))]; exact Prod.ext rfl (by show lnE (BM h) (plM h) + ((0 : Nat) : Int) = _; show _ = lnE (BM h) (plM h); omega))), show plM h12 = _ from ((plM_e (u12.2 _ _ (Or.inl (by decide)))).trans Qb11)]), (fun h9 => absurd h9 (by decide)), (fun m hm => ⟨((u12.2 _ _ (Or.inl (by decide))).trans ((g11 _ _ rfl).trans ((u9.2 _ _ (Or.inl (by decide))).trans ((u3.2 _ _ (Or.inr (by omega))).trans ((g2 _ _ rfl).trans (u1.2 _ _ (Or.inl (by decide)))))))), ((u12.2 _ _ (Or.inr (by omega))).trans ((g11 _ _ rfl).trans ((u9.2 _ _ (Or.inl (by decide))).trans ((u3.2 _ _ (Or.inl (by decide))).trans ((g2 _ _ rfl).trans (u1.2 _ _ (Or.inl (by decide)))))))), ((u12.2 _ _ (Or.inl (by decide))).trans ((g11 _ _ rfl).trans ((u9.2 _ _ (Or.inl (by decide))).trans ((u3.2 _ _ (Or.inl (by decide))).trans ((g2 _ _ rfl).trans (u1.2 _ _ (Or.inr (by omega))))))))⟩), (fun m hm => ⟨((u12.2 _ _ (Or.inl (by decide))).trans ((g11 _ _ rfl).trans ((u9.2 _ _ (Or.inl (by decide))).trans ((u3.2 _ _ (Or.inl (by decide))).trans ((g2 _ _ rfl).trans (u1.2 _ _ (Or.inl (by decide)))))))), ((u12.2 _ _ (Or.inl (by decide))).trans ((g11 _ _ rfl).trans ((u9.2 _ _ (Or.inl (by decide))).trans ((u3.2 _ _ (Or.inl (by decide))).trans ((g2 _ _ rfl).trans (u1.2 _ _ (Or.inl (by decide)))))))), ((u12.2 _ _ (Or.inl (by decide))).trans ((g11 _ _ rfl).trans ((u9.2 _ _ (Or.inl (by decide))).trans ((u3.2 _ _ (Or.inl (by decide))).trans ((g2 _ _ rfl).trans (u1.2 _ _ (Or.inl (by decide))))))))⟩)⟩
            · refine te_aload_n (p2 := 82) rfl rfl rfl ?_
              refine te_bipush (p2 := 84) (x := 11) rfl rfl (by decide) ?_
              refine te_bipush (p2 := 86) (x := 12) rfl rfl (by decide) ?_
              refine tc_V (p2 := 89) (i := 148) rfl rfl rfl rfl I12 rfl rfl rfl (c_X12_wordOf (first := 11) (behind := 12) I12 (by decide) (by decide) (by decide) (by decide) (by decide) (tbl_fr pr0 f12 (fun _ => rfl) (fun _ => rfl))) (by decide) (fun v22 h22 hq22 => ?_)
              obtain ⟨I22, g22, y22, w22, Q22⟩ := hq22
              subst w22
              rw [(BM_fr f12 rfl (fun _ => rfl)), ((plM_e (u12.2 _ _ (Or.inl (by decide)))).trans Qb11)] at Q22
              obtain ⟨Qa22, Qb22⟩ := wdU_I Q22
              clear Q22
              have f22 := fr_tr (F1 := F_X12_wordOf) (F := F_X12_line) f12 g22 (by decide)
              rcases Qa22 with ⟨x22, c22⟩ | ⟨x22, c22⟩
              · rw [c22] at Qb22
                have Qb22 : plM h22 = plM h + ((wdF KW (cs (BM h) (plM h)) 0 0).2 : Int) + 1 + ((nuF (cs (BM h) (plM h + ((wdF KW (cs (BM h) (plM h)) 0 0).2 : Int) + 1))).2 : Int) + 4 := Qb22
                show EvP _ _ _ (89, [(0, .ref 164), (1, .int line)], [.int y22], h22) _
                refine te_iconst (p2 := 90) (x := (-1)) rfl rfl (by decide) ?_
                refine tb_eq (p2 := 93) rfl rfl rfl (show Int32.toInt (-1) = (-1) from rfl) (fun c23 => absurd c23 (by omega)) (fun c23 => ?_)
                refine te_aload_n (p2 := 94) rfl rfl rfl ?_
                refine te_iload_n (p2 := 95) rfl rfl rfl ?_
                refine tc_V (p2 := 98) (i := 148) rfl rfl rfl rfl I22 rfl rfl rfl (c_X12_test (line := line) (gc := 0) I22 (by omega) (by omega) ((g22 _ _ rfl).trans ((u12.2 _ _ (Or.inl (by decide))).trans ((g11 _ _ rfl).trans ((u9.2 _ _ (Or.inl (by decide))).trans ((u3.2 _ _ (Or.inl (by decide))).trans ((g2 _ _ rfl).trans u1.1)))))) (by decide) (by decide) (tbl_fr pr0 f22 (fun _ => rfl) (fun _ => rfl))) (by decide) (fun v24 h24 hq24 => ?_)
                obtain ⟨I24, g24, y24, w24, Qa24, Qb24, Qc24, K24, L24⟩ := hq24
                subst w24
                rw [(BM_fr f22 rfl (fun _ => rfl)), Qb22] at Qa24 Qb24 Qc24
                have cg24 := (show Int32.toInt 0 = 0 from rfl)
                have f24 := fr_tr (F1 := F_X12_test) (F := F_X12_line) f22 g24 (by decide)
                rcases Qa24 with ⟨r24, O24⟩ | ⟨r24, O24⟩
                · subst r24
                  obtain ⟨C24, c24, ec24, fc24⟩ := Qc24 rfl
                  show EvP _ _ _ (98, [(0, .ref 164), (1, .int line)], [.int 1], h24) _
                  refine tz_ne (p2 := 101) rfl rfl (show Int32.toInt 1 = 1 from rfl) (fun c25 => ?_) (fun c25 => absurd c25 (by omega))
                  refine te_aload_n (p2 := 104) rfl rfl rfl ?_
                  refine cV_pI (p2 := 107) (i := 148) rfl rfl rfl rfl I24 rfl rfl rfl (c_X12_byteHere I24) (by decide) (fun y26 r26 => ?_)
                  obtain ⟨rb26, at26, tp26, ea26, et26, aa26, ab26, ta26, tb26, r26⟩ := r26
                  rw [(BM_fr f24 rfl (fun _ => rfl)), Qb24] at rb26
                  have xtp26 : tp26 = tp6 := int_inj et26 ((g24 _ _ (by decide)).trans ((g22 _ _ (by decide)).trans ((u12.2 _ _ (Or.inl (by decide))).trans ((g11 _ _ (by decide)).trans ((u9.2 _ _ (Or.inr (by decide))).trans et6)))))
                  rw [xtp26] at r26
                  rcases r26 with r26 | r26
                  · refine te_bipush (p2 := 109) (x := 38) rfl rfl (by decide) ?_
                    refine tb_ne (p2 := 112) rfl rfl rfl (show Int32.toInt 38 = 38 from rfl) (fun c27 => ?_) (fun c27 => ?_)
                    · refine te_aload_n (p2 := 143) rfl rfl rfl ?_
                      refine cV_pI (p2 := 146) (i := 148) rfl rfl rfl rfl I24 rfl rfl rfl (c_X12_byteHere I24) (by decide) (fun y28 r28 => ?_)
                      obtain ⟨rb28, at28, tp28, ea28, et28, aa28, ab28, ta28, tb28, r28⟩ := r28
                      rw [(BM_fr f24 rfl (fun _ => rfl)), Qb24] at rb28
                      have xat28 : at28 = at26 := int_inj ea28 ea26
                      rw [xat28] at r28
                      have xtp28 : tp28 = tp6 := int_inj et28 ((g24 _ _ (by decide)).trans ((g22 _ _ (by decide)).trans ((u12.2 _ _ (Or.inl (by decide))).trans ((g11 _ _ (by decide)).trans ((u9.2 _ _ (Or.inr (by decide))).trans et6)))))
                      rw [xtp28] at r28
                      have ye28 : y28 = y26 := rb28.trans rb26.symm
                      rw [ye28]
                      show EvP _ _ _ (146, [(0, .ref 164), (1, .int line)], [.int y26], h24) _
                      refine te_bipush (p2 := 148) (x := 59) rfl rfl (by decide) ?_
                      refine tb_eq (p2 := 151) rfl rfl rfl (show Int32.toInt 59 = 59 from rfl) (fun c29 => ?_) (fun c29 => ?_)
                      · refine te_aload_n (p2 := 154) rfl rfl rfl ?_
                        refine te_dup (p2 := 155) rfl rfl rfl ?_
                        refine tg_e (p2 := 158) (i := 148) (v := .int at26) rfl rfl I24 rfl rfl ea26 ?_
                        refine te_iconst (p2 := 159) (x := 1) rfl rfl (by decide) ?_
                        refine ar_add (p2 := 160) rfl rfl rfl (show Int32.toInt 1 = 1 from rfl) (by omega) (by omega) (fun z30 e30 f30 => ?_)
                        refine tp_i (p2 := 163) (i := 148) rfl rfl I24 rfl rfl (by decide) rfl rfl rfl (by omega) (by omega) (by omega) rfl (fun h31 I31 u31 => ?_)
                        have f31 := fr_st (F := F_X12_line) 0 f24 u31 rfl (by decide) (by decide)
                        have pa32 : plM h31 = tsP (BM h) (plM h + ((wdF KW (cs (BM h) (plM h)) 0 0).2 : Int) + 1 + ((nuF (cs (BM h) (plM h + ((wdF KW (cs (BM h) (plM h)) 0 0).2 : Int) + 1))).2 : Int) + 4) + 1 := (plM_of u31.1).trans (show z30.toInt = tsP (BM h) (plM h + ((wdF KW (cs (BM h) (plM h)) 0 0).2 : Int) + 1 + ((nuF (cs (BM h) (plM h + ((wdF KW (cs (BM h) (plM h)) 0 0).2 : Int) + 1))).2 : Int) + 4) + 1 from (by (have h9 := (plM_of ea26).symm.trans (show plM _ = tsP (BM h) (plM h + ((wdF KW (cs (BM h) (plM h)) 0 0).2 : Int) + 1 + ((nuF (cs (BM h) (plM h + ((wdF KW (cs (BM h) (plM h)) 0 0).2 : Int) + 1))).2 : Int) + 4) from Qb24)); omega))
                        refine te_iconst (p2 := 164) (x := 1) rfl rfl (by decide) ?_
                        exact te_zret rfl rfl (by decide) ⟨I31, f31, _, rfl, Or.inl ⟨rfl, (by rw [(show lnR (BM h) (plM h) = (1, tsP (BM h) (plM h + ((wdF KW (cs (BM h) (plM h)) 0 0).2 : Int) + 1 + ((nuF (cs (BM h) (plM h + ((wdF KW (cs (BM h) (plM h)) 0 0).2 : Int) + 1))).2 : Int) + 4) + 1) from (by (have m1 := (show Int32.toInt (-1) = -1 from rfl)); (have q0 := Qa2); (have b0 : (BM h (plM h + ((wdF KW (cs (BM h) (plM h)) 0 0).2 : Int))).toInt = Int32.toInt y6 := congrArg Int32.toInt rb6.symm); (have b1 : (BM h (plM h + ((wdF KW (cs (BM h) (plM h)) 0 0).2 : Int) + 1 + ((nuF (cs (BM h) (plM h + ((wdF KW (cs (BM h) (plM h)) 0 0).2 : Int) + 1))).2 : Int))).toInt = Int32.toInt y15 := congrArg Int32.toInt rb15.symm); (have b2 : (BM h (tsP (BM h) (plM h + ((wdF KW (cs (BM h) (plM h)) 0 0).2 : Int) + 1 + ((nuF (cs (BM h) (plM h + ((wdF KW (cs (BM h) (plM h)) 0 0).2 : Int) + 1))).2 : Int) + 4))).toInt = Int32.toInt y26 := congrArg Int32.toInt rb26.symm); (have q1 : _ = (lnN (BM h) (plM h)).1 := Qa11); unfold lnR; rw [if_neg (fun q => q (show lnH (BM h) (plM h) from ⟨by omega, (show (BM h (plM h + ((wdF KW (cs (BM h) (plM h)) 0 0).2 : Int))).toInt = 32 by omega)⟩)), if_neg (show ¬ (lnN (BM h) (plM h)).1 < 0 by omega), if_neg (show ¬ sc (BM h) (lnE (BM h) (plM h)) from (show ¬ (BM h (plM h + ((wdF KW (cs (BM h) (plM h)) 0 0).2 : Int) + 1 + ((nuF (cs (BM h) (plM h + ((wdF KW (cs (BM h) (plM h)) 0 0).2 : Int) + 1))).2 : Int))).toInt = 59 by omega)), if_neg (fun q => q (show lnI (BM h) (plM h) from c22))]; show ttR (BM h) (plM h + ((wdF KW (cs (BM h) (plM h)) 0 0).2 : Int) + 1 + ((nuF (cs (BM h) (plM h + ((wdF KW (cs (BM h) (plM h)) 0 0).2 : Int) + 1))).2 : Int) + 4) = _; unfold ttR tu3 tu2; rw [if_neg (fun q => q O24), if_pos (show sc (BM h) (tsP (BM h) (plM h + ((wdF KW (cs (BM h) (plM h)) 0 0).2 : Int) + 1 + ((nuF (cs (BM h) (plM h + ((wdF KW (cs (BM h) (plM h)) 0 0).2 : Int) + 1))).2 : Int) + 4)) from (show (BM h (tsP (BM h) (plM h + ((wdF KW (cs (BM h) (plM h)) 0 0).2 : Int) + 1 + ((nuF (cs (BM h) (plM h + ((wdF KW (cs (BM h) (plM h)) 0 0).2 : Int) + 1))).2 : Int) + 4))).toInt = 59 by omega))]))]; show (0 : Int) ≤ 1; decide)⟩, (by rw [(show lnR (BM h) (plM h) = (1, tsP (BM h) (plM h + ((wdF KW (cs (BM h) (plM h)) 0 0).2 : Int) + 1 + ((nuF (cs (BM h) (plM h + ((wdF KW (cs (BM h) (plM h)) 0 0).2 : Int) + 1))).2 : Int) + 4) + 1) from (by (have m1 := (show Int32.toInt (-1) = -1 from rfl)); (have q0 := Qa2); (have b0 : (BM h (plM h + ((wdF KW (cs (BM h) (plM h)) 0 0).2 : Int))).toInt = Int32.toInt y6 := congrArg Int32.toInt rb6.symm); (have b1 : (BM h (plM h + ((wdF KW (cs (BM h) (plM h)) 0 0).2 : Int) + 1 + ((nuF (cs (BM h) (plM h + ((wdF KW (cs (BM h) (plM h)) 0 0).2 : Int) + 1))).2 : Int))).toInt = Int32.toInt y15 := congrArg Int32.toInt rb15.symm); (have b2 : (BM h (tsP (BM h) (plM h + ((wdF KW (cs (BM h) (plM h)) 0 0).2 : Int) + 1 + ((nuF (cs (BM h) (plM h + ((wdF KW (cs (BM h) (plM h)) 0 0).2 : Int) + 1))).2 : Int) + 4))).toInt = Int32.toInt y26 := congrArg Int32.toInt rb26.symm); (have q1 : _ = (lnN (BM h) (plM h)).1 := Qa11); unfold lnR; rw [if_neg (fun q => q (show lnH (BM h) (plM h) from ⟨by omega, (show (BM h (plM h + ((wdF KW (cs (BM h) (plM h)) 0 0).2 : Int))).toInt = 32 by omega)⟩)), if_neg (show ¬ (lnN (BM h) (plM h)).1 < 0 by omega), if_neg (show ¬ sc (BM h) (lnE (BM h) (plM h)) from (show ¬ (BM h (plM h + ((wdF KW (cs (BM h) (plM h)) 0 0).2 : Int) + 1 + ((nuF (cs (BM h) (plM h + ((wdF KW (cs (BM h) (plM h)) 0 0).2 : Int) + 1))).2 : Int))).toInt = 59 by omega)), if_neg (fun q => q (show lnI (BM h) (plM h) from c22))]; show ttR (BM h) (plM h + ((wdF KW (cs (BM h) (plM h)) 0 0).2 : Int) + 1 + ((nuF (cs (BM h) (plM h + ((wdF KW (cs (BM h) (plM h)) 0 0).2 : Int) + 1))).2 : Int) + 4) = _; unfold ttR tu3 tu2; rw [if_neg (fun q => q O24), if_pos (show sc (BM h) (tsP (BM h) (plM h + ((wdF KW (cs (BM h) (plM h)) 0 0).2 : Int) + 1 + ((nuF (cs (BM h) (plM h + ((wdF KW (cs (BM h) (plM h)) 0 0).2 : Int) + 1))).2 : Int) + 4)) from (show (BM h (tsP (BM h) (plM h + ((wdF KW (cs (BM h) (plM h)) 0 0).2 : Int) + 1 + ((nuF (cs (BM h) (plM h + ((wdF KW (cs (BM h) (plM h)) 0 0).2 : Int) + 1))).2 : Int) + 4))).toInt = 59 by omega))])), show plM h31 = _ from pa32]), (fun _ => ⟨(by (have m1 := (show Int32.toInt (-1) = -1 from rfl)); (have q0 := Qa2); (have b0 : (BM h (plM h + ((wdF KW (cs (BM h) (plM h)) 0 0).2 : Int))).toInt = Int32.toInt y6 := congrArg Int32.toInt rb6.symm); (have b1 : (BM h (plM h + ((wdF KW (cs (BM h) (plM h)) 0 0).2 : Int) + 1 + ((nuF (cs (BM h) (plM h + ((wdF KW (cs (BM h) (plM h)) 0 0).2 : Int) + 1))).2 : Int))).toInt = Int32.toInt y15 := congrArg Int32.toInt rb15.symm); (have b2 : (BM h (tsP (BM h) (plM h + ((wdF KW (cs (BM h) (plM h)) 0 0).2 : Int) + 1 + ((nuF (cs (BM h) (plM h + ((wdF KW (cs (BM h) (plM h)) 0 0).2 : Int) + 1))).2 : Int) + 4))).toInt = Int32.toInt y26 := congrArg Int32.toInt rb26.symm); (have q1 : _ = (lnN (BM h) (plM h)).1 := Qa11); exact ⟨_, _, c24, ((u31.2 _ _ (Or.inl (by decide))).trans ((g24 _ _ rfl).trans ((g22 _ _ rfl).trans ((u12.2 _ _ (Or.inl (by decide))).trans ((g11 _ _ rfl).trans ((u9.2 _ _ (Or.inl (by decide))).trans u3.1)))))), q0, ((u31.2 _ _ (Or.inl (by decide))).trans ((g24 _ _ rfl).trans ((g22 _ _ rfl).trans u12.1))), q1, ((u31.2 _ _ (Or.inl (by decide))).trans ec24), (by rw [(show lnR (BM h) (plM h) = (1, tsP (BM h) (plM h + ((wdF KW (cs (BM h) (plM h)) 0 0).2 : Int) + 1 + ((nuF (cs (BM h) (plM h + ((wdF KW (cs (BM h) (plM h)) 0 0).2 : Int) + 1))).2 : Int) + 4) + 1) from (by (have m1 := (show Int32.toInt (-1) = -1 from rfl)); (have q0 := Qa2); (have b0 : (BM h (plM h + ((wdF KW (cs (BM h) (plM h)) 0 0).2 : Int))).toInt = Int32.toInt y6 := congrArg Int32.toInt rb6.symm); (have b1 : (BM h (plM h + ((wdF KW (cs (BM h) (plM h)) 0 0).2 : Int) + 1 + ((nuF (cs (BM h) (plM h + ((wdF KW (cs (BM h) (plM h)) 0 0).2 : Int) + 1))).2 : Int))).toInt = Int32.toInt y15 := congrArg Int32.toInt rb15.symm); (have b2 : (BM h (tsP (BM h) (plM h + ((wdF KW (cs (BM h) (plM h)) 0 0).2 : Int) + 1 + ((nuF (cs (BM h) (plM h + ((wdF KW (cs (BM h) (plM h)) 0 0).2 : Int) + 1))).2 : Int) + 4))).toInt = Int32.toInt y26 := congrArg Int32.toInt rb26.symm); (have q1 : _ = (lnN (BM h) (plM h)).1 := Qa11); unfold lnR; rw [if_neg (fun q => q (show lnH (BM h) (plM h) from ⟨by omega, (show (BM h (plM h + ((wdF KW (cs (BM h) (plM h)) 0 0).2 : Int))).toInt = 32 by omega)⟩)), if_neg (show ¬ (lnN (BM h) (plM h)).1 < 0 by omega), if_neg (show ¬ sc (BM h) (lnE (BM h) (plM h)) from (show ¬ (BM h (plM h + ((wdF KW (cs (BM h) (plM h)) 0 0).2 : Int) + 1 + ((nuF (cs (BM h) (plM h + ((wdF KW (cs (BM h) (plM h)) 0 0).2 : Int) + 1))).2 : Int))).toInt = 59 by omega)), if_neg (fun q => q (show lnI (BM h) (plM h) from c22))]; show ttR (BM h) (plM h + ((wdF KW (cs (BM h) (plM h)) 0 0).2 : Int) + 1 + ((nuF (cs (BM h) (plM h + ((wdF KW (cs (BM h) (plM h)) 0 0).2 : Int) + 1))).2 : Int) + 4) = _; unfold ttR tu3 tu2; rw [if_neg (fun q => q O24), if_pos (show sc (BM h) (tsP (BM h) (plM h + ((wdF KW (cs (BM h) (plM h)) 0 0).2 : Int) + 1 + ((nuF (cs (BM h) (plM h + ((wdF KW (cs (BM h) (plM h)) 0 0).2 : Int) + 1))).2 : Int) + 4)) from (show (BM h (tsP (BM h) (plM h + ((wdF KW (cs (BM h) (plM h)) 0 0).2 : Int) + 1 + ((nuF (cs (BM h) (plM h + ((wdF KW (cs (BM h) (plM h)) 0 0).2 : Int) + 1))).2 : Int) + 4))).toInt = 59 by omega))]))]; show Int32.toInt c24 = 1; omega), (fun t ht => by (rw [(show lnR (BM h) (plM h) = (1, tsP (BM h) (plM h + ((wdF KW (cs (BM h) (plM h)) 0 0).2 : Int) + 1 + ((nuF (cs (BM h) (plM h + ((wdF KW (cs (BM h) (plM h)) 0 0).2 : Int) + 1))).2 : Int) + 4) + 1) from (by (have m1 := (show Int32.toInt (-1) = -1 from rfl)); (have q0 := Qa2); (have b0 : (BM h (plM h + ((wdF KW (cs (BM h) (plM h)) 0 0).2 : Int))).toInt = Int32.toInt y6 := congrArg Int32.toInt rb6.symm); (have b1 : (BM h (plM h + ((wdF KW (cs (BM h) (plM h)) 0 0).2 : Int) + 1 + ((nuF (cs (BM h) (plM h + ((wdF KW (cs (BM h) (plM h)) 0 0).2 : Int) + 1))).2 : Int))).toInt = Int32.toInt y15 := congrArg Int32.toInt rb15.symm); (have b2 : (BM h (tsP (BM h) (plM h + ((wdF KW (cs (BM h) (plM h)) 0 0).2 : Int) + 1 + ((nuF (cs (BM h) (plM h + ((wdF KW (cs (BM h) (plM h)) 0 0).2 : Int) + 1))).2 : Int) + 4))).toInt = Int32.toInt y26 := congrArg Int32.toInt rb26.symm); (have q1 : _ = (lnN (BM h) (plM h)).1 := Qa11); unfold lnR; rw [if_neg (fun q => q (show lnH (BM h) (plM h) from ⟨by omega, (show (BM h (plM h + ((wdF KW (cs (BM h) (plM h)) 0 0).2 : Int))).toInt = 32 by omega)⟩)), if_neg (show ¬ (lnN (BM h) (plM h)).1 < 0 by omega), if_neg (show ¬ sc (BM h) (lnE (BM h) (plM h)) from (show ¬ (BM h (plM h + ((wdF KW (cs (BM h) (plM h)) 0 0).2 : Int) + 1 + ((nuF (cs (BM h) (plM h + ((wdF KW (cs (BM h) (plM h)) 0 0).2 : Int) + 1))).2 : Int))).toInt = 59 by omega)), if_neg (fun q => q (show lnI (BM h) (plM h) from c22))]; show ttR (BM h) (plM h + ((wdF KW (cs (BM h) (plM h)) 0 0).2 : Int) + 1 + ((nuF (cs (BM h) (plM h + ((wdF KW (cs (BM h) (plM h)) 0 0).2 : Int) + 1))).2 : Int) + 4) = _; unfold ttR tu3 tu2; rw [if_neg (fun q => q O24), if_pos (show sc (BM h) (tsP (BM h) (plM h + ((wdF KW (cs (BM h) (plM h)) 0 0).2 : Int) + 1 + ((nuF (cs (BM h) (plM h + ((wdF KW (cs (BM h) (plM h)) 0 0).2 : Int) + 1))).2 : Int) + 4)) from (show (BM h (tsP (BM h) (plM h + ((wdF KW (cs (BM h) (plM h)) 0 0).2 : Int) + 1 + ((nuF (cs (BM h) (plM h + ((wdF KW (cs (BM h) (plM h)) 0 0).2 : Int) + 1))).2 : Int) + 4))).toInt = 59 by omega))]))] at ht); (rcases (show t = 0 by (have ht : (t : Int) < 1 := ht); omega) with rfl); (· (have h9 := tsM_e C24 (u31.2 _ _ (Or.inl (by decide))) (u31.2 _ _ (Or.inl (by decide))) (u31.2 _ _ (Or.inl (by decide)))); (have cz : 3 * line.toInt.toNat + (Int32.toInt 0).toNat = 3 * line.toInt.toNat + 0 := (by omega)); rw [cz] at h9; exact h9))⟩), (by rw [show plM h31 = _ from pa32]; (have h9 := (plM_of u31.1).symm.trans pa32); rw [rv_of ((f31 148 45 rfl).symm.trans ((u31.2 _ _ (Or.inr (by decide))).trans ((g24 _ _ (by decide)).trans ((g22 _ _ (by decide)).trans ((u12.2 _ _ (Or.inl (by decide))).trans ((g11 _ _ (by decide)).trans ((u9.2 _ _ (Or.inr (by decide))).trans et6)))))))]; omega)⟩), (fun m hm => ⟨((u31.2 _ _ (Or.inl (by decide))).trans ((g24 _ _ rfl).trans ((g22 _ _ rfl).trans ((u12.2 _ _ (Or.inl (by decide))).trans ((g11 _ _ rfl).trans ((u9.2 _ _ (Or.inl (by decide))).trans ((u3.2 _ _ (Or.inr (by omega))).trans ((g2 _ _ rfl).trans (u1.2 _ _ (Or.inl (by decide))))))))))), ((u31.2 _ _ (Or.inl (by decide))).trans ((g24 _ _ rfl).trans ((g22 _ _ rfl).trans ((u12.2 _ _ (Or.inr (by omega))).trans ((g11 _ _ rfl).trans ((u9.2 _ _ (Or.inl (by decide))).trans ((u3.2 _ _ (Or.inl (by decide))).trans ((g2 _ _ rfl).trans (u1.2 _ _ (Or.inl (by decide))))))))))), ((u31.2 _ _ (Or.inl (by decide))).trans ((L24 _ (by omega)).trans ((g22 _ _ rfl).trans ((u12.2 _ _ (Or.inl (by decide))).trans ((g11 _ _ rfl).trans ((u9.2 _ _ (Or.inl (by decide))).trans ((u3.2 _ _ (Or.inl (by decide))).trans ((g2 _ _ rfl).trans (u1.2 _ _ (Or.inr (by omega)))))))))))⟩), (fun m hm => ⟨((u31.2 _ _ (Or.inl (by decide))).trans ((K24 _ (by omega)).1.trans ((g22 _ _ rfl).trans ((u12.2 _ _ (Or.inl (by decide))).trans ((g11 _ _ rfl).trans ((u9.2 _ _ (Or.inl (by decide))).trans ((u3.2 _ _ (Or.inl (by decide))).trans ((g2 _ _ rfl).trans (u1.2 _ _ (Or.inl (by decide))))))))))), ((u31.2 _ _ (Or.inl (by decide))).trans ((K24 _ (by omega)).2.1.trans ((g22 _ _ rfl).trans ((u12.2 _ _ (Or.inl (by decide))).trans ((g11 _ _ rfl).trans ((u9.2 _ _ (Or.inl (by decide))).trans ((u3.2 _ _ (Or.inl (by decide))).trans ((g2 _ _ rfl).trans (u1.2 _ _ (Or.inl (by decide))))))))))), ((u31.2 _ _ (Or.inl (by decide))).trans ((K24 _ (by omega)).2.2.trans ((g22 _ _ rfl).trans ((u12.2 _ _ (Or.inl (by decide))).trans ((g11 _ _ rfl).trans ((u9.2 _ _ (Or.inl (by decide))).trans ((u3.2 _ _ (Or.inl (by decide))).trans ((g2 _ _ rfl).trans (u1.2 _ _ (Or.inl (by decide)))))))))))⟩)⟩
                      · refine te_iconst (p2 := 152) (x := 0) rfl rfl (by decide) ?_
                        exact te_zret rfl rfl (by decide) ⟨I24, f24, _, rfl, Or.inr ⟨rfl, (by rw [(show lnR (BM h) (plM h) = (-1, tsP (BM h) (plM h + ((wdF KW (cs (BM h) (plM h)) 0 0).2 : Int) + 1 + ((nuF (cs (BM h) (plM h + ((wdF KW (cs (BM h) (plM h)) 0 0).2 : Int) + 1))).2 : Int) + 4)) from (by (have m1 := (show Int32.toInt (-1) = -1 from rfl)); (have q0 := Qa2); (have b0 : (BM h (plM h + ((wdF KW (cs (BM h) (plM h)) 0 0).2 : Int))).toInt = Int32.toInt y6 := congrArg Int32.toInt rb6.symm); (have b1 : (BM h (plM h + ((wdF KW (cs (BM h) (plM h)) 0 0).2 : Int) + 1 + ((nuF (cs (BM h) (plM h + ((wdF KW (cs (BM h) (plM h)) 0 0).2 : Int) + 1))).2 : Int))).toInt = Int32.toInt y15 := congrArg Int32.toInt rb15.symm); (have b2 : (BM h (tsP (BM h) (plM h + ((wdF KW (cs (BM h) (plM h)) 0 0).2 : Int) + 1 + ((nuF (cs (BM h) (plM h + ((wdF KW (cs (BM h) (plM h)) 0 0).2 : Int) + 1))).2 : Int) + 4))).toInt = Int32.toInt y26 := congrArg Int32.toInt rb26.symm); (have q1 : _ = (lnN (BM h) (plM h)).1 := Qa11); unfold lnR; rw [if_neg (fun q => q (show lnH (BM h) (plM h) from ⟨by omega, (show (BM h (plM h + ((wdF KW (cs (BM h) (plM h)) 0 0).2 : Int))).toInt = 32 by omega)⟩)), if_neg (show ¬ (lnN (BM h) (plM h)).1 < 0 by omega), if_neg (show ¬ sc (BM h) (lnE (BM h) (plM h)) from (show ¬ (BM h (plM h + ((wdF KW (cs (BM h) (plM h)) 0 0).2 : Int) + 1 + ((nuF (cs (BM h) (plM h + ((wdF KW (cs (BM h) (plM h)) 0 0).2 : Int) + 1))).2 : Int))).toInt = 59 by omega)), if_neg (fun q => q (show lnI (BM h) (plM h) from c22))]; show ttR (BM h) (plM h + ((wdF KW (cs (BM h) (plM h)) 0 0).2 : Int) + 1 + ((nuF (cs (BM h) (plM h + ((wdF KW (cs (BM h) (plM h)) 0 0).2 : Int) + 1))).2 : Int) + 4) = _; unfold ttR tu3 tu2; rw [if_neg (fun q => q O24), if_neg (show ¬ sc (BM h) (tsP (BM h) (plM h + ((wdF KW (cs (BM h) (plM h)) 0 0).2 : Int) + 1 + ((nuF (cs (BM h) (plM h + ((wdF KW (cs (BM h) (plM h)) 0 0).2 : Int) + 1))).2 : Int) + 4)) from (show ¬ (BM h (tsP (BM h) (plM h + ((wdF KW (cs (BM h) (plM h)) 0 0).2 : Int) + 1 + ((nuF (cs (BM h) (plM h + ((wdF KW (cs (BM h) (plM h)) 0 0).2 : Int) + 1))).2 : Int) + 4))).toInt = 59 by omega)), if_pos (show ¬ am (BM h) (tsP (BM h) (plM h + ((wdF KW (cs (BM h) (plM h)) 0 0).2 : Int) + 1 + ((nuF (cs (BM h) (plM h + ((wdF KW (cs (BM h) (plM h)) 0 0).2 : Int) + 1))).2 : Int) + 4)) from (show ¬ (BM h (tsP (BM h) (plM h + ((wdF KW (cs (BM h) (plM h)) 0 0).2 : Int) + 1 + ((nuF (cs (BM h) (plM h + ((wdF KW (cs (BM h) (plM h)) 0 0).2 : Int) + 1))).2 : Int) + 4))).toInt = 38 by omega))]))]; show (-1 : Int) < 0; decide)⟩, (by rw [(show lnR (BM h) (plM h) = (-1, tsP (BM h) (plM h + ((wdF KW (cs (BM h) (plM h)) 0 0).2 : Int) + 1 + ((nuF (cs (BM h) (plM h + ((wdF KW (cs (BM h) (plM h)) 0 0).2 : Int) + 1))).2 : Int) + 4)) from (by (have m1 := (show Int32.toInt (-1) = -1 from rfl)); (have q0 := Qa2); (have b0 : (BM h (plM h + ((wdF KW (cs (BM h) (plM h)) 0 0).2 : Int))).toInt = Int32.toInt y6 := congrArg Int32.toInt rb6.symm); (have b1 : (BM h (plM h + ((wdF KW (cs (BM h) (plM h)) 0 0).2 : Int) + 1 + ((nuF (cs (BM h) (plM h + ((wdF KW (cs (BM h) (plM h)) 0 0).2 : Int) + 1))).2 : Int))).toInt = Int32.toInt y15 := congrArg Int32.toInt rb15.symm); (have b2 : (BM h (tsP (BM h) (plM h + ((wdF KW (cs (BM h) (plM h)) 0 0).2 : Int) + 1 + ((nuF (cs (BM h) (plM h + ((wdF KW (cs (BM h) (plM h)) 0 0).2 : Int) + 1))).2 : Int) + 4))).toInt = Int32.toInt y26 := congrArg Int32.toInt rb26.symm); (have q1 : _ = (lnN (BM h) (plM h)).1 := Qa11); unfold lnR; rw [if_neg (fun q => q (show lnH (BM h) (plM h) from ⟨by omega, (show (BM h (plM h + ((wdF KW (cs (BM h) (plM h)) 0 0).2 : Int))).toInt = 32 by omega)⟩)), if_neg (show ¬ (lnN (BM h) (plM h)).1 < 0 by omega), if_neg (show ¬ sc (BM h) (lnE (BM h) (plM h)) from (show ¬ (BM h (plM h + ((wdF KW (cs (BM h) (plM h)) 0 0).2 : Int) + 1 + ((nuF (cs (BM h) (plM h + ((wdF KW (cs (BM h) (plM h)) 0 0).2 : Int) + 1))).2 : Int))).toInt = 59 by omega)), if_neg (fun q => q (show lnI (BM h) (plM h) from c22))]; show ttR (BM h) (plM h + ((wdF KW (cs (BM h) (plM h)) 0 0).2 : Int) + 1 + ((nuF (cs (BM h) (plM h + ((wdF KW (cs (BM h) (plM h)) 0 0).2 : Int) + 1))).2 : Int) + 4) = _; unfold ttR tu3 tu2; rw [if_neg (fun q => q O24), if_neg (show ¬ sc (BM h) (tsP (BM h) (plM h + ((wdF KW (cs (BM h) (plM h)) 0 0).2 : Int) + 1 + ((nuF (cs (BM h) (plM h + ((wdF KW (cs (BM h) (plM h)) 0 0).2 : Int) + 1))).2 : Int) + 4)) from (show ¬ (BM h (tsP (BM h) (plM h + ((wdF KW (cs (BM h) (plM h)) 0 0).2 : Int) + 1 + ((nuF (cs (BM h) (plM h + ((wdF KW (cs (BM h) (plM h)) 0 0).2 : Int) + 1))).2 : Int) + 4))).toInt = 59 by omega)), if_pos (show ¬ am (BM h) (tsP (BM h) (plM h + ((wdF KW (cs (BM h) (plM h)) 0 0).2 : Int) + 1 + ((nuF (cs (BM h) (plM h + ((wdF KW (cs (BM h) (plM h)) 0 0).2 : Int) + 1))).2 : Int) + 4)) from (show ¬ (BM h (tsP (BM h) (plM h + ((wdF KW (cs (BM h) (plM h)) 0 0).2 : Int) + 1 + ((nuF (cs (BM h) (plM h + ((wdF KW (cs (BM h) (plM h)) 0 0).2 : Int) + 1))).2 : Int) + 4))).toInt = 38 by omega))])), show plM h24 = _ from Qb24]), (fun h9 => absurd h9 (by decide)), (fun m hm => ⟨((g24 _ _ rfl).trans ((g22 _ _ rfl).trans ((u12.2 _ _ (Or.inl (by decide))).trans ((g11 _ _ rfl).trans ((u9.2 _ _ (Or.inl (by decide))).trans ((u3.2 _ _ (Or.inr (by omega))).trans ((g2 _ _ rfl).trans (u1.2 _ _ (Or.inl (by decide)))))))))), ((g24 _ _ rfl).trans ((g22 _ _ rfl).trans ((u12.2 _ _ (Or.inr (by omega))).trans ((g11 _ _ rfl).trans ((u9.2 _ _ (Or.inl (by decide))).trans ((u3.2 _ _ (Or.inl (by decide))).trans ((g2 _ _ rfl).trans (u1.2 _ _ (Or.inl (by decide)))))))))), ((L24 _ (by omega)).trans ((g22 _ _ rfl).trans ((u12.2 _ _ (Or.inl (by decide))).trans ((g11 _ _ rfl).trans ((u9.2 _ _ (Or.inl (by decide))).trans ((u3.2 _ _ (Or.inl (by decide))).trans ((g2 _ _ rfl).trans (u1.2 _ _ (Or.inr (by omega))))))))))⟩), (fun m hm => ⟨((K24 _ (by omega)).1.trans ((g22 _ _ rfl).trans ((u12.2 _ _ (Or.inl (by decide))).trans ((g11 _ _ rfl).trans ((u9.2 _ _ (Or.inl (by decide))).trans ((u3.2 _ _ (Or.inl (by decide))).trans ((g2 _ _ rfl).trans (u1.2 _ _ (Or.inl (by decide)))))))))), ((K24 _ (by omega)).2.1.trans ((g22 _ _ rfl).trans ((u12.2 _ _ (Or.inl (by decide))).trans ((g11 _ _ rfl).trans ((u9.2 _ _ (Or.inl (by decide))).trans ((u3.2 _ _ (Or.inl (by decide))).trans ((g2 _ _ rfl).trans (u1.2 _ _ (Or.inl (by decide)))))))))), ((K24 _ (by omega)).2.2.trans ((g22 _ _ rfl).trans ((u12.2 _ _ (Or.inl (by decide))).trans ((g11 _ _ rfl).trans ((u9.2 _ _ (Or.inl (by decide))).trans ((u3.2 _ _ (Or.inl (by decide))).trans ((g2 _ _ rfl).trans (u1.2 _ _ (Or.inl (by decide))))))))))⟩)⟩
                    · refine te_aload_n (p2 := 113) rfl rfl rfl ?_
                      refine tg_r (p2 := 116) (i := 148) (r := 204) rfl rfl I24 rfl rfl rfl ?_
                      refine te_iload_n (p2 := 117) rfl rfl rfl ?_
                      refine tl_e (p2 := 118) (i := 188) (n := 48) (t := 0) (Or.inl rfl) rfl rfl I24 rfl rfl (by omega) (by omega) ec24 ?_
                      refine te_iconst (p2 := 119) (x := 3) rfl rfl (by decide) ?_
                      refine tb_ge (p2 := 122) rfl rfl rfl (show Int32.toInt 3 = 3 from rfl) (fun c34 => absurd c34 (by omega)) (fun c34 => ?_)
                      refine te_aload_n (p2 := 123) rfl rfl rfl ?_
                      refine te_dup (p2 := 124) rfl rfl rfl ?_
                      refine tg_e (p2 := 127) (i := 148) (v := .int at26) rfl rfl I24 rfl rfl ea26 ?_
                      refine te_iconst (p2 := 128) (x := 1) rfl rfl (by decide) ?_
                      refine ar_add (p2 := 129) rfl rfl rfl (show Int32.toInt 1 = 1 from rfl) (by omega) (by omega) (fun z35 e35 f35 => ?_)
                      refine tp_i (p2 := 132) (i := 148) rfl rfl I24 rfl rfl (by decide) rfl rfl rfl (by omega) (by omega) (by omega) rfl (fun h36 I36 u36 => ?_)
                      have f36 := fr_st (F := F_X12_line) 0 f24 u36 rfl (by decide) (by decide)
                      have pa37 : plM h36 = tsP (BM h) (plM h + ((wdF KW (cs (BM h) (plM h)) 0 0).2 : Int) + 1 + ((nuF (cs (BM h) (plM h + ((wdF KW (cs (BM h) (plM h)) 0 0).2 : Int) + 1))).2 : Int) + 4) + 1 := (plM_of u36.1).trans (show z35.toInt = tsP (BM h) (plM h + ((wdF KW (cs (BM h) (plM h)) 0 0).2 : Int) + 1 + ((nuF (cs (BM h) (plM h + ((wdF KW (cs (BM h) (plM h)) 0 0).2 : Int) + 1))).2 : Int) + 4) + 1 from (by (have h9 := (plM_of ea26).symm.trans (show plM _ = tsP (BM h) (plM h + ((wdF KW (cs (BM h) (plM h)) 0 0).2 : Int) + 1 + ((nuF (cs (BM h) (plM h + ((wdF KW (cs (BM h) (plM h)) 0 0).2 : Int) + 1))).2 : Int) + 4) from Qb24)); omega))
                      refine te_aload_n (p2 := 133) rfl rfl rfl ?_
                      refine te_iload_n (p2 := 134) rfl rfl rfl ?_
                      refine tc_V (p2 := 137) (i := 148) rfl rfl rfl rfl I36 rfl rfl rfl (c_X12_test (line := line) (gc := c24) I36 (by omega) (by omega) ((u36.2 _ _ (Or.inl (by decide))).trans ec24) (by omega) (by omega) (tbl_fr pr0 f36 (fun _ => rfl) (fun _ => rfl))) (by decide) (fun v38 h38 hq38 => ?_)
                      obtain ⟨I38, g38, y38, w38, Qa38, Qb38, Qc38, K38, L38⟩ := hq38
                      subst w38
                      rw [(BM_fr f36 rfl (fun _ => rfl)), pa37] at Qa38 Qb38 Qc38
                      have f38 := fr_tr (F1 := F_X12_test) (F := F_X12_line) f36 g38 (by decide)
                      rcases Qa38 with ⟨r38, O38⟩ | ⟨r38, O38⟩
                      · subst r38
                        obtain ⟨C38, c38, ec38, fc38⟩ := Qc38 rfl
                        show EvP _ _ _ (137, [(0, .ref 164), (1, .int line)], [.int 1], h38) _
                        refine tz_ne (p2 := 140) rfl rfl (show Int32.toInt 1 = 1 from rfl) (fun c39 => ?_) (fun c39 => absurd c39 (by omega))
                        refine te_aload_n (p2 := 104) rfl rfl rfl ?_
                        refine cV_pI (p2 := 107) (i := 148) rfl rfl rfl rfl I38 rfl rfl rfl (c_X12_byteHere I38) (by decide) (fun y40 r40 => ?_)
                        obtain ⟨rb40, at40, tp40, ea40, et40, aa40, ab40, ta40, tb40, r40⟩ := r40
                        rw [(BM_fr f38 rfl (fun _ => rfl)), Qb38] at rb40
                        have xtp40 : tp40 = tp6 := int_inj et40 ((g38 _ _ (by decide)).trans ((u36.2 _ _ (Or.inr (by decide))).trans ((g24 _ _ (by decide)).trans ((g22 _ _ (by decide)).trans ((u12.2 _ _ (Or.inl (by decide))).trans ((g11 _ _ (by decide)).trans ((u9.2 _ _ (Or.inr (by decide))).trans et6)))))))
                        rw [xtp40] at r40
                        rcases r40 with r40 | r40
                        · refine te_bipush (p2 := 109) (x := 38) rfl rfl (by decide) ?_
                          refine tb_ne (p2 := 112) rfl rfl rfl (show Int32.toInt 38 = 38 from rfl) (fun c41 => ?_) (fun c41 => ?_)
                          · refine te_aload_n (p2 := 143) rfl rfl rfl ?_
                            refine cV_pI (p2 := 146) (i := 148) rfl rfl rfl rfl I38 rfl rfl rfl (c_X12_byteHere I38) (by decide) (fun y42 r42 => ?_)
                            obtain ⟨rb42, at42, tp42, ea42, et42, aa42, ab42, ta42, tb42, r42⟩ := r42
                            rw [(BM_fr f38 rfl (fun _ => rfl)), Qb38] at rb42
                            have xat42 : at42 = at40 := int_inj ea42 ea40
                            rw [xat42] at r42
                            have xtp42 : tp42 = tp6 := int_inj et42 ((g38 _ _ (by decide)).trans ((u36.2 _ _ (Or.inr (by decide))).trans ((g24 _ _ (by decide)).trans ((g22 _ _ (by decide)).trans ((u12.2 _ _ (Or.inl (by decide))).trans ((g11 _ _ (by decide)).trans ((u9.2 _ _ (Or.inr (by decide))).trans et6)))))))
                            rw [xtp42] at r42
                            have ye42 : y42 = y40 := rb42.trans rb40.symm
                            rw [ye42]
                            show EvP _ _ _ (146, [(0, .ref 164), (1, .int line)], [.int y40], h38) _
                            refine te_bipush (p2 := 148) (x := 59) rfl rfl (by decide) ?_
                            refine tb_eq (p2 := 151) rfl rfl rfl (show Int32.toInt 59 = 59 from rfl) (fun c43 => ?_) (fun c43 => ?_)
                            · refine te_aload_n (p2 := 154) rfl rfl rfl ?_
                              refine te_dup (p2 := 155) rfl rfl rfl ?_
                              refine tg_e (p2 := 158) (i := 148) (v := .int at40) rfl rfl I38 rfl rfl ea40 ?_
                              refine te_iconst (p2 := 159) (x := 1) rfl rfl (by decide) ?_
                              refine ar_add (p2 := 160) rfl rfl rfl (show Int32.toInt 1 = 1 from rfl) (by omega) (by omega) (fun z44 e44 f44 => ?_)
                              refine tp_i (p2 := 163) (i := 148) rfl rfl I38 rfl rfl (by decide) rfl rfl rfl (by omega) (by omega) (by omega) rfl (fun h45 I45 u45 => ?_)
                              have f45 := fr_st (F := F_X12_line) 0 f38 u45 rfl (by decide) (by decide)
                              have pa46 : plM h45 = tsP (BM h) (tsP (BM h) (plM h + ((wdF KW (cs (BM h) (plM h)) 0 0).2 : Int) + 1 + ((nuF (cs (BM h) (plM h + ((wdF KW (cs (BM h) (plM h)) 0 0).2 : Int) + 1))).2 : Int) + 4) + 1) + 1 := (plM_of u45.1).trans (show z44.toInt = tsP (BM h) (tsP (BM h) (plM h + ((wdF KW (cs (BM h) (plM h)) 0 0).2 : Int) + 1 + ((nuF (cs (BM h) (plM h + ((wdF KW (cs (BM h) (plM h)) 0 0).2 : Int) + 1))).2 : Int) + 4) + 1) + 1 from (by (have h9 := (plM_of ea40).symm.trans (show plM _ = tsP (BM h) (tsP (BM h) (plM h + ((wdF KW (cs (BM h) (plM h)) 0 0).2 : Int) + 1 + ((nuF (cs (BM h) (plM h + ((wdF KW (cs (BM h) (plM h)) 0 0).2 : Int) + 1))).2 : Int) + 4) + 1) from Qb38)); omega))
                              refine te_iconst (p2 := 164) (x := 1) rfl rfl (by decide) ?_
                              exact te_zret rfl rfl (by decide) ⟨I45, f45, _, rfl, Or.inl ⟨rfl, (by rw [(show lnR (BM h) (plM h) = (2, tsP (BM h) (tsP (BM h) (plM h + ((wdF KW (cs (BM h) (plM h)) 0 0).2 : Int) + 1 + ((nuF (cs (BM h) (plM h + ((wdF KW (cs (BM h) (plM h)) 0 0).2 : Int) + 1))).2 : Int) + 4) + 1) + 1) from (by (have m1 := (show Int32.toInt (-1) = -1 from rfl)); (have q0 := Qa2); (have b0 : (BM h (plM h + ((wdF KW (cs (BM h) (plM h)) 0 0).2 : Int))).toInt = Int32.toInt y6 := congrArg Int32.toInt rb6.symm); (have b1 : (BM h (plM h + ((wdF KW (cs (BM h) (plM h)) 0 0).2 : Int) + 1 + ((nuF (cs (BM h) (plM h + ((wdF KW (cs (BM h) (plM h)) 0 0).2 : Int) + 1))).2 : Int))).toInt = Int32.toInt y15 := congrArg Int32.toInt rb15.symm); (have b2 : (BM h (tsP (BM h) (plM h + ((wdF KW (cs (BM h) (plM h)) 0 0).2 : Int) + 1 + ((nuF (cs (BM h) (plM h + ((wdF KW (cs (BM h) (plM h)) 0 0).2 : Int) + 1))).2 : Int) + 4))).toInt = Int32.toInt y26 := congrArg Int32.toInt rb26.symm); (have b3 : (BM h (tsP (BM h) (tsP (BM h) (plM h + ((wdF KW (cs (BM h) (plM h)) 0 0).2 : Int) + 1 + ((nuF (cs (BM h) (plM h + ((wdF KW (cs (BM h) (plM h)) 0 0).2 : Int) + 1))).2 : Int) + 4) + 1))).toInt = Int32.toInt y40 := congrArg Int32.toInt rb40.symm); (have q1 : _ = (lnN (BM h) (plM h)).1 := Qa11); unfold lnR; rw [if_neg (fun q => q (show lnH (BM h) (plM h) from ⟨by omega, (show (BM h (plM h + ((wdF KW (cs (BM h) (plM h)) 0 0).2 : Int))).toInt = 32 by omega)⟩)), if_neg (show ¬ (lnN (BM h) (plM h)).1 < 0 by omega), if_neg (show ¬ sc (BM h) (lnE (BM h) (plM h)) from (show ¬ (BM h (plM h + ((wdF KW (cs (BM h) (plM h)) 0 0).2 : Int) + 1 + ((nuF (cs (BM h) (plM h + ((wdF KW (cs (BM h) (plM h)) 0 0).2 : Int) + 1))).2 : Int))).toInt = 59 by omega)), if_neg (fun q => q (show lnI (BM h) (plM h) from c22))]; show ttR (BM h) (plM h + ((wdF KW (cs (BM h) (plM h)) 0 0).2 : Int) + 1 + ((nuF (cs (BM h) (plM h + ((wdF KW (cs (BM h) (plM h)) 0 0).2 : Int) + 1))).2 : Int) + 4) = _; unfold ttR tu3 tu2; rw [if_neg (fun q => q O24), if_neg (show ¬ sc (BM h) (tsP (BM h) (plM h + ((wdF KW (cs (BM h) (plM h)) 0 0).2 : Int) + 1 + ((nuF (cs (BM h) (plM h + ((wdF KW (cs (BM h) (plM h)) 0 0).2 : Int) + 1))).2 : Int) + 4)) from (show ¬ (BM h (tsP (BM h) (plM h + ((wdF KW (cs (BM h) (plM h)) 0 0).2 : Int) + 1 + ((nuF (cs (BM h) (plM h + ((wdF KW (cs (BM h) (plM h)) 0 0).2 : Int) + 1))).2 : Int) + 4))).toInt = 59 by omega)), if_neg (fun q => q (show am (BM h) (tsP (BM h) (plM h + ((wdF KW (cs (BM h) (plM h)) 0 0).2 : Int) + 1 + ((nuF (cs (BM h) (plM h + ((wdF KW (cs (BM h) (plM h)) 0 0).2 : Int) + 1))).2 : Int) + 4)) from (show (BM h (tsP (BM h) (plM h + ((wdF KW (cs (BM h) (plM h)) 0 0).2 : Int) + 1 + ((nuF (cs (BM h) (plM h + ((wdF KW (cs (BM h) (plM h)) 0 0).2 : Int) + 1))).2 : Int) + 4))).toInt = 38 by omega))), if_neg (fun q => q O38), if_pos (show sc (BM h) (tsP (BM h) (tsP (BM h) (plM h + ((wdF KW (cs (BM h) (plM h)) 0 0).2 : Int) + 1 + ((nuF (cs (BM h) (plM h + ((wdF KW (cs (BM h) (plM h)) 0 0).2 : Int) + 1))).2 : Int) + 4) + 1)) from (show (BM h (tsP (BM h) (tsP (BM h) (plM h + ((wdF KW (cs (BM h) (plM h)) 0 0).2 : Int) + 1 + ((nuF (cs (BM h) (plM h + ((wdF KW (cs (BM h) (plM h)) 0 0).2 : Int) + 1))).2 : Int) + 4) + 1))).toInt = 59 by omega))]))]; show (0 : Int) ≤ 2; decide)⟩, (by rw [(show lnR (BM h) (plM h) = (2, tsP (BM h) (tsP (BM h) (plM h + ((wdF KW (cs (BM h) (plM h)) 0 0).2 : Int) + 1 + ((nuF (cs (BM h) (plM h + ((wdF KW (cs (BM h) (plM h)) 0 0).2 : Int) + 1))).2 : Int) + 4) + 1) + 1) from (by (have m1 := (show Int32.toInt (-1) = -1 from rfl)); (have q0 := Qa2); (have b0 : (BM h (plM h + ((wdF KW (cs (BM h) (plM h)) 0 0).2 : Int))).toInt = Int32.toInt y6 := congrArg Int32.toInt rb6.symm); (have b1 : (BM h (plM h + ((wdF KW (cs (BM h) (plM h)) 0 0).2 : Int) + 1 + ((nuF (cs (BM h) (plM h + ((wdF KW (cs (BM h) (plM h)) 0 0).2 : Int) + 1))).2 : Int))).toInt = Int32.toInt y15 := congrArg Int32.toInt rb15.symm); (have b2 : (BM h (tsP (BM h) (plM h + ((wdF KW (cs (BM h) (plM h)) 0 0).2 : Int) + 1 + ((nuF (cs (BM h) (plM h + ((wdF KW (cs (BM h) (plM h)) 0 0).2 : Int) + 1))).2 : Int) + 4))).toInt = Int32.toInt y26 := congrArg Int32.toInt rb26.symm); (have b3 : (BM h (tsP (BM h) (tsP (BM h) (plM h + ((wdF KW (cs (BM h) (plM h)) 0 0).2 : Int) + 1 + ((nuF (cs (BM h) (plM h + ((wdF KW (cs (BM h) (plM h)) 0 0).2 : Int) + 1))).2 : Int) + 4) + 1))).toInt = Int32.toInt y40 := congrArg Int32.toInt rb40.symm); (have q1 : _ = (lnN (BM h) (plM h)).1 := Qa11); unfold lnR; rw [if_neg (fun q => q (show lnH (BM h) (plM h) from ⟨by omega, (show (BM h (plM h + ((wdF KW (cs (BM h) (plM h)) 0 0).2 : Int))).toInt = 32 by omega)⟩)), if_neg (show ¬ (lnN (BM h) (plM h)).1 < 0 by omega), if_neg (show ¬ sc (BM h) (lnE (BM h) (plM h)) from (show ¬ (BM h (plM h + ((wdF KW (cs (BM h) (plM h)) 0 0).2 : Int) + 1 + ((nuF (cs (BM h) (plM h + ((wdF KW (cs (BM h) (plM h)) 0 0).2 : Int) + 1))).2 : Int))).toInt = 59 by omega)), if_neg (fun q => q (show lnI (BM h) (plM h) from c22))]; show ttR (BM h) (plM h + ((wdF KW (cs (BM h) (plM h)) 0 0).2 : Int) + 1 + ((nuF (cs (BM h) (plM h + ((wdF KW (cs (BM h) (plM h)) 0 0).2 : Int) + 1))).2 : Int) + 4) = _; unfold ttR tu3 tu2; rw [if_neg (fun q => q O24), if_neg (show ¬ sc (BM h) (tsP (BM h) (plM h + ((wdF KW (cs (BM h) (plM h)) 0 0).2 : Int) + 1 + ((nuF (cs (BM h) (plM h + ((wdF KW (cs (BM h) (plM h)) 0 0).2 : Int) + 1))).2 : Int) + 4)) from (show ¬ (BM h (tsP (BM h) (plM h + ((wdF KW (cs (BM h) (plM h)) 0 0).2 : Int) + 1 + ((nuF (cs (BM h) (plM h + ((wdF KW (cs (BM h) (plM h)) 0 0).2 : Int) + 1))).2 : Int) + 4))).toInt = 59 by omega)), if_neg (fun q => q (show am (BM h) (tsP (BM h) (plM h + ((wdF KW (cs (BM h) (plM h)) 0 0).2 : Int) + 1 + ((nuF (cs (BM h) (plM h + ((wdF KW (cs (BM h) (plM h)) 0 0).2 : Int) + 1))).2 : Int) + 4)) from (show (BM h (tsP (BM h) (plM h + ((wdF KW (cs (BM h) (plM h)) 0 0).2 : Int) + 1 + ((nuF (cs (BM h) (plM h + ((wdF KW (cs (BM h) (plM h)) 0 0).2 : Int) + 1))).2 : Int) + 4))).toInt = 38 by omega))), if_neg (fun q => q O38), if_pos (show sc (BM h) (tsP (BM h) (tsP (BM h) (plM h + ((wdF KW (cs (BM h) (plM h)) 0 0).2 : Int) + 1 + ((nuF (cs (BM h) (plM h + ((wdF KW (cs (BM h) (plM h)) 0 0).2 : Int) + 1))).2 : Int) + 4) + 1)) from (show (BM h (tsP (BM h) (tsP (BM h) (plM h + ((wdF KW (cs (BM h) (plM h)) 0 0).2 : Int) + 1 + ((nuF (cs (BM h) (plM h + ((wdF KW (cs (BM h) (plM h)) 0 0).2 : Int) + 1))).2 : Int) + 4) + 1))).toInt = 59 by omega))])), show plM h45 = _ from pa46]), (fun _ => ⟨(by (have m1 := (show Int32.toInt (-1) = -1 from rfl)); (have q0 := Qa2); (have b0 : (BM h (plM h + ((wdF KW (cs (BM h) (plM h)) 0 0).2 : Int))).toInt = Int32.toInt y6 := congrArg Int32.toInt rb6.symm); (have b1 : (BM h (plM h + ((wdF KW (cs (BM h) (plM h)) 0 0).2 : Int) + 1 + ((nuF (cs (BM h) (plM h + ((wdF KW (cs (BM h) (plM h)) 0 0).2 : Int) + 1))).2 : Int))).toInt = Int32.toInt y15 := congrArg Int32.toInt rb15.symm); (have b2 : (BM h (tsP (BM h) (plM h + ((wdF KW (cs (BM h) (plM h)) 0 0).2 : Int) + 1 + ((nuF (cs (BM h) (plM h + ((wdF KW (cs (BM h) (plM h)) 0 0).2 : Int) + 1))).2 : Int) + 4))).toInt = Int32.toInt y26 := congrArg Int32.toInt rb26.symm); (have b3 : (BM h (tsP (BM h) (tsP (BM h) (plM h + ((wdF KW (cs (BM h) (plM h)) 0 0).2 : Int) + 1 + ((nuF (cs (BM h) (plM h + ((wdF KW (cs (BM h) (plM h)) 0 0).2 : Int) + 1))).2 : Int) + 4) + 1))).toInt = Int32.toInt y40 := congrArg Int32.toInt rb40.symm); (have q1 : _ = (lnN (BM h) (plM h)).1 := Qa11); exact ⟨_, _, c38, ((u45.2 _ _ (Or.inl (by decide))).trans ((g38 _ _ rfl).trans ((u36.2 _ _ (Or.inl (by decide))).trans ((g24 _ _ rfl).trans ((g22 _ _ rfl).trans ((u12.2 _ _ (Or.inl (by decide))).trans ((g11 _ _ rfl).trans ((u9.2 _ _ (Or.inl (by decide))).trans u3.1)))))))), q0, ((u45.2 _ _ (Or.inl (by decide))).trans ((g38 _ _ rfl).trans ((u36.2 _ _ (Or.inl (by decide))).trans ((g24 _ _ rfl).trans ((g22 _ _ rfl).trans u12.1))))), q1, ((u45.2 _ _ (Or.inl (by decide))).trans ec38), (by rw [(show lnR (BM h) (plM h) = (2, tsP (BM h) (tsP (BM h) (plM h + ((wdF KW (cs (BM h) (plM h)) 0 0).2 : Int) + 1 + ((nuF (cs (BM h) (plM h + ((wdF KW (cs (BM h) (plM h)) 0 0).2 : Int) + 1))).2 : Int) + 4) + 1) + 1) from (by (have m1 := (show Int32.toInt (-1) = -1 from rfl)); (have q0 := Qa2); (have b0 : (BM h (plM h + ((wdF KW (cs (BM h) (plM h)) 0 0).2 : Int))).toInt = Int32.toInt y6 := congrArg Int32.toInt rb6.symm); (have b1 : (BM h (plM h + ((wdF KW (cs (BM h) (plM h)) 0 0).2 : Int) + 1 + ((nuF (cs (BM h) (plM h + ((wdF KW (cs (BM h) (plM h)) 0 0).2 : Int) + 1))).2 : Int))).toInt = Int32.toInt y15 := congrArg Int32.toInt rb15.symm); (have b2 : (BM h (tsP (BM h) (plM h + ((wdF KW (cs (BM h) (plM h)) 0 0).2 : Int) + 1 + ((nuF (cs (BM h) (plM h + ((wdF KW (cs (BM h) (plM h)) 0 0).2 : Int) + 1))).2 : Int) + 4))).toInt = Int32.toInt y26 := congrArg Int32.toInt rb26.symm); (have b3 : (BM h (tsP (BM h) (tsP (BM h) (plM h + ((wdF KW (cs (BM h) (plM h)) 0 0).2 : Int) + 1 + ((nuF (cs (BM h) (plM h + ((wdF KW (cs (BM h) (plM h)) 0 0).2 : Int) + 1))).2 : Int) + 4) + 1))).toInt = Int32.toInt y40 := congrArg Int32.toInt rb40.symm); (have q1 : _ = (lnN (BM h) (plM h)).1 := Qa11); unfold lnR; rw [if_neg (fun q => q (show lnH (BM h) (plM h) from ⟨by omega, (show (BM h (plM h + ((wdF KW (cs (BM h) (plM h)) 0 0).2 : Int))).toInt = 32 by omega)⟩)), if_neg (show ¬ (lnN (BM h) (plM h)).1 < 0 by omega), if_neg (show ¬ sc (BM h) (lnE (BM h) (plM h)) from (show ¬ (BM h (plM h + ((wdF KW (cs (BM h) (plM h)) 0 0).2 : Int) + 1 + ((nuF (cs (BM h) (plM h + ((wdF KW (cs (BM h) (plM h)) 0 0).2 : Int) + 1))).2 : Int))).toInt = 59 by omega)), if_neg (fun q => q (show lnI (BM h) (plM h) from c22))]; show ttR (BM h) (plM h + ((wdF KW (cs (BM h) (plM h)) 0 0).2 : Int) + 1 + ((nuF (cs (BM h) (plM h + ((wdF KW (cs (BM h) (plM h)) 0 0).2 : Int) + 1))).2 : Int) + 4) = _; unfold ttR tu3 tu2; rw [if_neg (fun q => q O24), if_neg (show ¬ sc (BM h) (tsP (BM h) (plM h + ((wdF KW (cs (BM h) (plM h)) 0 0).2 : Int) + 1 + ((nuF (cs (BM h) (plM h + ((wdF KW (cs (BM h) (plM h)) 0 0).2 : Int) + 1))).2 : Int) + 4)) from (show ¬ (BM h (tsP (BM h) (plM h + ((wdF KW (cs (BM h) (plM h)) 0 0).2 : Int) + 1 + ((nuF (cs (BM h) (plM h + ((wdF KW (cs (BM h) (plM h)) 0 0).2 : Int) + 1))).2 : Int) + 4))).toInt = 59 by omega)), if_neg (fun q => q (show am (BM h) (tsP (BM h) (plM h + ((wdF KW (cs (BM h) (plM h)) 0 0).2 : Int) + 1 + ((nuF (cs (BM h) (plM h + ((wdF KW (cs (BM h) (plM h)) 0 0).2 : Int) + 1))).2 : Int) + 4)) from (show (BM h (tsP (BM h) (plM h + ((wdF KW (cs (BM h) (plM h)) 0 0).2 : Int) + 1 + ((nuF (cs (BM h) (plM h + ((wdF KW (cs (BM h) (plM h)) 0 0).2 : Int) + 1))).2 : Int) + 4))).toInt = 38 by omega))), if_neg (fun q => q O38), if_pos (show sc (BM h) (tsP (BM h) (tsP (BM h) (plM h + ((wdF KW (cs (BM h) (plM h)) 0 0).2 : Int) + 1 + ((nuF (cs (BM h) (plM h + ((wdF KW (cs (BM h) (plM h)) 0 0).2 : Int) + 1))).2 : Int) + 4) + 1)) from (show (BM h (tsP (BM h) (tsP (BM h) (plM h + ((wdF KW (cs (BM h) (plM h)) 0 0).2 : Int) + 1 + ((nuF (cs (BM h) (plM h + ((wdF KW (cs (BM h) (plM h)) 0 0).2 : Int) + 1))).2 : Int) + 4) + 1))).toInt = 59 by omega))]))]; show Int32.toInt c38 = 2; omega), (fun t ht => by (rw [(show lnR (BM h) (plM h) = (2, tsP (BM h) (tsP (BM h) (plM h + ((wdF KW (cs (BM h) (plM h)) 0 0).2 : Int) + 1 + ((nuF (cs (BM h) (plM h + ((wdF KW (cs (BM h) (plM h)) 0 0).2 : Int) + 1))).2 : Int) + 4) + 1) + 1) from (by (have m1 := (show Int32.toInt (-1) = -1 from rfl)); (have q0 := Qa2); (have b0 : (BM h (plM h + ((wdF KW (cs (BM h) (plM h)) 0 0).2 : Int))).toInt = Int32.toInt y6 := congrArg Int32.toInt rb6.symm); (have b1 : (BM h (plM h + ((wdF KW (cs (BM h) (plM h)) 0 0).2 : Int) + 1 + ((nuF (cs (BM h) (plM h + ((wdF KW (cs (BM h) (plM h)) 0 0).2 : Int) + 1))).2 : Int))).toInt = Int32.toInt y15 := congrArg Int32.toInt rb15.symm); (have b2 : (BM h (tsP (BM h) (plM h + ((wdF KW (cs (BM h) (plM h)) 0 0).2 : Int) + 1 + ((nuF (cs (BM h) (plM h + ((wdF KW (cs (BM h) (plM h)) 0 0).2 : Int) + 1))).2 : Int) + 4))).toInt = Int32.toInt y26 := congrArg Int32.toInt rb26.symm); (have b3 : (BM h (tsP (BM h) (tsP (BM h) (plM h + ((wdF KW (cs (BM h) (plM h)) 0 0).2 : Int) + 1 + ((nuF (cs (BM h) (plM h + ((wdF KW (cs (BM h) (plM h)) 0 0).2 : Int) + 1))).2 : Int) + 4) + 1))).toInt = Int32.toInt y40 := congrArg Int32.toInt rb40.symm); (have q1 : _ = (lnN (BM h) (plM h)).1 := Qa11); unfold lnR; rw [if_neg (fun q => q (show lnH (BM h) (plM h) from ⟨by omega, (show (BM h (plM h + ((wdF KW (cs (BM h) (plM h)) 0 0).2 : Int))).toInt = 32 by omega)⟩)), if_neg (show ¬ (lnN (BM h) (plM h)).1 < 0 by omega), if_neg (show ¬ sc (BM h) (lnE (BM h) (plM h)) from (show ¬ (BM h (plM h + ((wdF KW (cs (BM h) (plM h)) 0 0).2 : Int) + 1 + ((nuF (cs (BM h) (plM h + ((wdF KW (cs (BM h) (plM h)) 0 0).2 : Int) + 1))).2 : Int))).toInt = 59 by omega)), if_neg (fun q => q (show lnI (BM h) (plM h) from c22))]; show ttR (BM h) (plM h + ((wdF KW (cs (BM h) (plM h)) 0 0).2 : Int) + 1 + ((nuF (cs (BM h) (plM h + ((wdF KW (cs (BM h) (plM h)) 0 0).2 : Int) + 1))).2 : Int) + 4) = _; unfold ttR tu3 tu2; rw [if_neg (fun q => q O24), if_neg (show ¬ sc (BM h) (tsP (BM h) (plM h + ((wdF KW (cs (BM h) (plM h)) 0 0).2 : Int) + 1 + ((nuF (cs (BM h) (plM h + ((wdF KW (cs (BM h) (plM h)) 0 0).2 : Int) + 1))).2 : Int) + 4)) from (show ¬ (BM h (tsP (BM h) (plM h + ((wdF KW (cs (BM h) (plM h)) 0 0).2 : Int) + 1 + ((nuF (cs (BM h) (plM h + ((wdF KW (cs (BM h) (plM h)) 0 0).2 : Int) + 1))).2 : Int) + 4))).toInt = 59 by omega)), if_neg (fun q => q (show am (BM h) (tsP (BM h) (plM h + ((wdF KW (cs (BM h) (plM h)) 0 0).2 : Int) + 1 + ((nuF (cs (BM h) (plM h + ((wdF KW (cs (BM h) (plM h)) 0 0).2 : Int) + 1))).2 : Int) + 4)) from (show (BM h (tsP (BM h) (plM h + ((wdF KW (cs (BM h) (plM h)) 0 0).2 : Int) + 1 + ((nuF (cs (BM h) (plM h + ((wdF KW (cs (BM h) (plM h)) 0 0).2 : Int) + 1))).2 : Int) + 4))).toInt = 38 by omega))), if_neg (fun q => q O38), if_pos (show sc (BM h) (tsP (BM h) (tsP (BM h) (plM h + ((wdF KW (cs (BM h) (plM h)) 0 0).2 : Int) + 1 + ((nuF (cs (BM h) (plM h + ((wdF KW (cs (BM h) (plM h)) 0 0).2 : Int) + 1))).2 : Int) + 4) + 1)) from (show (BM h (tsP (BM h) (tsP (BM h) (plM h + ((wdF KW (cs (BM h) (plM h)) 0 0).2 : Int) + 1 + ((nuF (cs (BM h) (plM h + ((wdF KW (cs (BM h) (plM h)) 0 0).2 : Int) + 1))).2 : Int) + 4) + 1))).toInt = 59 by omega))]))] at ht); (rcases (show t = 0 ∨ t = 1 by (have ht : (t : Int) < 2 := ht); omega) with rfl | rfl); (· (have h9 := tsM_e C24 ((u45.2 _ _ (Or.inl (by decide))).trans ((K38 _ (by omega)).1.trans (u36.2 _ _ (Or.inl (by decide))))) ((u45.2 _ _ (Or.inl (by decide))).trans ((K38 _ (by omega)).2.1.trans (u36.2 _ _ (Or.inl (by decide))))) ((u45.2 _ _ (Or.inl (by decide))).trans ((K38 _ (by omega)).2.2.trans (u36.2 _ _ (Or.inl (by decide)))))); (have cz : 3 * line.toInt.toNat + (Int32.toInt 0).toNat = 3 * line.toInt.toNat + 0 := (by omega)); rw [cz] at h9; exact h9); (· (have h9 := tsM_e C38 (u45.2 _ _ (Or.inl (by decide))) (u45.2 _ _ (Or.inl (by decide))) (u45.2 _ _ (Or.inl (by decide)))); (have cz : 3 * line.toInt.toNat + (Int32.toInt c24).toNat = 3 * line.toInt.toNat + 1 := (by omega)); rw [cz] at h9; exact h9))⟩), (by rw [show plM h45 = _ from pa46]; (have h9 := (plM_of u45.1).symm.trans pa46); rw [rv_of ((f45 148 45 rfl).symm.trans ((u45.2 _ _ (Or.inr (by decide))).trans ((g38 _ _ (by decide)).trans ((u36.2 _ _ (Or.inr (by decide))).trans ((g24 _ _ (by decide)).trans ((g22 _ _ (by decide)).trans ((u12.2 _ _ (Or.inl (by decide))).trans ((g11 _ _ (by decide)).trans ((u9.2 _ _ (Or.inr (by decide))).trans et6)))))))))]; omega)⟩), (fun m hm => ⟨((u45.2 _ _ (Or.inl (by decide))).trans ((g38 _ _ rfl).trans ((u36.2 _ _ (Or.inl (by decide))).trans ((g24 _ _ rfl).trans ((g22 _ _ rfl).trans ((u12.2 _ _ (Or.inl (by decide))).trans ((g11 _ _ rfl).trans ((u9.2 _ _ (Or.inl (by decide))).trans ((u3.2 _ _ (Or.inr (by omega))).trans ((g2 _ _ rfl).trans (u1.2 _ _ (Or.inl (by decide))))))))))))), ((u45.2 _ _ (Or.inl (by decide))).trans ((g38 _ _ rfl).trans ((u36.2 _ _ (Or.inl (by decide))).trans ((g24 _ _ rfl).trans ((g22 _ _ rfl).trans ((u12.2 _ _ (Or.inr (by omega))).trans ((g11 _ _ rfl).trans ((u9.2 _ _ (Or.inl (by decide))).trans ((u3.2 _ _ (Or.inl (by decide))).trans ((g2 _ _ rfl).trans (u1.2 _ _ (Or.inl (by decide))))))))))))), ((u45.2 _ _ (Or.inl (by decide))).trans ((L38 _ (by omega)).trans ((u36.2 _ _ (Or.inl (by decide))).trans ((L24 _ (by omega)).trans ((g22 _ _ rfl).trans ((u12.2 _ _ (Or.inl (by decide))).trans ((g11 _ _ rfl).trans ((u9.2 _ _ (Or.inl (by decide))).trans ((u3.2 _ _ (Or.inl (by decide))).trans ((g2 _ _ rfl).trans (u1.2 _ _ (Or.inr (by omega)))))))))))))⟩), (fun m hm => ⟨((u45.2 _ _ (Or.inl (by decide))).trans ((K38 _ (by omega)).1.trans ((u36.2 _ _ (Or.inl (by decide))).trans ((K24 _ (by omega)).1.trans ((g22 _ _ rfl).trans ((u12.2 _ _ (Or.inl (by decide))).trans ((g11 _ _ rfl).trans ((u9.2 _ _ (Or.inl (by decide))).trans ((u3.2 _ _ (Or.inl (by decide))).trans ((g2 _ _ rfl).trans (u1.2 _ _ (Or.inl (by decide))))))))))))), ((u45.2 _ _ (Or.inl (by decide))).trans ((K38 _ (by omega)).2.1.trans ((u36.2 _ _ (Or.inl (by decide))).trans ((K24 _ (by omega)).2.1.trans ((g22 _ _ rfl).trans ((u12.2 _ _ (Or.inl (by decide))).trans ((g11 _ _ rfl).trans ((u9.2 _ _ (Or.inl (by decide))).trans ((u3.2 _ _ (Or.inl (by decide))).trans ((g2 _ _ rfl).trans (u1.2 _ _ (Or.inl (by decide))))))))))))), ((u45.2 _ _ (Or.inl (by decide))).trans ((K38 _ (by omega)).2.2.trans ((u36.2 _ _ (Or.inl (by decide))).trans ((K24 _ (by omega)).2.2.trans ((g22 _ _ rfl).trans ((u12.2 _ _ (Or.inl (by decide))).trans ((g11 _ _ rfl).trans ((u9.2 _ _ (Or.inl (by decide))).trans ((u3.2 _ _ (Or.inl (by decide))).trans ((g2 _ _ rfl).trans (u1.2 _ _ (Or.inl (by decide)))))))))))))⟩)⟩
                            · refine te_iconst (p2 := 152) (x := 0) rfl rfl (by decide) ?_
                              exact te_zret rfl rfl (by decide) ⟨I38, f38, _, rfl, Or.inr ⟨rfl, (by rw [(show lnR (BM h) (plM h) = (-1, tsP (BM h) (tsP (BM h) (plM h + ((wdF KW (cs (BM h) (plM h)) 0 0).2 : Int) + 1 + ((nuF (cs (BM h) (plM h + ((wdF KW (cs (BM h) (plM h)) 0 0).2 : Int) + 1))).2 : Int) + 4) + 1)) from (by (have m1 := (show Int32.toInt (-1) = -1 from rfl)); (have q0 := Qa2); (have b0 : (BM h (plM h + ((wdF KW (cs (BM h) (plM h)) 0 0).2 : Int))).toInt = Int32.toInt y6 := congrArg Int32.toInt rb6.symm); (have b1 : (BM h (plM h + ((wdF KW (cs (BM h) (plM h)) 0 0).2 : Int) + 1 + ((nuF (cs (BM h) (plM h + ((wdF KW (cs (BM h) (plM h)) 0 0).2 : Int) + 1))).2 : Int))).toInt = Int32.toInt y15 := congrArg Int32.toInt rb15.symm); (have b2 : (BM h (tsP (BM h) (plM h + ((wdF KW (cs (BM h) (plM h)) 0 0).2 : Int) + 1 + ((nuF (cs (BM h) (plM h + ((wdF KW (cs (BM h) (plM h)) 0 0).2 : Int) + 1))).2 : Int) + 4))).toInt = Int32.toInt y26 := congrArg Int32.toInt rb26.symm); (have b3 : (BM h (tsP (BM h) (tsP (BM h) (plM h + ((wdF KW (cs (BM h) (plM h)) 0 0).2 : Int) + 1 + ((nuF (cs (BM h) (plM h + ((wdF KW (cs (BM h) (plM h)) 0 0).2 : Int) + 1))).2 : Int) + 4) + 1))).toInt = Int32.toInt y40 := congrArg Int32.toInt rb40.symm); (have q1 : _ = (lnN (BM h) (plM h)).1 := Qa11); unfold lnR; rw [if_neg (fun q => q (show lnH (BM h) (plM h) from ⟨by omega, (show (BM h (plM h + ((wdF KW (cs (BM h) (plM h)) 0 0).2 : Int))).toInt = 32 by omega)⟩)), if_neg (show ¬ (lnN (BM h) (plM h)).1 < 0 by omega), if_neg (show ¬ sc (BM h) (lnE (BM h) (plM h)) from (show ¬ (BM h (plM h + ((wdF KW (cs (BM h) (plM h)) 0 0).2 : Int) + 1 + ((nuF (cs (BM h) (plM h + ((wdF KW (cs (BM h) (plM h)) 0 0).2 : Int) + 1))).2 : Int))).toInt = 59 by omega)), if_neg (fun q => q (show lnI (BM h) (plM h) from c22))]; show ttR (BM h) (plM h + ((wdF KW (cs (BM h) (plM h)) 0 0).2 : Int) + 1 + ((nuF (cs (BM h) (plM h + ((wdF KW (cs (BM h) (plM h)) 0 0).2 : Int) + 1))).2 : Int) + 4) = _; unfold ttR tu3 tu2; rw [if_neg (fun q => q O24), if_neg (show ¬ sc (BM h) (tsP (BM h) (plM h + ((wdF KW (cs (BM h) (plM h)) 0 0).2 : Int) + 1 + ((nuF (cs (BM h) (plM h + ((wdF KW (cs (BM h) (plM h)) 0 0).2 : Int) + 1))).2 : Int) + 4)) from (show ¬ (BM h (tsP (BM h) (plM h + ((wdF KW (cs (BM h) (plM h)) 0 0).2 : Int) + 1 + ((nuF (cs (BM h) (plM h + ((wdF KW (cs (BM h) (plM h)) 0 0).2 : Int) + 1))).2 : Int) + 4))).toInt = 59 by omega)), if_neg (fun q => q (show am (BM h) (tsP (BM h) (plM h + ((wdF KW (cs (BM h) (plM h)) 0 0).2 : Int) + 1 + ((nuF (cs (BM h) (plM h + ((wdF KW (cs (BM h) (plM h)) 0 0).2 : Int) + 1))).2 : Int) + 4)) from (show (BM h (tsP (BM h) (plM h + ((wdF KW (cs (BM h) (plM h)) 0 0).2 : Int) + 1 + ((nuF (cs (BM h) (plM h + ((wdF KW (cs (BM h) (plM h)) 0 0).2 : Int) + 1))).2 : Int) + 4))).toInt = 38 by omega))), if_neg (fun q => q O38), if_neg (show ¬ sc (BM h) (tsP (BM h) (tsP (BM h) (plM h + ((wdF KW (cs (BM h) (plM h)) 0 0).2 : Int) + 1 + ((nuF (cs (BM h) (plM h + ((wdF KW (cs (BM h) (plM h)) 0 0).2 : Int) + 1))).2 : Int) + 4) + 1)) from (show ¬ (BM h (tsP (BM h) (tsP (BM h) (plM h + ((wdF KW (cs (BM h) (plM h)) 0 0).2 : Int) + 1 + ((nuF (cs (BM h) (plM h + ((wdF KW (cs (BM h) (plM h)) 0 0).2 : Int) + 1))).2 : Int) + 4) + 1))).toInt = 59 by omega)), if_pos (show ¬ am (BM h) (tsP (BM h) (tsP (BM h) (plM h + ((wdF KW (cs (BM h) (plM h)) 0 0).2 : Int) + 1 + ((nuF (cs (BM h) (plM h + ((wdF KW (cs (BM h) (plM h)) 0 0).2 : Int) + 1))).2 : Int) + 4) + 1)) from (show ¬ (BM h (tsP (BM h) (tsP (BM h) (plM h + ((wdF KW (cs (BM h) (plM h)) 0 0).2 : Int) + 1 + ((nuF (cs (BM h) (plM h + ((wdF KW (cs (BM h) (plM h)) 0 0).2 : Int) + 1))).2 : Int) + 4) + 1))).toInt = 38 by omega))]))]; show (-1 : Int) < 0; decide)⟩, (by rw [(show lnR (BM h) (plM h) = (-1, tsP (BM h) (tsP (BM h) (plM h + ((wdF KW (cs (BM h) (plM h)) 0 0).2 : Int) + 1 + ((nuF (cs (BM h) (plM h + ((wdF KW (cs (BM h) (plM h)) 0 0).2 : Int) + 1))).2 : Int) + 4) + 1)) from (by (have m1 := (show Int32.toInt (-1) = -1 from rfl)); (have q0 := Qa2); (have b0 : (BM h (plM h + ((wdF KW (cs (BM h) (plM h)) 0 0).2 : Int))).toInt = Int32.toInt y6 := congrArg Int32.toInt rb6.symm); (have b1 : (BM h (plM h + ((wdF KW (cs (BM h) (plM h)) 0 0).2 : Int) + 1 + ((nuF (cs (BM h) (plM h + ((wdF KW (cs (BM h) (plM h)) 0 0).2 : Int) + 1))).2 : Int))).toInt = Int32.toInt y15 := congrArg Int32.toInt rb15.symm); (have b2 : (BM h (tsP (BM h) (plM h + ((wdF KW (cs (BM h) (plM h)) 0 0).2 : Int) + 1 + ((nuF (cs (BM h) (plM h + ((wdF KW (cs (BM h) (plM h)) 0 0).2 : Int) + 1))).2 : Int) + 4))).toInt = Int32.toInt y26 := congrArg Int32.toInt rb26.symm); (have b3 : (BM h (tsP (BM h) (tsP (BM h) (plM h + ((wdF KW (cs (BM h) (plM h)) 0 0).2 : Int) + 1 + ((nuF (cs (BM h) (plM h + ((wdF KW (cs (BM h) (plM h)) 0 0).2 : Int) + 1))).2 : Int) + 4) + 1))).toInt = Int32.toInt y40 := congrArg Int32.toInt rb40.symm); (have q1 : _ = (lnN (BM h) (plM h)).1 := Qa11); unfold lnR; rw [if_neg (fun q => q (show lnH (BM h) (plM h) from ⟨by omega, (show (BM h (plM h + ((wdF KW (cs (BM h) (plM h)) 0 0).2 : Int))).toInt = 32 by omega)⟩)), if_neg (show ¬ (lnN (BM h) (plM h)).1 < 0 by omega), if_neg (show ¬ sc (BM h) (lnE (BM h) (plM h)) from (show ¬ (BM h (plM h + ((wdF KW (cs (BM h) (plM h)) 0 0).2 : Int) + 1 + ((nuF (cs (BM h) (plM h + ((wdF KW (cs (BM h) (plM h)) 0 0).2 : Int) + 1))).2 : Int))).toInt = 59 by omega)), if_neg (fun q => q (show lnI (BM h) (plM h) from c22))]; show ttR (BM h) (plM h + ((wdF KW (cs (BM h) (plM h)) 0 0).2 : Int) + 1 + ((nuF (cs (BM h) (plM h + ((wdF KW (cs (BM h) (plM h)) 0 0).2 : Int) + 1))).2 : Int) + 4) = _; unfold ttR tu3 tu2; rw [if_neg (fun q => q O24), if_neg (show ¬ sc (BM h) (tsP (BM h) (plM h + ((wdF KW (cs (BM h) (plM h)) 0 0).2 : Int) + 1 + ((nuF (cs (BM h) (plM h + ((wdF KW (cs (BM h) (plM h)) 0 0).2 : Int) + 1))).2 : Int) + 4)) from (show ¬ (BM h (tsP (BM h) (plM h + ((wdF KW (cs (BM h) (plM h)) 0 0).2 : Int) + 1 + ((nuF (cs (BM h) (plM h + ((wdF KW (cs (BM h) (plM h)) 0 0).2 : Int) + 1))).2 : Int) + 4))).toInt = 59 by omega)), if_neg (fun q => q (show am (BM h) (tsP (BM h) (plM h + ((wdF KW (cs (BM h) (plM h)) 0 0).2 : Int) + 1 + ((nuF (cs (BM h) (plM h + ((wdF KW (cs (BM h) (plM h)) 0 0).2 : Int) + 1))).2 : Int) + 4)) from (show (BM h (tsP (BM h) (plM h + ((wdF KW (cs (BM h) (plM h)) 0 0).2 : Int) + 1 + ((nuF (cs (BM h) (plM h + ((wdF KW (cs (BM h) (plM h)) 0 0).2 : Int) + 1))).2 : Int) + 4))).toInt = 38 by omega))), if_neg (fun q => q O38), if_neg (show ¬ sc (BM h) (tsP (BM h) (tsP (BM h) (plM h + ((wdF KW (cs (BM h) (plM h)) 0 0).2 : Int) + 1 + ((nuF (cs (BM h) (plM h + ((wdF KW (cs (BM h) (plM h)) 0 0).2 : Int) + 1))).2 : Int) + 4) + 1)) from (show ¬ (BM h (tsP (BM h) (tsP (BM h) (plM h + ((wdF KW (cs (BM h) (plM h)) 0 0).2 : Int) + 1 + ((nuF (cs (BM h) (plM h + ((wdF KW (cs (BM h) (plM h)) 0 0).2 : Int) + 1))).2 : Int) + 4) + 1))).toInt = 59 by omega)), if_pos (show ¬ am (BM h) (tsP (BM h) (tsP (BM h) (plM h + ((wdF KW (cs (BM h) (plM h)) 0 0).2 : Int) + 1 + ((nuF (cs (BM h) (plM h + ((wdF KW (cs (BM h) (plM h)) 0 0).2 : Int) + 1))).2 : Int) + 4) + 1)) from (show ¬ (BM h (tsP (BM h) (tsP (BM h) (plM h + ((wdF KW (cs (BM h) (plM h)) 0 0).2 : Int) + 1 + ((nuF (cs (BM h) (plM h + ((wdF KW (cs (BM h) (plM h)) 0 0).2 : Int) + 1))).2 : Int) + 4) + 1))).toInt = 38 by omega))])), show plM h38 = _ from Qb38]), (fun h9 => absurd h9 (by decide)), (fun m hm => ⟨((g38 _ _ rfl).trans ((u36.2 _ _ (Or.inl (by decide))).trans ((g24 _ _ rfl).trans ((g22 _ _ rfl).trans ((u12.2 _ _ (Or.inl (by decide))).trans ((g11 _ _ rfl).trans ((u9.2 _ _ (Or.inl (by decide))).trans ((u3.2 _ _ (Or.inr (by omega))).trans ((g2 _ _ rfl).trans (u1.2 _ _ (Or.inl (by decide)))))))))))), ((g38 _ _ rfl).trans ((u36.2 _ _ (Or.inl (by decide))).trans ((g24 _ _ rfl).trans ((g22 _ _ rfl).trans ((u12.2 _ _ (Or.inr (by omega))).trans ((g11 _ _ rfl).trans ((u9.2 _ _ (Or.inl (by decide))).trans ((u3.2 _ _ (Or.inl (by decide))).trans ((g2 _ _ rfl).trans (u1.2 _ _ (Or.inl (by decide)))))))))))), ((L38 _ (by omega)).trans ((u36.2 _ _ (Or.inl (by decide))).trans ((L24 _ (by omega)).trans ((g22 _ _ rfl).trans ((u12.2 _ _ (Or.inl (by decide))).trans ((g11 _ _ rfl).trans ((u9.2 _ _ (Or.inl (by decide))).trans ((u3.2 _ _ (Or.inl (by decide))).trans ((g2 _ _ rfl).trans (u1.2 _ _ (Or.inr (by omega))))))))))))⟩), (fun m hm => ⟨((K38 _ (by omega)).1.trans ((u36.2 _ _ (Or.inl (by decide))).trans ((K24 _ (by omega)).1.trans ((g22 _ _ rfl).trans ((u12.2 _ _ (Or.inl (by decide))).trans ((g11 _ _ rfl).trans ((u9.2 _ _ (Or.inl (by decide))).trans ((u3.2 _ _ (Or.inl (by decide))).trans ((g2 _ _ rfl).trans (u1.2 _ _ (Or.inl (by decide)))))))))))), ((K38 _ (by omega)).2.1.trans ((u36.2 _ _ (Or.inl (by decide))).trans ((K24 _ (by omega)).2.1.trans ((g22 _ _ rfl).trans ((u12.2 _ _ (Or.inl (by decide))).trans ((g11 _ _ rfl).trans ((u9.2 _ _ (Or.inl (by decide))).trans ((u3.2 _ _ (Or.inl (by decide))).trans ((g2 _ _ rfl).trans (u1.2 _ _ (Or.inl (by decide)))))))))))), ((K38 _ (by omega)).2.2.trans ((u36.2 _ _ (Or.inl (by decide))).trans ((K24 _ (by omega)).2.2.trans ((g22 _ _ rfl).trans ((u12.2 _ _ (Or.inl (by decide))).trans ((g11 _ _ rfl).trans ((u9.2 _ _ (Or.inl (by decide))).trans ((u3.2 _ _ (Or.inl (by decide))).trans ((g2 _ _ rfl).trans (u1.2 _ _ (Or.inl (by decide))))))))))))⟩)⟩
                          · refine te_aload_n (p2 := 113) rfl rfl rfl ?_
                            refine tg_r (p2 := 116) (i := 148) (r := 204) rfl rfl I38 rfl rfl rfl ?_
                            refine te_iload_n (p2 := 117) rfl rfl rfl ?_
                            refine tl_e (p2 := 118) (i := 188) (n := 48) (t := 0) (Or.inl rfl) rfl rfl I38 rfl rfl (by omega) (by omega) ec38 ?_
                            refine te_iconst (p2 := 119) (x := 3) rfl rfl (by decide) ?_
                            refine tb_ge (p2 := 122) rfl rfl rfl (show Int32.toInt 3 = 3 from rfl) (fun c48 => absurd c48 (by omega)) (fun c48 => ?_)
                            refine te_aload_n (p2 := 123) rfl rfl rfl ?_
                            refine te_dup (p2 := 124) rfl rfl rfl ?_
                            refine tg_e (p2 := 127) (i := 148) (v := .int at40) rfl rfl I38 rfl rfl ea40 ?_
                            refine te_iconst (p2 := 128) (x := 1) rfl rfl (by decide) ?_
                            refine ar_add (p2 := 129) rfl rfl rfl (show Int32.toInt 1 = 1 from rfl) (by omega) (by omega) (fun z49 e49 f49 => ?_)
                            refine tp_i (p2 := 132) (i := 148) rfl rfl I38 rfl rfl (by decide) rfl rfl rfl (by omega) (by omega) (by omega) rfl (fun h50 I50 u50 => ?_)
                            have f50 := fr_st (F := F_X12_line) 0 f38 u50 rfl (by decide) (by decide)
                            have pa51 : plM h50 = tsP (BM h) (tsP (BM h) (plM h + ((wdF KW (cs (BM h) (plM h)) 0 0).2 : Int) + 1 + ((nuF (cs (BM h) (plM h + ((wdF KW (cs (BM h) (plM h)) 0 0).2 : Int) + 1))).2 : Int) + 4) + 1) + 1 := (plM_of u50.1).trans (show z49.toInt = tsP (BM h) (tsP (BM h) (plM h + ((wdF KW (cs (BM h) (plM h)) 0 0).2 : Int) + 1 + ((nuF (cs (BM h) (plM h + ((wdF KW (cs (BM h) (plM h)) 0 0).2 : Int) + 1))).2 : Int) + 4) + 1) + 1 from (by (have h9 := (plM_of ea40).symm.trans (show plM _ = tsP (BM h) (tsP (BM h) (plM h + ((wdF KW (cs (BM h) (plM h)) 0 0).2 : Int) + 1 + ((nuF (cs (BM h) (plM h + ((wdF KW (cs (BM h) (plM h)) 0 0).2 : Int) + 1))).2 : Int) + 4) + 1) from Qb38)); omega))
                            refine te_aload_n (p2 := 133) rfl rfl rfl ?_
                            refine te_iload_n (p2 := 134) rfl rfl rfl ?_
                            refine tc_V (p2 := 137) (i := 148) rfl rfl rfl rfl I50 rfl rfl rfl (c_X12_test (line := line) (gc := c38) I50 (by omega) (by omega) ((u50.2 _ _ (Or.inl (by decide))).trans ec38) (by omega) (by omega) (tbl_fr pr0 f50 (fun _ => rfl) (fun _ => rfl))) (by decide) (fun v52 h52 hq52 => ?_)
                            obtain ⟨I52, g52, y52, w52, Qa52, Qb52, Qc52, K52, L52⟩ := hq52
                            subst w52
                            rw [(BM_fr f50 rfl (fun _ => rfl)), pa51] at Qa52 Qb52 Qc52
                            have f52 := fr_tr (F1 := F_X12_test) (F := F_X12_line) f50 g52 (by decide)
                            rcases Qa52 with ⟨r52, O52⟩ | ⟨r52, O52⟩
                            · subst r52
                              obtain ⟨C52, c52, ec52, fc52⟩ := Qc52 rfl
                              show EvP _ _ _ (137, [(0, .ref 164), (1, .int line)], [.int 1], h52) _
                              refine tz_ne (p2 := 140) rfl rfl (show Int32.toInt 1 = 1 from rfl) (fun c53 => ?_) (fun c53 => absurd c53 (by omega))
                              refine te_aload_n (p2 := 104) rfl rfl rfl ?_
                              refine cV_pI (p2 := 107) (i := 148) rfl rfl rfl rfl I52 rfl rfl rfl (c_X12_byteHere I52) (by decide) (fun y54 r54 => ?_)
                              obtain ⟨rb54, at54, tp54, ea54, et54, aa54, ab54, ta54, tb54, r54⟩ := r54
                              rw [(BM_fr f52 rfl (fun _ => rfl)), Qb52] at rb54
                              have xtp54 : tp54 = tp6 := int_inj et54 ((g52 _ _ (by decide)).trans ((u50.2 _ _ (Or.inr (by decide))).trans ((g38 _ _ (by decide)).trans ((u36.2 _ _ (Or.inr (by decide))).trans ((g24 _ _ (by decide)).trans ((g22 _ _ (by decide)).trans ((u12.2 _ _ (Or.inl (by decide))).trans ((g11 _ _ (by decide)).trans ((u9.2 _ _ (Or.inr (by decide))).trans et6)))))))))
                              rw [xtp54] at r54
                              rcases r54 with r54 | r54
                              · refine te_bipush (p2 := 109) (x := 38) rfl rfl (by decide) ?_
                                refine tb_ne (p2 := 112) rfl rfl rfl (show Int32.toInt 38 = 38 from rfl) (fun c55 => ?_) (fun c55 => ?_)
                                · refine te_aload_n (p2 := 143) rfl rfl rfl ?_
                                  refine cV_pI (p2 := 146) (i := 148) rfl rfl rfl rfl I52 rfl rfl rfl (c_X12_byteHere I52) (by decide) (fun y56 r56 => ?_)
                                  obtain ⟨rb56, at56, tp56, ea56, et56, aa56, ab56, ta56, tb56, r56⟩ := r56
                                  rw [(BM_fr f52 rfl (fun _ => rfl)), Qb52] at rb56
                                  have xat56 : at56 = at54 := int_inj ea56 ea54
                                  rw [xat56] at r56
                                  have xtp56 : tp56 = tp6 := int_inj et56 ((g52 _ _ (by decide)).trans ((u50.2 _ _ (Or.inr (by decide))).trans ((g38 _ _ (by decide)).trans ((u36.2 _ _ (Or.inr (by decide))).trans ((g24 _ _ (by decide)).trans ((g22 _ _ (by decide)).trans ((u12.2 _ _ (Or.inl (by decide))).trans ((g11 _ _ (by decide)).trans ((u9.2 _ _ (Or.inr (by decide))).trans et6)))))))))
                                  rw [xtp56] at r56
                                  have ye56 : y56 = y54 := rb56.trans rb54.symm
                                  rw [ye56]
                                  show EvP _ _ _ (146, [(0, .ref 164), (1, .int line)], [.int y54], h52) _
                                  refine te_bipush (p2 := 148) (x := 59) rfl rfl (by decide) ?_
                                  refine tb_eq (p2 := 151) rfl rfl rfl (show Int32.toInt 59 = 59 from rfl) (fun c57 => ?_) (fun c57 => ?_)
                                  · refine te_aload_n (p2 := 154) rfl rfl rfl ?_
                                    refine te_dup (p2 := 155) rfl rfl rfl ?_
                                    refine tg_e (p2 := 158) (i := 148) (v := .int at54) rfl rfl I52 rfl rfl ea54 ?_
                                    refine te_iconst (p2 := 159) (x := 1) rfl rfl (by decide) ?_
                                    refine ar_add (p2 := 160) rfl rfl rfl (show Int32.toInt 1 = 1 from rfl) (by omega) (by omega) (fun z58 e58 f58 => ?_)
                                    refine tp_i (p2 := 163) (i := 148) rfl rfl I52 rfl rfl (by decide) rfl rfl rfl (by omega) (by omega) (by omega) rfl (fun h59 I59 u59 => ?_)
                                    have f59 := fr_st (F := F_X12_line) 0 f52 u59 rfl (by decide) (by decide)
                                    have pa60 : plM h59 = tsP (BM h) (tsP (BM h) (tsP (BM h) (plM h + ((wdF KW (cs (BM h) (plM h)) 0 0).2 : Int) + 1 + ((nuF (cs (BM h) (plM h + ((wdF KW (cs (BM h) (plM h)) 0 0).2 : Int) + 1))).2 : Int) + 4) + 1) + 1) + 1 := (plM_of u59.1).trans (show z58.toInt = tsP (BM h) (tsP (BM h) (tsP (BM h) (plM h + ((wdF KW (cs (BM h) (plM h)) 0 0).2 : Int) + 1 + ((nuF (cs (BM h) (plM h + ((wdF KW (cs (BM h) (plM h)) 0 0).2 : Int) + 1))).2 : Int) + 4) + 1) + 1) + 1 from (by (have h9 := (plM_of ea54).symm.trans (show plM _ = tsP (BM h) (tsP (BM h) (tsP (BM h) (plM h + ((wdF KW (cs (BM h) (plM h)) 0 0).2 : Int) + 1 + ((nuF (cs (BM h) (plM h + ((wdF KW (cs (BM h) (plM h)) 0 0).2 : Int) + 1))).2 : Int) + 4) + 1) + 1) from Qb52)); omega))
                                    refine te_iconst (p2 := 164) (x := 1) rfl rfl (by decide) ?_
                                    exact te_zret rfl rfl (by decide) ⟨I59, f59, _, rfl, Or.inl ⟨rfl, (by rw [(show lnR (BM h) (plM h) = (3, tsP (BM h) (tsP (BM h) (tsP (BM h) (plM h + ((wdF KW (cs (BM h) (plM h)) 0 0).2 : Int) + 1 + ((nuF (cs (BM h) (plM h + ((wdF KW (cs (BM h) (plM h)) 0 0).2 : Int) + 1))).2 : Int) + 4) + 1) + 1) + 1) from (by (have m1 := (show Int32.toInt (-1) = -1 from rfl)); (have q0 := Qa2); (have b0 : (BM h (plM h + ((wdF KW (cs (BM h) (plM h)) 0 0).2 : Int))).toInt = Int32.toInt y6 := congrArg Int32.toInt rb6.symm); (have b1 : (BM h (plM h + ((wdF KW (cs (BM h) (plM h)) 0 0).2 : Int) + 1 + ((nuF (cs (BM h) (plM h + ((wdF KW (cs (BM h) (plM h)) 0 0).2 : Int) + 1))).2 : Int))).toInt = Int32.toInt y15 := congrArg Int32.toInt rb15.symm); (have b2 : (BM h (tsP (BM h) (plM h + ((wdF KW (cs (BM h) (plM h)) 0 0).2 : Int) + 1 + ((nuF (cs (BM h) (plM h + ((wdF KW (cs (BM h) (plM h)) 0 0).2 : Int) + 1))).2 : Int) + 4))).toInt = Int32.toInt y26 := congrArg Int32.toInt rb26.symm); (have b3 : (BM h (tsP (BM h) (tsP (BM h) (plM h + ((wdF KW (cs (BM h) (plM h)) 0 0).2 : Int) + 1 + ((nuF (cs (BM h) (plM h + ((wdF KW (cs (BM h) (plM h)) 0 0).2 : Int) + 1))).2 : Int) + 4) + 1))).toInt = Int32.toInt y40 := congrArg Int32.toInt rb40.symm); (have b4 : (BM h (tsP (BM h) (tsP (BM h) (tsP (BM h) (plM h + ((wdF KW (cs (BM h) (plM h)) 0 0).2 : Int) + 1 + ((nuF (cs (BM h) (plM h + ((wdF KW (cs (BM h) (plM h)) 0 0).2 : Int) + 1))).2 : Int) + 4) + 1) + 1))).toInt = Int32.toInt y54 := congrArg Int32.toInt rb54.symm); (have q1 : _ = (lnN (BM h) (plM h)).1 := Qa11); unfold lnR; rw [if_neg (fun q => q (show lnH (BM h) (plM h) from ⟨by omega, (show (BM h (plM h + ((wdF KW (cs (BM h) (plM h)) 0 0).2 : Int))).toInt = 32 by omega)⟩)), if_neg (show ¬ (lnN (BM h) (plM h)).1 < 0 by omega), if_neg (show ¬ sc (BM h) (lnE (BM h) (plM h)) from (show ¬ (BM h (plM h + ((wdF KW (cs (BM h) (plM h)) 0 0).2 : Int) + 1 + ((nuF (cs (BM h) (plM h + ((wdF KW (cs (BM h) (plM h)) 0 0).2 : Int) + 1))).2 : Int))).toInt = 59 by omega)), if_neg (fun q => q (show lnI (BM h) (plM h) from c22))]; show ttR (BM h) (plM h + ((wdF KW (cs (BM h) (plM h)) 0 0).2 : Int) + 1 + ((nuF (cs (BM h) (plM h + ((wdF KW (cs (BM h) (plM h)) 0 0).2 : Int) + 1))).2 : Int) + 4) = _; unfold ttR tu3 tu2; rw [if_neg (fun q => q O24), if_neg (show ¬ sc (BM h) (tsP (BM h) (plM h + ((wdF KW (cs (BM h) (plM h)) 0 0).2 : Int) + 1 + ((nuF (cs (BM h) (plM h + ((wdF KW (cs (BM h) (plM h)) 0 0).2 : Int) + 1))).2 : Int) + 4)) from (show ¬ (BM h (tsP (BM h) (plM h + ((wdF KW (cs (BM h) (plM h)) 0 0).2 : Int) + 1 + ((nuF (cs (BM h) (plM h + ((wdF KW (cs (BM h) (plM h)) 0 0).2 : Int) + 1))).2 : Int) + 4))).toInt = 59 by omega)), if_neg (fun q => q (show am (BM h) (tsP (BM h) (plM h + ((wdF KW (cs (BM h) (plM h)) 0 0).2 : Int) + 1 + ((nuF (cs (BM h) (plM h + ((wdF KW (cs (BM h) (plM h)) 0 0).2 : Int) + 1))).2 : Int) + 4)) from (show (BM h (tsP (BM h) (plM h + ((wdF KW (cs (BM h) (plM h)) 0 0).2 : Int) + 1 + ((nuF (cs (BM h) (plM h + ((wdF KW (cs (BM h) (plM h)) 0 0).2 : Int) + 1))).2 : Int) + 4))).toInt = 38 by omega))), if_neg (fun q => q O38), if_neg (show ¬ sc (BM h) (tsP (BM h) (tsP (BM h) (plM h + ((wdF KW (cs (BM h) (plM h)) 0 0).2 : Int) + 1 + ((nuF (cs (BM h) (plM h + ((wdF KW (cs (BM h) (plM h)) 0 0).2 : Int) + 1))).2 : Int) + 4) + 1)) from (show ¬ (BM h (tsP (BM h) (tsP (BM h) (plM h + ((wdF KW (cs (BM h) (plM h)) 0 0).2 : Int) + 1 + ((nuF (cs (BM h) (plM h + ((wdF KW (cs (BM h) (plM h)) 0 0).2 : Int) + 1))).2 : Int) + 4) + 1))).toInt = 59 by omega)), if_neg (fun q => q (show am (BM h) (tsP (BM h) (tsP (BM h) (plM h + ((wdF KW (cs (BM h) (plM h)) 0 0).2 : Int) + 1 + ((nuF (cs (BM h) (plM h + ((wdF KW (cs (BM h) (plM h)) 0 0).2 : Int) + 1))).2 : Int) + 4) + 1)) from (show (BM h (tsP (BM h) (tsP (BM h) (plM h + ((wdF KW (cs (BM h) (plM h)) 0 0).2 : Int) + 1 + ((nuF (cs (BM h) (plM h + ((wdF KW (cs (BM h) (plM h)) 0 0).2 : Int) + 1))).2 : Int) + 4) + 1))).toInt = 38 by omega))), if_neg (fun q => q O52), if_pos (show sc (BM h) (tsP (BM h) (tsP (BM h) (tsP (BM h) (plM h + ((wdF KW (cs (BM h) (plM h)) 0 0).2 : Int) + 1 + ((nuF (cs (BM h) (plM h + ((wdF KW (cs (BM h) (plM h)) 0 0).2 : Int) + 1))).2 : Int) + 4) + 1) + 1)) from (show (BM h (tsP (BM h) (tsP (BM h) (tsP (BM h) (plM h + ((wdF KW (cs (BM h) (plM h)) 0 0).2 : Int) + 1 + ((nuF (cs (BM h) (plM h + ((wdF KW (cs (BM h) (plM h)) 0 0).2 : Int) + 1))).2 : Int) + 4) + 1) + 1))).toInt = 59 by omega))]))]; show (0 : Int) ≤ 3; decide)⟩, (by rw [(show lnR (BM h) (plM h) = (3, tsP (BM h) (tsP (BM h) (tsP (BM h) (plM h + ((wdF KW (cs (BM h) (plM h)) 0 0).2 : Int) + 1 + ((nuF (cs (BM h) (plM h + ((wdF KW (cs (BM h) (plM h)) 0 0).2 : Int) + 1))).2 : Int) + 4) + 1) + 1) + 1) from (by (have m1 := (show Int32.toInt (-1) = -1 from rfl)); (have q0 := Qa2); (have b0 : (BM h (plM h + ((wdF KW (cs (BM h) (plM h)) 0 0).2 : Int))).toInt = Int32.toInt y6 := congrArg Int32.toInt rb6.symm); (have b1 : (BM h (plM h + ((wdF KW (cs (BM h) (plM h)) 0 0).2 : Int) + 1 + ((nuF (cs (BM h) (plM h + ((wdF KW (cs (BM h) (plM h)) 0 0).2 : Int) + 1))).2 : Int))).toInt = Int32.toInt y15 := congrArg Int32.toInt rb15.symm); (have b2 : (BM h (tsP (BM h) (plM h + ((wdF KW (cs (BM h) (plM h)) 0 0).2 : Int) + 1 + ((nuF (cs (BM h) (plM h + ((wdF KW (cs (BM h) (plM h)) 0 0).2 : Int) + 1))).2 : Int) + 4))).toInt = Int32.toInt y26 := congrArg Int32.toInt rb26.symm); (have b3 : (BM h (tsP (BM h) (tsP (BM h) (plM h + ((wdF KW (cs (BM h) (plM h)) 0 0).2 : Int) + 1 + ((nuF (cs (BM h) (plM h + ((wdF KW (cs (BM h) (plM h)) 0 0).2 : Int) + 1))).2 : Int) + 4) + 1))).toInt = Int32.toInt y40 := congrArg Int32.toInt rb40.symm); (have b4 : (BM h (tsP (BM h) (tsP (BM h) (tsP (BM h) (plM h + ((wdF KW (cs (BM h) (plM h)) 0 0).2 : Int) + 1 + ((nuF (cs (BM h) (plM h + ((wdF KW (cs (BM h) (plM h)) 0 0).2 : Int) + 1))).2 : Int) + 4) + 1) + 1))).toInt = Int32.toInt y54 := congrArg Int32.toInt rb54.symm); (have q1 : _ = (lnN (BM h) (plM h)).1 := Qa11); unfold lnR; rw [if_neg (fun q => q (show lnH (BM h) (plM h) from ⟨by omega, (show (BM h (plM h + ((wdF KW (cs (BM h) (plM h)) 0 0).2 : Int))).toInt = 32 by omega)⟩)), if_neg (show ¬ (lnN (BM h) (plM h)).1 < 0 by omega), if_neg (show ¬ sc (BM h) (lnE (BM h) (plM h)) from (show ¬ (BM h (plM h + ((wdF KW (cs (BM h) (plM h)) 0 0).2 : Int) + 1 + ((nuF (cs (BM h) (plM h + ((wdF KW (cs (BM h) (plM h)) 0 0).2 : Int) + 1))).2 : Int))).toInt = 59 by omega)), if_neg (fun q => q (show lnI (BM h) (plM h) from c22))]; show ttR (BM h) (plM h + ((wdF KW (cs (BM h) (plM h)) 0 0).2 : Int) + 1 + ((nuF (cs (BM h) (plM h + ((wdF KW (cs (BM h) (plM h)) 0 0).2 : Int) + 1))).2 : Int) + 4) = _; unfold ttR tu3 tu2; rw [if_neg (fun q => q O24), if_neg (show ¬ sc (BM h) (tsP (BM h) (plM h + ((wdF KW (cs (BM h) (plM h)) 0 0).2 : Int) + 1 + ((nuF (cs (BM h) (plM h + ((wdF KW (cs (BM h) (plM h)) 0 0).2 : Int) + 1))).2 : Int) + 4)) from (show ¬ (BM h (tsP (BM h) (plM h + ((wdF KW (cs (BM h) (plM h)) 0 0).2 : Int) + 1 + ((nuF (cs (BM h) (plM h + ((wdF KW (cs (BM h) (plM h)) 0 0).2 : Int) + 1))).2 : Int) + 4))).toInt = 59 by omega)), if_neg (fun q => q (show am (BM h) (tsP (BM h) (plM h + ((wdF KW (cs (BM h) (plM h)) 0 0).2 : Int) + 1 + ((nuF (cs (BM h) (plM h + ((wdF KW (cs (BM h) (plM h)) 0 0).2 : Int) + 1))).2 : Int) + 4)) from (show (BM h (tsP (BM h) (plM h + ((wdF KW (cs (BM h) (plM h)) 0 0).2 : Int) + 1 + ((nuF (cs (BM h) (plM h + ((wdF KW (cs (BM h) (plM h)) 0 0).2 : Int) + 1))).2 : Int) + 4))).toInt = 38 by omega))), if_neg (fun q => q O38), if_neg (show ¬ sc (BM h) (tsP (BM h) (tsP (BM h) (plM h + ((wdF KW (cs (BM h) (plM h)) 0 0).2 : Int) + 1 + ((nuF (cs (BM h) (plM h + ((wdF KW (cs (BM h) (plM h)) 0 0).2 : Int) + 1))).2 : Int) + 4) + 1)) from (show ¬ (BM h (tsP (BM h) (tsP (BM h) (plM h + ((wdF KW (cs (BM h) (plM h)) 0 0).2 : Int) + 1 + ((nuF (cs (BM h) (plM h + ((wdF KW (cs (BM h) (plM h)) 0 0).2 : Int) + 1))).2 : Int) + 4) + 1))).toInt = 59 by omega)), if_neg (fun q => q (show am (BM h) (tsP (BM h) (tsP (BM h) (plM h + ((wdF KW (cs (BM h) (plM h)) 0 0).2 : Int) + 1 + ((nuF (cs (BM h) (plM h + ((wdF KW (cs (BM h) (plM h)) 0 0).2 : Int) + 1))).2 : Int) + 4) + 1)) from (show (BM h (tsP (BM h) (tsP (BM h) (plM h + ((wdF KW (cs (BM h) (plM h)) 0 0).2 : Int) + 1 + ((nuF (cs (BM h) (plM h + ((wdF KW (cs (BM h) (plM h)) 0 0).2 : Int) + 1))).2 : Int) + 4) + 1))).toInt = 38 by omega))), if_neg (fun q => q O52), if_pos (show sc (BM h) (tsP (BM h) (tsP (BM h) (tsP (BM h) (plM h + ((wdF KW (cs (BM h) (plM h)) 0 0).2 : Int) + 1 + ((nuF (cs (BM h) (plM h + ((wdF KW (cs (BM h) (plM h)) 0 0).2 : Int) + 1))).2 : Int) + 4) + 1) + 1)) from (show (BM h (tsP (BM h) (tsP (BM h) (tsP (BM h) (plM h + ((wdF KW (cs (BM h) (plM h)) 0 0).2 : Int) + 1 + ((nuF (cs (BM h) (plM h + ((wdF KW (cs (BM h) (plM h)) 0 0).2 : Int) + 1))).2 : Int) + 4) + 1) + 1))).toInt = 59 by omega))])), show plM h59 = _ from pa60]), (fun _ => ⟨(by (have m1 := (show Int32.toInt (-1) = -1 from rfl)); (have q0 := Qa2); (have b0 : (BM h (plM h + ((wdF KW (cs (BM h) (plM h)) 0 0).2 : Int))).toInt = Int32.toInt y6 := congrArg Int32.toInt rb6.symm); (have b1 : (BM h (plM h + ((wdF KW (cs (BM h) (plM h)) 0 0).2 : Int) + 1 + ((nuF (cs (BM h) (plM h + ((wdF KW (cs (BM h) (plM h)) 0 0).2 : Int) + 1))).2 : Int))).toInt = Int32.toInt y15 := congrArg Int32.toInt rb15.symm); (have b2 : (BM h (tsP (BM h) (plM h + ((wdF KW (cs (BM h) (plM h)) 0 0).2 : Int) + 1 + ((nuF (cs (BM h) (plM h + ((wdF KW (cs (BM h) (plM h)) 0 0).2 : Int) + 1))).2 : Int) + 4))).toInt = Int32.toInt y26 := congrArg Int32.toInt rb26.symm); (have b3 : (BM h (tsP (BM h) (tsP (BM h) (plM h + ((wdF KW (cs (BM h) (plM h)) 0 0).2 : Int) + 1 + ((nuF (cs (BM h) (plM h + ((wdF KW (cs (BM h) (plM h)) 0 0).2 : Int) + 1))).2 : Int) + 4) + 1))).toInt = Int32.toInt y40 := congrArg Int32.toInt rb40.symm); (have b4 : (BM h (tsP (BM h) (tsP (BM h) (tsP (BM h) (plM h + ((wdF KW (cs (BM h) (plM h)) 0 0).2 : Int) + 1 + ((nuF (cs (BM h) (plM h + ((wdF KW (cs (BM h) (plM h)) 0 0).2 : Int) + 1))).2 : Int) + 4) + 1) + 1))).toInt = Int32.toInt y54 := congrArg Int32.toInt rb54.symm); (have q1 : _ = (lnN (BM h) (plM h)).1 := Qa11); exact ⟨_, _, c52, ((u59.2 _ _ (Or.inl (by decide))).trans ((g52 _ _ rfl).trans ((u50.2 _ _ (Or.inl (by decide))).trans ((g38 _ _ rfl).trans ((u36.2 _ _ (Or.inl (by decide))).trans ((g24 _ _ rfl).trans ((g22 _ _ rfl).trans ((u12.2 _ _ (Or.inl (by decide))).trans ((g11 _ _ rfl).trans ((u9.2 _ _ (Or.inl (by decide))).trans u3.1)))))))))), q0, ((u59.2 _ _ (Or.inl (by decide))).trans ((g52 _ _ rfl).trans ((u50.2 _ _ (Or.inl (by decide))).trans ((g38 _ _ rfl).trans ((u36.2 _ _ (Or.inl (by decide))).trans ((g24 _ _ rfl).trans ((g22 _ _ rfl).trans u12.1))))))), q1, ((u59.2 _ _ (Or.inl (by decide))).trans ec52), (by rw [(show lnR (BM h) (plM h) = (3, tsP (BM h) (tsP (BM h) (tsP (BM h) (plM h + ((wdF KW (cs (BM h) (plM h)) 0 0).2 : Int) + 1 + ((nuF (cs (BM h) (plM h + ((wdF KW (cs (BM h) (plM h)) 0 0).2 : Int) + 1))).2 : Int) + 4) + 1) + 1) + 1) from (by (have m1 := (show Int32.toInt (-1) = -1 from rfl)); (have q0 := Qa2); (have b0 : (BM h (plM h + ((wdF KW (cs (BM h) (plM h)) 0 0).2 : Int))).toInt = Int32.toInt y6 := congrArg Int32.toInt rb6.symm); (have b1 : (BM h (plM h + ((wdF KW (cs (BM h) (plM h)) 0 0).2 : Int) + 1 + ((nuF (cs (BM h) (plM h + ((wdF KW (cs (BM h) (plM h)) 0 0).2 : Int) + 1))).2 : Int))).toInt = Int32.toInt y15 := congrArg Int32.toInt rb15.symm); (have b2 : (BM h (tsP (BM h) (plM h + ((wdF KW (cs (BM h) (plM h)) 0 0).2 : Int) + 1 + ((nuF (cs (BM h) (plM h + ((wdF KW (cs (BM h) (plM h)) 0 0).2 : Int) + 1))).2 : Int) + 4))).toInt = Int32.toInt y26 := congrArg Int32.toInt rb26.symm); (have b3 : (BM h (tsP (BM h) (tsP (BM h) (plM h + ((wdF KW (cs (BM h) (plM h)) 0 0).2 : Int) + 1 + ((nuF (cs (BM h) (plM h + ((wdF KW (cs (BM h) (plM h)) 0 0).2 : Int) + 1))).2 : Int) + 4) + 1))).toInt = Int32.toInt y40 := congrArg Int32.toInt rb40.symm); (have b4 : (BM h (tsP (BM h) (tsP (BM h) (tsP (BM h) (plM h + ((wdF KW (cs (BM h) (plM h)) 0 0).2 : Int) + 1 + ((nuF (cs (BM h) (plM h + ((wdF KW (cs (BM h) (plM h)) 0 0).2 : Int) + 1))).2 : Int) + 4) + 1) + 1))).toInt = Int32.toInt y54 := congrArg Int32.toInt rb54.symm); (have q1 : _ = (lnN (BM h) (plM h)).1 := Qa11); unfold lnR; rw [if_neg (fun q => q (show lnH (BM h) (plM h) from ⟨by omega, (show (BM h (plM h + ((wdF KW (cs (BM h) (plM h)) 0 0).2 : Int))).toInt = 32 by omega)⟩)), if_neg (show ¬ (lnN (BM h) (plM h)).1 < 0 by omega), if_neg (show ¬ sc (BM h) (lnE (BM h) (plM h)) from (show ¬ (BM h (plM h + ((wdF KW (cs (BM h) (plM h)) 0 0).2 : Int) + 1 + ((nuF (cs (BM h) (plM h + ((wdF KW (cs (BM h) (plM h)) 0 0).2 : Int) + 1))).2 : Int))).toInt = 59 by omega)), if_neg (fun q => q (show lnI (BM h) (plM h) from c22))]; show ttR (BM h) (plM h + ((wdF KW (cs (BM h) (plM h)) 0 0).2 : Int) + 1 + ((nuF (cs (BM h) (plM h + ((wdF KW (cs (BM h) (plM h)) 0 0).2 : Int) + 1))).2 : Int) + 4) = _; unfold ttR tu3 tu2; rw [if_neg (fun q => q O24), if_neg (show ¬ sc (BM h) (tsP (BM h) (plM h + ((wdF KW (cs (BM h) (plM h)) 0 0).2 : Int) + 1 + ((nuF (cs (BM h) (plM h + ((wdF KW (cs (BM h) (plM h)) 0 0).2 : Int) + 1))).2 : Int) + 4)) from (show ¬ (BM h (tsP (BM h) (plM h + ((wdF KW (cs (BM h) (plM h)) 0 0).2 : Int) + 1 + ((nuF (cs (BM h) (plM h + ((wdF KW (cs (BM h) (plM h)) 0 0).2 : Int) + 1))).2 : Int) + 4))).toInt = 59 by omega)), if_neg (fun q => q (show am (BM h) (tsP (BM h) (plM h + ((wdF KW (cs (BM h) (plM h)) 0 0).2 : Int) + 1 + ((nuF (cs (BM h) (plM h + ((wdF KW (cs (BM h) (plM h)) 0 0).2 : Int) + 1))).2 : Int) + 4)) from (show (BM h (tsP (BM h) (plM h + ((wdF KW (cs (BM h) (plM h)) 0 0).2 : Int) + 1 + ((nuF (cs (BM h) (plM h + ((wdF KW (cs (BM h) (plM h)) 0 0).2 : Int) + 1))).2 : Int) + 4))).toInt = 38 by omega))), if_neg (fun q => q O38), if_neg (show ¬ sc (BM h) (tsP (BM h) (tsP (BM h) (plM h + ((wdF KW (cs (BM h) (plM h)) 0 0).2 : Int) + 1 + ((nuF (cs (BM h) (plM h + ((wdF KW (cs (BM h) (plM h)) 0 0).2 : Int) + 1))).2 : Int) + 4) + 1)) from (show ¬ (BM h (tsP (BM h) (tsP (BM h) (plM h + ((wdF KW (cs (BM h) (plM h)) 0 0).2 : Int) + 1 + ((nuF (cs (BM h) (plM h + ((wdF KW (cs (BM h) (plM h)) 0 0).2 : Int) + 1))).2 : Int) + 4) + 1))).toInt = 59 by omega)), if_neg (fun q => q (show am (BM h) (tsP (BM h) (tsP (BM h) (plM h + ((wdF KW (cs (BM h) (plM h)) 0 0).2 : Int) + 1 + ((nuF (cs (BM h) (plM h + ((wdF KW (cs (BM h) (plM h)) 0 0).2 : Int) + 1))).2 : Int) + 4) + 1)) from (show (BM h (tsP (BM h) (tsP (BM h) (plM h + ((wdF KW (cs (BM h) (plM h)) 0 0).2 : Int) + 1 + ((nuF (cs (BM h) (plM h + ((wdF KW (cs (BM h) (plM h)) 0 0).2 : Int) + 1))).2 : Int) + 4) + 1))).toInt = 38 by omega))), if_neg (fun q => q O52), if_pos (show sc (BM h) (tsP (BM h) (tsP (BM h) (tsP (BM h) (plM h + ((wdF KW (cs (BM h) (plM h)) 0 0).2 : Int) + 1 + ((nuF (cs (BM h) (plM h + ((wdF KW (cs (BM h) (plM h)) 0 0).2 : Int) + 1))).2 : Int) + 4) + 1) + 1)) from (show (BM h (tsP (BM h) (tsP (BM h) (tsP (BM h) (plM h + ((wdF KW (cs (BM h) (plM h)) 0 0).2 : Int) + 1 + ((nuF (cs (BM h) (plM h + ((wdF KW (cs (BM h) (plM h)) 0 0).2 : Int) + 1))).2 : Int) + 4) + 1) + 1))).toInt = 59 by omega))]))]; show Int32.toInt c52 = 3; omega), (fun t ht => by (rw [(show lnR (BM h) (plM h) = (3, tsP (BM h) (tsP (BM h) (tsP (BM h) (plM h + ((wdF KW (cs (BM h) (plM h)) 0 0).2 : Int) + 1 + ((nuF (cs (BM h) (plM h + ((wdF KW (cs (BM h) (plM h)) 0 0).2 : Int) + 1))).2 : Int) + 4) + 1) + 1) + 1) from (by (have m1 := (show Int32.toInt (-1) = -1 from rfl)); (have q0 := Qa2); (have b0 : (BM h (plM h + ((wdF KW (cs (BM h) (plM h)) 0 0).2 : Int))).toInt = Int32.toInt y6 := congrArg Int32.toInt rb6.symm); (have b1 : (BM h (plM h + ((wdF KW (cs (BM h) (plM h)) 0 0).2 : Int) + 1 + ((nuF (cs (BM h) (plM h + ((wdF KW (cs (BM h) (plM h)) 0 0).2 : Int) + 1))).2 : Int))).toInt = Int32.toInt y15 := congrArg Int32.toInt rb15.symm); (have b2 : (BM h (tsP (BM h) (plM h + ((wdF KW (cs (BM h) (plM h)) 0 0).2 : Int) + 1 + ((nuF (cs (BM h) (plM h + ((wdF KW (cs (BM h) (plM h)) 0 0).2 : Int) + 1))).2 : Int) + 4))).toInt = Int32.toInt y26 := congrArg Int32.toInt rb26.symm); (have b3 : (BM h (tsP (BM h) (tsP (BM h) (plM h + ((wdF KW (cs (BM h) (plM h)) 0 0).2 : Int) + 1 + ((nuF (cs (BM h) (plM h + ((wdF KW (cs (BM h) (plM h)) 0 0).2 : Int) + 1))).2 : Int) + 4) + 1))).toInt = Int32.toInt y40 := congrArg Int32.toInt rb40.symm); (have b4 : (BM h (tsP (BM h) (tsP (BM h) (tsP (BM h) (plM h + ((wdF KW (cs (BM h) (plM h)) 0 0).2 : Int) + 1 + ((nuF (cs (BM h) (plM h + ((wdF KW (cs (BM h) (plM h)) 0 0).2 : Int) + 1))).2 : Int) + 4) + 1) + 1))).toInt = Int32.toInt y54 := congrArg Int32.toInt rb54.symm); (have q1 : _ = (lnN (BM h) (plM h)).1 := Qa11); unfold lnR; rw [if_neg (fun q => q (show lnH (BM h) (plM h) from ⟨by omega, (show (BM h (plM h + ((wdF KW (cs (BM h) (plM h)) 0 0).2 : Int))).toInt = 32 by omega)⟩)), if_neg (show ¬ (lnN (BM h) (plM h)).1 < 0 by omega), if_neg (show ¬ sc (BM h) (lnE (BM h) (plM h)) from (show ¬ (BM h (plM h + ((wdF KW (cs (BM h) (plM h)) 0 0).2 : Int) + 1 + ((nuF (cs (BM h) (plM h + ((wdF KW (cs (BM h) (plM h)) 0 0).2 : Int) + 1))).2 : Int))).toInt = 59 by omega)), if_neg (fun q => q (show lnI (BM h) (plM h) from c22))]; show ttR (BM h) (plM h + ((wdF KW (cs (BM h) (plM h)) 0 0).2 : Int) + 1 + ((nuF (cs (BM h) (plM h + ((wdF KW (cs (BM h) (plM h)) 0 0).2 : Int) + 1))).2 : Int) + 4) = _; unfold ttR tu3 tu2; rw [if_neg (fun q => q O24), if_neg (show ¬ sc (BM h) (tsP (BM h) (plM h + ((wdF KW (cs (BM h) (plM h)) 0 0).2 : Int) + 1 + ((nuF (cs (BM h) (plM h + ((wdF KW (cs (BM h) (plM h)) 0 0).2 : Int) + 1))).2 : Int) + 4)) from (show ¬ (BM h (tsP (BM h) (plM h + ((wdF KW (cs (BM h) (plM h)) 0 0).2 : Int) + 1 + ((nuF (cs (BM h) (plM h + ((wdF KW (cs (BM h) (plM h)) 0 0).2 : Int) + 1))).2 : Int) + 4))).toInt = 59 by omega)), if_neg (fun q => q (show am (BM h) (tsP (BM h) (plM h + ((wdF KW (cs (BM h) (plM h)) 0 0).2 : Int) + 1 + ((nuF (cs (BM h) (plM h + ((wdF KW (cs (BM h) (plM h)) 0 0).2 : Int) + 1))).2 : Int) + 4)) from (show (BM h (tsP (BM h) (plM h + ((wdF KW (cs (BM h) (plM h)) 0 0).2 : Int) + 1 + ((nuF (cs (BM h) (plM h + ((wdF KW (cs (BM h) (plM h)) 0 0).2 : Int) + 1))).2 : Int) + 4))).toInt = 38 by omega))), if_neg (fun q => q O38), if_neg (show ¬ sc (BM h) (tsP (BM h) (tsP (BM h) (plM h + ((wdF KW (cs (BM h) (plM h)) 0 0).2 : Int) + 1 + ((nuF (cs (BM h) (plM h + ((wdF KW (cs (BM h) (plM h)) 0 0).2 : Int) + 1))).2 : Int) + 4) + 1)) from (show ¬ (BM h (tsP (BM h) (tsP (BM h) (plM h + ((wdF KW (cs (BM h) (plM h)) 0 0).2 : Int) + 1 + ((nuF (cs (BM h) (plM h + ((wdF KW (cs (BM h) (plM h)) 0 0).2 : Int) + 1))).2 : Int) + 4) + 1))).toInt = 59 by omega)), if_neg (fun q => q (show am (BM h) (tsP (BM h) (tsP (BM h) (plM h + ((wdF KW (cs (BM h) (plM h)) 0 0).2 : Int) + 1 + ((nuF (cs (BM h) (plM h + ((wdF KW (cs (BM h) (plM h)) 0 0).2 : Int) + 1))).2 : Int) + 4) + 1)) from (show (BM h (tsP (BM h) (tsP (BM h) (plM h + ((wdF KW (cs (BM h) (plM h)) 0 0).2 : Int) + 1 + ((nuF (cs (BM h) (plM h + ((wdF KW (cs (BM h) (plM h)) 0 0).2 : Int) + 1))).2 : Int) + 4) + 1))).toInt = 38 by omega))), if_neg (fun q => q O52), if_pos (show sc (BM h) (tsP (BM h) (tsP (BM h) (tsP (BM h) (plM h + ((wdF KW (cs (BM h) (plM h)) 0 0).2 : Int) + 1 + ((nuF (cs (BM h) (plM h + ((wdF KW (cs (BM h) (plM h)) 0 0).2 : Int) + 1))).2 : Int) + 4) + 1) + 1)) from (show (BM h (tsP (BM h) (tsP (BM h) (tsP (BM h) (plM h + ((wdF KW (cs (BM h) (plM h)) 0 0).2 : Int) + 1 + ((nuF (cs (BM h) (plM h + ((wdF KW (cs (BM h) (plM h)) 0 0).2 : Int) + 1))).2 : Int) + 4) + 1) + 1))).toInt = 59 by omega))]))] at ht); (rcases (show t = 0 ∨ t = 1 ∨ t = 2 by (have ht : (t : Int) < 3 := ht); omega) with rfl | rfl | rfl); (· (have h9 := tsM_e C24 ((u59.2 _ _ (Or.inl (by decide))).trans ((K52 _ (by omega)).1.trans ((u50.2 _ _ (Or.inl (by decide))).trans ((K38 _ (by omega)).1.trans (u36.2 _ _ (Or.inl (by decide))))))) ((u59.2 _ _ (Or.inl (by decide))).trans ((K52 _ (by omega)).2.1.trans ((u50.2 _ _ (Or.inl (by decide))).trans ((K38 _ (by omega)).2.1.trans (u36.2 _ _ (Or.inl (by decide))))))) ((u59.2 _ _ (Or.inl (by decide))).trans ((K52 _ (by omega)).2.2.trans ((u50.2 _ _ (Or.inl (by decide))).trans ((K38 _ (by omega)).2.2.trans (u36.2 _ _ (Or.inl (by decide)))))))); (have cz : 3 * line.toInt.toNat + (Int32.toInt 0).toNat = 3 * line.toInt.toNat + 0 := (by omega)); rw [cz] at h9; exact h9); (· (have h9 := tsM_e C38 ((u59.2 _ _ (Or.inl (by decide))).trans ((K52 _ (by omega)).1.trans (u50.2 _ _ (Or.inl (by decide))))) ((u59.2 _ _ (Or.inl (by decide))).trans ((K52 _ (by omega)).2.1.trans (u50.2 _ _ (Or.inl (by decide))))) ((u59.2 _ _ (Or.inl (by decide))).trans ((K52 _ (by omega)).2.2.trans (u50.2 _ _ (Or.inl (by decide)))))); (have cz : 3 * line.toInt.toNat + (Int32.toInt c24).toNat = 3 * line.toInt.toNat + 1 := (by omega)); rw [cz] at h9; exact h9); (· (have h9 := tsM_e C52 (u59.2 _ _ (Or.inl (by decide))) (u59.2 _ _ (Or.inl (by decide))) (u59.2 _ _ (Or.inl (by decide)))); (have cz : 3 * line.toInt.toNat + (Int32.toInt c38).toNat = 3 * line.toInt.toNat + 2 := (by omega)); rw [cz] at h9; exact h9))⟩), (by rw [show plM h59 = _ from pa60]; (have h9 := (plM_of u59.1).symm.trans pa60); rw [rv_of ((f59 148 45 rfl).symm.trans ((u59.2 _ _ (Or.inr (by decide))).trans ((g52 _ _ (by decide)).trans ((u50.2 _ _ (Or.inr (by decide))).trans ((g38 _ _ (by decide)).trans ((u36.2 _ _ (Or.inr (by decide))).trans ((g24 _ _ (by decide)).trans ((g22 _ _ (by decide)).trans ((u12.2 _ _ (Or.inl (by decide))).trans ((g11 _ _ (by decide)).trans ((u9.2 _ _ (Or.inr (by decide))).trans et6)))))))))))]; omega)⟩), (fun m hm => ⟨((u59.2 _ _ (Or.inl (by decide))).trans ((g52 _ _ rfl).trans ((u50.2 _ _ (Or.inl (by decide))).trans ((g38 _ _ rfl).trans ((u36.2 _ _ (Or.inl (by decide))).trans ((g24 _ _ rfl).trans ((g22 _ _ rfl).trans ((u12.2 _ _ (Or.inl (by decide))).trans ((g11 _ _ rfl).trans ((u9.2 _ _ (Or.inl (by decide))).trans ((u3.2 _ _ (Or.inr (by omega))).trans ((g2 _ _ rfl).trans (u1.2 _ _ (Or.inl (by decide))))))))))))))), ((u59.2 _ _ (Or.inl (by decide))).trans ((g52 _ _ rfl).trans ((u50.2 _ _ (Or.inl (by decide))).trans ((g38 _ _ rfl).trans ((u36.2 _ _ (Or.inl (by decide))).trans ((g24 _ _ rfl).trans ((g22 _ _ rfl).trans ((u12.2 _ _ (Or.inr (by omega))).trans ((g11 _ _ rfl).trans ((u9.2 _ _ (Or.inl (by decide))).trans ((u3.2 _ _ (Or.inl (by decide))).trans ((g2 _ _ rfl).trans (u1.2 _ _ (Or.inl (by decide))))))))))))))), ((u59.2 _ _ (Or.inl (by decide))).trans ((L52 _ (by omega)).trans ((u50.2 _ _ (Or.inl (by decide))).trans ((L38 _ (by omega)).trans ((u36.2 _ _ (Or.inl (by decide))).trans ((L24 _ (by omega)).trans ((g22 _ _ rfl).trans ((u12.2 _ _ (Or.inl (by decide))).trans ((g11 _ _ rfl).trans ((u9.2 _ _ (Or.inl (by decide))).trans ((u3.2 _ _ (Or.inl (by decide))).trans ((g2 _ _ rfl).trans (u1.2 _ _ (Or.inr (by omega)))))))))))))))⟩), (fun m hm => ⟨((u59.2 _ _ (Or.inl (by decide))).trans ((K52 _ (by omega)).1.trans ((u50.2 _ _ (Or.inl (by decide))).trans ((K38 _ (by omega)).1.trans ((u36.2 _ _ (Or.inl (by decide))).trans ((K24 _ (by omega)).1.trans ((g22 _ _ rfl).trans ((u12.2 _ _ (Or.inl (by decide))).trans ((g11 _ _ rfl).trans ((u9.2 _ _ (Or.inl (by decide))).trans ((u3.2 _ _ (Or.inl (by decide))).trans ((g2 _ _ rfl).trans (u1.2 _ _ (Or.inl (by decide))))))))))))))), ((u59.2 _ _ (Or.inl (by decide))).trans ((K52 _ (by omega)).2.1.trans ((u50.2 _ _ (Or.inl (by decide))).trans ((K38 _ (by omega)).2.1.trans ((u36.2 _ _ (Or.inl (by decide))).trans ((K24 _ (by omega)).2.1.trans ((g22 _ _ rfl).trans ((u12.2 _ _ (Or.inl (by decide))).trans ((g11 _ _ rfl).trans ((u9.2 _ _ (Or.inl (by decide))).trans ((u3.2 _ _ (Or.inl (by decide))).trans ((g2 _ _ rfl).trans (u1.2 _ _ (Or.inl (by decide))))))))))))))), ((u59.2 _ _ (Or.inl (by decide))).trans ((K52 _ (by omega)).2.2.trans ((u50.2 _ _ (Or.inl (by decide))).trans ((K38 _ (by omega)).2.2.trans ((u36.2 _ _ (Or.inl (by decide))).trans ((K24 _ (by omega)).2.2.trans ((g22 _ _ rfl).trans ((u12.2 _ _ (Or.inl (by decide))).trans ((g11 _ _ rfl).trans ((u9.2 _ _ (Or.inl (by decide))).trans ((u3.2 _ _ (Or.inl (by decide))).trans ((g2 _ _ rfl).trans (u1.2 _ _ (Or.inl (by decide)))))))))))))))⟩)⟩
                                  · refine te_iconst (p2 := 152) (x := 0) rfl rfl (by decide) ?_
                                    exact te_zret rfl rfl (by decide) ⟨I52, f52, _, rfl, Or.inr ⟨rfl, (by rw [(show lnR (BM h) (plM h) = (-1, tsP (BM h) (tsP (BM h) (tsP (BM h) (plM h + ((wdF KW (cs (BM h) (plM h)) 0 0).2 : Int) + 1 + ((nuF (cs (BM h) (plM h + ((wdF KW (cs (BM h) (plM h)) 0 0).2 : Int) + 1))).2 : Int) + 4) + 1) + 1)) from (by (have m1 := (show Int32.toInt (-1) = -1 from rfl)); (have q0 := Qa2); (have b0 : (BM h (plM h + ((wdF KW (cs (BM h) (plM h)) 0 0).2 : Int))).toInt = Int32.toInt y6 := congrArg Int32.toInt rb6.symm); (have b1 : (BM h (plM h + ((wdF KW (cs (BM h) (plM h)) 0 0).2 : Int) + 1 + ((nuF (cs (BM h) (plM h + ((wdF KW (cs (BM h) (plM h)) 0 0).2 : Int) + 1))).2 : Int))).toInt = Int32.toInt y15 := congrArg Int32.toInt rb15.symm); (have b2 : (BM h (tsP (BM h) (plM h + ((wdF KW (cs (BM h) (plM h)) 0 0).2 : Int) + 1 + ((nuF (cs (BM h) (plM h + ((wdF KW (cs (BM h) (plM h)) 0 0).2 : Int) + 1))).2 : Int) + 4))).toInt = Int32.toInt y26 := congrArg Int32.toInt rb26.symm); (have b3 : (BM h (tsP (BM h) (tsP (BM h) (plM h + ((wdF KW (cs (BM h) (plM h)) 0 0).2 : Int) + 1 + ((nuF (cs (BM h) (plM h + ((wdF KW (cs (BM h) (plM h)) 0 0).2 : Int) + 1))).2 : Int) + 4) + 1))).toInt = Int32.toInt y40 := congrArg Int32.toInt rb40.symm); (have b4 : (BM h (tsP (BM h) (tsP (BM h) (tsP (BM h) (plM h + ((wdF KW (cs (BM h) (plM h)) 0 0).2 : Int) + 1 + ((nuF (cs (BM h) (plM h + ((wdF KW (cs (BM h) (plM h)) 0 0).2 : Int) + 1))).2 : Int) + 4) + 1) + 1))).toInt = Int32.toInt y54 := congrArg Int32.toInt rb54.symm); (have q1 : _ = (lnN (BM h) (plM h)).1 := Qa11); unfold lnR; rw [if_neg (fun q => q (show lnH (BM h) (plM h) from ⟨by omega, (show (BM h (plM h + ((wdF KW (cs (BM h) (plM h)) 0 0).2 : Int))).toInt = 32 by omega)⟩)), if_neg (show ¬ (lnN (BM h) (plM h)).1 < 0 by omega), if_neg (show ¬ sc (BM h) (lnE (BM h) (plM h)) from (show ¬ (BM h (plM h + ((wdF KW (cs (BM h) (plM h)) 0 0).2 : Int) + 1 + ((nuF (cs (BM h) (plM h + ((wdF KW (cs (BM h) (plM h)) 0 0).2 : Int) + 1))).2 : Int))).toInt = 59 by omega)), if_neg (fun q => q (show lnI (BM h) (plM h) from c22))]; show ttR (BM h) (plM h + ((wdF KW (cs (BM h) (plM h)) 0 0).2 : Int) + 1 + ((nuF (cs (BM h) (plM h + ((wdF KW (cs (BM h) (plM h)) 0 0).2 : Int) + 1))).2 : Int) + 4) = _; unfold ttR tu3 tu2; rw [if_neg (fun q => q O24), if_neg (show ¬ sc (BM h) (tsP (BM h) (plM h + ((wdF KW (cs (BM h) (plM h)) 0 0).2 : Int) + 1 + ((nuF (cs (BM h) (plM h + ((wdF KW (cs (BM h) (plM h)) 0 0).2 : Int) + 1))).2 : Int) + 4)) from (show ¬ (BM h (tsP (BM h) (plM h + ((wdF KW (cs (BM h) (plM h)) 0 0).2 : Int) + 1 + ((nuF (cs (BM h) (plM h + ((wdF KW (cs (BM h) (plM h)) 0 0).2 : Int) + 1))).2 : Int) + 4))).toInt = 59 by omega)), if_neg (fun q => q (show am (BM h) (tsP (BM h) (plM h + ((wdF KW (cs (BM h) (plM h)) 0 0).2 : Int) + 1 + ((nuF (cs (BM h) (plM h + ((wdF KW (cs (BM h) (plM h)) 0 0).2 : Int) + 1))).2 : Int) + 4)) from (show (BM h (tsP (BM h) (plM h + ((wdF KW (cs (BM h) (plM h)) 0 0).2 : Int) + 1 + ((nuF (cs (BM h) (plM h + ((wdF KW (cs (BM h) (plM h)) 0 0).2 : Int) + 1))).2 : Int) + 4))).toInt = 38 by omega))), if_neg (fun q => q O38), if_neg (show ¬ sc (BM h) (tsP (BM h) (tsP (BM h) (plM h + ((wdF KW (cs (BM h) (plM h)) 0 0).2 : Int) + 1 + ((nuF (cs (BM h) (plM h + ((wdF KW (cs (BM h) (plM h)) 0 0).2 : Int) + 1))).2 : Int) + 4) + 1)) from (show ¬ (BM h (tsP (BM h) (tsP (BM h) (plM h + ((wdF KW (cs (BM h) (plM h)) 0 0).2 : Int) + 1 + ((nuF (cs (BM h) (plM h + ((wdF KW (cs (BM h) (plM h)) 0 0).2 : Int) + 1))).2 : Int) + 4) + 1))).toInt = 59 by omega)), if_neg (fun q => q (show am (BM h) (tsP (BM h) (tsP (BM h) (plM h + ((wdF KW (cs (BM h) (plM h)) 0 0).2 : Int) + 1 + ((nuF (cs (BM h) (plM h + ((wdF KW (cs (BM h) (plM h)) 0 0).2 : Int) + 1))).2 : Int) + 4) + 1)) from (show (BM h (tsP (BM h) (tsP (BM h) (plM h + ((wdF KW (cs (BM h) (plM h)) 0 0).2 : Int) + 1 + ((nuF (cs (BM h) (plM h + ((wdF KW (cs (BM h) (plM h)) 0 0).2 : Int) + 1))).2 : Int) + 4) + 1))).toInt = 38 by omega))), if_neg (fun q => q O52), if_neg (show ¬ sc (BM h) (tsP (BM h) (tsP (BM h) (tsP (BM h) (plM h + ((wdF KW (cs (BM h) (plM h)) 0 0).2 : Int) + 1 + ((nuF (cs (BM h) (plM h + ((wdF KW (cs (BM h) (plM h)) 0 0).2 : Int) + 1))).2 : Int) + 4) + 1) + 1)) from (show ¬ (BM h (tsP (BM h) (tsP (BM h) (tsP (BM h) (plM h + ((wdF KW (cs (BM h) (plM h)) 0 0).2 : Int) + 1 + ((nuF (cs (BM h) (plM h + ((wdF KW (cs (BM h) (plM h)) 0 0).2 : Int) + 1))).2 : Int) + 4) + 1) + 1))).toInt = 59 by omega))]))]; show (-1 : Int) < 0; decide)⟩, (by rw [(show lnR (BM h) (plM h) = (-1, tsP (BM h) (tsP (BM h) (tsP (BM h) (plM h + ((wdF KW (cs (BM h) (plM h)) 0 0).2 : Int) + 1 + ((nuF (cs (BM h) (plM h + ((wdF KW (cs (BM h) (plM h)) 0 0).2 : Int) + 1))).2 : Int) + 4) + 1) + 1)) from (by (have m1 := (show Int32.toInt (-1) = -1 from rfl)); (have q0 := Qa2); (have b0 : (BM h (plM h + ((wdF KW (cs (BM h) (plM h)) 0 0).2 : Int))).toInt = Int32.toInt y6 := congrArg Int32.toInt rb6.symm); (have b1 : (BM h (plM h + ((wdF KW (cs (BM h) (plM h)) 0 0).2 : Int) + 1 + ((nuF (cs (BM h) (plM h + ((wdF KW (cs (BM h) (plM h)) 0 0).2 : Int) + 1))).2 : Int))).toInt = Int32.toInt y15 := congrArg Int32.toInt rb15.symm); (have b2 : (BM h (tsP (BM h) (plM h + ((wdF KW (cs (BM h) (plM h)) 0 0).2 : Int) + 1 + ((nuF (cs (BM h) (plM h + ((wdF KW (cs (BM h) (plM h)) 0 0).2 : Int) + 1))).2 : Int) + 4))).toInt = Int32.toInt y26 := congrArg Int32.toInt rb26.symm); (have b3 : (BM h (tsP (BM h) (tsP (BM h) (plM h + ((wdF KW (cs (BM h) (plM h)) 0 0).2 : Int) + 1 + ((nuF (cs (BM h) (plM h + ((wdF KW (cs (BM h) (plM h)) 0 0).2 : Int) + 1))).2 : Int) + 4) + 1))).toInt = Int32.toInt y40 := congrArg Int32.toInt rb40.symm); (have b4 : (BM h (tsP (BM h) (tsP (BM h) (tsP (BM h) (plM h + ((wdF KW (cs (BM h) (plM h)) 0 0).2 : Int) + 1 + ((nuF (cs (BM h) (plM h + ((wdF KW (cs (BM h) (plM h)) 0 0).2 : Int) + 1))).2 : Int) + 4) + 1) + 1))).toInt = Int32.toInt y54 := congrArg Int32.toInt rb54.symm); (have q1 : _ = (lnN (BM h) (plM h)).1 := Qa11); unfold lnR; rw [if_neg (fun q => q (show lnH (BM h) (plM h) from ⟨by omega, (show (BM h (plM h + ((wdF KW (cs (BM h) (plM h)) 0 0).2 : Int))).toInt = 32 by omega)⟩)), if_neg (show ¬ (lnN (BM h) (plM h)).1 < 0 by omega), if_neg (show ¬ sc (BM h) (lnE (BM h) (plM h)) from (show ¬ (BM h (plM h + ((wdF KW (cs (BM h) (plM h)) 0 0).2 : Int) + 1 + ((nuF (cs (BM h) (plM h + ((wdF KW (cs (BM h) (plM h)) 0 0).2 : Int) + 1))).2 : Int))).toInt = 59 by omega)), if_neg (fun q => q (show lnI (BM h) (plM h) from c22))]; show ttR (BM h) (plM h + ((wdF KW (cs (BM h) (plM h)) 0 0).2 : Int) + 1 + ((nuF (cs (BM h) (plM h + ((wdF KW (cs (BM h) (plM h)) 0 0).2 : Int) + 1))).2 : Int) + 4) = _; unfold ttR tu3 tu2; rw [if_neg (fun q => q O24), if_neg (show ¬ sc (BM h) (tsP (BM h) (plM h + ((wdF KW (cs (BM h) (plM h)) 0 0).2 : Int) + 1 + ((nuF (cs (BM h) (plM h + ((wdF KW (cs (BM h) (plM h)) 0 0).2 : Int) + 1))).2 : Int) + 4)) from (show ¬ (BM h (tsP (BM h) (plM h + ((wdF KW (cs (BM h) (plM h)) 0 0).2 : Int) + 1 + ((nuF (cs (BM h) (plM h + ((wdF KW (cs (BM h) (plM h)) 0 0).2 : Int) + 1))).2 : Int) + 4))).toInt = 59 by omega)), if_neg (fun q => q (show am (BM h) (tsP (BM h) (plM h + ((wdF KW (cs (BM h) (plM h)) 0 0).2 : Int) + 1 + ((nuF (cs (BM h) (plM h + ((wdF KW (cs (BM h) (plM h)) 0 0).2 : Int) + 1))).2 : Int) + 4)) from (show (BM h (tsP (BM h) (plM h + ((wdF KW (cs (BM h) (plM h)) 0 0).2 : Int) + 1 + ((nuF (cs (BM h) (plM h + ((wdF KW (cs (BM h) (plM h)) 0 0).2 : Int) + 1))).2 : Int) + 4))).toInt = 38 by omega))), if_neg (fun q => q O38), if_neg (show ¬ sc (BM h) (tsP (BM h) (tsP (BM h) (plM h + ((wdF KW (cs (BM h) (plM h)) 0 0).2 : Int) + 1 + ((nuF (cs (BM h) (plM h + ((wdF KW (cs (BM h) (plM h)) 0 0).2 : Int) + 1))).2 : Int) + 4) + 1)) from (show ¬ (BM h (tsP (BM h) (tsP (BM h) (plM h + ((wdF KW (cs (BM h) (plM h)) 0 0).2 : Int) + 1 + ((nuF (cs (BM h) (plM h + ((wdF KW (cs (BM h) (plM h)) 0 0).2 : Int) + 1))).2 : Int) + 4) + 1))).toInt = 59 by omega)), if_neg (fun q => q (show am (BM h) (tsP (BM h) (tsP (BM h) (plM h + ((wdF KW (cs (BM h) (plM h)) 0 0).2 : Int) + 1 + ((nuF (cs (BM h) (plM h + ((wdF KW (cs (BM h) (plM h)) 0 0).2 : Int) + 1))).2 : Int) + 4) + 1)) from (show (BM h (tsP (BM h) (tsP (BM h) (plM h + ((wdF KW (cs (BM h) (plM h)) 0 0).2 : Int) + 1 + ((nuF (cs (BM h) (plM h + ((wdF KW (cs (BM h) (plM h)) 0 0).2 : Int) + 1))).2 : Int) + 4) + 1))).toInt = 38 by omega))), if_neg (fun q => q O52), if_neg (show ¬ sc (BM h) (tsP (BM h) (tsP (BM h) (tsP (BM h) (plM h + ((wdF KW (cs (BM h) (plM h)) 0 0).2 : Int) + 1 + ((nuF (cs (BM h) (plM h + ((wdF KW (cs (BM h) (plM h)) 0 0).2 : Int) + 1))).2 : Int) + 4) + 1) + 1)) from (show ¬ (BM h (tsP (BM h) (tsP (BM h) (tsP (BM h) (plM h + ((wdF KW (cs (BM h) (plM h)) 0 0).2 : Int) + 1 + ((nuF (cs (BM h) (plM h + ((wdF KW (cs (BM h) (plM h)) 0 0).2 : Int) + 1))).2 : Int) + 4) + 1) + 1))).toInt = 59 by omega))])), show plM h52 = _ from Qb52]), (fun h9 => absurd h9 (by decide)), (fun m hm => ⟨((g52 _ _ rfl).trans ((u50.2 _ _ (Or.inl (by decide))).trans ((g38 _ _ rfl).trans ((u36.2 _ _ (Or.inl (by decide))).trans ((g24 _ _ rfl).trans ((g22 _ _ rfl).trans ((u12.2 _ _ (Or.inl (by decide))).trans ((g11 _ _ rfl).trans ((u9.2 _ _ (Or.inl (by decide))).trans ((u3.2 _ _ (Or.inr (by omega))).trans ((g2 _ _ rfl).trans (u1.2 _ _ (Or.inl (by decide)))))))))))))), ((g52 _ _ rfl).trans ((u50.2 _ _ (Or.inl (by decide))).trans ((g38 _ _ rfl).trans ((u36.2 _ _ (Or.inl (by decide))).trans ((g24 _ _ rfl).trans ((g22 _ _ rfl).trans ((u12.2 _ _ (Or.inr (by omega))).trans ((g11 _ _ rfl).trans ((u9.2 _ _ (Or.inl (by decide))).trans ((u3.2 _ _ (Or.inl (by decide))).trans ((g2 _ _ rfl).trans (u1.2 _ _ (Or.inl (by decide)))))))))))))), ((L52 _ (by omega)).trans ((u50.2 _ _ (Or.inl (by decide))).trans ((L38 _ (by omega)).trans ((u36.2 _ _ (Or.inl (by decide))).trans ((L24 _ (by omega)).trans ((g22 _ _ rfl).trans ((u12.2 _ _ (Or.inl (by decide))).trans ((g11 _ _ rfl).trans ((u9.2 _ _ (Or.inl (by decide))).trans ((u3.2 _ _ (Or.inl (by decide))).trans ((g2 _ _ rfl).trans (u1.2 _ _ (Or.inr (by omega))))))))))))))⟩), (fun m hm => ⟨((K52 _ (by omega)).1.trans ((u50.2 _ _ (Or.inl (by decide))).trans ((K38 _ (by omega)).1.trans ((u36.2 _ _ (Or.inl (by decide))).trans ((K24 _ (by omega)).1.trans ((g22 _ _ rfl).trans ((u12.2 _ _ (Or.inl (by decide))).trans ((g11 _ _ rfl).trans ((u9.2 _ _ (Or.inl (by decide))).trans ((u3.2 _ _ (Or.inl (by decide))).trans ((g2 _ _ rfl).trans (u1.2 _ _ (Or.inl (by decide)))))))))))))), ((K52 _ (by omega)).2.1.trans ((u50.2 _ _ (Or.inl (by decide))).trans ((K38 _ (by omega)).2.1.trans ((u36.2 _ _ (Or.inl (by decide))).trans ((K24 _ (by omega)).2.1.trans ((g22 _ _ rfl).trans ((u12.2 _ _ (Or.inl (by decide))).trans ((g11 _ _ rfl).trans ((u9.2 _ _ (Or.inl (by decide))).trans ((u3.2 _ _ (Or.inl (by decide))).trans ((g2 _ _ rfl).trans (u1.2 _ _ (Or.inl (by decide)))))))))))))), ((K52 _ (by omega)).2.2.trans ((u50.2 _ _ (Or.inl (by decide))).trans ((K38 _ (by omega)).2.2.trans ((u36.2 _ _ (Or.inl (by decide))).trans ((K24 _ (by omega)).2.2.trans ((g22 _ _ rfl).trans ((u12.2 _ _ (Or.inl (by decide))).trans ((g11 _ _ rfl).trans ((u9.2 _ _ (Or.inl (by decide))).trans ((u3.2 _ _ (Or.inl (by decide))).trans ((g2 _ _ rfl).trans (u1.2 _ _ (Or.inl (by decide))))))))))))))⟩)⟩
                                · refine te_aload_n (p2 := 113) rfl rfl rfl ?_
                                  refine tg_r (p2 := 116) (i := 148) (r := 204) rfl rfl I52 rfl rfl rfl ?_
                                  refine te_iload_n (p2 := 117) rfl rfl rfl ?_
                                  refine tl_e (p2 := 118) (i := 188) (n := 48) (t := 0) (Or.inl rfl) rfl rfl I52 rfl rfl (by omega) (by omega) ec52 ?_
                                  refine te_iconst (p2 := 119) (x := 3) rfl rfl (by decide) ?_
                                  refine tb_ge (p2 := 122) rfl rfl rfl (show Int32.toInt 3 = 3 from rfl) (fun c62 => ?_) (fun c62 => absurd c62 (by omega))
                                  refine te_aload_n (p2 := 143) rfl rfl rfl ?_
                                  refine cV_pI (p2 := 146) (i := 148) rfl rfl rfl rfl I52 rfl rfl rfl (c_X12_byteHere I52) (by decide) (fun y63 r63 => ?_)
                                  obtain ⟨rb63, at63, tp63, ea63, et63, aa63, ab63, ta63, tb63, r63⟩ := r63
                                  rw [(BM_fr f52 rfl (fun _ => rfl)), Qb52] at rb63
                                  have xat63 : at63 = at54 := int_inj ea63 ea54
                                  rw [xat63] at r63
                                  have xtp63 : tp63 = tp6 := int_inj et63 ((g52 _ _ (by decide)).trans ((u50.2 _ _ (Or.inr (by decide))).trans ((g38 _ _ (by decide)).trans ((u36.2 _ _ (Or.inr (by decide))).trans ((g24 _ _ (by decide)).trans ((g22 _ _ (by decide)).trans ((u12.2 _ _ (Or.inl (by decide))).trans ((g11 _ _ (by decide)).trans ((u9.2 _ _ (Or.inr (by decide))).trans et6)))))))))
                                  rw [xtp63] at r63
                                  have ye63 : y63 = y54 := rb63.trans rb54.symm
                                  rw [ye63]
                                  show EvP _ _ _ (146, [(0, .ref 164), (1, .int line)], [.int y54], h52) _
                                  refine te_bipush (p2 := 148) (x := 59) rfl rfl (by decide) ?_
                                  refine tb_eq (p2 := 151) rfl rfl rfl (show Int32.toInt 59 = 59 from rfl) (fun c64 => absurd c64 (by omega)) (fun c64 => ?_)
                                  refine te_iconst (p2 := 152) (x := 0) rfl rfl (by decide) ?_
                                  exact te_zret rfl rfl (by decide) ⟨I52, f52, _, rfl, Or.inr ⟨rfl, (by rw [(show lnR (BM h) (plM h) = (-1, tsP (BM h) (tsP (BM h) (tsP (BM h) (plM h + ((wdF KW (cs (BM h) (plM h)) 0 0).2 : Int) + 1 + ((nuF (cs (BM h) (plM h + ((wdF KW (cs (BM h) (plM h)) 0 0).2 : Int) + 1))).2 : Int) + 4) + 1) + 1)) from (by (have m1 := (show Int32.toInt (-1) = -1 from rfl)); (have q0 := Qa2); (have b0 : (BM h (plM h + ((wdF KW (cs (BM h) (plM h)) 0 0).2 : Int))).toInt = Int32.toInt y6 := congrArg Int32.toInt rb6.symm); (have b1 : (BM h (plM h + ((wdF KW (cs (BM h) (plM h)) 0 0).2 : Int) + 1 + ((nuF (cs (BM h) (plM h + ((wdF KW (cs (BM h) (plM h)) 0 0).2 : Int) + 1))).2 : Int))).toInt = Int32.toInt y15 := congrArg Int32.toInt rb15.symm); (have b2 : (BM h (tsP (BM h) (plM h + ((wdF KW (cs (BM h) (plM h)) 0 0).2 : Int) + 1 + ((nuF (cs (BM h) (plM h + ((wdF KW (cs (BM h) (plM h)) 0 0).2 : Int) + 1))).2 : Int) + 4))).toInt = Int32.toInt y26 := congrArg Int32.toInt rb26.symm); (have b3 : (BM h (tsP (BM h) (tsP (BM h) (plM h + ((wdF KW (cs (BM h) (plM h)) 0 0).2 : Int) + 1 + ((nuF (cs (BM h) (plM h + ((wdF KW (cs (BM h) (plM h)) 0 0).2 : Int) + 1))).2 : Int) + 4) + 1))).toInt = Int32.toInt y40 := congrArg Int32.toInt rb40.symm); (have b4 : (BM h (tsP (BM h) (tsP (BM h) (tsP (BM h) (plM h + ((wdF KW (cs (BM h) (plM h)) 0 0).2 : Int) + 1 + ((nuF (cs (BM h) (plM h + ((wdF KW (cs (BM h) (plM h)) 0 0).2 : Int) + 1))).2 : Int) + 4) + 1) + 1))).toInt = Int32.toInt y54 := congrArg Int32.toInt rb54.symm); (have q1 : _ = (lnN (BM h) (plM h)).1 := Qa11); unfold lnR; rw [if_neg (fun q => q (show lnH (BM h) (plM h) from ⟨by omega, (show (BM h (plM h + ((wdF KW (cs (BM h) (plM h)) 0 0).2 : Int))).toInt = 32 by omega)⟩)), if_neg (show ¬ (lnN (BM h) (plM h)).1 < 0 by omega), if_neg (show ¬ sc (BM h) (lnE (BM h) (plM h)) from (show ¬ (BM h (plM h + ((wdF KW (cs (BM h) (plM h)) 0 0).2 : Int) + 1 + ((nuF (cs (BM h) (plM h + ((wdF KW (cs (BM h) (plM h)) 0 0).2 : Int) + 1))).2 : Int))).toInt = 59 by omega)), if_neg (fun q => q (show lnI (BM h) (plM h) from c22))]; show ttR (BM h) (plM h + ((wdF KW (cs (BM h) (plM h)) 0 0).2 : Int) + 1 + ((nuF (cs (BM h) (plM h + ((wdF KW (cs (BM h) (plM h)) 0 0).2 : Int) + 1))).2 : Int) + 4) = _; unfold ttR tu3 tu2; rw [if_neg (fun q => q O24), if_neg (show ¬ sc (BM h) (tsP (BM h) (plM h + ((wdF KW (cs (BM h) (plM h)) 0 0).2 : Int) + 1 + ((nuF (cs (BM h) (plM h + ((wdF KW (cs (BM h) (plM h)) 0 0).2 : Int) + 1))).2 : Int) + 4)) from (show ¬ (BM h (tsP (BM h) (plM h + ((wdF KW (cs (BM h) (plM h)) 0 0).2 : Int) + 1 + ((nuF (cs (BM h) (plM h + ((wdF KW (cs (BM h) (plM h)) 0 0).2 : Int) + 1))).2 : Int) + 4))).toInt = 59 by omega)), if_neg (fun q => q (show am (BM h) (tsP (BM h) (plM h + ((wdF KW (cs (BM h) (plM h)) 0 0).2 : Int) + 1 + ((nuF (cs (BM h) (plM h + ((wdF KW (cs (BM h) (plM h)) 0 0).2 : Int) + 1))).2 : Int) + 4)) from (show (BM h (tsP (BM h) (plM h + ((wdF KW (cs (BM h) (plM h)) 0 0).2 : Int) + 1 + ((nuF (cs (BM h) (plM h + ((wdF KW (cs (BM h) (plM h)) 0 0).2 : Int) + 1))).2 : Int) + 4))).toInt = 38 by omega))), if_neg (fun q => q O38), if_neg (show ¬ sc (BM h) (tsP (BM h) (tsP (BM h) (plM h + ((wdF KW (cs (BM h) (plM h)) 0 0).2 : Int) + 1 + ((nuF (cs (BM h) (plM h + ((wdF KW (cs (BM h) (plM h)) 0 0).2 : Int) + 1))).2 : Int) + 4) + 1)) from (show ¬ (BM h (tsP (BM h) (tsP (BM h) (plM h + ((wdF KW (cs (BM h) (plM h)) 0 0).2 : Int) + 1 + ((nuF (cs (BM h) (plM h + ((wdF KW (cs (BM h) (plM h)) 0 0).2 : Int) + 1))).2 : Int) + 4) + 1))).toInt = 59 by omega)), if_neg (fun q => q (show am (BM h) (tsP (BM h) (tsP (BM h) (plM h + ((wdF KW (cs (BM h) (plM h)) 0 0).2 : Int) + 1 + ((nuF (cs (BM h) (plM h + ((wdF KW (cs (BM h) (plM h)) 0 0).2 : Int) + 1))).2 : Int) + 4) + 1)) from (show (BM h (tsP (BM h) (tsP (BM h) (plM h + ((wdF KW (cs (BM h) (plM h)) 0 0).2 : Int) + 1 + ((nuF (cs (BM h) (plM h + ((wdF KW (cs (BM h) (plM h)) 0 0).2 : Int) + 1))).2 : Int) + 4) + 1))).toInt = 38 by omega))), if_neg (fun q => q O52), if_neg (show ¬ sc (BM h) (tsP (BM h) (tsP (BM h) (tsP (BM h) (plM h + ((wdF KW (cs (BM h) (plM h)) 0 0).2 : Int) + 1 + ((nuF (cs (BM h) (plM h + ((wdF KW (cs (BM h) (plM h)) 0 0).2 : Int) + 1))).2 : Int) + 4) + 1) + 1)) from (show ¬ (BM h (tsP (BM h) (tsP (BM h) (tsP (BM h) (plM h + ((wdF KW (cs (BM h) (plM h)) 0 0).2 : Int) + 1 + ((nuF (cs (BM h) (plM h + ((wdF KW (cs (BM h) (plM h)) 0 0).2 : Int) + 1))).2 : Int) + 4) + 1) + 1))).toInt = 59 by omega))]))]; show (-1 : Int) < 0; decide)⟩, (by rw [(show lnR (BM h) (plM h) = (-1, tsP (BM h) (tsP (BM h) (tsP (BM h) (plM h + ((wdF KW (cs (BM h) (plM h)) 0 0).2 : Int) + 1 + ((nuF (cs (BM h) (plM h + ((wdF KW (cs (BM h) (plM h)) 0 0).2 : Int) + 1))).2 : Int) + 4) + 1) + 1)) from (by (have m1 := (show Int32.toInt (-1) = -1 from rfl)); (have q0 := Qa2); (have b0 : (BM h (plM h + ((wdF KW (cs (BM h) (plM h)) 0 0).2 : Int))).toInt = Int32.toInt y6 := congrArg Int32.toInt rb6.symm); (have b1 : (BM h (plM h + ((wdF KW (cs (BM h) (plM h)) 0 0).2 : Int) + 1 + ((nuF (cs (BM h) (plM h + ((wdF KW (cs (BM h) (plM h)) 0 0).2 : Int) + 1))).2 : Int))).toInt = Int32.toInt y15 := congrArg Int32.toInt rb15.symm); (have b2 : (BM h (tsP (BM h) (plM h + ((wdF KW (cs (BM h) (plM h)) 0 0).2 : Int) + 1 + ((nuF (cs (BM h) (plM h + ((wdF KW (cs (BM h) (plM h)) 0 0).2 : Int) + 1))).2 : Int) + 4))).toInt = Int32.toInt y26 := congrArg Int32.toInt rb26.symm); (have b3 : (BM h (tsP (BM h) (tsP (BM h) (plM h + ((wdF KW (cs (BM h) (plM h)) 0 0).2 : Int) + 1 + ((nuF (cs (BM h) (plM h + ((wdF KW (cs (BM h) (plM h)) 0 0).2 : Int) + 1))).2 : Int) + 4) + 1))).toInt = Int32.toInt y40 := congrArg Int32.toInt rb40.symm); (have b4 : (BM h (tsP (BM h) (tsP (BM h) (tsP (BM h) (plM h + ((wdF KW (cs (BM h) (plM h)) 0 0).2 : Int) + 1 + ((nuF (cs (BM h) (plM h + ((wdF KW (cs (BM h) (plM h)) 0 0).2 : Int) + 1))).2 : Int) + 4) + 1) + 1))).toInt = Int32.toInt y54 := congrArg Int32.toInt rb54.symm); (have q1 : _ = (lnN (BM h) (plM h)).1 := Qa11); unfold lnR; rw [if_neg (fun q => q (show lnH (BM h) (plM h) from ⟨by omega, (show (BM h (plM h + ((wdF KW (cs (BM h) (plM h)) 0 0).2 : Int))).toInt = 32 by omega)⟩)), if_neg (show ¬ (lnN (BM h) (plM h)).1 < 0 by omega), if_neg (show ¬ sc (BM h) (lnE (BM h) (plM h)) from (show ¬ (BM h (plM h + ((wdF KW (cs (BM h) (plM h)) 0 0).2 : Int) + 1 + ((nuF (cs (BM h) (plM h + ((wdF KW (cs (BM h) (plM h)) 0 0).2 : Int) + 1))).2 : Int))).toInt = 59 by omega)), if_neg (fun q => q (show lnI (BM h) (plM h) from c22))]; show ttR (BM h) (plM h + ((wdF KW (cs (BM h) (plM h)) 0 0).2 : Int) + 1 + ((nuF (cs (BM h) (plM h + ((wdF KW (cs (BM h) (plM h)) 0 0).2 : Int) + 1))).2 : Int) + 4) = _; unfold ttR tu3 tu2; rw [if_neg (fun q => q O24), if_neg (show ¬ sc (BM h) (tsP (BM h) (plM h + ((wdF KW (cs (BM h) (plM h)) 0 0).2 : Int) + 1 + ((nuF (cs (BM h) (plM h + ((wdF KW (cs (BM h) (plM h)) 0 0).2 : Int) + 1))).2 : Int) + 4)) from (show ¬ (BM h (tsP (BM h) (plM h + ((wdF KW (cs (BM h) (plM h)) 0 0).2 : Int) + 1 + ((nuF (cs (BM h) (plM h + ((wdF KW (cs (BM h) (plM h)) 0 0).2 : Int) + 1))).2 : Int) + 4))).toInt = 59 by omega)), if_neg (fun q => q (show am (BM h) (tsP (BM h) (plM h + ((wdF KW (cs (BM h) (plM h)) 0 0).2 : Int) + 1 + ((nuF (cs (BM h) (plM h + ((wdF KW (cs (BM h) (plM h)) 0 0).2 : Int) + 1))).2 : Int) + 4)) from (show (BM h (tsP (BM h) (plM h + ((wdF KW (cs (BM h) (plM h)) 0 0).2 : Int) + 1 + ((nuF (cs (BM h) (plM h + ((wdF KW (cs (BM h) (plM h)) 0 0).2 : Int) + 1))).2 : Int) + 4))).toInt = 38 by omega))), if_neg (fun q => q O38), if_neg (show ¬ sc (BM h) (tsP (BM h) (tsP (BM h) (plM h + ((wdF KW (cs (BM h) (plM h)) 0 0).2 : Int) + 1 + ((nuF (cs (BM h) (plM h + ((wdF KW (cs (BM h) (plM h)) 0 0).2 : Int) + 1))).2 : Int) + 4) + 1)) from (show ¬ (BM h (tsP (BM h) (tsP (BM h) (plM h + ((wdF KW (cs (BM h) (plM h)) 0 0).2 : Int) + 1 + ((nuF (cs (BM h) (plM h + ((wdF KW (cs (BM h) (plM h)) 0 0).2 : Int) + 1))).2 : Int) + 4) + 1))).toInt = 59 by omega)), if_neg (fun q => q (show am (BM h) (tsP (BM h) (tsP (BM h) (plM h + ((wdF KW (cs (BM h) (plM h)) 0 0).2 : Int) + 1 + ((nuF (cs (BM h) (plM h + ((wdF KW (cs (BM h) (plM h)) 0 0).2 : Int) + 1))).2 : Int) + 4) + 1)) from (show (BM h (tsP (BM h) (tsP (BM h) (plM h + ((wdF KW (cs (BM h) (plM h)) 0 0).2 : Int) + 1 + ((nuF (cs (BM h) (plM h + ((wdF KW (cs (BM h) (plM h)) 0 0).2 : Int) + 1))).2 : Int) + 4) + 1))).toInt = 38 by omega))), if_neg (fun q => q O52), if_neg (show ¬ sc (BM h) (tsP (BM h) (tsP (BM h) (tsP (BM h) (plM h + ((wdF KW (cs (BM h) (plM h)) 0 0).2 : Int) + 1 + ((nuF (cs (BM h) (plM h + ((wdF KW (cs (BM h) (plM h)) 0 0).2 : Int) + 1))).2 : Int) + 4) + 1) + 1)) from (show ¬ (BM h (tsP (BM h) (tsP (BM h) (tsP (BM h) (plM h + ((wdF KW (cs (BM h) (plM h)) 0 0).2 : Int) + 1 + ((nuF (cs (BM h) (plM h + ((wdF KW (cs (BM h) (plM h)) 0 0).2 : Int) + 1))).2 : Int) + 4) + 1) + 1))).toInt = 59 by omega))])), show plM h52 = _ from Qb52]), (fun h9 => absurd h9 (by decide)), (fun m hm => ⟨((g52 _ _ rfl).trans ((u50.2 _ _ (Or.inl (by decide))).trans ((g38 _ _ rfl).trans ((u36.2 _ _ (Or.inl (by decide))).trans ((g24 _ _ rfl).trans ((g22 _ _ rfl).trans ((u12.2 _ _ (Or.inl (by decide))).trans ((g11 _ _ rfl).trans ((u9.2 _ _ (Or.inl (by decide))).trans ((u3.2 _ _ (Or.inr (by omega))).trans ((g2 _ _ rfl).trans (u1.2 _ _ (Or.inl (by decide)))))))))))))), ((g52 _ _ rfl).trans ((u50.2 _ _ (Or.inl (by decide))).trans ((g38 _ _ rfl).trans ((u36.2 _ _ (Or.inl (by decide))).trans ((g24 _ _ rfl).trans ((g22 _ _ rfl).trans ((u12.2 _ _ (Or.inr (by omega))).trans ((g11 _ _ rfl).trans ((u9.2 _ _ (Or.inl (by decide))).trans ((u3.2 _ _ (Or.inl (by decide))).trans ((g2 _ _ rfl).trans (u1.2 _ _ (Or.inl (by decide)))))))))))))), ((L52 _ (by omega)).trans ((u50.2 _ _ (Or.inl (by decide))).trans ((L38 _ (by omega)).trans ((u36.2 _ _ (Or.inl (by decide))).trans ((L24 _ (by omega)).trans ((g22 _ _ rfl).trans ((u12.2 _ _ (Or.inl (by decide))).trans ((g11 _ _ rfl).trans ((u9.2 _ _ (Or.inl (by decide))).trans ((u3.2 _ _ (Or.inl (by decide))).trans ((g2 _ _ rfl).trans (u1.2 _ _ (Or.inr (by omega))))))))))))))⟩), (fun m hm => ⟨((K52 _ (by omega)).1.trans ((u50.2 _ _ (Or.inl (by decide))).trans ((K38 _ (by omega)).1.trans ((u36.2 _ _ (Or.inl (by decide))).trans ((K24 _ (by omega)).1.trans ((g22 _ _ rfl).trans ((u12.2 _ _ (Or.inl (by decide))).trans ((g11 _ _ rfl).trans ((u9.2 _ _ (Or.inl (by decide))).trans ((u3.2 _ _ (Or.inl (by decide))).trans ((g2 _ _ rfl).trans (u1.2 _ _ (Or.inl (by decide)))))))))))))), ((K52 _ (by omega)).2.1.trans ((u50.2 _ _ (Or.inl (by decide))).trans ((K38 _ (by omega)).2.1.trans ((u36.2 _ _ (Or.inl (by decide))).trans ((K24 _ (by omega)).2.1.trans ((g22 _ _ rfl).trans ((u12.2 _ _ (Or.inl (by decide))).trans ((g11 _ _ rfl).trans ((u9.2 _ _ (Or.inl (by decide))).trans ((u3.2 _ _ (Or.inl (by decide))).trans ((g2 _ _ rfl).trans (u1.2 _ _ (Or.inl (by decide)))))))))))))), ((K52 _ (by omega)).2.2.trans ((u50.2 _ _ (Or.inl (by decide))).trans ((K38 _ (by omega)).2.2.trans ((u36.2 _ _ (Or.inl (by decide))).trans ((K24 _ (by omega)).2.2.trans ((g22 _ _ rfl).trans ((u12.2 _ _ (Or.inl (by decide))).trans ((g11 _ _ rfl).trans ((u9.2 _ _ (Or.inl (by decide))).trans ((u3.2 _ _ (Or.inl (by decide))).trans ((g2 _ _ rfl).trans (u1.2 _ _ (Or.inl (by decide))))))))))))))⟩)⟩
                              · subst r54
                                refine te_bipush (p2 := 109) (x := 38) rfl rfl (by decide) ?_
                                refine tb_ne (p2 := 112) rfl rfl (show Int32.toInt (-1) = (-1) from rfl) (show Int32.toInt 38 = 38 from rfl) (fun c65 => ?_) (fun c65 => absurd c65 (by omega))
                                refine te_aload_n (p2 := 143) rfl rfl rfl ?_
                                refine cV_pI (p2 := 146) (i := 148) rfl rfl rfl rfl I52 rfl rfl rfl (c_X12_byteHere I52) (by decide) (fun y66 r66 => ?_)
                                obtain ⟨rb66, at66, tp66, ea66, et66, aa66, ab66, ta66, tb66, r66⟩ := r66
                                rw [(BM_fr f52 rfl (fun _ => rfl)), Qb52] at rb66
                                have xat66 : at66 = at54 := int_inj ea66 ea54
                                rw [xat66] at r66
                                have xtp66 : tp66 = tp6 := int_inj et66 ((g52 _ _ (by decide)).trans ((u50.2 _ _ (Or.inr (by decide))).trans ((g38 _ _ (by decide)).trans ((u36.2 _ _ (Or.inr (by decide))).trans ((g24 _ _ (by decide)).trans ((g22 _ _ (by decide)).trans ((u12.2 _ _ (Or.inl (by decide))).trans ((g11 _ _ (by decide)).trans ((u9.2 _ _ (Or.inr (by decide))).trans et6)))))))))
                                rw [xtp66] at r66
                                have ye66 : y66 = (-1) := rb66.trans rb54.symm
                                rw [ye66]
                                show EvP _ _ _ (146, [(0, .ref 164), (1, .int line)], [.int (-1)], h52) _
                                refine te_bipush (p2 := 148) (x := 59) rfl rfl (by decide) ?_
                                refine tb_eq (p2 := 151) rfl rfl (show Int32.toInt (-1) = (-1) from rfl) (show Int32.toInt 59 = 59 from rfl) (fun c67 => absurd c67 (by omega)) (fun c67 => ?_)
                                refine te_iconst (p2 := 152) (x := 0) rfl rfl (by decide) ?_
                                exact te_zret rfl rfl (by decide) ⟨I52, f52, _, rfl, Or.inr ⟨rfl, (by rw [(show lnR (BM h) (plM h) = (-1, tsP (BM h) (tsP (BM h) (tsP (BM h) (plM h + ((wdF KW (cs (BM h) (plM h)) 0 0).2 : Int) + 1 + ((nuF (cs (BM h) (plM h + ((wdF KW (cs (BM h) (plM h)) 0 0).2 : Int) + 1))).2 : Int) + 4) + 1) + 1)) from (by (have m1 := (show Int32.toInt (-1) = -1 from rfl)); (have q0 := Qa2); (have b0 : (BM h (plM h + ((wdF KW (cs (BM h) (plM h)) 0 0).2 : Int))).toInt = Int32.toInt y6 := congrArg Int32.toInt rb6.symm); (have b1 : (BM h (plM h + ((wdF KW (cs (BM h) (plM h)) 0 0).2 : Int) + 1 + ((nuF (cs (BM h) (plM h + ((wdF KW (cs (BM h) (plM h)) 0 0).2 : Int) + 1))).2 : Int))).toInt = Int32.toInt y15 := congrArg Int32.toInt rb15.symm); (have b2 : (BM h (tsP (BM h) (plM h + ((wdF KW (cs (BM h) (plM h)) 0 0).2 : Int) + 1 + ((nuF (cs (BM h) (plM h + ((wdF KW (cs (BM h) (plM h)) 0 0).2 : Int) + 1))).2 : Int) + 4))).toInt = Int32.toInt y26 := congrArg Int32.toInt rb26.symm); (have b3 : (BM h (tsP (BM h) (tsP (BM h) (plM h + ((wdF KW (cs (BM h) (plM h)) 0 0).2 : Int) + 1 + ((nuF (cs (BM h) (plM h + ((wdF KW (cs (BM h) (plM h)) 0 0).2 : Int) + 1))).2 : Int) + 4) + 1))).toInt = Int32.toInt y40 := congrArg Int32.toInt rb40.symm); (have b4 : (BM h (tsP (BM h) (tsP (BM h) (tsP (BM h) (plM h + ((wdF KW (cs (BM h) (plM h)) 0 0).2 : Int) + 1 + ((nuF (cs (BM h) (plM h + ((wdF KW (cs (BM h) (plM h)) 0 0).2 : Int) + 1))).2 : Int) + 4) + 1) + 1))).toInt = Int32.toInt (-1) := congrArg Int32.toInt rb54.symm); (have q1 : _ = (lnN (BM h) (plM h)).1 := Qa11); unfold lnR; rw [if_neg (fun q => q (show lnH (BM h) (plM h) from ⟨by omega, (show (BM h (plM h + ((wdF KW (cs (BM h) (plM h)) 0 0).2 : Int))).toInt = 32 by omega)⟩)), if_neg (show ¬ (lnN (BM h) (plM h)).1 < 0 by omega), if_neg (show ¬ sc (BM h) (lnE (BM h) (plM h)) from (show ¬ (BM h (plM h + ((wdF KW (cs (BM h) (plM h)) 0 0).2 : Int) + 1 + ((nuF (cs (BM h) (plM h + ((wdF KW (cs (BM h) (plM h)) 0 0).2 : Int) + 1))).2 : Int))).toInt = 59 by omega)), if_neg (fun q => q (show lnI (BM h) (plM h) from c22))]; show ttR (BM h) (plM h + ((wdF KW (cs (BM h) (plM h)) 0 0).2 : Int) + 1 + ((nuF (cs (BM h) (plM h + ((wdF KW (cs (BM h) (plM h)) 0 0).2 : Int) + 1))).2 : Int) + 4) = _; unfold ttR tu3 tu2; rw [if_neg (fun q => q O24), if_neg (show ¬ sc (BM h) (tsP (BM h) (plM h + ((wdF KW (cs (BM h) (plM h)) 0 0).2 : Int) + 1 + ((nuF (cs (BM h) (plM h + ((wdF KW (cs (BM h) (plM h)) 0 0).2 : Int) + 1))).2 : Int) + 4)) from (show ¬ (BM h (tsP (BM h) (plM h + ((wdF KW (cs (BM h) (plM h)) 0 0).2 : Int) + 1 + ((nuF (cs (BM h) (plM h + ((wdF KW (cs (BM h) (plM h)) 0 0).2 : Int) + 1))).2 : Int) + 4))).toInt = 59 by omega)), if_neg (fun q => q (show am (BM h) (tsP (BM h) (plM h + ((wdF KW (cs (BM h) (plM h)) 0 0).2 : Int) + 1 + ((nuF (cs (BM h) (plM h + ((wdF KW (cs (BM h) (plM h)) 0 0).2 : Int) + 1))).2 : Int) + 4)) from (show (BM h (tsP (BM h) (plM h + ((wdF KW (cs (BM h) (plM h)) 0 0).2 : Int) + 1 + ((nuF (cs (BM h) (plM h + ((wdF KW (cs (BM h) (plM h)) 0 0).2 : Int) + 1))).2 : Int) + 4))).toInt = 38 by omega))), if_neg (fun q => q O38), if_neg (show ¬ sc (BM h) (tsP (BM h) (tsP (BM h) (plM h + ((wdF KW (cs (BM h) (plM h)) 0 0).2 : Int) + 1 + ((nuF (cs (BM h) (plM h + ((wdF KW (cs (BM h) (plM h)) 0 0).2 : Int) + 1))).2 : Int) + 4) + 1)) from (show ¬ (BM h (tsP (BM h) (tsP (BM h) (plM h + ((wdF KW (cs (BM h) (plM h)) 0 0).2 : Int) + 1 + ((nuF (cs (BM h) (plM h + ((wdF KW (cs (BM h) (plM h)) 0 0).2 : Int) + 1))).2 : Int) + 4) + 1))).toInt = 59 by omega)), if_neg (fun q => q (show am (BM h) (tsP (BM h) (tsP (BM h) (plM h + ((wdF KW (cs (BM h) (plM h)) 0 0).2 : Int) + 1 + ((nuF (cs (BM h) (plM h + ((wdF KW (cs (BM h) (plM h)) 0 0).2 : Int) + 1))).2 : Int) + 4) + 1)) from (show (BM h (tsP (BM h) (tsP (BM h) (plM h + ((wdF KW (cs (BM h) (plM h)) 0 0).2 : Int) + 1 + ((nuF (cs (BM h) (plM h + ((wdF KW (cs (BM h) (plM h)) 0 0).2 : Int) + 1))).2 : Int) + 4) + 1))).toInt = 38 by omega))), if_neg (fun q => q O52), if_neg (show ¬ sc (BM h) (tsP (BM h) (tsP (BM h) (tsP (BM h) (plM h + ((wdF KW (cs (BM h) (plM h)) 0 0).2 : Int) + 1 + ((nuF (cs (BM h) (plM h + ((wdF KW (cs (BM h) (plM h)) 0 0).2 : Int) + 1))).2 : Int) + 4) + 1) + 1)) from (show ¬ (BM h (tsP (BM h) (tsP (BM h) (tsP (BM h) (plM h + ((wdF KW (cs (BM h) (plM h)) 0 0).2 : Int) + 1 + ((nuF (cs (BM h) (plM h + ((wdF KW (cs (BM h) (plM h)) 0 0).2 : Int) + 1))).2 : Int) + 4) + 1) + 1))).toInt = 59 by omega))]))]; show (-1 : Int) < 0; decide)⟩, (by rw [(show lnR (BM h) (plM h) = (-1, tsP (BM h) (tsP (BM h) (tsP (BM h) (plM h + ((wdF KW (cs (BM h) (plM h)) 0 0).2 : Int) + 1 + ((nuF (cs (BM h) (plM h + ((wdF KW (cs (BM h) (plM h)) 0 0).2 : Int) + 1))).2 : Int) + 4) + 1) + 1)) from (by (have m1 := (show Int32.toInt (-1) = -1 from rfl)); (have q0 := Qa2); (have b0 : (BM h (plM h + ((wdF KW (cs (BM h) (plM h)) 0 0).2 : Int))).toInt = Int32.toInt y6 := congrArg Int32.toInt rb6.symm); (have b1 : (BM h (plM h + ((wdF KW (cs (BM h) (plM h)) 0 0).2 : Int) + 1 + ((nuF (cs (BM h) (plM h + ((wdF KW (cs (BM h) (plM h)) 0 0).2 : Int) + 1))).2 : Int))).toInt = Int32.toInt y15 := congrArg Int32.toInt rb15.symm); (have b2 : (BM h (tsP (BM h) (plM h + ((wdF KW (cs (BM h) (plM h)) 0 0).2 : Int) + 1 + ((nuF (cs (BM h) (plM h + ((wdF KW (cs (BM h) (plM h)) 0 0).2 : Int) + 1))).2 : Int) + 4))).toInt = Int32.toInt y26 := congrArg Int32.toInt rb26.symm); (have b3 : (BM h (tsP (BM h) (tsP (BM h) (plM h + ((wdF KW (cs (BM h) (plM h)) 0 0).2 : Int) + 1 + ((nuF (cs (BM h) (plM h + ((wdF KW (cs (BM h) (plM h)) 0 0).2 : Int) + 1))).2 : Int) + 4) + 1))).toInt = Int32.toInt y40 := congrArg Int32.toInt rb40.symm); (have b4 : (BM h (tsP (BM h) (tsP (BM h) (tsP (BM h) (plM h + ((wdF KW (cs (BM h) (plM h)) 0 0).2 : Int) + 1 + ((nuF (cs (BM h) (plM h + ((wdF KW (cs (BM h) (plM h)) 0 0).2 : Int) + 1))).2 : Int) + 4) + 1) + 1))).toInt = Int32.toInt (-1) := congrArg Int32.toInt rb54.symm); (have q1 : _ = (lnN (BM h) (plM h)).1 := Qa11); unfold lnR; rw [if_neg (fun q => q (show lnH (BM h) (plM h) from ⟨by omega, (show (BM h (plM h + ((wdF KW (cs (BM h) (plM h)) 0 0).2 : Int))).toInt = 32 by omega)⟩)), if_neg (show ¬ (lnN (BM h) (plM h)).1 < 0 by omega), if_neg (show ¬ sc (BM h) (lnE (BM h) (plM h)) from (show ¬ (BM h (plM h + ((wdF KW (cs (BM h) (plM h)) 0 0).2 : Int) + 1 + ((nuF (cs (BM h) (plM h + ((wdF KW (cs (BM h) (plM h)) 0 0).2 : Int) + 1))).2 : Int))).toInt = 59 by omega)), if_neg (fun q => q (show lnI (BM h) (plM h) from c22))]; show ttR (BM h) (plM h + ((wdF KW (cs (BM h) (plM h)) 0 0).2 : Int) + 1 + ((nuF (cs (BM h) (plM h + ((wdF KW (cs (BM h) (plM h)) 0 0).2 : Int) + 1))).2 : Int) + 4) = _; unfold ttR tu3 tu2; rw [if_neg (fun q => q O24), if_neg (show ¬ sc (BM h) (tsP (BM h) (plM h + ((wdF KW (cs (BM h) (plM h)) 0 0).2 : Int) + 1 + ((nuF (cs (BM h) (plM h + ((wdF KW (cs (BM h) (plM h)) 0 0).2 : Int) + 1))).2 : Int) + 4)) from (show ¬ (BM h (tsP (BM h) (plM h + ((wdF KW (cs (BM h) (plM h)) 0 0).2 : Int) + 1 + ((nuF (cs (BM h) (plM h + ((wdF KW (cs (BM h) (plM h)) 0 0).2 : Int) + 1))).2 : Int) + 4))).toInt = 59 by omega)), if_neg (fun q => q (show am (BM h) (tsP (BM h) (plM h + ((wdF KW (cs (BM h) (plM h)) 0 0).2 : Int) + 1 + ((nuF (cs (BM h) (plM h + ((wdF KW (cs (BM h) (plM h)) 0 0).2 : Int) + 1))).2 : Int) + 4)) from (show (BM h (tsP (BM h) (plM h + ((wdF KW (cs (BM h) (plM h)) 0 0).2 : Int) + 1 + ((nuF (cs (BM h) (plM h + ((wdF KW (cs (BM h) (plM h)) 0 0).2 : Int) + 1))).2 : Int) + 4))).toInt = 38 by omega))), if_neg (fun q => q O38), if_neg (show ¬ sc (BM h) (tsP (BM h) (tsP (BM h) (plM h + ((wdF KW (cs (BM h) (plM h)) 0 0).2 : Int) + 1 + ((nuF (cs (BM h) (plM h + ((wdF KW (cs (BM h) (plM h)) 0 0).2 : Int) + 1))).2 : Int) + 4) + 1)) from (show ¬ (BM h (tsP (BM h) (tsP (BM h) (plM h + ((wdF KW (cs (BM h) (plM h)) 0 0).2 : Int) + 1 + ((nuF (cs (BM h) (plM h + ((wdF KW (cs (BM h) (plM h)) 0 0).2 : Int) + 1))).2 : Int) + 4) + 1))).toInt = 59 by omega)), if_neg (fun q => q (show am (BM h) (tsP (BM h) (tsP (BM h) (plM h + ((wdF KW (cs (BM h) (plM h)) 0 0).2 : Int) + 1 + ((nuF (cs (BM h) (plM h + ((wdF KW (cs (BM h) (plM h)) 0 0).2 : Int) + 1))).2 : Int) + 4) + 1)) from (show (BM h (tsP (BM h) (tsP (BM h) (plM h + ((wdF KW (cs (BM h) (plM h)) 0 0).2 : Int) + 1 + ((nuF (cs (BM h) (plM h + ((wdF KW (cs (BM h) (plM h)) 0 0).2 : Int) + 1))).2 : Int) + 4) + 1))).toInt = 38 by omega))), if_neg (fun q => q O52), if_neg (show ¬ sc (BM h) (tsP (BM h) (tsP (BM h) (tsP (BM h) (plM h + ((wdF KW (cs (BM h) (plM h)) 0 0).2 : Int) + 1 + ((nuF (cs (BM h) (plM h + ((wdF KW (cs (BM h) (plM h)) 0 0).2 : Int) + 1))).2 : Int) + 4) + 1) + 1)) from (show ¬ (BM h (tsP (BM h) (tsP (BM h) (tsP (BM h) (plM h + ((wdF KW (cs (BM h) (plM h)) 0 0).2 : Int) + 1 + ((nuF (cs (BM h) (plM h + ((wdF KW (cs (BM h) (plM h)) 0 0).2 : Int) + 1))).2 : Int) + 4) + 1) + 1))).toInt = 59 by omega))])), show plM h52 = _ from Qb52]), (fun h9 => absurd h9 (by decide)), (fun m hm => ⟨((g52 _ _ rfl).trans ((u50.2 _ _ (Or.inl (by decide))).trans ((g38 _ _ rfl).trans ((u36.2 _ _ (Or.inl (by decide))).trans ((g24 _ _ rfl).trans ((g22 _ _ rfl).trans ((u12.2 _ _ (Or.inl (by decide))).trans ((g11 _ _ rfl).trans ((u9.2 _ _ (Or.inl (by decide))).trans ((u3.2 _ _ (Or.inr (by omega))).trans ((g2 _ _ rfl).trans (u1.2 _ _ (Or.inl (by decide)))))))))))))), ((g52 _ _ rfl).trans ((u50.2 _ _ (Or.inl (by decide))).trans ((g38 _ _ rfl).trans ((u36.2 _ _ (Or.inl (by decide))).trans ((g24 _ _ rfl).trans ((g22 _ _ rfl).trans ((u12.2 _ _ (Or.inr (by omega))).trans ((g11 _ _ rfl).trans ((u9.2 _ _ (Or.inl (by decide))).trans ((u3.2 _ _ (Or.inl (by decide))).trans ((g2 _ _ rfl).trans (u1.2 _ _ (Or.inl (by decide)))))))))))))), ((L52 _ (by omega)).trans ((u50.2 _ _ (Or.inl (by decide))).trans ((L38 _ (by omega)).trans ((u36.2 _ _ (Or.inl (by decide))).trans ((L24 _ (by omega)).trans ((g22 _ _ rfl).trans ((u12.2 _ _ (Or.inl (by decide))).trans ((g11 _ _ rfl).trans ((u9.2 _ _ (Or.inl (by decide))).trans ((u3.2 _ _ (Or.inl (by decide))).trans ((g2 _ _ rfl).trans (u1.2 _ _ (Or.inr (by omega))))))))))))))⟩), (fun m hm => ⟨((K52 _ (by omega)).1.trans ((u50.2 _ _ (Or.inl (by decide))).trans ((K38 _ (by omega)).1.trans ((u36.2 _ _ (Or.inl (by decide))).trans ((K24 _ (by omega)).1.trans ((g22 _ _ rfl).trans ((u12.2 _ _ (Or.inl (by decide))).trans ((g11 _ _ rfl).trans ((u9.2 _ _ (Or.inl (by decide))).trans ((u3.2 _ _ (Or.inl (by decide))).trans ((g2 _ _ rfl).trans (u1.2 _ _ (Or.inl (by decide)))))))))))))), ((K52 _ (by omega)).2.1.trans ((u50.2 _ _ (Or.inl (by decide))).trans ((K38 _ (by omega)).2.1.trans ((u36.2 _ _ (Or.inl (by decide))).trans ((K24 _ (by omega)).2.1.trans ((g22 _ _ rfl).trans ((u12.2 _ _ (Or.inl (by decide))).trans ((g11 _ _ rfl).trans ((u9.2 _ _ (Or.inl (by decide))).trans ((u3.2 _ _ (Or.inl (by decide))).trans ((g2 _ _ rfl).trans (u1.2 _ _ (Or.inl (by decide)))))))))))))), ((K52 _ (by omega)).2.2.trans ((u50.2 _ _ (Or.inl (by decide))).trans ((K38 _ (by omega)).2.2.trans ((u36.2 _ _ (Or.inl (by decide))).trans ((K24 _ (by omega)).2.2.trans ((g22 _ _ rfl).trans ((u12.2 _ _ (Or.inl (by decide))).trans ((g11 _ _ rfl).trans ((u9.2 _ _ (Or.inl (by decide))).trans ((u3.2 _ _ (Or.inl (by decide))).trans ((g2 _ _ rfl).trans (u1.2 _ _ (Or.inl (by decide))))))))))))))⟩)⟩
                            · subst r52
                              show EvP _ _ _ (137, [(0, .ref 164), (1, .int line)], [.int 0], h52) _
                              refine tz_ne (p2 := 140) rfl rfl (show Int32.toInt 0 = 0 from rfl) (fun c68 => absurd c68 (by omega)) (fun c68 => ?_)
                              refine te_iconst (p2 := 141) (x := 0) rfl rfl (by decide) ?_
                              exact te_zret rfl rfl (by decide) ⟨I52, f52, _, rfl, Or.inr ⟨rfl, (by rw [(show lnR (BM h) (plM h) = (-1, tsP (BM h) (tsP (BM h) (tsP (BM h) (plM h + ((wdF KW (cs (BM h) (plM h)) 0 0).2 : Int) + 1 + ((nuF (cs (BM h) (plM h + ((wdF KW (cs (BM h) (plM h)) 0 0).2 : Int) + 1))).2 : Int) + 4) + 1) + 1)) from (by (have m1 := (show Int32.toInt (-1) = -1 from rfl)); (have q0 := Qa2); (have b0 : (BM h (plM h + ((wdF KW (cs (BM h) (plM h)) 0 0).2 : Int))).toInt = Int32.toInt y6 := congrArg Int32.toInt rb6.symm); (have b1 : (BM h (plM h + ((wdF KW (cs (BM h) (plM h)) 0 0).2 : Int) + 1 + ((nuF (cs (BM h) (plM h + ((wdF KW (cs (BM h) (plM h)) 0 0).2 : Int) + 1))).2 : Int))).toInt = Int32.toInt y15 := congrArg Int32.toInt rb15.symm); (have b2 : (BM h (tsP (BM h) (plM h + ((wdF KW (cs (BM h) (plM h)) 0 0).2 : Int) + 1 + ((nuF (cs (BM h) (plM h + ((wdF KW (cs (BM h) (plM h)) 0 0).2 : Int) + 1))).2 : Int) + 4))).toInt = Int32.toInt y26 := congrArg Int32.toInt rb26.symm); (have b3 : (BM h (tsP (BM h) (tsP (BM h) (plM h + ((wdF KW (cs (BM h) (plM h)) 0 0).2 : Int) + 1 + ((nuF (cs (BM h) (plM h + ((wdF KW (cs (BM h) (plM h)) 0 0).2 : Int) + 1))).2 : Int) + 4) + 1))).toInt = Int32.toInt y40 := congrArg Int32.toInt rb40.symm); (have q1 : _ = (lnN (BM h) (plM h)).1 := Qa11); unfold lnR; rw [if_neg (fun q => q (show lnH (BM h) (plM h) from ⟨by omega, (show (BM h (plM h + ((wdF KW (cs (BM h) (plM h)) 0 0).2 : Int))).toInt = 32 by omega)⟩)), if_neg (show ¬ (lnN (BM h) (plM h)).1 < 0 by omega), if_neg (show ¬ sc (BM h) (lnE (BM h) (plM h)) from (show ¬ (BM h (plM h + ((wdF KW (cs (BM h) (plM h)) 0 0).2 : Int) + 1 + ((nuF (cs (BM h) (plM h + ((wdF KW (cs (BM h) (plM h)) 0 0).2 : Int) + 1))).2 : Int))).toInt = 59 by omega)), if_neg (fun q => q (show lnI (BM h) (plM h) from c22))]; show ttR (BM h) (plM h + ((wdF KW (cs (BM h) (plM h)) 0 0).2 : Int) + 1 + ((nuF (cs (BM h) (plM h + ((wdF KW (cs (BM h) (plM h)) 0 0).2 : Int) + 1))).2 : Int) + 4) = _; unfold ttR tu3 tu2; rw [if_neg (fun q => q O24), if_neg (show ¬ sc (BM h) (tsP (BM h) (plM h + ((wdF KW (cs (BM h) (plM h)) 0 0).2 : Int) + 1 + ((nuF (cs (BM h) (plM h + ((wdF KW (cs (BM h) (plM h)) 0 0).2 : Int) + 1))).2 : Int) + 4)) from (show ¬ (BM h (tsP (BM h) (plM h + ((wdF KW (cs (BM h) (plM h)) 0 0).2 : Int) + 1 + ((nuF (cs (BM h) (plM h + ((wdF KW (cs (BM h) (plM h)) 0 0).2 : Int) + 1))).2 : Int) + 4))).toInt = 59 by omega)), if_neg (fun q => q (show am (BM h) (tsP (BM h) (plM h + ((wdF KW (cs (BM h) (plM h)) 0 0).2 : Int) + 1 + ((nuF (cs (BM h) (plM h + ((wdF KW (cs (BM h) (plM h)) 0 0).2 : Int) + 1))).2 : Int) + 4)) from (show (BM h (tsP (BM h) (plM h + ((wdF KW (cs (BM h) (plM h)) 0 0).2 : Int) + 1 + ((nuF (cs (BM h) (plM h + ((wdF KW (cs (BM h) (plM h)) 0 0).2 : Int) + 1))).2 : Int) + 4))).toInt = 38 by omega))), if_neg (fun q => q O38), if_neg (show ¬ sc (BM h) (tsP (BM h) (tsP (BM h) (plM h + ((wdF KW (cs (BM h) (plM h)) 0 0).2 : Int) + 1 + ((nuF (cs (BM h) (plM h + ((wdF KW (cs (BM h) (plM h)) 0 0).2 : Int) + 1))).2 : Int) + 4) + 1)) from (show ¬ (BM h (tsP (BM h) (tsP (BM h) (plM h + ((wdF KW (cs (BM h) (plM h)) 0 0).2 : Int) + 1 + ((nuF (cs (BM h) (plM h + ((wdF KW (cs (BM h) (plM h)) 0 0).2 : Int) + 1))).2 : Int) + 4) + 1))).toInt = 59 by omega)), if_neg (fun q => q (show am (BM h) (tsP (BM h) (tsP (BM h) (plM h + ((wdF KW (cs (BM h) (plM h)) 0 0).2 : Int) + 1 + ((nuF (cs (BM h) (plM h + ((wdF KW (cs (BM h) (plM h)) 0 0).2 : Int) + 1))).2 : Int) + 4) + 1)) from (show (BM h (tsP (BM h) (tsP (BM h) (plM h + ((wdF KW (cs (BM h) (plM h)) 0 0).2 : Int) + 1 + ((nuF (cs (BM h) (plM h + ((wdF KW (cs (BM h) (plM h)) 0 0).2 : Int) + 1))).2 : Int) + 4) + 1))).toInt = 38 by omega))), if_pos O52]))]; show (-1 : Int) < 0; decide)⟩, (by rw [(show lnR (BM h) (plM h) = (-1, tsP (BM h) (tsP (BM h) (tsP (BM h) (plM h + ((wdF KW (cs (BM h) (plM h)) 0 0).2 : Int) + 1 + ((nuF (cs (BM h) (plM h + ((wdF KW (cs (BM h) (plM h)) 0 0).2 : Int) + 1))).2 : Int) + 4) + 1) + 1)) from (by (have m1 := (show Int32.toInt (-1) = -1 from rfl)); (have q0 := Qa2); (have b0 : (BM h (plM h + ((wdF KW (cs (BM h) (plM h)) 0 0).2 : Int))).toInt = Int32.toInt y6 := congrArg Int32.toInt rb6.symm); (have b1 : (BM h (plM h + ((wdF KW (cs (BM h) (plM h)) 0 0).2 : Int) + 1 + ((nuF (cs (BM h) (plM h + ((wdF KW (cs (BM h) (plM h)) 0 0).2 : Int) + 1))).2 : Int))).toInt = Int32.toInt y15 := congrArg Int32.toInt rb15.symm); (have b2 : (BM h (tsP (BM h) (plM h + ((wdF KW (cs (BM h) (plM h)) 0 0).2 : Int) + 1 + ((nuF (cs (BM h) (plM h + ((wdF KW (cs (BM h) (plM h)) 0 0).2 : Int) + 1))).2 : Int) + 4))).toInt = Int32.toInt y26 := congrArg Int32.toInt rb26.symm); (have b3 : (BM h (tsP (BM h) (tsP (BM h) (plM h + ((wdF KW (cs (BM h) (plM h)) 0 0).2 : Int) + 1 + ((nuF (cs (BM h) (plM h + ((wdF KW (cs (BM h) (plM h)) 0 0).2 : Int) + 1))).2 : Int) + 4) + 1))).toInt = Int32.toInt y40 := congrArg Int32.toInt rb40.symm); (have q1 : _ = (lnN (BM h) (plM h)).1 := Qa11); unfold lnR; rw [if_neg (fun q => q (show lnH (BM h) (plM h) from ⟨by omega, (show (BM h (plM h + ((wdF KW (cs (BM h) (plM h)) 0 0).2 : Int))).toInt = 32 by omega)⟩)), if_neg (show ¬ (lnN (BM h) (plM h)).1 < 0 by omega), if_neg (show ¬ sc (BM h) (lnE (BM h) (plM h)) from (show ¬ (BM h (plM h + ((wdF KW (cs (BM h) (plM h)) 0 0).2 : Int) + 1 + ((nuF (cs (BM h) (plM h + ((wdF KW (cs (BM h) (plM h)) 0 0).2 : Int) + 1))).2 : Int))).toInt = 59 by omega)), if_neg (fun q => q (show lnI (BM h) (plM h) from c22))]; show ttR (BM h) (plM h + ((wdF KW (cs (BM h) (plM h)) 0 0).2 : Int) + 1 + ((nuF (cs (BM h) (plM h + ((wdF KW (cs (BM h) (plM h)) 0 0).2 : Int) + 1))).2 : Int) + 4) = _; unfold ttR tu3 tu2; rw [if_neg (fun q => q O24), if_neg (show ¬ sc (BM h) (tsP (BM h) (plM h + ((wdF KW (cs (BM h) (plM h)) 0 0).2 : Int) + 1 + ((nuF (cs (BM h) (plM h + ((wdF KW (cs (BM h) (plM h)) 0 0).2 : Int) + 1))).2 : Int) + 4)) from (show ¬ (BM h (tsP (BM h) (plM h + ((wdF KW (cs (BM h) (plM h)) 0 0).2 : Int) + 1 + ((nuF (cs (BM h) (plM h + ((wdF KW (cs (BM h) (plM h)) 0 0).2 : Int) + 1))).2 : Int) + 4))).toInt = 59 by omega)), if_neg (fun q => q (show am (BM h) (tsP (BM h) (plM h + ((wdF KW (cs (BM h) (plM h)) 0 0).2 : Int) + 1 + ((nuF (cs (BM h) (plM h + ((wdF KW (cs (BM h) (plM h)) 0 0).2 : Int) + 1))).2 : Int) + 4)) from (show (BM h (tsP (BM h) (plM h + ((wdF KW (cs (BM h) (plM h)) 0 0).2 : Int) + 1 + ((nuF (cs (BM h) (plM h + ((wdF KW (cs (BM h) (plM h)) 0 0).2 : Int) + 1))).2 : Int) + 4))).toInt = 38 by omega))), if_neg (fun q => q O38), if_neg (show ¬ sc (BM h) (tsP (BM h) (tsP (BM h) (plM h + ((wdF KW (cs (BM h) (plM h)) 0 0).2 : Int) + 1 + ((nuF (cs (BM h) (plM h + ((wdF KW (cs (BM h) (plM h)) 0 0).2 : Int) + 1))).2 : Int) + 4) + 1)) from (show ¬ (BM h (tsP (BM h) (tsP (BM h) (plM h + ((wdF KW (cs (BM h) (plM h)) 0 0).2 : Int) + 1 + ((nuF (cs (BM h) (plM h + ((wdF KW (cs (BM h) (plM h)) 0 0).2 : Int) + 1))).2 : Int) + 4) + 1))).toInt = 59 by omega)), if_neg (fun q => q (show am (BM h) (tsP (BM h) (tsP (BM h) (plM h + ((wdF KW (cs (BM h) (plM h)) 0 0).2 : Int) + 1 + ((nuF (cs (BM h) (plM h + ((wdF KW (cs (BM h) (plM h)) 0 0).2 : Int) + 1))).2 : Int) + 4) + 1)) from (show (BM h (tsP (BM h) (tsP (BM h) (plM h + ((wdF KW (cs (BM h) (plM h)) 0 0).2 : Int) + 1 + ((nuF (cs (BM h) (plM h + ((wdF KW (cs (BM h) (plM h)) 0 0).2 : Int) + 1))).2 : Int) + 4) + 1))).toInt = 38 by omega))), if_pos O52])), show plM h52 = _ from Qb52]), (fun h9 => absurd h9 (by decide)), (fun m hm => ⟨((g52 _ _ rfl).trans ((u50.2 _ _ (Or.inl (by decide))).trans ((g38 _ _ rfl).trans ((u36.2 _ _ (Or.inl (by decide))).trans ((g24 _ _ rfl).trans ((g22 _ _ rfl).trans ((u12.2 _ _ (Or.inl (by decide))).trans ((g11 _ _ rfl).trans ((u9.2 _ _ (Or.inl (by decide))).trans ((u3.2 _ _ (Or.inr (by omega))).trans ((g2 _ _ rfl).trans (u1.2 _ _ (Or.inl (by decide)))))))))))))), ((g52 _ _ rfl).trans ((u50.2 _ _ (Or.inl (by decide))).trans ((g38 _ _ rfl).trans ((u36.2 _ _ (Or.inl (by decide))).trans ((g24 _ _ rfl).trans ((g22 _ _ rfl).trans ((u12.2 _ _ (Or.inr (by omega))).trans ((g11 _ _ rfl).trans ((u9.2 _ _ (Or.inl (by decide))).trans ((u3.2 _ _ (Or.inl (by decide))).trans ((g2 _ _ rfl).trans (u1.2 _ _ (Or.inl (by decide)))))))))))))), ((L52 _ (by omega)).trans ((u50.2 _ _ (Or.inl (by decide))).trans ((L38 _ (by omega)).trans ((u36.2 _ _ (Or.inl (by decide))).trans ((L24 _ (by omega)).trans ((g22 _ _ rfl).trans ((u12.2 _ _ (Or.inl (by decide))).trans ((g11 _ _ rfl).trans ((u9.2 _ _ (Or.inl (by decide))).trans ((u3.2 _ _ (Or.inl (by decide))).trans ((g2 _ _ rfl).trans (u1.2 _ _ (Or.inr (by omega))))))))))))))⟩), (fun m hm => ⟨((K52 _ (by omega)).1.trans ((u50.2 _ _ (Or.inl (by decide))).trans ((K38 _ (by omega)).1.trans ((u36.2 _ _ (Or.inl (by decide))).trans ((K24 _ (by omega)).1.trans ((g22 _ _ rfl).trans ((u12.2 _ _ (Or.inl (by decide))).trans ((g11 _ _ rfl).trans ((u9.2 _ _ (Or.inl (by decide))).trans ((u3.2 _ _ (Or.inl (by decide))).trans ((g2 _ _ rfl).trans (u1.2 _ _ (Or.inl (by decide)))))))))))))), ((K52 _ (by omega)).2.1.trans ((u50.2 _ _ (Or.inl (by decide))).trans ((K38 _ (by omega)).2.1.trans ((u36.2 _ _ (Or.inl (by decide))).trans ((K24 _ (by omega)).2.1.trans ((g22 _ _ rfl).trans ((u12.2 _ _ (Or.inl (by decide))).trans ((g11 _ _ rfl).trans ((u9.2 _ _ (Or.inl (by decide))).trans ((u3.2 _ _ (Or.inl (by decide))).trans ((g2 _ _ rfl).trans (u1.2 _ _ (Or.inl (by decide)))))))))))))), ((K52 _ (by omega)).2.2.trans ((u50.2 _ _ (Or.inl (by decide))).trans ((K38 _ (by omega)).2.2.trans ((u36.2 _ _ (Or.inl (by decide))).trans ((K24 _ (by omega)).2.2.trans ((g22 _ _ rfl).trans ((u12.2 _ _ (Or.inl (by decide))).trans ((g11 _ _ rfl).trans ((u9.2 _ _ (Or.inl (by decide))).trans ((u3.2 _ _ (Or.inl (by decide))).trans ((g2 _ _ rfl).trans (u1.2 _ _ (Or.inl (by decide))))))))))))))⟩)⟩
                        · subst r40
                          refine te_bipush (p2 := 109) (x := 38) rfl rfl (by decide) ?_
                          refine tb_ne (p2 := 112) rfl rfl (show Int32.toInt (-1) = (-1) from rfl) (show Int32.toInt 38 = 38 from rfl) (fun c69 => ?_) (fun c69 => absurd c69 (by omega))
                          refine te_aload_n (p2 := 143) rfl rfl rfl ?_
                          refine cV_pI (p2 := 146) (i := 148) rfl rfl rfl rfl I38 rfl rfl rfl (c_X12_byteHere I38) (by decide) (fun y70 r70 => ?_)
                          obtain ⟨rb70, at70, tp70, ea70, et70, aa70, ab70, ta70, tb70, r70⟩ := r70
                          rw [(BM_fr f38 rfl (fun _ => rfl)), Qb38] at rb70
                          have xat70 : at70 = at40 := int_inj ea70 ea40
                          rw [xat70] at r70
                          have xtp70 : tp70 = tp6 := int_inj et70 ((g38 _ _ (by decide)).trans ((u36.2 _ _ (Or.inr (by decide))).trans ((g24 _ _ (by decide)).trans ((g22 _ _ (by decide)).trans ((u12.2 _ _ (Or.inl (by decide))).trans ((g11 _ _ (by decide)).trans ((u9.2 _ _ (Or.inr (by decide))).trans et6)))))))
                          rw [xtp70] at r70
                          have ye70 : y70 = (-1) := rb70.trans rb40.symm
                          rw [ye70]
                          show EvP _ _ _ (146, [(0, .ref 164), (1, .int line)], [.int (-1)], h38) _
                          refine te_bipush (p2 := 148) (x := 59) rfl rfl (by decide) ?_
                          refine tb_eq (p2 := 151) rfl rfl (show Int32.toInt (-1) = (-1) from rfl) (show Int32.toInt 59 = 59 from rfl) (fun c71 => absurd c71 (by omega)) (fun c71 => ?_)
                          refine te_iconst (p2 := 152) (x := 0) rfl rfl (by decide) ?_
                          exact te_zret rfl rfl (by decide) ⟨I38, f38, _, rfl, Or.inr ⟨rfl, (by rw [(show lnR (BM h) (plM h) = (-1, tsP (BM h) (tsP (BM h) (plM h + ((wdF KW (cs (BM h) (plM h)) 0 0).2 : Int) + 1 + ((nuF (cs (BM h) (plM h + ((wdF KW (cs (BM h) (plM h)) 0 0).2 : Int) + 1))).2 : Int) + 4) + 1)) from (by (have m1 := (show Int32.toInt (-1) = -1 from rfl)); (have q0 := Qa2); (have b0 : (BM h (plM h + ((wdF KW (cs (BM h) (plM h)) 0 0).2 : Int))).toInt = Int32.toInt y6 := congrArg Int32.toInt rb6.symm); (have b1 : (BM h (plM h + ((wdF KW (cs (BM h) (plM h)) 0 0).2 : Int) + 1 + ((nuF (cs (BM h) (plM h + ((wdF KW (cs (BM h) (plM h)) 0 0).2 : Int) + 1))).2 : Int))).toInt = Int32.toInt y15 := congrArg Int32.toInt rb15.symm); (have b2 : (BM h (tsP (BM h) (plM h + ((wdF KW (cs (BM h) (plM h)) 0 0).2 : Int) + 1 + ((nuF (cs (BM h) (plM h + ((wdF KW (cs (BM h) (plM h)) 0 0).2 : Int) + 1))).2 : Int) + 4))).toInt = Int32.toInt y26 := congrArg Int32.toInt rb26.symm); (have b3 : (BM h (tsP (BM h) (tsP (BM h) (plM h + ((wdF KW (cs (BM h) (plM h)) 0 0).2 : Int) + 1 + ((nuF (cs (BM h) (plM h + ((wdF KW (cs (BM h) (plM h)) 0 0).2 : Int) + 1))).2 : Int) + 4) + 1))).toInt = Int32.toInt (-1) := congrArg Int32.toInt rb40.symm); (have q1 : _ = (lnN (BM h) (plM h)).1 := Qa11); unfold lnR; rw [if_neg (fun q => q (show lnH (BM h) (plM h) from ⟨by omega, (show (BM h (plM h + ((wdF KW (cs (BM h) (plM h)) 0 0).2 : Int))).toInt = 32 by omega)⟩)), if_neg (show ¬ (lnN (BM h) (plM h)).1 < 0 by omega), if_neg (show ¬ sc (BM h) (lnE (BM h) (plM h)) from (show ¬ (BM h (plM h + ((wdF KW (cs (BM h) (plM h)) 0 0).2 : Int) + 1 + ((nuF (cs (BM h) (plM h + ((wdF KW (cs (BM h) (plM h)) 0 0).2 : Int) + 1))).2 : Int))).toInt = 59 by omega)), if_neg (fun q => q (show lnI (BM h) (plM h) from c22))]; show ttR (BM h) (plM h + ((wdF KW (cs (BM h) (plM h)) 0 0).2 : Int) + 1 + ((nuF (cs (BM h) (plM h + ((wdF KW (cs (BM h) (plM h)) 0 0).2 : Int) + 1))).2 : Int) + 4) = _; unfold ttR tu3 tu2; rw [if_neg (fun q => q O24), if_neg (show ¬ sc (BM h) (tsP (BM h) (plM h + ((wdF KW (cs (BM h) (plM h)) 0 0).2 : Int) + 1 + ((nuF (cs (BM h) (plM h + ((wdF KW (cs (BM h) (plM h)) 0 0).2 : Int) + 1))).2 : Int) + 4)) from (show ¬ (BM h (tsP (BM h) (plM h + ((wdF KW (cs (BM h) (plM h)) 0 0).2 : Int) + 1 + ((nuF (cs (BM h) (plM h + ((wdF KW (cs (BM h) (plM h)) 0 0).2 : Int) + 1))).2 : Int) + 4))).toInt = 59 by omega)), if_neg (fun q => q (show am (BM h) (tsP (BM h) (plM h + ((wdF KW (cs (BM h) (plM h)) 0 0).2 : Int) + 1 + ((nuF (cs (BM h) (plM h + ((wdF KW (cs (BM h) (plM h)) 0 0).2 : Int) + 1))).2 : Int) + 4)) from (show (BM h (tsP (BM h) (plM h + ((wdF KW (cs (BM h) (plM h)) 0 0).2 : Int) + 1 + ((nuF (cs (BM h) (plM h + ((wdF KW (cs (BM h) (plM h)) 0 0).2 : Int) + 1))).2 : Int) + 4))).toInt = 38 by omega))), if_neg (fun q => q O38), if_neg (show ¬ sc (BM h) (tsP (BM h) (tsP (BM h) (plM h + ((wdF KW (cs (BM h) (plM h)) 0 0).2 : Int) + 1 + ((nuF (cs (BM h) (plM h + ((wdF KW (cs (BM h) (plM h)) 0 0).2 : Int) + 1))).2 : Int) + 4) + 1)) from (show ¬ (BM h (tsP (BM h) (tsP (BM h) (plM h + ((wdF KW (cs (BM h) (plM h)) 0 0).2 : Int) + 1 + ((nuF (cs (BM h) (plM h + ((wdF KW (cs (BM h) (plM h)) 0 0).2 : Int) + 1))).2 : Int) + 4) + 1))).toInt = 59 by omega)), if_pos (show ¬ am (BM h) (tsP (BM h) (tsP (BM h) (plM h + ((wdF KW (cs (BM h) (plM h)) 0 0).2 : Int) + 1 + ((nuF (cs (BM h) (plM h + ((wdF KW (cs (BM h) (plM h)) 0 0).2 : Int) + 1))).2 : Int) + 4) + 1)) from (show ¬ (BM h (tsP (BM h) (tsP (BM h) (plM h + ((wdF KW (cs (BM h) (plM h)) 0 0).2 : Int) + 1 + ((nuF (cs (BM h) (plM h + ((wdF KW (cs (BM h) (plM h)) 0 0).2 : Int) + 1))).2 : Int) + 4) + 1))).toInt = 38 by omega))]))]; show (-1 : Int) < 0; decide)⟩, (by rw [(show lnR (BM h) (plM h) = (-1, tsP (BM h) (tsP (BM h) (plM h + ((wdF KW (cs (BM h) (plM h)) 0 0).2 : Int) + 1 + ((nuF (cs (BM h) (plM h + ((wdF KW (cs (BM h) (plM h)) 0 0).2 : Int) + 1))).2 : Int) + 4) + 1)) from (by (have m1 := (show Int32.toInt (-1) = -1 from rfl)); (have q0 := Qa2); (have b0 : (BM h (plM h + ((wdF KW (cs (BM h) (plM h)) 0 0).2 : Int))).toInt = Int32.toInt y6 := congrArg Int32.toInt rb6.symm); (have b1 : (BM h (plM h + ((wdF KW (cs (BM h) (plM h)) 0 0).2 : Int) + 1 + ((nuF (cs (BM h) (plM h + ((wdF KW (cs (BM h) (plM h)) 0 0).2 : Int) + 1))).2 : Int))).toInt = Int32.toInt y15 := congrArg Int32.toInt rb15.symm); (have b2 : (BM h (tsP (BM h) (plM h + ((wdF KW (cs (BM h) (plM h)) 0 0).2 : Int) + 1 + ((nuF (cs (BM h) (plM h + ((wdF KW (cs (BM h) (plM h)) 0 0).2 : Int) + 1))).2 : Int) + 4))).toInt = Int32.toInt y26 := congrArg Int32.toInt rb26.symm); (have b3 : (BM h (tsP (BM h) (tsP (BM h) (plM h + ((wdF KW (cs (BM h) (plM h)) 0 0).2 : Int) + 1 + ((nuF (cs (BM h) (plM h + ((wdF KW (cs (BM h) (plM h)) 0 0).2 : Int) + 1))).2 : Int) + 4) + 1))).toInt = Int32.toInt (-1) := congrArg Int32.toInt rb40.symm); (have q1 : _ = (lnN (BM h) (plM h)).1 := Qa11); unfold lnR; rw [if_neg (fun q => q (show lnH (BM h) (plM h) from ⟨by omega, (show (BM h (plM h + ((wdF KW (cs (BM h) (plM h)) 0 0).2 : Int))).toInt = 32 by omega)⟩)), if_neg (show ¬ (lnN (BM h) (plM h)).1 < 0 by omega), if_neg (show ¬ sc (BM h) (lnE (BM h) (plM h)) from (show ¬ (BM h (plM h + ((wdF KW (cs (BM h) (plM h)) 0 0).2 : Int) + 1 + ((nuF (cs (BM h) (plM h + ((wdF KW (cs (BM h) (plM h)) 0 0).2 : Int) + 1))).2 : Int))).toInt = 59 by omega)), if_neg (fun q => q (show lnI (BM h) (plM h) from c22))]; show ttR (BM h) (plM h + ((wdF KW (cs (BM h) (plM h)) 0 0).2 : Int) + 1 + ((nuF (cs (BM h) (plM h + ((wdF KW (cs (BM h) (plM h)) 0 0).2 : Int) + 1))).2 : Int) + 4) = _; unfold ttR tu3 tu2; rw [if_neg (fun q => q O24), if_neg (show ¬ sc (BM h) (tsP (BM h) (plM h + ((wdF KW (cs (BM h) (plM h)) 0 0).2 : Int) + 1 + ((nuF (cs (BM h) (plM h + ((wdF KW (cs (BM h) (plM h)) 0 0).2 : Int) + 1))).2 : Int) + 4)) from (show ¬ (BM h (tsP (BM h) (plM h + ((wdF KW (cs (BM h) (plM h)) 0 0).2 : Int) + 1 + ((nuF (cs (BM h) (plM h + ((wdF KW (cs (BM h) (plM h)) 0 0).2 : Int) + 1))).2 : Int) + 4))).toInt = 59 by omega)), if_neg (fun q => q (show am (BM h) (tsP (BM h) (plM h + ((wdF KW (cs (BM h) (plM h)) 0 0).2 : Int) + 1 + ((nuF (cs (BM h) (plM h + ((wdF KW (cs (BM h) (plM h)) 0 0).2 : Int) + 1))).2 : Int) + 4)) from (show (BM h (tsP (BM h) (plM h + ((wdF KW (cs (BM h) (plM h)) 0 0).2 : Int) + 1 + ((nuF (cs (BM h) (plM h + ((wdF KW (cs (BM h) (plM h)) 0 0).2 : Int) + 1))).2 : Int) + 4))).toInt = 38 by omega))), if_neg (fun q => q O38), if_neg (show ¬ sc (BM h) (tsP (BM h) (tsP (BM h) (plM h + ((wdF KW (cs (BM h) (plM h)) 0 0).2 : Int) + 1 + ((nuF (cs (BM h) (plM h + ((wdF KW (cs (BM h) (plM h)) 0 0).2 : Int) + 1))).2 : Int) + 4) + 1)) from (show ¬ (BM h (tsP (BM h) (tsP (BM h) (plM h + ((wdF KW (cs (BM h) (plM h)) 0 0).2 : Int) + 1 + ((nuF (cs (BM h) (plM h + ((wdF KW (cs (BM h) (plM h)) 0 0).2 : Int) + 1))).2 : Int) + 4) + 1))).toInt = 59 by omega)), if_pos (show ¬ am (BM h) (tsP (BM h) (tsP (BM h) (plM h + ((wdF KW (cs (BM h) (plM h)) 0 0).2 : Int) + 1 + ((nuF (cs (BM h) (plM h + ((wdF KW (cs (BM h) (plM h)) 0 0).2 : Int) + 1))).2 : Int) + 4) + 1)) from (show ¬ (BM h (tsP (BM h) (tsP (BM h) (plM h + ((wdF KW (cs (BM h) (plM h)) 0 0).2 : Int) + 1 + ((nuF (cs (BM h) (plM h + ((wdF KW (cs (BM h) (plM h)) 0 0).2 : Int) + 1))).2 : Int) + 4) + 1))).toInt = 38 by omega))])), show plM h38 = _ from Qb38]), (fun h9 => absurd h9 (by decide)), (fun m hm => ⟨((g38 _ _ rfl).trans ((u36.2 _ _ (Or.inl (by decide))).trans ((g24 _ _ rfl).trans ((g22 _ _ rfl).trans ((u12.2 _ _ (Or.inl (by decide))).trans ((g11 _ _ rfl).trans ((u9.2 _ _ (Or.inl (by decide))).trans ((u3.2 _ _ (Or.inr (by omega))).trans ((g2 _ _ rfl).trans (u1.2 _ _ (Or.inl (by decide)))))))))))), ((g38 _ _ rfl).trans ((u36.2 _ _ (Or.inl (by decide))).trans ((g24 _ _ rfl).trans ((g22 _ _ rfl).trans ((u12.2 _ _ (Or.inr (by omega))).trans ((g11 _ _ rfl).trans ((u9.2 _ _ (Or.inl (by decide))).trans ((u3.2 _ _ (Or.inl (by decide))).trans ((g2 _ _ rfl).trans (u1.2 _ _ (Or.inl (by decide)))))))))))), ((L38 _ (by omega)).trans ((u36.2 _ _ (Or.inl (by decide))).trans ((L24 _ (by omega)).trans ((g22 _ _ rfl).trans ((u12.2 _ _ (Or.inl (by decide))).trans ((g11 _ _ rfl).trans ((u9.2 _ _ (Or.inl (by decide))).trans ((u3.2 _ _ (Or.inl (by decide))).trans ((g2 _ _ rfl).trans (u1.2 _ _ (Or.inr (by omega))))))))))))⟩), (fun m hm => ⟨((K38 _ (by omega)).1.trans ((u36.2 _ _ (Or.inl (by decide))).trans ((K24 _ (by omega)).1.trans ((g22 _ _ rfl).trans ((u12.2 _ _ (Or.inl (by decide))).trans ((g11 _ _ rfl).trans ((u9.2 _ _ (Or.inl (by decide))).trans ((u3.2 _ _ (Or.inl (by decide))).trans ((g2 _ _ rfl).trans (u1.2 _ _ (Or.inl (by decide)))))))))))), ((K38 _ (by omega)).2.1.trans ((u36.2 _ _ (Or.inl (by decide))).trans ((K24 _ (by omega)).2.1.trans ((g22 _ _ rfl).trans ((u12.2 _ _ (Or.inl (by decide))).trans ((g11 _ _ rfl).trans ((u9.2 _ _ (Or.inl (by decide))).trans ((u3.2 _ _ (Or.inl (by decide))).trans ((g2 _ _ rfl).trans (u1.2 _ _ (Or.inl (by decide)))))))))))), ((K38 _ (by omega)).2.2.trans ((u36.2 _ _ (Or.inl (by decide))).trans ((K24 _ (by omega)).2.2.trans ((g22 _ _ rfl).trans ((u12.2 _ _ (Or.inl (by decide))).trans ((g11 _ _ rfl).trans ((u9.2 _ _ (Or.inl (by decide))).trans ((u3.2 _ _ (Or.inl (by decide))).trans ((g2 _ _ rfl).trans (u1.2 _ _ (Or.inl (by decide))))))))))))⟩)⟩
                      · subst r38
                        show EvP _ _ _ (137, [(0, .ref 164), (1, .int line)], [.int 0], h38) _
                        refine tz_ne (p2 := 140) rfl rfl (show Int32.toInt 0 = 0 from rfl) (fun c72 => absurd c72 (by omega)) (fun c72 => ?_)
                        refine te_iconst (p2 := 141) (x := 0) rfl rfl (by decide) ?_
                        exact te_zret rfl rfl (by decide) ⟨I38, f38, _, rfl, Or.inr ⟨rfl, (by rw [(show lnR (BM h) (plM h) = (-1, tsP (BM h) (tsP (BM h) (plM h + ((wdF KW (cs (BM h) (plM h)) 0 0).2 : Int) + 1 + ((nuF (cs (BM h) (plM h + ((wdF KW (cs (BM h) (plM h)) 0 0).2 : Int) + 1))).2 : Int) + 4) + 1)) from (by (have m1 := (show Int32.toInt (-1) = -1 from rfl)); (have q0 := Qa2); (have b0 : (BM h (plM h + ((wdF KW (cs (BM h) (plM h)) 0 0).2 : Int))).toInt = Int32.toInt y6 := congrArg Int32.toInt rb6.symm); (have b1 : (BM h (plM h + ((wdF KW (cs (BM h) (plM h)) 0 0).2 : Int) + 1 + ((nuF (cs (BM h) (plM h + ((wdF KW (cs (BM h) (plM h)) 0 0).2 : Int) + 1))).2 : Int))).toInt = Int32.toInt y15 := congrArg Int32.toInt rb15.symm); (have b2 : (BM h (tsP (BM h) (plM h + ((wdF KW (cs (BM h) (plM h)) 0 0).2 : Int) + 1 + ((nuF (cs (BM h) (plM h + ((wdF KW (cs (BM h) (plM h)) 0 0).2 : Int) + 1))).2 : Int) + 4))).toInt = Int32.toInt y26 := congrArg Int32.toInt rb26.symm); (have q1 : _ = (lnN (BM h) (plM h)).1 := Qa11); unfold lnR; rw [if_neg (fun q => q (show lnH (BM h) (plM h) from ⟨by omega, (show (BM h (plM h + ((wdF KW (cs (BM h) (plM h)) 0 0).2 : Int))).toInt = 32 by omega)⟩)), if_neg (show ¬ (lnN (BM h) (plM h)).1 < 0 by omega), if_neg (show ¬ sc (BM h) (lnE (BM h) (plM h)) from (show ¬ (BM h (plM h + ((wdF KW (cs (BM h) (plM h)) 0 0).2 : Int) + 1 + ((nuF (cs (BM h) (plM h + ((wdF KW (cs (BM h) (plM h)) 0 0).2 : Int) + 1))).2 : Int))).toInt = 59 by omega)), if_neg (fun q => q (show lnI (BM h) (plM h) from c22))]; show ttR (BM h) (plM h + ((wdF KW (cs (BM h) (plM h)) 0 0).2 : Int) + 1 + ((nuF (cs (BM h) (plM h + ((wdF KW (cs (BM h) (plM h)) 0 0).2 : Int) + 1))).2 : Int) + 4) = _; unfold ttR tu3 tu2; rw [if_neg (fun q => q O24), if_neg (show ¬ sc (BM h) (tsP (BM h) (plM h + ((wdF KW (cs (BM h) (plM h)) 0 0).2 : Int) + 1 + ((nuF (cs (BM h) (plM h + ((wdF KW (cs (BM h) (plM h)) 0 0).2 : Int) + 1))).2 : Int) + 4)) from (show ¬ (BM h (tsP (BM h) (plM h + ((wdF KW (cs (BM h) (plM h)) 0 0).2 : Int) + 1 + ((nuF (cs (BM h) (plM h + ((wdF KW (cs (BM h) (plM h)) 0 0).2 : Int) + 1))).2 : Int) + 4))).toInt = 59 by omega)), if_neg (fun q => q (show am (BM h) (tsP (BM h) (plM h + ((wdF KW (cs (BM h) (plM h)) 0 0).2 : Int) + 1 + ((nuF (cs (BM h) (plM h + ((wdF KW (cs (BM h) (plM h)) 0 0).2 : Int) + 1))).2 : Int) + 4)) from (show (BM h (tsP (BM h) (plM h + ((wdF KW (cs (BM h) (plM h)) 0 0).2 : Int) + 1 + ((nuF (cs (BM h) (plM h + ((wdF KW (cs (BM h) (plM h)) 0 0).2 : Int) + 1))).2 : Int) + 4))).toInt = 38 by omega))), if_pos O38]))]; show (-1 : Int) < 0; decide)⟩, (by rw [(show lnR (BM h) (plM h) = (-1, tsP (BM h) (tsP (BM h) (plM h + ((wdF KW (cs (BM h) (plM h)) 0 0).2 : Int) + 1 + ((nuF (cs (BM h) (plM h + ((wdF KW (cs (BM h) (plM h)) 0 0).2 : Int) + 1))).2 : Int) + 4) + 1)) from (by (have m1 := (show Int32.toInt (-1) = -1 from rfl)); (have q0 := Qa2); (have b0 : (BM h (plM h + ((wdF KW (cs (BM h) (plM h)) 0 0).2 : Int))).toInt = Int32.toInt y6 := congrArg Int32.toInt rb6.symm); (have b1 : (BM h (plM h + ((wdF KW (cs (BM h) (plM h)) 0 0).2 : Int) + 1 + ((nuF (cs (BM h) (plM h + ((wdF KW (cs (BM h) (plM h)) 0 0).2 : Int) + 1))).2 : Int))).toInt = Int32.toInt y15 := congrArg Int32.toInt rb15.symm); (have b2 : (BM h (tsP (BM h) (plM h + ((wdF KW (cs (BM h) (plM h)) 0 0).2 : Int) + 1 + ((nuF (cs (BM h) (plM h + ((wdF KW (cs (BM h) (plM h)) 0 0).2 : Int) + 1))).2 : Int) + 4))).toInt = Int32.toInt y26 := congrArg Int32.toInt rb26.symm); (have q1 : _ = (lnN (BM h) (plM h)).1 := Qa11); unfold lnR; rw [if_neg (fun q => q (show lnH (BM h) (plM h) from ⟨by omega, (show (BM h (plM h + ((wdF KW (cs (BM h) (plM h)) 0 0).2 : Int))).toInt = 32 by omega)⟩)), if_neg (show ¬ (lnN (BM h) (plM h)).1 < 0 by omega), if_neg (show ¬ sc (BM h) (lnE (BM h) (plM h)) from (show ¬ (BM h (plM h + ((wdF KW (cs (BM h) (plM h)) 0 0).2 : Int) + 1 + ((nuF (cs (BM h) (plM h + ((wdF KW (cs (BM h) (plM h)) 0 0).2 : Int) + 1))).2 : Int))).toInt = 59 by omega)), if_neg (fun q => q (show lnI (BM h) (plM h) from c22))]; show ttR (BM h) (plM h + ((wdF KW (cs (BM h) (plM h)) 0 0).2 : Int) + 1 + ((nuF (cs (BM h) (plM h + ((wdF KW (cs (BM h) (plM h)) 0 0).2 : Int) + 1))).2 : Int) + 4) = _; unfold ttR tu3 tu2; rw [if_neg (fun q => q O24), if_neg (show ¬ sc (BM h) (tsP (BM h) (plM h + ((wdF KW (cs (BM h) (plM h)) 0 0).2 : Int) + 1 + ((nuF (cs (BM h) (plM h + ((wdF KW (cs (BM h) (plM h)) 0 0).2 : Int) + 1))).2 : Int) + 4)) from (show ¬ (BM h (tsP (BM h) (plM h + ((wdF KW (cs (BM h) (plM h)) 0 0).2 : Int) + 1 + ((nuF (cs (BM h) (plM h + ((wdF KW (cs (BM h) (plM h)) 0 0).2 : Int) + 1))).2 : Int) + 4))).toInt = 59 by omega)), if_neg (fun q => q (show am (BM h) (tsP (BM h) (plM h + ((wdF KW (cs (BM h) (plM h)) 0 0).2 : Int) + 1 + ((nuF (cs (BM h) (plM h + ((wdF KW (cs (BM h) (plM h)) 0 0).2 : Int) + 1))).2 : Int) + 4)) from (show (BM h (tsP (BM h) (plM h + ((wdF KW (cs (BM h) (plM h)) 0 0).2 : Int) + 1 + ((nuF (cs (BM h) (plM h + ((wdF KW (cs (BM h) (plM h)) 0 0).2 : Int) + 1))).2 : Int) + 4))).toInt = 38 by omega))), if_pos O38])), show plM h38 = _ from Qb38]), (fun h9 => absurd h9 (by decide)), (fun m hm => ⟨((g38 _ _ rfl).trans ((u36.2 _ _ (Or.inl (by decide))).trans ((g24 _ _ rfl).trans ((g22 _ _ rfl).trans ((u12.2 _ _ (Or.inl (by decide))).trans ((g11 _ _ rfl).trans ((u9.2 _ _ (Or.inl (by decide))).trans ((u3.2 _ _ (Or.inr (by omega))).trans ((g2 _ _ rfl).trans (u1.2 _ _ (Or.inl (by decide)))))))))))), ((g38 _ _ rfl).trans ((u36.2 _ _ (Or.inl (by decide))).trans ((g24 _ _ rfl).trans ((g22 _ _ rfl).trans ((u12.2 _ _ (Or.inr (by omega))).trans ((g11 _ _ rfl).trans ((u9.2 _ _ (Or.inl (by decide))).trans ((u3.2 _ _ (Or.inl (by decide))).trans ((g2 _ _ rfl).trans (u1.2 _ _ (Or.inl (by decide)))))))))))), ((L38 _ (by omega)).trans ((u36.2 _ _ (Or.inl (by decide))).trans ((L24 _ (by omega)).trans ((g22 _ _ rfl).trans ((u12.2 _ _ (Or.inl (by decide))).trans ((g11 _ _ rfl).trans ((u9.2 _ _ (Or.inl (by decide))).trans ((u3.2 _ _ (Or.inl (by decide))).trans ((g2 _ _ rfl).trans (u1.2 _ _ (Or.inr (by omega))))))))))))⟩), (fun m hm => ⟨((K38 _ (by omega)).1.trans ((u36.2 _ _ (Or.inl (by decide))).trans ((K24 _ (by omega)).1.trans ((g22 _ _ rfl).trans ((u12.2 _ _ (Or.inl (by decide))).trans ((g11 _ _ rfl).trans ((u9.2 _ _ (Or.inl (by decide))).trans ((u3.2 _ _ (Or.inl (by decide))).trans ((g2 _ _ rfl).trans (u1.2 _ _ (Or.inl (by decide)))))))))))), ((K38 _ (by omega)).2.1.trans ((u36.2 _ _ (Or.inl (by decide))).trans ((K24 _ (by omega)).2.1.trans ((g22 _ _ rfl).trans ((u12.2 _ _ (Or.inl (by decide))).trans ((g11 _ _ rfl).trans ((u9.2 _ _ (Or.inl (by decide))).trans ((u3.2 _ _ (Or.inl (by decide))).trans ((g2 _ _ rfl).trans (u1.2 _ _ (Or.inl (by decide)))))))))))), ((K38 _ (by omega)).2.2.trans ((u36.2 _ _ (Or.inl (by decide))).trans ((K24 _ (by omega)).2.2.trans ((g22 _ _ rfl).trans ((u12.2 _ _ (Or.inl (by decide))).trans ((g11 _ _ rfl).trans ((u9.2 _ _ (Or.inl (by decide))).trans ((u3.2 _ _ (Or.inl (by decide))).trans ((g2 _ _ rfl).trans (u1.2 _ _ (Or.inl (by decide))))))))))))⟩)⟩
                  · subst r26
                    refine te_bipush (p2 := 109) (x := 38) rfl rfl (by decide) ?_
                    refine tb_ne (p2 := 112) rfl rfl (show Int32.toInt (-1) = (-1) from rfl) (show Int32.toInt 38 = 38 from rfl) (fun c73 => ?_) (fun c73 => absurd c73 (by omega))
                    refine te_aload_n (p2 := 143) rfl rfl rfl ?_
                    refine cV_pI (p2 := 146) (i := 148) rfl rfl rfl rfl I24 rfl rfl rfl (c_X12_byteHere I24) (by decide) (fun y74 r74 => ?_)
                    obtain ⟨rb74, at74, tp74, ea74, et74, aa74, ab74, ta74, tb74, r74⟩ := r74
                    rw [(BM_fr f24 rfl (fun _ => rfl)), Qb24] at rb74
                    have xat74 : at74 = at26 := int_inj ea74 ea26
                    rw [xat74] at r74
                    have xtp74 : tp74 = tp6 := int_inj et74 ((g24 _ _ (by decide)).trans ((g22 _ _ (by decide)).trans ((u12.2 _ _ (Or.inl (by decide))).trans ((g11 _ _ (by decide)).trans ((u9.2 _ _ (Or.inr (by decide))).trans et6)))))
                    rw [xtp74] at r74
                    have ye74 : y74 = (-1) := rb74.trans rb26.symm
                    rw [ye74]
                    show EvP _ _ _ (146, [(0, .ref 164), (1, .int line)], [.int (-1)], h24) _
                    refine te_bipush (p2 := 148) (x := 59) rfl rfl (by decide) ?_
                    refine tb_eq (p2 := 151) rfl rfl (show Int32.toInt (-1) = (-1) from rfl) (show Int32.toInt 59 = 59 from rfl) (fun c75 => absurd c75 (by omega)) (fun c75 => ?_)
                    refine te_iconst (p2 := 152) (x := 0) rfl rfl (by decide) ?_
                    exact te_zret rfl rfl (by decide) ⟨I24, f24, _, rfl, Or.inr ⟨rfl, (by rw [(show lnR (BM h) (plM h) = (-1, tsP (BM h) (plM h + ((wdF KW (cs (BM h) (plM h)) 0 0).2 : Int) + 1 + ((nuF (cs (BM h) (plM h + ((wdF KW (cs (BM h) (plM h)) 0 0).2 : Int) + 1))).2 : Int) + 4)) from (by (have m1 := (show Int32.toInt (-1) = -1 from rfl)); (have q0 := Qa2); (have b0 : (BM h (plM h + ((wdF KW (cs (BM h) (plM h)) 0 0).2 : Int))).toInt = Int32.toInt y6 := congrArg Int32.toInt rb6.symm); (have b1 : (BM h (plM h + ((wdF KW (cs (BM h) (plM h)) 0 0).2 : Int) + 1 + ((nuF (cs (BM h) (plM h + ((wdF KW (cs (BM h) (plM h)) 0 0).2 : Int) + 1))).2 : Int))).toInt = Int32.toInt y15 := congrArg Int32.toInt rb15.symm); (have b2 : (BM h (tsP (BM h) (plM h + ((wdF KW (cs (BM h) (plM h)) 0 0).2 : Int) + 1 + ((nuF (cs (BM h) (plM h + ((wdF KW (cs (BM h) (plM h)) 0 0).2 : Int) + 1))).2 : Int) + 4))).toInt = Int32.toInt (-1) := congrArg Int32.toInt rb26.symm); (have q1 : _ = (lnN (BM h) (plM h)).1 := Qa11); unfold lnR; rw [if_neg (fun q => q (show lnH (BM h) (plM h) from ⟨by omega, (show (BM h (plM h + ((wdF KW (cs (BM h) (plM h)) 0 0).2 : Int))).toInt = 32 by omega)⟩)), if_neg (show ¬ (lnN (BM h) (plM h)).1 < 0 by omega), if_neg (show ¬ sc (BM h) (lnE (BM h) (plM h)) from (show ¬ (BM h (plM h + ((wdF KW (cs (BM h) (plM h)) 0 0).2 : Int) + 1 + ((nuF (cs (BM h) (plM h + ((wdF KW (cs (BM h) (plM h)) 0 0).2 : Int) + 1))).2 : Int))).toInt = 59 by omega)), if_neg (fun q => q (show lnI (BM h) (plM h) from c22))]; show ttR (BM h) (plM h + ((wdF KW (cs (BM h) (plM h)) 0 0).2 : Int) + 1 + ((nuF (cs (BM h) (plM h + ((wdF KW (cs (BM h) (plM h)) 0 0).2 : Int) + 1))).2 : Int) + 4) = _; unfold ttR tu3 tu2; rw [if_neg (fun q => q O24), if_neg (show ¬ sc (BM h) (tsP (BM h) (plM h + ((wdF KW (cs (BM h) (plM h)) 0 0).2 : Int) + 1 + ((nuF (cs (BM h) (plM h + ((wdF KW (cs (BM h) (plM h)) 0 0).2 : Int) + 1))).2 : Int) + 4)) from (show ¬ (BM h (tsP (BM h) (plM h + ((wdF KW (cs (BM h) (plM h)) 0 0).2 : Int) + 1 + ((nuF (cs (BM h) (plM h + ((wdF KW (cs (BM h) (plM h)) 0 0).2 : Int) + 1))).2 : Int) + 4))).toInt = 59 by omega)), if_pos (show ¬ am (BM h) (tsP (BM h) (plM h + ((wdF KW (cs (BM h) (plM h)) 0 0).2 : Int) + 1 + ((nuF (cs (BM h) (plM h + ((wdF KW (cs (BM h) (plM h)) 0 0).2 : Int) + 1))).2 : Int) + 4)) from (show ¬ (BM h (tsP (BM h) (plM h + ((wdF KW (cs (BM h) (plM h)) 0 0).2 : Int) + 1 + ((nuF (cs (BM h) (plM h + ((wdF KW (cs (BM h) (plM h)) 0 0).2 : Int) + 1))).2 : Int) + 4))).toInt = 38 by omega))]))]; show (-1 : Int) < 0; decide)⟩, (by rw [(show lnR (BM h) (plM h) = (-1, tsP (BM h) (plM h + ((wdF KW (cs (BM h) (plM h)) 0 0).2 : Int) + 1 + ((nuF (cs (BM h) (plM h + ((wdF KW (cs (BM h) (plM h)) 0 0).2 : Int) + 1))).2 : Int) + 4)) from (by (have m1 := (show Int32.toInt (-1) = -1 from rfl)); (have q0 := Qa2); (have b0 : (BM h (plM h + ((wdF KW (cs (BM h) (plM h)) 0 0).2 : Int))).toInt = Int32.toInt y6 := congrArg Int32.toInt rb6.symm); (have b1 : (BM h (plM h + ((wdF KW (cs (BM h) (plM h)) 0 0).2 : Int) + 1 + ((nuF (cs (BM h) (plM h + ((wdF KW (cs (BM h) (plM h)) 0 0).2 : Int) + 1))).2 : Int))).toInt = Int32.toInt y15 := congrArg Int32.toInt rb15.symm); (have b2 : (BM h (tsP (BM h) (plM h + ((wdF KW (cs (BM h) (plM h)) 0 0).2 : Int) + 1 + ((nuF (cs (BM h) (plM h + ((wdF KW (cs (BM h) (plM h)) 0 0).2 : Int) + 1))).2 : Int) + 4))).toInt = Int32.toInt (-1) := congrArg Int32.toInt rb26.symm); (have q1 : _ = (lnN (BM h) (plM h)).1 := Qa11); unfold lnR; rw [if_neg (fun q => q (show lnH (BM h) (plM h) from ⟨by omega, (show (BM h (plM h + ((wdF KW (cs (BM h) (plM h)) 0 0).2 : Int))).toInt = 32 by omega)⟩)), if_neg (show ¬ (lnN (BM h) (plM h)).1 < 0 by omega), if_neg (show ¬ sc (BM h) (lnE (BM h) (plM h)) from (show ¬ (BM h (plM h + ((wdF KW (cs (BM h) (plM h)) 0 0).2 : Int) + 1 + ((nuF (cs (BM h) (plM h + ((wdF KW (cs (BM h) (plM h)) 0 0).2 : Int) + 1))).2 : Int))).toInt = 59 by omega)), if_neg (fun q => q (show lnI (BM h) (plM h) from c22))]; show ttR (BM h) (plM h + ((wdF KW (cs (BM h) (plM h)) 0 0).2 : Int) + 1 + ((nuF (cs (BM h) (plM h + ((wdF KW (cs (BM h) (plM h)) 0 0).2 : Int) + 1))).2 : Int) + 4) = _; unfold ttR tu3 tu2; rw [if_neg (fun q => q O24), if_neg (show ¬ sc (BM h) (tsP (BM h) (plM h + ((wdF KW (cs (BM h) (plM h)) 0 0).2 : Int) + 1 + ((nuF (cs (BM h) (plM h + ((wdF KW (cs (BM h) (plM h)) 0 0).2 : Int) + 1))).2 : Int) + 4)) from (show ¬ (BM h (tsP (BM h) (plM h + ((wdF KW (cs (BM h) (plM h)) 0 0).2 : Int) + 1 + ((nuF (cs (BM h) (plM h + ((wdF KW (cs (BM h) (plM h)) 0 0).2 : Int) + 1))).2 : Int) + 4))).toInt = 59 by omega)), if_pos (show ¬ am (BM h) (tsP (BM h) (plM h + ((wdF KW (cs (BM h) (plM h)) 0 0).2 : Int) + 1 + ((nuF (cs (BM h) (plM h + ((wdF KW (cs (BM h) (plM h)) 0 0).2 : Int) + 1))).2 : Int) + 4)) from (show ¬ (BM h (tsP (BM h) (plM h + ((wdF KW (cs (BM h) (plM h)) 0 0).2 : Int) + 1 + ((nuF (cs (BM h) (plM h + ((wdF KW (cs (BM h) (plM h)) 0 0).2 : Int) + 1))).2 : Int) + 4))).toInt = 38 by omega))])), show plM h24 = _ from Qb24]), (fun h9 => absurd h9 (by decide)), (fun m hm => ⟨((g24 _ _ rfl).trans ((g22 _ _ rfl).trans ((u12.2 _ _ (Or.inl (by decide))).trans ((g11 _ _ rfl).trans ((u9.2 _ _ (Or.inl (by decide))).trans ((u3.2 _ _ (Or.inr (by omega))).trans ((g2 _ _ rfl).trans (u1.2 _ _ (Or.inl (by decide)))))))))), ((g24 _ _ rfl).trans ((g22 _ _ rfl).trans ((u12.2 _ _ (Or.inr (by omega))).trans ((g11 _ _ rfl).trans ((u9.2 _ _ (Or.inl (by decide))).trans ((u3.2 _ _ (Or.inl (by decide))).trans ((g2 _ _ rfl).trans (u1.2 _ _ (Or.inl (by decide)))))))))), ((L24 _ (by omega)).trans ((g22 _ _ rfl).trans ((u12.2 _ _ (Or.inl (by decide))).trans ((g11 _ _ rfl).trans ((u9.2 _ _ (Or.inl (by decide))).trans ((u3.2 _ _ (Or.inl (by decide))).trans ((g2 _ _ rfl).trans (u1.2 _ _ (Or.inr (by omega))))))))))⟩), (fun m hm => ⟨((K24 _ (by omega)).1.trans ((g22 _ _ rfl).trans ((u12.2 _ _ (Or.inl (by decide))).trans ((g11 _ _ rfl).trans ((u9.2 _ _ (Or.inl (by decide))).trans ((u3.2 _ _ (Or.inl (by decide))).trans ((g2 _ _ rfl).trans (u1.2 _ _ (Or.inl (by decide)))))))))), ((K24 _ (by omega)).2.1.trans ((g22 _ _ rfl).trans ((u12.2 _ _ (Or.inl (by decide))).trans ((g11 _ _ rfl).trans ((u9.2 _ _ (Or.inl (by decide))).trans ((u3.2 _ _ (Or.inl (by decide))).trans ((g2 _ _ rfl).trans (u1.2 _ _ (Or.inl (by decide)))))))))), ((K24 _ (by omega)).2.2.trans ((g22 _ _ rfl).trans ((u12.2 _ _ (Or.inl (by decide))).trans ((g11 _ _ rfl).trans ((u9.2 _ _ (Or.inl (by decide))).trans ((u3.2 _ _ (Or.inl (by decide))).trans ((g2 _ _ rfl).trans (u1.2 _ _ (Or.inl (by decide))))))))))⟩)⟩
                · subst r24
                  show EvP _ _ _ (98, [(0, .ref 164), (1, .int line)], [.int 0], h24) _
                  refine tz_ne (p2 := 101) rfl rfl (show Int32.toInt 0 = 0 from rfl) (fun c76 => absurd c76 (by omega)) (fun c76 => ?_)
                  refine te_iconst (p2 := 102) (x := 0) rfl rfl (by decide) ?_
                  exact te_zret rfl rfl (by decide) ⟨I24, f24, _, rfl, Or.inr ⟨rfl, (by rw [(show lnR (BM h) (plM h) = (-1, tsP (BM h) (plM h + ((wdF KW (cs (BM h) (plM h)) 0 0).2 : Int) + 1 + ((nuF (cs (BM h) (plM h + ((wdF KW (cs (BM h) (plM h)) 0 0).2 : Int) + 1))).2 : Int) + 4)) from (by (have m1 := (show Int32.toInt (-1) = -1 from rfl)); (have q0 := Qa2); (have b0 : (BM h (plM h + ((wdF KW (cs (BM h) (plM h)) 0 0).2 : Int))).toInt = Int32.toInt y6 := congrArg Int32.toInt rb6.symm); (have b1 : (BM h (plM h + ((wdF KW (cs (BM h) (plM h)) 0 0).2 : Int) + 1 + ((nuF (cs (BM h) (plM h + ((wdF KW (cs (BM h) (plM h)) 0 0).2 : Int) + 1))).2 : Int))).toInt = Int32.toInt y15 := congrArg Int32.toInt rb15.symm); (have q1 : _ = (lnN (BM h) (plM h)).1 := Qa11); unfold lnR; rw [if_neg (fun q => q (show lnH (BM h) (plM h) from ⟨by omega, (show (BM h (plM h + ((wdF KW (cs (BM h) (plM h)) 0 0).2 : Int))).toInt = 32 by omega)⟩)), if_neg (show ¬ (lnN (BM h) (plM h)).1 < 0 by omega), if_neg (show ¬ sc (BM h) (lnE (BM h) (plM h)) from (show ¬ (BM h (plM h + ((wdF KW (cs (BM h) (plM h)) 0 0).2 : Int) + 1 + ((nuF (cs (BM h) (plM h + ((wdF KW (cs (BM h) (plM h)) 0 0).2 : Int) + 1))).2 : Int))).toInt = 59 by omega)), if_neg (fun q => q (show lnI (BM h) (plM h) from c22))]; show ttR (BM h) (plM h + ((wdF KW (cs (BM h) (plM h)) 0 0).2 : Int) + 1 + ((nuF (cs (BM h) (plM h + ((wdF KW (cs (BM h) (plM h)) 0 0).2 : Int) + 1))).2 : Int) + 4) = _; unfold ttR tu3 tu2; rw [if_pos O24]))]; show (-1 : Int) < 0; decide)⟩, (by rw [(show lnR (BM h) (plM h) = (-1, tsP (BM h) (plM h + ((wdF KW (cs (BM h) (plM h)) 0 0).2 : Int) + 1 + ((nuF (cs (BM h) (plM h + ((wdF KW (cs (BM h) (plM h)) 0 0).2 : Int) + 1))).2 : Int) + 4)) from (by (have m1 := (show Int32.toInt (-1) = -1 from rfl)); (have q0 := Qa2); (have b0 : (BM h (plM h + ((wdF KW (cs (BM h) (plM h)) 0 0).2 : Int))).toInt = Int32.toInt y6 := congrArg Int32.toInt rb6.symm); (have b1 : (BM h (plM h + ((wdF KW (cs (BM h) (plM h)) 0 0).2 : Int) + 1 + ((nuF (cs (BM h) (plM h + ((wdF KW (cs (BM h) (plM h)) 0 0).2 : Int) + 1))).2 : Int))).toInt = Int32.toInt y15 := congrArg Int32.toInt rb15.symm); (have q1 : _ = (lnN (BM h) (plM h)).1 := Qa11); unfold lnR; rw [if_neg (fun q => q (show lnH (BM h) (plM h) from ⟨by omega, (show (BM h (plM h + ((wdF KW (cs (BM h) (plM h)) 0 0).2 : Int))).toInt = 32 by omega)⟩)), if_neg (show ¬ (lnN (BM h) (plM h)).1 < 0 by omega), if_neg (show ¬ sc (BM h) (lnE (BM h) (plM h)) from (show ¬ (BM h (plM h + ((wdF KW (cs (BM h) (plM h)) 0 0).2 : Int) + 1 + ((nuF (cs (BM h) (plM h + ((wdF KW (cs (BM h) (plM h)) 0 0).2 : Int) + 1))).2 : Int))).toInt = 59 by omega)), if_neg (fun q => q (show lnI (BM h) (plM h) from c22))]; show ttR (BM h) (plM h + ((wdF KW (cs (BM h) (plM h)) 0 0).2 : Int) + 1 + ((nuF (cs (BM h) (plM h + ((wdF KW (cs (BM h) (plM h)) 0 0).2 : Int) + 1))).2 : Int) + 4) = _; unfold ttR tu3 tu2; rw [if_pos O24])), show plM h24 = _ from Qb24]), (fun h9 => absurd h9 (by decide)), (fun m hm => ⟨((g24 _ _ rfl).trans ((g22 _ _ rfl).trans ((u12.2 _ _ (Or.inl (by decide))).trans ((g11 _ _ rfl).trans ((u9.2 _ _ (Or.inl (by decide))).trans ((u3.2 _ _ (Or.inr (by omega))).trans ((g2 _ _ rfl).trans (u1.2 _ _ (Or.inl (by decide)))))))))), ((g24 _ _ rfl).trans ((g22 _ _ rfl).trans ((u12.2 _ _ (Or.inr (by omega))).trans ((g11 _ _ rfl).trans ((u9.2 _ _ (Or.inl (by decide))).trans ((u3.2 _ _ (Or.inl (by decide))).trans ((g2 _ _ rfl).trans (u1.2 _ _ (Or.inl (by decide)))))))))), ((L24 _ (by omega)).trans ((g22 _ _ rfl).trans ((u12.2 _ _ (Or.inl (by decide))).trans ((g11 _ _ rfl).trans ((u9.2 _ _ (Or.inl (by decide))).trans ((u3.2 _ _ (Or.inl (by decide))).trans ((g2 _ _ rfl).trans (u1.2 _ _ (Or.inr (by omega))))))))))⟩), (fun m hm => ⟨((K24 _ (by omega)).1.trans ((g22 _ _ rfl).trans ((u12.2 _ _ (Or.inl (by decide))).trans ((g11 _ _ rfl).trans ((u9.2 _ _ (Or.inl (by decide))).trans ((u3.2 _ _ (Or.inl (by decide))).trans ((g2 _ _ rfl).trans (u1.2 _ _ (Or.inl (by decide)))))))))), ((K24 _ (by omega)).2.1.trans ((g22 _ _ rfl).trans ((u12.2 _ _ (Or.inl (by decide))).trans ((g11 _ _ rfl).trans ((u9.2 _ _ (Or.inl (by decide))).trans ((u3.2 _ _ (Or.inl (by decide))).trans ((g2 _ _ rfl).trans (u1.2 _ _ (Or.inl (by decide)))))))))), ((K24 _ (by omega)).2.2.trans ((g22 _ _ rfl).trans ((u12.2 _ _ (Or.inl (by decide))).trans ((g11 _ _ rfl).trans ((u9.2 _ _ (Or.inl (by decide))).trans ((u3.2 _ _ (Or.inl (by decide))).trans ((g2 _ _ rfl).trans (u1.2 _ _ (Or.inl (by decide))))))))))⟩)⟩
              · show EvP _ _ _ (89, [(0, .ref 164), (1, .int line)], [.int y22], h22) _
                refine te_iconst (p2 := 90) (x := (-1)) rfl rfl (by decide) ?_
                refine tb_eq (p2 := 93) rfl rfl rfl (show Int32.toInt (-1) = (-1) from rfl) (fun c77 => ?_) (fun c77 => absurd c77 (by omega))
                refine te_iconst (p2 := 102) (x := 0) rfl rfl (by decide) ?_
                exact te_zret rfl rfl (by decide) ⟨I22, f22, _, rfl, Or.inr ⟨rfl, (by rw [(show lnR (BM h) (plM h) = (-1, plM h + ((wdF KW (cs (BM h) (plM h)) 0 0).2 : Int) + 1 + ((nuF (cs (BM h) (plM h + ((wdF KW (cs (BM h) (plM h)) 0 0).2 : Int) + 1))).2 : Int) + (lcp IW (cs (BM h) (plM h + ((wdF KW (cs (BM h) (plM h)) 0 0).2 : Int) + 1 + ((nuF (cs (BM h) (plM h + ((wdF KW (cs (BM h) (plM h)) 0 0).2 : Int) + 1))).2 : Int))) 0 : Int)) from (by (have m1 := (show Int32.toInt (-1) = -1 from rfl)); (have q0 := Qa2); (have b0 : (BM h (plM h + ((wdF KW (cs (BM h) (plM h)) 0 0).2 : Int))).toInt = Int32.toInt y6 := congrArg Int32.toInt rb6.symm); (have b1 : (BM h (plM h + ((wdF KW (cs (BM h) (plM h)) 0 0).2 : Int) + 1 + ((nuF (cs (BM h) (plM h + ((wdF KW (cs (BM h) (plM h)) 0 0).2 : Int) + 1))).2 : Int))).toInt = Int32.toInt y15 := congrArg Int32.toInt rb15.symm); (have q1 : _ = (lnN (BM h) (plM h)).1 := Qa11); unfold lnR; rw [if_neg (fun q => q (show lnH (BM h) (plM h) from ⟨by omega, (show (BM h (plM h + ((wdF KW (cs (BM h) (plM h)) 0 0).2 : Int))).toInt = 32 by omega)⟩)), if_neg (show ¬ (lnN (BM h) (plM h)).1 < 0 by omega), if_neg (show ¬ sc (BM h) (lnE (BM h) (plM h)) from (show ¬ (BM h (plM h + ((wdF KW (cs (BM h) (plM h)) 0 0).2 : Int) + 1 + ((nuF (cs (BM h) (plM h + ((wdF KW (cs (BM h) (plM h)) 0 0).2 : Int) + 1))).2 : Int))).toInt = 59 by omega)), if_pos (show ¬ lnI (BM h) (plM h) from c22)]; try rfl))]; show (-1 : Int) < 0; decide)⟩, (by rw [(show lnR (BM h) (plM h) = (-1, plM h + ((wdF KW (cs (BM h) (plM h)) 0 0).2 : Int) + 1 + ((nuF (cs (BM h) (plM h + ((wdF KW (cs (BM h) (plM h)) 0 0).2 : Int) + 1))).2 : Int) + (lcp IW (cs (BM h) (plM h + ((wdF KW (cs (BM h) (plM h)) 0 0).2 : Int) + 1 + ((nuF (cs (BM h) (plM h + ((wdF KW (cs (BM h) (plM h)) 0 0).2 : Int) + 1))).2 : Int))) 0 : Int)) from (by (have m1 := (show Int32.toInt (-1) = -1 from rfl)); (have q0 := Qa2); (have b0 : (BM h (plM h + ((wdF KW (cs (BM h) (plM h)) 0 0).2 : Int))).toInt = Int32.toInt y6 := congrArg Int32.toInt rb6.symm); (have b1 : (BM h (plM h + ((wdF KW (cs (BM h) (plM h)) 0 0).2 : Int) + 1 + ((nuF (cs (BM h) (plM h + ((wdF KW (cs (BM h) (plM h)) 0 0).2 : Int) + 1))).2 : Int))).toInt = Int32.toInt y15 := congrArg Int32.toInt rb15.symm); (have q1 : _ = (lnN (BM h) (plM h)).1 := Qa11); unfold lnR; rw [if_neg (fun q => q (show lnH (BM h) (plM h) from ⟨by omega, (show (BM h (plM h + ((wdF KW (cs (BM h) (plM h)) 0 0).2 : Int))).toInt = 32 by omega)⟩)), if_neg (show ¬ (lnN (BM h) (plM h)).1 < 0 by omega), if_neg (show ¬ sc (BM h) (lnE (BM h) (plM h)) from (show ¬ (BM h (plM h + ((wdF KW (cs (BM h) (plM h)) 0 0).2 : Int) + 1 + ((nuF (cs (BM h) (plM h + ((wdF KW (cs (BM h) (plM h)) 0 0).2 : Int) + 1))).2 : Int))).toInt = 59 by omega)), if_pos (show ¬ lnI (BM h) (plM h) from c22)]; try rfl)), show plM h22 = _ from Qb22]), (fun h9 => absurd h9 (by decide)), (fun m hm => ⟨((g22 _ _ rfl).trans ((u12.2 _ _ (Or.inl (by decide))).trans ((g11 _ _ rfl).trans ((u9.2 _ _ (Or.inl (by decide))).trans ((u3.2 _ _ (Or.inr (by omega))).trans ((g2 _ _ rfl).trans (u1.2 _ _ (Or.inl (by decide))))))))), ((g22 _ _ rfl).trans ((u12.2 _ _ (Or.inr (by omega))).trans ((g11 _ _ rfl).trans ((u9.2 _ _ (Or.inl (by decide))).trans ((u3.2 _ _ (Or.inl (by decide))).trans ((g2 _ _ rfl).trans (u1.2 _ _ (Or.inl (by decide))))))))), ((g22 _ _ rfl).trans ((u12.2 _ _ (Or.inl (by decide))).trans ((g11 _ _ rfl).trans ((u9.2 _ _ (Or.inl (by decide))).trans ((u3.2 _ _ (Or.inl (by decide))).trans ((g2 _ _ rfl).trans (u1.2 _ _ (Or.inr (by omega)))))))))⟩), (fun m hm => ⟨((g22 _ _ rfl).trans ((u12.2 _ _ (Or.inl (by decide))).trans ((g11 _ _ rfl).trans ((u9.2 _ _ (Or.inl (by decide))).trans ((u3.2 _ _ (Or.inl (by decide))).trans ((g2 _ _ rfl).trans (u1.2 _ _ (Or.inl (by decide))))))))), ((g22 _ _ rfl).trans ((u12.2 _ _ (Or.inl (by decide))).trans ((g11 _ _ rfl).trans ((u9.2 _ _ (Or.inl (by decide))).trans ((u3.2 _ _ (Or.inl (by decide))).trans ((g2 _ _ rfl).trans (u1.2 _ _ (Or.inl (by decide))))))))), ((g22 _ _ rfl).trans ((u12.2 _ _ (Or.inl (by decide))).trans ((g11 _ _ rfl).trans ((u9.2 _ _ (Or.inl (by decide))).trans ((u3.2 _ _ (Or.inl (by decide))).trans ((g2 _ _ rfl).trans (u1.2 _ _ (Or.inl (by decide)))))))))⟩)⟩
          · subst r15
            refine te_bipush (p2 := 78) (x := 32) rfl rfl (by decide) ?_
            refine tb_ne (p2 := 81) rfl rfl (show Int32.toInt (-1) = (-1) from rfl) (show Int32.toInt 32 = 32 from rfl) (fun c78 => ?_) (fun c78 => absurd c78 (by omega))
            refine te_aload_n (p2 := 143) rfl rfl rfl ?_
            refine cV_pI (p2 := 146) (i := 148) rfl rfl rfl rfl I12 rfl rfl rfl (c_X12_byteHere I12) (by decide) (fun y79 r79 => ?_)
            obtain ⟨rb79, at79, tp79, ea79, et79, aa79, ab79, ta79, tb79, r79⟩ := r79
            rw [(BM_fr f12 rfl (fun _ => rfl)), ((plM_e (u12.2 _ _ (Or.inl (by decide)))).trans Qb11)] at rb79
            have xat79 : at79 = at15 := int_inj ea79 ea15
            rw [xat79] at r79
            have xtp79 : tp79 = tp6 := int_inj et79 ((u12.2 _ _ (Or.inl (by decide))).trans ((g11 _ _ (by decide)).trans ((u9.2 _ _ (Or.inr (by decide))).trans et6)))
            rw [xtp79] at r79
            have ye79 : y79 = (-1) := rb79.trans rb15.symm
            rw [ye79]
            show EvP _ _ _ (146, [(0, .ref 164), (1, .int line)], [.int (-1)], h12) _
            refine te_bipush (p2 := 148) (x := 59) rfl rfl (by decide) ?_
            refine tb_eq (p2 := 151) rfl rfl (show Int32.toInt (-1) = (-1) from rfl) (show Int32.toInt 59 = 59 from rfl) (fun c80 => absurd c80 (by omega)) (fun c80 => ?_)
            refine te_iconst (p2 := 152) (x := 0) rfl rfl (by decide) ?_
            exact te_zret rfl rfl (by decide) ⟨I12, f12, _, rfl, Or.inr ⟨rfl, (by rw [(show lnR (BM h) (plM h) = (-1, plM h + ((wdF KW (cs (BM h) (plM h)) 0 0).2 : Int) + 1 + ((nuF (cs (BM h) (plM h + ((wdF KW (cs (BM h) (plM h)) 0 0).2 : Int) + 1))).2 : Int)) from (by (have m1 := (show Int32.toInt (-1) = -1 from rfl)); (have q0 := Qa2); (have b0 : (BM h (plM h + ((wdF KW (cs (BM h) (plM h)) 0 0).2 : Int))).toInt = Int32.toInt y6 := congrArg Int32.toInt rb6.symm); (have b1 : (BM h (plM h + ((wdF KW (cs (BM h) (plM h)) 0 0).2 : Int) + 1 + ((nuF (cs (BM h) (plM h + ((wdF KW (cs (BM h) (plM h)) 0 0).2 : Int) + 1))).2 : Int))).toInt = Int32.toInt (-1) := congrArg Int32.toInt rb15.symm); (have q1 : _ = (lnN (BM h) (plM h)).1 := Qa11); unfold lnR; rw [if_neg (fun q => q (show lnH (BM h) (plM h) from ⟨by omega, (show (BM h (plM h + ((wdF KW (cs (BM h) (plM h)) 0 0).2 : Int))).toInt = 32 by omega)⟩)), if_neg (show ¬ (lnN (BM h) (plM h)).1 < 0 by omega), if_neg (show ¬ sc (BM h) (lnE (BM h) (plM h)) from (show ¬ (BM h (plM h + ((wdF KW (cs (BM h) (plM h)) 0 0).2 : Int) + 1 + ((nuF (cs (BM h) (plM h + ((wdF KW (cs (BM h) (plM h)) 0 0).2 : Int) + 1))).2 : Int))).toInt = 59 by omega)), if_pos (show ¬ lnI (BM h) (plM h) from (by (have h9 := (show lcp IW (cs (BM h) (lnE (BM h) (plM h))) 0 = 0 from lcpI0 (by rw [cs_0]; show ¬ (BM h (plM h + ((wdF KW (cs (BM h) (plM h)) 0 0).2 : Int) + 1 + ((nuF (cs (BM h) (plM h + ((wdF KW (cs (BM h) (plM h)) 0 0).2 : Int) + 1))).2 : Int))).toInt = 32; omega))); show ¬ _ = 4; omega)), (show lcp IW (cs (BM h) (lnE (BM h) (plM h))) 0 = 0 from lcpI0 (by rw [cs_0]; show ¬ (BM h (plM h + ((wdF KW (cs (BM h) (plM h)) 0 0).2 : Int) + 1 + ((nuF (cs (BM h) (plM h + ((wdF KW (cs (BM h) (plM h)) 0 0).2 : Int) + 1))).2 : Int))).toInt = 32; omega))]; exact Prod.ext rfl (by show lnE (BM h) (plM h) + ((0 : Nat) : Int) = _; show _ = lnE (BM h) (plM h); omega)))]; show (-1 : Int) < 0; decide)⟩, (by rw [(show lnR (BM h) (plM h) = (-1, plM h + ((wdF KW (cs (BM h) (plM h)) 0 0).2 : Int) + 1 + ((nuF (cs (BM h) (plM h + ((wdF KW (cs (BM h) (plM h)) 0 0).2 : Int) + 1))).2 : Int)) from (by (have m1 := (show Int32.toInt (-1) = -1 from rfl)); (have q0 := Qa2); (have b0 : (BM h (plM h + ((wdF KW (cs (BM h) (plM h)) 0 0).2 : Int))).toInt = Int32.toInt y6 := congrArg Int32.toInt rb6.symm); (have b1 : (BM h (plM h + ((wdF KW (cs (BM h) (plM h)) 0 0).2 : Int) + 1 + ((nuF (cs (BM h) (plM h + ((wdF KW (cs (BM h) (plM h)) 0 0).2 : Int) + 1))).2 : Int))).toInt = Int32.toInt (-1) := congrArg Int32.toInt rb15.symm); (have q1 : _ = (lnN (BM h) (plM h)).1 := Qa11); unfold lnR; rw [if_neg (fun q => q (show lnH (BM h) (plM h) from ⟨by omega, (show (BM h (plM h + ((wdF KW (cs (BM h) (plM h)) 0 0).2 : Int))).toInt = 32 by omega)⟩)), if_neg (show ¬ (lnN (BM h) (plM h)).1 < 0 by omega), if_neg (show ¬ sc (BM h) (lnE (BM h) (plM h)) from (show ¬ (BM h (plM h + ((wdF KW (cs (BM h) (plM h)) 0 0).2 : Int) + 1 + ((nuF (cs (BM h) (plM h + ((wdF KW (cs (BM h) (plM h)) 0 0).2 : Int) + 1))).2 : Int))).toInt = 59 by omega)), if_pos (show ¬ lnI (BM h) (plM h) from (by (have h9 := (show lcp IW (cs (BM h) (lnE (BM h) (plM h))) 0 = 0 from lcpI0 (by rw [cs_0]; show ¬ (BM h (plM h + ((wdF KW (cs (BM h) (plM h)) 0 0).2 : Int) + 1 + ((nuF (cs (BM h) (plM h + ((wdF KW (cs (BM h) (plM h)) 0 0).2 : Int) + 1))).2 : Int))).toInt = 32; omega))); show ¬ _ = 4; omega)), (show lcp IW (cs (BM h) (lnE (BM h) (plM h))) 0 = 0 from lcpI0 (by rw [cs_0]; show ¬ (BM h (plM h + ((wdF KW (cs (BM h) (plM h)) 0 0).2 : Int) + 1 + ((nuF (cs (BM h) (plM h + ((wdF KW (cs (BM h) (plM h)) 0 0).2 : Int) + 1))).2 : Int))).toInt = 32; omega))]; exact Prod.ext rfl (by show lnE (BM h) (plM h) + ((0 : Nat) : Int) = _; show _ = lnE (BM h) (plM h); omega))), show plM h12 = _ from ((plM_e (u12.2 _ _ (Or.inl (by decide)))).trans Qb11)]), (fun h9 => absurd h9 (by decide)), (fun m hm => ⟨((u12.2 _ _ (Or.inl (by decide))).trans ((g11 _ _ rfl).trans ((u9.2 _ _ (Or.inl (by decide))).trans ((u3.2 _ _ (Or.inr (by omega))).trans ((g2 _ _ rfl).trans (u1.2 _ _ (Or.inl (by decide)))))))), ((u12.2 _ _ (Or.inr (by omega))).trans ((g11 _ _ rfl).trans ((u9.2 _ _ (Or.inl (by decide))).trans ((u3.2 _ _ (Or.inl (by decide))).trans ((g2 _ _ rfl).trans (u1.2 _ _ (Or.inl (by decide)))))))), ((u12.2 _ _ (Or.inl (by decide))).trans ((g11 _ _ rfl).trans ((u9.2 _ _ (Or.inl (by decide))).trans ((u3.2 _ _ (Or.inl (by decide))).trans ((g2 _ _ rfl).trans (u1.2 _ _ (Or.inr (by omega))))))))⟩), (fun m hm => ⟨((u12.2 _ _ (Or.inl (by decide))).trans ((g11 _ _ rfl).trans ((u9.2 _ _ (Or.inl (by decide))).trans ((u3.2 _ _ (Or.inl (by decide))).trans ((g2 _ _ rfl).trans (u1.2 _ _ (Or.inl (by decide)))))))), ((u12.2 _ _ (Or.inl (by decide))).trans ((g11 _ _ rfl).trans ((u9.2 _ _ (Or.inl (by decide))).trans ((u3.2 _ _ (Or.inl (by decide))).trans ((g2 _ _ rfl).trans (u1.2 _ _ (Or.inl (by decide)))))))), ((u12.2 _ _ (Or.inl (by decide))).trans ((g11 _ _ rfl).trans ((u9.2 _ _ (Or.inl (by decide))).trans ((u3.2 _ _ (Or.inl (by decide))).trans ((g2 _ _ rfl).trans (u1.2 _ _ (Or.inl (by decide))))))))⟩)⟩
        · refine te_iconst (p2 := 71) (x := 0) rfl rfl (by decide) ?_
          exact te_zret rfl rfl (by decide) ⟨I12, f12, _, rfl, Or.inr ⟨rfl, (by rw [(show lnR (BM h) (plM h) = (-1, plM h + ((wdF KW (cs (BM h) (plM h)) 0 0).2 : Int) + 1 + ((nuF (cs (BM h) (plM h + ((wdF KW (cs (BM h) (plM h)) 0 0).2 : Int) + 1))).2 : Int)) from (by (have m1 := (show Int32.toInt (-1) = -1 from rfl)); (have q0 := Qa2); (have b0 : (BM h (plM h + ((wdF KW (cs (BM h) (plM h)) 0 0).2 : Int))).toInt = Int32.toInt y6 := congrArg Int32.toInt rb6.symm); (have q1 : _ = (lnN (BM h) (plM h)).1 := Qa11); unfold lnR; rw [if_neg (fun q => q (show lnH (BM h) (plM h) from ⟨by omega, (show (BM h (plM h + ((wdF KW (cs (BM h) (plM h)) 0 0).2 : Int))).toInt = 32 by omega)⟩)), if_pos (show (lnN (BM h) (plM h)).1 < 0 by omega)]; try rfl))]; show (-1 : Int) < 0; decide)⟩, (by rw [(show lnR (BM h) (plM h) = (-1, plM h + ((wdF KW (cs (BM h) (plM h)) 0 0).2 : Int) + 1 + ((nuF (cs (BM h) (plM h + ((wdF KW (cs (BM h) (plM h)) 0 0).2 : Int) + 1))).2 : Int)) from (by (have m1 := (show Int32.toInt (-1) = -1 from rfl)); (have q0 := Qa2); (have b0 : (BM h (plM h + ((wdF KW (cs (BM h) (plM h)) 0 0).2 : Int))).toInt = Int32.toInt y6 := congrArg Int32.toInt rb6.symm); (have q1 : _ = (lnN (BM h) (plM h)).1 := Qa11); unfold lnR; rw [if_neg (fun q => q (show lnH (BM h) (plM h) from ⟨by omega, (show (BM h (plM h + ((wdF KW (cs (BM h) (plM h)) 0 0).2 : Int))).toInt = 32 by omega)⟩)), if_pos (show (lnN (BM h) (plM h)).1 < 0 by omega)]; try rfl)), show plM h12 = _ from ((plM_e (u12.2 _ _ (Or.inl (by decide)))).trans Qb11)]), (fun h9 => absurd h9 (by decide)), (fun m hm => ⟨((u12.2 _ _ (Or.inl (by decide))).trans ((g11 _ _ rfl).trans ((u9.2 _ _ (Or.inl (by decide))).trans ((u3.2 _ _ (Or.inr (by omega))).trans ((g2 _ _ rfl).trans (u1.2 _ _ (Or.inl (by decide)))))))), ((u12.2 _ _ (Or.inr (by omega))).trans ((g11 _ _ rfl).trans ((u9.2 _ _ (Or.inl (by decide))).trans ((u3.2 _ _ (Or.inl (by decide))).trans ((g2 _ _ rfl).trans (u1.2 _ _ (Or.inl (by decide)))))))), ((u12.2 _ _ (Or.inl (by decide))).trans ((g11 _ _ rfl).trans ((u9.2 _ _ (Or.inl (by decide))).trans ((u3.2 _ _ (Or.inl (by decide))).trans ((g2 _ _ rfl).trans (u1.2 _ _ (Or.inr (by omega))))))))⟩), (fun m hm => ⟨((u12.2 _ _ (Or.inl (by decide))).trans ((g11 _ _ rfl).trans ((u9.2 _ _ (Or.inl (by decide))).trans ((u3.2 _ _ (Or.inl (by decide))).trans ((g2 _ _ rfl).trans (u1.2 _ _ (Or.inl (by decide)))))))), ((u12.2 _ _ (Or.inl (by decide))).trans ((g11 _ _ rfl).trans ((u9.2 _ _ (Or.inl (by decide))).trans ((u3.2 _ _ (Or.inl (by decide))).trans ((g2 _ _ rfl).trans (u1.2 _ _ (Or.inl (by decide)))))))), ((u12.2 _ _ (Or.inl (by decide))).trans ((g11 _ _ rfl).trans ((u9.2 _ _ (Or.inl (by decide))).trans ((u3.2 _ _ (Or.inl (by decide))).trans ((g2 _ _ rfl).trans (u1.2 _ _ (Or.inl (by decide))))))))⟩)⟩
      · refine te_iconst (p2 := 39) (x := 0) rfl rfl (by decide) ?_
        exact te_zret rfl rfl (by decide) ⟨I3, f3, _, rfl, Or.inr ⟨rfl, (by rw [(show lnR (BM h) (plM h) = (-1, plM h + ((wdF KW (cs (BM h) (plM h)) 0 0).2 : Int)) from (by (have m1 := (show Int32.toInt (-1) = -1 from rfl)); (have q0 := Qa2); (have b0 : (BM h (plM h + ((wdF KW (cs (BM h) (plM h)) 0 0).2 : Int))).toInt = Int32.toInt y6 := congrArg Int32.toInt rb6.symm); unfold lnR; rw [if_pos (fun q => by (have h9 : (BM h (plM h + ((wdF KW (cs (BM h) (plM h)) 0 0).2 : Int))).toInt = 32 := q.2); omega)]; try rfl))]; show (-1 : Int) < 0; decide)⟩, (by rw [(show lnR (BM h) (plM h) = (-1, plM h + ((wdF KW (cs (BM h) (plM h)) 0 0).2 : Int)) from (by (have m1 := (show Int32.toInt (-1) = -1 from rfl)); (have q0 := Qa2); (have b0 : (BM h (plM h + ((wdF KW (cs (BM h) (plM h)) 0 0).2 : Int))).toInt = Int32.toInt y6 := congrArg Int32.toInt rb6.symm); unfold lnR; rw [if_pos (fun q => by (have h9 : (BM h (plM h + ((wdF KW (cs (BM h) (plM h)) 0 0).2 : Int))).toInt = 32 := q.2); omega)]; try rfl)), show plM h3 = _ from ((plM_e (u3.2 _ _ (Or.inl (by decide)))).trans Qb2)]), (fun h9 => absurd h9 (by decide)), (fun m hm => ⟨((u3.2 _ _ (Or.inr (by omega))).trans ((g2 _ _ rfl).trans (u1.2 _ _ (Or.inl (by decide))))), ((u3.2 _ _ (Or.inl (by decide))).trans ((g2 _ _ rfl).trans (u1.2 _ _ (Or.inl (by decide))))), ((u3.2 _ _ (Or.inl (by decide))).trans ((g2 _ _ rfl).trans (u1.2 _ _ (Or.inr (by omega)))))⟩), (fun m hm => ⟨((u3.2 _ _ (Or.inl (by decide))).trans ((g2 _ _ rfl).trans (u1.2 _ _ (Or.inl (by decide))))), ((u3.2 _ _ (Or.inl (by decide))).trans ((g2 _ _ rfl).trans (u1.2 _ _ (Or.inl (by decide))))), ((u3.2 _ _ (Or.inl (by decide))).trans ((g2 _ _ rfl).trans (u1.2 _ _ (Or.inl (by decide)))))⟩)⟩
    · subst r6
      refine te_bipush (p2 := 35) (x := 32) rfl rfl (by decide) ?_
      refine tb_eq (p2 := 38) rfl rfl (show Int32.toInt (-1) = (-1) from rfl) (show Int32.toInt 32 = 32 from rfl) (fun c81 => absurd c81 (by omega)) (fun c81 => ?_)
      refine te_iconst (p2 := 39) (x := 0) rfl rfl (by decide) ?_
      exact te_zret rfl rfl (by decide) ⟨I3, f3, _, rfl, Or.inr ⟨rfl, (by rw [(show lnR (BM h) (plM h) = (-1, plM h + ((wdF KW (cs (BM h) (plM h)) 0 0).2 : Int)) from (by (have m1 := (show Int32.toInt (-1) = -1 from rfl)); (have q0 := Qa2); (have b0 : (BM h (plM h + ((wdF KW (cs (BM h) (plM h)) 0 0).2 : Int))).toInt = Int32.toInt (-1) := congrArg Int32.toInt rb6.symm); unfold lnR; rw [if_pos (fun q => by (have h9 : (BM h (plM h + ((wdF KW (cs (BM h) (plM h)) 0 0).2 : Int))).toInt = 32 := q.2); omega)]; try rfl))]; show (-1 : Int) < 0; decide)⟩, (by rw [(show lnR (BM h) (plM h) = (-1, plM h + ((wdF KW (cs (BM h) (plM h)) 0 0).2 : Int)) from (by (have m1 := (show Int32.toInt (-1) = -1 from rfl)); (have q0 := Qa2); (have b0 : (BM h (plM h + ((wdF KW (cs (BM h) (plM h)) 0 0).2 : Int))).toInt = Int32.toInt (-1) := congrArg Int32.toInt rb6.symm); unfold lnR; rw [if_pos (fun q => by (have h9 : (BM h (plM h + ((wdF KW (cs (BM h) (plM h)) 0 0).2 : Int))).toInt = 32 := q.2); omega)]; try rfl)), show plM h3 = _ from ((plM_e (u3.2 _ _ (Or.inl (by decide)))).trans Qb2)]), (fun h9 => absurd h9 (by decide)), (fun m hm => ⟨((u3.2 _ _ (Or.inr (by omega))).trans ((g2 _ _ rfl).trans (u1.2 _ _ (Or.inl (by decide))))), ((u3.2 _ _ (Or.inl (by decide))).trans ((g2 _ _ rfl).trans (u1.2 _ _ (Or.inl (by decide))))), ((u3.2 _ _ (Or.inl (by decide))).trans ((g2 _ _ rfl).trans (u1.2 _ _ (Or.inr (by omega)))))⟩), (fun m hm => ⟨((u3.2 _ _ (Or.inl (by decide))).trans ((g2 _ _ rfl).trans (u1.2 _ _ (Or.inl (by decide))))), ((u3.2 _ _ (Or.inl (by decide))).trans ((g2 _ _ rfl).trans (u1.2 _ _ (Or.inl (by decide))))), ((u3.2 _ _ (Or.inl (by decide))).trans ((g2 _ _ rfl).trans (u1.2 _ _ (Or.inl (by decide)))))⟩)⟩
abbrev Q2_order (y : Int32) (h h2 : im_H) : Prop := tbl h → ∃ p : Int32, rd h 148 46 = some (.int p) ∧ 0 ≤ p.toInt ∧ p.toInt ≤ 6 ∧ ((p.toInt = 6 ∧ y = -4 ∧ h2 = h) ∨ (p.toInt ≠ 6 ∧ rd h2 148 45 = some (.int 0) ∧ ((∀ m : Nat, ¬ (8 * p.toInt.toNat ≤ m ∧ m < 8 * p.toInt.toNat + 8) → rd h2 186 m = rd h 186 m ∧ rd h2 187 m = rd h 187 m ∧ rd h2 188 m = rd h 188 m) ∧ (∀ m : Nat, ¬ (24 * p.toInt.toNat ≤ m ∧ m < 24 * p.toInt.toNat + 24) → rd h2 189 m = rd h 189 m ∧ rd h2 190 m = rd h 190 m ∧ rd h2 191 m = rd h 191 m)) ∧ (∀ m : Nat, m ≠ p.toInt.toNat → rd h2 185 m = rd h 185 m) ∧ ((0 ≤ (orR (BM h) (rv h 148 45).toInt 8 0 0).1 ∧ y = p ∧ rd h2 148 46 = some (.int (p + 1)) ∧ (∃ z : Int32, rd h2 185 p.toInt.toNat = some (.int z) ∧ z.toInt = (orR (BM h) (rv h 148 45).toInt 8 0 0).1) ∧ (∀ l : Nat, (l : Int) < (orR (BM h) (rv h 148 45).toInt 8 0 0).1 → lnM h2 (8 * p.toInt.toNat + l) (BM h) (lnS (BM h) l))) ∨ ((orR (BM h) (rv h 148 45).toInt 8 0 0).1 < 0 ∧ y.toInt = -100 - (orR (BM h) (rv h 148 45).toInt 8 0 0).2 ∧ rd h2 148 46 = some (.int p)))))
set_option maxRecDepth 20000 in
set_option maxHeartbeats 4000000 in
theorem c0_X12_order  {h : im_H} (hI : tI h) (pr0 : tbl h) : CaP 5 140 [.ref 164] h (fun v h2 => tI h2 ∧ fr F_X12_order h h2 ∧ ∃ y : Int32, v = some (.int y) ∧ ∃ p : Int32, rd h 148 46 = some (.int p) ∧ 0 ≤ p.toInt ∧ p.toInt ≤ 6 ∧ ((p.toInt = 6 ∧ y = -4 ∧ h2 = h) ∨ (p.toInt ≠ 6 ∧ rd h2 148 45 = some (.int 0) ∧ ((∀ m : Nat, ¬ (8 * p.toInt.toNat ≤ m ∧ m < 8 * p.toInt.toNat + 8) → rd h2 186 m = rd h 186 m ∧ rd h2 187 m = rd h 187 m ∧ rd h2 188 m = rd h 188 m) ∧ (∀ m : Nat, ¬ (24 * p.toInt.toNat ≤ m ∧ m < 24 * p.toInt.toNat + 24) → rd h2 189 m = rd h 189 m ∧ rd h2 190 m = rd h 190 m ∧ rd h2 191 m = rd h 191 m)) ∧ (∀ m : Nat, m ≠ p.toInt.toNat → rd h2 185 m = rd h 185 m) ∧ ((0 ≤ (orR (BM h) (rv h 148 45).toInt 8 0 0).1 ∧ y = p ∧ rd h2 148 46 = some (.int (p + 1)) ∧ (∃ z : Int32, rd h2 185 p.toInt.toNat = some (.int z) ∧ z.toInt = (orR (BM h) (rv h 148 45).toInt 8 0 0).1) ∧ (∀ l : Nat, (l : Int) < (orR (BM h) (rv h 148 45).toInt 8 0 0).1 → lnM h2 (8 * p.toInt.toNat + l) (BM h) (lnS (BM h) l))) ∨ ((orR (BM h) (rv h 148 45).toInt 8 0 0).1 < 0 ∧ y.toInt = -100 - (orR (BM h) (rv h 148 45).toInt 8 0 0).2 ∧ rd h2 148 46 = some (.int p)))))) := by
  refine cap_of (d := 4) (M := mX12_order) rfl (Nat.le_of_ble_eq_true rfl) ?_
  show EvP im_K0 4 mX12_order (0, [(0, .ref 164)], [], h) _
  have f0 : fr F_X12_order h h := fr_rf
  refine te_aload_n (p2 := 1) rfl rfl rfl ?_
  obtain ⟨v1, e1, y1, w1, a1, b1, _⟩ := hI.2.1 148 46 (.inl (0, 6, 9999999999)) rfl
  subst w1
  obtain ⟨v2, e2, y2, w2, a2, b2, _⟩ := hI.2.1 148 45 (.inl (0, 160, 9999999999)) rfl
  subst w2
  refine tg_e (p2 := 4) (i := 148) (v := .int y1) rfl rfl hI rfl rfl e1 ?_
  refine te_bipush (p2 := 6) (x := 6) rfl rfl (by decide) ?_
  refine tb_ne (p2 := 9) rfl rfl rfl (show Int32.toInt 6 = 6 from rfl) (fun c3 => ?_) (fun c3 => ?_)
  · refine te_aload_n (p2 := 13) rfl rfl rfl ?_
    refine te_iconst (p2 := 14) (x := 0) rfl rfl (by decide) ?_
    refine tp_i (p2 := 17) (i := 148) rfl rfl hI rfl rfl (by decide) rfl rfl rfl (by decide) (by decide) (by decide) rfl (fun h4 I4 u4 => ?_)
    have f4 := fr_st (F := F_X12_order) 1 f0 u4 rfl (by decide) (by decide)
    refine te_iconst (p2 := 18) (x := 0) rfl rfl (by decide) ?_
    refine te_istore_n (p2 := 19) (lv2 := [(1, .int 0), (0, .ref 164)]) rfl rfl (by decide) rfl ?_
    refine te_iconst (p2 := 20) (x := 1) rfl rfl (by decide) ?_
    refine te_istore_n (p2 := 21) (lv2 := [(2, .int 1), (1, .int 0), (0, .ref 164)]) rfl rfl (by decide) rfl ?_
    have lp5 : ∀ (n5 : Nat) (v5_1 v5_2 t5_o t5_tp : Int32) (h5 : im_H), tI h5 → fr F_X12_order h h5 → 0 ≤ v5_1.toInt → v5_1.toInt ≤ 8 → 0 ≤ v5_2.toInt → v5_2.toInt ≤ 1 → rd h5 148 46 = some (.int t5_o) → rd h5 148 45 = some (.int t5_tp) → 0 ≤ t5_o.toInt → t5_o.toInt ≤ 6 → 0 ≤ t5_tp.toInt → t5_tp.toInt ≤ 160 → t5_o.toInt ≤ 5 → t5_o.toInt = y1.toInt → t5_tp.toInt = y2.toInt → (inW (BM h) (rv h 148 45).toInt v5_1.toInt (plM h5) v5_2) → (v5_2.toInt = 1 → ∀ l : Nat, (l : Int) < v5_1.toInt → lnM h5 (8 * y1.toInt.toNat + l) (BM h) (lnS (BM h) l)) → ((∀ m : Nat, ¬ (8 * y1.toInt.toNat ≤ m ∧ m < 8 * y1.toInt.toNat + 8) → rd h5 186 m = rd h 186 m ∧ rd h5 187 m = rd h 187 m ∧ rd h5 188 m = rd h 188 m) ∧ (∀ m : Nat, ¬ (24 * y1.toInt.toNat ≤ m ∧ m < 24 * y1.toInt.toNat + 24) → rd h5 189 m = rd h 189 m ∧ rd h5 190 m = rd h 190 m ∧ rd h5 191 m = rd h 191 m) ∧ ∀ m : Nat, rd h5 185 m = rd h 185 m) → rd h5 148 45 = rd h 148 45 → 8 - v5_1.toInt < (n5 : Int) → EvP im_K0 4 mX12_order (21, [(0, .ref 164), (1, .int v5_1), (2, .int v5_2)], [], h5) (fun v h2 => tI h2 ∧ fr F_X12_order h h2 ∧ ∃ y : Int32, v = some (.int y) ∧ ∃ p : Int32, rd h 148 46 = some (.int p) ∧ 0 ≤ p.toInt ∧ p.toInt ≤ 6 ∧ ((p.toInt = 6 ∧ y = -4 ∧ h2 = h) ∨ (p.toInt ≠ 6 ∧ rd h2 148 45 = some (.int 0) ∧ ((∀ m : Nat, ¬ (8 * p.toInt.toNat ≤ m ∧ m < 8 * p.toInt.toNat + 8) → rd h2 186 m = rd h 186 m ∧ rd h2 187 m = rd h 187 m ∧ rd h2 188 m = rd h 188 m) ∧ (∀ m : Nat, ¬ (24 * p.toInt.toNat ≤ m ∧ m < 24 * p.toInt.toNat + 24) → rd h2 189 m = rd h 189 m ∧ rd h2 190 m = rd h 190 m ∧ rd h2 191 m = rd h 191 m)) ∧ (∀ m : Nat, m ≠ p.toInt.toNat → rd h2 185 m = rd h 185 m) ∧ ((0 ≤ (orR (BM h) (rv h 148 45).toInt 8 0 0).1 ∧ y = p ∧ rd h2 148 46 = some (.int (p + 1)) ∧ (∃ z : Int32, rd h2 185 p.toInt.toNat = some (.int z) ∧ z.toInt = (orR (BM h) (rv h 148 45).toInt 8 0 0).1) ∧ (∀ l : Nat, (l : Int) < (orR (BM h) (rv h 148 45).toInt 8 0 0).1 → lnM h2 (8 * p.toInt.toNat + l) (BM h) (lnS (BM h) l))) ∨ ((orR (BM h) (rv h 148 45).toInt 8 0 0).1 < 0 ∧ y.toInt = -100 - (orR (BM h) (rv h 148 45).toInt 8 0 0).2 ∧ rd h2 148 46 = some (.int p)))))) := by
      intro n5
      induction n5 with
      | zero => intro v5_1 v5_2 t5_o t5_tp h5 I5 f5 a5_1 b5_1 a5_2 b5_2 v5_o v5_tp va5_o vb5_o va5_tp vb5_tp l5_0 l5_1 l5_2 w5_0 w5_1 w5_2 w5_3 m5; exfalso; omega
      | succ n5 ih5 =>
        intro v5_1 v5_2 t5_o t5_tp h5 I5 f5 a5_1 b5_1 a5_2 b5_2 v5_o v5_tp va5_o vb5_o va5_tp vb5_tp l5_0 l5_1 l5_2 w5_0 w5_1 w5_2 w5_3 m5
        refine te_iload_n (p2 := 22) rfl rfl rfl ?_
        refine tz_eq (p2 := 25) rfl rfl rfl (fun c6 => ?_) (fun c6 => ?_)
        · refine te_iload_n (p2 := 67) rfl rfl rfl ?_
          obtain ⟨v7, e7, y7, w7, a7, b7, _⟩ := I5.2.1 148 60 (.inl (0, 160, 9999999999)) rfl
          subst w7
          refine tz_eq (p2 := 70) rfl rfl rfl (fun c8 => ?_) (fun c8 => absurd c8 (by omega))
          refine te_iconst (p2 := 86) (x := 0) rfl rfl (by decide) ?_
          refine te_istore_n (p2 := 87) (lv2 := [(2, .int 0), (0, .ref 164), (1, .int v5_1)]) rfl rfl (by decide) rfl ?_
          refine te_aload_n (p2 := 88) rfl rfl rfl ?_
          refine te_iconst (p2 := 89) (x := 0) rfl rfl (by decide) ?_
          refine tp_i (p2 := 92) (i := 148) rfl rfl I5 rfl rfl (by decide) rfl rfl rfl (by decide) (by decide) (by decide) rfl (fun h9 I9 u9 => ?_)
          have f9 := fr_st (F := F_X12_order) 0 f5 u9 rfl (by decide) (by decide)
          refine te_iload_n (p2 := 93) rfl rfl rfl ?_
          refine tz_ne (p2 := 96) rfl rfl (show Int32.toInt 0 = 0 from rfl) (fun c10 => absurd c10 (by omega)) (fun c10 => ?_)
          refine te_bipush (p2 := 98) (x := (-100)) rfl rfl (by decide) ?_
          refine te_aload_n (p2 := 99) rfl rfl rfl ?_
          refine tg_e (p2 := 102) (i := 148) (v := .int y7) rfl rfl I9 rfl rfl ((u9.2 _ _ (Or.inr (by decide))).trans e7) ?_
          refine ar_sub (p2 := 103) rfl rfl (show Int32.toInt (-100) = (-100) from rfl) rfl (by omega) (by omega) (fun z11 e11 f11 => ?_)
          exact te_iret rfl rfl ⟨I9, f9, _, rfl, y1, e1, by omega, by omega, Or.inr ⟨by omega, u9.1, (by exact ⟨fun m hm => ⟨((u9.2 _ _ (Or.inl (by decide))).trans (w5_2.1 m hm).1), ((u9.2 _ _ (Or.inl (by decide))).trans (w5_2.1 m hm).2.1), ((u9.2 _ _ (Or.inl (by decide))).trans (w5_2.1 m hm).2.2)⟩, fun m hm => ⟨((u9.2 _ _ (Or.inl (by decide))).trans (w5_2.2.1 m hm).1), ((u9.2 _ _ (Or.inl (by decide))).trans (w5_2.2.1 m hm).2.1), ((u9.2 _ _ (Or.inl (by decide))).trans (w5_2.2.1 m hm).2.2)⟩⟩), (fun m hm => ((u9.2 _ _ (Or.inl (by decide))).trans (w5_2.2.2 m))), Or.inr ⟨(by rw [((inW_e w5_0 (by omega) (by omega) (by (have h9 := plM_of e7); rw [rv_of e2]; omega)).2 (by (have h9 := plM_of e7); rw [rv_of e2]; omega))]; show (-1 : Int) < 0; decide), (by (have h9 := plM_of e7); rw [((inW_e w5_0 (by omega) (by omega) (by (have h9 := plM_of e7); rw [rv_of e2]; omega)).2 (by (have h9 := plM_of e7); rw [rv_of e2]; omega))]; show _ = -100 - plM h5; omega), ((u9.2 _ _ (Or.inr (by decide))).trans v5_o).trans (congrArg (fun t => some (Value.int t)) (i32_ext (by omega)))⟩⟩⟩
        · refine te_iload_n (p2 := 26) rfl rfl rfl ?_
          refine te_bipush (p2 := 28) (x := 8) rfl rfl (by decide) ?_
          refine tb_ge (p2 := 31) rfl rfl rfl (show Int32.toInt 8 = 8 from rfl) (fun c12 => ?_) (fun c12 => ?_)
          · refine te_iload_n (p2 := 67) rfl rfl rfl ?_
            obtain ⟨v13, e13, y13, w13, a13, b13, _⟩ := I5.2.1 148 60 (.inl (0, 160, 9999999999)) rfl
            subst w13
            refine tz_eq (p2 := 70) rfl rfl rfl (fun c14 => absurd c14 (by omega)) (fun c14 => ?_)
            refine te_aload_n (p2 := 71) rfl rfl rfl ?_
            refine tg_e (p2 := 74) (i := 148) (v := .int y13) rfl rfl I5 rfl rfl e13 ?_
            refine te_aload_n (p2 := 75) rfl rfl rfl ?_
            refine tg_e (p2 := 78) (i := 148) (v := .int t5_tp) rfl rfl I5 rfl rfl v5_tp ?_
            refine tb_ne (p2 := 81) rfl rfl rfl rfl (fun c15 => ?_) (fun c15 => ?_)
            · refine te_iconst (p2 := 86) (x := 0) rfl rfl (by decide) ?_
              refine te_istore_n (p2 := 87) (lv2 := [(2, .int 0), (0, .ref 164), (1, .int v5_1)]) rfl rfl (by decide) rfl ?_
              refine te_aload_n (p2 := 88) rfl rfl rfl ?_
              refine te_iconst (p2 := 89) (x := 0) rfl rfl (by decide) ?_
              refine tp_i (p2 := 92) (i := 148) rfl rfl I5 rfl rfl (by decide) rfl rfl rfl (by decide) (by decide) (by decide) rfl (fun h16 I16 u16 => ?_)
              have f16 := fr_st (F := F_X12_order) 0 f5 u16 rfl (by decide) (by decide)
              refine te_iload_n (p2 := 93) rfl rfl rfl ?_
              refine tz_ne (p2 := 96) rfl rfl (show Int32.toInt 0 = 0 from rfl) (fun c17 => absurd c17 (by omega)) (fun c17 => ?_)
              refine te_bipush (p2 := 98) (x := (-100)) rfl rfl (by decide) ?_
              refine te_aload_n (p2 := 99) rfl rfl rfl ?_
              refine tg_e (p2 := 102) (i := 148) (v := .int y13) rfl rfl I16 rfl rfl ((u16.2 _ _ (Or.inr (by decide))).trans e13) ?_
              refine ar_sub (p2 := 103) rfl rfl (show Int32.toInt (-100) = (-100) from rfl) rfl (by omega) (by omega) (fun z18 e18 f18 => ?_)
              exact te_iret rfl rfl ⟨I16, f16, _, rfl, y1, e1, by omega, by omega, Or.inr ⟨by omega, u16.1, (by exact ⟨fun m hm => ⟨((u16.2 _ _ (Or.inl (by decide))).trans (w5_2.1 m hm).1), ((u16.2 _ _ (Or.inl (by decide))).trans (w5_2.1 m hm).2.1), ((u16.2 _ _ (Or.inl (by decide))).trans (w5_2.1 m hm).2.2)⟩, fun m hm => ⟨((u16.2 _ _ (Or.inl (by decide))).trans (w5_2.2.1 m hm).1), ((u16.2 _ _ (Or.inl (by decide))).trans (w5_2.2.1 m hm).2.1), ((u16.2 _ _ (Or.inl (by decide))).trans (w5_2.2.1 m hm).2.2)⟩⟩), (fun m hm => ((u16.2 _ _ (Or.inl (by decide))).trans (w5_2.2.2 m))), Or.inr ⟨(by rw [((inW_e w5_0 (by omega) (by omega) (by (have h9 := plM_of e13); rw [rv_of e2]; omega)).2 (by (have h9 := plM_of e13); rw [rv_of e2]; omega))]; show (-1 : Int) < 0; decide), (by (have h9 := plM_of e13); rw [((inW_e w5_0 (by omega) (by omega) (by (have h9 := plM_of e13); rw [rv_of e2]; omega)).2 (by (have h9 := plM_of e13); rw [rv_of e2]; omega))]; show _ = -100 - plM h5; omega), ((u16.2 _ _ (Or.inr (by decide))).trans v5_o).trans (congrArg (fun t => some (Value.int t)) (i32_ext (by omega)))⟩⟩⟩
            · refine te_iconst (p2 := 82) (x := 1) rfl rfl (by decide) ?_
              refine te_goto rfl ?_
              refine te_istore_n (p2 := 87) (lv2 := [(2, .int 1), (0, .ref 164), (1, .int v5_1)]) rfl rfl (by decide) rfl ?_
              refine te_aload_n (p2 := 88) rfl rfl rfl ?_
              refine te_iconst (p2 := 89) (x := 0) rfl rfl (by decide) ?_
              refine tp_i (p2 := 92) (i := 148) rfl rfl I5 rfl rfl (by decide) rfl rfl rfl (by decide) (by decide) (by decide) rfl (fun h19 I19 u19 => ?_)
              have f19 := fr_st (F := F_X12_order) 0 f5 u19 rfl (by decide) (by decide)
              refine te_iload_n (p2 := 93) rfl rfl rfl ?_
              refine tz_ne (p2 := 96) rfl rfl (show Int32.toInt 1 = 1 from rfl) (fun c20 => ?_) (fun c20 => absurd c20 (by omega))
              refine te_aload_n (p2 := 105) rfl rfl rfl ?_
              refine tg_r (p2 := 108) (i := 148) (r := 201) rfl rfl I19 rfl rfl rfl ?_
              refine te_aload_n (p2 := 109) rfl rfl rfl ?_
              refine tg_e (p2 := 112) (i := 148) (v := .int t5_o) rfl rfl I19 rfl rfl ((u19.2 _ _ (Or.inr (by decide))).trans v5_o) ?_
              refine te_iload_n (p2 := 113) rfl rfl rfl ?_
              refine ts_i (p2 := 114) (i := 185) (n := 6) rfl rfl I19 rfl rfl rfl rfl (by omega) (by omega) (by omega) (by omega) (by omega) rfl (fun h21 I21 u21 => ?_)
              have f21 := fr_st (F := F_X12_order) 2 f19 u21 rfl (by omega) (by omega)
              refine te_aload_n (p2 := 115) rfl rfl rfl ?_
              refine te_dup (p2 := 116) rfl rfl rfl ?_
              refine tg_e (p2 := 119) (i := 148) (v := .int t5_o) rfl rfl I21 rfl rfl ((u21.2 _ _ (Or.inl (by decide))).trans ((u19.2 _ _ (Or.inr (by decide))).trans v5_o)) ?_
              refine te_iconst (p2 := 120) (x := 1) rfl rfl (by decide) ?_
              refine ar_add (p2 := 121) rfl rfl rfl (show Int32.toInt 1 = 1 from rfl) (by omega) (by omega) (fun z22 e22 f22 => ?_)
              refine tp_i (p2 := 124) (i := 148) rfl rfl I21 rfl rfl (by decide) rfl rfl rfl (by omega) (by omega) (by omega) rfl (fun h23 I23 u23 => ?_)
              have f23 := fr_st (F := F_X12_order) 0 f21 u23 rfl (by decide) (by decide)
              refine te_aload_n (p2 := 125) rfl rfl rfl ?_
              refine tg_e (p2 := 128) (i := 148) (v := .int z22) rfl rfl I23 rfl rfl u23.1 ?_
              refine te_iconst (p2 := 129) (x := 1) rfl rfl (by decide) ?_
              refine ar_sub (p2 := 130) rfl rfl rfl (show Int32.toInt 1 = 1 from rfl) (by omega) (by omega) (fun z24 e24 f24 => ?_)
              exact te_iret rfl rfl ⟨I23, f23, _, rfl, y1, e1, by omega, by omega, Or.inr ⟨by omega, ((u23.2 _ _ (Or.inr (by decide))).trans ((u21.2 _ _ (Or.inl (by decide))).trans u19.1)), (by exact ⟨fun m hm => ⟨((u23.2 _ _ (Or.inl (by decide))).trans ((u21.2 _ _ (Or.inl (by decide))).trans ((u19.2 _ _ (Or.inl (by decide))).trans (w5_2.1 m hm).1))), ((u23.2 _ _ (Or.inl (by decide))).trans ((u21.2 _ _ (Or.inl (by decide))).trans ((u19.2 _ _ (Or.inl (by decide))).trans (w5_2.1 m hm).2.1))), ((u23.2 _ _ (Or.inl (by decide))).trans ((u21.2 _ _ (Or.inl (by decide))).trans ((u19.2 _ _ (Or.inl (by decide))).trans (w5_2.1 m hm).2.2)))⟩, fun m hm => ⟨((u23.2 _ _ (Or.inl (by decide))).trans ((u21.2 _ _ (Or.inl (by decide))).trans ((u19.2 _ _ (Or.inl (by decide))).trans (w5_2.2.1 m hm).1))), ((u23.2 _ _ (Or.inl (by decide))).trans ((u21.2 _ _ (Or.inl (by decide))).trans ((u19.2 _ _ (Or.inl (by decide))).trans (w5_2.2.1 m hm).2.1))), ((u23.2 _ _ (Or.inl (by decide))).trans ((u21.2 _ _ (Or.inl (by decide))).trans ((u19.2 _ _ (Or.inl (by decide))).trans (w5_2.2.1 m hm).2.2)))⟩⟩), (fun m hm => ((u23.2 _ _ (Or.inl (by decide))).trans ((u21.2 _ _ (Or.inr (by omega))).trans ((u19.2 _ _ (Or.inl (by decide))).trans (w5_2.2.2 m))))), Or.inl ⟨(by rw [((inW_e w5_0 (by omega) (by omega) (by (have h9 := plM_of e13); rw [rv_of e2]; omega)).1 (by (have h9 := plM_of e13); rw [rv_of e2]; omega)).2]; show 0 ≤ v5_1.toInt; omega), i32_ext (by omega), u23.1.trans (congrArg (fun t => some (Value.int t)) (show z22 = y1 + 1 from i32_ext (by have e1 : Int32.toInt (y1 + 1) = Int32.toInt y1 + 1 := i32_addE (show Int32.toInt 1 = 1 from rfl) (by omega) (by omega); omega))), ⟨v5_1, (by (have h9 := ((u23.2 _ _ (Or.inl (by decide))).trans u21.1)); rw [(show t5_o = y1 from i32_ext (by omega))] at h9; exact h9), (by rw [((inW_e w5_0 (by omega) (by omega) (by (have h9 := plM_of e13); rw [rv_of e2]; omega)).1 (by (have h9 := plM_of e13); rw [rv_of e2]; omega)).2])⟩, (fun l hl => lnM_e (w5_1 (by omega) l (by rw [((inW_e w5_0 (by omega) (by omega) (by (have h9 := plM_of e13); rw [rv_of e2]; omega)).1 (by (have h9 := plM_of e13); rw [rv_of e2]; omega)).2] at hl; exact hl)) ⟨((u23.2 _ _ (Or.inl (by decide))).trans ((u21.2 _ _ (Or.inl (by decide))).trans (u19.2 _ _ (Or.inl (by decide))))), ((u23.2 _ _ (Or.inl (by decide))).trans ((u21.2 _ _ (Or.inl (by decide))).trans (u19.2 _ _ (Or.inl (by decide))))), ((u23.2 _ _ (Or.inl (by decide))).trans ((u21.2 _ _ (Or.inl (by decide))).trans (u19.2 _ _ (Or.inl (by decide)))))⟩ (fun m _ _ => ⟨((u23.2 _ _ (Or.inl (by decide))).trans ((u21.2 _ _ (Or.inl (by decide))).trans (u19.2 _ _ (Or.inl (by decide))))), ((u23.2 _ _ (Or.inl (by decide))).trans ((u21.2 _ _ (Or.inl (by decide))).trans (u19.2 _ _ (Or.inl (by decide))))), ((u23.2 _ _ (Or.inl (by decide))).trans ((u21.2 _ _ (Or.inl (by decide))).trans (u19.2 _ _ (Or.inl (by decide)))))⟩))⟩⟩⟩
          · refine te_iload_n (p2 := 32) rfl rfl rfl ?_
            refine tz_eq (p2 := 35) rfl rfl rfl (fun c25 => ?_) (fun c25 => ?_)
            · refine te_aload_n (p2 := 47) rfl rfl rfl ?_
              refine te_bipush (p2 := 49) (x := 8) rfl rfl (by decide) ?_
              refine te_aload_n (p2 := 50) rfl rfl rfl ?_
              refine tg_e (p2 := 53) (i := 148) (v := .int t5_o) rfl rfl I5 rfl rfl v5_o ?_
              refine ar_mul (p2 := 54) rfl rfl (show Int32.toInt 8 = 8 from rfl) rfl (by omega) (by omega) (fun z26 e26 f26 => ?_)
              refine te_iload_n (p2 := 55) rfl rfl rfl ?_
              refine ar_add (p2 := 56) rfl rfl rfl rfl (by omega) (by omega) (fun z27 e27 f27 => ?_)
              refine tc_V (p2 := 59) (i := 148) rfl rfl rfl rfl I5 rfl rfl rfl (c_X12_line (line := z27) I5 (by omega) (by omega) (tbl_fr pr0 f5 (fun _ => rfl) (fun _ => rfl))) (by decide) (fun v28 h28 hq28 => ?_)
              obtain ⟨I28, g28, y28, w28, Qa28, Qb28, Qc28, L28, K28⟩ := hq28
              subst w28
              rw [BM_e w5_3 (fun _ => f5 _ _ rfl)] at Qa28 Qb28 Qc28
              rw [show rv h5 148 45 = rv h 148 45 from (by unfold rv; rw [w5_3])] at Qc28
              have f28 := fr_tr (F1 := F_X12_line) (F := F_X12_order) f5 g28 (by decide)
              have yr28 : 0 ≤ y28.toInt ∧ y28.toInt ≤ 1 := by (rcases Qa28 with ⟨q, _⟩ | ⟨q, _⟩ <;> rw [q] <;> decide)
              obtain ⟨ya28, yb28⟩ := yr28
              show EvP _ _ _ (59, [(0, .ref 164), (1, .int v5_1), (2, .int v5_2)], [.int y28], h28) _
              refine te_istore_n (p2 := 60) (lv2 := [(2, .int y28), (0, .ref 164), (1, .int v5_1)]) rfl rfl (by decide) rfl ?_
              refine ar_inc (p2 := 63) (x := v5_1) rfl rfl (by decide) rfl (by decide) rfl (by omega) (by omega) (fun z29 e29 f29 => ?_)
              show EvP _ _ _ (63, [(1, .int z29), (2, .int y28), (0, .ref 164)], [], h28) _
              refine te_goto rfl ?_
              refine te_lv [(0, .ref 164), (1, .int z29), (2, .int y28)] rfl rfl ⟨rfl, rfl, rfl, trivial⟩ ?_
              exact ih5 z29 y28 t5_o t5_tp h28 I28 f28 (by omega) (by omega) (by omega) (by omega) ((g28 _ _ (by decide)).trans v5_o) ((g28 _ _ (by decide)).trans v5_tp) (by omega) (by omega) (by omega) (by omega) (by omega) (by omega) (by omega) (inW_s w5_0 (by omega) (by omega) (by omega) (by (have h9 := trivial); rw [rv_of e2]; omega) (show z29.toInt = v5_1.toInt + 1 by omega) Qa28 Qb28 (fun q => (Qc28 q).2)) (fun hg l hl => by (have yq1 : y28 = 1 := i32_ext hg); (by_cases hc : l = v5_1.toInt.toNat); (· (have h9 := (Qc28 yq1).1); rw [show z27.toInt.toNat = 8 * y1.toInt.toNat + l by omega] at h9; (have h8 := w5_0); rw [hc]; (rcases h8 with ⟨a, _⟩ | ⟨_, a, _⟩); (· omega); (· rw [hc, a] at h9; exact h9)); (· exact lnM_e (w5_1 (by omega) l (by omega)) (L28 _ (by omega)) (fun m m0 m1 => K28 m (by omega)))) ⟨fun m hm => (by (have a := L28 m (by omega)); (have b := w5_2.1 m hm); exact ⟨a.1.trans b.1, a.2.1.trans b.2.1, a.2.2.trans b.2.2⟩), fun m hm => (by (have a := K28 m (by omega)); (have b := w5_2.2.1 m hm); exact ⟨a.1.trans b.1, a.2.1.trans b.2.1, a.2.2.trans b.2.2⟩), fun m => (g28 _ _ rfl).trans (w5_2.2.2 m)⟩ ((g28 _ _ rfl).trans w5_3) (by omega)
            · refine te_aload_n (p2 := 36) rfl rfl rfl ?_
              refine tg_i (p2 := 39) (i := 148) rfl rfl I5 rfl rfl rfl (fun y30 a30 b30 e30 => ?_)
              refine te_aload_n (p2 := 40) rfl rfl rfl ?_
              refine tg_e (p2 := 43) (i := 148) (v := .int t5_tp) rfl rfl I5 rfl rfl v5_tp ?_
              refine tb_ge (p2 := 46) rfl rfl rfl rfl (fun c31 => ?_) (fun c31 => ?_)
              · refine te_iload_n (p2 := 67) rfl rfl rfl ?_
                refine tz_eq (p2 := 70) rfl rfl rfl (fun c32 => absurd c32 (by omega)) (fun c32 => ?_)
                refine te_aload_n (p2 := 71) rfl rfl rfl ?_
                refine tg_e (p2 := 74) (i := 148) (v := .int y30) rfl rfl I5 rfl rfl e30 ?_
                refine te_aload_n (p2 := 75) rfl rfl rfl ?_
                refine tg_e (p2 := 78) (i := 148) (v := .int t5_tp) rfl rfl I5 rfl rfl v5_tp ?_
                refine tb_ne (p2 := 81) rfl rfl rfl rfl (fun c33 => ?_) (fun c33 => ?_)
                · refine te_iconst (p2 := 86) (x := 0) rfl rfl (by decide) ?_
                  refine te_istore_n (p2 := 87) (lv2 := [(2, .int 0), (0, .ref 164), (1, .int v5_1)]) rfl rfl (by decide) rfl ?_
                  refine te_aload_n (p2 := 88) rfl rfl rfl ?_
                  refine te_iconst (p2 := 89) (x := 0) rfl rfl (by decide) ?_
                  refine tp_i (p2 := 92) (i := 148) rfl rfl I5 rfl rfl (by decide) rfl rfl rfl (by decide) (by decide) (by decide) rfl (fun h34 I34 u34 => ?_)
                  have f34 := fr_st (F := F_X12_order) 0 f5 u34 rfl (by decide) (by decide)
                  refine te_iload_n (p2 := 93) rfl rfl rfl ?_
                  refine tz_ne (p2 := 96) rfl rfl (show Int32.toInt 0 = 0 from rfl) (fun c35 => absurd c35 (by omega)) (fun c35 => ?_)
                  refine te_bipush (p2 := 98) (x := (-100)) rfl rfl (by decide) ?_
                  refine te_aload_n (p2 := 99) rfl rfl rfl ?_
                  refine tg_e (p2 := 102) (i := 148) (v := .int y30) rfl rfl I34 rfl rfl ((u34.2 _ _ (Or.inr (by decide))).trans e30) ?_
                  refine ar_sub (p2 := 103) rfl rfl (show Int32.toInt (-100) = (-100) from rfl) rfl (by omega) (by omega) (fun z36 e36 f36 => ?_)
                  exact te_iret rfl rfl ⟨I34, f34, _, rfl, y1, e1, by omega, by omega, Or.inr ⟨by omega, u34.1, (by exact ⟨fun m hm => ⟨((u34.2 _ _ (Or.inl (by decide))).trans (w5_2.1 m hm).1), ((u34.2 _ _ (Or.inl (by decide))).trans (w5_2.1 m hm).2.1), ((u34.2 _ _ (Or.inl (by decide))).trans (w5_2.1 m hm).2.2)⟩, fun m hm => ⟨((u34.2 _ _ (Or.inl (by decide))).trans (w5_2.2.1 m hm).1), ((u34.2 _ _ (Or.inl (by decide))).trans (w5_2.2.1 m hm).2.1), ((u34.2 _ _ (Or.inl (by decide))).trans (w5_2.2.1 m hm).2.2)⟩⟩), (fun m hm => ((u34.2 _ _ (Or.inl (by decide))).trans (w5_2.2.2 m))), Or.inr ⟨(by rw [((inW_e w5_0 (by omega) (by omega) (by (have h9 := plM_of e30); rw [rv_of e2]; omega)).2 (by (have h9 := plM_of e30); rw [rv_of e2]; omega))]; show (-1 : Int) < 0; decide), (by (have h9 := plM_of e30); rw [((inW_e w5_0 (by omega) (by omega) (by (have h9 := plM_of e30); rw [rv_of e2]; omega)).2 (by (have h9 := plM_of e30); rw [rv_of e2]; omega))]; show _ = -100 - plM h5; omega), ((u34.2 _ _ (Or.inr (by decide))).trans v5_o).trans (congrArg (fun t => some (Value.int t)) (i32_ext (by omega)))⟩⟩⟩
                · refine te_iconst (p2 := 82) (x := 1) rfl rfl (by decide) ?_
                  refine te_goto rfl ?_
                  refine te_istore_n (p2 := 87) (lv2 := [(2, .int 1), (0, .ref 164), (1, .int v5_1)]) rfl rfl (by decide) rfl ?_
                  refine te_aload_n (p2 := 88) rfl rfl rfl ?_
                  refine te_iconst (p2 := 89) (x := 0) rfl rfl (by decide) ?_
                  refine tp_i (p2 := 92) (i := 148) rfl rfl I5 rfl rfl (by decide) rfl rfl rfl (by decide) (by decide) (by decide) rfl (fun h37 I37 u37 => ?_)
                  have f37 := fr_st (F := F_X12_order) 0 f5 u37 rfl (by decide) (by decide)
                  refine te_iload_n (p2 := 93) rfl rfl rfl ?_
                  refine tz_ne (p2 := 96) rfl rfl (show Int32.toInt 1 = 1 from rfl) (fun c38 => ?_) (fun c38 => absurd c38 (by omega))
                  refine te_aload_n (p2 := 105) rfl rfl rfl ?_
                  refine tg_r (p2 := 108) (i := 148) (r := 201) rfl rfl I37 rfl rfl rfl ?_
                  refine te_aload_n (p2 := 109) rfl rfl rfl ?_
                  refine tg_e (p2 := 112) (i := 148) (v := .int t5_o) rfl rfl I37 rfl rfl ((u37.2 _ _ (Or.inr (by decide))).trans v5_o) ?_
                  refine te_iload_n (p2 := 113) rfl rfl rfl ?_
                  refine ts_i (p2 := 114) (i := 185) (n := 6) rfl rfl I37 rfl rfl rfl rfl (by omega) (by omega) (by omega) (by omega) (by omega) rfl (fun h39 I39 u39 => ?_)
                  have f39 := fr_st (F := F_X12_order) 2 f37 u39 rfl (by omega) (by omega)
                  refine te_aload_n (p2 := 115) rfl rfl rfl ?_
                  refine te_dup (p2 := 116) rfl rfl rfl ?_
                  refine tg_e (p2 := 119) (i := 148) (v := .int t5_o) rfl rfl I39 rfl rfl ((u39.2 _ _ (Or.inl (by decide))).trans ((u37.2 _ _ (Or.inr (by decide))).trans v5_o)) ?_
                  refine te_iconst (p2 := 120) (x := 1) rfl rfl (by decide) ?_
                  refine ar_add (p2 := 121) rfl rfl rfl (show Int32.toInt 1 = 1 from rfl) (by omega) (by omega) (fun z40 e40 f40 => ?_)
                  refine tp_i (p2 := 124) (i := 148) rfl rfl I39 rfl rfl (by decide) rfl rfl rfl (by omega) (by omega) (by omega) rfl (fun h41 I41 u41 => ?_)
                  have f41 := fr_st (F := F_X12_order) 0 f39 u41 rfl (by decide) (by decide)
                  refine te_aload_n (p2 := 125) rfl rfl rfl ?_
                  refine tg_e (p2 := 128) (i := 148) (v := .int z40) rfl rfl I41 rfl rfl u41.1 ?_
                  refine te_iconst (p2 := 129) (x := 1) rfl rfl (by decide) ?_
                  refine ar_sub (p2 := 130) rfl rfl rfl (show Int32.toInt 1 = 1 from rfl) (by omega) (by omega) (fun z42 e42 f42 => ?_)
                  exact te_iret rfl rfl ⟨I41, f41, _, rfl, y1, e1, by omega, by omega, Or.inr ⟨by omega, ((u41.2 _ _ (Or.inr (by decide))).trans ((u39.2 _ _ (Or.inl (by decide))).trans u37.1)), (by exact ⟨fun m hm => ⟨((u41.2 _ _ (Or.inl (by decide))).trans ((u39.2 _ _ (Or.inl (by decide))).trans ((u37.2 _ _ (Or.inl (by decide))).trans (w5_2.1 m hm).1))), ((u41.2 _ _ (Or.inl (by decide))).trans ((u39.2 _ _ (Or.inl (by decide))).trans ((u37.2 _ _ (Or.inl (by decide))).trans (w5_2.1 m hm).2.1))), ((u41.2 _ _ (Or.inl (by decide))).trans ((u39.2 _ _ (Or.inl (by decide))).trans ((u37.2 _ _ (Or.inl (by decide))).trans (w5_2.1 m hm).2.2)))⟩, fun m hm => ⟨((u41.2 _ _ (Or.inl (by decide))).trans ((u39.2 _ _ (Or.inl (by decide))).trans ((u37.2 _ _ (Or.inl (by decide))).trans (w5_2.2.1 m hm).1))), ((u41.2 _ _ (Or.inl (by decide))).trans ((u39.2 _ _ (Or.inl (by decide))).trans ((u37.2 _ _ (Or.inl (by decide))).trans (w5_2.2.1 m hm).2.1))), ((u41.2 _ _ (Or.inl (by decide))).trans ((u39.2 _ _ (Or.inl (by decide))).trans ((u37.2 _ _ (Or.inl (by decide))).trans (w5_2.2.1 m hm).2.2)))⟩⟩), (fun m hm => ((u41.2 _ _ (Or.inl (by decide))).trans ((u39.2 _ _ (Or.inr (by omega))).trans ((u37.2 _ _ (Or.inl (by decide))).trans (w5_2.2.2 m))))), Or.inl ⟨(by rw [((inW_e w5_0 (by omega) (by omega) (by (have h9 := plM_of e30); rw [rv_of e2]; omega)).1 (by (have h9 := plM_of e30); rw [rv_of e2]; omega)).2]; show 0 ≤ v5_1.toInt; omega), i32_ext (by omega), u41.1.trans (congrArg (fun t => some (Value.int t)) (show z40 = y1 + 1 from i32_ext (by have e1 : Int32.toInt (y1 + 1) = Int32.toInt y1 + 1 := i32_addE (show Int32.toInt 1 = 1 from rfl) (by omega) (by omega); omega))), ⟨v5_1, (by (have h9 := ((u41.2 _ _ (Or.inl (by decide))).trans u39.1)); rw [(show t5_o = y1 from i32_ext (by omega))] at h9; exact h9), (by rw [((inW_e w5_0 (by omega) (by omega) (by (have h9 := plM_of e30); rw [rv_of e2]; omega)).1 (by (have h9 := plM_of e30); rw [rv_of e2]; omega)).2])⟩, (fun l hl => lnM_e (w5_1 (by omega) l (by rw [((inW_e w5_0 (by omega) (by omega) (by (have h9 := plM_of e30); rw [rv_of e2]; omega)).1 (by (have h9 := plM_of e30); rw [rv_of e2]; omega)).2] at hl; exact hl)) ⟨((u41.2 _ _ (Or.inl (by decide))).trans ((u39.2 _ _ (Or.inl (by decide))).trans (u37.2 _ _ (Or.inl (by decide))))), ((u41.2 _ _ (Or.inl (by decide))).trans ((u39.2 _ _ (Or.inl (by decide))).trans (u37.2 _ _ (Or.inl (by decide))))), ((u41.2 _ _ (Or.inl (by decide))).trans ((u39.2 _ _ (Or.inl (by decide))).trans (u37.2 _ _ (Or.inl (by decide)))))⟩ (fun m _ _ => ⟨((u41.2 _ _ (Or.inl (by decide))).trans ((u39.2 _ _ (Or.inl (by decide))).trans (u37.2 _ _ (Or.inl (by decide))))), ((u41.2 _ _ (Or.inl (by decide))).trans ((u39.2 _ _ (Or.inl (by decide))).trans (u37.2 _ _ (Or.inl (by decide))))), ((u41.2 _ _ (Or.inl (by decide))).trans ((u39.2 _ _ (Or.inl (by decide))).trans (u37.2 _ _ (Or.inl (by decide)))))⟩))⟩⟩⟩
              · refine te_aload_n (p2 := 47) rfl rfl rfl ?_
                refine te_bipush (p2 := 49) (x := 8) rfl rfl (by decide) ?_
                refine te_aload_n (p2 := 50) rfl rfl rfl ?_
                refine tg_e (p2 := 53) (i := 148) (v := .int t5_o) rfl rfl I5 rfl rfl v5_o ?_
                refine ar_mul (p2 := 54) rfl rfl (show Int32.toInt 8 = 8 from rfl) rfl (by omega) (by omega) (fun z43 e43 f43 => ?_)
                refine te_iload_n (p2 := 55) rfl rfl rfl ?_
                refine ar_add (p2 := 56) rfl rfl rfl rfl (by omega) (by omega) (fun z44 e44 f44 => ?_)
                refine tc_V (p2 := 59) (i := 148) rfl rfl rfl rfl I5 rfl rfl rfl (c_X12_line (line := z44) I5 (by omega) (by omega) (tbl_fr pr0 f5 (fun _ => rfl) (fun _ => rfl))) (by decide) (fun v45 h45 hq45 => ?_)
                obtain ⟨I45, g45, y45, w45, Qa45, Qb45, Qc45, L45, K45⟩ := hq45
                subst w45
                rw [BM_e w5_3 (fun _ => f5 _ _ rfl)] at Qa45 Qb45 Qc45
                rw [show rv h5 148 45 = rv h 148 45 from (by unfold rv; rw [w5_3])] at Qc45
                have f45 := fr_tr (F1 := F_X12_line) (F := F_X12_order) f5 g45 (by decide)
                have yr45 : 0 ≤ y45.toInt ∧ y45.toInt ≤ 1 := by (rcases Qa45 with ⟨q, _⟩ | ⟨q, _⟩ <;> rw [q] <;> decide)
                obtain ⟨ya45, yb45⟩ := yr45
                show EvP _ _ _ (59, [(0, .ref 164), (1, .int v5_1), (2, .int v5_2)], [.int y45], h45) _
                refine te_istore_n (p2 := 60) (lv2 := [(2, .int y45), (0, .ref 164), (1, .int v5_1)]) rfl rfl (by decide) rfl ?_
                refine ar_inc (p2 := 63) (x := v5_1) rfl rfl (by decide) rfl (by decide) rfl (by omega) (by omega) (fun z46 e46 f46 => ?_)
                show EvP _ _ _ (63, [(1, .int z46), (2, .int y45), (0, .ref 164)], [], h45) _
                refine te_goto rfl ?_
                refine te_lv [(0, .ref 164), (1, .int z46), (2, .int y45)] rfl rfl ⟨rfl, rfl, rfl, trivial⟩ ?_
                exact ih5 z46 y45 t5_o t5_tp h45 I45 f45 (by omega) (by omega) (by omega) (by omega) ((g45 _ _ (by decide)).trans v5_o) ((g45 _ _ (by decide)).trans v5_tp) (by omega) (by omega) (by omega) (by omega) (by omega) (by omega) (by omega) (inW_s w5_0 (by omega) (by omega) (by omega) (by (have h9 := (plM_of e30)); rw [rv_of e2]; omega) (show z46.toInt = v5_1.toInt + 1 by omega) Qa45 Qb45 (fun q => (Qc45 q).2)) (fun hg l hl => by (have yq1 : y45 = 1 := i32_ext hg); (by_cases hc : l = v5_1.toInt.toNat); (· (have h9 := (Qc45 yq1).1); rw [show z44.toInt.toNat = 8 * y1.toInt.toNat + l by omega] at h9; (have h8 := w5_0); rw [hc]; (rcases h8 with ⟨a, _⟩ | ⟨_, a, _⟩); (· omega); (· rw [hc, a] at h9; exact h9)); (· exact lnM_e (w5_1 (by omega) l (by omega)) (L45 _ (by omega)) (fun m m0 m1 => K45 m (by omega)))) ⟨fun m hm => (by (have a := L45 m (by omega)); (have b := w5_2.1 m hm); exact ⟨a.1.trans b.1, a.2.1.trans b.2.1, a.2.2.trans b.2.2⟩), fun m hm => (by (have a := K45 m (by omega)); (have b := w5_2.2.1 m hm); exact ⟨a.1.trans b.1, a.2.1.trans b.2.1, a.2.2.trans b.2.2⟩), fun m => (g45 _ _ rfl).trans (w5_2.2.2 m)⟩ ((g45 _ _ rfl).trans w5_3) (by omega)
    refine te_lv [(0, .ref 164), (1, .int 0), (2, .int 1)] rfl rfl ⟨rfl, rfl, rfl, trivial⟩ ?_
    exact lp5 9 0 1 y1 y2 h4 I4 f4 (by decide) (by decide) (by decide) (by decide) ((u4.2 _ _ (Or.inr (by decide))).trans e1) ((u4.2 _ _ (Or.inr (by decide))).trans e2) (by omega) (by omega) (by omega) (by omega) (by have cc0 := (show Int32.toInt 0 = 0 from rfl); have cc1 := (show Int32.toInt 1 = 1 from rfl); omega) (by have cc0 := (show Int32.toInt 0 = 0 from rfl); have cc1 := (show Int32.toInt 1 = 1 from rfl); omega) (by have cc0 := (show Int32.toInt 0 = 0 from rfl); have cc1 := (show Int32.toInt 1 = 1 from rfl); omega) (show inW (BM h) (rv h 148 45).toInt (Int32.toInt 0) (plM h4) 1 from Or.inr ⟨rfl, (plM_of u4.1), (by rw [plM_of u4.1, rv_of e2]; show (0 : Int) ≤ _; omega), Or.inr ⟨fun q => absurd q.1 (by decide), (by rw [plM_of u4.1]; rfl)⟩⟩) (fun _ l hl => absurd hl (by (have := (show Int32.toInt 0 = 0 from rfl)); omega)) ⟨fun m _ => ⟨(u4.2 _ _ (Or.inl (by decide))), (u4.2 _ _ (Or.inl (by decide))), (u4.2 _ _ (Or.inl (by decide)))⟩, fun m _ => ⟨(u4.2 _ _ (Or.inl (by decide))), (u4.2 _ _ (Or.inl (by decide))), (u4.2 _ _ (Or.inl (by decide)))⟩, fun m => (u4.2 _ _ (Or.inl (by decide)))⟩ (u4.2 _ _ (Or.inr (by decide))) (by have cc0 := (show Int32.toInt 0 = 0 from rfl); have cc1 := (show Int32.toInt 1 = 1 from rfl); omega)
  · refine te_bipush (p2 := 11) (x := (-4)) rfl rfl (by decide) ?_
    exact te_iret rfl rfl ⟨hI, f0, _, rfl, y1, e1, by omega, by omega, Or.inl ⟨by omega, rfl, rfl⟩⟩
theorem c_X12_order {h : im_H} (hI : tI h) : CaP 5 140 [.ref 164] h (fun v h2 => tI h2 ∧ fr F_X12_order h h2 ∧ ∃ y : Int32, v = some (.int y) ∧ Q2_order y h h2) := by
  by_cases ht : tbl h
  · exact cap_imp (c0_X12_order hI ht) (fun v h2 ⟨a, b, y, c, d⟩ => ⟨a, b, y, c, fun _ => d⟩)
  · exact cap_imp (t_X12_order hI) (fun v h2 ⟨a, b, y, c, _⟩ => ⟨a, b, y, c, fun q => absurd q ht⟩)
theorem into_no {o p q d k : Nat} (ho : o = 98 + 7 * p) (hp : p < 6) (hq : q < 6) (hd : d < 7) (hn : q ≠ p) : inF (F_X10_readInto o) (98 + 7 * q + d) k = false := by
  subst ho
  refine inF_no (fun x hx => ?_)
  simp only [F_X10_readInto, List.mem_cons, List.not_mem_nil, or_false] at hx
  rcases hx with rfl | rfl | rfl | rfl | rfl | rfl | rfl | rfl
  all_goals (show ¬ _ = _)
  all_goals (simp only []; omega)
abbrev Q1_order (y : Int32) (h h2 : im_H) : Prop := ∃ p : Int32, rd h 0 7 = some (.int p) ∧ 0 ≤ p.toInt ∧ p.toInt ≤ 6 ∧ ((p.toInt = 6 ∧ y = -4 ∧ h2 = h) ∨ (p.toInt ≠ 6 ∧ rd h2 65 1 = some (.int 0) ∧ (∀ q : Nat, q < 6 → q ≠ p.toInt.toNat → ∀ d : Nat, d < 7 → ∀ k : Nat, rd h2 (98 + 7 * q + d) k = rd h (98 + 7 * q + d) k) ∧ ((0 ≤ (orR (BX h) (rv h 65 1).toInt 8 0 0).1 ∧ y = p ∧ rd h2 0 7 = some (.int (p + 1)) ∧ (∃ z : Int32, rd h2 (98 + 7 * p.toInt.toNat) 0 = some (.int z) ∧ z.toInt = (orR (BX h) (rv h 65 1).toInt 8 0 0).1) ∧ (∀ l : Nat, (l : Int) < (orR (BX h) (rv h 65 1).toInt 8 0 0).1 → lnC h2 (98 + 7 * p.toInt.toNat) l (BX h) (lnS (BX h) l))) ∨ ((orR (BX h) (rv h 65 1).toInt 8 0 0).1 < 0 ∧ y.toInt = -100 - (orR (BX h) (rv h 65 1).toInt 8 0 0).2 ∧ rd h2 0 7 = some (.int p)))))
set_option maxRecDepth 20000 in
set_option maxHeartbeats 4000000 in
theorem c_X11_order  {h : im_H} (hI : tI h)  : CaP 7 73 [.ref 16] h (fun v h2 => tI h2 ∧ fr F_X11_order h h2 ∧ ∃ y : Int32, v = some (.int y) ∧ Q1_order y h h2) := by
  refine cap_of (d := 6) (M := mX11_order) rfl (Nat.le_of_ble_eq_true rfl) ?_
  show EvP im_K0 6 mX11_order (0, [(0, .ref 16)], [], h) _
  have f0 : fr F_X11_order h h := fr_rf
  refine te_aload_n (p2 := 1) rfl rfl rfl ?_
  obtain ⟨v1, e1, y1, w1, a1, b1, _⟩ := hI.2.1 0 7 (.inl (0, 6, 9999999999)) rfl
  subst w1
  refine tg_e (p2 := 4) (i := 0) (v := .int y1) rfl rfl hI rfl rfl e1 ?_
  refine te_bipush (p2 := 6) (x := 6) rfl rfl (by decide) ?_
  refine tb_lt (p2 := 9) rfl rfl rfl (show Int32.toInt 6 = 6 from rfl) (fun c2 => ?_) (fun c2 => ?_)
  · refine te_aload_n (p2 := 13) rfl rfl rfl ?_
    refine tg_r (p2 := 16) (i := 0) (r := 81) rfl rfl hI rfl rfl rfl ?_
    refine te_aload_n (p2 := 17) rfl rfl rfl ?_
    refine tg_r (p2 := 20) (i := 0) (r := 83) rfl rfl hI rfl rfl rfl ?_
    refine te_aload_n (p2 := 21) rfl rfl rfl ?_
    refine tg_e (p2 := 24) (i := 0) (v := .int y1) rfl rfl hI rfl rfl e1 ?_
    refine tl_f (p2 := 25) (i := 67) (n := 6) (c0 := 98) (sp := 7) rfl rfl hI rfl rfl (by decide) rq_67 (by omega) (by omega) (fun o3 w3 => ?_)
    have q3 : o3 = 98 ∨ o3 = 105 ∨ o3 = 112 ∨ o3 = 119 ∨ o3 = 126 ∨ o3 = 133 := by omega
    refine tc_V (p2 := 28) (i := 65) rfl rfl rfl rfl hI rfl rfl rfl (c_X10_readInto (o := o3) hI q3) (by decide) (fun v4 h4 hq4 => ?_)
    obtain ⟨I4, g4, y4, w4, Qa4, Qb4, Qc4⟩ := hq4
    subst w4
    have f4 := fr_tr (F1 := (F_X10_readInto o3)) (F := F_X11_order) f0 g4 (by rcases q3 with rfl | rfl | rfl | rfl | rfl | rfl <;> decide)
    rcases Qa4 with ⟨x4, c4⟩ | ⟨x4, c4⟩
    · subst x4
      show EvP _ _ _ (28, [(0, .ref 16)], [.int 1], h4) _
      refine te_istore_n (p2 := 29) (lv2 := [(1, .int 1), (0, .ref 16)]) rfl rfl (by decide) rfl ?_
      refine te_aload_n (p2 := 30) rfl rfl rfl ?_
      refine tg_r (p2 := 33) (i := 0) (r := 81) rfl rfl I4 rfl rfl rfl ?_
      refine te_iconst (p2 := 34) (x := 0) rfl rfl (by decide) ?_
      refine tp_i (p2 := 37) (i := 65) rfl rfl I4 rfl rfl (by decide) rfl rfl rfl (by decide) (by decide) (by decide) rfl (fun h5 I5 u5 => ?_)
      have f5 := fr_st (F := F_X11_order) 41 f4 u5 rfl (by decide) (by decide)
      refine te_iload_n (p2 := 38) rfl rfl rfl ?_
      refine tz_ne (p2 := 41) rfl rfl (show Int32.toInt 1 = 1 from rfl) (fun c6 => ?_) (fun c6 => absurd c6 (by omega))
      refine te_aload_n (p2 := 53) rfl rfl rfl ?_
      refine te_dup (p2 := 54) rfl rfl rfl ?_
      refine tg_e (p2 := 57) (i := 0) (v := .int y1) rfl rfl I5 rfl rfl ((u5.2 _ _ (Or.inl (by decide))).trans ((g4 _ _ (by rcases q3 with rfl | rfl | rfl | rfl | rfl | rfl <;> rfl)).trans e1)) ?_
      refine te_iconst (p2 := 58) (x := 1) rfl rfl (by decide) ?_
      refine ar_add (p2 := 59) rfl rfl rfl (show Int32.toInt 1 = 1 from rfl) (by omega) (by omega) (fun z7 e7 f7 => ?_)
      refine tp_i (p2 := 62) (i := 0) rfl rfl I5 rfl rfl (by decide) rfl rfl rfl (by omega) (by omega) (by omega) rfl (fun h8 I8 u8 => ?_)
      have f8 := fr_st (F := F_X11_order) 0 f5 u8 rfl (by decide) (by decide)
      refine te_aload_n (p2 := 63) rfl rfl rfl ?_
      refine tg_e (p2 := 66) (i := 0) (v := .int z7) rfl rfl I8 rfl rfl u8.1 ?_
      refine te_iconst (p2 := 67) (x := 1) rfl rfl (by decide) ?_
      refine ar_sub (p2 := 68) rfl rfl rfl (show Int32.toInt 1 = 1 from rfl) (by omega) (by omega) (fun z9 e9 f9 => ?_)
      exact te_iret rfl rfl ⟨I8, f8, _, rfl, y1, e1, by omega, by omega, Or.inr ⟨by omega, ((u8.2 _ _ (Or.inl (by decide))).trans u5.1), (fun q hq hn d hd k_ => ((u8.2 _ _ (Or.inl (by omega))).trans ((u5.2 _ _ (Or.inl (by omega))).trans (g4 _ _ (into_no (show o3 = 98 + 7 * y1.toInt.toNat by omega) (by omega) hq hd hn))))), Or.inl ⟨c4, i32_ext (by omega), u8.1.trans (congrArg (fun t => some (Value.int t)) (show z7 = y1 + 1 from i32_ext (by have e1 : Int32.toInt (y1 + 1) = Int32.toInt y1 + 1 := i32_addE (show Int32.toInt 1 = 1 from rfl) (by omega) (by omega); omega))), (by (obtain ⟨z, ez, hz, hl⟩ := Qc4 rfl); rw [← (show o3 = 98 + 7 * y1.toInt.toNat by omega)]; exact ⟨⟨z, ((u8.2 _ _ (Or.inl (by omega))).trans ((u5.2 _ _ (Or.inl (by omega))).trans ez)), hz⟩, fun l h9 => lnC_e (hl l h9) ⟨((u8.2 _ _ (Or.inl (by omega))).trans (u5.2 _ _ (Or.inl (by omega)))), ((u8.2 _ _ (Or.inl (by omega))).trans (u5.2 _ _ (Or.inl (by omega)))), ((u8.2 _ _ (Or.inl (by omega))).trans (u5.2 _ _ (Or.inl (by omega))))⟩ (fun m _ _ => ⟨((u8.2 _ _ (Or.inl (by omega))).trans (u5.2 _ _ (Or.inl (by omega)))), ((u8.2 _ _ (Or.inl (by omega))).trans (u5.2 _ _ (Or.inl (by omega)))), ((u8.2 _ _ (Or.inl (by omega))).trans (u5.2 _ _ (Or.inl (by omega))))⟩) lnR_3⟩)⟩⟩⟩
    · subst x4
      show EvP _ _ _ (28, [(0, .ref 16)], [.int 0], h4) _
      refine te_istore_n (p2 := 29) (lv2 := [(1, .int 0), (0, .ref 16)]) rfl rfl (by decide) rfl ?_
      refine te_aload_n (p2 := 30) rfl rfl rfl ?_
      refine tg_r (p2 := 33) (i := 0) (r := 81) rfl rfl I4 rfl rfl rfl ?_
      refine te_iconst (p2 := 34) (x := 0) rfl rfl (by decide) ?_
      refine tp_i (p2 := 37) (i := 65) rfl rfl I4 rfl rfl (by decide) rfl rfl rfl (by decide) (by decide) (by decide) rfl (fun h10 I10 u10 => ?_)
      have f10 := fr_st (F := F_X11_order) 41 f4 u10 rfl (by decide) (by decide)
      refine te_iload_n (p2 := 38) rfl rfl rfl ?_
      refine tz_ne (p2 := 41) rfl rfl (show Int32.toInt 0 = 0 from rfl) (fun c11 => absurd c11 (by omega)) (fun c11 => ?_)
      refine te_bipush (p2 := 43) (x := (-100)) rfl rfl (by decide) ?_
      refine te_aload_n (p2 := 44) rfl rfl rfl ?_
      refine tg_r (p2 := 47) (i := 0) (r := 81) rfl rfl I10 rfl rfl rfl ?_
      refine tg_i (p2 := 50) (i := 65) rfl rfl I10 rfl rfl rfl (fun y12 a12 b12 e12 => ?_)
      refine ar_sub (p2 := 51) rfl rfl (show Int32.toInt (-100) = (-100) from rfl) rfl (by omega) (by omega) (fun z13 e13 f13 => ?_)
      exact te_iret rfl rfl ⟨I10, f10, _, rfl, y1, e1, by omega, by omega, Or.inr ⟨by omega, u10.1, (fun q hq hn d hd k_ => ((u10.2 _ _ (Or.inl (by omega))).trans (g4 _ _ (into_no (show o3 = 98 + 7 * y1.toInt.toNat by omega) (by omega) hq hd hn)))), Or.inr ⟨c4, (by (have h9 := (show y12.toInt = (orR (BX h) (rv h 65 1).toInt 8 0 0).2 from (plX_of ((u10.2 _ _ (Or.inr (by decide))).symm.trans e12)).symm.trans Qb4)); omega), ((u10.2 _ _ (Or.inl (by decide))).trans ((g4 _ _ (by rcases q3 with rfl | rfl | rfl | rfl | rfl | rfl <;> rfl)).trans e1)).trans (congrArg (fun t => some (Value.int t)) (i32_ext (by omega)))⟩⟩⟩
  · refine te_bipush (p2 := 11) (x := (-4)) rfl rfl (by decide) ?_
    exact te_iret rfl rfl ⟨hI, f0, _, rfl, y1, e1, by omega, by omega, Or.inl ⟨by omega, rfl, rfl⟩⟩
def fdX (w : Int64) (j : Int) : Int32 := Int64.toInt32 (w >>> (Int32.toInt64 (Int32.ofInt (8 * j)) &&& 63)) &&& 255
def fdM (w : Int64) (j : Int) : Int32 := Int64.toInt32 ((w >>> (Int32.toInt64 (Int32.ofInt (8 * j)) &&& 63)) &&& 255)
theorem fd_eq (w : Int64) (j : Int) : fdX w j = fdM w j := by
  unfold fdX fdM
  rw [Int64.toInt32_and]
  rfl
def fdN (n : Int32) : Int32 := if 1 ≤ n.toInt ∧ n.toInt ≤ 8 then -4 else -2
abbrev Q1_feed (w : Int64) (n : Int32) (y : Int32) (h h2 : im_H) : Prop := ∃ s : Int32, rd h 65 1 = some (.int s) ∧ ((1 ≤ n.toInt ∧ n.toInt ≤ 8 ∧ s.toInt + n.toInt ≤ 160) → y.toInt = s.toInt + n.toInt ∧ ∃ t : Int32, rd h2 65 1 = some (.int t) ∧ t.toInt = s.toInt + n.toInt ∧ (∀ k : Nat, (s.toInt ≤ (k : Int) ∧ (k : Int) < s.toInt + (n.toInt - 1 - (-1)) → rd h2 66 k = some (.int (fdX w (n.toInt - 1 - ((k : Int) - s.toInt))))) ∧ (¬ (s.toInt ≤ (k : Int) ∧ (k : Int) < s.toInt + (n.toInt - 1 - (-1))) → rd h2 66 k = rd h 66 k))) ∧ (¬ (1 ≤ n.toInt ∧ n.toInt ≤ 8 ∧ s.toInt + n.toInt ≤ 160) → y = fdN n ∧ h2 = h)
set_option maxRecDepth 20000 in
set_option maxHeartbeats 4000000 in
theorem c_X11_feed {w : Int64} {n : Int32} {h : im_H} (hI : tI h)  : CaP 2 72 [.ref 16, .long w, .int n] h (fun v h2 => tI h2 ∧ fr F_X11_feed h h2 ∧ ∃ y : Int32, v = some (.int y) ∧ Q1_feed w n y h h2) := by
  refine cap_of (d := 1) (M := mX11_feed) rfl (Nat.le_of_ble_eq_true rfl) ?_
  show EvP im_K0 1 mX11_feed (0, [(0, .ref 16), (1, .long w), (3, .int n)], [], h) _
  have f0 : fr F_X11_feed h h := fr_rf
  refine te_iload_n (p2 := 1) rfl rfl rfl ?_
  refine te_iconst (p2 := 2) (x := 1) rfl rfl (by decide) ?_
  refine te_bipush (p2 := 4) (x := 8) rfl rfl (by decide) ?_
  refine cS_pI (p2 := 7) rfl rfl rfl rfl (t_X11_between (n := n) (a := 1) (b := 8) hI ) (by decide) (fun y1 r1 => ?_)
  rcases r1 with ⟨w1, c1⟩ | ⟨w1, c1⟩
  · subst w1
    have cc1_1 := (show Int32.toInt 1 = 1 from rfl)
    have cc1_2 := (show Int32.toInt 8 = 8 from rfl)
    refine tz_ne (p2 := 10) rfl rfl (show Int32.toInt 1 = 1 from rfl) (fun c2 => ?_) (fun c2 => absurd c2 (by omega))
    refine te_aload_n (p2 := 14) rfl rfl rfl ?_
    refine tg_r (p2 := 17) (i := 0) (r := 81) rfl rfl hI rfl rfl rfl ?_
    refine tg_i (p2 := 20) (i := 65) rfl rfl hI rfl rfl rfl (fun y3 a3 b3 e3 => ?_)
    refine te_iload_n (p2 := 21) rfl rfl rfl ?_
    refine ar_add (p2 := 22) rfl rfl rfl rfl (by omega) (by omega) (fun z4 e4 f4 => ?_)
    refine te_sipush (p2 := 25) (x := 160) rfl rfl (by decide) ?_
    refine tb_le (p2 := 28) rfl rfl rfl (show Int32.toInt 160 = 160 from rfl) (fun c5 => ?_) (fun c5 => ?_)
    · refine te_iload_n (p2 := 32) rfl rfl rfl ?_
      refine te_iconst (p2 := 33) (x := 1) rfl rfl (by decide) ?_
      refine ar_sub (p2 := 34) rfl rfl rfl (show Int32.toInt 1 = 1 from rfl) (by omega) (by omega) (fun z6 e6 f6 => ?_)
      refine te_istore (p2 := 36) (lv2 := [(4, .int z6), (0, .ref 16), (1, .long w), (3, .int n)]) rfl rfl (by decide) rfl ?_
      have lp7 : ∀ (n7 : Nat) (v7_4 t7_t : Int32) (h7 : im_H), tI h7 → fr F_X11_feed h h7 → (-1) ≤ v7_4.toInt → v7_4.toInt ≤ 7 → rd h7 65 1 = some (.int t7_t) → 0 ≤ t7_t.toInt → t7_t.toInt ≤ 160 → t7_t.toInt + v7_4.toInt + 1 ≤ 160 → t7_t.toInt = y3.toInt + (n.toInt - 1 - v7_4.toInt) → v7_4.toInt ≤ n.toInt - 1 → (∀ k : Nat, (y3.toInt ≤ (k : Int) ∧ (k : Int) < y3.toInt + (n.toInt - 1 - v7_4.toInt) → rd h7 66 k = some (.int (fdX w (n.toInt - 1 - ((k : Int) - y3.toInt))))) ∧ (¬ (y3.toInt ≤ (k : Int) ∧ (k : Int) < y3.toInt + (n.toInt - 1 - v7_4.toInt)) → rd h7 66 k = rd h 66 k)) → v7_4.toInt + 1 < (n7 : Int) → EvP im_K0 1 mX11_feed (36, [(0, .ref 16), (1, .long w), (3, .int n), (4, .int v7_4)], [], h7) (fun v h2 => tI h2 ∧ fr F_X11_feed h h2 ∧ ∃ y : Int32, v = some (.int y) ∧ Q1_feed w n y h h2) := by
        intro n7
        induction n7 with
        | zero => intro v7_4 t7_t h7 I7 f7 a7_4 b7_4 v7_t va7_t vb7_t l7_0 l7_1 l7_2 w7_0 m7; exfalso; omega
        | succ n7 ih7 =>
          intro v7_4 t7_t h7 I7 f7 a7_4 b7_4 v7_t va7_t vb7_t l7_0 l7_1 l7_2 w7_0 m7
          refine te_iload (p2 := 38) rfl rfl rfl ?_
          refine tz_lt (p2 := 41) rfl rfl rfl (fun c8 => ?_) (fun c8 => ?_)
          · refine te_aload_n (p2 := 88) rfl rfl rfl ?_
            refine tg_r (p2 := 91) (i := 0) (r := 81) rfl rfl I7 rfl rfl rfl ?_
            refine tg_e (p2 := 94) (i := 65) (v := .int t7_t) rfl rfl I7 rfl rfl v7_t ?_
            exact te_iret rfl rfl ⟨I7, f7, _, rfl, y3, e3, (fun ok => ⟨by omega, t7_t, v7_t, by omega, (fun k => by (have hw := w7_0 k); exact ⟨fun h9 => hw.1 (by omega), fun h9 => hw.2 (by omega)⟩)⟩), (fun nk => absurd (show _ ∧ _ ∧ _ from ⟨by omega, by omega, by omega⟩) nk)⟩
          · refine te_aload_n (p2 := 42) rfl rfl rfl ?_
            refine tg_r (p2 := 45) (i := 0) (r := 81) rfl rfl I7 rfl rfl rfl ?_
            refine tg_r (p2 := 48) (i := 65) (r := 82) rfl rfl I7 rfl rfl rfl ?_
            refine te_aload_n (p2 := 49) rfl rfl rfl ?_
            refine tg_r (p2 := 52) (i := 0) (r := 81) rfl rfl I7 rfl rfl rfl ?_
            refine tg_e (p2 := 55) (i := 65) (v := .int t7_t) rfl rfl I7 rfl rfl v7_t ?_
            refine te_lload_n (p2 := 56) rfl rfl rfl ?_
            refine te_bipush (p2 := 58) (x := 8) rfl rfl (by decide) ?_
            refine te_iload (p2 := 60) rfl rfl rfl ?_
            refine ar_mul (p2 := 61) rfl rfl (show Int32.toInt 8 = 8 from rfl) rfl (by omega) (by omega) (fun z9 e9 f9 => ?_)
            refine te_lshr (p2 := 62) (z := (w >>> (Int32.toInt64 z9 &&& 63))) rfl rfl rfl ?_
            obtain ⟨z10, e10⟩ : ∃ z, (Int64.toInt32 (w >>> (Int32.toInt64 z9 &&& 63))) = z := ⟨_, rfl⟩
            refine te_l2i (p2 := 63) rfl rfl e10 ?_
            refine te_sipush (p2 := 66) (x := 255) rfl rfl (by decide) ?_
            refine au_and (p2 := 67) rfl rfl (fun z11 e11 => ?_)
            refine ts_i (p2 := 68) (i := 66) (n := 160) rfl rfl I7 rfl rfl rfl rfl (by omega) (by omega) (i32_lo _) (i32_hi _) (i32_ho _) rfl (fun h12 I12 u12 => ?_)
            have f12 := fr_st (F := F_X11_feed) 1 f7 u12 rfl (by omega) (by omega)
            refine te_aload_n (p2 := 69) rfl rfl rfl ?_
            refine tg_r (p2 := 72) (i := 0) (r := 81) rfl rfl I12 rfl rfl rfl ?_
            refine te_dup (p2 := 73) rfl rfl rfl ?_
            refine tg_e (p2 := 76) (i := 65) (v := .int t7_t) rfl rfl I12 rfl rfl ((u12.2 _ _ (Or.inl (by decide))).trans v7_t) ?_
            refine te_iconst (p2 := 77) (x := 1) rfl rfl (by decide) ?_
            refine ar_add (p2 := 78) rfl rfl rfl (show Int32.toInt 1 = 1 from rfl) (by omega) (by omega) (fun z13 e13 f13 => ?_)
            refine tp_i (p2 := 81) (i := 65) rfl rfl I12 rfl rfl (by decide) rfl rfl rfl (by omega) (by omega) (by omega) rfl (fun h14 I14 u14 => ?_)
            have f14 := fr_st (F := F_X11_feed) 0 f12 u14 rfl (by decide) (by decide)
            refine ar_inc (p2 := 84) (x := v7_4) rfl rfl (by decide) rfl (by decide) rfl (by omega) (by omega) (fun z15 e15 f15 => ?_)
            show EvP _ _ _ (84, [(4, .int z15), (0, .ref 16), (1, .long w), (3, .int n)], [], h14) _
            refine te_goto rfl ?_
            refine te_lv [(0, .ref 16), (1, .long w), (3, .int n), (4, .int z15)] rfl rfl ⟨rfl, rfl, rfl, rfl, trivial⟩ ?_
            exact ih7 z15 z13 h14 I14 f14 (by omega) (by omega) u14.1 (by omega) (by omega) (by omega) (by omega) (by omega) (fun k => by (by_cases hc : k = t7_t.toInt.toNat); (· refine ⟨fun _ => ?_, fun h9 => absurd (by omega) h9⟩; rw [hc, show n.toInt - 1 - ((t7_t.toInt.toNat : Int) - y3.toInt) = v7_4.toInt by omega, ← (show z11 = fdX w v7_4.toInt from (by unfold fdX; rw [show 8 * v7_4.toInt = z9.toInt by omega, Int32.ofInt_toInt, e10, e11]))]; exact (u14.2 _ _ (Or.inl (by decide))).trans u12.1); (· (have hw := w7_0 k); (have hk := (u14.2 _ _ (Or.inl (by decide))).trans (u12.2 66 k (Or.inr hc))); exact ⟨fun h9 => hk.trans (hw.1 (by omega)), fun h9 => hk.trans (hw.2 (by omega))⟩)) (by omega)
      refine te_lv [(0, .ref 16), (1, .long w), (3, .int n), (4, .int z6)] rfl rfl ⟨rfl, rfl, rfl, rfl, trivial⟩ ?_
      exact lp7 9 z6 y3 h hI f0 (by omega) (by omega) e3 (by omega) (by omega) (by omega) (by omega) (by omega) (fun k => ⟨fun h9 => absurd h9 (by omega), fun _ => rfl⟩) (by omega)
    · refine te_bipush (p2 := 30) (x := (-4)) rfl rfl (by decide) ?_
      exact te_iret rfl rfl ⟨hI, f0, _, rfl, y3, e3, (fun ok => absurd ok (by omega)), (fun nk => ⟨(by unfold fdN; (repeat' split) <;> first | (exfalso; omega) | rfl), rfl⟩)⟩
  · subst w1
    have cc1_1 := (show Int32.toInt 1 = 1 from rfl)
    have cc1_2 := (show Int32.toInt 8 = 8 from rfl)
    refine tz_ne (p2 := 10) rfl rfl (show Int32.toInt 0 = 0 from rfl) (fun c16 => absurd c16 (by omega)) (fun c16 => ?_)
    refine te_bipush (p2 := 12) (x := (-2)) rfl rfl (by decide) ?_
    obtain ⟨v17, e17, y17, w17, a17, b17, _⟩ := hI.2.1 65 1 (.inl (0, 160, 9999999999)) rfl
    subst w17
    exact te_iret rfl rfl ⟨hI, f0, _, rfl, y17, e17, (fun ok => absurd ok (by omega)), (fun nk => ⟨(by unfold fdN; (repeat' split) <;> first | (exfalso; omega) | rfl), rfl⟩)⟩
abbrev Q2_feed (w : Int64) (n : Int32) (y : Int32) (h h2 : im_H) : Prop := ∃ s : Int32, rd h 148 45 = some (.int s) ∧ ((1 ≤ n.toInt ∧ n.toInt ≤ 8 ∧ s.toInt + n.toInt ≤ 160) → y.toInt = s.toInt + n.toInt ∧ ∃ t : Int32, rd h2 148 45 = some (.int t) ∧ t.toInt = s.toInt + n.toInt ∧ (∀ k : Nat, (s.toInt ≤ (k : Int) ∧ (k : Int) < s.toInt + (n.toInt - 1 - (-1)) → rd h2 184 k = some (.int (fdM w (n.toInt - 1 - ((k : Int) - s.toInt))))) ∧ (¬ (s.toInt ≤ (k : Int) ∧ (k : Int) < s.toInt + (n.toInt - 1 - (-1))) → rd h2 184 k = rd h 184 k))) ∧ (¬ (1 ≤ n.toInt ∧ n.toInt ≤ 8 ∧ s.toInt + n.toInt ≤ 160) → y = fdN n ∧ h2 = h)
set_option maxRecDepth 20000 in
set_option maxHeartbeats 4000000 in
theorem c_X12_feed {w : Int64} {n : Int32} {h : im_H} (hI : tI h)  : CaP 2 134 [.ref 164, .long w, .int n] h (fun v h2 => tI h2 ∧ fr F_X12_feed h h2 ∧ ∃ y : Int32, v = some (.int y) ∧ Q2_feed w n y h h2) := by
  refine cap_of (d := 1) (M := mX12_feed) rfl (Nat.le_of_ble_eq_true rfl) ?_
  show EvP im_K0 1 mX12_feed (0, [(0, .ref 164), (1, .long w), (3, .int n)], [], h) _
  have f0 : fr F_X12_feed h h := fr_rf
  refine te_iload_n (p2 := 1) rfl rfl rfl ?_
  refine te_iconst (p2 := 2) (x := 1) rfl rfl (by decide) ?_
  refine te_bipush (p2 := 4) (x := 8) rfl rfl (by decide) ?_
  refine cS_pI (p2 := 7) rfl rfl rfl rfl (t_X12_in (n := n) (a := 1) (b := 8) hI ) (by decide) (fun y1 r1 => ?_)
  rcases r1 with ⟨w1, c1⟩ | ⟨w1, c1⟩
  · subst w1
    have cc1_1 := (show Int32.toInt 1 = 1 from rfl)
    have cc1_2 := (show Int32.toInt 8 = 8 from rfl)
    refine tz_ne (p2 := 10) rfl rfl (show Int32.toInt 1 = 1 from rfl) (fun c2 => ?_) (fun c2 => absurd c2 (by omega))
    refine te_aload_n (p2 := 14) rfl rfl rfl ?_
    refine tg_i (p2 := 17) (i := 148) rfl rfl hI rfl rfl rfl (fun y3 a3 b3 e3 => ?_)
    refine te_iload_n (p2 := 18) rfl rfl rfl ?_
    refine ar_add (p2 := 19) rfl rfl rfl rfl (by omega) (by omega) (fun z4 e4 f4 => ?_)
    refine te_sipush (p2 := 22) (x := 160) rfl rfl (by decide) ?_
    refine tb_le (p2 := 25) rfl rfl rfl (show Int32.toInt 160 = 160 from rfl) (fun c5 => ?_) (fun c5 => ?_)
    · refine te_iload_n (p2 := 29) rfl rfl rfl ?_
      refine te_iconst (p2 := 30) (x := 1) rfl rfl (by decide) ?_
      refine ar_sub (p2 := 31) rfl rfl rfl (show Int32.toInt 1 = 1 from rfl) (by omega) (by omega) (fun z6 e6 f6 => ?_)
      refine te_istore (p2 := 33) (lv2 := [(4, .int z6), (0, .ref 164), (1, .long w), (3, .int n)]) rfl rfl (by decide) rfl ?_
      have lp7 : ∀ (n7 : Nat) (v7_4 t7_t : Int32) (h7 : im_H), tI h7 → fr F_X12_feed h h7 → (-1) ≤ v7_4.toInt → v7_4.toInt ≤ 7 → rd h7 148 45 = some (.int t7_t) → 0 ≤ t7_t.toInt → t7_t.toInt ≤ 160 → t7_t.toInt + v7_4.toInt + 1 ≤ 160 → t7_t.toInt = y3.toInt + (n.toInt - 1 - v7_4.toInt) → v7_4.toInt ≤ n.toInt - 1 → (∀ k : Nat, (y3.toInt ≤ (k : Int) ∧ (k : Int) < y3.toInt + (n.toInt - 1 - v7_4.toInt) → rd h7 184 k = some (.int (fdM w (n.toInt - 1 - ((k : Int) - y3.toInt))))) ∧ (¬ (y3.toInt ≤ (k : Int) ∧ (k : Int) < y3.toInt + (n.toInt - 1 - v7_4.toInt)) → rd h7 184 k = rd h 184 k)) → v7_4.toInt + 1 < (n7 : Int) → EvP im_K0 1 mX12_feed (33, [(0, .ref 164), (1, .long w), (3, .int n), (4, .int v7_4)], [], h7) (fun v h2 => tI h2 ∧ fr F_X12_feed h h2 ∧ ∃ y : Int32, v = some (.int y) ∧ Q2_feed w n y h h2) := by
        intro n7
        induction n7 with
        | zero => intro v7_4 t7_t h7 I7 f7 a7_4 b7_4 v7_t va7_t vb7_t l7_0 l7_1 l7_2 w7_0 m7; exfalso; omega
        | succ n7 ih7 =>
          intro v7_4 t7_t h7 I7 f7 a7_4 b7_4 v7_t va7_t vb7_t l7_0 l7_1 l7_2 w7_0 m7
          refine te_iload (p2 := 35) rfl rfl rfl ?_
          refine tz_lt (p2 := 38) rfl rfl rfl (fun c8 => ?_) (fun c8 => ?_)
          · refine te_aload_n (p2 := 76) rfl rfl rfl ?_
            refine tg_e (p2 := 79) (i := 148) (v := .int t7_t) rfl rfl I7 rfl rfl v7_t ?_
            exact te_iret rfl rfl ⟨I7, f7, _, rfl, y3, e3, (fun ok => ⟨by omega, t7_t, v7_t, by omega, (fun k => by (have hw := w7_0 k); exact ⟨fun h9 => hw.1 (by omega), fun h9 => hw.2 (by omega)⟩)⟩), (fun nk => absurd (show _ ∧ _ ∧ _ from ⟨by omega, by omega, by omega⟩) nk)⟩
          · refine te_aload_n (p2 := 39) rfl rfl rfl ?_
            refine tg_r (p2 := 42) (i := 148) (r := 200) rfl rfl I7 rfl rfl rfl ?_
            refine te_aload_n (p2 := 43) rfl rfl rfl ?_
            refine tg_e (p2 := 46) (i := 148) (v := .int t7_t) rfl rfl I7 rfl rfl v7_t ?_
            refine te_lload_n (p2 := 47) rfl rfl rfl ?_
            refine te_bipush (p2 := 49) (x := 8) rfl rfl (by decide) ?_
            refine te_iload (p2 := 51) rfl rfl rfl ?_
            refine ar_mul (p2 := 52) rfl rfl (show Int32.toInt 8 = 8 from rfl) rfl (by omega) (by omega) (fun z9 e9 f9 => ?_)
            refine te_lshr (p2 := 53) (z := (w >>> (Int32.toInt64 z9 &&& 63))) rfl rfl rfl ?_
            refine te_ldc2 (p2 := 56) (x := 255) rfl rfl rfl ?_
            refine te_land (p2 := 57) (z := ((w >>> (Int32.toInt64 z9 &&& 63)) &&& 255)) rfl rfl rfl ?_
            obtain ⟨z10, e10⟩ : ∃ z, (Int64.toInt32 ((w >>> (Int32.toInt64 z9 &&& 63)) &&& 255)) = z := ⟨_, rfl⟩
            refine te_l2i (p2 := 58) rfl rfl e10 ?_
            refine ts_i (p2 := 59) (i := 184) (n := 160) rfl rfl I7 rfl rfl rfl rfl (by omega) (by omega) (i32_lo _) (i32_hi _) (i32_ho _) rfl (fun h11 I11 u11 => ?_)
            have f11 := fr_st (F := F_X12_feed) 1 f7 u11 rfl (by omega) (by omega)
            refine te_aload_n (p2 := 60) rfl rfl rfl ?_
            refine te_dup (p2 := 61) rfl rfl rfl ?_
            refine tg_e (p2 := 64) (i := 148) (v := .int t7_t) rfl rfl I11 rfl rfl ((u11.2 _ _ (Or.inl (by decide))).trans v7_t) ?_
            refine te_iconst (p2 := 65) (x := 1) rfl rfl (by decide) ?_
            refine ar_add (p2 := 66) rfl rfl rfl (show Int32.toInt 1 = 1 from rfl) (by omega) (by omega) (fun z12 e12 f12 => ?_)
            refine tp_i (p2 := 69) (i := 148) rfl rfl I11 rfl rfl (by decide) rfl rfl rfl (by omega) (by omega) (by omega) rfl (fun h13 I13 u13 => ?_)
            have f13 := fr_st (F := F_X12_feed) 0 f11 u13 rfl (by decide) (by decide)
            refine ar_inc (p2 := 72) (x := v7_4) rfl rfl (by decide) rfl (by decide) rfl (by omega) (by omega) (fun z14 e14 f14 => ?_)
            show EvP _ _ _ (72, [(4, .int z14), (0, .ref 164), (1, .long w), (3, .int n)], [], h13) _
            refine te_goto rfl ?_
            refine te_lv [(0, .ref 164), (1, .long w), (3, .int n), (4, .int z14)] rfl rfl ⟨rfl, rfl, rfl, rfl, trivial⟩ ?_
            exact ih7 z14 z12 h13 I13 f13 (by omega) (by omega) u13.1 (by omega) (by omega) (by omega) (by omega) (by omega) (fun k => by (by_cases hc : k = t7_t.toInt.toNat); (· refine ⟨fun _ => ?_, fun h9 => absurd (by omega) h9⟩; rw [hc, show n.toInt - 1 - ((t7_t.toInt.toNat : Int) - y3.toInt) = v7_4.toInt by omega, ← (show z10 = fdM w v7_4.toInt from (by unfold fdM; rw [show 8 * v7_4.toInt = z9.toInt by omega, Int32.ofInt_toInt, e10]))]; exact (u13.2 _ _ (Or.inl (by decide))).trans u11.1); (· (have hw := w7_0 k); (have hk := (u13.2 _ _ (Or.inl (by decide))).trans (u11.2 184 k (Or.inr hc))); exact ⟨fun h9 => hk.trans (hw.1 (by omega)), fun h9 => hk.trans (hw.2 (by omega))⟩)) (by omega)
      refine te_lv [(0, .ref 164), (1, .long w), (3, .int n), (4, .int z6)] rfl rfl ⟨rfl, rfl, rfl, rfl, trivial⟩ ?_
      exact lp7 9 z6 y3 h hI f0 (by omega) (by omega) e3 (by omega) (by omega) (by omega) (by omega) (by omega) (fun k => ⟨fun h9 => absurd h9 (by omega), fun _ => rfl⟩) (by omega)
    · refine te_bipush (p2 := 27) (x := (-4)) rfl rfl (by decide) ?_
      exact te_iret rfl rfl ⟨hI, f0, _, rfl, y3, e3, (fun ok => absurd ok (by omega)), (fun nk => ⟨(by unfold fdN; (repeat' split) <;> first | (exfalso; omega) | rfl), rfl⟩)⟩
  · subst w1
    have cc1_1 := (show Int32.toInt 1 = 1 from rfl)
    have cc1_2 := (show Int32.toInt 8 = 8 from rfl)
    refine tz_ne (p2 := 10) rfl rfl (show Int32.toInt 0 = 0 from rfl) (fun c15 => absurd c15 (by omega)) (fun c15 => ?_)
    refine te_bipush (p2 := 12) (x := (-2)) rfl rfl (by decide) ?_
    obtain ⟨v16, e16, y16, w16, a16, b16, _⟩ := hI.2.1 148 45 (.inl (0, 160, 9999999999)) rfl
    subst w16
    exact te_iret rfl rfl ⟨hI, f0, _, rfl, y16, e16, (fun ok => absurd ok (by omega)), (fun nk => ⟨(by unfold fdN; (repeat' split) <;> first | (exfalso; omega) | rfl), rfl⟩)⟩
def fFo (x1 p c : Int32) : Int32 := if x1.toInt = -1 ∨ (0 ≤ x1.toInt ∧ x1.toInt < c.toInt) then p else -5
def gFo (x1 p c : Int32) : Int32 := if x1.toInt = -1 ∨ (0 ≤ x1.toInt ∧ x1.toInt < c.toInt) then x1 else p
abbrev Q1_force (x1 : Int32) (y : Int32) (h h2 : im_H) : Prop := (∃ p c : Int32, rd h 0 8 = some (.int p) ∧ rd h 0 7 = some (.int c) ∧ y = fFo x1 p c ∧ rd h2 0 8 = some (.int (gFo x1 p c))) ∧ (∀ c : Int32, rd h 0 7 = some (.int c) → ((x1.toInt = -1 → rd h2 1 12 = some .null) ∧ ((0 ≤ x1.toInt ∧ x1.toInt < c.toInt) → rd h2 1 12 = some (.ref (114 + 7 * x1.toInt.toNat))) ∧ (¬ (x1.toInt = -1 ∨ (0 ≤ x1.toInt ∧ x1.toInt < c.toInt)) → rd h2 1 12 = rd h 1 12)))
set_option maxRecDepth 20000 in
set_option maxHeartbeats 4000000 in
theorem c_X11_force {x1 : Int32} {h : im_H} (hI : tI h)  : CaP 8 74 [.ref 16, .int x1] h (fun v h2 => tI h2 ∧ fr F_X11_force h h2 ∧ ∃ y : Int32, v = some (.int y) ∧ Q1_force x1 y h h2) := by
  refine cap_of (d := 7) (M := mX11_force) rfl (Nat.le_of_ble_eq_true rfl) ?_
  show EvP im_K0 7 mX11_force (0, [(0, .ref 16), (1, .int x1)], [], h) _
  have f0 : fr F_X11_force h h := fr_rf
  refine te_iload_n (p2 := 1) rfl rfl rfl ?_
  refine te_iconst (p2 := 2) (x := (-1)) rfl rfl (by decide) ?_
  refine tb_eq (p2 := 5) rfl rfl rfl (show Int32.toInt (-1) = (-1) from rfl) (fun c1 => ?_) (fun c1 => ?_)
  · refine te_aload_n (p2 := 20) rfl rfl rfl ?_
    refine tg_i (p2 := 23) (i := 0) rfl rfl hI rfl rfl rfl (fun y2 a2 b2 e2 => ?_)
    refine te_istore_n (p2 := 24) (lv2 := [(2, .int y2), (0, .ref 16), (1, .int x1)]) rfl rfl (by decide) rfl ?_
    refine te_aload_n (p2 := 25) rfl rfl rfl ?_
    refine te_iload_n (p2 := 26) rfl rfl rfl ?_
    refine tp_i (p2 := 29) (i := 0) rfl rfl hI rfl rfl (by decide) rfl rfl rfl (by omega) (by omega) (by omega) rfl (fun h3 I3 u3 => ?_)
    have f3 := fr_st (F := F_X11_force) 0 f0 u3 rfl (by decide) (by decide)
    refine te_aload_n (p2 := 30) rfl rfl rfl ?_
    refine tg_r (p2 := 33) (i := 0) (r := 17) rfl rfl I3 rfl rfl rfl ?_
    refine te_iload_n (p2 := 34) rfl rfl rfl ?_
    refine te_iconst (p2 := 35) (x := (-1)) rfl rfl (by decide) ?_
    refine tb_ne (p2 := 38) rfl rfl rfl (show Int32.toInt (-1) = (-1) from rfl) (fun c4 => absurd c4 (by omega)) (fun c4 => ?_)
    refine te_null (p2 := 39) rfl rfl ?_
    refine te_goto rfl ?_
    refine tp_0 (p2 := 51) (i := 1) rfl rfl I3 rfl rfl (by decide) rfl rfl rfl rfl (fun h5 I5 u5 => ?_)
    have f5 := fr_st (F := F_X11_force) 1 f3 u5 rfl (by decide) (by decide)
    refine te_iload_n (p2 := 52) rfl rfl rfl ?_
    obtain ⟨v6, e6, y6, w6, a6, b6, _⟩ := I5.2.1 0 7 (.inl (0, 6, 9999999999)) rfl
    subst w6
    exact te_iret rfl rfl ⟨I5, f5, _, rfl, ⟨y2, y6, e2, ((f5 0 7 rfl).symm.trans e6), (show y2 = fFo x1 y2 y6 from by (unfold fFo; (repeat' split) <;> first | (exfalso; omega) | rfl | assumption | (exact i32_ext (by omega)))), ((u5.2 _ _ (Or.inl (by decide))).trans u3.1).trans (congrArg (fun t => some (Value.int t)) (show x1 = gFo x1 y2 y6 from by (unfold gFo; (repeat' split) <;> first | (exfalso; omega) | rfl | assumption | (exact i32_ext (by omega)))))⟩, (fun c ec => by (have hc := congrArg Int32.toInt (int_inj ec ((f5 0 7 rfl).symm.trans e6))); exact ⟨(fun _ => u5.1), (fun q => absurd q (by omega)), (fun q => absurd (by omega) q)⟩)⟩
  · refine te_iload_n (p2 := 6) rfl rfl rfl ?_
    refine te_aload_n (p2 := 7) rfl rfl rfl ?_
    refine tg_i (p2 := 10) (i := 0) rfl rfl hI rfl rfl rfl (fun y7 a7 b7 e7 => ?_)
    refine cS_pI (p2 := 13) rfl rfl rfl rfl (t_X11_within (n := x1) (b := y7) hI ) (by decide) (fun y8 r8 => ?_)
    rcases r8 with ⟨w8, c8⟩ | ⟨w8, c8⟩
    · subst w8
      refine tz_ne (p2 := 16) rfl rfl (show Int32.toInt 1 = 1 from rfl) (fun c9 => ?_) (fun c9 => absurd c9 (by omega))
      refine te_aload_n (p2 := 20) rfl rfl rfl ?_
      refine tg_i (p2 := 23) (i := 0) rfl rfl hI rfl rfl rfl (fun y10 a10 b10 e10 => ?_)
      refine te_istore_n (p2 := 24) (lv2 := [(2, .int y10), (0, .ref 16), (1, .int x1)]) rfl rfl (by decide) rfl ?_
      refine te_aload_n (p2 := 25) rfl rfl rfl ?_
      refine te_iload_n (p2 := 26) rfl rfl rfl ?_
      refine tp_i (p2 := 29) (i := 0) rfl rfl hI rfl rfl (by decide) rfl rfl rfl (by omega) (by omega) (by omega) rfl (fun h11 I11 u11 => ?_)
      have f11 := fr_st (F := F_X11_force) 0 f0 u11 rfl (by decide) (by decide)
      refine te_aload_n (p2 := 30) rfl rfl rfl ?_
      refine tg_r (p2 := 33) (i := 0) (r := 17) rfl rfl I11 rfl rfl rfl ?_
      refine te_iload_n (p2 := 34) rfl rfl rfl ?_
      refine te_iconst (p2 := 35) (x := (-1)) rfl rfl (by decide) ?_
      refine tb_ne (p2 := 38) rfl rfl rfl (show Int32.toInt (-1) = (-1) from rfl) (fun c12 => ?_) (fun c12 => absurd c12 (by omega))
      refine te_aload_n (p2 := 43) rfl rfl rfl ?_
      refine tg_r (p2 := 46) (i := 0) (r := 83) rfl rfl I11 rfl rfl rfl ?_
      refine te_iload_n (p2 := 47) rfl rfl rfl ?_
      refine tl_f (p2 := 48) (i := 67) (n := 6) (c0 := 98) (sp := 7) rfl rfl I11 rfl rfl (by decide) rq_67 (by omega) (by omega) (fun o13 w13 => ?_)
      have q13 : o13 = 98 ∨ o13 = 105 ∨ o13 = 112 ∨ o13 = 119 ∨ o13 = 126 ∨ o13 = 133 := by omega
      refine tp_n (p2 := 51) (i := 1) rfl rfl I11 rfl rfl (by decide) rfl rfl rfl (by rcases q13 with rfl | rfl | rfl | rfl | rfl | rfl <;> decide) rfl (fun h14 I14 u14 => ?_)
      have f14 := fr_st (F := F_X11_force) 1 f11 u14 rfl (by decide) (by decide)
      refine te_iload_n (p2 := 52) rfl rfl rfl ?_
      exact te_iret rfl rfl ⟨I14, f14, _, rfl, ⟨y10, y7, e10, e7, (show y10 = fFo x1 y10 y7 from by (unfold fFo; (repeat' split) <;> first | (exfalso; omega) | rfl | assumption | (exact i32_ext (by omega)))), ((u14.2 _ _ (Or.inl (by decide))).trans u11.1).trans (congrArg (fun t => some (Value.int t)) (show x1 = gFo x1 y10 y7 from by (unfold gFo; (repeat' split) <;> first | (exfalso; omega) | rfl | assumption | (exact i32_ext (by omega)))))⟩, (fun c ec => by (have hc := congrArg Int32.toInt (int_inj ec e7)); exact ⟨(fun q => absurd q (by omega)), (fun _ => by (have h9 := u14.1); rw [show 16 + o13 = 114 + 7 * x1.toInt.toNat by omega] at h9; exact h9), (fun q => absurd (by omega) q)⟩)⟩
    · subst w8
      refine tz_ne (p2 := 16) rfl rfl (show Int32.toInt 0 = 0 from rfl) (fun c15 => absurd c15 (by omega)) (fun c15 => ?_)
      refine te_bipush (p2 := 18) (x := (-5)) rfl rfl (by decide) ?_
      obtain ⟨v16, e16, y16, w16, a16, b16, _⟩ := hI.2.1 0 8 (.inl ((-1), 5, 9999999999)) rfl
      subst w16
      exact te_iret rfl rfl ⟨hI, f0, _, rfl, ⟨y16, y7, e16, e7, (show (-5) = fFo x1 y16 y7 from by (have c0_ := (show Int32.toInt (-5) = (-5) from rfl); unfold fFo; (repeat' split) <;> first | (exfalso; omega) | rfl | assumption | (exact i32_ext (by omega)))), e16.trans (congrArg (fun t => some (Value.int t)) (show y16 = gFo x1 y16 y7 from by (have c0_ := (show Int32.toInt (-5) = (-5) from rfl); unfold gFo; (repeat' split) <;> first | (exfalso; omega) | rfl | assumption | (exact i32_ext (by omega)))))⟩, (fun c ec => by (have hc := congrArg Int32.toInt (int_inj ec e7)); exact ⟨(fun q => absurd q (by omega)), (fun q => absurd q (by omega)), (fun _ => rfl)⟩)⟩
abbrev Q2_force (x1 : Int32) (y : Int32) (h h2 : im_H) : Prop := ∃ p c : Int32, rd h 148 47 = some (.int p) ∧ rd h 148 46 = some (.int c) ∧ y = fFo x1 p c ∧ rd h2 148 47 = some (.int (gFo x1 p c))
set_option maxRecDepth 20000 in
set_option maxHeartbeats 4000000 in
theorem c_X12_force {x1 : Int32} {h : im_H} (hI : tI h)  : CaP 8 141 [.ref 164, .int x1] h (fun v h2 => tI h2 ∧ fr F_X12_force h h2 ∧ ∃ y : Int32, v = some (.int y) ∧ Q2_force x1 y h h2) := by
  refine cap_of (d := 7) (M := mX12_force) rfl (Nat.le_of_ble_eq_true rfl) ?_
  show EvP im_K0 7 mX12_force (0, [(0, .ref 164), (1, .int x1)], [], h) _
  have f0 : fr F_X12_force h h := fr_rf
  refine te_iload_n (p2 := 1) rfl rfl rfl ?_
  refine te_iconst (p2 := 2) (x := (-1)) rfl rfl (by decide) ?_
  refine te_aload_n (p2 := 3) rfl rfl rfl ?_
  refine tg_i (p2 := 6) (i := 148) rfl rfl hI rfl rfl rfl (fun y1 a1 b1 e1 => ?_)
  refine te_iconst (p2 := 7) (x := 1) rfl rfl (by decide) ?_
  refine ar_sub (p2 := 8) rfl rfl rfl (show Int32.toInt 1 = 1 from rfl) (by omega) (by omega) (fun z2 e2 f2 => ?_)
  refine cS_pI (p2 := 11) rfl rfl rfl rfl (t_X12_in (n := x1) (a := (-1)) (b := z2) hI ) (by decide) (fun y3 r3 => ?_)
  rcases r3 with ⟨w3, c3⟩ | ⟨w3, c3⟩
  · subst w3
    have cc3_1 := (show Int32.toInt (-1) = (-1) from rfl)
    refine tz_ne (p2 := 14) rfl rfl (show Int32.toInt 1 = 1 from rfl) (fun c4 => ?_) (fun c4 => absurd c4 (by omega))
    refine te_aload_n (p2 := 18) rfl rfl rfl ?_
    refine tg_i (p2 := 21) (i := 148) rfl rfl hI rfl rfl rfl (fun y5 a5 b5 e5 => ?_)
    refine te_istore_n (p2 := 22) (lv2 := [(2, .int y5), (0, .ref 164), (1, .int x1)]) rfl rfl (by decide) rfl ?_
    refine te_aload_n (p2 := 23) rfl rfl rfl ?_
    refine te_iload_n (p2 := 24) rfl rfl rfl ?_
    refine tp_i (p2 := 27) (i := 148) rfl rfl hI rfl rfl (by decide) rfl rfl rfl (by omega) (by omega) (by omega) rfl (fun h6 I6 u6 => ?_)
    have f6 := fr_st (F := F_X12_force) 0 f0 u6 rfl (by decide) (by decide)
    refine te_iload_n (p2 := 28) rfl rfl rfl ?_
    exact te_iret rfl rfl ⟨I6, f6, _, rfl, y5, y1, e5, e1, (show y5 = fFo x1 y5 y1 from by (unfold fFo; (repeat' split) <;> first | (exfalso; omega) | rfl | assumption | (exact i32_ext (by omega)))), u6.1.trans (congrArg (fun t => some (Value.int t)) (show x1 = gFo x1 y5 y1 from by (unfold gFo; (repeat' split) <;> first | (exfalso; omega) | rfl | assumption | (exact i32_ext (by omega)))))⟩
  · subst w3
    have cc3_1 := (show Int32.toInt (-1) = (-1) from rfl)
    refine tz_ne (p2 := 14) rfl rfl (show Int32.toInt 0 = 0 from rfl) (fun c7 => absurd c7 (by omega)) (fun c7 => ?_)
    refine te_bipush (p2 := 16) (x := (-5)) rfl rfl (by decide) ?_
    obtain ⟨v8, e8, y8, w8, a8, b8, _⟩ := hI.2.1 148 47 (.inl ((-1), 5, 9999999999)) rfl
    subst w8
    exact te_iret rfl rfl ⟨hI, f0, _, rfl, y8, y1, e8, e1, (show (-5) = fFo x1 y8 y1 from by (have c0_ := (show Int32.toInt (-5) = (-5) from rfl); unfold fFo; (repeat' split) <;> first | (exfalso; omega) | rfl | assumption | (exact i32_ext (by omega)))), e8.trans (congrArg (fun t => some (Value.int t)) (show y8 = gFo x1 y8 y1 from by (have c0_ := (show Int32.toInt (-5) = (-5) from rfl); unfold gFo; (repeat' split) <;> first | (exfalso; omega) | rfl | assumption | (exact i32_ext (by omega)))))⟩
