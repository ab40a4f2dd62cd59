def gd (n : Nat) (f : Nat → Int32) : Nat → Int32 := fun k => if k < n then f k else 0
def udt (f : Nat → Int32) (i : Nat) (v : Int32) : Nat → Int32 := fun k => if k = i then v else f k
theorem gd_at {n k : Nat} {f : Nat → Int32} (h : k < n) : gd n f k = f k := if_pos h
theorem udt_s {f : Nat → Int32} {i : Nat} {v : Int32} : udt f i v i = v := if_pos rfl
theorem udt_n {f : Nat → Int32} {i k : Nat} {v : Int32} (h : k ≠ i) : udt f i v k = f k := if_neg h
theorem gd_up {n i : Nat} {f g : Nat → Int32} {v : Int32} (hi : i < n) (e : g i = v) (h : ∀ k, k ≠ i → g k = f k) : gd n g = udt (gd n f) i v := by
  funext k
  unfold gd udt
  by_cases hc : k = i
  · subst hc; rw [if_pos hi, if_pos rfl, e]
  · rw [if_neg hc, h k hc]
theorem udt_id {f : Nat → Int32} {i : Nat} {v : Int32} (h : v = f i) : udt f i v = f := by
  funext k
  unfold udt
  by_cases hc : k = i
  · rw [if_pos hc, hc, h]
  · rw [if_neg hc]
theorem udt_2 {f : Nat → Int32} {i : Nat} {v w : Int32} : udt (udt f i v) i w = udt f i w := by
  funext k
  unfold udt
  by_cases hc : k = i
  · rw [if_pos hc, if_pos hc]
  · rw [if_neg hc, if_neg hc, if_neg hc]
abbrev Dy : Type := (Nat → Int32) × (Nat → Int32) × (Nat → Int32) × (Nat → Int32) × (Nat → Int32) × (Nat → Int32) × (Nat → Int32) × (Nat → Int32) × (Nat → Int32) × (Nat → Int32) × (Nat → Int32) × Int32 × Int32 × Int32 × Int32 × Int32
abbrev Dy.mk (ld : Nat → Int32) (hm : Nat → Int32) (hu : Nat → Int32) (wk : Nat → Int32) (de : Nat → Int32) (st : Nat → Int32) (up : Nat → Int32) (rl : Nat → Int32) (rs : Nat → Int32) (ra : Nat → Int32) (kp : Nat → Int32) (du : Int32) (ti : Int32) (da : Int32) (we : Int32) (wi : Int32) : Dy := (ld, hm, hu, wk, de, st, up, rl, rs, ra, kp, du, ti, da, we, wi)
abbrev Dy.ld (a : Dy) : Nat → Int32 := a.1
abbrev Dy.hm (a : Dy) : Nat → Int32 := a.2.1
abbrev Dy.hu (a : Dy) : Nat → Int32 := a.2.2.1
abbrev Dy.wk (a : Dy) : Nat → Int32 := a.2.2.2.1
abbrev Dy.de (a : Dy) : Nat → Int32 := a.2.2.2.2.1
abbrev Dy.st (a : Dy) : Nat → Int32 := a.2.2.2.2.2.1
abbrev Dy.up (a : Dy) : Nat → Int32 := a.2.2.2.2.2.2.1
abbrev Dy.rl (a : Dy) : Nat → Int32 := a.2.2.2.2.2.2.2.1
abbrev Dy.rs (a : Dy) : Nat → Int32 := a.2.2.2.2.2.2.2.2.1
abbrev Dy.ra (a : Dy) : Nat → Int32 := a.2.2.2.2.2.2.2.2.2.1
abbrev Dy.kp (a : Dy) : Nat → Int32 := a.2.2.2.2.2.2.2.2.2.2.1
abbrev Dy.du (a : Dy) : Int32 := a.2.2.2.2.2.2.2.2.2.2.2.1
abbrev Dy.ti (a : Dy) : Int32 := a.2.2.2.2.2.2.2.2.2.2.2.2.1
abbrev Dy.da (a : Dy) : Int32 := a.2.2.2.2.2.2.2.2.2.2.2.2.2.1
abbrev Dy.we (a : Dy) : Int32 := a.2.2.2.2.2.2.2.2.2.2.2.2.2.2.1
abbrev Dy.wi (a : Dy) : Int32 := a.2.2.2.2.2.2.2.2.2.2.2.2.2.2.2
abbrev Dy.s_ld (a : Dy) (x : Nat → Int32) : Dy := Dy.mk x (Dy.hm a) (Dy.hu a) (Dy.wk a) (Dy.de a) (Dy.st a) (Dy.up a) (Dy.rl a) (Dy.rs a) (Dy.ra a) (Dy.kp a) (Dy.du a) (Dy.ti a) (Dy.da a) (Dy.we a) (Dy.wi a)
abbrev Dy.s_hm (a : Dy) (x : Nat → Int32) : Dy := Dy.mk (Dy.ld a) x (Dy.hu a) (Dy.wk a) (Dy.de a) (Dy.st a) (Dy.up a) (Dy.rl a) (Dy.rs a) (Dy.ra a) (Dy.kp a) (Dy.du a) (Dy.ti a) (Dy.da a) (Dy.we a) (Dy.wi a)
abbrev Dy.s_hu (a : Dy) (x : Nat → Int32) : Dy := Dy.mk (Dy.ld a) (Dy.hm a) x (Dy.wk a) (Dy.de a) (Dy.st a) (Dy.up a) (Dy.rl a) (Dy.rs a) (Dy.ra a) (Dy.kp a) (Dy.du a) (Dy.ti a) (Dy.da a) (Dy.we a) (Dy.wi a)
abbrev Dy.s_wk (a : Dy) (x : Nat → Int32) : Dy := Dy.mk (Dy.ld a) (Dy.hm a) (Dy.hu a) x (Dy.de a) (Dy.st a) (Dy.up a) (Dy.rl a) (Dy.rs a) (Dy.ra a) (Dy.kp a) (Dy.du a) (Dy.ti a) (Dy.da a) (Dy.we a) (Dy.wi a)
abbrev Dy.s_de (a : Dy) (x : Nat → Int32) : Dy := Dy.mk (Dy.ld a) (Dy.hm a) (Dy.hu a) (Dy.wk a) x (Dy.st a) (Dy.up a) (Dy.rl a) (Dy.rs a) (Dy.ra a) (Dy.kp a) (Dy.du a) (Dy.ti a) (Dy.da a) (Dy.we a) (Dy.wi a)
abbrev Dy.s_st (a : Dy) (x : Nat → Int32) : Dy := Dy.mk (Dy.ld a) (Dy.hm a) (Dy.hu a) (Dy.wk a) (Dy.de a) x (Dy.up a) (Dy.rl a) (Dy.rs a) (Dy.ra a) (Dy.kp a) (Dy.du a) (Dy.ti a) (Dy.da a) (Dy.we a) (Dy.wi a)
abbrev Dy.s_up (a : Dy) (x : Nat → Int32) : Dy := Dy.mk (Dy.ld a) (Dy.hm a) (Dy.hu a) (Dy.wk a) (Dy.de a) (Dy.st a) x (Dy.rl a) (Dy.rs a) (Dy.ra a) (Dy.kp a) (Dy.du a) (Dy.ti a) (Dy.da a) (Dy.we a) (Dy.wi a)
abbrev Dy.s_rl (a : Dy) (x : Nat → Int32) : Dy := Dy.mk (Dy.ld a) (Dy.hm a) (Dy.hu a) (Dy.wk a) (Dy.de a) (Dy.st a) (Dy.up a) x (Dy.rs a) (Dy.ra a) (Dy.kp a) (Dy.du a) (Dy.ti a) (Dy.da a) (Dy.we a) (Dy.wi a)
abbrev Dy.s_rs (a : Dy) (x : Nat → Int32) : Dy := Dy.mk (Dy.ld a) (Dy.hm a) (Dy.hu a) (Dy.wk a) (Dy.de a) (Dy.st a) (Dy.up a) (Dy.rl a) x (Dy.ra a) (Dy.kp a) (Dy.du a) (Dy.ti a) (Dy.da a) (Dy.we a) (Dy.wi a)
abbrev Dy.s_ra (a : Dy) (x : Nat → Int32) : Dy := Dy.mk (Dy.ld a) (Dy.hm a) (Dy.hu a) (Dy.wk a) (Dy.de a) (Dy.st a) (Dy.up a) (Dy.rl a) (Dy.rs a) x (Dy.kp a) (Dy.du a) (Dy.ti a) (Dy.da a) (Dy.we a) (Dy.wi a)
abbrev Dy.s_kp (a : Dy) (x : Nat → Int32) : Dy := Dy.mk (Dy.ld a) (Dy.hm a) (Dy.hu a) (Dy.wk a) (Dy.de a) (Dy.st a) (Dy.up a) (Dy.rl a) (Dy.rs a) (Dy.ra a) x (Dy.du a) (Dy.ti a) (Dy.da a) (Dy.we a) (Dy.wi a)
abbrev Dy.s_du (a : Dy) (x : Int32) : Dy := Dy.mk (Dy.ld a) (Dy.hm a) (Dy.hu a) (Dy.wk a) (Dy.de a) (Dy.st a) (Dy.up a) (Dy.rl a) (Dy.rs a) (Dy.ra a) (Dy.kp a) x (Dy.ti a) (Dy.da a) (Dy.we a) (Dy.wi a)
abbrev Dy.s_ti (a : Dy) (x : Int32) : Dy := Dy.mk (Dy.ld a) (Dy.hm a) (Dy.hu a) (Dy.wk a) (Dy.de a) (Dy.st a) (Dy.up a) (Dy.rl a) (Dy.rs a) (Dy.ra a) (Dy.kp a) (Dy.du a) x (Dy.da a) (Dy.we a) (Dy.wi a)
abbrev Dy.s_da (a : Dy) (x : Int32) : Dy := Dy.mk (Dy.ld a) (Dy.hm a) (Dy.hu a) (Dy.wk a) (Dy.de a) (Dy.st a) (Dy.up a) (Dy.rl a) (Dy.rs a) (Dy.ra a) (Dy.kp a) (Dy.du a) (Dy.ti a) x (Dy.we a) (Dy.wi a)
abbrev Dy.s_we (a : Dy) (x : Int32) : Dy := Dy.mk (Dy.ld a) (Dy.hm a) (Dy.hu a) (Dy.wk a) (Dy.de a) (Dy.st a) (Dy.up a) (Dy.rl a) (Dy.rs a) (Dy.ra a) (Dy.kp a) (Dy.du a) (Dy.ti a) (Dy.da a) x (Dy.wi a)
abbrev Dy.s_wi (a : Dy) (x : Int32) : Dy := Dy.mk (Dy.ld a) (Dy.hm a) (Dy.hu a) (Dy.wk a) (Dy.de a) (Dy.st a) (Dy.up a) (Dy.rl a) (Dy.rs a) (Dy.ra a) (Dy.kp a) (Dy.du a) (Dy.ti a) (Dy.da a) (Dy.we a) x
theorem Dy.eta' (a : Dy) : Dy.mk (Dy.ld a) (Dy.hm a) (Dy.hu a) (Dy.wk a) (Dy.de a) (Dy.st a) (Dy.up a) (Dy.rl a) (Dy.rs a) (Dy.ra a) (Dy.kp a) (Dy.du a) (Dy.ti a) (Dy.da a) (Dy.we a) (Dy.wi a) = a := rfl
def mhu (d u : Nat → Int32) : Nat → Int32 := fun p => if p < 24 ∧ (d p).toInt = 0 then u p else 0
def absX (h : im_H) (s : Nat) : Dy := (Dy.mk (gd 100 (rv h (s + 2))) (gd 24 (rv h (s + 3))) (mhu (rv h (s + 7)) (rv h (s + 4))) (gd 24 (rv h (s + 5))) (gd 24 (rv h (s + 7))) (gd 16 (rv h (s + 8))) (gd 16 (rv h (s + 9))) (gd 4 (rv h (s + 11))) (gd 4 (rv h (s + 12))) (gd 3 (rv h (s + 13))) (gd 3 (rv h (s + 1))) (rv h s 4) (rv h s 3) (rv h s 0) (rv h s 1) (rv h s 2))
def rM (h : im_H) (o : Nat) : Nat → Int32 := fun k => rv h 149 (o + k)
def absM (h : im_H) : Dy := (Dy.mk (gd 100 (rM h 0)) (gd 24 (rM h 140)) (mhu (rM h 236) (rM h 164)) (gd 24 (rM h 188)) (gd 24 (rM h 236)) (gd 16 (rM h 124)) (gd 16 (rM h 108)) (gd 4 (rM h 272)) (gd 4 (rM h 276)) (gd 3 (rM h 280)) (gd 3 (rM h 100)) (rv h 149 103) (rv h 149 104) (rv h 149 105) (rv h 149 106) (rv h 149 107))
def fcs (a b c d e f g i : Int32) (j : Nat) : Int32 := if j = 0 then a else if j = 1 then b else if j = 2 then c else if j = 3 then d else if j = 4 then e else if j = 5 then f else if j = 6 then g else i
def ts1 (x s v : Int32) : Prop := (s.toInt = 2 ∧ x.toInt = v.toInt) ∨ (s.toInt = 0 ∧ x.toInt < v.toInt) ∨ (s.toInt = 1 ∧ v.toInt < x.toInt)
def hld (fc f s v : Nat → Int32) (t n : Nat) : Prop := ∀ i, i < n → ts1 (fc (f (t + i)).toInt.toNat) (s (t + i)) (v (t + i))
noncomputable def sayR (k u : Nat → Int32) (H : Nat → Prop) (key : Int32) : Nat → Nat → Int32
  | 0, _ => 0
  | r + 1, l => @ite _ (k l = key ∧ H l) (Classical.propDecidable _) (u l) (sayR k u H key r (l + 1))
theorem sayR_y {k u : Nat → Int32} {H : Nat → Prop} {key : Int32} {r l : Nat} (h : k l = key ∧ H l) : sayR k u H key (r + 1) l = u l := by
  rw [show sayR k u H key (r + 1) l = @ite _ (k l = key ∧ H l) (Classical.propDecidable _) (u l) (sayR k u H key r (l + 1)) from rfl, if_pos h]
theorem sayR_n {k u : Nat → Int32} {H : Nat → Prop} {key : Int32} {r l : Nat} (h : ¬ (k l = key ∧ H l)) : sayR k u H key (r + 1) l = sayR k u H key r (l + 1) := by
  rw [show sayR k u H key (r + 1) l = @ite _ (k l = key ∧ H l) (Classical.propDecidable _) (u l) (sayR k u H key r (l + 1)) from rfl, if_neg h]
theorem sayR_eq {k u k2 u2 : Nat → Int32} {H H2 : Nat → Prop} {key : Int32} : ∀ (r l : Nat), (∀ m, l ≤ m → m < l + r → k m = k2 m ∧ u m = u2 m ∧ (H m ↔ H2 m)) → sayR k u H key r l = sayR k2 u2 H2 key r l
  | 0, _, _ => rfl
  | r + 1, l, h => by
    have q := h l (Nat.le_refl _) (by omega)
    have ih := sayR_eq (key := key) r (l + 1) (fun m h0 h1 => h m (by omega) (by omega))
    by_cases hc : k l = key ∧ H l
    · rw [sayR_y hc, sayR_y ⟨q.1.symm.trans hc.1, q.2.2.mp hc.2⟩, q.2.1]
    · rw [sayR_n hc, sayR_n (fun w => hc ⟨q.1.trans w.1, q.2.2.mpr w.2⟩), ih]
abbrev Od : Type := Int32 × (Nat → Int32) × (Nat → Int32) × (Nat → Int32) × (Nat → Int32) × (Nat → Int32) × (Nat → Int32)
abbrev Od.mk (n : Int32) (k : Nat → Int32) (u : Nat → Int32) (c : Nat → Int32) (f : Nat → Int32) (s : Nat → Int32) (v : Nat → Int32) : Od := (n, k, u, c, f, s, v)
abbrev Od.n (a : Od) : Int32 := a.1
abbrev Od.k (a : Od) : Nat → Int32 := a.2.1
abbrev Od.u (a : Od) : Nat → Int32 := a.2.2.1
abbrev Od.c (a : Od) : Nat → Int32 := a.2.2.2.1
abbrev Od.f (a : Od) : Nat → Int32 := a.2.2.2.2.1
abbrev Od.s (a : Od) : Nat → Int32 := a.2.2.2.2.2.1
abbrev Od.v (a : Od) : Nat → Int32 := a.2.2.2.2.2.2
abbrev Od.s_n (a : Od) (x : Int32) : Od := Od.mk x (Od.k a) (Od.u a) (Od.c a) (Od.f a) (Od.s a) (Od.v a)
abbrev Od.s_k (a : Od) (x : Nat → Int32) : Od := Od.mk (Od.n a) x (Od.u a) (Od.c a) (Od.f a) (Od.s a) (Od.v a)
abbrev Od.s_u (a : Od) (x : Nat → Int32) : Od := Od.mk (Od.n a) (Od.k a) x (Od.c a) (Od.f a) (Od.s a) (Od.v a)
abbrev Od.s_c (a : Od) (x : Nat → Int32) : Od := Od.mk (Od.n a) (Od.k a) (Od.u a) x (Od.f a) (Od.s a) (Od.v a)
abbrev Od.s_f (a : Od) (x : Nat → Int32) : Od := Od.mk (Od.n a) (Od.k a) (Od.u a) (Od.c a) x (Od.s a) (Od.v a)
abbrev Od.s_s (a : Od) (x : Nat → Int32) : Od := Od.mk (Od.n a) (Od.k a) (Od.u a) (Od.c a) (Od.f a) x (Od.v a)
abbrev Od.s_v (a : Od) (x : Nat → Int32) : Od := Od.mk (Od.n a) (Od.k a) (Od.u a) (Od.c a) (Od.f a) (Od.s a) x
theorem Od.eta' (a : Od) : Od.mk (Od.n a) (Od.k a) (Od.u a) (Od.c a) (Od.f a) (Od.s a) (Od.v a) = a := rfl
noncomputable def odS (o : Od) (fc : Nat → Int32) (key : Int32) : Int32 := sayR o.k o.u (fun l => hld fc o.f o.s o.v (3 * l) (o.c l).toInt.toNat) key o.n.toInt.toNat 0
def nos (key : Int32) : Int32 := if key.toInt = 0 then 8 else if key.toInt = 1 then 1 else 0
def odX (h : im_H) (o : Nat) : Od := (Od.mk (rv h o 0) (rv h (o + 1)) (rv h (o + 2)) (rv h (o + 3)) (rv h (o + 4)) (rv h (o + 5)) (rv h (o + 6)))
def sgC (x : Int32) : Int32 := if x.toInt = 60 then 0 else if x.toInt = 62 then 1 else 2
def fdC (x : Int32) : Int32 := if x.toInt < 0 then 7 else x
def odM (h : im_H) (r : Nat) : Od := (Od.mk (rv h 185 r) (fun l => rv h 186 (8 * r + l)) (fun l => rv h 187 (8 * r + l)) (fun l => rv h 188 (8 * r + l)) (fun t => fdC (rv h 189 (24 * r + t))) (fun t => sgC (rv h 190 (24 * r + t))) (fun t => rv h 191 (24 * r + t)))
noncomputable def sdX (h : im_H) : (Nat → Int32) → Int32 → Int32 := match rd h 1 12 with
  | some (.ref r) => if 114 ≤ r ∧ r ≤ 149 then odS (odX h (r - 16)) else fun _ => nos
  | _ => fun _ => nos
noncomputable def sdM (h : im_H) : (Nat → Int32) → Int32 → Int32 := if (rv h 148 47).toInt = -1 then fun _ => nos else odS (odM h (rv h 148 47).toInt.toNat)
abbrev Ct : Type := (Nat → Int32) × Int32 × Int32 × (Nat → Int32) × (Nat → Int32) × (Nat → Int32) × (Nat → Int32) × (Nat → Nat → Int32) × (Nat → Int32) × (Nat → Int32) × (Nat → Int32) × (Nat → Int32) × (Nat → Int32) × (Nat → Int32) × (Nat → Int32) × Int32 × (Nat → Int32) × (Nat → Int32) × ((Nat → Int32) → Int32 → Int32)
abbrev Ct.mk (kd : Nat → Int32) (tip : Int32) (np : Int32) (sg : Nat → Int32) (ag : Nat → Int32) (kn : Nat → Int32) (ro : Nat → Int32) (hd : Nat → Nat → Int32) (hn : Nat → Int32) (hf : Nat → Int32) (ht : Nat → Int32) (wn : Nat → Int32) (cr : Nat → Int32) (wf : Nat → Int32) (wl : Nat → Int32) (nw : Int32) (wc : Nat → Int32) (wt : Nat → Int32) (sd : (Nat → Int32) → Int32 → Int32) : Ct := (kd, tip, np, sg, ag, kn, ro, hd, hn, hf, ht, wn, cr, wf, wl, nw, wc, wt, sd)
abbrev Ct.kd (a : Ct) : Nat → Int32 := a.1
abbrev Ct.tip (a : Ct) : Int32 := a.2.1
abbrev Ct.np (a : Ct) : Int32 := a.2.2.1
abbrev Ct.sg (a : Ct) : Nat → Int32 := a.2.2.2.1
abbrev Ct.ag (a : Ct) : Nat → Int32 := a.2.2.2.2.1
abbrev Ct.kn (a : Ct) : Nat → Int32 := a.2.2.2.2.2.1
abbrev Ct.ro (a : Ct) : Nat → Int32 := a.2.2.2.2.2.2.1
abbrev Ct.hd (a : Ct) : Nat → Nat → Int32 := a.2.2.2.2.2.2.2.1
abbrev Ct.hn (a : Ct) : Nat → Int32 := a.2.2.2.2.2.2.2.2.1
abbrev Ct.hf (a : Ct) : Nat → Int32 := a.2.2.2.2.2.2.2.2.2.1
abbrev Ct.ht (a : Ct) : Nat → Int32 := a.2.2.2.2.2.2.2.2.2.2.1
abbrev Ct.wn (a : Ct) : Nat → Int32 := a.2.2.2.2.2.2.2.2.2.2.2.1
abbrev Ct.cr (a : Ct) : Nat → Int32 := a.2.2.2.2.2.2.2.2.2.2.2.2.1
abbrev Ct.wf (a : Ct) : Nat → Int32 := a.2.2.2.2.2.2.2.2.2.2.2.2.2.1
abbrev Ct.wl (a : Ct) : Nat → Int32 := a.2.2.2.2.2.2.2.2.2.2.2.2.2.2.1
abbrev Ct.nw (a : Ct) : Int32 := a.2.2.2.2.2.2.2.2.2.2.2.2.2.2.2.1
abbrev Ct.wc (a : Ct) : Nat → Int32 := a.2.2.2.2.2.2.2.2.2.2.2.2.2.2.2.2.1
abbrev Ct.wt (a : Ct) : Nat → Int32 := a.2.2.2.2.2.2.2.2.2.2.2.2.2.2.2.2.2.1
abbrev Ct.sd (a : Ct) : (Nat → Int32) → Int32 → Int32 := a.2.2.2.2.2.2.2.2.2.2.2.2.2.2.2.2.2.2
abbrev Ct.s_kd (a : Ct) (x : Nat → Int32) : Ct := Ct.mk x (Ct.tip a) (Ct.np a) (Ct.sg a) (Ct.ag a) (Ct.kn a) (Ct.ro a) (Ct.hd a) (Ct.hn a) (Ct.hf a) (Ct.ht a) (Ct.wn a) (Ct.cr a) (Ct.wf a) (Ct.wl a) (Ct.nw a) (Ct.wc a) (Ct.wt a) (Ct.sd a)
abbrev Ct.s_tip (a : Ct) (x : Int32) : Ct := Ct.mk (Ct.kd a) x (Ct.np a) (Ct.sg a) (Ct.ag a) (Ct.kn a) (Ct.ro a) (Ct.hd a) (Ct.hn a) (Ct.hf a) (Ct.ht a) (Ct.wn a) (Ct.cr a) (Ct.wf a) (Ct.wl a) (Ct.nw a) (Ct.wc a) (Ct.wt a) (Ct.sd a)
abbrev Ct.s_np (a : Ct) (x : Int32) : Ct := Ct.mk (Ct.kd a) (Ct.tip a) x (Ct.sg a) (Ct.ag a) (Ct.kn a) (Ct.ro a) (Ct.hd a) (Ct.hn a) (Ct.hf a) (Ct.ht a) (Ct.wn a) (Ct.cr a) (Ct.wf a) (Ct.wl a) (Ct.nw a) (Ct.wc a) (Ct.wt a) (Ct.sd a)
abbrev Ct.s_sg (a : Ct) (x : Nat → Int32) : Ct := Ct.mk (Ct.kd a) (Ct.tip a) (Ct.np a) x (Ct.ag a) (Ct.kn a) (Ct.ro a) (Ct.hd a) (Ct.hn a) (Ct.hf a) (Ct.ht a) (Ct.wn a) (Ct.cr a) (Ct.wf a) (Ct.wl a) (Ct.nw a) (Ct.wc a) (Ct.wt a) (Ct.sd a)
abbrev Ct.s_ag (a : Ct) (x : Nat → Int32) : Ct := Ct.mk (Ct.kd a) (Ct.tip a) (Ct.np a) (Ct.sg a) x (Ct.kn a) (Ct.ro a) (Ct.hd a) (Ct.hn a) (Ct.hf a) (Ct.ht a) (Ct.wn a) (Ct.cr a) (Ct.wf a) (Ct.wl a) (Ct.nw a) (Ct.wc a) (Ct.wt a) (Ct.sd a)
abbrev Ct.s_kn (a : Ct) (x : Nat → Int32) : Ct := Ct.mk (Ct.kd a) (Ct.tip a) (Ct.np a) (Ct.sg a) (Ct.ag a) x (Ct.ro a) (Ct.hd a) (Ct.hn a) (Ct.hf a) (Ct.ht a) (Ct.wn a) (Ct.cr a) (Ct.wf a) (Ct.wl a) (Ct.nw a) (Ct.wc a) (Ct.wt a) (Ct.sd a)
abbrev Ct.s_ro (a : Ct) (x : Nat → Int32) : Ct := Ct.mk (Ct.kd a) (Ct.tip a) (Ct.np a) (Ct.sg a) (Ct.ag a) (Ct.kn a) x (Ct.hd a) (Ct.hn a) (Ct.hf a) (Ct.ht a) (Ct.wn a) (Ct.cr a) (Ct.wf a) (Ct.wl a) (Ct.nw a) (Ct.wc a) (Ct.wt a) (Ct.sd a)
abbrev Ct.s_hd (a : Ct) (x : Nat → Nat → Int32) : Ct := Ct.mk (Ct.kd a) (Ct.tip a) (Ct.np a) (Ct.sg a) (Ct.ag a) (Ct.kn a) (Ct.ro a) x (Ct.hn a) (Ct.hf a) (Ct.ht a) (Ct.wn a) (Ct.cr a) (Ct.wf a) (Ct.wl a) (Ct.nw a) (Ct.wc a) (Ct.wt a) (Ct.sd a)
abbrev Ct.s_hn (a : Ct) (x : Nat → Int32) : Ct := Ct.mk (Ct.kd a) (Ct.tip a) (Ct.np a) (Ct.sg a) (Ct.ag a) (Ct.kn a) (Ct.ro a) (Ct.hd a) x (Ct.hf a) (Ct.ht a) (Ct.wn a) (Ct.cr a) (Ct.wf a) (Ct.wl a) (Ct.nw a) (Ct.wc a) (Ct.wt a) (Ct.sd a)
abbrev Ct.s_hf (a : Ct) (x : Nat → Int32) : Ct := Ct.mk (Ct.kd a) (Ct.tip a) (Ct.np a) (Ct.sg a) (Ct.ag a) (Ct.kn a) (Ct.ro a) (Ct.hd a) (Ct.hn a) x (Ct.ht a) (Ct.wn a) (Ct.cr a) (Ct.wf a) (Ct.wl a) (Ct.nw a) (Ct.wc a) (Ct.wt a) (Ct.sd a)
abbrev Ct.s_ht (a : Ct) (x : Nat → Int32) : Ct := Ct.mk (Ct.kd a) (Ct.tip a) (Ct.np a) (Ct.sg a) (Ct.ag a) (Ct.kn a) (Ct.ro a) (Ct.hd a) (Ct.hn a) (Ct.hf a) x (Ct.wn a) (Ct.cr a) (Ct.wf a) (Ct.wl a) (Ct.nw a) (Ct.wc a) (Ct.wt a) (Ct.sd a)
abbrev Ct.s_wn (a : Ct) (x : Nat → Int32) : Ct := Ct.mk (Ct.kd a) (Ct.tip a) (Ct.np a) (Ct.sg a) (Ct.ag a) (Ct.kn a) (Ct.ro a) (Ct.hd a) (Ct.hn a) (Ct.hf a) (Ct.ht a) x (Ct.cr a) (Ct.wf a) (Ct.wl a) (Ct.nw a) (Ct.wc a) (Ct.wt a) (Ct.sd a)
abbrev Ct.s_cr (a : Ct) (x : Nat → Int32) : Ct := Ct.mk (Ct.kd a) (Ct.tip a) (Ct.np a) (Ct.sg a) (Ct.ag a) (Ct.kn a) (Ct.ro a) (Ct.hd a) (Ct.hn a) (Ct.hf a) (Ct.ht a) (Ct.wn a) x (Ct.wf a) (Ct.wl a) (Ct.nw a) (Ct.wc a) (Ct.wt a) (Ct.sd a)
abbrev Ct.s_wf (a : Ct) (x : Nat → Int32) : Ct := Ct.mk (Ct.kd a) (Ct.tip a) (Ct.np a) (Ct.sg a) (Ct.ag a) (Ct.kn a) (Ct.ro a) (Ct.hd a) (Ct.hn a) (Ct.hf a) (Ct.ht a) (Ct.wn a) (Ct.cr a) x (Ct.wl a) (Ct.nw a) (Ct.wc a) (Ct.wt a) (Ct.sd a)
abbrev Ct.s_wl (a : Ct) (x : Nat → Int32) : Ct := Ct.mk (Ct.kd a) (Ct.tip a) (Ct.np a) (Ct.sg a) (Ct.ag a) (Ct.kn a) (Ct.ro a) (Ct.hd a) (Ct.hn a) (Ct.hf a) (Ct.ht a) (Ct.wn a) (Ct.cr a) (Ct.wf a) x (Ct.nw a) (Ct.wc a) (Ct.wt a) (Ct.sd a)
abbrev Ct.s_nw (a : Ct) (x : Int32) : Ct := Ct.mk (Ct.kd a) (Ct.tip a) (Ct.np a) (Ct.sg a) (Ct.ag a) (Ct.kn a) (Ct.ro a) (Ct.hd a) (Ct.hn a) (Ct.hf a) (Ct.ht a) (Ct.wn a) (Ct.cr a) (Ct.wf a) (Ct.wl a) x (Ct.wc a) (Ct.wt a) (Ct.sd a)
abbrev Ct.s_wc (a : Ct) (x : Nat → Int32) : Ct := Ct.mk (Ct.kd a) (Ct.tip a) (Ct.np a) (Ct.sg a) (Ct.ag a) (Ct.kn a) (Ct.ro a) (Ct.hd a) (Ct.hn a) (Ct.hf a) (Ct.ht a) (Ct.wn a) (Ct.cr a) (Ct.wf a) (Ct.wl a) (Ct.nw a) x (Ct.wt a) (Ct.sd a)
abbrev Ct.s_wt (a : Ct) (x : Nat → Int32) : Ct := Ct.mk (Ct.kd a) (Ct.tip a) (Ct.np a) (Ct.sg a) (Ct.ag a) (Ct.kn a) (Ct.ro a) (Ct.hd a) (Ct.hn a) (Ct.hf a) (Ct.ht a) (Ct.wn a) (Ct.cr a) (Ct.wf a) (Ct.wl a) (Ct.nw a) (Ct.wc a) x (Ct.sd a)
abbrev Ct.s_sd (a : Ct) (x : (Nat → Int32) → Int32 → Int32) : Ct := Ct.mk (Ct.kd a) (Ct.tip a) (Ct.np a) (Ct.sg a) (Ct.ag a) (Ct.kn a) (Ct.ro a) (Ct.hd a) (Ct.hn a) (Ct.hf a) (Ct.ht a) (Ct.wn a) (Ct.cr a) (Ct.wf a) (Ct.wl a) (Ct.nw a) (Ct.wc a) (Ct.wt a) x
theorem Ct.eta' (a : Ct) : Ct.mk (Ct.kd a) (Ct.tip a) (Ct.np a) (Ct.sg a) (Ct.ag a) (Ct.kn a) (Ct.ro a) (Ct.hd a) (Ct.hn a) (Ct.hf a) (Ct.ht a) (Ct.wn a) (Ct.cr a) (Ct.wf a) (Ct.wl a) (Ct.nw a) (Ct.wc a) (Ct.wt a) (Ct.sd a) = a := rfl
def mn14 (x : Int32) : Int32 := if 14 < x.toInt then 14 else x
def mx0 (x : Int32) : Int32 := if x.toInt < 0 then 0 else x
def mnI (x y : Int32) : Int32 := if x.toInt < y.toInt then x else y
def fcA (c : Ct) (A : Dy) (p : Nat) : Nat → Int32 := fcs (c.sg p) (c.ag p) (c.kn p) (A.hu p) A.we A.wi A.da (A.wk p)
def psF (c : Ct) (A : Dy) (p : Nat) : Int32 := if (A.de p).toInt ≠ 0 ∨ (c.sd (fcA c A p) 2).toInt ≠ 0 then 0 else mn14 (c.sd (fcA c A p) 0) * mx0 (c.sg p - A.hu p)
def atF (c : Ct) (A : Dy) (p : Nat) : Int32 := if (c.ro p).toInt ≠ -1 ∧ 0 < (psF c A p).toInt then c.hf (c.ro p).toInt.toNat else A.hm p
def brF (c : Ct) (A : Dy) (to : Nat) (n : Int32) : Dy := if (to : Int) = c.tip.toInt then (Dy.s_ti A (A.ti + n)) else (Dy.s_ld A (udt A.ld to (A.ld to + n)))
def lsF (c : Ct) (A : Dy) (r : Nat) : Nat → Int32 × Int32
  | 0 => (-1, 0)
  | i + 1 => if (lsF c A r i).1.toInt = -1 ∨ (psF c A (c.hd r i).toInt.toNat).toInt < (lsF c A r i).2.toInt then (c.hd r i, psF c A (c.hd r i).toInt.toNat) else lsF c A r i
def wkF (c : Ct) (r : Nat) (A : Dy) : Nat → Dy
  | 0 => A
  | i + 1 => (Dy.s_wk (wkF c r A i) (udt (wkF c r A i).wk (c.hd r i).toInt.toNat ((wkF c r A i).wk (c.hd r i).toInt.toNat + mn14 (c.sd (fcA c (wkF c r A i) (c.hd r i).toInt.toNat) 0))))
def KB : List Int32 := [20, 35, 20, 70, 10, 5]
def KM : List Int32 := [1, 4, 1, 4, 7, 4]
def KI : List Int32 := [0, 0, 5, 0, 5, 0]
def KK : List Int32 := [3, 3, 2, 7, 2, 6]
def kpF (c : Ct) (A : Dy) (fr : Nat) (tens : Int32) : Dy := if (c.kd fr).toInt = -1 then A else (Dy.s_kp A (udt (udt (udt A.kp 0 (A.kp 0 + tens * KB.getD (c.kd fr).toInt.toNat 0)) 1 (A.kp 1 + tens * KM.getD (c.kd fr).toInt.toNat 0)) 2 (A.kp 2 + tens * KI.getD (c.kd fr).toInt.toNat 0)))
def paF (c : Ct) (A : Dy) (r : Nat) (n : Int32) : Dy := wkF c r (brF c (Dy.s_ld (Dy.s_du (kpF c A (c.hf r).toInt.toNat (n / 10)) (A.du + n / 10 * 4)) (udt A.ld (c.hf r).toInt.toNat (A.ld (c.hf r).toInt.toNat - n))) (c.ht r).toInt.toNat (n - n / 10 * 4)) (c.hn r).toInt.toNat
def roF (c : Ct) (A : Dy) (r : Nat) : Dy := if 0 < (mnI (lsF c A r (c.hn r).toInt.toNat).2 (A.ld (c.hf r).toInt.toNat)).toInt then (Dy.s_rl (paF c (Dy.s_rs A (udt A.rs r (lsF c A r (c.hn r).toInt.toNat).1)) r (mnI (lsF c A r (c.hn r).toInt.toNat).2 (A.ld (c.hf r).toInt.toNat))) (udt A.rl r (mnI (lsF c A r (c.hn r).toInt.toNat).2 (A.ld (c.hf r).toInt.toNat)))) else (Dy.s_rs (Dy.s_rl A (udt A.rl r 0)) (udt A.rs r (lsF c A r (c.hn r).toInt.toNat).1))
def raF (c : Ct) (A : Dy) (r : Nat) : Dy := if (c.wn r).toInt < 2 then (Dy.s_ra A (udt A.ra r 0)) else brF c (Dy.s_ld (Dy.s_ra A (udt A.ra r (mnI (60 * c.cr r / (c.wn r - 1)) (A.ld (c.wf r).toInt.toNat)))) (udt A.ld (c.wf r).toInt.toNat (A.ld (c.wf r).toInt.toNat - mnI (60 * c.cr r / (c.wn r - 1)) (A.ld (c.wf r).toInt.toNat)))) (c.wl r).toInt.toNat (mnI (60 * c.cr r / (c.wn r - 1)) (A.ld (c.wf r).toInt.toNat))
def hiF (c : Ct) (to : Int32) (A : Dy) (p : Nat) : Dy := if (A.de p).toInt = 0 ∧ atF c A p = to then (if 9 ≤ (A.hu p + 3).toInt then (Dy.s_de (Dy.s_hu A (udt A.hu p 0)) (udt A.de p 1)) else (Dy.s_hu A (udt A.hu p (A.hu p + 3)))) else A
def hisF (c : Ct) (to : Int32) (A : Dy) : Nat → Dy
  | 0 => A
  | p + 1 => hiF c to (hisF c to A p) p
def faF (c : Ct) (A : Dy) (k : Nat) : Dy := hisF c (c.wt k) (Dy.s_ld (Dy.s_up A (udt A.up k 0)) (udt A.ld (c.wt k).toInt.toNat (A.ld (c.wt k).toInt.toNat + 20))) c.np.toInt.toNat
def wkn (c : Ct) (x : Nat) : Int32 := if (c.kd x).toInt = -1 then 3 else KK.getD (c.kd x).toInt.toNat 0
def weF (c : Ct) (A : Dy) (k : Nat) : Int32 := A.st k - A.we * wkn c (c.wc k).toInt.toNat / 10
def waF (c : Ct) (A : Dy) (k : Nat) : Dy := if (A.up k).toInt = 1 then (if (weF c A k).toInt ≤ (3 * A.wi).toInt then faF c (Dy.s_st A (udt A.st k (weF c A k))) k else (Dy.s_st A (udt A.st k (weF c A k)))) else A
def heF (A : Dy) (p : Nat) : Dy := if (A.de p).toInt = 0 ∧ 0 < (A.hu p).toInt then (Dy.s_hu A (udt A.hu p (A.hu p - 1))) else A
def itF (f : Dy → Nat → Dy) (A : Dy) : Nat → Dy
  | 0 => A
  | k + 1 => f (itF f A k) k
def dyF (c : Ct) (A : Dy) : Dy :=
  (Dy.s_da ((if (A.da - A.da / 7 * 7).toInt = 6 then itF heF (itF (waF c) (itF (raF c) (itF (roF c) A 4) 3) c.nw.toInt.toNat) c.np.toInt.toNat else itF (waF c) (itF (raF c) (itF (roF c) A 4) 3) c.nw.toInt.toNat)) (A.da + 1))
def dysF (c : Ct) (A : Dy) : Nat → Dy
  | 0 => A
  | n + 1 => dyF c (dysF c A n)
theorem rv_ni {h h2 : im_H} {i j k m : Nat} {v : Value} (u : up h h2 i k v) (hj : j ≠ i ∨ m ≠ k) : rv h2 j m = rv h j m := by
  unfold rv
  rw [u.2 j m hj]
theorem rv_f {h h2 : im_H} {i j k : Nat} {v : Value} (u : up h h2 i k v) (hj : j ≠ i) : rv h2 j = rv h j := funext fun m => rv_ni u (Or.inl hj)
theorem xu_ld {h h2 : im_H} {s k : Nat} {z : Int32} (u : up h h2 (s + 2) k (.int z)) (hk : k < 100) : absX h2 s = (Dy.s_ld (absX h s) (udt (absX h s).ld k z)) := by
  have e : gd 100 (rv h2 (s + 2)) = udt (gd 100 (rv h (s + 2))) k z := gd_up hk (rv_of u.1) (fun m hm => rv_ni u (Or.inr hm))
  have es := rv_f u (show s ≠ s + 2 by omega)
  unfold absX
  rw [e, rv_f u (show s + 3 ≠ s + 2 by omega), rv_f u (show s + 4 ≠ s + 2 by omega), rv_f u (show s + 5 ≠ s + 2 by omega), rv_f u (show s + 7 ≠ s + 2 by omega), rv_f u (show s + 8 ≠ s + 2 by omega), rv_f u (show s + 9 ≠ s + 2 by omega), rv_f u (show s + 11 ≠ s + 2 by omega), rv_f u (show s + 12 ≠ s + 2 by omega), rv_f u (show s + 13 ≠ s + 2 by omega), rv_f u (show s + 1 ≠ s + 2 by omega), es]
theorem xu_wk {h h2 : im_H} {s k : Nat} {z : Int32} (u : up h h2 (s + 5) k (.int z)) (hk : k < 24) : absX h2 s = (Dy.s_wk (absX h s) (udt (absX h s).wk k z)) := by
  have e : gd 24 (rv h2 (s + 5)) = udt (gd 24 (rv h (s + 5))) k z := gd_up hk (rv_of u.1) (fun m hm => rv_ni u (Or.inr hm))
  have es := rv_f u (show s ≠ s + 5 by omega)
  unfold absX
  rw [e, rv_f u (show s + 2 ≠ s + 5 by omega), rv_f u (show s + 3 ≠ s + 5 by omega), rv_f u (show s + 4 ≠ s + 5 by omega), rv_f u (show s + 7 ≠ s + 5 by omega), rv_f u (show s + 8 ≠ s + 5 by omega), rv_f u (show s + 9 ≠ s + 5 by omega), rv_f u (show s + 11 ≠ s + 5 by omega), rv_f u (show s + 12 ≠ s + 5 by omega), rv_f u (show s + 13 ≠ s + 5 by omega), rv_f u (show s + 1 ≠ s + 5 by omega), es]
theorem xu_st {h h2 : im_H} {s k : Nat} {z : Int32} (u : up h h2 (s + 8) k (.int z)) (hk : k < 16) : absX h2 s = (Dy.s_st (absX h s) (udt (absX h s).st k z)) := by
  have e : gd 16 (rv h2 (s + 8)) = udt (gd 16 (rv h (s + 8))) k z := gd_up hk (rv_of u.1) (fun m hm => rv_ni u (Or.inr hm))
  have es := rv_f u (show s ≠ s + 8 by omega)
  unfold absX
  rw [e, rv_f u (show s + 2 ≠ s + 8 by omega), rv_f u (show s + 3 ≠ s + 8 by omega), rv_f u (show s + 4 ≠ s + 8 by omega), rv_f u (show s + 5 ≠ s + 8 by omega), rv_f u (show s + 7 ≠ s + 8 by omega), rv_f u (show s + 9 ≠ s + 8 by omega), rv_f u (show s + 11 ≠ s + 8 by omega), rv_f u (show s + 12 ≠ s + 8 by omega), rv_f u (show s + 13 ≠ s + 8 by omega), rv_f u (show s + 1 ≠ s + 8 by omega), es]
theorem xu_up {h h2 : im_H} {s k : Nat} {z : Int32} (u : up h h2 (s + 9) k (.int z)) (hk : k < 16) : absX h2 s = (Dy.s_up (absX h s) (udt (absX h s).up k z)) := by
  have e : gd 16 (rv h2 (s + 9)) = udt (gd 16 (rv h (s + 9))) k z := gd_up hk (rv_of u.1) (fun m hm => rv_ni u (Or.inr hm))
  have es := rv_f u (show s ≠ s + 9 by omega)
  unfold absX
  rw [e, rv_f u (show s + 2 ≠ s + 9 by omega), rv_f u (show s + 3 ≠ s + 9 by omega), rv_f u (show s + 4 ≠ s + 9 by omega), rv_f u (show s + 5 ≠ s + 9 by omega), rv_f u (show s + 7 ≠ s + 9 by omega), rv_f u (show s + 8 ≠ s + 9 by omega), rv_f u (show s + 11 ≠ s + 9 by omega), rv_f u (show s + 12 ≠ s + 9 by omega), rv_f u (show s + 13 ≠ s + 9 by omega), rv_f u (show s + 1 ≠ s + 9 by omega), es]
theorem xu_rl {h h2 : im_H} {s k : Nat} {z : Int32} (u : up h h2 (s + 11) k (.int z)) (hk : k < 4) : absX h2 s = (Dy.s_rl (absX h s) (udt (absX h s).rl k z)) := by
  have e : gd 4 (rv h2 (s + 11)) = udt (gd 4 (rv h (s + 11))) k z := gd_up hk (rv_of u.1) (fun m hm => rv_ni u (Or.inr hm))
  have es := rv_f u (show s ≠ s + 11 by omega)
  unfold absX
  rw [e, rv_f u (show s + 2 ≠ s + 11 by omega), rv_f u (show s + 3 ≠ s + 11 by omega), rv_f u (show s + 4 ≠ s + 11 by omega), rv_f u (show s + 5 ≠ s + 11 by omega), rv_f u (show s + 7 ≠ s + 11 by omega), rv_f u (show s + 8 ≠ s + 11 by omega), rv_f u (show s + 9 ≠ s + 11 by omega), rv_f u (show s + 12 ≠ s + 11 by omega), rv_f u (show s + 13 ≠ s + 11 by omega), rv_f u (show s + 1 ≠ s + 11 by omega), es]
theorem xu_rs {h h2 : im_H} {s k : Nat} {z : Int32} (u : up h h2 (s + 12) k (.int z)) (hk : k < 4) : absX h2 s = (Dy.s_rs (absX h s) (udt (absX h s).rs k z)) := by
  have e : gd 4 (rv h2 (s + 12)) = udt (gd 4 (rv h (s + 12))) k z := gd_up hk (rv_of u.1) (fun m hm => rv_ni u (Or.inr hm))
  have es := rv_f u (show s ≠ s + 12 by omega)
  unfold absX
  rw [e, rv_f u (show s + 2 ≠ s + 12 by omega), rv_f u (show s + 3 ≠ s + 12 by omega), rv_f u (show s + 4 ≠ s + 12 by omega), rv_f u (show s + 5 ≠ s + 12 by omega), rv_f u (show s + 7 ≠ s + 12 by omega), rv_f u (show s + 8 ≠ s + 12 by omega), rv_f u (show s + 9 ≠ s + 12 by omega), rv_f u (show s + 11 ≠ s + 12 by omega), rv_f u (show s + 13 ≠ s + 12 by omega), rv_f u (show s + 1 ≠ s + 12 by omega), es]
theorem xu_ra {h h2 : im_H} {s k : Nat} {z : Int32} (u : up h h2 (s + 13) k (.int z)) (hk : k < 3) : absX h2 s = (Dy.s_ra (absX h s) (udt (absX h s).ra k z)) := by
  have e : gd 3 (rv h2 (s + 13)) = udt (gd 3 (rv h (s + 13))) k z := gd_up hk (rv_of u.1) (fun m hm => rv_ni u (Or.inr hm))
  have es := rv_f u (show s ≠ s + 13 by omega)
  unfold absX
  rw [e, rv_f u (show s + 2 ≠ s + 13 by omega), rv_f u (show s + 3 ≠ s + 13 by omega), rv_f u (show s + 4 ≠ s + 13 by omega), rv_f u (show s + 5 ≠ s + 13 by omega), rv_f u (show s + 7 ≠ s + 13 by omega), rv_f u (show s + 8 ≠ s + 13 by omega), rv_f u (show s + 9 ≠ s + 13 by omega), rv_f u (show s + 11 ≠ s + 13 by omega), rv_f u (show s + 12 ≠ s + 13 by omega), rv_f u (show s + 1 ≠ s + 13 by omega), es]
theorem xu_kp {h h2 : im_H} {s k : Nat} {z : Int32} (u : up h h2 (s + 1) k (.int z)) (hk : k < 3) : absX h2 s = (Dy.s_kp (absX h s) (udt (absX h s).kp k z)) := by
  have e : gd 3 (rv h2 (s + 1)) = udt (gd 3 (rv h (s + 1))) k z := gd_up hk (rv_of u.1) (fun m hm => rv_ni u (Or.inr hm))
  have es := rv_f u (show s ≠ s + 1 by omega)
  unfold absX
  rw [e, rv_f u (show s + 2 ≠ s + 1 by omega), rv_f u (show s + 3 ≠ s + 1 by omega), rv_f u (show s + 4 ≠ s + 1 by omega), rv_f u (show s + 5 ≠ s + 1 by omega), rv_f u (show s + 7 ≠ s + 1 by omega), rv_f u (show s + 8 ≠ s + 1 by omega), rv_f u (show s + 9 ≠ s + 1 by omega), rv_f u (show s + 11 ≠ s + 1 by omega), rv_f u (show s + 12 ≠ s + 1 by omega), rv_f u (show s + 13 ≠ s + 1 by omega), es]
theorem xu_du {h h2 : im_H} {s : Nat} {z : Int32} (u : up h h2 s 4 (.int z)) : absX h2 s = (Dy.s_du (absX h s) (z)) := by
  unfold absX
  rw [rv_f u (show s + 2 ≠ s by omega), rv_f u (show s + 3 ≠ s by omega), rv_f u (show s + 4 ≠ s by omega), rv_f u (show s + 5 ≠ s by omega), rv_f u (show s + 7 ≠ s by omega), rv_f u (show s + 8 ≠ s by omega), rv_f u (show s + 9 ≠ s by omega), rv_f u (show s + 11 ≠ s by omega), rv_f u (show s + 12 ≠ s by omega), rv_f u (show s + 13 ≠ s by omega), rv_f u (show s + 1 ≠ s by omega), rv_ni u (show s ≠ s ∨ 3 ≠ 4 from Or.inr (by decide)), rv_ni u (show s ≠ s ∨ 0 ≠ 4 from Or.inr (by decide)), rv_ni u (show s ≠ s ∨ 1 ≠ 4 from Or.inr (by decide)), rv_ni u (show s ≠ s ∨ 2 ≠ 4 from Or.inr (by decide)), rv_of u.1]
theorem xu_ti {h h2 : im_H} {s : Nat} {z : Int32} (u : up h h2 s 3 (.int z)) : absX h2 s = (Dy.s_ti (absX h s) (z)) := by
  unfold absX
  rw [rv_f u (show s + 2 ≠ s by omega), rv_f u (show s + 3 ≠ s by omega), rv_f u (show s + 4 ≠ s by omega), rv_f u (show s + 5 ≠ s by omega), rv_f u (show s + 7 ≠ s by omega), rv_f u (show s + 8 ≠ s by omega), rv_f u (show s + 9 ≠ s by omega), rv_f u (show s + 11 ≠ s by omega), rv_f u (show s + 12 ≠ s by omega), rv_f u (show s + 13 ≠ s by omega), rv_f u (show s + 1 ≠ s by omega), rv_ni u (show s ≠ s ∨ 4 ≠ 3 from Or.inr (by decide)), rv_ni u (show s ≠ s ∨ 0 ≠ 3 from Or.inr (by decide)), rv_ni u (show s ≠ s ∨ 1 ≠ 3 from Or.inr (by decide)), rv_ni u (show s ≠ s ∨ 2 ≠ 3 from Or.inr (by decide)), rv_of u.1]
theorem xu_da {h h2 : im_H} {s : Nat} {z : Int32} (u : up h h2 s 0 (.int z)) : absX h2 s = (Dy.s_da (absX h s) (z)) := by
  unfold absX
  rw [rv_f u (show s + 2 ≠ s by omega), rv_f u (show s + 3 ≠ s by omega), rv_f u (show s + 4 ≠ s by omega), rv_f u (show s + 5 ≠ s by omega), rv_f u (show s + 7 ≠ s by omega), rv_f u (show s + 8 ≠ s by omega), rv_f u (show s + 9 ≠ s by omega), rv_f u (show s + 11 ≠ s by omega), rv_f u (show s + 12 ≠ s by omega), rv_f u (show s + 13 ≠ s by omega), rv_f u (show s + 1 ≠ s by omega), rv_ni u (show s ≠ s ∨ 4 ≠ 0 from Or.inr (by decide)), rv_ni u (show s ≠ s ∨ 3 ≠ 0 from Or.inr (by decide)), rv_ni u (show s ≠ s ∨ 1 ≠ 0 from Or.inr (by decide)), rv_ni u (show s ≠ s ∨ 2 ≠ 0 from Or.inr (by decide)), rv_of u.1]
theorem xu_we {h h2 : im_H} {s : Nat} {z : Int32} (u : up h h2 s 1 (.int z)) : absX h2 s = (Dy.s_we (absX h s) (z)) := by
  unfold absX
  rw [rv_f u (show s + 2 ≠ s by omega), rv_f u (show s + 3 ≠ s by omega), rv_f u (show s + 4 ≠ s by omega), rv_f u (show s + 5 ≠ s by omega), rv_f u (show s + 7 ≠ s by omega), rv_f u (show s + 8 ≠ s by omega), rv_f u (show s + 9 ≠ s by omega), rv_f u (show s + 11 ≠ s by omega), rv_f u (show s + 12 ≠ s by omega), rv_f u (show s + 13 ≠ s by omega), rv_f u (show s + 1 ≠ s by omega), rv_ni u (show s ≠ s ∨ 4 ≠ 1 from Or.inr (by decide)), rv_ni u (show s ≠ s ∨ 3 ≠ 1 from Or.inr (by decide)), rv_ni u (show s ≠ s ∨ 0 ≠ 1 from Or.inr (by decide)), rv_ni u (show s ≠ s ∨ 2 ≠ 1 from Or.inr (by decide)), rv_of u.1]
theorem xu_wi {h h2 : im_H} {s : Nat} {z : Int32} (u : up h h2 s 2 (.int z)) : absX h2 s = (Dy.s_wi (absX h s) (z)) := by
  unfold absX
  rw [rv_f u (show s + 2 ≠ s by omega), rv_f u (show s + 3 ≠ s by omega), rv_f u (show s + 4 ≠ s by omega), rv_f u (show s + 5 ≠ s by omega), rv_f u (show s + 7 ≠ s by omega), rv_f u (show s + 8 ≠ s by omega), rv_f u (show s + 9 ≠ s by omega), rv_f u (show s + 11 ≠ s by omega), rv_f u (show s + 12 ≠ s by omega), rv_f u (show s + 13 ≠ s by omega), rv_f u (show s + 1 ≠ s by omega), rv_ni u (show s ≠ s ∨ 4 ≠ 2 from Or.inr (by decide)), rv_ni u (show s ≠ s ∨ 3 ≠ 2 from Or.inr (by decide)), rv_ni u (show s ≠ s ∨ 0 ≠ 2 from Or.inr (by decide)), rv_ni u (show s ≠ s ∨ 1 ≠ 2 from Or.inr (by decide)), rv_of u.1]
theorem mhu_a {d u u2 : Nat → Int32} {k : Nat} {z : Int32} (hk : k < 24) (hd : (d k).toInt = 0) (e : u2 k = z) (h : ∀ m, m ≠ k → u2 m = u m) : mhu d u2 = udt (mhu d u) k z := by
  funext m
  unfold mhu udt
  by_cases hc : m = k
  · subst hc; rw [if_pos ⟨hk, hd⟩, if_pos rfl, e]
  · rw [if_neg hc, h m hc]
theorem mhu_b {d u u2 : Nat → Int32} {k : Nat} (hd : (d k).toInt ≠ 0) (h : ∀ m, m ≠ k → u2 m = u m) : mhu d u2 = mhu d u := by
  funext m
  unfold mhu
  by_cases hc : m = k
  · subst hc; rw [if_neg (fun q => hd q.2), if_neg (fun q => hd q.2)]
  · rw [h m hc]
theorem mhu_d {d d2 u : Nat → Int32} {k : Nat} {z : Int32} (hz : z.toInt ≠ 0) (e : d2 k = z) (h : ∀ m, m ≠ k → d2 m = d m) : mhu d2 u = udt (mhu d u) k 0 := by
  funext m
  unfold mhu udt
  by_cases hc : m = k
  · subst hc; rw [if_pos rfl, if_neg (fun q => hz (by rw [← e]; exact q.2))]
  · rw [if_neg hc, h m hc]
theorem xu_ha {h h2 : im_H} {s k : Nat} {z : Int32} (u : up h h2 (s + 4) k (.int z)) (hk : k < 24) (hd : (rv h (s + 7) k).toInt = 0) : absX h2 s = (Dy.s_hu (absX h s) (udt (absX h s).hu k z)) := by
  have e : mhu (rv h (s + 7)) (rv h2 (s + 4)) = udt (mhu (rv h (s + 7)) (rv h (s + 4))) k z := mhu_a hk hd (rv_of u.1) (fun m hm => rv_ni u (Or.inr hm))
  have es := rv_f u (show s ≠ s + 4 by omega)
  unfold absX
  rw [rv_f u (show s + 2 ≠ s + 4 by omega), rv_f u (show s + 3 ≠ s + 4 by omega), rv_f u (show s + 5 ≠ s + 4 by omega), rv_f u (show s + 7 ≠ s + 4 by omega), rv_f u (show s + 8 ≠ s + 4 by omega), rv_f u (show s + 9 ≠ s + 4 by omega), rv_f u (show s + 11 ≠ s + 4 by omega), rv_f u (show s + 12 ≠ s + 4 by omega), rv_f u (show s + 13 ≠ s + 4 by omega), rv_f u (show s + 1 ≠ s + 4 by omega), es, e]
theorem xu_hb {h h2 : im_H} {s k : Nat} {z : Int32} (u : up h h2 (s + 4) k (.int z)) (hd : (rv h (s + 7) k).toInt ≠ 0) : absX h2 s = absX h s := by
  have e : mhu (rv h (s + 7)) (rv h2 (s + 4)) = mhu (rv h (s + 7)) (rv h (s + 4)) := mhu_b hd (fun m hm => rv_ni u (Or.inr hm))
  have es := rv_f u (show s ≠ s + 4 by omega)
  unfold absX
  rw [rv_f u (show s + 2 ≠ s + 4 by omega), rv_f u (show s + 3 ≠ s + 4 by omega), rv_f u (show s + 5 ≠ s + 4 by omega), rv_f u (show s + 7 ≠ s + 4 by omega), rv_f u (show s + 8 ≠ s + 4 by omega), rv_f u (show s + 9 ≠ s + 4 by omega), rv_f u (show s + 11 ≠ s + 4 by omega), rv_f u (show s + 12 ≠ s + 4 by omega), rv_f u (show s + 13 ≠ s + 4 by omega), rv_f u (show s + 1 ≠ s + 4 by omega), es, e]
theorem xu_de {h h2 : im_H} {s k : Nat} {z : Int32} (u : up h h2 (s + 7) k (.int z)) (hk : k < 24) (hz : z.toInt ≠ 0) : absX h2 s = (Dy.s_de (Dy.s_hu (absX h s) (udt (absX h s).hu k 0)) (udt (absX h s).de k z)) := by
  have e : mhu (rv h2 (s + 7)) (rv h (s + 4)) = udt (mhu (rv h (s + 7)) (rv h (s + 4))) k 0 := mhu_d hz (rv_of u.1) (fun m hm => rv_ni u (Or.inr hm))
  have e2 : gd 24 (rv h2 (s + 7)) = udt (gd 24 (rv h (s + 7))) k z := gd_up hk (rv_of u.1) (fun m hm => rv_ni u (Or.inr hm))
  have es := rv_f u (show s ≠ s + 7 by omega)
  unfold absX
  rw [rv_f u (show s + 2 ≠ s + 7 by omega), rv_f u (show s + 3 ≠ s + 7 by omega), rv_f u (show s + 4 ≠ s + 7 by omega), rv_f u (show s + 5 ≠ s + 7 by omega), rv_f u (show s + 8 ≠ s + 7 by omega), rv_f u (show s + 9 ≠ s + 7 by omega), rv_f u (show s + 11 ≠ s + 7 by omega), rv_f u (show s + 12 ≠ s + 7 by omega), rv_f u (show s + 13 ≠ s + 7 by omega), rv_f u (show s + 1 ≠ s + 7 by omega), es, e, e2]
theorem gM_n {h h2 : im_H} {o n k : Nat} {v : Value} (u : up h h2 149 k v) (hk : k < o ∨ o + n ≤ k) : gd n (rM h2 o) = gd n (rM h o) := by
  funext m
  unfold gd rM
  by_cases hc : m < n
  · rw [if_pos hc, if_pos hc, rv_ni u (Or.inr (by omega))]
  · rw [if_neg hc, if_neg hc]
theorem gM_u {h h2 : im_H} {o n i k : Nat} {z : Int32} (u : up h h2 149 k (.int z)) (hk : k = o + i) (hi : i < n) : gd n (rM h2 o) = udt (gd n (rM h o)) i z := gd_up hi (by unfold rM; rw [← hk]; exact rv_of u.1) (fun m hm => by unfold rM; exact rv_ni u (Or.inr (by omega)))
theorem hM_n {h h2 : im_H} {k : Nat} {v : Value} (u : up h h2 149 k v) (hk : k < 164 ∨ (188 ≤ k ∧ k < 236) ∨ 260 ≤ k) : mhu (rM h2 236) (rM h2 164) = mhu (rM h 236) (rM h 164) := by
  funext m
  unfold mhu rM
  by_cases hc : m < 24
  · rw [rv_ni u (Or.inr (show 236 + m ≠ k by omega)), rv_ni u (Or.inr (show 164 + m ≠ k by omega))]
  · rw [if_neg (fun q => hc q.1), if_neg (fun q => hc q.1)]
theorem mu_ld {h h2 : im_H} {i k : Nat} {z : Int32} (u : up h h2 149 k (.int z)) (hk : k = 0 + i) (hi : i < 100) : absM h2 = (Dy.s_ld (absM h) (udt (absM h).ld i z)) := by
  unfold absM
  rw [gM_u (o := 0) (n := 100) u hk hi, gM_n (o := 140) (n := 24) u (by omega), gM_n (o := 188) (n := 24) u (by omega), gM_n (o := 124) (n := 16) u (by omega), gM_n (o := 108) (n := 16) u (by omega), gM_n (o := 272) (n := 4) u (by omega), gM_n (o := 276) (n := 4) u (by omega), gM_n (o := 280) (n := 3) u (by omega), gM_n (o := 100) (n := 3) u (by omega), gM_n (o := 236) (n := 24) u (by omega), hM_n u (by omega), rv_ni u (show 149 ≠ 149 ∨ 103 ≠ k from Or.inr (by omega)), rv_ni u (show 149 ≠ 149 ∨ 104 ≠ k from Or.inr (by omega)), rv_ni u (show 149 ≠ 149 ∨ 105 ≠ k from Or.inr (by omega)), rv_ni u (show 149 ≠ 149 ∨ 106 ≠ k from Or.inr (by omega)), rv_ni u (show 149 ≠ 149 ∨ 107 ≠ k from Or.inr (by omega))]
theorem mu_wk {h h2 : im_H} {i k : Nat} {z : Int32} (u : up h h2 149 k (.int z)) (hk : k = 188 + i) (hi : i < 24) : absM h2 = (Dy.s_wk (absM h) (udt (absM h).wk i z)) := by
  unfold absM
  rw [gM_u (o := 188) (n := 24) u hk hi, gM_n (o := 0) (n := 100) u (by omega), gM_n (o := 140) (n := 24) u (by omega), gM_n (o := 124) (n := 16) u (by omega), gM_n (o := 108) (n := 16) u (by omega), gM_n (o := 272) (n := 4) u (by omega), gM_n (o := 276) (n := 4) u (by omega), gM_n (o := 280) (n := 3) u (by omega), gM_n (o := 100) (n := 3) u (by omega), gM_n (o := 236) (n := 24) u (by omega), hM_n u (by omega), rv_ni u (show 149 ≠ 149 ∨ 103 ≠ k from Or.inr (by omega)), rv_ni u (show 149 ≠ 149 ∨ 104 ≠ k from Or.inr (by omega)), rv_ni u (show 149 ≠ 149 ∨ 105 ≠ k from Or.inr (by omega)), rv_ni u (show 149 ≠ 149 ∨ 106 ≠ k from Or.inr (by omega)), rv_ni u (show 149 ≠ 149 ∨ 107 ≠ k from Or.inr (by omega))]
theorem mu_st {h h2 : im_H} {i k : Nat} {z : Int32} (u : up h h2 149 k (.int z)) (hk : k = 124 + i) (hi : i < 16) : absM h2 = (Dy.s_st (absM h) (udt (absM h).st i z)) := by
  unfold absM
  rw [gM_u (o := 124) (n := 16) u hk hi, gM_n (o := 0) (n := 100) u (by omega), gM_n (o := 140) (n := 24) u (by omega), gM_n (o := 188) (n := 24) u (by omega), gM_n (o := 108) (n := 16) u (by omega), gM_n (o := 272) (n := 4) u (by omega), gM_n (o := 276) (n := 4) u (by omega), gM_n (o := 280) (n := 3) u (by omega), gM_n (o := 100) (n := 3) u (by omega), gM_n (o := 236) (n := 24) u (by omega), hM_n u (by omega), rv_ni u (show 149 ≠ 149 ∨ 103 ≠ k from Or.inr (by omega)), rv_ni u (show 149 ≠ 149 ∨ 104 ≠ k from Or.inr (by omega)), rv_ni u (show 149 ≠ 149 ∨ 105 ≠ k from Or.inr (by omega)), rv_ni u (show 149 ≠ 149 ∨ 106 ≠ k from Or.inr (by omega)), rv_ni u (show 149 ≠ 149 ∨ 107 ≠ k from Or.inr (by omega))]
theorem mu_up {h h2 : im_H} {i k : Nat} {z : Int32} (u : up h h2 149 k (.int z)) (hk : k = 108 + i) (hi : i < 16) : absM h2 = (Dy.s_up (absM h) (udt (absM h).up i z)) := by
  unfold absM
  rw [gM_u (o := 108) (n := 16) u hk hi, gM_n (o := 0) (n := 100) u (by omega), gM_n (o := 140) (n := 24) u (by omega), gM_n (o := 188) (n := 24) u (by omega), gM_n (o := 124) (n := 16) u (by omega), gM_n (o := 272) (n := 4) u (by omega), gM_n (o := 276) (n := 4) u (by omega), gM_n (o := 280) (n := 3) u (by omega), gM_n (o := 100) (n := 3) u (by omega), gM_n (o := 236) (n := 24) u (by omega), hM_n u (by omega), rv_ni u (show 149 ≠ 149 ∨ 103 ≠ k from Or.inr (by omega)), rv_ni u (show 149 ≠ 149 ∨ 104 ≠ k from Or.inr (by omega)), rv_ni u (show 149 ≠ 149 ∨ 105 ≠ k from Or.inr (by omega)), rv_ni u (show 149 ≠ 149 ∨ 106 ≠ k from Or.inr (by omega)), rv_ni u (show 149 ≠ 149 ∨ 107 ≠ k from Or.inr (by omega))]
theorem mu_rl {h h2 : im_H} {i k : Nat} {z : Int32} (u : up h h2 149 k (.int z)) (hk : k = 272 + i) (hi : i < 4) : absM h2 = (Dy.s_rl (absM h) (udt (absM h).rl i z)) := by
  unfold absM
  rw [gM_u (o := 272) (n := 4) u hk hi, gM_n (o := 0) (n := 100) u (by omega), gM_n (o := 140) (n := 24) u (by omega), gM_n (o := 188) (n := 24) u (by omega), gM_n (o := 124) (n := 16) u (by omega), gM_n (o := 108) (n := 16) u (by omega), gM_n (o := 276) (n := 4) u (by omega), gM_n (o := 280) (n := 3) u (by omega), gM_n (o := 100) (n := 3) u (by omega), gM_n (o := 236) (n := 24) u (by omega), hM_n u (by omega), rv_ni u (show 149 ≠ 149 ∨ 103 ≠ k from Or.inr (by omega)), rv_ni u (show 149 ≠ 149 ∨ 104 ≠ k from Or.inr (by omega)), rv_ni u (show 149 ≠ 149 ∨ 105 ≠ k from Or.inr (by omega)), rv_ni u (show 149 ≠ 149 ∨ 106 ≠ k from Or.inr (by omega)), rv_ni u (show 149 ≠ 149 ∨ 107 ≠ k from Or.inr (by omega))]
theorem mu_rs {h h2 : im_H} {i k : Nat} {z : Int32} (u : up h h2 149 k (.int z)) (hk : k = 276 + i) (hi : i < 4) : absM h2 = (Dy.s_rs (absM h) (udt (absM h).rs i z)) := by
  unfold absM
  rw [gM_u (o := 276) (n := 4) u hk hi, gM_n (o := 0) (n := 100) u (by omega), gM_n (o := 140) (n := 24) u (by omega), gM_n (o := 188) (n := 24) u (by omega), gM_n (o := 124) (n := 16) u (by omega), gM_n (o := 108) (n := 16) u (by omega), gM_n (o := 272) (n := 4) u (by omega), gM_n (o := 280) (n := 3) u (by omega), gM_n (o := 100) (n := 3) u (by omega), gM_n (o := 236) (n := 24) u (by omega), hM_n u (by omega), rv_ni u (show 149 ≠ 149 ∨ 103 ≠ k from Or.inr (by omega)), rv_ni u (show 149 ≠ 149 ∨ 104 ≠ k from Or.inr (by omega)), rv_ni u (show 149 ≠ 149 ∨ 105 ≠ k from Or.inr (by omega)), rv_ni u (show 149 ≠ 149 ∨ 106 ≠ k from Or.inr (by omega)), rv_ni u (show 149 ≠ 149 ∨ 107 ≠ k from Or.inr (by omega))]
theorem mu_ra {h h2 : im_H} {i k : Nat} {z : Int32} (u : up h h2 149 k (.int z)) (hk : k = 280 + i) (hi : i < 3) : absM h2 = (Dy.s_ra (absM h) (udt (absM h).ra i z)) := by
  unfold absM
  rw [gM_u (o := 280) (n := 3) u hk hi, gM_n (o := 0) (n := 100) u (by omega), gM_n (o := 140) (n := 24) u (by omega), gM_n (o := 188) (n := 24) u (by omega), gM_n (o := 124) (n := 16) u (by omega), gM_n (o := 108) (n := 16) u (by omega), gM_n (o := 272) (n := 4) u (by omega), gM_n (o := 276) (n := 4) u (by omega), gM_n (o := 100) (n := 3) u (by omega), gM_n (o := 236) (n := 24) u (by omega), hM_n u (by omega), rv_ni u (show 149 ≠ 149 ∨ 103 ≠ k from Or.inr (by omega)), rv_ni u (show 149 ≠ 149 ∨ 104 ≠ k from Or.inr (by omega)), rv_ni u (show 149 ≠ 149 ∨ 105 ≠ k from Or.inr (by omega)), rv_ni u (show 149 ≠ 149 ∨ 106 ≠ k from Or.inr (by omega)), rv_ni u (show 149 ≠ 149 ∨ 107 ≠ k from Or.inr (by omega))]
theorem mu_kp {h h2 : im_H} {i k : Nat} {z : Int32} (u : up h h2 149 k (.int z)) (hk : k = 100 + i) (hi : i < 3) : absM h2 = (Dy.s_kp (absM h) (udt (absM h).kp i z)) := by
  unfold absM
  rw [gM_u (o := 100) (n := 3) u hk hi, gM_n (o := 0) (n := 100) u (by omega), gM_n (o := 140) (n := 24) u (by omega), gM_n (o := 188) (n := 24) u (by omega), gM_n (o := 124) (n := 16) u (by omega), gM_n (o := 108) (n := 16) u (by omega), gM_n (o := 272) (n := 4) u (by omega), gM_n (o := 276) (n := 4) u (by omega), gM_n (o := 280) (n := 3) u (by omega), gM_n (o := 236) (n := 24) u (by omega), hM_n u (by omega), rv_ni u (show 149 ≠ 149 ∨ 103 ≠ k from Or.inr (by omega)), rv_ni u (show 149 ≠ 149 ∨ 104 ≠ k from Or.inr (by omega)), rv_ni u (show 149 ≠ 149 ∨ 105 ≠ k from Or.inr (by omega)), rv_ni u (show 149 ≠ 149 ∨ 106 ≠ k from Or.inr (by omega)), rv_ni u (show 149 ≠ 149 ∨ 107 ≠ k from Or.inr (by omega))]
theorem mu_du {h h2 : im_H} {z : Int32} (u : up h h2 149 103 (.int z)) : absM h2 = (Dy.s_du (absM h) (z)) := by
  unfold absM
  rw [gM_n (o := 0) (n := 100) u (by omega), gM_n (o := 140) (n := 24) u (by omega), gM_n (o := 188) (n := 24) u (by omega), gM_n (o := 124) (n := 16) u (by omega), gM_n (o := 108) (n := 16) u (by omega), gM_n (o := 272) (n := 4) u (by omega), gM_n (o := 276) (n := 4) u (by omega), gM_n (o := 280) (n := 3) u (by omega), gM_n (o := 100) (n := 3) u (by omega), gM_n (o := 236) (n := 24) u (by omega), hM_n u (by omega), rv_ni u (show 149 ≠ 149 ∨ 104 ≠ 103 from Or.inr (by decide)), rv_ni u (show 149 ≠ 149 ∨ 105 ≠ 103 from Or.inr (by decide)), rv_ni u (show 149 ≠ 149 ∨ 106 ≠ 103 from Or.inr (by decide)), rv_ni u (show 149 ≠ 149 ∨ 107 ≠ 103 from Or.inr (by decide)), rv_of u.1]
theorem mu_ti {h h2 : im_H} {z : Int32} (u : up h h2 149 104 (.int z)) : absM h2 = (Dy.s_ti (absM h) (z)) := by
  unfold absM
  rw [gM_n (o := 0) (n := 100) u (by omega), gM_n (o := 140) (n := 24) u (by omega), gM_n (o := 188) (n := 24) u (by omega), gM_n (o := 124) (n := 16) u (by omega), gM_n (o := 108) (n := 16) u (by omega), gM_n (o := 272) (n := 4) u (by omega), gM_n (o := 276) (n := 4) u (by omega), gM_n (o := 280) (n := 3) u (by omega), gM_n (o := 100) (n := 3) u (by omega), gM_n (o := 236) (n := 24) u (by omega), hM_n u (by omega), rv_ni u (show 149 ≠ 149 ∨ 103 ≠ 104 from Or.inr (by decide)), rv_ni u (show 149 ≠ 149 ∨ 105 ≠ 104 from Or.inr (by decide)), rv_ni u (show 149 ≠ 149 ∨ 106 ≠ 104 from Or.inr (by decide)), rv_ni u (show 149 ≠ 149 ∨ 107 ≠ 104 from Or.inr (by decide)), rv_of u.1]
theorem mu_da {h h2 : im_H} {z : Int32} (u : up h h2 149 105 (.int z)) : absM h2 = (Dy.s_da (absM h) (z)) := by
  unfold absM
  rw [gM_n (o := 0) (n := 100) u (by omega), gM_n (o := 140) (n := 24) u (by omega), gM_n (o := 188) (n := 24) u (by omega), gM_n (o := 124) (n := 16) u (by omega), gM_n (o := 108) (n := 16) u (by omega), gM_n (o := 272) (n := 4) u (by omega), gM_n (o := 276) (n := 4) u (by omega), gM_n (o := 280) (n := 3) u (by omega), gM_n (o := 100) (n := 3) u (by omega), gM_n (o := 236) (n := 24) u (by omega), hM_n u (by omega), rv_ni u (show 149 ≠ 149 ∨ 103 ≠ 105 from Or.inr (by decide)), rv_ni u (show 149 ≠ 149 ∨ 104 ≠ 105 from Or.inr (by decide)), rv_ni u (show 149 ≠ 149 ∨ 106 ≠ 105 from Or.inr (by decide)), rv_ni u (show 149 ≠ 149 ∨ 107 ≠ 105 from Or.inr (by decide)), rv_of u.1]
theorem mu_we {h h2 : im_H} {z : Int32} (u : up h h2 149 106 (.int z)) : absM h2 = (Dy.s_we (absM h) (z)) := by
  unfold absM
  rw [gM_n (o := 0) (n := 100) u (by omega), gM_n (o := 140) (n := 24) u (by omega), gM_n (o := 188) (n := 24) u (by omega), gM_n (o := 124) (n := 16) u (by omega), gM_n (o := 108) (n := 16) u (by omega), gM_n (o := 272) (n := 4) u (by omega), gM_n (o := 276) (n := 4) u (by omega), gM_n (o := 280) (n := 3) u (by omega), gM_n (o := 100) (n := 3) u (by omega), gM_n (o := 236) (n := 24) u (by omega), hM_n u (by omega), rv_ni u (show 149 ≠ 149 ∨ 103 ≠ 106 from Or.inr (by decide)), rv_ni u (show 149 ≠ 149 ∨ 104 ≠ 106 from Or.inr (by decide)), rv_ni u (show 149 ≠ 149 ∨ 105 ≠ 106 from Or.inr (by decide)), rv_ni u (show 149 ≠ 149 ∨ 107 ≠ 106 from Or.inr (by decide)), rv_of u.1]
theorem mu_wi {h h2 : im_H} {z : Int32} (u : up h h2 149 107 (.int z)) : absM h2 = (Dy.s_wi (absM h) (z)) := by
  unfold absM
  rw [gM_n (o := 0) (n := 100) u (by omega), gM_n (o := 140) (n := 24) u (by omega), gM_n (o := 188) (n := 24) u (by omega), gM_n (o := 124) (n := 16) u (by omega), gM_n (o := 108) (n := 16) u (by omega), gM_n (o := 272) (n := 4) u (by omega), gM_n (o := 276) (n := 4) u (by omega), gM_n (o := 280) (n := 3) u (by omega), gM_n (o := 100) (n := 3) u (by omega), gM_n (o := 236) (n := 24) u (by omega), hM_n u (by omega), rv_ni u (show 149 ≠ 149 ∨ 103 ≠ 107 from Or.inr (by decide)), rv_ni u (show 149 ≠ 149 ∨ 104 ≠ 107 from Or.inr (by decide)), rv_ni u (show 149 ≠ 149 ∨ 105 ≠ 107 from Or.inr (by decide)), rv_ni u (show 149 ≠ 149 ∨ 106 ≠ 107 from Or.inr (by decide)), rv_of u.1]
theorem mu_ha {h h2 : im_H} {i k : Nat} {z : Int32} (u : up h h2 149 k (.int z)) (hk : k = 164 + i) (hi : i < 24) (hd : (rv h 149 (236 + i)).toInt = 0) : absM h2 = (Dy.s_hu (absM h) (udt (absM h).hu i z)) := by
  have ed : rM h2 236 = rM h 236 ∨ True := Or.inr trivial
  have e : mhu (rM h2 236) (rM h2 164) = udt (mhu (rM h 236) (rM h 164)) i z := by
    have e1 : mhu (rM h2 236) (rM h2 164) = mhu (rM h 236) (rM h2 164) := by
      funext m
      unfold mhu rM
      by_cases hc : m < 24
      · rw [rv_ni u (Or.inr (show 236 + m ≠ k by omega))]
      · rw [if_neg (fun q => hc q.1), if_neg (fun q => hc q.1)]
    rw [e1]
    exact mhu_a hi hd (by unfold rM; rw [← hk]; exact rv_of u.1) (fun m hm => by unfold rM; exact rv_ni u (Or.inr (by omega)))
  unfold absM
  rw [gM_n (o := 0) (n := 100) u (by omega), gM_n (o := 140) (n := 24) u (by omega), gM_n (o := 188) (n := 24) u (by omega), gM_n (o := 124) (n := 16) u (by omega), gM_n (o := 108) (n := 16) u (by omega), gM_n (o := 272) (n := 4) u (by omega), gM_n (o := 276) (n := 4) u (by omega), gM_n (o := 280) (n := 3) u (by omega), gM_n (o := 100) (n := 3) u (by omega), gM_n (o := 236) (n := 24) u (by omega), e, rv_ni u (show 149 ≠ 149 ∨ 103 ≠ k from Or.inr (by omega)), rv_ni u (show 149 ≠ 149 ∨ 104 ≠ k from Or.inr (by omega)), rv_ni u (show 149 ≠ 149 ∨ 105 ≠ k from Or.inr (by omega)), rv_ni u (show 149 ≠ 149 ∨ 106 ≠ k from Or.inr (by omega)), rv_ni u (show 149 ≠ 149 ∨ 107 ≠ k from Or.inr (by omega))]
theorem mu_de {h h2 : im_H} {i k : Nat} {z : Int32} (u : up h h2 149 k (.int z)) (hk : k = 236 + i) (hi : i < 24) (hz : z.toInt ≠ 0) : absM h2 = (Dy.s_de (Dy.s_hu (absM h) (udt (absM h).hu i 0)) (udt (absM h).de i z)) := by
  have e : mhu (rM h2 236) (rM h2 164) = udt (mhu (rM h 236) (rM h 164)) i 0 := by
    have e1 : mhu (rM h2 236) (rM h2 164) = mhu (rM h2 236) (rM h 164) := by
      funext m
      unfold mhu rM
      by_cases hc : m < 24
      · rw [rv_ni u (Or.inr (show 164 + m ≠ k by omega))]
      · rw [if_neg (fun q => hc q.1), if_neg (fun q => hc q.1)]
    rw [e1]
    exact mhu_d hz (by unfold rM; rw [← hk]; exact rv_of u.1) (fun m hm => by unfold rM; exact rv_ni u (Or.inr (by omega)))
  unfold absM
  rw [gM_u (o := 236) (n := 24) u hk hi, gM_n (o := 0) (n := 100) u (by omega), gM_n (o := 140) (n := 24) u (by omega), gM_n (o := 188) (n := 24) u (by omega), gM_n (o := 124) (n := 16) u (by omega), gM_n (o := 108) (n := 16) u (by omega), gM_n (o := 272) (n := 4) u (by omega), gM_n (o := 276) (n := 4) u (by omega), gM_n (o := 280) (n := 3) u (by omega), gM_n (o := 100) (n := 3) u (by omega), e, rv_ni u (show 149 ≠ 149 ∨ 103 ≠ k from Or.inr (by omega)), rv_ni u (show 149 ≠ 149 ∨ 104 ≠ k from Or.inr (by omega)), rv_ni u (show 149 ≠ 149 ∨ 105 ≠ k from Or.inr (by omega)), rv_ni u (show 149 ≠ 149 ∨ 106 ≠ k from Or.inr (by omega)), rv_ni u (show 149 ≠ 149 ∨ 107 ≠ k from Or.inr (by omega))]
noncomputable def roR (h : im_H) (p : Nat) : Nat → Nat → Int32
  | 0, _ => -1
  | n + 1, r => @ite _ (∃ i, i < (rv h 161 r).toInt.toNat ∧ (rv h 160 (8 * r + i)).toInt = p) (Classical.propDecidable _) (Int32.ofNat r) (roR h p n (r + 1))
noncomputable def ctX (h : im_H) : Ct := (Ct.mk (gd 100 (rv h 2)) (rv h 1 1) (rv h 1 2) (gd 24 (rv h 3)) (gd 24 (rv h 4)) (gd 24 (rv h 5)) (gd 24 (rv h 6)) (fun r i => if r < 4 ∧ i < 8 then rv h (13 + 2 * r) i else 0) (gd 4 (fun r => rv h (12 + 2 * r) 1)) (gd 4 (fun r => rv h (12 + 2 * r) 2)) (gd 4 (fun r => rv h (12 + 2 * r) 3)) (gd 3 (fun r => rv h (20 + r) 0)) (gd 3 (fun r => rv h (20 + r) 1)) (fun r => if r < 3 ∧ 2 ≤ (rv h (20 + r) 0).toInt then rv h (20 + r) 2 else 0) (fun r => if r < 3 ∧ 2 ≤ (rv h (20 + r) 0).toInt then rv h (20 + r) 3 else 0) (rv h 1 9) (gd 16 (rv h 9)) (gd 16 (rv h 10)) (sdX h))
noncomputable def ctM (h : im_H) : Ct := (Ct.mk (gd 100 (rv h 152)) (rv h 148 9) (rv h 148 10) (gd 24 (rv h 157)) (gd 24 (rv h 158)) (gd 24 (rv h 159)) (gd 24 (fun p => roR h p 4 0)) (fun r i => if r < 4 ∧ i < 8 then rv h 160 (8 * r + i) else 0) (gd 4 (rv h 161)) (gd 4 (rv h 162)) (gd 4 (rv h 163)) (gd 3 (rv h 165)) (gd 3 (rv h 166)) (fun r => if r < 3 ∧ 2 ≤ (rv h 165 r).toInt then rv h 164 (12 * r) else 0) (fun r => if r < 3 ∧ 2 ≤ (rv h 165 r).toInt then rv h 164 (12 * r + ((rv h 165 r).toInt.toNat - 1)) else 0) (rv h 148 21) (gd 16 (rv h 167)) (gd 16 (rv h 168)) (sdM h))
theorem gd_c {n : Nat} {f g : Nat → Int32} (h : ∀ k, k < n → f k = g k) : gd n f = gd n g := by
  funext k
  unfold gd
  by_cases hc : k < n
  · rw [if_pos hc, if_pos hc, h k hc]
  · rw [if_neg hc, if_neg hc]
theorem sdX_e {h H : im_H} (e : ∀ i k, (i < 11 ∨ (11 < i ∧ i < 23) ∨ (98 ≤ i ∧ i < 140)) → rd H i k = rd h i k) : sdX H = sdX h := by
  unfold sdX
  rw [e 1 12 (by omega)]
  have ef : ∀ i, (98 ≤ i ∧ i < 140) → rv H i = rv h i := fun i hi => funext fun k => by unfold rv; rw [e i k (by omega)]
  split
  · rename_i r _
    by_cases hr : 114 ≤ r ∧ r ≤ 149
    · rw [if_pos hr, if_pos hr]
      have hz := (show ∀ m : Nat, (114 ≤ m ∧ m ≤ 149) → (98 ≤ m - 16 ∧ m - 16 < 134) from fun m hm => by omega) r hr
      generalize r - 16 = o at hz
      unfold odX
      rw [ef o (by omega), ef (o + 1) (by omega), ef (o + 2) (by omega), ef (o + 3) (by omega), ef (o + 4) (by omega), ef (o + 5) (by omega), ef (o + 6) (by omega)]
    · rw [if_neg hr, if_neg hr]
  · rfl
theorem ctX_e {h H : im_H} (e : ∀ i k, (i < 11 ∨ (11 < i ∧ i < 23) ∨ (98 ≤ i ∧ i < 140)) → rd H i k = rd h i k) : ctX H = ctX h := by
  have ev : ∀ i k, (i < 11 ∨ (11 < i ∧ i < 23) ∨ (98 ≤ i ∧ i < 140)) → rv H i k = rv h i k := fun i k hi => by unfold rv; rw [e i k hi]
  have ef : ∀ i, (i < 11 ∨ (11 < i ∧ i < 23) ∨ (98 ≤ i ∧ i < 140)) → rv H i = rv h i := fun i hi => funext fun k => ev i k hi
  have e1 : (fun r i => if r < 4 ∧ i < 8 then rv H (13 + 2 * r) i else 0 : Nat → Nat → Int32) = fun r i => if r < 4 ∧ i < 8 then rv h (13 + 2 * r) i else 0 := by
    funext r i
    by_cases hc : r < 4 ∧ i < 8
    · rw [if_pos hc, if_pos hc, ev _ _ (by omega)]
    · rw [if_neg hc, if_neg hc]
  have e2 : (fun r => if r < 3 ∧ 2 ≤ (rv H (20 + r) 0).toInt then rv H (20 + r) 2 else 0 : Nat → Int32) = fun r => if r < 3 ∧ 2 ≤ (rv h (20 + r) 0).toInt then rv h (20 + r) 2 else 0 := by
    funext r
    by_cases hc : r < 3
    · rw [ev (20 + r) 0 (by omega), ev (20 + r) 2 (by omega)]
    · rw [if_neg (fun q => hc q.1), if_neg (fun q => hc q.1)]
  have e3 : (fun r => if r < 3 ∧ 2 ≤ (rv H (20 + r) 0).toInt then rv H (20 + r) 3 else 0 : Nat → Int32) = fun r => if r < 3 ∧ 2 ≤ (rv h (20 + r) 0).toInt then rv h (20 + r) 3 else 0 := by
    funext r
    by_cases hc : r < 3
    · rw [ev (20 + r) 0 (by omega), ev (20 + r) 3 (by omega)]
    · rw [if_neg (fun q => hc q.1), if_neg (fun q => hc q.1)]
  unfold ctX
  rw [ef 2 (by omega), ev 1 1 (by omega), ev 1 2 (by omega), ef 3 (by omega), ef 4 (by omega), ef 5 (by omega), ef 6 (by omega), e1, gd_c (n := 4) (g := fun r => rv h (12 + 2 * r) 1) (fun r hr => ev (12 + 2 * r) 1 (by omega)), gd_c (n := 4) (g := fun r => rv h (12 + 2 * r) 2) (fun r hr => ev (12 + 2 * r) 2 (by omega)), gd_c (n := 4) (g := fun r => rv h (12 + 2 * r) 3) (fun r hr => ev (12 + 2 * r) 3 (by omega)), gd_c (n := 3) (g := fun r => rv h (20 + r) 0) (fun r hr => ev (20 + r) 0 (by omega)), gd_c (n := 3) (g := fun r => rv h (20 + r) 1) (fun r hr => ev (20 + r) 1 (by omega)), e2, e3, ev 1 9 (by omega), ef 9 (by omega), ef 10 (by omega), sdX_e e]
theorem ctM_e {h H : im_H} (e : ∀ i k, ((i = 148 ∧ k < 61) ∨ (152 ≤ i ∧ i < 192)) → rd H i k = rd h i k) : ctM H = ctM h := by
  have ev : ∀ i k, ((i = 148 ∧ k < 61) ∨ (152 ≤ i ∧ i < 192)) → rv H i k = rv h i k := fun i k hi => by unfold rv; rw [e i k hi]
  have ef : ∀ i, (152 ≤ i ∧ i < 192) → rv H i = rv h i := fun i hi => funext fun k => ev i k (Or.inr hi)
  have er : ∀ p n r, roR H p n r = roR h p n r := by
    intro p n
    induction n with
    | zero => intro r; rfl
    | succ n ih =>
      intro r
      unfold roR
      rw [ef 161 (by omega), ef 160 (by omega), ih]
  have es : sdM H = sdM h := by
    unfold sdM odM
    rw [ev 148 47 (by omega), ef 185 (by omega), ef 186 (by omega), ef 187 (by omega), ef 188 (by omega), ef 189 (by omega), ef 190 (by omega), ef 191 (by omega)]
  unfold ctM
  rw [ef 152 (by omega), ev 148 9 (by omega), ev 148 10 (by omega), ef 157 (by omega), ef 158 (by omega), ef 159 (by omega), ef 160 (by omega), ef 161 (by omega), ef 162 (by omega), ef 163 (by omega), ef 164 (by omega), ef 165 (by omega), ef 166 (by omega), ev 148 21 (by omega), ef 167 (by omega), ef 168 (by omega), es, show (fun p => roR H p 4 0) = fun p => roR h p 4 0 from funext fun p => er p 4 0]
theorem inF_no {F : List (Nat × Nat × Nat)} {i k : Nat} (h : ∀ q ∈ F, ¬ q.1 = i) : inF F i k = false := by
  unfold inF
  rw [List.any_eq_false]
  intro q hq
  simp [h q hq]
theorem inF_no2 {F : List (Nat × Nat × Nat)} {i k : Nat} (h : ∀ q ∈ F, ¬ (q.1 = i ∧ q.2.1 ≤ k)) : inF F i k = false := by
  unfold inF
  rw [List.any_eq_false]
  intro q hq
  have h9 := h q hq
  intro hc
  simp at hc
  exact h9 ⟨hc.1.1, hc.1.2⟩
def stF (F : List (Nat × Nat × Nat)) : Bool := F.all (fun q => decide (q.1 = 11) || (decide (23 ≤ q.1) && decide (q.1 < 65)))
def stM (F : List (Nat × Nat × Nat)) : Bool := F.all (fun q => decide (q.1 = 149) || (decide (q.1 = 148) && decide (61 ≤ q.2.1)))
theorem ctX_fr {F : List (Nat × Nat × Nat)} {h H : im_H} (f : fr F h H) (a : stF F = true) : ctX H = ctX h := ctX_e (fun i k hi => f _ _ (inF_no (fun q hq e => by
  have := (List.all_eq_true.mp a) q hq
  simp at this
  omega)))
theorem ctM_fr {F : List (Nat × Nat × Nat)} {h H : im_H} (f : fr F h H) (a : stM F = true) : ctM H = ctM h := ctM_e (fun i k hi => f _ _ (inF_no2 (fun q hq e => by
  have := (List.all_eq_true.mp a) q hq
  simp at this
  omega)))
theorem absX_fr {F : List (Nat × Nat × Nat)} {h H : im_H} {s : Nat} (f : fr F h H) (a : ∀ q ∈ F, q.1 < s ∨ s + 14 ≤ q.1) : absX H s = absX h s := by
  have ef : ∀ d, d < 14 → rv H (s + d) = rv h (s + d) := fun d hd => funext fun k => by unfold rv; rw [f _ _ (inF_no (fun q hq e => by have := a q hq; omega))]
  have e0 : rv H s = rv h s := ef 0 (by omega)
  unfold absX
  rw [ef 1 (by omega), ef 2 (by omega), ef 3 (by omega), ef 4 (by omega), ef 5 (by omega), ef 7 (by omega), ef 8 (by omega), ef 9 (by omega), ef 11 (by omega), ef 12 (by omega), ef 13 (by omega), e0]
theorem absM_fr {F : List (Nat × Nat × Nat)} {h H : im_H} (f : fr F h H) (a : ∀ q ∈ F, q.1 ≠ 149) : absM H = absM h := by
  have e : rv H 149 = rv h 149 := funext fun k => by unfold rv; rw [f _ _ (inF_no (fun q hq e => a q hq e))]
  have er : ∀ o, rM H o = rM h o := fun o => by unfold rM; rw [e]
  unfold absM
  rw [er, er, er, er, er, er, er, er, er, er, er, e]
theorem rv11 {h H : im_H} {i : Nat} (f : fr F_X0_said h H) (hi : i ≠ 11) : rv H i = rv h i := funext fun k => by
  unfold rv
  rw [f _ _ (inF_no (fun q hq e => by simp [F_X0_said] at hq; rw [hq] at e; exact hi e.symm))]
theorem sd_fr {h H : im_H} {s p : Nat} {key : Int32} (f : fr F_X0_said h H) (hs : 11 < s) : sdX H (fcs (rv H 3 p) (rv H 4 p) (rv H 5 p) (rv H (s + 4) p) (rv H s 1) (rv H s 2) (rv H s 0) (rv H (s + 5) p)) key = sdX h (fcs (rv h 3 p) (rv h 4 p) (rv h 5 p) (rv h (s + 4) p) (rv h s 1) (rv h s 2) (rv h s 0) (rv h (s + 5) p)) key := by
  rw [rv11 f (show 3 ≠ 11 by decide), rv11 f (show 4 ≠ 11 by decide), rv11 f (show 5 ≠ 11 by decide), rv11 f (show s + 4 ≠ 11 by omega), rv11 f (show s + 5 ≠ 11 by omega), rv11 f (show s ≠ 11 by omega), sdX_e (h := h) (H := H) (fun i k hi => f _ _ (inF_no (fun q hq e => by simp [F_X0_said] at hq; rw [hq] at e; simp at e; omega)))]
theorem fcA_X {h : im_H} {s p : Nat} (hp : p < 24) (hd : (rv h (s + 7) p).toInt = 0) : fcA (ctX h) (absX h s) p = (fcs (rv h 3 p) (rv h 4 p) (rv h 5 p) (rv h (s + 4) p) (rv h s 1) (rv h s 2) (rv h s 0) (rv h (s + 5) p)) := by
  unfold fcA
  show fcs (gd 24 (rv h 3) p) (gd 24 (rv h 4) p) (gd 24 (rv h 5) p) (mhu (rv h (s + 7)) (rv h (s + 4)) p) _ _ _ (gd 24 (rv h (s + 5)) p) = _
  rw [gd_at hp, gd_at hp, gd_at hp, gd_at hp, show mhu (rv h (s + 7)) (rv h (s + 4)) p = rv h (s + 4) p from if_pos ⟨hp, hd⟩]
  rfl
set_option maxRecDepth 20000 in
set_option maxHeartbeats 4000000 in
theorem c_X1_holds {o : Nat} {line : Int32} {h : im_H} (hI : tI h) (q_o : o = 98 ∨ o = 105 ∨ o = 112 ∨ o = 119 ∨ o = 126 ∨ o = 133) (p_line0 : 0 ≤ line.toInt) (p_line1 : line.toInt ≤ 7) : CaP 1 18 [.ref (16 + o), .int line, .ref 27] h (pI h (fun y => ∀ fc : Nat → Int32, (∀ j, j < 8 → rv h 11 j = fc j) → ((y = 1 ∧ hld fc (rv h (o + 4)) (rv h (o + 5)) (rv h (o + 6)) (3 * line.toInt.toNat) (rv h (o + 3) line.toInt.toNat).toInt.toNat) ∨ (y = 0 ∧ ¬ hld fc (rv h (o + 4)) (rv h (o + 5)) (rv h (o + 6)) (3 * line.toInt.toNat) (rv h (o + 3) line.toInt.toNat).toInt.toNat)))) := by
  refine cap_of (d := 0) (M := mX1_holds) rfl (Nat.le_of_ble_eq_true rfl) ?_
  show EvP im_K0 0 mX1_holds (0, [(0, .ref (16 + o)), (1, .int line), (2, .ref 27)], [], h) _
  refine te_iconst (p2 := 1) (x := 0) rfl rfl (by decide) ?_
  refine te_istore_n (p2 := 2) (lv2 := [(3, .int 0), (0, .ref (16 + o)), (1, .int line), (2, .ref 27)]) rfl rfl (by decide) rfl ?_
  have lp1 : ∀ (n1 : Nat) (v1_3 : Int32) , 0 ≤ v1_3.toInt → v1_3.toInt ≤ 3 → (∀ fc : Nat → Int32, (∀ j, j < 8 → rv h 11 j = fc j) → ∀ i, i < v1_3.toInt.toNat → ts1 (fc (rv h (o + 4) (3 * line.toInt.toNat + i)).toInt.toNat) (rv h (o + 5) (3 * line.toInt.toNat + i)) (rv h (o + 6) (3 * line.toInt.toNat + i))) → 3 - v1_3.toInt < (n1 : Int) → EvP im_K0 0 mX1_holds (2, [(0, .ref (16 + o)), (1, .int line), (2, .ref 27), (3, .int v1_3)], [], h) (pI h (fun y => ∀ fc : Nat → Int32, (∀ j, j < 8 → rv h 11 j = fc j) → ((y = 1 ∧ hld fc (rv h (o + 4)) (rv h (o + 5)) (rv h (o + 6)) (3 * line.toInt.toNat) (rv h (o + 3) line.toInt.toNat).toInt.toNat) ∨ (y = 0 ∧ ¬ hld fc (rv h (o + 4)) (rv h (o + 5)) (rv h (o + 6)) (3 * line.toInt.toNat) (rv h (o + 3) line.toInt.toNat).toInt.toNat)))) := by
    intro n1
    induction n1 with
    | zero => intro v1_3 a1_3 b1_3 w1_0 m1; exfalso; omega
    | succ n1 ih1 =>
      intro v1_3 a1_3 b1_3 w1_0 m1
      refine te_iload_n (p2 := 3) rfl rfl rfl ?_
      refine te_aload_n (p2 := 4) rfl rfl rfl ?_
      refine tg_r (p2 := 7) (i := o) (r := (16 + (o + 3))) rfl rfl hI rfl (by rcases q_o with rfl | rfl | rfl | rfl | rfl | rfl <;> rfl) (by rcases q_o with rfl | rfl | rfl | rfl | rfl | rfl <;> rfl) ?_
      refine te_iload_n (p2 := 8) rfl rfl rfl ?_
      refine tl_i (p2 := 9) (i := (o + 3)) (n := 8) rfl rfl hI rfl (by rcases q_o with rfl | rfl | rfl | rfl | rfl | rfl <;> rfl) (by rcases q_o with rfl | rfl | rfl | rfl | rfl | rfl <;> rfl) rfl (by omega) (by omega) (fun y2 a2 b2 g2 e2 => ?_)
      refine tb_ge (p2 := 12) rfl rfl rfl rfl (fun c3 => ?_) (fun c3 => ?_)
      · refine te_iconst (p2 := 108) (x := 1) rfl rfl (by decide) ?_
        exact te_zret rfl rfl (by decide) ⟨rfl, _, rfl, (fun fc hf => Or.inl ⟨rfl, fun i hi => w1_0 fc hf i (by rw [rv_of e2] at hi; omega)⟩)⟩
      · refine te_iconst (p2 := 13) (x := 3) rfl rfl (by decide) ?_
        refine te_iload_n (p2 := 14) rfl rfl rfl ?_
        refine ar_mul (p2 := 15) rfl rfl (show Int32.toInt 3 = 3 from rfl) rfl (by omega) (by omega) (fun z4 e4 f4 => ?_)
        refine te_iload_n (p2 := 16) rfl rfl rfl ?_
        refine ar_add (p2 := 17) rfl rfl rfl rfl (by omega) (by omega) (fun z5 e5 f5 => ?_)
        refine te_istore (p2 := 19) (lv2 := [(4, .int z5), (0, .ref (16 + o)), (1, .int line), (2, .ref 27), (3, .int v1_3)]) rfl rfl (by decide) rfl ?_
        refine te_aload_n (p2 := 20) rfl rfl rfl ?_
        refine te_aload_n (p2 := 21) rfl rfl rfl ?_
        refine tg_r (p2 := 24) (i := o) (r := (16 + (o + 4))) rfl rfl hI rfl (by rcases q_o with rfl | rfl | rfl | rfl | rfl | rfl <;> rfl) (by rcases q_o with rfl | rfl | rfl | rfl | rfl | rfl <;> rfl) ?_
        refine te_iload (p2 := 26) rfl rfl rfl ?_
        refine tl_i (p2 := 27) (i := (o + 4)) (n := 24) rfl rfl hI rfl (by rcases q_o with rfl | rfl | rfl | rfl | rfl | rfl <;> rfl) (by rcases q_o with rfl | rfl | rfl | rfl | rfl | rfl <;> rfl) rfl (by omega) (by omega) (fun y6 a6 b6 g6 e6 => ?_)
        have j7 : z5.toInt.toNat = 3 * line.toInt.toNat + v1_3.toInt.toNat := by omega
        have t7 : 0 ≤ y6.toInt := hI.2.2 o line.toInt.toNat v1_3.toInt.toNat y2 y6 (by rcases q_o with rfl | rfl | rfl | rfl | rfl | rfl <;> decide) (by omega) e2 (by omega) (by omega) (by rw [← j7]; exact e6)
        refine tl_i (p2 := 28) (i := 11) (n := 8) rfl rfl hI rfl rfl rfl rfl (by omega) (by omega) (fun y8 a8 b8 g8 e8 => ?_)
        refine te_istore (p2 := 30) (lv2 := [(5, .int y8), (4, .int z5), (0, .ref (16 + o)), (1, .int line), (2, .ref 27), (3, .int v1_3)]) rfl rfl (by decide) rfl ?_
        refine te_aload_n (p2 := 31) rfl rfl rfl ?_
        refine tg_r (p2 := 34) (i := o) (r := (16 + (o + 6))) rfl rfl hI rfl (by rcases q_o with rfl | rfl | rfl | rfl | rfl | rfl <;> rfl) (by rcases q_o with rfl | rfl | rfl | rfl | rfl | rfl <;> rfl) ?_
        refine te_iload (p2 := 36) rfl rfl rfl ?_
        refine tl_i (p2 := 37) (i := (o + 6)) (n := 24) rfl rfl hI rfl (by rcases q_o with rfl | rfl | rfl | rfl | rfl | rfl <;> rfl) (by rcases q_o with rfl | rfl | rfl | rfl | rfl | rfl <;> rfl) rfl (by omega) (by omega) (fun y9 a9 b9 g9 e9 => ?_)
        refine te_istore (p2 := 39) (lv2 := [(6, .int y9), (5, .int y8), (4, .int z5), (0, .ref (16 + o)), (1, .int line), (2, .ref 27), (3, .int v1_3)]) rfl rfl (by decide) rfl ?_
        refine te_iload (p2 := 41) rfl rfl rfl ?_
        refine te_iload (p2 := 43) rfl rfl rfl ?_
        refine tb_ne (p2 := 46) rfl rfl rfl rfl (fun c10 => ?_) (fun c10 => ?_)
        · refine te_aload_n (p2 := 66) rfl rfl rfl ?_
          refine tg_r (p2 := 69) (i := o) (r := (16 + (o + 5))) rfl rfl hI rfl (by rcases q_o with rfl | rfl | rfl | rfl | rfl | rfl <;> rfl) (by rcases q_o with rfl | rfl | rfl | rfl | rfl | rfl <;> rfl) ?_
          refine te_iload (p2 := 71) rfl rfl rfl ?_
          refine tl_i (p2 := 72) (i := (o + 5)) (n := 24) rfl rfl hI rfl (by rcases q_o with rfl | rfl | rfl | rfl | rfl | rfl <;> rfl) (by rcases q_o with rfl | rfl | rfl | rfl | rfl | rfl <;> rfl) rfl (by omega) (by omega) (fun y11 a11 b11 g11 e11 => ?_)
          refine te_iload (p2 := 74) rfl rfl rfl ?_
          refine te_iload (p2 := 76) rfl rfl rfl ?_
          refine tb_ge (p2 := 79) rfl rfl rfl rfl (fun c12 => ?_) (fun c12 => ?_)
          · refine te_iconst (p2 := 84) (x := 1) rfl rfl (by decide) ?_
            refine tb_eq (p2 := 87) rfl rfl rfl (show Int32.toInt 1 = 1 from rfl) (fun c13 => ?_) (fun c13 => ?_)
            · refine te_iconst (p2 := 92) (x := 0) rfl rfl (by decide) ?_
              refine te_istore (p2 := 94) (lv2 := [(7, .int 0), (6, .int y9), (5, .int y8), (4, .int z5), (0, .ref (16 + o)), (1, .int line), (2, .ref 27), (3, .int v1_3)]) rfl rfl (by decide) rfl ?_
              refine te_iload (p2 := 96) rfl rfl rfl ?_
              refine tz_eq (p2 := 99) rfl rfl (show Int32.toInt 0 = 0 from rfl) (fun c14 => ?_) (fun c14 => absurd c14 (by omega))
              refine ar_inc (p2 := 104) (x := v1_3) rfl rfl (by decide) rfl (by decide) rfl (by omega) (by omega) (fun z15 e15 f15 => ?_)
              show EvP _ _ _ (104, [(3, .int z15), (7, .int 0), (6, .int y9), (5, .int y8), (4, .int z5), (0, .ref (16 + o)), (1, .int line), (2, .ref 27)], [], h) _
              refine te_goto rfl ?_
              refine te_lv [(0, .ref (16 + o)), (1, .int line), (2, .ref 27), (3, .int z15)] rfl rfl ⟨rfl, rfl, rfl, rfl, trivial⟩ ?_
              exact ih1 z15 (by omega) (by omega) (fun fc hf i hi => by (by_cases hc : i = v1_3.toInt.toNat); (· rw [hc, show 3 * line.toInt.toNat + v1_3.toInt.toNat = z5.toInt.toNat by omega, rv_of e6, rv_of e11, rv_of e9, ← hf y6.toInt.toNat (by omega), rv_of e8]; unfold ts1; omega); (· exact w1_0 fc hf i (by omega))) (by omega)
            · refine te_iconst (p2 := 88) (x := 1) rfl rfl (by decide) ?_
              refine te_goto rfl ?_
              refine te_istore (p2 := 94) (lv2 := [(7, .int 1), (6, .int y9), (5, .int y8), (4, .int z5), (0, .ref (16 + o)), (1, .int line), (2, .ref 27), (3, .int v1_3)]) rfl rfl (by decide) rfl ?_
              refine te_iload (p2 := 96) rfl rfl rfl ?_
              refine tz_eq (p2 := 99) rfl rfl (show Int32.toInt 1 = 1 from rfl) (fun c16 => absurd c16 (by omega)) (fun c16 => ?_)
              refine te_iconst (p2 := 100) (x := 0) rfl rfl (by decide) ?_
              exact te_zret rfl rfl (by decide) ⟨rfl, _, rfl, (fun fc hf => Or.inr ⟨rfl, fun q => by (have h9 := q v1_3.toInt.toNat (by rw [rv_of e2]; omega)); rw [show 3 * line.toInt.toNat + v1_3.toInt.toNat = z5.toInt.toNat by omega, rv_of e6, rv_of e11, rv_of e9, ← hf y6.toInt.toNat (by omega), rv_of e8] at h9; unfold ts1 at h9; omega⟩)⟩
          · refine te_iconst (p2 := 80) (x := 0) rfl rfl (by decide) ?_
            refine te_goto rfl ?_
            refine tb_eq (p2 := 87) rfl rfl rfl (show Int32.toInt 0 = 0 from rfl) (fun c17 => ?_) (fun c17 => ?_)
            · refine te_iconst (p2 := 92) (x := 0) rfl rfl (by decide) ?_
              refine te_istore (p2 := 94) (lv2 := [(7, .int 0), (6, .int y9), (5, .int y8), (4, .int z5), (0, .ref (16 + o)), (1, .int line), (2, .ref 27), (3, .int v1_3)]) rfl rfl (by decide) rfl ?_
              refine te_iload (p2 := 96) rfl rfl rfl ?_
              refine tz_eq (p2 := 99) rfl rfl (show Int32.toInt 0 = 0 from rfl) (fun c18 => ?_) (fun c18 => absurd c18 (by omega))
              refine ar_inc (p2 := 104) (x := v1_3) rfl rfl (by decide) rfl (by decide) rfl (by omega) (by omega) (fun z19 e19 f19 => ?_)
              show EvP _ _ _ (104, [(3, .int z19), (7, .int 0), (6, .int y9), (5, .int y8), (4, .int z5), (0, .ref (16 + o)), (1, .int line), (2, .ref 27)], [], h) _
              refine te_goto rfl ?_
              refine te_lv [(0, .ref (16 + o)), (1, .int line), (2, .ref 27), (3, .int z19)] rfl rfl ⟨rfl, rfl, rfl, rfl, trivial⟩ ?_
              exact ih1 z19 (by omega) (by omega) (fun fc hf i hi => by (by_cases hc : i = v1_3.toInt.toNat); (· rw [hc, show 3 * line.toInt.toNat + v1_3.toInt.toNat = z5.toInt.toNat by omega, rv_of e6, rv_of e11, rv_of e9, ← hf y6.toInt.toNat (by omega), rv_of e8]; unfold ts1; omega); (· exact w1_0 fc hf i (by omega))) (by omega)
            · refine te_iconst (p2 := 88) (x := 1) rfl rfl (by decide) ?_
              refine te_goto rfl ?_
              refine te_istore (p2 := 94) (lv2 := [(7, .int 1), (6, .int y9), (5, .int y8), (4, .int z5), (0, .ref (16 + o)), (1, .int line), (2, .ref 27), (3, .int v1_3)]) rfl rfl (by decide) rfl ?_
              refine te_iload (p2 := 96) rfl rfl rfl ?_
              refine tz_eq (p2 := 99) rfl rfl (show Int32.toInt 1 = 1 from rfl) (fun c20 => absurd c20 (by omega)) (fun c20 => ?_)
              refine te_iconst (p2 := 100) (x := 0) rfl rfl (by decide) ?_
              exact te_zret rfl rfl (by decide) ⟨rfl, _, rfl, (fun fc hf => Or.inr ⟨rfl, fun q => by (have h9 := q v1_3.toInt.toNat (by rw [rv_of e2]; omega)); rw [show 3 * line.toInt.toNat + v1_3.toInt.toNat = z5.toInt.toNat by omega, rv_of e6, rv_of e11, rv_of e9, ← hf y6.toInt.toNat (by omega), rv_of e8] at h9; unfold ts1 at h9; omega⟩)⟩
        · refine te_aload_n (p2 := 47) rfl rfl rfl ?_
          refine tg_r (p2 := 50) (i := o) (r := (16 + (o + 5))) rfl rfl hI rfl (by rcases q_o with rfl | rfl | rfl | rfl | rfl | rfl <;> rfl) (by rcases q_o with rfl | rfl | rfl | rfl | rfl | rfl <;> rfl) ?_
          refine te_iload (p2 := 52) rfl rfl rfl ?_
          refine tl_i (p2 := 53) (i := (o + 5)) (n := 24) rfl rfl hI rfl (by rcases q_o with rfl | rfl | rfl | rfl | rfl | rfl <;> rfl) (by rcases q_o with rfl | rfl | rfl | rfl | rfl | rfl <;> rfl) rfl (by omega) (by omega) (fun y21 a21 b21 g21 e21 => ?_)
          refine te_iconst (p2 := 54) (x := 2) rfl rfl (by decide) ?_
          refine tb_eq (p2 := 57) rfl rfl rfl (show Int32.toInt 2 = 2 from rfl) (fun c22 => ?_) (fun c22 => ?_)
          · refine te_iconst (p2 := 62) (x := 0) rfl rfl (by decide) ?_
            refine te_goto rfl ?_
            refine te_istore (p2 := 94) (lv2 := [(7, .int 0), (6, .int y9), (5, .int y8), (4, .int z5), (0, .ref (16 + o)), (1, .int line), (2, .ref 27), (3, .int v1_3)]) rfl rfl (by decide) rfl ?_
            refine te_iload (p2 := 96) rfl rfl rfl ?_
            refine tz_eq (p2 := 99) rfl rfl (show Int32.toInt 0 = 0 from rfl) (fun c23 => ?_) (fun c23 => absurd c23 (by omega))
            refine ar_inc (p2 := 104) (x := v1_3) rfl rfl (by decide) rfl (by decide) rfl (by omega) (by omega) (fun z24 e24 f24 => ?_)
            show EvP _ _ _ (104, [(3, .int z24), (7, .int 0), (6, .int y9), (5, .int y8), (4, .int z5), (0, .ref (16 + o)), (1, .int line), (2, .ref 27)], [], h) _
            refine te_goto rfl ?_
            refine te_lv [(0, .ref (16 + o)), (1, .int line), (2, .ref 27), (3, .int z24)] rfl rfl ⟨rfl, rfl, rfl, rfl, trivial⟩ ?_
            exact ih1 z24 (by omega) (by omega) (fun fc hf i hi => by (by_cases hc : i = v1_3.toInt.toNat); (· rw [hc, show 3 * line.toInt.toNat + v1_3.toInt.toNat = z5.toInt.toNat by omega, rv_of e6, rv_of e21, rv_of e9, ← hf y6.toInt.toNat (by omega), rv_of e8]; unfold ts1; omega); (· exact w1_0 fc hf i (by omega))) (by omega)
          · refine te_iconst (p2 := 58) (x := 1) rfl rfl (by decide) ?_
            refine te_goto rfl ?_
            refine te_istore (p2 := 94) (lv2 := [(7, .int 1), (6, .int y9), (5, .int y8), (4, .int z5), (0, .ref (16 + o)), (1, .int line), (2, .ref 27), (3, .int v1_3)]) rfl rfl (by decide) rfl ?_
            refine te_iload (p2 := 96) rfl rfl rfl ?_
            refine tz_eq (p2 := 99) rfl rfl (show Int32.toInt 1 = 1 from rfl) (fun c25 => absurd c25 (by omega)) (fun c25 => ?_)
            refine te_iconst (p2 := 100) (x := 0) rfl rfl (by decide) ?_
            exact te_zret rfl rfl (by decide) ⟨rfl, _, rfl, (fun fc hf => Or.inr ⟨rfl, fun q => by (have h9 := q v1_3.toInt.toNat (by rw [rv_of e2]; omega)); rw [show 3 * line.toInt.toNat + v1_3.toInt.toNat = z5.toInt.toNat by omega, rv_of e6, rv_of e21, rv_of e9, ← hf y6.toInt.toNat (by omega), rv_of e8] at h9; unfold ts1 at h9; omega⟩)⟩
  refine te_lv [(0, .ref (16 + o)), (1, .int line), (2, .ref 27), (3, .int 0)] rfl rfl ⟨rfl, rfl, rfl, rfl, trivial⟩ ?_
  exact lp1 4 0 (by decide) (by decide) (fun fc hf i hi => absurd hi (Nat.not_lt_zero i)) (by have cc0 := (show Int32.toInt 0 = 0 from rfl); omega)
set_option maxRecDepth 20000 in
set_option maxHeartbeats 4000000 in
theorem c_X0_said {s : Nat} {p : Int32} {key : Int32} {h : im_H} (hI : tI h) (q_s : s = 23 ∨ s = 37 ∨ s = 51) (p_p0 : 0 ≤ p.toInt) (p_p1 : p.toInt ≤ 23) : CaP 2 3 [.ref 17, .ref (16 + s), .int p, .int key] h (fun v h2 => tI h2 ∧ fr F_X0_said h h2 ∧ ∃ y : Int32, v = some (.int y) ∧ y = sdX h (fcs (rv h 3 p.toInt.toNat) (rv h 4 p.toInt.toNat) (rv h 5 p.toInt.toNat) (rv h (s + 4) p.toInt.toNat) (rv h s 1) (rv h s 2) (rv h s 0) (rv h (s + 5) p.toInt.toNat)) key) := by
  refine cap_of (d := 1) (M := mX0_said) rfl (Nat.le_of_ble_eq_true rfl) ?_
  show EvP im_K0 1 mX0_said (0, [(0, .ref 17), (1, .ref (16 + s)), (2, .int p), (3, .int key)], [], h) _
  have f0 : fr F_X0_said h h := fr_rf
  refine te_aload_n (p2 := 1) rfl rfl rfl ?_
  refine tg_n (p2 := 4) (i := 1) rfl rfl hI rfl rfl rfl (fun e1 => ?_) (fun r1 m1 e1 => ?_)
  · refine tn_null (p2 := 7) rfl rfl ?_
    refine te_iload_n (p2 := 8) rfl rfl rfl ?_
    refine tz_ne (p2 := 11) rfl rfl rfl (fun c2 => ?_) (fun c2 => ?_)
    · refine te_iload_n (p2 := 17) rfl rfl rfl ?_
      refine te_iconst (p2 := 18) (x := 1) rfl rfl (by decide) ?_
      refine tb_ne (p2 := 21) rfl rfl rfl (show Int32.toInt 1 = 1 from rfl) (fun c3 => ?_) (fun c3 => ?_)
      · refine te_iconst (p2 := 26) (x := 0) rfl rfl (by decide) ?_
        exact te_iret rfl rfl ⟨hI, f0, _, rfl, (by unfold sdX; rw [e1]; show _ = nos key; unfold nos; (repeat' split) <;> first | (exfalso; omega) | rfl)⟩
      · refine te_iconst (p2 := 22) (x := 1) rfl rfl (by decide) ?_
        refine te_goto rfl ?_
        exact te_iret rfl rfl ⟨hI, f0, _, rfl, (by unfold sdX; rw [e1]; show _ = nos key; unfold nos; (repeat' split) <;> first | (exfalso; omega) | rfl)⟩
    · refine te_bipush (p2 := 13) (x := 8) rfl rfl (by decide) ?_
      refine te_goto rfl ?_
      exact te_iret rfl rfl ⟨hI, f0, _, rfl, (by unfold sdX; rw [e1]; show _ = nos key; unfold nos; (repeat' split) <;> first | (exfalso; omega) | rfl)⟩
  · obtain ⟨o1, w1, q1⟩ : ∃ o : Nat, r1 = 16 + o ∧ (o = 98 ∨ o = 105 ∨ o = 112 ∨ o = 119 ∨ o = 126 ∨ o = 133) := by simp only [List.mem_cons, List.not_mem_nil, or_false] at m1; exact ⟨r1 - 16, by omega, by omega⟩
    subst w1
    refine tn_ref rfl ?_
    refine te_aload_n (p2 := 28) rfl rfl rfl ?_
    refine tg_r (p2 := 31) (i := 1) (r := 27) rfl rfl hI rfl rfl rfl ?_
    refine te_iconst (p2 := 32) (x := 0) rfl rfl (by decide) ?_
    refine te_aload_n (p2 := 33) rfl rfl rfl ?_
    refine tg_r (p2 := 36) (i := 1) (r := 19) rfl rfl hI rfl rfl rfl ?_
    refine te_iload_n (p2 := 37) rfl rfl rfl ?_
    refine tl_i (p2 := 38) (i := 3) (n := 24) rfl rfl hI rfl rfl rfl rfl (by omega) (by omega) (fun y4 a4 b4 g4 e4 => ?_)
    refine ts_i (p2 := 39) (i := 11) (n := 8) rfl rfl hI rfl rfl rfl rfl (by decide) (by decide) (i32_lo _) (i32_hi _) (i32_ho _) rfl (fun h5 I5 u5 => ?_)
    have f5 := fr_st (F := F_X0_said) 0 f0 u5 rfl (by decide) (by decide)
    refine te_aload_n (p2 := 40) rfl rfl rfl ?_
    refine tg_r (p2 := 43) (i := 1) (r := 27) rfl rfl I5 rfl rfl rfl ?_
    refine te_iconst (p2 := 44) (x := 1) rfl rfl (by decide) ?_
    refine te_aload_n (p2 := 45) rfl rfl rfl ?_
    refine tg_r (p2 := 48) (i := 1) (r := 20) rfl rfl I5 rfl rfl rfl ?_
    refine te_iload_n (p2 := 49) rfl rfl rfl ?_
    refine tl_i (p2 := 50) (i := 4) (n := 24) rfl rfl I5 rfl rfl rfl rfl (by omega) (by omega) (fun y6 a6 b6 g6 e6 => ?_)
    refine ts_i (p2 := 51) (i := 11) (n := 8) rfl rfl I5 rfl rfl rfl rfl (by decide) (by decide) (i32_lo _) (i32_hi _) (i32_ho _) rfl (fun h7 I7 u7 => ?_)
    have f7 := fr_st (F := F_X0_said) 0 f5 u7 rfl (by decide) (by decide)
    refine te_aload_n (p2 := 52) rfl rfl rfl ?_
    refine tg_r (p2 := 55) (i := 1) (r := 27) rfl rfl I7 rfl rfl rfl ?_
    refine te_iconst (p2 := 56) (x := 2) rfl rfl (by decide) ?_
    refine te_aload_n (p2 := 57) rfl rfl rfl ?_
    refine tg_r (p2 := 60) (i := 1) (r := 21) rfl rfl I7 rfl rfl rfl ?_
    refine te_iload_n (p2 := 61) rfl rfl rfl ?_
    refine tl_i (p2 := 62) (i := 5) (n := 24) rfl rfl I7 rfl rfl rfl rfl (by omega) (by omega) (fun y8 a8 b8 g8 e8 => ?_)
    refine ts_i (p2 := 63) (i := 11) (n := 8) rfl rfl I7 rfl rfl rfl rfl (by decide) (by decide) (i32_lo _) (i32_hi _) (i32_ho _) rfl (fun h9 I9 u9 => ?_)
    have f9 := fr_st (F := F_X0_said) 0 f7 u9 rfl (by decide) (by decide)
    refine te_aload_n (p2 := 64) rfl rfl rfl ?_
    refine tg_r (p2 := 67) (i := 1) (r := 27) rfl rfl I9 rfl rfl rfl ?_
    refine te_iconst (p2 := 68) (x := 3) rfl rfl (by decide) ?_
    refine te_aload_n (p2 := 69) rfl rfl rfl ?_
    refine tg_r (p2 := 72) (i := s) (r := (16 + (s + 4))) rfl rfl I9 rfl (by rcases q_s with rfl | rfl | rfl <;> rfl) (by rcases q_s with rfl | rfl | rfl <;> rfl) ?_
    refine te_iload_n (p2 := 73) rfl rfl rfl ?_
    refine tl_i (p2 := 74) (i := (s + 4)) (n := 24) rfl rfl I9 rfl (by rcases q_s with rfl | rfl | rfl <;> rfl) (by rcases q_s with rfl | rfl | rfl <;> rfl) rfl (by omega) (by omega) (fun y10 a10 b10 g10 e10 => ?_)
    refine ts_i (p2 := 75) (i := 11) (n := 8) rfl rfl I9 rfl rfl rfl rfl (by decide) (by decide) (i32_lo _) (i32_hi _) (i32_ho _) rfl (fun h11 I11 u11 => ?_)
    have f11 := fr_st (F := F_X0_said) 0 f9 u11 rfl (by decide) (by decide)
    refine te_aload_n (p2 := 76) rfl rfl rfl ?_
    refine tg_r (p2 := 79) (i := 1) (r := 27) rfl rfl I11 rfl rfl rfl ?_
    refine te_iconst (p2 := 80) (x := 4) rfl rfl (by decide) ?_
    refine te_aload_n (p2 := 81) rfl rfl rfl ?_
    refine tg_i (p2 := 84) (i := s) rfl rfl I11 rfl (by rcases q_s with rfl | rfl | rfl <;> rfl) (by rcases q_s with rfl | rfl | rfl <;> rfl) (fun y12 a12 b12 e12 => ?_)
    refine ts_i (p2 := 85) (i := 11) (n := 8) rfl rfl I11 rfl rfl rfl rfl (by decide) (by decide) (i32_lo _) (i32_hi _) (i32_ho _) rfl (fun h13 I13 u13 => ?_)
    have f13 := fr_st (F := F_X0_said) 0 f11 u13 rfl (by decide) (by decide)
    refine te_aload_n (p2 := 86) rfl rfl rfl ?_
    refine tg_r (p2 := 89) (i := 1) (r := 27) rfl rfl I13 rfl rfl rfl ?_
    refine te_iconst (p2 := 90) (x := 5) rfl rfl (by decide) ?_
    refine te_aload_n (p2 := 91) rfl rfl rfl ?_
    refine tg_i (p2 := 94) (i := s) rfl rfl I13 rfl (by rcases q_s with rfl | rfl | rfl <;> rfl) (by rcases q_s with rfl | rfl | rfl <;> rfl) (fun y14 a14 b14 e14 => ?_)
    refine ts_i (p2 := 95) (i := 11) (n := 8) rfl rfl I13 rfl rfl rfl rfl (by decide) (by decide) (i32_lo _) (i32_hi _) (i32_ho _) rfl (fun h15 I15 u15 => ?_)
    have f15 := fr_st (F := F_X0_said) 0 f13 u15 rfl (by decide) (by decide)
    refine te_aload_n (p2 := 96) rfl rfl rfl ?_
    refine tg_r (p2 := 99) (i := 1) (r := 27) rfl rfl I15 rfl rfl rfl ?_
    refine te_bipush (p2 := 101) (x := 6) rfl rfl (by decide) ?_
    refine te_aload_n (p2 := 102) rfl rfl rfl ?_
    refine tg_i (p2 := 105) (i := s) rfl rfl I15 rfl (by rcases q_s with rfl | rfl | rfl <;> rfl) (by rcases q_s with rfl | rfl | rfl <;> rfl) (fun y16 a16 b16 e16 => ?_)
    refine ts_i (p2 := 106) (i := 11) (n := 8) rfl rfl I15 rfl rfl rfl rfl (by decide) (by decide) (i32_lo _) (i32_hi _) (i32_ho _) rfl (fun h17 I17 u17 => ?_)
    have f17 := fr_st (F := F_X0_said) 0 f15 u17 rfl (by decide) (by decide)
    refine te_aload_n (p2 := 107) rfl rfl rfl ?_
    refine tg_r (p2 := 110) (i := 1) (r := 27) rfl rfl I17 rfl rfl rfl ?_
    refine te_bipush (p2 := 112) (x := 7) rfl rfl (by decide) ?_
    refine te_aload_n (p2 := 113) rfl rfl rfl ?_
    refine tg_r (p2 := 116) (i := s) (r := (16 + (s + 5))) rfl rfl I17 rfl (by rcases q_s with rfl | rfl | rfl <;> rfl) (by rcases q_s with rfl | rfl | rfl <;> rfl) ?_
    refine te_iload_n (p2 := 117) rfl rfl rfl ?_
    refine tl_i (p2 := 118) (i := (s + 5)) (n := 24) rfl rfl I17 rfl (by rcases q_s with rfl | rfl | rfl <;> rfl) (by rcases q_s with rfl | rfl | rfl <;> rfl) rfl (by omega) (by omega) (fun y18 a18 b18 g18 e18 => ?_)
    refine ts_i (p2 := 119) (i := 11) (n := 8) rfl rfl I17 rfl rfl rfl rfl (by decide) (by decide) (i32_lo _) (i32_hi _) (i32_ho _) rfl (fun h19 I19 u19 => ?_)
    have f19 := fr_st (F := F_X0_said) 0 f17 u19 rfl (by decide) (by decide)
    refine te_iconst (p2 := 120) (x := 0) rfl rfl (by decide) ?_
    refine te_istore (p2 := 122) (lv2 := [(4, .int 0), (0, .ref 17), (1, .ref (16 + s)), (2, .int p), (3, .int key)]) rfl rfl (by decide) rfl ?_
    have FC : ∀ j, j < 8 → rv h19 11 j = (fcs (rv h 3 p.toInt.toNat) (rv h 4 p.toInt.toNat) (rv h 5 p.toInt.toNat) (rv h (s + 4) p.toInt.toNat) (rv h s 1) (rv h s 2) (rv h s 0) (rv h (s + 5) p.toInt.toNat)) j := by
      intro j hj
      rcases (show j = 0 ∨ j = 1 ∨ j = 2 ∨ j = 3 ∨ j = 4 ∨ j = 5 ∨ j = 6 ∨ j = 7 by omega) with rfl | rfl | rfl | rfl | rfl | rfl | rfl | rfl
      · exact (rv_of (k := 0) ((u19.2 _ _ (Or.inr (by decide))).trans ((u17.2 _ _ (Or.inr (by decide))).trans ((u15.2 _ _ (Or.inr (by decide))).trans ((u13.2 _ _ (Or.inr (by decide))).trans ((u11.2 _ _ (Or.inr (by decide))).trans ((u9.2 _ _ (Or.inr (by decide))).trans ((u7.2 _ _ (Or.inr (by decide))).trans u5.1)))))))).trans (rv_of e4).symm
      · exact (rv_of (k := 1) ((u19.2 _ _ (Or.inr (by decide))).trans ((u17.2 _ _ (Or.inr (by decide))).trans ((u15.2 _ _ (Or.inr (by decide))).trans ((u13.2 _ _ (Or.inr (by decide))).trans ((u11.2 _ _ (Or.inr (by decide))).trans ((u9.2 _ _ (Or.inr (by decide))).trans u7.1))))))).trans (rv_of ((f5 _ _ rfl).symm.trans e6)).symm
      · exact (rv_of (k := 2) ((u19.2 _ _ (Or.inr (by decide))).trans ((u17.2 _ _ (Or.inr (by decide))).trans ((u15.2 _ _ (Or.inr (by decide))).trans ((u13.2 _ _ (Or.inr (by decide))).trans ((u11.2 _ _ (Or.inr (by decide))).trans u9.1)))))).trans (rv_of ((f7 _ _ rfl).symm.trans e8)).symm
      · exact (rv_of (k := 3) ((u19.2 _ _ (Or.inr (by decide))).trans ((u17.2 _ _ (Or.inr (by decide))).trans ((u15.2 _ _ (Or.inr (by decide))).trans ((u13.2 _ _ (Or.inr (by decide))).trans u11.1))))).trans (rv_of ((f9 _ _ (by rcases q_s with rfl | rfl | rfl <;> rfl)).symm.trans e10)).symm
      · exact (rv_of (k := 4) ((u19.2 _ _ (Or.inr (by decide))).trans ((u17.2 _ _ (Or.inr (by decide))).trans ((u15.2 _ _ (Or.inr (by decide))).trans u13.1)))).trans (rv_of ((f11 _ _ (by rcases q_s with rfl | rfl | rfl <;> rfl)).symm.trans e12)).symm
      · exact (rv_of (k := 5) ((u19.2 _ _ (Or.inr (by decide))).trans ((u17.2 _ _ (Or.inr (by decide))).trans u15.1))).trans (rv_of ((f13 _ _ (by rcases q_s with rfl | rfl | rfl <;> rfl)).symm.trans e14)).symm
      · exact (rv_of (k := 6) ((u19.2 _ _ (Or.inr (by decide))).trans u17.1)).trans (rv_of ((f15 _ _ (by rcases q_s with rfl | rfl | rfl <;> rfl)).symm.trans e16)).symm
      · exact (rv_of (k := 7) u19.1).trans (rv_of ((f17 _ _ (by rcases q_s with rfl | rfl | rfl <;> rfl)).symm.trans e18)).symm
    have lp20 : ∀ (n20 : Nat) (v20_4 : Int32) , 0 ≤ v20_4.toInt → v20_4.toInt ≤ 8 → odS (odX h o1) (fcs (rv h 3 p.toInt.toNat) (rv h 4 p.toInt.toNat) (rv h 5 p.toInt.toNat) (rv h (s + 4) p.toInt.toNat) (rv h s 1) (rv h s 2) (rv h s 0) (rv h (s + 5) p.toInt.toNat)) key = sayR (rv h (o1 + 1)) (rv h (o1 + 2)) (fun l => hld (fcs (rv h 3 p.toInt.toNat) (rv h 4 p.toInt.toNat) (rv h 5 p.toInt.toNat) (rv h (s + 4) p.toInt.toNat) (rv h s 1) (rv h s 2) (rv h s 0) (rv h (s + 5) p.toInt.toNat)) (rv h (o1 + 4)) (rv h (o1 + 5)) (rv h (o1 + 6)) (3 * l) (rv h (o1 + 3) l).toInt.toNat) key ((rv h o1 0).toInt.toNat - v20_4.toInt.toNat) v20_4.toInt.toNat → 8 - v20_4.toInt < (n20 : Int) → EvP im_K0 1 mX0_said (122, [(0, .ref 17), (1, .ref (16 + s)), (2, .int p), (3, .int key), (4, .int v20_4)], [], h19) (fun v h2 => tI h2 ∧ fr F_X0_said h h2 ∧ ∃ y : Int32, v = some (.int y) ∧ y = sdX h (fcs (rv h 3 p.toInt.toNat) (rv h 4 p.toInt.toNat) (rv h 5 p.toInt.toNat) (rv h (s + 4) p.toInt.toNat) (rv h s 1) (rv h s 2) (rv h s 0) (rv h (s + 5) p.toInt.toNat)) key) := by
      intro n20
      induction n20 with
      | zero => intro v20_4 a20_4 b20_4 w20_0 m20; exfalso; omega
      | succ n20 ih20 =>
        intro v20_4 a20_4 b20_4 w20_0 m20
        refine te_iload (p2 := 124) rfl rfl rfl ?_
        refine te_aload_n (p2 := 125) rfl rfl rfl ?_
        refine tg_e (p2 := 128) (i := 1) (v := .ref (16 + o1)) rfl rfl I19 rfl rfl ((u19.2 _ _ (Or.inl (by decide))).trans ((u17.2 _ _ (Or.inl (by decide))).trans ((u15.2 _ _ (Or.inl (by decide))).trans ((u13.2 _ _ (Or.inl (by decide))).trans ((u11.2 _ _ (Or.inl (by decide))).trans ((u9.2 _ _ (Or.inl (by decide))).trans ((u7.2 _ _ (Or.inl (by decide))).trans ((u5.2 _ _ (Or.inl (by decide))).trans e1)))))))) ?_
        refine tg_i (p2 := 131) (i := o1) rfl rfl I19 rfl (by rcases q1 with rfl | rfl | rfl | rfl | rfl | rfl <;> rfl) (by rcases q1 with rfl | rfl | rfl | rfl | rfl | rfl <;> rfl) (fun y21 a21 b21 e21 => ?_)
        refine tb_ge (p2 := 134) rfl rfl rfl rfl (fun c22 => ?_) (fun c22 => ?_)
        · refine te_iconst (p2 := 182) (x := 0) rfl rfl (by decide) ?_
          exact te_iret rfl rfl ⟨I19, f19, _, rfl, (by rw [(show sdX h (fcs (rv h 3 p.toInt.toNat) (rv h 4 p.toInt.toNat) (rv h 5 p.toInt.toNat) (rv h (s + 4) p.toInt.toNat) (rv h s 1) (rv h s 2) (rv h s 0) (rv h (s + 5) p.toInt.toNat)) key = odS (odX h o1) (fcs (rv h 3 p.toInt.toNat) (rv h 4 p.toInt.toNat) (rv h 5 p.toInt.toNat) (rv h (s + 4) p.toInt.toNat) (rv h s 1) (rv h s 2) (rv h s 0) (rv h (s + 5) p.toInt.toNat)) key from (by unfold sdX; rw [e1]; show (if 114 ≤ 16 + o1 ∧ 16 + o1 ≤ 149 then odS (odX h (16 + o1 - 16)) else fun _ => nos) _ _ = _; rw [if_pos (by omega), show 16 + o1 - 16 = o1 by omega])), w20_0, show (rv h o1 0).toInt.toNat - v20_4.toInt.toNat = 0 by (rw [rv_of ((f19 o1 0 (by rcases q1 with rfl | rfl | rfl | rfl | rfl | rfl <;> rfl)).symm.trans e21)]; omega)]; rfl)⟩
        · refine te_aload_n (p2 := 135) rfl rfl rfl ?_
          refine tg_e (p2 := 138) (i := 1) (v := .ref (16 + o1)) rfl rfl I19 rfl rfl ((u19.2 _ _ (Or.inl (by decide))).trans ((u17.2 _ _ (Or.inl (by decide))).trans ((u15.2 _ _ (Or.inl (by decide))).trans ((u13.2 _ _ (Or.inl (by decide))).trans ((u11.2 _ _ (Or.inl (by decide))).trans ((u9.2 _ _ (Or.inl (by decide))).trans ((u7.2 _ _ (Or.inl (by decide))).trans ((u5.2 _ _ (Or.inl (by decide))).trans e1)))))))) ?_
          refine tg_r (p2 := 141) (i := o1) (r := (16 + (o1 + 1))) rfl rfl I19 rfl (by rcases q1 with rfl | rfl | rfl | rfl | rfl | rfl <;> rfl) (by rcases q1 with rfl | rfl | rfl | rfl | rfl | rfl <;> rfl) ?_
          refine te_iload (p2 := 143) rfl rfl rfl ?_
          refine tl_i (p2 := 144) (i := (o1 + 1)) (n := 8) rfl rfl I19 rfl (by rcases q1 with rfl | rfl | rfl | rfl | rfl | rfl <;> rfl) (by rcases q1 with rfl | rfl | rfl | rfl | rfl | rfl <;> rfl) rfl (by omega) (by omega) (fun y23 a23 b23 g23 e23 => ?_)
          refine te_iload_n (p2 := 145) rfl rfl rfl ?_
          refine tb_ne (p2 := 148) rfl rfl rfl rfl (fun c24 => ?_) (fun c24 => ?_)
          · refine ar_inc (p2 := 178) (x := v20_4) rfl rfl (by decide) rfl (by decide) rfl (by omega) (by omega) (fun z25 e25 f25 => ?_)
            show EvP _ _ _ (178, [(4, .int z25), (0, .ref 17), (1, .ref (16 + s)), (2, .int p), (3, .int key)], [], h19) _
            refine te_goto rfl ?_
            refine te_lv [(0, .ref 17), (1, .ref (16 + s)), (2, .int p), (3, .int key), (4, .int z25)] rfl rfl ⟨rfl, rfl, rfl, rfl, rfl, trivial⟩ ?_
            exact ih20 z25 (by omega) (by omega) (by rw [w20_0, show (rv h o1 0).toInt.toNat - v20_4.toInt.toNat = ((rv h o1 0).toInt.toNat - z25.toInt.toNat) + 1 by (rw [rv_of ((f19 o1 0 (by rcases q1 with rfl | rfl | rfl | rfl | rfl | rfl <;> rfl)).symm.trans e21)]; omega), sayR_n (H := (fun l => hld (fcs (rv h 3 p.toInt.toNat) (rv h 4 p.toInt.toNat) (rv h 5 p.toInt.toNat) (rv h (s + 4) p.toInt.toNat) (rv h s 1) (rv h s 2) (rv h s 0) (rv h (s + 5) p.toInt.toNat)) (rv h (o1 + 4)) (rv h (o1 + 5)) (rv h (o1 + 6)) (3 * l) (rv h (o1 + 3) l).toInt.toNat)) (fun q => absurd (congrArg Int32.toInt q.1) (by rw [rv_of ((f19 (o1 + 1) _ (by rcases q1 with rfl | rfl | rfl | rfl | rfl | rfl <;> rfl)).symm.trans e23)]; omega)), show z25.toInt.toNat = v20_4.toInt.toNat + 1 by omega]) (by omega)
          · refine te_aload_n (p2 := 149) rfl rfl rfl ?_
            refine tg_e (p2 := 152) (i := 1) (v := .ref (16 + o1)) rfl rfl I19 rfl rfl ((u19.2 _ _ (Or.inl (by decide))).trans ((u17.2 _ _ (Or.inl (by decide))).trans ((u15.2 _ _ (Or.inl (by decide))).trans ((u13.2 _ _ (Or.inl (by decide))).trans ((u11.2 _ _ (Or.inl (by decide))).trans ((u9.2 _ _ (Or.inl (by decide))).trans ((u7.2 _ _ (Or.inl (by decide))).trans ((u5.2 _ _ (Or.inl (by decide))).trans e1)))))))) ?_
            refine te_iload (p2 := 154) rfl rfl rfl ?_
            refine te_aload_n (p2 := 155) rfl rfl rfl ?_
            refine tg_r (p2 := 158) (i := 1) (r := 27) rfl rfl I19 rfl rfl rfl ?_
            refine cV_pI (p2 := 161) (i := o1) rfl rfl rfl rfl I19 rfl (by rcases q1 with rfl | rfl | rfl | rfl | rfl | rfl <;> rfl) rfl (c_X1_holds (o := o1) (line := v20_4) I19 q1 (by omega) (by omega)) (by decide) (fun y26 r26 => ?_)
            have r26 := r26 (fcs (rv h 3 p.toInt.toNat) (rv h 4 p.toInt.toNat) (rv h 5 p.toInt.toNat) (rv h (s + 4) p.toInt.toNat) (rv h s 1) (rv h s 2) (rv h s 0) (rv h (s + 5) p.toInt.toNat)) FC
            rw [rv11 f19 (show o1 + 3 ≠ 11 by omega), rv11 f19 (show o1 + 4 ≠ 11 by omega), rv11 f19 (show o1 + 5 ≠ 11 by omega), rv11 f19 (show o1 + 6 ≠ 11 by omega)] at r26
            rcases r26 with ⟨w26, ho26⟩ | ⟨w26, ho26⟩
            · subst w26
              refine tz_eq (p2 := 164) rfl rfl (show Int32.toInt 1 = 1 from rfl) (fun c27 => absurd c27 (by omega)) (fun c27 => ?_)
              refine te_aload_n (p2 := 165) rfl rfl rfl ?_
              refine tg_e (p2 := 168) (i := 1) (v := .ref (16 + o1)) rfl rfl I19 rfl rfl ((u19.2 _ _ (Or.inl (by decide))).trans ((u17.2 _ _ (Or.inl (by decide))).trans ((u15.2 _ _ (Or.inl (by decide))).trans ((u13.2 _ _ (Or.inl (by decide))).trans ((u11.2 _ _ (Or.inl (by decide))).trans ((u9.2 _ _ (Or.inl (by decide))).trans ((u7.2 _ _ (Or.inl (by decide))).trans ((u5.2 _ _ (Or.inl (by decide))).trans e1)))))))) ?_
              refine tg_r (p2 := 171) (i := o1) (r := (16 + (o1 + 2))) rfl rfl I19 rfl (by rcases q1 with rfl | rfl | rfl | rfl | rfl | rfl <;> rfl) (by rcases q1 with rfl | rfl | rfl | rfl | rfl | rfl <;> rfl) ?_
              refine te_iload (p2 := 173) rfl rfl rfl ?_
              refine tl_i (p2 := 174) (i := (o1 + 2)) (n := 8) rfl rfl I19 rfl (by rcases q1 with rfl | rfl | rfl | rfl | rfl | rfl <;> rfl) (by rcases q1 with rfl | rfl | rfl | rfl | rfl | rfl <;> rfl) rfl (by omega) (by omega) (fun y28 a28 b28 g28 e28 => ?_)
              exact te_iret rfl rfl ⟨I19, f19, _, rfl, (by rw [(show sdX h (fcs (rv h 3 p.toInt.toNat) (rv h 4 p.toInt.toNat) (rv h 5 p.toInt.toNat) (rv h (s + 4) p.toInt.toNat) (rv h s 1) (rv h s 2) (rv h s 0) (rv h (s + 5) p.toInt.toNat)) key = odS (odX h o1) (fcs (rv h 3 p.toInt.toNat) (rv h 4 p.toInt.toNat) (rv h 5 p.toInt.toNat) (rv h (s + 4) p.toInt.toNat) (rv h s 1) (rv h s 2) (rv h s 0) (rv h (s + 5) p.toInt.toNat)) key from (by unfold sdX; rw [e1]; show (if 114 ≤ 16 + o1 ∧ 16 + o1 ≤ 149 then odS (odX h (16 + o1 - 16)) else fun _ => nos) _ _ = _; rw [if_pos (by omega), show 16 + o1 - 16 = o1 by omega])), w20_0, show (rv h o1 0).toInt.toNat - v20_4.toInt.toNat = ((rv h o1 0).toInt.toNat - v20_4.toInt.toNat - 1) + 1 by (rw [rv_of ((f19 o1 0 (by rcases q1 with rfl | rfl | rfl | rfl | rfl | rfl <;> rfl)).symm.trans e21)]; omega), sayR_y (H := (fun l => hld (fcs (rv h 3 p.toInt.toNat) (rv h 4 p.toInt.toNat) (rv h 5 p.toInt.toNat) (rv h (s + 4) p.toInt.toNat) (rv h s 1) (rv h s 2) (rv h s 0) (rv h (s + 5) p.toInt.toNat)) (rv h (o1 + 4)) (rv h (o1 + 5)) (rv h (o1 + 6)) (3 * l) (rv h (o1 + 3) l).toInt.toNat)) ⟨(by rw [rv_of ((f19 (o1 + 1) _ (by rcases q1 with rfl | rfl | rfl | rfl | rfl | rfl <;> rfl)).symm.trans e23)]; exact i32_ext (by omega)), ho26⟩]; exact (rv_of ((f19 (o1 + 2) _ (by rcases q1 with rfl | rfl | rfl | rfl | rfl | rfl <;> rfl)).symm.trans e28)).symm)⟩
            · subst w26
              refine tz_eq (p2 := 164) rfl rfl (show Int32.toInt 0 = 0 from rfl) (fun c29 => ?_) (fun c29 => absurd c29 (by omega))
              refine ar_inc (p2 := 178) (x := v20_4) rfl rfl (by decide) rfl (by decide) rfl (by omega) (by omega) (fun z30 e30 f30 => ?_)
              show EvP _ _ _ (178, [(4, .int z30), (0, .ref 17), (1, .ref (16 + s)), (2, .int p), (3, .int key)], [], h19) _
              refine te_goto rfl ?_
              refine te_lv [(0, .ref 17), (1, .ref (16 + s)), (2, .int p), (3, .int key), (4, .int z30)] rfl rfl ⟨rfl, rfl, rfl, rfl, rfl, trivial⟩ ?_
              exact ih20 z30 (by omega) (by omega) (by rw [w20_0, show (rv h o1 0).toInt.toNat - v20_4.toInt.toNat = ((rv h o1 0).toInt.toNat - z30.toInt.toNat) + 1 by (rw [rv_of ((f19 o1 0 (by rcases q1 with rfl | rfl | rfl | rfl | rfl | rfl <;> rfl)).symm.trans e21)]; omega), sayR_n (H := (fun l => hld (fcs (rv h 3 p.toInt.toNat) (rv h 4 p.toInt.toNat) (rv h 5 p.toInt.toNat) (rv h (s + 4) p.toInt.toNat) (rv h s 1) (rv h s 2) (rv h s 0) (rv h (s + 5) p.toInt.toNat)) (rv h (o1 + 4)) (rv h (o1 + 5)) (rv h (o1 + 6)) (3 * l) (rv h (o1 + 3) l).toInt.toNat)) (fun q => ho26 q.2), show z30.toInt.toNat = v20_4.toInt.toNat + 1 by omega]) (by omega)
    refine te_lv [(0, .ref 17), (1, .ref (16 + s)), (2, .int p), (3, .int key), (4, .int 0)] rfl rfl ⟨rfl, rfl, rfl, rfl, rfl, trivial⟩ ?_
    exact lp20 9 0 (by decide) (by decide) rfl (by have cc0 := (show Int32.toInt 0 = 0 from rfl); omega)
theorem ts1_C {x s v : Int32} : ts1 x (sgC s) v ↔ ((s.toInt = 60 ∧ x.toInt < v.toInt) ∨ (s.toInt = 62 ∧ v.toInt < x.toInt) ∨ (s.toInt ≠ 60 ∧ s.toInt ≠ 62 ∧ x.toInt = v.toInt)) := by
  unfold ts1 sgC
  have a0 := (show Int32.toInt 0 = 0 from rfl)
  have a1 := (show Int32.toInt 1 = 1 from rfl)
  have a2 := (show Int32.toInt 2 = 2 from rfl)
  (repeat' split) <;> omega
theorem hldM {h : im_H} {fc : Nat → Int32} {r l line n : Nat} (e : line = 8 * r + l) : hld fc (fun t => fdC (rv h 189 t)) (fun t => sgC (rv h 190 t)) (rv h 191) (3 * line) n ↔ hld fc (odM h r).f (odM h r).s (odM h r).v (3 * l) n := by
  unfold hld odM
  constructor
  · intro q i hi; have h9 := q i hi; rw [show 3 * line + i = 24 * r + (3 * l + i) by omega] at h9; exact h9
  · intro q i hi; have h9 := q i hi; rw [show 3 * line + i = 24 * r + (3 * l + i) by omega]; exact h9
def okM (h : im_H) : Prop := (∀ k, k < 24 → (rv h 149 (236 + k)).toInt = 0 ∨ (rv h 149 (236 + k)).toInt = 1) ∧ (∀ k, k < 16 → (rv h 149 (108 + k)).toInt = 0 ∨ (rv h 149 (108 + k)).toInt = 1)
theorem fcA_M {h : im_H} {p : Nat} (hp : p < 24) (hd : (rv h 149 (236 + p)).toInt = 0) : fcA (ctM h) (absM h) p = (fcs (rv h 157 p) (rv h 158 p) (rv h 159 p) (rv h 149 (164 + p)) (rv h 149 106) (rv h 149 107) (rv h 149 105) (rv h 149 (188 + p))) := by
  unfold fcA
  show fcs (gd 24 (rv h 157) p) (gd 24 (rv h 158) p) (gd 24 (rv h 159) p) (mhu (rM h 236) (rM h 164) p) _ _ _ (gd 24 (rM h 188) p) = _
  rw [gd_at hp, gd_at hp, gd_at hp, gd_at hp, show mhu (rM h 236) (rM h 164) p = rM h 164 p from if_pos ⟨hp, hd⟩]
  rfl
set_option maxRecDepth 20000 in
set_option maxHeartbeats 4000000 in
theorem c_X12_fieldOf {field : Int32} {k : Int32} {h : im_H} (hI : tI h) (p_k0 : 0 ≤ k.toInt) (p_k1 : k.toInt ≤ 23) : CaP 1 142 [.ref 164, .int field, .int k] h (pI h (fun y => field.toInt ≤ 7 → y = (fcs (rv h 157 k.toInt.toNat) (rv h 158 k.toInt.toNat) (rv h 159 k.toInt.toNat) (rv h 149 (164 + k.toInt.toNat)) (rv h 149 106) (rv h 149 107) (rv h 149 105) (rv h 149 (188 + k.toInt.toNat))) (fdC field).toInt.toNat)) := by
  refine cap_of (d := 0) (M := mX12_fieldOf) rfl (Nat.le_of_ble_eq_true rfl) ?_
  show EvP im_K0 0 mX12_fieldOf (0, [(0, .ref 164), (1, .int field), (2, .int k)], [], h) _
  refine te_iload_n (p2 := 1) rfl rfl rfl ?_
  by_cases c1 : field.toInt = 0
  · refine te_tsIn (k := 0) (p2 := 44) rfl c1 (by decide) (by decide) rfl (by decide) ?_
    refine te_aload_n (p2 := 45) rfl rfl rfl ?_
    refine tg_r (p2 := 48) (i := 148) (r := 173) rfl rfl hI rfl rfl rfl ?_
    refine te_iload_n (p2 := 49) rfl rfl rfl ?_
    refine tl_i (p2 := 50) (i := 157) (n := 24) rfl rfl hI rfl rfl rfl rfl (by omega) (by omega) (fun y2 a2 b2 g2 e2 => ?_)
    exact te_iret rfl rfl ⟨rfl, _, rfl, (fun hl => (by rw [show (fdC field).toInt.toNat = 0 from (by unfold fdC; (have a7 := (show Int32.toInt 7 = 7 from rfl)); split <;> omega)]; exact (rv_of (k := k.toInt.toNat) e2).symm))⟩
  · by_cases c3 : field.toInt = 1
    · refine te_tsIn (k := 1) (p2 := 51) rfl c3 (by decide) (by decide) rfl (by decide) ?_
      refine te_aload_n (p2 := 52) rfl rfl rfl ?_
      refine tg_r (p2 := 55) (i := 148) (r := 174) rfl rfl hI rfl rfl rfl ?_
      refine te_iload_n (p2 := 56) rfl rfl rfl ?_
      refine tl_i (p2 := 57) (i := 158) (n := 24) rfl rfl hI rfl rfl rfl rfl (by omega) (by omega) (fun y4 a4 b4 g4 e4 => ?_)
      exact te_iret rfl rfl ⟨rfl, _, rfl, (fun hl => (by rw [show (fdC field).toInt.toNat = 1 from (by unfold fdC; (have a7 := (show Int32.toInt 7 = 7 from rfl)); split <;> omega)]; exact (rv_of (k := k.toInt.toNat) e4).symm))⟩
    · by_cases c5 : field.toInt = 2
      · refine te_tsIn (k := 2) (p2 := 58) rfl c5 (by decide) (by decide) rfl (by decide) ?_
        refine te_aload_n (p2 := 59) rfl rfl rfl ?_
        refine tg_r (p2 := 62) (i := 148) (r := 175) rfl rfl hI rfl rfl rfl ?_
        refine te_iload_n (p2 := 63) rfl rfl rfl ?_
        refine tl_i (p2 := 64) (i := 159) (n := 24) rfl rfl hI rfl rfl rfl rfl (by omega) (by omega) (fun y6 a6 b6 g6 e6 => ?_)
        exact te_iret rfl rfl ⟨rfl, _, rfl, (fun hl => (by rw [show (fdC field).toInt.toNat = 2 from (by unfold fdC; (have a7 := (show Int32.toInt 7 = 7 from rfl)); split <;> omega)]; exact (rv_of (k := k.toInt.toNat) e6).symm))⟩
      · by_cases c7 : field.toInt = 3
        · refine te_tsIn (k := 3) (p2 := 65) rfl c7 (by decide) (by decide) rfl (by decide) ?_
          refine te_aload_n (p2 := 66) rfl rfl rfl ?_
          refine tg_r (p2 := 69) (i := 148) (r := 165) rfl rfl hI rfl rfl rfl ?_
          refine te_sipush (p2 := 72) (x := 164) rfl rfl (by decide) ?_
          refine te_iload_n (p2 := 73) rfl rfl rfl ?_
          refine ar_add (p2 := 74) rfl rfl (show Int32.toInt 164 = 164 from rfl) rfl (by omega) (by omega) (fun z8 e8 f8 => ?_)
          refine tl_i (p2 := 75) (i := 149) (n := 283) rfl rfl hI rfl rfl rfl rfl (by omega) (by omega) (fun y9 a9 b9 g9 e9 => ?_)
          exact te_iret rfl rfl ⟨rfl, _, rfl, (fun hl => (by rw [show (fdC field).toInt.toNat = 3 from (by unfold fdC; (have a7 := (show Int32.toInt 7 = 7 from rfl)); split <;> omega)]; exact (show y9 = rv h 149 (164 + k.toInt.toNat) from (by rw [show 164 + k.toInt.toNat = z8.toInt.toNat by omega]; exact (rv_of e9).symm))))⟩
        · by_cases c10 : field.toInt = 4
          · refine te_tsIn (k := 4) (p2 := 76) rfl c10 (by decide) (by decide) rfl (by decide) ?_
            refine te_aload_n (p2 := 77) rfl rfl rfl ?_
            refine tg_r (p2 := 80) (i := 148) (r := 165) rfl rfl hI rfl rfl rfl ?_
            refine te_bipush (p2 := 82) (x := 106) rfl rfl (by decide) ?_
            refine tl_i (p2 := 83) (i := 149) (n := 283) rfl rfl hI rfl rfl rfl rfl (by decide) (by decide) (fun y11 a11 b11 g11 e11 => ?_)
            exact te_iret rfl rfl ⟨rfl, _, rfl, (fun hl => (by rw [show (fdC field).toInt.toNat = 4 from (by unfold fdC; (have a7 := (show Int32.toInt 7 = 7 from rfl)); split <;> omega)]; exact (rv_of (k := 106) e11).symm))⟩
          · by_cases c12 : field.toInt = 5
            · refine te_tsIn (k := 5) (p2 := 84) rfl c12 (by decide) (by decide) rfl (by decide) ?_
              refine te_aload_n (p2 := 85) rfl rfl rfl ?_
              refine tg_r (p2 := 88) (i := 148) (r := 165) rfl rfl hI rfl rfl rfl ?_
              refine te_bipush (p2 := 90) (x := 107) rfl rfl (by decide) ?_
              refine tl_i (p2 := 91) (i := 149) (n := 283) rfl rfl hI rfl rfl rfl rfl (by decide) (by decide) (fun y13 a13 b13 g13 e13 => ?_)
              exact te_iret rfl rfl ⟨rfl, _, rfl, (fun hl => (by rw [show (fdC field).toInt.toNat = 5 from (by unfold fdC; (have a7 := (show Int32.toInt 7 = 7 from rfl)); split <;> omega)]; exact (rv_of (k := 107) e13).symm))⟩
            · by_cases c14 : field.toInt = 6
              · refine te_tsIn (k := 6) (p2 := 92) rfl c14 (by decide) (by decide) rfl (by decide) ?_
                refine te_aload_n (p2 := 93) rfl rfl rfl ?_
                refine tg_r (p2 := 96) (i := 148) (r := 165) rfl rfl hI rfl rfl rfl ?_
                refine te_bipush (p2 := 98) (x := 105) rfl rfl (by decide) ?_
                refine tl_i (p2 := 99) (i := 149) (n := 283) rfl rfl hI rfl rfl rfl rfl (by decide) (by decide) (fun y15 a15 b15 g15 e15 => ?_)
                exact te_iret rfl rfl ⟨rfl, _, rfl, (fun hl => (by rw [show (fdC field).toInt.toNat = 6 from (by unfold fdC; (have a7 := (show Int32.toInt 7 = 7 from rfl)); split <;> omega)]; exact (rv_of (k := 105) e15).symm))⟩
              · refine te_tsOut (p2 := 100) rfl (by omega) (by decide) ?_
                refine te_aload_n (p2 := 101) rfl rfl rfl ?_
                refine tg_r (p2 := 104) (i := 148) (r := 165) rfl rfl hI rfl rfl rfl ?_
                refine te_sipush (p2 := 107) (x := 188) rfl rfl (by decide) ?_
                refine te_iload_n (p2 := 108) rfl rfl rfl ?_
                refine ar_add (p2 := 109) rfl rfl (show Int32.toInt 188 = 188 from rfl) rfl (by omega) (by omega) (fun z16 e16 f16 => ?_)
                refine tl_i (p2 := 110) (i := 149) (n := 283) rfl rfl hI rfl rfl rfl rfl (by omega) (by omega) (fun y17 a17 b17 g17 e17 => ?_)
                exact te_iret rfl rfl ⟨rfl, _, rfl, (fun hl => (by rw [show (fdC field).toInt.toNat = 7 from (by unfold fdC; (have a7 := (show Int32.toInt 7 = 7 from rfl)); split <;> omega)]; exact (show y17 = rv h 149 (188 + k.toInt.toNat) from (by rw [show 188 + k.toInt.toNat = z16.toInt.toNat by omega]; exact (rv_of e17).symm))))⟩
set_option maxRecDepth 20000 in
set_option maxHeartbeats 4000000 in
theorem c_X12_holds {line : Int32} {k : Int32} {h : im_H} (hI : tI h) (p_line0 : 0 ≤ line.toInt) (p_line1 : line.toInt ≤ 47) (p_k0 : 0 ≤ k.toInt) (p_k1 : k.toInt ≤ 23) : CaP 2 143 [.ref 164, .int line, .int k] h (pI h (fun y => (y = 1 ∧ hld (fcs (rv h 157 k.toInt.toNat) (rv h 158 k.toInt.toNat) (rv h 159 k.toInt.toNat) (rv h 149 (164 + k.toInt.toNat)) (rv h 149 106) (rv h 149 107) (rv h 149 105) (rv h 149 (188 + k.toInt.toNat))) (fun t => fdC (rv h 189 t)) (fun t => sgC (rv h 190 t)) (rv h 191) (3 * line.toInt.toNat) (rv h 188 line.toInt.toNat).toInt.toNat) ∨ (y = 0 ∧ ¬ hld (fcs (rv h 157 k.toInt.toNat) (rv h 158 k.toInt.toNat) (rv h 159 k.toInt.toNat) (rv h 149 (164 + k.toInt.toNat)) (rv h 149 106) (rv h 149 107) (rv h 149 105) (rv h 149 (188 + k.toInt.toNat))) (fun t => fdC (rv h 189 t)) (fun t => sgC (rv h 190 t)) (rv h 191) (3 * line.toInt.toNat) (rv h 188 line.toInt.toNat).toInt.toNat))) := by
  refine cap_of (d := 1) (M := mX12_holds) rfl (Nat.le_of_ble_eq_true rfl) ?_
  show EvP im_K0 1 mX12_holds (0, [(0, .ref 164), (1, .int line), (2, .int k)], [], h) _
  refine te_iconst (p2 := 1) (x := 3) rfl rfl (by decide) ?_
  refine te_iload_n (p2 := 2) rfl rfl rfl ?_
  refine ar_mul (p2 := 3) rfl rfl (show Int32.toInt 3 = 3 from rfl) rfl (by omega) (by omega) (fun z1 e1 f1 => ?_)
  refine te_istore_n (p2 := 4) (lv2 := [(3, .int z1), (0, .ref 164), (1, .int line), (2, .int k)]) rfl rfl (by decide) rfl ?_
  have lp2 : ∀ (n2 : Nat) (v2_3 : Int32) , 0 ≤ v2_3.toInt → v2_3.toInt ≤ 144 → 3 * line.toInt ≤ v2_3.toInt → v2_3.toInt ≤ 3 * line.toInt + 3 → 3 * line.toInt ≤ v2_3.toInt → (∀ i, 3 * line.toInt.toNat + i < v2_3.toInt.toNat → ts1 ((fcs (rv h 157 k.toInt.toNat) (rv h 158 k.toInt.toNat) (rv h 159 k.toInt.toNat) (rv h 149 (164 + k.toInt.toNat)) (rv h 149 106) (rv h 149 107) (rv h 149 105) (rv h 149 (188 + k.toInt.toNat))) (fdC (rv h 189 (3 * line.toInt.toNat + i))).toInt.toNat) (sgC (rv h 190 (3 * line.toInt.toNat + i))) (rv h 191 (3 * line.toInt.toNat + i))) → 3 * line.toInt + 3 - v2_3.toInt < (n2 : Int) → EvP im_K0 1 mX12_holds (4, [(0, .ref 164), (1, .int line), (2, .int k), (3, .int v2_3)], [], h) (pI h (fun y => (y = 1 ∧ hld (fcs (rv h 157 k.toInt.toNat) (rv h 158 k.toInt.toNat) (rv h 159 k.toInt.toNat) (rv h 149 (164 + k.toInt.toNat)) (rv h 149 106) (rv h 149 107) (rv h 149 105) (rv h 149 (188 + k.toInt.toNat))) (fun t => fdC (rv h 189 t)) (fun t => sgC (rv h 190 t)) (rv h 191) (3 * line.toInt.toNat) (rv h 188 line.toInt.toNat).toInt.toNat) ∨ (y = 0 ∧ ¬ hld (fcs (rv h 157 k.toInt.toNat) (rv h 158 k.toInt.toNat) (rv h 159 k.toInt.toNat) (rv h 149 (164 + k.toInt.toNat)) (rv h 149 106) (rv h 149 107) (rv h 149 105) (rv h 149 (188 + k.toInt.toNat))) (fun t => fdC (rv h 189 t)) (fun t => sgC (rv h 190 t)) (rv h 191) (3 * line.toInt.toNat) (rv h 188 line.toInt.toNat).toInt.toNat))) := by
    intro n2
    induction n2 with
    | zero => intro v2_3 a2_3 b2_3 l2_0 l2_1 l2_2 w2_0 m2; exfalso; omega
    | succ n2 ih2 =>
      intro v2_3 a2_3 b2_3 l2_0 l2_1 l2_2 w2_0 m2
      refine te_iload_n (p2 := 5) rfl rfl rfl ?_
      refine te_iconst (p2 := 6) (x := 3) rfl rfl (by decide) ?_
      refine te_iload_n (p2 := 7) rfl rfl rfl ?_
      refine ar_mul (p2 := 8) rfl rfl (show Int32.toInt 3 = 3 from rfl) rfl (by omega) (by omega) (fun z3 e3 f3 => ?_)
      refine te_aload_n (p2 := 9) rfl rfl rfl ?_
      refine tg_r (p2 := 12) (i := 148) (r := 204) rfl rfl hI rfl rfl rfl ?_
      refine te_iload_n (p2 := 13) rfl rfl rfl ?_
      refine tl_i (p2 := 14) (i := 188) (n := 48) rfl rfl hI rfl rfl rfl rfl (by omega) (by omega) (fun y4 a4 b4 g4 e4 => ?_)
      refine ar_add (p2 := 15) rfl rfl rfl rfl (by omega) (by omega) (fun z5 e5 f5 => ?_)
      refine tb_ge (p2 := 18) rfl rfl rfl rfl (fun c6 => ?_) (fun c6 => ?_)
      · refine te_iconst (p2 := 101) (x := 1) rfl rfl (by decide) ?_
        exact te_zret rfl rfl (by decide) ⟨rfl, _, rfl, Or.inl ⟨rfl, fun i hi => w2_0 i (by rw [rv_of e4] at hi; omega)⟩⟩
      · refine te_aload_n (p2 := 19) rfl rfl rfl ?_
        refine te_aload_n (p2 := 20) rfl rfl rfl ?_
        refine tg_r (p2 := 23) (i := 148) (r := 205) rfl rfl hI rfl rfl rfl ?_
        refine te_iload_n (p2 := 24) rfl rfl rfl ?_
        refine tl_i (p2 := 25) (i := 189) (n := 144) rfl rfl hI rfl rfl rfl rfl (by omega) (by omega) (fun y7 a7 b7 g7 e7 => ?_)
        refine te_iload_n (p2 := 26) rfl rfl rfl ?_
        refine cV_pI (p2 := 29) (i := 148) rfl rfl rfl rfl hI rfl rfl rfl (c_X12_fieldOf (field := y7) (k := k) hI (by omega) (by omega)) (by decide) (fun y8 r8 => ?_)
        have r8 := r8 (by omega)
        refine te_istore (p2 := 31) (lv2 := [(4, .int y8), (0, .ref 164), (1, .int line), (2, .int k), (3, .int v2_3)]) rfl rfl (by decide) rfl ?_
        refine te_aload_n (p2 := 32) rfl rfl rfl ?_
        refine tg_r (p2 := 35) (i := 148) (r := 206) rfl rfl hI rfl rfl rfl ?_
        refine te_iload_n (p2 := 36) rfl rfl rfl ?_
        refine tl_i (p2 := 37) (i := 190) (n := 144) rfl rfl hI rfl rfl rfl rfl (by omega) (by omega) (fun y9 a9 b9 g9 e9 => ?_)
        refine te_bipush (p2 := 39) (x := 60) rfl rfl (by decide) ?_
        refine tb_ne (p2 := 42) rfl rfl rfl (show Int32.toInt 60 = 60 from rfl) (fun c10 => ?_) (fun c10 => ?_)
        · refine te_aload_n (p2 := 57) rfl rfl rfl ?_
          refine tg_r (p2 := 60) (i := 148) (r := 206) rfl rfl hI rfl rfl rfl ?_
          refine te_iload_n (p2 := 61) rfl rfl rfl ?_
          refine tl_e (p2 := 62) (i := 190) (n := 144) (t := 0) (Or.inl rfl) rfl rfl hI rfl rfl (by omega) (by omega) e9 ?_
          refine te_bipush (p2 := 64) (x := 62) rfl rfl (by decide) ?_
          refine tb_ne (p2 := 67) rfl rfl rfl (show Int32.toInt 62 = 62 from rfl) (fun c12 => ?_) (fun c12 => ?_)
          · refine te_iload (p2 := 83) rfl rfl rfl ?_
            refine te_aload_n (p2 := 84) rfl rfl rfl ?_
            refine tg_r (p2 := 87) (i := 148) (r := 207) rfl rfl hI rfl rfl rfl ?_
            refine te_iload_n (p2 := 88) rfl rfl rfl ?_
            refine tl_i (p2 := 89) (i := 191) (n := 144) rfl rfl hI rfl rfl rfl rfl (by omega) (by omega) (fun y13 a13 b13 g13 e13 => ?_)
            refine tb_eq (p2 := 92) rfl rfl rfl rfl (fun c14 => ?_) (fun c14 => ?_)
            · refine ar_inc (p2 := 97) (x := v2_3) rfl rfl (by decide) rfl (by decide) rfl (by omega) (by omega) (fun z15 e15 f15 => ?_)
              show EvP _ _ _ (97, [(3, .int z15), (4, .int y8), (0, .ref 164), (1, .int line), (2, .int k)], [], h) _
              refine te_goto rfl ?_
              refine te_lv [(0, .ref 164), (1, .int line), (2, .int k), (3, .int z15)] rfl rfl ⟨rfl, rfl, rfl, rfl, trivial⟩ ?_
              exact ih2 z15 (by omega) (by omega) (by omega) (by omega) (by omega) (fun i hi => by (by_cases hc : 3 * line.toInt.toNat + i = v2_3.toInt.toNat); (· (have h9 := (show ts1 ((fcs (rv h 157 k.toInt.toNat) (rv h 158 k.toInt.toNat) (rv h 159 k.toInt.toNat) (rv h 149 (164 + k.toInt.toNat)) (rv h 149 106) (rv h 149 107) (rv h 149 105) (rv h 149 (188 + k.toInt.toNat))) (fdC (rv h 189 v2_3.toInt.toNat)).toInt.toNat) (sgC (rv h 190 v2_3.toInt.toNat)) (rv h 191 v2_3.toInt.toNat) ↔ ((y9.toInt = 60 ∧ y8.toInt < y13.toInt) ∨ (y9.toInt = 62 ∧ y13.toInt < y8.toInt) ∨ (y9.toInt ≠ 60 ∧ y9.toInt ≠ 62 ∧ y8.toInt = y13.toInt)) from (by rw [rv_of e7, rv_of e9, rv_of e13, ← r8]; exact ts1_C))); rw [hc]; exact h9.mpr (by omega)); (· exact w2_0 i (by omega))) (by omega)
            · refine te_iconst (p2 := 93) (x := 0) rfl rfl (by decide) ?_
              exact te_zret rfl rfl (by decide) ⟨rfl, _, rfl, Or.inr ⟨rfl, fun q => by (have h9 := q (v2_3.toInt.toNat - 3 * line.toInt.toNat) (by rw [rv_of e4]; omega)); (have h8 := (show ts1 ((fcs (rv h 157 k.toInt.toNat) (rv h 158 k.toInt.toNat) (rv h 159 k.toInt.toNat) (rv h 149 (164 + k.toInt.toNat)) (rv h 149 106) (rv h 149 107) (rv h 149 105) (rv h 149 (188 + k.toInt.toNat))) (fdC (rv h 189 v2_3.toInt.toNat)).toInt.toNat) (sgC (rv h 190 v2_3.toInt.toNat)) (rv h 191 v2_3.toInt.toNat) ↔ ((y9.toInt = 60 ∧ y8.toInt < y13.toInt) ∨ (y9.toInt = 62 ∧ y13.toInt < y8.toInt) ∨ (y9.toInt ≠ 60 ∧ y9.toInt ≠ 62 ∧ y8.toInt = y13.toInt)) from (by rw [rv_of e7, rv_of e9, rv_of e13, ← r8]; exact ts1_C))); rw [show 3 * line.toInt.toNat + (v2_3.toInt.toNat - 3 * line.toInt.toNat) = v2_3.toInt.toNat by omega] at h9; (have h7 := h8.mp h9); omega⟩⟩
          · refine te_iload (p2 := 69) rfl rfl rfl ?_
            refine te_aload_n (p2 := 70) rfl rfl rfl ?_
            refine tg_r (p2 := 73) (i := 148) (r := 207) rfl rfl hI rfl rfl rfl ?_
            refine te_iload_n (p2 := 74) rfl rfl rfl ?_
            refine tl_i (p2 := 75) (i := 191) (n := 144) rfl rfl hI rfl rfl rfl rfl (by omega) (by omega) (fun y16 a16 b16 g16 e16 => ?_)
            refine tb_gt (p2 := 78) rfl rfl rfl rfl (fun c17 => ?_) (fun c17 => ?_)
            · refine ar_inc (p2 := 97) (x := v2_3) rfl rfl (by decide) rfl (by decide) rfl (by omega) (by omega) (fun z18 e18 f18 => ?_)
              show EvP _ _ _ (97, [(3, .int z18), (4, .int y8), (0, .ref 164), (1, .int line), (2, .int k)], [], h) _
              refine te_goto rfl ?_
              refine te_lv [(0, .ref 164), (1, .int line), (2, .int k), (3, .int z18)] rfl rfl ⟨rfl, rfl, rfl, rfl, trivial⟩ ?_
              exact ih2 z18 (by omega) (by omega) (by omega) (by omega) (by omega) (fun i hi => by (by_cases hc : 3 * line.toInt.toNat + i = v2_3.toInt.toNat); (· (have h9 := (show ts1 ((fcs (rv h 157 k.toInt.toNat) (rv h 158 k.toInt.toNat) (rv h 159 k.toInt.toNat) (rv h 149 (164 + k.toInt.toNat)) (rv h 149 106) (rv h 149 107) (rv h 149 105) (rv h 149 (188 + k.toInt.toNat))) (fdC (rv h 189 v2_3.toInt.toNat)).toInt.toNat) (sgC (rv h 190 v2_3.toInt.toNat)) (rv h 191 v2_3.toInt.toNat) ↔ ((y9.toInt = 60 ∧ y8.toInt < y16.toInt) ∨ (y9.toInt = 62 ∧ y16.toInt < y8.toInt) ∨ (y9.toInt ≠ 60 ∧ y9.toInt ≠ 62 ∧ y8.toInt = y16.toInt)) from (by rw [rv_of e7, rv_of e9, rv_of e16, ← r8]; exact ts1_C))); rw [hc]; exact h9.mpr (by omega)); (· exact w2_0 i (by omega))) (by omega)
            · refine te_goto rfl ?_
              refine te_iconst (p2 := 93) (x := 0) rfl rfl (by decide) ?_
              exact te_zret rfl rfl (by decide) ⟨rfl, _, rfl, Or.inr ⟨rfl, fun q => by (have h9 := q (v2_3.toInt.toNat - 3 * line.toInt.toNat) (by rw [rv_of e4]; omega)); (have h8 := (show ts1 ((fcs (rv h 157 k.toInt.toNat) (rv h 158 k.toInt.toNat) (rv h 159 k.toInt.toNat) (rv h 149 (164 + k.toInt.toNat)) (rv h 149 106) (rv h 149 107) (rv h 149 105) (rv h 149 (188 + k.toInt.toNat))) (fdC (rv h 189 v2_3.toInt.toNat)).toInt.toNat) (sgC (rv h 190 v2_3.toInt.toNat)) (rv h 191 v2_3.toInt.toNat) ↔ ((y9.toInt = 60 ∧ y8.toInt < y16.toInt) ∨ (y9.toInt = 62 ∧ y16.toInt < y8.toInt) ∨ (y9.toInt ≠ 60 ∧ y9.toInt ≠ 62 ∧ y8.toInt = y16.toInt)) from (by rw [rv_of e7, rv_of e9, rv_of e16, ← r8]; exact ts1_C))); rw [show 3 * line.toInt.toNat + (v2_3.toInt.toNat - 3 * line.toInt.toNat) = v2_3.toInt.toNat by omega] at h9; (have h7 := h8.mp h9); omega⟩⟩
        · refine te_iload (p2 := 44) rfl rfl rfl ?_
          refine te_aload_n (p2 := 45) rfl rfl rfl ?_
          refine tg_r (p2 := 48) (i := 148) (r := 207) rfl rfl hI rfl rfl rfl ?_
          refine te_iload_n (p2 := 49) rfl rfl rfl ?_
          refine tl_i (p2 := 50) (i := 191) (n := 144) rfl rfl hI rfl rfl rfl rfl (by omega) (by omega) (fun y19 a19 b19 g19 e19 => ?_)
          refine tb_lt (p2 := 53) rfl rfl rfl rfl (fun c20 => ?_) (fun c20 => ?_)
          · refine ar_inc (p2 := 97) (x := v2_3) rfl rfl (by decide) rfl (by decide) rfl (by omega) (by omega) (fun z21 e21 f21 => ?_)
            show EvP _ _ _ (97, [(3, .int z21), (4, .int y8), (0, .ref 164), (1, .int line), (2, .int k)], [], h) _
            refine te_goto rfl ?_
            refine te_lv [(0, .ref 164), (1, .int line), (2, .int k), (3, .int z21)] rfl rfl ⟨rfl, rfl, rfl, rfl, trivial⟩ ?_
            exact ih2 z21 (by omega) (by omega) (by omega) (by omega) (by omega) (fun i hi => by (by_cases hc : 3 * line.toInt.toNat + i = v2_3.toInt.toNat); (· (have h9 := (show ts1 ((fcs (rv h 157 k.toInt.toNat) (rv h 158 k.toInt.toNat) (rv h 159 k.toInt.toNat) (rv h 149 (164 + k.toInt.toNat)) (rv h 149 106) (rv h 149 107) (rv h 149 105) (rv h 149 (188 + k.toInt.toNat))) (fdC (rv h 189 v2_3.toInt.toNat)).toInt.toNat) (sgC (rv h 190 v2_3.toInt.toNat)) (rv h 191 v2_3.toInt.toNat) ↔ ((y9.toInt = 60 ∧ y8.toInt < y19.toInt) ∨ (y9.toInt = 62 ∧ y19.toInt < y8.toInt) ∨ (y9.toInt ≠ 60 ∧ y9.toInt ≠ 62 ∧ y8.toInt = y19.toInt)) from (by rw [rv_of e7, rv_of e9, rv_of e19, ← r8]; exact ts1_C))); rw [hc]; exact h9.mpr (by omega)); (· exact w2_0 i (by omega))) (by omega)
          · refine te_goto rfl ?_
            refine te_iconst (p2 := 93) (x := 0) rfl rfl (by decide) ?_
            exact te_zret rfl rfl (by decide) ⟨rfl, _, rfl, Or.inr ⟨rfl, fun q => by (have h9 := q (v2_3.toInt.toNat - 3 * line.toInt.toNat) (by rw [rv_of e4]; omega)); (have h8 := (show ts1 ((fcs (rv h 157 k.toInt.toNat) (rv h 158 k.toInt.toNat) (rv h 159 k.toInt.toNat) (rv h 149 (164 + k.toInt.toNat)) (rv h 149 106) (rv h 149 107) (rv h 149 105) (rv h 149 (188 + k.toInt.toNat))) (fdC (rv h 189 v2_3.toInt.toNat)).toInt.toNat) (sgC (rv h 190 v2_3.toInt.toNat)) (rv h 191 v2_3.toInt.toNat) ↔ ((y9.toInt = 60 ∧ y8.toInt < y19.toInt) ∨ (y9.toInt = 62 ∧ y19.toInt < y8.toInt) ∨ (y9.toInt ≠ 60 ∧ y9.toInt ≠ 62 ∧ y8.toInt = y19.toInt)) from (by rw [rv_of e7, rv_of e9, rv_of e19, ← r8]; exact ts1_C))); rw [show 3 * line.toInt.toNat + (v2_3.toInt.toNat - 3 * line.toInt.toNat) = v2_3.toInt.toNat by omega] at h9; (have h7 := h8.mp h9); omega⟩⟩
  refine te_lv [(0, .ref 164), (1, .int line), (2, .int k), (3, .int z1)] rfl rfl ⟨rfl, rfl, rfl, rfl, trivial⟩ ?_
  exact lp2 4 z1 (by omega) (by omega) (by omega) (by omega) (by omega) (fun i hi => absurd hi (by omega)) (by omega)
set_option maxRecDepth 20000 in
set_option maxHeartbeats 4000000 in
theorem c_X12_saysOf {k : Int32} {key : Int32} {h : im_H} (hI : tI h) (p_k0 : 0 ≤ k.toInt) (p_k1 : k.toInt ≤ 23) : CaP 3 144 [.ref 164, .int k, .int key] h (pI h (fun y => y = sdM h (fcs (rv h 157 k.toInt.toNat) (rv h 158 k.toInt.toNat) (rv h 159 k.toInt.toNat) (rv h 149 (164 + k.toInt.toNat)) (rv h 149 106) (rv h 149 107) (rv h 149 105) (rv h 149 (188 + k.toInt.toNat))) key)) := by
  refine cap_of (d := 2) (M := mX12_saysOf) rfl (Nat.le_of_ble_eq_true rfl) ?_
  show EvP im_K0 2 mX12_saysOf (0, [(0, .ref 164), (1, .int k), (2, .int key)], [], h) _
  refine te_aload_n (p2 := 1) rfl rfl rfl ?_
  refine tg_i (p2 := 4) (i := 148) rfl rfl hI rfl rfl rfl (fun y1 a1 b1 e1 => ?_)
  refine te_iconst (p2 := 5) (x := (-1)) rfl rfl (by decide) ?_
  refine tb_ne (p2 := 8) rfl rfl rfl (show Int32.toInt (-1) = (-1) from rfl) (fun c2 => ?_) (fun c2 => ?_)
  · refine te_bipush (p2 := 30) (x := 8) rfl rfl (by decide) ?_
    refine te_aload_n (p2 := 31) rfl rfl rfl ?_
    refine tg_e (p2 := 34) (i := 148) (v := .int y1) rfl rfl hI rfl rfl e1 ?_
    refine ar_mul (p2 := 35) rfl rfl (show Int32.toInt 8 = 8 from rfl) rfl (by omega) (by omega) (fun z3 e3 f3 => ?_)
    refine te_istore_n (p2 := 36) (lv2 := [(3, .int z3), (0, .ref 164), (1, .int k), (2, .int key)]) rfl rfl (by decide) rfl ?_
    have lp4 : ∀ (n4 : Nat) (v4_3 : Int32) , 0 ≤ v4_3.toInt → v4_3.toInt ≤ 48 → 8 * y1.toInt ≤ v4_3.toInt → odS (odM h y1.toInt.toNat) (fcs (rv h 157 k.toInt.toNat) (rv h 158 k.toInt.toNat) (rv h 159 k.toInt.toNat) (rv h 149 (164 + k.toInt.toNat)) (rv h 149 106) (rv h 149 107) (rv h 149 105) (rv h 149 (188 + k.toInt.toNat))) key = sayR (odM h y1.toInt.toNat).k (odM h y1.toInt.toNat).u (fun l => hld (fcs (rv h 157 k.toInt.toNat) (rv h 158 k.toInt.toNat) (rv h 159 k.toInt.toNat) (rv h 149 (164 + k.toInt.toNat)) (rv h 149 106) (rv h 149 107) (rv h 149 105) (rv h 149 (188 + k.toInt.toNat))) (odM h y1.toInt.toNat).f (odM h y1.toInt.toNat).s (odM h y1.toInt.toNat).v (3 * l) ((odM h y1.toInt.toNat).c l).toInt.toNat) key ((odM h y1.toInt.toNat).n.toInt.toNat - (v4_3.toInt.toNat - 8 * y1.toInt.toNat)) (v4_3.toInt.toNat - 8 * y1.toInt.toNat) → 48 - v4_3.toInt < (n4 : Int) → EvP im_K0 2 mX12_saysOf (36, [(0, .ref 164), (1, .int k), (2, .int key), (3, .int v4_3)], [], h) (pI h (fun y => y = sdM h (fcs (rv h 157 k.toInt.toNat) (rv h 158 k.toInt.toNat) (rv h 159 k.toInt.toNat) (rv h 149 (164 + k.toInt.toNat)) (rv h 149 106) (rv h 149 107) (rv h 149 105) (rv h 149 (188 + k.toInt.toNat))) key)) := by
      intro n4
      induction n4 with
      | zero => intro v4_3 a4_3 b4_3 l4_0 w4_0 m4; exfalso; omega
      | succ n4 ih4 =>
        intro v4_3 a4_3 b4_3 l4_0 w4_0 m4
        refine te_iload_n (p2 := 37) rfl rfl rfl ?_
        refine te_bipush (p2 := 39) (x := 8) rfl rfl (by decide) ?_
        refine te_aload_n (p2 := 40) rfl rfl rfl ?_
        refine tg_e (p2 := 43) (i := 148) (v := .int y1) rfl rfl hI rfl rfl e1 ?_
        refine ar_mul (p2 := 44) rfl rfl (show Int32.toInt 8 = 8 from rfl) rfl (by omega) (by omega) (fun z5 e5 f5 => ?_)
        refine te_aload_n (p2 := 45) rfl rfl rfl ?_
        refine tg_r (p2 := 48) (i := 148) (r := 201) rfl rfl hI rfl rfl rfl ?_
        refine te_aload_n (p2 := 49) rfl rfl rfl ?_
        refine tg_e (p2 := 52) (i := 148) (v := .int y1) rfl rfl hI rfl rfl e1 ?_
        refine tl_i (p2 := 53) (i := 185) (n := 6) rfl rfl hI rfl rfl rfl rfl (by omega) (by omega) (fun y6 a6 b6 g6 e6 => ?_)
        refine ar_add (p2 := 54) rfl rfl rfl rfl (by omega) (by omega) (fun z7 e7 f7 => ?_)
        refine tb_ge (p2 := 57) rfl rfl rfl rfl (fun c8 => ?_) (fun c8 => ?_)
        · refine te_iconst (p2 := 90) (x := 0) rfl rfl (by decide) ?_
          exact te_iret rfl rfl ⟨rfl, _, rfl, (by rw [(show sdM h (fcs (rv h 157 k.toInt.toNat) (rv h 158 k.toInt.toNat) (rv h 159 k.toInt.toNat) (rv h 149 (164 + k.toInt.toNat)) (rv h 149 106) (rv h 149 107) (rv h 149 105) (rv h 149 (188 + k.toInt.toNat))) key = odS (odM h y1.toInt.toNat) (fcs (rv h 157 k.toInt.toNat) (rv h 158 k.toInt.toNat) (rv h 159 k.toInt.toNat) (rv h 149 (164 + k.toInt.toNat)) (rv h 149 106) (rv h 149 107) (rv h 149 105) (rv h 149 (188 + k.toInt.toNat))) key from (by unfold sdM; rw [rv_of e1, if_neg (by omega)])), w4_0, show (odM h y1.toInt.toNat).n.toInt.toNat - (v4_3.toInt.toNat - 8 * y1.toInt.toNat) = 0 by (rw [(show (odM h y1.toInt.toNat).n = y6 from rv_of e6)]; omega)]; rfl)⟩
        · refine te_aload_n (p2 := 58) rfl rfl rfl ?_
          refine tg_r (p2 := 61) (i := 148) (r := 202) rfl rfl hI rfl rfl rfl ?_
          refine te_iload_n (p2 := 62) rfl rfl rfl ?_
          refine tl_i (p2 := 63) (i := 186) (n := 48) rfl rfl hI rfl rfl rfl rfl (by omega) (by omega) (fun y9 a9 b9 g9 e9 => ?_)
          refine te_iload_n (p2 := 64) rfl rfl rfl ?_
          refine tb_ne (p2 := 67) rfl rfl rfl rfl (fun c10 => ?_) (fun c10 => ?_)
          · refine ar_inc (p2 := 86) (x := v4_3) rfl rfl (by decide) rfl (by decide) rfl (by omega) (by omega) (fun z11 e11 f11 => ?_)
            show EvP _ _ _ (86, [(3, .int z11), (0, .ref 164), (1, .int k), (2, .int key)], [], h) _
            refine te_goto rfl ?_
            refine te_lv [(0, .ref 164), (1, .int k), (2, .int key), (3, .int z11)] rfl rfl ⟨rfl, rfl, rfl, rfl, trivial⟩ ?_
            exact ih4 z11 (by omega) (by omega) (by omega) (by rw [w4_0, show (odM h y1.toInt.toNat).n.toInt.toNat - (v4_3.toInt.toNat - 8 * y1.toInt.toNat) = ((odM h y1.toInt.toNat).n.toInt.toNat - (z11.toInt.toNat - 8 * y1.toInt.toNat)) + 1 by (rw [(show (odM h y1.toInt.toNat).n = y6 from rv_of e6)]; omega), sayR_n (H := (fun l => hld (fcs (rv h 157 k.toInt.toNat) (rv h 158 k.toInt.toNat) (rv h 159 k.toInt.toNat) (rv h 149 (164 + k.toInt.toNat)) (rv h 149 106) (rv h 149 107) (rv h 149 105) (rv h 149 (188 + k.toInt.toNat))) (odM h y1.toInt.toNat).f (odM h y1.toInt.toNat).s (odM h y1.toInt.toNat).v (3 * l) ((odM h y1.toInt.toNat).c l).toInt.toNat)) (fun q => absurd (congrArg Int32.toInt q.1) (by rw [(show (odM h y1.toInt.toNat).k (v4_3.toInt.toNat - 8 * y1.toInt.toNat) = y9 from (by show rv h 186 (8 * y1.toInt.toNat + (v4_3.toInt.toNat - 8 * y1.toInt.toNat)) = _; rw [show 8 * y1.toInt.toNat + (v4_3.toInt.toNat - 8 * y1.toInt.toNat) = v4_3.toInt.toNat by omega]; exact rv_of e9))]; omega)), show z11.toInt.toNat - 8 * y1.toInt.toNat = (v4_3.toInt.toNat - 8 * y1.toInt.toNat) + 1 by omega]) (by omega)
          · refine te_aload_n (p2 := 68) rfl rfl rfl ?_
            refine te_iload_n (p2 := 69) rfl rfl rfl ?_
            refine te_iload_n (p2 := 70) rfl rfl rfl ?_
            refine cV_pI (p2 := 73) (i := 148) rfl rfl rfl rfl hI rfl rfl rfl (c_X12_holds (line := v4_3) (k := k) hI (by omega) (by omega) (by omega) (by omega)) (by decide) (fun y12 r12 => ?_)
            rcases r12 with ⟨w12, ho12⟩ | ⟨w12, ho12⟩
            · subst w12
              refine tz_eq (p2 := 76) rfl rfl (show Int32.toInt 1 = 1 from rfl) (fun c13 => absurd c13 (by omega)) (fun c13 => ?_)
              refine te_aload_n (p2 := 77) rfl rfl rfl ?_
              refine tg_r (p2 := 80) (i := 148) (r := 203) rfl rfl hI rfl rfl rfl ?_
              refine te_iload_n (p2 := 81) rfl rfl rfl ?_
              refine tl_i (p2 := 82) (i := 187) (n := 48) rfl rfl hI rfl rfl rfl rfl (by omega) (by omega) (fun y14 a14 b14 g14 e14 => ?_)
              exact te_iret rfl rfl ⟨rfl, _, rfl, (by rw [(show sdM h (fcs (rv h 157 k.toInt.toNat) (rv h 158 k.toInt.toNat) (rv h 159 k.toInt.toNat) (rv h 149 (164 + k.toInt.toNat)) (rv h 149 106) (rv h 149 107) (rv h 149 105) (rv h 149 (188 + k.toInt.toNat))) key = odS (odM h y1.toInt.toNat) (fcs (rv h 157 k.toInt.toNat) (rv h 158 k.toInt.toNat) (rv h 159 k.toInt.toNat) (rv h 149 (164 + k.toInt.toNat)) (rv h 149 106) (rv h 149 107) (rv h 149 105) (rv h 149 (188 + k.toInt.toNat))) key from (by unfold sdM; rw [rv_of e1, if_neg (by omega)])), w4_0, show (odM h y1.toInt.toNat).n.toInt.toNat - (v4_3.toInt.toNat - 8 * y1.toInt.toNat) = ((odM h y1.toInt.toNat).n.toInt.toNat - (v4_3.toInt.toNat - 8 * y1.toInt.toNat) - 1) + 1 by (rw [(show (odM h y1.toInt.toNat).n = y6 from rv_of e6)]; omega), sayR_y (H := (fun l => hld (fcs (rv h 157 k.toInt.toNat) (rv h 158 k.toInt.toNat) (rv h 159 k.toInt.toNat) (rv h 149 (164 + k.toInt.toNat)) (rv h 149 106) (rv h 149 107) (rv h 149 105) (rv h 149 (188 + k.toInt.toNat))) (odM h y1.toInt.toNat).f (odM h y1.toInt.toNat).s (odM h y1.toInt.toNat).v (3 * l) ((odM h y1.toInt.toNat).c l).toInt.toNat)) ⟨(by rw [(show (odM h y1.toInt.toNat).k (v4_3.toInt.toNat - 8 * y1.toInt.toNat) = y9 from (by show rv h 186 (8 * y1.toInt.toNat + (v4_3.toInt.toNat - 8 * y1.toInt.toNat)) = _; rw [show 8 * y1.toInt.toNat + (v4_3.toInt.toNat - 8 * y1.toInt.toNat) = v4_3.toInt.toNat by omega]; exact rv_of e9))]; exact i32_ext (by omega)), (by rw [show ((odM h y1.toInt.toNat).c (v4_3.toInt.toNat - 8 * y1.toInt.toNat)) = rv h 188 v4_3.toInt.toNat from (by show rv h 188 (8 * y1.toInt.toNat + (v4_3.toInt.toNat - 8 * y1.toInt.toNat)) = _; rw [show 8 * y1.toInt.toNat + (v4_3.toInt.toNat - 8 * y1.toInt.toNat) = v4_3.toInt.toNat by omega])]; exact (hldM (r := y1.toInt.toNat) (l := v4_3.toInt.toNat - 8 * y1.toInt.toNat) (line := v4_3.toInt.toNat) (by omega)).mp ho12)⟩]; show _ = rv h 187 (8 * y1.toInt.toNat + (v4_3.toInt.toNat - 8 * y1.toInt.toNat)); rw [show 8 * y1.toInt.toNat + (v4_3.toInt.toNat - 8 * y1.toInt.toNat) = v4_3.toInt.toNat by omega]; exact (rv_of e14).symm)⟩
            · subst w12
              refine tz_eq (p2 := 76) rfl rfl (show Int32.toInt 0 = 0 from rfl) (fun c15 => ?_) (fun c15 => absurd c15 (by omega))
              refine ar_inc (p2 := 86) (x := v4_3) rfl rfl (by decide) rfl (by decide) rfl (by omega) (by omega) (fun z16 e16 f16 => ?_)
              show EvP _ _ _ (86, [(3, .int z16), (0, .ref 164), (1, .int k), (2, .int key)], [], h) _
              refine te_goto rfl ?_
              refine te_lv [(0, .ref 164), (1, .int k), (2, .int key), (3, .int z16)] rfl rfl ⟨rfl, rfl, rfl, rfl, trivial⟩ ?_
              exact ih4 z16 (by omega) (by omega) (by omega) (by rw [w4_0, show (odM h y1.toInt.toNat).n.toInt.toNat - (v4_3.toInt.toNat - 8 * y1.toInt.toNat) = ((odM h y1.toInt.toNat).n.toInt.toNat - (z16.toInt.toNat - 8 * y1.toInt.toNat)) + 1 by (rw [(show (odM h y1.toInt.toNat).n = y6 from rv_of e6)]; omega), sayR_n (H := (fun l => hld (fcs (rv h 157 k.toInt.toNat) (rv h 158 k.toInt.toNat) (rv h 159 k.toInt.toNat) (rv h 149 (164 + k.toInt.toNat)) (rv h 149 106) (rv h 149 107) (rv h 149 105) (rv h 149 (188 + k.toInt.toNat))) (odM h y1.toInt.toNat).f (odM h y1.toInt.toNat).s (odM h y1.toInt.toNat).v (3 * l) ((odM h y1.toInt.toNat).c l).toInt.toNat)) (fun q => ho12 (by (have h9 := q.2); rw [show ((odM h y1.toInt.toNat).c (v4_3.toInt.toNat - 8 * y1.toInt.toNat)) = rv h 188 v4_3.toInt.toNat from (by show rv h 188 (8 * y1.toInt.toNat + (v4_3.toInt.toNat - 8 * y1.toInt.toNat)) = _; rw [show 8 * y1.toInt.toNat + (v4_3.toInt.toNat - 8 * y1.toInt.toNat) = v4_3.toInt.toNat by omega])] at h9; exact (hldM (r := y1.toInt.toNat) (l := v4_3.toInt.toNat - 8 * y1.toInt.toNat) (line := v4_3.toInt.toNat) (by omega)).mpr h9)), show z16.toInt.toNat - 8 * y1.toInt.toNat = (v4_3.toInt.toNat - 8 * y1.toInt.toNat) + 1 by omega]) (by omega)
    refine te_lv [(0, .ref 164), (1, .int k), (2, .int key), (3, .int z3)] rfl rfl ⟨rfl, rfl, rfl, rfl, trivial⟩ ?_
    exact lp4 49 z3 (by omega) (by omega) (by omega) (by rw [show z3.toInt.toNat - 8 * y1.toInt.toNat = 0 by omega]; rfl) (by omega)
  · refine te_iload_n (p2 := 9) rfl rfl rfl ?_
    refine tz_ne (p2 := 12) rfl rfl rfl (fun c17 => ?_) (fun c17 => ?_)
    · refine te_iload_n (p2 := 18) rfl rfl rfl ?_
      refine te_iconst (p2 := 19) (x := 1) rfl rfl (by decide) ?_
      refine tb_ne (p2 := 22) rfl rfl rfl (show Int32.toInt 1 = 1 from rfl) (fun c18 => ?_) (fun c18 => ?_)
      · refine te_iconst (p2 := 27) (x := 0) rfl rfl (by decide) ?_
        exact te_iret rfl rfl ⟨rfl, _, rfl, (by unfold sdM; rw [rv_of e1, if_pos (by omega)]; show _ = nos key; unfold nos; (repeat' split) <;> first | (exfalso; omega) | rfl)⟩
      · refine te_iconst (p2 := 23) (x := 1) rfl rfl (by decide) ?_
        refine te_goto rfl ?_
        exact te_iret rfl rfl ⟨rfl, _, rfl, (by unfold sdM; rw [rv_of e1, if_pos (by omega)]; show _ = nos key; unfold nos; (repeat' split) <;> first | (exfalso; omega) | rfl)⟩
    · refine te_bipush (p2 := 14) (x := 8) rfl rfl (by decide) ?_
      refine te_goto rfl ?_
      exact te_iret rfl rfl ⟨rfl, _, rfl, (by unfold sdM; rw [rv_of e1, if_pos (by omega)]; show _ = nos key; unfold nos; (repeat' split) <;> first | (exfalso; omega) | rfl)⟩
def dyOK (b : Int) (A : Dy) : Prop := (∀ c, 0 ≤ (A.ld c).toInt ∧ (A.ld c).toInt ≤ b) ∧ (∀ p, (A.de p).toInt = 0 ∨ (A.de p).toInt = 1) ∧ (∀ k, (A.up k).toInt = 0 ∨ (A.up k).toInt = 1) ∧ (∀ p, 0 ≤ (A.hu p).toInt ∧ (A.hu p).toInt ≤ 8) ∧ (∀ j, 0 ≤ (A.kp j).toInt ∧ (A.kp j).toInt ≤ b)
def ctOK (c : Ct) : Prop := (∀ p, 0 ≤ (c.sg p).toInt ∧ (c.sg p).toInt ≤ 9) ∧ (∀ fc k, 0 ≤ (c.sd fc k).toInt) ∧ (∀ r, 0 ≤ (c.cr r).toInt ∧ (c.cr r).toInt ≤ 20) ∧ (∀ r, 0 ≤ (c.wn r).toInt ∧ (c.wn r).toInt ≤ 12) ∧ (∀ r i, 0 ≤ (c.hd r i).toInt)
theorem dy_mono {b b2 : Int} {A : Dy} (h : dyOK b A) (hb : b ≤ b2) : dyOK b2 A := ⟨fun c => ⟨(h.1 c).1, Int.le_trans (h.1 c).2 hb⟩, h.2.1, h.2.2.1, h.2.2.2.1, fun j => ⟨(h.2.2.2.2 j).1, Int.le_trans (h.2.2.2.2 j).2 hb⟩⟩
theorem mn14_B {x : Int32} (h : 0 ≤ x.toInt) : 0 ≤ (mn14 x).toInt ∧ (mn14 x).toInt ≤ 14 := by
  unfold mn14
  have a := (show Int32.toInt 14 = 14 from rfl)
  split <;> omega
theorem mx0_B {x : Int32} (h : x.toInt ≤ 9) : 0 ≤ (mx0 x).toInt ∧ (mx0 x).toInt ≤ 9 := by
  unfold mx0
  have a := (show Int32.toInt 0 = 0 from rfl)
  split <;> omega
theorem ps_B {c : Ct} {A : Dy} {b : Int} {p : Nat} (hc : ctOK c) (hA : dyOK b A) : 0 ≤ (psF c A p).toInt ∧ (psF c A p).toInt ≤ 126 := by
  unfold psF
  split
  · have a := (show Int32.toInt 0 = 0 from rfl); omega
  · have h1 := hc.1 p
    have h2 := hA.2.2.2.1 p
    have e := i32_subE (x := c.sg p) (y := A.hu p) rfl (by omega) (by omega)
    have m1 := mn14_B (hc.2.1 (fcA c A p) 0)
    have m2 := mx0_B (x := c.sg p - A.hu p) (by omega)
    have p1 : 0 ≤ (mn14 (c.sd (fcA c A p) 0)).toInt * (mx0 (c.sg p - A.hu p)).toInt := Int.mul_nonneg m1.1 m2.1
    have p2 : (mn14 (c.sd (fcA c A p) 0)).toInt * (mx0 (c.sg p - A.hu p)).toInt ≤ 14 * 9 := Int.mul_le_mul m1.2 m2.2 m2.1 (by decide)
    rw [i32_mulE rfl rfl (by omega) (by omega)]
    omega
theorem ls_y {c : Ct} {A : Dy} {r i : Nat} (h : (lsF c A r i).1.toInt = -1 ∨ (psF c A (c.hd r i).toInt.toNat).toInt < (lsF c A r i).2.toInt) : lsF c A r (i + 1) = (c.hd r i, psF c A (c.hd r i).toInt.toNat) := if_pos h
theorem ls_n {c : Ct} {A : Dy} {r i : Nat} (h : ¬ ((lsF c A r i).1.toInt = -1 ∨ (psF c A (c.hd r i).toInt.toNat).toInt < (lsF c A r i).2.toInt)) : lsF c A r (i + 1) = lsF c A r i := if_neg h
theorem ls_B {c : Ct} {A : Dy} {b : Int} {r : Nat} (hc : ctOK c) (hA : dyOK b A) : ∀ n, 0 ≤ (lsF c A r n).2.toInt ∧ (lsF c A r n).2.toInt ≤ 126
  | 0 => ⟨(by decide : (0 : Int) ≤ Int32.toInt 0), (by decide : Int32.toInt 0 ≤ 126)⟩
  | n + 1 => by
    have ih := ls_B (r := r) hc hA n
    by_cases h : (lsF c A r n).1.toInt = -1 ∨ (psF c A (c.hd r n).toInt.toNat).toInt < (lsF c A r n).2.toInt
    · rw [ls_y h]; exact ps_B hc hA
    · rw [ls_n h]; exact ih
theorem ls_1 {c : Ct} {A : Dy} {r : Nat} (hd : ∀ i, 0 ≤ (c.hd r i).toInt) : ∀ n, (lsF c A r (n + 1)).1.toInt ≠ -1 := by
  intro n
  induction n with
  | zero =>
    rw [ls_y (c := c) (A := A) (r := r) (i := 0) (Or.inl rfl)]
    have := hd 0
    show (c.hd r 0).toInt ≠ -1
    omega
  | succ n ih =>
    by_cases h : (lsF c A r (n + 1)).1.toInt = -1 ∨ (psF c A (c.hd r (n + 1)).toInt.toNat).toInt < (lsF c A r (n + 1)).2.toInt
    · rw [ls_y h]
      have := hd (n + 1)
      show (c.hd r (n + 1)).toInt ≠ -1
      omega
    · rw [ls_n h]; exact ih
theorem ls_0 {c : Ct} {A : Dy} {r n : Nat} (hd : ∀ i, 0 ≤ (c.hd r i).toInt) : (lsF c A r n).1.toInt = -1 ↔ n = 0 := by
  cases n with
  | zero => exact ⟨fun _ => rfl, fun _ => rfl⟩
  | succ n => exact ⟨fun h => absurd h (ls_1 hd n), fun h => absurd h (Nat.succ_ne_zero n)⟩
theorem ls_le {c : Ct} {A : Dy} {r : Nat} (hd : ∀ i, 0 ≤ (c.hd r i).toInt) : ∀ n i, i < n → (lsF c A r n).2.toInt ≤ (psF c A (c.hd r i).toInt.toNat).toInt := by
  intro n
  induction n with
  | zero => intro i hi; exact absurd hi (Nat.not_lt_zero i)
  | succ n ih =>
    intro i hi
    by_cases h : (lsF c A r n).1.toInt = -1 ∨ (psF c A (c.hd r n).toInt.toNat).toInt < (lsF c A r n).2.toInt
    · rw [ls_y h]
      show (psF c A (c.hd r n).toInt.toNat).toInt ≤ _
      by_cases hn : i = n
      · subst hn; exact Int.le_refl _
      · have h2 := ih i (by omega)
        have h3 : ¬ (lsF c A r n).1.toInt = -1 := fun q => by have := (ls_0 hd).mp q; omega
        have h4 := h.resolve_left h3
        omega
    · rw [ls_n h]
      by_cases hn : i = n
      · subst hn; omega
      · exact ih i (by omega)
theorem ps_al {c : Ct} {A : Dy} {p : Nat} (h : 0 < (psF c A p).toInt) : (A.de p).toInt = 0 := by
  by_cases hc : (A.de p).toInt ≠ 0 ∨ (c.sd (fcA c A p) 2).toInt ≠ 0
  · unfold psF at h
    rw [if_pos hc] at h
    exact absurd h (by decide)
  · exact Classical.byContradiction (fun q => hc (Or.inl q))
theorem ls_al {c : Ct} {A : Dy} {r n i : Nat} (hd : ∀ i, 0 ≤ (c.hd r i).toInt) (h : 0 < (lsF c A r n).2.toInt) (hi : i < n) : (A.de (c.hd r i).toInt.toNat).toInt = 0 := ps_al (Int.lt_of_lt_of_le h (ls_le hd n i hi))
theorem mnI_B {x y : Int32} {b : Int} (hx : 0 ≤ x.toInt ∧ x.toInt ≤ b) (hy : 0 ≤ y.toInt) : 0 ≤ (mnI x y).toInt ∧ (mnI x y).toInt ≤ b ∧ (mnI x y).toInt ≤ y.toInt := by
  unfold mnI
  split <;> omega
theorem udt_B {f : Nat → Int32} {i : Nat} {v : Int32} {P : Int32 → Prop} (h : ∀ k, P (f k)) (hv : P v) : ∀ k, P (udt f i v k) := by
  intro k
  unfold udt
  split
  · exact hv
  · exact h k
theorem br_B {c : Ct} {A : Dy} {b m : Int} {to : Nat} {n : Int32} (hA : dyOK b A) (h0 : 0 ≤ n.toInt) (h1 : n.toInt ≤ m) (hb : b + m ≤ 2147483647) : dyOK (b + m) (brF c A to n) := by
  unfold brF
  split
  · exact dy_mono hA (by omega)
  · have hM := dy_mono (b2 := b + m) hA (by omega)
    have h2 := hA.1 to
    have e := i32_addE (x := A.ld to) (y := n) rfl (by omega) (by omega)
    exact ⟨udt_B (P := fun x => 0 ≤ x.toInt ∧ x.toInt ≤ b + m) hM.1 (by rw [e]; omega), hM.2.1, hM.2.2.1, hM.2.2.2.1, hM.2.2.2.2⟩
theorem wk_B {c : Ct} {A : Dy} {b : Int} {r : Nat} (hA : dyOK b A) : ∀ n, dyOK b (wkF c r A n)
  | 0 => hA
  | n + 1 => wk_B (c := c) (r := r) hA n
theorem KB_B : ∀ i, 0 ≤ (KB.getD i 0).toInt ∧ (KB.getD i 0).toInt ≤ 70
  | 0 => by decide
  | 1 => by decide
  | 2 => by decide
  | 3 => by decide
  | 4 => by decide
  | 5 => by decide
  | _ + 6 => ⟨(by decide : (0 : Int) ≤ Int32.toInt 0), (by decide : Int32.toInt 0 ≤ 70)⟩
theorem KM_B : ∀ i, 0 ≤ (KM.getD i 0).toInt ∧ (KM.getD i 0).toInt ≤ 70
  | 0 => by decide
  | 1 => by decide
  | 2 => by decide
  | 3 => by decide
  | 4 => by decide
  | 5 => by decide
  | _ + 6 => ⟨(by decide : (0 : Int) ≤ Int32.toInt 0), (by decide : Int32.toInt 0 ≤ 70)⟩
theorem KI_B : ∀ i, 0 ≤ (KI.getD i 0).toInt ∧ (KI.getD i 0).toInt ≤ 70
  | 0 => by decide
  | 1 => by decide
  | 2 => by decide
  | 3 => by decide
  | 4 => by decide
  | 5 => by decide
  | _ + 6 => ⟨(by decide : (0 : Int) ≤ Int32.toInt 0), (by decide : Int32.toInt 0 ≤ 70)⟩
theorem ta_B {x t k : Int32} {b : Int} (hx : 0 ≤ x.toInt ∧ x.toInt ≤ b) (ht : 0 ≤ t.toInt ∧ t.toInt ≤ 12) (hk : 0 ≤ k.toInt ∧ k.toInt ≤ 70) (hb : b + 840 ≤ 2147483647) : 0 ≤ (x + t * k).toInt ∧ (x + t * k).toInt ≤ b + 840 := by
  have p1 : 0 ≤ t.toInt * k.toInt := Int.mul_nonneg ht.1 hk.1
  have p2 : t.toInt * k.toInt ≤ 12 * 70 := Int.mul_le_mul ht.2 hk.2 hk.1 (by decide)
  have e := i32_mulE (x := t) (y := k) rfl rfl (by omega) (by omega)
  rw [i32_addE e (by omega) (by omega)]
  omega
theorem kp_B {c : Ct} {A : Dy} {b : Int} {fr : Nat} {t : Int32} (hA : dyOK b A) (ht : 0 ≤ t.toInt ∧ t.toInt ≤ 12) (hb : b + 840 ≤ 2147483647) : dyOK (b + 840) (kpF c A fr t) := by
  have hM := dy_mono (b2 := b + 840) hA (by omega)
  unfold kpF
  split
  · exact hM
  · exact ⟨hM.1, hM.2.1, hM.2.2.1, hM.2.2.2.1, udt_B (P := fun x => 0 ≤ x.toInt ∧ x.toInt ≤ b + 840) (udt_B (P := fun x => 0 ≤ x.toInt ∧ x.toInt ≤ b + 840) (udt_B (P := fun x => 0 ≤ x.toInt ∧ x.toInt ≤ b + 840) hM.2.2.2.2 (ta_B (hA.2.2.2.2 _) ht (KB_B _) hb)) (ta_B (hA.2.2.2.2 _) ht (KM_B _) hb)) (ta_B (hA.2.2.2.2 _) ht (KI_B _) hb)⟩
theorem kp_ld {c : Ct} {A : Dy} {fr : Nat} {t : Int32} : (kpF c A fr t).ld = A.ld := by
  unfold kpF
  split <;> rfl
theorem pa_B {c : Ct} {A : Dy} {b : Int} {r : Nat} {n : Int32} (hA : dyOK b A) (hn : 0 ≤ n.toInt ∧ n.toInt ≤ 126) (hl : n.toInt ≤ (A.ld (c.hf r).toInt.toNat).toInt) (hb : b + 1000 ≤ 2147483647) : dyOK (b + 1000) (paF c A r n) := by
  have e10 := (show Int32.toInt 10 = 10 from rfl)
  have e4 := (show Int32.toInt 4 = 4 from rfl)
  have d := i32_divE (x := n) (y := 10) rfl e10 hn.1 (by decide)
  have d4 := i32_mulE d e4 (by omega) (by omega)
  have e := i32_subE (x := n) d4 (by omega) (by omega)
  have hk := kp_B (c := c) (fr := (c.hf r).toInt.toNat) (t := n / 10) hA (by rw [d]; omega) (by omega)
  have hl0 := hA.1 (c.hf r).toInt.toNat
  have es := i32_subE (x := A.ld (c.hf r).toInt.toNat) (y := n) rfl (by omega) (by omega)
  have h2 : dyOK (b + 840) (Dy.s_ld (Dy.s_du (kpF c A (c.hf r).toInt.toNat (n / 10)) (A.du + n / 10 * 4)) (udt A.ld (c.hf r).toInt.toNat (A.ld (c.hf r).toInt.toNat - n))) := ⟨udt_B (P := fun x => 0 ≤ x.toInt ∧ x.toInt ≤ b + 840) (fun k => ⟨(hA.1 k).1, by have := (hA.1 k).2; omega⟩) (by rw [es]; omega), hk.2.1, hk.2.2.1, hk.2.2.2.1, hk.2.2.2.2⟩
  exact dy_mono (wk_B (c := c) (r := r) (br_B (c := c) (to := (c.ht r).toInt.toNat) (n := n - n / 10 * 4) (m := 126) h2 (by rw [e]; omega) (by rw [e]; omega) (by omega)) _) (by omega)
theorem ro_B {c : Ct} {A : Dy} {b : Int} {r : Nat} (hc : ctOK c) (hA : dyOK b A) (hb : b + 1000 ≤ 2147483647) : dyOK (b + 1000) (roF c A r) := by
  have hl := ls_B (r := r) hc hA (c.hn r).toInt.toNat
  have hm := mnI_B hl (hA.1 (c.hf r).toInt.toNat).1
  unfold roF
  split
  · exact pa_B (A := (Dy.s_rs A (udt A.rs r (lsF c A r (c.hn r).toInt.toNat).1))) hA ⟨hm.1, hm.2.1⟩ hm.2.2 hb
  · exact dy_mono (A := (Dy.s_rs (Dy.s_rl A (udt A.rl r 0)) (udt A.rs r (lsF c A r (c.hn r).toInt.toNat).1))) hA (by omega)
theorem rq_B {c : Ct} {r : Nat} (hc : ctOK c) (hw : ¬ (c.wn r).toInt < 2) : 0 ≤ (60 * c.cr r / (c.wn r - 1)).toInt ∧ (60 * c.cr r / (c.wn r - 1)).toInt ≤ 1200 := by
  have h1 := hc.2.2.1 r
  have h2 := hc.2.2.2.1 r
  have e := i32_mulE (x := 60) (y := c.cr r) (show Int32.toInt 60 = 60 from rfl) rfl (by omega) (by omega)
  have e1 := i32_subE (x := c.wn r) (show Int32.toInt 1 = 1 from rfl) (by omega) (by omega)
  rw [i32_divE e e1 (by omega) (by omega)]
  have q := Int.ediv_le_self (a := 60 * (c.cr r).toInt) ((c.wn r).toInt - 1) (by omega)
  have q0 := Int.ediv_nonneg (a := 60 * (c.cr r).toInt) (b := (c.wn r).toInt - 1) (by omega) (by omega)
  omega
theorem ra_B {c : Ct} {A : Dy} {b : Int} {r : Nat} (hc : ctOK c) (hA : dyOK b A) (hb : b + 1200 ≤ 2147483647) : dyOK (b + 1200) (raF c A r) := by
  unfold raF
  split
  · exact dy_mono (A := (Dy.s_ra A (udt A.ra r 0))) hA (by omega)
  · rename_i hw
    have hm := mnI_B (rq_B hc hw) (hA.1 (c.wf r).toInt.toNat).1
    have hl0 := hA.1 (c.wf r).toInt.toNat
    have es := i32_subE (x := A.ld (c.wf r).toInt.toNat) (y := mnI (60 * c.cr r / (c.wn r - 1)) (A.ld (c.wf r).toInt.toNat)) rfl (by omega) (by omega)
    refine br_B (b := b) ⟨udt_B (P := fun x => 0 ≤ x.toInt ∧ x.toInt ≤ b) hA.1 (by rw [es]; omega), hA.2.1, hA.2.2.1, hA.2.2.2.1, hA.2.2.2.2⟩ hm.1 hm.2.1 hb
theorem hi_B {c : Ct} {A : Dy} {b : Int} {to : Int32} {p : Nat} (hA : dyOK b A) : dyOK b (hiF c to A p) := by
  have h := hA.2.2.2.1 p
  have e := i32_addE (x := A.hu p) (show Int32.toInt 3 = 3 from rfl) (by omega) (by omega)
  unfold hiF
  split
  · split
    · exact ⟨hA.1, udt_B (P := fun x => x.toInt = 0 ∨ x.toInt = 1) hA.2.1 (Or.inr rfl), hA.2.2.1, udt_B (P := fun x => 0 ≤ x.toInt ∧ x.toInt ≤ 8) hA.2.2.2.1 (by decide), hA.2.2.2.2⟩
    · rename_i h9
      exact ⟨hA.1, hA.2.1, hA.2.2.1, udt_B (P := fun x => 0 ≤ x.toInt ∧ x.toInt ≤ 8) hA.2.2.2.1 (by rw [e] at h9 ⊢; omega), hA.2.2.2.2⟩
  · exact hA
theorem his_B {c : Ct} {A : Dy} {b : Int} {to : Int32} (hA : dyOK b A) : ∀ n, dyOK b (hisF c to A n)
  | 0 => hA
  | n + 1 => hi_B (his_B (c := c) (to := to) hA n)
theorem fa_B {c : Ct} {A : Dy} {b : Int} {k : Nat} (hA : dyOK b A) (hb : b + 20 ≤ 2147483647) : dyOK (b + 20) (faF c A k) := by
  have h2 := hA.1 (c.wt k).toInt.toNat
  have e := i32_addE (x := A.ld (c.wt k).toInt.toNat) (show Int32.toInt 20 = 20 from rfl) (by omega) (by omega)
  have hM := dy_mono (b2 := b + 20) hA (by omega)
  exact his_B (A := (Dy.s_ld (Dy.s_up A (udt A.up k 0)) (udt A.ld (c.wt k).toInt.toNat (A.ld (c.wt k).toInt.toNat + 20)))) ⟨udt_B (P := fun x => 0 ≤ x.toInt ∧ x.toInt ≤ b + 20) hM.1 (by rw [e]; omega), hM.2.1, udt_B (P := fun x => x.toInt = 0 ∨ x.toInt = 1) hM.2.2.1 (Or.inl rfl), hM.2.2.2.1, hM.2.2.2.2⟩ _
theorem wa_B {c : Ct} {A : Dy} {b : Int} {k : Nat} (hA : dyOK b A) (hb : b + 20 ≤ 2147483647) : dyOK (b + 20) (waF c A k) := by
  unfold waF
  split
  · split
    · exact fa_B (A := (Dy.s_st A (udt A.st k (weF c A k)))) hA hb
    · exact dy_mono (A := (Dy.s_st A (udt A.st k (weF c A k)))) hA (by omega)
  · exact dy_mono hA (by omega)
theorem he_B {A : Dy} {b : Int} {p : Nat} (hA : dyOK b A) : dyOK b (heF A p) := by
  have h := hA.2.2.2.1 p
  have e := i32_subE (x := A.hu p) (show Int32.toInt 1 = 1 from rfl) (by omega) (by omega)
  unfold heF
  split
  · rename_i hc
    exact ⟨hA.1, hA.2.1, hA.2.2.1, udt_B (P := fun x => 0 ≤ x.toInt ∧ x.toInt ≤ 8) hA.2.2.2.1 (by rw [e]; omega), hA.2.2.2.2⟩
  · exact hA
theorem it_B {f : Dy → Nat → Dy} {m M : Int} (hf : ∀ {A : Dy} {b : Int} {k : Nat}, dyOK b A → b + m ≤ 2147483647 → dyOK (b + m) (f A k)) {A : Dy} {b : Int} (hA : dyOK b A) (hm : 0 ≤ m) : ∀ n : Nat, (n : Int) * m ≤ M → b + M ≤ 2147483647 → dyOK (b + M) (itF f A n) := by
  intro n hn hb
  have h : ∀ k : Nat, k ≤ n → dyOK (b + (k : Int) * m) (itF f A k) := by
    intro k
    induction k with
    | zero => intro _; exact dy_mono hA (by rw [show ((0 : Nat) : Int) * m = 0 from Int.zero_mul m]; omega)
    | succ k ih =>
      intro hk
      have e : ((k + 1 : Nat) : Int) * m = (k : Int) * m + m := by rw [Int.natCast_succ, Int.add_mul, Int.one_mul]
      have e2 : ((k + 1 : Nat) : Int) * m ≤ (n : Int) * m := Int.mul_le_mul_of_nonneg_right (by omega) hm
      have h2 := hf (k := k) (ih (by omega)) (by omega)
      rw [e]
      exact dy_mono h2 (by omega)
  exact dy_mono (h n (Nat.le_refl _)) (by omega)
theorem da_B {c : Ct} {A : Dy} {b : Int} (hc : ctOK c) (hn : c.nw.toInt ≤ 16) (hA : dyOK b A) (hb : b + 8000 ≤ 2147483647) : dyOK (b + 8000) (dyF c A) := by
  have h1 := it_B (f := roF c) (m := 1000) (M := 4000) (fun h g => ro_B hc h g) hA (by decide) 4 (by decide) (by omega)
  have h2 := it_B (f := raF c) (m := 1200) (M := 3600) (fun h g => ra_B hc h g) h1 (by decide) 3 (by decide) (by omega)
  have h3 := it_B (f := waF c) (m := 20) (M := 320) (fun h g => wa_B h g) h2 (by decide) c.nw.toInt.toNat (by omega) (by omega)
  have h4 := it_B (f := heF) (m := 0) (M := 0) (fun h g => dy_mono (he_B h) (by omega)) h3 (by decide) c.np.toInt.toNat (by omega) (by omega)
  unfold dyF
  split
  · exact dy_mono (A := (Dy.s_da (itF heF (itF (waF c) (itF (raF c) (itF (roF c) A 4) 3) c.nw.toInt.toNat) c.np.toInt.toNat) (A.da + 1))) h4 (by omega)
  · exact dy_mono (A := (Dy.s_da (itF (waF c) (itF (raF c) (itF (roF c) A 4) 3) c.nw.toInt.toNat) (A.da + 1))) h3 (by omega)
theorem das_B {c : Ct} {A : Dy} {b : Int} (hc : ctOK c) (hn : c.nw.toInt ≤ 16) (hA : dyOK b A) : ∀ n : Nat, b + 8000 * (n : Int) ≤ 2147483647 → dyOK (b + 8000 * (n : Int)) (dysF c A n)
  | 0, _ => dy_mono hA (by omega)
  | n + 1, h => dy_mono (da_B hc hn (das_B hc hn hA n (by omega)) (by omega)) (by omega)
