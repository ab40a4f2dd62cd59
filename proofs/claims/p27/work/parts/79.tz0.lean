def sB (f : Nat → Int) (m : Nat) : Nat → Int
  | 0 => 0
  | i + 1 => sB f m i + (if m / 2 ^ i % 2 = 1 then f i else 0)
theorem sB_nn {f : Nat → Int} (h : ∀ i, 0 ≤ f i) {m : Nat} : ∀ n, 0 ≤ sB f m n
  | 0 => Int.le_refl _
  | n + 1 => by
    have a := sB_nn h (m := m) n
    have b := h n
    show 0 ≤ sB f m n + (if m / 2 ^ n % 2 = 1 then f n else 0)
    split <;> omega
theorem sB_c {f : Nat → Int} {m m2 : Nat} : ∀ n, (∀ i, i < n → m / 2 ^ i % 2 = m2 / 2 ^ i % 2) → sB f m n = sB f m2 n
  | 0, _ => rfl
  | n + 1, h => by
    show sB f m n + (if m / 2 ^ n % 2 = 1 then f n else 0) = sB f m2 n + (if m2 / 2 ^ n % 2 = 1 then f n else 0)
    rw [sB_c n (fun i hi => h i (by omega)), h n (by omega)]
theorem sB_lo {f : Nat → Int} {n j : Nat} (hj : j < 2 ^ n) : sB f j (n + 1) = sB f j n := by
  show sB f j n + (if j / 2 ^ n % 2 = 1 then f n else 0) = sB f j n
  rw [Nat.div_eq_of_lt hj, if_neg (by decide)]
  omega
theorem sB_hi {f : Nat → Int} {n j : Nat} (hj : j < 2 ^ n) : sB f (2 ^ n + j) (n + 1) = sB f j n + f n := by
  show sB f (2 ^ n + j) n + (if (2 ^ n + j) / 2 ^ n % 2 = 1 then f n else 0) = sB f j n + f n
  have hp : 0 < 2 ^ n := Nat.pow_pos (by decide)
  have e1 : (2 ^ n + j) / 2 ^ n = 1 := by
    rw [Nat.add_div_left _ hp, Nat.div_eq_of_lt hj]
  rw [e1, if_pos (by decide)]
  rw [sB_c (m := 2 ^ n + j) (m2 := j) n (fun i hi => by
    have e : 2 ^ n = 2 ^ i * (2 * 2 ^ (n - i - 1)) := by
      rw [← Nat.pow_succ', ← Nat.pow_add]
      congr 1
      omega
    have hp2 : 0 < 2 ^ i := Nat.pow_pos (by decide)
    rw [e, Nat.mul_add_div hp2]
    omega)]
abbrev fea (br bm wa : Nat → Int) (n : Nat) (most bl be : Int) (m : Nat) : Prop := sB (fun _ => 1) m n ≤ most ∧ sB br m n ≤ bl ∧ sB bm m n ≤ be ∧ sB wa m n ≤ 0
def stp (br bm wa wo : Nat → Int) (n : Nat) (most bl be base sum : Int) (b : Int × Int) (m : Nat) : Int × Int := if fea br bm wa n most bl be m ∧ b.1 < sum + sB wo m n then (sum + sB wo m n, base + m) else b
def fdE (br bm wa wo : Nat → Int) (n : Nat) (most bl be base sum : Int) (b : Int × Int) : Nat → Int × Int
  | 0 => b
  | k + 1 => stp br bm wa wo n most bl be base sum (fdE br bm wa wo n most bl be base sum b k) k
def chI (br bm wa wo : Nat → Int) : Nat → Int → Int → Int → Int → Int → Int × Int → Int × Int
  | 0, _, _, _, base, sum, b => if b.1 < sum then (sum, base) else b
  | n + 1, most, bl, be, base, sum, b => if 0 < most ∧ wa n ≤ 0 ∧ br n ≤ bl ∧ bm n ≤ be then chI br bm wa wo n (most - 1) (bl - br n) (be - bm n) (base + ((2 ^ n : Nat) : Int)) (sum + wo n) (chI br bm wa wo n most bl be base sum b) else chI br bm wa wo n most bl be base sum b
theorem fd_lo {br bm wa wo : Nat → Int} {n : Nat} {most bl be base sum : Int} {b : Int × Int} : ∀ k, k ≤ 2 ^ n → fdE br bm wa wo (n + 1) most bl be base sum b k = fdE br bm wa wo n most bl be base sum b k
  | 0, _ => rfl
  | k + 1, h => by
    show stp br bm wa wo (n + 1) most bl be base sum _ k = stp br bm wa wo n most bl be base sum _ k
    rw [fd_lo k (by omega)]
    unfold stp fea
    rw [sB_lo (by omega), sB_lo (by omega), sB_lo (by omega), sB_lo (by omega), sB_lo (by omega)]
theorem fd_hi {br bm wa wo : Nat → Int} (hbr : ∀ i, 0 ≤ br i) (hbm : ∀ i, 0 ≤ bm i) (hwa : ∀ i, 0 ≤ wa i) {n : Nat} {most bl be base sum : Int} {b : Int × Int} : ∀ j, j ≤ 2 ^ n → fdE br bm wa wo (n + 1) most bl be base sum b (2 ^ n + j) = if 0 < most ∧ wa n ≤ 0 ∧ br n ≤ bl ∧ bm n ≤ be then fdE br bm wa wo n (most - 1) (bl - br n) (be - bm n) (base + ((2 ^ n : Nat) : Int)) (sum + wo n) (fdE br bm wa wo (n + 1) most bl be base sum b (2 ^ n)) j else fdE br bm wa wo (n + 1) most bl be base sum b (2 ^ n)
  | 0, _ => by
    split <;> rfl
  | j + 1, h => by
    show stp br bm wa wo (n + 1) most bl be base sum (fdE br bm wa wo (n + 1) most bl be base sum b (2 ^ n + j)) (2 ^ n + j) = _
    rw [fd_hi hbr hbm hwa j (by omega)]
    generalize fdE br bm wa wo (n + 1) most bl be base sum b (2 ^ n) = B
    have q1 := sB_nn (f := fun _ => 1) (fun _ => by decide) (m := j) n
    have q2 := sB_nn hbr (m := j) n
    have q3 := sB_nn hbm (m := j) n
    have q4 := sB_nn hwa (m := j) n
    have r2 := hbr n
    have r3 := hbm n
    have r4 := hwa n
    by_cases g : 0 < most ∧ wa n ≤ 0 ∧ br n ≤ bl ∧ bm n ≤ be
    · rw [if_pos g, if_pos g]
      show _ = stp br bm wa wo n (most - 1) (bl - br n) (be - bm n) (base + ((2 ^ n : Nat) : Int)) (sum + wo n) _ j
      generalize fdE br bm wa wo n (most - 1) (bl - br n) (be - bm n) (base + ((2 ^ n : Nat) : Int)) (sum + wo n) B j = D
      unfold stp fea
      rw [sB_hi (f := fun _ => 1) (by omega), sB_hi (f := br) (by omega), sB_hi (f := bm) (by omega), sB_hi (f := wa) (by omega), sB_hi (f := wo) (by omega)]
      have e1 : sum + (sB wo j n + wo n) = sum + wo n + sB wo j n := by omega
      have e2 : base + ((2 ^ n + j : Nat) : Int) = base + ((2 ^ n : Nat) : Int) + (j : Int) := by omega
      rw [e1, e2]
      by_cases c : (sB (fun _ => 1) j n ≤ most - 1 ∧ sB br j n ≤ bl - br n ∧ sB bm j n ≤ be - bm n ∧ sB wa j n ≤ 0) ∧ D.1 < sum + wo n + sB wo j n
      · rw [if_pos c, if_pos (by omega)]
      · rw [if_neg c, if_neg (by omega)]
    · rw [if_neg g, if_neg g]
      unfold stp fea
      rw [sB_hi (f := fun _ => 1) (by omega), sB_hi (f := br) (by omega), sB_hi (f := bm) (by omega), sB_hi (f := wa) (by omega), if_neg (by omega)]
theorem ch_fd {br bm wa wo : Nat → Int} (hbr : ∀ i, 0 ≤ br i) (hbm : ∀ i, 0 ≤ bm i) (hwa : ∀ i, 0 ≤ wa i) : ∀ (n : Nat) (most bl be base sum : Int) (b : Int × Int), 0 ≤ most → 0 ≤ bl → 0 ≤ be → chI br bm wa wo n most bl be base sum b = fdE br bm wa wo n most bl be base sum b (2 ^ n)
  | 0, most, bl, be, base, sum, b, h1, h2, h3 => by
    show (if b.1 < sum then (sum, base) else b) = stp br bm wa wo 0 most bl be base sum b 0
    unfold stp fea
    show _ = if ((0 : Int) ≤ most ∧ 0 ≤ bl ∧ 0 ≤ be ∧ (0 : Int) ≤ 0) ∧ b.1 < sum + 0 then (sum + 0, base + ((0 : Nat) : Int)) else b
    rw [show sum + 0 = sum by omega, show base + ((0 : Nat) : Int) = base by omega]
    by_cases c : b.1 < sum
    · rw [if_pos c, if_pos (by omega)]
    · rw [if_neg c, if_neg (by omega)]
  | n + 1, most, bl, be, base, sum, b, h1, h2, h3 => by
    rw [show 2 ^ (n + 1) = 2 ^ n + 2 ^ n by rw [Nat.pow_succ]; omega, fd_hi hbr hbm hwa _ (Nat.le_refl _), fd_lo _ (Nat.le_refl _), ← ch_fd hbr hbm hwa n most bl be base sum b h1 h2 h3]
    show (if 0 < most ∧ wa n ≤ 0 ∧ br n ≤ bl ∧ bm n ≤ be then _ else _) = _
    by_cases g : 0 < most ∧ wa n ≤ 0 ∧ br n ≤ bl ∧ bm n ≤ be
    · rw [if_pos g, if_pos g, ch_fd hbr hbm hwa n _ _ _ _ _ _ (by omega) (by omega) (by omega)]
    · rw [if_neg g, if_neg g]
theorem fd_m1 {br bm wa wo : Nat → Int} {n : Nat} {most bl be : Int} (h1 : 0 ≤ most) (h2 : 0 ≤ bl) (h3 : 0 ≤ be) : ∀ k, fdE br bm wa wo n most bl be 0 0 (-1, 0) (k + 1) = fdE br bm wa wo n most bl be 0 0 (0, 0) (k + 1)
  | 0 => by
    show stp br bm wa wo n most bl be 0 0 (-1, 0) 0 = stp br bm wa wo n most bl be 0 0 (0, 0) 0
    have z : ∀ f : Nat → Int, sB f 0 n = 0 := fun f => by
      induction n with
      | zero => rfl
      | succ n ih =>
        show sB f 0 n + (if 0 / 2 ^ n % 2 = 1 then f n else 0) = 0
        rw [ih, Nat.zero_div, if_neg (by decide)]
        rfl
    unfold stp fea
    rw [z, z, z, z, z, if_pos ⟨⟨h1, h2, h3, Int.le_refl _⟩, by decide⟩, if_neg (fun q => absurd q.2 (by decide))]
    rfl
  | k + 1 => by
    show stp br bm wa wo n most bl be 0 0 _ (k + 1) = stp br bm wa wo n most bl be 0 0 _ (k + 1)
    rw [fd_m1 h1 h2 h3 k]
theorem bi_0 : ∀ a b : Fin 64, ((Int32.ofNat (64 * a.1 + b.1) >>> ((0 : Int32) &&& 31)) &&& 1) = Int32.ofNat ((64 * a.1 + b.1) / 2 ^ 0 % 2) := by decide +kernel
theorem bi_1 : ∀ a b : Fin 64, ((Int32.ofNat (64 * a.1 + b.1) >>> ((1 : Int32) &&& 31)) &&& 1) = Int32.ofNat ((64 * a.1 + b.1) / 2 ^ 1 % 2) := by decide +kernel
theorem bi_2 : ∀ a b : Fin 64, ((Int32.ofNat (64 * a.1 + b.1) >>> ((2 : Int32) &&& 31)) &&& 1) = Int32.ofNat ((64 * a.1 + b.1) / 2 ^ 2 % 2) := by decide +kernel
theorem bi_3 : ∀ a b : Fin 64, ((Int32.ofNat (64 * a.1 + b.1) >>> ((3 : Int32) &&& 31)) &&& 1) = Int32.ofNat ((64 * a.1 + b.1) / 2 ^ 3 % 2) := by decide +kernel
theorem bi_4 : ∀ a b : Fin 64, ((Int32.ofNat (64 * a.1 + b.1) >>> ((4 : Int32) &&& 31)) &&& 1) = Int32.ofNat ((64 * a.1 + b.1) / 2 ^ 4 % 2) := by decide +kernel
theorem bi_5 : ∀ a b : Fin 64, ((Int32.ofNat (64 * a.1 + b.1) >>> ((5 : Int32) &&& 31)) &&& 1) = Int32.ofNat ((64 * a.1 + b.1) / 2 ^ 5 % 2) := by decide +kernel
theorem bi_6 : ∀ a b : Fin 64, ((Int32.ofNat (64 * a.1 + b.1) >>> ((6 : Int32) &&& 31)) &&& 1) = Int32.ofNat ((64 * a.1 + b.1) / 2 ^ 6 % 2) := by decide +kernel
theorem bi_7 : ∀ a b : Fin 64, ((Int32.ofNat (64 * a.1 + b.1) >>> ((7 : Int32) &&& 31)) &&& 1) = Int32.ofNat ((64 * a.1 + b.1) / 2 ^ 7 % 2) := by decide +kernel
theorem bi_8 : ∀ a b : Fin 64, ((Int32.ofNat (64 * a.1 + b.1) >>> ((8 : Int32) &&& 31)) &&& 1) = Int32.ofNat ((64 * a.1 + b.1) / 2 ^ 8 % 2) := by decide +kernel
theorem bi_9 : ∀ a b : Fin 64, ((Int32.ofNat (64 * a.1 + b.1) >>> ((9 : Int32) &&& 31)) &&& 1) = Int32.ofNat ((64 * a.1 + b.1) / 2 ^ 9 % 2) := by decide +kernel
theorem bi_10 : ∀ a b : Fin 64, ((Int32.ofNat (64 * a.1 + b.1) >>> ((10 : Int32) &&& 31)) &&& 1) = Int32.ofNat ((64 * a.1 + b.1) / 2 ^ 10 % 2) := by decide +kernel
theorem bi_11 : ∀ a b : Fin 64, ((Int32.ofNat (64 * a.1 + b.1) >>> ((11 : Int32) &&& 31)) &&& 1) = Int32.ofNat ((64 * a.1 + b.1) / 2 ^ 11 % 2) := by decide +kernel
theorem i32_of {m : Int32} (h0 : 0 ≤ m.toInt) : Int32.ofNat m.toInt.toNat = m := i32_ext (by rw [Int32.toInt_ofNat_of_lt (by have := i32_hi m; omega)]; omega)
theorem bi_w {m k : Int32} {K : Nat} (hB : ∀ a b : Fin 64, ((Int32.ofNat (64 * a.1 + b.1) >>> (k &&& 31)) &&& 1) = Int32.ofNat ((64 * a.1 + b.1) / 2 ^ K % 2)) (h0 : 0 ≤ m.toInt) (h1 : m.toInt < 4096) : ((m >>> (k &&& 31)) &&& 1).toInt = ((m.toInt.toNat / 2 ^ K % 2 : Nat) : Int) := by
  have q := hB ⟨m.toInt.toNat / 64, by omega⟩ ⟨m.toInt.toNat % 64, by omega⟩
  rw [show 64 * (m.toInt.toNat / 64) + m.toInt.toNat % 64 = m.toInt.toNat by omega, i32_of h0] at q
  rw [q, Int32.toInt_ofNat_of_lt (by omega)]
theorem bit_at {m i : Int32} (h0 : 0 ≤ m.toInt) (h1 : m.toInt < 4096) (i0 : 0 ≤ i.toInt) (i1 : i.toInt < 12) : ((m >>> (i &&& 31)) &&& 1).toInt = ((m.toInt.toNat / 2 ^ i.toInt.toNat % 2 : Nat) : Int) := by
  by_cases e0 : i.toInt = 0
  · obtain rfl : i = 0 := i32_ext e0
    exact bi_w bi_0 h0 h1
  by_cases e1 : i.toInt = 1
  · obtain rfl : i = 1 := i32_ext e1
    exact bi_w bi_1 h0 h1
  by_cases e2 : i.toInt = 2
  · obtain rfl : i = 2 := i32_ext e2
    exact bi_w bi_2 h0 h1
  by_cases e3 : i.toInt = 3
  · obtain rfl : i = 3 := i32_ext e3
    exact bi_w bi_3 h0 h1
  by_cases e4 : i.toInt = 4
  · obtain rfl : i = 4 := i32_ext e4
    exact bi_w bi_4 h0 h1
  by_cases e5 : i.toInt = 5
  · obtain rfl : i = 5 := i32_ext e5
    exact bi_w bi_5 h0 h1
  by_cases e6 : i.toInt = 6
  · obtain rfl : i = 6 := i32_ext e6
    exact bi_w bi_6 h0 h1
  by_cases e7 : i.toInt = 7
  · obtain rfl : i = 7 := i32_ext e7
    exact bi_w bi_7 h0 h1
  by_cases e8 : i.toInt = 8
  · obtain rfl : i = 8 := i32_ext e8
    exact bi_w bi_8 h0 h1
  by_cases e9 : i.toInt = 9
  · obtain rfl : i = 9 := i32_ext e9
    exact bi_w bi_9 h0 h1
  by_cases e10 : i.toInt = 10
  · obtain rfl : i = 10 := i32_ext e10
    exact bi_w bi_10 h0 h1
  by_cases e11 : i.toInt = 11
  · obtain rfl : i = 11 := i32_ext e11
    exact bi_w bi_11 h0 h1
  omega
theorem or_0 : ∀ q : Fin 2048, (Int32.ofNat (2 * q.1) ||| (1 <<< (Int32.ofNat 0 &&& 31))) = Int32.ofNat (2 * q.1 + 1) := by decide +kernel
theorem or_1 : ∀ q : Fin 1024, (Int32.ofNat (4 * q.1) ||| (1 <<< (Int32.ofNat 1 &&& 31))) = Int32.ofNat (4 * q.1 + 2) := by decide +kernel
theorem or_2 : ∀ q : Fin 512, (Int32.ofNat (8 * q.1) ||| (1 <<< (Int32.ofNat 2 &&& 31))) = Int32.ofNat (8 * q.1 + 4) := by decide +kernel
theorem or_3 : ∀ q : Fin 256, (Int32.ofNat (16 * q.1) ||| (1 <<< (Int32.ofNat 3 &&& 31))) = Int32.ofNat (16 * q.1 + 8) := by decide +kernel
theorem or_4 : ∀ q : Fin 128, (Int32.ofNat (32 * q.1) ||| (1 <<< (Int32.ofNat 4 &&& 31))) = Int32.ofNat (32 * q.1 + 16) := by decide +kernel
theorem or_5 : ∀ q : Fin 64, (Int32.ofNat (64 * q.1) ||| (1 <<< (Int32.ofNat 5 &&& 31))) = Int32.ofNat (64 * q.1 + 32) := by decide +kernel
theorem or_6 : ∀ q : Fin 32, (Int32.ofNat (128 * q.1) ||| (1 <<< (Int32.ofNat 6 &&& 31))) = Int32.ofNat (128 * q.1 + 64) := by decide +kernel
theorem or_7 : ∀ q : Fin 16, (Int32.ofNat (256 * q.1) ||| (1 <<< (Int32.ofNat 7 &&& 31))) = Int32.ofNat (256 * q.1 + 128) := by decide +kernel
theorem or_8 : ∀ q : Fin 8, (Int32.ofNat (512 * q.1) ||| (1 <<< (Int32.ofNat 8 &&& 31))) = Int32.ofNat (512 * q.1 + 256) := by decide +kernel
theorem or_9 : ∀ q : Fin 4, (Int32.ofNat (1024 * q.1) ||| (1 <<< (Int32.ofNat 9 &&& 31))) = Int32.ofNat (1024 * q.1 + 512) := by decide +kernel
theorem or_10 : ∀ q : Fin 2, (Int32.ofNat (2048 * q.1) ||| (1 <<< (Int32.ofNat 10 &&& 31))) = Int32.ofNat (2048 * q.1 + 1024) := by decide +kernel
theorem or_11 : ∀ q : Fin 1, (Int32.ofNat (4096 * q.1) ||| (1 <<< (Int32.ofNat 11 &&& 31))) = Int32.ofNat (4096 * q.1 + 2048) := by decide +kernel
theorem or_at {s : Int32} {n q : Nat} (hn : n < 12) (hs : s.toInt = ((2 ^ (n + 1) * q : Nat) : Int)) (hb : s.toInt < 4096) : (s ||| (1 <<< (Int32.ofNat n &&& 31))).toInt = s.toInt + ((2 ^ n : Nat) : Int) := by
  have e : s = Int32.ofNat (2 ^ (n + 1) * q) := by
    rw [← i32_of (m := s) (by omega), hs]
    rfl
  rcases (show n = 0 ∨ n = 1 ∨ n = 2 ∨ n = 3 ∨ n = 4 ∨ n = 5 ∨ n = 6 ∨ n = 7 ∨ n = 8 ∨ n = 9 ∨ n = 10 ∨ n = 11 by omega) with rfl | rfl | rfl | rfl | rfl | rfl | rfl | rfl | rfl | rfl | rfl | rfl
  · have hq : q < 2048 := by (have h9 : (2 ^ (0 + 1) * q : Nat) = 2 * q := rfl); omega
    have r := or_0 ⟨q, hq⟩
    rw [e, show (2 ^ (0 + 1) * q : Nat) = 2 * q from rfl]
    rw [show (Int32.ofNat (2 * q) ||| (1 <<< (Int32.ofNat 0 &&& 31))) = Int32.ofNat (2 * q + 1) from r, Int32.toInt_ofNat_of_lt (by omega), Int32.toInt_ofNat_of_lt (by omega)]
    show ((2 * q + 1 : Nat) : Int) = ((2 * q : Nat) : Int) + ((1 : Nat) : Int)
    omega
  · have hq : q < 1024 := by (have h9 : (2 ^ (1 + 1) * q : Nat) = 4 * q := rfl); omega
    have r := or_1 ⟨q, hq⟩
    rw [e, show (2 ^ (1 + 1) * q : Nat) = 4 * q from rfl]
    rw [show (Int32.ofNat (4 * q) ||| (1 <<< (Int32.ofNat 1 &&& 31))) = Int32.ofNat (4 * q + 2) from r, Int32.toInt_ofNat_of_lt (by omega), Int32.toInt_ofNat_of_lt (by omega)]
    show ((4 * q + 2 : Nat) : Int) = ((4 * q : Nat) : Int) + ((2 : Nat) : Int)
    omega
  · have hq : q < 512 := by (have h9 : (2 ^ (2 + 1) * q : Nat) = 8 * q := rfl); omega
    have r := or_2 ⟨q, hq⟩
    rw [e, show (2 ^ (2 + 1) * q : Nat) = 8 * q from rfl]
    rw [show (Int32.ofNat (8 * q) ||| (1 <<< (Int32.ofNat 2 &&& 31))) = Int32.ofNat (8 * q + 4) from r, Int32.toInt_ofNat_of_lt (by omega), Int32.toInt_ofNat_of_lt (by omega)]
    show ((8 * q + 4 : Nat) : Int) = ((8 * q : Nat) : Int) + ((4 : Nat) : Int)
    omega
  · have hq : q < 256 := by (have h9 : (2 ^ (3 + 1) * q : Nat) = 16 * q := rfl); omega
    have r := or_3 ⟨q, hq⟩
    rw [e, show (2 ^ (3 + 1) * q : Nat) = 16 * q from rfl]
    rw [show (Int32.ofNat (16 * q) ||| (1 <<< (Int32.ofNat 3 &&& 31))) = Int32.ofNat (16 * q + 8) from r, Int32.toInt_ofNat_of_lt (by omega), Int32.toInt_ofNat_of_lt (by omega)]
    show ((16 * q + 8 : Nat) : Int) = ((16 * q : Nat) : Int) + ((8 : Nat) : Int)
    omega
  · have hq : q < 128 := by (have h9 : (2 ^ (4 + 1) * q : Nat) = 32 * q := rfl); omega
    have r := or_4 ⟨q, hq⟩
    rw [e, show (2 ^ (4 + 1) * q : Nat) = 32 * q from rfl]
    rw [show (Int32.ofNat (32 * q) ||| (1 <<< (Int32.ofNat 4 &&& 31))) = Int32.ofNat (32 * q + 16) from r, Int32.toInt_ofNat_of_lt (by omega), Int32.toInt_ofNat_of_lt (by omega)]
    show ((32 * q + 16 : Nat) : Int) = ((32 * q : Nat) : Int) + ((16 : Nat) : Int)
    omega
  · have hq : q < 64 := by (have h9 : (2 ^ (5 + 1) * q : Nat) = 64 * q := rfl); omega
    have r := or_5 ⟨q, hq⟩
    rw [e, show (2 ^ (5 + 1) * q : Nat) = 64 * q from rfl]
    rw [show (Int32.ofNat (64 * q) ||| (1 <<< (Int32.ofNat 5 &&& 31))) = Int32.ofNat (64 * q + 32) from r, Int32.toInt_ofNat_of_lt (by omega), Int32.toInt_ofNat_of_lt (by omega)]
    show ((64 * q + 32 : Nat) : Int) = ((64 * q : Nat) : Int) + ((32 : Nat) : Int)
    omega
  · have hq : q < 32 := by (have h9 : (2 ^ (6 + 1) * q : Nat) = 128 * q := rfl); omega
    have r := or_6 ⟨q, hq⟩
    rw [e, show (2 ^ (6 + 1) * q : Nat) = 128 * q from rfl]
    rw [show (Int32.ofNat (128 * q) ||| (1 <<< (Int32.ofNat 6 &&& 31))) = Int32.ofNat (128 * q + 64) from r, Int32.toInt_ofNat_of_lt (by omega), Int32.toInt_ofNat_of_lt (by omega)]
    show ((128 * q + 64 : Nat) : Int) = ((128 * q : Nat) : Int) + ((64 : Nat) : Int)
    omega
  · have hq : q < 16 := by (have h9 : (2 ^ (7 + 1) * q : Nat) = 256 * q := rfl); omega
    have r := or_7 ⟨q, hq⟩
    rw [e, show (2 ^ (7 + 1) * q : Nat) = 256 * q from rfl]
    rw [show (Int32.ofNat (256 * q) ||| (1 <<< (Int32.ofNat 7 &&& 31))) = Int32.ofNat (256 * q + 128) from r, Int32.toInt_ofNat_of_lt (by omega), Int32.toInt_ofNat_of_lt (by omega)]
    show ((256 * q + 128 : Nat) : Int) = ((256 * q : Nat) : Int) + ((128 : Nat) : Int)
    omega
  · have hq : q < 8 := by (have h9 : (2 ^ (8 + 1) * q : Nat) = 512 * q := rfl); omega
    have r := or_8 ⟨q, hq⟩
    rw [e, show (2 ^ (8 + 1) * q : Nat) = 512 * q from rfl]
    rw [show (Int32.ofNat (512 * q) ||| (1 <<< (Int32.ofNat 8 &&& 31))) = Int32.ofNat (512 * q + 256) from r, Int32.toInt_ofNat_of_lt (by omega), Int32.toInt_ofNat_of_lt (by omega)]
    show ((512 * q + 256 : Nat) : Int) = ((512 * q : Nat) : Int) + ((256 : Nat) : Int)
    omega
  · have hq : q < 4 := by (have h9 : (2 ^ (9 + 1) * q : Nat) = 1024 * q := rfl); omega
    have r := or_9 ⟨q, hq⟩
    rw [e, show (2 ^ (9 + 1) * q : Nat) = 1024 * q from rfl]
    rw [show (Int32.ofNat (1024 * q) ||| (1 <<< (Int32.ofNat 9 &&& 31))) = Int32.ofNat (1024 * q + 512) from r, Int32.toInt_ofNat_of_lt (by omega), Int32.toInt_ofNat_of_lt (by omega)]
    show ((1024 * q + 512 : Nat) : Int) = ((1024 * q : Nat) : Int) + ((512 : Nat) : Int)
    omega
  · have hq : q < 2 := by (have h9 : (2 ^ (10 + 1) * q : Nat) = 2048 * q := rfl); omega
    have r := or_10 ⟨q, hq⟩
    rw [e, show (2 ^ (10 + 1) * q : Nat) = 2048 * q from rfl]
    rw [show (Int32.ofNat (2048 * q) ||| (1 <<< (Int32.ofNat 10 &&& 31))) = Int32.ofNat (2048 * q + 1024) from r, Int32.toInt_ofNat_of_lt (by omega), Int32.toInt_ofNat_of_lt (by omega)]
    show ((2048 * q + 1024 : Nat) : Int) = ((2048 * q : Nat) : Int) + ((1024 : Nat) : Int)
    omega
  · have hq : q < 1 := by (have h9 : (2 ^ (11 + 1) * q : Nat) = 4096 * q := rfl); omega
    have r := or_11 ⟨q, hq⟩
    rw [e, show (2 ^ (11 + 1) * q : Nat) = 4096 * q from rfl]
    rw [show (Int32.ofNat (4096 * q) ||| (1 <<< (Int32.ofNat 11 &&& 31))) = Int32.ofNat (4096 * q + 2048) from r, Int32.toInt_ofNat_of_lt (by omega), Int32.toInt_ofNat_of_lt (by omega)]
    show ((4096 * q + 2048 : Nat) : Int) = ((4096 * q : Nat) : Int) + ((2048 : Nat) : Int)
    omega
theorem sh_at {n : Int32} (h0 : 0 ≤ n.toInt) (h1 : n.toInt ≤ 12) : (1 <<< (n &&& 31) : Int32).toInt = ((2 ^ n.toInt.toNat : Nat) : Int) := by
  by_cases e0 : n.toInt = 0
  · obtain rfl : n = 0 := i32_ext e0
    decide
  by_cases e1 : n.toInt = 1
  · obtain rfl : n = 1 := i32_ext e1
    decide
  by_cases e2 : n.toInt = 2
  · obtain rfl : n = 2 := i32_ext e2
    decide
  by_cases e3 : n.toInt = 3
  · obtain rfl : n = 3 := i32_ext e3
    decide
  by_cases e4 : n.toInt = 4
  · obtain rfl : n = 4 := i32_ext e4
    decide
  by_cases e5 : n.toInt = 5
  · obtain rfl : n = 5 := i32_ext e5
    decide
  by_cases e6 : n.toInt = 6
  · obtain rfl : n = 6 := i32_ext e6
    decide
  by_cases e7 : n.toInt = 7
  · obtain rfl : n = 7 := i32_ext e7
    decide
  by_cases e8 : n.toInt = 8
  · obtain rfl : n = 8 := i32_ext e8
    decide
  by_cases e9 : n.toInt = 9
  · obtain rfl : n = 9 := i32_ext e9
    decide
  by_cases e10 : n.toInt = 10
  · obtain rfl : n = 10 := i32_ext e10
    decide
  by_cases e11 : n.toInt = 11
  · obtain rfl : n = 11 := i32_ext e11
    decide
  by_cases e12 : n.toInt = 12
  · obtain rfl : n = 12 := i32_ext e12
    decide
  omega
def chF (R : Rm) (w : Nat → Int32) : Nat → Int32 → Int32 → Int32 → Int32 → Int32 → Int32 × Int32 → Int32 × Int32
  | 0, _, _, _, set, sum, b => if b.1.toInt < sum.toInt then (sum, set) else b
  | n + 1, most, bl, be, set, sum, b => if 0 < most.toInt ∧ (w n).toInt = 0 ∧ (R.br n).toInt ≤ bl.toInt ∧ (R.be n).toInt ≤ be.toInt then chF R w n (most - 1) (bl - R.br n) (be - R.be n) (set ||| (1 <<< (Int32.ofNat n &&& 31))) (sum + R.wo n) (chF R w n most bl be set sum b) else chF R w n most bl be set sum b
theorem chF_0 {R : Rm} {w : Nat → Int32} {n : Nat} {most bl be set sum : Int32} {b : Int32 × Int32} (hn : n = 0) : chF R w n most bl be set sum b = if b.1.toInt < sum.toInt then (sum, set) else b := by
  subst hn
  rfl
theorem chF_y {R : Rm} {w : Nat → Int32} {n m : Nat} {most bl be set sum : Int32} {b : Int32 × Int32} (hm : m = n + 1) (g : 0 < most.toInt ∧ (w n).toInt = 0 ∧ (R.br n).toInt ≤ bl.toInt ∧ (R.be n).toInt ≤ be.toInt) : chF R w m most bl be set sum b = chF R w n (most - 1) (bl - R.br n) (be - R.be n) (set ||| (1 <<< (Int32.ofNat n &&& 31))) (sum + R.wo n) (chF R w n most bl be set sum b) := by
  subst hm
  exact if_pos g
theorem chF_n {R : Rm} {w : Nat → Int32} {n m : Nat} {most bl be set sum : Int32} {b : Int32 × Int32} (hm : m = n + 1) (g : ¬ (0 < most.toInt ∧ (w n).toInt = 0 ∧ (R.br n).toInt ≤ bl.toInt ∧ (R.be n).toInt ≤ be.toInt)) : chF R w m most bl be set sum b = chF R w n most bl be set sum b := by
  subst hm
  exact if_neg g
def bst (h : im_H) : Int32 × Int32 := (rv h 72 6, rv h 72 5)
def iA (f : Nat → Int32) (i : Nat) : Int := (f i).toInt
def iW (w : Nat → Int32) (i : Nat) : Int := if (w i).toInt = 0 then 0 else 1
theorem iW_nn {w : Nat → Int32} (i : Nat) : 0 ≤ iW w i := by
  unfold iW
  split <;> decide
theorem iW_0 {w : Nat → Int32} {i : Nat} : iW w i ≤ 0 ↔ (w i).toInt = 0 := by
  unfold iW
  split
  · exact ⟨fun _ => by assumption, fun _ => by decide⟩
  · exact ⟨fun q => absurd q (by decide), fun q => absurd q (by assumption)⟩
def rmC (R : Rm) : Prop := ∀ i, (0 ≤ (R.br i).toInt ∧ (R.br i).toInt ≤ 9999) ∧ (0 ≤ (R.be i).toInt ∧ (R.be i).toInt ≤ 999) ∧ 0 ≤ (R.wo i).toInt ∧ (R.wo i).toInt ≤ 99
theorem chF_I {R : Rm} {w : Nat → Int32} (hR : rmC R) : ∀ (n : Nat) (most bl be set sum : Int32) (b : Int32 × Int32) (q : Nat), n ≤ 12 → 0 ≤ bl.toInt → 0 ≤ be.toInt → set.toInt = ((2 ^ n * q : Nat) : Int) → set.toInt + ((2 ^ n : Nat) : Int) ≤ 4096 → 0 ≤ sum.toInt → sum.toInt ≤ 99 * (12 - (n : Int)) → ((chF R w n most bl be set sum b).1.toInt, (chF R w n most bl be set sum b).2.toInt) = chI (iA R.br) (iA R.be) (iW w) (iA R.wo) n most.toInt bl.toInt be.toInt set.toInt sum.toInt (b.1.toInt, b.2.toInt)
  | 0, most, bl, be, set, sum, b, q, h1, h2, h3, h4, h5, h6, h7 => by
    show ((if b.1.toInt < sum.toInt then (sum, set) else b).1.toInt, (if b.1.toInt < sum.toInt then (sum, set) else b).2.toInt) = if b.1.toInt < sum.toInt then (sum.toInt, set.toInt) else (b.1.toInt, b.2.toInt)
    split <;> rfl
  | n + 1, most, bl, be, set, sum, b, q, h1, h2, h3, h4, h5, h6, h7 => by
    obtain ⟨r1, r2, r3⟩ := hR n
    have hp : (2 ^ (n + 1) : Nat) = 2 ^ n + 2 ^ n := by rw [Nat.pow_succ]; omega
    have hp0 : 0 < 2 ^ n := Nat.pow_pos (by decide)
    have a1 : iA R.br n = (R.br n).toInt := rfl
    have a2 : iA R.be n = (R.be n).toInt := rfl
    have a3 : iA R.wo n = (R.wo n).toInt := rfl
    have ih1 := chF_I hR (w := w) n most bl be set sum b (2 * q) (by omega) h2 h3 (by rw [h4, Nat.pow_succ, Nat.mul_assoc]) (by omega) h6 (by omega)
    show ((ite _ _ _ : Int32 × Int32).1.toInt, (ite _ _ _ : Int32 × Int32).2.toInt) = ite _ _ _
    by_cases g : 0 < most.toInt ∧ (w n).toInt = 0 ∧ (R.br n).toInt ≤ bl.toInt ∧ (R.be n).toInt ≤ be.toInt
    · have g2 : 0 < most.toInt ∧ iW w n ≤ 0 ∧ iA R.br n ≤ bl.toInt ∧ iA R.be n ≤ be.toInt := ⟨g.1, iW_0.2 g.2.1, g.2.2.1, g.2.2.2⟩
      rw [if_pos g, if_pos g2, ← ih1]
      have hm := i32_hi most
      have hl := i32_hi bl
      have hl2 := i32_hi be
      have e1 : (most - 1).toInt = most.toInt - 1 := i32_subE (show Int32.toInt 1 = 1 from rfl) (by omega) (by omega)
      have e2 : (bl - R.br n).toInt = bl.toInt - iA R.br n := i32_subE rfl (by omega) (by omega)
      have e3 : (be - R.be n).toInt = be.toInt - iA R.be n := i32_subE rfl (by omega) (by omega)
      have e4 : (sum + R.wo n).toInt = sum.toInt + iA R.wo n := i32_addE rfl (by omega) (by omega)
      have e5 := or_at (n := n) (q := q) (by omega) h4 (by omega)
      rw [← e1, ← e2, ← e3, ← e4, ← e5]
      refine chF_I hR n _ _ _ _ _ _ (2 * q + 1) (by omega) (by rw [e2]; show 0 ≤ bl.toInt - (R.br n).toInt; omega) (by rw [e3]; show 0 ≤ be.toInt - (R.be n).toInt; omega) ?_ (by omega) (by rw [e4]; show 0 ≤ sum.toInt + (R.wo n).toInt; omega) (by rw [e4]; show sum.toInt + (R.wo n).toInt ≤ _; omega)
      rw [e5, h4, Nat.pow_succ, Nat.mul_assoc, Nat.mul_add]
      omega
    · have g2 : ¬ (0 < most.toInt ∧ iW w n ≤ 0 ∧ iA R.br n ≤ bl.toInt ∧ iA R.be n ≤ be.toInt) := fun q => g ⟨q.1, iW_0.1 q.2.1, q.2.2.1, q.2.2.2⟩
      rw [if_neg g, if_neg g2]
      exact ih1
theorem sB_s {f : Nat → Int} {m i i2 : Nat} {v v2 : Int} (w : v = sB f m i) (hi : i2 = i + 1) (h : (m / 2 ^ i % 2 = 1 ∧ v2 = v + f i) ∨ (¬ m / 2 ^ i % 2 = 1 ∧ v2 = v)) : v2 = sB f m i2 := by
  subst hi
  show v2 = sB f m i + (if m / 2 ^ i % 2 = 1 then f i else 0)
  rcases h with ⟨c, e⟩ | ⟨c, e⟩
  · rw [if_pos c, e, w]
  · rw [if_neg c, e, w]; omega
def Qch (r most set sum : Int32) (h h2 : im_H) : Prop := bst h2 = chF (rmX h) (wX h 23) (r.toInt + 1).toNat most (rv h 72 7) (rv h 72 8) set sum (bst h) ∧ rv h2 72 7 = rv h 72 7 ∧ rv h2 72 8 = rv h 72 8
theorem i32_sac {a b : Int32} : a - b + b = a := Int32.sub_add_cancel a b
set_option maxRecDepth 10000 in
set_option maxHeartbeats 2000000 in
theorem c_X6_choose : ∀ (m : Nat) {r most set sum : Int32} {h : im_H} (_ : tI h) (_ : -1 ≤ r.toInt) (_ : r.toInt ≤ 11) (_ : r.toInt + 1 < m), CaP m 38 [.ref 88, .ref 39, .int r, .int most, .int set, .int sum] h (fun v h2 => tI h2 ∧ fr F_X6_choose h h2 ∧ v = none ∧ Qch r most set sum h h2) := by
  intro m
  induction m with
  | zero => intro r most set sum h hI p0 p1 hm; exfalso; omega
  | succ m ih =>
    intro r most set sum h hI p0 p1 hm
    refine cap_of (d := m) (M := mX6_choose) rfl (Nat.le_of_ble_eq_true rfl) ?_
    show EvP im_K0 m mX6_choose (0, [(0, .ref 88), (1, .ref 39), (2, .int r), (3, .int most), (4, .int set), (5, .int sum)], [], h) _
    have f0 : fr F_X6_choose h h := fr_rf
    refine te_iload_n (p2 := 1) rfl rfl rfl ?_
    refine tz_ge (p2 := 4) rfl rfl rfl (fun c1 => ?_) (fun c1 => ?_)
    · refine te_aload_n (p2 := 27) rfl rfl rfl ?_
      refine te_aload_n (p2 := 28) rfl rfl rfl ?_
      refine te_iload_n (p2 := 29) rfl rfl rfl ?_
      refine te_iconst (p2 := 30) (x := 1) rfl rfl (by decide) ?_
      refine ar_sub (p2 := 31) rfl rfl rfl (show Int32.toInt 1 = 1 from rfl) (by omega) (by omega) (fun z2 e2 f2 => ?_)
      refine te_iload_n (p2 := 32) rfl rfl rfl ?_
      refine te_iload (p2 := 34) rfl rfl rfl ?_
      refine te_iload (p2 := 36) rfl rfl rfl ?_
      refine tc_V (p2 := 39) (i := 72) rfl rfl rfl rfl hI rfl rfl rfl (ih (r := z2) (most := most) (set := set) (sum := sum) hI (by omega) (by omega) (by omega)) (Nat.le_refl _) (fun v3 h3 hq3 => ?_)
      obtain ⟨I3, g3, w3, Q3⟩ := hq3
      subst w3
      have f3 := fr_tr (F1 := F_X6_choose) (F := F_X6_choose) f0 g3 (by decide)
      show EvP _ _ _ (39, [(0, .ref 88), (1, .ref 39), (2, .int r), (3, .int most), (4, .int set), (5, .int sum)], [], h3) _
      refine te_iload_n (p2 := 40) rfl rfl rfl ?_
      refine tz_le (p2 := 43) rfl rfl rfl (fun c4 => ?_) (fun c4 => ?_)
      · exact te_vret rfl rfl ⟨I3, f3, rfl, ⟨(by rw [Q3.1, show (z2.toInt + 1).toNat = r.toInt.toNat by omega]; exact (chF_n (by omega) (by omega)).symm), Q3.2.1, Q3.2.2⟩⟩
      · refine te_aload_n (p2 := 44) rfl rfl rfl ?_
        refine tg_r (p2 := 47) (i := 23) (r := 49) rfl rfl I3 rfl rfl rfl ?_
        refine te_iload_n (p2 := 48) rfl rfl rfl ?_
        refine tl_b (p2 := 49) (i := 33) (n := 12) rfl rfl I3 rfl rfl rfl rfl (by omega) (by omega) (fun y5 a5 e5 => ?_)
        refine tz_ne (p2 := 52) rfl rfl rfl (fun c6 => ?_) (fun c6 => ?_)
        · exact te_vret rfl rfl ⟨I3, f3, rfl, ⟨(by rw [Q3.1, show (z2.toInt + 1).toNat = r.toInt.toNat by omega]; exact (chF_n (by omega) (by rw [(show wX h 23 r.toInt.toNat = y5 from (gd_at (by omega)).trans ((rv_c (f3 33 _ rfl).symm).trans (rv_of e5)))]; omega)).symm), Q3.2.1, Q3.2.2⟩⟩
        · refine te_aload_n (p2 := 53) rfl rfl rfl ?_
          refine tg_r (p2 := 56) (i := 72) (r := 90) rfl rfl I3 rfl rfl rfl ?_
          refine te_iload_n (p2 := 57) rfl rfl rfl ?_
          refine tl_i (p2 := 58) (i := 74) (n := 12) rfl rfl I3 rfl rfl rfl rfl (by omega) (by omega) (fun y7 a7 b7 g7 e7 => ?_)
          refine te_aload_n (p2 := 59) rfl rfl rfl ?_
          refine tg_i (p2 := 62) (i := 72) rfl rfl I3 rfl rfl rfl (fun y8 a8 b8 e8 => ?_)
          refine tb_gt (p2 := 65) rfl rfl rfl rfl (fun c9 => ?_) (fun c9 => ?_)
          · exact te_vret rfl rfl ⟨I3, f3, rfl, ⟨(by rw [Q3.1, show (z2.toInt + 1).toNat = r.toInt.toNat by omega]; exact (chF_n (by omega) (by rw [(show wX h 23 r.toInt.toNat = y5 from (gd_at (by omega)).trans ((rv_c (f3 33 _ rfl).symm).trans (rv_of e5))), (show (rmX h).br r.toInt.toNat = y7 from (gd_at (by omega)).trans ((rv_c (f3 74 _ rfl).symm).trans (rv_of e7))), (show rv h 72 7 = y8 from Q3.2.1.symm.trans (rv_of e8))]; omega)).symm), Q3.2.1, Q3.2.2⟩⟩
          · refine te_aload_n (p2 := 66) rfl rfl rfl ?_
            refine tg_r (p2 := 69) (i := 72) (r := 91) rfl rfl I3 rfl rfl rfl ?_
            refine te_iload_n (p2 := 70) rfl rfl rfl ?_
            refine tl_i (p2 := 71) (i := 75) (n := 12) rfl rfl I3 rfl rfl rfl rfl (by omega) (by omega) (fun y10 a10 b10 g10 e10 => ?_)
            refine te_aload_n (p2 := 72) rfl rfl rfl ?_
            refine tg_i (p2 := 75) (i := 72) rfl rfl I3 rfl rfl rfl (fun y11 a11 b11 e11 => ?_)
            refine tb_gt (p2 := 78) rfl rfl rfl rfl (fun c12 => ?_) (fun c12 => ?_)
            · exact te_vret rfl rfl ⟨I3, f3, rfl, ⟨(by rw [Q3.1, show (z2.toInt + 1).toNat = r.toInt.toNat by omega]; exact (chF_n (by omega) (by rw [(show wX h 23 r.toInt.toNat = y5 from (gd_at (by omega)).trans ((rv_c (f3 33 _ rfl).symm).trans (rv_of e5))), (show (rmX h).br r.toInt.toNat = y7 from (gd_at (by omega)).trans ((rv_c (f3 74 _ rfl).symm).trans (rv_of e7))), (show rv h 72 7 = y8 from Q3.2.1.symm.trans (rv_of e8)), (show (rmX h).be r.toInt.toNat = y10 from (gd_at (by omega)).trans ((rv_c (f3 75 _ rfl).symm).trans (rv_of e10))), (show rv h 72 8 = y11 from Q3.2.2.symm.trans (rv_of e11))]; omega)).symm), Q3.2.1, Q3.2.2⟩⟩
            · refine te_aload_n (p2 := 79) rfl rfl rfl ?_
              refine te_dup (p2 := 80) rfl rfl rfl ?_
              refine tg_e (p2 := 83) (i := 72) (v := .int y8) rfl rfl I3 rfl rfl e8 ?_
              refine te_aload_n (p2 := 84) rfl rfl rfl ?_
              refine tg_r (p2 := 87) (i := 72) (r := 90) rfl rfl I3 rfl rfl rfl ?_
              refine te_iload_n (p2 := 88) rfl rfl rfl ?_
              refine tl_e (p2 := 89) (i := 74) (n := 12) (t := 0) (Or.inl rfl) rfl rfl I3 rfl rfl (by omega) (by omega) e7 ?_
              refine au_sub (p2 := 90) rfl rfl (fun z14 e14 => ?_)
              refine tp_i (p2 := 93) (i := 72) rfl rfl I3 rfl rfl (by decide) rfl rfl rfl (i32_lo _) (i32_hi _) (i32_ho _) rfl (fun h15 I15 u15 => ?_)
              have f15 := fr_st (F := F_X6_choose) 0 f3 u15 rfl (by decide) (by decide)
              refine te_aload_n (p2 := 94) rfl rfl rfl ?_
              refine te_dup (p2 := 95) rfl rfl rfl ?_
              refine tg_e (p2 := 98) (i := 72) (v := .int y11) rfl rfl I15 rfl rfl ((u15.2 _ _ (Or.inr (by decide))).trans e11) ?_
              refine te_aload_n (p2 := 99) rfl rfl rfl ?_
              refine tg_r (p2 := 102) (i := 72) (r := 91) rfl rfl I15 rfl rfl rfl ?_
              refine te_iload_n (p2 := 103) rfl rfl rfl ?_
              refine tl_e (p2 := 104) (i := 75) (n := 12) (t := 0) (Or.inl rfl) rfl rfl I15 rfl rfl (by omega) (by omega) ((u15.2 _ _ (Or.inl (by decide))).trans e10) ?_
              refine au_sub (p2 := 105) rfl rfl (fun z17 e17 => ?_)
              refine tp_i (p2 := 108) (i := 72) rfl rfl I15 rfl rfl (by decide) rfl rfl rfl (i32_lo _) (i32_hi _) (i32_ho _) rfl (fun h18 I18 u18 => ?_)
              have f18 := fr_st (F := F_X6_choose) 0 f15 u18 rfl (by decide) (by decide)
              refine te_aload_n (p2 := 109) rfl rfl rfl ?_
              refine te_aload_n (p2 := 110) rfl rfl rfl ?_
              refine te_iload_n (p2 := 111) rfl rfl rfl ?_
              refine te_iconst (p2 := 112) (x := 1) rfl rfl (by decide) ?_
              refine ar_sub (p2 := 113) rfl rfl rfl (show Int32.toInt 1 = 1 from rfl) (by omega) (by omega) (fun z19 e19 f19 => ?_)
              refine te_iload_n (p2 := 114) rfl rfl rfl ?_
              refine te_iconst (p2 := 115) (x := 1) rfl rfl (by decide) ?_
              have n20_most := i32_lo most
              have o20_most := i32_hi most
              refine ar_sub (p2 := 116) rfl rfl rfl (show Int32.toInt 1 = 1 from rfl) (by omega) (by omega) (fun z20 e20 f20 => ?_)
              refine te_iload (p2 := 118) rfl rfl rfl ?_
              refine te_iconst (p2 := 119) (x := 1) rfl rfl (by decide) ?_
              refine te_iload_n (p2 := 120) rfl rfl rfl ?_
              refine au_shl (p2 := 121) rfl rfl (fun z21 e21 => ?_)
              refine au_or (p2 := 122) rfl rfl (fun z22 e22 => ?_)
              refine te_iload (p2 := 124) rfl rfl rfl ?_
              refine te_aload_n (p2 := 125) rfl rfl rfl ?_
              refine tg_r (p2 := 128) (i := 72) (r := 92) rfl rfl I18 rfl rfl rfl ?_
              refine te_iload_n (p2 := 129) rfl rfl rfl ?_
              refine tl_i (p2 := 130) (i := 76) (n := 12) rfl rfl I18 rfl rfl rfl rfl (by omega) (by omega) (fun y23 a23 b23 g23 e23 => ?_)
              refine au_add (p2 := 131) rfl rfl (fun z24 e24 => ?_)
              refine tc_V (p2 := 134) (i := 72) rfl rfl rfl rfl I18 rfl rfl rfl (ih (r := z19) (most := z20) (set := z22) (sum := z24) I18 (by omega) (by omega) (by omega)) (Nat.le_refl _) (fun v25 h25 hq25 => ?_)
              obtain ⟨I25, g25, w25, Q25⟩ := hq25
              subst w25
              have f25 := fr_tr (F1 := F_X6_choose) (F := F_X6_choose) f18 g25 (by decide)
              show EvP _ _ _ (134, [(0, .ref 88), (1, .ref 39), (2, .int r), (3, .int most), (4, .int set), (5, .int sum)], [], h25) _
              refine te_aload_n (p2 := 135) rfl rfl rfl ?_
              refine te_dup (p2 := 136) rfl rfl rfl ?_
              refine tg_i (p2 := 139) (i := 72) rfl rfl I25 rfl rfl rfl (fun y26 a26 b26 e26 => ?_)
              refine te_aload_n (p2 := 140) rfl rfl rfl ?_
              refine tg_r (p2 := 143) (i := 72) (r := 90) rfl rfl I25 rfl rfl rfl ?_
              refine te_iload_n (p2 := 144) rfl rfl rfl ?_
              refine tl_e (p2 := 145) (i := 74) (n := 12) (t := 0) (Or.inl rfl) rfl rfl I25 rfl rfl (by omega) (by omega) ((g25 _ _ rfl).trans ((u18.2 _ _ (Or.inl (by decide))).trans ((u15.2 _ _ (Or.inl (by decide))).trans e7))) ?_
              refine au_add (p2 := 146) rfl rfl (fun z28 e28 => ?_)
              refine tp_i (p2 := 149) (i := 72) rfl rfl I25 rfl rfl (by decide) rfl rfl rfl (i32_lo _) (i32_hi _) (i32_ho _) rfl (fun h29 I29 u29 => ?_)
              have f29 := fr_st (F := F_X6_choose) 0 f25 u29 rfl (by decide) (by decide)
              refine te_aload_n (p2 := 150) rfl rfl rfl ?_
              refine te_dup (p2 := 151) rfl rfl rfl ?_
              refine tg_i (p2 := 154) (i := 72) rfl rfl I29 rfl rfl rfl (fun y30 a30 b30 e30 => ?_)
              refine te_aload_n (p2 := 155) rfl rfl rfl ?_
              refine tg_r (p2 := 158) (i := 72) (r := 91) rfl rfl I29 rfl rfl rfl ?_
              refine te_iload_n (p2 := 159) rfl rfl rfl ?_
              refine tl_e (p2 := 160) (i := 75) (n := 12) (t := 0) (Or.inl rfl) rfl rfl I29 rfl rfl (by omega) (by omega) ((u29.2 _ _ (Or.inl (by decide))).trans ((g25 _ _ rfl).trans ((u18.2 _ _ (Or.inl (by decide))).trans ((u15.2 _ _ (Or.inl (by decide))).trans e10)))) ?_
              refine au_add (p2 := 161) rfl rfl (fun z32 e32 => ?_)
              refine tp_i (p2 := 164) (i := 72) rfl rfl I29 rfl rfl (by decide) rfl rfl rfl (i32_lo _) (i32_hi _) (i32_ho _) rfl (fun h33 I33 u33 => ?_)
              have f33 := fr_st (F := F_X6_choose) 0 f29 u33 rfl (by decide) (by decide)
              have a7_34 : rv h18 72 7 = z14 := (rv_ni u18 (Or.inr (by decide))).trans (rv_of u15.1)
              have a8_34 : rv h18 72 8 = z17 := rv_of u18.1
              have ab_34 : bst h18 = bst h3 := by (unfold bst; rw [rv_ni (j := 72) (m := 6) u18 (Or.inr (by decide)), rv_ni (j := 72) (m := 6) u15 (Or.inr (by decide)), rv_ni (j := 72) (m := 5) u18 (Or.inr (by decide)), rv_ni (j := 72) (m := 5) u15 (Or.inr (by decide))])
              have ae_34 : bst h33 = bst h25 := by (unfold bst; rw [rv_ni (j := 72) (m := 6) u33 (Or.inr (by decide)), rv_ni (j := 72) (m := 6) u29 (Or.inr (by decide)), rv_ni (j := 72) (m := 5) u33 (Or.inr (by decide)), rv_ni (j := 72) (m := 5) u29 (Or.inr (by decide))])
              have en_34 : (z2.toInt + 1).toNat = r.toInt.toNat := by omega
              have em_34 : (z19.toInt + 1).toNat = r.toInt.toNat := by omega
              exact te_vret rfl rfl ⟨I33, f33, rfl, ⟨(by rw [ae_34, Q25.1, show rmX h18 = rmX h from rmX_fr f18 (by decide), show wX h18 23 = wX h 23 from wX_fr f18 (by decide), a7_34, a8_34, ab_34, Q3.1, em_34, en_34, chF_y (R := rmX h) (w := wX h 23) (m := (r.toInt + 1).toNat) (n := r.toInt.toNat) (by omega) (by rw [(show wX h 23 r.toInt.toNat = y5 from (gd_at (by omega)).trans ((rv_c (f3 33 _ rfl).symm).trans (rv_of e5))), (show (rmX h).br r.toInt.toNat = y7 from (gd_at (by omega)).trans ((rv_c (f3 74 _ rfl).symm).trans (rv_of e7))), (show rv h 72 7 = y8 from Q3.2.1.symm.trans (rv_of e8)), (show (rmX h).be r.toInt.toNat = y10 from (gd_at (by omega)).trans ((rv_c (f3 75 _ rfl).symm).trans (rv_of e10))), (show rv h 72 8 = y11 from Q3.2.2.symm.trans (rv_of e11))]; omega), (show (rmX h).br r.toInt.toNat = y7 from (gd_at (by omega)).trans ((rv_c (f3 74 _ rfl).symm).trans (rv_of e7))), (show rv h 72 7 = y8 from Q3.2.1.symm.trans (rv_of e8)), (show (rmX h).be r.toInt.toNat = y10 from (gd_at (by omega)).trans ((rv_c (f3 75 _ rfl).symm).trans (rv_of e10))), (show rv h 72 8 = y11 from Q3.2.2.symm.trans (rv_of e11)), (show (rmX h).wo r.toInt.toNat = y23 from (gd_at (by omega)).trans ((rv_c (f18 76 _ rfl).symm).trans (rv_of e23))), e14, e17, e20, i32_of (m := r) (by omega), e21, e22, e24]), (by rw [rv_ni (j := 72) (m := 7) u33 (Or.inr (by decide)), rv_of u29.1, ← e28, show y26 = y8 - y7 from (rv_of e26).symm.trans (Q25.2.1.trans (a7_34.trans e14.symm)), show rv h 72 7 = y8 from Q3.2.1.symm.trans (rv_of e8)]; exact i32_sac), (by rw [rv_of u33.1, ← e32, show y30 = y11 - y10 from (rv_of e30).symm.trans ((rv_ni (j := 72) (m := 8) u29 (Or.inr (by decide))).trans <| Q25.2.2.trans (a8_34.trans e17.symm)), show rv h 72 8 = y11 from Q3.2.2.symm.trans (rv_of e11)]; exact i32_sac)⟩⟩
    · refine te_iload (p2 := 6) rfl rfl rfl ?_
      refine te_aload_n (p2 := 7) rfl rfl rfl ?_
      refine tg_i (p2 := 10) (i := 72) rfl rfl hI rfl rfl rfl (fun y35 a35 b35 e35 => ?_)
      refine tb_le (p2 := 13) rfl rfl rfl rfl (fun c36 => ?_) (fun c36 => ?_)
      · exact te_vret rfl rfl ⟨hI, f0, rfl, ⟨(by show (rv h 72 6, rv h 72 5) = chF (rmX h) (wX h 23) (r.toInt + 1).toNat most (rv h 72 7) (rv h 72 8) set sum (bst h); rw [chF_0 (by omega)]; exact (if_neg (by show ¬ (rv h 72 6).toInt < sum.toInt; rw [rv_of e35]; omega)).symm), rfl, rfl⟩⟩
      · refine te_aload_n (p2 := 14) rfl rfl rfl ?_
        refine te_iload (p2 := 16) rfl rfl rfl ?_
        refine tp_i (p2 := 19) (i := 72) rfl rfl hI rfl rfl (by decide) rfl rfl rfl (i32_lo _) (i32_hi _) (i32_ho _) rfl (fun h37 I37 u37 => ?_)
        have f37 := fr_st (F := F_X6_choose) 0 f0 u37 rfl (by decide) (by decide)
        refine te_aload_n (p2 := 20) rfl rfl rfl ?_
        refine te_iload (p2 := 22) rfl rfl rfl ?_
        refine tp_i (p2 := 25) (i := 72) rfl rfl I37 rfl rfl (by decide) rfl rfl rfl (i32_lo _) (i32_hi _) (i32_ho _) rfl (fun h38 I38 u38 => ?_)
        have f38 := fr_st (F := F_X6_choose) 0 f37 u38 rfl (by decide) (by decide)
        exact te_vret rfl rfl ⟨I38, f38, rfl, ⟨(by show (rv h38 72 6, rv h38 72 5) = chF (rmX h) (wX h 23) (r.toInt + 1).toNat most (rv h 72 7) (rv h 72 8) set sum (bst h); rw [chF_0 (by omega), rv_ni (j := 72) (m := 6) u38 (Or.inr (by decide)), rv_of u37.1, rv_of u38.1]; exact (if_pos (by show (rv h 72 6).toInt < sum.toInt; rw [rv_of e35]; omega)).symm), (rv_ni u38 (Or.inr (by decide))).trans (rv_ni u37 (Or.inr (by decide))), (rv_ni u38 (Or.inr (by decide))).trans (rv_ni u37 (Or.inr (by decide)))⟩⟩
def menC (x1 : Int32) (R : Rm) (w : Nat → Int32) (A : Dy) : Int32 × Int32 := chF R w R.n.toInt.toNat x1 (A.kp 0) (A.kp 1) 0 0 (0, 0)
set_option maxRecDepth 20000 in
set_option maxHeartbeats 4000000 in
theorem c_X6_findBest {most : Int32} {h : im_H} (hI : tI h)  : CaP 15 37 [.ref 88, .ref 39, .int most] h (fun v h2 => tI h2 ∧ fr F_X6_findBest h h2 ∧ ∃ y : Int32, v = some (.int y) ∧ (y, rv h2 72 5) = menC most (rmX h) (wX h 23) (absX h 23)) := by
  refine cap_of (d := 14) (M := mX6_findBest) rfl (Nat.le_of_ble_eq_true rfl) ?_
  show EvP im_K0 14 mX6_findBest (0, [(0, .ref 88), (1, .ref 39), (2, .int most)], [], h) _
  have f0 : fr F_X6_findBest h h := fr_rf
  refine te_aload_n (p2 := 1) rfl rfl rfl ?_
  refine te_iconst (p2 := 2) (x := 0) rfl rfl (by decide) ?_
  refine tp_i (p2 := 5) (i := 72) rfl rfl hI rfl rfl (by decide) rfl rfl rfl (i32_lo _) (i32_hi _) (i32_ho _) rfl (fun h1 I1 u1 => ?_)
  have f1 := fr_st (F := F_X6_findBest) 0 f0 u1 rfl (by decide) (by decide)
  refine te_aload_n (p2 := 6) rfl rfl rfl ?_
  refine te_iconst (p2 := 7) (x := 0) rfl rfl (by decide) ?_
  refine tp_i (p2 := 10) (i := 72) rfl rfl I1 rfl rfl (by decide) rfl rfl rfl (i32_lo _) (i32_hi _) (i32_ho _) rfl (fun h2 I2 u2 => ?_)
  have f2 := fr_st (F := F_X6_findBest) 0 f1 u2 rfl (by decide) (by decide)
  refine te_aload_n (p2 := 11) rfl rfl rfl ?_
  refine te_aload_n (p2 := 12) rfl rfl rfl ?_
  refine tg_r (p2 := 15) (i := 23) (r := 40) rfl rfl I2 rfl rfl rfl ?_
  refine te_iconst (p2 := 16) (x := 0) rfl rfl (by decide) ?_
  refine tl_i (p2 := 17) (i := 24) (n := 3) rfl rfl I2 rfl rfl rfl rfl (by decide) (by decide) (fun y3 a3 b3 g3 e3 => ?_)
  refine tp_i (p2 := 20) (i := 72) rfl rfl I2 rfl rfl (by decide) rfl rfl rfl (i32_lo _) (i32_hi _) (i32_ho _) rfl (fun h4 I4 u4 => ?_)
  have f4 := fr_st (F := F_X6_findBest) 0 f2 u4 rfl (by decide) (by decide)
  refine te_aload_n (p2 := 21) rfl rfl rfl ?_
  refine te_aload_n (p2 := 22) rfl rfl rfl ?_
  refine tg_r (p2 := 25) (i := 23) (r := 40) rfl rfl I4 rfl rfl rfl ?_
  refine te_iconst (p2 := 26) (x := 1) rfl rfl (by decide) ?_
  refine tl_i (p2 := 27) (i := 24) (n := 3) rfl rfl I4 rfl rfl rfl rfl (by decide) (by decide) (fun y5 a5 b5 g5 e5 => ?_)
  refine tp_i (p2 := 30) (i := 72) rfl rfl I4 rfl rfl (by decide) rfl rfl rfl (i32_lo _) (i32_hi _) (i32_ho _) rfl (fun h6 I6 u6 => ?_)
  have f6 := fr_st (F := F_X6_findBest) 0 f4 u6 rfl (by decide) (by decide)
  refine te_aload_n (p2 := 31) rfl rfl rfl ?_
  refine te_aload_n (p2 := 32) rfl rfl rfl ?_
  refine te_aload_n (p2 := 33) rfl rfl rfl ?_
  refine tg_i (p2 := 36) (i := 72) rfl rfl I6 rfl rfl rfl (fun y7 a7 b7 e7 => ?_)
  refine te_iconst (p2 := 37) (x := 1) rfl rfl (by decide) ?_
  refine ar_sub (p2 := 38) rfl rfl rfl (show Int32.toInt 1 = 1 from rfl) (by omega) (by omega) (fun z8 e8 f8 => ?_)
  refine te_iload_n (p2 := 39) rfl rfl rfl ?_
  refine te_iconst (p2 := 40) (x := 0) rfl rfl (by decide) ?_
  refine te_iconst (p2 := 41) (x := 0) rfl rfl (by decide) ?_
  refine tc_V (p2 := 44) (i := 72) rfl rfl rfl rfl I6 rfl rfl rfl (c_X6_choose 13 (r := z8) (most := most) (set := 0) (sum := 0) I6 (by omega) (by omega) (by omega)) (by decide) (fun v9 h9 hq9 => ?_)
  obtain ⟨I9, g9, w9, Q9⟩ := hq9
  subst w9
  have f9 := fr_tr (F1 := F_X6_choose) (F := F_X6_findBest) f6 g9 (by decide)
  show EvP _ _ _ (44, [(0, .ref 88), (1, .ref 39), (2, .int most)], [], h9) _
  refine te_aload_n (p2 := 45) rfl rfl rfl ?_
  refine tg_i (p2 := 48) (i := 72) rfl rfl I9 rfl rfl rfl (fun y10 a10 b10 e10 => ?_)
  have b0_11 : bst h6 = (0, 0) := by (unfold bst; rw [rv_ni (j := 72) (m := 6) u6 (Or.inr (by decide)), rv_ni (j := 72) (m := 6) u4 (Or.inr (by decide)), rv_of u2.1, rv_ni (j := 72) (m := 5) u6 (Or.inr (by decide)), rv_ni (j := 72) (m := 5) u4 (Or.inr (by decide)), rv_ni (j := 72) (m := 5) u2 (Or.inr (by decide)), rv_of u1.1])
  have b7_11 : rv h6 72 7 = y3 := (rv_ni u6 (Or.inr (by decide))).trans (rv_of u4.1)
  have b8_11 : rv h6 72 8 = y5 := rv_of u6.1
  have bm_11 : bst h9 = menC most (rmX h) (wX h 23) (absX h 23) := by (unfold menC; rw [Q9.1, show rmX h6 = rmX h from rmX_fr f6 (by decide), show wX h6 23 = wX h 23 from wX_fr f6 (by decide), b7_11, b8_11, b0_11, (show (absX h 23).kp 0 = y3 from (aX_kp (by decide)).trans ((rv_c (f2 24 0 rfl).symm).trans (rv_of (k := 0) e3))), (show (absX h 23).kp 1 = y5 from (aX_kp (by decide)).trans ((rv_c (f4 24 1 rfl).symm).trans (rv_of (k := 1) e5))), show (rmX h).n = y7 from (rv_c (f9 72 0 rfl).symm).trans (rv_of ((g9 _ _ (by decide)).trans e7)), show (z8.toInt + 1).toNat = y7.toInt.toNat by omega])
  exact te_iret rfl rfl ⟨I9, f9, _, rfl, (by show (y10, rv h9 72 5) = _; rw [← bm_11]; unfold bst; rw [rv_of e10])⟩
abbrev Q1_mends (x1 : Int32) (y : Int32) (h h2 : im_H) : Prop := (0 ≤ x1.toInt ∧ x1.toInt ≤ 12 → (y, rv h2 72 5) = menC x1 (rmX h) (wX h 23) (absX h 23)) ∧ (¬ (0 ≤ x1.toInt ∧ x1.toInt ≤ 12) → y = -2 ∧ rv h2 72 5 = rv h 72 5)
set_option maxRecDepth 20000 in
set_option maxHeartbeats 4000000 in
theorem c_X11_mends {x1 : Int32} {h : im_H} (hI : tI h)  : CaP 16 88 [.ref 16, .int x1] h (fun v h2 => tI h2 ∧ fr F_X11_mends h h2 ∧ ∃ y : Int32, v = some (.int y) ∧ Q1_mends x1 y h h2) := by
  refine cap_of (d := 15) (M := mX11_mends) rfl (Nat.le_of_ble_eq_true rfl) ?_
  show EvP im_K0 15 mX11_mends (0, [(0, .ref 16), (1, .int x1)], [], h) _
  have f0 : fr F_X11_mends h h := fr_rf
  refine te_iload_n (p2 := 1) rfl rfl rfl ?_
  refine te_iconst (p2 := 2) (x := 0) rfl rfl (by decide) ?_
  refine te_bipush (p2 := 4) (x := 12) rfl rfl (by decide) ?_
  refine cS_pI (p2 := 7) rfl rfl rfl rfl (t_X11_between (n := x1) (a := 0) (b := 12) hI ) (by decide) (fun y1 r1 => ?_)
  rcases r1 with ⟨w1, c1⟩ | ⟨w1, c1⟩
  · subst w1
    have cc1_1 := (show Int32.toInt 0 = 0 from rfl)
    have cc1_2 := (show Int32.toInt 12 = 12 from rfl)
    refine tz_ne (p2 := 10) rfl rfl (show Int32.toInt 1 = 1 from rfl) (fun c2 => ?_) (fun c2 => absurd c2 (by omega))
    refine te_aload_n (p2 := 14) rfl rfl rfl ?_
    refine tg_r (p2 := 17) (i := 0) (r := 88) rfl rfl hI rfl rfl rfl ?_
    refine te_aload_n (p2 := 18) rfl rfl rfl ?_
    refine tg_r (p2 := 21) (i := 0) (r := 39) rfl rfl hI rfl rfl rfl ?_
    refine te_iload_n (p2 := 22) rfl rfl rfl ?_
    refine tc_V (p2 := 25) (i := 72) rfl rfl rfl rfl hI rfl rfl rfl (c_X6_findBest (most := x1) hI ) (by decide) (fun v3 h3 hq3 => ?_)
    obtain ⟨I3, g3, y3, w3, Q3⟩ := hq3
    subst w3
    have f3 := fr_tr (F1 := F_X6_findBest) (F := F_X11_mends) f0 g3 (by decide)
    show EvP _ _ _ (25, [(0, .ref 16), (1, .int x1)], [.int y3], h3) _
    exact te_iret rfl rfl ⟨I3, f3, _, rfl, (fun _ => Q3), (fun q => absurd (by omega) q)⟩
  · subst w1
    have cc1_1 := (show Int32.toInt 0 = 0 from rfl)
    have cc1_2 := (show Int32.toInt 12 = 12 from rfl)
    refine tz_ne (p2 := 10) rfl rfl (show Int32.toInt 0 = 0 from rfl) (fun c4 => absurd c4 (by omega)) (fun c4 => ?_)
    refine te_bipush (p2 := 12) (x := (-2)) rfl rfl (by decide) ?_
    exact te_iret rfl rfl ⟨hI, f0, _, rfl, (fun q => absurd q (by omega)), (fun _ => ⟨rfl, rfl⟩)⟩
theorem fd_y {br bm wa wo : Nat → Int} {n k k2 : Nat} {most bl be x y : Int} {b b0 : Int × Int} (w : b = fdE br bm wa wo n most bl be 0 0 b0 k) (hk : k2 = k + 1) (c : fea br bm wa n most bl be k) (c2 : b.1 < x) (e1 : x = sB wo k n) (e2 : y = k) : (x, y) = fdE br bm wa wo n most bl be 0 0 b0 k2 := by
  subst hk
  show _ = stp br bm wa wo n most bl be 0 0 (fdE br bm wa wo n most bl be 0 0 b0 k) k
  rw [← w]
  unfold stp
  rw [if_pos ⟨c, by omega⟩, e1, e2, Int.zero_add, Int.zero_add]
theorem fd_n {br bm wa wo : Nat → Int} {n k k2 : Nat} {most bl be : Int} {b b0 : Int × Int} (w : b = fdE br bm wa wo n most bl be 0 0 b0 k) (hk : k2 = k + 1) (c : fea br bm wa n most bl be k → ¬ b.1 < sB wo k n) : b = fdE br bm wa wo n most bl be 0 0 b0 k2 := by
  subst hk
  show _ = stp br bm wa wo n most bl be 0 0 (fdE br bm wa wo n most bl be 0 0 b0 k) k
  rw [← w]
  unfold stp
  rw [if_neg (fun q => c q.1 (by have := q.2; omega))]
theorem fd_0 {br bm wa wo : Nat → Int} {n k : Nat} {most bl be : Int} {b : Int × Int} (hk : k = 0) : b = fdE br bm wa wo n most bl be 0 0 b k := by
  subst hk
  rfl
def PW (w : Nat → Int32) (M : Nat) (v : Int32) (i : Nat) : Prop := (v.toInt = 1 ∧ sB (iW w) M i ≤ 0) ∨ (v.toInt = 0 ∧ ¬ sB (iW w) M i ≤ 0)
theorem sB_1 {f : Nat → Int} {m i : Nat} : sB f m (i + 1) = sB f m i + (if m / 2 ^ i % 2 = 1 then f i else 0) := rfl
theorem pw_n {w : Nat → Int32} {M i i2 : Nat} {v : Int32} (h : PW w M v i) (hi : i2 = i + 1) (hb : ¬ M / 2 ^ i % 2 = 1) : PW w M v i2 := by
  subst hi
  unfold PW at h ⊢
  rw [sB_1, if_neg hb, Int.add_zero]
  exact h
theorem pw_0 {w : Nat → Int32} {M i i2 : Nat} {v : Int32} (h : PW w M v i) (hi : i2 = i + 1) (hv : v.toInt = 0) : PW w M 0 i2 := by
  subst hi
  unfold PW at h ⊢
  have a := iW_nn (w := w) i
  refine Or.inr ⟨rfl, ?_⟩
  rw [sB_1]
  split <;> omega
theorem pw_w {w : Nat → Int32} {M i i2 : Nat} (hi : i2 = i + 1) (hb : M / 2 ^ i % 2 = 1) (hw : (w i).toInt ≠ 0) : PW w M 0 i2 := by
  subst hi
  have a := sB_nn (f := iW w) iW_nn (m := M) i
  refine Or.inr ⟨rfl, ?_⟩
  rw [sB_1, if_pos hb, show iW w i = 1 from if_neg hw]
  omega
theorem pw_y {w : Nat → Int32} {M i i2 : Nat} {v : Int32} (h : PW w M v i) (hi : i2 = i + 1) (hv : v.toInt ≠ 0) (hw : (w i).toInt = 0) : PW w M 1 i2 := by
  subst hi
  unfold PW at h
  refine Or.inl ⟨rfl, ?_⟩
  rw [sB_1, show iW w i = 0 from if_pos hw]
  split <;> omega
abbrev D2_mends (x1 : Int32) (y : Int32) (h h2 : im_H) : Prop := (0 ≤ x1.toInt ∧ x1.toInt ≤ 12 → (y.toInt, (rv h2 148 43).toInt) = fdE (iA (rmM h).br) (iA (rmM h).be) (iW (wM h 149)) (iA (rmM h).wo) (rmM h).n.toInt.toNat x1.toInt ((absM h).kp 0).toInt ((absM h).kp 1).toInt 0 0 (-1, 0) (2 ^ (rmM h).n.toInt.toNat)) ∧ (¬ (0 ≤ x1.toInt ∧ x1.toInt ≤ 12) → y = -2 ∧ rv h2 148 43 = rv h 148 43)
abbrev Q2_mends (x1 : Int32) (y : Int32) (h h2 : im_H) : Prop := rmC (rmM h) → D2_mends x1 y h h2
set_option maxRecDepth 20000 in
set_option maxHeartbeats 4000000 in
theorem d_X12_mends {x1 : Int32} {h : im_H} (hI : tI h) (pr0 : rmC (rmM h)) : CaP 3 170 [.ref 164, .int x1] h (fun v h2 => tI h2 ∧ fr F_X12_mends h h2 ∧ ∃ y : Int32, v = some (.int y) ∧ D2_mends x1 y h h2) := by
  refine cap_of (d := 2) (M := mX12_mends) rfl (Nat.le_of_ble_eq_true rfl) ?_
  show EvP im_K0 2 mX12_mends (0, [(0, .ref 164), (1, .int x1)], [], h) _
  have f0 : fr F_X12_mends h h := fr_rf
  refine te_iload_n (p2 := 1) rfl rfl rfl ?_
  refine te_iconst (p2 := 2) (x := 0) rfl rfl (by decide) ?_
  refine te_bipush (p2 := 4) (x := 12) rfl rfl (by decide) ?_
  refine cS_pI (p2 := 7) rfl rfl rfl rfl (t_X12_in (n := x1) (a := 0) (b := 12) hI ) (by decide) (fun y1 r1 => ?_)
  rcases r1 with ⟨w1, c1⟩ | ⟨w1, c1⟩
  · subst w1
    have cc1_1 := (show Int32.toInt 0 = 0 from rfl)
    have cc1_2 := (show Int32.toInt 12 = 12 from rfl)
    refine tz_ne (p2 := 10) rfl rfl (show Int32.toInt 1 = 1 from rfl) (fun c2 => ?_) (fun c2 => absurd c2 (by omega))
    refine te_iconst (p2 := 14) (x := (-1)) rfl rfl (by decide) ?_
    obtain ⟨v3, e3, y3, w3, a3, b3, _⟩ := hI.2.1 148 24 (.inl (0, 12, 9999999999)) rfl
    subst w3
    have hp0 : (0 : Int) < ((2 ^ y3.toInt.toNat : Nat) : Int) := Int.ofNat_lt.mpr (Nat.pow_pos (by decide))
    refine te_istore_n (p2 := 15) (lv2 := [(2, .int (-1)), (0, .ref 164), (1, .int x1)]) rfl rfl (by decide) rfl ?_
    refine te_aload_n (p2 := 16) rfl rfl rfl ?_
    refine te_iconst (p2 := 17) (x := 0) rfl rfl (by decide) ?_
    refine tp_i (p2 := 20) (i := 148) rfl rfl hI rfl rfl (by decide) rfl rfl rfl (i32_lo _) (i32_hi _) (i32_ho _) rfl (fun h4 I4 u4 => ?_)
    have f4 := fr_st (F := F_X12_mends) 0 f0 u4 rfl (by decide) (by decide)
    refine te_iconst (p2 := 21) (x := 0) rfl rfl (by decide) ?_
    refine te_istore_n (p2 := 22) (lv2 := [(3, .int 0), (2, .int (-1)), (0, .ref 164), (1, .int x1)]) rfl rfl (by decide) rfl ?_
    have lp5 : ∀ (n5 : Nat) (v5_2 v5_3 : Int32) (h5 : im_H), tI h5 → fr F_X12_mends h h5 → (-1) ≤ v5_2.toInt → v5_2.toInt ≤ 1200 → 0 ≤ v5_3.toInt → v5_3.toInt ≤ 4096 → v5_3.toInt ≤ ((2 ^ y3.toInt.toNat : Nat) : Int) → ((v5_2.toInt, (rv h5 148 43).toInt) = fdE (iA (rmM h).br) (iA (rmM h).be) (iW (wM h 149)) (iA (rmM h).wo) (rmM h).n.toInt.toNat x1.toInt ((absM h).kp 0).toInt ((absM h).kp 1).toInt 0 0 (-1, 0) v5_3.toInt.toNat) → 4096 - v5_3.toInt < (n5 : Int) → EvP im_K0 2 mX12_mends (22, [(0, .ref 164), (1, .int x1), (2, .int v5_2), (3, .int v5_3)], [], h5) (fun v h2 => tI h2 ∧ fr F_X12_mends h h2 ∧ ∃ y : Int32, v = some (.int y) ∧ D2_mends x1 y h h2) := by
      intro n5
      induction n5 with
      | zero => intro v5_2 v5_3 h5 I5 f5 a5_2 b5_2 a5_3 b5_3 l5_0 w5_0 m5; exfalso; omega
      | succ n5 ih5 =>
        intro v5_2 v5_3 h5 I5 f5 a5_2 b5_2 a5_3 b5_3 l5_0 w5_0 m5
        refine te_iload_n (p2 := 23) rfl rfl rfl ?_
        refine te_iconst (p2 := 24) (x := 1) rfl rfl (by decide) ?_
        refine te_aload_n (p2 := 25) rfl rfl rfl ?_
        refine tg_e (p2 := 28) (i := 148) (v := .int y3) rfl rfl I5 rfl rfl ((f5 _ _ rfl).trans e3) ?_
        refine au_shl (p2 := 29) rfl rfl (fun z6 e6 => ?_)
        obtain ⟨a7, b7⟩ := shl12 (r := y3) (by omega) (by omega)
        rw [e6] at a7 b7
        have pw8 := sh_at (n := y3) (by omega) (by omega)
        rw [e6, show y3.toInt.toNat = y3.toInt.toNat by omega] at pw8
        refine tb_ge (p2 := 32) rfl rfl rfl rfl (fun c9 => ?_) (fun c9 => ?_)
        · refine te_iload_n (p2 := 196) rfl rfl rfl ?_
          exact te_iret rfl rfl ⟨I5, f5, _, rfl, (fun _ => by rw [w5_0, show (rmM h).n = y3 from rv_of e3, show v5_3.toInt.toNat = 2 ^ y3.toInt.toNat from by (have h9 := (show ((2 ^ y3.toInt.toNat : Nat) : Int) = ((2 ^ y3.toInt.toNat : Nat) : Int) by (rw [show y3.toInt.toNat = y3.toInt.toNat by omega])); omega)]), (fun q => absurd (by omega) q)⟩
        · refine te_iconst (p2 := 33) (x := 0) rfl rfl (by decide) ?_
          refine te_istore (p2 := 35) (lv2 := [(4, .int 0), (0, .ref 164), (1, .int x1), (2, .int v5_2), (3, .int v5_3)]) rfl rfl (by decide) rfl ?_
          refine te_iconst (p2 := 36) (x := 0) rfl rfl (by decide) ?_
          refine te_istore (p2 := 38) (lv2 := [(5, .int 0), (4, .int 0), (0, .ref 164), (1, .int x1), (2, .int v5_2), (3, .int v5_3)]) rfl rfl (by decide) rfl ?_
          refine te_iconst (p2 := 39) (x := 0) rfl rfl (by decide) ?_
          refine te_istore (p2 := 41) (lv2 := [(6, .int 0), (5, .int 0), (4, .int 0), (0, .ref 164), (1, .int x1), (2, .int v5_2), (3, .int v5_3)]) rfl rfl (by decide) rfl ?_
          refine te_iconst (p2 := 42) (x := 0) rfl rfl (by decide) ?_
          refine te_istore (p2 := 44) (lv2 := [(7, .int 0), (6, .int 0), (5, .int 0), (4, .int 0), (0, .ref 164), (1, .int x1), (2, .int v5_2), (3, .int v5_3)]) rfl rfl (by decide) rfl ?_
          refine te_iconst (p2 := 45) (x := 1) rfl rfl (by decide) ?_
          refine te_istore (p2 := 47) (lv2 := [(8, .int 1), (7, .int 0), (6, .int 0), (5, .int 0), (4, .int 0), (0, .ref 164), (1, .int x1), (2, .int v5_2), (3, .int v5_3)]) rfl rfl (by decide) rfl ?_
          refine te_iconst (p2 := 48) (x := 0) rfl rfl (by decide) ?_
          refine te_istore (p2 := 50) (lv2 := [(9, .int 0), (8, .int 1), (7, .int 0), (6, .int 0), (5, .int 0), (4, .int 0), (0, .ref 164), (1, .int x1), (2, .int v5_2), (3, .int v5_3)]) rfl rfl (by decide) rfl ?_
          have lp10 : ∀ (n10 : Nat) (v10_4 v10_5 v10_6 v10_7 v10_8 v10_9 : Int32) , 0 ≤ v10_4.toInt → v10_4.toInt ≤ 12 → 0 ≤ v10_5.toInt → v10_5.toInt ≤ 120000 → 0 ≤ v10_6.toInt → v10_6.toInt ≤ 12000 → 0 ≤ v10_7.toInt → v10_7.toInt ≤ 1200 → 0 ≤ v10_8.toInt → v10_8.toInt ≤ 1 → 0 ≤ v10_9.toInt → v10_9.toInt ≤ 12 → v10_4.toInt ≤ v10_9.toInt → v10_5.toInt ≤ 9999 * v10_9.toInt → v10_6.toInt ≤ 999 * v10_9.toInt → v10_7.toInt ≤ 99 * v10_9.toInt → v10_9.toInt ≤ y3.toInt → (v10_4.toInt = sB (fun _ => 1) v5_3.toInt.toNat v10_9.toInt.toNat) → (v10_5.toInt = sB (iA (rmM h).br) v5_3.toInt.toNat v10_9.toInt.toNat) → (v10_6.toInt = sB (iA (rmM h).be) v5_3.toInt.toNat v10_9.toInt.toNat) → (v10_7.toInt = sB (iA (rmM h).wo) v5_3.toInt.toNat v10_9.toInt.toNat) → (PW (wM h 149) v5_3.toInt.toNat v10_8 v10_9.toInt.toNat) → 12 - v10_9.toInt < (n10 : Int) → EvP im_K0 2 mX12_mends (50, [(0, .ref 164), (1, .int x1), (2, .int v5_2), (3, .int v5_3), (4, .int v10_4), (5, .int v10_5), (6, .int v10_6), (7, .int v10_7), (8, .int v10_8), (9, .int v10_9)], [], h5) (fun v h2 => tI h2 ∧ fr F_X12_mends h h2 ∧ ∃ y : Int32, v = some (.int y) ∧ D2_mends x1 y h h2) := by
            intro n10
            induction n10 with
            | zero => intro v10_4 v10_5 v10_6 v10_7 v10_8 v10_9 a10_4 b10_4 a10_5 b10_5 a10_6 b10_6 a10_7 b10_7 a10_8 b10_8 a10_9 b10_9 l10_0 l10_1 l10_2 l10_3 l10_4 w10_0 w10_1 w10_2 w10_3 w10_4 m10; exfalso; omega
            | succ n10 ih10 =>
              intro v10_4 v10_5 v10_6 v10_7 v10_8 v10_9 a10_4 b10_4 a10_5 b10_5 a10_6 b10_6 a10_7 b10_7 a10_8 b10_8 a10_9 b10_9 l10_0 l10_1 l10_2 l10_3 l10_4 w10_0 w10_1 w10_2 w10_3 w10_4 m10
              refine te_iload (p2 := 52) rfl rfl rfl ?_
              refine te_aload_n (p2 := 53) rfl rfl rfl ?_
              refine tg_e (p2 := 56) (i := 148) (v := .int y3) rfl rfl I5 rfl rfl ((f5 _ _ rfl).trans e3) ?_
              refine tb_ge (p2 := 59) rfl rfl rfl rfl (fun c11 => ?_) (fun c11 => ?_)
              · refine te_iload (p2 := 142) rfl rfl rfl ?_
                refine tz_eq (p2 := 145) rfl rfl rfl (fun c12 => ?_) (fun c12 => ?_)
                · refine ar_inc (p2 := 192) (x := v5_3) rfl rfl (by decide) rfl (by decide) rfl (by omega) (by omega) (fun z13 e13 f13 => ?_)
                  show EvP _ _ _ (192, [(3, .int z13), (0, .ref 164), (1, .int x1), (2, .int v5_2), (4, .int v10_4), (5, .int v10_5), (6, .int v10_6), (7, .int v10_7), (8, .int v10_8), (9, .int v10_9)], [], h5) _
                  refine te_goto rfl ?_
                  refine te_lv [(0, .ref 164), (1, .int x1), (2, .int v5_2), (3, .int z13)] rfl rfl ⟨rfl, rfl, rfl, rfl, trivial⟩ ?_
                  have hn14 : v10_9.toInt.toNat = (rmM h).n.toInt.toNat := by (rw [show (rmM h).n = y3 from rv_of e3]; omega)
                  have s14_0 := w10_0
                  rw [hn14] at s14_0
                  have s14_1 := w10_1
                  rw [hn14] at s14_1
                  have s14_2 := w10_2
                  rw [hn14] at s14_2
                  have s14_3 := w10_3
                  rw [hn14] at s14_3
                  have s14_4 : (v10_8.toInt = 1 ∧ sB (iW (wM h 149)) v5_3.toInt.toNat v10_9.toInt.toNat ≤ 0) ∨ (v10_8.toInt = 0 ∧ ¬ sB (iW (wM h 149)) v5_3.toInt.toNat v10_9.toInt.toNat ≤ 0) := w10_4
                  rw [hn14] at s14_4
                  exact ih5 v5_2 z13 h5 I5 f5 (by omega) (by omega) (by omega) (by omega) (by omega) (fd_n w5_0 (by omega) (fun ⟨a1, a2, a3, a4⟩ a5 => by (have a6 : v5_2.toInt < sB (iA (rmM h).wo) v5_3.toInt.toNat (rmM h).n.toInt.toNat := a5); omega)) (by omega)
                · refine te_iload (p2 := 147) rfl rfl rfl ?_
                  refine te_iload_n (p2 := 148) rfl rfl rfl ?_
                  refine tb_gt (p2 := 151) rfl rfl rfl rfl (fun c15 => ?_) (fun c15 => ?_)
                  · refine ar_inc (p2 := 192) (x := v5_3) rfl rfl (by decide) rfl (by decide) rfl (by omega) (by omega) (fun z16 e16 f16 => ?_)
                    show EvP _ _ _ (192, [(3, .int z16), (0, .ref 164), (1, .int x1), (2, .int v5_2), (4, .int v10_4), (5, .int v10_5), (6, .int v10_6), (7, .int v10_7), (8, .int v10_8), (9, .int v10_9)], [], h5) _
                    refine te_goto rfl ?_
                    refine te_lv [(0, .ref 164), (1, .int x1), (2, .int v5_2), (3, .int z16)] rfl rfl ⟨rfl, rfl, rfl, rfl, trivial⟩ ?_
                    have hn17 : v10_9.toInt.toNat = (rmM h).n.toInt.toNat := by (rw [show (rmM h).n = y3 from rv_of e3]; omega)
                    have s17_0 := w10_0
                    rw [hn17] at s17_0
                    have s17_1 := w10_1
                    rw [hn17] at s17_1
                    have s17_2 := w10_2
                    rw [hn17] at s17_2
                    have s17_3 := w10_3
                    rw [hn17] at s17_3
                    have s17_4 : (v10_8.toInt = 1 ∧ sB (iW (wM h 149)) v5_3.toInt.toNat v10_9.toInt.toNat ≤ 0) ∨ (v10_8.toInt = 0 ∧ ¬ sB (iW (wM h 149)) v5_3.toInt.toNat v10_9.toInt.toNat ≤ 0) := w10_4
                    rw [hn17] at s17_4
                    exact ih5 v5_2 z16 h5 I5 f5 (by omega) (by omega) (by omega) (by omega) (by omega) (fd_n w5_0 (by omega) (fun ⟨a1, a2, a3, a4⟩ a5 => by (have a6 : v5_2.toInt < sB (iA (rmM h).wo) v5_3.toInt.toNat (rmM h).n.toInt.toNat := a5); omega)) (by omega)
                  · refine te_iload (p2 := 153) rfl rfl rfl ?_
                    refine te_aload_n (p2 := 154) rfl rfl rfl ?_
                    refine tg_r (p2 := 157) (i := 148) (r := 165) rfl rfl I5 rfl rfl rfl ?_
                    refine te_bipush (p2 := 159) (x := 100) rfl rfl (by decide) ?_
                    refine tl_i (p2 := 160) (i := 149) (n := 283) rfl rfl I5 rfl rfl rfl rfl (by decide) (by decide) (fun y18 a18 b18 g18 e18 => ?_)
                    refine tb_gt (p2 := 163) rfl rfl rfl rfl (fun c19 => ?_) (fun c19 => ?_)
                    · refine ar_inc (p2 := 192) (x := v5_3) rfl rfl (by decide) rfl (by decide) rfl (by omega) (by omega) (fun z20 e20 f20 => ?_)
                      show EvP _ _ _ (192, [(3, .int z20), (0, .ref 164), (1, .int x1), (2, .int v5_2), (4, .int v10_4), (5, .int v10_5), (6, .int v10_6), (7, .int v10_7), (8, .int v10_8), (9, .int v10_9)], [], h5) _
                      refine te_goto rfl ?_
                      refine te_lv [(0, .ref 164), (1, .int x1), (2, .int v5_2), (3, .int z20)] rfl rfl ⟨rfl, rfl, rfl, rfl, trivial⟩ ?_
                      have hn21 : v10_9.toInt.toNat = (rmM h).n.toInt.toNat := by (rw [show (rmM h).n = y3 from rv_of e3]; omega)
                      have s21_0 := w10_0
                      rw [hn21] at s21_0
                      have s21_1 := w10_1
                      rw [hn21] at s21_1
                      have s21_2 := w10_2
                      rw [hn21] at s21_2
                      have s21_3 := w10_3
                      rw [hn21] at s21_3
                      have s21_4 : (v10_8.toInt = 1 ∧ sB (iW (wM h 149)) v5_3.toInt.toNat v10_9.toInt.toNat ≤ 0) ∨ (v10_8.toInt = 0 ∧ ¬ sB (iW (wM h 149)) v5_3.toInt.toNat v10_9.toInt.toNat ≤ 0) := w10_4
                      rw [hn21] at s21_4
                      have kp21_0 : (absM h).kp 0 = y18 := (aM_kp (by decide)).trans ((rv_c (f5 149 _ rfl).symm).trans (rv_of (k := 100) e18))
                      have kq21_0 := congrArg Int32.toInt kp21_0
                      exact ih5 v5_2 z20 h5 I5 f5 (by omega) (by omega) (by omega) (by omega) (by omega) (fd_n w5_0 (by omega) (fun ⟨a1, a2, a3, a4⟩ a5 => by (have a6 : v5_2.toInt < sB (iA (rmM h).wo) v5_3.toInt.toNat (rmM h).n.toInt.toNat := a5); omega)) (by omega)
                    · refine te_iload (p2 := 165) rfl rfl rfl ?_
                      refine te_aload_n (p2 := 166) rfl rfl rfl ?_
                      refine tg_r (p2 := 169) (i := 148) (r := 165) rfl rfl I5 rfl rfl rfl ?_
                      refine te_bipush (p2 := 171) (x := 101) rfl rfl (by decide) ?_
                      refine tl_i (p2 := 172) (i := 149) (n := 283) rfl rfl I5 rfl rfl rfl rfl (by decide) (by decide) (fun y22 a22 b22 g22 e22 => ?_)
                      refine tb_gt (p2 := 175) rfl rfl rfl rfl (fun c23 => ?_) (fun c23 => ?_)
                      · refine ar_inc (p2 := 192) (x := v5_3) rfl rfl (by decide) rfl (by decide) rfl (by omega) (by omega) (fun z24 e24 f24 => ?_)
                        show EvP _ _ _ (192, [(3, .int z24), (0, .ref 164), (1, .int x1), (2, .int v5_2), (4, .int v10_4), (5, .int v10_5), (6, .int v10_6), (7, .int v10_7), (8, .int v10_8), (9, .int v10_9)], [], h5) _
                        refine te_goto rfl ?_
                        refine te_lv [(0, .ref 164), (1, .int x1), (2, .int v5_2), (3, .int z24)] rfl rfl ⟨rfl, rfl, rfl, rfl, trivial⟩ ?_
                        have hn25 : v10_9.toInt.toNat = (rmM h).n.toInt.toNat := by (rw [show (rmM h).n = y3 from rv_of e3]; omega)
                        have s25_0 := w10_0
                        rw [hn25] at s25_0
                        have s25_1 := w10_1
                        rw [hn25] at s25_1
                        have s25_2 := w10_2
                        rw [hn25] at s25_2
                        have s25_3 := w10_3
                        rw [hn25] at s25_3
                        have s25_4 : (v10_8.toInt = 1 ∧ sB (iW (wM h 149)) v5_3.toInt.toNat v10_9.toInt.toNat ≤ 0) ∨ (v10_8.toInt = 0 ∧ ¬ sB (iW (wM h 149)) v5_3.toInt.toNat v10_9.toInt.toNat ≤ 0) := w10_4
                        rw [hn25] at s25_4
                        have kp25_0 : (absM h).kp 0 = y18 := (aM_kp (by decide)).trans ((rv_c (f5 149 _ rfl).symm).trans (rv_of (k := 100) e18))
                        have kq25_0 := congrArg Int32.toInt kp25_0
                        have kp25_1 : (absM h).kp 1 = y22 := (aM_kp (by decide)).trans ((rv_c (f5 149 _ rfl).symm).trans (rv_of (k := 101) e22))
                        have kq25_1 := congrArg Int32.toInt kp25_1
                        exact ih5 v5_2 z24 h5 I5 f5 (by omega) (by omega) (by omega) (by omega) (by omega) (fd_n w5_0 (by omega) (fun ⟨a1, a2, a3, a4⟩ a5 => by (have a6 : v5_2.toInt < sB (iA (rmM h).wo) v5_3.toInt.toNat (rmM h).n.toInt.toNat := a5); omega)) (by omega)
                      · refine te_iload (p2 := 177) rfl rfl rfl ?_
                        refine te_iload_n (p2 := 178) rfl rfl rfl ?_
                        refine tb_le (p2 := 181) rfl rfl rfl rfl (fun c26 => ?_) (fun c26 => ?_)
                        · refine ar_inc (p2 := 192) (x := v5_3) rfl rfl (by decide) rfl (by decide) rfl (by omega) (by omega) (fun z27 e27 f27 => ?_)
                          show EvP _ _ _ (192, [(3, .int z27), (0, .ref 164), (1, .int x1), (2, .int v5_2), (4, .int v10_4), (5, .int v10_5), (6, .int v10_6), (7, .int v10_7), (8, .int v10_8), (9, .int v10_9)], [], h5) _
                          refine te_goto rfl ?_
                          refine te_lv [(0, .ref 164), (1, .int x1), (2, .int v5_2), (3, .int z27)] rfl rfl ⟨rfl, rfl, rfl, rfl, trivial⟩ ?_
                          have hn28 : v10_9.toInt.toNat = (rmM h).n.toInt.toNat := by (rw [show (rmM h).n = y3 from rv_of e3]; omega)
                          have s28_0 := w10_0
                          rw [hn28] at s28_0
                          have s28_1 := w10_1
                          rw [hn28] at s28_1
                          have s28_2 := w10_2
                          rw [hn28] at s28_2
                          have s28_3 := w10_3
                          rw [hn28] at s28_3
                          have s28_4 : (v10_8.toInt = 1 ∧ sB (iW (wM h 149)) v5_3.toInt.toNat v10_9.toInt.toNat ≤ 0) ∨ (v10_8.toInt = 0 ∧ ¬ sB (iW (wM h 149)) v5_3.toInt.toNat v10_9.toInt.toNat ≤ 0) := w10_4
                          rw [hn28] at s28_4
                          have kp28_0 : (absM h).kp 0 = y18 := (aM_kp (by decide)).trans ((rv_c (f5 149 _ rfl).symm).trans (rv_of (k := 100) e18))
                          have kq28_0 := congrArg Int32.toInt kp28_0
                          have kp28_1 : (absM h).kp 1 = y22 := (aM_kp (by decide)).trans ((rv_c (f5 149 _ rfl).symm).trans (rv_of (k := 101) e22))
                          have kq28_1 := congrArg Int32.toInt kp28_1
                          exact ih5 v5_2 z27 h5 I5 f5 (by omega) (by omega) (by omega) (by omega) (by omega) (fd_n w5_0 (by omega) (fun ⟨a1, a2, a3, a4⟩ a5 => by (have a6 : v5_2.toInt < sB (iA (rmM h).wo) v5_3.toInt.toNat (rmM h).n.toInt.toNat := a5); omega)) (by omega)
                        · refine te_iload (p2 := 183) rfl rfl rfl ?_
                          refine te_istore_n (p2 := 184) (lv2 := [(2, .int v10_7), (0, .ref 164), (1, .int x1), (3, .int v5_3), (4, .int v10_4), (5, .int v10_5), (6, .int v10_6), (7, .int v10_7), (8, .int v10_8), (9, .int v10_9)]) rfl rfl (by decide) rfl ?_
                          refine te_aload_n (p2 := 185) rfl rfl rfl ?_
                          refine te_iload_n (p2 := 186) rfl rfl rfl ?_
                          refine tp_i (p2 := 189) (i := 148) rfl rfl I5 rfl rfl (by decide) rfl rfl rfl (i32_lo _) (i32_hi _) (i32_ho _) rfl (fun h29 I29 u29 => ?_)
                          have f29 := fr_st (F := F_X12_mends) 0 f5 u29 rfl (by decide) (by decide)
                          refine ar_inc (p2 := 192) (x := v5_3) rfl rfl (by decide) rfl (by decide) rfl (by omega) (by omega) (fun z30 e30 f30 => ?_)
                          show EvP _ _ _ (192, [(3, .int z30), (2, .int v10_7), (0, .ref 164), (1, .int x1), (4, .int v10_4), (5, .int v10_5), (6, .int v10_6), (7, .int v10_7), (8, .int v10_8), (9, .int v10_9)], [], h29) _
                          refine te_goto rfl ?_
                          refine te_lv [(0, .ref 164), (1, .int x1), (2, .int v10_7), (3, .int z30)] rfl rfl ⟨rfl, rfl, rfl, rfl, trivial⟩ ?_
                          have hn31 : v10_9.toInt.toNat = (rmM h).n.toInt.toNat := by (rw [show (rmM h).n = y3 from rv_of e3]; omega)
                          have s31_0 := w10_0
                          rw [hn31] at s31_0
                          have s31_1 := w10_1
                          rw [hn31] at s31_1
                          have s31_2 := w10_2
                          rw [hn31] at s31_2
                          have s31_3 := w10_3
                          rw [hn31] at s31_3
                          have s31_4 : (v10_8.toInt = 1 ∧ sB (iW (wM h 149)) v5_3.toInt.toNat v10_9.toInt.toNat ≤ 0) ∨ (v10_8.toInt = 0 ∧ ¬ sB (iW (wM h 149)) v5_3.toInt.toNat v10_9.toInt.toNat ≤ 0) := w10_4
                          rw [hn31] at s31_4
                          have kp31_0 : (absM h).kp 0 = y18 := (aM_kp (by decide)).trans ((rv_c (f29 149 _ rfl).symm).trans (rv_of (k := 100) ((u29.2 _ _ (Or.inl (by decide))).trans e18)))
                          have kq31_0 := congrArg Int32.toInt kp31_0
                          have kp31_1 : (absM h).kp 1 = y22 := (aM_kp (by decide)).trans ((rv_c (f29 149 _ rfl).symm).trans (rv_of (k := 101) ((u29.2 _ _ (Or.inl (by decide))).trans e22)))
                          have kq31_1 := congrArg Int32.toInt kp31_1
                          exact ih5 v10_7 z30 h29 I29 f29 (by omega) (by omega) (by omega) (by omega) (by omega) (by rw [rv_of u29.1]; exact fd_y w5_0 (by omega) ⟨by omega, by omega, by omega, by omega⟩ (show v5_2.toInt < v10_7.toInt by omega) s31_3 (by omega)) (by omega)
              · refine te_iload_n (p2 := 60) rfl rfl rfl ?_
                refine te_iload (p2 := 62) rfl rfl rfl ?_
                refine au_shr (p2 := 63) rfl rfl (fun z32 e32 => ?_)
                refine te_iconst (p2 := 64) (x := 1) rfl rfl (by decide) ?_
                refine au_and (p2 := 65) rfl rfl (fun z33 e33 => ?_)
                have hb34 := bit_at (m := v5_3) (i := v10_9) (by omega) (by omega) (by omega) (by omega)
                rw [e32, e33] at hb34
                generalize hg34 : v5_3.toInt.toNat / 2 ^ v10_9.toInt.toNat = gq34 at hb34
                refine te_iconst (p2 := 66) (x := 1) rfl rfl (by decide) ?_
                refine tb_ne (p2 := 69) rfl rfl rfl (show Int32.toInt 1 = 1 from rfl) (fun c35 => ?_) (fun c35 => ?_)
                · refine ar_inc (p2 := 137) (x := v10_9) rfl rfl (by decide) rfl (by decide) rfl (by omega) (by omega) (fun z36 e36 f36 => ?_)
                  show EvP _ _ _ (137, [(9, .int z36), (0, .ref 164), (1, .int x1), (2, .int v5_2), (3, .int v5_3), (4, .int v10_4), (5, .int v10_5), (6, .int v10_6), (7, .int v10_7), (8, .int v10_8)], [], h5) _
                  refine te_goto rfl ?_
                  refine te_lv [(0, .ref 164), (1, .int x1), (2, .int v5_2), (3, .int v5_3), (4, .int v10_4), (5, .int v10_5), (6, .int v10_6), (7, .int v10_7), (8, .int v10_8), (9, .int z36)] rfl rfl ⟨rfl, rfl, rfl, rfl, rfl, rfl, rfl, rfl, rfl, rfl, trivial⟩ ?_
                  exact ih10 v10_4 v10_5 v10_6 v10_7 v10_8 z36 (by omega) (by omega) (by omega) (by omega) (by omega) (by omega) (by omega) (by omega) (by omega) (by omega) (by omega) (by omega) (by omega) (by omega) (by omega) (by omega) (by omega) (sB_s w10_0 (by omega) (Or.inr ⟨(by rw [hg34]; omega), rfl⟩)) (sB_s w10_1 (by omega) (Or.inr ⟨(by rw [hg34]; omega), rfl⟩)) (sB_s w10_2 (by omega) (Or.inr ⟨(by rw [hg34]; omega), rfl⟩)) (sB_s w10_3 (by omega) (Or.inr ⟨(by rw [hg34]; omega), rfl⟩)) (pw_n w10_4 (by omega) (by rw [hg34]; omega)) (by omega)
                · refine ar_inc (p2 := 72) (x := v10_4) rfl rfl (by decide) rfl (by decide) rfl (by omega) (by omega) (fun z37 e37 f37 => ?_)
                  show EvP _ _ _ (72, [(4, .int z37), (0, .ref 164), (1, .int x1), (2, .int v5_2), (3, .int v5_3), (5, .int v10_5), (6, .int v10_6), (7, .int v10_7), (8, .int v10_8), (9, .int v10_9)], [], h5) _
                  refine te_iload (p2 := 74) rfl rfl rfl ?_
                  refine te_aload_n (p2 := 75) rfl rfl rfl ?_
                  refine tg_r (p2 := 78) (i := 148) (r := 186) rfl rfl I5 rfl rfl rfl ?_
                  refine te_iload (p2 := 80) rfl rfl rfl ?_
                  refine tl_i (p2 := 81) (i := 170) (n := 12) rfl rfl I5 rfl rfl rfl rfl (by omega) (by omega) (fun y38 a38 b38 g38 e38 => ?_)
                  have er39 : (rmM h).br v10_9.toInt.toNat = y38 := (gd_at (by omega)).trans ((rv_c (f5 170 _ rfl).symm).trans (rv_of e38))
                  have rb39 := (pr0 v10_9.toInt.toNat).1
                  rw [er39] at rb39
                  obtain ⟨ra39, rc39⟩ := rb39
                  refine ar_add (p2 := 82) rfl rfl rfl rfl (by omega) (by omega) (fun z40 e40 f40 => ?_)
                  refine te_istore (p2 := 84) (lv2 := [(5, .int z40), (4, .int z37), (0, .ref 164), (1, .int x1), (2, .int v5_2), (3, .int v5_3), (6, .int v10_6), (7, .int v10_7), (8, .int v10_8), (9, .int v10_9)]) rfl rfl (by decide) rfl ?_
                  refine te_iload (p2 := 86) rfl rfl rfl ?_
                  refine te_aload_n (p2 := 87) rfl rfl rfl ?_
                  refine tg_r (p2 := 90) (i := 148) (r := 187) rfl rfl I5 rfl rfl rfl ?_
                  refine te_iload (p2 := 92) rfl rfl rfl ?_
                  refine tl_i (p2 := 93) (i := 171) (n := 12) rfl rfl I5 rfl rfl rfl rfl (by omega) (by omega) (fun y41 a41 b41 g41 e41 => ?_)
                  have er42 : (rmM h).be v10_9.toInt.toNat = y41 := (gd_at (by omega)).trans ((rv_c (f5 171 _ rfl).symm).trans (rv_of e41))
                  have rb42 := (pr0 v10_9.toInt.toNat).2.1
                  rw [er42] at rb42
                  obtain ⟨ra42, rc42⟩ := rb42
                  refine ar_add (p2 := 94) rfl rfl rfl rfl (by omega) (by omega) (fun z43 e43 f43 => ?_)
                  refine te_istore (p2 := 96) (lv2 := [(6, .int z43), (5, .int z40), (4, .int z37), (0, .ref 164), (1, .int x1), (2, .int v5_2), (3, .int v5_3), (7, .int v10_7), (8, .int v10_8), (9, .int v10_9)]) rfl rfl (by decide) rfl ?_
                  refine te_iload (p2 := 98) rfl rfl rfl ?_
                  refine te_aload_n (p2 := 99) rfl rfl rfl ?_
                  refine tg_r (p2 := 102) (i := 148) (r := 188) rfl rfl I5 rfl rfl rfl ?_
                  refine te_iload (p2 := 104) rfl rfl rfl ?_
                  refine tl_i (p2 := 105) (i := 172) (n := 12) rfl rfl I5 rfl rfl rfl rfl (by omega) (by omega) (fun y44 a44 b44 g44 e44 => ?_)
                  have er45 : (rmM h).wo v10_9.toInt.toNat = y44 := (gd_at (by omega)).trans ((rv_c (f5 172 _ rfl).symm).trans (rv_of e44))
                  have rb45 := (pr0 v10_9.toInt.toNat).2.2
                  rw [er45] at rb45
                  obtain ⟨ra45, rc45⟩ := rb45
                  refine ar_add (p2 := 106) rfl rfl rfl rfl (by omega) (by omega) (fun z46 e46 f46 => ?_)
                  refine te_istore (p2 := 108) (lv2 := [(7, .int z46), (6, .int z43), (5, .int z40), (4, .int z37), (0, .ref 164), (1, .int x1), (2, .int v5_2), (3, .int v5_3), (8, .int v10_8), (9, .int v10_9)]) rfl rfl (by decide) rfl ?_
                  refine te_iload (p2 := 110) rfl rfl rfl ?_
                  refine tz_eq (p2 := 113) rfl rfl rfl (fun c47 => ?_) (fun c47 => ?_)
                  · refine te_iconst (p2 := 132) (x := 0) rfl rfl (by decide) ?_
                    refine te_istore (p2 := 134) (lv2 := [(8, .int 0), (7, .int z46), (6, .int z43), (5, .int z40), (4, .int z37), (0, .ref 164), (1, .int x1), (2, .int v5_2), (3, .int v5_3), (9, .int v10_9)]) rfl rfl (by decide) rfl ?_
                    refine ar_inc (p2 := 137) (x := v10_9) rfl rfl (by decide) rfl (by decide) rfl (by omega) (by omega) (fun z48 e48 f48 => ?_)
                    show EvP _ _ _ (137, [(9, .int z48), (8, .int 0), (7, .int z46), (6, .int z43), (5, .int z40), (4, .int z37), (0, .ref 164), (1, .int x1), (2, .int v5_2), (3, .int v5_3)], [], h5) _
                    refine te_goto rfl ?_
                    refine te_lv [(0, .ref 164), (1, .int x1), (2, .int v5_2), (3, .int v5_3), (4, .int z37), (5, .int z40), (6, .int z43), (7, .int z46), (8, .int 0), (9, .int z48)] rfl rfl ⟨rfl, rfl, rfl, rfl, rfl, rfl, rfl, rfl, rfl, rfl, trivial⟩ ?_
                    exact ih10 z37 z40 z43 z46 0 z48 (by omega) (by omega) (by omega) (by omega) (by omega) (by omega) (by omega) (by omega) (by decide) (by decide) (by omega) (by omega) (by have cc0 := (show Int32.toInt 0 = 0 from rfl); omega) (by have cc0 := (show Int32.toInt 0 = 0 from rfl); omega) (by have cc0 := (show Int32.toInt 0 = 0 from rfl); omega) (by have cc0 := (show Int32.toInt 0 = 0 from rfl); omega) (by have cc0 := (show Int32.toInt 0 = 0 from rfl); omega) (sB_s w10_0 (by omega) (Or.inl ⟨(by rw [hg34]; omega), (by show z37.toInt = v10_4.toInt + 1; omega)⟩)) (sB_s w10_1 (by omega) (Or.inl ⟨(by rw [hg34]; omega), (by show z40.toInt = v10_5.toInt + ((rmM h).br v10_9.toInt.toNat).toInt; rw [er39]; omega)⟩)) (sB_s w10_2 (by omega) (Or.inl ⟨(by rw [hg34]; omega), (by show z43.toInt = v10_6.toInt + ((rmM h).be v10_9.toInt.toNat).toInt; rw [er42]; omega)⟩)) (sB_s w10_3 (by omega) (Or.inl ⟨(by rw [hg34]; omega), (by show z46.toInt = v10_7.toInt + ((rmM h).wo v10_9.toInt.toNat).toInt; rw [er45]; omega)⟩)) (pw_0 w10_4 (by omega) (by omega)) (by have cc0 := (show Int32.toInt 0 = 0 from rfl); omega)
                  · refine te_aload_n (p2 := 114) rfl rfl rfl ?_
                    refine tg_r (p2 := 117) (i := 148) (r := 165) rfl rfl I5 rfl rfl rfl ?_
                    refine te_sipush (p2 := 120) (x := 260) rfl rfl (by decide) ?_
                    refine te_iload (p2 := 122) rfl rfl rfl ?_
                    refine ar_add (p2 := 123) rfl rfl (show Int32.toInt 260 = 260 from rfl) rfl (by omega) (by omega) (fun z49 e49 f49 => ?_)
                    refine tl_i (p2 := 124) (i := 149) (n := 283) rfl rfl I5 rfl rfl rfl rfl (by omega) (by omega) (fun y50 a50 b50 g50 e50 => ?_)
                    have ew51 : wM h 149 v10_9.toInt.toNat = y50 := (gd_at (by omega)).trans (by show rv h 149 (260 + v10_9.toInt.toNat) = _; rw [show 260 + v10_9.toInt.toNat = z49.toInt.toNat by omega]; exact (rv_c (f5 149 _ rfl).symm).trans (rv_of e50))
                    refine tz_ne (p2 := 127) rfl rfl rfl (fun c52 => ?_) (fun c52 => ?_)
                    · refine te_iconst (p2 := 132) (x := 0) rfl rfl (by decide) ?_
                      refine te_istore (p2 := 134) (lv2 := [(8, .int 0), (7, .int z46), (6, .int z43), (5, .int z40), (4, .int z37), (0, .ref 164), (1, .int x1), (2, .int v5_2), (3, .int v5_3), (9, .int v10_9)]) rfl rfl (by decide) rfl ?_
                      refine ar_inc (p2 := 137) (x := v10_9) rfl rfl (by decide) rfl (by decide) rfl (by omega) (by omega) (fun z53 e53 f53 => ?_)
                      show EvP _ _ _ (137, [(9, .int z53), (8, .int 0), (7, .int z46), (6, .int z43), (5, .int z40), (4, .int z37), (0, .ref 164), (1, .int x1), (2, .int v5_2), (3, .int v5_3)], [], h5) _
                      refine te_goto rfl ?_
                      refine te_lv [(0, .ref 164), (1, .int x1), (2, .int v5_2), (3, .int v5_3), (4, .int z37), (5, .int z40), (6, .int z43), (7, .int z46), (8, .int 0), (9, .int z53)] rfl rfl ⟨rfl, rfl, rfl, rfl, rfl, rfl, rfl, rfl, rfl, rfl, trivial⟩ ?_
                      exact ih10 z37 z40 z43 z46 0 z53 (by omega) (by omega) (by omega) (by omega) (by omega) (by omega) (by omega) (by omega) (by decide) (by decide) (by omega) (by omega) (by have cc0 := (show Int32.toInt 0 = 0 from rfl); omega) (by have cc0 := (show Int32.toInt 0 = 0 from rfl); omega) (by have cc0 := (show Int32.toInt 0 = 0 from rfl); omega) (by have cc0 := (show Int32.toInt 0 = 0 from rfl); omega) (by have cc0 := (show Int32.toInt 0 = 0 from rfl); omega) (sB_s w10_0 (by omega) (Or.inl ⟨(by rw [hg34]; omega), (by show z37.toInt = v10_4.toInt + 1; omega)⟩)) (sB_s w10_1 (by omega) (Or.inl ⟨(by rw [hg34]; omega), (by show z40.toInt = v10_5.toInt + ((rmM h).br v10_9.toInt.toNat).toInt; rw [er39]; omega)⟩)) (sB_s w10_2 (by omega) (Or.inl ⟨(by rw [hg34]; omega), (by show z43.toInt = v10_6.toInt + ((rmM h).be v10_9.toInt.toNat).toInt; rw [er42]; omega)⟩)) (sB_s w10_3 (by omega) (Or.inl ⟨(by rw [hg34]; omega), (by show z46.toInt = v10_7.toInt + ((rmM h).wo v10_9.toInt.toNat).toInt; rw [er45]; omega)⟩)) (pw_w (i := v10_9.toInt.toNat) (by omega) (by rw [hg34]; omega) (by rw [ew51]; omega)) (by have cc0 := (show Int32.toInt 0 = 0 from rfl); omega)
                    · refine te_iconst (p2 := 128) (x := 1) rfl rfl (by decide) ?_
                      refine te_goto rfl ?_
                      refine te_istore (p2 := 134) (lv2 := [(8, .int 1), (7, .int z46), (6, .int z43), (5, .int z40), (4, .int z37), (0, .ref 164), (1, .int x1), (2, .int v5_2), (3, .int v5_3), (9, .int v10_9)]) rfl rfl (by decide) rfl ?_
                      refine ar_inc (p2 := 137) (x := v10_9) rfl rfl (by decide) rfl (by decide) rfl (by omega) (by omega) (fun z54 e54 f54 => ?_)
                      show EvP _ _ _ (137, [(9, .int z54), (8, .int 1), (7, .int z46), (6, .int z43), (5, .int z40), (4, .int z37), (0, .ref 164), (1, .int x1), (2, .int v5_2), (3, .int v5_3)], [], h5) _
                      refine te_goto rfl ?_
                      refine te_lv [(0, .ref 164), (1, .int x1), (2, .int v5_2), (3, .int v5_3), (4, .int z37), (5, .int z40), (6, .int z43), (7, .int z46), (8, .int 1), (9, .int z54)] rfl rfl ⟨rfl, rfl, rfl, rfl, rfl, rfl, rfl, rfl, rfl, rfl, trivial⟩ ?_
                      exact ih10 z37 z40 z43 z46 1 z54 (by omega) (by omega) (by omega) (by omega) (by omega) (by omega) (by omega) (by omega) (by decide) (by decide) (by omega) (by omega) (by have cc0 := (show Int32.toInt 1 = 1 from rfl); omega) (by have cc0 := (show Int32.toInt 1 = 1 from rfl); omega) (by have cc0 := (show Int32.toInt 1 = 1 from rfl); omega) (by have cc0 := (show Int32.toInt 1 = 1 from rfl); omega) (by have cc0 := (show Int32.toInt 1 = 1 from rfl); omega) (sB_s w10_0 (by omega) (Or.inl ⟨(by rw [hg34]; omega), (by show z37.toInt = v10_4.toInt + 1; omega)⟩)) (sB_s w10_1 (by omega) (Or.inl ⟨(by rw [hg34]; omega), (by show z40.toInt = v10_5.toInt + ((rmM h).br v10_9.toInt.toNat).toInt; rw [er39]; omega)⟩)) (sB_s w10_2 (by omega) (Or.inl ⟨(by rw [hg34]; omega), (by show z43.toInt = v10_6.toInt + ((rmM h).be v10_9.toInt.toNat).toInt; rw [er42]; omega)⟩)) (sB_s w10_3 (by omega) (Or.inl ⟨(by rw [hg34]; omega), (by show z46.toInt = v10_7.toInt + ((rmM h).wo v10_9.toInt.toNat).toInt; rw [er45]; omega)⟩)) (pw_y w10_4 (by omega) (by omega) (by rw [ew51]; omega)) (by have cc0 := (show Int32.toInt 1 = 1 from rfl); omega)
          refine te_lv [(0, .ref 164), (1, .int x1), (2, .int v5_2), (3, .int v5_3), (4, .int 0), (5, .int 0), (6, .int 0), (7, .int 0), (8, .int 1), (9, .int 0)] rfl rfl ⟨rfl, rfl, rfl, rfl, rfl, rfl, rfl, rfl, rfl, rfl, trivial⟩ ?_
          exact lp10 13 0 0 0 0 1 0 (by decide) (by decide) (by decide) (by decide) (by decide) (by decide) (by decide) (by decide) (by decide) (by decide) (by decide) (by decide) (by have cc0 := (show Int32.toInt 0 = 0 from rfl); have cc1 := (show Int32.toInt 1 = 1 from rfl); omega) (by have cc0 := (show Int32.toInt 0 = 0 from rfl); have cc1 := (show Int32.toInt 1 = 1 from rfl); omega) (by have cc0 := (show Int32.toInt 0 = 0 from rfl); have cc1 := (show Int32.toInt 1 = 1 from rfl); omega) (by have cc0 := (show Int32.toInt 0 = 0 from rfl); have cc1 := (show Int32.toInt 1 = 1 from rfl); omega) (by have cc0 := (show Int32.toInt 0 = 0 from rfl); have cc1 := (show Int32.toInt 1 = 1 from rfl); omega) rfl rfl rfl rfl (Or.inl ⟨rfl, Int.le_refl _⟩) (by have cc0 := (show Int32.toInt 0 = 0 from rfl); have cc1 := (show Int32.toInt 1 = 1 from rfl); omega)
    refine te_lv [(0, .ref 164), (1, .int x1), (2, .int (-1)), (3, .int 0)] rfl rfl ⟨rfl, rfl, rfl, rfl, trivial⟩ ?_
    exact lp5 4097 (-1) 0 h4 I4 f4 (by decide) (by decide) (by decide) (by decide) (by have cc0 := (show Int32.toInt (-1) = (-1) from rfl); have cc1 := (show Int32.toInt 0 = 0 from rfl); omega) (by rw [rv_of u4.1]; exact fd_0 rfl) (by have cc0 := (show Int32.toInt (-1) = (-1) from rfl); have cc1 := (show Int32.toInt 0 = 0 from rfl); omega)
  · subst w1
    have cc1_1 := (show Int32.toInt 0 = 0 from rfl)
    have cc1_2 := (show Int32.toInt 12 = 12 from rfl)
    refine tz_ne (p2 := 10) rfl rfl (show Int32.toInt 0 = 0 from rfl) (fun c55 => absurd c55 (by omega)) (fun c55 => ?_)
    refine te_bipush (p2 := 12) (x := (-2)) rfl rfl (by decide) ?_
    exact te_iret rfl rfl ⟨hI, f0, _, rfl, (fun q => absurd q (by omega)), (fun _ => ⟨rfl, rfl⟩)⟩
theorem c_X12_mends {x1 : Int32} {h : im_H} (hI : tI h) : CaP 3 170 [.ref 164, .int x1] h (fun v h2 => tI h2 ∧ fr F_X12_mends h h2 ∧ ∃ y : Int32, v = some (.int y) ∧ Q2_mends x1 y h h2) := by
  by_cases hp : rmC (rmM h)
  · exact cap_imp (d_X12_mends hI hp) (fun v h2 ⟨a, f, y, e, q⟩ => ⟨a, f, y, e, fun _ => q⟩)
  · exact cap_imp (t_X12_mends hI) (fun v h2 ⟨a, f, y, e, _⟩ => ⟨a, f, y, e, fun q => absurd q hp⟩)
theorem room_J {x1 x2 x3 x4 : Int32} {R : Rm} (h : ∀ k, 0 ≤ (R.wo k).toInt ∧ (R.wo k).toInt ≤ 99) : ∀ k, 0 ≤ ((room_f x1 x2 x3 x4 R).2.wo k).toInt ∧ ((room_f x1 x2 x3 x4 R).2.wo k).toInt ≤ 99 := by
  unfold room_f
  (repeat' split)
  · exact h
  · rename_i h1 h2 h3
    exact udt_B (P := fun x => 0 ≤ x.toInt ∧ x.toInt ≤ 99) h (by omega)
  · exact h
  · exact h
theorem mn_rd {h : im_H} (hI : tI h) (e : rv h 72 5 = rv h 148 43) : rd h 72 5 = rd h 148 43 := by
  obtain ⟨_, e1, y, w, _⟩ := hI.2.1 72 5 (.inl ((-2147483648), 2147483647, 9999999999)) rfl
  obtain ⟨_, e2, y2, w2, _⟩ := hI.2.1 148 43 (.inl ((-2147483648), 2147483647, 9999999999)) rfl
  subst w w2
  rw [rv_of e1, rv_of e2] at e
  rw [e1, e2, e]
theorem men_eq {x1 y1 y2 s1 s2 : Int32} {R : Rm} {w : Nat → Int32} {A : Dy} (hR : rmC R) (h0 : 0 ≤ x1.toInt) (n0 : 0 ≤ R.n.toInt) (n12 : R.n.toInt ≤ 12) (k0 : 0 ≤ (A.kp 0).toInt) (k1 : 0 ≤ (A.kp 1).toInt) (a : (y1, s1) = menC x1 R w A) (b : (y2.toInt, s2.toInt) = fdE (iA R.br) (iA R.be) (iW w) (iA R.wo) R.n.toInt.toNat x1.toInt (A.kp 0).toInt (A.kp 1).toInt 0 0 (-1, 0) (2 ^ R.n.toInt.toNat)) : y1 = y2 ∧ s1 = s2 := by
  have hp : 2 ^ R.n.toInt.toNat ≤ 2 ^ 12 := Nat.pow_le_pow_right (by decide) (by omega)
  have hp0 : 0 < 2 ^ R.n.toInt.toNat := Nat.pow_pos (by decide)
  have c := chF_I (w := w) hR R.n.toInt.toNat x1 (A.kp 0) (A.kp 1) 0 0 (0, 0) 0 (by omega) k0 k1 rfl (by rw [show Int32.toInt 0 = 0 from rfl]; omega) (by decide) (by rw [show Int32.toInt 0 = 0 from rfl]; omega)
  rw [ch_fd (br := iA R.br) (bm := iA R.be) (wa := iW w) (fun i => (hR i).1.1) (fun i => (hR i).2.1.1) (fun i => iW_nn i) _ _ _ _ _ _ _ h0 k0 k1] at c
  obtain ⟨k, hk⟩ : ∃ k, 2 ^ R.n.toInt.toNat = k + 1 := ⟨2 ^ R.n.toInt.toNat - 1, by omega⟩
  rw [hk, fd_m1 h0 k0 k1] at b
  rw [hk] at c
  have d : ((menC x1 R w A).1.toInt, (menC x1 R w A).2.toInt) = (y2.toInt, s2.toInt) := c.trans b.symm
  rw [← a] at d
  obtain ⟨d1, d2⟩ := Prod.mk.inj d
  exact ⟨i32_ext d1, i32_ext d2⟩
abbrev Q1_mendTold (y : Int32) (h h2 : im_H) : Prop := y = rv h 72 5
set_option maxRecDepth 20000 in
set_option maxHeartbeats 4000000 in
theorem c_X11_mendTold  {h : im_H} (hI : tI h)  : CaP 8 89 [.ref 16] h (fun v h2 => tI h2 ∧ fr F_X11_mendTold h h2 ∧ ∃ y : Int32, v = some (.int y) ∧ Q1_mendTold y h h2) := by
  refine cap_of (d := 7) (M := mX11_mendTold) rfl (Nat.le_of_ble_eq_true rfl) ?_
  show EvP im_K0 7 mX11_mendTold (0, [(0, .ref 16)], [], h) _
  have f0 : fr F_X11_mendTold h h := fr_rf
  refine te_aload_n (p2 := 1) rfl rfl rfl ?_
  refine tg_r (p2 := 4) (i := 0) (r := 88) rfl rfl hI rfl rfl rfl ?_
  refine tg_i (p2 := 7) (i := 72) rfl rfl hI rfl rfl rfl (fun y1 a1 b1 e1 => ?_)
  exact te_iret rfl rfl ⟨hI, f0, _, rfl, (rv_of e1).symm⟩
abbrev Q2_mendTold (y : Int32) (h h2 : im_H) : Prop := y = rv h 148 43
set_option maxRecDepth 20000 in
set_option maxHeartbeats 4000000 in
theorem c_X12_mendTold  {h : im_H} (hI : tI h)  : CaP 8 171 [.ref 164] h (fun v h2 => tI h2 ∧ fr F_X12_mendTold h h2 ∧ ∃ y : Int32, v = some (.int y) ∧ Q2_mendTold y h h2) := by
  refine cap_of (d := 7) (M := mX12_mendTold) rfl (Nat.le_of_ble_eq_true rfl) ?_
  show EvP im_K0 7 mX12_mendTold (0, [(0, .ref 164)], [], h) _
  have f0 : fr F_X12_mendTold h h := fr_rf
  refine te_aload_n (p2 := 1) rfl rfl rfl ?_
  refine tg_i (p2 := 4) (i := 148) rfl rfl hI rfl rfl rfl (fun y1 a1 b1 e1 => ?_)
  exact te_iret rfl rfl ⟨hI, f0, _, rfl, (rv_of e1).symm⟩
