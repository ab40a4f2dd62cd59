/-! the plain rules, told by what the end meets; branches; calls -/
section TQ
variable {K : im_K} {d : Nat} {M : im_M} {pc p2 : Nat} {lv lv2 : im_L} {st : List Value} {h : im_H} {Q : Option Value → im_H → Prop}
theorem te_aload_n {k0 : Fin 4} {x : Nat} (ha : im_at M pc = some (.aload_n k0, [])) (hp : pc + 1 = p2) (hl : im_lk lv k0 = some (.ref x)) (k : EvP K d M (p2, lv, .ref x :: st, h) Q) : EvP K d M (pc, lv, st, h) Q := evp (fun r => sp_aload_n ha hp hl) k
theorem te_aload {k0 : Nat} {x : Nat} (ha : im_at M pc = some (.aload k0, [])) (hp : pc + 2 = p2) (hl : im_lk lv k0 = some (.ref x)) (k : EvP K d M (p2, lv, .ref x :: st, h) Q) : EvP K d M (pc, lv, st, h) Q := evp (fun r => sp_aload ha hp hl) k
theorem te_iload_n {k0 : Fin 4} {x : Int32} (ha : im_at M pc = some (.iload_n k0, [])) (hp : pc + 1 = p2) (hl : im_lk lv k0 = some (.int x)) (k : EvP K d M (p2, lv, .int x :: st, h) Q) : EvP K d M (pc, lv, st, h) Q := evp (fun r => sp_iload_n ha hp hl) k
theorem te_iload {k0 : Nat} {x : Int32} (ha : im_at M pc = some (.iload k0, [])) (hp : pc + 2 = p2) (hl : im_lk lv k0 = some (.int x)) (k : EvP K d M (p2, lv, .int x :: st, h) Q) : EvP K d M (pc, lv, st, h) Q := evp (fun r => sp_iload ha hp hl) k
theorem te_lload_n {k0 : Fin 4} {x : Int64} (ha : im_at M pc = some (.lload_n k0, [])) (hp : pc + 1 = p2) (hl : im_lk lv k0 = some (.long x)) (k : EvP K d M (p2, lv, .long x :: st, h) Q) : EvP K d M (pc, lv, st, h) Q := evp (fun r => sp_lload_n ha hp hl) k
theorem te_iconst {n : Int} {x : Int32} (ha : im_at M pc = some (.iconst n, [])) (hp : pc + 1 = p2) (hv : Int32.ofInt n = x) (k : EvP K d M (p2, lv, .int x :: st, h) Q) : EvP K d M (pc, lv, st, h) Q := evp (fun r => sp_iconst ha hp hv) k
theorem te_bipush {n : Int} {x : Int32} (ha : im_at M pc = some (.bipush n, [])) (hp : pc + 2 = p2) (hv : (Int8.ofInt n).toInt32 = x) (k : EvP K d M (p2, lv, .int x :: st, h) Q) : EvP K d M (pc, lv, st, h) Q := evp (fun r => sp_bipush ha hp hv) k
theorem te_sipush {n : Int} {x : Int32} (ha : im_at M pc = some (.sipush n, [])) (hp : pc + 3 = p2) (hv : (Int16.ofInt n).toInt32 = x) (k : EvP K d M (p2, lv, .int x :: st, h) Q) : EvP K d M (pc, lv, st, h) Q := evp (fun r => sp_sipush ha hp hv) k
theorem te_null (ha : im_at M pc = some (.aconst_null, [])) (hp : pc + 1 = p2) (k : EvP K d M (p2, lv, .null :: st, h) Q) : EvP K d M (pc, lv, st, h) Q := evp (fun r => sp_null ha hp) k
theorem te_istore_n {k0 : Fin 4} {x : Int32} (ha : im_at M pc = some (.istore_n k0, [])) (hp : pc + 1 = p2) (hk : (k0 : Nat) < M.2.2.1) (hl : im_pt lv k0 (.int x) = lv2) (k : EvP K d M (p2, lv2, st, h) Q) : EvP K d M (pc, lv, .int x :: st, h) Q := evp (fun r => sp_istore_n ha hp hk hl) k
theorem te_istore {k0 : Nat} {x : Int32} (ha : im_at M pc = some (.istore k0, [])) (hp : pc + 2 = p2) (hk : (k0 : Nat) < M.2.2.1) (hl : im_pt lv k0 (.int x) = lv2) (k : EvP K d M (p2, lv2, st, h) Q) : EvP K d M (pc, lv, .int x :: st, h) Q := evp (fun r => sp_istore ha hp hk hl) k
theorem te_astore_n {k0 : Fin 4} {x : Nat} (ha : im_at M pc = some (.astore_n k0, [])) (hp : pc + 1 = p2) (hk : (k0 : Nat) < M.2.2.1) (hl : im_pt lv k0 (.ref x) = lv2) (k : EvP K d M (p2, lv2, st, h) Q) : EvP K d M (pc, lv, .ref x :: st, h) Q := evp (fun r => sp_astore_n ha hp hk hl) k
theorem te_astore {k0 : Nat} {x : Nat} (ha : im_at M pc = some (.astore k0, [])) (hp : pc + 2 = p2) (hk : (k0 : Nat) < M.2.2.1) (hl : im_pt lv k0 (.ref x) = lv2) (k : EvP K d M (p2, lv2, st, h) Q) : EvP K d M (pc, lv, .ref x :: st, h) Q := evp (fun r => sp_astore ha hp hk hl) k
theorem te_iinc {k0 : Nat} {n : Int} {x y : Int32} (ha : im_at M pc = some (.iinc k0 n, [])) (hp : pc + 3 = p2) (hk : k0 < M.2.2.1) (hx : im_lk lv k0 = some (.int x)) (hy : x + Int32.ofInt n = y) (hl : im_pt lv k0 (.int y) = lv2) (k : EvP K d M (p2, lv2, st, h) Q) : EvP K d M (pc, lv, st, h) Q := evp (fun r => sp_iinc ha hp hk hx hy hl) k
theorem te_dup {v : Value} (ha : im_at M pc = some (.dup, [])) (hp : pc + 1 = p2) (hv : v.category = 1) (k : EvP K d M (p2, lv, v :: v :: st, h) Q) : EvP K d M (pc, lv, v :: st, h) Q := evp (fun r => sp_dup ha hp hv) k
theorem te_dup2 {v w : Value} (ha : im_at M pc = some (.dup2, [])) (hp : pc + 1 = p2) (hv : v.category = 1 ∧ w.category = 1) (k : EvP K d M (p2, lv, v :: w :: v :: w :: st, h) Q) : EvP K d M (pc, lv, v :: w :: st, h) Q := evp (fun r => sp_dup2 ha hp hv) k
theorem te_pop {v : Value} (ha : im_at M pc = some (.pop, [])) (hp : pc + 1 = p2) (hv : v.category = 1) (k : EvP K d M (p2, lv, st, h) Q) : EvP K d M (pc, lv, v :: st, h) Q := evp (fun r => sp_pop ha hp hv) k
theorem te_iadd {x y z : Int32} (ha : im_at M pc = some (.iadd, [])) (hp : pc + 1 = p2) (hz : x + y = z) (k : EvP K d M (p2, lv, .int z :: st, h) Q) : EvP K d M (pc, lv, .int y :: .int x :: st, h) Q := evp (fun r => sp_iadd ha hp hz) k
theorem te_isub {x y z : Int32} (ha : im_at M pc = some (.isub, [])) (hp : pc + 1 = p2) (hz : x - y = z) (k : EvP K d M (p2, lv, .int z :: st, h) Q) : EvP K d M (pc, lv, .int y :: .int x :: st, h) Q := evp (fun r => sp_isub ha hp hz) k
theorem te_imul {x y z : Int32} (ha : im_at M pc = some (.imul, [])) (hp : pc + 1 = p2) (hz : x * y = z) (k : EvP K d M (p2, lv, .int z :: st, h) Q) : EvP K d M (pc, lv, .int y :: .int x :: st, h) Q := evp (fun r => sp_imul ha hp hz) k
theorem te_iand {x y z : Int32} (ha : im_at M pc = some (.iand, [])) (hp : pc + 1 = p2) (hz : x &&& y = z) (k : EvP K d M (p2, lv, .int z :: st, h) Q) : EvP K d M (pc, lv, .int y :: .int x :: st, h) Q := evp (fun r => sp_iand ha hp hz) k
theorem te_ior {x y z : Int32} (ha : im_at M pc = some (.ior, [])) (hp : pc + 1 = p2) (hz : x ||| y = z) (k : EvP K d M (p2, lv, .int z :: st, h) Q) : EvP K d M (pc, lv, .int y :: .int x :: st, h) Q := evp (fun r => sp_ior ha hp hz) k
theorem te_ishl {x y z : Int32} (ha : im_at M pc = some (.ishl, [])) (hp : pc + 1 = p2) (hz : x <<< (y &&& 31) = z) (k : EvP K d M (p2, lv, .int z :: st, h) Q) : EvP K d M (pc, lv, .int y :: .int x :: st, h) Q := evp (fun r => sp_ishl ha hp hz) k
theorem te_ishr {x y z : Int32} (ha : im_at M pc = some (.ishr, [])) (hp : pc + 1 = p2) (hz : x >>> (y &&& 31) = z) (k : EvP K d M (p2, lv, .int z :: st, h) Q) : EvP K d M (pc, lv, .int y :: .int x :: st, h) Q := evp (fun r => sp_ishr ha hp hz) k
theorem te_idiv {x y z : Int32} (ha : im_at M pc = some (.idiv, [])) (hp : pc + 1 = p2) (hy : ¬ y = 0) (hz : x / y = z) (k : EvP K d M (p2, lv, .int z :: st, h) Q) : EvP K d M (pc, lv, .int y :: .int x :: st, h) Q := evp (fun r => sp_idiv ha hp hy hz) k
theorem te_irem {x y z : Int32} (ha : im_at M pc = some (.irem, [])) (hp : pc + 1 = p2) (hy : ¬ y = 0) (hz : x - x / y * y = z) (k : EvP K d M (p2, lv, .int z :: st, h) Q) : EvP K d M (pc, lv, .int y :: .int x :: st, h) Q := evp (fun r => sp_irem ha hp hy hz) k
theorem te_goto {off : Int} {a : Nat} (ha : im_at M pc = some (.goto off, [a])) (k : EvP K d M (a, lv, st, h) Q) : EvP K d M (pc, lv, st, h) Q := evp (fun r => sp_goto ha) k
theorem te_tsIn {dflt lo hi off : Int} {offs : Array Int} {a b w : Nat} {x : Int32} (k : Int) (ha : im_at M pc = some (.tableswitch dflt lo hi offs, [a, b, w])) (hx : x.toInt = k) (h1 : ¬ k < lo) (h2 : ¬ hi < k) (ho : offs[(k - lo).toNat]? = some off) (hp : (pc : Int) + off = (p2 : Int)) (kk : EvP K d M (p2, lv, st, h) Q) : EvP K d M (pc, lv, .int x :: st, h) Q := evp (fun r => sp_tsIn k ha hx h1 h2 ho hp) kk
theorem te_tsOut {dflt lo hi : Int} {offs : Array Int} {b w : Nat} {x : Int32} (ha : im_at M pc = some (.tableswitch dflt lo hi offs, [p2, b, w])) (hx : x.toInt < lo ∨ hi < x.toInt) (hp : (pc : Int) + dflt = (p2 : Int)) (kk : EvP K d M (p2, lv, st, h) Q) : EvP K d M (pc, lv, .int x :: st, h) Q := evp (fun r => sp_tsOut ha hx hp) kk
theorem te_ls {dflt : Int} {ps : Array (Int × Int)} {w : Nat} {x : Int32} {off : Int} (ha : im_at M pc = some (.lookupswitch dflt ps, [0, 0, w])) (hs : (ps.toList.zip (ps.toList.drop 1)).all (fun (a, next) => a.1 < next.1) = true) (ho : Op.lookupswitch.offset ps.toList dflt x.toInt = off) (hp : (pc : Int) + off = (p2 : Int)) (kk : EvP K d M (p2, lv, st, h) Q) : EvP K d M (pc, lv, .int x :: st, h) Q := evp (fun r => sp_ls ha hs ho hp) kk
theorem te_gst {idx a b x : Nat} (ha : im_at M pc = some (.getstatic idx, [a, b, 0, 0, x])) (hp : pc + 3 = p2) (h5 : a < 5) (k : EvP K d M (p2, lv, .ref a :: st, h) Q) : EvP K d M (pc, lv, st, h) Q := evp (fun r => sp_gst ha hp h5) k
theorem te_ldc2 {idx a y : Nat} {x : Int64} (ha : im_at M pc = some (.ldc2_w idx, [a, 0, 0, 0, y])) (hp : pc + 3 = p2) (hx : K.2.2.1[a]? = some x) (k : EvP K d M (p2, lv, .long x :: st, h) Q) : EvP K d M (pc, lv, st, h) Q := evp (fun r => sp_ldc2 ha hp hx) k
theorem te_i2l {x : Int32} {z : Int64} (ha : im_at M pc = some (.i2l, [])) (hp : pc + 1 = p2) (hz : x.toInt64 = z) (k : EvP K d M (p2, lv, .long z :: st, h) Q) : EvP K d M (pc, lv, .int x :: st, h) Q := evp (fun r => sp_i2l ha hp hz) k
theorem te_l2i {x : Int64} {z : Int32} (ha : im_at M pc = some (.l2i, [])) (hp : pc + 1 = p2) (hz : x.toInt32 = z) (k : EvP K d M (p2, lv, .int z :: st, h) Q) : EvP K d M (pc, lv, .long x :: st, h) Q := evp (fun r => sp_l2i ha hp hz) k
theorem te_lshr {x z : Int64} {y : Int32} (ha : im_at M pc = some (.lshr, [])) (hp : pc + 1 = p2) (hz : x >>> (y.toInt64 &&& 63) = z) (k : EvP K d M (p2, lv, .long z :: st, h) Q) : EvP K d M (pc, lv, .int y :: .long x :: st, h) Q := evp (fun r => sp_lshr ha hp hz) k
theorem te_land {x y z : Int64} (ha : im_at M pc = some (.land, [])) (hp : pc + 1 = p2) (hz : x &&& y = z) (k : EvP K d M (p2, lv, .long z :: st, h) Q) : EvP K d M (pc, lv, .long y :: .long x :: st, h) Q := evp (fun r => sp_land ha hp hz) k
theorem te_max {idx w z0 a : Nat} {x y z : Int32} (ha : im_at M pc = some (.invokestatic idx, [0, 5, w, z0, a])) (hp : pc + 3 = p2) (hc : im_cat st = true) (hz : (if x < y then y else x) = z) (k : EvP K d M (p2, lv, .int z :: st, h) Q) : EvP K d M (pc, lv, .int y :: .int x :: st, h) Q := evp (fun r => sp_max ha hp hc hz) k
theorem te_min {idx w z0 a : Nat} {x y z : Int32} (ha : im_at M pc = some (.invokestatic idx, [0, 6, w, z0, a])) (hp : pc + 3 = p2) (hc : im_cat st = true) (hz : (if y < x then y else x) = z) (k : EvP K d M (p2, lv, .int z :: st, h) Q) : EvP K d M (pc, lv, .int y :: .int x :: st, h) Q := evp (fun r => sp_min ha hp hc hz) k
theorem te_alen {R : Nat} {l : List Int32} {x : Int32} (ha : im_at M pc = some (.arraylength, [])) (hp : pc + 1 = p2) (hR : 16 ≤ R) (hl : im_ia h R 0 = some l) (hx : Int32.ofNat l.length = x) (k : EvP K d M (p2, lv, .int x :: st, h) Q) : EvP K d M (pc, lv, .ref R :: st, h) Q := evp (fun r => sp_alen ha hp hR hl hx) k
theorem te_lor {x y z : Int64} (ha : im_at M pc = some (.lor, [])) (hp : pc + 1 = p2) (hz : x ||| y = z) (k : EvP K d M (p2, lv, .long z :: st, h) Q) : EvP K d M (pc, lv, .long y :: .long x :: st, h) Q := evp (fun r => sp_lor ha hp hz) k
theorem te_lshl {x z : Int64} {y : Int32} (ha : im_at M pc = some (.lshl, [])) (hp : pc + 1 = p2) (hz : x <<< (y.toInt64 &&& 63) = z) (k : EvP K d M (p2, lv, .long z :: st, h) Q) : EvP K d M (pc, lv, .int y :: .long x :: st, h) Q := evp (fun r => sp_lshl ha hp hz) k
theorem te_lcmp {x y : Int64} {z : Int32} (ha : im_at M pc = some (.lcmp, [])) (hp : pc + 1 = p2) (hz : lg_cmp x y = z) (k : EvP K d M (p2, lv, .int z :: st, h) Q) : EvP K d M (pc, lv, .long y :: .long x :: st, h) Q := evp (fun r => sp_lcmp ha hp hz) k
theorem te_new {idx a x R : Nat} {tys : List FieldType} (ha : im_at M pc = some (.new idx, [a, 0, 0, 0, x])) (hp : pc + 3 = p2) (ht : K.2.1[a]? = some tys) (hR : 16 + h.length = R) (k : EvP K d M (p2, lv, .ref R :: st, h ++ [.inr (a, tys.map defaultValue)]) Q) : EvP K d M (pc, lv, st, h) Q := evp (fun r => sp_new ha hp ht hR) k
theorem te_slen {R : Nat} {l : List Int32} {x : Int32} (ha : im_at M pc = some (.arraylength, [])) (hp : pc + 1 = p2) (hR : ¬ 16 ≤ R) (hl : K.1[R]? = some l) (hx : Int32.ofNat l.length = x) (k : EvP K d M (p2, lv, .int x :: st, h) Q) : EvP K d M (pc, lv, .ref R :: st, h) Q := evp (fun r => sp_slen ha hp hR hl hx) k
theorem tb_eq {off : Int} {tg : Nat} {x y : Int32} {a b : Int} (ha : im_at M pc = some (.if_icmp .eq off, [tg])) (hp : pc + 3 = p2) (hx : x.toInt = a) (hy : y.toInt = b) (k1 : a = b → EvP K d M (tg, lv, st, h) Q) (k2 : ¬ (a = b) → EvP K d M (p2, lv, st, h) Q) : EvP K d M (pc, lv, .int y :: .int x :: st, h) Q := by
  subst hp
  by_cases hc : a = b
  · exact evp (fun r => st_icmp (b := true) ha (cn_eq_T hx hy hc)) (k1 hc)
  · exact evp (fun r => st_icmp (b := false) ha (cn_eq_F hx hy hc)) (k2 hc)
theorem tz_eq {off : Int} {tg : Nat} {x : Int32} {a : Int} (ha : im_at M pc = some (.ifCond .eq off, [tg])) (hp : pc + 3 = p2) (hx : x.toInt = a) (k1 : a = 0 → EvP K d M (tg, lv, st, h) Q) (k2 : ¬ (a = 0) → EvP K d M (p2, lv, st, h) Q) : EvP K d M (pc, lv, .int x :: st, h) Q := by
  subst hp
  by_cases hc : a = 0
  · exact evp (fun r => st_ifc (b := true) ha (cn_eq_T hx rfl hc)) (k1 hc)
  · exact evp (fun r => st_ifc (b := false) ha (cn_eq_F hx rfl hc)) (k2 hc)
theorem tb_ne {off : Int} {tg : Nat} {x y : Int32} {a b : Int} (ha : im_at M pc = some (.if_icmp .ne off, [tg])) (hp : pc + 3 = p2) (hx : x.toInt = a) (hy : y.toInt = b) (k1 : ¬ a = b → EvP K d M (tg, lv, st, h) Q) (k2 : ¬ (¬ a = b) → EvP K d M (p2, lv, st, h) Q) : EvP K d M (pc, lv, .int y :: .int x :: st, h) Q := by
  subst hp
  by_cases hc : ¬ a = b
  · exact evp (fun r => st_icmp (b := true) ha (cn_ne_T hx hy hc)) (k1 hc)
  · exact evp (fun r => st_icmp (b := false) ha (cn_ne_F hx hy hc)) (k2 hc)
theorem tz_ne {off : Int} {tg : Nat} {x : Int32} {a : Int} (ha : im_at M pc = some (.ifCond .ne off, [tg])) (hp : pc + 3 = p2) (hx : x.toInt = a) (k1 : ¬ a = 0 → EvP K d M (tg, lv, st, h) Q) (k2 : ¬ (¬ a = 0) → EvP K d M (p2, lv, st, h) Q) : EvP K d M (pc, lv, .int x :: st, h) Q := by
  subst hp
  by_cases hc : ¬ a = 0
  · exact evp (fun r => st_ifc (b := true) ha (cn_ne_T hx rfl hc)) (k1 hc)
  · exact evp (fun r => st_ifc (b := false) ha (cn_ne_F hx rfl hc)) (k2 hc)
theorem tb_lt {off : Int} {tg : Nat} {x y : Int32} {a b : Int} (ha : im_at M pc = some (.if_icmp .lt off, [tg])) (hp : pc + 3 = p2) (hx : x.toInt = a) (hy : y.toInt = b) (k1 : a < b → EvP K d M (tg, lv, st, h) Q) (k2 : ¬ (a < b) → EvP K d M (p2, lv, st, h) Q) : EvP K d M (pc, lv, .int y :: .int x :: st, h) Q := by
  subst hp
  by_cases hc : a < b
  · exact evp (fun r => st_icmp (b := true) ha (cn_lt_T hx hy hc)) (k1 hc)
  · exact evp (fun r => st_icmp (b := false) ha (cn_lt_F hx hy hc)) (k2 hc)
theorem tz_lt {off : Int} {tg : Nat} {x : Int32} {a : Int} (ha : im_at M pc = some (.ifCond .lt off, [tg])) (hp : pc + 3 = p2) (hx : x.toInt = a) (k1 : a < 0 → EvP K d M (tg, lv, st, h) Q) (k2 : ¬ (a < 0) → EvP K d M (p2, lv, st, h) Q) : EvP K d M (pc, lv, .int x :: st, h) Q := by
  subst hp
  by_cases hc : a < 0
  · exact evp (fun r => st_ifc (b := true) ha (cn_lt_T hx rfl hc)) (k1 hc)
  · exact evp (fun r => st_ifc (b := false) ha (cn_lt_F hx rfl hc)) (k2 hc)
theorem tb_ge {off : Int} {tg : Nat} {x y : Int32} {a b : Int} (ha : im_at M pc = some (.if_icmp .ge off, [tg])) (hp : pc + 3 = p2) (hx : x.toInt = a) (hy : y.toInt = b) (k1 : b ≤ a → EvP K d M (tg, lv, st, h) Q) (k2 : ¬ (b ≤ a) → EvP K d M (p2, lv, st, h) Q) : EvP K d M (pc, lv, .int y :: .int x :: st, h) Q := by
  subst hp
  by_cases hc : b ≤ a
  · exact evp (fun r => st_icmp (b := true) ha (cn_ge_T hx hy hc)) (k1 hc)
  · exact evp (fun r => st_icmp (b := false) ha (cn_ge_F hx hy hc)) (k2 hc)
theorem tz_ge {off : Int} {tg : Nat} {x : Int32} {a : Int} (ha : im_at M pc = some (.ifCond .ge off, [tg])) (hp : pc + 3 = p2) (hx : x.toInt = a) (k1 : 0 ≤ a → EvP K d M (tg, lv, st, h) Q) (k2 : ¬ (0 ≤ a) → EvP K d M (p2, lv, st, h) Q) : EvP K d M (pc, lv, .int x :: st, h) Q := by
  subst hp
  by_cases hc : 0 ≤ a
  · exact evp (fun r => st_ifc (b := true) ha (cn_ge_T hx rfl hc)) (k1 hc)
  · exact evp (fun r => st_ifc (b := false) ha (cn_ge_F hx rfl hc)) (k2 hc)
theorem tb_gt {off : Int} {tg : Nat} {x y : Int32} {a b : Int} (ha : im_at M pc = some (.if_icmp .gt off, [tg])) (hp : pc + 3 = p2) (hx : x.toInt = a) (hy : y.toInt = b) (k1 : b < a → EvP K d M (tg, lv, st, h) Q) (k2 : ¬ (b < a) → EvP K d M (p2, lv, st, h) Q) : EvP K d M (pc, lv, .int y :: .int x :: st, h) Q := by
  subst hp
  by_cases hc : b < a
  · exact evp (fun r => st_icmp (b := true) ha (cn_gt_T hx hy hc)) (k1 hc)
  · exact evp (fun r => st_icmp (b := false) ha (cn_gt_F hx hy hc)) (k2 hc)
theorem tz_gt {off : Int} {tg : Nat} {x : Int32} {a : Int} (ha : im_at M pc = some (.ifCond .gt off, [tg])) (hp : pc + 3 = p2) (hx : x.toInt = a) (k1 : 0 < a → EvP K d M (tg, lv, st, h) Q) (k2 : ¬ (0 < a) → EvP K d M (p2, lv, st, h) Q) : EvP K d M (pc, lv, .int x :: st, h) Q := by
  subst hp
  by_cases hc : 0 < a
  · exact evp (fun r => st_ifc (b := true) ha (cn_gt_T hx rfl hc)) (k1 hc)
  · exact evp (fun r => st_ifc (b := false) ha (cn_gt_F hx rfl hc)) (k2 hc)
theorem tb_le {off : Int} {tg : Nat} {x y : Int32} {a b : Int} (ha : im_at M pc = some (.if_icmp .le off, [tg])) (hp : pc + 3 = p2) (hx : x.toInt = a) (hy : y.toInt = b) (k1 : a ≤ b → EvP K d M (tg, lv, st, h) Q) (k2 : ¬ (a ≤ b) → EvP K d M (p2, lv, st, h) Q) : EvP K d M (pc, lv, .int y :: .int x :: st, h) Q := by
  subst hp
  by_cases hc : a ≤ b
  · exact evp (fun r => st_icmp (b := true) ha (cn_le_T hx hy hc)) (k1 hc)
  · exact evp (fun r => st_icmp (b := false) ha (cn_le_F hx hy hc)) (k2 hc)
theorem tz_le {off : Int} {tg : Nat} {x : Int32} {a : Int} (ha : im_at M pc = some (.ifCond .le off, [tg])) (hp : pc + 3 = p2) (hx : x.toInt = a) (k1 : a ≤ 0 → EvP K d M (tg, lv, st, h) Q) (k2 : ¬ (a ≤ 0) → EvP K d M (p2, lv, st, h) Q) : EvP K d M (pc, lv, .int x :: st, h) Q := by
  subst hp
  by_cases hc : a ≤ 0
  · exact evp (fun r => st_ifc (b := true) ha (cn_le_T hx rfl hc)) (k1 hc)
  · exact evp (fun r => st_ifc (b := false) ha (cn_le_F hx rfl hc)) (k2 hc)
theorem te_iret {x : Int32} (ha : im_at M pc = some (.ireturn, [])) (hr : M.2.2.2.1 = some .int) (hq : Q (some (.int x)) h) : EvP K d M (pc, lv, [.int x], h) Q := ⟨_, _, sp_iret ha hr, hq⟩
theorem te_zret {x : Int32} (ha : im_at M pc = some (.ireturn, [])) (hr : M.2.2.2.1 = some .boolean) (hx : x = 0 ∨ x = 1) (hq : Q (some (.int x)) h) : EvP K d M (pc, lv, [.int x], h) Q := ⟨_, _, sp_zret ha hr hx, hq⟩
theorem te_vret (ha : im_at M pc = some (.return_, [])) (hr : M.2.2.2.1 = none) (hq : Q none h) : EvP K d M (pc, lv, [], h) Q := ⟨_, _, sp_vret ha hr, hq⟩
theorem te_lret {x : Int64} (ha : im_at M pc = some (.lreturn, [])) (hr : M.2.2.2.1 = some .long) (hq : Q (some (.long x)) h) : EvP K d M (pc, lv, [.long x], h) Q := ⟨_, _, sp_lret ha hr, hq⟩
theorem tn_null {off : Int} {tg : Nat} (ha : im_at M pc = some (.ifnonnull off, [tg])) (hp : pc + 3 = p2) (k : EvP K d M (p2, lv, st, h) Q) : EvP K d M (pc, lv, .null :: st, h) Q := by
  subst hp
  exact evp (fun r => ev_step (st_at ha rfl)) k
theorem tn_ref {off : Int} {tg R : Nat} (ha : im_at M pc = some (.ifnonnull off, [tg])) (k : EvP K d M (tg, lv, st, h) Q) : EvP K d M (pc, lv, .ref R :: st, h) Q := evp (fun r => ev_step (st_at ha rfl)) k
theorem te_i2b {x z : Int32} (ha : im_at M pc = some (.i2b, [])) (hp : pc + 1 = p2) (hz : x.toInt8.toInt32 = z) (k : EvP K d M (p2, lv, .int z :: st, h) Q) : EvP K d M (pc, lv, .int x :: st, h) Q := by
  subst hp; subst hz
  exact evp (fun r => ev_step (st_at ha rfl)) k
theorem te_i2s {x z : Int32} (ha : im_at M pc = some (.i2s, [])) (hp : pc + 1 = p2) (hz : x.toInt16.toInt32 = z) (k : EvP K d M (p2, lv, .int z :: st, h) Q) : EvP K d M (pc, lv, .int x :: st, h) Q := by
  subst hp; subst hz
  exact evp (fun r => ev_step (st_at ha rfl)) k
theorem te_ldc {idx a y : Nat} (ha : im_at M pc = some (.ldc idx, [a, 0, 0, 0, y])) (hp : pc + 2 = p2) (hk : a < 4) (k : EvP K d M (p2, lv, .ref (6 + a) :: st, h) Q) : EvP K d M (pc, lv, st, h) Q := by
  subst hp
  refine evp (fun r => ev_step (st_at ha ?_)) k
  show (if a < 4 then im_nx (pc + 2) lv (.ref (6 + a) :: st) h else none) = _
  rw [if_pos hk]
  rfl
theorem te_max2 {idx x1 : Nat} {x y : Int32} (ha : im_at M pc = some (.invokestatic idx, [0, 5, 2, 0, x1])) (hp : pc + 3 = p2) (hc : im_cat st = true) (k : EvP K d M (p2, lv, .int (if x < y then y else x) :: st, h) Q) : EvP K d M (pc, lv, .int y :: .int x :: st, h) Q := by
  subst hp
  refine evp (fun r => ev_step (st_at ha ?_)) k
  show (if im_cat st then im_nx (pc + 3) lv (.int (if x < y then y else x) :: st) h else none) = _
  rw [if_pos hc]
  rfl
theorem te_min2 {idx x1 : Nat} {x y : Int32} (ha : im_at M pc = some (.invokestatic idx, [0, 6, 2, 0, x1])) (hp : pc + 3 = p2) (hc : im_cat st = true) (k : EvP K d M (p2, lv, .int (if y < x then y else x) :: st, h) Q) : EvP K d M (pc, lv, .int y :: .int x :: st, h) Q := by
  subst hp
  refine evp (fun r => ev_step (st_at ha ?_)) k
  show (if im_cat st then im_nx (pc + 3) lv (.int (if y < x then y else x) :: st) h else none) = _
  rw [if_pos hc]
  rfl
theorem tc_S {idx j w z x d1 : Nat} {q : List Value × List Value} {Q1 : Option Value → im_H → Prop} (ha : im_at M pc = some (.invokestatic idx, [j, 0, w, z, x])) (hp : pc + 3 = p2) (ht : im_take w st = some q) (hc : im_cat q.2 = true) (hC : CaP d1 j q.1 h Q1) (hd : d1 ≤ d) (k : ∀ v h2, Q1 v h2 → EvP K d M (p2, lv, v.toList ++ q.2, h2) Q) : EvP K d M (pc, lv, st, h) Q := by
  subst hp
  obtain ⟨v, h2, e, hq⟩ := hC
  exact evp (fun r => st_callS ha ht hc (ca_more e hd)) (k v h2 hq)
theorem tc_V {idx j w z x d1 R i n : Nat} {q : List Value × List Value} {rest : List Value} {Q1 : Option Value → im_H → Prop} (ha : im_at M pc = some (.invokevirtual idx, [j, 0, w, z, x])) (hp : pc + 3 = p2) (ht : im_take w st = some q) (hq : q.2 = .ref R :: rest) (hI : tI h) (hR : R = 16 + i) (hs : tS[i]? = some (3, z, n)) (hc : im_cat rest = true) (hC : CaP d1 j (.ref R :: q.1) h Q1) (hd : d1 ≤ d) (k : ∀ v h2, Q1 v h2 → EvP K d M (p2, lv, v.toList ++ rest, h2) Q) : EvP K d M (pc, lv, st, h) Q := by
  subst hp
  obtain ⟨v, h2, e, hq2⟩ := hC
  obtain ⟨fs, ho, hl⟩ := sh_obj (h := h) (by rw [hI.1]; exact hs)
  subst hR
  exact evp (fun r => st_callV ha ht hq ho hc (ca_more e hd)) (k v h2 hq2)
end TQ
