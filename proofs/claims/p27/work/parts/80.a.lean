/-! INSTRUCTIONS read off their bytes: the tables are checked against the class files in one pass -/
theorem rd_bind {α β : Type} {r : Decoder α} {f : α → Decoder β} {c : ByteArray} {p q : Nat} {a : α} (h : r.runAt c p = .ok (a, q)) : (r >>= f).runAt c p = (f a).runAt c q := by
  have e : (r >>= f).runAt c p = (match r.runAt c p with | .ok (a, q) => (f a).runAt c q | .error e => .error e) := by
    unfold Reader.runAt
    simp only [ReaderT.run_bind, StateT.run_bind]
    cases (ReaderT.run r c).run p <;> rfl
  rw [e, h]
theorem rd_u1 {c : ByteArray} {p : Nat} {b : UInt8} {l : List UInt8} {k : Nat} (h : c.data.toList.drop p = b :: l) (hk : b.toNat = k) : (Reader.u1 : Decoder Nat).runAt c p = .ok (k, p + 1) := by
  have hl : p < c.data.toList.length := by
    rcases Nat.lt_or_ge p c.data.toList.length with h1 | h1
    · exact h1
    · rw [List.drop_eq_nil_of_le h1] at h; cases h
  have hs : p < c.size := hl
  have hg : c[p] = b := by
    have e := List.drop_eq_getElem_cons hl
    rw [h] at e
    exact (List.cons.inj e).1.symm
  have e : (Reader.u1 : Decoder Nat).runAt c p = Reader.runAt (if h : p < c.size then (do set (p + 1); pure c[p].toNat : Decoder Nat) else throw (HasTruncated.truncated p)) c p := rfl
  rw [e, dif_pos hs, hg, hk]
  rfl
theorem rd_nx {c : ByteArray} {p : Nat} {b : UInt8} {l : List UInt8} (h : c.data.toList.drop p = b :: l) : c.data.toList.drop (p + 1) = l := by
  rw [← List.drop_drop, h]; rfl
theorem dc_of {c : ByteArray} {pc q n : Nat} {i : Instr} (h : (Decoder.instr pc).runAt c pc = .ok (i, q)) (hq : q - pc = n) : decode c pc = .ok (i, n) := by
  unfold decode
  rw [h, ← hq]
  rfl
theorem rd_u2 {c : ByteArray} {p : Nat} {b d : UInt8} {l : List UInt8} {k : Nat} (h : c.data.toList.drop p = b :: d :: l) (hk : b.toNat * 256 + d.toNat = k) : (Reader.u2 : Decoder Nat).runAt c p = .ok (k, p + 2) := by
  refine (rd_bind (rd_u1 h rfl)).trans ((rd_bind (rd_u1 (rd_nx h) rfl)).trans ?_)
  rw [hk]; rfl
theorem rd_map {α β : Type} {r : Decoder α} {f : α → β} {c : ByteArray} {p q : Nat} {a : α} {b : β} (h : r.runAt c p = .ok (a, q)) (hb : f a = b) : (f <$> r : Decoder β).runAt c p = .ok (b, q) := by
  have e : (f <$> r : Decoder β).runAt c p = (match r.runAt c p with | .ok (a, q) => .ok (f a, q) | .error e => .error e) := by
    unfold Reader.runAt
    simp only [ReaderT.run_map, StateT.run_map]
    cases (ReaderT.run r c).run p <;> rfl
  rw [e, h, ← hb]
def im_u1 (k : Nat) : List UInt8 → Bool
  | b :: _ => Nat.beq b.toNat k
  | [] => false
def im_s1 (v : Int) : List UInt8 → Bool
  | b :: _ => decide (Reader.signed 8 b.toNat = v)
  | [] => false
def im_u2 (k : Nat) : List UInt8 → Bool
  | b :: d :: _ => Nat.beq (b.toNat * 256 + d.toNat) k
  | _ => false
def im_s2 (v : Int) : List UInt8 → Bool
  | b :: d :: _ => decide (Reader.signed 16 (b.toNat * 256 + d.toNat) = v)
  | _ => false
def im_cb : Jvm.ClassFile.Cond → Nat
  | .eq => 0
  | .ne => 1
  | .lt => 2
  | .ge => 3
  | .gt => 4
  | .le => 5
def im_by (i : Instr) (b : Nat) (l : List UInt8) : Bool := match i with
  | .aconst_null => Nat.beq b 1
  | .iaload => Nat.beq b 46
  | .laload => Nat.beq b 47
  | .aaload => Nat.beq b 50
  | .baload => Nat.beq b 51
  | .iastore => Nat.beq b 79
  | .lastore => Nat.beq b 80
  | .aastore => Nat.beq b 83
  | .bastore => Nat.beq b 84
  | .pop => Nat.beq b 87
  | .pop2 => Nat.beq b 88
  | .dup => Nat.beq b 89
  | .dup2 => Nat.beq b 92
  | .iadd => Nat.beq b 96
  | .isub => Nat.beq b 100
  | .imul => Nat.beq b 104
  | .idiv => Nat.beq b 108
  | .irem => Nat.beq b 112
  | .ishl => Nat.beq b 120
  | .lshl => Nat.beq b 121
  | .ishr => Nat.beq b 122
  | .lshr => Nat.beq b 123
  | .iand => Nat.beq b 126
  | .land => Nat.beq b 127
  | .ior => Nat.beq b 128
  | .lor => Nat.beq b 129
  | .i2l => Nat.beq b 133
  | .l2i => Nat.beq b 136
  | .i2b => Nat.beq b 145
  | .i2s => Nat.beq b 147
  | .lcmp => Nat.beq b 148
  | .ireturn => Nat.beq b 172
  | .lreturn => Nat.beq b 173
  | .return_ => Nat.beq b 177
  | .arraylength => Nat.beq b 190
  | .aload_n n => Nat.beq b (42 + n.val)
  | .iload_n n => Nat.beq b (26 + n.val)
  | .lload_n n => Nat.beq b (30 + n.val)
  | .istore_n n => Nat.beq b (59 + n.val)
  | .astore_n n => Nat.beq b (75 + n.val)
  | .iconst v => decide ((b : Int) = v + 3) && Nat.ble 2 b && Nat.ble b 8
  | .iload k => Nat.beq b 21 && im_u1 k l
  | .aload k => Nat.beq b 25 && im_u1 k l
  | .istore k => Nat.beq b 54 && im_u1 k l
  | .astore k => Nat.beq b 58 && im_u1 k l
  | .ldc k => Nat.beq b 18 && im_u1 k l
  | .bipush v => Nat.beq b 16 && im_s1 v l
  | .sipush v => Nat.beq b 17 && im_s2 v l
  | .goto v => Nat.beq b 167 && im_s2 v l
  | .ifnonnull v => Nat.beq b 199 && im_s2 v l
  | .ldc2_w k => Nat.beq b 20 && im_u2 k l
  | .getstatic k => Nat.beq b 178 && im_u2 k l
  | .getfield k => Nat.beq b 180 && im_u2 k l
  | .putfield k => Nat.beq b 181 && im_u2 k l
  | .invokevirtual k => Nat.beq b 182 && im_u2 k l
  | .invokespecial k => Nat.beq b 183 && im_u2 k l
  | .invokestatic k => Nat.beq b 184 && im_u2 k l
  | .new k => Nat.beq b 187 && im_u2 k l
  | .anewarray k => Nat.beq b 189 && im_u2 k l
  | .ifCond cc v => Nat.beq b (153 + im_cb cc) && im_s2 v l
  | .if_icmp cc v => Nat.beq b (159 + im_cb cc) && im_s2 v l
  | .iinc k v => Nat.beq b 132 && im_u1 k l && im_s1 v l.tail
  | .newarray t => Nat.beq b 188 && ((match t with | .boolean => im_u1 4 l | .int => im_u1 10 l | .long => im_u1 11 l | _ => false))
  | _ => false
theorem op_u1 {c : ByteArray} {p k : Nat} {l : List UInt8} (h : c.data.toList.drop p = l) (hk : im_u1 k l = true) : (Reader.u1 : Decoder Nat).runAt c p = .ok (k, p + 1) := by
  cases l with
  | nil => cases hk
  | cons b l => exact rd_u1 h (Nat.eq_of_beq_eq_true hk)
theorem op_s1 {c : ByteArray} {p : Nat} {v : Int} {l : List UInt8} (h : c.data.toList.drop p = l) (hk : im_s1 v l = true) : (Reader.s1 : Decoder Int).runAt c p = .ok (v, p + 1) := by
  cases l with
  | nil => cases hk
  | cons b l => exact rd_map (rd_u1 h rfl) (of_decide_eq_true hk)
theorem op_u2 {c : ByteArray} {p k : Nat} {l : List UInt8} (h : c.data.toList.drop p = l) (hk : im_u2 k l = true) : (Reader.u2 : Decoder Nat).runAt c p = .ok (k, p + 2) := by
  match l, h, hk with
  | b :: d :: _, h, hk => exact rd_u2 h (Nat.eq_of_beq_eq_true hk)
theorem op_s2 {c : ByteArray} {p : Nat} {v : Int} {l : List UInt8} (h : c.data.toList.drop p = l) (hk : im_s2 v l = true) : (Reader.s2 : Decoder Int).runAt c p = .ok (v, p + 2) := by
  match l, h, hk with
  | b :: d :: _, h, hk => exact rd_map (rd_u2 h rfl) (of_decide_eq_true hk)
theorem by_aconst_null {c : ByteArray} {pc w : Nat} {b : UInt8} {l : List UInt8} (h : c.data.toList.drop pc = b :: l) (hb : im_by .aconst_null b.toNat l = true) : decode c pc = .ok (.aconst_null, im_ln (.aconst_null) w) :=
  dc_of ((rd_bind (rd_u1 h (k := 1) (Nat.eq_of_beq_eq_true hb))).trans rfl) (by show pc + 1 - pc = 1; omega)
theorem by_iaload {c : ByteArray} {pc w : Nat} {b : UInt8} {l : List UInt8} (h : c.data.toList.drop pc = b :: l) (hb : im_by .iaload b.toNat l = true) : decode c pc = .ok (.iaload, im_ln (.iaload) w) :=
  dc_of ((rd_bind (rd_u1 h (k := 46) (Nat.eq_of_beq_eq_true hb))).trans rfl) (by show pc + 1 - pc = 1; omega)
theorem by_laload {c : ByteArray} {pc w : Nat} {b : UInt8} {l : List UInt8} (h : c.data.toList.drop pc = b :: l) (hb : im_by .laload b.toNat l = true) : decode c pc = .ok (.laload, im_ln (.laload) w) :=
  dc_of ((rd_bind (rd_u1 h (k := 47) (Nat.eq_of_beq_eq_true hb))).trans rfl) (by show pc + 1 - pc = 1; omega)
theorem by_aaload {c : ByteArray} {pc w : Nat} {b : UInt8} {l : List UInt8} (h : c.data.toList.drop pc = b :: l) (hb : im_by .aaload b.toNat l = true) : decode c pc = .ok (.aaload, im_ln (.aaload) w) :=
  dc_of ((rd_bind (rd_u1 h (k := 50) (Nat.eq_of_beq_eq_true hb))).trans rfl) (by show pc + 1 - pc = 1; omega)
theorem by_baload {c : ByteArray} {pc w : Nat} {b : UInt8} {l : List UInt8} (h : c.data.toList.drop pc = b :: l) (hb : im_by .baload b.toNat l = true) : decode c pc = .ok (.baload, im_ln (.baload) w) :=
  dc_of ((rd_bind (rd_u1 h (k := 51) (Nat.eq_of_beq_eq_true hb))).trans rfl) (by show pc + 1 - pc = 1; omega)
theorem by_iastore {c : ByteArray} {pc w : Nat} {b : UInt8} {l : List UInt8} (h : c.data.toList.drop pc = b :: l) (hb : im_by .iastore b.toNat l = true) : decode c pc = .ok (.iastore, im_ln (.iastore) w) :=
  dc_of ((rd_bind (rd_u1 h (k := 79) (Nat.eq_of_beq_eq_true hb))).trans rfl) (by show pc + 1 - pc = 1; omega)
theorem by_lastore {c : ByteArray} {pc w : Nat} {b : UInt8} {l : List UInt8} (h : c.data.toList.drop pc = b :: l) (hb : im_by .lastore b.toNat l = true) : decode c pc = .ok (.lastore, im_ln (.lastore) w) :=
  dc_of ((rd_bind (rd_u1 h (k := 80) (Nat.eq_of_beq_eq_true hb))).trans rfl) (by show pc + 1 - pc = 1; omega)
theorem by_aastore {c : ByteArray} {pc w : Nat} {b : UInt8} {l : List UInt8} (h : c.data.toList.drop pc = b :: l) (hb : im_by .aastore b.toNat l = true) : decode c pc = .ok (.aastore, im_ln (.aastore) w) :=
  dc_of ((rd_bind (rd_u1 h (k := 83) (Nat.eq_of_beq_eq_true hb))).trans rfl) (by show pc + 1 - pc = 1; omega)
theorem by_bastore {c : ByteArray} {pc w : Nat} {b : UInt8} {l : List UInt8} (h : c.data.toList.drop pc = b :: l) (hb : im_by .bastore b.toNat l = true) : decode c pc = .ok (.bastore, im_ln (.bastore) w) :=
  dc_of ((rd_bind (rd_u1 h (k := 84) (Nat.eq_of_beq_eq_true hb))).trans rfl) (by show pc + 1 - pc = 1; omega)
theorem by_pop {c : ByteArray} {pc w : Nat} {b : UInt8} {l : List UInt8} (h : c.data.toList.drop pc = b :: l) (hb : im_by .pop b.toNat l = true) : decode c pc = .ok (.pop, im_ln (.pop) w) :=
  dc_of ((rd_bind (rd_u1 h (k := 87) (Nat.eq_of_beq_eq_true hb))).trans rfl) (by show pc + 1 - pc = 1; omega)
theorem by_pop2 {c : ByteArray} {pc w : Nat} {b : UInt8} {l : List UInt8} (h : c.data.toList.drop pc = b :: l) (hb : im_by .pop2 b.toNat l = true) : decode c pc = .ok (.pop2, im_ln (.pop2) w) :=
  dc_of ((rd_bind (rd_u1 h (k := 88) (Nat.eq_of_beq_eq_true hb))).trans rfl) (by show pc + 1 - pc = 1; omega)
theorem by_dup {c : ByteArray} {pc w : Nat} {b : UInt8} {l : List UInt8} (h : c.data.toList.drop pc = b :: l) (hb : im_by .dup b.toNat l = true) : decode c pc = .ok (.dup, im_ln (.dup) w) :=
  dc_of ((rd_bind (rd_u1 h (k := 89) (Nat.eq_of_beq_eq_true hb))).trans rfl) (by show pc + 1 - pc = 1; omega)
theorem by_dup2 {c : ByteArray} {pc w : Nat} {b : UInt8} {l : List UInt8} (h : c.data.toList.drop pc = b :: l) (hb : im_by .dup2 b.toNat l = true) : decode c pc = .ok (.dup2, im_ln (.dup2) w) :=
  dc_of ((rd_bind (rd_u1 h (k := 92) (Nat.eq_of_beq_eq_true hb))).trans rfl) (by show pc + 1 - pc = 1; omega)
theorem by_iadd {c : ByteArray} {pc w : Nat} {b : UInt8} {l : List UInt8} (h : c.data.toList.drop pc = b :: l) (hb : im_by .iadd b.toNat l = true) : decode c pc = .ok (.iadd, im_ln (.iadd) w) :=
  dc_of ((rd_bind (rd_u1 h (k := 96) (Nat.eq_of_beq_eq_true hb))).trans rfl) (by show pc + 1 - pc = 1; omega)
theorem by_isub {c : ByteArray} {pc w : Nat} {b : UInt8} {l : List UInt8} (h : c.data.toList.drop pc = b :: l) (hb : im_by .isub b.toNat l = true) : decode c pc = .ok (.isub, im_ln (.isub) w) :=
  dc_of ((rd_bind (rd_u1 h (k := 100) (Nat.eq_of_beq_eq_true hb))).trans rfl) (by show pc + 1 - pc = 1; omega)
theorem by_imul {c : ByteArray} {pc w : Nat} {b : UInt8} {l : List UInt8} (h : c.data.toList.drop pc = b :: l) (hb : im_by .imul b.toNat l = true) : decode c pc = .ok (.imul, im_ln (.imul) w) :=
  dc_of ((rd_bind (rd_u1 h (k := 104) (Nat.eq_of_beq_eq_true hb))).trans rfl) (by show pc + 1 - pc = 1; omega)
theorem by_idiv {c : ByteArray} {pc w : Nat} {b : UInt8} {l : List UInt8} (h : c.data.toList.drop pc = b :: l) (hb : im_by .idiv b.toNat l = true) : decode c pc = .ok (.idiv, im_ln (.idiv) w) :=
  dc_of ((rd_bind (rd_u1 h (k := 108) (Nat.eq_of_beq_eq_true hb))).trans rfl) (by show pc + 1 - pc = 1; omega)
theorem by_irem {c : ByteArray} {pc w : Nat} {b : UInt8} {l : List UInt8} (h : c.data.toList.drop pc = b :: l) (hb : im_by .irem b.toNat l = true) : decode c pc = .ok (.irem, im_ln (.irem) w) :=
  dc_of ((rd_bind (rd_u1 h (k := 112) (Nat.eq_of_beq_eq_true hb))).trans rfl) (by show pc + 1 - pc = 1; omega)
theorem by_ishl {c : ByteArray} {pc w : Nat} {b : UInt8} {l : List UInt8} (h : c.data.toList.drop pc = b :: l) (hb : im_by .ishl b.toNat l = true) : decode c pc = .ok (.ishl, im_ln (.ishl) w) :=
  dc_of ((rd_bind (rd_u1 h (k := 120) (Nat.eq_of_beq_eq_true hb))).trans rfl) (by show pc + 1 - pc = 1; omega)
theorem by_lshl {c : ByteArray} {pc w : Nat} {b : UInt8} {l : List UInt8} (h : c.data.toList.drop pc = b :: l) (hb : im_by .lshl b.toNat l = true) : decode c pc = .ok (.lshl, im_ln (.lshl) w) :=
  dc_of ((rd_bind (rd_u1 h (k := 121) (Nat.eq_of_beq_eq_true hb))).trans rfl) (by show pc + 1 - pc = 1; omega)
theorem by_ishr {c : ByteArray} {pc w : Nat} {b : UInt8} {l : List UInt8} (h : c.data.toList.drop pc = b :: l) (hb : im_by .ishr b.toNat l = true) : decode c pc = .ok (.ishr, im_ln (.ishr) w) :=
  dc_of ((rd_bind (rd_u1 h (k := 122) (Nat.eq_of_beq_eq_true hb))).trans rfl) (by show pc + 1 - pc = 1; omega)
theorem by_lshr {c : ByteArray} {pc w : Nat} {b : UInt8} {l : List UInt8} (h : c.data.toList.drop pc = b :: l) (hb : im_by .lshr b.toNat l = true) : decode c pc = .ok (.lshr, im_ln (.lshr) w) :=
  dc_of ((rd_bind (rd_u1 h (k := 123) (Nat.eq_of_beq_eq_true hb))).trans rfl) (by show pc + 1 - pc = 1; omega)
theorem by_iand {c : ByteArray} {pc w : Nat} {b : UInt8} {l : List UInt8} (h : c.data.toList.drop pc = b :: l) (hb : im_by .iand b.toNat l = true) : decode c pc = .ok (.iand, im_ln (.iand) w) :=
  dc_of ((rd_bind (rd_u1 h (k := 126) (Nat.eq_of_beq_eq_true hb))).trans rfl) (by show pc + 1 - pc = 1; omega)
theorem by_land {c : ByteArray} {pc w : Nat} {b : UInt8} {l : List UInt8} (h : c.data.toList.drop pc = b :: l) (hb : im_by .land b.toNat l = true) : decode c pc = .ok (.land, im_ln (.land) w) :=
  dc_of ((rd_bind (rd_u1 h (k := 127) (Nat.eq_of_beq_eq_true hb))).trans rfl) (by show pc + 1 - pc = 1; omega)
theorem by_ior {c : ByteArray} {pc w : Nat} {b : UInt8} {l : List UInt8} (h : c.data.toList.drop pc = b :: l) (hb : im_by .ior b.toNat l = true) : decode c pc = .ok (.ior, im_ln (.ior) w) :=
  dc_of ((rd_bind (rd_u1 h (k := 128) (Nat.eq_of_beq_eq_true hb))).trans rfl) (by show pc + 1 - pc = 1; omega)
theorem by_lor {c : ByteArray} {pc w : Nat} {b : UInt8} {l : List UInt8} (h : c.data.toList.drop pc = b :: l) (hb : im_by .lor b.toNat l = true) : decode c pc = .ok (.lor, im_ln (.lor) w) :=
  dc_of ((rd_bind (rd_u1 h (k := 129) (Nat.eq_of_beq_eq_true hb))).trans rfl) (by show pc + 1 - pc = 1; omega)
theorem by_i2l {c : ByteArray} {pc w : Nat} {b : UInt8} {l : List UInt8} (h : c.data.toList.drop pc = b :: l) (hb : im_by .i2l b.toNat l = true) : decode c pc = .ok (.i2l, im_ln (.i2l) w) :=
  dc_of ((rd_bind (rd_u1 h (k := 133) (Nat.eq_of_beq_eq_true hb))).trans rfl) (by show pc + 1 - pc = 1; omega)
theorem by_l2i {c : ByteArray} {pc w : Nat} {b : UInt8} {l : List UInt8} (h : c.data.toList.drop pc = b :: l) (hb : im_by .l2i b.toNat l = true) : decode c pc = .ok (.l2i, im_ln (.l2i) w) :=
  dc_of ((rd_bind (rd_u1 h (k := 136) (Nat.eq_of_beq_eq_true hb))).trans rfl) (by show pc + 1 - pc = 1; omega)
theorem by_i2b {c : ByteArray} {pc w : Nat} {b : UInt8} {l : List UInt8} (h : c.data.toList.drop pc = b :: l) (hb : im_by .i2b b.toNat l = true) : decode c pc = .ok (.i2b, im_ln (.i2b) w) :=
  dc_of ((rd_bind (rd_u1 h (k := 145) (Nat.eq_of_beq_eq_true hb))).trans rfl) (by show pc + 1 - pc = 1; omega)
theorem by_i2s {c : ByteArray} {pc w : Nat} {b : UInt8} {l : List UInt8} (h : c.data.toList.drop pc = b :: l) (hb : im_by .i2s b.toNat l = true) : decode c pc = .ok (.i2s, im_ln (.i2s) w) :=
  dc_of ((rd_bind (rd_u1 h (k := 147) (Nat.eq_of_beq_eq_true hb))).trans rfl) (by show pc + 1 - pc = 1; omega)
theorem by_lcmp {c : ByteArray} {pc w : Nat} {b : UInt8} {l : List UInt8} (h : c.data.toList.drop pc = b :: l) (hb : im_by .lcmp b.toNat l = true) : decode c pc = .ok (.lcmp, im_ln (.lcmp) w) :=
  dc_of ((rd_bind (rd_u1 h (k := 148) (Nat.eq_of_beq_eq_true hb))).trans rfl) (by show pc + 1 - pc = 1; omega)
theorem by_ireturn {c : ByteArray} {pc w : Nat} {b : UInt8} {l : List UInt8} (h : c.data.toList.drop pc = b :: l) (hb : im_by .ireturn b.toNat l = true) : decode c pc = .ok (.ireturn, im_ln (.ireturn) w) :=
  dc_of ((rd_bind (rd_u1 h (k := 172) (Nat.eq_of_beq_eq_true hb))).trans rfl) (by show pc + 1 - pc = 1; omega)
theorem by_lreturn {c : ByteArray} {pc w : Nat} {b : UInt8} {l : List UInt8} (h : c.data.toList.drop pc = b :: l) (hb : im_by .lreturn b.toNat l = true) : decode c pc = .ok (.lreturn, im_ln (.lreturn) w) :=
  dc_of ((rd_bind (rd_u1 h (k := 173) (Nat.eq_of_beq_eq_true hb))).trans rfl) (by show pc + 1 - pc = 1; omega)
theorem by_return_ {c : ByteArray} {pc w : Nat} {b : UInt8} {l : List UInt8} (h : c.data.toList.drop pc = b :: l) (hb : im_by .return_ b.toNat l = true) : decode c pc = .ok (.return_, im_ln (.return_) w) :=
  dc_of ((rd_bind (rd_u1 h (k := 177) (Nat.eq_of_beq_eq_true hb))).trans rfl) (by show pc + 1 - pc = 1; omega)
theorem by_arraylength {c : ByteArray} {pc w : Nat} {b : UInt8} {l : List UInt8} (h : c.data.toList.drop pc = b :: l) (hb : im_by .arraylength b.toNat l = true) : decode c pc = .ok (.arraylength, im_ln (.arraylength) w) :=
  dc_of ((rd_bind (rd_u1 h (k := 190) (Nat.eq_of_beq_eq_true hb))).trans rfl) (by show pc + 1 - pc = 1; omega)
theorem by_aload_n {c : ByteArray} {pc w : Nat} {b : UInt8} {l : List UInt8} {n : Fin 4} (h : c.data.toList.drop pc = b :: l) (hb : im_by (.aload_n n) b.toNat l = true) : decode c pc = .ok (.aload_n n, im_ln (.aload_n n) w) :=
  match n, hb with
  | 0, hb => dc_of ((rd_bind (rd_u1 h (k := 42) (Nat.eq_of_beq_eq_true hb))).trans rfl) (by show pc + 1 - pc = 1; omega)
  | 1, hb => dc_of ((rd_bind (rd_u1 h (k := 43) (Nat.eq_of_beq_eq_true hb))).trans rfl) (by show pc + 1 - pc = 1; omega)
  | 2, hb => dc_of ((rd_bind (rd_u1 h (k := 44) (Nat.eq_of_beq_eq_true hb))).trans rfl) (by show pc + 1 - pc = 1; omega)
  | 3, hb => dc_of ((rd_bind (rd_u1 h (k := 45) (Nat.eq_of_beq_eq_true hb))).trans rfl) (by show pc + 1 - pc = 1; omega)
theorem by_iload_n {c : ByteArray} {pc w : Nat} {b : UInt8} {l : List UInt8} {n : Fin 4} (h : c.data.toList.drop pc = b :: l) (hb : im_by (.iload_n n) b.toNat l = true) : decode c pc = .ok (.iload_n n, im_ln (.iload_n n) w) :=
  match n, hb with
  | 0, hb => dc_of ((rd_bind (rd_u1 h (k := 26) (Nat.eq_of_beq_eq_true hb))).trans rfl) (by show pc + 1 - pc = 1; omega)
  | 1, hb => dc_of ((rd_bind (rd_u1 h (k := 27) (Nat.eq_of_beq_eq_true hb))).trans rfl) (by show pc + 1 - pc = 1; omega)
  | 2, hb => dc_of ((rd_bind (rd_u1 h (k := 28) (Nat.eq_of_beq_eq_true hb))).trans rfl) (by show pc + 1 - pc = 1; omega)
  | 3, hb => dc_of ((rd_bind (rd_u1 h (k := 29) (Nat.eq_of_beq_eq_true hb))).trans rfl) (by show pc + 1 - pc = 1; omega)
theorem by_lload_n {c : ByteArray} {pc w : Nat} {b : UInt8} {l : List UInt8} {n : Fin 4} (h : c.data.toList.drop pc = b :: l) (hb : im_by (.lload_n n) b.toNat l = true) : decode c pc = .ok (.lload_n n, im_ln (.lload_n n) w) :=
  match n, hb with
  | 0, hb => dc_of ((rd_bind (rd_u1 h (k := 30) (Nat.eq_of_beq_eq_true hb))).trans rfl) (by show pc + 1 - pc = 1; omega)
  | 1, hb => dc_of ((rd_bind (rd_u1 h (k := 31) (Nat.eq_of_beq_eq_true hb))).trans rfl) (by show pc + 1 - pc = 1; omega)
  | 2, hb => dc_of ((rd_bind (rd_u1 h (k := 32) (Nat.eq_of_beq_eq_true hb))).trans rfl) (by show pc + 1 - pc = 1; omega)
  | 3, hb => dc_of ((rd_bind (rd_u1 h (k := 33) (Nat.eq_of_beq_eq_true hb))).trans rfl) (by show pc + 1 - pc = 1; omega)
theorem by_istore_n {c : ByteArray} {pc w : Nat} {b : UInt8} {l : List UInt8} {n : Fin 4} (h : c.data.toList.drop pc = b :: l) (hb : im_by (.istore_n n) b.toNat l = true) : decode c pc = .ok (.istore_n n, im_ln (.istore_n n) w) :=
  match n, hb with
  | 0, hb => dc_of ((rd_bind (rd_u1 h (k := 59) (Nat.eq_of_beq_eq_true hb))).trans rfl) (by show pc + 1 - pc = 1; omega)
  | 1, hb => dc_of ((rd_bind (rd_u1 h (k := 60) (Nat.eq_of_beq_eq_true hb))).trans rfl) (by show pc + 1 - pc = 1; omega)
  | 2, hb => dc_of ((rd_bind (rd_u1 h (k := 61) (Nat.eq_of_beq_eq_true hb))).trans rfl) (by show pc + 1 - pc = 1; omega)
  | 3, hb => dc_of ((rd_bind (rd_u1 h (k := 62) (Nat.eq_of_beq_eq_true hb))).trans rfl) (by show pc + 1 - pc = 1; omega)
theorem by_astore_n {c : ByteArray} {pc w : Nat} {b : UInt8} {l : List UInt8} {n : Fin 4} (h : c.data.toList.drop pc = b :: l) (hb : im_by (.astore_n n) b.toNat l = true) : decode c pc = .ok (.astore_n n, im_ln (.astore_n n) w) :=
  match n, hb with
  | 0, hb => dc_of ((rd_bind (rd_u1 h (k := 75) (Nat.eq_of_beq_eq_true hb))).trans rfl) (by show pc + 1 - pc = 1; omega)
  | 1, hb => dc_of ((rd_bind (rd_u1 h (k := 76) (Nat.eq_of_beq_eq_true hb))).trans rfl) (by show pc + 1 - pc = 1; omega)
  | 2, hb => dc_of ((rd_bind (rd_u1 h (k := 77) (Nat.eq_of_beq_eq_true hb))).trans rfl) (by show pc + 1 - pc = 1; omega)
  | 3, hb => dc_of ((rd_bind (rd_u1 h (k := 78) (Nat.eq_of_beq_eq_true hb))).trans rfl) (by show pc + 1 - pc = 1; omega)
theorem by_iload {c : ByteArray} {pc w : Nat} {b : UInt8} {l : List UInt8} {v : Nat} (h : c.data.toList.drop pc = b :: l) (hb : im_by (.iload v) b.toNat l = true) : decode c pc = .ok (.iload v, im_ln (.iload v) w) :=
  have ⟨h1, h2⟩ := (Bool.and_eq_true _ _).mp hb
  dc_of ((rd_bind (rd_u1 h (k := 21) (Nat.eq_of_beq_eq_true h1))).trans ((rd_bind (op_u1 (rd_nx h) h2)).trans rfl)) (by show pc + 1 + 1 - pc = 2; omega)
theorem by_aload {c : ByteArray} {pc w : Nat} {b : UInt8} {l : List UInt8} {v : Nat} (h : c.data.toList.drop pc = b :: l) (hb : im_by (.aload v) b.toNat l = true) : decode c pc = .ok (.aload v, im_ln (.aload v) w) :=
  have ⟨h1, h2⟩ := (Bool.and_eq_true _ _).mp hb
  dc_of ((rd_bind (rd_u1 h (k := 25) (Nat.eq_of_beq_eq_true h1))).trans ((rd_bind (op_u1 (rd_nx h) h2)).trans rfl)) (by show pc + 1 + 1 - pc = 2; omega)
theorem by_istore {c : ByteArray} {pc w : Nat} {b : UInt8} {l : List UInt8} {v : Nat} (h : c.data.toList.drop pc = b :: l) (hb : im_by (.istore v) b.toNat l = true) : decode c pc = .ok (.istore v, im_ln (.istore v) w) :=
  have ⟨h1, h2⟩ := (Bool.and_eq_true _ _).mp hb
  dc_of ((rd_bind (rd_u1 h (k := 54) (Nat.eq_of_beq_eq_true h1))).trans ((rd_bind (op_u1 (rd_nx h) h2)).trans rfl)) (by show pc + 1 + 1 - pc = 2; omega)
theorem by_astore {c : ByteArray} {pc w : Nat} {b : UInt8} {l : List UInt8} {v : Nat} (h : c.data.toList.drop pc = b :: l) (hb : im_by (.astore v) b.toNat l = true) : decode c pc = .ok (.astore v, im_ln (.astore v) w) :=
  have ⟨h1, h2⟩ := (Bool.and_eq_true _ _).mp hb
  dc_of ((rd_bind (rd_u1 h (k := 58) (Nat.eq_of_beq_eq_true h1))).trans ((rd_bind (op_u1 (rd_nx h) h2)).trans rfl)) (by show pc + 1 + 1 - pc = 2; omega)
theorem by_ldc {c : ByteArray} {pc w : Nat} {b : UInt8} {l : List UInt8} {v : Nat} (h : c.data.toList.drop pc = b :: l) (hb : im_by (.ldc v) b.toNat l = true) : decode c pc = .ok (.ldc v, im_ln (.ldc v) w) :=
  have ⟨h1, h2⟩ := (Bool.and_eq_true _ _).mp hb
  dc_of ((rd_bind (rd_u1 h (k := 18) (Nat.eq_of_beq_eq_true h1))).trans ((rd_bind (op_u1 (rd_nx h) h2)).trans rfl)) (by show pc + 1 + 1 - pc = 2; omega)
theorem by_bipush {c : ByteArray} {pc w : Nat} {b : UInt8} {l : List UInt8} {v : Int} (h : c.data.toList.drop pc = b :: l) (hb : im_by (.bipush v) b.toNat l = true) : decode c pc = .ok (.bipush v, im_ln (.bipush v) w) :=
  have ⟨h1, h2⟩ := (Bool.and_eq_true _ _).mp hb
  dc_of ((rd_bind (rd_u1 h (k := 16) (Nat.eq_of_beq_eq_true h1))).trans ((rd_bind (op_s1 (rd_nx h) h2)).trans rfl)) (by show pc + 1 + 1 - pc = 2; omega)
theorem by_sipush {c : ByteArray} {pc w : Nat} {b : UInt8} {l : List UInt8} {v : Int} (h : c.data.toList.drop pc = b :: l) (hb : im_by (.sipush v) b.toNat l = true) : decode c pc = .ok (.sipush v, im_ln (.sipush v) w) :=
  have ⟨h1, h2⟩ := (Bool.and_eq_true _ _).mp hb
  dc_of ((rd_bind (rd_u1 h (k := 17) (Nat.eq_of_beq_eq_true h1))).trans ((rd_bind (op_s2 (rd_nx h) h2)).trans rfl)) (by show pc + 1 + 2 - pc = 3; omega)
theorem by_goto {c : ByteArray} {pc w : Nat} {b : UInt8} {l : List UInt8} {v : Int} (h : c.data.toList.drop pc = b :: l) (hb : im_by (.goto v) b.toNat l = true) : decode c pc = .ok (.goto v, im_ln (.goto v) w) :=
  have ⟨h1, h2⟩ := (Bool.and_eq_true _ _).mp hb
  dc_of ((rd_bind (rd_u1 h (k := 167) (Nat.eq_of_beq_eq_true h1))).trans ((rd_bind (op_s2 (rd_nx h) h2)).trans rfl)) (by show pc + 1 + 2 - pc = 3; omega)
theorem by_ifnonnull {c : ByteArray} {pc w : Nat} {b : UInt8} {l : List UInt8} {v : Int} (h : c.data.toList.drop pc = b :: l) (hb : im_by (.ifnonnull v) b.toNat l = true) : decode c pc = .ok (.ifnonnull v, im_ln (.ifnonnull v) w) :=
  have ⟨h1, h2⟩ := (Bool.and_eq_true _ _).mp hb
  dc_of ((rd_bind (rd_u1 h (k := 199) (Nat.eq_of_beq_eq_true h1))).trans ((rd_bind (op_s2 (rd_nx h) h2)).trans rfl)) (by show pc + 1 + 2 - pc = 3; omega)
theorem by_ldc2_w {c : ByteArray} {pc w : Nat} {b : UInt8} {l : List UInt8} {v : Nat} (h : c.data.toList.drop pc = b :: l) (hb : im_by (.ldc2_w v) b.toNat l = true) : decode c pc = .ok (.ldc2_w v, im_ln (.ldc2_w v) w) :=
  have ⟨h1, h2⟩ := (Bool.and_eq_true _ _).mp hb
  dc_of ((rd_bind (rd_u1 h (k := 20) (Nat.eq_of_beq_eq_true h1))).trans ((rd_bind (op_u2 (rd_nx h) h2)).trans rfl)) (by show pc + 1 + 2 - pc = 3; omega)
theorem by_getstatic {c : ByteArray} {pc w : Nat} {b : UInt8} {l : List UInt8} {v : Nat} (h : c.data.toList.drop pc = b :: l) (hb : im_by (.getstatic v) b.toNat l = true) : decode c pc = .ok (.getstatic v, im_ln (.getstatic v) w) :=
  have ⟨h1, h2⟩ := (Bool.and_eq_true _ _).mp hb
  dc_of ((rd_bind (rd_u1 h (k := 178) (Nat.eq_of_beq_eq_true h1))).trans ((rd_bind (op_u2 (rd_nx h) h2)).trans rfl)) (by show pc + 1 + 2 - pc = 3; omega)
theorem by_getfield {c : ByteArray} {pc w : Nat} {b : UInt8} {l : List UInt8} {v : Nat} (h : c.data.toList.drop pc = b :: l) (hb : im_by (.getfield v) b.toNat l = true) : decode c pc = .ok (.getfield v, im_ln (.getfield v) w) :=
  have ⟨h1, h2⟩ := (Bool.and_eq_true _ _).mp hb
  dc_of ((rd_bind (rd_u1 h (k := 180) (Nat.eq_of_beq_eq_true h1))).trans ((rd_bind (op_u2 (rd_nx h) h2)).trans rfl)) (by show pc + 1 + 2 - pc = 3; omega)
theorem by_putfield {c : ByteArray} {pc w : Nat} {b : UInt8} {l : List UInt8} {v : Nat} (h : c.data.toList.drop pc = b :: l) (hb : im_by (.putfield v) b.toNat l = true) : decode c pc = .ok (.putfield v, im_ln (.putfield v) w) :=
  have ⟨h1, h2⟩ := (Bool.and_eq_true _ _).mp hb
  dc_of ((rd_bind (rd_u1 h (k := 181) (Nat.eq_of_beq_eq_true h1))).trans ((rd_bind (op_u2 (rd_nx h) h2)).trans rfl)) (by show pc + 1 + 2 - pc = 3; omega)
theorem by_invokevirtual {c : ByteArray} {pc w : Nat} {b : UInt8} {l : List UInt8} {v : Nat} (h : c.data.toList.drop pc = b :: l) (hb : im_by (.invokevirtual v) b.toNat l = true) : decode c pc = .ok (.invokevirtual v, im_ln (.invokevirtual v) w) :=
  have ⟨h1, h2⟩ := (Bool.and_eq_true _ _).mp hb
  dc_of ((rd_bind (rd_u1 h (k := 182) (Nat.eq_of_beq_eq_true h1))).trans ((rd_bind (op_u2 (rd_nx h) h2)).trans rfl)) (by show pc + 1 + 2 - pc = 3; omega)
theorem by_invokespecial {c : ByteArray} {pc w : Nat} {b : UInt8} {l : List UInt8} {v : Nat} (h : c.data.toList.drop pc = b :: l) (hb : im_by (.invokespecial v) b.toNat l = true) : decode c pc = .ok (.invokespecial v, im_ln (.invokespecial v) w) :=
  have ⟨h1, h2⟩ := (Bool.and_eq_true _ _).mp hb
  dc_of ((rd_bind (rd_u1 h (k := 183) (Nat.eq_of_beq_eq_true h1))).trans ((rd_bind (op_u2 (rd_nx h) h2)).trans rfl)) (by show pc + 1 + 2 - pc = 3; omega)
theorem by_invokestatic {c : ByteArray} {pc w : Nat} {b : UInt8} {l : List UInt8} {v : Nat} (h : c.data.toList.drop pc = b :: l) (hb : im_by (.invokestatic v) b.toNat l = true) : decode c pc = .ok (.invokestatic v, im_ln (.invokestatic v) w) :=
  have ⟨h1, h2⟩ := (Bool.and_eq_true _ _).mp hb
  dc_of ((rd_bind (rd_u1 h (k := 184) (Nat.eq_of_beq_eq_true h1))).trans ((rd_bind (op_u2 (rd_nx h) h2)).trans rfl)) (by show pc + 1 + 2 - pc = 3; omega)
theorem by_new {c : ByteArray} {pc w : Nat} {b : UInt8} {l : List UInt8} {v : Nat} (h : c.data.toList.drop pc = b :: l) (hb : im_by (.new v) b.toNat l = true) : decode c pc = .ok (.new v, im_ln (.new v) w) :=
  have ⟨h1, h2⟩ := (Bool.and_eq_true _ _).mp hb
  dc_of ((rd_bind (rd_u1 h (k := 187) (Nat.eq_of_beq_eq_true h1))).trans ((rd_bind (op_u2 (rd_nx h) h2)).trans rfl)) (by show pc + 1 + 2 - pc = 3; omega)
theorem by_anewarray {c : ByteArray} {pc w : Nat} {b : UInt8} {l : List UInt8} {v : Nat} (h : c.data.toList.drop pc = b :: l) (hb : im_by (.anewarray v) b.toNat l = true) : decode c pc = .ok (.anewarray v, im_ln (.anewarray v) w) :=
  have ⟨h1, h2⟩ := (Bool.and_eq_true _ _).mp hb
  dc_of ((rd_bind (rd_u1 h (k := 189) (Nat.eq_of_beq_eq_true h1))).trans ((rd_bind (op_u2 (rd_nx h) h2)).trans rfl)) (by show pc + 1 + 2 - pc = 3; omega)
theorem by_ifCond {c : ByteArray} {pc w : Nat} {b : UInt8} {l : List UInt8} {cc : Jvm.ClassFile.Cond} {v : Int} (h : c.data.toList.drop pc = b :: l) (hb : im_by (.ifCond cc v) b.toNat l = true) : decode c pc = .ok (.ifCond cc v, im_ln (.ifCond cc v) w) :=
  have ⟨h1, h2⟩ := (Bool.and_eq_true _ _).mp hb
  match cc, h1 with
  | .eq, h1 => dc_of ((rd_bind (rd_u1 h (k := 153) (Nat.eq_of_beq_eq_true h1))).trans ((rd_bind (op_s2 (rd_nx h) h2)).trans rfl)) (by show pc + 1 + 2 - pc = 3; omega)
  | .ne, h1 => dc_of ((rd_bind (rd_u1 h (k := 154) (Nat.eq_of_beq_eq_true h1))).trans ((rd_bind (op_s2 (rd_nx h) h2)).trans rfl)) (by show pc + 1 + 2 - pc = 3; omega)
  | .lt, h1 => dc_of ((rd_bind (rd_u1 h (k := 155) (Nat.eq_of_beq_eq_true h1))).trans ((rd_bind (op_s2 (rd_nx h) h2)).trans rfl)) (by show pc + 1 + 2 - pc = 3; omega)
  | .ge, h1 => dc_of ((rd_bind (rd_u1 h (k := 156) (Nat.eq_of_beq_eq_true h1))).trans ((rd_bind (op_s2 (rd_nx h) h2)).trans rfl)) (by show pc + 1 + 2 - pc = 3; omega)
  | .gt, h1 => dc_of ((rd_bind (rd_u1 h (k := 157) (Nat.eq_of_beq_eq_true h1))).trans ((rd_bind (op_s2 (rd_nx h) h2)).trans rfl)) (by show pc + 1 + 2 - pc = 3; omega)
  | .le, h1 => dc_of ((rd_bind (rd_u1 h (k := 158) (Nat.eq_of_beq_eq_true h1))).trans ((rd_bind (op_s2 (rd_nx h) h2)).trans rfl)) (by show pc + 1 + 2 - pc = 3; omega)
theorem by_if_icmp {c : ByteArray} {pc w : Nat} {b : UInt8} {l : List UInt8} {cc : Jvm.ClassFile.Cond} {v : Int} (h : c.data.toList.drop pc = b :: l) (hb : im_by (.if_icmp cc v) b.toNat l = true) : decode c pc = .ok (.if_icmp cc v, im_ln (.if_icmp cc v) w) :=
  have ⟨h1, h2⟩ := (Bool.and_eq_true _ _).mp hb
  match cc, h1 with
  | .eq, h1 => dc_of ((rd_bind (rd_u1 h (k := 159) (Nat.eq_of_beq_eq_true h1))).trans ((rd_bind (op_s2 (rd_nx h) h2)).trans rfl)) (by show pc + 1 + 2 - pc = 3; omega)
  | .ne, h1 => dc_of ((rd_bind (rd_u1 h (k := 160) (Nat.eq_of_beq_eq_true h1))).trans ((rd_bind (op_s2 (rd_nx h) h2)).trans rfl)) (by show pc + 1 + 2 - pc = 3; omega)
  | .lt, h1 => dc_of ((rd_bind (rd_u1 h (k := 161) (Nat.eq_of_beq_eq_true h1))).trans ((rd_bind (op_s2 (rd_nx h) h2)).trans rfl)) (by show pc + 1 + 2 - pc = 3; omega)
  | .ge, h1 => dc_of ((rd_bind (rd_u1 h (k := 162) (Nat.eq_of_beq_eq_true h1))).trans ((rd_bind (op_s2 (rd_nx h) h2)).trans rfl)) (by show pc + 1 + 2 - pc = 3; omega)
  | .gt, h1 => dc_of ((rd_bind (rd_u1 h (k := 163) (Nat.eq_of_beq_eq_true h1))).trans ((rd_bind (op_s2 (rd_nx h) h2)).trans rfl)) (by show pc + 1 + 2 - pc = 3; omega)
  | .le, h1 => dc_of ((rd_bind (rd_u1 h (k := 164) (Nat.eq_of_beq_eq_true h1))).trans ((rd_bind (op_s2 (rd_nx h) h2)).trans rfl)) (by show pc + 1 + 2 - pc = 3; omega)
theorem by_iconst {c : ByteArray} {pc w : Nat} {b : UInt8} {l : List UInt8} {v : Int} (h : c.data.toList.drop pc = b :: l) (hb : im_by (.iconst v) b.toNat l = true) : decode c pc = .ok (.iconst v, im_ln (.iconst v) w) :=
  by
  have ⟨h0, h3⟩ := (Bool.and_eq_true _ _).mp hb
  have ⟨h1, h2⟩ := (Bool.and_eq_true _ _).mp h0
  have e1 : (b.toNat : Int) = v + 3 := of_decide_eq_true h1
  have e2 := Nat.le_of_ble_eq_true h2
  have e3 := Nat.le_of_ble_eq_true h3
  rcases (show b.toNat = 2 ∨ b.toNat = 3 ∨ b.toNat = 4 ∨ b.toNat = 5 ∨ b.toNat = 6 ∨ b.toNat = 7 ∨ b.toNat = 8 by omega) with e | e | e | e | e | e | e
  · obtain rfl : v = (-1) := by omega
    exact dc_of ((rd_bind (rd_u1 h e)).trans rfl) (by show pc + 1 - pc = 1; omega)
  · obtain rfl : v = 0 := by omega
    exact dc_of ((rd_bind (rd_u1 h e)).trans rfl) (by show pc + 1 - pc = 1; omega)
  · obtain rfl : v = 1 := by omega
    exact dc_of ((rd_bind (rd_u1 h e)).trans rfl) (by show pc + 1 - pc = 1; omega)
  · obtain rfl : v = 2 := by omega
    exact dc_of ((rd_bind (rd_u1 h e)).trans rfl) (by show pc + 1 - pc = 1; omega)
  · obtain rfl : v = 3 := by omega
    exact dc_of ((rd_bind (rd_u1 h e)).trans rfl) (by show pc + 1 - pc = 1; omega)
  · obtain rfl : v = 4 := by omega
    exact dc_of ((rd_bind (rd_u1 h e)).trans rfl) (by show pc + 1 - pc = 1; omega)
  · obtain rfl : v = 5 := by omega
    exact dc_of ((rd_bind (rd_u1 h e)).trans rfl) (by show pc + 1 - pc = 1; omega)
theorem by_iinc {c : ByteArray} {pc w : Nat} {b : UInt8} {l : List UInt8} {k : Nat} {v : Int} (h : c.data.toList.drop pc = b :: l) (hb : im_by (.iinc k v) b.toNat l = true) : decode c pc = .ok (.iinc k v, im_ln (.iinc k v) w) :=
  by
  have ⟨h0, h3⟩ := (Bool.and_eq_true _ _).mp hb
  have ⟨h1, h2⟩ := (Bool.and_eq_true _ _).mp h0
  cases l with
  | nil => cases h2
  | cons d l => exact dc_of ((rd_bind (rd_u1 h (k := 132) (Nat.eq_of_beq_eq_true h1))).trans ((rd_bind (op_u1 (rd_nx h) h2)).trans ((rd_bind (op_s1 (rd_nx (rd_nx h)) h3)).trans rfl))) (by show pc + 1 + 1 + 1 - pc = 3; omega)
theorem by_newarray_boolean {c : ByteArray} {pc w : Nat} {b : UInt8} {l : List UInt8} (h : c.data.toList.drop pc = b :: l) (hb : im_by (.newarray .boolean) b.toNat l = true) : decode c pc = .ok (.newarray .boolean, im_ln (.newarray .boolean) w) :=
  have ⟨h1, h2⟩ := (Bool.and_eq_true _ _).mp hb
  dc_of ((rd_bind (rd_u1 h (k := 188) (Nat.eq_of_beq_eq_true h1))).trans ((rd_bind (op_u1 (rd_nx h) h2)).trans rfl)) (by show pc + 1 + 1 - pc = 2; omega)
theorem by_newarray_int {c : ByteArray} {pc w : Nat} {b : UInt8} {l : List UInt8} (h : c.data.toList.drop pc = b :: l) (hb : im_by (.newarray .int) b.toNat l = true) : decode c pc = .ok (.newarray .int, im_ln (.newarray .int) w) :=
  have ⟨h1, h2⟩ := (Bool.and_eq_true _ _).mp hb
  dc_of ((rd_bind (rd_u1 h (k := 188) (Nat.eq_of_beq_eq_true h1))).trans ((rd_bind (op_u1 (rd_nx h) h2)).trans rfl)) (by show pc + 1 + 1 - pc = 2; omega)
theorem by_newarray_long {c : ByteArray} {pc w : Nat} {b : UInt8} {l : List UInt8} (h : c.data.toList.drop pc = b :: l) (hb : im_by (.newarray .long) b.toNat l = true) : decode c pc = .ok (.newarray .long, im_ln (.newarray .long) w) :=
  have ⟨h1, h2⟩ := (Bool.and_eq_true _ _).mp hb
  dc_of ((rd_bind (rd_u1 h (k := 188) (Nat.eq_of_beq_eq_true h1))).trans ((rd_bind (op_u1 (rd_nx h) h2)).trans rfl)) (by show pc + 1 + 1 - pc = 2; omega)
theorem im_by_ok {i : Instr} {c : ByteArray} {pc w : Nat} {b : UInt8} {l : List UInt8} (h : c.data.toList.drop pc = b :: l) (hb : im_by i b.toNat l = true) : decode c pc = .ok (i, im_ln i w) := by
  unfold im_by at hb
  split at hb
  · exact by_aconst_null h hb
  · exact by_iaload h hb
  · exact by_laload h hb
  · exact by_aaload h hb
  · exact by_baload h hb
  · exact by_iastore h hb
  · exact by_lastore h hb
  · exact by_aastore h hb
  · exact by_bastore h hb
  · exact by_pop h hb
  · exact by_pop2 h hb
  · exact by_dup h hb
  · exact by_dup2 h hb
  · exact by_iadd h hb
  · exact by_isub h hb
  · exact by_imul h hb
  · exact by_idiv h hb
  · exact by_irem h hb
  · exact by_ishl h hb
  · exact by_lshl h hb
  · exact by_ishr h hb
  · exact by_lshr h hb
  · exact by_iand h hb
  · exact by_land h hb
  · exact by_ior h hb
  · exact by_lor h hb
  · exact by_i2l h hb
  · exact by_l2i h hb
  · exact by_i2b h hb
  · exact by_i2s h hb
  · exact by_lcmp h hb
  · exact by_ireturn h hb
  · exact by_lreturn h hb
  · exact by_return_ h hb
  · exact by_arraylength h hb
  · exact by_aload_n h hb
  · exact by_iload_n h hb
  · exact by_lload_n h hb
  · exact by_istore_n h hb
  · exact by_astore_n h hb
  · exact by_iconst h hb
  · exact by_iload h hb
  · exact by_aload h hb
  · exact by_istore h hb
  · exact by_astore h hb
  · exact by_ldc h hb
  · exact by_bipush h hb
  · exact by_sipush h hb
  · exact by_goto h hb
  · exact by_ifnonnull h hb
  · exact by_ldc2_w h hb
  · exact by_getstatic h hb
  · exact by_getfield h hb
  · exact by_putfield h hb
  · exact by_invokevirtual h hb
  · exact by_invokespecial h hb
  · exact by_invokestatic h hb
  · exact by_new h hb
  · exact by_anewarray h hb
  · exact by_ifCond h hb
  · exact by_if_icmp h hb
  · exact by_iinc h hb
  · rename_i t
    have ⟨h1, h2⟩ := (Bool.and_eq_true _ _).mp hb
    split at h2
    · exact by_newarray_boolean h hb
    · exact by_newarray_int h hb
    · exact by_newarray_long h hb
    · cases h2
  · cases hb
def im_wk (c : ByteArray) : List (Nat × im_I) → UInt8 → List UInt8 → Bool
  | [], _, _ => true
  | q :: r, b, l => (im_by q.2.1 b.toNat l || decide (decode c q.1 = .ok (q.2.1, im_ln q.2.1 (q.2.2.getD 2 0)))) && (match r with
    | [] => true
    | q2 :: _ => Nat.beq q2.1 (q.1 + im_ln q.2.1 (q.2.2.getD 2 0)) && Nat.ble 1 (im_ln q.2.1 (q.2.2.getD 2 0)) && (match l.drop (im_ln q.2.1 (q.2.2.getD 2 0) - 1) with
      | [] => false
      | b2 :: l2 => im_wk c r b2 l2))
theorem im_wk_ok {c : ByteArray} : ∀ (rs : List (Nat × im_I)) (b : UInt8) (l : List UInt8), (∀ q, rs.head? = some q → c.data.toList.drop q.1 = b :: l) → im_wk c rs b l = true → ∀ q ∈ rs, decode c q.1 = .ok (q.2.1, im_ln q.2.1 (q.2.2.getD 2 0)) := by
  intro rs
  induction rs with
  | nil => intro b l _ _ q hq; cases hq
  | cons q r ih =>
    intro b l hd hw
    have hq := hd q rfl
    unfold im_wk at hw
    have ⟨w1, w2⟩ := (Bool.and_eq_true _ _).mp hw
    have e : decode c q.1 = .ok (q.2.1, im_ln q.2.1 (q.2.2.getD 2 0)) := by
      rcases (Bool.or_eq_true _ _).mp w1 with h | h
      · exact im_by_ok hq h
      · exact of_decide_eq_true h
    intro p hp
    rcases List.mem_cons.mp hp with rfl | hp
    · exact e
    · cases r with
      | nil => cases hp
      | cons q2 r2 =>
        have ⟨w3, w4⟩ := (Bool.and_eq_true _ _).mp w2
        have ⟨w5, w6⟩ := (Bool.and_eq_true _ _).mp w3
        have e5 := Nat.eq_of_beq_eq_true w5
        have e6 := Nat.le_of_ble_eq_true w6
        cases hl : l.drop (im_ln q.2.1 (q.2.2.getD 2 0) - 1) with
        | nil => rw [hl] at w4; cases w4
        | cons b2 l2 =>
          rw [hl] at w4
          refine ih b2 l2 (fun q3 h3 => ?_) w4 p hp
          cases h3
          rw [e5, show q.1 + im_ln q.2.1 (q.2.2.getD 2 0) = (q.1 + 1) + (im_ln q.2.1 (q.2.2.getD 2 0) - 1) by omega, ← List.drop_drop, rd_nx hq, hl]
def im_wkM (M : im_M) : Bool := match M.2.2.2.2.2.2.2.2.flatten with
  | [] => true
  | q :: r => Nat.beq q.1 0 && (match M.2.1.data.toList with
    | [] => false
    | b :: l => im_wk M.2.1 (q :: r) b l)
def im_okC2 (ms : List im_M) (M : im_M) : Bool := M.2.2.2.2.2.2.2.2.all (fun l => l.all (fun q => im_ok2 ms M q.2.1 (q.2.2.getD 0 0) (q.2.2.getD 1 0) (q.2.2.getD 2 0) (q.2.2.getD 3 0) (q.2.2.getD 4 0) q.1))
theorem im_okC_wk {ms : List im_M} {M : im_M} (h1 : im_wkM M = true) (h2 : im_okC2 ms M = true) : im_okC ms M = true := by
  have hd : ∀ q ∈ M.2.2.2.2.2.2.2.2.flatten, decode M.2.1 q.1 = .ok (q.2.1, im_ln q.2.1 (q.2.2.getD 2 0)) := by
    unfold im_wkM at h1
    cases hf : M.2.2.2.2.2.2.2.2.flatten with
    | nil => intro q hq; cases hq
    | cons q r =>
      rw [hf] at h1
      have ⟨a, b⟩ := (Bool.and_eq_true _ _).mp h1
      cases hl : M.2.1.data.toList with
      | nil => rw [hl] at b; cases b
      | cons b0 l0 =>
        rw [hl] at b
        refine im_wk_ok (q :: r) b0 l0 (fun q3 h3 => ?_) b
        cases h3
        rw [Nat.eq_of_beq_eq_true a, hl]; rfl
  unfold im_okC2 at h2
  unfold im_okC
  rw [List.all_eq_true] at h2 ⊢
  intro l hl
  have h3 := h2 l hl
  rw [List.all_eq_true] at h3 ⊢
  intro q hq
  unfold im_okI
  rw [Bool.and_eq_true]
  exact ⟨decide_eq_true (hd q (List.mem_flatten.mpr ⟨l, hl, hq⟩)), h3 q hq⟩
/-- the method's own words, the code's word apart: that one stands in its place as it is -/
def im_okM1 (M : im_M) : Bool := plainName M.1.cls && decide (M.1.cls ≠ "java/lang/invoke/MethodHandle") && decide (M.1.cls ≠ "java/lang/invoke/VarHandle") && decide ((parseMethodDescriptor M.1.desc).map (fun d => d.parameters.length) = some M.2.2.2.2.2.1) && decide (M.2.2.1 ≤ 30) &&
  goodWord (.code M.1 M.2.1 M.2.2.1 M.2.2.2.1) && im_tw (M.2.2.2.2.2.2.2.1.getD 1 0) (.initialized M.1.cls) &&
  (if M.2.2.2.2.2.2.1 then im_tw (M.2.2.2.2.2.2.2.1.getD 2 0) (.static M.1) else im_tw (M.2.2.2.2.2.2.2.1.getD 2 0) (.instanceMethod M.1) && (decide (M.1.name = "<init>") || (im_tw (M.2.2.2.2.2.2.2.1.getD 3 0) (.selects M.1.cls M.1 M.1) && (match vwCl[M.2.2.2.2.1]? with | some r => decide (r.1 = M.1.cls) | none => false))))
theorem im_okM_wk {M : im_M} (h1 : im_okM1 M = true) (h2 : (im_wl.getD (M.2.2.2.2.2.2.2.1.getD 0 0 / 256) [])[M.2.2.2.2.2.2.2.1.getD 0 0 % 256]? = some (.code M.1 M.2.1 M.2.2.1 M.2.2.2.1)) : im_okM M = true := by
  unfold im_okM1 at h1
  unfold im_okM
  have e : im_tw (M.2.2.2.2.2.2.2.1.getD 0 0) (.code M.1 M.2.1 M.2.2.1 M.2.2.2.1) = goodWord (.code M.1 M.2.1 M.2.2.1 M.2.2.2.1) := by
    unfold im_tw
    rw [decide_eq_true h2]
    rfl
  rw [e]
  exact h1
