/-! AN INTERPRETER of the bytecode over lists: places instead of addresses. A reference r below 16 is a thing that was there before (statics, the script, texts); r = 16 + i is cell i of the list of cells. All checks that a row of the kit asks for are made by the interpreter itself: where one fails it answers none. -/
abbrev im_A : Type := List Int32 ⊕ (List Int64 ⊕ List (Option Nat))
abbrev im_E : Type := (Nat × im_A) ⊕ (Nat × List Value)
abbrev im_H : Type := List im_E
abbrev im_L : Type := List (Nat × Value)
abbrev im_C : Type := Nat × im_L × List Value × im_H
/-- one step: a next state; a call (method, arguments with the receiver, rest of the stack); the end -/
abbrev im_O : Type := im_C ⊕ ((Nat × List Value × List Value) ⊕ Option Value)
/-- an instruction, its numbers (target, class, place ..) -/
abbrev im_I : Type := Instr × List Nat
/-- a method: its name, bytes, locals, return type, the class's number (99: none), parameters without the receiver, static or not, places of its words, code by chunks of 16 bytes -/
abbrev im_M : Type := MethodName × ByteArray × Nat × Option FieldType × Nat × Nat × Bool × List Nat × List (List (Nat × im_I))
def im_at (M : im_M) (pc : Nat) : Option im_I :=
  match M.2.2.2.2.2.2.2.2[pc / 16]? with
  | none => none
  | some l => (l.find? (fun q => q.1 == pc)).map (·.2)
def im_lk (lv : im_L) (k : Nat) : Option Value := (lv.find? (fun q => q.1 == k)).map (·.2)
def im_pt (lv : im_L) (k : Nat) (v : Value) : im_L := (k, v) :: lv.filter (fun q => !(q.1 == k) && !(q.1 + 1 == k && q.2.category == 2))
-- what stands on the stack
def im_1i : List Value → Option (Int32 × List Value)
  | .int x :: r => some (x, r)
  | _ => none
def im_1l : List Value → Option (Int64 × List Value)
  | .long x :: r => some (x, r)
  | _ => none
def im_1r : List Value → Option (Nat × List Value)
  | .ref a :: r => some (a, r)
  | _ => none
def im_pop : List Value → Option (Value × List Value)
  | v :: r => some (v, r)
  | _ => none
def im_1v (v : Value) : Option Int32 := match v with
  | .int x => some x
  | _ => none
-- cells
def im_obj (h : im_H) (r ci : Nat) : Option (List Value) :=
  if 16 ≤ r then
    match h[r - 16]? with
    | some (.inr (c, fs)) => if c = ci then some fs else none
    | _ => none
  else none
def im_ia (h : im_H) (r t : Nat) : Option (List Int32) :=
  if 16 ≤ r then
    match h[r - 16]? with
    | some (.inl (c, .inl l)) => if c = t then some l else none
    | _ => none
  else none
def im_la (h : im_H) (r : Nat) : Option (List Int64) :=
  if 16 ≤ r then
    match h[r - 16]? with
    | some (.inl (c, .inr (.inl l))) => if c = 2 then some l else none
    | _ => none
  else none
def im_qa (h : im_H) (r : Nat) : Option (Nat × List (Option Nat)) :=
  if 16 ≤ r then
    match h[r - 16]? with
    | some (.inl (t, .inr (.inr l))) => some (t, l)
    | _ => none
  else none
def im_len (h : im_H) (r : Nat) : Option Nat :=
  if 16 ≤ r then
    match h[r - 16]? with
    | some (.inl (t, .inl l)) => if t < 2 then some l.length else none
    | some (.inl (t, .inr (.inl l))) => if t = 2 then some l.length else none
    | some (.inl (t, .inr (.inr l))) => if 3 ≤ t ∧ t < 8 then some l.length else none
    | _ => none
  else none
/-- is i a place of a row of n -/
def im_in (i : Int32) (n : Nat) : Bool := !(decide (i < 0) || decide (n ≤ i.toNatClampNeg))
def im_rf (o : Option Nat) : Value := match o with
  | some r => .ref r
  | none => .null
/-- may v lie in a field of this type as it is -/
def im_fit (ty : FieldType) (v : Value) : Bool := match ty, v with
  | .int, .int _ => true
  | .boolean, .int x => decide (x = 0) || decide (x = 1)
  | .array _, .ref _ => true
  | .array _, .null => true
  | .object _, .ref _ => true
  | .object _, .null => true
  | _, _ => false
def im_cat (st : List Value) : Bool := decide ((st.map fun v => v.category).sum ≤ 8)
/-- the first n of a stack, the deepest first, and the rest -/
def im_take (n : Nat) (st : List Value) : Option (List Value × List Value) := if n ≤ st.length then some ((st.take n).reverse, st.drop n) else none
def im_nx (pc : Nat) (lv : im_L) (st : List Value) (h : im_H) : Option im_O := some (.inl (pc, lv, st, h))
def im_bin (pc : Nat) (lv : im_L) (st : List Value) (h : im_H) (f : Int32 → Int32 → Option Int32) : Option im_O :=
  (im_1i st).bind fun q => (im_1i q.2).bind fun w => (f w.1 q.1).bind fun z => im_nx (pc + 1) lv (.int z :: w.2) h
def im_binl (pc : Nat) (lv : im_L) (st : List Value) (h : im_H) (f : Int64 → Int64 → Value) : Option im_O :=
  (im_1l st).bind fun q => (im_1l q.2).bind fun w => im_nx (pc + 1) lv (f w.1 q.1 :: w.2) h
def im_shl (pc : Nat) (lv : im_L) (st : List Value) (h : im_H) (f : Int64 → Int32 → Int64) : Option im_O :=
  (im_1i st).bind fun q => (im_1l q.2).bind fun w => im_nx (pc + 1) lv (.long (f w.1 q.1) :: w.2) h
def im_un (pc : Nat) (lv : im_L) (st : List Value) (h : im_H) (f : Int32 → Value) : Option im_O :=
  (im_1i st).bind fun q => im_nx (pc + 1) lv (f q.1 :: q.2) h
def im_cnd (cnd : ClassFile.Cond) (x y : Int32) : Bool := match cnd with
  | .eq => decide (x = y)
  | .ne => decide (¬ x = y)
  | .lt => decide (x < y)
  | .ge => decide (y ≤ x)
  | .gt => decide (y < x)
  | .le => decide (x ≤ y)
def im_ld (pc : Nat) (lv : im_L) (st : List Value) (h : im_H) (k : Nat) : Option im_O := (im_lk lv k).bind fun v => im_nx pc lv (v :: st) h
def im_isI (v : Value) : Bool := match v with
  | .int _ => true
  | _ => false
def im_isL (v : Value) : Bool := match v with
  | .long _ => true
  | _ => false
def im_isR (v : Value) : Bool := match v with
  | .ref _ => true
  | _ => false
/-- what the interpreter knows beside the cells: the static rows by their places, the classes' field types, the long constants, the texts -/
abbrev im_K : Type := List (List Int32) × List (List FieldType) × List Int64 × List (List Int32)
def im_cpy {α : Type} (l0 l1 : List α) (sp dp n : Nat) : List α := l1.take dp ++ ((l0.drop sp).take n ++ l1.drop (dp + n))
def im_bits (l : List Int32) : Bool := l.all (fun x => decide (x = 0) || decide (x = 1))
/-- System.arraycopy, rows of ints (t = 0) or of booleans (t = 1) -/
def im_copy (pc : Nat) (lv : im_L) (st : List Value) (h : im_H) (t : Nat) : Option im_O :=
  (im_1i st).bind fun n => (im_1i n.2).bind fun dp => (im_1r dp.2).bind fun d => (im_1i d.2).bind fun sp => (im_1r sp.2).bind fun s0 =>
  (im_ia h s0.1 t).bind fun l0 => (im_ia h d.1 t).bind fun l1 =>
  if !(decide (n.1 < 0)) && !(decide (dp.1 < 0)) && !(decide (sp.1 < 0)) && decide (sp.1.toNatClampNeg + n.1.toNatClampNeg ≤ l0.length) && decide (dp.1.toNatClampNeg + n.1.toNatClampNeg ≤ l1.length) && (t == 0 || im_bits l0) && im_cat s0.2 then
    im_nx (pc + 3) lv s0.2 (h.set (d.1 - 16) (.inl (t, .inl (im_cpy l0 l1 sp.1.toNatClampNeg dp.1.toNatClampNeg n.1.toNatClampNeg))))
  else none
def im_ret (ret : Option FieldType) (st : List Value) : Option im_O :=
  (im_1i st).bind fun q => match ret, q.2 with
  | some .int, [] => some (.inr (.inr (some (.int q.1))))
  | some .boolean, [] => if q.1 = 0 ∨ q.1 = 1 then some (.inr (.inr (some (.int q.1)))) else none
  | _, _ => none
/-- the outer row of new int[N][K] -/
def im_mul (a N : Nat) : List (Option Nat) := (List.range N).map (fun i => some (a + 1 + i))
def im_ins (K : im_K) (M : im_M) (i : Instr) (a b w z : Nat) (pc : Nat) (lv : im_L) (st : List Value) (h : im_H) : Option im_O :=
  match i with
  | .aload_n k => (im_lk lv k).bind fun v => if im_isR v then im_nx (pc + 1) lv (v :: st) h else none
  | .aload k => (im_lk lv k).bind fun v => if im_isR v then im_nx (pc + 2) lv (v :: st) h else none
  | .iload_n k => (im_lk lv k).bind fun v => if im_isI v then im_nx (pc + 1) lv (v :: st) h else none
  | .iload k => (im_lk lv k).bind fun v => if im_isI v then im_nx (pc + 2) lv (v :: st) h else none
  | .lload_n k => (im_lk lv k).bind fun v => if im_isL v then im_nx (pc + 1) lv (v :: st) h else none
  | .iconst n => im_nx (pc + 1) lv (.int (Int32.ofInt n) :: st) h
  | .bipush n => im_nx (pc + 2) lv (.int (Int8.ofInt n).toInt32 :: st) h
  | .sipush n => im_nx (pc + 3) lv (.int (Int16.ofInt n).toInt32 :: st) h
  | .aconst_null => im_nx (pc + 1) lv (.null :: st) h
  | .ldc _ => if a < 4 then im_nx (pc + 2) lv (.ref (6 + a) :: st) h else none
  | .ldc2_w _ => (K.2.2.1[a]?).bind fun x => im_nx (pc + 3) lv (.long x :: st) h
  | .istore_n k => (im_1i st).bind fun q => if k < M.2.2.1 then im_nx (pc + 1) (im_pt lv k (.int q.1)) q.2 h else none
  | .istore k => (im_1i st).bind fun q => if k < M.2.2.1 then im_nx (pc + 2) (im_pt lv k (.int q.1)) q.2 h else none
  | .astore_n k => (im_1r st).bind fun q => if k < M.2.2.1 then im_nx (pc + 1) (im_pt lv k (.ref q.1)) q.2 h else none
  | .astore k => (im_1r st).bind fun q => if k < M.2.2.1 then im_nx (pc + 2) (im_pt lv k (.ref q.1)) q.2 h else none
  | .iinc k n => (im_lk lv k).bind fun v => (im_1v v).bind fun x => if k < M.2.2.1 then im_nx (pc + 3) (im_pt lv k (.int (x + Int32.ofInt n))) st h else none
  | .pop => (im_pop st).bind fun q => if q.1.category = 1 then im_nx (pc + 1) lv q.2 h else none
  | .pop2 => (im_pop st).bind fun q => if q.1.category = 2 then im_nx (pc + 1) lv q.2 h else none
  | .dup => (im_pop st).bind fun q => if q.1.category = 1 then im_nx (pc + 1) lv (q.1 :: q.1 :: q.2) h else none
  | .dup2 => (im_pop st).bind fun q => (im_pop q.2).bind fun u => if q.1.category = 1 ∧ u.1.category = 1 then im_nx (pc + 1) lv (q.1 :: u.1 :: q.1 :: u.1 :: u.2) h else none
  | .iadd => im_bin pc lv st h fun x y => some (x + y)
  | .isub => im_bin pc lv st h fun x y => some (x - y)
  | .imul => im_bin pc lv st h fun x y => some (x * y)
  | .iand => im_bin pc lv st h fun x y => some (x &&& y)
  | .ior => im_bin pc lv st h fun x y => some (x ||| y)
  | .ishl => im_bin pc lv st h fun x y => some (x <<< (y &&& 31))
  | .ishr => im_bin pc lv st h fun x y => some (x >>> (y &&& 31))
  | .idiv => im_bin pc lv st h fun x y => if y = 0 then none else some (x / y)
  | .irem => im_bin pc lv st h fun x y => if y = 0 then none else some (x - x / y * y)
  | .land => im_binl pc lv st h fun x y => .long (x &&& y)
  | .lor => im_binl pc lv st h fun x y => .long (x ||| y)
  | .lcmp => im_binl pc lv st h fun x y => .int (lg_cmp x y)
  | .lshl => im_shl pc lv st h fun x y => x <<< (y.toInt64 &&& 63)
  | .lshr => im_shl pc lv st h fun x y => x >>> (y.toInt64 &&& 63)
  | .i2l => im_un pc lv st h fun x => .long x.toInt64
  | .i2b => im_un pc lv st h fun x => .int x.toInt8.toInt32
  | .i2s => im_un pc lv st h fun x => .int x.toInt16.toInt32
  | .l2i => (im_1l st).bind fun q => im_nx (pc + 1) lv (.int q.1.toInt32 :: q.2) h
  | .ifCond cnd _ => (im_1i st).bind fun q => im_nx (bif im_cnd cnd q.1 0 then a else pc + 3) lv q.2 h
  | .if_icmp cnd _ => (im_1i st).bind fun q => (im_1i q.2).bind fun u => im_nx (bif im_cnd cnd u.1 q.1 then a else pc + 3) lv u.2 h
  | .ifnonnull _ => match st with
    | .ref _ :: r => im_nx a lv r h
    | .null :: r => im_nx (pc + 3) lv r h
    | _ => none
  | .goto _ => im_nx a lv st h
  | .tableswitch dflt lo hi offs => (im_1i st).bind fun q =>
      if q.1.toInt < lo ∨ hi < q.1.toInt then (if (pc : Int) + dflt = (a : Int) then im_nx a lv q.2 h else none)
      else (offs[(q.1.toInt - lo).toNat]?).bind fun off => if (pc : Int) + off = ((((pc : Int) + off).toNat : Nat) : Int) then im_nx ((pc : Int) + off).toNat lv q.2 h else none
  | .lookupswitch dflt ps => (im_1i st).bind fun q =>
      if (ps.toList.zip (ps.toList.drop 1)).all (fun (a, next) => a.1 < next.1) = true ∧ (pc : Int) + Op.lookupswitch.offset ps.toList dflt q.1.toInt = ((((pc : Int) + Op.lookupswitch.offset ps.toList dflt q.1.toInt).toNat : Nat) : Int) then im_nx ((pc : Int) + Op.lookupswitch.offset ps.toList dflt q.1.toInt).toNat lv q.2 h else none
  | .getfield _ => (im_1r st).bind fun q => (im_obj h q.1 a).bind fun fs => (fs[b]?).bind fun v => im_nx (pc + 3) lv (v :: q.2) h
  | .putfield _ => (im_pop st).bind fun v => (im_1r v.2).bind fun q => (im_obj h q.1 a).bind fun fs => (K.2.1[a]?).bind fun tys => (tys[b]?).bind fun ty =>
      if im_fit ty v.1 = true ∧ b < fs.length then im_nx (pc + 3) lv q.2 (h.set (q.1 - 16) (.inr (a, fs.set b v.1))) else none
  | .getstatic _ => if a < 5 then im_nx (pc + 3) lv (.ref a :: st) h else none
  | .new _ => (K.2.1[a]?).bind fun tys => im_nx (pc + 3) lv (.ref (16 + h.length) :: st) (h ++ [.inr (a, tys.map defaultValue)])
  | .newarray _ => (im_1i st).bind fun q => if q.1 < 0 ∨ 4096 < q.1.toNatClampNeg then none else
      match a with
      | 0 => im_nx (pc + 2) lv (.ref (16 + h.length) :: q.2) (h ++ [.inl (0, .inl (List.replicate q.1.toNatClampNeg 0))])
      | 1 => im_nx (pc + 2) lv (.ref (16 + h.length) :: q.2) (h ++ [.inl (1, .inl (List.replicate q.1.toNatClampNeg 0))])
      | 2 => im_nx (pc + 2) lv (.ref (16 + h.length) :: q.2) (h ++ [.inl (2, .inr (.inl (List.replicate q.1.toNatClampNeg 0)))])
      | _ => none
  | .anewarray _ => (im_1i st).bind fun q => if q.1 < 0 ∨ 4096 < q.1.toNatClampNeg then none else im_nx (pc + 3) lv (.ref (16 + h.length) :: q.2) (h ++ [.inl (a, .inr (.inr (List.replicate q.1.toNatClampNeg none)))])
  | .multianewarray _ _ => (im_1i st).bind fun k => (im_1i k.2).bind fun n => if k.1 < 0 ∨ 4096 < k.1.toNatClampNeg ∨ n.1 < 0 ∨ 4096 < n.1.toNatClampNeg then none else
      im_nx (pc + 4) lv (.ref (16 + h.length) :: n.2) ((h ++ [.inl (7, .inr (.inr (im_mul (16 + h.length) n.1.toNatClampNeg)))]) ++ List.replicate n.1.toNatClampNeg (.inl (0, .inl (List.replicate k.1.toNatClampNeg 0))))
  | .arraylength => (im_1r st).bind fun q => (if 16 ≤ q.1 then im_len h q.1 else (K.1[q.1]?).map List.length).bind fun n => im_nx (pc + 1) lv (.int (Int32.ofNat n) :: q.2) h
  | .iaload => (im_1i st).bind fun q => (im_1r q.2).bind fun r => (if 16 ≤ r.1 then im_ia h r.1 0 else K.1[r.1]?).bind fun l =>
      if im_in q.1 l.length then im_nx (pc + 1) lv (.int (l.getD q.1.toNatClampNeg 0) :: r.2) h else none
  | .baload => (im_1i st).bind fun q => (im_1r q.2).bind fun r => (im_ia h r.1 1).bind fun l =>
      if im_in q.1 l.length then im_nx (pc + 1) lv (.int (l.getD q.1.toNatClampNeg 0) :: r.2) h else none
  | .laload => (im_1i st).bind fun q => (im_1r q.2).bind fun r => (im_la h r.1).bind fun l =>
      if im_in q.1 l.length then im_nx (pc + 1) lv (.long (l.getD q.1.toNatClampNeg 0) :: r.2) h else none
  | .aaload => (im_1i st).bind fun q => (im_1r q.2).bind fun r => (im_qa h r.1).bind fun l =>
      if im_in q.1 l.2.length ∧ 3 ≤ l.1 ∧ l.1 < 8 then im_nx (pc + 1) lv (im_rf (l.2.getD q.1.toNatClampNeg none) :: r.2) h else none
  | .iastore => (im_1i st).bind fun x => (im_1i x.2).bind fun q => (im_1r q.2).bind fun r => (im_ia h r.1 0).bind fun l =>
      if im_in q.1 l.length then im_nx (pc + 1) lv r.2 (h.set (r.1 - 16) (.inl (0, .inl (l.set q.1.toNatClampNeg x.1)))) else none
  | .bastore => (im_1i st).bind fun x => (im_1i x.2).bind fun q => (im_1r q.2).bind fun r => (im_ia h r.1 1).bind fun l =>
      if im_in q.1 l.length ∧ (x.1 = 0 ∨ x.1 = 1) then im_nx (pc + 1) lv r.2 (h.set (r.1 - 16) (.inl (1, .inl (l.set q.1.toNatClampNeg x.1)))) else none
  | .lastore => (im_1l st).bind fun x => (im_1i x.2).bind fun q => (im_1r q.2).bind fun r => (im_la h r.1).bind fun l =>
      if im_in q.1 l.length then im_nx (pc + 1) lv r.2 (h.set (r.1 - 16) (.inl (2, .inr (.inl (l.set q.1.toNatClampNeg x.1))))) else none
  | .aastore => (im_1r st).bind fun x => (im_1i x.2).bind fun q => (im_1r q.2).bind fun r => (im_qa h r.1).bind fun l => (im_obj h x.1 (match l.1 with | 3 => 7 | 4 => 5 | 5 => 1 | 6 => 8 | _ => 99)).bind fun _ =>
      if im_in q.1 l.2.length ∧ 3 ≤ l.1 ∧ l.1 < 7 then im_nx (pc + 1) lv r.2 (h.set (r.1 - 16) (.inl (l.1, .inr (.inr (l.2.set q.1.toNatClampNeg (some x.1)))))) else none
  | .invokestatic _ => match b with
      | 0 => (im_take w st).bind fun q => if im_cat q.2 then some (.inr (.inl (a, q.1, q.2))) else none
      | 3 => im_copy pc lv st h z
      | 5 => (im_1i st).bind fun q => (im_1i q.2).bind fun u => if im_cat u.2 then im_nx (pc + 3) lv (.int (if u.1 < q.1 then q.1 else u.1) :: u.2) h else none
      | 6 => (im_1i st).bind fun q => (im_1i q.2).bind fun u => if im_cat u.2 then im_nx (pc + 3) lv (.int (if q.1 < u.1 then q.1 else u.1) :: u.2) h else none
      | _ => none
  | .invokespecial _ => match b with
      | 0 => (im_take w st).bind fun q => (im_1r q.2).bind fun r => if im_cat r.2 then some (.inr (.inl (a, .ref r.1 :: q.1, r.2))) else none
      | 4 => (im_1r st).bind fun r => if im_cat r.2 then im_nx (pc + 3) lv r.2 h else none
      | _ => none
  | .invokevirtual _ => match b with
      | 0 => (im_take w st).bind fun q => (im_1r q.2).bind fun r => (im_obj h r.1 z).bind fun _ => if im_cat r.2 then some (.inr (.inl (a, .ref r.1 :: q.1, r.2))) else none
      | 1 => (im_1r st).bind fun r => if 6 ≤ r.1 ∧ im_cat r.2 then (K.2.2.2[r.1 - 6]?).bind fun l => im_nx (pc + 3) lv (.int (Int32.ofNat l.length) :: r.2) h else none
      | 2 => (im_1i st).bind fun q => (im_1r q.2).bind fun r => if 6 ≤ r.1 ∧ im_cat r.2 then (K.2.2.2[r.1 - 6]?).bind fun l => if im_in q.1 l.length then im_nx (pc + 3) lv (.int (l.getD q.1.toNatClampNeg 0) :: r.2) h else none else none
      | _ => none
  | .ireturn => im_ret M.2.2.2.1 st
  | .lreturn => (im_1l st).bind fun q => match M.2.2.2.1, q.2 with
      | some .long, [] => some (.inr (.inr (some (.long q.1))))
      | _, _ => none
  | .return_ => match M.2.2.2.1, st with
      | none, [] => some (.inr (.inr none))
      | _, _ => none
  | _ => none
def im_step (K : im_K) (M : im_M) (c : im_C) : Option im_O :=
  match im_at M c.1 with
  | none => none
  | some q => im_ins K M q.1 (q.2.getD 0 0) (q.2.getD 1 0) (q.2.getD 2 0) (q.2.getD 3 0) c.1 c.2.1 c.2.2.1 c.2.2.2
/-- a body, with what calls do given -/
def im_run (K : im_K) (M : im_M) (call : Nat → List Value → im_H → Option (Option Value × im_H)) : Nat → im_C → Option (Option Value × im_H)
  | 0, _ => none
  | n + 1, c => match im_step K M c with
    | none => none
    | some (.inl c2) => im_run K M call n c2
    | some (.inr (.inl q)) => match call q.1 q.2.1 c.2.2.2 with
      | none => none
      | some r => im_run K M call n (c.1 + 3, c.2.1, r.1.toList ++ q.2.2, r.2)
    | some (.inr (.inr v)) => some (v, c.2.2.2)
/-- a method of the table, calls at most d deep -/
def im_call (K : im_K) (ms : List im_M) : Nat → Nat → Nat → List Value → im_H → Option (Option Value × im_H)
  | 0, _, _, _, _ => none
  | d + 1, f, j, as, h => match ms[j]? with
    | none => none
    | some M => if (lg_sl as).length ≤ M.2.2.1 then im_run K M (im_call K ms d f) f (0, lv_args 0 as, [], h) else none
/-- what a list of cells takes of the room -/
def im_sl1 (e : im_E) : Nat := match e with
  | .inl (_, .inl l) => l.length
  | .inl (_, .inr (.inl l)) => l.length
  | .inl (_, .inr (.inr l)) => l.length
  | .inr (_, fs) => fs.length
def im_sl (h : im_H) : Nat := (h.map im_sl1).sum
