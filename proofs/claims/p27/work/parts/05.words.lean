/-! THE WORDS that stand for all methods, the facts that stand for all states, what a row of the tables must meet -/
def im_ws : List Cond := lw_tbl.filter goodWord
def im_nw : List Cond := [(Cond.methodLinkNest "RubbleCity$City" (70 : Nat) ({ cls := "RubbleCity$Row", name := "<init>", desc := "()V" } : MethodName) "RubbleCity"),
  (Cond.methodLinkNest "RubbleCity$City" (71 : Nat) ({ cls := "RubbleCity$Rail", name := "<init>", desc := "()V" } : MethodName) "RubbleCity"),
  (Cond.methodLinkNest "RubbleCity" (35 : Nat) ({ cls := "RubbleCity$Tape", name := "<init>", desc := "()V" } : MethodName) "RubbleCity"),
  (Cond.methodLinkNest "RubbleCity" (55 : Nat) ({ cls := "RubbleCity$Pulls", name := "<init>", desc := "()V" } : MethodName) "RubbleCity"),
  (Cond.methodLinkNest "RubbleCity" (62 : Nat) ({ cls := "RubbleCity$Rooms", name := "<init>", desc := "()V" } : MethodName) "RubbleCity"),
  (Cond.methodLinkNest "RubbleCity" (69 : Nat) ({ cls := "RubbleCity$Raids", name := "<init>", desc := "()V" } : MethodName) "RubbleCity"),
  (Cond.methodLinkNest "RubbleCity" (87 : Nat) ({ cls := "RubbleCity$Order", name := "<init>", desc := "()V" } : MethodName) "RubbleCity"),
  (Cond.methodLinkNest "RubbleCity" (88 : Nat) ({ cls := "RubbleCity$Sheet", name := "<init>", desc := "()V" } : MethodName) "RubbleCity"),
  (Cond.fieldLinkNest "RubbleCity$City" (180 : Nat) "RubbleCity" "BRICKS_OF" "[I" "RubbleCity"),
  (Cond.fieldLinkNest "RubbleCity$City" (183 : Nat) "RubbleCity" "BEAMS_OF" "[I" "RubbleCity"),
  (Cond.fieldLinkNest "RubbleCity$City" (186 : Nat) "RubbleCity" "IRON_OF" "[I" "RubbleCity"),
  (Cond.fieldLinkNest "RubbleCity$City" (84 : Nat) "RubbleCity" "WEAK_OF" "[I" "RubbleCity"),
  (Cond.methodLinkNest "RubbleCity$Raids" (34 : Nat) ({ cls := "RubbleCity", name := "cellOnSide", desc := "(II)I" } : MethodName) "RubbleCity")]
def im_sn : List String := ["BRICKS_OF", "BEAMS_OF", "IRON_OF", "WEAK_OF", "KIND_ABOVE"]
def im_AOA (U : State) : Prop := (Cond.arrayOver (.array .int)).before #[] U = true
/-- what stands all the time: the classes, the nest's links, the arrays' classes, the statics, the texts -/
def im_SF (D : va_G) (ca : Nat → ClassId) (ad : Nat → Nat) (base : Nat) (K : im_K) (U : State) (H : Heap) : Prop :=
  va_K D vwCl (im_tys ca) U ∧ (∀ w ∈ im_nw, va_Nw w U) ∧ (va_AO RX7 U ∧ va_AO RX5 U ∧ va_AO RX1 U ∧ va_AO RX8 U ∧ im_AOA U) ∧
  (∀ (k : Nat) (n : String), im_sn[k]? = some n → va_Z "RubbleCity" n "[I" (.ref (ad k)) (im_up base) U H) ∧
  (∀ (k : Nat) (l : List Int32), K.1[k]? = some l → va_T .int (ad k) l.length (fun j => .int (l.getD j 0)) (im_up base) U H) ∧
  (∀ (k : Nat) (x : String × Nat × String), im_str[k]? = some x → vk_R x.1 x.2.1 x.2.2 (ad (6 + k)) U) ∧
  vk_S 4 (im_txt.map List.length) im_txt (fun k => ad (6 + k)) (fun k => ad (10 + k)) (im_up base) U H ∧
  va_Z "java/lang/String" "COMPACT_STRINGS" "Z" (.int 1) (im_up base) U H ∧
  va_Zq "jdk/internal/util/Preconditions" "SIOOBE_FORMATTER" "Ljava/util/function/BiFunction;" (im_up base) U H
/-- the length of an instruction (of a switch: as told) -/
def im_ln (i : Instr) (w : Nat) : Nat := match i with
  | .bipush _ | .iload _ | .istore _ | .aload _ | .astore _ | .newarray _ | .ldc _ => 2
  | .sipush _ | .getfield _ | .putfield _ | .getstatic _ | .goto _ | .ifCond _ _ | .if_icmp _ _ | .ifnonnull _ | .iinc _ _ | .ldc2_w _ | .new _ | .anewarray _ | .invokestatic _ | .invokevirtual _ | .invokespecial _ => 3
  | .multianewarray _ _ => 4
  | .tableswitch _ _ _ _ | .lookupswitch _ _ => w
  | _ => 1
/-- the words by chunks of at most 256: place x is chunk x / 256, place x % 256 there -/
def im_wl : List (List Cond) := [k2_sels lw_privs, tables_1_1, tables_1_2, tables_1_3, tables_1_4, tables_1_5, tables_1_6, tables_1_7]
def im_tw (x : Nat) (c : Cond) : Bool := decide ((im_wl.getD (x / 256) [])[x % 256]? = some c) && goodWord c
def im_cn (t : Nat) : String := match t with
  | 3 => RX7
  | 4 => RX5
  | 5 => RX1
  | 6 => RX8
  | _ => ""
def im_ty (t : Nat) : FieldType := match t with
  | 0 => .int
  | 1 => .boolean
  | _ => .long
def im_ok2 (ms : List im_M) (M : im_M) (i : Instr) (a b w z x pc : Nat) : Bool := match i with
  | .goto off => decide ((pc : Int) + off = (a : Int))
  | .ifnonnull off => decide ((pc : Int) + off = (a : Int))
  | .ifCond _ off => decide ((pc : Int) + off = (a : Int))
  | .if_icmp _ off => decide ((pc : Int) + off = (a : Int))
  | .getfield idx => match vwCl[a]? with
    | some r => decide (b < r.2.2) && im_tw x (.fieldLink M.1.cls idx (r.2.1 b).1 (r.2.1 b).2.1 (r.2.1 b).2.2.1)
    | none => false
  | .putfield idx => match vwCl[a]? with
    | some r => decide (b < r.2.2) && im_tw x (.fieldLink M.1.cls idx (r.2.1 b).1 (r.2.1 b).2.1 (r.2.1 b).2.2.1) && (!(r.2.1 b).2.2.2 || (decide (M.1.name = "<init>") && decide ((r.2.1 b).1 = M.1.cls)))
    | none => false
  | .getstatic idx => match im_sn[a]? with
    | some n => if b = 0 then im_tw x (.fieldLink M.1.cls idx "RubbleCity" n "[I") else decide (Cond.fieldLinkNest M.1.cls idx "RubbleCity" n "[I" "RubbleCity" ∈ im_nw)
    | none => false
  | .new idx => match vwCl[a]? with
    | some r => im_tw x (.classLink M.1.cls idx r.1)
    | none => false
  | .newarray t => decide (a < 3) && decide (newarray.typeOf t = im_ty a)
  | .anewarray idx => decide (3 ≤ a) && decide (a < 7) && im_tw x (.classLink M.1.cls idx (im_cn a))
  | .multianewarray idx n => decide (n = 2) && im_tw x (.classLink M.1.cls idx "[[I")
  | .ldc idx => match im_str[a]? with
    | some t => decide (M.1.cls = t.1) && decide (idx = t.2.1)
    | none => false
  | .ldc2_w idx => match im_lc[a]? with
    | some v => im_tw x (.constantLong M.1.cls idx v)
    | none => false
  | .invokevirtual idx => match b with
    | 0 => match ms[a]? with
      | some N => !N.2.2.2.2.2.2.1 && decide (N.2.2.2.2.1 = z) && decide (N.2.2.2.2.2.1 = w) && !decide (N.1.name = "<init>") && im_tw x (.methodLink M.1.cls idx N.1)
      | none => false
    | 1 => im_tw x (.methodLink M.1.cls idx yJ0_length_8abf5)
    | 2 => im_tw x (.methodLink M.1.cls idx yJ0_charAt_5068e)
    | _ => false
  | .invokestatic idx => match b with
    | 0 => match ms[a]? with
      | some N => N.2.2.2.2.2.2.1 && decide (N.2.2.2.2.2.1 = w) && (im_tw x (.methodLink M.1.cls idx N.1) || decide (Cond.methodLinkNest M.1.cls idx N.1 "RubbleCity" ∈ im_nw))
      | none => false
    | 3 => decide (z < 2) && im_tw x (.methodLink M.1.cls idx arraycopyName)
    | 5 => im_tw x (.methodLink M.1.cls idx Lib.Math.max.name)
    | 6 => im_tw x (.methodLink M.1.cls idx Lib.Math.min.name)
    | _ => false
  | .invokespecial idx => match b with
    | 0 => match ms[a]? with
      | some N => !N.2.2.2.2.2.2.1 && decide (N.2.2.2.2.2.1 = w) && decide (N.1.name = "<init>") && (im_tw x (.methodLink M.1.cls idx N.1) || decide (Cond.methodLinkNest M.1.cls idx N.1 "RubbleCity" ∈ im_nw))
      | none => false
    | 4 => im_tw x (.methodLink M.1.cls idx objectInit)
    | _ => false
  | _ => true
def im_okI (ms : List im_M) (M : im_M) (pc : Nat) (q : im_I) : Bool := decide (decode M.2.1 pc = .ok (q.1, im_ln q.1 (q.2.getD 2 0))) && im_ok2 ms M q.1 (q.2.getD 0 0) (q.2.getD 1 0) (q.2.getD 2 0) (q.2.getD 3 0) (q.2.getD 4 0) pc
def im_okC (ms : List im_M) (M : im_M) : Bool := M.2.2.2.2.2.2.2.2.all (fun l => l.all (fun q => im_okI ms M q.1 q.2))
/-- the method's own words -/
def im_okM (M : im_M) : Bool := plainName M.1.cls && decide (M.1.cls ≠ "java/lang/invoke/MethodHandle") && decide (M.1.cls ≠ "java/lang/invoke/VarHandle") && decide ((parseMethodDescriptor M.1.desc).map (fun d => d.parameters.length) = some M.2.2.2.2.2.1) && decide (M.2.2.1 ≤ 30) &&
  im_tw (M.2.2.2.2.2.2.2.1.getD 0 0) (.code M.1 M.2.1 M.2.2.1 M.2.2.2.1) && im_tw (M.2.2.2.2.2.2.2.1.getD 1 0) (.initialized M.1.cls) &&
  (if M.2.2.2.2.2.2.1 then im_tw (M.2.2.2.2.2.2.2.1.getD 2 0) (.static M.1) else im_tw (M.2.2.2.2.2.2.2.1.getD 2 0) (.instanceMethod M.1) && (decide (M.1.name = "<init>") || (im_tw (M.2.2.2.2.2.2.2.1.getD 3 0) (.selects M.1.cls M.1 M.1) && (match vwCl[M.2.2.2.2.1]? with | some r => decide (r.1 = M.1.cls) | none => false))))
