-- ===== PART A: goes FIRST, ahead of the names: the tables' words, and 'selects' of the private methods out of them =====
/-- a private method of a class that the tables say can be made, by its rows of tables_1 -/
def lw_okq (q : MethodName × Nat) : Prop := (q.1.cls ≠ "java/lang/invoke/MethodHandle" ∧ q.1.cls ≠ "java/lang/invoke/VarHandle") ∧ Cond.instantiable q.1.cls q.2 ∈ tables_1 ∧ Cond.privateMethod q.1 ∈ tables_1 ∧ Cond.instanceMethod q.1 ∈ tables_1
theorem lw_p0 : lw_okq (⟨"RubbleCity", "refusalOfHands", "(ILRubbleCity$Sheet;)I"⟩, 14) := ⟨⟨by decide +kernel, by decide +kernel⟩, List.mem_of_getElem? (i := 22) (by decide +kernel), List.mem_of_getElem? (i := 543) (by decide +kernel), List.mem_of_getElem? (i := 544) (by decide +kernel)⟩
theorem lw_p1 : lw_okq (⟨"RubbleCity", "areWallsToPull", "(LRubbleCity$Sheet;)Z"⟩, 14) := ⟨⟨by decide +kernel, by decide +kernel⟩, List.mem_of_getElem? (i := 22) (by decide +kernel), List.mem_of_getElem? (i := 799) (by decide +kernel), List.mem_of_getElem? (i := 800) (by decide +kernel)⟩
theorem lw_p2 : lw_okq (⟨"RubbleCity$Rooms", "choose", "(LRubbleCity$State;IIII)V"⟩, 9) := ⟨⟨by decide +kernel, by decide +kernel⟩, List.mem_of_getElem? (i := 294) (by decide +kernel), List.mem_of_getElem? (i := 839) (by decide +kernel), List.mem_of_getElem? (i := 840) (by decide +kernel)⟩
theorem lw_p3 : lw_okq (⟨"RubbleCity", "personFrom", "(LRubbleCity$Sheet;I)I"⟩, 14) := ⟨⟨by decide +kernel, by decide +kernel⟩, List.mem_of_getElem? (i := 22) (by decide +kernel), List.mem_of_getElem? (i := 985) (by decide +kernel), List.mem_of_getElem? (i := 986) (by decide +kernel)⟩
theorem lw_p4 : lw_okq (⟨"RubbleCityModel", "isPerson", "(I)Z"⟩, 66) := ⟨⟨by decide +kernel, by decide +kernel⟩, List.mem_of_getElem? (i := 999) (by decide +kernel), List.mem_of_getElem? (i := 1235) (by decide +kernel), List.mem_of_getElem? (i := 1236) (by decide +kernel)⟩
theorem lw_p5 : lw_okq (⟨"RubbleCityModel", "barred", "(II)I"⟩, 66) := ⟨⟨by decide +kernel, by decide +kernel⟩, List.mem_of_getElem? (i := 999) (by decide +kernel), List.mem_of_getElem? (i := 1261) (by decide +kernel), List.mem_of_getElem? (i := 1262) (by decide +kernel)⟩
theorem lw_p6 : lw_okq (⟨"RubbleCityModel", "isInOther", "(II)Z"⟩, 66) := ⟨⟨by decide +kernel, by decide +kernel⟩, List.mem_of_getElem? (i := 999) (by decide +kernel), List.mem_of_getElem? (i := 1265) (by decide +kernel), List.mem_of_getElem? (i := 1266) (by decide +kernel)⟩
theorem lw_p7 : lw_okq (⟨"RubbleCityModel", "line", "(I)Z"⟩, 66) := ⟨⟨by decide +kernel, by decide +kernel⟩, List.mem_of_getElem? (i := 999) (by decide +kernel), List.mem_of_getElem? (i := 1286) (by decide +kernel), List.mem_of_getElem? (i := 1287) (by decide +kernel)⟩
theorem lw_p8 : lw_okq (⟨"RubbleCityModel", "wordOf", "(II)I"⟩, 66) := ⟨⟨by decide +kernel, by decide +kernel⟩, List.mem_of_getElem? (i := 999) (by decide +kernel), List.mem_of_getElem? (i := 1290) (by decide +kernel), List.mem_of_getElem? (i := 1291) (by decide +kernel)⟩
theorem lw_p9 : lw_okq (⟨"RubbleCityModel", "byteHere", "()I"⟩, 66) := ⟨⟨by decide +kernel, by decide +kernel⟩, List.mem_of_getElem? (i := 999) (by decide +kernel), List.mem_of_getElem? (i := 1294) (by decide +kernel), List.mem_of_getElem? (i := 1295) (by decide +kernel)⟩
theorem lw_p10 : lw_okq (⟨"RubbleCityModel", "number", "()I"⟩, 66) := ⟨⟨by decide +kernel, by decide +kernel⟩, List.mem_of_getElem? (i := 999) (by decide +kernel), List.mem_of_getElem? (i := 1298) (by decide +kernel), List.mem_of_getElem? (i := 1299) (by decide +kernel)⟩
theorem lw_p11 : lw_okq (⟨"RubbleCityModel", "test", "(I)Z"⟩, 66) := ⟨⟨by decide +kernel, by decide +kernel⟩, List.mem_of_getElem? (i := 999) (by decide +kernel), List.mem_of_getElem? (i := 1302) (by decide +kernel), List.mem_of_getElem? (i := 1303) (by decide +kernel)⟩
theorem lw_p12 : lw_okq (⟨"RubbleCityModel", "saysOf", "(II)I"⟩, 66) := ⟨⟨by decide +kernel, by decide +kernel⟩, List.mem_of_getElem? (i := 999) (by decide +kernel), List.mem_of_getElem? (i := 1314) (by decide +kernel), List.mem_of_getElem? (i := 1315) (by decide +kernel)⟩
theorem lw_p13 : lw_okq (⟨"RubbleCityModel", "holds", "(II)Z"⟩, 66) := ⟨⟨by decide +kernel, by decide +kernel⟩, List.mem_of_getElem? (i := 999) (by decide +kernel), List.mem_of_getElem? (i := 1318) (by decide +kernel), List.mem_of_getElem? (i := 1319) (by decide +kernel)⟩
theorem lw_p14 : lw_okq (⟨"RubbleCityModel", "fieldOf", "(II)I"⟩, 66) := ⟨⟨by decide +kernel, by decide +kernel⟩, List.mem_of_getElem? (i := 999) (by decide +kernel), List.mem_of_getElem? (i := 1322) (by decide +kernel), List.mem_of_getElem? (i := 1323) (by decide +kernel)⟩
theorem lw_p15 : lw_okq (⟨"RubbleCityModel", "goes", "()V"⟩, 66) := ⟨⟨by decide +kernel, by decide +kernel⟩, List.mem_of_getElem? (i := 999) (by decide +kernel), List.mem_of_getElem? (i := 1330) (by decide +kernel), List.mem_of_getElem? (i := 1331) (by decide +kernel)⟩
def lw_privs_1 : List (MethodName × Nat) := [(⟨"RubbleCity", "refusalOfHands", "(ILRubbleCity$Sheet;)I"⟩, 14), (⟨"RubbleCity", "areWallsToPull", "(LRubbleCity$Sheet;)Z"⟩, 14), (⟨"RubbleCity$Rooms", "choose", "(LRubbleCity$State;IIII)V"⟩, 9), (⟨"RubbleCity", "personFrom", "(LRubbleCity$Sheet;I)I"⟩, 14), (⟨"RubbleCityModel", "isPerson", "(I)Z"⟩, 66), (⟨"RubbleCityModel", "barred", "(II)I"⟩, 66), (⟨"RubbleCityModel", "isInOther", "(II)Z"⟩, 66), (⟨"RubbleCityModel", "line", "(I)Z"⟩, 66), (⟨"RubbleCityModel", "wordOf", "(II)I"⟩, 66), (⟨"RubbleCityModel", "byteHere", "()I"⟩, 66), (⟨"RubbleCityModel", "number", "()I"⟩, 66), (⟨"RubbleCityModel", "test", "(I)Z"⟩, 66), (⟨"RubbleCityModel", "saysOf", "(II)I"⟩, 66), (⟨"RubbleCityModel", "holds", "(II)Z"⟩, 66), (⟨"RubbleCityModel", "fieldOf", "(II)I"⟩, 66), (⟨"RubbleCityModel", "goes", "()V"⟩, 66)]
theorem lw_r1 : ∀ q ∈ lw_privs_1, lw_okq q := List.forall_mem_cons.mpr ⟨lw_p0, List.forall_mem_cons.mpr ⟨lw_p1, List.forall_mem_cons.mpr ⟨lw_p2, List.forall_mem_cons.mpr ⟨lw_p3, List.forall_mem_cons.mpr ⟨lw_p4, List.forall_mem_cons.mpr ⟨lw_p5, List.forall_mem_cons.mpr ⟨lw_p6, List.forall_mem_cons.mpr ⟨lw_p7, List.forall_mem_cons.mpr ⟨lw_p8, List.forall_mem_cons.mpr ⟨lw_p9, List.forall_mem_cons.mpr ⟨lw_p10, List.forall_mem_cons.mpr ⟨lw_p11, List.forall_mem_cons.mpr ⟨lw_p12, List.forall_mem_cons.mpr ⟨lw_p13, List.forall_mem_cons.mpr ⟨lw_p14, List.forall_mem_cons.mpr ⟨lw_p15, fun _ h => absurd h List.not_mem_nil⟩⟩⟩⟩⟩⟩⟩⟩⟩⟩⟩⟩⟩⟩⟩⟩
theorem lw_p16 : lw_okq (⟨"RubbleCityModel", "goesRow", "(I)V"⟩, 66) := ⟨⟨by decide +kernel, by decide +kernel⟩, List.mem_of_getElem? (i := 999) (by decide +kernel), List.mem_of_getElem? (i := 1334) (by decide +kernel), List.mem_of_getElem? (i := 1335) (by decide +kernel)⟩
theorem lw_p17 : lw_okq (⟨"RubbleCityModel", "passes", "(I)I"⟩, 66) := ⟨⟨by decide +kernel, by decide +kernel⟩, List.mem_of_getElem? (i := 999) (by decide +kernel), List.mem_of_getElem? (i := 1338) (by decide +kernel), List.mem_of_getElem? (i := 1339) (by decide +kernel)⟩
theorem lw_p18 : lw_okq (⟨"RubbleCityModel", "worksOf", "(I)I"⟩, 66) := ⟨⟨by decide +kernel, by decide +kernel⟩, List.mem_of_getElem? (i := 999) (by decide +kernel), List.mem_of_getElem? (i := 1342) (by decide +kernel), List.mem_of_getElem? (i := 1343) (by decide +kernel)⟩
theorem lw_p19 : lw_okq (⟨"RubbleCityModel", "comes", "(II)V"⟩, 66) := ⟨⟨by decide +kernel, by decide +kernel⟩, List.mem_of_getElem? (i := 999) (by decide +kernel), List.mem_of_getElem? (i := 1346) (by decide +kernel), List.mem_of_getElem? (i := 1347) (by decide +kernel)⟩
theorem lw_p20 : lw_okq (⟨"RubbleCityModel", "goesRail", "(I)V"⟩, 66) := ⟨⟨by decide +kernel, by decide +kernel⟩, List.mem_of_getElem? (i := 999) (by decide +kernel), List.mem_of_getElem? (i := 1350) (by decide +kernel), List.mem_of_getElem? (i := 1351) (by decide +kernel)⟩
theorem lw_p21 : lw_okq (⟨"RubbleCityModel", "wears", "(I)Z"⟩, 66) := ⟨⟨by decide +kernel, by decide +kernel⟩, List.mem_of_getElem? (i := 999) (by decide +kernel), List.mem_of_getElem? (i := 1354) (by decide +kernel), List.mem_of_getElem? (i := 1355) (by decide +kernel)⟩
theorem lw_p22 : lw_okq (⟨"RubbleCityModel", "weakOf", "(I)I"⟩, 66) := ⟨⟨by decide +kernel, by decide +kernel⟩, List.mem_of_getElem? (i := 999) (by decide +kernel), List.mem_of_getElem? (i := 1358) (by decide +kernel), List.mem_of_getElem? (i := 1359) (by decide +kernel)⟩
theorem lw_p23 : lw_okq (⟨"RubbleCityModel", "falls", "(I)V"⟩, 66) := ⟨⟨by decide +kernel, by decide +kernel⟩, List.mem_of_getElem? (i := 999) (by decide +kernel), List.mem_of_getElem? (i := 1362) (by decide +kernel), List.mem_of_getElem? (i := 1363) (by decide +kernel)⟩
theorem lw_p24 : lw_okq (⟨"RubbleCityModel", "isAt", "(I)I"⟩, 66) := ⟨⟨by decide +kernel, by decide +kernel⟩, List.mem_of_getElem? (i := 999) (by decide +kernel), List.mem_of_getElem? (i := 1366) (by decide +kernel), List.mem_of_getElem? (i := 1367) (by decide +kernel)⟩
theorem lw_p25 : lw_okq (⟨"RubbleCityModel", "isWall", "(I)Z"⟩, 66) := ⟨⟨by decide +kernel, by decide +kernel⟩, List.mem_of_getElem? (i := 999) (by decide +kernel), List.mem_of_getElem? (i := 1394) (by decide +kernel), List.mem_of_getElem? (i := 1395) (by decide +kernel)⟩
theorem lw_p26 : lw_okq (⟨"RubbleCityModel", "sum", "(II)I"⟩, 66) := ⟨⟨by decide +kernel, by decide +kernel⟩, List.mem_of_getElem? (i := 999) (by decide +kernel), List.mem_of_getElem? (i := 1402) (by decide +kernel), List.mem_of_getElem? (i := 1403) (by decide +kernel)⟩
theorem lw_p27 : lw_okq (⟨"RubbleCityModel", "late", "(II)I"⟩, 66) := ⟨⟨by decide +kernel, by decide +kernel⟩, List.mem_of_getElem? (i := 999) (by decide +kernel), List.mem_of_getElem? (i := 1414) (by decide +kernel), List.mem_of_getElem? (i := 1415) (by decide +kernel)⟩
theorem lw_p28 : lw_okq (⟨"RubbleCityModel", "nextOrder", "(I)Z"⟩, 66) := ⟨⟨by decide +kernel, by decide +kernel⟩, List.mem_of_getElem? (i := 999) (by decide +kernel), List.mem_of_getElem? (i := 1418) (by decide +kernel), List.mem_of_getElem? (i := 1419) (by decide +kernel)⟩
theorem lw_p29 : lw_okq (⟨"RubbleCityModel", "isRoom", "(I)Z"⟩, 66) := ⟨⟨by decide +kernel, by decide +kernel⟩, List.mem_of_getElem? (i := 999) (by decide +kernel), List.mem_of_getElem? (i := 1438) (by decide +kernel), List.mem_of_getElem? (i := 1439) (by decide +kernel)⟩
theorem lw_p30 : lw_okq (⟨"RubbleCityModel", "leftOver", "(I)I"⟩, 66) := ⟨⟨by decide +kernel, by decide +kernel⟩, List.mem_of_getElem? (i := 999) (by decide +kernel), List.mem_of_getElem? (i := 1454) (by decide +kernel), List.mem_of_getElem? (i := 1455) (by decide +kernel)⟩
theorem lw_p31 : lw_okq (⟨"RubbleCityModel", "isOver", "(II)Z"⟩, 66) := ⟨⟨by decide +kernel, by decide +kernel⟩, List.mem_of_getElem? (i := 999) (by decide +kernel), List.mem_of_getElem? (i := 1458) (by decide +kernel), List.mem_of_getElem? (i := 1459) (by decide +kernel)⟩
def lw_privs_2 : List (MethodName × Nat) := [(⟨"RubbleCityModel", "goesRow", "(I)V"⟩, 66), (⟨"RubbleCityModel", "passes", "(I)I"⟩, 66), (⟨"RubbleCityModel", "worksOf", "(I)I"⟩, 66), (⟨"RubbleCityModel", "comes", "(II)V"⟩, 66), (⟨"RubbleCityModel", "goesRail", "(I)V"⟩, 66), (⟨"RubbleCityModel", "wears", "(I)Z"⟩, 66), (⟨"RubbleCityModel", "weakOf", "(I)I"⟩, 66), (⟨"RubbleCityModel", "falls", "(I)V"⟩, 66), (⟨"RubbleCityModel", "isAt", "(I)I"⟩, 66), (⟨"RubbleCityModel", "isWall", "(I)Z"⟩, 66), (⟨"RubbleCityModel", "sum", "(II)I"⟩, 66), (⟨"RubbleCityModel", "late", "(II)I"⟩, 66), (⟨"RubbleCityModel", "nextOrder", "(I)Z"⟩, 66), (⟨"RubbleCityModel", "isRoom", "(I)Z"⟩, 66), (⟨"RubbleCityModel", "leftOver", "(I)I"⟩, 66), (⟨"RubbleCityModel", "isOver", "(II)Z"⟩, 66)]
theorem lw_r2 : ∀ q ∈ lw_privs_2, lw_okq q := List.forall_mem_cons.mpr ⟨lw_p16, List.forall_mem_cons.mpr ⟨lw_p17, List.forall_mem_cons.mpr ⟨lw_p18, List.forall_mem_cons.mpr ⟨lw_p19, List.forall_mem_cons.mpr ⟨lw_p20, List.forall_mem_cons.mpr ⟨lw_p21, List.forall_mem_cons.mpr ⟨lw_p22, List.forall_mem_cons.mpr ⟨lw_p23, List.forall_mem_cons.mpr ⟨lw_p24, List.forall_mem_cons.mpr ⟨lw_p25, List.forall_mem_cons.mpr ⟨lw_p26, List.forall_mem_cons.mpr ⟨lw_p27, List.forall_mem_cons.mpr ⟨lw_p28, List.forall_mem_cons.mpr ⟨lw_p29, List.forall_mem_cons.mpr ⟨lw_p30, List.forall_mem_cons.mpr ⟨lw_p31, fun _ h => absurd h List.not_mem_nil⟩⟩⟩⟩⟩⟩⟩⟩⟩⟩⟩⟩⟩⟩⟩⟩
theorem lw_p32 : lw_okq (⟨"RubbleCityModel", "likelyIn", "(I)I"⟩, 66) := ⟨⟨by decide +kernel, by decide +kernel⟩, List.mem_of_getElem? (i := 999) (by decide +kernel), List.mem_of_getElem? (i := 1467) (by decide +kernel), List.mem_of_getElem? (i := 1468) (by decide +kernel)⟩
theorem lw_p33 : lw_okq (⟨"RubbleCityModel", "lays", "(Z)V"⟩, 66) := ⟨⟨by decide +kernel, by decide +kernel⟩, List.mem_of_getElem? (i := 999) (by decide +kernel), List.mem_of_getElem? (i := 1496) (by decide +kernel), List.mem_of_getElem? (i := 1497) (by decide +kernel)⟩
def lw_privs_3 : List (MethodName × Nat) := [(⟨"RubbleCityModel", "likelyIn", "(I)I"⟩, 66), (⟨"RubbleCityModel", "lays", "(Z)V"⟩, 66)]
theorem lw_r3 : ∀ q ∈ lw_privs_3, lw_okq q := List.forall_mem_cons.mpr ⟨lw_p32, List.forall_mem_cons.mpr ⟨lw_p33, fun _ h => absurd h List.not_mem_nil⟩⟩
def lw_privs : List (MethodName × Nat) := lw_privs_1 ++ (lw_privs_2 ++ (lw_privs_3))
def lw_tbl : List Cond := k2_sels lw_privs ++ tables_1
theorem lw_privs_ok : ∀ q ∈ lw_privs, lw_okq q := by
  show ∀ q ∈ lw_privs_1 ++ (lw_privs_2 ++ (lw_privs_3)), lw_okq q
  exact List.forall_mem_append.mpr ⟨lw_r1, List.forall_mem_append.mpr ⟨lw_r2, lw_r3⟩⟩

/-! ===== BEGIN printed: names, fields, word lists, decode rows ===== -/
def RX0 : String := "RubbleCity$City"
def TX0 : u_T := fun k => match k with
  | 0 => ("RubbleCity$City", "kinds", "[I", true)
  | 1 => ("RubbleCity$City", "tip", "I", false)
  | 2 => ("RubbleCity$City", "peopleCount", "I", false)
  | 3 => ("RubbleCity$City", "strong", "[I", true)
  | 4 => ("RubbleCity$City", "age", "[I", true)
  | 5 => ("RubbleCity$City", "kin", "[I", true)
  | 6 => ("RubbleCity$City", "rowOf", "[I", true)
  | 7 => ("RubbleCity$City", "rows", "[LRubbleCity$Row;", true)
  | 8 => ("RubbleCity$City", "rails", "[LRubbleCity$Rail;", true)
  | 9 => ("RubbleCity$City", "wallCount", "I", false)
  | 10 => ("RubbleCity$City", "wallCell", "[I", true)
  | 11 => ("RubbleCity$City", "wallFallsTo", "[I", true)
  | 12 => ("RubbleCity$City", "rule", "LRubbleCity$Order;", false)
  | _ => ("RubbleCity$City", "facts", "[I", true)
def tyX0 : Nat → FieldType := fun k => match k with
  | 0 => .array .int
  | 1 => .int
  | 2 => .int
  | 3 => .array .int
  | 4 => .array .int
  | 5 => .array .int
  | 6 => .array .int
  | 7 => .array (.object "RubbleCity$Row")
  | 8 => .array (.object "RubbleCity$Rail")
  | 9 => .int
  | 10 => .array .int
  | 11 => .array .int
  | 12 => .object "RubbleCity$Order"
  | _ => .array .int
abbrev wsX00 : List Cond := u_ws RX0 TX0 14
theorem nmX0 : ∀ a, a < 14 → ∀ b, b < 14 → a ≠ b → (TX0 a).2.1 ≠ (TX0 b).2.1 := by decide +kernel
theorem tyX0_ok : ∀ k, k < 14 → parseFieldDescriptor (TX0 k).2.2.1 = some (tyX0 k) := by decide +kernel
abbrev cX0_init : ByteArray := prog_2_method_1_code
def yX0_init : MethodName := ⟨RX0, "<init>", "()V"⟩
abbrev cX0_setHands : ByteArray := prog_2_method_2_code
def yX0_setHands : MethodName := ⟨RX0, "setHands", "(ILRubbleCity$Sheet;)V"⟩
abbrev cX0_weakOf : ByteArray := prog_2_method_3_code
def yX0_weakOf : MethodName := ⟨RX0, "weakOf", "(I)I"⟩
abbrev cX0_said : ByteArray := prog_2_method_4_code
def yX0_said : MethodName := ⟨RX0, "said", "(LRubbleCity$State;II)I"⟩
abbrev cX0_passes : ByteArray := prog_2_method_5_code
def yX0_passes : MethodName := ⟨RX0, "passes", "(LRubbleCity$State;I)I"⟩
abbrev cX0_cellByDay : ByteArray := prog_2_method_6_code
def yX0_cellByDay : MethodName := ⟨RX0, "cellByDay", "(LRubbleCity$State;I)I"⟩
abbrev cX0_livingKin : ByteArray := prog_2_method_7_code
def yX0_livingKin : MethodName := ⟨RX0, "livingKin", "(LRubbleCity$State;I)I"⟩
abbrev cX0_playDay : ByteArray := prog_2_method_8_code
def yX0_playDay : MethodName := ⟨RX0, "playDay", "(LRubbleCity$State;)V"⟩
abbrev cX0_workRow : ByteArray := prog_2_method_9_code
def yX0_workRow : MethodName := ⟨RX0, "workRow", "(LRubbleCity$State;I)V"⟩
abbrev cX0_passOn : ByteArray := prog_2_method_10_code
def yX0_passOn : MethodName := ⟨RX0, "passOn", "(LRubbleCity$State;LRubbleCity$Row;I)V"⟩
abbrev cX0_bring : ByteArray := prog_2_method_11_code
def yX0_bring : MethodName := ⟨RX0, "bring", "(LRubbleCity$State;II)V"⟩
abbrev cX0_driveRail : ByteArray := prog_2_method_12_code
def yX0_driveRail : MethodName := ⟨RX0, "driveRail", "(LRubbleCity$State;I)V"⟩
abbrev cX0_wearOf : ByteArray := prog_2_method_13_code
def yX0_wearOf : MethodName := ⟨RX0, "wearOf", "(LRubbleCity$State;I)I"⟩
abbrev cX0_wearsOut : ByteArray := prog_2_method_14_code
def yX0_wearsOut : MethodName := ⟨RX0, "wearsOut", "(LRubbleCity$State;I)Z"⟩
abbrev cX0_fall : ByteArray := prog_2_method_15_code
def yX0_fall : MethodName := ⟨RX0, "fall", "(LRubbleCity$State;I)I"⟩
abbrev cX0_heal : ByteArray := prog_2_method_16_code
def yX0_heal : MethodName := ⟨RX0, "heal", "(LRubbleCity$State;)V"⟩
abbrev cX0_daysUntilFall : ByteArray := prog_2_method_17_code
def yX0_daysUntilFall : MethodName := ⟨RX0, "daysUntilFall", "(LRubbleCity$State;I)I"⟩
def RX1 : String := "RubbleCity$Order"
def TX1 : u_T := fun k => match k with
  | 0 => ("RubbleCity$Order", "size", "I", false)
  | 1 => ("RubbleCity$Order", "keys", "[I", true)
  | 2 => ("RubbleCity$Order", "numbers", "[I", true)
  | 3 => ("RubbleCity$Order", "testCounts", "[I", true)
  | 4 => ("RubbleCity$Order", "fields", "[I", true)
  | 5 => ("RubbleCity$Order", "signs", "[I", true)
  | _ => ("RubbleCity$Order", "bounds", "[I", true)
def tyX1 : Nat → FieldType := fun k => match k with
  | 0 => .int
  | 1 => .array .int
  | 2 => .array .int
  | 3 => .array .int
  | 4 => .array .int
  | 5 => .array .int
  | _ => .array .int
abbrev wsX10 : List Cond := u_ws RX1 TX1 7
theorem nmX1 : ∀ a, a < 7 → ∀ b, b < 7 → a ≠ b → (TX1 a).2.1 ≠ (TX1 b).2.1 := by decide +kernel
theorem tyX1_ok : ∀ k, k < 7 → parseFieldDescriptor (TX1 k).2.2.1 = some (tyX1 k) := by decide +kernel
abbrev cX1_init : ByteArray := prog_3_method_1_code
def yX1_init : MethodName := ⟨RX1, "<init>", "()V"⟩
abbrev cX1_holds : ByteArray := prog_3_method_2_code
def yX1_holds : MethodName := ⟨RX1, "holds", "(I[I)Z"⟩
def RX2 : String := "RubbleCity$Papers"
def TX2 : u_T := fun k => match k with
  | 0 => ("RubbleCity$Papers", "count", "I", false)
  | 1 => ("RubbleCity$Papers", "lot", "[I", true)
  | 2 => ("RubbleCity$Papers", "owner", "[I", true)
  | 3 => ("RubbleCity$Papers", "from", "[I", true)
  | 4 => ("RubbleCity$Papers", "told", "[I", true)
  | _ => ("RubbleCity$Papers", "burnt", "[I", true)
def tyX2 : Nat → FieldType := fun k => match k with
  | 0 => .int
  | 1 => .array .int
  | 2 => .array .int
  | 3 => .array .int
  | 4 => .array .int
  | _ => .array .int
abbrev wsX20 : List Cond := u_ws RX2 TX2 6
theorem nmX2 : ∀ a, a < 6 → ∀ b, b < 6 → a ≠ b → (TX2 a).2.1 ≠ (TX2 b).2.1 := by decide +kernel
theorem tyX2_ok : ∀ k, k < 6 → parseFieldDescriptor (TX2 k).2.2.1 = some (tyX2 k) := by decide +kernel
abbrev cX2_init : ByteArray := prog_4_method_1_code
def yX2_init : MethodName := ⟨RX2, "<init>", "()V"⟩
abbrev cX2_ownerOf : ByteArray := prog_4_method_2_code
def yX2_ownerOf : MethodName := ⟨RX2, "ownerOf", "(III)I"⟩
abbrev cX2_isKnown : ByteArray := prog_4_method_3_code
def yX2_isKnown : MethodName := ⟨RX2, "isKnown", "(II)Z"⟩
def RX3 : String := "RubbleCity$Pulls"
def TX3 : u_T := fun k => match k with
  | 0 => ("RubbleCity$Pulls", "size", "I", false)
  | 1 => ("RubbleCity$Pulls", "found", "[I", true)
  | 2 => ("RubbleCity$Pulls", "places", "[I", true)
  | _ => ("RubbleCity$Pulls", "daysLeft", "[I", true)
def tyX3 : Nat → FieldType := fun k => match k with
  | 0 => .int
  | 1 => .array .int
  | 2 => .array .int
  | _ => .array .int
abbrev wsX30 : List Cond := u_ws RX3 TX3 4
theorem nmX3 : ∀ a, a < 4 → ∀ b, b < 4 → a ≠ b → (TX3 a).2.1 ≠ (TX3 b).2.1 := by decide +kernel
theorem tyX3_ok : ∀ k, k < 4 → parseFieldDescriptor (TX3 k).2.2.1 = some (tyX3 k) := by decide +kernel
abbrev cX3_init : ByteArray := prog_5_method_1_code
def yX3_init : MethodName := ⟨RX3, "<init>", "()V"⟩
abbrev cX3_find : ByteArray := prog_5_method_2_code
def yX3_find : MethodName := ⟨RX3, "find", "(LRubbleCity$Sheet;)I"⟩
abbrev cX3_countLate : ByteArray := prog_5_method_3_code
def yX3_countLate : MethodName := ⟨RX3, "countLate", "()I"⟩
abbrev cX3_keep : ByteArray := prog_5_method_4_code
def yX3_keep : MethodName := ⟨RX3, "keep", "(LRubbleCity$Sheet;)V"⟩
abbrev cX3_goOn : ByteArray := prog_5_method_5_code
def yX3_goOn : MethodName := ⟨RX3, "goOn", "()Z"⟩
abbrev cX3_swap : ByteArray := prog_5_method_6_code
def yX3_swap : MethodName := ⟨RX3, "swap", "(II)V"⟩
def RX4 : String := "RubbleCity$Raids"
def TX4 : u_T := fun k => match k with
  | 0 => ("RubbleCity$Raids", "count", "I", false)
  | 1 => ("RubbleCity$Raids", "cells", "[[I", true)
  | 2 => ("RubbleCity$Raids", "length", "[I", true)
  | 3 => ("RubbleCity$Raids", "shellsLeft", "[I", true)
  | 4 => ("RubbleCity$Raids", "unprobed", "[I", true)
  | _ => ("RubbleCity$Raids", "probed", "[Z", true)
def tyX4 : Nat → FieldType := fun k => match k with
  | 0 => .int
  | 1 => .array (.array .int)
  | 2 => .array .int
  | 3 => .array .int
  | 4 => .array .int
  | _ => .array .boolean
abbrev wsX40 : List Cond := u_ws RX4 TX4 6
theorem nmX4 : ∀ a, a < 6 → ∀ b, b < 6 → a ≠ b → (TX4 a).2.1 ≠ (TX4 b).2.1 := by decide +kernel
theorem tyX4_ok : ∀ k, k < 6 → parseFieldDescriptor (TX4 k).2.2.1 = some (tyX4 k) := by decide +kernel
abbrev cX4_init : ByteArray := prog_6_method_1_code
def yX4_init : MethodName := ⟨RX4, "<init>", "()V"⟩
abbrev cX4_begin : ByteArray := prog_6_method_2_code
def yX4_begin : MethodName := ⟨RX4, "begin", "(IIII)I"⟩
abbrev cX4_isOver : ByteArray := prog_6_method_3_code
def yX4_isOver : MethodName := ⟨RX4, "isOver", "(II)Z"⟩
abbrev cX4_leftOver : ByteArray := prog_6_method_4_code
def yX4_leftOver : MethodName := ⟨RX4, "leftOver", "(I)I"⟩
abbrev cX4_find : ByteArray := prog_6_method_5_code
def yX4_find : MethodName := ⟨RX4, "find", "(II)V"⟩
abbrev cX4_chance : ByteArray := prog_6_method_6_code
def yX4_chance : MethodName := ⟨RX4, "chance", "(I)I"⟩
abbrev cX4_likeliest : ByteArray := prog_6_method_7_code
def yX4_likeliest : MethodName := ⟨RX4, "likeliest", "()I"⟩
def RX5 : String := "RubbleCity$Rail"
def TX5 : u_T := fun k => match k with
  | 0 => ("RubbleCity$Rail", "size", "I", false)
  | 1 => ("RubbleCity$Rail", "cars", "I", false)
  | 2 => ("RubbleCity$Rail", "first", "I", false)
  | _ => ("RubbleCity$Rail", "last", "I", false)
def tyX5 : Nat → FieldType := fun k => match k with
  | 0 => .int
  | 1 => .int
  | 2 => .int
  | _ => .int
abbrev wsX50 : List Cond := u_ws RX5 TX5 4
theorem nmX5 : ∀ a, a < 4 → ∀ b, b < 4 → a ≠ b → (TX5 a).2.1 ≠ (TX5 b).2.1 := by decide +kernel
theorem tyX5_ok : ∀ k, k < 4 → parseFieldDescriptor (TX5 k).2.2.1 = some (tyX5 k) := by decide +kernel
abbrev cX5_init : ByteArray := prog_7_method_1_code
def yX5_init : MethodName := ⟨RX5, "<init>", "()V"⟩
def RX6 : String := "RubbleCity$Rooms"
def TX6 : u_T := fun k => match k with
  | 0 => ("RubbleCity$Rooms", "count", "I", false)
  | 1 => ("RubbleCity$Rooms", "cell", "[I", true)
  | 2 => ("RubbleCity$Rooms", "bricks", "[I", true)
  | 3 => ("RubbleCity$Rooms", "beams", "[I", true)
  | 4 => ("RubbleCity$Rooms", "worth", "[I", true)
  | 5 => ("RubbleCity$Rooms", "bestSet", "I", false)
  | 6 => ("RubbleCity$Rooms", "bestWorth", "I", false)
  | 7 => ("RubbleCity$Rooms", "bricksLeft", "I", false)
  | _ => ("RubbleCity$Rooms", "beamsLeft", "I", false)
def tyX6 : Nat → FieldType := fun k => match k with
  | 0 => .int
  | 1 => .array .int
  | 2 => .array .int
  | 3 => .array .int
  | 4 => .array .int
  | 5 => .int
  | 6 => .int
  | 7 => .int
  | _ => .int
abbrev wsX60 : List Cond := u_ws RX6 TX6 9
theorem nmX6 : ∀ a, a < 9 → ∀ b, b < 9 → a ≠ b → (TX6 a).2.1 ≠ (TX6 b).2.1 := by decide +kernel
theorem tyX6_ok : ∀ k, k < 9 → parseFieldDescriptor (TX6 k).2.2.1 = some (tyX6 k) := by decide +kernel
abbrev cX6_init : ByteArray := prog_8_method_1_code
def yX6_init : MethodName := ⟨RX6, "<init>", "()V"⟩
abbrev cX6_findBest : ByteArray := prog_8_method_2_code
def yX6_findBest : MethodName := ⟨RX6, "findBest", "(LRubbleCity$State;I)I"⟩
abbrev cX6_choose : ByteArray := prog_8_method_3_code
def yX6_choose : MethodName := ⟨RX6, "choose", "(LRubbleCity$State;IIII)V"⟩
def RX7 : String := "RubbleCity$Row"
def TX7 : u_T := fun k => match k with
  | 0 => ("RubbleCity$Row", "hands", "[I", true)
  | 1 => ("RubbleCity$Row", "size", "I", false)
  | 2 => ("RubbleCity$Row", "from", "I", false)
  | _ => ("RubbleCity$Row", "to", "I", false)
def tyX7 : Nat → FieldType := fun k => match k with
  | 0 => .array .int
  | 1 => .int
  | 2 => .int
  | _ => .int
abbrev wsX70 : List Cond := u_ws RX7 TX7 4
theorem nmX7 : ∀ a, a < 4 → ∀ b, b < 4 → a ≠ b → (TX7 a).2.1 ≠ (TX7 b).2.1 := by decide +kernel
theorem tyX7_ok : ∀ k, k < 4 → parseFieldDescriptor (TX7 k).2.2.1 = some (tyX7 k) := by decide +kernel
abbrev cX7_init : ByteArray := prog_9_method_1_code
def yX7_init : MethodName := ⟨RX7, "<init>", "()V"⟩
def RX8 : String := "RubbleCity$Sheet"
def TX8 : u_T := fun k => match k with
  | 0 => ("RubbleCity$Sheet", "sort", "I", false)
  | 1 => ("RubbleCity$Sheet", "size", "I", false)
  | _ => ("RubbleCity$Sheet", "numbers", "[I", true)
def tyX8 : Nat → FieldType := fun k => match k with
  | 0 => .int
  | 1 => .int
  | _ => .array .int
abbrev wsX80 : List Cond := u_ws RX8 TX8 3
theorem nmX8 : ∀ a, a < 3 → ∀ b, b < 3 → a ≠ b → (TX8 a).2.1 ≠ (TX8 b).2.1 := by decide +kernel
theorem tyX8_ok : ∀ k, k < 3 → parseFieldDescriptor (TX8 k).2.2.1 = some (tyX8 k) := by decide +kernel
abbrev cX8_init : ByteArray := prog_10_method_1_code
def yX8_init : MethodName := ⟨RX8, "<init>", "()V"⟩
abbrev cX8_isMissing : ByteArray := prog_10_method_2_code
def yX8_isMissing : MethodName := ⟨RX8, "isMissing", "()Z"⟩
abbrev cX8_put : ByteArray := prog_10_method_3_code
def yX8_put : MethodName := ⟨RX8, "put", "(II)V"⟩
abbrev cX8_holds : ByteArray := prog_10_method_4_code
def yX8_holds : MethodName := ⟨RX8, "holds", "(II)Z"⟩
abbrev cX8_hasAheadOf : ByteArray := prog_10_method_5_code
def yX8_hasAheadOf : MethodName := ⟨RX8, "hasAheadOf", "(II)Z"⟩
def RX9 : String := "RubbleCity$State"
def TX9 : u_T := fun k => match k with
  | 0 => ("RubbleCity$State", "day", "I", false)
  | 1 => ("RubbleCity$State", "wet", "I", false)
  | 2 => ("RubbleCity$State", "wind", "I", false)
  | 3 => ("RubbleCity$State", "tipped", "I", false)
  | 4 => ("RubbleCity$State", "dust", "I", false)
  | 5 => ("RubbleCity$State", "kept", "[I", true)
  | 6 => ("RubbleCity$State", "loads", "[I", true)
  | 7 => ("RubbleCity$State", "home", "[I", true)
  | 8 => ("RubbleCity$State", "hurt", "[I", true)
  | 9 => ("RubbleCity$State", "worked", "[I", true)
  | 10 => ("RubbleCity$State", "given", "[I", true)
  | 11 => ("RubbleCity$State", "dead", "[Z", true)
  | 12 => ("RubbleCity$State", "stands", "[I", true)
  | 13 => ("RubbleCity$State", "up", "[Z", true)
  | 14 => ("RubbleCity$State", "warm", "[Z", true)
  | 15 => ("RubbleCity$State", "rowLoads", "[I", true)
  | 16 => ("RubbleCity$State", "rowStuck", "[I", true)
  | _ => ("RubbleCity$State", "railLoads", "[I", true)
def tyX9 : Nat → FieldType := fun k => match k with
  | 0 => .int
  | 1 => .int
  | 2 => .int
  | 3 => .int
  | 4 => .int
  | 5 => .array .int
  | 6 => .array .int
  | 7 => .array .int
  | 8 => .array .int
  | 9 => .array .int
  | 10 => .array .int
  | 11 => .array .boolean
  | 12 => .array .int
  | 13 => .array .boolean
  | 14 => .array .boolean
  | 15 => .array .int
  | 16 => .array .int
  | _ => .array .int
abbrev wsX90 : List Cond := u_ws RX9 TX9 18
theorem nmX9 : ∀ a, a < 18 → ∀ b, b < 18 → a ≠ b → (TX9 a).2.1 ≠ (TX9 b).2.1 := by decide +kernel
theorem tyX9_ok : ∀ k, k < 18 → parseFieldDescriptor (TX9 k).2.2.1 = some (tyX9 k) := by decide +kernel
abbrev cX9_init : ByteArray := prog_11_method_1_code
def yX9_init : MethodName := ⟨RX9, "<init>", "()V"⟩
abbrev cX9_become : ByteArray := prog_11_method_2_code
def yX9_become : MethodName := ⟨RX9, "become", "(LRubbleCity$State;)V"⟩
abbrev cX9_allLoads : ByteArray := prog_11_method_3_code
def yX9_allLoads : MethodName := ⟨RX9, "allLoads", "()I"⟩
abbrev cX9_allDead : ByteArray := prog_11_method_4_code
def yX9_allDead : MethodName := ⟨RX9, "allDead", "()I"⟩
abbrev cX9_allHurt : ByteArray := prog_11_method_5_code
def yX9_allHurt : MethodName := ⟨RX9, "allHurt", "()I"⟩
def RX10 : String := "RubbleCity$Tape"
def TX10 : u_T := fun k => match k with
  | 0 => ("RubbleCity$Tape", "bytes", "[I", true)
  | 1 => ("RubbleCity$Tape", "size", "I", false)
  | _ => ("RubbleCity$Tape", "place", "I", false)
def tyX10 : Nat → FieldType := fun k => match k with
  | 0 => .array .int
  | 1 => .int
  | _ => .int
abbrev wsX100 : List Cond := u_ws RX10 TX10 3
theorem nmX10 : ∀ a, a < 3 → ∀ b, b < 3 → a ≠ b → (TX10 a).2.1 ≠ (TX10 b).2.1 := by decide +kernel
theorem tyX10_ok : ∀ k, k < 3 → parseFieldDescriptor (TX10 k).2.2.1 = some (tyX10 k) := by decide +kernel
abbrev cX10_init : ByteArray := prog_12_method_1_code
def yX10_init : MethodName := ⟨RX10, "<init>", "()V"⟩
abbrev cX10_readInto : ByteArray := prog_12_method_2_code
def yX10_readInto : MethodName := ⟨RX10, "readInto", "(LRubbleCity$Order;)Z"⟩
abbrev cX10_readLine : ByteArray := prog_12_method_3_code
def yX10_readLine : MethodName := ⟨RX10, "readLine", "(LRubbleCity$Order;I)Z"⟩
abbrev cX10_readIf : ByteArray := prog_12_method_4_code
def yX10_readIf : MethodName := ⟨RX10, "readIf", "()Z"⟩
abbrev cX10_readTests : ByteArray := prog_12_method_5_code
def yX10_readTests : MethodName := ⟨RX10, "readTests", "(LRubbleCity$Order;I)Z"⟩
abbrev cX10_readTest : ByteArray := prog_12_method_6_code
def yX10_readTest : MethodName := ⟨RX10, "readTest", "(LRubbleCity$Order;I)Z"⟩
abbrev cX10_readSign : ByteArray := prog_12_method_7_code
def yX10_readSign : MethodName := ⟨RX10, "readSign", "(C)Z"⟩
abbrev cX10_readNumber : ByteArray := prog_12_method_8_code
def yX10_readNumber : MethodName := ⟨RX10, "readNumber", "()I"⟩
abbrev cX10_readWord : ByteArray := prog_12_method_9_code
def yX10_readWord : MethodName := ⟨RX10, "readWord", "(Ljava/lang/String;)I"⟩
abbrev cX10_byteAt : ByteArray := prog_12_method_10_code
def yX10_byteAt : MethodName := ⟨RX10, "byteAt", "(I)I"⟩
def RX11 : String := "RubbleCity"
def TX11 : u_T := fun k => match k with
  | 0 => ("RubbleCity", "city", "LRubbleCity$City;", true)
  | 1 => ("RubbleCity", "now", "LRubbleCity$State;", true)
  | 2 => ("RubbleCity", "aside", "LRubbleCity$State;", true)
  | 3 => ("RubbleCity", "imaged", "LRubbleCity$State;", true)
  | 4 => ("RubbleCity", "hasImage", "Z", false)
  | 5 => ("RubbleCity", "tape", "LRubbleCity$Tape;", true)
  | 6 => ("RubbleCity", "orders", "[LRubbleCity$Order;", true)
  | 7 => ("RubbleCity", "orderCount", "I", false)
  | 8 => ("RubbleCity", "rule", "I", false)
  | 9 => ("RubbleCity", "pulling", "LRubbleCity$Pulls;", true)
  | 10 => ("RubbleCity", "rooms", "LRubbleCity$Rooms;", true)
  | 11 => ("RubbleCity", "raids", "LRubbleCity$Raids;", true)
  | 12 => ("RubbleCity", "papers", "LRubbleCity$Papers;", true)
  | _ => ("RubbleCity", "sheets", "[LRubbleCity$Sheet;", true)
def tyX11 : Nat → FieldType := fun k => match k with
  | 0 => .object "RubbleCity$City"
  | 1 => .object "RubbleCity$State"
  | 2 => .object "RubbleCity$State"
  | 3 => .object "RubbleCity$State"
  | 4 => .boolean
  | 5 => .object "RubbleCity$Tape"
  | 6 => .array (.object "RubbleCity$Order")
  | 7 => .int
  | 8 => .int
  | 9 => .object "RubbleCity$Pulls"
  | 10 => .object "RubbleCity$Rooms"
  | 11 => .object "RubbleCity$Raids"
  | 12 => .object "RubbleCity$Papers"
  | _ => .array (.object "RubbleCity$Sheet")
abbrev wsX110 : List Cond := u_ws RX11 TX11 14
theorem nmX11 : ∀ a, a < 14 → ∀ b, b < 14 → a ≠ b → (TX11 a).2.1 ≠ (TX11 b).2.1 := by decide +kernel
theorem tyX11_ok : ∀ k, k < 14 → parseFieldDescriptor (TX11 k).2.2.1 = some (tyX11 k) := by decide +kernel
abbrev cX11_init : ByteArray := prog_1_method_1_code
def yX11_init : MethodName := ⟨RX11, "<init>", "()V"⟩
abbrev cX11_ruin : ByteArray := prog_1_method_2_code
def yX11_ruin : MethodName := ⟨RX11, "ruin", "(III)I"⟩
abbrev cX11_person : ByteArray := prog_1_method_3_code
def yX11_person : MethodName := ⟨RX11, "person", "(IIII)I"⟩
abbrev cX11_moves : ByteArray := prog_1_method_4_code
def yX11_moves : MethodName := ⟨RX11, "moves", "(II)I"⟩
abbrev cX11_wall : ByteArray := prog_1_method_5_code
def yX11_wall : MethodName := ⟨RX11, "wall", "(III)I"⟩
abbrev cX11_weather : ByteArray := prog_1_method_6_code
def yX11_weather : MethodName := ⟨RX11, "weather", "(II)I"⟩
abbrev cX11_tip : ByteArray := prog_1_method_7_code
def yX11_tip : MethodName := ⟨RX11, "tip", "(I)I"⟩
abbrev cX11_row : ByteArray := prog_1_method_8_code
def yX11_row : MethodName := ⟨RX11, "row", "(IIII)I"⟩
abbrev cX11_refusalOfHands : ByteArray := prog_1_method_9_code
def yX11_refusalOfHands : MethodName := ⟨RX11, "refusalOfHands", "(ILRubbleCity$Sheet;)I"⟩
abbrev cX11_rail : ByteArray := prog_1_method_10_code
def yX11_rail : MethodName := ⟨RX11, "rail", "(III)I"⟩
abbrev cX11_isWay : ByteArray := prog_1_method_11_code
def yX11_isWay : MethodName := ⟨RX11, "isWay", "(LRubbleCity$Sheet;)Z"⟩
abbrev cX11_room : ByteArray := prog_1_method_12_code
def yX11_room : MethodName := ⟨RX11, "room", "(IIII)I"⟩
abbrev cX11_feed : ByteArray := prog_1_method_13_code
def yX11_feed : MethodName := ⟨RX11, "feed", "(JI)I"⟩
abbrev cX11_order : ByteArray := prog_1_method_14_code
def yX11_order : MethodName := ⟨RX11, "order", "()I"⟩
abbrev cX11_force : ByteArray := prog_1_method_15_code
def yX11_force : MethodName := ⟨RX11, "force", "(I)I"⟩
abbrev cX11_says : ByteArray := prog_1_method_16_code
def yX11_says : MethodName := ⟨RX11, "says", "(II)I"⟩
abbrev cX11_run : ByteArray := prog_1_method_17_code
def yX11_run : MethodName := ⟨RX11, "run", "(I)I"⟩
abbrev cX11_cellTold : ByteArray := prog_1_method_18_code
def yX11_cellTold : MethodName := ⟨RX11, "cellTold", "(II)I"⟩
abbrev cX11_kindTold : ByteArray := prog_1_method_19_code
def yX11_kindTold : MethodName := ⟨RX11, "kindTold", "(II)I"⟩
abbrev cX11_personTold : ByteArray := prog_1_method_20_code
def yX11_personTold : MethodName := ⟨RX11, "personTold", "(II)I"⟩
abbrev cX11_rowTold : ByteArray := prog_1_method_21_code
def yX11_rowTold : MethodName := ⟨RX11, "rowTold", "(II)I"⟩
abbrev cX11_railTold : ByteArray := prog_1_method_22_code
def yX11_railTold : MethodName := ⟨RX11, "railTold", "(II)I"⟩
abbrev cX11_wallTold : ByteArray := prog_1_method_23_code
def yX11_wallTold : MethodName := ⟨RX11, "wallTold", "(II)I"⟩
abbrev cX11_count : ByteArray := prog_1_method_24_code
def yX11_count : MethodName := ⟨RX11, "count", "(I)I"⟩
abbrev cX11_pull : ByteArray := prog_1_method_25_code
def yX11_pull : MethodName := ⟨RX11, "pull", "(I)I"⟩
abbrev cX11_pulls : ByteArray := prog_1_method_26_code
def yX11_pulls : MethodName := ⟨RX11, "pulls", "(I)I"⟩
abbrev cX11_areWallsToPull : ByteArray := prog_1_method_27_code
def yX11_areWallsToPull : MethodName := ⟨RX11, "areWallsToPull", "(LRubbleCity$Sheet;)Z"⟩
abbrev cX11_pullTold : ByteArray := prog_1_method_28_code
def yX11_pullTold : MethodName := ⟨RX11, "pullTold", "(I)I"⟩
abbrev cX11_mends : ByteArray := prog_1_method_29_code
def yX11_mends : MethodName := ⟨RX11, "mends", "(I)I"⟩
abbrev cX11_mendTold : ByteArray := prog_1_method_30_code
def yX11_mendTold : MethodName := ⟨RX11, "mendTold", "()I"⟩
abbrev cX11_mend : ByteArray := prog_1_method_31_code
def yX11_mend : MethodName := ⟨RX11, "mend", "(I)I"⟩
abbrev cX11_roomTold : ByteArray := prog_1_method_32_code
def yX11_roomTold : MethodName := ⟨RX11, "roomTold", "(II)I"⟩
abbrev cX11_raid : ByteArray := prog_1_method_33_code
def yX11_raid : MethodName := ⟨RX11, "raid", "(IIII)I"⟩
abbrev cX11_probe : ByteArray := prog_1_method_34_code
def yX11_probe : MethodName := ⟨RX11, "probe", "(II)I"⟩
abbrev cX11_likely : ByteArray := prog_1_method_35_code
def yX11_likely : MethodName := ⟨RX11, "likely", "(II)J"⟩
abbrev cX11_next : ByteArray := prog_1_method_36_code
def yX11_next : MethodName := ⟨RX11, "next", "()I"⟩
abbrev cX11_paper : ByteArray := prog_1_method_37_code
def yX11_paper : MethodName := ⟨RX11, "paper", "(III)I"⟩
abbrev cX11_burn : ByteArray := prog_1_method_38_code
def yX11_burn : MethodName := ⟨RX11, "burn", "(I)I"⟩
abbrev cX11_owner : ByteArray := prog_1_method_39_code
def yX11_owner : MethodName := ⟨RX11, "owner", "(III)I"⟩
abbrev cX11_heirs : ByteArray := prog_1_method_40_code
def yX11_heirs : MethodName := ⟨RX11, "heirs", "(III)I"⟩
abbrev cX11_beside : ByteArray := prog_1_method_41_code
def yX11_beside : MethodName := ⟨RX11, "beside", "(II)J"⟩
abbrev cX11_clear : ByteArray := prog_1_method_42_code
def yX11_clear : MethodName := ⟨RX11, "clear", "(II)I"⟩
abbrev cX11_image : ByteArray := prog_1_method_43_code
def yX11_image : MethodName := ⟨RX11, "image", "()I"⟩
abbrev cX11_back : ByteArray := prog_1_method_44_code
def yX11_back : MethodName := ⟨RX11, "back", "()I"⟩
abbrev cX11_sheet : ByteArray := prog_1_method_45_code
def yX11_sheet : MethodName := ⟨RX11, "sheet", "(III)I"⟩
abbrev cX11_cell : ByteArray := prog_1_method_46_code
def yX11_cell : MethodName := ⟨RX11, "cell", "(III)I"⟩
abbrev cX11_copy : ByteArray := prog_1_method_47_code
def yX11_copy : MethodName := ⟨RX11, "copy", "(IIIII)I"⟩
abbrev cX11_people : ByteArray := prog_1_method_48_code
def yX11_people : MethodName := ⟨RX11, "people", "(IIII)I"⟩
abbrev cX11_personFrom : ByteArray := prog_1_method_49_code
def yX11_personFrom : MethodName := ⟨RX11, "personFrom", "(LRubbleCity$Sheet;I)I"⟩
abbrev cX11_taken : ByteArray := prog_1_method_50_code
def yX11_taken : MethodName := ⟨RX11, "taken", "(II)I"⟩
abbrev cX11_within : ByteArray := prog_1_method_51_code
def yX11_within : MethodName := ⟨RX11, "within", "(II)Z"⟩
abbrev cX11_between : ByteArray := prog_1_method_52_code
def yX11_between : MethodName := ⟨RX11, "between", "(III)Z"⟩
abbrev cX11_cellOnSide : ByteArray := prog_1_method_53_code
def yX11_cellOnSide : MethodName := ⟨RX11, "cellOnSide", "(II)I"⟩
abbrev cX11_areBeside : ByteArray := prog_1_method_54_code
def yX11_areBeside : MethodName := ⟨RX11, "areBeside", "(II)Z"⟩
abbrev cX11_isOfKind : ByteArray := prog_1_method_55_code
def yX11_isOfKind : MethodName := ⟨RX11, "isOfKind", "(II)Z"⟩
abbrev cX11_greatestDivisor : ByteArray := prog_1_method_56_code
def yX11_greatestDivisor : MethodName := ⟨RX11, "greatestDivisor", "(II)I"⟩
def RX12 : String := "RubbleCityModel"
def TX12 : u_T := fun k => match k with
  | 0 => ("RubbleCityModel", "p", "[I", true)
  | 1 => ("RubbleCityModel", "kept", "[I", true)
  | 2 => ("RubbleCityModel", "imaged", "[I", true)
  | 3 => ("RubbleCityModel", "hasImage", "Z", false)
  | 4 => ("RubbleCityModel", "ruinKind", "[I", true)
  | 5 => ("RubbleCityModel", "kindBricks", "[I", true)
  | 6 => ("RubbleCityModel", "kindBeams", "[I", true)
  | 7 => ("RubbleCityModel", "kindIron", "[I", true)
  | 8 => ("RubbleCityModel", "kindWeak", "[I", true)
  | 9 => ("RubbleCityModel", "tip", "I", false)
  | 10 => ("RubbleCityModel", "people", "I", false)
  | 11 => ("RubbleCityModel", "strong", "[I", true)
  | 12 => ("RubbleCityModel", "age", "[I", true)
  | 13 => ("RubbleCityModel", "kin", "[I", true)
  | 14 => ("RubbleCityModel", "hands", "[I", true)
  | 15 => ("RubbleCityModel", "handMany", "[I", true)
  | 16 => ("RubbleCityModel", "rowFrom", "[I", true)
  | 17 => ("RubbleCityModel", "rowTo", "[I", true)
  | 18 => ("RubbleCityModel", "way", "[I", true)
  | 19 => ("RubbleCityModel", "wayMany", "[I", true)
  | 20 => ("RubbleCityModel", "cars", "[I", true)
  | 21 => ("RubbleCityModel", "walls", "I", false)
  | 22 => ("RubbleCityModel", "wallCell", "[I", true)
  | 23 => ("RubbleCityModel", "wallTo", "[I", true)
  | 24 => ("RubbleCityModel", "rooms", "I", false)
  | 25 => ("RubbleCityModel", "roomCell", "[I", true)
  | 26 => ("RubbleCityModel", "roomBricks", "[I", true)
  | 27 => ("RubbleCityModel", "roomBeams", "[I", true)
  | 28 => ("RubbleCityModel", "roomWorth", "[I", true)
  | 29 => ("RubbleCityModel", "raids", "I", false)
  | 30 => ("RubbleCityModel", "raidFrom", "[I", true)
  | 31 => ("RubbleCityModel", "raidSide", "[I", true)
  | 32 => ("RubbleCityModel", "raidLong", "[I", true)
  | 33 => ("RubbleCityModel", "shells", "[I", true)
  | 34 => ("RubbleCityModel", "isProbed", "[Z", true)
  | 35 => ("RubbleCityModel", "papers", "I", false)
  | 36 => ("RubbleCityModel", "paperLot", "[I", true)
  | 37 => ("RubbleCityModel", "paperOwner", "[I", true)
  | 38 => ("RubbleCityModel", "paperFrom", "[I", true)
  | 39 => ("RubbleCityModel", "paperTold", "[I", true)
  | 40 => ("RubbleCityModel", "burnt", "[I", true)
  | 41 => ("RubbleCityModel", "pullMany", "I", false)
  | 42 => ("RubbleCityModel", "pullOrder", "[I", true)
  | 43 => ("RubbleCityModel", "mendSet", "I", false)
  | 44 => ("RubbleCityModel", "tape", "[I", true)
  | 45 => ("RubbleCityModel", "taped", "I", false)
  | 46 => ("RubbleCityModel", "orders", "I", false)
  | 47 => ("RubbleCityModel", "rule", "I", false)
  | 48 => ("RubbleCityModel", "lineMany", "[I", true)
  | 49 => ("RubbleCityModel", "lineKey", "[I", true)
  | 50 => ("RubbleCityModel", "lineNumber", "[I", true)
  | 51 => ("RubbleCityModel", "testMany", "[I", true)
  | 52 => ("RubbleCityModel", "testField", "[I", true)
  | 53 => ("RubbleCityModel", "testSign", "[I", true)
  | 54 => ("RubbleCityModel", "testNumber", "[I", true)
  | 55 => ("RubbleCityModel", "sheetSort", "[I", true)
  | 56 => ("RubbleCityModel", "sheetSize", "[I", true)
  | 57 => ("RubbleCityModel", "cells", "[I", true)
  | 58 => ("RubbleCityModel", "words", "[J", true)
  | 59 => ("RubbleCityModel", "sizes", "[I", true)
  | 60 => ("RubbleCityModel", "at", "I", false)
  | 61 => ("RubbleCityModel", "died", "I", false)
  | 62 => ("RubbleCityModel", "hurt", "I", false)
  | 63 => ("RubbleCityModel", "keptUp", "[I", true)
  | 64 => ("RubbleCityModel", "keptStands", "[I", true)
  | _ => ("RubbleCityModel", "tried", "[I", true)
def tyX12 : Nat → FieldType := fun k => match k with
  | 0 => .array .int
  | 1 => .array .int
  | 2 => .array .int
  | 3 => .boolean
  | 4 => .array .int
  | 5 => .array .int
  | 6 => .array .int
  | 7 => .array .int
  | 8 => .array .int
  | 9 => .int
  | 10 => .int
  | 11 => .array .int
  | 12 => .array .int
  | 13 => .array .int
  | 14 => .array .int
  | 15 => .array .int
  | 16 => .array .int
  | 17 => .array .int
  | 18 => .array .int
  | 19 => .array .int
  | 20 => .array .int
  | 21 => .int
  | 22 => .array .int
  | 23 => .array .int
  | 24 => .int
  | 25 => .array .int
  | 26 => .array .int
  | 27 => .array .int
  | 28 => .array .int
  | 29 => .int
  | 30 => .array .int
  | 31 => .array .int
  | 32 => .array .int
  | 33 => .array .int
  | 34 => .array .boolean
  | 35 => .int
  | 36 => .array .int
  | 37 => .array .int
  | 38 => .array .int
  | 39 => .array .int
  | 40 => .array .int
  | 41 => .int
  | 42 => .array .int
  | 43 => .int
  | 44 => .array .int
  | 45 => .int
  | 46 => .int
  | 47 => .int
  | 48 => .array .int
  | 49 => .array .int
  | 50 => .array .int
  | 51 => .array .int
  | 52 => .array .int
  | 53 => .array .int
  | 54 => .array .int
  | 55 => .array .int
  | 56 => .array .int
  | 57 => .array .int
  | 58 => .array .long
  | 59 => .array .int
  | 60 => .int
  | 61 => .int
  | 62 => .int
  | 63 => .array .int
  | 64 => .array .int
  | _ => .array .int
abbrev wsX120 : List Cond := u_ws RX12 TX12 66
theorem nmX12 : ∀ a, a < 66 → ∀ b, b < 66 → a ≠ b → (TX12 a).2.1 ≠ (TX12 b).2.1 := by decide +kernel
theorem tyX12_ok : ∀ k, k < 66 → parseFieldDescriptor (TX12 k).2.2.1 = some (tyX12 k) := by decide +kernel
abbrev cX12_init : ByteArray := prog_14_method_1_code
def yX12_init : MethodName := ⟨RX12, "<init>", "()V"⟩
abbrev cX12_in : ByteArray := prog_14_method_3_code
def yX12_in : MethodName := ⟨RX12, "in", "(III)Z"⟩
abbrev cX12_isCell : ByteArray := prog_14_method_4_code
def yX12_isCell : MethodName := ⟨RX12, "isCell", "(I)Z"⟩
abbrev cX12_isPerson : ByteArray := prog_14_method_5_code
def yX12_isPerson : MethodName := ⟨RX12, "isPerson", "(I)Z"⟩
abbrev cX12_nextTo : ByteArray := prog_14_method_6_code
def yX12_nextTo : MethodName := ⟨RX12, "nextTo", "(II)I"⟩
abbrev cX12_areBeside : ByteArray := prog_14_method_7_code
def yX12_areBeside : MethodName := ⟨RX12, "areBeside", "(II)Z"⟩
abbrev cX12_weakOf : ByteArray := prog_14_method_8_code
def yX12_weakOf : MethodName := ⟨RX12, "weakOf", "(I)I"⟩
abbrev cX12_ruin : ByteArray := prog_14_method_9_code
def yX12_ruin : MethodName := ⟨RX12, "ruin", "(III)I"⟩
abbrev cX12_person : ByteArray := prog_14_method_10_code
def yX12_person : MethodName := ⟨RX12, "person", "(IIII)I"⟩
abbrev cX12_moves : ByteArray := prog_14_method_11_code
def yX12_moves : MethodName := ⟨RX12, "moves", "(II)I"⟩
abbrev cX12_wall : ByteArray := prog_14_method_12_code
def yX12_wall : MethodName := ⟨RX12, "wall", "(III)I"⟩
abbrev cX12_weather : ByteArray := prog_14_method_13_code
def yX12_weather : MethodName := ⟨RX12, "weather", "(II)I"⟩
abbrev cX12_tip : ByteArray := prog_14_method_14_code
def yX12_tip : MethodName := ⟨RX12, "tip", "(I)I"⟩
abbrev cX12_isInOther : ByteArray := prog_14_method_15_code
def yX12_isInOther : MethodName := ⟨RX12, "isInOther", "(II)Z"⟩
abbrev cX12_barred : ByteArray := prog_14_method_16_code
def yX12_barred : MethodName := ⟨RX12, "barred", "(II)I"⟩
abbrev cX12_row : ByteArray := prog_14_method_17_code
def yX12_row : MethodName := ⟨RX12, "row", "(IIII)I"⟩
abbrev cX12_rail : ByteArray := prog_14_method_18_code
def yX12_rail : MethodName := ⟨RX12, "rail", "(III)I"⟩
abbrev cX12_room : ByteArray := prog_14_method_19_code
def yX12_room : MethodName := ⟨RX12, "room", "(IIII)I"⟩
abbrev cX12_feed : ByteArray := prog_14_method_20_code
def yX12_feed : MethodName := ⟨RX12, "feed", "(JI)I"⟩
abbrev cX12_byteHere : ByteArray := prog_14_method_21_code
def yX12_byteHere : MethodName := ⟨RX12, "byteHere", "()I"⟩
abbrev cX12_wordOf : ByteArray := prog_14_method_22_code
def yX12_wordOf : MethodName := ⟨RX12, "wordOf", "(II)I"⟩
abbrev cX12_number : ByteArray := prog_14_method_23_code
def yX12_number : MethodName := ⟨RX12, "number", "()I"⟩
abbrev cX12_test : ByteArray := prog_14_method_24_code
def yX12_test : MethodName := ⟨RX12, "test", "(I)Z"⟩
abbrev cX12_line : ByteArray := prog_14_method_25_code
def yX12_line : MethodName := ⟨RX12, "line", "(I)Z"⟩
abbrev cX12_order : ByteArray := prog_14_method_26_code
def yX12_order : MethodName := ⟨RX12, "order", "()I"⟩
abbrev cX12_force : ByteArray := prog_14_method_27_code
def yX12_force : MethodName := ⟨RX12, "force", "(I)I"⟩
abbrev cX12_fieldOf : ByteArray := prog_14_method_28_code
def yX12_fieldOf : MethodName := ⟨RX12, "fieldOf", "(II)I"⟩
abbrev cX12_holds : ByteArray := prog_14_method_29_code
def yX12_holds : MethodName := ⟨RX12, "holds", "(II)Z"⟩
abbrev cX12_saysOf : ByteArray := prog_14_method_30_code
def yX12_saysOf : MethodName := ⟨RX12, "saysOf", "(II)I"⟩
abbrev cX12_says : ByteArray := prog_14_method_31_code
def yX12_says : MethodName := ⟨RX12, "says", "(II)I"⟩
abbrev cX12_worksOf : ByteArray := prog_14_method_32_code
def yX12_worksOf : MethodName := ⟨RX12, "worksOf", "(I)I"⟩
abbrev cX12_passes : ByteArray := prog_14_method_33_code
def yX12_passes : MethodName := ⟨RX12, "passes", "(I)I"⟩
abbrev cX12_comes : ByteArray := prog_14_method_34_code
def yX12_comes : MethodName := ⟨RX12, "comes", "(II)V"⟩
abbrev cX12_goesRow : ByteArray := prog_14_method_35_code
def yX12_goesRow : MethodName := ⟨RX12, "goesRow", "(I)V"⟩
abbrev cX12_goesRail : ByteArray := prog_14_method_36_code
def yX12_goesRail : MethodName := ⟨RX12, "goesRail", "(I)V"⟩
abbrev cX12_isAt : ByteArray := prog_14_method_37_code
def yX12_isAt : MethodName := ⟨RX12, "isAt", "(I)I"⟩
abbrev cX12_falls : ByteArray := prog_14_method_38_code
def yX12_falls : MethodName := ⟨RX12, "falls", "(I)V"⟩
abbrev cX12_wears : ByteArray := prog_14_method_39_code
def yX12_wears : MethodName := ⟨RX12, "wears", "(I)Z"⟩
abbrev cX12_goes : ByteArray := prog_14_method_40_code
def yX12_goes : MethodName := ⟨RX12, "goes", "()V"⟩
abbrev cX12_run : ByteArray := prog_14_method_41_code
def yX12_run : MethodName := ⟨RX12, "run", "(I)I"⟩
abbrev cX12_cellTold : ByteArray := prog_14_method_42_code
def yX12_cellTold : MethodName := ⟨RX12, "cellTold", "(II)I"⟩
abbrev cX12_kindTold : ByteArray := prog_14_method_43_code
def yX12_kindTold : MethodName := ⟨RX12, "kindTold", "(II)I"⟩
abbrev cX12_personTold : ByteArray := prog_14_method_44_code
def yX12_personTold : MethodName := ⟨RX12, "personTold", "(II)I"⟩
abbrev cX12_rowTold : ByteArray := prog_14_method_45_code
def yX12_rowTold : MethodName := ⟨RX12, "rowTold", "(II)I"⟩
abbrev cX12_railTold : ByteArray := prog_14_method_46_code
def yX12_railTold : MethodName := ⟨RX12, "railTold", "(II)I"⟩
abbrev cX12_isWall : ByteArray := prog_14_method_47_code
def yX12_isWall : MethodName := ⟨RX12, "isWall", "(I)Z"⟩
abbrev cX12_wallTold : ByteArray := prog_14_method_48_code
def yX12_wallTold : MethodName := ⟨RX12, "wallTold", "(II)I"⟩
abbrev cX12_sum : ByteArray := prog_14_method_49_code
def yX12_sum : MethodName := ⟨RX12, "sum", "(II)I"⟩
abbrev cX12_count : ByteArray := prog_14_method_50_code
def yX12_count : MethodName := ⟨RX12, "count", "(I)I"⟩
abbrev cX12_pull : ByteArray := prog_14_method_51_code
def yX12_pull : MethodName := ⟨RX12, "pull", "(I)I"⟩
abbrev cX12_late : ByteArray := prog_14_method_52_code
def yX12_late : MethodName := ⟨RX12, "late", "(II)I"⟩
abbrev cX12_nextOrder : ByteArray := prog_14_method_53_code
def yX12_nextOrder : MethodName := ⟨RX12, "nextOrder", "(I)Z"⟩
abbrev cX12_pulls : ByteArray := prog_14_method_54_code
def yX12_pulls : MethodName := ⟨RX12, "pulls", "(I)I"⟩
abbrev cX12_pullTold : ByteArray := prog_14_method_55_code
def yX12_pullTold : MethodName := ⟨RX12, "pullTold", "(I)I"⟩
abbrev cX12_mends : ByteArray := prog_14_method_56_code
def yX12_mends : MethodName := ⟨RX12, "mends", "(I)I"⟩
abbrev cX12_mendTold : ByteArray := prog_14_method_57_code
def yX12_mendTold : MethodName := ⟨RX12, "mendTold", "()I"⟩
abbrev cX12_isRoom : ByteArray := prog_14_method_58_code
def yX12_isRoom : MethodName := ⟨RX12, "isRoom", "(I)Z"⟩
abbrev cX12_mend : ByteArray := prog_14_method_59_code
def yX12_mend : MethodName := ⟨RX12, "mend", "(I)I"⟩
abbrev cX12_roomTold : ByteArray := prog_14_method_60_code
def yX12_roomTold : MethodName := ⟨RX12, "roomTold", "(II)I"⟩
abbrev cX12_raid : ByteArray := prog_14_method_61_code
def yX12_raid : MethodName := ⟨RX12, "raid", "(IIII)I"⟩
abbrev cX12_isOver : ByteArray := prog_14_method_62_code
def yX12_isOver : MethodName := ⟨RX12, "isOver", "(II)Z"⟩
abbrev cX12_leftOver : ByteArray := prog_14_method_63_code
def yX12_leftOver : MethodName := ⟨RX12, "leftOver", "(I)I"⟩
abbrev cX12_probe : ByteArray := prog_14_method_64_code
def yX12_probe : MethodName := ⟨RX12, "probe", "(II)I"⟩
abbrev cX12_likelyIn : ByteArray := prog_14_method_65_code
def yX12_likelyIn : MethodName := ⟨RX12, "likelyIn", "(I)I"⟩
abbrev cX12_likely : ByteArray := prog_14_method_66_code
def yX12_likely : MethodName := ⟨RX12, "likely", "(II)J"⟩
abbrev cX12_next : ByteArray := prog_14_method_67_code
def yX12_next : MethodName := ⟨RX12, "next", "()I"⟩
abbrev cX12_paper : ByteArray := prog_14_method_68_code
def yX12_paper : MethodName := ⟨RX12, "paper", "(III)I"⟩
abbrev cX12_burn : ByteArray := prog_14_method_69_code
def yX12_burn : MethodName := ⟨RX12, "burn", "(I)I"⟩
abbrev cX12_owner : ByteArray := prog_14_method_70_code
def yX12_owner : MethodName := ⟨RX12, "owner", "(III)I"⟩
abbrev cX12_heirs : ByteArray := prog_14_method_71_code
def yX12_heirs : MethodName := ⟨RX12, "heirs", "(III)I"⟩
abbrev cX12_lays : ByteArray := prog_14_method_72_code
def yX12_lays : MethodName := ⟨RX12, "lays", "(Z)V"⟩
abbrev cX12_beside : ByteArray := prog_14_method_73_code
def yX12_beside : MethodName := ⟨RX12, "beside", "(II)J"⟩
abbrev cX12_clear : ByteArray := prog_14_method_74_code
def yX12_clear : MethodName := ⟨RX12, "clear", "(II)I"⟩
abbrev cX12_image : ByteArray := prog_14_method_75_code
def yX12_image : MethodName := ⟨RX12, "image", "()I"⟩
abbrev cX12_back : ByteArray := prog_14_method_76_code
def yX12_back : MethodName := ⟨RX12, "back", "()I"⟩
abbrev cX12_sheet : ByteArray := prog_14_method_77_code
def yX12_sheet : MethodName := ⟨RX12, "sheet", "(III)I"⟩
abbrev cX12_cell : ByteArray := prog_14_method_78_code
def yX12_cell : MethodName := ⟨RX12, "cell", "(III)I"⟩
abbrev cX12_copy : ByteArray := prog_14_method_79_code
def yX12_copy : MethodName := ⟨RX12, "copy", "(IIIII)I"⟩
abbrev cX12_people : ByteArray := prog_14_method_80_code
def yX12_people : MethodName := ⟨RX12, "people", "(IIII)I"⟩
abbrev cX12_isUnder : ByteArray := prog_14_method_81_code
def yX12_isUnder : MethodName := ⟨RX12, "isUnder", "(II)Z"⟩
abbrev cX12_taken : ByteArray := prog_14_method_82_code
def yX12_taken : MethodName := ⟨RX12, "taken", "(II)I"⟩
def RJ9 : String := "java/lang/Math"
abbrev cJ9_max_7cf53 : ByteArray := prog_15_method_65_code
def yJ9_max_7cf53 : MethodName := ⟨RJ9, "max", "(II)I"⟩
abbrev cJ9_min_7cf53 : ByteArray := prog_15_method_69_code
def yJ9_min_7cf53 : MethodName := ⟨RJ9, "min", "(II)I"⟩
def RJ0 : String := "java/lang/String"
abbrev cJ0_length_8abf5 : ByteArray := prog_16_method_54_code
def yJ0_length_8abf5 : MethodName := ⟨RJ0, "length", "()I"⟩
abbrev cJ0_charAt_5068e : ByteArray := prog_16_method_56_code
def yJ0_charAt_5068e : MethodName := ⟨RJ0, "charAt", "(I)C"⟩
abbrev cJ0_coder_7d493 : ByteArray := prog_16_method_152_code
def yJ0_coder_7d493 : MethodName := ⟨RJ0, "coder", "()B"⟩
abbrev cJ0_isLatin1_aae02 : ByteArray := prog_16_method_154_code
def yJ0_isLatin1_aae02 : MethodName := ⟨RJ0, "isLatin1", "()Z"⟩
abbrev cJ0_checkIndex_df160 : ByteArray := prog_16_method_155_code
def yJ0_checkIndex_df160 : MethodName := ⟨RJ0, "checkIndex", "(II)V"⟩
def RJ1 : String := "java/lang/StringLatin1"
abbrev cJ1_charAt_3b067 : ByteArray := prog_17_method_2_code
def yJ1_charAt_3b067 : MethodName := ⟨RJ1, "charAt", "([BI)C"⟩
def RJ2 : String := "java/lang/StringUTF16"
abbrev cJ2_getChar_3b067 : ByteArray := prog_18_method_5_code
def yJ2_getChar_3b067 : MethodName := ⟨RJ2, "getChar", "([BI)C"⟩
abbrev cJ2_length_9d52b : ByteArray := prog_18_method_6_code
def yJ2_length_9d52b : MethodName := ⟨RJ2, "length", "([B)I"⟩
abbrev cJ2_charAt_3b067 : ByteArray := prog_18_method_83_code
def yJ2_charAt_3b067 : MethodName := ⟨RJ2, "charAt", "([BI)C"⟩
abbrev cJ2_checkIndex_2214a : ByteArray := prog_18_method_91_code
def yJ2_checkIndex_2214a : MethodName := ⟨RJ2, "checkIndex", "(I[B)V"⟩
def RJ10 : String := "java/lang/System"
def RJ7 : String := "java/util/Arrays"
abbrev cJ7_fill_53178 : ByteArray := prog_20_method_103_code
def yJ7_fill_53178 : MethodName := ⟨RJ7, "fill", "([II)V"⟩
def RJ3 : String := "jdk/internal/util/Preconditions"
abbrev cJ3_checkIndex_8e157 : ByteArray := prog_21_method_11_code
def yJ3_checkIndex_8e157 : MethodName := ⟨RJ3, "checkIndex", "(IILjava/util/function/BiFunction;)I"⟩
def RL : String := "RubbleCityLaw"
abbrev cL_law : ByteArray := code
def yL_law : MethodName := ⟨RL, "law", "([I)Z"⟩

abbrev vwCl : List vw_C := [(RX0, TX0, 14), (RX1, TX1, 7), (RX2, TX2, 6), (RX3, TX3, 4), (RX4, TX4, 6), (RX5, TX5, 4), (RX6, TX6, 9), (RX7, TX7, 4), (RX8, TX8, 3), (RX9, TX9, 18), (RX10, TX10, 3), (RX11, TX11, 14), (RX12, TX12, 66)]
theorem vr_outer (c : ClassId) (N h0 : Nat) : ∀ i : Nat, Jvm.Free.Multi.outerC c N h0 i = arrV c N (fun j => va_rf (if j < i then some (h0 + 1 + j) else none))
  | 0 => by
    show ({ cls := c, slots := Array.replicate N .null, vm := .none } : Cell) = _
    rw [arrV_new]
    refine congrArg (arrV c N) (funext fun j => ?_)
    simp [va_rf]
  | i + 1 => by
    show (Jvm.Free.Multi.outerC c N h0 i).setSlot i (.ref (h0 + 1 + i)) = _
    rw [vr_outer c N h0 i, arrV_store]
    refine congrArg (arrV c N) (funext fun j => ?_)
    by_cases e : j = i
    · subst e
      simp [updV, va_rf]
    · by_cases h : j < i
      · simp [updV, e, h, Nat.lt_succ_of_lt h]
      · simp [updV, e, h, show ¬ j < i + 1 by omega]
